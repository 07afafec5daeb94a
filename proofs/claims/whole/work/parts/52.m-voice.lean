def VX (G : Gl) (S : Sh) (μ : Mu) (o Kd : Nat) (sp kn : Int32) (f : Nat) : Prop := ∀ (k a : Nat) (x : Int32) (s : Tr) (D : Nat) (K : Int32 → Sh → Mu → Prop), k < 7 → a < 4 → s.1 ≤ 40 → trm Kd f k a = true → 3 * f + 3 ≤ D → K (vo Kd sp kn f k a x s).1 S (VM μ o (vo Kd sp kn f k a x s).2) → X G mi_X10_bodyFrom D 0 0 [(0, .ref o), (1, .int (nI k)), (2, .int (nI a)), (3, .int x)] [] S (VM μ o s) (qi K)
set_option maxHeartbeats 1000000 in
theorem voi {G : Gl} {S : Sh} {μ : Mu} {o Kd rn : Nat} {q : Nat → Nat} {sp kn : Int32} {f : Nat} (hM : MS S o q) (hsp : μ o 23 = sp) (hrn : sp = nI rn) (hr6 : rn < 6) (hkd : μ (o + 1) (80 + 9 * rn) = nI Kd) (hK7 : Kd < 7) (hkn : μ (o + 1) (82 + 9 * rn) = kn) (ih : VX G S μ o Kd sp kn f) (a : Nat) (x : Int32) (s : Tr) (D : Nat) (K : Int32 → Sh → Mu → Prop) (ha : a < 4) (hs : s.1 ≤ 40) (ht : trm Kd f Kd a = true) (hD : 3 * f + 4 ≤ D) (hK : K (vo Kd sp kn f Kd a x s).1 S (VM μ o (vo Kd sp kn f Kd a x s).2)) : X G mi_X10_voiced D 0 0 [(0, .ref o), (1, .int (nI a)), (2, .int x)] [] S (VM μ o s) (qi K) := by
  obtain ⟨D, rfl⟩ : ∃ D', D = D' + 1 := ⟨D - 1, by omega⟩
  refine X_aload_n (tk_X10_voiced.at 0 rfl) rfl ?_
  refine X_aload_n (tk_X10_voiced.at 1 rfl) rfl ?_
  refine X_aload_n (tk_X10_voiced.at 2 rfl) rfl ?_
  refine X_getI (tk_X10_voiced.at 3 rfl) fl_x10_311 hM.f0 rfl ?_
  refine X_iconst (tk_X10_voiced.at 4 rfl) ci_0 ?_
  refine X_cV2i (lv2 := [(0, _), (1, _), (2, _)]) (tk_X10_voiced.at 5 rfl) mv_X10_rope lk_x10_115 np_X10_rope hM.f0 (by decide) rfl (Nat.le_of_ble_eq_true rfl) (Nat.le_of_ble_eq_true rfl) rfl (c10_rope (k := 80 + 9 * rn) hM (show VM μ o s o 23 = nI rn by rw [VM23, hsp]; exact hrn) (pl 0 rfl) (by omega) (by omega) (by omega) ?_)
  rw [VM1, hkd]
  refine X_iload_n (tk_X10_voiced.at 6 rfl) rfl ?_
  refine X_iload_n (tk_X10_voiced.at 7 rfl) rfl ?_
  refine X_cV3i (lv2 := [(0, _), (1, _), (2, _), (3, _)]) (tk_X10_voiced.at 8 rfl) mv_X10_bodyFrom lk_x10_314 np_X10_bodyFrom hM.f0 (by decide) rfl (Nat.le_of_ble_eq_true rfl) (Nat.le_of_ble_eq_true rfl) rfl (ih Kd a x s _ _ hK7 ha hs ht (by omega) ?_)
  refine X_ireturn (tk_X10_voiced.at 9 rfl) rfl rfl ?_
  exact hK
set_option maxHeartbeats 1000000 in
theorem vbody {G : Gl} {S : Sh} {μ : Mu} {o Kd rn : Nat} {q : Nat → Nat} {sp kn : Int32} {f : Nat} (hM : MS S o q) (hsp : μ o 23 = sp) (hrn : sp = nI rn) (hr6 : rn < 6) (hkd : μ (o + 1) (80 + 9 * rn) = nI Kd) (hK7 : Kd < 7) (hkn : μ (o + 1) (82 + 9 * rn) = kn) (ih : VX G S μ o Kd sp kn f) (k a : Nat) (x : Int32) (s : Tr) (D : Nat) (K : Int32 → Sh → Mu → Prop) (hk : k < 7) (ha : a < 4) (hs : s.1 ≤ 40) (ht : trm Kd (f + 1) k a = true) (hD : 3 * f + 5 ≤ D) (hK : K (vo Kd sp kn (f + 1) k a x s).1 S (VM μ o (vo Kd sp kn (f + 1) k a x s).2)) : X G mi_X10_body D 0 0 [(0, .ref o), (1, .int (nI (bear k a))), (2, .int (nI a)), (3, .int x)] [] S (VM μ o s) (qi K) := by
  obtain ⟨D, rfl⟩ : ∃ D', D = D' + 1 := ⟨D - 1, by omega⟩
  have hbb := bear_ok k hk a ha
  have hns := own_n _ hbb.1 a ha hbb.2
  refine X_iconst (tk_X10_body.at 0 rfl) ci_4 ?_
  refine X_iload_n (tk_X10_body.at 1 rfl) rfl ?_
  refine X_imul (tk_X10_body.at 2 rfl) ?_
  refine X_iload_n (tk_X10_body.at 3 rfl) rfl ?_
  refine X_iadd (tk_X10_body.at 4 rfl) ?_
  rcases hns with en | en | en | en | en | en | en | en | en | en | en | en | en
  · refine X_tableInN (n := 0) (tgt := 124) (tk_X10_body.at 5 rfl) (pz (pa (pm (pl 4 rfl) (pl (bear k a) rfl)) (pl a rfl)) en) (by decide) (by decide) (by decide) rfl (by decide) ?_
    refine X_aload_n (tk_X10_body.at 6 rfl) rfl ?_
    refine X_bipush (tk_X10_body.at 7 rfl) cb_10 ?_
    refine X_cV1v (lv2 := [(0, _), (1, _)]) (tk_X10_body.at 8 rfl) mv_X10_began lk_x10_323 np_X10_began hM.f0 (by decide) rfl (Nat.le_of_ble_eq_true rfl) (Nat.le_of_ble_eq_true rfl) rfl (c10_began hM hs ?_)
    have hs1 := bg_le (b := 10) hs
    refine X_iload_n (tk_X10_body.at 9 rfl) rfl ?_
    refine X_aload_n (tk_X10_body.at 10 rfl) rfl ?_
    refine X_getI (tk_X10_body.at 11 rfl) fl_x10_311 hM.f0 rfl ?_
    rw [VM23, hsp]
    refine X_iadd (tk_X10_body.at 12 rfl) ?_
    refine X_ireturn (tk_X10_body.at 13 rfl) rfl rfl ?_
    rw [vo_0 en] at hK
    exact hK
  · refine X_tableInN (n := 1) (tgt := 137) (tk_X10_body.at 5 rfl) (pz (pa (pm (pl 4 rfl) (pl (bear k a) rfl)) (pl a rfl)) en) (by decide) (by decide) (by decide) rfl (by decide) ?_
    refine X_aload_n (tk_X10_body.at 14 rfl) rfl ?_
    refine X_bipush (tk_X10_body.at 15 rfl) cb_11 ?_
    refine X_cV1v (lv2 := [(0, _), (1, _)]) (tk_X10_body.at 16 rfl) mv_X10_began lk_x10_323 np_X10_began hM.f0 (by decide) rfl (Nat.le_of_ble_eq_true rfl) (Nat.le_of_ble_eq_true rfl) rfl (c10_began hM hs ?_)
    have hs1 := bg_le (b := 11) hs
    refine X_aload_n (tk_X10_body.at 17 rfl) rfl ?_
    refine X_iconst (tk_X10_body.at 18 rfl) ci_0 ?_
    refine X_iload_n (tk_X10_body.at 19 rfl) rfl ?_
    refine X_cV2i (lv2 := [(0, _), (1, _), (2, _)]) (tk_X10_body.at 20 rfl) mv_X10_voiced lk_x10_326 np_X10_voiced hM.f0 (by decide) rfl (Nat.le_of_ble_eq_true rfl) (Nat.le_of_ble_eq_true rfl) rfl (voi hM hsp hrn hr6 hkd hK7 hkn ih 0 x (bg s 11) _ _ (by decide) hs1 (trm_1 en ht) (by omega) ?_)
    refine X_iconst (tk_X10_body.at 21 rfl) ci_2 ?_
    refine X_imul (tk_X10_body.at 22 rfl) ?_
    refine X_ireturn (tk_X10_body.at 23 rfl) rfl rfl ?_
    rw [vo_1 en] at hK
    exact hK
  · refine X_tableInN (n := 2) (tgt := 152) (tk_X10_body.at 5 rfl) (pz (pa (pm (pl 4 rfl) (pl (bear k a) rfl)) (pl a rfl)) en) (by decide) (by decide) (by decide) rfl (by decide) ?_
    refine X_aload_n (tk_X10_body.at 24 rfl) rfl ?_
    refine X_bipush (tk_X10_body.at 25 rfl) cb_12 ?_
    refine X_cV1v (lv2 := [(0, _), (1, _)]) (tk_X10_body.at 26 rfl) mv_X10_began lk_x10_323 np_X10_began hM.f0 (by decide) rfl (Nat.le_of_ble_eq_true rfl) (Nat.le_of_ble_eq_true rfl) rfl (c10_began hM hs ?_)
    have hs1 := bg_le (b := 12) hs
    refine X_iload_n (tk_X10_body.at 27 rfl) rfl ?_
    refine X_aload_n (tk_X10_body.at 28 rfl) rfl ?_
    refine X_aload_n (tk_X10_body.at 29 rfl) rfl ?_
    refine X_getI (tk_X10_body.at 30 rfl) fl_x10_311 hM.f0 rfl ?_
    rw [VM23, hsp]
    refine X_iconst (tk_X10_body.at 31 rfl) ci_2 ?_
    refine X_cV2i (lv2 := [(0, _), (1, _), (2, _)]) (tk_X10_body.at 32 rfl) mv_X10_rope lk_x10_115 np_X10_rope hM.f0 (by decide) rfl (Nat.le_of_ble_eq_true rfl) (Nat.le_of_ble_eq_true rfl) rfl (c10_rope (k := 82 + 9 * rn) hM hrn (pl 2 rfl) (by omega) (by omega) (by omega) ?_)
    rw [VM1, hkn]
    refine X_isub (tk_X10_body.at 33 rfl) ?_
    refine X_ireturn (tk_X10_body.at 34 rfl) rfl rfl ?_
    rw [vo_2 en] at hK
    exact hK
  · refine X_tableInN (n := 3) (tgt := 170) (tk_X10_body.at 5 rfl) (pz (pa (pm (pl 4 rfl) (pl (bear k a) rfl)) (pl a rfl)) en) (by decide) (by decide) (by decide) rfl (by decide) ?_
    refine X_aload_n (tk_X10_body.at 35 rfl) rfl ?_
    refine X_bipush (tk_X10_body.at 36 rfl) cb_13 ?_
    refine X_cV1v (lv2 := [(0, _), (1, _)]) (tk_X10_body.at 37 rfl) mv_X10_began lk_x10_323 np_X10_began hM.f0 (by decide) rfl (Nat.le_of_ble_eq_true rfl) (Nat.le_of_ble_eq_true rfl) rfl (c10_began hM hs ?_)
    have hs1 := bg_le (b := 13) hs
    refine X_aload_n (tk_X10_body.at 38 rfl) rfl ?_
    refine X_iconst (tk_X10_body.at 39 rfl) ci_1 ?_
    refine X_iload_n (tk_X10_body.at 40 rfl) rfl ?_
    refine X_cV2i (lv2 := [(0, _), (1, _), (2, _)]) (tk_X10_body.at 41 rfl) mv_X10_voiced lk_x10_326 np_X10_voiced hM.f0 (by decide) rfl (Nat.le_of_ble_eq_true rfl) (Nat.le_of_ble_eq_true rfl) rfl (voi hM hsp hrn hr6 hkd hK7 hkn ih 1 x (bg s 13) _ _ (by decide) hs1 (trm_3 en ht).1 (by omega) ?_)
    refine X_istore (lv' := [(0, _), (1, _), (2, _), (3, _), (4, _)]) (tk_X10_body.at 42 rfl) (by decide) rfl rfl ?_
    refine X_iload (tk_X10_body.at 43 rfl) rfl ?_
    refine X_aload_n (tk_X10_body.at 44 rfl) rfl ?_
    refine X_iconst (tk_X10_body.at 45 rfl) ci_2 ?_
    refine X_iload_n (tk_X10_body.at 46 rfl) rfl ?_
    refine X_cV2i (lv2 := [(0, _), (1, _), (2, _)]) (tk_X10_body.at 47 rfl) mv_X10_voiced lk_x10_326 np_X10_voiced hM.f0 (by decide) rfl (Nat.le_of_ble_eq_true rfl) (Nat.le_of_ble_eq_true rfl) rfl (voi hM hsp hrn hr6 hkd hK7 hkn ih 2 x (vo Kd sp kn f Kd 1 x (bg s 13)).2 _ _ (by decide) (vo_le f _ _ _ _ hs1) (trm_3 en ht).2 (by omega) ?_)
    refine X_ixor (tk_X10_body.at 48 rfl) ?_
    refine X_ireturn (tk_X10_body.at 49 rfl) rfl rfl ?_
    rw [vo_3 en] at hK
    exact hK
  · refine X_tableInN (n := 5) (tgt := 194) (tk_X10_body.at 5 rfl) (pz (pa (pm (pl 4 rfl) (pl (bear k a) rfl)) (pl a rfl)) en) (by decide) (by decide) (by decide) rfl (by decide) ?_
    refine X_aload_n (tk_X10_body.at 50 rfl) rfl ?_
    refine X_bipush (tk_X10_body.at 51 rfl) cb_20 ?_
    refine X_cV1v (lv2 := [(0, _), (1, _)]) (tk_X10_body.at 52 rfl) mv_X10_began lk_x10_323 np_X10_began hM.f0 (by decide) rfl (Nat.le_of_ble_eq_true rfl) (Nat.le_of_ble_eq_true rfl) rfl (c10_began hM hs ?_)
    have hs1 := bg_le (b := 20) hs
    refine X_aload_n (tk_X10_body.at 53 rfl) rfl ?_
    refine X_iconst (tk_X10_body.at 54 rfl) ci_0 ?_
    refine X_iconst (tk_X10_body.at 55 rfl) ci_1 ?_
    refine X_iload_n (tk_X10_body.at 56 rfl) rfl ?_
    refine X_cV3i (lv2 := [(0, _), (1, _), (2, _), (3, _)]) (tk_X10_body.at 57 rfl) mv_X10_bodyFrom lk_x10_314 np_X10_bodyFrom hM.f0 (by decide) rfl (Nat.le_of_ble_eq_true rfl) (Nat.le_of_ble_eq_true rfl) rfl (ih 0 1 x (bg s 20) _ _ (by decide) (by decide) hs1 (trm_5 en ht).1 (by omega) ?_)
    refine X_istore (lv' := [(0, _), (1, _), (2, _), (3, _), (4, _)]) (tk_X10_body.at 58 rfl) (by decide) rfl rfl ?_
    refine X_iload (tk_X10_body.at 59 rfl) rfl ?_
    refine X_aload_n (tk_X10_body.at 60 rfl) rfl ?_
    refine X_iconst (tk_X10_body.at 61 rfl) ci_2 ?_
    refine X_iconst (tk_X10_body.at 62 rfl) ci_1 ?_
    refine X_cV2i (lv2 := [(0, _), (1, _), (2, _)]) (tk_X10_body.at 63 rfl) mv_X10_voiced lk_x10_326 np_X10_voiced hM.f0 (by decide) rfl (Nat.le_of_ble_eq_true rfl) (Nat.le_of_ble_eq_true rfl) rfl (voi hM hsp hrn hr6 hkd hK7 hkn ih 2 1 (vo Kd sp kn f 0 1 x (bg s 20)).2 _ _ (by decide) (vo_le f _ _ _ _ hs1) (trm_5 en ht).2 (by omega) ?_)
    refine X_isub (tk_X10_body.at 64 rfl) ?_
    refine X_ireturn (tk_X10_body.at 65 rfl) rfl rfl ?_
    rw [vo_5 en] at hK
    exact hK
  · refine X_tableInN (n := 8) (tgt := 219) (tk_X10_body.at 5 rfl) (pz (pa (pm (pl 4 rfl) (pl (bear k a) rfl)) (pl a rfl)) en) (by decide) (by decide) (by decide) rfl (by decide) ?_
    refine X_aload_n (tk_X10_body.at 66 rfl) rfl ?_
    refine X_bipush (tk_X10_body.at 67 rfl) cb_30 ?_
    refine X_cV1v (lv2 := [(0, _), (1, _)]) (tk_X10_body.at 68 rfl) mv_X10_began lk_x10_323 np_X10_began hM.f0 (by decide) rfl (Nat.le_of_ble_eq_true rfl) (Nat.le_of_ble_eq_true rfl) rfl (c10_began hM hs ?_)
    have hs1 := bg_le (b := 30) hs
    refine X_aload_n (tk_X10_body.at 69 rfl) rfl ?_
    refine X_iconst (tk_X10_body.at 70 rfl) ci_0 ?_
    refine X_iconst (tk_X10_body.at 71 rfl) ci_0 ?_
    refine X_iload_n (tk_X10_body.at 72 rfl) rfl ?_
    refine X_cV3i (lv2 := [(0, _), (1, _), (2, _), (3, _)]) (tk_X10_body.at 73 rfl) mv_X10_bodyFrom lk_x10_314 np_X10_bodyFrom hM.f0 (by decide) rfl (Nat.le_of_ble_eq_true rfl) (Nat.le_of_ble_eq_true rfl) rfl (ih 0 0 x (bg s 30) _ _ (by decide) (by decide) hs1 (trm_8 en ht) (by omega) ?_)
    refine X_iconst (tk_X10_body.at 74 rfl) ci_3 ?_
    refine X_imul (tk_X10_body.at 75 rfl) ?_
    refine X_ireturn (tk_X10_body.at 76 rfl) rfl rfl ?_
    rw [vo_8 en] at hK
    exact hK
  · refine X_tableInN (n := 12) (tgt := 250) (tk_X10_body.at 5 rfl) (pz (pa (pm (pl 4 rfl) (pl (bear k a) rfl)) (pl a rfl)) en) (by decide) (by decide) (by decide) rfl (by decide) ?_
    refine X_aload_n (tk_X10_body.at 87 rfl) rfl ?_
    refine X_bipush (tk_X10_body.at 88 rfl) cb_41 ?_
    refine X_cV1v (lv2 := [(0, _), (1, _)]) (tk_X10_body.at 89 rfl) mv_X10_began lk_x10_323 np_X10_began hM.f0 (by decide) rfl (Nat.le_of_ble_eq_true rfl) (Nat.le_of_ble_eq_true rfl) rfl (c10_began hM hs ?_)
    have hs1 := bg_le (b := 41) hs
    refine X_aload_n (tk_X10_body.at 90 rfl) rfl ?_
    refine X_iconst (tk_X10_body.at 91 rfl) ci_2 ?_
    refine X_iconst (tk_X10_body.at 92 rfl) ci_0 ?_
    refine X_iload_n (tk_X10_body.at 93 rfl) rfl ?_
    refine X_iconst (tk_X10_body.at 94 rfl) ci_1 ?_
    refine X_iadd (tk_X10_body.at 95 rfl) ?_
    refine X_cV3i (lv2 := [(0, _), (1, _), (2, _), (3, _)]) (tk_X10_body.at 96 rfl) mv_X10_bodyFrom lk_x10_314 np_X10_bodyFrom hM.f0 (by decide) rfl (Nat.le_of_ble_eq_true rfl) (Nat.le_of_ble_eq_true rfl) rfl (ih 2 0 (x + 1) (bg s 41) _ _ (by decide) (by decide) hs1 (trm_12 en ht) (by omega) ?_)
    refine X_ireturn (tk_X10_body.at 97 rfl) rfl rfl ?_
    rw [vo_12 en] at hK
    exact hK
  · refine X_tableInN (n := 14) (tgt := 235) (tk_X10_body.at 5 rfl) (pz (pa (pm (pl 4 rfl) (pl (bear k a) rfl)) (pl a rfl)) en) (by decide) (by decide) (by decide) rfl (by decide) ?_
    refine X_aload_n (tk_X10_body.at 77 rfl) rfl ?_
    refine X_bipush (tk_X10_body.at 78 rfl) cb_40 ?_
    refine X_cV1v (lv2 := [(0, _), (1, _)]) (tk_X10_body.at 79 rfl) mv_X10_began lk_x10_323 np_X10_began hM.f0 (by decide) rfl (Nat.le_of_ble_eq_true rfl) (Nat.le_of_ble_eq_true rfl) rfl (c10_began hM hs ?_)
    have hs1 := bg_le (b := 40) hs
    refine X_aload_n (tk_X10_body.at 80 rfl) rfl ?_
    refine X_iconst (tk_X10_body.at 81 rfl) ci_2 ?_
    refine X_iconst (tk_X10_body.at 82 rfl) ci_2 ?_
    refine X_iload_n (tk_X10_body.at 83 rfl) rfl ?_
    refine X_cV3i (lv2 := [(0, _), (1, _), (2, _), (3, _)]) (tk_X10_body.at 84 rfl) mv_X10_bodyFrom lk_x10_314 np_X10_bodyFrom hM.f0 (by decide) rfl (Nat.le_of_ble_eq_true rfl) (Nat.le_of_ble_eq_true rfl) rfl (ih 2 2 x (bg s 40) _ _ (by decide) (by decide) hs1 (trm_14 en ht) (by omega) ?_)
    refine X_ineg (tk_X10_body.at 85 rfl) ?_
    refine X_ireturn (tk_X10_body.at 86 rfl) rfl rfl ?_
    rw [vo_14 en] at hK
    exact hK
  · refine X_tableInN (n := 19) (tgt := 266) (tk_X10_body.at 5 rfl) (pz (pa (pm (pl 4 rfl) (pl (bear k a) rfl)) (pl a rfl)) en) (by decide) (by decide) (by decide) rfl (by decide) ?_
    refine X_aload_n (tk_X10_body.at 98 rfl) rfl ?_
    refine X_bipush (tk_X10_body.at 99 rfl) cb_50 ?_
    refine X_cV1v (lv2 := [(0, _), (1, _)]) (tk_X10_body.at 100 rfl) mv_X10_began lk_x10_323 np_X10_began hM.f0 (by decide) rfl (Nat.le_of_ble_eq_true rfl) (Nat.le_of_ble_eq_true rfl) rfl (c10_began hM hs ?_)
    have hs1 := bg_le (b := 50) hs
    refine X_aload_n (tk_X10_body.at 101 rfl) rfl ?_
    refine X_iconst (tk_X10_body.at 102 rfl) ci_0 ?_
    refine X_iconst (tk_X10_body.at 103 rfl) ci_3 ?_
    refine X_iload_n (tk_X10_body.at 104 rfl) rfl ?_
    refine X_cV3i (lv2 := [(0, _), (1, _), (2, _), (3, _)]) (tk_X10_body.at 105 rfl) mv_X10_bodyFrom lk_x10_314 np_X10_bodyFrom hM.f0 (by decide) rfl (Nat.le_of_ble_eq_true rfl) (Nat.le_of_ble_eq_true rfl) rfl (ih 0 3 x (bg s 50) _ _ (by decide) (by decide) hs1 (trm_19 en ht).1 (by omega) ?_)
    refine X_istore (lv' := [(0, _), (1, _), (2, _), (3, _), (4, _)]) (tk_X10_body.at 106 rfl) (by decide) rfl rfl ?_
    refine X_iload (tk_X10_body.at 107 rfl) rfl ?_
    refine X_aload_n (tk_X10_body.at 108 rfl) rfl ?_
    refine X_iconst (tk_X10_body.at 109 rfl) ci_0 ?_
    refine X_iconst (tk_X10_body.at 110 rfl) ci_2 ?_
    refine X_cV2i (lv2 := [(0, _), (1, _), (2, _)]) (tk_X10_body.at 111 rfl) mv_X10_voiced lk_x10_326 np_X10_voiced hM.f0 (by decide) rfl (Nat.le_of_ble_eq_true rfl) (Nat.le_of_ble_eq_true rfl) rfl (voi hM hsp hrn hr6 hkd hK7 hkn ih 0 2 (vo Kd sp kn f 0 3 x (bg s 50)).2 _ _ (by decide) (vo_le f _ _ _ _ hs1) (trm_19 en ht).2 (by omega) ?_)
    refine X_isub (tk_X10_body.at 112 rfl) ?_
    refine X_ireturn (tk_X10_body.at 113 rfl) rfl rfl ?_
    rw [vo_19 en] at hK
    exact hK
  · refine X_tableInN (n := 20) (tgt := 291) (tk_X10_body.at 5 rfl) (pz (pa (pm (pl 4 rfl) (pl (bear k a) rfl)) (pl a rfl)) en) (by decide) (by decide) (by decide) rfl (by decide) ?_
    refine X_aload_n (tk_X10_body.at 114 rfl) rfl ?_
    refine X_bipush (tk_X10_body.at 115 rfl) cb_60 ?_
    refine X_cV1v (lv2 := [(0, _), (1, _)]) (tk_X10_body.at 116 rfl) mv_X10_began lk_x10_323 np_X10_began hM.f0 (by decide) rfl (Nat.le_of_ble_eq_true rfl) (Nat.le_of_ble_eq_true rfl) rfl (c10_began hM hs ?_)
    have hs1 := bg_le (b := 60) hs
    refine X_aload_n (tk_X10_body.at 117 rfl) rfl ?_
    refine X_iconst (tk_X10_body.at 118 rfl) ci_4 ?_
    refine X_iconst (tk_X10_body.at 119 rfl) ci_0 ?_
    refine X_iload_n (tk_X10_body.at 120 rfl) rfl ?_
    refine X_cV3i (lv2 := [(0, _), (1, _), (2, _), (3, _)]) (tk_X10_body.at 121 rfl) mv_X10_bodyFrom lk_x10_314 np_X10_bodyFrom hM.f0 (by decide) rfl (Nat.le_of_ble_eq_true rfl) (Nat.le_of_ble_eq_true rfl) rfl (ih 4 0 x (bg s 60) _ _ (by decide) (by decide) hs1 (trm_20 en ht) (by omega) ?_)
    refine X_aload_n (tk_X10_body.at 122 rfl) rfl ?_
    refine X_getI (tk_X10_body.at 123 rfl) fl_x10_311 hM.f0 rfl ?_
    rw [VM23, hsp]
    refine X_ixor (tk_X10_body.at 124 rfl) ?_
    refine X_ireturn (tk_X10_body.at 125 rfl) rfl rfl ?_
    rw [vo_20 en] at hK
    exact hK
  · refine X_tableInN (n := 23) (tgt := 310) (tk_X10_body.at 5 rfl) (pz (pa (pm (pl 4 rfl) (pl (bear k a) rfl)) (pl a rfl)) en) (by decide) (by decide) (by decide) rfl (by decide) ?_
    refine X_aload_n (tk_X10_body.at 126 rfl) rfl ?_
    refine X_bipush (tk_X10_body.at 127 rfl) cb_61 ?_
    refine X_cV1v (lv2 := [(0, _), (1, _)]) (tk_X10_body.at 128 rfl) mv_X10_began lk_x10_323 np_X10_began hM.f0 (by decide) rfl (Nat.le_of_ble_eq_true rfl) (Nat.le_of_ble_eq_true rfl) rfl (c10_began hM hs ?_)
    have hs1 := bg_le (b := 61) hs
    refine X_aload_n (tk_X10_body.at 129 rfl) rfl ?_
    refine X_iconst (tk_X10_body.at 130 rfl) ci_4 ?_
    refine X_iconst (tk_X10_body.at 131 rfl) ci_3 ?_
    refine X_iload_n (tk_X10_body.at 132 rfl) rfl ?_
    refine X_cV3i (lv2 := [(0, _), (1, _), (2, _), (3, _)]) (tk_X10_body.at 133 rfl) mv_X10_bodyFrom lk_x10_314 np_X10_bodyFrom hM.f0 (by decide) rfl (Nat.le_of_ble_eq_true rfl) (Nat.le_of_ble_eq_true rfl) rfl (ih 4 3 x (bg s 61) _ _ (by decide) (by decide) hs1 (trm_23 en ht) (by omega) ?_)
    refine X_iconst (tk_X10_body.at 134 rfl) ci_5 ?_
    refine X_imul (tk_X10_body.at 135 rfl) ?_
    refine X_ireturn (tk_X10_body.at 136 rfl) rfl rfl ?_
    rw [vo_23 en] at hK
    exact hK
  · refine X_tableInN (n := 25) (tgt := 326) (tk_X10_body.at 5 rfl) (pz (pa (pm (pl 4 rfl) (pl (bear k a) rfl)) (pl a rfl)) en) (by decide) (by decide) (by decide) rfl (by decide) ?_
    refine X_aload_n (tk_X10_body.at 137 rfl) rfl ?_
    refine X_bipush (tk_X10_body.at 138 rfl) cb_70 ?_
    refine X_cV1v (lv2 := [(0, _), (1, _)]) (tk_X10_body.at 139 rfl) mv_X10_began lk_x10_323 np_X10_began hM.f0 (by decide) rfl (Nat.le_of_ble_eq_true rfl) (Nat.le_of_ble_eq_true rfl) rfl (c10_began hM hs ?_)
    have hs1 := bg_le (b := 70) hs
    refine X_iconst (tk_X10_body.at 140 rfl) ci_0 ?_
    refine X_ireturn (tk_X10_body.at 141 rfl) rfl rfl ?_
    rw [vo_25 en] at hK
    exact hK
  · refine X_tableOutN (n := 26) (tgt := 334) (tk_X10_body.at 5 rfl) (pz (pa (pm (pl 4 rfl) (pl (bear k a) rfl)) (pl a rfl)) en) (by decide) (by decide) (by decide) ?_
    refine X_aload_n (tk_X10_body.at 142 rfl) rfl ?_
    refine X_bipush (tk_X10_body.at 143 rfl) cb_71 ?_
    refine X_cV1v (lv2 := [(0, _), (1, _)]) (tk_X10_body.at 144 rfl) mv_X10_began lk_x10_323 np_X10_began hM.f0 (by decide) rfl (Nat.le_of_ble_eq_true rfl) (Nat.le_of_ble_eq_true rfl) rfl (c10_began hM hs ?_)
    have hs1 := bg_le (b := 71) hs
    refine X_aload_n (tk_X10_body.at 145 rfl) rfl ?_
    refine X_iconst (tk_X10_body.at 146 rfl) ci_0 ?_
    refine X_iconst (tk_X10_body.at 147 rfl) ci_2 ?_
    refine X_iload_n (tk_X10_body.at 148 rfl) rfl ?_
    refine X_cV3i (lv2 := [(0, _), (1, _), (2, _), (3, _)]) (tk_X10_body.at 149 rfl) mv_X10_bodyFrom lk_x10_314 np_X10_bodyFrom hM.f0 (by decide) rfl (Nat.le_of_ble_eq_true rfl) (Nat.le_of_ble_eq_true rfl) rfl (ih 0 2 x (bg s 71) _ _ (by decide) (by decide) hs1 (trm_26 en ht) (by omega) ?_)
    refine X_aload_n (tk_X10_body.at 150 rfl) rfl ?_
    refine X_getI (tk_X10_body.at 151 rfl) fl_x10_311 hM.f0 rfl ?_
    rw [VM23, hsp]
    refine X_iadd (tk_X10_body.at 152 rfl) ?_
    refine X_ireturn (tk_X10_body.at 153 rfl) rfl rfl ?_
    rw [vo_26 en] at hK
    exact hK
set_option maxHeartbeats 1000000 in
theorem vfrom {G : Gl} {S : Sh} {μ : Mu} {o Kd rn : Nat} {q : Nat → Nat} {sp kn : Int32} {f : Nat} (hM : MS S o q) (hsp : μ o 23 = sp) (hrn : sp = nI rn) (hr6 : rn < 6) (hkd : μ (o + 1) (80 + 9 * rn) = nI Kd) (hK7 : Kd < 7) (hkn : μ (o + 1) (82 + 9 * rn) = kn) (ih : VX G S μ o Kd sp kn f) (k a : Nat) (x : Int32) (s : Tr) (D : Nat) (K : Int32 → Sh → Mu → Prop) (hk : k < 7) (ha : a < 4) (hs : s.1 ≤ 40) (ht : trm Kd (f + 1) k a = true) (hD : 3 * (f + 1) + 3 ≤ D) (hK : K (vo Kd sp kn (f + 1) k a x s).1 S (VM μ o (vo Kd sp kn (f + 1) k a x s).2)) : X G mi_X10_bodyFrom D 0 0 [(0, .ref o), (1, .int (nI k)), (2, .int (nI a)), (3, .int x)] [] S (VM μ o s) (qi K) := by
  obtain ⟨D, rfl⟩ : ∃ D', D = D' + 1 := ⟨D - 1, by omega⟩
  refine X_iload_n (tk_X10_bodyFrom.at 0 rfl) rfl ?_
  refine X_istore (lv' := [(0, _), (1, _), (2, _), (3, _), (4, _)]) (tk_X10_bodyFrom.at 1 rfl) (by decide) rfl rfl ?_
  have loop : ∀ (m j : Nat), j < 7 → rkk j < m → bear j a = bear k a → X G mi_X10_bodyFrom (D + 1) 0 3 [(0, .ref o), (1, .int (nI k)), (2, .int (nI a)), (3, .int x), (4, .int (nI j))] [] S (VM μ o s) (qi K) := by
    intro m
    induction m with
    | zero => intro j _ h; exact absurd h (Nat.not_lt_zero _)
    | succ m ihm =>
      intro j hj hm hb
      refine X_iload (tk_X10_bodyFrom.at 2 rfl) rfl ?_
      refine X_iload_n (tk_X10_bodyFrom.at 3 rfl) rfl ?_
      refine X_cS2i (lv2 := [(0, _), (1, _)]) (tk_X10_bodyFrom.at 4 rfl) ms_X10_hasOwn lk_x10_317 np_X10_hasOwn (Nat.le_of_ble_eq_true rfl) (Nat.le_of_ble_eq_true rfl) rfl (c10_hasOwn (pl j rfl) hj (pl a rfl) ha (fun ho => ?_) (fun ho => ?_))
      · rw [bear_t ho] at hb
        subst hb
        refine X_if_ne (tgt := 22) (tk_X10_bodyFrom.at 5 rfl) (by decide) (fun _ => ?_) (fun h => absurd h (by decide))
        refine X_aload_n (tk_X10_bodyFrom.at 10 rfl) rfl ?_
        refine X_iload (tk_X10_bodyFrom.at 11 rfl) rfl ?_
        refine X_iload_n (tk_X10_bodyFrom.at 12 rfl) rfl ?_
        refine X_iload_n (tk_X10_bodyFrom.at 13 rfl) rfl ?_
        refine X_cV3i (lv2 := [(0, _), (1, _), (2, _), (3, _)]) (tk_X10_bodyFrom.at 14 rfl) mv_X10_body lk_x10_320 np_X10_body hM.f0 (by decide) rfl (Nat.le_of_ble_eq_true rfl) (Nat.le_of_ble_eq_true rfl) rfl (vbody hM hsp hrn hr6 hkd hK7 hkn ih k a x s _ _ hk ha hs ht (by omega) ?_)
        refine X_ireturn (tk_X10_bodyFrom.at 15 rfl) rfl rfl ?_
        exact hK
      · obtain ⟨z0, z1⟩ := bear_u j hj a ha ho
        obtain ⟨q1, q2, q3⟩ := abv_ab j hj z0
        refine X_if_ne (tgt := 22) (tk_X10_bodyFrom.at 5 rfl) (by decide) (fun h => absurd h (by decide)) (fun _ => ?_)
        refine X_iload (tk_X10_bodyFrom.at 6 rfl) rfl ?_
        refine X_cS1i (lv2 := [(0, _)]) (tk_X10_bodyFrom.at 7 rfl) ms_X10_above lk_x10_142 np_X10_above (Nat.le_of_ble_eq_true rfl) (Nat.le_of_ble_eq_true rfl) rfl (c10_above (pl j rfl) (by omega) ?_)
        refine X_istore (lv' := [(0, _), (1, _), (2, _), (3, _), (4, _)]) (tk_X10_bodyFrom.at 8 rfl) (by decide) rfl rfl ?_
        refine X_goto (tgt := 3) (tk_X10_bodyFrom.at 9 rfl) (by decide) ?_
        rw [q1]
        exact ihm (ab j) q2 (by omega) (z1.symm.trans hb)
  have r3 : ∀ k, k < 7 → rkk k < 3 := by decide
  exact loop 3 k hk (r3 k hk) rfl
theorem vx_all {G : Gl} {S : Sh} {μ : Mu} {o Kd rn : Nat} {q : Nat → Nat} {sp kn : Int32} (hM : MS S o q) (hsp : μ o 23 = sp) (hrn : sp = nI rn) (hr6 : rn < 6) (hkd : μ (o + 1) (80 + 9 * rn) = nI Kd) (hK7 : Kd < 7) (hkn : μ (o + 1) (82 + 9 * rn) = kn) : ∀ f, VX G S μ o Kd sp kn f
  | 0 => fun k a x s D K _ _ _ ht => by cases ht
  | f + 1 => fun k a x s D K hk ha hs ht hD hK => vfrom hM hsp hrn hr6 hkd hK7 hkn (vx_all hM hsp hrn hr6 hkd hK7 hkn f) k a x s D K hk ha hs ht hD hK
set_option maxHeartbeats 1000000 in
theorem c10_voice {G : Gl} {d : Nat} {S : Sh} {μ : Mu} {o : Nat} {q : Nat → Nat} {r a x : Int32} {K : Int32 → Sh → Mu → Prop} (hM : MS S o q) (hw : WF (μ (o + 1))) (k1 : ¬ (In r (nv (μ (o + 1) 3)) ∧ (0 ≤ a ∧ a ≤ 3)) → K (-1000000001) S (er μ o 1)) (k2 : ∀ j b, j < nv (μ (o + 1) 3) → b < 4 → r = nI j → a = nI b → K (vo (nv (μ (o + 1) (80 + 9 * j))) r (μ (o + 1) (82 + 9 * j)) 9 (nv (μ (o + 1) (80 + 9 * j))) b x (0, μ (o + 13))).1 S (VM (su μ o 23 r) o (vo (nv (μ (o + 1) (80 + 9 * j))) r (μ (o + 1) (82 + 9 * j)) 9 (nv (μ (o + 1) (80 + 9 * j))) b x (0, μ (o + 13))).2)) : X G mi_X10_voice (d + 33) 0 0 [(0, .ref o), (1, .int r), (2, .int a), (3, .int x)] [] S μ (qi K) := by
  have w0 := hw.n0
  have w1 := hw.n1
  have w2 := hw.n2
  have w3 := hw.n3
  have w4 := hw.n4
  have w5 := hw.n5
  have w6 := hw.n6
  have b1 := w1.2
  have b2 := w2.2
  have b3 := w3.2
  have b4 := w4.2
  have b5 := w5.2
  have b6 := w6.2
  have b0 := w0.2
  refine X_aload_n (tk_X10_voice.at 0 rfl) rfl ?_
  refine X_iload_n (tk_X10_voice.at 1 rfl) rfl ?_
  refine X_iconst (tk_X10_voice.at 2 rfl) ci_3 ?_
  refine X_cV2i (lv2 := [(0, _), (1, _), (2, _)]) (tk_X10_voice.at 3 rfl) mv_X10_is lk_x10_90 np_X10_is hM.f0 (by decide) rfl (Nat.le_of_ble_eq_true rfl) (Nat.le_of_ble_eq_true rfl) rfl (c10_is hM (pl 3 rfl) (by decide) w3.1 (by omega) (fun j3 hj3 ej3 => ?_) (fun hj3 => ?_))
  · refine X_if_eq (tgt := 18) (tk_X10_voice.at 4 rfl) (by decide) (fun h => absurd h (by decide)) (fun _ => ?_)
    refine X_iload_n (tk_X10_voice.at 5 rfl) rfl ?_
    refine X_iconst (tk_X10_voice.at 6 rfl) ci_0 ?_
    refine X_iconst (tk_X10_voice.at 7 rfl) ci_3 ?_
    refine X_cS3i (lv2 := [(0, _), (1, _), (2, _)]) (tk_X10_voice.at 8 rfl) ms_X10_within lk_x10_69 np_X10_within (Nat.le_of_ble_eq_true rfl) (Nat.le_of_ble_eq_true rfl) rfl (c10_within (fun h12 h1012 => ?_) (fun h12 => ?_))
    · obtain ⟨ew12, lw12, bw12⟩ := le_lits (a := 0) (b := 3) (by decide) h12 h1012 (by decide)
      refine X_if_ne (tgt := 25) (tk_X10_voice.at 9 rfl) (by decide) (fun _ => ?_) (fun h => absurd h (by decide))
      refine X_aload_n (tk_X10_voice.at 14 rfl) rfl ?_
      refine X_iconst (tk_X10_voice.at 15 rfl) ci_0 ?_
      refine X_putI (tk_X10_voice.at 16 rfl) fl_x10_308 hM.f0 rfl rfl ⟨rfl, rfl⟩ ?_
      refine X_aload_n (tk_X10_voice.at 17 rfl) rfl ?_
      refine X_iload_n (tk_X10_voice.at 18 rfl) rfl ?_
      refine X_putI (tk_X10_voice.at 19 rfl) fl_x10_311 hM.f0 rfl rfl ⟨rfl, rfl⟩ ?_
      refine X_aload_n (tk_X10_voice.at 20 rfl) rfl ?_
      refine X_iload_n (tk_X10_voice.at 21 rfl) rfl ?_
      refine X_iload_n (tk_X10_voice.at 22 rfl) rfl ?_
      have wr := hw.ro hj3
      have ek := wr.1.1
      have bk := wr.1.2
      have e1 : (su μ o 23 r) (o + 1) = μ (o + 1) := su_ne (by omega)
      rw [VM_st, ew12]
      refine X_cV2i (lv2 := [(0, _), (1, _), (2, _)]) (tk_X10_voice.at 23 rfl) mv_X10_voiced lk_x10_326 np_X10_voiced hM.f0 (by decide) rfl (Nat.le_of_ble_eq_true rfl) (Nat.le_of_ble_eq_true rfl) rfl (voi (μ := su μ o 23 r) (f := 9) (rn := j3) (Kd := nv (μ (o + 1) (80 + 9 * j3))) (sp := r) (kn := μ (o + 1) (82 + 9 * j3)) hM (by rw [su_same]; exact upd_at _ _ _) ej3 (by omega) (by rw [e1]; exact ek) (by omega) (by rw [e1]) (vx_all hM (by rw [su_same]; exact upd_at _ _ _) ej3 (by omega) (by rw [e1]; exact ek) (by omega) (by rw [e1]) 9) (nv a) x (0, μ (o + 13)) _ _ (by omega) (Nat.zero_le _) (trm_all _ (by omega) _ (by omega) _ (by omega) (Or.inl rfl)) (by omega) ?_)
      refine X_ireturn (tk_X10_voice.at 24 rfl) rfl rfl ?_
      exact k2 j3 (nv a) hj3 (by omega) ej3 ew12
    · refine X_if_ne (tgt := 25) (tk_X10_voice.at 9 rfl) (by decide) (fun h => absurd h (by decide)) (fun _ => ?_)
      refine X_aload_n (tk_X10_voice.at 10 rfl) rfl ?_
      refine X_ldc (tk_X10_voice.at 11 rfl) kn_x10_81 ?_
      refine X_cV1i (lv2 := [(0, _), (1, _)]) (tk_X10_voice.at 12 rfl) mv_X10_finding lk_x10_82 np_X10_finding hM.f0 (by decide) rfl (Nat.le_of_ble_eq_true rfl) (Nat.le_of_ble_eq_true rfl) rfl (c10_finding (k := 1) hM (by decide) (by decide) ?_)
      refine X_ireturn (tk_X10_voice.at 13 rfl) rfl rfl ?_
      exact k1 (fun g => by first | exact h12 g.2 | exact In_no (by omega) hj3 g.1)
  · refine X_if_eq (tgt := 18) (tk_X10_voice.at 4 rfl) (by decide) (fun _ => ?_) (fun h => absurd h (by decide))
    refine X_aload_n (tk_X10_voice.at 10 rfl) rfl ?_
    refine X_ldc (tk_X10_voice.at 11 rfl) kn_x10_81 ?_
    refine X_cV1i (lv2 := [(0, _), (1, _)]) (tk_X10_voice.at 12 rfl) mv_X10_finding lk_x10_82 np_X10_finding hM.f0 (by decide) rfl (Nat.le_of_ble_eq_true rfl) (Nat.le_of_ble_eq_true rfl) rfl (c10_finding (k := 1) hM (by decide) (by decide) ?_)
    refine X_ireturn (tk_X10_voice.at 13 rfl) rfl rfl ?_
    exact k1 (fun g => by first | exact h12 g.2 | exact In_no (by omega) hj3 g.1)
