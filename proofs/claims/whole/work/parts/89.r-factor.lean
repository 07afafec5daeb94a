theorem rel_num {T : Nat → Int32} {n c : Nat} {s : Ps} {C : Nat → Int32} (h : RelS s false c C) (hs : s.2.1 = false) (hp : s.1 ≤ n) (hc : c < 50) : RelS (em (num T n 4 s 0).1 (num T n 4 s 0).2) false (c + 1) (upd C c (num T n 4 s 0).2) := by
  have g := num_g (T := T) 4 s 0 hp
  have e : (num T n 4 s 0).1.2.1 = false := by rw [g.2.2]; exact hs
  have z := h.2.2 hs
  rw [em_v e]
  refine ⟨rfl, by omega, fun _ => ⟨?_, fun i hi => ?_⟩⟩
  · show c + 1 = (num T n 4 s 0).1.2.2.1 + 1
    rw [g.2.2, z.1]
  · show upd C c _ i = tr (upd (num T n 4 s 0).1.2.2.2 (num T n 4 s 0).1.2.2.1 _ i)
    rw [g.2.2, ← z.1]
    by_cases ei : i = c
    · rw [ei, upd_at, upd_at, num_tr]
    · rw [upd_ne _ _ ei, upd_ne _ _ ei]; exact z.2 i (by omega)
theorem i2c_n {m : Nat} (h : m < 256) : ((nI m).toUInt32 % 65536).toInt32 = nI m := by
  rw [pk_char, pk_tn (by omega), Nat.mod_eq_of_lt (by omega)]
set_option maxHeartbeats 1000000 in
theorem c4_factor {G : Gl} {S : Sh} {μ : Mu} {R t n u f : Nat} {T : Nat → Int32} (hC : RdC G S μ R t n u T) {op c D : Nat} {s : Ps} {C : Nat → Int32} {K : Sh → Mu → Prop} (hop : op ≤ 5) (hp : s.1 ≤ n) (hcs : s.2.2.1 ≤ s.1) (hs : s.2.1 = false) (hrel : RelS s false c C) (ihF : RFY G S μ R n u T f) (ihL : RLY G S μ R n u T f) (hf : 20 * (n - s.1) + 2 < f + 1) (hD : 8 * (5 - op) + 8 ≤ D) (hK : ∀ w' c' C', RelS (pF T n (nmU u) (f + 1) 0 5 op s) w' c' C' → K S (RM μ R (pF T n (nmU u) (f + 1) 0 5 op s).1 w' c' C')) : X G mi_X4_readFactor D 0 0 [(0, .ref R), (1, .int (nI op))] [] S (RM μ R s.1 false c C) (qv K) := by
  obtain ⟨D, rfl⟩ : ∃ D', D = D' + 8 := ⟨D - 8, by omega⟩
  refine X_aload_n (tk_X4_readFactor.at 0 rfl) rfl ?_
  refine X_getR (tk_X4_readFactor.at 1 rfl) fl_x4_20 hC.1.1.1 rfl rfl ?_
  refine X_aload_n (tk_X4_readFactor.at 2 rfl) rfl ?_
  refine X_getI (tk_X4_readFactor.at 3 rfl) fl_x4_29 hC.1.1.1 rfl ?_
  refine X_cV1i (lv2 := [(0, _), (1, _)]) (tk_X4_readFactor.at 4 rfl) mv_X6_at lk_x4_51 np_X6_at hC.1.2.2.1.1 (by decide) rfl (Nat.le_of_ble_eq_true rfl) (Nat.le_of_ble_eq_true rfl) rfl (rd_at (s := s) hC hs hp RM3 ?_)
  refine X_istore_n (lv' := [(0, _), (1, _), (2, _)]) (tk_X4_readFactor.at 5 rfl) (by decide) rfl rfl ?_
  refine X_iload_n (tk_X4_readFactor.at 6 rfl) rfl ?_
  refine X_cS1i (lv2 := [(0, _)]) (tk_X4_readFactor.at 7 rfl) ms_X4_isDigit lk_x4_61 np_X4_isDigit (Nat.le_of_ble_eq_true rfl) (Nat.le_of_ble_eq_true rfl) rfl (c4_isDigit (fun hd1 hd2 => ?_) (fun hd => ?_))
  · refine X_if_eq (tgt := 26) (tk_X4_readFactor.at 8 rfl) (by decide) (fun h => absurd h (by decide)) (fun _ => ?_)
    refine X_aload_n (tk_X4_readFactor.at 9 rfl) rfl ?_
    have hin := hr_in (T := T) (n := n) (s := s) (fun e => by rw [e] at hd1; exact absurd hd1 (by decide))
    have hc50 : c < 50 := by have := hin.2; have := hC.1.2.2.2; have := (hrel.2.2 hs).1; omega
    refine X_cV0v (lv2 := [(0, _)]) (tk_X4_readFactor.at 10 rfl) mv_X4_readNumber lk_x4_65 np_X4_readNumber hC.1.1.1 (by decide) rfl (Nat.le_of_ble_eq_true rfl) (Nat.le_of_ble_eq_true rfl) rfl (c4_readNumber hC hs hp hc50 ?_)
    refine X_goto (tgt := 118) (tk_X4_readFactor.at 11 rfl) (by decide) ?_
    refine X_return (tk_X4_readFactor.at 62 rfl) rfl ?_
    have z := hK _ _ _ (by rw [pF_num ⟨hd1, hd2⟩]; exact rel_num hrel hs hp hc50)
    rw [pF_num ⟨hd1, hd2⟩, em_1] at z
    exact z
  · refine X_if_eq (tgt := 26) (tk_X4_readFactor.at 8 rfl) (by decide) (fun _ => ?_) (fun h => absurd h (by decide))
    have k75 : (hr T n s < 0 ∨ nmU u (hr T n s) < 0) → X G mi_X4_readFactor (D + 8) 0 75 [(0, .ref R), (1, .int (nI op)), (2, .int (hr T n s))] [] S (RM μ R s.1 false c C) (qv K) := by
      intro hb
      refine X_iload_n (tk_X4_readFactor.at 37 rfl) rfl ?_
      refine X_bipush (tk_X4_readFactor.at 38 rfl) cb_33 ?_
      refine X_icmp_eq (tgt := 87) (tk_X4_readFactor.at 39 rfl) (by decide) (fun c1 => ?_) (fun c1 => ?_)
      · refine X_iload_n (tk_X4_readFactor.at 43 rfl) rfl ?_
        refine X_iconst (tk_X4_readFactor.at 44 rfl) ci_5 ?_
        refine X_icmp_geN (tgt := 113) (tk_X4_readFactor.at 45 rfl) (by decide) (pl op rfl) (pl 5 rfl) (by omega) (by omega) (fun c2 => ?_) (fun c2 => ?_)
        · refine X_aload_n (tk_X4_readFactor.at 59 rfl) rfl ?_
          refine X_iconst (tk_X4_readFactor.at 60 rfl) ci_1 ?_
          refine X_putI (tk_X4_readFactor.at 61 rfl) fl_x4_33 hC.1.1.1 rfl rfl ⟨rfl, rfl⟩ ?_
          refine X_return (tk_X4_readFactor.at 62 rfl) rfl ?_
          rw [RM_w (w' := true) (v := 1) rfl]
          have z := hK true c C (by rw [pF_full (Or.inl c1) (by omega)]; exact RelS.bad hrel.2.1)
          rw [pF_full (Or.inl c1) (by omega)] at z
          exact z
        · refine X_aload_n (tk_X4_readFactor.at 46 rfl) rfl ?_
          refine X_dup (tk_X4_readFactor.at 47 rfl) rfl ?_
          refine X_getI (tk_X4_readFactor.at 48 rfl) fl_x4_29 hC.1.1.1 rfl ?_
          refine X_iconst (tk_X4_readFactor.at 49 rfl) ci_1 ?_
          refine X_iadd (tk_X4_readFactor.at 50 rfl) ?_
          refine X_putI (tk_X4_readFactor.at 51 rfl) fl_x4_29 hC.1.1.1 rfl rfl ⟨rfl, rfl⟩ ?_
          rw [RM3, nI_1, RM_p]
          refine X_aload_n (tk_X4_readFactor.at 52 rfl) rfl ?_
          refine X_iload_n (tk_X4_readFactor.at 53 rfl) rfl ?_
          refine X_iload_n (tk_X4_readFactor.at 54 rfl) rfl ?_
          refine X_iconst (tk_X4_readFactor.at 55 rfl) ci_1 ?_
          refine X_iadd (tk_X4_readFactor.at 56 rfl) ?_
          have hin := hr_in (T := T) (n := n) (s := s) (fun e => by rw [e] at c1; exact absurd c1 (by decide))
          rw [nI_1 op, c1]
          refine X_cV2v (lv2 := [(0, _), (1, _), (2, _)]) (tk_X4_readFactor.at 57 rfl) mv_X4_readOpened lk_x4_73 np_X4_readOpened hC.1.1.1 (by decide) rfl (Nat.le_of_ble_eq_true rfl) (Nat.le_of_ble_eq_true rfl) rfl (c4_opNot hC (s := ad s) (op := op + 1) (by omega) hin.2 (by show s.2.2.1 ≤ s.1 + 1; omega) hs hrel ihF (by show 1 ≤ s.1 + 1; omega) (by show s.2.2.1 + 1 ≤ s.1 + 1; omega) (by show 20 * (n - (s.1 + 1)) + 2 < f; have := hin.2; omega) (by omega) ?_)
          intro w' c' C' hr'
          have z := hK w' c' C' (by rw [pF_not c1 (by omega)]; exact hr')
          rw [pF_not c1 (by omega)] at z
          refine X_goto (tgt := 118) (tk_X4_readFactor.at 58 rfl) (by decide) ?_
          refine X_return (tk_X4_readFactor.at 62 rfl) rfl ?_
          exact z
      · refine X_iload_n (tk_X4_readFactor.at 40 rfl) rfl ?_
        refine X_bipush (tk_X4_readFactor.at 41 rfl) cb_40 ?_
        refine X_icmp_ne (tgt := 113) (tk_X4_readFactor.at 42 rfl) (by decide) (fun c3 => ?_) (fun c3 => ?_)
        · refine X_aload_n (tk_X4_readFactor.at 59 rfl) rfl ?_
          refine X_iconst (tk_X4_readFactor.at 60 rfl) ci_1 ?_
          refine X_putI (tk_X4_readFactor.at 61 rfl) fl_x4_33 hC.1.1.1 rfl rfl ⟨rfl, rfl⟩ ?_
          refine X_return (tk_X4_readFactor.at 62 rfl) rfl ?_
          rw [RM_w (w' := true) (v := 1) rfl]
          have hnn : ¬ (hr T n s = 33 ∨ hr T n s = 40) := fun g => g.elim c1 c3
          have z := hK true c C (by rw [pF_bad hnn hd hb]; exact RelS.bad hrel.2.1)
          rw [pF_bad hnn hd hb] at z
          exact z
        · refine X_iload_n (tk_X4_readFactor.at 43 rfl) rfl ?_
          refine X_iconst (tk_X4_readFactor.at 44 rfl) ci_5 ?_
          refine X_icmp_geN (tgt := 113) (tk_X4_readFactor.at 45 rfl) (by decide) (pl op rfl) (pl 5 rfl) (by omega) (by omega) (fun c4 => ?_) (fun c4 => ?_)
          · refine X_aload_n (tk_X4_readFactor.at 59 rfl) rfl ?_
            refine X_iconst (tk_X4_readFactor.at 60 rfl) ci_1 ?_
            refine X_putI (tk_X4_readFactor.at 61 rfl) fl_x4_33 hC.1.1.1 rfl rfl ⟨rfl, rfl⟩ ?_
            refine X_return (tk_X4_readFactor.at 62 rfl) rfl ?_
            rw [RM_w (w' := true) (v := 1) rfl]
            have z := hK true c C (by rw [pF_full (Or.inr c3) (by omega)]; exact RelS.bad hrel.2.1)
            rw [pF_full (Or.inr c3) (by omega)] at z
            exact z
          · refine X_aload_n (tk_X4_readFactor.at 46 rfl) rfl ?_
            refine X_dup (tk_X4_readFactor.at 47 rfl) rfl ?_
            refine X_getI (tk_X4_readFactor.at 48 rfl) fl_x4_29 hC.1.1.1 rfl ?_
            refine X_iconst (tk_X4_readFactor.at 49 rfl) ci_1 ?_
            refine X_iadd (tk_X4_readFactor.at 50 rfl) ?_
            refine X_putI (tk_X4_readFactor.at 51 rfl) fl_x4_29 hC.1.1.1 rfl rfl ⟨rfl, rfl⟩ ?_
            rw [RM3, nI_1, RM_p]
            refine X_aload_n (tk_X4_readFactor.at 52 rfl) rfl ?_
            refine X_iload_n (tk_X4_readFactor.at 53 rfl) rfl ?_
            refine X_iload_n (tk_X4_readFactor.at 54 rfl) rfl ?_
            refine X_iconst (tk_X4_readFactor.at 55 rfl) ci_1 ?_
            refine X_iadd (tk_X4_readFactor.at 56 rfl) ?_
            have hin := hr_in (T := T) (n := n) (s := s) (fun e => by rw [e] at c3; exact absurd c3 (by decide))
            rw [nI_1 op, c3]
            refine X_cV2v (lv2 := [(0, _), (1, _), (2, _)]) (tk_X4_readFactor.at 57 rfl) mv_X4_readOpened lk_x4_73 np_X4_readOpened hC.1.1.1 (by decide) rfl (Nat.le_of_ble_eq_true rfl) (Nat.le_of_ble_eq_true rfl) rfl (c4_opOpn hC (s := ad s) (op := op + 1) (by omega) hin.2 (by show s.2.2.1 ≤ s.1 + 1; omega) hs hrel ihL (by show 20 * (n - (s.1 + 1)) + 12 < f; have := hin.2; omega) (by omega) ?_)
            intro w' c' C' hr'
            have z := hK w' c' C' (by rw [pF_opn c3 (by omega)]; exact hr')
            rw [pF_opn c3 (by omega)] at z
            refine X_goto (tgt := 118) (tk_X4_readFactor.at 58 rfl) (by decide) ?_
            refine X_return (tk_X4_readFactor.at 62 rfl) rfl ?_
            exact z
    refine X_iload_n (tk_X4_readFactor.at 12 rfl) rfl ?_
    refine X_if_lt (tgt := 75) (tk_X4_readFactor.at 13 rfl) (by decide) (fun c21 => ?_) (fun c21 => ?_)
    · exact k75 (Or.inl c21)
    · obtain ⟨m, hm, em_⟩ : ∃ m, m < 256 ∧ hr T n s = nI m := (hr_or hC.2.2.2.2).elim (fun e => absurd (by rw [e]; decide) c21) id
      refine X_aload_n (tk_X4_readFactor.at 14 rfl) rfl ?_
      refine X_getR (tk_X4_readFactor.at 15 rfl) fl_x4_25 hC.1.1.1 rfl rfl ?_
      refine X_iload_n (tk_X4_readFactor.at 16 rfl) rfl ?_
      refine X_i2c (tk_X4_readFactor.at 17 rfl) ?_
      refine X_cT1i (lv2 := [(0, _), (1, _)]) (tk_X4_readFactor.at 18 rfl) mv_J0_indexOf_0f7a4 lk_x4_68 np_J0_indexOf_0f7a4 (hC.2.1 s.1 false c C u hC.1.2.1).1 rfl (Nat.le_of_ble_eq_true rfl) (Nat.le_of_ble_eq_true rfl) rfl (cj_indexOf (m := m) (hC.2.1 _ _ _ _) hC.1.2.1 (by rw [em_, i2c_n hm]) hm ?_)
      refine X_if_lt (tgt := 75) (tk_X4_readFactor.at 19 rfl) (by decide) (fun c22 => ?_) (fun c22 => ?_)
      · exact k75 (Or.inr (by rw [em_]; exact c22))
      · refine X_aload_n (tk_X4_readFactor.at 20 rfl) rfl ?_
        refine X_getR (tk_X4_readFactor.at 21 rfl) fl_x4_14 hC.1.1.1 rfl rfl ?_
        refine X_sipush (tk_X4_readFactor.at 22 rfl) cs_10000 ?_
        refine X_aload_n (tk_X4_readFactor.at 23 rfl) rfl ?_
        refine X_getR (tk_X4_readFactor.at 24 rfl) fl_x4_25 hC.1.1.1 rfl rfl ?_
        refine X_iload_n (tk_X4_readFactor.at 25 rfl) rfl ?_
        refine X_i2c (tk_X4_readFactor.at 26 rfl) ?_
        refine X_cT1i (lv2 := [(0, _), (1, _)]) (tk_X4_readFactor.at 27 rfl) mv_J0_indexOf_0f7a4 lk_x4_68 np_J0_indexOf_0f7a4 (hC.2.1 s.1 false c C u hC.1.2.1).1 rfl (Nat.le_of_ble_eq_true rfl) (Nat.le_of_ble_eq_true rfl) rfl (cj_indexOf (m := m) (hC.2.1 _ _ _ _) hC.1.2.1 (by rw [em_, i2c_n hm]) hm ?_)
        refine X_iadd (tk_X4_readFactor.at 28 rfl) ?_
        have hz := nm_tr u hC.1.2.1 m hm c22
        have hin := hr_in (T := T) (n := n) (s := s) (fun e => by rw [e] at em_; exact absurd (show nI m < 0 from by rw [← em_]; decide) (nI_pos (by omega)))
        refine X_cV1v (lv2 := [(0, _), (1, _)]) (tk_X4_readFactor.at 29 rfl) mv_X6_add lk_x4_58 np_X6_add hC.1.1.2.1 (by decide) rfl (Nat.le_of_ble_eq_true rfl) (Nat.le_of_ble_eq_true rfl) rfl (rd_em (s := s) (v' := 10000 + nmU u (nI m)) hC.1.1 hrel (fun _ => by have := hin.2; have := hC.1.2.2.2; omega) hz.1.symm (fun w2 c2 C2 hr2 => ?_))
        refine X_aload_n (tk_X4_readFactor.at 30 rfl) rfl ?_
        refine X_dup (tk_X4_readFactor.at 31 rfl) rfl ?_
        refine X_getI (tk_X4_readFactor.at 32 rfl) fl_x4_29 hC.1.1.1 rfl ?_
        refine X_iconst (tk_X4_readFactor.at 33 rfl) ci_1 ?_
        refine X_iadd (tk_X4_readFactor.at 34 rfl) ?_
        refine X_putI (tk_X4_readFactor.at 35 rfl) fl_x4_29 hC.1.1.1 rfl rfl ⟨rfl, rfl⟩ ?_
        rw [RM3, nI_1, RM_p]
        refine X_goto (tgt := 118) (tk_X4_readFactor.at 36 rfl) (by decide) ?_
        refine X_return (tk_X4_readFactor.at 62 rfl) rfl ?_
        have hnn : ¬ (hr T n s = 33 ∨ hr T n s = 40) := by rw [em_]; exact hz.2
        have hnb : ¬ (hr T n s < 0 ∨ nmU u (hr T n s) < 0) := by rw [em_]; exact fun g => g.elim (fun q => nI_pos (by omega) q) (fun q => c22 q)
        have z := hK w2 c2 C2 (by rw [pF_nam hnn hd hnb, em_]; exact hr2)
        rw [pF_nam hnn hd hnb, em_] at z
        exact z
