set_option maxHeartbeats 1000000 in
theorem c10_join {G : Gl} {d : Nat} {S : Sh} {μ : Mu} {o : Nat} {q : Nat → Nat} {r : Int32} {K : Int32 → Sh → Mu → Prop} (hM : MS S o q) (hw : WF (μ (o + 1))) (k1 : ¬ In r (nv (μ (o + 1) 3)) → K (-1000000001) S (er μ o 1)) (k2 : ∀ a k, a < nv (μ (o + 1) 3) → k < nv (μ (o + 1) 4) → r = nI a → μ (o + 1) (134 + k) = nI a → K (-1000000003) S (er μ o 3)) (k3 : ∀ a, a < nv (μ (o + 1) 3) → r = nI a → (∀ k, k < nv (μ (o + 1) 4) → ¬ μ (o + 1) (134 + k) = nI a) → K (nI (nv (μ (o + 1) 4))) S (Mx μ (o + 1) (upd (upd (μ (o + 1)) (134 + nv (μ (o + 1) 4)) r) 4 (nI (nv (μ (o + 1) 4) + 1))))) : X G mi_X10_join (d + 2) 0 0 [(0, .ref o), (1, .int r)] [] S μ (qi K) := by
  have w0 := hw.n0
  have w1 := hw.n1
  have w2 := hw.n2
  have w3 := hw.n3
  have w4 := hw.n4
  have w5 := hw.n5
  have w6 := hw.n6
  have b1 := w1.2
  have b2 := w2.2
  have b3 := w3.2
  have b4 := w4.2
  have b5 := w5.2
  have b6 := w6.2
  have b0 := w0.2
  refine X_aload_n (tk_X10_join.at 0 rfl) rfl ?_
  refine X_iload_n (tk_X10_join.at 1 rfl) rfl ?_
  refine X_iconst (tk_X10_join.at 2 rfl) ci_3 ?_
  refine X_cV2i (lv2 := [(0, _), (1, _), (2, _)]) (tk_X10_join.at 3 rfl) mv_X10_is lk_x10_90 np_X10_is hM.f0 (by decide) rfl (Nat.le_of_ble_eq_true rfl) (Nat.le_of_ble_eq_true rfl) rfl (c10_is hM (pl 3 rfl) (by decide) w3.1 (by omega) (fun j3 hj3 ej3 => ?_) (fun hj3 => ?_))
  · refine X_if_ne (tgt := 16) (tk_X10_join.at 4 rfl) (by decide) (fun _ => ?_) (fun h => absurd h (by decide))
    refine X_aload_n (tk_X10_join.at 9 rfl) rfl ?_
    refine X_iload_n (tk_X10_join.at 10 rfl) rfl ?_
    refine X_cV1i (lv2 := [(0, _), (1, _)]) (tk_X10_join.at 11 rfl) mv_X10_inLine lk_x10_139 np_X10_inLine hM.f0 (by decide) rfl (Nat.le_of_ble_eq_true rfl) (Nat.le_of_ble_eq_true rfl) rfl (c10_inLine hM hw (fun k18 hk18 h18 => ?_) (fun h18 => ?_))
    · refine X_if_ltN (tgt := 31) (tk_X10_join.at 12 rfl) (by decide) (pl k18 rfl) (by omega) ?_
      refine X_aload_n (tk_X10_join.at 13 rfl) rfl ?_
      refine X_ldc (tk_X10_join.at 14 rfl) kn_x10_131 ?_
      refine X_cV1i (lv2 := [(0, _), (1, _)]) (tk_X10_join.at 15 rfl) mv_X10_finding lk_x10_82 np_X10_finding hM.f0 (by decide) rfl (Nat.le_of_ble_eq_true rfl) (Nat.le_of_ble_eq_true rfl) rfl (c10_finding (k := 3) hM (by decide) (by decide) ?_)
      refine X_ireturn (tk_X10_join.at 16 rfl) rfl rfl ?_
      exact k2 j3 k18 hj3 hk18 ej3 (by rw [← ej3]; exact h18)
    · refine X_if_lt (tgt := 31) (tk_X10_join.at 12 rfl) (by decide) (fun _ => ?_) (fun h => absurd h (by decide))
      refine X_aload_n (tk_X10_join.at 17 rfl) rfl ?_
      refine X_getR (tk_X10_join.at 18 rfl) fl_x10_9 hM.f0 rfl rfl ?_
      refine X_sipush (tk_X10_join.at 19 rfl) cs_134 ?_
      refine X_aload_n (tk_X10_join.at 20 rfl) rfl ?_
      refine X_getR (tk_X10_join.at 21 rfl) fl_x10_9 hM.f0 rfl rfl ?_
      refine X_iconst (tk_X10_join.at 22 rfl) ci_4 ?_
      refine X_ialdN (k := 4) (tk_X10_join.at 23 rfl) hM.f1 (pz (pl 4 rfl) (by omega)) (by omega) (by decide) ?_
      refine X_iadd (tk_X10_join.at 24 rfl) ?_
      refine X_iload_n (tk_X10_join.at 25 rfl) rfl ?_
      refine X_iastN (k := 134 + (nv (μ (o + 1) 4))) (tk_X10_join.at 26 rfl) hM.f1 (pz (pa (pl 134 rfl) w4.1) (by omega)) (by omega) (by decide) ?_
      refine X_aload_n (tk_X10_join.at 27 rfl) rfl ?_
      refine X_getR (tk_X10_join.at 28 rfl) fl_x10_9 hM.f0 rfl rfl ?_
      refine X_iconst (tk_X10_join.at 29 rfl) ci_4 ?_
      refine X_dup2 (tk_X10_join.at 30 rfl) rfl rfl ?_
      refine X_ialdN (k := 4) (tk_X10_join.at 31 rfl) hM.f1 (pz (pl 4 rfl) (by omega)) (by omega) (by decide) ?_
      refine X_iconst (tk_X10_join.at 32 rfl) ci_1 ?_
      refine X_iadd (tk_X10_join.at 33 rfl) ?_
      refine X_iastN (k := 4) (tk_X10_join.at 34 rfl) hM.f1 (pz (pl 4 rfl) (by omega)) (by omega) (by decide) ?_
      refine X_aload_n (tk_X10_join.at 35 rfl) rfl ?_
      refine X_getR (tk_X10_join.at 36 rfl) fl_x10_9 hM.f0 rfl rfl ?_
      refine X_iconst (tk_X10_join.at 37 rfl) ci_4 ?_
      refine X_ialdN (k := 4) (tk_X10_join.at 38 rfl) hM.f1 (pz (pl 4 rfl) (by omega)) (by omega) (by decide) ?_
      refine X_iconst (tk_X10_join.at 39 rfl) ci_1 ?_
      refine X_isub (tk_X10_join.at 40 rfl) ?_
      refine X_ireturn (tk_X10_join.at 41 rfl) rfl rfl ?_
      have e1 : upd (μ (o + 1)) (134 + nv (μ (o + 1) 4)) r 4 = nI (nv (μ (o + 1) 4)) := by rw [upd_ne _ _ (by omega)]; exact w4.1
      have e2 : (su (su μ (o + 1) (134 + (nv (μ (o + 1) 4))) r) (o + 1) 4 (((su μ (o + 1) (134 + (nv (μ (o + 1) 4))) r) (o + 1) 4) + 1)) = Mx μ (o + 1) (upd (upd (μ (o + 1)) (134 + nv (μ (o + 1) 4)) r) 4 (nI (nv (μ (o + 1) 4) + 1))) := by simp only [su_eq, Mx_same, Mx_Mx, e1, ← nI_succ]
      rw [e2, Mx_same, upd_at, nI_pred]
      exact k3 j3 hj3 ej3 (fun k hk z => h18 k hk (by rw [ej3]; exact z))
  · refine X_if_ne (tgt := 16) (tk_X10_join.at 4 rfl) (by decide) (fun h => absurd h (by decide)) (fun _ => ?_)
    refine X_aload_n (tk_X10_join.at 5 rfl) rfl ?_
    refine X_ldc (tk_X10_join.at 6 rfl) kn_x10_81 ?_
    refine X_cV1i (lv2 := [(0, _), (1, _)]) (tk_X10_join.at 7 rfl) mv_X10_finding lk_x10_82 np_X10_finding hM.f0 (by decide) rfl (Nat.le_of_ble_eq_true rfl) (Nat.le_of_ble_eq_true rfl) rfl (c10_finding (k := 1) hM (by decide) (by decide) ?_)
    refine X_ireturn (tk_X10_join.at 8 rfl) rfl rfl ?_
    exact k1 (In_no (by omega) hj3)
set_option maxHeartbeats 1000000 in
theorem c10_clear {G : Gl} {d : Nat} {S : Sh} {μ : Mu} {o : Nat} {q : Nat → Nat} {K : Int32 → Sh → Mu → Prop} (hM : MS S o q) (hK : K (μ (o + 1) 4) S (su μ (o + 1) 4 0)) : X G mi_X10_clear (d + 1) 0 0 [(0, .ref o)] [] S μ (qi K) := by
  refine X_aload_n (tk_X10_clear.at 0 rfl) rfl ?_
  refine X_iconst (tk_X10_clear.at 1 rfl) ci_4 ?_
  refine X_iconst (tk_X10_clear.at 2 rfl) ci_0 ?_
  refine X_cV2i (lv2 := [(0, _), (1, _), (2, _)]) (tk_X10_clear.at 3 rfl) mv_X10_become lk_x10_112 np_X10_become hM.f0 (by decide) rfl (Nat.le_of_ble_eq_true rfl) (Nat.le_of_ble_eq_true rfl) rfl (c10_become (k := 4) hM (pz (pl 4 rfl) (by omega)) (by omega) ?_)
  refine X_ireturn (tk_X10_clear.at 4 rfl) rfl rfl ?_
  exact hK
set_option maxHeartbeats 1000000 in
theorem c10_isInLine {G : Gl} {d : Nat} {S : Sh} {μ : Mu} {o : Nat} {q : Nat → Nat} {p : Int32} {pn : Nat} {K : Int32 → Sh → Mu → Prop} (hM : MS S o q) (hw : WF (μ (o + 1))) (hp : p = nI pn) (kt : ∀ r i k, On (μ (o + 1)) r i pn → k < nv (μ (o + 1) 4) → μ (o + 1) (134 + k) = nI r → K 1 S μ) (kf : (∀ r i k, On (μ (o + 1)) r i pn → k < nv (μ (o + 1) 4) → μ (o + 1) (134 + k) = nI r → False) → K 0 S μ) : X G mi_X10_isInLine (d + 3) 0 0 [(0, .ref o), (1, .int p)] [] S μ (qi K) := by
  have w0 := hw.n0
  have w1 := hw.n1
  have w2 := hw.n2
  have w3 := hw.n3
  have w4 := hw.n4
  have w5 := hw.n5
  have w6 := hw.n6
  have b1 := w1.2
  have b2 := w2.2
  have b3 := w3.2
  have b4 := w4.2
  have b5 := w5.2
  have b6 := w6.2
  have b0 := w0.2
  refine X_aload_n (tk_X10_isInLine.at 0 rfl) rfl ?_
  refine X_iload_n (tk_X10_isInLine.at 1 rfl) rfl ?_
  refine X_cV1i (lv2 := [(0, _), (1, _)]) (tk_X10_isInLine.at 2 rfl) mv_X10_ropeOf lk_x10_98 np_X10_ropeOf hM.f0 (by decide) rfl (Nat.le_of_ble_eq_true rfl) (Nat.le_of_ble_eq_true rfl) rfl (c10_ropeOf hM hw hp (fun r2 i2 h2 => ?_) (fun h2 => ?_))
  · have g2 := h2.1
    refine X_if_ltN (tgt := 24) (tk_X10_isInLine.at 3 rfl) (by decide) (pl r2 rfl) (by omega) ?_
    refine X_aload_n (tk_X10_isInLine.at 4 rfl) rfl ?_
    refine X_aload_n (tk_X10_isInLine.at 5 rfl) rfl ?_
    refine X_iload_n (tk_X10_isInLine.at 6 rfl) rfl ?_
    refine X_cV1i (lv2 := [(0, _), (1, _)]) (tk_X10_isInLine.at 7 rfl) mv_X10_ropeOf lk_x10_98 np_X10_ropeOf hM.f0 (by decide) rfl (Nat.le_of_ble_eq_true rfl) (Nat.le_of_ble_eq_true rfl) rfl (c10_ropeOf hM hw hp (fun r11 i11 h11 => ?_) (fun h11 => absurd h2 (h11 _ _)))
    have g11 := h11.1
    refine X_cV1i (lv2 := [(0, _), (1, _)]) (tk_X10_isInLine.at 8 rfl) mv_X10_inLine lk_x10_139 np_X10_inLine hM.f0 (by decide) rfl (Nat.le_of_ble_eq_true rfl) (Nat.le_of_ble_eq_true rfl) rfl (c10_inLine hM hw (fun k14 hk14 h14 => ?_) (fun h14 => ?_))
    · refine X_if_ltN (tgt := 24) (tk_X10_isInLine.at 9 rfl) (by decide) (pl k14 rfl) (by omega) ?_
      refine X_iconst (tk_X10_isInLine.at 10 rfl) ci_1 ?_
      refine X_goto (tgt := 25) (tk_X10_isInLine.at 11 rfl) (by decide) ?_
      refine X_ireturn (tk_X10_isInLine.at 13 rfl) rfl rfl ?_
      exact kt r11 i11 k14 h11 hk14 h14
    · refine X_if_lt (tgt := 24) (tk_X10_isInLine.at 9 rfl) (by decide) (fun _ => ?_) (fun h => absurd h (by decide))
      refine X_iconst (tk_X10_isInLine.at 12 rfl) ci_0 ?_
      refine X_ireturn (tk_X10_isInLine.at 13 rfl) rfl rfl ?_
      exact kf (fun r i k h1 h3 h4 => by obtain ⟨rfl, rfl⟩ := hw.un h1 h11; exact h14 k h3 h4)
  · refine X_if_lt (tgt := 24) (tk_X10_isInLine.at 3 rfl) (by decide) (fun _ => ?_) (fun h => absurd h (by decide))
    refine X_iconst (tk_X10_isInLine.at 12 rfl) ci_0 ?_
    refine X_ireturn (tk_X10_isInLine.at 13 rfl) rfl rfl ?_
    exact kf (fun r i k h1 _ _ => h2 r i h1)
set_option maxHeartbeats 1000000 in
theorem c10_when {G : Gl} {d : Nat} {S : Sh} {μ : Mu} {o : Nat} {q : Nat → Nat} {r c w : Int32} {K : Int32 → Sh → Mu → Prop} (hM : MS S o q) (hw : WF (μ (o + 1))) (k1 : ¬ (In r (nv (μ (o + 1) 3)) ∧ In c (nv (μ (o + 1) 2)) ∧ (0 ≤ w ∧ w ≤ 1)) → K (-1000000001) S (er μ o 1)) (k2 : ∀ a b, a < nv (μ (o + 1) 3) → b < nv (μ (o + 1) 2) → r = nI a → c = nI b → (0 ≤ w ∧ w ≤ 1) → ((∀ k, k < nv (μ (o + 1) 4) → ¬ μ (o + 1) (134 + k) = nI a) ∨ mny (μ (o + 1)) a = 0) → K (-1000000002) S (er μ o 2)) (k3 : ∀ a b k cm bf, a < nv (μ (o + 1) 3) → b < nv (μ (o + 1) 2) → r = nI a → c = nI b → w = nI 0 → k < nv (μ (o + 1) 4) → lnA (μ (o + 1)) k = a → 0 < mny (μ (o + 1)) a → CrI (μ (o + 1)) cm bf (nv (μ (o + 1) 4)) → K (nI (arv (μ (o + 1)) k b)) S (Tst μ o (nI (ovr (μ (o + 1)) (nv (μ (o + 1) 4)))) cm bf (μ (o + 7)) (μ (o + 8)))) (k4 : ∀ a b k cm bf, a < nv (μ (o + 1) 3) → b < nv (μ (o + 1) 2) → r = nI a → c = nI b → w = nI 1 → k < nv (μ (o + 1) 4) → lnA (μ (o + 1)) k = a → 0 < mny (μ (o + 1)) a → CrI (μ (o + 1)) cm bf (nv (μ (o + 1) 4)) → K (nI (arv (μ (o + 1)) k b + pac (μ (o + 1)) a)) S (Tst μ o (nI (ovr (μ (o + 1)) (nv (μ (o + 1) 4)))) cm bf (μ (o + 7)) (μ (o + 8)))) : X G mi_X10_when (d + 4) 0 0 [(0, .ref o), (1, .int r), (2, .int c), (3, .int w)] [] S μ (qi K) := by
  have w0 := hw.n0
  have w1 := hw.n1
  have w2 := hw.n2
  have w3 := hw.n3
  have w4 := hw.n4
  have w5 := hw.n5
  have w6 := hw.n6
  have b1 := w1.2
  have b2 := w2.2
  have b3 := w3.2
  have b4 := w4.2
  have b5 := w5.2
  have b6 := w6.2
  have b0 := w0.2
  refine X_aload_n (tk_X10_when.at 0 rfl) rfl ?_
  refine X_iload_n (tk_X10_when.at 1 rfl) rfl ?_
  refine X_iconst (tk_X10_when.at 2 rfl) ci_3 ?_
  refine X_cV2i (lv2 := [(0, _), (1, _), (2, _)]) (tk_X10_when.at 3 rfl) mv_X10_is lk_x10_90 np_X10_is hM.f0 (by decide) rfl (Nat.le_of_ble_eq_true rfl) (Nat.le_of_ble_eq_true rfl) rfl (c10_is hM (pl 3 rfl) (by decide) w3.1 (by omega) (fun j3 hj3 ej3 => ?_) (fun hj3 => ?_))
  · refine X_if_eq (tgt := 27) (tk_X10_when.at 4 rfl) (by decide) (fun h => absurd h (by decide)) (fun _ => ?_)
    refine X_aload_n (tk_X10_when.at 5 rfl) rfl ?_
    refine X_iload_n (tk_X10_when.at 6 rfl) rfl ?_
    refine X_iconst (tk_X10_when.at 7 rfl) ci_2 ?_
    refine X_cV2i (lv2 := [(0, _), (1, _), (2, _)]) (tk_X10_when.at 8 rfl) mv_X10_is lk_x10_90 np_X10_is hM.f0 (by decide) rfl (Nat.le_of_ble_eq_true rfl) (Nat.le_of_ble_eq_true rfl) rfl (c10_is hM (pl 2 rfl) (by decide) w2.1 (by omega) (fun j12 hj12 ej12 => ?_) (fun hj12 => ?_))
    · refine X_if_eq (tgt := 27) (tk_X10_when.at 9 rfl) (by decide) (fun h => absurd h (by decide)) (fun _ => ?_)
      refine X_iload_n (tk_X10_when.at 10 rfl) rfl ?_
      refine X_iconst (tk_X10_when.at 11 rfl) ci_0 ?_
      refine X_iconst (tk_X10_when.at 12 rfl) ci_1 ?_
      refine X_cS3i (lv2 := [(0, _), (1, _), (2, _)]) (tk_X10_when.at 13 rfl) ms_X10_within lk_x10_69 np_X10_within (Nat.le_of_ble_eq_true rfl) (Nat.le_of_ble_eq_true rfl) rfl (c10_within (fun h21 h1021 => ?_) (fun h21 => ?_))
      · obtain ⟨ew21, lw21, bw21⟩ := le_lits (a := 0) (b := 1) (by decide) h21 h1021 (by decide)
        refine X_if_ne (tgt := 34) (tk_X10_when.at 14 rfl) (by decide) (fun _ => ?_) (fun h => absurd h (by decide))
        refine X_aload_n (tk_X10_when.at 19 rfl) rfl ?_
        refine X_iload_n (tk_X10_when.at 20 rfl) rfl ?_
        refine X_cV1i (lv2 := [(0, _), (1, _)]) (tk_X10_when.at 21 rfl) mv_X10_inLine lk_x10_139 np_X10_inLine hM.f0 (by decide) rfl (Nat.le_of_ble_eq_true rfl) (Nat.le_of_ble_eq_true rfl) rfl (c10_inLine hM hw (fun k36 hk36 h36 => ?_) (fun h36 => ?_))
        · refine X_if_ltN (tgt := 50) (tk_X10_when.at 22 rfl) (by decide) (pl k36 rfl) (by omega) ?_
          have wm := (hw.ro (p := j3) hj3).2.2.2.1
          have bm := wm.2
          refine X_aload_n (tk_X10_when.at 23 rfl) rfl ?_
          refine X_iload_n (tk_X10_when.at 24 rfl) rfl ?_
          refine X_cV1i (lv2 := [(0, _), (1, _)]) (tk_X10_when.at 25 rfl) mv_X10_many lk_x10_118 np_X10_many hM.f0 (by decide) rfl (Nat.le_of_ble_eq_true rfl) (Nat.le_of_ble_eq_true rfl) rfl (c10_many hM ej3 (by omega) ?_)
          refine X_if_neN (tgt := 57) (tk_X10_when.at 26 rfl) (by decide) wm.1 (by omega) (fun c5 => ?_) (fun c5 => ?_)
          · have hpos : 0 < mny (μ (o + 1)) j3 := Nat.pos_of_ne_zero c5
            have hpos0 := hpos
            refine X_aload_n (tk_X10_when.at 31 rfl) rfl ?_
            refine X_cV0v (lv2 := [(0, _)]) (tk_X10_when.at 32 rfl) mv_X10_cross lk_x10_255 np_X10_cross hM.f0 (by decide) rfl (Nat.le_of_ble_eq_true rfl) (Nat.le_of_ble_eq_true rfl) rfl (c10_cross hM rfl hw (fun cm bf hI => ?_))
            refine X_aload_n (tk_X10_when.at 33 rfl) rfl ?_
            refine X_getR (tk_X10_when.at 34 rfl) fl_x10_41 hM.f0 rfl rfl ?_
            refine X_bipush (tk_X10_when.at 35 rfl) cb_8 ?_
            refine X_iload_n (tk_X10_when.at 36 rfl) rfl ?_
            refine X_imul (tk_X10_when.at 37 rfl) ?_
            refine X_iload_n (tk_X10_when.at 38 rfl) rfl ?_
            refine X_iadd (tk_X10_when.at 39 rfl) ?_
            refine X_ialdN (k := 8 * j3 + j12) (tk_X10_when.at 40 rfl) hM.f9 (pz (pa (pm (pl 8 rfl) ej3) ej12) (by omega)) (by omega) (by decide) ?_
            rw [Tst9]
            refine X_iload_n (tk_X10_when.at 41 rfl) rfl ?_
            refine X_iconst (tk_X10_when.at 42 rfl) ci_1 ?_
            refine X_icmp_neN (tgt := 85) (tk_X10_when.at 43 rfl) (by decide) ew21 (pl 1 rfl) (by omega) (by omega) (fun c6 => ?_) (fun c6 => ?_)
            · refine X_iconst (tk_X10_when.at 48 rfl) ci_0 ?_
              refine X_iadd (tk_X10_when.at 49 rfl) ?_
              refine X_ireturn (tk_X10_when.at 50 rfl) rfl rfl ?_
              have el : lnA (μ (o + 1)) k36 = j3 := by show nv (μ (o + 1) (134 + k36)) = j3; rw [h36, ej3]; exact nv_nI (by omega)
              rw [← el] at hpos
              have ec := hI.2 k36 hk36 hpos j12 hj12
              rw [el] at ec
              rw [ec, show nI (arv (μ (o + 1)) k36 j12) + 0 = nI (arv (μ (o + 1)) k36 j12) from Int32.add_zero _]
              exact k3 j3 j12 k36 cm bf hj3 hj12 ej3 ej12 (pz ew21 (by omega)) hk36 el hpos0 hI
            · refine X_aload_n (tk_X10_when.at 44 rfl) rfl ?_
              refine X_iload_n (tk_X10_when.at 45 rfl) rfl ?_
              refine X_cV1i (lv2 := [(0, _), (1, _)]) (tk_X10_when.at 46 rfl) mv_X10_paceOf lk_x10_252 np_X10_paceOf hM.f0 (by decide) rfl (Nat.le_of_ble_eq_true rfl) (Nat.le_of_ble_eq_true rfl) rfl (c10_paceOf hM (Tst1 _ _ _ _ _ _ _) hw ej3 hj3 ?_)
              refine X_goto (tgt := 86) (tk_X10_when.at 47 rfl) (by decide) ?_
              refine X_iadd (tk_X10_when.at 49 rfl) ?_
              refine X_ireturn (tk_X10_when.at 50 rfl) rfl rfl ?_
              have el : lnA (μ (o + 1)) k36 = j3 := by show nv (μ (o + 1) (134 + k36)) = j3; rw [h36, ej3]; exact nv_nI (by omega)
              rw [← el] at hpos
              have ec := hI.2 k36 hk36 hpos j12 hj12
              rw [el] at ec
              rw [ec]
              have z := k4 j3 j12 k36 cm bf hj3 hj12 ej3 ej12 (pz ew21 c6) hk36 el
              rw [nI_add]
              exact z hpos0 hI
          · refine X_aload_n (tk_X10_when.at 27 rfl) rfl ?_
            refine X_ldc (tk_X10_when.at 28 rfl) kn_x10_108 ?_
            refine X_cV1i (lv2 := [(0, _), (1, _)]) (tk_X10_when.at 29 rfl) mv_X10_finding lk_x10_82 np_X10_finding hM.f0 (by decide) rfl (Nat.le_of_ble_eq_true rfl) (Nat.le_of_ble_eq_true rfl) rfl (c10_finding (k := 2) hM (by decide) (by decide) ?_)
            refine X_ireturn (tk_X10_when.at 30 rfl) rfl rfl ?_
            exact k2 j3 j12 hj3 hj12 ej3 ej12 ⟨h21, h1021⟩ (Or.inr c5)
        · refine X_if_lt (tgt := 50) (tk_X10_when.at 22 rfl) (by decide) (fun _ => ?_) (fun h => absurd h (by decide))
          refine X_aload_n (tk_X10_when.at 27 rfl) rfl ?_
          refine X_ldc (tk_X10_when.at 28 rfl) kn_x10_108 ?_
          refine X_cV1i (lv2 := [(0, _), (1, _)]) (tk_X10_when.at 29 rfl) mv_X10_finding lk_x10_82 np_X10_finding hM.f0 (by decide) rfl (Nat.le_of_ble_eq_true rfl) (Nat.le_of_ble_eq_true rfl) rfl (c10_finding (k := 2) hM (by decide) (by decide) ?_)
          refine X_ireturn (tk_X10_when.at 30 rfl) rfl rfl ?_
          exact k2 j3 j12 hj3 hj12 ej3 ej12 ⟨h21, h1021⟩ (Or.inl (fun k hk z => h36 k hk (by rw [ej3]; exact z)))
      · refine X_if_ne (tgt := 34) (tk_X10_when.at 14 rfl) (by decide) (fun h => absurd h (by decide)) (fun _ => ?_)
        refine X_aload_n (tk_X10_when.at 15 rfl) rfl ?_
        refine X_ldc (tk_X10_when.at 16 rfl) kn_x10_81 ?_
        refine X_cV1i (lv2 := [(0, _), (1, _)]) (tk_X10_when.at 17 rfl) mv_X10_finding lk_x10_82 np_X10_finding hM.f0 (by decide) rfl (Nat.le_of_ble_eq_true rfl) (Nat.le_of_ble_eq_true rfl) rfl (c10_finding (k := 1) hM (by decide) (by decide) ?_)
        refine X_ireturn (tk_X10_when.at 18 rfl) rfl rfl ?_
        exact k1 (fun g => by obtain ⟨a1, a2, a3⟩ := g; first | exact h21 a3 | exact In_no (by omega) hj12 a2 | exact In_no (by omega) hj3 a1)
    · refine X_if_eq (tgt := 27) (tk_X10_when.at 9 rfl) (by decide) (fun _ => ?_) (fun h => absurd h (by decide))
      refine X_aload_n (tk_X10_when.at 15 rfl) rfl ?_
      refine X_ldc (tk_X10_when.at 16 rfl) kn_x10_81 ?_
      refine X_cV1i (lv2 := [(0, _), (1, _)]) (tk_X10_when.at 17 rfl) mv_X10_finding lk_x10_82 np_X10_finding hM.f0 (by decide) rfl (Nat.le_of_ble_eq_true rfl) (Nat.le_of_ble_eq_true rfl) rfl (c10_finding (k := 1) hM (by decide) (by decide) ?_)
      refine X_ireturn (tk_X10_when.at 18 rfl) rfl rfl ?_
      exact k1 (fun g => by obtain ⟨a1, a2, a3⟩ := g; first | exact h21 a3 | exact In_no (by omega) hj12 a2 | exact In_no (by omega) hj3 a1)
  · refine X_if_eq (tgt := 27) (tk_X10_when.at 4 rfl) (by decide) (fun _ => ?_) (fun h => absurd h (by decide))
    refine X_aload_n (tk_X10_when.at 15 rfl) rfl ?_
    refine X_ldc (tk_X10_when.at 16 rfl) kn_x10_81 ?_
    refine X_cV1i (lv2 := [(0, _), (1, _)]) (tk_X10_when.at 17 rfl) mv_X10_finding lk_x10_82 np_X10_finding hM.f0 (by decide) rfl (Nat.le_of_ble_eq_true rfl) (Nat.le_of_ble_eq_true rfl) rfl (c10_finding (k := 1) hM (by decide) (by decide) ?_)
    refine X_ireturn (tk_X10_when.at 18 rfl) rfl rfl ?_
    exact k1 (fun g => by obtain ⟨a1, a2, a3⟩ := g; first | exact h21 a3 | exact In_no (by omega) hj12 a2 | exact In_no (by omega) hj3 a1)
set_option maxHeartbeats 1000000 in
theorem c10_risk {G : Gl} {d : Nat} {S : Sh} {μ : Mu} {o : Nat} {q : Nat → Nat} {p c : Int32} {K : Int32 → Sh → Mu → Prop} (hM : MS S o q) (hw : WF (μ (o + 1))) (k1 : ¬ (In p (nv (μ (o + 1) 1)) ∧ In c (nv (μ (o + 1) 2))) → K (-1000000001) S (er μ o 1)) (k2 : ∀ pn x, pn < nv (μ (o + 1) 1) → x < nv (μ (o + 1) 2) → p = nI pn → c = nI x → (∀ r i k, On (μ (o + 1)) r i pn → k < nv (μ (o + 1) 4) → μ (o + 1) (134 + k) = nI r → False) → K (-1000000002) S (er μ o 2)) (k3 : ∀ b x r i k cm bf h P, b < nv (μ (o + 1) 1) → x < nv (μ (o + 1) 2) → p = nI b → c = nI x → On (μ (o + 1)) r i b → k < nv (μ (o + 1) 4) → lnA (μ (o + 1)) k = r → CrI (μ (o + 1)) cm bf (nv (μ (o + 1) 4)) → K (nI (rkc (μ (o + 1)) k i x)) S (Tst μ o (nI (ovr (μ (o + 1)) (nv (μ (o + 1) 4)))) cm bf h P)) : X G mi_X10_risk (d + 4) 0 0 [(0, .ref o), (1, .int p), (2, .int c)] [] S μ (qi K) := by
  have w0 := hw.n0
  have w1 := hw.n1
  have w2 := hw.n2
  have w3 := hw.n3
  have w4 := hw.n4
  have w5 := hw.n5
  have w6 := hw.n6
  have b1 := w1.2
  have b2 := w2.2
  have b3 := w3.2
  have b4 := w4.2
  have b5 := w5.2
  have b6 := w6.2
  have b0 := w0.2
  refine X_aload_n (tk_X10_risk.at 0 rfl) rfl ?_
  refine X_iload_n (tk_X10_risk.at 1 rfl) rfl ?_
  refine X_iconst (tk_X10_risk.at 2 rfl) ci_1 ?_
  refine X_cV2i (lv2 := [(0, _), (1, _), (2, _)]) (tk_X10_risk.at 3 rfl) mv_X10_is lk_x10_90 np_X10_is hM.f0 (by decide) rfl (Nat.le_of_ble_eq_true rfl) (Nat.le_of_ble_eq_true rfl) rfl (c10_is hM (pl 1 rfl) (by decide) w1.1 (by omega) (fun j3 hj3 ej3 => ?_) (fun hj3 => ?_))
  · refine X_if_eq (tgt := 18) (tk_X10_risk.at 4 rfl) (by decide) (fun h => absurd h (by decide)) (fun _ => ?_)
    refine X_aload_n (tk_X10_risk.at 5 rfl) rfl ?_
    refine X_iload_n (tk_X10_risk.at 6 rfl) rfl ?_
    refine X_iconst (tk_X10_risk.at 7 rfl) ci_2 ?_
    refine X_cV2i (lv2 := [(0, _), (1, _), (2, _)]) (tk_X10_risk.at 8 rfl) mv_X10_is lk_x10_90 np_X10_is hM.f0 (by decide) rfl (Nat.le_of_ble_eq_true rfl) (Nat.le_of_ble_eq_true rfl) rfl (c10_is hM (pl 2 rfl) (by decide) w2.1 (by omega) (fun j12 hj12 ej12 => ?_) (fun hj12 => ?_))
    · refine X_if_ne (tgt := 25) (tk_X10_risk.at 9 rfl) (by decide) (fun _ => ?_) (fun h => absurd h (by decide))
      refine X_aload_n (tk_X10_risk.at 14 rfl) rfl ?_
      refine X_iload_n (tk_X10_risk.at 15 rfl) rfl ?_
      refine X_cV1i (lv2 := [(0, _), (1, _)]) (tk_X10_risk.at 16 rfl) mv_X10_isInLine lk_x10_261 np_X10_isInLine hM.f0 (by decide) rfl (Nat.le_of_ble_eq_true rfl) (Nat.le_of_ble_eq_true rfl) rfl (c10_isInLine hM hw ej3 (fun r27 i27 k27 h27 hk27 hl27 => ?_) (fun h27 => ?_))
      · refine X_if_ne (tgt := 40) (tk_X10_risk.at 17 rfl) (by decide) (fun _ => ?_) (fun h => absurd h (by decide))
        refine X_aload_n (tk_X10_risk.at 22 rfl) rfl ?_
        refine X_cV0v (lv2 := [(0, _)]) (tk_X10_risk.at 23 rfl) mv_X10_cross lk_x10_255 np_X10_cross hM.f0 (by decide) rfl (Nat.le_of_ble_eq_true rfl) (Nat.le_of_ble_eq_true rfl) rfl (c10_cross hM rfl hw (fun cm bf hI => ?_))
        refine X_aload_n (tk_X10_risk.at 24 rfl) rfl ?_
        refine X_aload_n (tk_X10_risk.at 25 rfl) rfl ?_
        refine X_iload_n (tk_X10_risk.at 26 rfl) rfl ?_
        refine X_cV1i (lv2 := [(0, _), (1, _)]) (tk_X10_risk.at 27 rfl) mv_X10_ropeOf lk_x10_98 np_X10_ropeOf hM.f0 (by decide) rfl (Nat.le_of_ble_eq_true rfl) (Nat.le_of_ble_eq_true rfl) rfl (c10_ropeOf hM (by rw [Tst1]; exact hw) ej3 (fun r47 i47 h47 => ?_) (fun h47 => absurd h27 (by rw [Tst1] at h47; exact h47 _ _)))
        rw [Tst1] at h47
        refine X_aload_n (tk_X10_risk.at 28 rfl) rfl ?_
        refine X_iload_n (tk_X10_risk.at 29 rfl) rfl ?_
        refine X_cV1i (lv2 := [(0, _), (1, _)]) (tk_X10_risk.at 30 rfl) mv_X10_placeOf lk_x10_101 np_X10_placeOf hM.f0 (by decide) rfl (Nat.le_of_ble_eq_true rfl) (Nat.le_of_ble_eq_true rfl) rfl (c10_placeOf hM (by rw [Tst1]; exact hw) ej3 (fun r52 i52 h52 => ?_) (fun h52 => absurd h27 (by rw [Tst1] at h52; exact h52 _ _)))
        rw [Tst1] at h52
        have e47 := (hw.un h47 h52).1
        subst e47
        have e27 := (hw.un h27 h52).1
        subst e27
        have el : lnA (μ (o + 1)) k27 = r27 := by show nv (μ (o + 1) (134 + k27)) = r27; rw [hl27]; have := h52.1; exact nv_nI (by omega)
        refine X_iload_n (tk_X10_risk.at 31 rfl) rfl ?_
        refine X_cV3i (lv2 := [(0, _), (1, _), (2, _), (3, _)]) (tk_X10_risk.at 32 rfl) mv_X10_riskOf lk_x10_258 np_X10_riskOf hM.f0 (by decide) rfl (Nat.le_of_ble_eq_true rfl) (Nat.le_of_ble_eq_true rfl) rfl (c10_riskOf hM (Tst1 _ _ _ _ _ _ _) hw (pl r27 rfl) h52.1 (pl i52 rfl) h52.2.1 ej12 hj12 (fun h P => ?_))
        rw [Tst_Tst, Tst17, Tst9, Tst10]
        have zr := rk_eq (i := i52) (c := j12) hw hI hk27 (by rw [el]; exact Nat.lt_of_le_of_lt (Nat.zero_le _) h52.2.1) hj12
        rw [el] at zr
        rw [zr]
        refine X_ireturn (tk_X10_risk.at 33 rfl) rfl rfl ?_
        exact k3 j3 j12 r27 i52 k27 cm bf h P hj3 hj12 ej3 ej12 h52 hk27 el hI
      · refine X_if_ne (tgt := 40) (tk_X10_risk.at 17 rfl) (by decide) (fun h => absurd h (by decide)) (fun _ => ?_)
        refine X_aload_n (tk_X10_risk.at 18 rfl) rfl ?_
        refine X_ldc (tk_X10_risk.at 19 rfl) kn_x10_108 ?_
        refine X_cV1i (lv2 := [(0, _), (1, _)]) (tk_X10_risk.at 20 rfl) mv_X10_finding lk_x10_82 np_X10_finding hM.f0 (by decide) rfl (Nat.le_of_ble_eq_true rfl) (Nat.le_of_ble_eq_true rfl) rfl (c10_finding (k := 2) hM (by decide) (by decide) ?_)
        refine X_ireturn (tk_X10_risk.at 21 rfl) rfl rfl ?_
        exact k2 j3 j12 hj3 hj12 ej3 ej12 h27
    · refine X_if_ne (tgt := 25) (tk_X10_risk.at 9 rfl) (by decide) (fun h => absurd h (by decide)) (fun _ => ?_)
      refine X_aload_n (tk_X10_risk.at 10 rfl) rfl ?_
      refine X_ldc (tk_X10_risk.at 11 rfl) kn_x10_81 ?_
      refine X_cV1i (lv2 := [(0, _), (1, _)]) (tk_X10_risk.at 12 rfl) mv_X10_finding lk_x10_82 np_X10_finding hM.f0 (by decide) rfl (Nat.le_of_ble_eq_true rfl) (Nat.le_of_ble_eq_true rfl) rfl (c10_finding (k := 1) hM (by decide) (by decide) ?_)
      refine X_ireturn (tk_X10_risk.at 13 rfl) rfl rfl ?_
      exact k1 (fun g => by first | exact In_no (by omega) hj12 g.2 | exact In_no (by omega) hj3 g.1)
  · refine X_if_eq (tgt := 18) (tk_X10_risk.at 4 rfl) (by decide) (fun _ => ?_) (fun h => absurd h (by decide))
    refine X_aload_n (tk_X10_risk.at 10 rfl) rfl ?_
    refine X_ldc (tk_X10_risk.at 11 rfl) kn_x10_81 ?_
    refine X_cV1i (lv2 := [(0, _), (1, _)]) (tk_X10_risk.at 12 rfl) mv_X10_finding lk_x10_82 np_X10_finding hM.f0 (by decide) rfl (Nat.le_of_ble_eq_true rfl) (Nat.le_of_ble_eq_true rfl) rfl (c10_finding (k := 1) hM (by decide) (by decide) ?_)
    refine X_ireturn (tk_X10_risk.at 13 rfl) rfl rfl ?_
    exact k1 (fun g => by first | exact In_no (by omega) hj12 g.2 | exact In_no (by omega) hj3 g.1)
set_option maxHeartbeats 1000000 in
theorem c10_over {G : Gl} {d : Nat} {S : Sh} {μ : Mu} {o : Nat} {q : Nat → Nat} {K : Int32 → Sh → Mu → Prop} (hM : MS S o q) (hw : WF (μ (o + 1))) (hK : ∀ cm bf, CrI (μ (o + 1)) cm bf (nv (μ (o + 1) 4)) → K (nI (ovr (μ (o + 1)) (nv (μ (o + 1) 4)))) S (Tst μ o (nI (ovr (μ (o + 1)) (nv (μ (o + 1) 4)))) cm bf (μ (o + 7)) (μ (o + 8)))) : X G mi_X10_over (d + 4) 0 0 [(0, .ref o)] [] S μ (qi K) := by
  refine X_aload_n (tk_X10_over.at 0 rfl) rfl ?_
  refine X_cV0v (lv2 := [(0, _)]) (tk_X10_over.at 1 rfl) mv_X10_cross lk_x10_255 np_X10_cross hM.f0 (by decide) rfl (Nat.le_of_ble_eq_true rfl) (Nat.le_of_ble_eq_true rfl) rfl (c10_cross hM rfl hw (fun cm bf hI => ?_))
  refine X_aload_n (tk_X10_over.at 2 rfl) rfl ?_
  refine X_getI (tk_X10_over.at 3 rfl) fl_x10_249 hM.f0 rfl ?_
  rw [Tst17]
  refine X_ireturn (tk_X10_over.at 4 rfl) rfl rfl ?_
  exact hK cm bf hI
set_option maxHeartbeats 1000000 in
theorem c10_toll {G : Gl} {d : Nat} {S : Sh} {μ : Mu} {o : Nat} {q : Nat → Nat} {K : Int32 → Sh → Mu → Prop} (hM : MS S o q) (hw : WF (μ (o + 1))) (hl0 : μ o 5 = 0) (hK : ∀ cm bf h P, CrI (μ (o + 1)) cm bf (nv (μ (o + 1) 4)) → K (nI (toll (μ (o + 1)))) S (Tst μ o (nI (ovr (μ (o + 1)) (nv (μ (o + 1) 4)))) cm bf h P)) : X G mi_X10_toll (d + 8) 0 0 [(0, .ref o)] [] S μ (qi K) := by
  refine X_aload_n (tk_X10_toll.at 0 rfl) rfl ?_
  refine X_cV0i (lv2 := [(0, _)]) (tk_X10_toll.at 1 rfl) mv_X10_tollOf lk_x10_264 np_X10_tollOf hM.f0 (by decide) rfl (Nat.le_of_ble_eq_true rfl) (Nat.le_of_ble_eq_true rfl) rfl (c10_tollOf hM rfl hl0 hw (fun cm bf h P hI => ?_))
  refine X_ireturn (tk_X10_toll.at 2 rfl) rfl rfl ?_
  exact hK cm bf h P hI
