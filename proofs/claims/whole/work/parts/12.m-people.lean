set_option maxHeartbeats 1000000 in
theorem c10_is {G : Gl} {d : Nat} {S : Sh} {μ : Mu} {o : Nat} {q : Nat → Nat} {k c : Int32} {cn n : Nat} {K : Int32 → Sh → Mu → Prop} (hM : MS S o q) (hc : c = nI cn) (hb : cn < 314) (hn : μ (o + 1) cn = nI n) (hn2 : n < 2 ^ 30) (kt : ∀ j, j < n → k = nI j → K 1 S μ) (kf : (k < 0 ∨ nI n ≤ k) → K 0 S μ) : X G mi_X10_is (d + 1) 0 0 [(0, .ref o), (1, .int k), (2, .int c)] [] S μ (qi K) := by
  refine X_iload_n (tk_X10_is.at 0 rfl) rfl ?_
  refine X_iconst (tk_X10_is.at 1 rfl) ci_0 ?_
  refine X_aload_n (tk_X10_is.at 2 rfl) rfl ?_
  refine X_getR (tk_X10_is.at 3 rfl) fl_x10_9 hM.f0 rfl rfl ?_
  refine X_iload_n (tk_X10_is.at 4 rfl) rfl ?_
  refine X_ialdN (k := cn) (tk_X10_is.at 5 rfl) hM.f1 hc (by omega) (by decide) ?_
  refine X_iconst (tk_X10_is.at 6 rfl) ci_1 ?_
  refine X_isub (tk_X10_is.at 7 rfl) ?_
  refine X_cS3i (lv2 := [(0, _), (1, _), (2, _)]) (tk_X10_is.at 8 rfl) ms_X10_within lk_x10_69 np_X10_within (Nat.le_of_ble_eq_true rfl) (Nat.le_of_ble_eq_true rfl) rfl (c10_within (fun h10 h1010 => ?_) (fun h10 => ?_))
  · refine X_ireturn (tk_X10_is.at 9 rfl) rfl rfl ?_
    rw [hn] at h1010
    obtain ⟨j, hj, e⟩ := in_t hn2 h10 h1010
    exact kt j hj e
  · refine X_ireturn (tk_X10_is.at 9 rfl) rfl rfl ?_
    rw [hn] at h10
    exact kf (in_f hn2 h10)
set_option maxHeartbeats 1000000 in
theorem c10_isAsTold {G : Gl} {d : Nat} {S : Sh} {μ : Mu} {w s p g : Int32} {K : Int32 → Sh → Mu → Prop} (kt : Told w s p g → K 1 S μ) (kf : ¬ Told w s p g → K 0 S μ) : X G mi_X10_isAsTold (d + 1) 0 0 [(0, .int w), (1, .int s), (2, .int p), (3, .int g)] [] S μ (qi K) := by
  refine X_iload_n (tk_X10_isAsTold.at 0 rfl) rfl ?_
  refine X_bipush (tk_X10_isAsTold.at 1 rfl) cb_30 ?_
  refine X_sipush (tk_X10_isAsTold.at 2 rfl) cs_300 ?_
  refine X_cS3i (lv2 := [(0, _), (1, _), (2, _)]) (tk_X10_isAsTold.at 3 rfl) ms_X10_within lk_x10_69 np_X10_within (Nat.le_of_ble_eq_true rfl) (Nat.le_of_ble_eq_true rfl) rfl (c10_within (fun h6 h1006 => ?_) (fun h6 => ?_))
  · refine X_if_eq (tgt := 46) (tk_X10_isAsTold.at 4 rfl) (by decide) (fun h => absurd h (by decide)) (fun _ => ?_)
    refine X_iload_n (tk_X10_isAsTold.at 5 rfl) rfl ?_
    refine X_iconst (tk_X10_isAsTold.at 6 rfl) ci_0 ?_
    refine X_sipush (tk_X10_isAsTold.at 7 rfl) cs_999 ?_
    refine X_cS3i (lv2 := [(0, _), (1, _), (2, _)]) (tk_X10_isAsTold.at 8 rfl) ms_X10_within lk_x10_69 np_X10_within (Nat.le_of_ble_eq_true rfl) (Nat.le_of_ble_eq_true rfl) rfl (c10_within (fun h17 h1017 => ?_) (fun h17 => ?_))
    · refine X_if_eq (tgt := 46) (tk_X10_isAsTold.at 9 rfl) (by decide) (fun h => absurd h (by decide)) (fun _ => ?_)
      refine X_iload_n (tk_X10_isAsTold.at 10 rfl) rfl ?_
      refine X_iconst (tk_X10_isAsTold.at 11 rfl) ci_1 ?_
      refine X_bipush (tk_X10_isAsTold.at 12 rfl) cb_60 ?_
      refine X_cS3i (lv2 := [(0, _), (1, _), (2, _)]) (tk_X10_isAsTold.at 13 rfl) ms_X10_within lk_x10_69 np_X10_within (Nat.le_of_ble_eq_true rfl) (Nat.le_of_ble_eq_true rfl) rfl (c10_within (fun h27 h1027 => ?_) (fun h27 => ?_))
      · refine X_if_eq (tgt := 46) (tk_X10_isAsTold.at 14 rfl) (by decide) (fun h => absurd h (by decide)) (fun _ => ?_)
        refine X_iload_n (tk_X10_isAsTold.at 15 rfl) rfl ?_
        refine X_iconst (tk_X10_isAsTold.at 16 rfl) ci_0 ?_
        refine X_iconst (tk_X10_isAsTold.at 17 rfl) ci_1 ?_
        refine X_cS3i (lv2 := [(0, _), (1, _), (2, _)]) (tk_X10_isAsTold.at 18 rfl) ms_X10_within lk_x10_69 np_X10_within (Nat.le_of_ble_eq_true rfl) (Nat.le_of_ble_eq_true rfl) rfl (c10_within (fun h36 h1036 => ?_) (fun h36 => ?_))
        · refine X_if_eq (tgt := 46) (tk_X10_isAsTold.at 19 rfl) (by decide) (fun h => absurd h (by decide)) (fun _ => ?_)
          refine X_iconst (tk_X10_isAsTold.at 20 rfl) ci_1 ?_
          refine X_goto (tgt := 47) (tk_X10_isAsTold.at 21 rfl) (by decide) ?_
          refine X_ireturn (tk_X10_isAsTold.at 23 rfl) rfl rfl ?_
          exact kt ⟨⟨⟨h6, h1006⟩, ⟨h17, h1017⟩⟩, ⟨⟨h27, h1027⟩, ⟨h36, h1036⟩⟩⟩
        · refine X_if_eq (tgt := 46) (tk_X10_isAsTold.at 19 rfl) (by decide) (fun _ => ?_) (fun h => absurd h (by decide))
          refine X_iconst (tk_X10_isAsTold.at 22 rfl) ci_0 ?_
          refine X_ireturn (tk_X10_isAsTold.at 23 rfl) rfl rfl ?_
          exact kf (fun h => by obtain ⟨⟨a1, a2⟩, a3, a4⟩ := h; first | exact h36 a4 | exact h27 a3 | exact h17 a2 | exact h6 a1)
      · refine X_if_eq (tgt := 46) (tk_X10_isAsTold.at 14 rfl) (by decide) (fun _ => ?_) (fun h => absurd h (by decide))
        refine X_iconst (tk_X10_isAsTold.at 22 rfl) ci_0 ?_
        refine X_ireturn (tk_X10_isAsTold.at 23 rfl) rfl rfl ?_
        exact kf (fun h => by obtain ⟨⟨a1, a2⟩, a3, a4⟩ := h; first | exact h36 a4 | exact h27 a3 | exact h17 a2 | exact h6 a1)
    · refine X_if_eq (tgt := 46) (tk_X10_isAsTold.at 9 rfl) (by decide) (fun _ => ?_) (fun h => absurd h (by decide))
      refine X_iconst (tk_X10_isAsTold.at 22 rfl) ci_0 ?_
      refine X_ireturn (tk_X10_isAsTold.at 23 rfl) rfl rfl ?_
      exact kf (fun h => by obtain ⟨⟨a1, a2⟩, a3, a4⟩ := h; first | exact h36 a4 | exact h27 a3 | exact h17 a2 | exact h6 a1)
  · refine X_if_eq (tgt := 46) (tk_X10_isAsTold.at 4 rfl) (by decide) (fun _ => ?_) (fun h => absurd h (by decide))
    refine X_iconst (tk_X10_isAsTold.at 22 rfl) ci_0 ?_
    refine X_ireturn (tk_X10_isAsTold.at 23 rfl) rfl rfl ?_
    exact kf (fun h => by obtain ⟨⟨a1, a2⟩, a3, a4⟩ := h; first | exact h36 a4 | exact h27 a3 | exact h17 a2 | exact h6 a1)
set_option maxHeartbeats 1000000 in
theorem c10_comes {G : Gl} {d : Nat} {S : Sh} {μ : Mu} {o : Nat} {q : Nat → Nat} {w s p g : Int32} {n : Nat} {K : Sh → Mu → Prop} (hM : MS S o q) (hn : μ (o + 1) 1 = nI n) (hb : n < 10) (hK : K S (Mx μ (o + 1) (addN (μ (o + 1)) 8 n w s p g 1))) : X G mi_X10_comes d 0 0 [(0, .ref o), (1, .int w), (2, .int s), (3, .int p), (4, .int g)] [] S μ (qv K) := by
  refine X_bipush (tk_X10_comes.at 0 rfl) cb_8 ?_
  refine X_iconst (tk_X10_comes.at 1 rfl) ci_4 ?_
  refine X_aload_n (tk_X10_comes.at 2 rfl) rfl ?_
  refine X_getR (tk_X10_comes.at 3 rfl) fl_x10_9 hM.f0 rfl rfl ?_
  refine X_iconst (tk_X10_comes.at 4 rfl) ci_1 ?_
  refine X_ialdN (k := 1) (tk_X10_comes.at 5 rfl) hM.f1 (pz (pl 1 rfl) (by omega)) (by omega) (by decide) ?_
  refine X_imul (tk_X10_comes.at 6 rfl) ?_
  refine X_iadd (tk_X10_comes.at 7 rfl) ?_
  refine X_istore (lv' := [(0, _), (1, _), (2, _), (3, _), (4, _), (5, _)]) (tk_X10_comes.at 8 rfl) (by decide) rfl rfl ?_
  refine X_aload_n (tk_X10_comes.at 9 rfl) rfl ?_
  refine X_getR (tk_X10_comes.at 10 rfl) fl_x10_9 hM.f0 rfl rfl ?_
  refine X_iload (tk_X10_comes.at 11 rfl) rfl ?_
  refine X_iload_n (tk_X10_comes.at 12 rfl) rfl ?_
  refine X_iastN (k := 8 + 4 * n) (tk_X10_comes.at 13 rfl) hM.f1 (pz (pa (pl 8 rfl) (pm (pl 4 rfl) hn)) (by omega)) (by omega) (by decide) ?_
  refine X_aload_n (tk_X10_comes.at 14 rfl) rfl ?_
  refine X_getR (tk_X10_comes.at 15 rfl) fl_x10_9 hM.f0 rfl rfl ?_
  refine X_iload (tk_X10_comes.at 16 rfl) rfl ?_
  refine X_iconst (tk_X10_comes.at 17 rfl) ci_1 ?_
  refine X_iadd (tk_X10_comes.at 18 rfl) ?_
  refine X_iload_n (tk_X10_comes.at 19 rfl) rfl ?_
  refine X_iastN (k := 9 + 4 * n) (tk_X10_comes.at 20 rfl) hM.f1 (pz (pa (pa (pl 8 rfl) (pm (pl 4 rfl) hn)) (pl 1 rfl)) (by omega)) (by omega) (by decide) ?_
  refine X_aload_n (tk_X10_comes.at 21 rfl) rfl ?_
  refine X_getR (tk_X10_comes.at 22 rfl) fl_x10_9 hM.f0 rfl rfl ?_
  refine X_iload (tk_X10_comes.at 23 rfl) rfl ?_
  refine X_iconst (tk_X10_comes.at 24 rfl) ci_2 ?_
  refine X_iadd (tk_X10_comes.at 25 rfl) ?_
  refine X_iload_n (tk_X10_comes.at 26 rfl) rfl ?_
  refine X_iastN (k := 10 + 4 * n) (tk_X10_comes.at 27 rfl) hM.f1 (pz (pa (pa (pl 8 rfl) (pm (pl 4 rfl) hn)) (pl 2 rfl)) (by omega)) (by omega) (by decide) ?_
  refine X_aload_n (tk_X10_comes.at 28 rfl) rfl ?_
  refine X_getR (tk_X10_comes.at 29 rfl) fl_x10_9 hM.f0 rfl rfl ?_
  refine X_iload (tk_X10_comes.at 30 rfl) rfl ?_
  refine X_iconst (tk_X10_comes.at 31 rfl) ci_3 ?_
  refine X_iadd (tk_X10_comes.at 32 rfl) ?_
  refine X_iload (tk_X10_comes.at 33 rfl) rfl ?_
  refine X_iastN (k := 11 + 4 * n) (tk_X10_comes.at 34 rfl) hM.f1 (pz (pa (pa (pl 8 rfl) (pm (pl 4 rfl) hn)) (pl 3 rfl)) (by omega)) (by omega) (by decide) ?_
  refine X_aload_n (tk_X10_comes.at 35 rfl) rfl ?_
  refine X_getR (tk_X10_comes.at 36 rfl) fl_x10_9 hM.f0 rfl rfl ?_
  refine X_iconst (tk_X10_comes.at 37 rfl) ci_1 ?_
  refine X_dup2 (tk_X10_comes.at 38 rfl) rfl rfl ?_
  refine X_ialdN (k := 1) (tk_X10_comes.at 39 rfl) hM.f1 (pz (pl 1 rfl) (by omega)) (by omega) (by decide) ?_
  refine X_iconst (tk_X10_comes.at 40 rfl) ci_1 ?_
  refine X_iadd (tk_X10_comes.at 41 rfl) ?_
  refine X_iastN (k := 1) (tk_X10_comes.at 42 rfl) hM.f1 (pz (pl 1 rfl) (by omega)) (by omega) (by decide) ?_
  refine X_return (tk_X10_comes.at 43 rfl) rfl ?_
  have e : (su (su (su (su (su μ (o + 1) (8 + 4 * n) w) (o + 1) (9 + 4 * n) s) (o + 1) (10 + 4 * n) p) (o + 1) (11 + 4 * n) g) (o + 1) 1 (((su (su (su (su μ (o + 1) (8 + 4 * n) w) (o + 1) (9 + 4 * n) s) (o + 1) (10 + 4 * n) p) (o + 1) (11 + 4 * n) g) (o + 1) 1) + 1)) = Mx μ (o + 1) (addN (μ (o + 1)) 8 n w s p g 1) := by
    have e1 : (upd (upd (upd (upd (μ (o + 1)) (8 + 4 * n) w) (9 + 4 * n) s) (10 + 4 * n) p) (11 + 4 * n) g) 1 = nI n := by
      rw [upd_ne _ _ (by omega), upd_ne _ _ (by omega), upd_ne _ _ (by omega), upd_ne _ _ (by omega)]; exact hn
    simp only [su_eq, Mx_same, Mx_Mx, addN, e1, ← nI_succ]
  rw [e]
  exact hK
