set_option maxHeartbeats 1000000 in
theorem c10_is {G : Gl} {d : Nat} {S : Sh} {μ : Mu} {o : Nat} {q : Nat → Nat} {k c : Int32} {cn n : Nat} {K : Int32 → Sh → Mu → Prop} (hM : MS S o q) (hc : c = nI cn) (hb : cn < 314) (hn : μ (o + 1) cn = nI n) (hn2 : n < 2 ^ 30) (kt : ∀ j, j < n → k = nI j → K 1 S μ) (kf : (k < 0 ∨ nI n ≤ k) → K 0 S μ) : X G mi_X10_is (d + 1) 0 0 [(0, .ref o), (1, .int k), (2, .int c)] [] S μ (qi K) := by
  refine X_iload_n (tk_X10_is.at 0 rfl) rfl ?_
  refine X_iconst (tk_X10_is.at 1 rfl) ci_0 ?_
  refine X_aload_n (tk_X10_is.at 2 rfl) rfl ?_
  refine X_getR (tk_X10_is.at 3 rfl) fl_x10_9 hM.f0 rfl rfl ?_
  refine X_iload_n (tk_X10_is.at 4 rfl) rfl ?_
  refine X_ialdN (k := cn) (tk_X10_is.at 5 rfl) hM.f1 hc (by omega) (by decide) ?_
  refine X_iconst (tk_X10_is.at 6 rfl) ci_1 ?_
  refine X_isub (tk_X10_is.at 7 rfl) ?_
  refine X_cS3i (lv2 := [(0, _), (1, _), (2, _)]) (tk_X10_is.at 8 rfl) ms_X10_within lk_x10_69 np_X10_within (Nat.le_of_ble_eq_true rfl) (Nat.le_of_ble_eq_true rfl) rfl (c10_within (fun h10 h1010 => ?_) (fun h10 => ?_))
  · refine X_ireturn (tk_X10_is.at 9 rfl) rfl rfl ?_
    rw [hn] at h1010
    obtain ⟨j, hj, e⟩ := in_t hn2 h10 h1010
    exact kt j hj e
  · refine X_ireturn (tk_X10_is.at 9 rfl) rfl rfl ?_
    rw [hn] at h10
    exact kf (in_f hn2 h10)
set_option maxHeartbeats 1000000 in
theorem c10_isAsTold {G : Gl} {d : Nat} {S : Sh} {μ : Mu} {w s p g : Int32} {K : Int32 → Sh → Mu → Prop} (kt : Told w s p g → K 1 S μ) (kf : ¬ Told w s p g → K 0 S μ) : X G mi_X10_isAsTold (d + 1) 0 0 [(0, .int w), (1, .int s), (2, .int p), (3, .int g)] [] S μ (qi K) := by
  refine X_iload_n (tk_X10_isAsTold.at 0 rfl) rfl ?_
  refine X_bipush (tk_X10_isAsTold.at 1 rfl) cb_30 ?_
  refine X_sipush (tk_X10_isAsTold.at 2 rfl) cs_300 ?_
  refine X_cS3i (lv2 := [(0, _), (1, _), (2, _)]) (tk_X10_isAsTold.at 3 rfl) ms_X10_within lk_x10_69 np_X10_within (Nat.le_of_ble_eq_true rfl) (Nat.le_of_ble_eq_true rfl) rfl (c10_within (fun h6 h1006 => ?_) (fun h6 => ?_))
  · obtain ⟨ew6, lw6, bw6⟩ := le_lits (a := 30) (b := 300) (by decide) h6 h1006 (by decide)
    refine X_if_eq (tgt := 46) (tk_X10_isAsTold.at 4 rfl) (by decide) (fun h => absurd h (by decide)) (fun _ => ?_)
    refine X_iload_n (tk_X10_isAsTold.at 5 rfl) rfl ?_
    refine X_iconst (tk_X10_isAsTold.at 6 rfl) ci_0 ?_
    refine X_sipush (tk_X10_isAsTold.at 7 rfl) cs_999 ?_
    refine X_cS3i (lv2 := [(0, _), (1, _), (2, _)]) (tk_X10_isAsTold.at 8 rfl) ms_X10_within lk_x10_69 np_X10_within (Nat.le_of_ble_eq_true rfl) (Nat.le_of_ble_eq_true rfl) rfl (c10_within (fun h17 h1017 => ?_) (fun h17 => ?_))
    · obtain ⟨ew17, lw17, bw17⟩ := le_lits (a := 0) (b := 999) (by decide) h17 h1017 (by decide)
      refine X_if_eq (tgt := 46) (tk_X10_isAsTold.at 9 rfl) (by decide) (fun h => absurd h (by decide)) (fun _ => ?_)
      refine X_iload_n (tk_X10_isAsTold.at 10 rfl) rfl ?_
      refine X_iconst (tk_X10_isAsTold.at 11 rfl) ci_1 ?_
      refine X_bipush (tk_X10_isAsTold.at 12 rfl) cb_60 ?_
      refine X_cS3i (lv2 := [(0, _), (1, _), (2, _)]) (tk_X10_isAsTold.at 13 rfl) ms_X10_within lk_x10_69 np_X10_within (Nat.le_of_ble_eq_true rfl) (Nat.le_of_ble_eq_true rfl) rfl (c10_within (fun h27 h1027 => ?_) (fun h27 => ?_))
      · obtain ⟨ew27, lw27, bw27⟩ := le_lits (a := 1) (b := 60) (by decide) h27 h1027 (by decide)
        refine X_if_eq (tgt := 46) (tk_X10_isAsTold.at 14 rfl) (by decide) (fun h => absurd h (by decide)) (fun _ => ?_)
        refine X_iload_n (tk_X10_isAsTold.at 15 rfl) rfl ?_
        refine X_iconst (tk_X10_isAsTold.at 16 rfl) ci_0 ?_
        refine X_iconst (tk_X10_isAsTold.at 17 rfl) ci_1 ?_
        refine X_cS3i (lv2 := [(0, _), (1, _), (2, _)]) (tk_X10_isAsTold.at 18 rfl) ms_X10_within lk_x10_69 np_X10_within (Nat.le_of_ble_eq_true rfl) (Nat.le_of_ble_eq_true rfl) rfl (c10_within (fun h36 h1036 => ?_) (fun h36 => ?_))
        · obtain ⟨ew36, lw36, bw36⟩ := le_lits (a := 0) (b := 1) (by decide) h36 h1036 (by decide)
          refine X_if_eq (tgt := 46) (tk_X10_isAsTold.at 19 rfl) (by decide) (fun h => absurd h (by decide)) (fun _ => ?_)
          refine X_iconst (tk_X10_isAsTold.at 20 rfl) ci_1 ?_
          refine X_goto (tgt := 47) (tk_X10_isAsTold.at 21 rfl) (by decide) ?_
          refine X_ireturn (tk_X10_isAsTold.at 23 rfl) rfl rfl ?_
          exact kt ⟨⟨⟨h6, h1006⟩, ⟨h17, h1017⟩⟩, ⟨⟨h27, h1027⟩, ⟨h36, h1036⟩⟩⟩
        · refine X_if_eq (tgt := 46) (tk_X10_isAsTold.at 19 rfl) (by decide) (fun _ => ?_) (fun h => absurd h (by decide))
          refine X_iconst (tk_X10_isAsTold.at 22 rfl) ci_0 ?_
          refine X_ireturn (tk_X10_isAsTold.at 23 rfl) rfl rfl ?_
          exact kf (fun h => by obtain ⟨⟨a1, a2⟩, a3, a4⟩ := h; first | exact h36 a4 | exact h27 a3 | exact h17 a2 | exact h6 a1)
      · refine X_if_eq (tgt := 46) (tk_X10_isAsTold.at 14 rfl) (by decide) (fun _ => ?_) (fun h => absurd h (by decide))
        refine X_iconst (tk_X10_isAsTold.at 22 rfl) ci_0 ?_
        refine X_ireturn (tk_X10_isAsTold.at 23 rfl) rfl rfl ?_
        exact kf (fun h => by obtain ⟨⟨a1, a2⟩, a3, a4⟩ := h; first | exact h36 a4 | exact h27 a3 | exact h17 a2 | exact h6 a1)
    · refine X_if_eq (tgt := 46) (tk_X10_isAsTold.at 9 rfl) (by decide) (fun _ => ?_) (fun h => absurd h (by decide))
      refine X_iconst (tk_X10_isAsTold.at 22 rfl) ci_0 ?_
      refine X_ireturn (tk_X10_isAsTold.at 23 rfl) rfl rfl ?_
      exact kf (fun h => by obtain ⟨⟨a1, a2⟩, a3, a4⟩ := h; first | exact h36 a4 | exact h27 a3 | exact h17 a2 | exact h6 a1)
  · refine X_if_eq (tgt := 46) (tk_X10_isAsTold.at 4 rfl) (by decide) (fun _ => ?_) (fun h => absurd h (by decide))
    refine X_iconst (tk_X10_isAsTold.at 22 rfl) ci_0 ?_
    refine X_ireturn (tk_X10_isAsTold.at 23 rfl) rfl rfl ?_
    exact kf (fun h => by obtain ⟨⟨a1, a2⟩, a3, a4⟩ := h; first | exact h36 a4 | exact h27 a3 | exact h17 a2 | exact h6 a1)
set_option maxHeartbeats 1000000 in
theorem c10_comes {G : Gl} {d : Nat} {S : Sh} {μ : Mu} {o : Nat} {q : Nat → Nat} {w s p g : Int32} {n : Nat} {K : Sh → Mu → Prop} (hM : MS S o q) (hn : μ (o + 1) 1 = nI n) (hb : n < 10) (hK : K S (Mx μ (o + 1) (addN (μ (o + 1)) 8 n w s p g 1))) : X G mi_X10_comes d 0 0 [(0, .ref o), (1, .int w), (2, .int s), (3, .int p), (4, .int g)] [] S μ (qv K) := by
  refine X_bipush (tk_X10_comes.at 0 rfl) cb_8 ?_
  refine X_iconst (tk_X10_comes.at 1 rfl) ci_4 ?_
  refine X_aload_n (tk_X10_comes.at 2 rfl) rfl ?_
  refine X_getR (tk_X10_comes.at 3 rfl) fl_x10_9 hM.f0 rfl rfl ?_
  refine X_iconst (tk_X10_comes.at 4 rfl) ci_1 ?_
  refine X_ialdN (k := 1) (tk_X10_comes.at 5 rfl) hM.f1 (pz (pl 1 rfl) (by omega)) (by omega) (by decide) ?_
  refine X_imul (tk_X10_comes.at 6 rfl) ?_
  refine X_iadd (tk_X10_comes.at 7 rfl) ?_
  refine X_istore (lv' := [(0, _), (1, _), (2, _), (3, _), (4, _), (5, _)]) (tk_X10_comes.at 8 rfl) (by decide) rfl rfl ?_
  refine X_aload_n (tk_X10_comes.at 9 rfl) rfl ?_
  refine X_getR (tk_X10_comes.at 10 rfl) fl_x10_9 hM.f0 rfl rfl ?_
  refine X_iload (tk_X10_comes.at 11 rfl) rfl ?_
  refine X_iload_n (tk_X10_comes.at 12 rfl) rfl ?_
  refine X_iastN (k := 8 + 4 * n) (tk_X10_comes.at 13 rfl) hM.f1 (pz (pa (pl 8 rfl) (pm (pl 4 rfl) hn)) (by omega)) (by omega) (by decide) ?_
  refine X_aload_n (tk_X10_comes.at 14 rfl) rfl ?_
  refine X_getR (tk_X10_comes.at 15 rfl) fl_x10_9 hM.f0 rfl rfl ?_
  refine X_iload (tk_X10_comes.at 16 rfl) rfl ?_
  refine X_iconst (tk_X10_comes.at 17 rfl) ci_1 ?_
  refine X_iadd (tk_X10_comes.at 18 rfl) ?_
  refine X_iload_n (tk_X10_comes.at 19 rfl) rfl ?_
  refine X_iastN (k := 9 + 4 * n) (tk_X10_comes.at 20 rfl) hM.f1 (pz (pa (pa (pl 8 rfl) (pm (pl 4 rfl) hn)) (pl 1 rfl)) (by omega)) (by omega) (by decide) ?_
  refine X_aload_n (tk_X10_comes.at 21 rfl) rfl ?_
  refine X_getR (tk_X10_comes.at 22 rfl) fl_x10_9 hM.f0 rfl rfl ?_
  refine X_iload (tk_X10_comes.at 23 rfl) rfl ?_
  refine X_iconst (tk_X10_comes.at 24 rfl) ci_2 ?_
  refine X_iadd (tk_X10_comes.at 25 rfl) ?_
  refine X_iload_n (tk_X10_comes.at 26 rfl) rfl ?_
  refine X_iastN (k := 10 + 4 * n) (tk_X10_comes.at 27 rfl) hM.f1 (pz (pa (pa (pl 8 rfl) (pm (pl 4 rfl) hn)) (pl 2 rfl)) (by omega)) (by omega) (by decide) ?_
  refine X_aload_n (tk_X10_comes.at 28 rfl) rfl ?_
  refine X_getR (tk_X10_comes.at 29 rfl) fl_x10_9 hM.f0 rfl rfl ?_
  refine X_iload (tk_X10_comes.at 30 rfl) rfl ?_
  refine X_iconst (tk_X10_comes.at 31 rfl) ci_3 ?_
  refine X_iadd (tk_X10_comes.at 32 rfl) ?_
  refine X_iload (tk_X10_comes.at 33 rfl) rfl ?_
  refine X_iastN (k := 11 + 4 * n) (tk_X10_comes.at 34 rfl) hM.f1 (pz (pa (pa (pl 8 rfl) (pm (pl 4 rfl) hn)) (pl 3 rfl)) (by omega)) (by omega) (by decide) ?_
  refine X_aload_n (tk_X10_comes.at 35 rfl) rfl ?_
  refine X_getR (tk_X10_comes.at 36 rfl) fl_x10_9 hM.f0 rfl rfl ?_
  refine X_iconst (tk_X10_comes.at 37 rfl) ci_1 ?_
  refine X_dup2 (tk_X10_comes.at 38 rfl) rfl rfl ?_
  refine X_ialdN (k := 1) (tk_X10_comes.at 39 rfl) hM.f1 (pz (pl 1 rfl) (by omega)) (by omega) (by decide) ?_
  refine X_iconst (tk_X10_comes.at 40 rfl) ci_1 ?_
  refine X_iadd (tk_X10_comes.at 41 rfl) ?_
  refine X_iastN (k := 1) (tk_X10_comes.at 42 rfl) hM.f1 (pz (pl 1 rfl) (by omega)) (by omega) (by decide) ?_
  refine X_return (tk_X10_comes.at 43 rfl) rfl ?_
  have e : (su (su (su (su (su μ (o + 1) (8 + 4 * n) w) (o + 1) (9 + 4 * n) s) (o + 1) (10 + 4 * n) p) (o + 1) (11 + 4 * n) g) (o + 1) 1 (((su (su (su (su μ (o + 1) (8 + 4 * n) w) (o + 1) (9 + 4 * n) s) (o + 1) (10 + 4 * n) p) (o + 1) (11 + 4 * n) g) (o + 1) 1) + 1)) = Mx μ (o + 1) (addN (μ (o + 1)) 8 n w s p g 1) := by
    have e1 : (upd (upd (upd (upd (μ (o + 1)) (8 + 4 * n) w) (9 + 4 * n) s) (10 + 4 * n) p) (11 + 4 * n) g) 1 = nI n := by
      rw [upd_ne _ _ (by omega), upd_ne _ _ (by omega), upd_ne _ _ (by omega), upd_ne _ _ (by omega)]; exact hn
    simp only [su_eq, Mx_same, Mx_Mx, addN, e1, ← nI_succ]
  rw [e]
  exact hK
def In (k : Int32) (n : Nat) : Prop := ∃ j, j < n ∧ k = nI j
theorem In_no {k : Int32} {n : Nat} (hn : n < 2 ^ 30) (h : k < 0 ∨ nI n ≤ k) : ¬ In k n := fun ⟨_, hj, e⟩ => out_no hn hj h e
set_option maxHeartbeats 1000000 in
theorem c10_person {G : Gl} {d : Nat} {S : Sh} {μ : Mu} {o : Nat} {q : Nat → Nat} {w s p g : Int32} {n : Nat} {K : Int32 → Sh → Mu → Prop} (hM : MS S o q) (hn : μ (o + 1) 1 = nI n) (hb : n ≤ 10) (k1 : ¬ Told w s p g → K (-1000000001) S (er μ o 1)) (k2 : Told w s p g → n = 10 → K (-1000000004) S (er μ o 4)) (k3 : Told w s p g → n < 10 → K (nI n) S (Mx μ (o + 1) (addN (μ (o + 1)) 8 n w s p g 1))) : X G mi_X10_person (d + 2) 0 0 [(0, .ref o), (1, .int w), (2, .int s), (3, .int p), (4, .int g)] [] S μ (qi K) := by
  refine X_iload_n (tk_X10_person.at 0 rfl) rfl ?_
  refine X_iload_n (tk_X10_person.at 1 rfl) rfl ?_
  refine X_iload_n (tk_X10_person.at 2 rfl) rfl ?_
  refine X_iload (tk_X10_person.at 3 rfl) rfl ?_
  refine X_cS4i (lv2 := [(0, _), (1, _), (2, _), (3, _)]) (tk_X10_person.at 4 rfl) ms_X10_isAsTold lk_x10_77 np_X10_isAsTold (Nat.le_of_ble_eq_true rfl) (Nat.le_of_ble_eq_true rfl) rfl (c10_isAsTold (fun h5 => ?_) (fun h5 => ?_))
  · refine X_if_ne (tgt := 18) (tk_X10_person.at 5 rfl) (by decide) (fun _ => ?_) (fun h => absurd h (by decide))
    refine X_aload_n (tk_X10_person.at 10 rfl) rfl ?_
    refine X_getR (tk_X10_person.at 11 rfl) fl_x10_9 hM.f0 rfl rfl ?_
    refine X_iconst (tk_X10_person.at 12 rfl) ci_1 ?_
    refine X_ialdN (k := 1) (tk_X10_person.at 13 rfl) hM.f1 (pz (pl 1 rfl) (by omega)) (by omega) (by decide) ?_
    refine X_bipush (tk_X10_person.at 14 rfl) cb_10 ?_
    refine X_icmp_neN (tgt := 36) (tk_X10_person.at 15 rfl) (by decide) hn (pl 10 rfl) (by omega) (by omega) (fun c2 => ?_) (fun c2 => ?_)
    · refine X_aload_n (tk_X10_person.at 20 rfl) rfl ?_
      refine X_iload_n (tk_X10_person.at 21 rfl) rfl ?_
      refine X_iload_n (tk_X10_person.at 22 rfl) rfl ?_
      refine X_iload_n (tk_X10_person.at 23 rfl) rfl ?_
      refine X_iload (tk_X10_person.at 24 rfl) rfl ?_
      refine X_cV4v (lv2 := [(0, _), (1, _), (2, _), (3, _), (4, _)]) (tk_X10_person.at 25 rfl) mv_X10_comes lk_x10_87 np_X10_comes hM.f0 (by decide) rfl (Nat.le_of_ble_eq_true rfl) (Nat.le_of_ble_eq_true rfl) rfl (c10_comes hM hn (by omega) ?_)
      refine X_aload_n (tk_X10_person.at 26 rfl) rfl ?_
      refine X_getR (tk_X10_person.at 27 rfl) fl_x10_9 hM.f0 rfl rfl ?_
      refine X_iconst (tk_X10_person.at 28 rfl) ci_1 ?_
      refine X_ialdN (k := 1) (tk_X10_person.at 29 rfl) hM.f1 (pz (pl 1 rfl) (by omega)) (by omega) (by decide) ?_
      refine X_iconst (tk_X10_person.at 30 rfl) ci_1 ?_
      refine X_isub (tk_X10_person.at 31 rfl) ?_
      refine X_ireturn (tk_X10_person.at 32 rfl) rfl rfl ?_
      have e : (Mx μ (o + 1) (addN (μ (o + 1)) 8 n w s p g 1)) (o + 1) 1 - 1 = nI n := by rw [Mx_same, addN, upd_at]; exact nI_pred n
      rw [e]
      exact k3 h5 (by omega)
    · refine X_aload_n (tk_X10_person.at 16 rfl) rfl ?_
      refine X_ldc (tk_X10_person.at 17 rfl) kn_x10_86 ?_
      refine X_cV1i (lv2 := [(0, _), (1, _)]) (tk_X10_person.at 18 rfl) mv_X10_finding lk_x10_82 np_X10_finding hM.f0 (by decide) rfl (Nat.le_of_ble_eq_true rfl) (Nat.le_of_ble_eq_true rfl) rfl (c10_finding (k := 4) hM (by decide) (by decide) ?_)
      refine X_ireturn (tk_X10_person.at 19 rfl) rfl rfl ?_
      exact k2 h5 c2
  · refine X_if_ne (tgt := 18) (tk_X10_person.at 5 rfl) (by decide) (fun h => absurd h (by decide)) (fun _ => ?_)
    refine X_aload_n (tk_X10_person.at 6 rfl) rfl ?_
    refine X_ldc (tk_X10_person.at 7 rfl) kn_x10_81 ?_
    refine X_cV1i (lv2 := [(0, _), (1, _)]) (tk_X10_person.at 8 rfl) mv_X10_finding lk_x10_82 np_X10_finding hM.f0 (by decide) rfl (Nat.le_of_ble_eq_true rfl) (Nat.le_of_ble_eq_true rfl) rfl (c10_finding (k := 1) hM (by decide) (by decide) ?_)
    refine X_ireturn (tk_X10_person.at 9 rfl) rfl rfl ?_
    exact k1 h5
set_option maxHeartbeats 1000000 in
theorem c10_piece {G : Gl} {d : Nat} {S : Sh} {μ : Mu} {o : Nat} {q : Nat → Nat} {w s p g : Int32} {n : Nat} {K : Int32 → Sh → Mu → Prop} (hM : MS S o q) (hn : μ (o + 1) 2 = nI n) (hb : n ≤ 8) (k1 : ¬ ToldC w s p g → K (-1000000001) S (er μ o 1)) (k2 : ToldC w s p g → n = 8 → K (-1000000004) S (er μ o 4)) (k3 : ToldC w s p g → n < 8 → K (nI n) S (Mx μ (o + 1) (addN (μ (o + 1)) 48 n w s p g 2))) : X G mi_X10_piece (d + 1) 0 0 [(0, .ref o), (1, .int w), (2, .int s), (3, .int p), (4, .int g)] [] S μ (qi K) := by
  refine X_iload_n (tk_X10_piece.at 0 rfl) rfl ?_
  refine X_bipush (tk_X10_piece.at 1 rfl) cb_m5 ?_
  refine X_iconst (tk_X10_piece.at 2 rfl) ci_5 ?_
  refine X_cS3i (lv2 := [(0, _), (1, _), (2, _)]) (tk_X10_piece.at 3 rfl) ms_X10_within lk_x10_69 np_X10_within (Nat.le_of_ble_eq_true rfl) (Nat.le_of_ble_eq_true rfl) rfl (c10_within (fun h4 h1004 => ?_) (fun h4 => ?_))
  · refine X_if_eq (tgt := 42) (tk_X10_piece.at 4 rfl) (by decide) (fun h => absurd h (by decide)) (fun _ => ?_)
    refine X_iload_n (tk_X10_piece.at 5 rfl) rfl ?_
    refine X_iconst (tk_X10_piece.at 6 rfl) ci_0 ?_
    refine X_sipush (tk_X10_piece.at 7 rfl) cs_999 ?_
    refine X_cS3i (lv2 := [(0, _), (1, _), (2, _)]) (tk_X10_piece.at 8 rfl) ms_X10_within lk_x10_69 np_X10_within (Nat.le_of_ble_eq_true rfl) (Nat.le_of_ble_eq_true rfl) rfl (c10_within (fun h15 h1015 => ?_) (fun h15 => ?_))
    · obtain ⟨ew15, lw15, bw15⟩ := le_lits (a := 0) (b := 999) (by decide) h15 h1015 (by decide)
      refine X_if_eq (tgt := 42) (tk_X10_piece.at 9 rfl) (by decide) (fun h => absurd h (by decide)) (fun _ => ?_)
      refine X_iload_n (tk_X10_piece.at 10 rfl) rfl ?_
      refine X_iconst (tk_X10_piece.at 11 rfl) ci_0 ?_
      refine X_bipush (tk_X10_piece.at 12 rfl) cb_99 ?_
      refine X_cS3i (lv2 := [(0, _), (1, _), (2, _)]) (tk_X10_piece.at 13 rfl) ms_X10_within lk_x10_69 np_X10_within (Nat.le_of_ble_eq_true rfl) (Nat.le_of_ble_eq_true rfl) rfl (c10_within (fun h25 h1025 => ?_) (fun h25 => ?_))
      · obtain ⟨ew25, lw25, bw25⟩ := le_lits (a := 0) (b := 99) (by decide) h25 h1025 (by decide)
        refine X_if_eq (tgt := 42) (tk_X10_piece.at 14 rfl) (by decide) (fun h => absurd h (by decide)) (fun _ => ?_)
        refine X_iload (tk_X10_piece.at 15 rfl) rfl ?_
        refine X_iconst (tk_X10_piece.at 16 rfl) ci_1 ?_
        refine X_bipush (tk_X10_piece.at 17 rfl) cb_40 ?_
        refine X_cS3i (lv2 := [(0, _), (1, _), (2, _)]) (tk_X10_piece.at 18 rfl) ms_X10_within lk_x10_69 np_X10_within (Nat.le_of_ble_eq_true rfl) (Nat.le_of_ble_eq_true rfl) rfl (c10_within (fun h36 h1036 => ?_) (fun h36 => ?_))
        · obtain ⟨ew36, lw36, bw36⟩ := le_lits (a := 1) (b := 40) (by decide) h36 h1036 (by decide)
          refine X_if_ne (tgt := 49) (tk_X10_piece.at 19 rfl) (by decide) (fun _ => ?_) (fun h => absurd h (by decide))
          refine X_aload_n (tk_X10_piece.at 24 rfl) rfl ?_
          refine X_getR (tk_X10_piece.at 25 rfl) fl_x10_9 hM.f0 rfl rfl ?_
          refine X_iconst (tk_X10_piece.at 26 rfl) ci_2 ?_
          refine X_ialdN (k := 2) (tk_X10_piece.at 27 rfl) hM.f1 (pz (pl 2 rfl) (by omega)) (by omega) (by decide) ?_
          refine X_istore (lv' := [(0, _), (1, _), (2, _), (3, _), (4, _), (5, _)]) (tk_X10_piece.at 28 rfl) (by decide) rfl rfl ?_
          refine X_iload (tk_X10_piece.at 29 rfl) rfl ?_
          refine X_bipush (tk_X10_piece.at 30 rfl) cb_8 ?_
          refine X_icmp_neN (tgt := 71) (tk_X10_piece.at 31 rfl) (by decide) hn (pl 8 rfl) (by omega) (by omega) (fun c5 => ?_) (fun c5 => ?_)
          · refine X_aload_n (tk_X10_piece.at 36 rfl) rfl ?_
            refine X_getR (tk_X10_piece.at 37 rfl) fl_x10_9 hM.f0 rfl rfl ?_
            refine X_bipush (tk_X10_piece.at 38 rfl) cb_48 ?_
            refine X_iconst (tk_X10_piece.at 39 rfl) ci_4 ?_
            refine X_iload (tk_X10_piece.at 40 rfl) rfl ?_
            refine X_imul (tk_X10_piece.at 41 rfl) ?_
            refine X_iadd (tk_X10_piece.at 42 rfl) ?_
            refine X_iconst (tk_X10_piece.at 43 rfl) ci_0 ?_
            refine X_iadd (tk_X10_piece.at 44 rfl) ?_
            refine X_iload_n (tk_X10_piece.at 45 rfl) rfl ?_
            refine X_iastN (k := 48 + 4 * n) (tk_X10_piece.at 46 rfl) hM.f1 (pz (pa (pa (pl 48 rfl) (pm (pl 4 rfl) hn)) (pl 0 rfl)) (by omega)) (by omega) (by decide) ?_
            refine X_aload_n (tk_X10_piece.at 47 rfl) rfl ?_
            refine X_getR (tk_X10_piece.at 48 rfl) fl_x10_9 hM.f0 rfl rfl ?_
            refine X_bipush (tk_X10_piece.at 49 rfl) cb_48 ?_
            refine X_iconst (tk_X10_piece.at 50 rfl) ci_4 ?_
            refine X_iload (tk_X10_piece.at 51 rfl) rfl ?_
            refine X_imul (tk_X10_piece.at 52 rfl) ?_
            refine X_iadd (tk_X10_piece.at 53 rfl) ?_
            refine X_iconst (tk_X10_piece.at 54 rfl) ci_1 ?_
            refine X_iadd (tk_X10_piece.at 55 rfl) ?_
            refine X_iload_n (tk_X10_piece.at 56 rfl) rfl ?_
            refine X_iastN (k := 49 + 4 * n) (tk_X10_piece.at 57 rfl) hM.f1 (pz (pa (pa (pl 48 rfl) (pm (pl 4 rfl) hn)) (pl 1 rfl)) (by omega)) (by omega) (by decide) ?_
            refine X_aload_n (tk_X10_piece.at 58 rfl) rfl ?_
            refine X_getR (tk_X10_piece.at 59 rfl) fl_x10_9 hM.f0 rfl rfl ?_
            refine X_bipush (tk_X10_piece.at 60 rfl) cb_48 ?_
            refine X_iconst (tk_X10_piece.at 61 rfl) ci_4 ?_
            refine X_iload (tk_X10_piece.at 62 rfl) rfl ?_
            refine X_imul (tk_X10_piece.at 63 rfl) ?_
            refine X_iadd (tk_X10_piece.at 64 rfl) ?_
            refine X_iconst (tk_X10_piece.at 65 rfl) ci_2 ?_
            refine X_iadd (tk_X10_piece.at 66 rfl) ?_
            refine X_iload_n (tk_X10_piece.at 67 rfl) rfl ?_
            refine X_iastN (k := 50 + 4 * n) (tk_X10_piece.at 68 rfl) hM.f1 (pz (pa (pa (pl 48 rfl) (pm (pl 4 rfl) hn)) (pl 2 rfl)) (by omega)) (by omega) (by decide) ?_
            refine X_aload_n (tk_X10_piece.at 69 rfl) rfl ?_
            refine X_getR (tk_X10_piece.at 70 rfl) fl_x10_9 hM.f0 rfl rfl ?_
            refine X_bipush (tk_X10_piece.at 71 rfl) cb_48 ?_
            refine X_iconst (tk_X10_piece.at 72 rfl) ci_4 ?_
            refine X_iload (tk_X10_piece.at 73 rfl) rfl ?_
            refine X_imul (tk_X10_piece.at 74 rfl) ?_
            refine X_iadd (tk_X10_piece.at 75 rfl) ?_
            refine X_iconst (tk_X10_piece.at 76 rfl) ci_3 ?_
            refine X_iadd (tk_X10_piece.at 77 rfl) ?_
            refine X_iload (tk_X10_piece.at 78 rfl) rfl ?_
            refine X_iastN (k := 51 + 4 * n) (tk_X10_piece.at 79 rfl) hM.f1 (pz (pa (pa (pl 48 rfl) (pm (pl 4 rfl) hn)) (pl 3 rfl)) (by omega)) (by omega) (by decide) ?_
            refine X_aload_n (tk_X10_piece.at 80 rfl) rfl ?_
            refine X_getR (tk_X10_piece.at 81 rfl) fl_x10_9 hM.f0 rfl rfl ?_
            refine X_iconst (tk_X10_piece.at 82 rfl) ci_2 ?_
            refine X_dup2 (tk_X10_piece.at 83 rfl) rfl rfl ?_
            refine X_ialdN (k := 2) (tk_X10_piece.at 84 rfl) hM.f1 (pz (pl 2 rfl) (by omega)) (by omega) (by decide) ?_
            refine X_iconst (tk_X10_piece.at 85 rfl) ci_1 ?_
            refine X_iadd (tk_X10_piece.at 86 rfl) ?_
            refine X_iastN (k := 2) (tk_X10_piece.at 87 rfl) hM.f1 (pz (pl 2 rfl) (by omega)) (by omega) (by decide) ?_
            refine X_iload (tk_X10_piece.at 88 rfl) rfl ?_
            refine X_ireturn (tk_X10_piece.at 89 rfl) rfl rfl ?_
            have e : (su (su (su (su (su μ (o + 1) (48 + 4 * n) w) (o + 1) (49 + 4 * n) s) (o + 1) (50 + 4 * n) p) (o + 1) (51 + 4 * n) g) (o + 1) 2 (((su (su (su (su μ (o + 1) (48 + 4 * n) w) (o + 1) (49 + 4 * n) s) (o + 1) (50 + 4 * n) p) (o + 1) (51 + 4 * n) g) (o + 1) 2) + 1)) = Mx μ (o + 1) (addN (μ (o + 1)) 48 n w s p g 2) := by
              have e1 : (upd (upd (upd (upd (μ (o + 1)) (48 + 4 * n) w) (49 + 4 * n) s) (50 + 4 * n) p) (51 + 4 * n) g) 2 = nI n := by
                rw [upd_ne _ _ (by omega), upd_ne _ _ (by omega), upd_ne _ _ (by omega), upd_ne _ _ (by omega)]; exact hn
              simp only [su_eq, Mx_same, Mx_Mx, addN, e1, ← nI_succ]
            rw [e, hn]
            exact k3 ⟨⟨⟨h4, h1004⟩, ⟨h15, h1015⟩⟩, ⟨⟨h25, h1025⟩, ⟨h36, h1036⟩⟩⟩ (by omega)
          · refine X_aload_n (tk_X10_piece.at 32 rfl) rfl ?_
            refine X_ldc (tk_X10_piece.at 33 rfl) kn_x10_86 ?_
            refine X_cV1i (lv2 := [(0, _), (1, _)]) (tk_X10_piece.at 34 rfl) mv_X10_finding lk_x10_82 np_X10_finding hM.f0 (by decide) rfl (Nat.le_of_ble_eq_true rfl) (Nat.le_of_ble_eq_true rfl) rfl (c10_finding (k := 4) hM (by decide) (by decide) ?_)
            refine X_ireturn (tk_X10_piece.at 35 rfl) rfl rfl ?_
            exact k2 ⟨⟨⟨h4, h1004⟩, ⟨h15, h1015⟩⟩, ⟨⟨h25, h1025⟩, ⟨h36, h1036⟩⟩⟩ c5
        · refine X_if_ne (tgt := 49) (tk_X10_piece.at 19 rfl) (by decide) (fun h => absurd h (by decide)) (fun _ => ?_)
          refine X_aload_n (tk_X10_piece.at 20 rfl) rfl ?_
          refine X_ldc (tk_X10_piece.at 21 rfl) kn_x10_81 ?_
          refine X_cV1i (lv2 := [(0, _), (1, _)]) (tk_X10_piece.at 22 rfl) mv_X10_finding lk_x10_82 np_X10_finding hM.f0 (by decide) rfl (Nat.le_of_ble_eq_true rfl) (Nat.le_of_ble_eq_true rfl) rfl (c10_finding (k := 1) hM (by decide) (by decide) ?_)
          refine X_ireturn (tk_X10_piece.at 23 rfl) rfl rfl ?_
          exact k1 (fun h => by obtain ⟨⟨a1, a2⟩, a3, a4⟩ := h; first | exact h36 a4 | exact h25 a3 | exact h15 a2 | exact h4 a1)
      · refine X_if_eq (tgt := 42) (tk_X10_piece.at 14 rfl) (by decide) (fun _ => ?_) (fun h => absurd h (by decide))
        refine X_aload_n (tk_X10_piece.at 20 rfl) rfl ?_
        refine X_ldc (tk_X10_piece.at 21 rfl) kn_x10_81 ?_
        refine X_cV1i (lv2 := [(0, _), (1, _)]) (tk_X10_piece.at 22 rfl) mv_X10_finding lk_x10_82 np_X10_finding hM.f0 (by decide) rfl (Nat.le_of_ble_eq_true rfl) (Nat.le_of_ble_eq_true rfl) rfl (c10_finding (k := 1) hM (by decide) (by decide) ?_)
        refine X_ireturn (tk_X10_piece.at 23 rfl) rfl rfl ?_
        exact k1 (fun h => by obtain ⟨⟨a1, a2⟩, a3, a4⟩ := h; first | exact h36 a4 | exact h25 a3 | exact h15 a2 | exact h4 a1)
    · refine X_if_eq (tgt := 42) (tk_X10_piece.at 9 rfl) (by decide) (fun _ => ?_) (fun h => absurd h (by decide))
      refine X_aload_n (tk_X10_piece.at 20 rfl) rfl ?_
      refine X_ldc (tk_X10_piece.at 21 rfl) kn_x10_81 ?_
      refine X_cV1i (lv2 := [(0, _), (1, _)]) (tk_X10_piece.at 22 rfl) mv_X10_finding lk_x10_82 np_X10_finding hM.f0 (by decide) rfl (Nat.le_of_ble_eq_true rfl) (Nat.le_of_ble_eq_true rfl) rfl (c10_finding (k := 1) hM (by decide) (by decide) ?_)
      refine X_ireturn (tk_X10_piece.at 23 rfl) rfl rfl ?_
      exact k1 (fun h => by obtain ⟨⟨a1, a2⟩, a3, a4⟩ := h; first | exact h36 a4 | exact h25 a3 | exact h15 a2 | exact h4 a1)
  · refine X_if_eq (tgt := 42) (tk_X10_piece.at 4 rfl) (by decide) (fun _ => ?_) (fun h => absurd h (by decide))
    refine X_aload_n (tk_X10_piece.at 20 rfl) rfl ?_
    refine X_ldc (tk_X10_piece.at 21 rfl) kn_x10_81 ?_
    refine X_cV1i (lv2 := [(0, _), (1, _)]) (tk_X10_piece.at 22 rfl) mv_X10_finding lk_x10_82 np_X10_finding hM.f0 (by decide) rfl (Nat.le_of_ble_eq_true rfl) (Nat.le_of_ble_eq_true rfl) rfl (c10_finding (k := 1) hM (by decide) (by decide) ?_)
    refine X_ireturn (tk_X10_piece.at 23 rfl) rfl rfl ?_
    exact k1 (fun h => by obtain ⟨⟨a1, a2⟩, a3, a4⟩ := h; first | exact h36 a4 | exact h25 a3 | exact h15 a2 | exact h4 a1)
set_option maxHeartbeats 1000000 in
theorem c10_ofPiece {G : Gl} {d : Nat} {S : Sh} {μ : Mu} {o : Nat} {q : Nat → Nat} {p w : Int32} {n : Nat} {K : Int32 → Sh → Mu → Prop} (hM : MS S o q) (hn : μ (o + 1) 2 = nI n) (hb : n ≤ 8) (k1 : ¬ (In p n ∧ (0 ≤ w ∧ w ≤ 3)) → K (-1000000001) S (er μ o 1)) (k2 : ∀ j f, j < n → f < 4 → p = nI j → w = nI f → K (μ (o + 1) (48 + 4 * j + f)) S μ) : X G mi_X10_ofPiece (d + 2) 0 0 [(0, .ref o), (1, .int p), (2, .int w)] [] S μ (qi K) := by
  refine X_aload_n (tk_X10_ofPiece.at 0 rfl) rfl ?_
  refine X_iload_n (tk_X10_ofPiece.at 1 rfl) rfl ?_
  refine X_iconst (tk_X10_ofPiece.at 2 rfl) ci_2 ?_
  refine X_cV2i (lv2 := [(0, _), (1, _), (2, _)]) (tk_X10_ofPiece.at 3 rfl) mv_X10_is lk_x10_90 np_X10_is hM.f0 (by decide) rfl (Nat.le_of_ble_eq_true rfl) (Nat.le_of_ble_eq_true rfl) rfl (c10_is hM (pl 2 rfl) (by decide) hn (by omega) (fun j3 hj3 ej3 => ?_) (fun hj3 => ?_))
  · refine X_if_eq (tgt := 27) (tk_X10_ofPiece.at 4 rfl) (by decide) (fun h => absurd h (by decide)) (fun _ => ?_)
    refine X_iload_n (tk_X10_ofPiece.at 5 rfl) rfl ?_
    refine X_iconst (tk_X10_ofPiece.at 6 rfl) ci_0 ?_
    refine X_iconst (tk_X10_ofPiece.at 7 rfl) ci_3 ?_
    refine X_cS3i (lv2 := [(0, _), (1, _), (2, _)]) (tk_X10_ofPiece.at 8 rfl) ms_X10_within lk_x10_69 np_X10_within (Nat.le_of_ble_eq_true rfl) (Nat.le_of_ble_eq_true rfl) rfl (c10_within (fun h12 h1012 => ?_) (fun h12 => ?_))
    · obtain ⟨ew12, lw12, bw12⟩ := le_lits (a := 0) (b := 3) (by decide) h12 h1012 (by decide)
      refine X_if_eq (tgt := 27) (tk_X10_ofPiece.at 9 rfl) (by decide) (fun h => absurd h (by decide)) (fun _ => ?_)
      refine X_aload_n (tk_X10_ofPiece.at 10 rfl) rfl ?_
      refine X_iload_n (tk_X10_ofPiece.at 11 rfl) rfl ?_
      refine X_iload_n (tk_X10_ofPiece.at 12 rfl) rfl ?_
      refine X_cV2i (lv2 := [(0, _), (1, _), (2, _)]) (tk_X10_ofPiece.at 13 rfl) mv_X10_ofPieceAt lk_x10_109 np_X10_ofPieceAt hM.f0 (by decide) rfl (Nat.le_of_ble_eq_true rfl) (Nat.le_of_ble_eq_true rfl) rfl (c10_ofPieceAt (k := 48 + 4 * j3 + (nv w)) hM ej3 ew12 (by omega) (by omega) (by omega) ?_)
      refine X_goto (tgt := 33) (tk_X10_ofPiece.at 14 rfl) (by decide) ?_
      refine X_ireturn (tk_X10_ofPiece.at 18 rfl) rfl rfl ?_
      exact k2 j3 (nv w) hj3 (by omega) ej3 ew12
    · refine X_if_eq (tgt := 27) (tk_X10_ofPiece.at 9 rfl) (by decide) (fun _ => ?_) (fun h => absurd h (by decide))
      refine X_aload_n (tk_X10_ofPiece.at 15 rfl) rfl ?_
      refine X_ldc (tk_X10_ofPiece.at 16 rfl) kn_x10_81 ?_
      refine X_cV1i (lv2 := [(0, _), (1, _)]) (tk_X10_ofPiece.at 17 rfl) mv_X10_finding lk_x10_82 np_X10_finding hM.f0 (by decide) rfl (Nat.le_of_ble_eq_true rfl) (Nat.le_of_ble_eq_true rfl) rfl (c10_finding (k := 1) hM (by decide) (by decide) ?_)
      refine X_ireturn (tk_X10_ofPiece.at 18 rfl) rfl rfl ?_
      exact k1 (fun h => by first | exact h12 h.2 | exact In_no (by omega) hj3 h.1)
  · refine X_if_eq (tgt := 27) (tk_X10_ofPiece.at 4 rfl) (by decide) (fun _ => ?_) (fun h => absurd h (by decide))
    refine X_aload_n (tk_X10_ofPiece.at 15 rfl) rfl ?_
    refine X_ldc (tk_X10_ofPiece.at 16 rfl) kn_x10_81 ?_
    refine X_cV1i (lv2 := [(0, _), (1, _)]) (tk_X10_ofPiece.at 17 rfl) mv_X10_finding lk_x10_82 np_X10_finding hM.f0 (by decide) rfl (Nat.le_of_ble_eq_true rfl) (Nat.le_of_ble_eq_true rfl) rfl (c10_finding (k := 1) hM (by decide) (by decide) ?_)
    refine X_ireturn (tk_X10_ofPiece.at 18 rfl) rfl rfl ?_
    exact k1 (fun h => by first | exact h12 h.2 | exact In_no (by omega) hj3 h.1)
set_option maxHeartbeats 1000000 in
theorem c10_start {G : Gl} {d : Nat} {S : Sh} {μ : Mu} {o : Nat} {q : Nat → Nat} {m : Int32} {K : Int32 → Sh → Mu → Prop} (hM : MS S o q) (k1 : ¬ (0 ≤ m ∧ m ≤ 1439) → K (-1000000001) S (er μ o 1)) (k2 : 0 ≤ m → m ≤ 1439 → K (μ (o + 1) 0) S (su μ (o + 1) 0 m)) : X G mi_X10_start (d + 1) 0 0 [(0, .ref o), (1, .int m)] [] S μ (qi K) := by
  refine X_iload_n (tk_X10_start.at 0 rfl) rfl ?_
  refine X_iconst (tk_X10_start.at 1 rfl) ci_0 ?_
  refine X_sipush (tk_X10_start.at 2 rfl) cs_1439 ?_
  refine X_cS3i (lv2 := [(0, _), (1, _), (2, _)]) (tk_X10_start.at 3 rfl) ms_X10_within lk_x10_69 np_X10_within (Nat.le_of_ble_eq_true rfl) (Nat.le_of_ble_eq_true rfl) rfl (c10_within (fun h5 h1005 => ?_) (fun h5 => ?_))
  · obtain ⟨ew5, lw5, bw5⟩ := le_lits (a := 0) (b := 1439) (by decide) h5 h1005 (by decide)
    refine X_if_eq (tgt := 20) (tk_X10_start.at 4 rfl) (by decide) (fun h => absurd h (by decide)) (fun _ => ?_)
    refine X_aload_n (tk_X10_start.at 5 rfl) rfl ?_
    refine X_iconst (tk_X10_start.at 6 rfl) ci_0 ?_
    refine X_iload_n (tk_X10_start.at 7 rfl) rfl ?_
    refine X_cV2i (lv2 := [(0, _), (1, _), (2, _)]) (tk_X10_start.at 8 rfl) mv_X10_become lk_x10_112 np_X10_become hM.f0 (by decide) rfl (Nat.le_of_ble_eq_true rfl) (Nat.le_of_ble_eq_true rfl) rfl (c10_become (k := 0) hM (pz (pl 0 rfl) (by omega)) (by omega) ?_)
    refine X_goto (tgt := 26) (tk_X10_start.at 9 rfl) (by decide) ?_
    refine X_ireturn (tk_X10_start.at 13 rfl) rfl rfl ?_
    exact k2 h5 h1005
  · refine X_if_eq (tgt := 20) (tk_X10_start.at 4 rfl) (by decide) (fun _ => ?_) (fun h => absurd h (by decide))
    refine X_aload_n (tk_X10_start.at 10 rfl) rfl ?_
    refine X_ldc (tk_X10_start.at 11 rfl) kn_x10_81 ?_
    refine X_cV1i (lv2 := [(0, _), (1, _)]) (tk_X10_start.at 12 rfl) mv_X10_finding lk_x10_82 np_X10_finding hM.f0 (by decide) rfl (Nat.le_of_ble_eq_true rfl) (Nat.le_of_ble_eq_true rfl) rfl (c10_finding (k := 1) hM (by decide) (by decide) ?_)
    refine X_ireturn (tk_X10_start.at 13 rfl) rfl rfl ?_
    exact k1 h5
set_option maxHeartbeats 1000000 in
theorem c10_isSpace {G : Gl} {d : Nat} {S : Sh} {μ : Mu} {v : Int32} {K : Int32 → Sh → Mu → Prop} (kt : 1 ≤ v → v ≤ 20 → K 1 S μ) (kf : ¬ (1 ≤ v ∧ v ≤ 20) → K 0 S μ) : X G mi_X10_isSpace (d + 1) 0 0 [(0, .int v)] [] S μ (qi K) := by
  refine X_iload_n (tk_X10_isSpace.at 0 rfl) rfl ?_
  refine X_iconst (tk_X10_isSpace.at 1 rfl) ci_1 ?_
  refine X_bipush (tk_X10_isSpace.at 2 rfl) cb_20 ?_
  refine X_cS3i (lv2 := [(0, _), (1, _), (2, _)]) (tk_X10_isSpace.at 3 rfl) ms_X10_within lk_x10_69 np_X10_within (Nat.le_of_ble_eq_true rfl) (Nat.le_of_ble_eq_true rfl) rfl (c10_within (fun h4 h1004 => ?_) (fun h4 => ?_))
  · obtain ⟨ew4, lw4, bw4⟩ := le_lits (a := 1) (b := 20) (by decide) h4 h1004 (by decide)
    refine X_ireturn (tk_X10_isSpace.at 4 rfl) rfl rfl ?_
    exact kt h4 h1004
  · refine X_ireturn (tk_X10_isSpace.at 4 rfl) rfl rfl ?_
    exact kf h4
set_option maxHeartbeats 1000000 in
theorem c10_ropeP {G : Gl} {d : Nat} {S : Sh} {μ : Mu} {o : Nat} {q : Nat → Nat} {k s t : Int32} {n : Nat} {K : Int32 → Sh → Mu → Prop} (hM : MS S o q) (hn : μ (o + 1) 3 = nI n) (hb : n ≤ 6) (k1 : ¬ ToldR k s t → K (-1000000001) S (er μ o 1)) (k2 : ToldR k s t → n = 6 → K (-1000000004) S (er μ o 4)) (k3 : ToldR k s t → n < 6 → K (nI n) S (Mx μ (o + 1) (addR (μ (o + 1)) n k s t))) : X G mi_X10_rope_ (d + 2) 0 0 [(0, .ref o), (1, .int k), (2, .int s), (3, .int t)] [] S μ (qi K) := by
  refine X_iload_n (tk_X10_rope_.at 0 rfl) rfl ?_
  refine X_iconst (tk_X10_rope_.at 1 rfl) ci_0 ?_
  refine X_bipush (tk_X10_rope_.at 2 rfl) cb_6 ?_
  refine X_cS3i (lv2 := [(0, _), (1, _), (2, _)]) (tk_X10_rope_.at 3 rfl) ms_X10_within lk_x10_69 np_X10_within (Nat.le_of_ble_eq_true rfl) (Nat.le_of_ble_eq_true rfl) rfl (c10_within (fun h4 h1004 => ?_) (fun h4 => ?_))
  · obtain ⟨ew4, lw4, bw4⟩ := le_lits (a := 0) (b := 6) (by decide) h4 h1004 (by decide)
    refine X_if_eq (tgt := 27) (tk_X10_rope_.at 4 rfl) (by decide) (fun h => absurd h (by decide)) (fun _ => ?_)
    refine X_iload_n (tk_X10_rope_.at 5 rfl) rfl ?_
    refine X_cS1i (lv2 := [(0, _)]) (tk_X10_rope_.at 6 rfl) ms_X10_isSpace lk_x10_124 np_X10_isSpace (Nat.le_of_ble_eq_true rfl) (Nat.le_of_ble_eq_true rfl) rfl (c10_isSpace (fun h11 h1011 => ?_) (fun h11 => ?_))
    · refine X_if_eq (tgt := 27) (tk_X10_rope_.at 7 rfl) (by decide) (fun h => absurd h (by decide)) (fun _ => ?_)
      refine X_iload_n (tk_X10_rope_.at 8 rfl) rfl ?_
      refine X_iconst (tk_X10_rope_.at 9 rfl) ci_0 ?_
      refine X_bipush (tk_X10_rope_.at 10 rfl) cb_9 ?_
      refine X_cS3i (lv2 := [(0, _), (1, _), (2, _)]) (tk_X10_rope_.at 11 rfl) ms_X10_within lk_x10_69 np_X10_within (Nat.le_of_ble_eq_true rfl) (Nat.le_of_ble_eq_true rfl) rfl (c10_within (fun h21 h1021 => ?_) (fun h21 => ?_))
      · obtain ⟨ew21, lw21, bw21⟩ := le_lits (a := 0) (b := 9) (by decide) h21 h1021 (by decide)
        refine X_if_ne (tgt := 34) (tk_X10_rope_.at 12 rfl) (by decide) (fun _ => ?_) (fun h => absurd h (by decide))
        refine X_aload_n (tk_X10_rope_.at 17 rfl) rfl ?_
        refine X_getR (tk_X10_rope_.at 18 rfl) fl_x10_9 hM.f0 rfl rfl ?_
        refine X_iconst (tk_X10_rope_.at 19 rfl) ci_3 ?_
        refine X_ialdN (k := 3) (tk_X10_rope_.at 20 rfl) hM.f1 (pz (pl 3 rfl) (by omega)) (by omega) (by decide) ?_
        refine X_istore (lv' := [(0, _), (1, _), (2, _), (3, _), (4, _)]) (tk_X10_rope_.at 21 rfl) (by decide) rfl rfl ?_
        refine X_iload (tk_X10_rope_.at 22 rfl) rfl ?_
        refine X_bipush (tk_X10_rope_.at 23 rfl) cb_6 ?_
        refine X_icmp_neN (tgt := 56) (tk_X10_rope_.at 24 rfl) (by decide) hn (pl 6 rfl) (by omega) (by omega) (fun c4 => ?_) (fun c4 => ?_)
        · refine X_bipush (tk_X10_rope_.at 29 rfl) cb_80 ?_
          refine X_bipush (tk_X10_rope_.at 30 rfl) cb_9 ?_
          refine X_iload (tk_X10_rope_.at 31 rfl) rfl ?_
          refine X_imul (tk_X10_rope_.at 32 rfl) ?_
          refine X_iadd (tk_X10_rope_.at 33 rfl) ?_
          refine X_istore (lv' := [(0, _), (1, _), (2, _), (3, _), (4, _), (5, _)]) (tk_X10_rope_.at 34 rfl) (by decide) rfl rfl ?_
          refine X_aload_n (tk_X10_rope_.at 35 rfl) rfl ?_
          refine X_getR (tk_X10_rope_.at 36 rfl) fl_x10_9 hM.f0 rfl rfl ?_
          refine X_iload (tk_X10_rope_.at 37 rfl) rfl ?_
          refine X_iconst (tk_X10_rope_.at 38 rfl) ci_0 ?_
          refine X_iadd (tk_X10_rope_.at 39 rfl) ?_
          refine X_iload_n (tk_X10_rope_.at 40 rfl) rfl ?_
          refine X_iastN (k := 80 + 9 * n) (tk_X10_rope_.at 41 rfl) hM.f1 (pz (pa (pa (pl 80 rfl) (pm (pl 9 rfl) hn)) (pl 0 rfl)) (by omega)) (by omega) (by decide) ?_
          refine X_aload_n (tk_X10_rope_.at 42 rfl) rfl ?_
          refine X_getR (tk_X10_rope_.at 43 rfl) fl_x10_9 hM.f0 rfl rfl ?_
          refine X_iload (tk_X10_rope_.at 44 rfl) rfl ?_
          refine X_iconst (tk_X10_rope_.at 45 rfl) ci_1 ?_
          refine X_iadd (tk_X10_rope_.at 46 rfl) ?_
          refine X_iload_n (tk_X10_rope_.at 47 rfl) rfl ?_
          refine X_iastN (k := 81 + 9 * n) (tk_X10_rope_.at 48 rfl) hM.f1 (pz (pa (pa (pl 80 rfl) (pm (pl 9 rfl) hn)) (pl 1 rfl)) (by omega)) (by omega) (by decide) ?_
          refine X_aload_n (tk_X10_rope_.at 49 rfl) rfl ?_
          refine X_getR (tk_X10_rope_.at 50 rfl) fl_x10_9 hM.f0 rfl rfl ?_
          refine X_iload (tk_X10_rope_.at 51 rfl) rfl ?_
          refine X_iconst (tk_X10_rope_.at 52 rfl) ci_2 ?_
          refine X_iadd (tk_X10_rope_.at 53 rfl) ?_
          refine X_iload_n (tk_X10_rope_.at 54 rfl) rfl ?_
          refine X_iastN (k := 82 + 9 * n) (tk_X10_rope_.at 55 rfl) hM.f1 (pz (pa (pa (pl 80 rfl) (pm (pl 9 rfl) hn)) (pl 2 rfl)) (by omega)) (by omega) (by decide) ?_
          refine X_aload_n (tk_X10_rope_.at 56 rfl) rfl ?_
          refine X_getR (tk_X10_rope_.at 57 rfl) fl_x10_9 hM.f0 rfl rfl ?_
          refine X_iload (tk_X10_rope_.at 58 rfl) rfl ?_
          refine X_iconst (tk_X10_rope_.at 59 rfl) ci_3 ?_
          refine X_iadd (tk_X10_rope_.at 60 rfl) ?_
          refine X_iconst (tk_X10_rope_.at 61 rfl) ci_0 ?_
          refine X_iastN (k := 83 + 9 * n) (tk_X10_rope_.at 62 rfl) hM.f1 (pz (pa (pa (pl 80 rfl) (pm (pl 9 rfl) hn)) (pl 3 rfl)) (by omega)) (by omega) (by decide) ?_
          refine X_aload_n (tk_X10_rope_.at 63 rfl) rfl ?_
          refine X_getR (tk_X10_rope_.at 64 rfl) fl_x10_9 hM.f0 rfl rfl ?_
          refine X_iconst (tk_X10_rope_.at 65 rfl) ci_3 ?_
          refine X_dup2 (tk_X10_rope_.at 66 rfl) rfl rfl ?_
          refine X_ialdN (k := 3) (tk_X10_rope_.at 67 rfl) hM.f1 (pz (pl 3 rfl) (by omega)) (by omega) (by decide) ?_
          refine X_iconst (tk_X10_rope_.at 68 rfl) ci_1 ?_
          refine X_iadd (tk_X10_rope_.at 69 rfl) ?_
          refine X_iastN (k := 3) (tk_X10_rope_.at 70 rfl) hM.f1 (pz (pl 3 rfl) (by omega)) (by omega) (by decide) ?_
          refine X_iload (tk_X10_rope_.at 71 rfl) rfl ?_
          refine X_ireturn (tk_X10_rope_.at 72 rfl) rfl rfl ?_
          have e : (su (su (su (su (su μ (o + 1) (80 + 9 * n) k) (o + 1) (81 + 9 * n) s) (o + 1) (82 + 9 * n) t) (o + 1) (83 + 9 * n) 0) (o + 1) 3 (((su (su (su (su μ (o + 1) (80 + 9 * n) k) (o + 1) (81 + 9 * n) s) (o + 1) (82 + 9 * n) t) (o + 1) (83 + 9 * n) 0) (o + 1) 3) + 1)) = Mx μ (o + 1) (addR (μ (o + 1)) n k s t) := by
            have e1 : (upd (upd (upd (upd (μ (o + 1)) (80 + 9 * n) k) (81 + 9 * n) s) (82 + 9 * n) t) (83 + 9 * n) 0) 3 = nI n := by
              rw [upd_ne _ _ (by omega), upd_ne _ _ (by omega), upd_ne _ _ (by omega), upd_ne _ _ (by omega)]; exact hn
            simp only [su_eq, Mx_same, Mx_Mx, addR, e1, ← nI_succ]
          rw [e, hn]
          exact k3 ⟨⟨h4, h1004⟩, ⟨h11, h1011⟩, ⟨h21, h1021⟩⟩ (by omega)
        · refine X_aload_n (tk_X10_rope_.at 25 rfl) rfl ?_
          refine X_ldc (tk_X10_rope_.at 26 rfl) kn_x10_86 ?_
          refine X_cV1i (lv2 := [(0, _), (1, _)]) (tk_X10_rope_.at 27 rfl) mv_X10_finding lk_x10_82 np_X10_finding hM.f0 (by decide) rfl (Nat.le_of_ble_eq_true rfl) (Nat.le_of_ble_eq_true rfl) rfl (c10_finding (k := 4) hM (by decide) (by decide) ?_)
          refine X_ireturn (tk_X10_rope_.at 28 rfl) rfl rfl ?_
          exact k2 ⟨⟨h4, h1004⟩, ⟨h11, h1011⟩, ⟨h21, h1021⟩⟩ c4
      · refine X_if_ne (tgt := 34) (tk_X10_rope_.at 12 rfl) (by decide) (fun h => absurd h (by decide)) (fun _ => ?_)
        refine X_aload_n (tk_X10_rope_.at 13 rfl) rfl ?_
        refine X_ldc (tk_X10_rope_.at 14 rfl) kn_x10_81 ?_
        refine X_cV1i (lv2 := [(0, _), (1, _)]) (tk_X10_rope_.at 15 rfl) mv_X10_finding lk_x10_82 np_X10_finding hM.f0 (by decide) rfl (Nat.le_of_ble_eq_true rfl) (Nat.le_of_ble_eq_true rfl) rfl (c10_finding (k := 1) hM (by decide) (by decide) ?_)
        refine X_ireturn (tk_X10_rope_.at 16 rfl) rfl rfl ?_
        exact k1 (fun h => by obtain ⟨a1, a2, a3⟩ := h; first | exact h21 a3 | exact h11 a2 | exact h4 a1)
    · refine X_if_eq (tgt := 27) (tk_X10_rope_.at 7 rfl) (by decide) (fun _ => ?_) (fun h => absurd h (by decide))
      refine X_aload_n (tk_X10_rope_.at 13 rfl) rfl ?_
      refine X_ldc (tk_X10_rope_.at 14 rfl) kn_x10_81 ?_
      refine X_cV1i (lv2 := [(0, _), (1, _)]) (tk_X10_rope_.at 15 rfl) mv_X10_finding lk_x10_82 np_X10_finding hM.f0 (by decide) rfl (Nat.le_of_ble_eq_true rfl) (Nat.le_of_ble_eq_true rfl) rfl (c10_finding (k := 1) hM (by decide) (by decide) ?_)
      refine X_ireturn (tk_X10_rope_.at 16 rfl) rfl rfl ?_
      exact k1 (fun h => by obtain ⟨a1, a2, a3⟩ := h; first | exact h21 a3 | exact h11 a2 | exact h4 a1)
  · refine X_if_eq (tgt := 27) (tk_X10_rope_.at 4 rfl) (by decide) (fun _ => ?_) (fun h => absurd h (by decide))
    refine X_aload_n (tk_X10_rope_.at 13 rfl) rfl ?_
    refine X_ldc (tk_X10_rope_.at 14 rfl) kn_x10_81 ?_
    refine X_cV1i (lv2 := [(0, _), (1, _)]) (tk_X10_rope_.at 15 rfl) mv_X10_finding lk_x10_82 np_X10_finding hM.f0 (by decide) rfl (Nat.le_of_ble_eq_true rfl) (Nat.le_of_ble_eq_true rfl) rfl (c10_finding (k := 1) hM (by decide) (by decide) ?_)
    refine X_ireturn (tk_X10_rope_.at 16 rfl) rfl rfl ?_
    exact k1 (fun h => by obtain ⟨a1, a2, a3⟩ := h; first | exact h21 a3 | exact h11 a2 | exact h4 a1)
set_option maxHeartbeats 1000000 in
theorem c10_set {G : Gl} {d : Nat} {S : Sh} {μ : Mu} {o : Nat} {q : Nat → Nat} {r w v : Int32} {n : Nat} {K : Int32 → Sh → Mu → Prop} (hM : MS S o q) (hn : μ (o + 1) 3 = nI n) (hb : n ≤ 6) (k1 : ¬ (In r n ∧ (0 ≤ w ∧ w ≤ 1) ∧ (if w = 0 then 1 ≤ v ∧ v ≤ 20 else 0 ≤ v ∧ v ≤ 9)) → K (-1000000001) S (er μ o 1)) (k2 : ∀ j f, j < n → f < 2 → r = nI j → w = nI f → (if w = 0 then 1 ≤ v ∧ v ≤ 20 else 0 ≤ v ∧ v ≤ 9) → K (μ (o + 1) (81 + 9 * j + f)) S (su μ (o + 1) (81 + 9 * j + f) v)) : X G mi_X10_set (d + 2) 0 0 [(0, .ref o), (1, .int r), (2, .int w), (3, .int v)] [] S μ (qi K) := by
  refine X_aload_n (tk_X10_set.at 0 rfl) rfl ?_
  refine X_iload_n (tk_X10_set.at 1 rfl) rfl ?_
  refine X_iconst (tk_X10_set.at 2 rfl) ci_3 ?_
  refine X_cV2i (lv2 := [(0, _), (1, _), (2, _)]) (tk_X10_set.at 3 rfl) mv_X10_is lk_x10_90 np_X10_is hM.f0 (by decide) rfl (Nat.le_of_ble_eq_true rfl) (Nat.le_of_ble_eq_true rfl) rfl (c10_is hM (pl 3 rfl) (by decide) hn (by omega) (fun j3 hj3 ej3 => ?_) (fun hj3 => ?_))
  · refine X_if_eq (tgt := 46) (tk_X10_set.at 4 rfl) (by decide) (fun h => absurd h (by decide)) (fun _ => ?_)
    refine X_iload_n (tk_X10_set.at 5 rfl) rfl ?_
    refine X_iconst (tk_X10_set.at 6 rfl) ci_0 ?_
    refine X_iconst (tk_X10_set.at 7 rfl) ci_1 ?_
    refine X_cS3i (lv2 := [(0, _), (1, _), (2, _)]) (tk_X10_set.at 8 rfl) ms_X10_within lk_x10_69 np_X10_within (Nat.le_of_ble_eq_true rfl) (Nat.le_of_ble_eq_true rfl) rfl (c10_within (fun h12 h1012 => ?_) (fun h12 => ?_))
    · obtain ⟨ew12, lw12, bw12⟩ := le_lits (a := 0) (b := 1) (by decide) h12 h1012 (by decide)
      refine X_if_eq (tgt := 46) (tk_X10_set.at 9 rfl) (by decide) (fun h => absurd h (by decide)) (fun _ => ?_)
      refine X_iload_n (tk_X10_set.at 10 rfl) rfl ?_
      refine X_if_ne (tgt := 32) (tk_X10_set.at 11 rfl) (by decide) (fun c3 => ?_) (fun c3 => ?_)
      · refine X_iload_n (tk_X10_set.at 16 rfl) rfl ?_
        refine X_iconst (tk_X10_set.at 17 rfl) ci_0 ?_
        refine X_bipush (tk_X10_set.at 18 rfl) cb_9 ?_
        refine X_cS3i (lv2 := [(0, _), (1, _), (2, _)]) (tk_X10_set.at 19 rfl) ms_X10_within lk_x10_69 np_X10_within (Nat.le_of_ble_eq_true rfl) (Nat.le_of_ble_eq_true rfl) rfl (c10_within (fun h36 h1036 => ?_) (fun h36 => ?_))
        · obtain ⟨ew36, lw36, bw36⟩ := le_lits (a := 0) (b := 9) (by decide) h36 h1036 (by decide)
          refine X_if_eq (tgt := 46) (tk_X10_set.at 20 rfl) (by decide) (fun h => absurd h (by decide)) (fun _ => ?_)
          refine X_iconst (tk_X10_set.at 21 rfl) ci_1 ?_
          refine X_goto (tgt := 47) (tk_X10_set.at 22 rfl) (by decide) ?_
          refine X_istore (lv' := [(0, _), (1, _), (2, _), (3, _), (4, _)]) (tk_X10_set.at 24 rfl) (by decide) rfl rfl ?_
          refine X_iload (tk_X10_set.at 25 rfl) rfl ?_
          refine X_if_eq (tgt := 73) (tk_X10_set.at 26 rfl) (by decide) (fun h => absurd h (by decide)) (fun _ => ?_)
          refine X_aload_n (tk_X10_set.at 27 rfl) rfl ?_
          refine X_bipush (tk_X10_set.at 28 rfl) cb_80 ?_
          refine X_bipush (tk_X10_set.at 29 rfl) cb_9 ?_
          refine X_iload_n (tk_X10_set.at 30 rfl) rfl ?_
          refine X_imul (tk_X10_set.at 31 rfl) ?_
          refine X_iadd (tk_X10_set.at 32 rfl) ?_
          refine X_iconst (tk_X10_set.at 33 rfl) ci_1 ?_
          refine X_iadd (tk_X10_set.at 34 rfl) ?_
          refine X_iload_n (tk_X10_set.at 35 rfl) rfl ?_
          refine X_iadd (tk_X10_set.at 36 rfl) ?_
          refine X_iload_n (tk_X10_set.at 37 rfl) rfl ?_
          refine X_cV2i (lv2 := [(0, _), (1, _), (2, _)]) (tk_X10_set.at 38 rfl) mv_X10_become lk_x10_112 np_X10_become hM.f0 (by decide) rfl (Nat.le_of_ble_eq_true rfl) (Nat.le_of_ble_eq_true rfl) rfl (c10_become (k := 81 + 9 * j3 + (nv w)) hM (pz (pa (pa (pa (pl 80 rfl) (pm (pl 9 rfl) ej3)) (pl 1 rfl)) ew12) (by omega)) (by omega) ?_)
          refine X_goto (tgt := 79) (tk_X10_set.at 39 rfl) (by decide) ?_
          refine X_ireturn (tk_X10_set.at 43 rfl) rfl rfl ?_
          exact k2 j3 (nv w) hj3 (by omega) ej3 ew12 (by first | (rw [if_pos (by assumption)]; exact ⟨h23, h1023⟩) | (rw [if_neg (by assumption)]; exact ⟨h36, h1036⟩))
        · refine X_if_eq (tgt := 46) (tk_X10_set.at 20 rfl) (by decide) (fun _ => ?_) (fun h => absurd h (by decide))
          refine X_iconst (tk_X10_set.at 23 rfl) ci_0 ?_
          refine X_istore (lv' := [(0, _), (1, _), (2, _), (3, _), (4, _)]) (tk_X10_set.at 24 rfl) (by decide) rfl rfl ?_
          refine X_iload (tk_X10_set.at 25 rfl) rfl ?_
          refine X_if_eq (tgt := 73) (tk_X10_set.at 26 rfl) (by decide) (fun _ => ?_) (fun h => absurd h (by decide))
          refine X_aload_n (tk_X10_set.at 40 rfl) rfl ?_
          refine X_ldc (tk_X10_set.at 41 rfl) kn_x10_81 ?_
          refine X_cV1i (lv2 := [(0, _), (1, _)]) (tk_X10_set.at 42 rfl) mv_X10_finding lk_x10_82 np_X10_finding hM.f0 (by decide) rfl (Nat.le_of_ble_eq_true rfl) (Nat.le_of_ble_eq_true rfl) rfl (c10_finding (k := 1) hM (by decide) (by decide) ?_)
          refine X_ireturn (tk_X10_set.at 43 rfl) rfl rfl ?_
          exact k1 (fun h => by obtain ⟨a1, a2, a3⟩ := h; first | exact In_no (by omega) hj3 a1 | exact h12 a2 | (rw [if_pos (by assumption)] at a3; exact h23 a3) | (rw [if_neg (by assumption)] at a3; exact h36 a3))
      · refine X_iload_n (tk_X10_set.at 12 rfl) rfl ?_
        refine X_cS1i (lv2 := [(0, _)]) (tk_X10_set.at 13 rfl) ms_X10_isSpace lk_x10_124 np_X10_isSpace (Nat.le_of_ble_eq_true rfl) (Nat.le_of_ble_eq_true rfl) rfl (c10_isSpace (fun h23 h1023 => ?_) (fun h23 => ?_))
        · refine X_if_eq (tgt := 46) (tk_X10_set.at 14 rfl) (by decide) (fun h => absurd h (by decide)) (fun _ => ?_)
          refine X_goto (tgt := 42) (tk_X10_set.at 15 rfl) (by decide) ?_
          refine X_iconst (tk_X10_set.at 21 rfl) ci_1 ?_
          refine X_goto (tgt := 47) (tk_X10_set.at 22 rfl) (by decide) ?_
          refine X_istore (lv' := [(0, _), (1, _), (2, _), (3, _), (4, _)]) (tk_X10_set.at 24 rfl) (by decide) rfl rfl ?_
          refine X_iload (tk_X10_set.at 25 rfl) rfl ?_
          refine X_if_eq (tgt := 73) (tk_X10_set.at 26 rfl) (by decide) (fun h => absurd h (by decide)) (fun _ => ?_)
          refine X_aload_n (tk_X10_set.at 27 rfl) rfl ?_
          refine X_bipush (tk_X10_set.at 28 rfl) cb_80 ?_
          refine X_bipush (tk_X10_set.at 29 rfl) cb_9 ?_
          refine X_iload_n (tk_X10_set.at 30 rfl) rfl ?_
          refine X_imul (tk_X10_set.at 31 rfl) ?_
          refine X_iadd (tk_X10_set.at 32 rfl) ?_
          refine X_iconst (tk_X10_set.at 33 rfl) ci_1 ?_
          refine X_iadd (tk_X10_set.at 34 rfl) ?_
          refine X_iload_n (tk_X10_set.at 35 rfl) rfl ?_
          refine X_iadd (tk_X10_set.at 36 rfl) ?_
          refine X_iload_n (tk_X10_set.at 37 rfl) rfl ?_
          refine X_cV2i (lv2 := [(0, _), (1, _), (2, _)]) (tk_X10_set.at 38 rfl) mv_X10_become lk_x10_112 np_X10_become hM.f0 (by decide) rfl (Nat.le_of_ble_eq_true rfl) (Nat.le_of_ble_eq_true rfl) rfl (c10_become (k := 81 + 9 * j3 + (nv w)) hM (pz (pa (pa (pa (pl 80 rfl) (pm (pl 9 rfl) ej3)) (pl 1 rfl)) ew12) (by omega)) (by omega) ?_)
          refine X_goto (tgt := 79) (tk_X10_set.at 39 rfl) (by decide) ?_
          refine X_ireturn (tk_X10_set.at 43 rfl) rfl rfl ?_
          exact k2 j3 (nv w) hj3 (by omega) ej3 ew12 (by first | (rw [if_pos (by assumption)]; exact ⟨h23, h1023⟩) | (rw [if_neg (by assumption)]; exact ⟨h36, h1036⟩))
        · refine X_if_eq (tgt := 46) (tk_X10_set.at 14 rfl) (by decide) (fun _ => ?_) (fun h => absurd h (by decide))
          refine X_iconst (tk_X10_set.at 23 rfl) ci_0 ?_
          refine X_istore (lv' := [(0, _), (1, _), (2, _), (3, _), (4, _)]) (tk_X10_set.at 24 rfl) (by decide) rfl rfl ?_
          refine X_iload (tk_X10_set.at 25 rfl) rfl ?_
          refine X_if_eq (tgt := 73) (tk_X10_set.at 26 rfl) (by decide) (fun _ => ?_) (fun h => absurd h (by decide))
          refine X_aload_n (tk_X10_set.at 40 rfl) rfl ?_
          refine X_ldc (tk_X10_set.at 41 rfl) kn_x10_81 ?_
          refine X_cV1i (lv2 := [(0, _), (1, _)]) (tk_X10_set.at 42 rfl) mv_X10_finding lk_x10_82 np_X10_finding hM.f0 (by decide) rfl (Nat.le_of_ble_eq_true rfl) (Nat.le_of_ble_eq_true rfl) rfl (c10_finding (k := 1) hM (by decide) (by decide) ?_)
          refine X_ireturn (tk_X10_set.at 43 rfl) rfl rfl ?_
          exact k1 (fun h => by obtain ⟨a1, a2, a3⟩ := h; first | exact In_no (by omega) hj3 a1 | exact h12 a2 | (rw [if_pos (by assumption)] at a3; exact h23 a3) | (rw [if_neg (by assumption)] at a3; exact h36 a3))
    · refine X_if_eq (tgt := 46) (tk_X10_set.at 9 rfl) (by decide) (fun _ => ?_) (fun h => absurd h (by decide))
      refine X_iconst (tk_X10_set.at 23 rfl) ci_0 ?_
      refine X_istore (lv' := [(0, _), (1, _), (2, _), (3, _), (4, _)]) (tk_X10_set.at 24 rfl) (by decide) rfl rfl ?_
      refine X_iload (tk_X10_set.at 25 rfl) rfl ?_
      refine X_if_eq (tgt := 73) (tk_X10_set.at 26 rfl) (by decide) (fun _ => ?_) (fun h => absurd h (by decide))
      refine X_aload_n (tk_X10_set.at 40 rfl) rfl ?_
      refine X_ldc (tk_X10_set.at 41 rfl) kn_x10_81 ?_
      refine X_cV1i (lv2 := [(0, _), (1, _)]) (tk_X10_set.at 42 rfl) mv_X10_finding lk_x10_82 np_X10_finding hM.f0 (by decide) rfl (Nat.le_of_ble_eq_true rfl) (Nat.le_of_ble_eq_true rfl) rfl (c10_finding (k := 1) hM (by decide) (by decide) ?_)
      refine X_ireturn (tk_X10_set.at 43 rfl) rfl rfl ?_
      exact k1 (fun h => by obtain ⟨a1, a2, a3⟩ := h; first | exact In_no (by omega) hj3 a1 | exact h12 a2 | (rw [if_pos (by assumption)] at a3; exact h23 a3) | (rw [if_neg (by assumption)] at a3; exact h36 a3))
  · refine X_if_eq (tgt := 46) (tk_X10_set.at 4 rfl) (by decide) (fun _ => ?_) (fun h => absurd h (by decide))
    refine X_iconst (tk_X10_set.at 23 rfl) ci_0 ?_
    refine X_istore (lv' := [(0, _), (1, _), (2, _), (3, _), (4, _)]) (tk_X10_set.at 24 rfl) (by decide) rfl rfl ?_
    refine X_iload (tk_X10_set.at 25 rfl) rfl ?_
    refine X_if_eq (tgt := 73) (tk_X10_set.at 26 rfl) (by decide) (fun _ => ?_) (fun h => absurd h (by decide))
    refine X_aload_n (tk_X10_set.at 40 rfl) rfl ?_
    refine X_ldc (tk_X10_set.at 41 rfl) kn_x10_81 ?_
    refine X_cV1i (lv2 := [(0, _), (1, _)]) (tk_X10_set.at 42 rfl) mv_X10_finding lk_x10_82 np_X10_finding hM.f0 (by decide) rfl (Nat.le_of_ble_eq_true rfl) (Nat.le_of_ble_eq_true rfl) rfl (c10_finding (k := 1) hM (by decide) (by decide) ?_)
    refine X_ireturn (tk_X10_set.at 43 rfl) rfl rfl ?_
    exact k1 (fun h => by obtain ⟨a1, a2, a3⟩ := h; first | exact In_no (by omega) hj3 a1 | exact h12 a2 | (rw [if_pos (by assumption)] at a3; exact h23 a3) | (rw [if_neg (by assumption)] at a3; exact h36 a3))
def abv (k : Nat) : Int32 := if k = 0 then -1 else if k = 3 then 2 else if k = 5 then 4 else 0
set_option maxHeartbeats 1000000 in
theorem c10_above {G : Gl} {d : Nat} {S : Sh} {μ : Mu} {k : Int32} {n : Nat} {K : Int32 → Sh → Mu → Prop} (hk : k = nI n) (hb : n < 7) (hK : K (abv n) S μ) : X G mi_X10_above d 0 0 [(0, .int k)] [] S μ (qi K) := by
  refine X_iload_n (tk_X10_above.at 0 rfl) rfl ?_
  refine X_if_neN (tgt := 8) (tk_X10_above.at 1 rfl) (by decide) hk (by omega) (fun c1 => ?_) (fun c1 => ?_)
  · refine X_iload_n (tk_X10_above.at 4 rfl) rfl ?_
    refine X_iconst (tk_X10_above.at 5 rfl) ci_3 ?_
    refine X_icmp_neN (tgt := 17) (tk_X10_above.at 6 rfl) (by decide) hk (pl 3 rfl) (by omega) (by omega) (fun c2 => ?_) (fun c2 => ?_)
    · refine X_iload_n (tk_X10_above.at 9 rfl) rfl ?_
      refine X_iconst (tk_X10_above.at 10 rfl) ci_5 ?_
      refine X_icmp_neN (tgt := 26) (tk_X10_above.at 11 rfl) (by decide) hk (pl 5 rfl) (by omega) (by omega) (fun c3 => ?_) (fun c3 => ?_)
      · refine X_iconst (tk_X10_above.at 14 rfl) ci_0 ?_
        refine X_ireturn (tk_X10_above.at 15 rfl) rfl rfl ?_
        have e : abv n = 0 := by unfold abv; simp [c1, c2, c3]
        rw [e] at hK
        exact hK
      · refine X_iconst (tk_X10_above.at 12 rfl) ci_4 ?_
        refine X_goto (tgt := 27) (tk_X10_above.at 13 rfl) (by decide) ?_
        refine X_ireturn (tk_X10_above.at 15 rfl) rfl rfl ?_
        have e : abv n = 4 := by unfold abv; simp [c1, c2, c3]
        rw [e] at hK
        exact hK
    · refine X_iconst (tk_X10_above.at 7 rfl) ci_2 ?_
      refine X_goto (tgt := 27) (tk_X10_above.at 8 rfl) (by decide) ?_
      refine X_ireturn (tk_X10_above.at 15 rfl) rfl rfl ?_
      have e : abv n = 2 := by unfold abv; simp [c1, c2]
      rw [e] at hK
      exact hK
  · refine X_iconst (tk_X10_above.at 2 rfl) ci_m1 ?_
    refine X_goto (tgt := 27) (tk_X10_above.at 3 rfl) (by decide) ?_
    refine X_ireturn (tk_X10_above.at 15 rfl) rfl rfl ?_
    have e : abv n = (-1) := by unfold abv; simp [c1]
    rw [e] at hK
    exact hK
