/-- places behind one, one further; somebody comes between; somebody goes -/
def shU (N : Nat → Int32) (r m i : Nat) : Nat → Int32 := fun a => if 84 + 9 * r + i < a ∧ a ≤ 84 + 9 * r + m then N (a - 1) else N a
def insN (N : Nat → Int32) (r m i : Nat) (x : Int32) : Nat → Int32 := upd (upd (shU N r m i) (84 + 9 * r + i) x) (83 + 9 * r) (nI (m + 1))
def shD (N : Nat → Int32) (r j i : Nat) : Nat → Int32 := fun a => if 84 + 9 * r + j ≤ a ∧ a < 84 + 9 * r + i then N (a + 1) else N a
def delN (N : Nat → Int32) (r m j : Nat) : Nat → Int32 := shD (upd N (83 + 9 * r) (nI (m - 1))) r j (m - 1)
theorem shU_m (N : Nat → Int32) (r m : Nat) : shU N r m m = N := by
  funext a
  unfold shU
  rw [if_neg (by omega)]
theorem shU_lo (N : Nat → Int32) {r m i a : Nat} (h : a ≤ 84 + 9 * r + i) : shU N r m i a = N a := if_neg (by omega)
theorem shU_st (N : Nat → Int32) {r m i : Nat} (h0 : 0 < i) (h : i ≤ m) : upd (shU N r m i) (84 + 9 * r + i) (N (84 + 9 * r + i - 1)) = shU N r m (i - 1) := by
  funext a
  unfold upd shU
  by_cases e : a = 84 + 9 * r + i
  · rw [if_pos e, if_pos (by omega), e]
  · rw [if_neg e]
    by_cases z : 84 + 9 * r + i < a ∧ a ≤ 84 + 9 * r + m
    · rw [if_pos z, if_pos (by omega)]
    · rw [if_neg z, if_neg (by omega)]
theorem shD_0 (N : Nat → Int32) (r j : Nat) : shD N r j j = N := by
  funext a
  unfold shD
  rw [if_neg (by omega)]
theorem shD_hi (N : Nat → Int32) {r j i a : Nat} (h : 84 + 9 * r + i ≤ a) : shD N r j i a = N a := if_neg (by omega)
theorem shD_lo (N : Nat → Int32) {r j i a : Nat} (h : a < 84 + 9 * r + j) : shD N r j i a = N a := if_neg (by omega)
theorem shD_st (N : Nat → Int32) {r j i : Nat} (h : j ≤ i) : upd (shD N r j i) (84 + 9 * r + i) (N (84 + 9 * r + i + 1)) = shD N r j (i + 1) := by
  funext a
  unfold upd shD
  by_cases e : a = 84 + 9 * r + i
  · rw [if_pos e, if_pos (by omega), e]
  · rw [if_neg e]
    by_cases z : 84 + 9 * r + j ≤ a ∧ a < 84 + 9 * r + i
    · rw [if_pos z, if_pos (by omega)]
    · rw [if_neg z, if_neg (by omega)]
set_option maxHeartbeats 1000000 in
theorem c10_ties {G : Gl} {d : Nat} {S : Sh} {μ : Mu} {o : Nat} {q : Nat → Nat} {r p x : Int32} {rn m j : Nat} {K : Sh → Mu → Prop} (hM : MS S o q) (hr : r = nI rn) (hb : rn < 6) (hm : μ (o + 1) (83 + 9 * rn) = nI m) (hb2 : m < 5) (hp : p = nI j) (hj : j ≤ m) (hK : K S (Mx μ (o + 1) (insN (μ (o + 1)) rn m j x))) : X G mi_X10_ties (d + 2) 0 0 [(0, .ref o), (1, .int r), (2, .int p), (3, .int x)] [] S μ (qv K) := by
  have loop : ∀ (n i : Nat), i = j + n → i ≤ m → X G mi_X10_ties (d + 2) 0 7 [(0, .ref o), (1, .int r), (2, .int p), (3, .int x), (4, .int (nI i))] [] S (Mx μ (o + 1) (shU (μ (o + 1)) rn m i)) (qv K) := by
    intro n
    induction n with
    | zero =>
      intro i hi him
      have e : i = j := by omega
      subst e
      refine X_iload (tk_X10_ties.at 4 rfl) rfl ?_
      refine X_iload_n (tk_X10_ties.at 5 rfl) rfl ?_
      refine X_icmp_leN (tgt := 35) (tk_X10_ties.at 6 rfl) (by decide) (pl i rfl) hp (by omega) (by omega) (fun c1 => ?_) (fun c1 => (by exfalso; omega))
      refine X_aload_n (tk_X10_ties.at 19 rfl) rfl ?_
      refine X_iload_n (tk_X10_ties.at 20 rfl) rfl ?_
      refine X_iload_n (tk_X10_ties.at 21 rfl) rfl ?_
      refine X_iload_n (tk_X10_ties.at 22 rfl) rfl ?_
      refine X_cV3v (lv2 := [(0, _), (1, _), (2, _), (3, _)]) (tk_X10_ties.at 23 rfl) mv_X10_seats lk_x10_127 np_X10_seats hM.f0 (by decide) rfl (Nat.le_of_ble_eq_true rfl) (Nat.le_of_ble_eq_true rfl) rfl (c10_seats hM hr hp (by omega) (by omega) ?_)
      refine X_aload_n (tk_X10_ties.at 24 rfl) rfl ?_
      refine X_getR (tk_X10_ties.at 25 rfl) fl_x10_9 hM.f0 rfl rfl ?_
      refine X_bipush (tk_X10_ties.at 26 rfl) cb_80 ?_
      refine X_bipush (tk_X10_ties.at 27 rfl) cb_9 ?_
      refine X_iload_n (tk_X10_ties.at 28 rfl) rfl ?_
      refine X_imul (tk_X10_ties.at 29 rfl) ?_
      refine X_iadd (tk_X10_ties.at 30 rfl) ?_
      refine X_iconst (tk_X10_ties.at 31 rfl) ci_3 ?_
      refine X_iadd (tk_X10_ties.at 32 rfl) ?_
      refine X_dup2 (tk_X10_ties.at 33 rfl) rfl rfl ?_
      refine X_ialdN (k := 83 + 9 * rn) (tk_X10_ties.at 34 rfl) hM.f1 (pz (pa (pa (pl 80 rfl) (pm (pl 9 rfl) hr)) (pl 3 rfl)) (by omega)) (by omega) (by decide) ?_
      refine X_iconst (tk_X10_ties.at 35 rfl) ci_1 ?_
      refine X_iadd (tk_X10_ties.at 36 rfl) ?_
      refine X_iastN (k := 83 + 9 * rn) (tk_X10_ties.at 37 rfl) hM.f1 (pz (pa (pa (pl 80 rfl) (pm (pl 9 rfl) hr)) (pl 3 rfl)) (by omega)) (by omega) (by decide) ?_
      refine X_return (tk_X10_ties.at 38 rfl) rfl ?_
      have e1 : su (Mx μ (o + 1) (shU (μ (o + 1)) rn m i)) (o + 1) (84 + 9 * rn + i) x (o + 1) (83 + 9 * rn) = nI m := by
        rw [su_Mx, Mx_same, upd_ne _ _ (by omega), shU_lo _ (by omega)]; exact hm
      rw [e1, su_Mx, su_Mx, ← nI_succ]
      exact hK
    | succ n ih =>
      intro i hi him
      refine X_iload (tk_X10_ties.at 4 rfl) rfl ?_
      refine X_iload_n (tk_X10_ties.at 5 rfl) rfl ?_
      refine X_icmp_leN (tgt := 35) (tk_X10_ties.at 6 rfl) (by decide) (pl i rfl) hp (by omega) (by omega) (fun c1 => (by exfalso; omega)) (fun c1 => ?_)
      refine X_aload_n (tk_X10_ties.at 7 rfl) rfl ?_
      refine X_iload_n (tk_X10_ties.at 8 rfl) rfl ?_
      refine X_iload (tk_X10_ties.at 9 rfl) rfl ?_
      refine X_aload_n (tk_X10_ties.at 10 rfl) rfl ?_
      refine X_iload_n (tk_X10_ties.at 11 rfl) rfl ?_
      refine X_iload (tk_X10_ties.at 12 rfl) rfl ?_
      refine X_iconst (tk_X10_ties.at 13 rfl) ci_1 ?_
      refine X_isub (tk_X10_ties.at 14 rfl) ?_
      refine X_cV2i (lv2 := [(0, _), (1, _), (2, _)]) (tk_X10_ties.at 15 rfl) mv_X10_who lk_x10_121 np_X10_who hM.f0 (by decide) rfl (Nat.le_of_ble_eq_true rfl) (Nat.le_of_ble_eq_true rfl) rfl (c10_who hM hr (ps (pl i rfl) (pl 1 rfl) (by omega)) (by omega) (by omega) ?_)
      refine X_cV3v (lv2 := [(0, _), (1, _), (2, _), (3, _)]) (tk_X10_ties.at 16 rfl) mv_X10_seats lk_x10_127 np_X10_seats hM.f0 (by decide) rfl (Nat.le_of_ble_eq_true rfl) (Nat.le_of_ble_eq_true rfl) rfl (c10_seats hM hr (pl i rfl) (by omega) (by omega) ?_)
      refine X_iinc (lv' := [(0, _), (1, _), (2, _), (3, _), (4, _)]) (tk_X10_ties.at 17 rfl) rfl ci_m1 (by decide) rfl rfl ?_
      refine X_goto (tgt := 7) (tk_X10_ties.at 18 rfl) (by decide) ?_
      have e1 : Mx μ (o + 1) (shU (μ (o + 1)) rn m i) (o + 1) (84 + 9 * rn + (i - 1)) = μ (o + 1) (84 + 9 * rn + i - 1) := by
        rw [Mx_same, shU_lo _ (by omega)]; congr 1; omega
      rw [e1, su_Mx, shU_st _ (by omega) him, show nI i + (-1) = nI (i - 1) from pm1 rfl (by omega)]
      exact ih (i - 1) (by omega) (by omega)
  refine X_aload_n (tk_X10_ties.at 0 rfl) rfl ?_
  refine X_iload_n (tk_X10_ties.at 1 rfl) rfl ?_
  refine X_cV1i (lv2 := [(0, _), (1, _)]) (tk_X10_ties.at 2 rfl) mv_X10_many lk_x10_118 np_X10_many hM.f0 (by decide) rfl (Nat.le_of_ble_eq_true rfl) (Nat.le_of_ble_eq_true rfl) rfl (c10_many hM hr (by omega) ?_)
  refine X_istore (lv' := [(0, _), (1, _), (2, _), (3, _), (4, _)]) (tk_X10_ties.at 3 rfl) (by decide) rfl rfl ?_
  have z := loop (m - j) m (by omega) (Nat.le_refl m)
  rw [shU_m, Mx_self] at z
  rw [hm]
  exact z
set_option maxHeartbeats 1000000 in
theorem c10_unties {G : Gl} {d : Nat} {S : Sh} {μ : Mu} {o : Nat} {q : Nat → Nat} {p : Int32} {pn r0 i0 : Nat} {K : Sh → Mu → Prop} (hM : MS S o q) (hw : WF (μ (o + 1))) (hp : p = nI pn) (hon : On (μ (o + 1)) r0 i0 pn) (hK : ∀ r j, On (μ (o + 1)) r j pn → K S (Mx μ (o + 1) (delN (μ (o + 1)) r (nv (μ (o + 1) (83 + 9 * r))) j))) : X G mi_X10_unties (d + 4) 0 0 [(0, .ref o), (1, .int p)] [] S μ (qv K) := by
  have w0 := hw.n0
  have w1 := hw.n1
  have w2 := hw.n2
  have w3 := hw.n3
  have w4 := hw.n4
  have w5 := hw.n5
  have w6 := hw.n6
  have b1 := w1.2
  have b2 := w2.2
  have b3 := w3.2
  have b4 := w4.2
  have b5 := w5.2
  have b6 := w6.2
  have b0 := w0.2
  refine X_aload_n (tk_X10_unties.at 0 rfl) rfl ?_
  refine X_iload_n (tk_X10_unties.at 1 rfl) rfl ?_
  refine X_cV1i (lv2 := [(0, _), (1, _)]) (tk_X10_unties.at 2 rfl) mv_X10_ropeOf lk_x10_98 np_X10_ropeOf hM.f0 (by decide) rfl (Nat.le_of_ble_eq_true rfl) (Nat.le_of_ble_eq_true rfl) rfl (c10_ropeOf hM hw hp (fun r i2 h2 => ?_) (fun h2 => absurd hon (h2 _ _)))
  refine X_istore_n (lv' := [(0, _), (1, _), (2, _)]) (tk_X10_unties.at 3 rfl) (by decide) rfl rfl ?_
  refine X_aload_n (tk_X10_unties.at 4 rfl) rfl ?_
  refine X_iload_n (tk_X10_unties.at 5 rfl) rfl ?_
  refine X_cV1i (lv2 := [(0, _), (1, _)]) (tk_X10_unties.at 6 rfl) mv_X10_placeOf lk_x10_101 np_X10_placeOf hM.f0 (by decide) rfl (Nat.le_of_ble_eq_true rfl) (Nat.le_of_ble_eq_true rfl) rfl (c10_placeOf hM hw hp (fun r1 j h8 => ?_) (fun h8 => absurd hon (h8 _ _)))
  have hrr : r1 = r := (hw.un h8 h2).1
  subst hrr
  have hOn := h8
  have hr6 := hOn.1
  obtain ⟨m, hm2⟩ : ∃ m, m = nv (μ (o + 1) (83 + 9 * r1)) := ⟨_, rfl⟩
  refine X_istore_n (lv' := [(0, _), (1, _), (2, _), (3, _)]) (tk_X10_unties.at 7 rfl) (by decide) rfl rfl ?_
  refine X_aload_n (tk_X10_unties.at 8 rfl) rfl ?_
  refine X_getR (tk_X10_unties.at 9 rfl) fl_x10_9 hM.f0 rfl rfl ?_
  refine X_bipush (tk_X10_unties.at 10 rfl) cb_80 ?_
  refine X_bipush (tk_X10_unties.at 11 rfl) cb_9 ?_
  refine X_iload_n (tk_X10_unties.at 12 rfl) rfl ?_
  refine X_imul (tk_X10_unties.at 13 rfl) ?_
  refine X_iadd (tk_X10_unties.at 14 rfl) ?_
  refine X_iconst (tk_X10_unties.at 15 rfl) ci_3 ?_
  refine X_iadd (tk_X10_unties.at 16 rfl) ?_
  refine X_dup2 (tk_X10_unties.at 17 rfl) rfl rfl ?_
  refine X_ialdN (k := 83 + 9 * r1) (tk_X10_unties.at 18 rfl) hM.f1 (pz (pa (pa (pl 80 rfl) (pm (pl 9 rfl) (pl r1 rfl))) (pl 3 rfl)) (by omega)) (by omega) (by decide) ?_
  refine X_iconst (tk_X10_unties.at 19 rfl) ci_1 ?_
  refine X_isub (tk_X10_unties.at 20 rfl) ?_
  refine X_iastN (k := 83 + 9 * r1) (tk_X10_unties.at 21 rfl) hM.f1 (pz (pa (pa (pl 80 rfl) (pm (pl 9 rfl) (pl r1 rfl))) (pl 3 rfl)) (by omega)) (by omega) (by decide) ?_
  refine X_iload_n (tk_X10_unties.at 22 rfl) rfl ?_
  refine X_istore (lv' := [(0, _), (1, _), (2, _), (3, _), (4, _)]) (tk_X10_unties.at 23 rfl) (by decide) rfl rfl ?_
  have wr := hw.ro (p := r1) hOn.1
  have wm := wr.2.2.2.1
  have bm := wm.2
  have hm : μ (o + 1) (83 + 9 * r1) = nI m := by rw [hm2]; exact wm.1
  have hmj : j < m := by rw [hm2]; exact hOn.2.1
  rw [← hm2] at bm
  have loop : ∀ (n i : Nat), i + n = m - 1 → j ≤ i → X G mi_X10_unties (d + 4) 0 33 [(0, .ref o), (1, .int p), (2, .int (nI r1)), (3, .int (nI j)), (4, .int (nI i))] [] S (Mx μ (o + 1) (shD (upd (μ (o + 1)) (83 + 9 * r1) (nI (m - 1))) r1 j i)) (qv K) := by
    intro n
    induction n with
    | zero =>
      intro i hi hji
      have e : i = m - 1 := by omega
      subst e
      refine X_iload (tk_X10_unties.at 24 rfl) rfl ?_
      refine X_aload_n (tk_X10_unties.at 25 rfl) rfl ?_
      refine X_iload_n (tk_X10_unties.at 26 rfl) rfl ?_
      refine X_cV1i (lv2 := [(0, _), (1, _)]) (tk_X10_unties.at 27 rfl) mv_X10_many lk_x10_118 np_X10_many hM.f0 (by decide) rfl (Nat.le_of_ble_eq_true rfl) (Nat.le_of_ble_eq_true rfl) rfl (c10_many hM (pl r1 rfl) (by omega) ?_)
      have emm : Mx μ (o + 1) (shD (upd (μ (o + 1)) (83 + 9 * r1) (nI (m - 1))) r1 j (m - 1)) (o + 1) (83 + 9 * r1) = nI (m - 1) := by rw [Mx_same, shD_lo _ (by omega), upd_at]
      refine X_icmp_geN (tgt := 65) (tk_X10_unties.at 28 rfl) (by decide) (pl (m - 1) rfl) emm (by omega) (by omega) (fun c1 => ?_) (fun c1 => (by exfalso; omega))
      refine X_return (tk_X10_unties.at 41 rfl) rfl ?_
      have zz := hK r1 j hOn
      rw [← hm2] at zz
      exact zz
    | succ n ih =>
      intro i hi hji
      refine X_iload (tk_X10_unties.at 24 rfl) rfl ?_
      refine X_aload_n (tk_X10_unties.at 25 rfl) rfl ?_
      refine X_iload_n (tk_X10_unties.at 26 rfl) rfl ?_
      refine X_cV1i (lv2 := [(0, _), (1, _)]) (tk_X10_unties.at 27 rfl) mv_X10_many lk_x10_118 np_X10_many hM.f0 (by decide) rfl (Nat.le_of_ble_eq_true rfl) (Nat.le_of_ble_eq_true rfl) rfl (c10_many hM (pl r1 rfl) (by omega) ?_)
      have emm : Mx μ (o + 1) (shD (upd (μ (o + 1)) (83 + 9 * r1) (nI (m - 1))) r1 j i) (o + 1) (83 + 9 * r1) = nI (m - 1) := by rw [Mx_same, shD_lo _ (by omega), upd_at]
      refine X_icmp_geN (tgt := 65) (tk_X10_unties.at 28 rfl) (by decide) (pl i rfl) emm (by omega) (by omega) (fun c1 => (by exfalso; omega)) (fun c1 => ?_)
      refine X_aload_n (tk_X10_unties.at 29 rfl) rfl ?_
      refine X_iload_n (tk_X10_unties.at 30 rfl) rfl ?_
      refine X_iload (tk_X10_unties.at 31 rfl) rfl ?_
      refine X_aload_n (tk_X10_unties.at 32 rfl) rfl ?_
      refine X_iload_n (tk_X10_unties.at 33 rfl) rfl ?_
      refine X_iload (tk_X10_unties.at 34 rfl) rfl ?_
      refine X_iconst (tk_X10_unties.at 35 rfl) ci_1 ?_
      refine X_iadd (tk_X10_unties.at 36 rfl) ?_
      refine X_cV2i (lv2 := [(0, _), (1, _), (2, _)]) (tk_X10_unties.at 37 rfl) mv_X10_who lk_x10_121 np_X10_who hM.f0 (by decide) rfl (Nat.le_of_ble_eq_true rfl) (Nat.le_of_ble_eq_true rfl) rfl (c10_who hM (pl r1 rfl) (pa (pl i rfl) (pl 1 rfl)) (by omega) (by omega) ?_)
      refine X_cV3v (lv2 := [(0, _), (1, _), (2, _), (3, _)]) (tk_X10_unties.at 38 rfl) mv_X10_seats lk_x10_127 np_X10_seats hM.f0 (by decide) rfl (Nat.le_of_ble_eq_true rfl) (Nat.le_of_ble_eq_true rfl) rfl (c10_seats hM (pl r1 rfl) (pl i rfl) (by omega) (by omega) ?_)
      refine X_iinc (lv' := [(0, _), (1, _), (2, _), (3, _), (4, _)]) (tk_X10_unties.at 39 rfl) rfl ci_1 (by decide) rfl rfl ?_
      refine X_goto (tgt := 33) (tk_X10_unties.at 40 rfl) (by decide) ?_
      have e1 : Mx μ (o + 1) (shD (upd (μ (o + 1)) (83 + 9 * r1) (nI (m - 1))) r1 j i) (o + 1) (84 + 9 * r1 + (i + 1)) = upd (μ (o + 1)) (83 + 9 * r1) (nI (m - 1)) (84 + 9 * r1 + i + 1) := by
        rw [Mx_same, shD_hi _ (by omega)]; rfl
      skip
      rw [e1, su_Mx, shD_st _ hji, nI_1 i]
      exact ih (i + 1) (by omega) (by omega)
  have z := loop (m - 1 - j) j (by omega) (Nat.le_refl j)
  rw [shD_0] at z
  have e2 : su μ (o + 1) (83 + 9 * r1) (μ (o + 1) (83 + 9 * r1) - 1) = Mx μ (o + 1) (upd (μ (o + 1)) (83 + 9 * r1) (nI (m - 1))) := by rw [su_eq, hm, nI_m1 (by omega)]
  rw [e2]
  exact z
