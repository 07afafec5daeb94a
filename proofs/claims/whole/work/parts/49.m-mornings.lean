def bs (L : Int32) : Nat → Int32
  | 0 => 0
  | k + 1 => bs L k + ((L >>> (nI k &&& 31)) &&& 1)
def addM (w : Nat) (L : Int32) : Int32 := if w = 0 then (if L = 0 then 1 else 0) else bs L 10
noncomputable abbrev dawnL (M : Nat → Int32) : Dl := l1 M (nv (M 4)) (M 7, 0)
noncomputable def mor (w : Nat) : Nat → (Nat → Int32) → Int32 → (Nat → Int32) × Int32
  | 0, M, n => (M, n)
  | k + 1, M, n => mor w k (upd M 7 (dawnL M).1) (n + addM w (dawnL M).2)
set_option maxHeartbeats 1000000 in
theorem c10_morning {G : Gl} {d : Nat} {S : Sh} {μ : Mu} {o : Nat} {q : Nat → Nat} {N : Nat → Int32} {K : Int32 → Sh → Mu → Prop} (hM : MS S o q) (hN : μ (o + 1) = N) (hl0 : μ o 5 = 0) (hw : WF N) (hK : ∀ ν, Sq o μ ν → ν (o + 1) = upd N 7 (dawnL N).1 → K (dawnL N).2 S ν) : X G mi_X10_morning (d + 7) 0 0 [(0, .ref o)] [] S μ (qi K) := by
  refine X_aload_n (tk_X10_morning.at 0 rfl) rfl ?_
  refine X_cV0i (lv2 := [(0, _)]) (tk_X10_morning.at 1 rfl) mv_X10_lostBy lk_x10_305 np_X10_lostBy hM.f0 (by decide) rfl (Nat.le_of_ble_eq_true rfl) (Nat.le_of_ble_eq_true rfl) rfl (c10_lostBy hM hN hl0 hw (fun ν2 hsq2 h12 => ?_))
  refine X_ireturn (tk_X10_morning.at 2 rfl) rfl rfl ?_
  exact hK ν2 hsq2 h12
set_option maxHeartbeats 1000000 in
theorem c10_mornings {G : Gl} {d : Nat} {S : Sh} {μ : Mu} {o : Nat} {q : Nat → Nat} {x y : Int32} {N : Nat → Int32} {K : Int32 → Sh → Mu → Prop} (hM : MS S o q) (hN : μ (o + 1) = N) (hl0 : μ o 5 = 0) (hw : WF N) (k1 : ¬ ((1 ≤ x ∧ x ≤ 40) ∧ (0 ≤ y ∧ y ≤ 1)) → K (-1000000001) S (er μ o 1)) (k2 : ∀ ν m w, 1 ≤ m → m ≤ 40 → w ≤ 1 → x = nI m → y = nI w → Sq o μ ν → ν (o + 1) = (mor w m N 0).1 → K (mor w m N 0).2 S ν) : X G mi_X10_mornings (d + 7) 0 0 [(0, .ref o), (1, .int x), (2, .int y)] [] S μ (qi K) := by
  refine X_iload_n (tk_X10_mornings.at 0 rfl) rfl ?_
  refine X_iconst (tk_X10_mornings.at 1 rfl) ci_1 ?_
  refine X_bipush (tk_X10_mornings.at 2 rfl) cb_40 ?_
  refine X_cS3i (lv2 := [(0, _), (1, _), (2, _)]) (tk_X10_mornings.at 3 rfl) ms_X10_within lk_x10_69 np_X10_within (Nat.le_of_ble_eq_true rfl) (Nat.le_of_ble_eq_true rfl) rfl (c10_within (fun h4 h1004 => ?_) (fun h4 => ?_))
  · obtain ⟨ew4, lw4, bw4⟩ := le_lits (a := 1) (b := 40) (by decide) h4 h1004 (by decide)
    refine X_if_eq (tgt := 19) (tk_X10_mornings.at 4 rfl) (by decide) (fun h => absurd h (by decide)) (fun _ => ?_)
    refine X_iload_n (tk_X10_mornings.at 5 rfl) rfl ?_
    refine X_iconst (tk_X10_mornings.at 6 rfl) ci_0 ?_
    refine X_iconst (tk_X10_mornings.at 7 rfl) ci_1 ?_
    refine X_cS3i (lv2 := [(0, _), (1, _), (2, _)]) (tk_X10_mornings.at 8 rfl) ms_X10_within lk_x10_69 np_X10_within (Nat.le_of_ble_eq_true rfl) (Nat.le_of_ble_eq_true rfl) rfl (c10_within (fun h13 h1013 => ?_) (fun h13 => ?_))
    · obtain ⟨ew13, lw13, bw13⟩ := le_lits (a := 0) (b := 1) (by decide) h13 h1013 (by decide)
      refine X_if_ne (tgt := 26) (tk_X10_mornings.at 9 rfl) (by decide) (fun _ => ?_) (fun h => absurd h (by decide))
      refine X_iconst (tk_X10_mornings.at 14 rfl) ci_0 ?_
      refine X_istore_n (lv' := [(0, _), (1, _), (2, _), (3, _)]) (tk_X10_mornings.at 15 rfl) (by decide) rfl rfl ?_
      refine X_iconst (tk_X10_mornings.at 16 rfl) ci_0 ?_
      refine X_istore (lv' := [(0, _), (1, _), (2, _), (3, _), (4, _)]) (tk_X10_mornings.at 17 rfl) (by decide) rfl rfl ?_
      have ex := ew4
      have hmm : nv x ≤ 40 := bw4
      have hm1 : 1 ≤ nv x := lw4
      generalize nv x = mm at ex hmm hm1
      have ey := ew13
      have hww : nv y ≤ 1 := bw13
      generalize nv y = ww at ey hww
      have loop : ∀ (m k : Nat) (ν : Mu) (M : Nat → Int32) (n : Int32) (rest : List (Nat × Value)), k + m = mm → Sq o μ ν → ν (o + 1) = M → WF M → mor ww m M n = mor ww mm N 0 → X G mi_X10_mornings (d + 7) 0 31 ([(0, .ref o), (1, .int x), (2, .int y), (3, .int n), (4, .int (nI k))] ++ rest) [] S ν (qi K) := by
        intro m
        induction m with
        | zero =>
          intro k ν M n rest hk hsq h1 hwM hmo
          refine X_lvp [0, 1, 2, 3, 4] (lv' := [(0, _), (1, _), (2, _), (3, _), (4, _)]) rfl ?_
          refine X_iload (tk_X10_mornings.at 18 rfl) rfl ?_
          refine X_iload_n (tk_X10_mornings.at 19 rfl) rfl ?_
          refine X_icmp_geN (tgt := 97) (tk_X10_mornings.at 20 rfl) (by decide) (pl k rfl) ex (by omega) (by omega) (fun c1 => ?_) (fun c1 => (by exfalso; omega))
          refine X_iload_n (tk_X10_mornings.at 54 rfl) rfl ?_
          refine X_ireturn (tk_X10_mornings.at 55 rfl) rfl rfl ?_
          have z := k2 ν mm ww hm1 hmm hww ex ey hsq
          rw [← hmo] at z
          exact z h1
        | succ m ih =>
          intro k ν M n rest hk hsq h1 hwM hmo
          refine X_lvp [0, 1, 2, 3, 4] (lv' := [(0, _), (1, _), (2, _), (3, _), (4, _)]) rfl ?_
          refine X_iload (tk_X10_mornings.at 18 rfl) rfl ?_
          refine X_iload_n (tk_X10_mornings.at 19 rfl) rfl ?_
          refine X_icmp_geN (tgt := 97) (tk_X10_mornings.at 20 rfl) (by decide) (pl k rfl) ex (by omega) (by omega) (fun c1 => (by exfalso; omega)) (fun c1 => ?_)
          refine X_aload_n (tk_X10_mornings.at 21 rfl) rfl ?_
          refine X_cV0i (lv2 := [(0, _)]) (tk_X10_mornings.at 22 rfl) mv_X10_lostBy lk_x10_305 np_X10_lostBy hM.f0 (by decide) rfl (Nat.le_of_ble_eq_true rfl) (Nat.le_of_ble_eq_true rfl) rfl (c10_lostBy hM h1 (hsq.2.2.1.trans hl0) hwM (fun ν2 hsq2 h12 => ?_))
          refine X_istore (lv' := [(0, _), (1, _), (2, _), (3, _), (4, _), (5, _)]) (tk_X10_mornings.at 23 rfl) (by decide) rfl rfl ?_
          have hsq3 := hsq.tr hsq2
          have hw3 : WF (upd M 7 (dawnL M).1) := WF_u7 hwM _
          rw [mor] at hmo
          generalize hal : (dawnL M).2 = al at hmo ⊢
          by_cases hw0 : ww = 0
          · subst hw0
            refine X_iload_n (tk_X10_mornings.at 24 rfl) rfl ?_
            refine X_if_neN (tgt := 60) (tk_X10_mornings.at 25 rfl) (by decide) ey (by omega) (fun c1 => (by contradiction)) (fun c1 => ?_)
            refine X_iload_n (tk_X10_mornings.at 26 rfl) rfl ?_
            refine X_iload (tk_X10_mornings.at 27 rfl) rfl ?_
            refine X_if_ne (tgt := 57) (tk_X10_mornings.at 28 rfl) (by decide) (fun c2 => ?_) (fun c2 => ?_)
            · refine X_iconst (tk_X10_mornings.at 31 rfl) ci_0 ?_
              refine X_iadd (tk_X10_mornings.at 32 rfl) ?_
              refine X_istore_n (lv' := [(0, _), (1, _), (2, _), (3, _), (4, _), (5, _)]) (tk_X10_mornings.at 33 rfl) (by decide) rfl rfl ?_
              refine X_iconst (tk_X10_mornings.at 34 rfl) ci_0 ?_
              refine X_istore (lv' := [(0, _), (1, _), (2, _), (3, _), (4, _), (5, _), (6, _)]) (tk_X10_mornings.at 35 rfl) (by decide) rfl rfl ?_
              refine X_iload (tk_X10_mornings.at 36 rfl) rfl ?_
              refine X_bipush (tk_X10_mornings.at 37 rfl) cb_10 ?_
              refine X_icmp_ge (tgt := 91) (tk_X10_mornings.at 38 rfl) (by decide) (fun h => absurd h (by decide)) (fun _ => ?_)
              refine X_iload_n (tk_X10_mornings.at 39 rfl) rfl ?_
              refine X_iconst (tk_X10_mornings.at 40 rfl) ci_1 ?_
              refine X_icmp_neN (tgt := 91) (tk_X10_mornings.at 41 rfl) (by decide) ey (pl 1 rfl) (by omega) (by omega) (fun c4 => ?_) (fun c4 => (by exfalso; omega))
              refine X_iinc (lv' := [(0, _), (1, _), (2, _), (3, _), (4, _), (5, _), (6, _)]) (tk_X10_mornings.at 52 rfl) rfl ci_1 (by decide) rfl rfl ?_
              refine X_goto (tgt := 31) (tk_X10_mornings.at 53 rfl) (by decide) ?_
              rw [nI_1 k]
              refine ih (k + 1) ν2 _ _ [(5, _), (6, _)] (by omega) hsq3 h12 hw3 ?_
              rw [← hmo]
              unfold addM
              rw [if_pos rfl, if_neg c2]
            · refine X_iconst (tk_X10_mornings.at 29 rfl) ci_1 ?_
              refine X_goto (tgt := 58) (tk_X10_mornings.at 30 rfl) (by decide) ?_
              refine X_iadd (tk_X10_mornings.at 32 rfl) ?_
              refine X_istore_n (lv' := [(0, _), (1, _), (2, _), (3, _), (4, _), (5, _)]) (tk_X10_mornings.at 33 rfl) (by decide) rfl rfl ?_
              refine X_iconst (tk_X10_mornings.at 34 rfl) ci_0 ?_
              refine X_istore (lv' := [(0, _), (1, _), (2, _), (3, _), (4, _), (5, _), (6, _)]) (tk_X10_mornings.at 35 rfl) (by decide) rfl rfl ?_
              refine X_iload (tk_X10_mornings.at 36 rfl) rfl ?_
              refine X_bipush (tk_X10_mornings.at 37 rfl) cb_10 ?_
              refine X_icmp_ge (tgt := 91) (tk_X10_mornings.at 38 rfl) (by decide) (fun h => absurd h (by decide)) (fun _ => ?_)
              refine X_iload_n (tk_X10_mornings.at 39 rfl) rfl ?_
              refine X_iconst (tk_X10_mornings.at 40 rfl) ci_1 ?_
              refine X_icmp_neN (tgt := 91) (tk_X10_mornings.at 41 rfl) (by decide) ey (pl 1 rfl) (by omega) (by omega) (fun c6 => ?_) (fun c6 => (by exfalso; omega))
              refine X_iinc (lv' := [(0, _), (1, _), (2, _), (3, _), (4, _), (5, _), (6, _)]) (tk_X10_mornings.at 52 rfl) rfl ci_1 (by decide) rfl rfl ?_
              refine X_goto (tgt := 31) (tk_X10_mornings.at 53 rfl) (by decide) ?_
              rw [nI_1 k]
              refine ih (k + 1) ν2 _ _ [(5, _), (6, _)] (by omega) hsq3 h12 hw3 ?_
              rw [← hmo]
              unfold addM
              rw [if_pos rfl, if_pos c2]
          · have hw1 : ww = 1 := by omega
            subst hw1
            have inn : ∀ (w p : Nat), p + w = 10 → X G mi_X10_mornings (d + 7) 0 63 [(0, .ref o), (1, .int x), (2, .int y), (3, .int (n + bs al p)), (4, .int (nI k)), (5, .int al), (6, .int (nI p))] [] S ν2 (qi K) := by
              intro w
              induction w with
              | zero =>
                intro p hp
                have e10 : p = 10 := by omega
                subst e10
                refine X_iload (tk_X10_mornings.at 36 rfl) rfl ?_
                refine X_bipush (tk_X10_mornings.at 37 rfl) cb_10 ?_
                refine X_icmp_geN (tgt := 91) (tk_X10_mornings.at 38 rfl) (by decide) (pl 10 rfl) (pl 10 rfl) (by omega) (by omega) (fun c1 => ?_) (fun c1 => (by exfalso; omega))
                refine X_iinc (lv' := [(0, _), (1, _), (2, _), (3, _), (4, _), (5, _), (6, _)]) (tk_X10_mornings.at 52 rfl) rfl ci_1 (by decide) rfl rfl ?_
                refine X_goto (tgt := 31) (tk_X10_mornings.at 53 rfl) (by decide) ?_
                rw [nI_1 k]
                refine ih (k + 1) ν2 _ _ [(5, _), (6, _)] (by omega) hsq3 h12 hw3 ?_
                rw [← hmo]
                rfl
              | succ w ihw =>
                intro p hp
                refine X_iload (tk_X10_mornings.at 36 rfl) rfl ?_
                refine X_bipush (tk_X10_mornings.at 37 rfl) cb_10 ?_
                refine X_icmp_geN (tgt := 91) (tk_X10_mornings.at 38 rfl) (by decide) (pl p rfl) (pl 10 rfl) (by omega) (by omega) (fun c1 => (by exfalso; omega)) (fun c1 => ?_)
                refine X_iload_n (tk_X10_mornings.at 39 rfl) rfl ?_
                refine X_iconst (tk_X10_mornings.at 40 rfl) ci_1 ?_
                refine X_icmp_neN (tgt := 91) (tk_X10_mornings.at 41 rfl) (by decide) ey (pl 1 rfl) (by omega) (by omega) (fun c2 => (by contradiction)) (fun c2 => ?_)
                refine X_iload_n (tk_X10_mornings.at 42 rfl) rfl ?_
                refine X_iload (tk_X10_mornings.at 43 rfl) rfl ?_
                refine X_iload (tk_X10_mornings.at 44 rfl) rfl ?_
                refine X_ishr (tk_X10_mornings.at 45 rfl) ?_
                refine X_iconst (tk_X10_mornings.at 46 rfl) ci_1 ?_
                refine X_iand (tk_X10_mornings.at 47 rfl) ?_
                refine X_iadd (tk_X10_mornings.at 48 rfl) ?_
                refine X_istore_n (lv' := [(0, _), (1, _), (2, _), (3, _), (4, _), (5, _), (6, _)]) (tk_X10_mornings.at 49 rfl) (by decide) rfl rfl ?_
                refine X_iinc (lv' := [(0, _), (1, _), (2, _), (3, _), (4, _), (5, _), (6, _)]) (tk_X10_mornings.at 50 rfl) rfl ci_1 (by decide) rfl rfl ?_
                refine X_goto (tgt := 63) (tk_X10_mornings.at 51 rfl) (by decide) ?_
                have z := ihw (p + 1) (by omega)
                rw [bs, ← Int32.add_assoc] at z
                rw [nI_1 p]
                exact z
            refine X_iload_n (tk_X10_mornings.at 24 rfl) rfl ?_
            refine X_if_neN (tgt := 60) (tk_X10_mornings.at 25 rfl) (by decide) ey (by omega) (fun c1 => ?_) (fun c1 => (by exfalso; omega))
            refine X_iconst (tk_X10_mornings.at 34 rfl) ci_0 ?_
            refine X_istore (lv' := [(0, _), (1, _), (2, _), (3, _), (4, _), (5, _), (6, _)]) (tk_X10_mornings.at 35 rfl) (by decide) rfl rfl ?_
            have z := inn 10 0 rfl
            rw [bs, Int32.add_zero] at z
            exact z
      exact loop mm 0 μ N 0 [] (Nat.zero_add _) (Sq.rf o μ) hN hw rfl
    · refine X_if_ne (tgt := 26) (tk_X10_mornings.at 9 rfl) (by decide) (fun h => absurd h (by decide)) (fun _ => ?_)
      refine X_aload_n (tk_X10_mornings.at 10 rfl) rfl ?_
      refine X_ldc (tk_X10_mornings.at 11 rfl) kn_x10_81 ?_
      refine X_cV1i (lv2 := [(0, _), (1, _)]) (tk_X10_mornings.at 12 rfl) mv_X10_finding lk_x10_82 np_X10_finding hM.f0 (by decide) rfl (Nat.le_of_ble_eq_true rfl) (Nat.le_of_ble_eq_true rfl) rfl (c10_finding (k := 1) hM (by decide) (by decide) ?_)
      refine X_ireturn (tk_X10_mornings.at 13 rfl) rfl rfl ?_
      exact k1 (fun g => by first | exact h13 g.2 | exact h4 g.1)
  · refine X_if_eq (tgt := 19) (tk_X10_mornings.at 4 rfl) (by decide) (fun _ => ?_) (fun h => absurd h (by decide))
    refine X_aload_n (tk_X10_mornings.at 10 rfl) rfl ?_
    refine X_ldc (tk_X10_mornings.at 11 rfl) kn_x10_81 ?_
    refine X_cV1i (lv2 := [(0, _), (1, _)]) (tk_X10_mornings.at 12 rfl) mv_X10_finding lk_x10_82 np_X10_finding hM.f0 (by decide) rfl (Nat.le_of_ble_eq_true rfl) (Nat.le_of_ble_eq_true rfl) rfl (c10_finding (k := 1) hM (by decide) (by decide) ?_)
    refine X_ireturn (tk_X10_mornings.at 13 rfl) rfl rfl ?_
    exact k1 (fun g => by first | exact h13 g.2 | exact h4 g.1)
