set_option maxHeartbeats 1000000 in
theorem c10_left {G : Gl} {d : Nat} {S : Sh} {μ : Mu} {o : Nat} {q : Nat → Nat} {N : Nat → Int32} {K : Int32 → Sh → Mu → Prop} (hM : MS S o q) (hN : μ (o + 1) = N) (hl0 : μ o 5 = 0) (hw : WF N) (k1 : ∀ ν, Sq o μ ν → ν (o + 1) = N → bw (InL N) (tlD N) 0 (nv (N 1)) = none → K (-1000000002) S (er ν o 2)) (k2 : ∀ ν t c, Sq o μ ν → ν (o + 1) = N → bw (InL N) (tlD N) 0 (nv (N 1)) = some (t, c) → K (nI c) S ν) : X G mi_X10_left (d + 8) 0 0 [(0, .ref o)] [] S μ (qi K) := by
  have b1 := hw.n1.2
  have b3 := hw.n3.2
  have w1 := hw.n1.1
  refine X_aload_n (tk_X10_left.at 0 rfl) rfl ?_
  refine X_getR (tk_X10_left.at 1 rfl) fl_x10_9 hM.f0 rfl rfl ?_
  refine X_aload_n (tk_X10_left.at 2 rfl) rfl ?_
  refine X_getR (tk_X10_left.at 3 rfl) fl_x10_16 hM.f0 rfl rfl ?_
  refine X_cS2v (lv2 := [(0, _), (1, _)]) (tk_X10_left.at 4 rfl) ms_X10_copy lk_x10_73 np_X10_copy (Nat.le_of_ble_eq_true rfl) (Nat.le_of_ble_eq_true rfl) rfl (c10_copy hM.f1 hM.f3 (by omega) ?_)
  rw [hN]
  refine X_iconst (tk_X10_left.at 5 rfl) ci_m1 ?_
  refine X_istore_n (lv' := [(0, _), (1, _)]) (tk_X10_left.at 6 rfl) (by decide) rfl rfl ?_
  refine X_aload_n (tk_X10_left.at 7 rfl) rfl ?_
  refine X_iconst (tk_X10_left.at 8 rfl) ci_0 ?_
  refine X_putI (tk_X10_left.at 9 rfl) fl_x10_275 hM.f0 rfl rfl ⟨rfl, rfl⟩ ?_
  refine X_iconst (tk_X10_left.at 10 rfl) ci_0 ?_
  refine X_istore_n (lv' := [(0, _), (1, _), (2, _)]) (tk_X10_left.at 11 rfl) (by decide) rfl rfl ?_
  have loop : ∀ (m p : Nat) (ν : Mu) (bl : Int32) (rest : List (Nat × Value)), p + m = nv (N 1) → Sq o μ ν → ν (o + 1) = N → ν (o + 3) = N → BB o ν bl (bw (InL N) (tlD N) 0 p) → X G mi_X10_left (d + 8) 0 20 ([(0, .ref o), (1, .int bl), (2, .int (nI p))] ++ rest) [] S ν (qi K) := by
    intro m
    induction m with
    | zero =>
      intro p ν bl rest hp hsq h1 h3 hb
      refine X_lvp [0, 1, 2] (lv' := [(0, _), (1, _), (2, _)]) rfl ?_
      have ep : p = nv (N 1) := by omega
      refine X_iload_n (tk_X10_left.at 12 rfl) rfl ?_
      refine X_aload_n (tk_X10_left.at 13 rfl) rfl ?_
      refine X_getR (tk_X10_left.at 14 rfl) fl_x10_16 hM.f0 rfl rfl ?_
      refine X_iconst (tk_X10_left.at 15 rfl) ci_1 ?_
      refine X_ialdN (k := 1) (tk_X10_left.at 16 rfl) hM.f3 (pz (pl 1 rfl) (by omega)) (by omega) (by decide) ?_
      refine X_icmp_geN (tgt := 77) (tk_X10_left.at 17 rfl) (by decide) (pl p rfl) (show ν (o + 3) 1 = _ by rw [h3]; exact w1) (by omega) (by omega) (fun c1 => ?_) (fun c1 => (by exfalso; omega))
      rw [ep] at hb
      cases hbw : bw (InL N) (tlD N) 0 (nv (N 1)) with
      | none =>
        rw [hbw] at hb
        have ebl : bl = -1 := hb
        rw [ebl]
        refine X_iload_n (tk_X10_left.at 43 rfl) rfl ?_
        refine X_if_ge (tgt := 90) (tk_X10_left.at 44 rfl) (by decide) (fun h => absurd h (by decide)) (fun _ => ?_)
        refine X_aload_n (tk_X10_left.at 45 rfl) rfl ?_
        refine X_ldc (tk_X10_left.at 46 rfl) kn_x10_108 ?_
        refine X_cV1i (lv2 := [(0, _), (1, _)]) (tk_X10_left.at 47 rfl) mv_X10_finding lk_x10_82 np_X10_finding hM.f0 (by decide) rfl (Nat.le_of_ble_eq_true rfl) (Nat.le_of_ble_eq_true rfl) rfl (c10_finding (k := 2) hM (by decide) (by decide) ?_)
        refine X_goto (tgt := 91) (tk_X10_left.at 48 rfl) (by decide) ?_
        refine X_ireturn (tk_X10_left.at 50 rfl) rfl rfl ?_
        exact k1 ν hsq h1 hbw
      | some x =>
        obtain ⟨t, c⟩ := x
        rw [hbw] at hb
        obtain ⟨c20, ct, cl, cb⟩ := hb
        refine X_iload_n (tk_X10_left.at 43 rfl) rfl ?_
        refine X_if_geN (tgt := 90) (tk_X10_left.at 44 rfl) (by decide) cl (by omega) ?_
        refine X_iload_n (tk_X10_left.at 49 rfl) rfl ?_
        refine X_ireturn (tk_X10_left.at 50 rfl) rfl rfl ?_
        rw [cl]
        exact k2 ν t c hsq h1 hbw
    | succ m ih =>
      intro p ν bl rest hp hsq h1 h3 hb
      refine X_lvp [0, 1, 2] (lv' := [(0, _), (1, _), (2, _)]) rfl ?_
      refine X_iload_n (tk_X10_left.at 12 rfl) rfl ?_
      refine X_aload_n (tk_X10_left.at 13 rfl) rfl ?_
      refine X_getR (tk_X10_left.at 14 rfl) fl_x10_16 hM.f0 rfl rfl ?_
      refine X_iconst (tk_X10_left.at 15 rfl) ci_1 ?_
      refine X_ialdN (k := 1) (tk_X10_left.at 16 rfl) hM.f3 (pz (pl 1 rfl) (by omega)) (by omega) (by decide) ?_
      refine X_icmp_geN (tgt := 77) (tk_X10_left.at 17 rfl) (by decide) (pl p rfl) (show ν (o + 3) 1 = _ by rw [h3]; exact w1) (by omega) (by omega) (fun c1 => (by exfalso; omega)) (fun c1 => ?_)
      refine X_aload_n (tk_X10_left.at 18 rfl) rfl ?_
      refine X_iload_n (tk_X10_left.at 19 rfl) rfl ?_
      refine X_cV1i (lv2 := [(0, _), (1, _)]) (tk_X10_left.at 20 rfl) mv_X10_isInLine lk_x10_261 np_X10_isInLine hM.f0 (by decide) rfl (Nat.le_of_ble_eq_true rfl) (Nat.le_of_ble_eq_true rfl) rfl (c10_isInLine hM (by rw [h1]; exact hw) (pl p rfl) (fun r0 i0 k0 hon hk0 hkl => ?_) (fun hf => ?_))
      · rw [h1] at hon hkl hk0
        have hok : InL N p := ⟨r0, i0, k0, hon, hk0, hkl⟩
        refine X_if_eq (tgt := 71) (tk_X10_left.at 21 rfl) (by decide) (fun h => absurd h (by decide)) (fun _ => ?_)
        refine X_aload_n (tk_X10_left.at 22 rfl) rfl ?_
        refine X_iload_n (tk_X10_left.at 23 rfl) rfl ?_
        refine X_cV1v (lv2 := [(0, _), (1, _)]) (tk_X10_left.at 24 rfl) mv_X10_unties lk_x10_135 np_X10_unties hM.f0 (by decide) rfl (Nat.le_of_ble_eq_true rfl) (Nat.le_of_ble_eq_true rfl) rfl (c10_unties hM (by rw [h1]; exact hw) (pl p rfl) (by rw [h1]; exact hon) (fun r j hrj => ?_))
        rw [h1] at hrj
        rw [show Mx ν (o + 1) (delN (ν (o + 1)) r (nv (ν (o + 1) (83 + 9 * r))) j) = Mx ν (o + 1) (outN N p) from by rw [h1]; unfold outN; rw [pos_eq hw hrj]]
        refine X_aload_n (tk_X10_left.at 25 rfl) rfl ?_
        refine X_aload_n (tk_X10_left.at 26 rfl) rfl ?_
        have wft : WF (outN N p) := WF_out hw hon
        refine X_cV0i (lv2 := [(0, _)]) (tk_X10_left.at 27 rfl) mv_X10_tollOf lk_x10_264 np_X10_tollOf hM.f0 (by decide) rfl (Nat.le_of_ble_eq_true rfl) (Nat.le_of_ble_eq_true rfl) rfl (c10_tollY hM Mx_same (by rw [Mx_ne (by omega)]; exact hsq.2.2.1.trans hl0) wft (fun ξ hsy hov => ?_))
        have tb := toll_le wft
        have x20 : ξ o 20 = ν o 20 := by rw [hsy.2 20 (by decide), Mx_ne (by omega)]
        have x1 : ξ (o + 1) = (outN N p) := by rw [hsy.1 _ (by omega) (by omega) (by omega) (by omega) (by omega), Mx_same]
        have x3 : ξ (o + 3) = ν (o + 3) := by rw [hsy.1 _ (by omega) (by omega) (by omega) (by omega) (by omega), Mx_ne (by omega)]
        have xsq : Sq o μ ξ := (hsq.mx _ (by omega)).tr hsy.sx
        clear hsy hov
        refine X_cV1i (lv2 := [(0, _), (1, _)]) (tk_X10_left.at 28 rfl) mv_X10_back lk_x10_285 np_X10_back hM.f0 (by decide) rfl (Nat.le_of_ble_eq_true rfl) (Nat.le_of_ble_eq_true rfl) rfl (c10_back hM ?_)
        have y1 : (Mx ξ (o + 1) (ξ (o + 3))) (o + 1) = N := by rw [Mx_same]; exact x3.trans h3
        have y3 : (Mx ξ (o + 1) (ξ (o + 3))) (o + 3) = N := by rw [Mx_ne (by omega)]; exact x3.trans h3
        have y20 : (Mx ξ (o + 1) (ξ (o + 3))) o 20 = ν o 20 := by rw [Mx_ne (by omega)]; exact x20
        have ysq : Sq o μ (Mx ξ (o + 1) (ξ (o + 3))) := xsq.mx _ (by omega)
        generalize Mx ξ (o + 1) (ξ (o + 3)) = χ at y1 y3 y20 ysq ⊢
        refine X_istore_n (lv' := [(0, _), (1, _), (2, _), (3, _)]) (tk_X10_left.at 29 rfl) (by decide) rfl rfl ?_
        have etl : toll (outN N p) = (tlD N) (0 + p) := by rw [Nat.zero_add]; rfl
        generalize hbb : bw (InL N) (tlD N) 0 p = b at hb
        cases b with
        | none =>
          have hbt : btr none (toll (outN N p)) := trivial
          have ebl : bl = -1 := hb
          rw [ebl]
          refine X_iload_n (tk_X10_left.at 30 rfl) rfl ?_
          refine X_if_lt (tgt := 64) (tk_X10_left.at 31 rfl) (by decide) (fun _ => ?_) (fun h => absurd h (by decide))
          refine X_iload_n (tk_X10_left.at 36 rfl) rfl ?_
          refine X_istore_n (lv' := [(0, _), (1, _), (2, _), (3, _)]) (tk_X10_left.at 37 rfl) (by decide) rfl rfl ?_
          refine X_aload_n (tk_X10_left.at 38 rfl) rfl ?_
          refine X_iload_n (tk_X10_left.at 39 rfl) rfl ?_
          refine X_putI (tk_X10_left.at 40 rfl) fl_x10_275 hM.f0 rfl rfl ⟨rfl, rfl⟩ ?_
          refine X_iinc (lv' := [(0, _), (1, _), (2, _), (3, _)]) (tk_X10_left.at 41 rfl) rfl ci_1 (by decide) rfl rfl ?_
          refine X_goto (tgt := 20) (tk_X10_left.at 42 rfl) (by decide) ?_
          rw [nI_1 p]
          refine ih (p + 1) (su χ o 20 (nI (toll (outN N p)))) (nI p) [(3, _)] (by omega) (ysq.su _ (by decide)) (by rw [su_ne (by omega)]; exact y1) (by rw [su_ne (by omega)]; exact y3) ?_
          rw [bw_t (by first | exact hok | (rw [Nat.zero_add]; exact hok)) (by rw [hbb, ← etl]; exact hbt), ← etl, Nat.zero_add]
          exact ⟨by rw [su_same]; exact upd_at _ _ _, tb, rfl, by omega⟩
        | some x =>
          obtain ⟨t, c⟩ := x
          obtain ⟨c20, ct, cl, cb⟩ := hb
          refine X_iload_n (tk_X10_left.at 30 rfl) rfl ?_
          refine X_if_ltN (tgt := 64) (tk_X10_left.at 31 rfl) (by decide) cl (by omega) ?_
          refine X_iload_n (tk_X10_left.at 32 rfl) rfl ?_
          refine X_aload_n (tk_X10_left.at 33 rfl) rfl ?_
          refine X_getI (tk_X10_left.at 34 rfl) fl_x10_275 hM.f0 rfl ?_
          refine X_icmp_geN (tgt := 71) (tk_X10_left.at 35 rfl) (by decide) (pl (toll (outN N p)) rfl) (y20.trans c20) (by omega) (by omega) (fun c2 => ?_) (fun c2 => ?_)
          · refine X_iinc (lv' := [(0, _), (1, _), (2, _), (3, _)]) (tk_X10_left.at 41 rfl) rfl ci_1 (by decide) rfl rfl ?_
            refine X_goto (tgt := 20) (tk_X10_left.at 42 rfl) (by decide) ?_
            rw [nI_1 p]
            refine ih (p + 1) χ bl [(3, _)] (by omega) ysq y1 y3 ?_
            rw [bw_f (by rw [hbb, ← etl]; exact Nat.not_lt.mpr (by omega)), hbb]
            exact ⟨y20.trans c20, ct, cl, cb⟩
          · refine X_iload_n (tk_X10_left.at 36 rfl) rfl ?_
            refine X_istore_n (lv' := [(0, _), (1, _), (2, _), (3, _)]) (tk_X10_left.at 37 rfl) (by decide) rfl rfl ?_
            refine X_aload_n (tk_X10_left.at 38 rfl) rfl ?_
            refine X_iload_n (tk_X10_left.at 39 rfl) rfl ?_
            refine X_putI (tk_X10_left.at 40 rfl) fl_x10_275 hM.f0 rfl rfl ⟨rfl, rfl⟩ ?_
            refine X_iinc (lv' := [(0, _), (1, _), (2, _), (3, _)]) (tk_X10_left.at 41 rfl) rfl ci_1 (by decide) rfl rfl ?_
            refine X_goto (tgt := 20) (tk_X10_left.at 42 rfl) (by decide) ?_
            have hbt : btr (some (t, c)) (toll (outN N p)) := (show toll (outN N p) < t by omega)
            rw [nI_1 p]
            refine ih (p + 1) (su χ o 20 (nI (toll (outN N p)))) (nI p) [(3, _)] (by omega) (ysq.su _ (by decide)) (by rw [su_ne (by omega)]; exact y1) (by rw [su_ne (by omega)]; exact y3) ?_
            rw [bw_t (by first | exact hok | (rw [Nat.zero_add]; exact hok)) (by rw [hbb, ← etl]; exact hbt), ← etl, Nat.zero_add]
            exact ⟨by rw [su_same]; exact upd_at _ _ _, tb, rfl, by omega⟩
      · have hno : ¬ InL N (0 + p) := by
          rw [Nat.zero_add]
          rintro ⟨r, i, k, g1, g2, g3⟩
          rw [h1] at hf
          exact hf r i k g1 g2 g3
        refine X_if_eq (tgt := 71) (tk_X10_left.at 21 rfl) (by decide) (fun _ => ?_) (fun h => absurd h (by decide))
        refine X_iinc (lv' := [(0, _), (1, _), (2, _)]) (tk_X10_left.at 41 rfl) rfl ci_1 (by decide) rfl rfl ?_
        refine X_goto (tgt := 20) (tk_X10_left.at 42 rfl) (by decide) ?_
        rw [nI_1 p]
        refine ih (p + 1) ν bl [] (by omega) hsq h1 h3 ?_
        rw [bw_n hno]
        exact hb
  exact loop (nv (N 1)) 0 (su (Mx μ (o + 3) N) o 20 0) (-1) [] (Nat.zero_add _) (((Sq.rf o μ).mx _ (by omega)).su _ (by decide)) (by rw [su_ne (by omega), Mx_ne (by omega)]; exact hN) (by rw [su_ne (by omega)]; exact Mx_same) rfl
