set_option maxHeartbeats 1000000 in
theorem c10_lead {G : Gl} {d : Nat} {S : Sh} {μ : Mu} {o : Nat} {q : Nat → Nat} {x : Int32} {N : Nat → Int32} {K : Int32 → Sh → Mu → Prop} (hM : MS S o q) (hN : μ (o + 1) = N) (hl0 : μ o 5 = 0) (hw : WF N) (k1 : ¬ In x (nv (N 1)) → K (-1000000001) S (er μ o 1)) (k2 : ∀ pn, pn < nv (N 1) → x = nI pn → ¬ InL N pn → K (-1000000002) S (er μ o 2)) (k3 : ∀ ν pn r i k t c, pn < nv (N 1) → x = nI pn → On N r i pn → k < nv (N 4) → N (134 + k) = nI r → Sq o μ ν → ν (o + 1) = N → bw (fun _ => True) (tlE N pn) 0 (mnr N r) = some (t, c) → K (nI c) S ν) : X G mi_X10_lead (d + 8) 0 0 [(0, .ref o), (1, .int x)] [] S μ (qi K) := by
  have b1 := hw.n1.2
  have b3 := hw.n3.2
  have w1 : μ (o + 1) 1 = nI (nv (N 1)) := by rw [hN]; exact hw.n1.1
  refine X_aload_n (tk_X10_lead.at 0 rfl) rfl ?_
  refine X_iload_n (tk_X10_lead.at 1 rfl) rfl ?_
  refine X_iconst (tk_X10_lead.at 2 rfl) ci_1 ?_
  refine X_cV2i (lv2 := [(0, _), (1, _), (2, _)]) (tk_X10_lead.at 3 rfl) mv_X10_is lk_x10_90 np_X10_is hM.f0 (by decide) rfl (Nat.le_of_ble_eq_true rfl) (Nat.le_of_ble_eq_true rfl) rfl (c10_is hM (pl 1 rfl) (by decide) w1 (by omega) (fun j3 hj3 ej3 => ?_) (fun hj3 => ?_))
  · refine X_if_ne (tgt := 16) (tk_X10_lead.at 4 rfl) (by decide) (fun _ => ?_) (fun h => absurd h (by decide))
    refine X_aload_n (tk_X10_lead.at 9 rfl) rfl ?_
    refine X_iload_n (tk_X10_lead.at 10 rfl) rfl ?_
    have hpn : j3 < nv (N 1) := hj3
    refine X_cV1i (lv2 := [(0, _), (1, _)]) (tk_X10_lead.at 11 rfl) mv_X10_isInLine lk_x10_261 np_X10_isInLine hM.f0 (by decide) rfl (Nat.le_of_ble_eq_true rfl) (Nat.le_of_ble_eq_true rfl) rfl (c10_isInLine hM (by rw [hN]; exact hw) ej3 (fun r0 i00 k0 hon0 hk0 hkl => ?_) (fun hf => ?_))
    · rw [hN] at hon0 hkl hk0
      refine X_if_ne (tgt := 31) (tk_X10_lead.at 12 rfl) (by decide) (fun _ => ?_) (fun h => absurd h (by decide))
      refine X_aload_n (tk_X10_lead.at 17 rfl) rfl ?_
      refine X_getR (tk_X10_lead.at 18 rfl) fl_x10_9 hM.f0 rfl rfl ?_
      refine X_aload_n (tk_X10_lead.at 19 rfl) rfl ?_
      refine X_getR (tk_X10_lead.at 20 rfl) fl_x10_16 hM.f0 rfl rfl ?_
      refine X_cS2v (lv2 := [(0, _), (1, _)]) (tk_X10_lead.at 21 rfl) ms_X10_copy lk_x10_73 np_X10_copy (Nat.le_of_ble_eq_true rfl) (Nat.le_of_ble_eq_true rfl) rfl (c10_copy hM.f1 hM.f3 (by omega) ?_)
      rw [hN]
      refine X_aload_n (tk_X10_lead.at 22 rfl) rfl ?_
      refine X_iload_n (tk_X10_lead.at 23 rfl) rfl ?_
      refine X_cV1i (lv2 := [(0, _), (1, _)]) (tk_X10_lead.at 24 rfl) mv_X10_ropeOf lk_x10_98 np_X10_ropeOf hM.f0 (by decide) rfl (Nat.le_of_ble_eq_true rfl) (Nat.le_of_ble_eq_true rfl) rfl (c10_ropeOf hM (by rw [Mx_ne (by omega), hN]; exact hw) ej3 (fun r i0 hon => ?_) (fun hf => absurd hon0 (by rw [Mx_ne (by omega), hN] at hf; exact hf _ _)))
      rw [Mx_ne (by omega), hN] at hon
      obtain ⟨er, ei⟩ := hw.un hon0 hon
      subst er
      subst ei
      have hm : N (83 + 9 * r0) = nI (mnr N r0) := (hw.ro hon.1).2.2.2.1.1
      have bm : mnr N r0 ≤ 5 := (hw.ro hon.1).2.2.2.1.2
      have hm0 : 0 < mnr N r0 := Nat.lt_of_le_of_lt (Nat.zero_le _) hon.2.1
      have hr0 := hon.1
      generalize r0 = r at *
      generalize i00 = i0 at *
      generalize j3 = pn at *
      have ex := ej3
      refine X_istore_n (lv' := [(0, _), (1, _), (2, _)]) (tk_X10_lead.at 25 rfl) (by decide) rfl rfl ?_
      refine X_iconst (tk_X10_lead.at 26 rfl) ci_m1 ?_
      refine X_istore_n (lv' := [(0, _), (1, _), (2, _), (3, _)]) (tk_X10_lead.at 27 rfl) (by decide) rfl rfl ?_
      refine X_aload_n (tk_X10_lead.at 28 rfl) rfl ?_
      refine X_iconst (tk_X10_lead.at 29 rfl) ci_0 ?_
      refine X_putI (tk_X10_lead.at 30 rfl) fl_x10_275 hM.f0 rfl rfl ⟨rfl, rfl⟩ ?_
      refine X_iconst (tk_X10_lead.at 31 rfl) ci_0 ?_
      refine X_istore (lv' := [(0, _), (1, _), (2, _), (3, _), (4, _)]) (tk_X10_lead.at 32 rfl) (by decide) rfl rfl ?_
      have loop : ∀ (m j : Nat) (ν : Mu) (bl : Int32) (rest : List (Nat × Value)), j + m = (mnr N r) → Sq o μ ν → ν (o + 1) = N → ν (o + 3) = N → BB o ν bl (bw (fun _ => True) (tlE N pn) 0 j) → X G mi_X10_lead (d + 8) 0 58 ([(0, .ref o), (1, .int x), (2, .int (nI r)), (3, .int bl), (4, .int (nI j))] ++ rest) [] S ν (qi K) := by
        intro m
        induction m with
        | zero =>
          intro j ν bl rest hj hsq h1 h3 hb
          refine X_lvp [0, 1, 2, 3, 4] (lv' := [(0, _), (1, _), (2, _), (3, _), (4, _)]) rfl ?_
          have ej : j = (mnr N r) := by omega
          refine X_iload (tk_X10_lead.at 33 rfl) rfl ?_
          refine X_aload_n (tk_X10_lead.at 34 rfl) rfl ?_
          refine X_getR (tk_X10_lead.at 35 rfl) fl_x10_16 hM.f0 rfl rfl ?_
          refine X_bipush (tk_X10_lead.at 36 rfl) cb_80 ?_
          refine X_bipush (tk_X10_lead.at 37 rfl) cb_9 ?_
          refine X_iload_n (tk_X10_lead.at 38 rfl) rfl ?_
          refine X_imul (tk_X10_lead.at 39 rfl) ?_
          refine X_iadd (tk_X10_lead.at 40 rfl) ?_
          refine X_iconst (tk_X10_lead.at 41 rfl) ci_3 ?_
          refine X_iadd (tk_X10_lead.at 42 rfl) ?_
          refine X_ialdN (k := 83 + 9 * r) (tk_X10_lead.at 43 rfl) hM.f3 (pz (pa (pa (pl 80 rfl) (pm (pl 9 rfl) (pl r rfl))) (pl 3 rfl)) (by omega)) (by omega) (by decide) ?_
          refine X_icmp_geN (tgt := 128) (tk_X10_lead.at 44 rfl) (by decide) (pl j rfl) (show ν (o + 3) (83 + 9 * r) = _ by rw [h3]; exact hm) (by omega) (by omega) (fun c1 => ?_) (fun c1 => (by exfalso; omega))
          rw [ej] at hb
          obtain ⟨⟨t, c⟩, hbw⟩ := bw_some (ok := (fun _ => True)) (tl := (tlE N pn)) (a := 0) trivial (mnr N r) (by omega)
          rw [hbw] at hb
          obtain ⟨c20, ct, cl, cb⟩ := hb
          refine X_iload_n (tk_X10_lead.at 71 rfl) rfl ?_
          refine X_ireturn (tk_X10_lead.at 72 rfl) rfl rfl ?_
          rw [cl]
          exact k3 ν pn r i0 k0 t c hpn ex hon hk0 hkl hsq h1 hbw
        | succ m ih =>
          intro j ν bl rest hj hsq h1 h3 hb
          refine X_lvp [0, 1, 2, 3, 4] (lv' := [(0, _), (1, _), (2, _), (3, _), (4, _)]) rfl ?_
          have hok : True := trivial
          refine X_iload (tk_X10_lead.at 33 rfl) rfl ?_
          refine X_aload_n (tk_X10_lead.at 34 rfl) rfl ?_
          refine X_getR (tk_X10_lead.at 35 rfl) fl_x10_16 hM.f0 rfl rfl ?_
          refine X_bipush (tk_X10_lead.at 36 rfl) cb_80 ?_
          refine X_bipush (tk_X10_lead.at 37 rfl) cb_9 ?_
          refine X_iload_n (tk_X10_lead.at 38 rfl) rfl ?_
          refine X_imul (tk_X10_lead.at 39 rfl) ?_
          refine X_iadd (tk_X10_lead.at 40 rfl) ?_
          refine X_iconst (tk_X10_lead.at 41 rfl) ci_3 ?_
          refine X_iadd (tk_X10_lead.at 42 rfl) ?_
          refine X_ialdN (k := 83 + 9 * r) (tk_X10_lead.at 43 rfl) hM.f3 (pz (pa (pa (pl 80 rfl) (pm (pl 9 rfl) (pl r rfl))) (pl 3 rfl)) (by omega)) (by omega) (by decide) ?_
          refine X_icmp_geN (tgt := 128) (tk_X10_lead.at 44 rfl) (by decide) (pl j rfl) (show ν (o + 3) (83 + 9 * r) = _ by rw [h3]; exact hm) (by omega) (by omega) (fun c1 => (by exfalso; omega)) (fun c1 => ?_)
          refine X_aload_n (tk_X10_lead.at 45 rfl) rfl ?_
          refine X_iload_n (tk_X10_lead.at 46 rfl) rfl ?_
          refine X_cV1v (lv2 := [(0, _), (1, _)]) (tk_X10_lead.at 47 rfl) mv_X10_unties lk_x10_135 np_X10_unties hM.f0 (by decide) rfl (Nat.le_of_ble_eq_true rfl) (Nat.le_of_ble_eq_true rfl) rfl (c10_unties hM (by rw [h1]; exact hw) ex (by rw [h1]; exact hon) (fun r1 j1 hrj => ?_))
          rw [h1] at hrj
          rw [show Mx ν (o + 1) (delN (ν (o + 1)) r1 (nv (ν (o + 1) (83 + 9 * r1))) j1) = Mx ν (o + 1) (outN N pn) from by rw [h1]; unfold outN; rw [pos_eq hw hrj]]
          refine X_aload_n (tk_X10_lead.at 48 rfl) rfl ?_
          refine X_iload_n (tk_X10_lead.at 49 rfl) rfl ?_
          refine X_iload (tk_X10_lead.at 50 rfl) rfl ?_
          refine X_iload_n (tk_X10_lead.at 51 rfl) rfl ?_
          have eo : outN N pn = delN N r (mnr N r) i0 := by unfold outN; rw [pos_eq hw hon]
          have ec : (Mx ν (o + 1) (outN N pn)) (o + 1) (83 + 9 * r) = nI (mnr N r - 1) := by rw [Mx_same, eo]; exact delN_c hon.2.1
          refine X_cV3v (lv2 := [(0, _), (1, _), (2, _), (3, _)]) (tk_X10_lead.at 52 rfl) mv_X10_ties lk_x10_132 np_X10_ties hM.f0 (by decide) rfl (Nat.le_of_ble_eq_true rfl) (Nat.le_of_ble_eq_true rfl) rfl (c10_ties hM (pl r rfl) (by omega) ec (by omega) (pl j rfl) (by omega) ?_)
          rw [Mx_same, Mx_Mx, show insN (outN N pn) r (mnr N r - 1) j x = (ldN N pn j) from by unfold ldN; rw [pos_eq hw hon, ex]]
          refine X_aload_n (tk_X10_lead.at 53 rfl) rfl ?_
          refine X_aload_n (tk_X10_lead.at 54 rfl) rfl ?_
          have wft : WF (ldN N pn j) := WF_ld hw hon hpn (show j < mnr N r by omega)
          refine X_cV0i (lv2 := [(0, _)]) (tk_X10_lead.at 55 rfl) mv_X10_tollOf lk_x10_264 np_X10_tollOf hM.f0 (by decide) rfl (Nat.le_of_ble_eq_true rfl) (Nat.le_of_ble_eq_true rfl) rfl (c10_tollY hM Mx_same (by rw [Mx_ne (by omega)]; exact hsq.2.2.1.trans hl0) wft (fun ξ hsy hov => ?_))
          have tb := toll_le wft
          have x20 : ξ o 20 = ν o 20 := by rw [hsy.2 20 (by decide), Mx_ne (by omega)]
          have x1 : ξ (o + 1) = (ldN N pn j) := by rw [hsy.1 _ (by omega) (by omega) (by omega) (by omega) (by omega), Mx_same]
          have x3 : ξ (o + 3) = ν (o + 3) := by rw [hsy.1 _ (by omega) (by omega) (by omega) (by omega) (by omega), Mx_ne (by omega)]
          have xsq : Sq o μ ξ := (hsq.mx _ (by omega)).tr hsy.sx
          clear hsy hov
          refine X_cV1i (lv2 := [(0, _), (1, _)]) (tk_X10_lead.at 56 rfl) mv_X10_back lk_x10_285 np_X10_back hM.f0 (by decide) rfl (Nat.le_of_ble_eq_true rfl) (Nat.le_of_ble_eq_true rfl) rfl (c10_back hM ?_)
          have y1 : (Mx ξ (o + 1) (ξ (o + 3))) (o + 1) = N := by rw [Mx_same]; exact x3.trans h3
          have y3 : (Mx ξ (o + 1) (ξ (o + 3))) (o + 3) = N := by rw [Mx_ne (by omega)]; exact x3.trans h3
          have y20 : (Mx ξ (o + 1) (ξ (o + 3))) o 20 = ν o 20 := by rw [Mx_ne (by omega)]; exact x20
          have ysq : Sq o μ (Mx ξ (o + 1) (ξ (o + 3))) := xsq.mx _ (by omega)
          generalize Mx ξ (o + 1) (ξ (o + 3)) = χ at y1 y3 y20 ysq ⊢
          refine X_istore (lv' := [(0, _), (1, _), (2, _), (3, _), (4, _), (5, _)]) (tk_X10_lead.at 57 rfl) (by decide) rfl rfl ?_
          have etl : toll (ldN N pn j) = (tlE N pn) (0 + j) := by rw [Nat.zero_add]; rfl
          generalize hbb : bw (fun _ => True) (tlE N pn) 0 j = b at hb
          cases b with
          | none =>
            have hbt : btr none (toll (ldN N pn j)) := trivial
            have ebl : bl = -1 := hb
            rw [ebl]
            refine X_iload_n (tk_X10_lead.at 58 rfl) rfl ?_
            refine X_if_lt (tgt := 113) (tk_X10_lead.at 59 rfl) (by decide) (fun _ => ?_) (fun h => absurd h (by decide))
            refine X_iload (tk_X10_lead.at 64 rfl) rfl ?_
            refine X_istore_n (lv' := [(0, _), (1, _), (2, _), (3, _), (4, _), (5, _)]) (tk_X10_lead.at 65 rfl) (by decide) rfl rfl ?_
            refine X_aload_n (tk_X10_lead.at 66 rfl) rfl ?_
            refine X_iload (tk_X10_lead.at 67 rfl) rfl ?_
            refine X_putI (tk_X10_lead.at 68 rfl) fl_x10_275 hM.f0 rfl rfl ⟨rfl, rfl⟩ ?_
            refine X_iinc (lv' := [(0, _), (1, _), (2, _), (3, _), (4, _), (5, _)]) (tk_X10_lead.at 69 rfl) rfl ci_1 (by decide) rfl rfl ?_
            refine X_goto (tgt := 58) (tk_X10_lead.at 70 rfl) (by decide) ?_
            rw [nI_1 j]
            refine ih (j + 1) (su χ o 20 (nI (toll (ldN N pn j)))) (nI j) [(5, _)] (by omega) (ysq.su _ (by decide)) (by rw [su_ne (by omega)]; exact y1) (by rw [su_ne (by omega)]; exact y3) ?_
            rw [bw_t (by first | exact hok | (rw [Nat.zero_add]; exact hok)) (by rw [hbb, ← etl]; exact hbt), ← etl, Nat.zero_add]
            exact ⟨by rw [su_same]; exact upd_at _ _ _, tb, rfl, by omega⟩
          | some x =>
            obtain ⟨t, c⟩ := x
            obtain ⟨c20, ct, cl, cb⟩ := hb
            refine X_iload_n (tk_X10_lead.at 58 rfl) rfl ?_
            refine X_if_ltN (tgt := 113) (tk_X10_lead.at 59 rfl) (by decide) cl (by omega) ?_
            refine X_iload (tk_X10_lead.at 60 rfl) rfl ?_
            refine X_aload_n (tk_X10_lead.at 61 rfl) rfl ?_
            refine X_getI (tk_X10_lead.at 62 rfl) fl_x10_275 hM.f0 rfl ?_
            refine X_icmp_geN (tgt := 122) (tk_X10_lead.at 63 rfl) (by decide) (pl (toll (ldN N pn j)) rfl) (y20.trans c20) (by omega) (by omega) (fun c2 => ?_) (fun c2 => ?_)
            · refine X_iinc (lv' := [(0, _), (1, _), (2, _), (3, _), (4, _), (5, _)]) (tk_X10_lead.at 69 rfl) rfl ci_1 (by decide) rfl rfl ?_
              refine X_goto (tgt := 58) (tk_X10_lead.at 70 rfl) (by decide) ?_
              rw [nI_1 j]
              refine ih (j + 1) χ bl [(5, _)] (by omega) ysq y1 y3 ?_
              rw [bw_f (by rw [hbb, ← etl]; exact Nat.not_lt.mpr (by omega)), hbb]
              exact ⟨y20.trans c20, ct, cl, cb⟩
            · refine X_iload (tk_X10_lead.at 64 rfl) rfl ?_
              refine X_istore_n (lv' := [(0, _), (1, _), (2, _), (3, _), (4, _), (5, _)]) (tk_X10_lead.at 65 rfl) (by decide) rfl rfl ?_
              refine X_aload_n (tk_X10_lead.at 66 rfl) rfl ?_
              refine X_iload (tk_X10_lead.at 67 rfl) rfl ?_
              refine X_putI (tk_X10_lead.at 68 rfl) fl_x10_275 hM.f0 rfl rfl ⟨rfl, rfl⟩ ?_
              refine X_iinc (lv' := [(0, _), (1, _), (2, _), (3, _), (4, _), (5, _)]) (tk_X10_lead.at 69 rfl) rfl ci_1 (by decide) rfl rfl ?_
              refine X_goto (tgt := 58) (tk_X10_lead.at 70 rfl) (by decide) ?_
              have hbt : btr (some (t, c)) (toll (ldN N pn j)) := (show toll (ldN N pn j) < t by omega)
              rw [nI_1 j]
              refine ih (j + 1) (su χ o 20 (nI (toll (ldN N pn j)))) (nI j) [(5, _)] (by omega) (ysq.su _ (by decide)) (by rw [su_ne (by omega)]; exact y1) (by rw [su_ne (by omega)]; exact y3) ?_
              rw [bw_t (by first | exact hok | (rw [Nat.zero_add]; exact hok)) (by rw [hbb, ← etl]; exact hbt), ← etl, Nat.zero_add]
              exact ⟨by rw [su_same]; exact upd_at _ _ _, tb, rfl, by omega⟩
      exact loop (mnr N r) 0 (su (Mx μ (o + 3) N) o 20 0) (-1) [] (Nat.zero_add _) (((Sq.rf o μ).mx _ (by omega)).su _ (by decide)) (by rw [su_ne (by omega), Mx_ne (by omega)]; exact hN) (by rw [su_ne (by omega)]; exact Mx_same) rfl
    · rw [hN] at hf
      refine X_if_ne (tgt := 31) (tk_X10_lead.at 12 rfl) (by decide) (fun h => absurd h (by decide)) (fun _ => ?_)
      refine X_aload_n (tk_X10_lead.at 13 rfl) rfl ?_
      refine X_ldc (tk_X10_lead.at 14 rfl) kn_x10_108 ?_
      refine X_cV1i (lv2 := [(0, _), (1, _)]) (tk_X10_lead.at 15 rfl) mv_X10_finding lk_x10_82 np_X10_finding hM.f0 (by decide) rfl (Nat.le_of_ble_eq_true rfl) (Nat.le_of_ble_eq_true rfl) rfl (c10_finding (k := 2) hM (by decide) (by decide) ?_)
      refine X_ireturn (tk_X10_lead.at 16 rfl) rfl rfl ?_
      exact k2 j3 hpn ej3 (fun g => by obtain ⟨r, i, k, g1, g2, g3⟩ := g; exact hf r i k g1 g2 g3)
  · refine X_if_ne (tgt := 16) (tk_X10_lead.at 4 rfl) (by decide) (fun h => absurd h (by decide)) (fun _ => ?_)
    refine X_aload_n (tk_X10_lead.at 5 rfl) rfl ?_
    refine X_ldc (tk_X10_lead.at 6 rfl) kn_x10_81 ?_
    refine X_cV1i (lv2 := [(0, _), (1, _)]) (tk_X10_lead.at 7 rfl) mv_X10_finding lk_x10_82 np_X10_finding hM.f0 (by decide) rfl (Nat.le_of_ble_eq_true rfl) (Nat.le_of_ble_eq_true rfl) rfl (c10_finding (k := 1) hM (by decide) (by decide) ?_)
    refine X_ireturn (tk_X10_lead.at 8 rfl) rfl rfl ?_
    exact k1 (In_no (by omega) hj3)
