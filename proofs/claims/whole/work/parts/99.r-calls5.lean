theorem Fs_Tc {G : Gl} {S : Sh} {P o t q im : Nat} {kp : Option Nat} {μ : Mu} {ov : Int32} {cm of h p : Nat → Int32} (hI : Inv G S P o kp t q im μ) : Fs P μ (Tc μ (P + 33) ov cm of h p) := ⟨fun a ha => Tc_out (by omega), by rw [Tc_out (by omega)]; exact hI.nb⟩
set_option maxHeartbeats 1000000 in
theorem t_over {G : Gl} {d : Nat} {S : Sh} {μ : Mu} {P o t q im : Nat} {kp : Option Nat} (hI : Inv G S P o kp t q im μ) : X G mi_X9_over (d + 60) 0 0 [(0, .ref P)] [] S μ (qi (fun an S1 μ1 => X G mi_X10_over (d + 60) 0 0 [(0, .ref o)] [] S1 μ1 (qi (Eq2 G P o im an)))) := by
  obtain ⟨N, hN⟩ : ∃ N, μ (o + 1) = N := ⟨_, rfl⟩
  have hw : WF N := hN ▸ hI.wf
  have hr : repD μ (P + 1) N := hN ▸ hI.rep
  have lo := hI.lo
  have b1 := hw.n1.2
  have b2 := hw.n2.2
  have b3 := hw.n3.2
  have b4 := hw.n4.2
  have b5 := hw.n5.2
  have b6 := hw.n6.2
  have hun : ∀ r i r' i' p, On N r i p → On N r' i' p → r = r' ∧ i = i' := fun _ _ _ _ _ h1 h2 => hw.un h1 h2
  have hlu : ∀ k k', k < nv (N 4) → k' < nv (N 4) → N (134 + k) = N (134 + k') → k = k' := fun _ _ h1 h2 e => hw.lu h1 h2 e
  have hnz : nI 0 = 0 := rfl
  have hli : ∀ k, k < nv (N 4) → N (134 + k) = nI (nv (N (134 + k))) ∧ nv (N (134 + k)) < nv (N 3) := fun k h => hw.li h
  refine X_aload_n (tk_X9_over.at 0 rfl) rfl ?_
  refine X_getR (tk_X9_over.at 1 rfl) fl_x9_19 hI.P0 rfl rfl ?_
  refine X_aload_n (tk_X9_over.at 2 rfl) rfl ?_
  refine X_getR (tk_X9_over.at 3 rfl) fl_x9_12 hI.P0 rfl rfl ?_
  refine X_cV1v (lv2 := [(0, _), (1, _)]) (tk_X9_over.at 4 rfl) mv_X1_cross lk_x9_224 np_X1_cross hI.C.1 (by decide) rfl (Nat.le_of_ble_eq_true rfl) (Nat.le_of_ble_eq_true rfl) rfl (c1_cross hI.C hI.D hw hr (Or.inl (by omega)) (fun cm of hCr => ?_))
  have hFs : Fs P μ (Tc μ (P + 33) (nI (ovr N (nv (N 4)))) cm of (μ (P + 33 + 2)) (μ (P + 33 + 3))) := Fs_Tc hI
  refine X_aload_n (tk_X9_over.at 5 rfl) rfl ?_
  refine X_getR (tk_X9_over.at 6 rfl) fl_x9_19 hI.P0 rfl rfl ?_
  refine X_getI (tk_X9_over.at 7 rfl) fl_x9_241 hI.C.1 rfl ?_
  rw [show (Tc μ (P + 33) (nI (ovr N (nv (N 4)))) cm of (μ (P + 33 + 2)) (μ (P + 33 + 3))) (P + 33) 3 = nI (ovr N (nv (N 4))) from TcC]
  refine X_ireturn (tk_X9_over.at 8 rfl) rfl rfl ?_
  refine n10_over (N := N) hI.M (by rw [Tc_out (by omega)]; exact hN) hw (by intros; first | (exfalso; grind [In, On, nI_eq]) | exact ⟨by grind [In, On, nI_eq], fin_s hI hFs (by first | exact Tst_sy.sx | assumption | exact Sq.rf _ _) (by first | exact Tst1 _ _ _ _ _ _ _ | rfl | grind)⟩)
set_option maxHeartbeats 1000000 in
theorem t_toll {G : Gl} {d : Nat} {S : Sh} {μ : Mu} {P o t q im : Nat} {kp : Option Nat} (hI : Inv G S P o kp t q im μ) : X G mi_X9_toll (d + 60) 0 0 [(0, .ref P)] [] S μ (qi (fun an S1 μ1 => X G mi_X10_toll (d + 60) 0 0 [(0, .ref o)] [] S1 μ1 (qi (Eq2 G P o im an)))) := by
  obtain ⟨N, hN⟩ : ∃ N, μ (o + 1) = N := ⟨_, rfl⟩
  have hw : WF N := hN ▸ hI.wf
  have hr : repD μ (P + 1) N := hN ▸ hI.rep
  have lo := hI.lo
  have b1 := hw.n1.2
  have b2 := hw.n2.2
  have b3 := hw.n3.2
  have b4 := hw.n4.2
  have b5 := hw.n5.2
  have b6 := hw.n6.2
  have hun : ∀ r i r' i' p, On N r i p → On N r' i' p → r = r' ∧ i = i' := fun _ _ _ _ _ h1 h2 => hw.un h1 h2
  have hlu : ∀ k k', k < nv (N 4) → k' < nv (N 4) → N (134 + k) = N (134 + k') → k = k' := fun _ _ h1 h2 e => hw.lu h1 h2 e
  have hnz : nI 0 = 0 := rfl
  have hli : ∀ k, k < nv (N 4) → N (134 + k) = nI (nv (N (134 + k))) ∧ nv (N (134 + k)) < nv (N 3) := fun k h => hw.li h
  refine X_aload_n (tk_X9_toll.at 0 rfl) rfl ?_
  refine X_getR (tk_X9_toll.at 1 rfl) fl_x9_19 hI.P0 rfl rfl ?_
  refine X_aload_n (tk_X9_toll.at 2 rfl) rfl ?_
  refine X_getR (tk_X9_toll.at 3 rfl) fl_x9_12 hI.P0 rfl rfl ?_
  refine X_cV1i (lv2 := [(0, _), (1, _)]) (tk_X9_toll.at 4 rfl) mv_X1_tollOf lk_x9_244 np_X1_tollOf hI.C.1 (by decide) rfl (Nat.le_of_ble_eq_true rfl) (Nat.le_of_ble_eq_true rfl) rfl (c1_tollOf hI.C hI.D hw hr (Or.inl (by omega)) (fun cm of h p hCr => ?_))
  have hFs : Fs P μ (Tc μ (P + 33) (nI (ovr N (nv (N 4)))) cm of h p) := Fs_Tc hI
  refine X_ireturn (tk_X9_toll.at 5 rfl) rfl rfl ?_
  refine n10_toll (N := N) hI.M (by rw [Tc_out (by omega)]; exact hN) hw (by rw [Tc_out (by omega)]; exact hI.l0) (by intros; first | (exfalso; grind [In, On, nI_eq]) | exact ⟨by grind [In, On, nI_eq], fin_s hI hFs (by first | exact Tst_sy.sx | assumption | exact Sq.rf _ _) (by first | exact Tst1 _ _ _ _ _ _ _ | rfl | grind)⟩)
set_option maxHeartbeats 1000000 in
theorem t_when {G : Gl} {d : Nat} {S : Sh} {μ : Mu} {P o t q im : Nat} {kp : Option Nat} {r c x : Int32} (hI : Inv G S P o kp t q im μ) : X G mi_X9_when (d + 60) 0 0 [(0, .ref P), (1, .int r), (2, .int c), (3, .int x)] [] S μ (qi (fun an S1 μ1 => X G mi_X10_when (d + 60) 0 0 [(0, .ref o), (1, .int r), (2, .int c), (3, .int x)] [] S1 μ1 (qi (Eq2 G P o im an)))) := by
  obtain ⟨N, hN⟩ : ∃ N, μ (o + 1) = N := ⟨_, rfl⟩
  have hw : WF N := hN ▸ hI.wf
  have hr : repD μ (P + 1) N := hN ▸ hI.rep
  have lo := hI.lo
  have b1 := hw.n1.2
  have b2 := hw.n2.2
  have b3 := hw.n3.2
  have b4 := hw.n4.2
  have b5 := hw.n5.2
  have b6 := hw.n6.2
  have hun : ∀ r i r' i' p, On N r i p → On N r' i' p → r = r' ∧ i = i' := fun _ _ _ _ _ h1 h2 => hw.un h1 h2
  have hlu : ∀ k k', k < nv (N 4) → k' < nv (N 4) → N (134 + k) = N (134 + k') → k = k' := fun _ _ h1 h2 e => hw.lu h1 h2 e
  have hnz : nI 0 = 0 := rfl
  have hli : ∀ k, k < nv (N 4) → N (134 + k) = nI (nv (N (134 + k))) ∧ nv (N (134 + k)) < nv (N 3) := fun k h => hw.li h
  refine X_aload_n (tk_X9_when.at 0 rfl) rfl ?_
  refine X_getR (tk_X9_when.at 1 rfl) fl_x9_12 hI.P0 rfl rfl ?_
  refine X_getR (tk_X9_when.at 2 rfl) fl_x9_127 hI.D.1 rfl rfl ?_
  refine X_iload_n (tk_X9_when.at 3 rfl) rfl ?_
  refine X_cV1i (lv2 := [(0, _), (1, _)]) (tk_X9_when.at 4 rfl) mv_X3_has lk_x9_70 np_X3_has hI.D.2.2.2.1.1 (by decide) rfl (Nat.le_of_ble_eq_true rfl) (Nat.le_of_ble_eq_true rfl) rfl (d_ohas hI.D hw hr (fun j8 hj8 ej8 => ?_) (fun hj8 => ?_))
  · refine X_if_eq (tgt := 37) (tk_X9_when.at 5 rfl) (by decide) (fun h => absurd h (by decide)) (fun _ => ?_)
    refine X_aload_n (tk_X9_when.at 6 rfl) rfl ?_
    refine X_getR (tk_X9_when.at 7 rfl) fl_x9_12 hI.P0 rfl rfl ?_
    refine X_getR (tk_X9_when.at 8 rfl) fl_x9_118 hI.D.1 rfl rfl ?_
    refine X_iload_n (tk_X9_when.at 9 rfl) rfl ?_
    refine X_cV1i (lv2 := [(0, _), (1, _)]) (tk_X9_when.at 10 rfl) mv_X3_has lk_x9_70 np_X3_has hI.D.2.2.1.1 (by decide) rfl (Nat.le_of_ble_eq_true rfl) (Nat.le_of_ble_eq_true rfl) rfl (d_chas hI.D hw hr (fun j22 hj22 ej22 => ?_) (fun hj22 => ?_))
    · refine X_if_eq (tgt := 37) (tk_X9_when.at 11 rfl) (by decide) (fun h => absurd h (by decide)) (fun _ => ?_)
      refine X_iload_n (tk_X9_when.at 12 rfl) rfl ?_
      refine X_if_lt (tgt := 37) (tk_X9_when.at 13 rfl) (by decide) (fun c3 => ?_) (fun c3 => ?_)
      · refine X_aload_n (tk_X9_when.at 17 rfl) rfl ?_
        refine X_ldc (tk_X9_when.at 18 rfl) kn_x9_76 ?_
        refine X_cV1i (lv2 := [(0, _), (1, _)]) (tk_X9_when.at 19 rfl) mv_X9_fail lk_x9_77 np_X9_fail hI.P0 (by decide) rfl (Nat.le_of_ble_eq_true rfl) (Nat.le_of_ble_eq_true rfl) rfl (c9_fail (k := 1) hI.P0 hI.E (by decide) (by decide) ?_)
        refine X_ireturn (tk_X9_when.at 20 rfl) rfl rfl ?_
        have rg1 : ∀ f, f ≤ 1 → 0 ≤ nI f ∧ nI f ≤ 1 := fun f h => rng rfl h (by decide)
        refine n10_when (N := N) hI.M (by rw [su_ne (by omega)]; exact hN) hw (by intros; first | (exfalso; grind [In, On, nI_eq]) | exact ⟨by grind [In, On, nI_eq], fin_e hI (Fs.rf hI) (Sq.rf _ _) rfl⟩) (by intros; first | (exfalso; grind [In, On, nI_eq]) | exact ⟨by grind [In, On, nI_eq], fin_e hI (Fs.rf hI) (Sq.rf _ _) rfl⟩) (by intros; first | (exfalso; grind [In, On, nI_eq]) | exact ⟨by grind [In, On, nI_eq], fin_e hI (Fs.rf hI) (Sq.rf _ _) rfl⟩) (by intros; first | (exfalso; grind [In, On, nI_eq]) | exact ⟨by grind [In, On, nI_eq], fin_e hI (Fs.rf hI) (Sq.rf _ _) rfl⟩)
      · refine X_iload_n (tk_X9_when.at 14 rfl) rfl ?_
        refine X_iconst (tk_X9_when.at 15 rfl) ci_1 ?_
        refine X_icmp_le (tgt := 44) (tk_X9_when.at 16 rfl) (by decide) (fun c4 => ?_) (fun c4 => ?_)
        · have hcf : 0 ≤ x ∧ x ≤ 1 := by grind
          obtain ⟨f, ef, hf⟩ : ∃ f, x = nI f ∧ f ≤ 1 := ⟨nv x, (le_lits (a := 0) (b := 1) (by decide) hcf.1 hcf.2 (by decide)).1, (le_lits (a := 0) (b := 1) (by decide) hcf.1 hcf.2 (by decide)).2.2⟩
          refine X_aload_n (tk_X9_when.at 21 rfl) rfl ?_
          refine X_getR (tk_X9_when.at 22 rfl) fl_x9_12 hI.P0 rfl rfl ?_
          refine X_iload_n (tk_X9_when.at 23 rfl) rfl ?_
          refine X_cV1i (lv2 := [(0, _), (1, _)]) (tk_X9_when.at 24 rfl) mv_X2_isInLine lk_x9_221 np_X2_isInLine hI.D.1 (by decide) rfl (Nat.le_of_ble_eq_true rfl) (Nat.le_of_ble_eq_true rfl) rfl (c2_isInLine hI.D hw hr (fun k49 hk49 h49 => ?_) (fun h49 => ?_))
          · refine X_if_eq (tgt := 69) (tk_X9_when.at 25 rfl) (by decide) (fun h => absurd h (by decide)) (fun _ => ?_)
            refine X_aload_n (tk_X9_when.at 26 rfl) rfl ?_
            refine X_getR (tk_X9_when.at 27 rfl) fl_x9_12 hI.P0 rfl rfl ?_
            refine X_iload_n (tk_X9_when.at 28 rfl) rfl ?_
            refine X_cV1r (lv2 := [(0, _), (1, _)]) (tk_X9_when.at 29 rfl) mv_X2_rowOf lk_x9_131 np_X2_rowOf hI.D.1 (by decide) rfl (Nat.le_of_ble_eq_true rfl) (Nat.le_of_ble_eq_true rfl) rfl (d_rowOf (r := j8) hI.D hw hr ej8 (by omega) ?_)
            have bm8 := hw.mb hj8
            refine X_cV0i (lv2 := [(0, _)]) (tk_X9_when.at 30 rfl) mv_X6_size lk_x9_142 np_X6_size (hI.D.2.2.2.2.2.2.2.2.2.2.2 j8 (by omega)).1 (by decide) rfl (Nat.le_of_ble_eq_true rfl) (Nat.le_of_ble_eq_true rfl) rfl (d_rsz hI.D hw hr (by omega) ?_)
            refine X_if_neN (tgt := 76) (tk_X9_when.at 31 rfl) (by decide) (pl (mny N j8) rfl) (by omega) (fun c6 => ?_) (fun c6 => ?_)
            · refine X_aload_n (tk_X9_when.at 36 rfl) rfl ?_
              refine X_getR (tk_X9_when.at 37 rfl) fl_x9_19 hI.P0 rfl rfl ?_
              refine X_aload_n (tk_X9_when.at 38 rfl) rfl ?_
              refine X_getR (tk_X9_when.at 39 rfl) fl_x9_12 hI.P0 rfl rfl ?_
              refine X_cV1v (lv2 := [(0, _), (1, _)]) (tk_X9_when.at 40 rfl) mv_X1_cross lk_x9_224 np_X1_cross hI.C.1 (by decide) rfl (Nat.le_of_ble_eq_true rfl) (Nat.le_of_ble_eq_true rfl) rfl (c1_cross hI.C hI.D hw hr (Or.inl (by omega)) (fun cm of hCr => ?_))
              have hFs : Fs P μ (Tc μ (P + 33) (nI (ovr N (nv (N 4)))) cm of (μ (P + 33 + 2)) (μ (P + 33 + 3))) := Fs_Tc hI
              refine X_iload_n (tk_X9_when.at 41 rfl) rfl ?_
              refine X_if_neN (tgt := 103) (tk_X9_when.at 42 rfl) (by decide) ef (by omega) (fun c7 => ?_) (fun c7 => ?_)
              · refine X_aload_n (tk_X9_when.at 49 rfl) rfl ?_
                refine X_getR (tk_X9_when.at 50 rfl) fl_x9_19 hI.P0 rfl rfl ?_
                refine X_iload_n (tk_X9_when.at 51 rfl) rfl ?_
                refine X_iload_n (tk_X9_when.at 52 rfl) rfl ?_
                have el : lnA N k49 = j8 := nI_j (hli k49 hk49).1 (h49.trans ej8) (by have := hw.lb hk49; omega) (by omega)
                refine X_cV2i (lv2 := [(0, _), (1, _), (2, _)]) (tk_X9_when.at 53 rfl) mv_X1_isOff lk_x9_231 np_X1_isOff hI.C.1 (by decide) rfl (Nat.le_of_ble_eq_true rfl) (Nat.le_of_ble_eq_true rfl) rfl (c1_isOff (v := nI (arv N k49 j22 + pac N (lnA N k49))) hI.C ej8 (by omega) ej22 (by omega) (by rw [Tc5, ← el]; exact (hCr k49 hk49 (by rw [el]; omega) j22 hj22).2) ?_)
                refine X_ireturn (tk_X9_when.at 54 rfl) rfl rfl ?_
                refine n10_when (N := N) hI.M (by rw [Tc_out (by omega)]; exact hN) hw (by intros; first | (exfalso; grind [In, On, nI_eq]) | exact ⟨by grind [In, On, nI_eq], fin_s hI hFs (by first | exact Tst_sy.sx | assumption | exact Sq.rf _ _) (by first | exact Tst1 _ _ _ _ _ _ _ | rfl | grind)⟩) (by intros; first | (exfalso; grind [In, On, nI_eq]) | exact ⟨by grind [In, On, nI_eq], fin_s hI hFs (by first | exact Tst_sy.sx | assumption | exact Sq.rf _ _) (by first | exact Tst1 _ _ _ _ _ _ _ | rfl | grind)⟩) (by intros; first | (exfalso; grind [In, On, nI_eq]) | exact ⟨by grind [In, On, nI_eq], fin_s hI hFs (by first | exact Tst_sy.sx | assumption | exact Sq.rf _ _) (by first | exact Tst1 _ _ _ _ _ _ _ | rfl | grind)⟩) (by intros; first | (exfalso; grind [In, On, nI_eq]) | exact ⟨by grind [In, On, nI_eq], fin_s hI hFs (by first | exact Tst_sy.sx | assumption | exact Sq.rf _ _) (by first | exact Tst1 _ _ _ _ _ _ _ | rfl | grind)⟩)
              · refine X_aload_n (tk_X9_when.at 43 rfl) rfl ?_
                refine X_getR (tk_X9_when.at 44 rfl) fl_x9_19 hI.P0 rfl rfl ?_
                refine X_iload_n (tk_X9_when.at 45 rfl) rfl ?_
                refine X_iload_n (tk_X9_when.at 46 rfl) rfl ?_
                have el : lnA N k49 = j8 := nI_j (hli k49 hk49).1 (h49.trans ej8) (by have := hw.lb hk49; omega) (by omega)
                refine X_cV2i (lv2 := [(0, _), (1, _), (2, _)]) (tk_X9_when.at 47 rfl) mv_X1_comesTo lk_x9_228 np_X1_comesTo hI.C.1 (by decide) rfl (Nat.le_of_ble_eq_true rfl) (Nat.le_of_ble_eq_true rfl) rfl (c1_comesTo (v := nI (arv N k49 j22)) hI.C ej8 (by omega) ej22 (by omega) (by rw [Tc4, ← el]; exact (hCr k49 hk49 (by rw [el]; omega) j22 hj22).1) ?_)
                refine X_goto (tgt := 112) (tk_X9_when.at 48 rfl) (by decide) ?_
                refine X_ireturn (tk_X9_when.at 54 rfl) rfl rfl ?_
                refine n10_when (N := N) hI.M (by rw [Tc_out (by omega)]; exact hN) hw (by intros; first | (exfalso; grind [In, On, nI_eq]) | exact ⟨by grind [In, On, nI_eq], fin_s hI hFs (by first | exact Tst_sy.sx | assumption | exact Sq.rf _ _) (by first | exact Tst1 _ _ _ _ _ _ _ | rfl | grind)⟩) (by intros; first | (exfalso; grind [In, On, nI_eq]) | exact ⟨by grind [In, On, nI_eq], fin_s hI hFs (by first | exact Tst_sy.sx | assumption | exact Sq.rf _ _) (by first | exact Tst1 _ _ _ _ _ _ _ | rfl | grind)⟩) (by intros; first | (exfalso; grind [In, On, nI_eq]) | exact ⟨by grind [In, On, nI_eq], fin_s hI hFs (by first | exact Tst_sy.sx | assumption | exact Sq.rf _ _) (by first | exact Tst1 _ _ _ _ _ _ _ | rfl | grind)⟩) (by intros; first | (exfalso; grind [In, On, nI_eq]) | exact ⟨by grind [In, On, nI_eq], fin_s hI hFs (by first | exact Tst_sy.sx | assumption | exact Sq.rf _ _) (by first | exact Tst1 _ _ _ _ _ _ _ | rfl | grind)⟩)
            · refine X_aload_n (tk_X9_when.at 32 rfl) rfl ?_
              refine X_ldc (tk_X9_when.at 33 rfl) kn_x9_99 ?_
              refine X_cV1i (lv2 := [(0, _), (1, _)]) (tk_X9_when.at 34 rfl) mv_X9_fail lk_x9_77 np_X9_fail hI.P0 (by decide) rfl (Nat.le_of_ble_eq_true rfl) (Nat.le_of_ble_eq_true rfl) rfl (c9_fail (k := 2) hI.P0 hI.E (by decide) (by decide) ?_)
              refine X_ireturn (tk_X9_when.at 35 rfl) rfl rfl ?_
              have rg1 : ∀ f, f ≤ 1 → 0 ≤ nI f ∧ nI f ≤ 1 := fun f h => rng rfl h (by decide)
              refine n10_when (N := N) hI.M (by rw [su_ne (by omega)]; exact hN) hw (by intros; first | (exfalso; grind [In, On, nI_eq]) | exact ⟨by grind [In, On, nI_eq], fin_e hI (Fs.rf hI) (Sq.rf _ _) rfl⟩) (by intros; first | (exfalso; grind [In, On, nI_eq]) | exact ⟨by grind [In, On, nI_eq], fin_e hI (Fs.rf hI) (Sq.rf _ _) rfl⟩) (by intros; first | (exfalso; grind [In, On, nI_eq]) | exact ⟨by grind [In, On, nI_eq], fin_e hI (Fs.rf hI) (Sq.rf _ _) rfl⟩) (by intros; first | (exfalso; grind [In, On, nI_eq]) | exact ⟨by grind [In, On, nI_eq], fin_e hI (Fs.rf hI) (Sq.rf _ _) rfl⟩)
          · refine X_if_eq (tgt := 69) (tk_X9_when.at 25 rfl) (by decide) (fun _ => ?_) (fun h => absurd h (by decide))
            refine X_aload_n (tk_X9_when.at 32 rfl) rfl ?_
            refine X_ldc (tk_X9_when.at 33 rfl) kn_x9_99 ?_
            refine X_cV1i (lv2 := [(0, _), (1, _)]) (tk_X9_when.at 34 rfl) mv_X9_fail lk_x9_77 np_X9_fail hI.P0 (by decide) rfl (Nat.le_of_ble_eq_true rfl) (Nat.le_of_ble_eq_true rfl) rfl (c9_fail (k := 2) hI.P0 hI.E (by decide) (by decide) ?_)
            refine X_ireturn (tk_X9_when.at 35 rfl) rfl rfl ?_
            have rg1 : ∀ f, f ≤ 1 → 0 ≤ nI f ∧ nI f ≤ 1 := fun f h => rng rfl h (by decide)
            refine n10_when (N := N) hI.M (by rw [su_ne (by omega)]; exact hN) hw (by intros; first | (exfalso; grind [In, On, nI_eq]) | exact ⟨by grind [In, On, nI_eq], fin_e hI (Fs.rf hI) (Sq.rf _ _) rfl⟩) (by intros; first | (exfalso; grind [In, On, nI_eq]) | exact ⟨by grind [In, On, nI_eq], fin_e hI (Fs.rf hI) (Sq.rf _ _) rfl⟩) (by intros; first | (exfalso; grind [In, On, nI_eq]) | exact ⟨by grind [In, On, nI_eq], fin_e hI (Fs.rf hI) (Sq.rf _ _) rfl⟩) (by intros; first | (exfalso; grind [In, On, nI_eq]) | exact ⟨by grind [In, On, nI_eq], fin_e hI (Fs.rf hI) (Sq.rf _ _) rfl⟩)
        · refine X_aload_n (tk_X9_when.at 17 rfl) rfl ?_
          refine X_ldc (tk_X9_when.at 18 rfl) kn_x9_76 ?_
          refine X_cV1i (lv2 := [(0, _), (1, _)]) (tk_X9_when.at 19 rfl) mv_X9_fail lk_x9_77 np_X9_fail hI.P0 (by decide) rfl (Nat.le_of_ble_eq_true rfl) (Nat.le_of_ble_eq_true rfl) rfl (c9_fail (k := 1) hI.P0 hI.E (by decide) (by decide) ?_)
          refine X_ireturn (tk_X9_when.at 20 rfl) rfl rfl ?_
          have rg1 : ∀ f, f ≤ 1 → 0 ≤ nI f ∧ nI f ≤ 1 := fun f h => rng rfl h (by decide)
          refine n10_when (N := N) hI.M (by rw [su_ne (by omega)]; exact hN) hw (by intros; first | (exfalso; grind [In, On, nI_eq]) | exact ⟨by grind [In, On, nI_eq], fin_e hI (Fs.rf hI) (Sq.rf _ _) rfl⟩) (by intros; first | (exfalso; grind [In, On, nI_eq]) | exact ⟨by grind [In, On, nI_eq], fin_e hI (Fs.rf hI) (Sq.rf _ _) rfl⟩) (by intros; first | (exfalso; grind [In, On, nI_eq]) | exact ⟨by grind [In, On, nI_eq], fin_e hI (Fs.rf hI) (Sq.rf _ _) rfl⟩) (by intros; first | (exfalso; grind [In, On, nI_eq]) | exact ⟨by grind [In, On, nI_eq], fin_e hI (Fs.rf hI) (Sq.rf _ _) rfl⟩)
    · refine X_if_eq (tgt := 37) (tk_X9_when.at 11 rfl) (by decide) (fun _ => ?_) (fun h => absurd h (by decide))
      refine X_aload_n (tk_X9_when.at 17 rfl) rfl ?_
      refine X_ldc (tk_X9_when.at 18 rfl) kn_x9_76 ?_
      refine X_cV1i (lv2 := [(0, _), (1, _)]) (tk_X9_when.at 19 rfl) mv_X9_fail lk_x9_77 np_X9_fail hI.P0 (by decide) rfl (Nat.le_of_ble_eq_true rfl) (Nat.le_of_ble_eq_true rfl) rfl (c9_fail (k := 1) hI.P0 hI.E (by decide) (by decide) ?_)
      refine X_ireturn (tk_X9_when.at 20 rfl) rfl rfl ?_
      have rg1 : ∀ f, f ≤ 1 → 0 ≤ nI f ∧ nI f ≤ 1 := fun f h => rng rfl h (by decide)
      refine n10_when (N := N) hI.M (by rw [su_ne (by omega)]; exact hN) hw (by intros; first | (exfalso; grind [In, On, nI_eq]) | exact ⟨by grind [In, On, nI_eq], fin_e hI (Fs.rf hI) (Sq.rf _ _) rfl⟩) (by intros; first | (exfalso; grind [In, On, nI_eq]) | exact ⟨by grind [In, On, nI_eq], fin_e hI (Fs.rf hI) (Sq.rf _ _) rfl⟩) (by intros; first | (exfalso; grind [In, On, nI_eq]) | exact ⟨by grind [In, On, nI_eq], fin_e hI (Fs.rf hI) (Sq.rf _ _) rfl⟩) (by intros; first | (exfalso; grind [In, On, nI_eq]) | exact ⟨by grind [In, On, nI_eq], fin_e hI (Fs.rf hI) (Sq.rf _ _) rfl⟩)
  · refine X_if_eq (tgt := 37) (tk_X9_when.at 5 rfl) (by decide) (fun _ => ?_) (fun h => absurd h (by decide))
    refine X_aload_n (tk_X9_when.at 17 rfl) rfl ?_
    refine X_ldc (tk_X9_when.at 18 rfl) kn_x9_76 ?_
    refine X_cV1i (lv2 := [(0, _), (1, _)]) (tk_X9_when.at 19 rfl) mv_X9_fail lk_x9_77 np_X9_fail hI.P0 (by decide) rfl (Nat.le_of_ble_eq_true rfl) (Nat.le_of_ble_eq_true rfl) rfl (c9_fail (k := 1) hI.P0 hI.E (by decide) (by decide) ?_)
    refine X_ireturn (tk_X9_when.at 20 rfl) rfl rfl ?_
    have rg1 : ∀ f, f ≤ 1 → 0 ≤ nI f ∧ nI f ≤ 1 := fun f h => rng rfl h (by decide)
    refine n10_when (N := N) hI.M (by rw [su_ne (by omega)]; exact hN) hw (by intros; first | (exfalso; grind [In, On, nI_eq]) | exact ⟨by grind [In, On, nI_eq], fin_e hI (Fs.rf hI) (Sq.rf _ _) rfl⟩) (by intros; first | (exfalso; grind [In, On, nI_eq]) | exact ⟨by grind [In, On, nI_eq], fin_e hI (Fs.rf hI) (Sq.rf _ _) rfl⟩) (by intros; first | (exfalso; grind [In, On, nI_eq]) | exact ⟨by grind [In, On, nI_eq], fin_e hI (Fs.rf hI) (Sq.rf _ _) rfl⟩) (by intros; first | (exfalso; grind [In, On, nI_eq]) | exact ⟨by grind [In, On, nI_eq], fin_e hI (Fs.rf hI) (Sq.rf _ _) rfl⟩)
set_option maxHeartbeats 1000000 in
theorem t_risk {G : Gl} {d : Nat} {S : Sh} {μ : Mu} {P o t q im : Nat} {kp : Option Nat} {p c : Int32} (hI : Inv G S P o kp t q im μ) : X G mi_X9_risk (d + 60) 0 0 [(0, .ref P), (1, .int p), (2, .int c)] [] S μ (qi (fun an S1 μ1 => X G mi_X10_risk (d + 60) 0 0 [(0, .ref o), (1, .int p), (2, .int c)] [] S1 μ1 (qi (Eq2 G P o im an)))) := by
  obtain ⟨N, hN⟩ : ∃ N, μ (o + 1) = N := ⟨_, rfl⟩
  have hw : WF N := hN ▸ hI.wf
  have hr : repD μ (P + 1) N := hN ▸ hI.rep
  have lo := hI.lo
  have b1 := hw.n1.2
  have b2 := hw.n2.2
  have b3 := hw.n3.2
  have b4 := hw.n4.2
  have b5 := hw.n5.2
  have b6 := hw.n6.2
  have hun : ∀ r i r' i' p, On N r i p → On N r' i' p → r = r' ∧ i = i' := fun _ _ _ _ _ h1 h2 => hw.un h1 h2
  have hlu : ∀ k k', k < nv (N 4) → k' < nv (N 4) → N (134 + k) = N (134 + k') → k = k' := fun _ _ h1 h2 e => hw.lu h1 h2 e
  have hnz : nI 0 = 0 := rfl
  have hli : ∀ k, k < nv (N 4) → N (134 + k) = nI (nv (N (134 + k))) ∧ nv (N (134 + k)) < nv (N 3) := fun k h => hw.li h
  refine X_aload_n (tk_X9_risk.at 0 rfl) rfl ?_
  refine X_getR (tk_X9_risk.at 1 rfl) fl_x9_12 hI.P0 rfl rfl ?_
  refine X_getR (tk_X9_risk.at 2 rfl) fl_x9_62 hI.D.1 rfl rfl ?_
  refine X_iload_n (tk_X9_risk.at 3 rfl) rfl ?_
  refine X_cV1i (lv2 := [(0, _), (1, _)]) (tk_X9_risk.at 4 rfl) mv_X3_has lk_x9_70 np_X3_has hI.D.2.1.1 (by decide) rfl (Nat.le_of_ble_eq_true rfl) (Nat.le_of_ble_eq_true rfl) rfl (d_phas hI.D hw hr (fun j8 hj8 ej8 => ?_) (fun hj8 => ?_))
  · refine X_if_eq (tgt := 28) (tk_X9_risk.at 5 rfl) (by decide) (fun h => absurd h (by decide)) (fun _ => ?_)
    refine X_aload_n (tk_X9_risk.at 6 rfl) rfl ?_
    refine X_getR (tk_X9_risk.at 7 rfl) fl_x9_12 hI.P0 rfl rfl ?_
    refine X_getR (tk_X9_risk.at 8 rfl) fl_x9_118 hI.D.1 rfl rfl ?_
    refine X_iload_n (tk_X9_risk.at 9 rfl) rfl ?_
    refine X_cV1i (lv2 := [(0, _), (1, _)]) (tk_X9_risk.at 10 rfl) mv_X3_has lk_x9_70 np_X3_has hI.D.2.2.1.1 (by decide) rfl (Nat.le_of_ble_eq_true rfl) (Nat.le_of_ble_eq_true rfl) rfl (d_chas hI.D hw hr (fun j22 hj22 ej22 => ?_) (fun hj22 => ?_))
    · refine X_if_ne (tgt := 35) (tk_X9_risk.at 11 rfl) (by decide) (fun _ => ?_) (fun h => absurd h (by decide))
      refine X_aload_n (tk_X9_risk.at 16 rfl) rfl ?_
      refine X_getR (tk_X9_risk.at 17 rfl) fl_x9_12 hI.P0 rfl rfl ?_
      refine X_iload_n (tk_X9_risk.at 18 rfl) rfl ?_
      refine X_cV1i (lv2 := [(0, _), (1, _)]) (tk_X9_risk.at 19 rfl) mv_X2_ropeOf lk_x9_85 np_X2_ropeOf hI.D.1 (by decide) rfl (Nat.le_of_ble_eq_true rfl) (Nat.le_of_ble_eq_true rfl) rfl (c2_ropeOf (p := j8) hI.D hw hr ej8 (fun r40 i40 h40 => ?_) (fun h40 => ?_))
      · have hr40 := h40.1
        refine X_istore_n (lv' := [(0, _), (1, _), (2, _), (3, _)]) (tk_X9_risk.at 20 rfl) (by decide) rfl rfl ?_
        refine X_aload_n (tk_X9_risk.at 21 rfl) rfl ?_
        refine X_getR (tk_X9_risk.at 22 rfl) fl_x9_12 hI.P0 rfl rfl ?_
        refine X_iload_n (tk_X9_risk.at 23 rfl) rfl ?_
        refine X_cV1i (lv2 := [(0, _), (1, _)]) (tk_X9_risk.at 24 rfl) mv_X2_isInLine lk_x9_221 np_X2_isInLine hI.D.1 (by decide) rfl (Nat.le_of_ble_eq_true rfl) (Nat.le_of_ble_eq_true rfl) rfl (c2_isInLine hI.D hw hr (fun k49 hk49 h49 => ?_) (fun h49 => ?_))
        · refine X_if_ne (tgt := 62) (tk_X9_risk.at 25 rfl) (by decide) (fun _ => ?_) (fun h => absurd h (by decide))
          refine X_aload_n (tk_X9_risk.at 30 rfl) rfl ?_
          refine X_getR (tk_X9_risk.at 31 rfl) fl_x9_19 hI.P0 rfl rfl ?_
          refine X_aload_n (tk_X9_risk.at 32 rfl) rfl ?_
          refine X_getR (tk_X9_risk.at 33 rfl) fl_x9_12 hI.P0 rfl rfl ?_
          refine X_cV1v (lv2 := [(0, _), (1, _)]) (tk_X9_risk.at 34 rfl) mv_X1_cross lk_x9_224 np_X1_cross hI.C.1 (by decide) rfl (Nat.le_of_ble_eq_true rfl) (Nat.le_of_ble_eq_true rfl) rfl (c1_cross hI.C hI.D hw hr (Or.inl (by omega)) (fun cm of hCr => ?_))
          have hFs : Fs P μ (Tc μ (P + 33) (nI (ovr N (nv (N 4)))) cm of (μ (P + 33 + 2)) (μ (P + 33 + 3))) := Fs_Tc hI
          refine X_aload_n (tk_X9_risk.at 35 rfl) rfl ?_
          refine X_getR (tk_X9_risk.at 36 rfl) fl_x9_19 hI.P0 rfl rfl ?_
          refine X_aload_n (tk_X9_risk.at 37 rfl) rfl ?_
          refine X_getR (tk_X9_risk.at 38 rfl) fl_x9_12 hI.P0 rfl rfl ?_
          refine X_iload_n (tk_X9_risk.at 39 rfl) rfl ?_
          refine X_iload_n (tk_X9_risk.at 40 rfl) rfl ?_
          refine X_iload_n (tk_X9_risk.at 41 rfl) rfl ?_
          refine X_aload_n (tk_X9_risk.at 42 rfl) rfl ?_
          refine X_getR (tk_X9_risk.at 43 rfl) fl_x9_12 hI.P0 rfl rfl ?_
          refine X_iload_n (tk_X9_risk.at 44 rfl) rfl ?_
          have hi40 : i40 < mny N r40 := h40.2.1
          have el : lnA N k49 = r40 := nI_j (hli k49 hk49).1 h49 (by have := hw.lb hk49; omega) (by omega)
          refine X_cV1i (lv2 := [(0, _), (1, _)]) (tk_X9_risk.at 45 rfl) mv_X2_aheadOf lk_x9_234 np_X2_aheadOf hI.D.1 (by decide) rfl (Nat.le_of_ble_eq_true rfl) (Nat.le_of_ble_eq_true rfl) rfl (c2_aheadOf (k := k49) hI.D hw (rTc (Or.inl (by omega)) hr) hk49 h49 ?_)
          refine X_aload_n (tk_X9_risk.at 46 rfl) rfl ?_
          refine X_getR (tk_X9_risk.at 47 rfl) fl_x9_12 hI.P0 rfl rfl ?_
          refine X_iload_n (tk_X9_risk.at 48 rfl) rfl ?_
          refine X_cV1i (lv2 := [(0, _), (1, _)]) (tk_X9_risk.at 49 rfl) mv_X2_placeOf lk_x9_88 np_X2_placeOf hI.D.1 (by decide) rfl (Nat.le_of_ble_eq_true rfl) (Nat.le_of_ble_eq_true rfl) rfl (c2_placeOf (p := j8) hI.D hw (rTc (Or.inl (by omega)) hr) ej8 (fun r' i' g => ?_) (fun g => absurd h40 (g r40 i40)))
          rw [show i' = i40 from (hw.un g h40).2]
          refine X_iadd (tk_X9_risk.at 50 rfl) ?_
          refine X_cV5i (lv2 := [(0, _), (1, _), (2, _), (3, _), (4, _), (5, _)]) (tk_X9_risk.at 51 rfl) mv_X1_riskOf lk_x9_237 np_X1_riskOf hI.C.1 (by decide) rfl (Nat.le_of_ble_eq_true rfl) (Nat.le_of_ble_eq_true rfl) rfl (c1_riskOf (k := k49) (i := i40) (c := j22) hI.C hI.D hw hr (Or.inl (by omega)) hCr hk49 (by rw [el]) (by rw [el]; exact hi40) (by rw [el]; exact ej8.trans (h40.2.2.symm.trans (hw.wh h40.1 hi40).1)) ej22 hj22 (nI_add _ _) (fun h2 p2 => ?_))
          have hFs2 : Fs P μ (Tc μ (P + 33) (nI (ovr N (nv (N 4)))) cm of h2 p2) := Fs_Tc hI
          refine X_ireturn (tk_X9_risk.at 52 rfl) rfl rfl ?_
          clear hFs
          have hFs := hFs2
          refine n10_risk (N := N) hI.M (by rw [Tc_out (by omega)]; exact hN) hw (by intros; first | (exfalso; grind [In, On, nI_eq]) | exact ⟨by grind [In, On, nI_eq], fin_s hI hFs (by first | exact Tst_sy.sx | assumption | exact Sq.rf _ _) (by first | exact Tst1 _ _ _ _ _ _ _ | rfl | grind)⟩) (by intros; first | (exfalso; grind [In, On, nI_eq]) | exact ⟨by grind [In, On, nI_eq], fin_s hI hFs (by first | exact Tst_sy.sx | assumption | exact Sq.rf _ _) (by first | exact Tst1 _ _ _ _ _ _ _ | rfl | grind)⟩) (by intros; first | (exfalso; grind [In, On, nI_eq]) | exact ⟨by grind [In, On, nI_eq], fin_s hI hFs (by first | exact Tst_sy.sx | assumption | exact Sq.rf _ _) (by first | exact Tst1 _ _ _ _ _ _ _ | rfl | grind)⟩)
        · refine X_if_ne (tgt := 62) (tk_X9_risk.at 25 rfl) (by decide) (fun h => absurd h (by decide)) (fun _ => ?_)
          refine X_aload_n (tk_X9_risk.at 26 rfl) rfl ?_
          refine X_ldc (tk_X9_risk.at 27 rfl) kn_x9_99 ?_
          refine X_cV1i (lv2 := [(0, _), (1, _)]) (tk_X9_risk.at 28 rfl) mv_X9_fail lk_x9_77 np_X9_fail hI.P0 (by decide) rfl (Nat.le_of_ble_eq_true rfl) (Nat.le_of_ble_eq_true rfl) rfl (c9_fail (k := 2) hI.P0 hI.E (by decide) (by decide) ?_)
          refine X_ireturn (tk_X9_risk.at 29 rfl) rfl rfl ?_
          refine n10_risk (N := N) hI.M (by rw [su_ne (by omega)]; exact hN) hw (by intros; first | (exfalso; grind [In, On, nI_eq]) | exact ⟨by grind [In, On, nI_eq], fin_e hI (Fs.rf hI) (Sq.rf _ _) rfl⟩) (by intros; first | (exfalso; grind [In, On, nI_eq]) | exact ⟨by grind [In, On, nI_eq], fin_e hI (Fs.rf hI) (Sq.rf _ _) rfl⟩) (by intros; first | (exfalso; grind [In, On, nI_eq]) | exact ⟨by grind [In, On, nI_eq], fin_e hI (Fs.rf hI) (Sq.rf _ _) rfl⟩)
      · refine X_istore_n (lv' := [(0, _), (1, _), (2, _), (3, _)]) (tk_X9_risk.at 20 rfl) (by decide) rfl rfl ?_
        refine X_aload_n (tk_X9_risk.at 21 rfl) rfl ?_
        refine X_getR (tk_X9_risk.at 22 rfl) fl_x9_12 hI.P0 rfl rfl ?_
        refine X_iload_n (tk_X9_risk.at 23 rfl) rfl ?_
        refine X_cV1i (lv2 := [(0, _), (1, _)]) (tk_X9_risk.at 24 rfl) mv_X2_isInLine lk_x9_221 np_X2_isInLine hI.D.1 (by decide) rfl (Nat.le_of_ble_eq_true rfl) (Nat.le_of_ble_eq_true rfl) rfl (c2_isInLine hI.D hw hr (fun k hk e => (hw.l1 hk e).elim) (fun _ => ?_))
        refine X_if_ne (tgt := 62) (tk_X9_risk.at 25 rfl) (by decide) (fun h => absurd h (by decide)) (fun _ => ?_)
        refine X_aload_n (tk_X9_risk.at 26 rfl) rfl ?_
        refine X_ldc (tk_X9_risk.at 27 rfl) kn_x9_99 ?_
        refine X_cV1i (lv2 := [(0, _), (1, _)]) (tk_X9_risk.at 28 rfl) mv_X9_fail lk_x9_77 np_X9_fail hI.P0 (by decide) rfl (Nat.le_of_ble_eq_true rfl) (Nat.le_of_ble_eq_true rfl) rfl (c9_fail (k := 2) hI.P0 hI.E (by decide) (by decide) ?_)
        refine X_ireturn (tk_X9_risk.at 29 rfl) rfl rfl ?_
        refine n10_risk (N := N) hI.M (by rw [su_ne (by omega)]; exact hN) hw (by intros; first | (exfalso; grind [In, On, nI_eq]) | exact ⟨by grind [In, On, nI_eq], fin_e hI (Fs.rf hI) (Sq.rf _ _) rfl⟩) (by intros; first | (exfalso; grind [In, On, nI_eq]) | exact ⟨by grind [In, On, nI_eq], fin_e hI (Fs.rf hI) (Sq.rf _ _) rfl⟩) (by intros; first | (exfalso; grind [In, On, nI_eq]) | exact ⟨by grind [In, On, nI_eq], fin_e hI (Fs.rf hI) (Sq.rf _ _) rfl⟩)
    · refine X_if_ne (tgt := 35) (tk_X9_risk.at 11 rfl) (by decide) (fun h => absurd h (by decide)) (fun _ => ?_)
      refine X_aload_n (tk_X9_risk.at 12 rfl) rfl ?_
      refine X_ldc (tk_X9_risk.at 13 rfl) kn_x9_76 ?_
      refine X_cV1i (lv2 := [(0, _), (1, _)]) (tk_X9_risk.at 14 rfl) mv_X9_fail lk_x9_77 np_X9_fail hI.P0 (by decide) rfl (Nat.le_of_ble_eq_true rfl) (Nat.le_of_ble_eq_true rfl) rfl (c9_fail (k := 1) hI.P0 hI.E (by decide) (by decide) ?_)
      refine X_ireturn (tk_X9_risk.at 15 rfl) rfl rfl ?_
      refine n10_risk (N := N) hI.M (by rw [su_ne (by omega)]; exact hN) hw (by intros; first | (exfalso; grind [In, On, nI_eq]) | exact ⟨by grind [In, On, nI_eq], fin_e hI (Fs.rf hI) (Sq.rf _ _) rfl⟩) (by intros; first | (exfalso; grind [In, On, nI_eq]) | exact ⟨by grind [In, On, nI_eq], fin_e hI (Fs.rf hI) (Sq.rf _ _) rfl⟩) (by intros; first | (exfalso; grind [In, On, nI_eq]) | exact ⟨by grind [In, On, nI_eq], fin_e hI (Fs.rf hI) (Sq.rf _ _) rfl⟩)
  · refine X_if_eq (tgt := 28) (tk_X9_risk.at 5 rfl) (by decide) (fun _ => ?_) (fun h => absurd h (by decide))
    refine X_aload_n (tk_X9_risk.at 12 rfl) rfl ?_
    refine X_ldc (tk_X9_risk.at 13 rfl) kn_x9_76 ?_
    refine X_cV1i (lv2 := [(0, _), (1, _)]) (tk_X9_risk.at 14 rfl) mv_X9_fail lk_x9_77 np_X9_fail hI.P0 (by decide) rfl (Nat.le_of_ble_eq_true rfl) (Nat.le_of_ble_eq_true rfl) rfl (c9_fail (k := 1) hI.P0 hI.E (by decide) (by decide) ?_)
    refine X_ireturn (tk_X9_risk.at 15 rfl) rfl rfl ?_
    refine n10_risk (N := N) hI.M (by rw [su_ne (by omega)]; exact hN) hw (by intros; first | (exfalso; grind [In, On, nI_eq]) | exact ⟨by grind [In, On, nI_eq], fin_e hI (Fs.rf hI) (Sq.rf _ _) rfl⟩) (by intros; first | (exfalso; grind [In, On, nI_eq]) | exact ⟨by grind [In, On, nI_eq], fin_e hI (Fs.rf hI) (Sq.rf _ _) rfl⟩) (by intros; first | (exfalso; grind [In, On, nI_eq]) | exact ⟨by grind [In, On, nI_eq], fin_e hI (Fs.rf hI) (Sq.rf _ _) rfl⟩)
