set_option maxHeartbeats 1000000 in
theorem t_lead {G : Gl} {d : Nat} {S : Sh} {μ : Mu} {P o t q im : Nat} {kp : Option Nat} {p : Int32} (hI : Inv G S P o kp t q im μ) : X G mi_X9_lead (d + 60) 0 0 [(0, .ref P), (1, .int p)] [] S μ (qi (fun an S1 μ1 => X G mi_X10_lead (d + 60) 0 0 [(0, .ref o), (1, .int p)] [] S1 μ1 (qi (Eq2 G P o im an)))) := by
  obtain ⟨N, hN⟩ : ∃ N, μ (o + 1) = N := ⟨_, rfl⟩
  have hw : WF N := hN ▸ hI.wf
  have hr : repD μ (P + 1) N := hN ▸ hI.rep
  have lo := hI.lo
  have b1 := hw.n1.2
  have b2 := hw.n2.2
  have b3 := hw.n3.2
  have b4 := hw.n4.2
  have b5 := hw.n5.2
  have b6 := hw.n6.2
  have hun : ∀ r i r' i' p, On N r i p → On N r' i' p → r = r' ∧ i = i' := fun _ _ _ _ _ h1 h2 => hw.un h1 h2
  have hlu : ∀ k k', k < nv (N 4) → k' < nv (N 4) → N (134 + k) = N (134 + k') → k = k' := fun _ _ h1 h2 e => hw.lu h1 h2 e
  have hnz : nI 0 = 0 := rfl
  have hli : ∀ k, k < nv (N 4) → N (134 + k) = nI (nv (N (134 + k))) ∧ nv (N (134 + k)) < nv (N 3) := fun k h => hw.li h
  refine X_aload_n (tk_X9_lead.at 0 rfl) rfl ?_
  refine X_getR (tk_X9_lead.at 1 rfl) fl_x9_12 hI.P0 rfl rfl ?_
  refine X_getR (tk_X9_lead.at 2 rfl) fl_x9_62 hI.D.1 rfl rfl ?_
  refine X_iload_n (tk_X9_lead.at 3 rfl) rfl ?_
  refine X_cV1i (lv2 := [(0, _), (1, _)]) (tk_X9_lead.at 4 rfl) mv_X3_has lk_x9_70 np_X3_has hI.D.2.1.1 (by decide) rfl (Nat.le_of_ble_eq_true rfl) (Nat.le_of_ble_eq_true rfl) rfl (d_phas hI.D hw hr (fun j8 hj8 ej8 => ?_) (fun hj8 => ?_))
  · refine X_if_ne (tgt := 21) (tk_X9_lead.at 5 rfl) (by decide) (fun _ => ?_) (fun h => absurd h (by decide))
    refine X_aload_n (tk_X9_lead.at 10 rfl) rfl ?_
    refine X_getR (tk_X9_lead.at 11 rfl) fl_x9_12 hI.P0 rfl rfl ?_
    refine X_aload_n (tk_X9_lead.at 12 rfl) rfl ?_
    refine X_getR (tk_X9_lead.at 13 rfl) fl_x9_12 hI.P0 rfl rfl ?_
    refine X_iload_n (tk_X9_lead.at 14 rfl) rfl ?_
    refine X_cV1i (lv2 := [(0, _), (1, _)]) (tk_X9_lead.at 15 rfl) mv_X2_ropeOf lk_x9_85 np_X2_ropeOf hI.D.1 (by decide) rfl (Nat.le_of_ble_eq_true rfl) (Nat.le_of_ble_eq_true rfl) rfl (c2_ropeOf (p := j8) hI.D hw hr ej8 (fun r30 i30 h30 => ?_) (fun h30 => ?_))
    · have hr30 := h30.1
      refine X_cV1i (lv2 := [(0, _), (1, _)]) (tk_X9_lead.at 16 rfl) mv_X2_isInLine lk_x9_221 np_X2_isInLine hI.D.1 (by decide) rfl (Nat.le_of_ble_eq_true rfl) (Nat.le_of_ble_eq_true rfl) rfl (c2_isInLine hI.D hw hr (fun k33 hk33 h33 => ?_) (fun h33 => ?_))
      · refine X_if_ne (tgt := 46) (tk_X9_lead.at 17 rfl) (by decide) (fun _ => ?_) (fun h => absurd h (by decide))
        refine X_aload_n (tk_X9_lead.at 22 rfl) rfl ?_
        refine X_getR (tk_X9_lead.at 23 rfl) fl_x9_26 hI.P0 rfl rfl ?_
        refine X_aload_n (tk_X9_lead.at 24 rfl) rfl ?_
        refine X_getR (tk_X9_lead.at 25 rfl) fl_x9_12 hI.P0 rfl rfl ?_
        refine X_iload_n (tk_X9_lead.at 26 rfl) rfl ?_
        refine X_cV2v (lv2 := [(0, _), (1, _), (2, _)]) (tk_X9_lead.at 27 rfl) mv_X0_chooseLead lk_x9_282 np_X0_chooseLead hI.H.1 (by decide) rfl (Nat.le_of_ble_eq_true rfl) (Nat.le_of_ble_eq_true rfl) rfl (c0_chooseLead hI.H hI.D hw hr hI.nb (Or.inl (by omega)) ej8 hj8 h30 (fun ν M hFh hTr hB => ?_))
        have hFs : Fs P μ ν := Fs_Fh hI hFh hTr
        have hNν : ν (o + 1) = N := by rw [hFh _ (by omega)]; exact hN
        have hl0ν : ν o 5 = 0 := by rw [hFh _ (by omega)]; exact hI.l0
        refine X_aload_n (tk_X9_lead.at 28 rfl) rfl ?_
        refine X_getR (tk_X9_lead.at 29 rfl) fl_x9_26 hI.P0 rfl rfl ?_
        refine X_getI (tk_X9_lead.at 30 rfl) fl_x9_261 hI.H.1 rfl ?_
        refine X_ireturn (tk_X9_lead.at 31 rfl) rfl rfl ?_
        refine c10_lead (N := N) hI.M hNν hl0ν hw (by intros; first | (exfalso; grind [In, On, nI_eq, InL]) | exact ⟨by grind [In, On, nI_eq, InL], fin_s hI hFs (by first | exact Tst_sy.sx | assumption | exact Sq.rf _ _) (by first | exact Tst1 _ _ _ _ _ _ _ | rfl | grind)⟩) (by intros; first | (exfalso; grind [In, On, nI_eq, InL]) | exact ⟨by grind [In, On, nI_eq, InL], fin_s hI hFs (by first | exact Tst_sy.sx | assumption | exact Sq.rf _ _) (by first | exact Tst1 _ _ _ _ _ _ _ | rfl | grind)⟩) (fun ξ pn r i k t c hpn ep hon hk hl hsq hn1 hbw => ⟨?_, fin_s hI hFs hsq (by rw [hn1, hNν])⟩)
        have e1 := nI_j ep ej8 (by omega) (by omega)
        subst e1
        rw [(hw.un hon h30).1] at hbw
        rw [hbw] at hB
        exact hB.1.symm
      · refine X_if_ne (tgt := 46) (tk_X9_lead.at 17 rfl) (by decide) (fun h => absurd h (by decide)) (fun _ => ?_)
        refine X_aload_n (tk_X9_lead.at 18 rfl) rfl ?_
        refine X_ldc (tk_X9_lead.at 19 rfl) kn_x9_99 ?_
        refine X_cV1i (lv2 := [(0, _), (1, _)]) (tk_X9_lead.at 20 rfl) mv_X9_fail lk_x9_77 np_X9_fail hI.P0 (by decide) rfl (Nat.le_of_ble_eq_true rfl) (Nat.le_of_ble_eq_true rfl) rfl (c9_fail (k := 2) hI.P0 hI.E (by decide) (by decide) ?_)
        refine X_ireturn (tk_X9_lead.at 21 rfl) rfl rfl ?_
        refine c10_lead (N := N) hI.M (by rw [su_ne (by omega)]; exact hN) (by rw [su_ne (by omega)]; exact hI.l0) hw (by intros; first | (exfalso; grind [In, On, nI_eq, InL]) | exact ⟨by grind [In, On, nI_eq, InL], fin_e hI (Fs.rf hI) (Sq.rf _ _) rfl⟩) (by intros; first | (exfalso; grind [In, On, nI_eq, InL]) | exact ⟨by grind [In, On, nI_eq, InL], fin_e hI (Fs.rf hI) (Sq.rf _ _) rfl⟩) (by intros; first | (exfalso; grind [In, On, nI_eq, InL]) | exact ⟨by grind [In, On, nI_eq, InL], fin_e hI (Fs.rf hI) (Sq.rf _ _) rfl⟩)
    · refine X_cV1i (lv2 := [(0, _), (1, _)]) (tk_X9_lead.at 16 rfl) mv_X2_isInLine lk_x9_221 np_X2_isInLine hI.D.1 (by decide) rfl (Nat.le_of_ble_eq_true rfl) (Nat.le_of_ble_eq_true rfl) rfl (c2_isInLine hI.D hw hr (fun k hk e => (hw.l1 hk e).elim) (fun _ => ?_))
      refine X_if_ne (tgt := 46) (tk_X9_lead.at 17 rfl) (by decide) (fun h => absurd h (by decide)) (fun _ => ?_)
      refine X_aload_n (tk_X9_lead.at 18 rfl) rfl ?_
      refine X_ldc (tk_X9_lead.at 19 rfl) kn_x9_99 ?_
      refine X_cV1i (lv2 := [(0, _), (1, _)]) (tk_X9_lead.at 20 rfl) mv_X9_fail lk_x9_77 np_X9_fail hI.P0 (by decide) rfl (Nat.le_of_ble_eq_true rfl) (Nat.le_of_ble_eq_true rfl) rfl (c9_fail (k := 2) hI.P0 hI.E (by decide) (by decide) ?_)
      refine X_ireturn (tk_X9_lead.at 21 rfl) rfl rfl ?_
      refine c10_lead (N := N) hI.M (by rw [su_ne (by omega)]; exact hN) (by rw [su_ne (by omega)]; exact hI.l0) hw (by intros; first | (exfalso; grind [In, On, nI_eq, InL]) | exact ⟨by grind [In, On, nI_eq, InL], fin_e hI (Fs.rf hI) (Sq.rf _ _) rfl⟩) (by intros; first | (exfalso; grind [In, On, nI_eq, InL]) | exact ⟨by grind [In, On, nI_eq, InL], fin_e hI (Fs.rf hI) (Sq.rf _ _) rfl⟩) (by intros; first | (exfalso; grind [In, On, nI_eq, InL]) | exact ⟨by grind [In, On, nI_eq, InL], fin_e hI (Fs.rf hI) (Sq.rf _ _) rfl⟩)
  · refine X_if_ne (tgt := 21) (tk_X9_lead.at 5 rfl) (by decide) (fun h => absurd h (by decide)) (fun _ => ?_)
    refine X_aload_n (tk_X9_lead.at 6 rfl) rfl ?_
    refine X_ldc (tk_X9_lead.at 7 rfl) kn_x9_76 ?_
    refine X_cV1i (lv2 := [(0, _), (1, _)]) (tk_X9_lead.at 8 rfl) mv_X9_fail lk_x9_77 np_X9_fail hI.P0 (by decide) rfl (Nat.le_of_ble_eq_true rfl) (Nat.le_of_ble_eq_true rfl) rfl (c9_fail (k := 1) hI.P0 hI.E (by decide) (by decide) ?_)
    refine X_ireturn (tk_X9_lead.at 9 rfl) rfl rfl ?_
    refine c10_lead (N := N) hI.M (by rw [su_ne (by omega)]; exact hN) (by rw [su_ne (by omega)]; exact hI.l0) hw (by intros; first | (exfalso; grind [In, On, nI_eq, InL]) | exact ⟨by grind [In, On, nI_eq, InL], fin_e hI (Fs.rf hI) (Sq.rf _ _) rfl⟩) (by intros; first | (exfalso; grind [In, On, nI_eq, InL]) | exact ⟨by grind [In, On, nI_eq, InL], fin_e hI (Fs.rf hI) (Sq.rf _ _) rfl⟩) (by intros; first | (exfalso; grind [In, On, nI_eq, InL]) | exact ⟨by grind [In, On, nI_eq, InL], fin_e hI (Fs.rf hI) (Sq.rf _ _) rfl⟩)
set_option maxHeartbeats 1000000 in
theorem t_parts {G : Gl} {d : Nat} {S : Sh} {μ : Mu} {P o t q im : Nat} {kp : Option Nat} {x y : Int32} (hI : Inv G S P o kp t q im μ) : X G mi_X9_parts (d + 60) 0 0 [(0, .ref P), (1, .int x), (2, .int y)] [] S μ (qi (fun an S1 μ1 => X G mi_X10_parts (d + 60) 0 0 [(0, .ref o), (1, .int x), (2, .int y)] [] S1 μ1 (qi (Eq2 G P o im an)))) := by
  obtain ⟨N, hN⟩ : ∃ N, μ (o + 1) = N := ⟨_, rfl⟩
  have hw : WF N := hN ▸ hI.wf
  have hr : repD μ (P + 1) N := hN ▸ hI.rep
  have lo := hI.lo
  have b1 := hw.n1.2
  have b2 := hw.n2.2
  have b3 := hw.n3.2
  have b4 := hw.n4.2
  have b5 := hw.n5.2
  have b6 := hw.n6.2
  have hun : ∀ r i r' i' p, On N r i p → On N r' i' p → r = r' ∧ i = i' := fun _ _ _ _ _ h1 h2 => hw.un h1 h2
  have hlu : ∀ k k', k < nv (N 4) → k' < nv (N 4) → N (134 + k) = N (134 + k') → k = k' := fun _ _ h1 h2 e => hw.lu h1 h2 e
  have hnz : nI 0 = 0 := rfl
  have hli : ∀ k, k < nv (N 4) → N (134 + k) = nI (nv (N (134 + k))) ∧ nv (N (134 + k)) < nv (N 3) := fun k h => hw.li h
  refine X_aload_n (tk_X9_parts.at 0 rfl) rfl ?_
  refine X_getR (tk_X9_parts.at 1 rfl) fl_x9_12 hI.P0 rfl rfl ?_
  refine X_getR (tk_X9_parts.at 2 rfl) fl_x9_127 hI.D.1 rfl rfl ?_
  refine X_iload_n (tk_X9_parts.at 3 rfl) rfl ?_
  refine X_cV1i (lv2 := [(0, _), (1, _)]) (tk_X9_parts.at 4 rfl) mv_X3_has lk_x9_70 np_X3_has hI.D.2.2.2.1.1 (by decide) rfl (Nat.le_of_ble_eq_true rfl) (Nat.le_of_ble_eq_true rfl) rfl (d_ohas hI.D hw hr (fun j8 hj8 ej8 => ?_) (fun hj8 => ?_))
  · refine X_if_eq (tgt := 33) (tk_X9_parts.at 5 rfl) (by decide) (fun h => absurd h (by decide)) (fun _ => ?_)
    refine X_aload_n (tk_X9_parts.at 6 rfl) rfl ?_
    refine X_getR (tk_X9_parts.at 7 rfl) fl_x9_12 hI.P0 rfl rfl ?_
    refine X_getR (tk_X9_parts.at 8 rfl) fl_x9_127 hI.D.1 rfl rfl ?_
    refine X_iload_n (tk_X9_parts.at 9 rfl) rfl ?_
    refine X_cV1i (lv2 := [(0, _), (1, _)]) (tk_X9_parts.at 10 rfl) mv_X3_has lk_x9_70 np_X3_has hI.D.2.2.2.1.1 (by decide) rfl (Nat.le_of_ble_eq_true rfl) (Nat.le_of_ble_eq_true rfl) rfl (d_ohas hI.D hw hr (fun j22 hj22 ej22 => ?_) (fun hj22 => ?_))
    · refine X_if_eq (tgt := 33) (tk_X9_parts.at 11 rfl) (by decide) (fun h => absurd h (by decide)) (fun _ => ?_)
      refine X_iload_n (tk_X9_parts.at 12 rfl) rfl ?_
      refine X_iload_n (tk_X9_parts.at 13 rfl) rfl ?_
      refine X_icmp_neN (tgt := 40) (tk_X9_parts.at 14 rfl) (by decide) ej8 ej22 (by omega) (by omega) (fun c3 => ?_) (fun c3 => ?_)
      · refine X_aload_n (tk_X9_parts.at 19 rfl) rfl ?_
        refine X_getR (tk_X9_parts.at 20 rfl) fl_x9_12 hI.P0 rfl rfl ?_
        refine X_iload_n (tk_X9_parts.at 21 rfl) rfl ?_
        refine X_cV1i (lv2 := [(0, _), (1, _)]) (tk_X9_parts.at 22 rfl) mv_X2_isInLine lk_x9_221 np_X2_isInLine hI.D.1 (by decide) rfl (Nat.le_of_ble_eq_true rfl) (Nat.le_of_ble_eq_true rfl) rfl (c2_isInLine hI.D hw hr (fun k45 hk45 h45 => ?_) (fun h45 => ?_))
        · refine X_if_eq (tgt := 62) (tk_X9_parts.at 23 rfl) (by decide) (fun h => absurd h (by decide)) (fun _ => ?_)
          refine X_aload_n (tk_X9_parts.at 24 rfl) rfl ?_
          refine X_getR (tk_X9_parts.at 25 rfl) fl_x9_12 hI.P0 rfl rfl ?_
          refine X_iload_n (tk_X9_parts.at 26 rfl) rfl ?_
          refine X_cV1i (lv2 := [(0, _), (1, _)]) (tk_X9_parts.at 27 rfl) mv_X2_isInLine lk_x9_221 np_X2_isInLine hI.D.1 (by decide) rfl (Nat.le_of_ble_eq_true rfl) (Nat.le_of_ble_eq_true rfl) rfl (c2_isInLine hI.D hw hr (fun k56 hk56 h56 => ?_) (fun h56 => ?_))
          · refine X_if_ne (tgt := 69) (tk_X9_parts.at 28 rfl) (by decide) (fun _ => ?_) (fun h => absurd h (by decide))
            have hab : j8 ≠ j22 := by grind [nI_eq]
            refine X_aload_n (tk_X9_parts.at 33 rfl) rfl ?_
            refine X_getR (tk_X9_parts.at 34 rfl) fl_x9_26 hI.P0 rfl rfl ?_
            refine X_aload_n (tk_X9_parts.at 35 rfl) rfl ?_
            refine X_getR (tk_X9_parts.at 36 rfl) fl_x9_12 hI.P0 rfl rfl ?_
            refine X_iload_n (tk_X9_parts.at 37 rfl) rfl ?_
            refine X_iload_n (tk_X9_parts.at 38 rfl) rfl ?_
            refine X_cV3v (lv2 := [(0, _), (1, _), (2, _), (3, _)]) (tk_X9_parts.at 39 rfl) mv_X0_chooseParts lk_x9_267 np_X0_chooseParts hI.H.1 (by decide) rfl (Nat.le_of_ble_eq_true rfl) (Nat.le_of_ble_eq_true rfl) rfl (c0_chooseParts hI.H hI.D hw hr hI.nb (Or.inl (by omega)) ej8 hj8 ej22 hj22 hab (fun ν M hFh hTr hB => ?_))
            have hFs : Fs P μ ν := Fs_Fh hI hFh hTr
            have hNν : ν (o + 1) = N := by rw [hFh _ (by omega)]; exact hN
            have hl0ν : ν o 5 = 0 := by rw [hFh _ (by omega)]; exact hI.l0
            refine X_aload_n (tk_X9_parts.at 40 rfl) rfl ?_
            refine X_getR (tk_X9_parts.at 41 rfl) fl_x9_26 hI.P0 rfl rfl ?_
            refine X_getI (tk_X9_parts.at 42 rfl) fl_x9_261 hI.H.1 rfl ?_
            refine X_ireturn (tk_X9_parts.at 43 rfl) rfl rfl ?_
            refine c10_parts (N := N) hI.M hNν hl0ν hw (by intros; first | (exfalso; grind [In, On, nI_eq]) | exact ⟨by grind [In, On, nI_eq], fin_s hI hFs (by first | exact Tst_sy.sx | assumption | exact Sq.rf _ _) (by first | exact Tst1 _ _ _ _ _ _ _ | rfl | grind)⟩) (by intros; first | (exfalso; grind [In, On, nI_eq]) | exact ⟨by grind [In, On, nI_eq], fin_s hI hFs (by first | exact Tst_sy.sx | assumption | exact Sq.rf _ _) (by first | exact Tst1 _ _ _ _ _ _ _ | rfl | grind)⟩) (fun ξ a b ha hb ea eb hab h1 h2 hsq hn1 hbw => ⟨?_, fin_s hI hFs hsq (by rw [hn1, hNν])⟩) (fun ξ a b t c ha hb ea eb hab h1 h2 hsq hn1 hbw => ⟨?_, fin_s hI hFs hsq (by rw [hn1, hNν])⟩)
            · rw [nI_j ea ej8 (by omega) (by omega), nI_j eb ej22 (by omega) (by omega)] at hbw; rw [hbw] at hB; exact hB.1.symm
            · rw [nI_j ea ej8 (by omega) (by omega), nI_j eb ej22 (by omega) (by omega)] at hbw; rw [hbw] at hB; exact hB.1.symm
          · refine X_if_ne (tgt := 69) (tk_X9_parts.at 28 rfl) (by decide) (fun h => absurd h (by decide)) (fun _ => ?_)
            refine X_aload_n (tk_X9_parts.at 29 rfl) rfl ?_
            refine X_ldc (tk_X9_parts.at 30 rfl) kn_x9_130 ?_
            refine X_cV1i (lv2 := [(0, _), (1, _)]) (tk_X9_parts.at 31 rfl) mv_X9_fail lk_x9_77 np_X9_fail hI.P0 (by decide) rfl (Nat.le_of_ble_eq_true rfl) (Nat.le_of_ble_eq_true rfl) rfl (c9_fail (k := 3) hI.P0 hI.E (by decide) (by decide) ?_)
            refine X_ireturn (tk_X9_parts.at 32 rfl) rfl rfl ?_
            refine c10_parts (N := N) hI.M (by rw [su_ne (by omega)]; exact hN) (by rw [su_ne (by omega)]; exact hI.l0) hw (by intros; first | (exfalso; grind [In, On, nI_eq]) | exact ⟨by grind [In, On, nI_eq], fin_e hI (Fs.rf hI) (Sq.rf _ _) rfl⟩) (by intros; first | (exfalso; grind [In, On, nI_eq]) | exact ⟨by grind [In, On, nI_eq], fin_e hI (Fs.rf hI) (Sq.rf _ _) rfl⟩) (by intros; first | (exfalso; grind [In, On, nI_eq]) | exact ⟨by grind [In, On, nI_eq], fin_e hI (Fs.rf hI) (Sq.rf _ _) rfl⟩) (by intros; first | (exfalso; grind [In, On, nI_eq]) | exact ⟨by grind [In, On, nI_eq], fin_e hI (Fs.rf hI) (Sq.rf _ _) rfl⟩)
        · refine X_if_eq (tgt := 62) (tk_X9_parts.at 23 rfl) (by decide) (fun _ => ?_) (fun h => absurd h (by decide))
          refine X_aload_n (tk_X9_parts.at 29 rfl) rfl ?_
          refine X_ldc (tk_X9_parts.at 30 rfl) kn_x9_130 ?_
          refine X_cV1i (lv2 := [(0, _), (1, _)]) (tk_X9_parts.at 31 rfl) mv_X9_fail lk_x9_77 np_X9_fail hI.P0 (by decide) rfl (Nat.le_of_ble_eq_true rfl) (Nat.le_of_ble_eq_true rfl) rfl (c9_fail (k := 3) hI.P0 hI.E (by decide) (by decide) ?_)
          refine X_ireturn (tk_X9_parts.at 32 rfl) rfl rfl ?_
          refine c10_parts (N := N) hI.M (by rw [su_ne (by omega)]; exact hN) (by rw [su_ne (by omega)]; exact hI.l0) hw (by intros; first | (exfalso; grind [In, On, nI_eq]) | exact ⟨by grind [In, On, nI_eq], fin_e hI (Fs.rf hI) (Sq.rf _ _) rfl⟩) (by intros; first | (exfalso; grind [In, On, nI_eq]) | exact ⟨by grind [In, On, nI_eq], fin_e hI (Fs.rf hI) (Sq.rf _ _) rfl⟩) (by intros; first | (exfalso; grind [In, On, nI_eq]) | exact ⟨by grind [In, On, nI_eq], fin_e hI (Fs.rf hI) (Sq.rf _ _) rfl⟩) (by intros; first | (exfalso; grind [In, On, nI_eq]) | exact ⟨by grind [In, On, nI_eq], fin_e hI (Fs.rf hI) (Sq.rf _ _) rfl⟩)
      · refine X_aload_n (tk_X9_parts.at 15 rfl) rfl ?_
        refine X_ldc (tk_X9_parts.at 16 rfl) kn_x9_76 ?_
        refine X_cV1i (lv2 := [(0, _), (1, _)]) (tk_X9_parts.at 17 rfl) mv_X9_fail lk_x9_77 np_X9_fail hI.P0 (by decide) rfl (Nat.le_of_ble_eq_true rfl) (Nat.le_of_ble_eq_true rfl) rfl (c9_fail (k := 1) hI.P0 hI.E (by decide) (by decide) ?_)
        refine X_ireturn (tk_X9_parts.at 18 rfl) rfl rfl ?_
        refine c10_parts (N := N) hI.M (by rw [su_ne (by omega)]; exact hN) (by rw [su_ne (by omega)]; exact hI.l0) hw (by intros; first | (exfalso; grind [In, On, nI_eq]) | exact ⟨by grind [In, On, nI_eq], fin_e hI (Fs.rf hI) (Sq.rf _ _) rfl⟩) (by intros; first | (exfalso; grind [In, On, nI_eq]) | exact ⟨by grind [In, On, nI_eq], fin_e hI (Fs.rf hI) (Sq.rf _ _) rfl⟩) (by intros; first | (exfalso; grind [In, On, nI_eq]) | exact ⟨by grind [In, On, nI_eq], fin_e hI (Fs.rf hI) (Sq.rf _ _) rfl⟩) (by intros; first | (exfalso; grind [In, On, nI_eq]) | exact ⟨by grind [In, On, nI_eq], fin_e hI (Fs.rf hI) (Sq.rf _ _) rfl⟩)
    · refine X_if_eq (tgt := 33) (tk_X9_parts.at 11 rfl) (by decide) (fun _ => ?_) (fun h => absurd h (by decide))
      refine X_aload_n (tk_X9_parts.at 15 rfl) rfl ?_
      refine X_ldc (tk_X9_parts.at 16 rfl) kn_x9_76 ?_
      refine X_cV1i (lv2 := [(0, _), (1, _)]) (tk_X9_parts.at 17 rfl) mv_X9_fail lk_x9_77 np_X9_fail hI.P0 (by decide) rfl (Nat.le_of_ble_eq_true rfl) (Nat.le_of_ble_eq_true rfl) rfl (c9_fail (k := 1) hI.P0 hI.E (by decide) (by decide) ?_)
      refine X_ireturn (tk_X9_parts.at 18 rfl) rfl rfl ?_
      refine c10_parts (N := N) hI.M (by rw [su_ne (by omega)]; exact hN) (by rw [su_ne (by omega)]; exact hI.l0) hw (by intros; first | (exfalso; grind [In, On, nI_eq]) | exact ⟨by grind [In, On, nI_eq], fin_e hI (Fs.rf hI) (Sq.rf _ _) rfl⟩) (by intros; first | (exfalso; grind [In, On, nI_eq]) | exact ⟨by grind [In, On, nI_eq], fin_e hI (Fs.rf hI) (Sq.rf _ _) rfl⟩) (by intros; first | (exfalso; grind [In, On, nI_eq]) | exact ⟨by grind [In, On, nI_eq], fin_e hI (Fs.rf hI) (Sq.rf _ _) rfl⟩) (by intros; first | (exfalso; grind [In, On, nI_eq]) | exact ⟨by grind [In, On, nI_eq], fin_e hI (Fs.rf hI) (Sq.rf _ _) rfl⟩)
  · refine X_if_eq (tgt := 33) (tk_X9_parts.at 5 rfl) (by decide) (fun _ => ?_) (fun h => absurd h (by decide))
    refine X_aload_n (tk_X9_parts.at 15 rfl) rfl ?_
    refine X_ldc (tk_X9_parts.at 16 rfl) kn_x9_76 ?_
    refine X_cV1i (lv2 := [(0, _), (1, _)]) (tk_X9_parts.at 17 rfl) mv_X9_fail lk_x9_77 np_X9_fail hI.P0 (by decide) rfl (Nat.le_of_ble_eq_true rfl) (Nat.le_of_ble_eq_true rfl) rfl (c9_fail (k := 1) hI.P0 hI.E (by decide) (by decide) ?_)
    refine X_ireturn (tk_X9_parts.at 18 rfl) rfl rfl ?_
    refine c10_parts (N := N) hI.M (by rw [su_ne (by omega)]; exact hN) (by rw [su_ne (by omega)]; exact hI.l0) hw (by intros; first | (exfalso; grind [In, On, nI_eq]) | exact ⟨by grind [In, On, nI_eq], fin_e hI (Fs.rf hI) (Sq.rf _ _) rfl⟩) (by intros; first | (exfalso; grind [In, On, nI_eq]) | exact ⟨by grind [In, On, nI_eq], fin_e hI (Fs.rf hI) (Sq.rf _ _) rfl⟩) (by intros; first | (exfalso; grind [In, On, nI_eq]) | exact ⟨by grind [In, On, nI_eq], fin_e hI (Fs.rf hI) (Sq.rf _ _) rfl⟩) (by intros; first | (exfalso; grind [In, On, nI_eq]) | exact ⟨by grind [In, On, nI_eq], fin_e hI (Fs.rf hI) (Sq.rf _ _) rfl⟩)
set_option maxHeartbeats 1000000 in
theorem t_order {G : Gl} {d : Nat} {S : Sh} {μ : Mu} {P o t q im : Nat} {kp : Option Nat} {r i : Int32} (hI : Inv G S P o kp t q im μ) : X G mi_X9_order (d + 60) 0 0 [(0, .ref P), (1, .int r), (2, .int i)] [] S μ (qi (fun an S1 μ1 => X G mi_X10_order (d + 60) 0 0 [(0, .ref o), (1, .int r), (2, .int i)] [] S1 μ1 (qi (Eq2 G P o im an)))) := by
  obtain ⟨N, hN⟩ : ∃ N, μ (o + 1) = N := ⟨_, rfl⟩
  have hw : WF N := hN ▸ hI.wf
  have hr : repD μ (P + 1) N := hN ▸ hI.rep
  have lo := hI.lo
  have b1 := hw.n1.2
  have b2 := hw.n2.2
  have b3 := hw.n3.2
  have b4 := hw.n4.2
  have b5 := hw.n5.2
  have b6 := hw.n6.2
  have hun : ∀ r i r' i' p, On N r i p → On N r' i' p → r = r' ∧ i = i' := fun _ _ _ _ _ h1 h2 => hw.un h1 h2
  have hlu : ∀ k k', k < nv (N 4) → k' < nv (N 4) → N (134 + k) = N (134 + k') → k = k' := fun _ _ h1 h2 e => hw.lu h1 h2 e
  have hnz : nI 0 = 0 := rfl
  have hli : ∀ k, k < nv (N 4) → N (134 + k) = nI (nv (N (134 + k))) ∧ nv (N (134 + k)) < nv (N 3) := fun k h => hw.li h
  refine X_aload_n (tk_X9_order.at 0 rfl) rfl ?_
  refine X_getR (tk_X9_order.at 1 rfl) fl_x9_12 hI.P0 rfl rfl ?_
  refine X_getR (tk_X9_order.at 2 rfl) fl_x9_127 hI.D.1 rfl rfl ?_
  refine X_iload_n (tk_X9_order.at 3 rfl) rfl ?_
  refine X_cV1i (lv2 := [(0, _), (1, _)]) (tk_X9_order.at 4 rfl) mv_X3_has lk_x9_70 np_X3_has hI.D.2.2.2.1.1 (by decide) rfl (Nat.le_of_ble_eq_true rfl) (Nat.le_of_ble_eq_true rfl) rfl (d_ohas hI.D hw hr (fun j8 hj8 ej8 => ?_) (fun hj8 => ?_))
  · refine X_if_eq (tgt := 19) (tk_X9_order.at 5 rfl) (by decide) (fun h => absurd h (by decide)) (fun _ => ?_)
    refine X_iload_n (tk_X9_order.at 6 rfl) rfl ?_
    refine X_iconst (tk_X9_order.at 7 rfl) ci_m1 ?_
    refine X_icmp_ge (tgt := 26) (tk_X9_order.at 8 rfl) (by decide) (fun c2 => ?_) (fun c2 => ?_)
    · have h16 := c2
      refine X_aload_n (tk_X9_order.at 13 rfl) rfl ?_
      refine X_getR (tk_X9_order.at 14 rfl) fl_x9_12 hI.P0 rfl rfl ?_
      refine X_iload_n (tk_X9_order.at 15 rfl) rfl ?_
      refine X_cV1i (lv2 := [(0, _), (1, _)]) (tk_X9_order.at 16 rfl) mv_X2_isInLine lk_x9_221 np_X2_isInLine hI.D.1 (by decide) rfl (Nat.le_of_ble_eq_true rfl) (Nat.le_of_ble_eq_true rfl) rfl (c2_isInLine hI.D hw hr (fun k31 hk31 h31 => ?_) (fun h31 => ?_))
      · refine X_if_ne (tgt := 44) (tk_X9_order.at 17 rfl) (by decide) (fun _ => ?_) (fun h => absurd h (by decide))
        refine X_iload_n (tk_X9_order.at 22 rfl) rfl ?_
        refine X_aload_n (tk_X9_order.at 23 rfl) rfl ?_
        refine X_getR (tk_X9_order.at 24 rfl) fl_x9_12 hI.P0 rfl rfl ?_
        refine X_iload_n (tk_X9_order.at 25 rfl) rfl ?_
        refine X_cV1r (lv2 := [(0, _), (1, _)]) (tk_X9_order.at 26 rfl) mv_X2_rowOf lk_x9_131 np_X2_rowOf hI.D.1 (by decide) rfl (Nat.le_of_ble_eq_true rfl) (Nat.le_of_ble_eq_true rfl) rfl (d_rowOf (r := j8) hI.D hw hr ej8 (by omega) ?_)
        have bm8 := hw.mb hj8
        refine X_cV0i (lv2 := [(0, _)]) (tk_X9_order.at 27 rfl) mv_X6_size lk_x9_142 np_X6_size (hI.D.2.2.2.2.2.2.2.2.2.2.2 j8 (by omega)).1 (by decide) rfl (Nat.le_of_ble_eq_true rfl) (Nat.le_of_ble_eq_true rfl) rfl (d_rsz hI.D hw hr (by omega) ?_)
        refine X_icmp_lt (tgt := 66) (tk_X9_order.at 28 rfl) (by decide) (fun c4 => ?_) (fun c4 => ?_)
        · have hlt0 := c4
          refine X_aload_n (tk_X9_order.at 33 rfl) rfl ?_
          refine X_getR (tk_X9_order.at 34 rfl) fl_x9_26 hI.P0 rfl rfl ?_
          refine X_aload_n (tk_X9_order.at 35 rfl) rfl ?_
          refine X_getR (tk_X9_order.at 36 rfl) fl_x9_12 hI.P0 rfl rfl ?_
          refine X_iload_n (tk_X9_order.at 37 rfl) rfl ?_
          refine X_cV2v (lv2 := [(0, _), (1, _), (2, _)]) (tk_X9_order.at 38 rfl) mv_X0_chooseOrder lk_x9_248 np_X0_chooseOrder hI.H.1 (by decide) rfl (Nat.le_of_ble_eq_true rfl) (Nat.le_of_ble_eq_true rfl) rfl (c0_chooseOrder hI.H hI.D hw hr hI.nb (Or.inl (by omega)) ej8 hj8 (fun ν M t0 g0 hFh hTr hOr hlt hsz0 hRw => ?_))
          have hFs : Fs P μ ν := Fs_Fh hI hFh hTr
          have hNν : ν (o + 1) = N := by rw [hFh _ (by omega)]; exact hN
          have hl0ν : ν o 5 = 0 := by rw [hFh _ (by omega)]; exact hI.l0
          refine X_iload_n (tk_X9_order.at 39 rfl) rfl ?_
          refine X_if_ge (tgt := 92) (tk_X9_order.at 40 rfl) (by decide) (fun c5 => ?_) (fun c5 => ?_)
          · obtain ⟨f, hf, ef⟩ : ∃ f, f < (mny N j8) ∧ i = nI f := (in_or i (n := (mny N j8)) (by omega)).elim id (fun g => by exfalso; rcases g with g | g; exact absurd g (Int32.not_lt.mpr c5); exact absurd hlt0 (Int32.not_lt.mpr g))
            refine X_aload_n (tk_X9_order.at 45 rfl) rfl ?_
            refine X_getR (tk_X9_order.at 46 rfl) fl_x9_26 hI.P0 rfl rfl ?_
            refine X_getR (tk_X9_order.at 47 rfl) fl_x9_255 hI.H.1 rfl rfl ?_
            refine X_iload_n (tk_X9_order.at 48 rfl) rfl ?_
            refine X_cV1i (lv2 := [(0, _), (1, _)]) (tk_X9_order.at 49 rfl) mv_X6_at lk_x9_151 np_X6_at hI.H.2.1.1 (by decide) rfl (Nat.le_of_ble_eq_true rfl) (Nat.le_of_ble_eq_true rfl) rfl (c6_atN (j := f) (v := nI (g0 f)) hI.H.2.1 hsz0 (by omega) (by decide) ef hf (hRw f hf).1 ?_)
            refine X_ireturn (tk_X9_order.at 50 rfl) rfl rfl ?_
            have hdet : ∀ t g, OrdR N j8 t g → t = t0 ∧ Ag (mny N j8) g g0 := fun t g h => OrdR_det h hOr
            have hm1 := h16
            have npos : ∀ j, j < 60 → ¬ nI j < 0 := fun j hj => nI_pos (by omega)
            refine n10_order (N := N) hI.M hNν hw hl0ν (by intros; first | (exfalso; grind [In, On, nI_eq]) | exact ⟨by grind [In, On, nI_eq], fin_s hI hFs (by first | exact Tst_sy.sx | assumption | exact Sq.rf _ _) (by first | exact Tst1 _ _ _ _ _ _ _ | rfl | grind)⟩) (by intros; first | (exfalso; grind [In, On, nI_eq]) | exact ⟨by grind [In, On, nI_eq], fin_s hI hFs (by first | exact Tst_sy.sx | assumption | exact Sq.rf _ _) (by first | exact Tst1 _ _ _ _ _ _ _ | rfl | grind)⟩) (by intros; first | (exfalso; grind [In, On, nI_eq]) | exact ⟨by grind [In, On, nI_eq], fin_s hI hFs (by first | exact Tst_sy.sx | assumption | exact Sq.rf _ _) (by first | exact Tst1 _ _ _ _ _ _ _ | rfl | grind)⟩) (fun ξ t g a k ha hk ea h1 h2 hl hsq hn1 hor hrw => by exfalso; rw [ef] at h2; exact nI_pos (n := f) (by omega) h2) (fun ξ t g a k j ha hk ea ej hj hl hsq hn1 hor hrw hpm => ⟨?_, fin_s hI hFs hsq (by rw [hn1, hNν])⟩)
            rw [nI_j ea ej8 (by omega) (by omega)] at hor hj
            have hj2 : j < mny N j8 := hj
            rw [nI_j ej ef (by omega) (by omega), (hdet t g hor).2 f hf]
          · refine X_aload_n (tk_X9_order.at 41 rfl) rfl ?_
            refine X_getR (tk_X9_order.at 42 rfl) fl_x9_26 hI.P0 rfl rfl ?_
            refine X_getI (tk_X9_order.at 43 rfl) fl_x9_252 hI.H.1 rfl ?_
            rw [hlt]
            refine X_goto (tgt := 103) (tk_X9_order.at 44 rfl) (by decide) ?_
            refine X_ireturn (tk_X9_order.at 50 rfl) rfl rfl ?_
            have hdet : ∀ t g, OrdR N j8 t g → t = t0 ∧ Ag (mny N j8) g g0 := fun t g h => OrdR_det h hOr
            have hm1 := h16
            have npos : ∀ j, j < 60 → ¬ nI j < 0 := fun j hj => nI_pos (by omega)
            have hng := c5
            refine n10_order (N := N) hI.M hNν hw hl0ν (by intros; first | (exfalso; grind [In, On, nI_eq]) | exact ⟨by grind [In, On, nI_eq], fin_s hI hFs (by first | exact Tst_sy.sx | assumption | exact Sq.rf _ _) (by first | exact Tst1 _ _ _ _ _ _ _ | rfl | grind)⟩) (by intros; first | (exfalso; grind [In, On, nI_eq]) | exact ⟨by grind [In, On, nI_eq], fin_s hI hFs (by first | exact Tst_sy.sx | assumption | exact Sq.rf _ _) (by first | exact Tst1 _ _ _ _ _ _ _ | rfl | grind)⟩) (by intros; first | (exfalso; grind [In, On, nI_eq]) | exact ⟨by grind [In, On, nI_eq], fin_s hI hFs (by first | exact Tst_sy.sx | assumption | exact Sq.rf _ _) (by first | exact Tst1 _ _ _ _ _ _ _ | rfl | grind)⟩) (fun ξ t g a k ha hk ea h1 h2 hl hsq hn1 hor hrw => ⟨?_, fin_s hI hFs hsq (by rw [hn1, hNν])⟩) (fun ξ t g a k j ha hk ea ej hj hl hsq hn1 hor hrw hpm => by exfalso; have hb5 := hw.mb ha; exact hng (by rw [ej]; exact nI_pos' (n := j) (by have : j < mny N a := hj; omega)))
            rw [nI_j ea ej8 (by omega) (by omega)] at hor
            rw [(hdet t g hor).1]
        · refine X_aload_n (tk_X9_order.at 29 rfl) rfl ?_
          refine X_ldc (tk_X9_order.at 30 rfl) kn_x9_99 ?_
          refine X_cV1i (lv2 := [(0, _), (1, _)]) (tk_X9_order.at 31 rfl) mv_X9_fail lk_x9_77 np_X9_fail hI.P0 (by decide) rfl (Nat.le_of_ble_eq_true rfl) (Nat.le_of_ble_eq_true rfl) rfl (c9_fail (k := 2) hI.P0 hI.E (by decide) (by decide) ?_)
          refine X_ireturn (tk_X9_order.at 32 rfl) rfl rfl ?_
          have npos0 : ∀ j, j < 60 → 0 ≤ nI j := fun j hj => nI_pos' (by omega)
          have nlt0 : ∀ j m, j < m → m < 60 → nI j < nI m := fun j m h1 h2 => nI_lt h1 (by omega)
          have bmN : ∀ a, a < nv (N 3) → nv (N (83 + 9 * a)) ≤ 5 := fun a h => hw.mb h
          refine n10_order (N := N) hI.M (by rw [su_ne (by omega)]; exact hN) hw (by rw [su_ne (by omega)]; exact hI.l0) (by intros; first | (exfalso; grind [In, On, nI_eq]) | exact ⟨by grind [In, On, nI_eq], fin_e hI (Fs.rf hI) (Sq.rf _ _) rfl⟩) (by intros; first | (exfalso; grind [In, On, nI_eq]) | exact ⟨by grind [In, On, nI_eq], fin_e hI (Fs.rf hI) (Sq.rf _ _) rfl⟩) (by intros; first | (exfalso; grind [In, On, nI_eq]) | exact ⟨by grind [In, On, nI_eq], fin_e hI (Fs.rf hI) (Sq.rf _ _) rfl⟩) (by intros; first | (exfalso; grind [In, On, nI_eq]) | exact ⟨by grind [In, On, nI_eq], fin_e hI (Fs.rf hI) (Sq.rf _ _) rfl⟩) (by intros; first | (exfalso; grind [In, On, nI_eq]) | exact ⟨by grind [In, On, nI_eq], fin_e hI (Fs.rf hI) (Sq.rf _ _) rfl⟩)
      · refine X_if_ne (tgt := 44) (tk_X9_order.at 17 rfl) (by decide) (fun h => absurd h (by decide)) (fun _ => ?_)
        refine X_aload_n (tk_X9_order.at 18 rfl) rfl ?_
        refine X_ldc (tk_X9_order.at 19 rfl) kn_x9_130 ?_
        refine X_cV1i (lv2 := [(0, _), (1, _)]) (tk_X9_order.at 20 rfl) mv_X9_fail lk_x9_77 np_X9_fail hI.P0 (by decide) rfl (Nat.le_of_ble_eq_true rfl) (Nat.le_of_ble_eq_true rfl) rfl (c9_fail (k := 3) hI.P0 hI.E (by decide) (by decide) ?_)
        refine X_ireturn (tk_X9_order.at 21 rfl) rfl rfl ?_
        have npos0 : ∀ j, j < 60 → 0 ≤ nI j := fun j hj => nI_pos' (by omega)
        have nlt0 : ∀ j m, j < m → m < 60 → nI j < nI m := fun j m h1 h2 => nI_lt h1 (by omega)
        have bmN : ∀ a, a < nv (N 3) → nv (N (83 + 9 * a)) ≤ 5 := fun a h => hw.mb h
        refine n10_order (N := N) hI.M (by rw [su_ne (by omega)]; exact hN) hw (by rw [su_ne (by omega)]; exact hI.l0) (by intros; first | (exfalso; grind [In, On, nI_eq]) | exact ⟨by grind [In, On, nI_eq], fin_e hI (Fs.rf hI) (Sq.rf _ _) rfl⟩) (by intros; first | (exfalso; grind [In, On, nI_eq]) | exact ⟨by grind [In, On, nI_eq], fin_e hI (Fs.rf hI) (Sq.rf _ _) rfl⟩) (by intros; first | (exfalso; grind [In, On, nI_eq]) | exact ⟨by grind [In, On, nI_eq], fin_e hI (Fs.rf hI) (Sq.rf _ _) rfl⟩) (by intros; first | (exfalso; grind [In, On, nI_eq]) | exact ⟨by grind [In, On, nI_eq], fin_e hI (Fs.rf hI) (Sq.rf _ _) rfl⟩) (by intros; first | (exfalso; grind [In, On, nI_eq]) | exact ⟨by grind [In, On, nI_eq], fin_e hI (Fs.rf hI) (Sq.rf _ _) rfl⟩)
    · refine X_aload_n (tk_X9_order.at 9 rfl) rfl ?_
      refine X_ldc (tk_X9_order.at 10 rfl) kn_x9_76 ?_
      refine X_cV1i (lv2 := [(0, _), (1, _)]) (tk_X9_order.at 11 rfl) mv_X9_fail lk_x9_77 np_X9_fail hI.P0 (by decide) rfl (Nat.le_of_ble_eq_true rfl) (Nat.le_of_ble_eq_true rfl) rfl (c9_fail (k := 1) hI.P0 hI.E (by decide) (by decide) ?_)
      refine X_ireturn (tk_X9_order.at 12 rfl) rfl rfl ?_
      have npos0 : ∀ j, j < 60 → 0 ≤ nI j := fun j hj => nI_pos' (by omega)
      have nlt0 : ∀ j m, j < m → m < 60 → nI j < nI m := fun j m h1 h2 => nI_lt h1 (by omega)
      have bmN : ∀ a, a < nv (N 3) → nv (N (83 + 9 * a)) ≤ 5 := fun a h => hw.mb h
      refine n10_order (N := N) hI.M (by rw [su_ne (by omega)]; exact hN) hw (by rw [su_ne (by omega)]; exact hI.l0) (by intros; first | (exfalso; grind [In, On, nI_eq]) | exact ⟨by grind [In, On, nI_eq], fin_e hI (Fs.rf hI) (Sq.rf _ _) rfl⟩) (by intros; first | (exfalso; grind [In, On, nI_eq]) | exact ⟨by grind [In, On, nI_eq], fin_e hI (Fs.rf hI) (Sq.rf _ _) rfl⟩) (by intros; first | (exfalso; grind [In, On, nI_eq]) | exact ⟨by grind [In, On, nI_eq], fin_e hI (Fs.rf hI) (Sq.rf _ _) rfl⟩) (by intros; first | (exfalso; grind [In, On, nI_eq]) | exact ⟨by grind [In, On, nI_eq], fin_e hI (Fs.rf hI) (Sq.rf _ _) rfl⟩) (by intros; first | (exfalso; grind [In, On, nI_eq]) | exact ⟨by grind [In, On, nI_eq], fin_e hI (Fs.rf hI) (Sq.rf _ _) rfl⟩)
  · refine X_if_eq (tgt := 19) (tk_X9_order.at 5 rfl) (by decide) (fun _ => ?_) (fun h => absurd h (by decide))
    refine X_aload_n (tk_X9_order.at 9 rfl) rfl ?_
    refine X_ldc (tk_X9_order.at 10 rfl) kn_x9_76 ?_
    refine X_cV1i (lv2 := [(0, _), (1, _)]) (tk_X9_order.at 11 rfl) mv_X9_fail lk_x9_77 np_X9_fail hI.P0 (by decide) rfl (Nat.le_of_ble_eq_true rfl) (Nat.le_of_ble_eq_true rfl) rfl (c9_fail (k := 1) hI.P0 hI.E (by decide) (by decide) ?_)
    refine X_ireturn (tk_X9_order.at 12 rfl) rfl rfl ?_
    have npos0 : ∀ j, j < 60 → 0 ≤ nI j := fun j hj => nI_pos' (by omega)
    have nlt0 : ∀ j m, j < m → m < 60 → nI j < nI m := fun j m h1 h2 => nI_lt h1 (by omega)
    have bmN : ∀ a, a < nv (N 3) → nv (N (83 + 9 * a)) ≤ 5 := fun a h => hw.mb h
    refine n10_order (N := N) hI.M (by rw [su_ne (by omega)]; exact hN) hw (by rw [su_ne (by omega)]; exact hI.l0) (by intros; first | (exfalso; grind [In, On, nI_eq]) | exact ⟨by grind [In, On, nI_eq], fin_e hI (Fs.rf hI) (Sq.rf _ _) rfl⟩) (by intros; first | (exfalso; grind [In, On, nI_eq]) | exact ⟨by grind [In, On, nI_eq], fin_e hI (Fs.rf hI) (Sq.rf _ _) rfl⟩) (by intros; first | (exfalso; grind [In, On, nI_eq]) | exact ⟨by grind [In, On, nI_eq], fin_e hI (Fs.rf hI) (Sq.rf _ _) rfl⟩) (by intros; first | (exfalso; grind [In, On, nI_eq]) | exact ⟨by grind [In, On, nI_eq], fin_e hI (Fs.rf hI) (Sq.rf _ _) rfl⟩) (by intros; first | (exfalso; grind [In, On, nI_eq]) | exact ⟨by grind [In, On, nI_eq], fin_e hI (Fs.rf hI) (Sq.rf _ _) rfl⟩)
set_option maxHeartbeats 1000000 in
theorem t_line {G : Gl} {d : Nat} {S : Sh} {μ : Mu} {P o t q im : Nat} {kp : Option Nat} {i : Int32} (hI : Inv G S P o kp t q im μ) : X G mi_X9_line (d + 60) 0 0 [(0, .ref P), (1, .int i)] [] S μ (qi (fun an S1 μ1 => X G mi_X10_line (d + 60) 0 0 [(0, .ref o), (1, .int i)] [] S1 μ1 (qi (Eq2 G P o im an)))) := by
  obtain ⟨N, hN⟩ : ∃ N, μ (o + 1) = N := ⟨_, rfl⟩
  have hw : WF N := hN ▸ hI.wf
  have hr : repD μ (P + 1) N := hN ▸ hI.rep
  have lo := hI.lo
  have b1 := hw.n1.2
  have b2 := hw.n2.2
  have b3 := hw.n3.2
  have b4 := hw.n4.2
  have b5 := hw.n5.2
  have b6 := hw.n6.2
  have hun : ∀ r i r' i' p, On N r i p → On N r' i' p → r = r' ∧ i = i' := fun _ _ _ _ _ h1 h2 => hw.un h1 h2
  have hlu : ∀ k k', k < nv (N 4) → k' < nv (N 4) → N (134 + k) = N (134 + k') → k = k' := fun _ _ h1 h2 e => hw.lu h1 h2 e
  have hnz : nI 0 = 0 := rfl
  have hli : ∀ k, k < nv (N 4) → N (134 + k) = nI (nv (N (134 + k))) ∧ nv (N (134 + k)) < nv (N 3) := fun k h => hw.li h
  refine X_iload_n (tk_X9_line.at 0 rfl) rfl ?_
  refine X_iconst (tk_X9_line.at 1 rfl) ci_m1 ?_
  refine X_icmp_ge (tgt := 12) (tk_X9_line.at 2 rfl) (by decide) (fun c1 => ?_) (fun c1 => ?_)
  · have h16 := c1
    refine X_iload_n (tk_X9_line.at 7 rfl) rfl ?_
    refine X_aload_n (tk_X9_line.at 8 rfl) rfl ?_
    refine X_getR (tk_X9_line.at 9 rfl) fl_x9_12 hI.P0 rfl rfl ?_
    refine X_getR (tk_X9_line.at 10 rfl) fl_x9_146 hI.D.1 rfl rfl ?_
    refine X_cV0i (lv2 := [(0, _)]) (tk_X9_line.at 11 rfl) mv_X6_size lk_x9_142 np_X6_size hI.D.2.2.2.2.1.1 (by decide) rfl (Nat.le_of_ble_eq_true rfl) (Nat.le_of_ble_eq_true rfl) rfl (d_lsz hI.D hw hr ?_)
    refine X_icmp_lt (tgt := 33) (tk_X9_line.at 12 rfl) (by decide) (fun c2 => ?_) (fun c2 => ?_)
    · have hlt0 := c2
      refine X_aload_n (tk_X9_line.at 17 rfl) rfl ?_
      refine X_getR (tk_X9_line.at 18 rfl) fl_x9_26 hI.P0 rfl rfl ?_
      refine X_aload_n (tk_X9_line.at 19 rfl) rfl ?_
      refine X_getR (tk_X9_line.at 20 rfl) fl_x9_12 hI.P0 rfl rfl ?_
      refine X_cV1v (lv2 := [(0, _), (1, _)]) (tk_X9_line.at 21 rfl) mv_X0_chooseLine lk_x9_264 np_X0_chooseLine hI.H.1 (by decide) rfl (Nat.le_of_ble_eq_true rfl) (Nat.le_of_ble_eq_true rfl) rfl (c0_chooseLine hI.H hI.D hw hr hI.nb (Or.inl (by omega))  (fun ν M t0 g0 hFh hTr hOr hlt hsz0 hRw => ?_))
      have hFs : Fs P μ ν := Fs_Fh hI hFh hTr
      have hNν : ν (o + 1) = N := by rw [hFh _ (by omega)]; exact hN
      have hl0ν : ν o 5 = 0 := by rw [hFh _ (by omega)]; exact hI.l0
      refine X_iload_n (tk_X9_line.at 22 rfl) rfl ?_
      refine X_if_ge (tgt := 58) (tk_X9_line.at 23 rfl) (by decide) (fun c3 => ?_) (fun c3 => ?_)
      · obtain ⟨f, hf, ef⟩ : ∃ f, f < (nv (N 4)) ∧ i = nI f := (in_or i (n := (nv (N 4))) (by omega)).elim id (fun g => by exfalso; rcases g with g | g; exact absurd g (Int32.not_lt.mpr c3); exact absurd hlt0 (Int32.not_lt.mpr g))
        refine X_aload_n (tk_X9_line.at 28 rfl) rfl ?_
        refine X_getR (tk_X9_line.at 29 rfl) fl_x9_26 hI.P0 rfl rfl ?_
        refine X_getR (tk_X9_line.at 30 rfl) fl_x9_255 hI.H.1 rfl rfl ?_
        refine X_iload_n (tk_X9_line.at 31 rfl) rfl ?_
        refine X_cV1i (lv2 := [(0, _), (1, _)]) (tk_X9_line.at 32 rfl) mv_X6_at lk_x9_151 np_X6_at hI.H.2.1.1 (by decide) rfl (Nat.le_of_ble_eq_true rfl) (Nat.le_of_ble_eq_true rfl) rfl (c6_atN (j := f) (v := nI (g0 f)) hI.H.2.1 hsz0 (by omega) (by decide) ef hf (hRw f hf).1 ?_)
        refine X_ireturn (tk_X9_line.at 33 rfl) rfl rfl ?_
        have hdet : ∀ t g, LinR N t g → t = t0 ∧ Ag (nv (N 4)) g g0 := fun t g h => LinR_det h hOr
        refine n10_line (N := N) hI.M hNν hw hl0ν (by intros; first | (exfalso; grind [In, On, nI_eq]) | exact ⟨by grind [In, On, nI_eq], fin_s hI hFs (by first | exact Tst_sy.sx | assumption | exact Sq.rf _ _) (by first | exact Tst1 _ _ _ _ _ _ _ | rfl | grind)⟩) (by intros; first | (exfalso; grind [In, On, nI_eq]) | exact ⟨by grind [In, On, nI_eq], fin_s hI hFs (by first | exact Tst_sy.sx | assumption | exact Sq.rf _ _) (by first | exact Tst1 _ _ _ _ _ _ _ | rfl | grind)⟩) (fun ξ t g h1 h2 hsq hn1 hor hrw => by exfalso; rw [ef] at h2; exact nI_pos (n := f) (by omega) h2) (fun ξ t g j ej hj hsq hn1 hor hrw hpm => ⟨?_, fin_s hI hFs hsq (by rw [hn1, hNν])⟩)
        rw [nI_j ej ef (by omega) (by omega), (hdet t g hor).2 f hf]
      · refine X_aload_n (tk_X9_line.at 24 rfl) rfl ?_
        refine X_getR (tk_X9_line.at 25 rfl) fl_x9_26 hI.P0 rfl rfl ?_
        refine X_getI (tk_X9_line.at 26 rfl) fl_x9_252 hI.H.1 rfl ?_
        rw [hlt]
        refine X_goto (tgt := 69) (tk_X9_line.at 27 rfl) (by decide) ?_
        refine X_ireturn (tk_X9_line.at 33 rfl) rfl rfl ?_
        have hdet : ∀ t g, LinR N t g → t = t0 ∧ Ag (nv (N 4)) g g0 := fun t g h => LinR_det h hOr
        have hng := c3
        refine n10_line (N := N) hI.M hNν hw hl0ν (by intros; first | (exfalso; grind [In, On, nI_eq]) | exact ⟨by grind [In, On, nI_eq], fin_s hI hFs (by first | exact Tst_sy.sx | assumption | exact Sq.rf _ _) (by first | exact Tst1 _ _ _ _ _ _ _ | rfl | grind)⟩) (by intros; first | (exfalso; grind [In, On, nI_eq]) | exact ⟨by grind [In, On, nI_eq], fin_s hI hFs (by first | exact Tst_sy.sx | assumption | exact Sq.rf _ _) (by first | exact Tst1 _ _ _ _ _ _ _ | rfl | grind)⟩) (fun ξ t g h1 h2 hsq hn1 hor hrw => ⟨?_, fin_s hI hFs hsq (by rw [hn1, hNν])⟩) (fun ξ t g j ej hj hsq hn1 hor hrw hpm => by exfalso; exact hng (by rw [ej]; exact nI_pos' (n := j) (by omega)))
        rw [(hdet t g hor).1]
    · refine X_aload_n (tk_X9_line.at 13 rfl) rfl ?_
      refine X_ldc (tk_X9_line.at 14 rfl) kn_x9_99 ?_
      refine X_cV1i (lv2 := [(0, _), (1, _)]) (tk_X9_line.at 15 rfl) mv_X9_fail lk_x9_77 np_X9_fail hI.P0 (by decide) rfl (Nat.le_of_ble_eq_true rfl) (Nat.le_of_ble_eq_true rfl) rfl (c9_fail (k := 2) hI.P0 hI.E (by decide) (by decide) ?_)
      refine X_ireturn (tk_X9_line.at 16 rfl) rfl rfl ?_
      have npos0 : ∀ j, j < 60 → 0 ≤ nI j := fun j hj => nI_pos' (by omega)
      have nlt0 : ∀ j m, j < m → m < 60 → nI j < nI m := fun j m h1 h2 => nI_lt h1 (by omega)
      have bmN : ∀ a, a < nv (N 3) → nv (N (83 + 9 * a)) ≤ 5 := fun a h => hw.mb h
      refine n10_line (N := N) hI.M (by rw [su_ne (by omega)]; exact hN) hw (by rw [su_ne (by omega)]; exact hI.l0) (by intros; first | (exfalso; grind [In, On, nI_eq]) | exact ⟨by grind [In, On, nI_eq], fin_e hI (Fs.rf hI) (Sq.rf _ _) rfl⟩) (by intros; first | (exfalso; grind [In, On, nI_eq]) | exact ⟨by grind [In, On, nI_eq], fin_e hI (Fs.rf hI) (Sq.rf _ _) rfl⟩) (by intros; first | (exfalso; grind [In, On, nI_eq]) | exact ⟨by grind [In, On, nI_eq], fin_e hI (Fs.rf hI) (Sq.rf _ _) rfl⟩) (by intros; first | (exfalso; grind [In, On, nI_eq]) | exact ⟨by grind [In, On, nI_eq], fin_e hI (Fs.rf hI) (Sq.rf _ _) rfl⟩)
  · refine X_aload_n (tk_X9_line.at 3 rfl) rfl ?_
    refine X_ldc (tk_X9_line.at 4 rfl) kn_x9_76 ?_
    refine X_cV1i (lv2 := [(0, _), (1, _)]) (tk_X9_line.at 5 rfl) mv_X9_fail lk_x9_77 np_X9_fail hI.P0 (by decide) rfl (Nat.le_of_ble_eq_true rfl) (Nat.le_of_ble_eq_true rfl) rfl (c9_fail (k := 1) hI.P0 hI.E (by decide) (by decide) ?_)
    refine X_ireturn (tk_X9_line.at 6 rfl) rfl rfl ?_
    have npos0 : ∀ j, j < 60 → 0 ≤ nI j := fun j hj => nI_pos' (by omega)
    have nlt0 : ∀ j m, j < m → m < 60 → nI j < nI m := fun j m h1 h2 => nI_lt h1 (by omega)
    have bmN : ∀ a, a < nv (N 3) → nv (N (83 + 9 * a)) ≤ 5 := fun a h => hw.mb h
    refine n10_line (N := N) hI.M (by rw [su_ne (by omega)]; exact hN) hw (by rw [su_ne (by omega)]; exact hI.l0) (by intros; first | (exfalso; grind [In, On, nI_eq]) | exact ⟨by grind [In, On, nI_eq], fin_e hI (Fs.rf hI) (Sq.rf _ _) rfl⟩) (by intros; first | (exfalso; grind [In, On, nI_eq]) | exact ⟨by grind [In, On, nI_eq], fin_e hI (Fs.rf hI) (Sq.rf _ _) rfl⟩) (by intros; first | (exfalso; grind [In, On, nI_eq]) | exact ⟨by grind [In, On, nI_eq], fin_e hI (Fs.rf hI) (Sq.rf _ _) rfl⟩) (by intros; first | (exfalso; grind [In, On, nI_eq]) | exact ⟨by grind [In, On, nI_eq], fin_e hI (Fs.rf hI) (Sq.rf _ _) rfl⟩)
