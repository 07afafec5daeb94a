set_option maxHeartbeats 1000000 in
theorem t_tie {G : Gl} {d : Nat} {S : Sh} {μ : Mu} {P o t q im : Nat} {kp : Option Nat} {r p : Int32} (hI : Inv G S P o kp t q im μ) : X G mi_X9_tie (d + 60) 0 0 [(0, .ref P), (1, .int r), (2, .int p)] [] S μ (qi (fun an S1 μ1 => X G mi_X10_tie (d + 60) 0 0 [(0, .ref o), (1, .int r), (2, .int p)] [] S1 μ1 (qi (Eq2 G P o im an)))) := by
  obtain ⟨N, hN⟩ : ∃ N, μ (o + 1) = N := ⟨_, rfl⟩
  have hw : WF N := hN ▸ hI.wf
  have hr : repD μ (P + 1) N := hN ▸ hI.rep
  have lo := hI.lo
  have b1 := hw.n1.2
  have b2 := hw.n2.2
  have b3 := hw.n3.2
  have b4 := hw.n4.2
  have b5 := hw.n5.2
  have b6 := hw.n6.2
  have hun : ∀ r i r' i' p, On N r i p → On N r' i' p → r = r' ∧ i = i' := fun _ _ _ _ _ h1 h2 => hw.un h1 h2
  have hlu : ∀ k k', k < nv (N 4) → k' < nv (N 4) → N (134 + k) = N (134 + k') → k = k' := fun _ _ h1 h2 e => hw.lu h1 h2 e
  have hnz : nI 0 = 0 := rfl
  have hli : ∀ k, k < nv (N 4) → N (134 + k) = nI (nv (N (134 + k))) ∧ nv (N (134 + k)) < nv (N 3) := fun k h => hw.li h
  refine X_aload_n (tk_X9_tie.at 0 rfl) rfl ?_
  refine X_getR (tk_X9_tie.at 1 rfl) fl_x9_12 hI.P0 rfl rfl ?_
  refine X_getR (tk_X9_tie.at 2 rfl) fl_x9_127 hI.D.1 rfl rfl ?_
  refine X_iload_n (tk_X9_tie.at 3 rfl) rfl ?_
  refine X_cV1i (lv2 := [(0, _), (1, _)]) (tk_X9_tie.at 4 rfl) mv_X3_has lk_x9_70 np_X3_has hI.D.2.2.2.1.1 (by decide) rfl (Nat.le_of_ble_eq_true rfl) (Nat.le_of_ble_eq_true rfl) rfl (d_ohas hI.D hw hr (fun j8 hj8 ej8 => ?_) (fun hj8 => ?_))
  · refine X_if_eq (tgt := 28) (tk_X9_tie.at 5 rfl) (by decide) (fun h => absurd h (by decide)) (fun _ => ?_)
    refine X_aload_n (tk_X9_tie.at 6 rfl) rfl ?_
    refine X_getR (tk_X9_tie.at 7 rfl) fl_x9_12 hI.P0 rfl rfl ?_
    refine X_getR (tk_X9_tie.at 8 rfl) fl_x9_62 hI.D.1 rfl rfl ?_
    refine X_iload_n (tk_X9_tie.at 9 rfl) rfl ?_
    refine X_cV1i (lv2 := [(0, _), (1, _)]) (tk_X9_tie.at 10 rfl) mv_X3_has lk_x9_70 np_X3_has hI.D.2.1.1 (by decide) rfl (Nat.le_of_ble_eq_true rfl) (Nat.le_of_ble_eq_true rfl) rfl (d_phas hI.D hw hr (fun j22 hj22 ej22 => ?_) (fun hj22 => ?_))
    · refine X_if_ne (tgt := 35) (tk_X9_tie.at 11 rfl) (by decide) (fun _ => ?_) (fun h => absurd h (by decide))
      refine X_aload_n (tk_X9_tie.at 16 rfl) rfl ?_
      refine X_getR (tk_X9_tie.at 17 rfl) fl_x9_12 hI.P0 rfl rfl ?_
      refine X_iload_n (tk_X9_tie.at 18 rfl) rfl ?_
      refine X_cV1i (lv2 := [(0, _), (1, _)]) (tk_X9_tie.at 19 rfl) mv_X2_ropeOf lk_x9_85 np_X2_ropeOf hI.D.1 (by decide) rfl (Nat.le_of_ble_eq_true rfl) (Nat.le_of_ble_eq_true rfl) rfl (c2_ropeOf (p := j22) hI.D hw hr ej22 (fun r40 i40 h40 => ?_) (fun h40 => ?_))
      · have hr40 := h40.1
        refine X_if_ltN (tgt := 53) (tk_X9_tie.at 20 rfl) (by decide) (pl r40 rfl) (by omega) ?_
        refine X_aload_n (tk_X9_tie.at 21 rfl) rfl ?_
        refine X_ldc (tk_X9_tie.at 22 rfl) kn_x9_130 ?_
        refine X_cV1i (lv2 := [(0, _), (1, _)]) (tk_X9_tie.at 23 rfl) mv_X9_fail lk_x9_77 np_X9_fail hI.P0 (by decide) rfl (Nat.le_of_ble_eq_true rfl) (Nat.le_of_ble_eq_true rfl) rfl (c9_fail (k := 3) hI.P0 hI.E (by decide) (by decide) ?_)
        refine X_ireturn (tk_X9_tie.at 24 rfl) rfl rfl ?_
        have bmN : ∀ a, a < nv (N 3) → nv (N (83 + 9 * a)) ≤ 5 := fun a h => hw.mb h
        refine n10_tie (N := N) hI.M (by rw [su_ne (by omega)]; exact hN) hw (by intros; first | (exfalso; grind [In, On, nI_eq]) | exact ⟨by grind [In, On, nI_eq], fin_e hI (Fs.rf hI) (Sq.rf _ _) rfl⟩) (by intros; first | (exfalso; grind [In, On, nI_eq]) | exact ⟨by grind [In, On, nI_eq], fin_e hI (Fs.rf hI) (Sq.rf _ _) rfl⟩) (by intros; first | (exfalso; grind [In, On, nI_eq]) | exact ⟨by grind [In, On, nI_eq], fin_e hI (Fs.rf hI) (Sq.rf _ _) rfl⟩) (by intros; first | (exfalso; grind [In, On, nI_eq]) | exact ⟨by grind [In, On, nI_eq], fin_e hI (Fs.rf hI) (Sq.rf _ _) rfl⟩)
      · refine X_if_lt (tgt := 53) (tk_X9_tie.at 20 rfl) (by decide) (fun _ => ?_) (fun h => absurd h (by decide))
        refine X_aload_n (tk_X9_tie.at 25 rfl) rfl ?_
        refine X_getR (tk_X9_tie.at 26 rfl) fl_x9_12 hI.P0 rfl rfl ?_
        refine X_iload_n (tk_X9_tie.at 27 rfl) rfl ?_
        refine X_cV1r (lv2 := [(0, _), (1, _)]) (tk_X9_tie.at 28 rfl) mv_X2_rowOf lk_x9_131 np_X2_rowOf hI.D.1 (by decide) rfl (Nat.le_of_ble_eq_true rfl) (Nat.le_of_ble_eq_true rfl) rfl (d_rowOf (r := j8) hI.D hw hr ej8 (by omega) ?_)
        refine X_astore_n (lv' := [(0, _), (1, _), (2, _), (3, _)]) (tk_X9_tie.at 29 rfl) (by decide) rfl rfl ?_
        have bm8 := hw.mb hj8
        refine X_aload_n (tk_X9_tie.at 30 rfl) rfl ?_
        refine X_cV0i (lv2 := [(0, _)]) (tk_X9_tie.at 31 rfl) mv_X6_isFull lk_x9_135 np_X6_isFull (DS_r hI.D (r := j8) (by omega)).1 (by decide) rfl (Nat.le_of_ble_eq_true rfl) (Nat.le_of_ble_eq_true rfl) rfl (c6_isFull (DS_r hI.D (r := j8) (by omega)) (rD_rs1 hw hr hj8) (hw.mb hj8) (by decide) (fun hfull => ?_) (fun hfull => ?_))
        · refine X_if_eq (tgt := 76) (tk_X9_tie.at 32 rfl) (by decide) (fun h => absurd h (by decide)) (fun _ => ?_)
          refine X_aload_n (tk_X9_tie.at 33 rfl) rfl ?_
          refine X_ldc (tk_X9_tie.at 34 rfl) kn_x9_138 ?_
          refine X_cV1i (lv2 := [(0, _), (1, _)]) (tk_X9_tie.at 35 rfl) mv_X9_fail lk_x9_77 np_X9_fail hI.P0 (by decide) rfl (Nat.le_of_ble_eq_true rfl) (Nat.le_of_ble_eq_true rfl) rfl (c9_fail (k := 4) hI.P0 hI.E (by decide) (by decide) ?_)
          refine X_ireturn (tk_X9_tie.at 36 rfl) rfl rfl ?_
          have bmN : ∀ a, a < nv (N 3) → nv (N (83 + 9 * a)) ≤ 5 := fun a h => hw.mb h
          refine n10_tie (N := N) hI.M (by rw [su_ne (by omega)]; exact hN) hw (by intros; first | (exfalso; grind [In, On, nI_eq]) | exact ⟨by grind [In, On, nI_eq], fin_e hI (Fs.rf hI) (Sq.rf _ _) rfl⟩) (by intros; first | (exfalso; grind [In, On, nI_eq]) | exact ⟨by grind [In, On, nI_eq], fin_e hI (Fs.rf hI) (Sq.rf _ _) rfl⟩) (by intros; first | (exfalso; grind [In, On, nI_eq]) | exact ⟨by grind [In, On, nI_eq], fin_e hI (Fs.rf hI) (Sq.rf _ _) rfl⟩) (by intros; first | (exfalso; grind [In, On, nI_eq]) | exact ⟨by grind [In, On, nI_eq], fin_e hI (Fs.rf hI) (Sq.rf _ _) rfl⟩)
        · refine X_if_eq (tgt := 76) (tk_X9_tie.at 32 rfl) (by decide) (fun _ => ?_) (fun h => absurd h (by decide))
          refine X_aload_n (tk_X9_tie.at 37 rfl) rfl ?_
          refine X_iload_n (tk_X9_tie.at 38 rfl) rfl ?_
          refine X_cV1v (lv2 := [(0, _), (1, _)]) (tk_X9_tie.at 39 rfl) mv_X6_add lk_x9_139 np_X6_add (DS_r hI.D (r := j8) (by omega)).1 (by decide) rfl (Nat.le_of_ble_eq_true rfl) (Nat.le_of_ble_eq_true rfl) rfl (c6_add (DS_r hI.D (r := j8) (by omega)) (rD_rs1 hw hr hj8) (hw.mb hj8) (by decide) (fun hlt0 => ?_) (fun g => absurd g (by omega)))
          generalize eν : su (su μ ((P + 1 + 20 + 2 * j8) + 1) (mny N j8) p) (P + 1 + 20 + 2 * j8) 1 (nI ((mny N j8) + 1)) = ν
          have fν : ∀ a, a ≠ (P + 1 + 20 + 2 * j8) → a ≠ (P + 1 + 20 + 2 * j8) + 1 → ν a = μ a := fun a h1 h2 => by rw [← eν, su_ne h1, su_ne h2]
          have sν : ν (P + 1 + 20 + 2 * j8) 1 = nI ((mny N j8) + 1) := by rw [← eν, su_same]; exact upd_at _ _ _
          have cν : ν ((P + 1 + 20 + 2 * j8) + 1) = upd (μ ((P + 1 + 20 + 2 * j8) + 1)) (mny N j8) p := by rw [← eν, su_ne (by omega), su_same]
          have hNν : ν (o + 1) = N := by rw [fν _ (by omega) (by omega)]; exact hN
          refine X_aload_n (tk_X9_tie.at 40 rfl) rfl ?_
          refine X_cV0i (lv2 := [(0, _)]) (tk_X9_tie.at 41 rfl) mv_X6_size lk_x9_142 np_X6_size (DS_r hI.D (r := j8) (by omega)).1 (by decide) rfl (Nat.le_of_ble_eq_true rfl) (Nat.le_of_ble_eq_true rfl) rfl (c6_size (n := mny N j8 + 1) (DS_r hI.D (r := j8) (by omega)) sν (by omega) (by decide) ?_)
          refine X_iconst (tk_X9_tie.at 42 rfl) ci_1 ?_
          refine X_isub (tk_X9_tie.at 43 rfl) ?_
          refine X_ireturn (tk_X9_tie.at 44 rfl) rfl rfl ?_
          rw [show nI (mny N j8 + 1) - 1 = nI (mny N j8) from nI_pred _]
          refine n10_tie (N := N) hI.M hNν hw (by intros; first | (exfalso; grind [In, On, nI_eq]) | exact ⟨by grind [In, On, nI_eq], fin_s hI hFs (by first | exact Tst_sy.sx | assumption | exact Sq.rf _ _) (by first | exact Tst1 _ _ _ _ _ _ _ | rfl | grind)⟩) (by intros; first | (exfalso; grind [In, On, nI_eq]) | exact ⟨by grind [In, On, nI_eq], fin_s hI hFs (by first | exact Tst_sy.sx | assumption | exact Sq.rf _ _) (by first | exact Tst1 _ _ _ _ _ _ _ | rfl | grind)⟩) (fun a b ha hb ea eb hno h5 => by exfalso; rw [nI_j ea ej8 (by omega) (by omega)] at h5; have h6 : mny N j8 = 5 := h5; omega) (fun a b ha hb ea eb hno h5 => ?_)
          have e1 := nI_j ea ej8 (by omega) (by omega)
          have e2 := nI_j eb ej22 (by omega) (by omega)
          subst e1 e2
          refine ⟨rfl, fin_d hI (Fn_now hI (fun q hq => fν q (by omega) (by omega))) (repD_rw (m := mny N a + 1) hw hr ha (fun q h1 h2 => fν q h1 h2) (fun q hq => insN_o h5 (Nat.le_refl _) hq) (by omega) sν insN_c (fun i hi => ?_)) (by rw [eb]; exact WF_ins hw ha h5 (Nat.le_refl _) hb hno)⟩
          rw [cν, insN_s (show i ≤ nv (N (83 + 9 * a)) from (by have h9 : i < mny N a + 1 := hi; exact Nat.le_of_lt_succ h9))]
          by_cases e : i = mny N a
          · rw [e, upd_at, if_neg (Nat.lt_irrefl _), if_pos rfl]
          · rw [upd_ne _ _ e, if_pos (show i < nv (N (83 + 9 * a)) from (by have h9 : i < mny N a := (by omega); exact h9))]; exact rD_ra1 hw hr ha (by omega)
    · refine X_if_ne (tgt := 35) (tk_X9_tie.at 11 rfl) (by decide) (fun h => absurd h (by decide)) (fun _ => ?_)
      refine X_aload_n (tk_X9_tie.at 12 rfl) rfl ?_
      refine X_ldc (tk_X9_tie.at 13 rfl) kn_x9_76 ?_
      refine X_cV1i (lv2 := [(0, _), (1, _)]) (tk_X9_tie.at 14 rfl) mv_X9_fail lk_x9_77 np_X9_fail hI.P0 (by decide) rfl (Nat.le_of_ble_eq_true rfl) (Nat.le_of_ble_eq_true rfl) rfl (c9_fail (k := 1) hI.P0 hI.E (by decide) (by decide) ?_)
      refine X_ireturn (tk_X9_tie.at 15 rfl) rfl rfl ?_
      have bmN : ∀ a, a < nv (N 3) → nv (N (83 + 9 * a)) ≤ 5 := fun a h => hw.mb h
      refine n10_tie (N := N) hI.M (by rw [su_ne (by omega)]; exact hN) hw (by intros; first | (exfalso; grind [In, On, nI_eq]) | exact ⟨by grind [In, On, nI_eq], fin_e hI (Fs.rf hI) (Sq.rf _ _) rfl⟩) (by intros; first | (exfalso; grind [In, On, nI_eq]) | exact ⟨by grind [In, On, nI_eq], fin_e hI (Fs.rf hI) (Sq.rf _ _) rfl⟩) (by intros; first | (exfalso; grind [In, On, nI_eq]) | exact ⟨by grind [In, On, nI_eq], fin_e hI (Fs.rf hI) (Sq.rf _ _) rfl⟩) (by intros; first | (exfalso; grind [In, On, nI_eq]) | exact ⟨by grind [In, On, nI_eq], fin_e hI (Fs.rf hI) (Sq.rf _ _) rfl⟩)
  · refine X_if_eq (tgt := 28) (tk_X9_tie.at 5 rfl) (by decide) (fun _ => ?_) (fun h => absurd h (by decide))
    refine X_aload_n (tk_X9_tie.at 12 rfl) rfl ?_
    refine X_ldc (tk_X9_tie.at 13 rfl) kn_x9_76 ?_
    refine X_cV1i (lv2 := [(0, _), (1, _)]) (tk_X9_tie.at 14 rfl) mv_X9_fail lk_x9_77 np_X9_fail hI.P0 (by decide) rfl (Nat.le_of_ble_eq_true rfl) (Nat.le_of_ble_eq_true rfl) rfl (c9_fail (k := 1) hI.P0 hI.E (by decide) (by decide) ?_)
    refine X_ireturn (tk_X9_tie.at 15 rfl) rfl rfl ?_
    have bmN : ∀ a, a < nv (N 3) → nv (N (83 + 9 * a)) ≤ 5 := fun a h => hw.mb h
    refine n10_tie (N := N) hI.M (by rw [su_ne (by omega)]; exact hN) hw (by intros; first | (exfalso; grind [In, On, nI_eq]) | exact ⟨by grind [In, On, nI_eq], fin_e hI (Fs.rf hI) (Sq.rf _ _) rfl⟩) (by intros; first | (exfalso; grind [In, On, nI_eq]) | exact ⟨by grind [In, On, nI_eq], fin_e hI (Fs.rf hI) (Sq.rf _ _) rfl⟩) (by intros; first | (exfalso; grind [In, On, nI_eq]) | exact ⟨by grind [In, On, nI_eq], fin_e hI (Fs.rf hI) (Sq.rf _ _) rfl⟩) (by intros; first | (exfalso; grind [In, On, nI_eq]) | exact ⟨by grind [In, On, nI_eq], fin_e hI (Fs.rf hI) (Sq.rf _ _) rfl⟩)
set_option maxHeartbeats 1000000 in
theorem t_untie {G : Gl} {d : Nat} {S : Sh} {μ : Mu} {P o t q im : Nat} {kp : Option Nat} {p : Int32} (hI : Inv G S P o kp t q im μ) : X G mi_X9_untie (d + 60) 0 0 [(0, .ref P), (1, .int p)] [] S μ (qi (fun an S1 μ1 => X G mi_X10_untie (d + 60) 0 0 [(0, .ref o), (1, .int p)] [] S1 μ1 (qi (Eq2 G P o im an)))) := by
  obtain ⟨N, hN⟩ : ∃ N, μ (o + 1) = N := ⟨_, rfl⟩
  have hw : WF N := hN ▸ hI.wf
  have hr : repD μ (P + 1) N := hN ▸ hI.rep
  have lo := hI.lo
  have b1 := hw.n1.2
  have b2 := hw.n2.2
  have b3 := hw.n3.2
  have b4 := hw.n4.2
  have b5 := hw.n5.2
  have b6 := hw.n6.2
  have hun : ∀ r i r' i' p, On N r i p → On N r' i' p → r = r' ∧ i = i' := fun _ _ _ _ _ h1 h2 => hw.un h1 h2
  have hlu : ∀ k k', k < nv (N 4) → k' < nv (N 4) → N (134 + k) = N (134 + k') → k = k' := fun _ _ h1 h2 e => hw.lu h1 h2 e
  have hnz : nI 0 = 0 := rfl
  have hli : ∀ k, k < nv (N 4) → N (134 + k) = nI (nv (N (134 + k))) ∧ nv (N (134 + k)) < nv (N 3) := fun k h => hw.li h
  refine X_aload_n (tk_X9_untie.at 0 rfl) rfl ?_
  refine X_getR (tk_X9_untie.at 1 rfl) fl_x9_12 hI.P0 rfl rfl ?_
  refine X_getR (tk_X9_untie.at 2 rfl) fl_x9_62 hI.D.1 rfl rfl ?_
  refine X_iload_n (tk_X9_untie.at 3 rfl) rfl ?_
  refine X_cV1i (lv2 := [(0, _), (1, _)]) (tk_X9_untie.at 4 rfl) mv_X3_has lk_x9_70 np_X3_has hI.D.2.1.1 (by decide) rfl (Nat.le_of_ble_eq_true rfl) (Nat.le_of_ble_eq_true rfl) rfl (d_phas hI.D hw hr (fun j8 hj8 ej8 => ?_) (fun hj8 => ?_))
  · refine X_if_ne (tgt := 21) (tk_X9_untie.at 5 rfl) (by decide) (fun _ => ?_) (fun h => absurd h (by decide))
    refine X_aload_n (tk_X9_untie.at 10 rfl) rfl ?_
    refine X_getR (tk_X9_untie.at 11 rfl) fl_x9_12 hI.P0 rfl rfl ?_
    refine X_iload_n (tk_X9_untie.at 12 rfl) rfl ?_
    refine X_cV1i (lv2 := [(0, _), (1, _)]) (tk_X9_untie.at 13 rfl) mv_X2_ropeOf lk_x9_85 np_X2_ropeOf hI.D.1 (by decide) rfl (Nat.le_of_ble_eq_true rfl) (Nat.le_of_ble_eq_true rfl) rfl (c2_ropeOf (p := j8) hI.D hw hr ej8 (fun r26 i26 h26 => ?_) (fun h26 => ?_))
    · have hr26 := h26.1
      refine X_istore_n (lv' := [(0, _), (1, _), (2, _)]) (tk_X9_untie.at 14 rfl) (by decide) rfl rfl ?_
      refine X_iload_n (tk_X9_untie.at 15 rfl) rfl ?_
      refine X_if_geN (tgt := 41) (tk_X9_untie.at 16 rfl) (by decide) (pl r26 rfl) (by omega) ?_
      refine X_aload_n (tk_X9_untie.at 21 rfl) rfl ?_
      refine X_getR (tk_X9_untie.at 22 rfl) fl_x9_12 hI.P0 rfl rfl ?_
      refine X_iload_n (tk_X9_untie.at 23 rfl) rfl ?_
      refine X_cV1r (lv2 := [(0, _), (1, _)]) (tk_X9_untie.at 24 rfl) mv_X2_rowOf lk_x9_131 np_X2_rowOf hI.D.1 (by decide) rfl (Nat.le_of_ble_eq_true rfl) (Nat.le_of_ble_eq_true rfl) rfl (d_rowOf (r := r26) hI.D hw hr (pz (pl r26 rfl) (by omega)) (by omega) ?_)
      refine X_aload_n (tk_X9_untie.at 25 rfl) rfl ?_
      refine X_getR (tk_X9_untie.at 26 rfl) fl_x9_12 hI.P0 rfl rfl ?_
      refine X_iload_n (tk_X9_untie.at 27 rfl) rfl ?_
      refine X_cV1i (lv2 := [(0, _), (1, _)]) (tk_X9_untie.at 28 rfl) mv_X2_placeOf lk_x9_88 np_X2_placeOf hI.D.1 (by decide) rfl (Nat.le_of_ble_eq_true rfl) (Nat.le_of_ble_eq_true rfl) rfl (c2_placeOf (p := j8) hI.D hw hr ej8 (fun r54 i54 h54 => ?_) (fun h54 => absurd h26 (h54 r26 i26)))
      have hi26 : i26 < mny N r26 := h26.2.1
      have bm26 := hw.mb h26.1
      have h3r := h26.1
      rw [show i54 = i26 from (hw.un h54 h26).2]
      refine X_cV1v (lv2 := [(0, _), (1, _)]) (tk_X9_untie.at 29 rfl) mv_X6_removeAt lk_x9_143 np_X6_removeAt (DS_r hI.D (by omega)).1 (by decide) rfl (Nat.le_of_ble_eq_true rfl) (Nat.le_of_ble_eq_true rfl) rfl (c6_removeAt (DS_r hI.D (by omega)) (rD_rs1 hw hr h26.1) bm26 (by decide) (fun j hj ej => ?_) (fun hno => absurd ⟨i26, hi26, rfl⟩ hno))
      rw [show j = i26 from ((nI_eq (by omega) (by omega)).mp ej).symm]
      have hT2 := repD_del hw hr h26.1 hi26
      generalize eν : su (Mx μ ((P + 1 + 20 + 2 * r26) + 1) (rmv (μ ((P + 1 + 20 + 2 * r26) + 1)) i26 (mny N r26 - 1))) (P + 1 + 20 + 2 * r26) 1 (nI (mny N r26 - 1)) = ν at hT2 ⊢
      have fν : ∀ a, a ≠ (P + 1 + 20 + 2 * r26) → a ≠ (P + 1 + 20 + 2 * r26) + 1 → ν a = μ a := fun a h1 h2 => by rw [← eν, su_ne h1, Mx_ne h2]
      have hNν : ν (o + 1) = N := by rw [fν _ (by omega) (by omega)]; exact hN
      refine X_iload_n (tk_X9_untie.at 30 rfl) rfl ?_
      refine X_ireturn (tk_X9_untie.at 31 rfl) rfl rfl ?_
      refine n10_untie (N := N) hI.M hNν hw (by intros; first | (exfalso; grind [In, On, nI_eq]) | exact ⟨by grind [In, On, nI_eq], fin_s hI hFs (by first | exact Tst_sy.sx | assumption | exact Sq.rf _ _) (by first | exact Tst1 _ _ _ _ _ _ _ | rfl | grind)⟩) (by intros; first | (exfalso; grind [In, On, nI_eq]) | exact ⟨by grind [In, On, nI_eq], fin_s hI hFs (by first | exact Tst_sy.sx | assumption | exact Sq.rf _ _) (by first | exact Tst1 _ _ _ _ _ _ _ | rfl | grind)⟩) (fun b r i hb eb hon => ?_)
      have e1 := nI_j eb ej8 (by omega) (by omega)
      subst e1
      obtain ⟨e2, e3⟩ := hw.un hon h26
      subst e2 e3
      exact ⟨rfl, fin_d hI (Fn_now hI (fun q hq => fν q (by omega) (by omega))) hT2 (WF_del hw hon.1 hon.2.1)⟩
    · refine X_istore_n (lv' := [(0, _), (1, _), (2, _)]) (tk_X9_untie.at 14 rfl) (by decide) rfl rfl ?_
      refine X_iload_n (tk_X9_untie.at 15 rfl) rfl ?_
      refine X_if_ge (tgt := 41) (tk_X9_untie.at 16 rfl) (by decide) (fun h => absurd h (by decide)) (fun _ => ?_)
      refine X_aload_n (tk_X9_untie.at 17 rfl) rfl ?_
      refine X_ldc (tk_X9_untie.at 18 rfl) kn_x9_99 ?_
      refine X_cV1i (lv2 := [(0, _), (1, _)]) (tk_X9_untie.at 19 rfl) mv_X9_fail lk_x9_77 np_X9_fail hI.P0 (by decide) rfl (Nat.le_of_ble_eq_true rfl) (Nat.le_of_ble_eq_true rfl) rfl (c9_fail (k := 2) hI.P0 hI.E (by decide) (by decide) ?_)
      refine X_ireturn (tk_X9_untie.at 20 rfl) rfl rfl ?_
      refine n10_untie (N := N) hI.M (by rw [su_ne (by omega)]; exact hN) hw (by intros; first | (exfalso; grind [In, On, nI_eq]) | exact ⟨by grind [In, On, nI_eq], fin_e hI (Fs.rf hI) (Sq.rf _ _) rfl⟩) (by intros; first | (exfalso; grind [In, On, nI_eq]) | exact ⟨by grind [In, On, nI_eq], fin_e hI (Fs.rf hI) (Sq.rf _ _) rfl⟩) (by intros; first | (exfalso; grind [In, On, nI_eq]) | exact ⟨by grind [In, On, nI_eq], fin_e hI (Fs.rf hI) (Sq.rf _ _) rfl⟩)
  · refine X_if_ne (tgt := 21) (tk_X9_untie.at 5 rfl) (by decide) (fun h => absurd h (by decide)) (fun _ => ?_)
    refine X_aload_n (tk_X9_untie.at 6 rfl) rfl ?_
    refine X_ldc (tk_X9_untie.at 7 rfl) kn_x9_76 ?_
    refine X_cV1i (lv2 := [(0, _), (1, _)]) (tk_X9_untie.at 8 rfl) mv_X9_fail lk_x9_77 np_X9_fail hI.P0 (by decide) rfl (Nat.le_of_ble_eq_true rfl) (Nat.le_of_ble_eq_true rfl) rfl (c9_fail (k := 1) hI.P0 hI.E (by decide) (by decide) ?_)
    refine X_ireturn (tk_X9_untie.at 9 rfl) rfl rfl ?_
    refine n10_untie (N := N) hI.M (by rw [su_ne (by omega)]; exact hN) hw (by intros; first | (exfalso; grind [In, On, nI_eq]) | exact ⟨by grind [In, On, nI_eq], fin_e hI (Fs.rf hI) (Sq.rf _ _) rfl⟩) (by intros; first | (exfalso; grind [In, On, nI_eq]) | exact ⟨by grind [In, On, nI_eq], fin_e hI (Fs.rf hI) (Sq.rf _ _) rfl⟩) (by intros; first | (exfalso; grind [In, On, nI_eq]) | exact ⟨by grind [In, On, nI_eq], fin_e hI (Fs.rf hI) (Sq.rf _ _) rfl⟩)
theorem fit1 {G : Gl} {S : Sh} {μ : Mu} (h : Sta G S μ) {v : Int32} : (μ (G.2.2.2 4) 1 ≤ v ∧ v ≤ μ (G.2.2.2 5) 1) ↔ (1 ≤ v ∧ v ≤ 20) := by
  rw [(h 4 (by decide)).2 1 (by decide), (h 5 (by decide)).2 1 (by decide)]
  exact Iff.rfl
theorem fit2 {G : Gl} {S : Sh} {μ : Mu} (h : Sta G S μ) {v : Int32} : (μ (G.2.2.2 4) 2 ≤ v ∧ v ≤ μ (G.2.2.2 5) 2) ↔ (0 ≤ v ∧ v ≤ 9) := by
  rw [(h 4 (by decide)).2 2 (by decide), (h 5 (by decide)).2 2 (by decide)]
  exact Iff.rfl
set_option maxHeartbeats 1000000 in
theorem t_setN {G : Gl} {d : Nat} {S : Sh} {μ : Mu} {P o t q im : Nat} {kp : Option Nat} {r x v : Int32} (hI : Inv G S P o kp t q im μ) : X G mi_X9_set (d + 60) 0 0 [(0, .ref P), (1, .int r), (2, .int x), (3, .int v)] [] S μ (qi (fun an S1 μ1 => X G mi_X10_set (d + 60) 0 0 [(0, .ref o), (1, .int r), (2, .int x), (3, .int v)] [] S1 μ1 (qi (Eq2 G P o im an)))) := by
  obtain ⟨N, hN⟩ : ∃ N, μ (o + 1) = N := ⟨_, rfl⟩
  have hw : WF N := hN ▸ hI.wf
  have hr : repD μ (P + 1) N := hN ▸ hI.rep
  have lo := hI.lo
  have b1 := hw.n1.2
  have b2 := hw.n2.2
  have b3 := hw.n3.2
  have b4 := hw.n4.2
  have b5 := hw.n5.2
  have b6 := hw.n6.2
  have hun : ∀ r i r' i' p, On N r i p → On N r' i' p → r = r' ∧ i = i' := fun _ _ _ _ _ h1 h2 => hw.un h1 h2
  have hlu : ∀ k k', k < nv (N 4) → k' < nv (N 4) → N (134 + k) = N (134 + k') → k = k' := fun _ _ h1 h2 e => hw.lu h1 h2 e
  have hnz : nI 0 = 0 := rfl
  have hli : ∀ k, k < nv (N 4) → N (134 + k) = nI (nv (N (134 + k))) ∧ nv (N (134 + k)) < nv (N 3) := fun k h => hw.li h
  refine X_aload_n (tk_X9_set.at 0 rfl) rfl ?_
  refine X_getR (tk_X9_set.at 1 rfl) fl_x9_12 hI.P0 rfl rfl ?_
  refine X_getR (tk_X9_set.at 2 rfl) fl_x9_127 hI.D.1 rfl rfl ?_
  refine X_iload_n (tk_X9_set.at 3 rfl) rfl ?_
  refine X_cV1i (lv2 := [(0, _), (1, _)]) (tk_X9_set.at 4 rfl) mv_X3_has lk_x9_70 np_X3_has hI.D.2.2.2.1.1 (by decide) rfl (Nat.le_of_ble_eq_true rfl) (Nat.le_of_ble_eq_true rfl) rfl (d_ohas hI.D hw hr (fun j8 hj8 ej8 => ?_) (fun hj8 => ?_))
  · refine X_if_eq (tgt := 23) (tk_X9_set.at 5 rfl) (by decide) (fun h => absurd h (by decide)) (fun _ => ?_)
    refine X_iload_n (tk_X9_set.at 6 rfl) rfl ?_
    refine X_if_lt (tgt := 23) (tk_X9_set.at 7 rfl) (by decide) (fun c2 => ?_) (fun c2 => ?_)
    · refine X_aload_n (tk_X9_set.at 11 rfl) rfl ?_
      refine X_ldc (tk_X9_set.at 12 rfl) kn_x9_76 ?_
      refine X_cV1i (lv2 := [(0, _), (1, _)]) (tk_X9_set.at 13 rfl) mv_X9_fail lk_x9_77 np_X9_fail hI.P0 (by decide) rfl (Nat.le_of_ble_eq_true rfl) (Nat.le_of_ble_eq_true rfl) rfl (c9_fail (k := 1) hI.P0 hI.E (by decide) (by decide) ?_)
      refine X_ireturn (tk_X9_set.at 14 rfl) rfl rfl ?_
      have rg1 : ∀ f, f ≤ 1 → 0 ≤ nI f ∧ nI f ≤ 1 := fun f h => rng rfl h (by decide)
      have n01 : ∀ f, f < 2 → nI f = 0 ∨ nI f = 1 := fun f h => In_u h
      refine n10_set (N := N) (n := nv (N 3)) hI.M (by rw [su_ne (by omega)]; exact hN) hw.n3.1 (by omega) (by intros; first | (exfalso; grind [In, On, nI_eq]) | exact ⟨by grind [In, On, nI_eq], fin_e hI (Fs.rf hI) (Sq.rf _ _) rfl⟩) (by intros; first | (exfalso; grind [In, On, nI_eq]) | exact ⟨by grind [In, On, nI_eq], fin_e hI (Fs.rf hI) (Sq.rf _ _) rfl⟩)
    · refine X_iload_n (tk_X9_set.at 8 rfl) rfl ?_
      refine X_iconst (tk_X9_set.at 9 rfl) ci_1 ?_
      refine X_icmp_le (tgt := 30) (tk_X9_set.at 10 rfl) (by decide) (fun c3 => ?_) (fun c3 => ?_)
      · have hcf : 0 ≤ x ∧ x ≤ 1 := by grind
        obtain ⟨f, ef, hf⟩ : ∃ f, x = nI f ∧ f ≤ 1 := ⟨nv x, (le_lits (a := 0) (b := 1) (by decide) hcf.1 hcf.2 (by decide)).1, (le_lits (a := 0) (b := 1) (by decide) hcf.1 hcf.2 (by decide)).2.2⟩
        refine X_iload_n (tk_X9_set.at 15 rfl) rfl ?_
        refine X_if_neN (tgt := 38) (tk_X9_set.at 16 rfl) (by decide) ef (by omega) (fun c4 => ?_) (fun c4 => ?_)
        · refine X_iconst (tk_X9_set.at 19 rfl) ci_2 ?_
          refine X_istore (lv' := [(0, _), (1, _), (2, _), (3, _), (4, _)]) (tk_X9_set.at 20 rfl) (by decide) rfl rfl ?_
          refine X_aload_n (tk_X9_set.at 21 rfl) rfl ?_
          refine X_getR (tk_X9_set.at 22 rfl) fl_x9_12 hI.P0 rfl rfl ?_
          refine X_getR (tk_X9_set.at 23 rfl) fl_x9_127 hI.D.1 rfl rfl ?_
          refine X_iload (tk_X9_set.at 24 rfl) rfl ?_
          refine X_iload_n (tk_X9_set.at 25 rfl) rfl ?_
          refine X_cV2i (lv2 := [(0, _), (1, _), (2, _)]) (tk_X9_set.at 26 rfl) mv_X3_fitsColumn lk_x9_157 np_X3_fitsColumn hI.D.2.2.2.1.1 (by decide) rfl (Nat.le_of_ble_eq_true rfl) (Nat.le_of_ble_eq_true rfl) rfl (c3_fitsColumn hI.D.2.2.2.1 (pl 2 rfl) (by decide) (fun hfit => ?_) (fun hfit => ?_))
          · refine X_if_ne (tgt := 64) (tk_X9_set.at 27 rfl) (by decide) (fun _ => ?_) (fun h => absurd h (by decide))
            refine X_aload_n (tk_X9_set.at 32 rfl) rfl ?_
            refine X_getR (tk_X9_set.at 33 rfl) fl_x9_12 hI.P0 rfl rfl ?_
            refine X_getR (tk_X9_set.at 34 rfl) fl_x9_127 hI.D.1 rfl rfl ?_
            refine X_iload_n (tk_X9_set.at 35 rfl) rfl ?_
            refine X_iload (tk_X9_set.at 36 rfl) rfl ?_
            refine X_cV2i (lv2 := [(0, _), (1, _), (2, _)]) (tk_X9_set.at 37 rfl) mv_X3_get lk_x9_81 np_X3_get hI.D.2.2.2.1.1 (by decide) rfl (Nat.le_of_ble_eq_true rfl) (Nat.le_of_ble_eq_true rfl) rfl (d_rg (k := 82 + 9 * j8) (p := j8) (c := 2) hI.D hw hr ej8 (by omega) (pz (pl 2 rfl) (by omega)) (by omega) (by omega) ?_)
            refine X_istore (lv' := [(0, _), (1, _), (2, _), (3, _), (4, _), (5, _)]) (tk_X9_set.at 38 rfl) (by decide) rfl rfl ?_
            refine X_aload_n (tk_X9_set.at 39 rfl) rfl ?_
            refine X_getR (tk_X9_set.at 40 rfl) fl_x9_12 hI.P0 rfl rfl ?_
            refine X_getR (tk_X9_set.at 41 rfl) fl_x9_127 hI.D.1 rfl rfl ?_
            refine X_iload_n (tk_X9_set.at 42 rfl) rfl ?_
            refine X_iload (tk_X9_set.at 43 rfl) rfl ?_
            refine X_iload_n (tk_X9_set.at 44 rfl) rfl ?_
            refine X_cV3v (lv2 := [(0, _), (1, _), (2, _), (3, _)]) (tk_X9_set.at 45 rfl) mv_X3_change lk_x9_160 np_X3_change hI.D.2.2.2.1.1 (by decide) rfl (Nat.le_of_ble_eq_true rfl) (Nat.le_of_ble_eq_true rfl) rfl (c3_change (n := nv (N 3)) (r := j8) (c := 2) hI.D.2.2.2.1 (rD_ropes hw hr) (by omega) (by decide) ej8 hj8 (pl 2 rfl) (by decide) ?_)
            generalize eν : su μ (P + 1 + 5 + 1) (4 * j8 + 2) v = ν
            have fν : ∀ a, a ≠ P + 1 + 6 → ν a = μ a := fun a h1 => by rw [← eν, su_ne h1]
            have cν : ν (P + 1 + 6) = upd (μ (P + 1 + 6)) (4 * j8 + 2) v := by rw [← eν]; exact su_same
            have hNν : ν (o + 1) = N := by rw [fν _ (by omega)]; exact hN
            refine X_iload (tk_X9_set.at 46 rfl) rfl ?_
            refine X_ireturn (tk_X9_set.at 47 rfl) rfl rfl ?_
            have hfc := (fit2 hI.st).mp hfit
            have hx1 : x = 1 := (by rw [ef]; have h1f : f = 1 := (by omega); rw [h1f]; rfl)
            refine n10_set (N := N) (n := nv (N 3)) hI.M hNν hw.n3.1 (by omega) (by intros; first | (exfalso; grind [In, On, nI_eq]) | exact ⟨by grind [In, On, nI_eq], fin_s hI hFs (by first | exact Tst_sy.sx | assumption | exact Sq.rf _ _) (by first | exact Tst1 _ _ _ _ _ _ _ | rfl | grind)⟩) (fun j f2 hj hf2 er ew hcnd => ?_)
            have e1 := nI_j er ej8 (by omega) (by omega)
            have e2 := nI_j ew (show x = nI 1 from hx1) (by omega) (by decide)
            subst e1 e2
            refine ⟨congrArg N (by omega), fin_u hI (Fn_now hI (fun q hq => fν q (by omega))) hNν (repD_rop (r0 := j) (f := 2) (v := v) hw hr hj (by decide) fν cν (fun q hq => upd_ne _ _ (by omega)) ?_) (WF_rf hw hj (f := 1) (by decide) (fun h0 => ?_) (fun h0 => ?_))⟩
            · rw [show 80 + 9 * j + 2 = 81 + 9 * j + 1 by omega]; exact upd_at _ _ _
            · exact absurd h0 (by decide)
            · have z := le_lits (a := 0) (b := 9) (by decide) hfc.1 hfc.2 (by decide); exact ⟨z.1, z.2.2⟩
          · refine X_if_ne (tgt := 64) (tk_X9_set.at 27 rfl) (by decide) (fun h => absurd h (by decide)) (fun _ => ?_)
            refine X_aload_n (tk_X9_set.at 28 rfl) rfl ?_
            refine X_ldc (tk_X9_set.at 29 rfl) kn_x9_76 ?_
            refine X_cV1i (lv2 := [(0, _), (1, _)]) (tk_X9_set.at 30 rfl) mv_X9_fail lk_x9_77 np_X9_fail hI.P0 (by decide) rfl (Nat.le_of_ble_eq_true rfl) (Nat.le_of_ble_eq_true rfl) rfl (c9_fail (k := 1) hI.P0 hI.E (by decide) (by decide) ?_)
            refine X_ireturn (tk_X9_set.at 31 rfl) rfl rfl ?_
            have hfc := mt (fit2 hI.st).mpr hfit
            have rg1 : ∀ f, f ≤ 1 → 0 ≤ nI f ∧ nI f ≤ 1 := fun f h => rng rfl h (by decide)
            have n01 : ∀ f, f < 2 → nI f = 0 ∨ nI f = 1 := fun f h => In_u h
            refine n10_set (N := N) (n := nv (N 3)) hI.M (by rw [su_ne (by omega)]; exact hN) hw.n3.1 (by omega) (by intros; first | (exfalso; grind [In, On, nI_eq]) | exact ⟨by grind [In, On, nI_eq], fin_e hI (Fs.rf hI) (Sq.rf _ _) rfl⟩) (by intros; first | (exfalso; grind [In, On, nI_eq]) | exact ⟨by grind [In, On, nI_eq], fin_e hI (Fs.rf hI) (Sq.rf _ _) rfl⟩)
        · refine X_iconst (tk_X9_set.at 17 rfl) ci_1 ?_
          refine X_goto (tgt := 39) (tk_X9_set.at 18 rfl) (by decide) ?_
          refine X_istore (lv' := [(0, _), (1, _), (2, _), (3, _), (4, _)]) (tk_X9_set.at 20 rfl) (by decide) rfl rfl ?_
          refine X_aload_n (tk_X9_set.at 21 rfl) rfl ?_
          refine X_getR (tk_X9_set.at 22 rfl) fl_x9_12 hI.P0 rfl rfl ?_
          refine X_getR (tk_X9_set.at 23 rfl) fl_x9_127 hI.D.1 rfl rfl ?_
          refine X_iload (tk_X9_set.at 24 rfl) rfl ?_
          refine X_iload_n (tk_X9_set.at 25 rfl) rfl ?_
          refine X_cV2i (lv2 := [(0, _), (1, _), (2, _)]) (tk_X9_set.at 26 rfl) mv_X3_fitsColumn lk_x9_157 np_X3_fitsColumn hI.D.2.2.2.1.1 (by decide) rfl (Nat.le_of_ble_eq_true rfl) (Nat.le_of_ble_eq_true rfl) rfl (c3_fitsColumn hI.D.2.2.2.1 (pl 1 rfl) (by decide) (fun hfit => ?_) (fun hfit => ?_))
          · refine X_if_ne (tgt := 64) (tk_X9_set.at 27 rfl) (by decide) (fun _ => ?_) (fun h => absurd h (by decide))
            refine X_aload_n (tk_X9_set.at 32 rfl) rfl ?_
            refine X_getR (tk_X9_set.at 33 rfl) fl_x9_12 hI.P0 rfl rfl ?_
            refine X_getR (tk_X9_set.at 34 rfl) fl_x9_127 hI.D.1 rfl rfl ?_
            refine X_iload_n (tk_X9_set.at 35 rfl) rfl ?_
            refine X_iload (tk_X9_set.at 36 rfl) rfl ?_
            refine X_cV2i (lv2 := [(0, _), (1, _), (2, _)]) (tk_X9_set.at 37 rfl) mv_X3_get lk_x9_81 np_X3_get hI.D.2.2.2.1.1 (by decide) rfl (Nat.le_of_ble_eq_true rfl) (Nat.le_of_ble_eq_true rfl) rfl (d_rg (k := 81 + 9 * j8) (p := j8) (c := 1) hI.D hw hr ej8 (by omega) (pz (pl 1 rfl) (by omega)) (by omega) (by omega) ?_)
            refine X_istore (lv' := [(0, _), (1, _), (2, _), (3, _), (4, _), (5, _)]) (tk_X9_set.at 38 rfl) (by decide) rfl rfl ?_
            refine X_aload_n (tk_X9_set.at 39 rfl) rfl ?_
            refine X_getR (tk_X9_set.at 40 rfl) fl_x9_12 hI.P0 rfl rfl ?_
            refine X_getR (tk_X9_set.at 41 rfl) fl_x9_127 hI.D.1 rfl rfl ?_
            refine X_iload_n (tk_X9_set.at 42 rfl) rfl ?_
            refine X_iload (tk_X9_set.at 43 rfl) rfl ?_
            refine X_iload_n (tk_X9_set.at 44 rfl) rfl ?_
            refine X_cV3v (lv2 := [(0, _), (1, _), (2, _), (3, _)]) (tk_X9_set.at 45 rfl) mv_X3_change lk_x9_160 np_X3_change hI.D.2.2.2.1.1 (by decide) rfl (Nat.le_of_ble_eq_true rfl) (Nat.le_of_ble_eq_true rfl) rfl (c3_change (n := nv (N 3)) (r := j8) (c := 1) hI.D.2.2.2.1 (rD_ropes hw hr) (by omega) (by decide) ej8 hj8 (pl 1 rfl) (by decide) ?_)
            generalize eν : su μ (P + 1 + 5 + 1) (4 * j8 + 1) v = ν
            have fν : ∀ a, a ≠ P + 1 + 6 → ν a = μ a := fun a h1 => by rw [← eν, su_ne h1]
            have cν : ν (P + 1 + 6) = upd (μ (P + 1 + 6)) (4 * j8 + 1) v := by rw [← eν]; exact su_same
            have hNν : ν (o + 1) = N := by rw [fν _ (by omega)]; exact hN
            refine X_iload (tk_X9_set.at 46 rfl) rfl ?_
            refine X_ireturn (tk_X9_set.at 47 rfl) rfl rfl ?_
            have hfc := (fit1 hI.st).mp hfit
            have hx0 : x = 0 := (by rw [ef]; have : f = 0 := c4; rw [this]; rfl)
            refine n10_set (N := N) (n := nv (N 3)) hI.M hNν hw.n3.1 (by omega) (by intros; first | (exfalso; grind [In, On, nI_eq]) | exact ⟨by grind [In, On, nI_eq], fin_s hI hFs (by first | exact Tst_sy.sx | assumption | exact Sq.rf _ _) (by first | exact Tst1 _ _ _ _ _ _ _ | rfl | grind)⟩) (fun j f2 hj hf2 er ew hcnd => ?_)
            have e1 := nI_j er ej8 (by omega) (by omega)
            have e2 := nI_j ew (show x = nI 0 from hx0) (by omega) (by decide)
            subst e1 e2
            refine ⟨congrArg N (by omega), fin_u hI (Fn_now hI (fun q hq => fν q (by omega))) hNν (repD_rop (r0 := j) (f := 1) (v := v) hw hr hj (by decide) fν cν (fun q hq => upd_ne _ _ (by omega)) ?_) (WF_rf hw hj (f := 0) (by decide) (fun h0 => ?_) (fun h0 => ?_))⟩
            · rw [show 80 + 9 * j + 1 = 81 + 9 * j + 0 by omega]; exact upd_at _ _ _
            · have z := le_lits (a := 1) (b := 20) (by decide) hfc.1 hfc.2 (by decide); exact ⟨⟨z.1, z.2.2⟩, z.2.1⟩
            · exact absurd h0 (by decide)
          · refine X_if_ne (tgt := 64) (tk_X9_set.at 27 rfl) (by decide) (fun h => absurd h (by decide)) (fun _ => ?_)
            refine X_aload_n (tk_X9_set.at 28 rfl) rfl ?_
            refine X_ldc (tk_X9_set.at 29 rfl) kn_x9_76 ?_
            refine X_cV1i (lv2 := [(0, _), (1, _)]) (tk_X9_set.at 30 rfl) mv_X9_fail lk_x9_77 np_X9_fail hI.P0 (by decide) rfl (Nat.le_of_ble_eq_true rfl) (Nat.le_of_ble_eq_true rfl) rfl (c9_fail (k := 1) hI.P0 hI.E (by decide) (by decide) ?_)
            refine X_ireturn (tk_X9_set.at 31 rfl) rfl rfl ?_
            have hfc := mt (fit1 hI.st).mpr hfit
            have rg1 : ∀ f, f ≤ 1 → 0 ≤ nI f ∧ nI f ≤ 1 := fun f h => rng rfl h (by decide)
            have n01 : ∀ f, f < 2 → nI f = 0 ∨ nI f = 1 := fun f h => In_u h
            refine n10_set (N := N) (n := nv (N 3)) hI.M (by rw [su_ne (by omega)]; exact hN) hw.n3.1 (by omega) (by intros; first | (exfalso; grind [In, On, nI_eq]) | exact ⟨by grind [In, On, nI_eq], fin_e hI (Fs.rf hI) (Sq.rf _ _) rfl⟩) (by intros; first | (exfalso; grind [In, On, nI_eq]) | exact ⟨by grind [In, On, nI_eq], fin_e hI (Fs.rf hI) (Sq.rf _ _) rfl⟩)
      · refine X_aload_n (tk_X9_set.at 11 rfl) rfl ?_
        refine X_ldc (tk_X9_set.at 12 rfl) kn_x9_76 ?_
        refine X_cV1i (lv2 := [(0, _), (1, _)]) (tk_X9_set.at 13 rfl) mv_X9_fail lk_x9_77 np_X9_fail hI.P0 (by decide) rfl (Nat.le_of_ble_eq_true rfl) (Nat.le_of_ble_eq_true rfl) rfl (c9_fail (k := 1) hI.P0 hI.E (by decide) (by decide) ?_)
        refine X_ireturn (tk_X9_set.at 14 rfl) rfl rfl ?_
        have rg1 : ∀ f, f ≤ 1 → 0 ≤ nI f ∧ nI f ≤ 1 := fun f h => rng rfl h (by decide)
        have n01 : ∀ f, f < 2 → nI f = 0 ∨ nI f = 1 := fun f h => In_u h
        refine n10_set (N := N) (n := nv (N 3)) hI.M (by rw [su_ne (by omega)]; exact hN) hw.n3.1 (by omega) (by intros; first | (exfalso; grind [In, On, nI_eq]) | exact ⟨by grind [In, On, nI_eq], fin_e hI (Fs.rf hI) (Sq.rf _ _) rfl⟩) (by intros; first | (exfalso; grind [In, On, nI_eq]) | exact ⟨by grind [In, On, nI_eq], fin_e hI (Fs.rf hI) (Sq.rf _ _) rfl⟩)
  · refine X_if_eq (tgt := 23) (tk_X9_set.at 5 rfl) (by decide) (fun _ => ?_) (fun h => absurd h (by decide))
    refine X_aload_n (tk_X9_set.at 11 rfl) rfl ?_
    refine X_ldc (tk_X9_set.at 12 rfl) kn_x9_76 ?_
    refine X_cV1i (lv2 := [(0, _), (1, _)]) (tk_X9_set.at 13 rfl) mv_X9_fail lk_x9_77 np_X9_fail hI.P0 (by decide) rfl (Nat.le_of_ble_eq_true rfl) (Nat.le_of_ble_eq_true rfl) rfl (c9_fail (k := 1) hI.P0 hI.E (by decide) (by decide) ?_)
    refine X_ireturn (tk_X9_set.at 14 rfl) rfl rfl ?_
    have rg1 : ∀ f, f ≤ 1 → 0 ≤ nI f ∧ nI f ≤ 1 := fun f h => rng rfl h (by decide)
    have n01 : ∀ f, f < 2 → nI f = 0 ∨ nI f = 1 := fun f h => In_u h
    refine n10_set (N := N) (n := nv (N 3)) hI.M (by rw [su_ne (by omega)]; exact hN) hw.n3.1 (by omega) (by intros; first | (exfalso; grind [In, On, nI_eq]) | exact ⟨by grind [In, On, nI_eq], fin_e hI (Fs.rf hI) (Sq.rf _ _) rfl⟩) (by intros; first | (exfalso; grind [In, On, nI_eq]) | exact ⟨by grind [In, On, nI_eq], fin_e hI (Fs.rf hI) (Sq.rf _ _) rfl⟩)
