set_option maxHeartbeats 1000000 in
theorem c9_errorOnRope {G : Gl} {d : Nat} {S : Sh} {μ : Mu} {P o t q im : Nat} {kp : Option Nat} {N : Nat → Int32} {p c : Int32} {K : Int32 → Sh → Mu → Prop} (hI : Inv G S P o kp t q im μ) (hw : WF N) (hr : repD μ (P + 1) N) (k1 : ¬ (In p (nv (N 1)) ∧ In c (nv (N 2))) → K (-1000000001) S μ) (k2 : ∀ b x, b < nv (N 1) → x < nv (N 2) → p = nI b → c = nI x → (∀ r i, ¬ On N r i b) → K (-1000000002) S μ) (k3 : ∀ b x r i, b < nv (N 1) → x < nv (N 2) → p = nI b → c = nI x → On N r i b → K 0 S μ) : X G mi_X9_errorOnRope (d + 3) 0 0 [(0, .ref P), (1, .int p), (2, .int c)] [] S μ (qi K) := by
  have b1 := hw.n1.2
  have b2 := hw.n2.2
  have b3 := hw.n3.2
  refine X_aload_n (tk_X9_errorOnRope.at 0 rfl) rfl ?_
  refine X_getR (tk_X9_errorOnRope.at 1 rfl) fl_x9_12 hI.P0 rfl rfl ?_
  refine X_getR (tk_X9_errorOnRope.at 2 rfl) fl_x9_62 hI.D.1 rfl rfl ?_
  refine X_iload_n (tk_X9_errorOnRope.at 3 rfl) rfl ?_
  refine X_cV1i (lv2 := [(0, _), (1, _)]) (tk_X9_errorOnRope.at 4 rfl) mv_X3_has lk_x9_70 np_X3_has hI.D.2.1.1 (by decide) rfl (Nat.le_of_ble_eq_true rfl) (Nat.le_of_ble_eq_true rfl) rfl (d_phas hI.D hw hr (fun j8 hj8 ej8 => ?_) (fun hj8 => ?_))
  · refine X_if_eq (tgt := 28) (tk_X9_errorOnRope.at 5 rfl) (by decide) (fun h => absurd h (by decide)) (fun _ => ?_)
    refine X_aload_n (tk_X9_errorOnRope.at 6 rfl) rfl ?_
    refine X_getR (tk_X9_errorOnRope.at 7 rfl) fl_x9_12 hI.P0 rfl rfl ?_
    refine X_getR (tk_X9_errorOnRope.at 8 rfl) fl_x9_118 hI.D.1 rfl rfl ?_
    refine X_iload_n (tk_X9_errorOnRope.at 9 rfl) rfl ?_
    refine X_cV1i (lv2 := [(0, _), (1, _)]) (tk_X9_errorOnRope.at 10 rfl) mv_X3_has lk_x9_70 np_X3_has hI.D.2.2.1.1 (by decide) rfl (Nat.le_of_ble_eq_true rfl) (Nat.le_of_ble_eq_true rfl) rfl (d_chas hI.D hw hr (fun j22 hj22 ej22 => ?_) (fun hj22 => ?_))
    · refine X_if_ne (tgt := 31) (tk_X9_errorOnRope.at 11 rfl) (by decide) (fun _ => ?_) (fun h => absurd h (by decide))
      refine X_aload_n (tk_X9_errorOnRope.at 14 rfl) rfl ?_
      refine X_getR (tk_X9_errorOnRope.at 15 rfl) fl_x9_12 hI.P0 rfl rfl ?_
      refine X_iload_n (tk_X9_errorOnRope.at 16 rfl) rfl ?_
      refine X_cV1i (lv2 := [(0, _), (1, _)]) (tk_X9_errorOnRope.at 17 rfl) mv_X2_ropeOf lk_x9_85 np_X2_ropeOf hI.D.1 (by decide) rfl (Nat.le_of_ble_eq_true rfl) (Nat.le_of_ble_eq_true rfl) rfl (c2_ropeOf (p := j8) hI.D hw hr ej8 (fun r36 i36 h36 => ?_) (fun h36 => ?_))
      · have hr36 := h36.1
        refine X_if_geN (tgt := 47) (tk_X9_errorOnRope.at 18 rfl) (by decide) (pl r36 rfl) (by omega) ?_
        refine X_iconst (tk_X9_errorOnRope.at 21 rfl) ci_0 ?_
        refine X_ireturn (tk_X9_errorOnRope.at 22 rfl) rfl rfl ?_
        exact k3 j8 j22 r36 i36 hj8 hj22 ej8 ej22 h36
      · refine X_if_ge (tgt := 47) (tk_X9_errorOnRope.at 18 rfl) (by decide) (fun h => absurd h (by decide)) (fun _ => ?_)
        refine X_ldc (tk_X9_errorOnRope.at 19 rfl) kn_x9_99 ?_
        refine X_goto (tgt := 48) (tk_X9_errorOnRope.at 20 rfl) (by decide) ?_
        refine X_ireturn (tk_X9_errorOnRope.at 22 rfl) rfl rfl ?_
        exact k2 j8 j22 hj8 hj22 ej8 ej22 h36
    · refine X_if_ne (tgt := 31) (tk_X9_errorOnRope.at 11 rfl) (by decide) (fun h => absurd h (by decide)) (fun _ => ?_)
      refine X_ldc (tk_X9_errorOnRope.at 12 rfl) kn_x9_76 ?_
      refine X_ireturn (tk_X9_errorOnRope.at 13 rfl) rfl rfl ?_
      exact k1 (by grind [In, On, nI_eq])
  · refine X_if_eq (tgt := 28) (tk_X9_errorOnRope.at 5 rfl) (by decide) (fun _ => ?_) (fun h => absurd h (by decide))
    refine X_ldc (tk_X9_errorOnRope.at 12 rfl) kn_x9_76 ?_
    refine X_ireturn (tk_X9_errorOnRope.at 13 rfl) rfl rfl ?_
    exact k1 (by grind [In, On, nI_eq])
set_option maxHeartbeats 1000000 in
theorem t_held {G : Gl} {d : Nat} {S : Sh} {μ : Mu} {P o t q im : Nat} {kp : Option Nat} {p c : Int32} (hI : Inv G S P o kp t q im μ) : X G mi_X9_held (d + 60) 0 0 [(0, .ref P), (1, .int p), (2, .int c)] [] S μ (qi (fun an S1 μ1 => X G mi_X10_held (d + 60) 0 0 [(0, .ref o), (1, .int p), (2, .int c)] [] S1 μ1 (qi (Eq2 G P o im an)))) := by
  obtain ⟨N, hN⟩ : ∃ N, μ (o + 1) = N := ⟨_, rfl⟩
  have hw : WF N := hN ▸ hI.wf
  have hr : repD μ (P + 1) N := hN ▸ hI.rep
  have lo := hI.lo
  have b1 := hw.n1.2
  have b2 := hw.n2.2
  have b3 := hw.n3.2
  have b4 := hw.n4.2
  have b5 := hw.n5.2
  have b6 := hw.n6.2
  have hun : ∀ r i r' i' p, On N r i p → On N r' i' p → r = r' ∧ i = i' := fun _ _ _ _ _ h1 h2 => hw.un h1 h2
  have hlu : ∀ k k', k < nv (N 4) → k' < nv (N 4) → N (134 + k) = N (134 + k') → k = k' := fun _ _ h1 h2 e => hw.lu h1 h2 e
  have hnz : nI 0 = 0 := rfl
  refine X_aload_n (tk_X9_held.at 0 rfl) rfl ?_
  refine X_iload_n (tk_X9_held.at 1 rfl) rfl ?_
  refine X_iload_n (tk_X9_held.at 2 rfl) rfl ?_
  refine X_cV2i (lv2 := [(0, _), (1, _), (2, _)]) (tk_X9_held.at 3 rfl) mv_X9_errorOnRope lk_x9_170 np_X9_errorOnRope hI.P0 (by decide) rfl (Nat.le_of_ble_eq_true rfl) (Nat.le_of_ble_eq_true rfl) rfl (c9_errorOnRope hI hw hr (fun hno => ?_) (fun b0 x0 hb hx eb ex hno => ?_) (fun b0 x0 r0 i0 hb hx eb ex hon => ?_))
  · refine X_istore_n (lv' := [(0, _), (1, _), (2, _), (3, _)]) (tk_X9_held.at 4 rfl) (by decide) rfl rfl ?_
    refine X_iload_n (tk_X9_held.at 5 rfl) rfl ?_
    refine X_if_ge (tgt := 17) (tk_X9_held.at 6 rfl) (by decide) (fun h => absurd h (by decide)) (fun _ => ?_)
    refine X_aload_n (tk_X9_held.at 7 rfl) rfl ?_
    refine X_iload_n (tk_X9_held.at 8 rfl) rfl ?_
    refine X_cV1i (lv2 := [(0, _), (1, _)]) (tk_X9_held.at 9 rfl) mv_X9_fail lk_x9_77 np_X9_fail hI.P0 (by decide) rfl (Nat.le_of_ble_eq_true rfl) (Nat.le_of_ble_eq_true rfl) rfl (c9_fail (k := 1) hI.P0 hI.E (by decide) (by decide) ?_)
    refine X_ireturn (tk_X9_held.at 10 rfl) rfl rfl ?_
    refine n10_held (N := N) hI.M (by rw [su_ne (by omega)]; exact hN) hw (by first | exact hI.l0 | (rw [su_ne (by omega)]; exact hI.l0)) (by intros; first | (exfalso; grind [In, On, nI_eq]) | exact ⟨by grind [In, On, nI_eq], fin_e hI (Fs.rf hI) (Sq.rf _ _) rfl⟩) (by intros; first | (exfalso; grind [In, On, nI_eq]) | exact ⟨by grind [In, On, nI_eq], fin_e hI (Fs.rf hI) (Sq.rf _ _) rfl⟩) (by intros; first | (exfalso; grind [In, On, nI_eq]) | exact ⟨by grind [In, On, nI_eq], fin_e hI (Fs.rf hI) (Sq.rf _ _) rfl⟩) (by intros; first | (exfalso; grind [In, On, nI_eq]) | exact ⟨by grind [In, On, nI_eq], fin_e hI (Fs.rf hI) (Sq.rf _ _) rfl⟩)
  · refine X_istore_n (lv' := [(0, _), (1, _), (2, _), (3, _)]) (tk_X9_held.at 4 rfl) (by decide) rfl rfl ?_
    refine X_iload_n (tk_X9_held.at 5 rfl) rfl ?_
    refine X_if_ge (tgt := 17) (tk_X9_held.at 6 rfl) (by decide) (fun h => absurd h (by decide)) (fun _ => ?_)
    refine X_aload_n (tk_X9_held.at 7 rfl) rfl ?_
    refine X_iload_n (tk_X9_held.at 8 rfl) rfl ?_
    refine X_cV1i (lv2 := [(0, _), (1, _)]) (tk_X9_held.at 9 rfl) mv_X9_fail lk_x9_77 np_X9_fail hI.P0 (by decide) rfl (Nat.le_of_ble_eq_true rfl) (Nat.le_of_ble_eq_true rfl) rfl (c9_fail (k := 2) hI.P0 hI.E (by decide) (by decide) ?_)
    refine X_ireturn (tk_X9_held.at 10 rfl) rfl rfl ?_
    refine n10_held (N := N) hI.M (by rw [su_ne (by omega)]; exact hN) hw (by first | exact hI.l0 | (rw [su_ne (by omega)]; exact hI.l0)) (by intros; first | (exfalso; grind [In, On, nI_eq]) | exact ⟨by grind [In, On, nI_eq], fin_e hI (Fs.rf hI) (Sq.rf _ _) rfl⟩) (by intros; first | (exfalso; grind [In, On, nI_eq]) | exact ⟨by grind [In, On, nI_eq], fin_e hI (Fs.rf hI) (Sq.rf _ _) rfl⟩) (by intros; first | (exfalso; grind [In, On, nI_eq]) | exact ⟨by grind [In, On, nI_eq], fin_e hI (Fs.rf hI) (Sq.rf _ _) rfl⟩) (by intros; first | (exfalso; grind [In, On, nI_eq]) | exact ⟨by grind [In, On, nI_eq], fin_e hI (Fs.rf hI) (Sq.rf _ _) rfl⟩)
  · have hr0 := hon.1
    have hi0 : i0 < mny N r0 := hon.2.1
    have bm0 := hw.mb hr0
    refine X_istore_n (lv' := [(0, _), (1, _), (2, _), (3, _)]) (tk_X9_held.at 4 rfl) (by decide) rfl rfl ?_
    refine X_iload_n (tk_X9_held.at 5 rfl) rfl ?_
    refine X_if_ge (tgt := 17) (tk_X9_held.at 6 rfl) (by decide) (fun _ => ?_) (fun h => absurd h (by decide))
    refine X_aload_n (tk_X9_held.at 11 rfl) rfl ?_
    refine X_getR (tk_X9_held.at 12 rfl) fl_x9_12 hI.P0 rfl rfl ?_
    refine X_aload_n (tk_X9_held.at 13 rfl) rfl ?_
    refine X_getR (tk_X9_held.at 14 rfl) fl_x9_12 hI.P0 rfl rfl ?_
    refine X_iload_n (tk_X9_held.at 15 rfl) rfl ?_
    refine X_cV1i (lv2 := [(0, _), (1, _)]) (tk_X9_held.at 16 rfl) mv_X2_ropeOf lk_x9_85 np_X2_ropeOf hI.D.1 (by decide) rfl (Nat.le_of_ble_eq_true rfl) (Nat.le_of_ble_eq_true rfl) rfl (c2_ropeOf (p := b0) hI.D hw hr eb (fun r' i' g => ?_) (fun g => absurd hon (g r0 i0)))
    rw [show r' = r0 from (hw.un g hon).1]
    refine X_aload_n (tk_X9_held.at 17 rfl) rfl ?_
    refine X_getR (tk_X9_held.at 18 rfl) fl_x9_12 hI.P0 rfl rfl ?_
    refine X_iload_n (tk_X9_held.at 19 rfl) rfl ?_
    refine X_cV1i (lv2 := [(0, _), (1, _)]) (tk_X9_held.at 20 rfl) mv_X2_placeOf lk_x9_88 np_X2_placeOf hI.D.1 (by decide) rfl (Nat.le_of_ble_eq_true rfl) (Nat.le_of_ble_eq_true rfl) rfl (c2_placeOf (p := b0) hI.D hw hr eb (fun r' i' g => ?_) (fun g => absurd hon (g r0 i0)))
    rw [show i' = i0 from (hw.un g hon).2]
    refine X_iload_n (tk_X9_held.at 21 rfl) rfl ?_
    refine X_cV3i (lv2 := [(0, _), (1, _), (2, _), (3, _)]) (tk_X9_held.at 22 rfl) mv_X2_isHeld lk_x9_173 np_X2_isHeld hI.D.1 (by decide) rfl (Nat.le_of_ble_eq_true rfl) (Nat.le_of_ble_eq_true rfl) rfl (c2_isHeld (rn := r0) (f := i0) (c := x0) hI.D hw hr (pz (pl r0 rfl) (by omega)) (by omega) (pz (pl i0 rfl) (by omega)) (by omega) ex (by omega) (fun h38 => ?_) (fun h38 => ?_))
    · refine X_if_eq (tgt := 48) (tk_X9_held.at 23 rfl) (by decide) (fun h => absurd h (by decide)) (fun _ => ?_)
      refine X_iconst (tk_X9_held.at 24 rfl) ci_1 ?_
      refine X_goto (tgt := 49) (tk_X9_held.at 25 rfl) (by decide) ?_
      refine X_ireturn (tk_X9_held.at 27 rfl) rfl rfl ?_
      refine n10_held (N := N) hI.M hN hw (by first | exact hI.l0 | (rw [su_ne (by omega)]; exact hI.l0)) (by intros; first | (exfalso; grind [In, On, nI_eq]) | exact ⟨by grind [In, On, nI_eq], fin_s hI (Fs.rf hI) (Sq.rf _ _) rfl⟩) (by intros; first | (exfalso; grind [In, On, nI_eq]) | exact ⟨by grind [In, On, nI_eq], fin_s hI (Fs.rf hI) (Sq.rf _ _) rfl⟩) (by intros; first | (exfalso; grind [In, On, nI_eq]) | exact ⟨by grind [In, On, nI_eq], fin_s hI (Fs.rf hI) (Sq.rf _ _) rfl⟩) (by intros; first | (exfalso; grind [In, On, nI_eq]) | exact ⟨by grind [In, On, nI_eq], fin_s hI (Fs.rf hI) (Sq.rf _ _) rfl⟩)
    · refine X_if_eq (tgt := 48) (tk_X9_held.at 23 rfl) (by decide) (fun _ => ?_) (fun h => absurd h (by decide))
      refine X_iconst (tk_X9_held.at 26 rfl) ci_0 ?_
      refine X_ireturn (tk_X9_held.at 27 rfl) rfl rfl ?_
      refine n10_held (N := N) hI.M hN hw (by first | exact hI.l0 | (rw [su_ne (by omega)]; exact hI.l0)) (by intros; first | (exfalso; grind [In, On, nI_eq]) | exact ⟨by grind [In, On, nI_eq], fin_s hI (Fs.rf hI) (Sq.rf _ _) rfl⟩) (by intros; first | (exfalso; grind [In, On, nI_eq]) | exact ⟨by grind [In, On, nI_eq], fin_s hI (Fs.rf hI) (Sq.rf _ _) rfl⟩) (by intros; first | (exfalso; grind [In, On, nI_eq]) | exact ⟨by grind [In, On, nI_eq], fin_s hI (Fs.rf hI) (Sq.rf _ _) rfl⟩) (by intros; first | (exfalso; grind [In, On, nI_eq]) | exact ⟨by grind [In, On, nI_eq], fin_s hI (Fs.rf hI) (Sq.rf _ _) rfl⟩)
set_option maxHeartbeats 1000000 in
theorem t_cost {G : Gl} {d : Nat} {S : Sh} {μ : Mu} {P o t q im : Nat} {kp : Option Nat} {p c : Int32} (hI : Inv G S P o kp t q im μ) : X G mi_X9_cost (d + 60) 0 0 [(0, .ref P), (1, .int p), (2, .int c)] [] S μ (qi (fun an S1 μ1 => X G mi_X10_cost (d + 60) 0 0 [(0, .ref o), (1, .int p), (2, .int c)] [] S1 μ1 (qi (Eq2 G P o im an)))) := by
  obtain ⟨N, hN⟩ : ∃ N, μ (o + 1) = N := ⟨_, rfl⟩
  have hw : WF N := hN ▸ hI.wf
  have hr : repD μ (P + 1) N := hN ▸ hI.rep
  have lo := hI.lo
  have b1 := hw.n1.2
  have b2 := hw.n2.2
  have b3 := hw.n3.2
  have b4 := hw.n4.2
  have b5 := hw.n5.2
  have b6 := hw.n6.2
  have hun : ∀ r i r' i' p, On N r i p → On N r' i' p → r = r' ∧ i = i' := fun _ _ _ _ _ h1 h2 => hw.un h1 h2
  have hlu : ∀ k k', k < nv (N 4) → k' < nv (N 4) → N (134 + k) = N (134 + k') → k = k' := fun _ _ h1 h2 e => hw.lu h1 h2 e
  have hnz : nI 0 = 0 := rfl
  refine X_aload_n (tk_X9_cost.at 0 rfl) rfl ?_
  refine X_iload_n (tk_X9_cost.at 1 rfl) rfl ?_
  refine X_iload_n (tk_X9_cost.at 2 rfl) rfl ?_
  refine X_cV2i (lv2 := [(0, _), (1, _), (2, _)]) (tk_X9_cost.at 3 rfl) mv_X9_errorOnRope lk_x9_170 np_X9_errorOnRope hI.P0 (by decide) rfl (Nat.le_of_ble_eq_true rfl) (Nat.le_of_ble_eq_true rfl) rfl (c9_errorOnRope hI hw hr (fun hno => ?_) (fun b0 x0 hb hx eb ex hno => ?_) (fun b0 x0 r0 i0 hb hx eb ex hon => ?_))
  · refine X_istore_n (lv' := [(0, _), (1, _), (2, _), (3, _)]) (tk_X9_cost.at 4 rfl) (by decide) rfl rfl ?_
    refine X_iload_n (tk_X9_cost.at 5 rfl) rfl ?_
    refine X_if_ge (tgt := 17) (tk_X9_cost.at 6 rfl) (by decide) (fun h => absurd h (by decide)) (fun _ => ?_)
    refine X_aload_n (tk_X9_cost.at 7 rfl) rfl ?_
    refine X_iload_n (tk_X9_cost.at 8 rfl) rfl ?_
    refine X_cV1i (lv2 := [(0, _), (1, _)]) (tk_X9_cost.at 9 rfl) mv_X9_fail lk_x9_77 np_X9_fail hI.P0 (by decide) rfl (Nat.le_of_ble_eq_true rfl) (Nat.le_of_ble_eq_true rfl) rfl (c9_fail (k := 1) hI.P0 hI.E (by decide) (by decide) ?_)
    refine X_ireturn (tk_X9_cost.at 10 rfl) rfl rfl ?_
    have ecst : ∀ r i x, cst N 0 r i x = if pull N (nv (N (84 + 9 * r + i))) x ≤ hs N 0 r i (mny N r) then 0 else lwo N r := fun r i x => rfl
    refine n10_cost (N := N) hI.M (by rw [su_ne (by omega)]; exact hN) hw (by first | exact hI.l0 | (rw [su_ne (by omega)]; exact hI.l0)) (by intros; first | (exfalso; grind [In, On, nI_eq]) | exact ⟨by grind [In, On, nI_eq], fin_e hI (Fs.rf hI) (Sq.rf _ _) rfl⟩) (by intros; first | (exfalso; grind [In, On, nI_eq]) | exact ⟨by grind [In, On, nI_eq], fin_e hI (Fs.rf hI) (Sq.rf _ _) rfl⟩) (by intros; first | (exfalso; grind [In, On, nI_eq]) | exact ⟨by grind [In, On, nI_eq], fin_e hI (Fs.rf hI) (Sq.rf _ _) rfl⟩)
  · refine X_istore_n (lv' := [(0, _), (1, _), (2, _), (3, _)]) (tk_X9_cost.at 4 rfl) (by decide) rfl rfl ?_
    refine X_iload_n (tk_X9_cost.at 5 rfl) rfl ?_
    refine X_if_ge (tgt := 17) (tk_X9_cost.at 6 rfl) (by decide) (fun h => absurd h (by decide)) (fun _ => ?_)
    refine X_aload_n (tk_X9_cost.at 7 rfl) rfl ?_
    refine X_iload_n (tk_X9_cost.at 8 rfl) rfl ?_
    refine X_cV1i (lv2 := [(0, _), (1, _)]) (tk_X9_cost.at 9 rfl) mv_X9_fail lk_x9_77 np_X9_fail hI.P0 (by decide) rfl (Nat.le_of_ble_eq_true rfl) (Nat.le_of_ble_eq_true rfl) rfl (c9_fail (k := 2) hI.P0 hI.E (by decide) (by decide) ?_)
    refine X_ireturn (tk_X9_cost.at 10 rfl) rfl rfl ?_
    have ecst : ∀ r i x, cst N 0 r i x = if pull N (nv (N (84 + 9 * r + i))) x ≤ hs N 0 r i (mny N r) then 0 else lwo N r := fun r i x => rfl
    refine n10_cost (N := N) hI.M (by rw [su_ne (by omega)]; exact hN) hw (by first | exact hI.l0 | (rw [su_ne (by omega)]; exact hI.l0)) (by intros; first | (exfalso; grind [In, On, nI_eq]) | exact ⟨by grind [In, On, nI_eq], fin_e hI (Fs.rf hI) (Sq.rf _ _) rfl⟩) (by intros; first | (exfalso; grind [In, On, nI_eq]) | exact ⟨by grind [In, On, nI_eq], fin_e hI (Fs.rf hI) (Sq.rf _ _) rfl⟩) (by intros; first | (exfalso; grind [In, On, nI_eq]) | exact ⟨by grind [In, On, nI_eq], fin_e hI (Fs.rf hI) (Sq.rf _ _) rfl⟩)
  · have hr0 := hon.1
    have hi0 : i0 < mny N r0 := hon.2.1
    have bm0 := hw.mb hr0
    refine X_istore_n (lv' := [(0, _), (1, _), (2, _), (3, _)]) (tk_X9_cost.at 4 rfl) (by decide) rfl rfl ?_
    refine X_iload_n (tk_X9_cost.at 5 rfl) rfl ?_
    refine X_if_ge (tgt := 17) (tk_X9_cost.at 6 rfl) (by decide) (fun _ => ?_) (fun h => absurd h (by decide))
    refine X_aload_n (tk_X9_cost.at 11 rfl) rfl ?_
    refine X_getR (tk_X9_cost.at 12 rfl) fl_x9_12 hI.P0 rfl rfl ?_
    refine X_iload_n (tk_X9_cost.at 13 rfl) rfl ?_
    refine X_cV1i (lv2 := [(0, _), (1, _)]) (tk_X9_cost.at 14 rfl) mv_X2_ropeOf lk_x9_85 np_X2_ropeOf hI.D.1 (by decide) rfl (Nat.le_of_ble_eq_true rfl) (Nat.le_of_ble_eq_true rfl) rfl (c2_ropeOf (p := b0) hI.D hw hr eb (fun r' i' g => ?_) (fun g => absurd hon (g r0 i0)))
    rw [show r' = r0 from (hw.un g hon).1]
    refine X_istore (lv' := [(0, _), (1, _), (2, _), (3, _), (4, _)]) (tk_X9_cost.at 15 rfl) (by decide) rfl rfl ?_
    refine X_aload_n (tk_X9_cost.at 16 rfl) rfl ?_
    refine X_getR (tk_X9_cost.at 17 rfl) fl_x9_12 hI.P0 rfl rfl ?_
    refine X_iload (tk_X9_cost.at 18 rfl) rfl ?_
    refine X_aload_n (tk_X9_cost.at 19 rfl) rfl ?_
    refine X_getR (tk_X9_cost.at 20 rfl) fl_x9_12 hI.P0 rfl rfl ?_
    refine X_iload_n (tk_X9_cost.at 21 rfl) rfl ?_
    refine X_cV1i (lv2 := [(0, _), (1, _)]) (tk_X9_cost.at 22 rfl) mv_X2_placeOf lk_x9_88 np_X2_placeOf hI.D.1 (by decide) rfl (Nat.le_of_ble_eq_true rfl) (Nat.le_of_ble_eq_true rfl) rfl (c2_placeOf (p := b0) hI.D hw hr eb (fun r' i' g => ?_) (fun g => absurd hon (g r0 i0)))
    rw [show i' = i0 from (hw.un g hon).2]
    refine X_iload_n (tk_X9_cost.at 23 rfl) rfl ?_
    refine X_cV3i (lv2 := [(0, _), (1, _), (2, _), (3, _)]) (tk_X9_cost.at 24 rfl) mv_X2_isHeld lk_x9_173 np_X2_isHeld hI.D.1 (by decide) rfl (Nat.le_of_ble_eq_true rfl) (Nat.le_of_ble_eq_true rfl) rfl (c2_isHeld (rn := r0) (f := i0) (c := x0) hI.D hw hr (pz (pl r0 rfl) (by omega)) (by omega) (pz (pl i0 rfl) (by omega)) (by omega) ex (by omega) (fun h42 => ?_) (fun h42 => ?_))
    · refine X_if_eq (tgt := 52) (tk_X9_cost.at 25 rfl) (by decide) (fun h => absurd h (by decide)) (fun _ => ?_)
      refine X_iconst (tk_X9_cost.at 26 rfl) ci_0 ?_
      refine X_goto (tgt := 61) (tk_X9_cost.at 27 rfl) (by decide) ?_
      refine X_ireturn (tk_X9_cost.at 32 rfl) rfl rfl ?_
      have ecst : ∀ r i x, cst N 0 r i x = if pull N (nv (N (84 + 9 * r + i))) x ≤ hs N 0 r i (mny N r) then 0 else lwo N r := fun r i x => rfl
      refine n10_cost (N := N) hI.M hN hw (by first | exact hI.l0 | (rw [su_ne (by omega)]; exact hI.l0)) (by intros; first | (exfalso; grind [In, On, nI_eq]) | exact ⟨by grind [In, On, nI_eq], fin_s hI (Fs.rf hI) (Sq.rf _ _) rfl⟩) (by intros; first | (exfalso; grind [In, On, nI_eq]) | exact ⟨by grind [In, On, nI_eq], fin_s hI (Fs.rf hI) (Sq.rf _ _) rfl⟩) (by intros; first | (exfalso; grind [In, On, nI_eq]) | exact ⟨by grind [In, On, nI_eq], fin_s hI (Fs.rf hI) (Sq.rf _ _) rfl⟩)
    · refine X_if_eq (tgt := 52) (tk_X9_cost.at 25 rfl) (by decide) (fun _ => ?_) (fun h => absurd h (by decide))
      refine X_aload_n (tk_X9_cost.at 28 rfl) rfl ?_
      refine X_getR (tk_X9_cost.at 29 rfl) fl_x9_12 hI.P0 rfl rfl ?_
      refine X_iload (tk_X9_cost.at 30 rfl) rfl ?_
      refine X_cV1i (lv2 := [(0, _), (1, _)]) (tk_X9_cost.at 31 rfl) mv_X2_lostWithOne lk_x9_177 np_X2_lostWithOne hI.D.1 (by decide) rfl (Nat.le_of_ble_eq_true rfl) (Nat.le_of_ble_eq_true rfl) rfl (c2_lostWithOne (rn := r0) hI.D hw hr (pz (pl r0 rfl) (by omega)) (by omega) ?_)
      refine X_ireturn (tk_X9_cost.at 32 rfl) rfl rfl ?_
      have ecst : ∀ r i x, cst N 0 r i x = if pull N (nv (N (84 + 9 * r + i))) x ≤ hs N 0 r i (mny N r) then 0 else lwo N r := fun r i x => rfl
      refine n10_cost (N := N) hI.M hN hw (by first | exact hI.l0 | (rw [su_ne (by omega)]; exact hI.l0)) (by intros; first | (exfalso; grind [In, On, nI_eq]) | exact ⟨by grind [In, On, nI_eq], fin_s hI (Fs.rf hI) (Sq.rf _ _) rfl⟩) (by intros; first | (exfalso; grind [In, On, nI_eq]) | exact ⟨by grind [In, On, nI_eq], fin_s hI (Fs.rf hI) (Sq.rf _ _) rfl⟩) (by intros; first | (exfalso; grind [In, On, nI_eq]) | exact ⟨by grind [In, On, nI_eq], fin_s hI (Fs.rf hI) (Sq.rf _ _) rfl⟩)
set_option maxHeartbeats 1000000 in
theorem t_told {G : Gl} {d : Nat} {S : Sh} {μ : Mu} {P o t q im : Nat} {kp : Option Nat} {k : Int32} (hI : Inv G S P o kp t q im μ) : X G mi_X9_told (d + 60) 0 0 [(0, .ref P), (1, .int k)] [] S μ (qi (fun an S1 μ1 => X G mi_X10_told (d + 60) 0 0 [(0, .ref o), (1, .int k)] [] S1 μ1 (qi (Eq2 G P o im an)))) := by
  obtain ⟨N, hN⟩ : ∃ N, μ (o + 1) = N := ⟨_, rfl⟩
  have hw : WF N := hN ▸ hI.wf
  have hr : repD μ (P + 1) N := hN ▸ hI.rep
  have lo := hI.lo
  have b1 := hw.n1.2
  have b2 := hw.n2.2
  have b3 := hw.n3.2
  have b4 := hw.n4.2
  have b5 := hw.n5.2
  have b6 := hw.n6.2
  have hun : ∀ r i r' i' p, On N r i p → On N r' i' p → r = r' ∧ i = i' := fun _ _ _ _ _ h1 h2 => hw.un h1 h2
  have hlu : ∀ k k', k < nv (N 4) → k' < nv (N 4) → N (134 + k) = N (134 + k') → k = k' := fun _ _ h1 h2 e => hw.lu h1 h2 e
  have hnz : nI 0 = 0 := rfl
  refine X_iload_n (tk_X9_told.at 0 rfl) rfl ?_
  refine X_iconst (tk_X9_told.at 1 rfl) ci_1 ?_
  refine X_icmp_lt (tgt := 19) (tk_X9_told.at 2 rfl) (by decide) (fun c1 => ?_) (fun c1 => ?_)
  · refine X_aload_n (tk_X9_told.at 11 rfl) rfl ?_
    refine X_ldc (tk_X9_told.at 12 rfl) kn_x9_76 ?_
    refine X_cV1i (lv2 := [(0, _), (1, _)]) (tk_X9_told.at 13 rfl) mv_X9_fail lk_x9_77 np_X9_fail hI.P0 (by decide) rfl (Nat.le_of_ble_eq_true rfl) (Nat.le_of_ble_eq_true rfl) rfl (c9_fail (k := 1) hI.P0 hI.E (by decide) (by decide) ?_)
    refine X_ireturn (tk_X9_told.at 14 rfl) rfl rfl ?_
    have rg5 : ∀ f, f ≤ 5 → 0 ≤ nI f ∧ nI f ≤ 5 := fun f h => rng rfl h (by decide)
    have rg1 : ∀ f, 1 ≤ f → f ≤ 5 → 1 ≤ nI f := fun f h1 h2 => (nI_leI (a := 1) (by decide) (by omega)).mpr h1
    refine n10_told (N := N) hI.M (by rw [su_ne (by omega)]; exact hN) (by intros; first | (exfalso; grind [In, On, nI_eq]) | exact ⟨by grind [In, On, nI_eq], fin_e hI (Fs.rf hI) (Sq.rf _ _) rfl⟩) (by intros; first | (exfalso; grind [In, On, nI_eq]) | exact ⟨by grind [In, On, nI_eq], fin_e hI (Fs.rf hI) (Sq.rf _ _) rfl⟩)
  · refine X_iload_n (tk_X9_told.at 3 rfl) rfl ?_
    refine X_iconst (tk_X9_told.at 4 rfl) ci_5 ?_
    refine X_icmp_gt (tgt := 19) (tk_X9_told.at 5 rfl) (by decide) (fun c2 => ?_) (fun c2 => ?_)
    · refine X_aload_n (tk_X9_told.at 11 rfl) rfl ?_
      refine X_ldc (tk_X9_told.at 12 rfl) kn_x9_76 ?_
      refine X_cV1i (lv2 := [(0, _), (1, _)]) (tk_X9_told.at 13 rfl) mv_X9_fail lk_x9_77 np_X9_fail hI.P0 (by decide) rfl (Nat.le_of_ble_eq_true rfl) (Nat.le_of_ble_eq_true rfl) rfl (c9_fail (k := 1) hI.P0 hI.E (by decide) (by decide) ?_)
      refine X_ireturn (tk_X9_told.at 14 rfl) rfl rfl ?_
      have rg5 : ∀ f, f ≤ 5 → 0 ≤ nI f ∧ nI f ≤ 5 := fun f h => rng rfl h (by decide)
      have rg1 : ∀ f, 1 ≤ f → f ≤ 5 → 1 ≤ nI f := fun f h1 h2 => (nI_leI (a := 1) (by decide) (by omega)).mpr h1
      refine n10_told (N := N) hI.M (by rw [su_ne (by omega)]; exact hN) (by intros; first | (exfalso; grind [In, On, nI_eq]) | exact ⟨by grind [In, On, nI_eq], fin_e hI (Fs.rf hI) (Sq.rf _ _) rfl⟩) (by intros; first | (exfalso; grind [In, On, nI_eq]) | exact ⟨by grind [In, On, nI_eq], fin_e hI (Fs.rf hI) (Sq.rf _ _) rfl⟩)
    · have hcf : 0 ≤ k ∧ k ≤ 5 := by grind
      obtain ⟨f, ef, hf⟩ : ∃ f, k = nI f ∧ f ≤ 5 := ⟨nv k, (le_lits (a := 0) (b := 5) (by decide) hcf.1 hcf.2 (by decide)).1, (le_lits (a := 0) (b := 5) (by decide) hcf.1 hcf.2 (by decide)).2.2⟩
      refine X_iload_n (tk_X9_told.at 6 rfl) rfl ?_
      refine X_aload_n (tk_X9_told.at 7 rfl) rfl ?_
      refine X_getR (tk_X9_told.at 8 rfl) fl_x9_50 hI.P0 rfl rfl ?_
      refine X_alen (tk_X9_told.at 9 rfl) hI.E ?_
      refine X_icmp_ltN (tgt := 26) (tk_X9_told.at 10 rfl) (by decide) ef rfl (by omega) (by omega) (fun c3 => ?_) (fun c3 => (by exfalso; omega))
      refine X_aload_n (tk_X9_told.at 15 rfl) rfl ?_
      refine X_getR (tk_X9_told.at 16 rfl) fl_x9_50 hI.P0 rfl rfl ?_
      refine X_iload_n (tk_X9_told.at 17 rfl) rfl ?_
      refine X_ialdN (k := f) (tk_X9_told.at 18 rfl) hI.E ef (by omega) (by decide) ?_
      refine X_ireturn (tk_X9_told.at 19 rfl) rfl rfl ?_
      have herr := hI.2.1.2.1
      have e1 : 1 ≤ f := by
        rcases Nat.eq_zero_or_pos f with e0 | e0
        · subst e0; exact absurd c1 (by rw [ef]; decide)
        · exact e0
      refine n10_told (N := N) hI.M hN (by intros; first | (exfalso; grind [In, On, nI_eq]) | exact ⟨by grind [In, On, nI_eq], fin_s hI (Fs.rf hI) (Sq.rf _ _) rfl⟩) (by intros; first | (exfalso; grind [In, On, nI_eq]) | exact ⟨by grind [In, On, nI_eq], fin_s hI (Fs.rf hI) (Sq.rf _ _) rfl⟩)
set_option maxHeartbeats 1000000 in
theorem t_trace {G : Gl} {d : Nat} {S : Sh} {μ : Mu} {P o t q im : Nat} {kp : Option Nat} {i : Int32} (hI : Inv G S P o kp t q im μ) : X G mi_X9_trace (d + 60) 0 0 [(0, .ref P), (1, .int i)] [] S μ (qi (fun an S1 μ1 => X G mi_X10_trace (d + 60) 0 0 [(0, .ref o), (1, .int i)] [] S1 μ1 (qi (Eq2 G P o im an)))) := by
  obtain ⟨N, hN⟩ : ∃ N, μ (o + 1) = N := ⟨_, rfl⟩
  have hw : WF N := hN ▸ hI.wf
  have hr : repD μ (P + 1) N := hN ▸ hI.rep
  have lo := hI.lo
  have b1 := hw.n1.2
  have b2 := hw.n2.2
  have b3 := hw.n3.2
  have b4 := hw.n4.2
  have b5 := hw.n5.2
  have b6 := hw.n6.2
  have hun : ∀ r i r' i' p, On N r i p → On N r' i' p → r = r' ∧ i = i' := fun _ _ _ _ _ h1 h2 => hw.un h1 h2
  have hlu : ∀ k k', k < nv (N 4) → k' < nv (N 4) → N (134 + k) = N (134 + k') → k = k' := fun _ _ h1 h2 e => hw.lu h1 h2 e
  have hnz : nI 0 = 0 := rfl
  obtain ⟨tc, ht0, ht1, ht2, ht3⟩ := hI.2.1.2.2.2.1
  refine X_iload_n (tk_X9_trace.at 0 rfl) rfl ?_
  refine X_if_lt (tgt := 18) (tk_X9_trace.at 1 rfl) (by decide) (fun c1 => ?_) (fun c1 => ?_)
  · refine X_aload_n (tk_X9_trace.at 8 rfl) rfl ?_
    refine X_ldc (tk_X9_trace.at 9 rfl) kn_x9_99 ?_
    refine X_cV1i (lv2 := [(0, _), (1, _)]) (tk_X9_trace.at 10 rfl) mv_X9_fail lk_x9_77 np_X9_fail hI.P0 (by decide) rfl (Nat.le_of_ble_eq_true rfl) (Nat.le_of_ble_eq_true rfl) rfl (c9_fail (k := 2) hI.P0 hI.E (by decide) (by decide) ?_)
    refine X_ireturn (tk_X9_trace.at 11 rfl) rfl rfl ?_
    have hno : ¬ In i tc := fun ⟨f, hf, ef⟩ => nI_pos (n := f) (by omega) (by rw [← ef]; exact c1)
    refine n10_trace (N := N) (t := tc) hI.M (by rw [su_ne (by omega)]; exact hN) (by rw [su_ne (by omega)]; exact ht2) ht0 (fun _ => ⟨rfl, fin_e hI (Fs.rf hI) (Sq.rf _ _) rfl⟩) (fun j hj ej => absurd ⟨j, hj, ej⟩ hno)
  · refine X_iload_n (tk_X9_trace.at 2 rfl) rfl ?_
    refine X_aload_n (tk_X9_trace.at 3 rfl) rfl ?_
    refine X_getR (tk_X9_trace.at 4 rfl) fl_x9_40 hI.P0 rfl rfl ?_
    refine X_getR (tk_X9_trace.at 5 rfl) fl_x9_300 hI.V.1 rfl rfl ?_
    refine X_cV0i (lv2 := [(0, _)]) (tk_X9_trace.at 6 rfl) mv_X6_size lk_x9_142 np_X6_size hI.V.2.1 (by decide) rfl (Nat.le_of_ble_eq_true rfl) (Nat.le_of_ble_eq_true rfl) rfl (c6_size hI.V.2 ht1 ht0 (by decide) ?_)
    refine X_icmp_lt (tgt := 25) (tk_X9_trace.at 7 rfl) (by decide) (fun c2 => ?_) (fun c2 => ?_)
    · obtain ⟨f, hf, ef⟩ : ∃ f, f < tc ∧ i = nI f := (in_or i (n := tc) (by omega)).elim id (fun g => by exfalso; rcases g with g | g; exact c1 g; exact absurd c2 (Int32.not_lt.mpr g))
      refine X_aload_n (tk_X9_trace.at 12 rfl) rfl ?_
      refine X_getR (tk_X9_trace.at 13 rfl) fl_x9_40 hI.P0 rfl rfl ?_
      refine X_getR (tk_X9_trace.at 14 rfl) fl_x9_300 hI.V.1 rfl rfl ?_
      refine X_iload_n (tk_X9_trace.at 15 rfl) rfl ?_
      refine X_cV1i (lv2 := [(0, _), (1, _)]) (tk_X9_trace.at 16 rfl) mv_X6_at lk_x9_151 np_X6_at hI.V.2.1 (by decide) rfl (Nat.le_of_ble_eq_true rfl) (Nat.le_of_ble_eq_true rfl) rfl (c6_atN (j := f) (v := μ (P + 85 + 2) f) hI.V.2 ht1 ht0 (by decide) ef hf rfl ?_)
      refine X_ireturn (tk_X9_trace.at 17 rfl) rfl rfl ?_
      refine n10_trace (N := N) (t := tc) hI.M hN ht2 ht0 (fun g => absurd ⟨f, hf, ef⟩ g) (fun j hj ej => ⟨by rw [nI_j ej ef (by omega) (by omega)]; exact (ht3 f hf).symm, fin_s hI (Fs.rf hI) (Sq.rf _ _) rfl⟩)
    · refine X_aload_n (tk_X9_trace.at 8 rfl) rfl ?_
      refine X_ldc (tk_X9_trace.at 9 rfl) kn_x9_99 ?_
      refine X_cV1i (lv2 := [(0, _), (1, _)]) (tk_X9_trace.at 10 rfl) mv_X9_fail lk_x9_77 np_X9_fail hI.P0 (by decide) rfl (Nat.le_of_ble_eq_true rfl) (Nat.le_of_ble_eq_true rfl) rfl (c9_fail (k := 2) hI.P0 hI.E (by decide) (by decide) ?_)
      refine X_ireturn (tk_X9_trace.at 11 rfl) rfl rfl ?_
      have hno : ¬ In i tc := fun ⟨f, hf, ef⟩ => c2 (by rw [ef]; exact nI_lt hf (by omega))
      refine n10_trace (N := N) (t := tc) hI.M (by rw [su_ne (by omega)]; exact hN) (by rw [su_ne (by omega)]; exact ht2) ht0 (fun _ => ⟨rfl, fin_e hI (Fs.rf hI) (Sq.rf _ _) rfl⟩) (fun j hj ej => absurd ⟨j, hj, ej⟩ hno)
set_option maxHeartbeats 1000000 in
theorem t_count {G : Gl} {d : Nat} {S : Sh} {μ : Mu} {P o t q im : Nat} {kp : Option Nat} {x : Int32} (hI : Inv G S P o kp t q im μ) : X G mi_X9_count (d + 60) 0 0 [(0, .ref P), (1, .int x)] [] S μ (qi (fun an S1 μ1 => X G mi_X10_count (d + 60) 0 0 [(0, .ref o), (1, .int x)] [] S1 μ1 (qi (Eq2 G P o im an)))) := by
  obtain ⟨N, hN⟩ : ∃ N, μ (o + 1) = N := ⟨_, rfl⟩
  have hw : WF N := hN ▸ hI.wf
  have hr : repD μ (P + 1) N := hN ▸ hI.rep
  have lo := hI.lo
  have b1 := hw.n1.2
  have b2 := hw.n2.2
  have b3 := hw.n3.2
  have b4 := hw.n4.2
  have b5 := hw.n5.2
  have b6 := hw.n6.2
  have hun : ∀ r i r' i' p, On N r i p → On N r' i' p → r = r' ∧ i = i' := fun _ _ _ _ _ h1 h2 => hw.un h1 h2
  have hlu : ∀ k k', k < nv (N 4) → k' < nv (N 4) → N (134 + k) = N (134 + k') → k = k' := fun _ _ h1 h2 e => hw.lu h1 h2 e
  have hnz : nI 0 = 0 := rfl
  obtain ⟨tc, ht0, ht1, ht2, ht3⟩ := hI.2.1.2.2.2.1
  refine X_iload_n (tk_X9_count.at 0 rfl) rfl ?_
  by_cases hcf : 0 ≤ x ∧ x ≤ 8
  · obtain ⟨f, ef, hf⟩ : ∃ f, x = nI f ∧ f ≤ 8 := ⟨nv x, (le_lits (a := 0) (b := 8) (by decide) hcf.1 hcf.2 (by decide)).1, (le_lits (a := 0) (b := 8) (by decide) hcf.1 hcf.2 (by decide)).2.2⟩
    rcases (show f = 0 ∨ f = 1 ∨ f = 2 ∨ f = 3 ∨ f = 4 ∨ f = 5 ∨ f = 6 ∨ f = 7 ∨ f = 8 from by omega) with e1 | e1 | e1 | e1 | e1 | e1 | e1 | e1 | e1
    · refine X_tableInN (n := 0) (tgt := 52) (tk_X9_count.at 1 rfl) (pz ef e1) (by decide) (by decide) (by decide) rfl (by decide) ?_
      refine X_aload_n (tk_X9_count.at 2 rfl) rfl ?_
      refine X_getR (tk_X9_count.at 3 rfl) fl_x9_12 hI.P0 rfl rfl ?_
      refine X_getI (tk_X9_count.at 4 rfl) fl_x9_124 hI.D.1 rfl ?_
      refine X_ireturn (tk_X9_count.at 5 rfl) rfl rfl ?_
      have w1 := hw.n1.1
      have w2 := hw.n2.1
      have w3 := hw.n3.1
      have w4 := hw.n4.1
      have w5 := hw.n5.1
      have w6 := hw.n6.1
      have r0 := hr.1.1
      have r7 := hr.1.2
      have z22 := ht2
      refine n10_count (N := N) hI.M hN (by intros; first | (exfalso; grind [In, On, nI_eq]) | exact ⟨by grind [In, On, nI_eq], fin_s hI (Fs.rf hI) (Sq.rf _ _) rfl⟩) (by intros; first | (exfalso; grind [In, On, nI_eq]) | exact ⟨by grind [In, On, nI_eq], fin_s hI (Fs.rf hI) (Sq.rf _ _) rfl⟩) (by intros; first | (exfalso; grind [In, On, nI_eq]) | exact ⟨by grind [In, On, nI_eq], fin_s hI (Fs.rf hI) (Sq.rf _ _) rfl⟩) (by intros; first | (exfalso; grind [In, On, nI_eq]) | exact ⟨by grind [In, On, nI_eq], fin_s hI (Fs.rf hI) (Sq.rf _ _) rfl⟩)
    · refine X_tableInN (n := 1) (tgt := 60) (tk_X9_count.at 1 rfl) (pz ef e1) (by decide) (by decide) (by decide) rfl (by decide) ?_
      refine X_aload_n (tk_X9_count.at 6 rfl) rfl ?_
      refine X_getR (tk_X9_count.at 7 rfl) fl_x9_12 hI.P0 rfl rfl ?_
      refine X_getR (tk_X9_count.at 8 rfl) fl_x9_62 hI.D.1 rfl rfl ?_
      refine X_cV0i (lv2 := [(0, _)]) (tk_X9_count.at 9 rfl) mv_X3_size lk_x9_326 np_X3_size hI.D.2.1.1 (by decide) rfl (Nat.le_of_ble_eq_true rfl) (Nat.le_of_ble_eq_true rfl) rfl (d_psz hI.D hw hr ?_)
      refine X_ireturn (tk_X9_count.at 10 rfl) rfl rfl ?_
      have w1 := hw.n1.1
      have w2 := hw.n2.1
      have w3 := hw.n3.1
      have w4 := hw.n4.1
      have w5 := hw.n5.1
      have w6 := hw.n6.1
      have r0 := hr.1.1
      have r7 := hr.1.2
      have z22 := ht2
      refine n10_count (N := N) hI.M hN (by intros; first | (exfalso; grind [In, On, nI_eq]) | exact ⟨by grind [In, On, nI_eq], fin_s hI (Fs.rf hI) (Sq.rf _ _) rfl⟩) (by intros; first | (exfalso; grind [In, On, nI_eq]) | exact ⟨by grind [In, On, nI_eq], fin_s hI (Fs.rf hI) (Sq.rf _ _) rfl⟩) (by intros; first | (exfalso; grind [In, On, nI_eq]) | exact ⟨by grind [In, On, nI_eq], fin_s hI (Fs.rf hI) (Sq.rf _ _) rfl⟩) (by intros; first | (exfalso; grind [In, On, nI_eq]) | exact ⟨by grind [In, On, nI_eq], fin_s hI (Fs.rf hI) (Sq.rf _ _) rfl⟩)
    · refine X_tableInN (n := 2) (tgt := 71) (tk_X9_count.at 1 rfl) (pz ef e1) (by decide) (by decide) (by decide) rfl (by decide) ?_
      refine X_aload_n (tk_X9_count.at 11 rfl) rfl ?_
      refine X_getR (tk_X9_count.at 12 rfl) fl_x9_12 hI.P0 rfl rfl ?_
      refine X_getR (tk_X9_count.at 13 rfl) fl_x9_118 hI.D.1 rfl rfl ?_
      refine X_cV0i (lv2 := [(0, _)]) (tk_X9_count.at 14 rfl) mv_X3_size lk_x9_326 np_X3_size hI.D.2.2.1.1 (by decide) rfl (Nat.le_of_ble_eq_true rfl) (Nat.le_of_ble_eq_true rfl) rfl (d_csz hI.D hw hr ?_)
      refine X_ireturn (tk_X9_count.at 15 rfl) rfl rfl ?_
      have w1 := hw.n1.1
      have w2 := hw.n2.1
      have w3 := hw.n3.1
      have w4 := hw.n4.1
      have w5 := hw.n5.1
      have w6 := hw.n6.1
      have r0 := hr.1.1
      have r7 := hr.1.2
      have z22 := ht2
      refine n10_count (N := N) hI.M hN (by intros; first | (exfalso; grind [In, On, nI_eq]) | exact ⟨by grind [In, On, nI_eq], fin_s hI (Fs.rf hI) (Sq.rf _ _) rfl⟩) (by intros; first | (exfalso; grind [In, On, nI_eq]) | exact ⟨by grind [In, On, nI_eq], fin_s hI (Fs.rf hI) (Sq.rf _ _) rfl⟩) (by intros; first | (exfalso; grind [In, On, nI_eq]) | exact ⟨by grind [In, On, nI_eq], fin_s hI (Fs.rf hI) (Sq.rf _ _) rfl⟩) (by intros; first | (exfalso; grind [In, On, nI_eq]) | exact ⟨by grind [In, On, nI_eq], fin_s hI (Fs.rf hI) (Sq.rf _ _) rfl⟩)
    · refine X_tableInN (n := 3) (tgt := 82) (tk_X9_count.at 1 rfl) (pz ef e1) (by decide) (by decide) (by decide) rfl (by decide) ?_
      refine X_aload_n (tk_X9_count.at 16 rfl) rfl ?_
      refine X_getR (tk_X9_count.at 17 rfl) fl_x9_12 hI.P0 rfl rfl ?_
      refine X_getR (tk_X9_count.at 18 rfl) fl_x9_127 hI.D.1 rfl rfl ?_
      refine X_cV0i (lv2 := [(0, _)]) (tk_X9_count.at 19 rfl) mv_X3_size lk_x9_326 np_X3_size hI.D.2.2.2.1.1 (by decide) rfl (Nat.le_of_ble_eq_true rfl) (Nat.le_of_ble_eq_true rfl) rfl (d_osz hI.D hw hr ?_)
      refine X_ireturn (tk_X9_count.at 20 rfl) rfl rfl ?_
      have w1 := hw.n1.1
      have w2 := hw.n2.1
      have w3 := hw.n3.1
      have w4 := hw.n4.1
      have w5 := hw.n5.1
      have w6 := hw.n6.1
      have r0 := hr.1.1
      have r7 := hr.1.2
      have z22 := ht2
      refine n10_count (N := N) hI.M hN (by intros; first | (exfalso; grind [In, On, nI_eq]) | exact ⟨by grind [In, On, nI_eq], fin_s hI (Fs.rf hI) (Sq.rf _ _) rfl⟩) (by intros; first | (exfalso; grind [In, On, nI_eq]) | exact ⟨by grind [In, On, nI_eq], fin_s hI (Fs.rf hI) (Sq.rf _ _) rfl⟩) (by intros; first | (exfalso; grind [In, On, nI_eq]) | exact ⟨by grind [In, On, nI_eq], fin_s hI (Fs.rf hI) (Sq.rf _ _) rfl⟩) (by intros; first | (exfalso; grind [In, On, nI_eq]) | exact ⟨by grind [In, On, nI_eq], fin_s hI (Fs.rf hI) (Sq.rf _ _) rfl⟩)
    · refine X_tableInN (n := 4) (tgt := 93) (tk_X9_count.at 1 rfl) (pz ef e1) (by decide) (by decide) (by decide) rfl (by decide) ?_
      refine X_aload_n (tk_X9_count.at 21 rfl) rfl ?_
      refine X_getR (tk_X9_count.at 22 rfl) fl_x9_12 hI.P0 rfl rfl ?_
      refine X_getR (tk_X9_count.at 23 rfl) fl_x9_146 hI.D.1 rfl rfl ?_
      refine X_cV0i (lv2 := [(0, _)]) (tk_X9_count.at 24 rfl) mv_X6_size lk_x9_142 np_X6_size hI.D.2.2.2.2.1.1 (by decide) rfl (Nat.le_of_ble_eq_true rfl) (Nat.le_of_ble_eq_true rfl) rfl (d_lsz hI.D hw hr ?_)
      refine X_ireturn (tk_X9_count.at 25 rfl) rfl rfl ?_
      have w1 := hw.n1.1
      have w2 := hw.n2.1
      have w3 := hw.n3.1
      have w4 := hw.n4.1
      have w5 := hw.n5.1
      have w6 := hw.n6.1
      have r0 := hr.1.1
      have r7 := hr.1.2
      have z22 := ht2
      refine n10_count (N := N) hI.M hN (by intros; first | (exfalso; grind [In, On, nI_eq]) | exact ⟨by grind [In, On, nI_eq], fin_s hI (Fs.rf hI) (Sq.rf _ _) rfl⟩) (by intros; first | (exfalso; grind [In, On, nI_eq]) | exact ⟨by grind [In, On, nI_eq], fin_s hI (Fs.rf hI) (Sq.rf _ _) rfl⟩) (by intros; first | (exfalso; grind [In, On, nI_eq]) | exact ⟨by grind [In, On, nI_eq], fin_s hI (Fs.rf hI) (Sq.rf _ _) rfl⟩) (by intros; first | (exfalso; grind [In, On, nI_eq]) | exact ⟨by grind [In, On, nI_eq], fin_s hI (Fs.rf hI) (Sq.rf _ _) rfl⟩)
    · refine X_tableInN (n := 5) (tgt := 104) (tk_X9_count.at 1 rfl) (pz ef e1) (by decide) (by decide) (by decide) rfl (by decide) ?_
      refine X_aload_n (tk_X9_count.at 26 rfl) rfl ?_
      refine X_getR (tk_X9_count.at 27 rfl) fl_x9_12 hI.P0 rfl rfl ?_
      refine X_getR (tk_X9_count.at 28 rfl) fl_x9_197 hI.D.1 rfl rfl ?_
      refine X_cV0i (lv2 := [(0, _)]) (tk_X9_count.at 29 rfl) mv_X6_size lk_x9_142 np_X6_size hI.D.2.2.2.2.2.1.1 (by decide) rfl (Nat.le_of_ble_eq_true rfl) (Nat.le_of_ble_eq_true rfl) rfl (d_tpsz hI.D hw hr ?_)
      refine X_ireturn (tk_X9_count.at 30 rfl) rfl rfl ?_
      have w1 := hw.n1.1
      have w2 := hw.n2.1
      have w3 := hw.n3.1
      have w4 := hw.n4.1
      have w5 := hw.n5.1
      have w6 := hw.n6.1
      have r0 := hr.1.1
      have r7 := hr.1.2
      have z22 := ht2
      refine n10_count (N := N) hI.M hN (by intros; first | (exfalso; grind [In, On, nI_eq]) | exact ⟨by grind [In, On, nI_eq], fin_s hI (Fs.rf hI) (Sq.rf _ _) rfl⟩) (by intros; first | (exfalso; grind [In, On, nI_eq]) | exact ⟨by grind [In, On, nI_eq], fin_s hI (Fs.rf hI) (Sq.rf _ _) rfl⟩) (by intros; first | (exfalso; grind [In, On, nI_eq]) | exact ⟨by grind [In, On, nI_eq], fin_s hI (Fs.rf hI) (Sq.rf _ _) rfl⟩) (by intros; first | (exfalso; grind [In, On, nI_eq]) | exact ⟨by grind [In, On, nI_eq], fin_s hI (Fs.rf hI) (Sq.rf _ _) rfl⟩)
    · refine X_tableInN (n := 6) (tgt := 115) (tk_X9_count.at 1 rfl) (pz ef e1) (by decide) (by decide) (by decide) rfl (by decide) ?_
      refine X_aload_n (tk_X9_count.at 31 rfl) rfl ?_
      refine X_getR (tk_X9_count.at 32 rfl) fl_x9_12 hI.P0 rfl rfl ?_
      refine X_getR (tk_X9_count.at 33 rfl) fl_x9_320 hI.D.1 rfl rfl ?_
      refine X_cV0i (lv2 := [(0, _)]) (tk_X9_count.at 34 rfl) mv_X6_size lk_x9_142 np_X6_size hI.D.2.2.2.2.2.2.1.1 (by decide) rfl (Nat.le_of_ble_eq_true rfl) (Nat.le_of_ble_eq_true rfl) rfl (d_wtsz hI.D hw hr ?_)
      refine X_ireturn (tk_X9_count.at 35 rfl) rfl rfl ?_
      have w1 := hw.n1.1
      have w2 := hw.n2.1
      have w3 := hw.n3.1
      have w4 := hw.n4.1
      have w5 := hw.n5.1
      have w6 := hw.n6.1
      have r0 := hr.1.1
      have r7 := hr.1.2
      have z22 := ht2
      refine n10_count (N := N) hI.M hN (by intros; first | (exfalso; grind [In, On, nI_eq]) | exact ⟨by grind [In, On, nI_eq], fin_s hI (Fs.rf hI) (Sq.rf _ _) rfl⟩) (by intros; first | (exfalso; grind [In, On, nI_eq]) | exact ⟨by grind [In, On, nI_eq], fin_s hI (Fs.rf hI) (Sq.rf _ _) rfl⟩) (by intros; first | (exfalso; grind [In, On, nI_eq]) | exact ⟨by grind [In, On, nI_eq], fin_s hI (Fs.rf hI) (Sq.rf _ _) rfl⟩) (by intros; first | (exfalso; grind [In, On, nI_eq]) | exact ⟨by grind [In, On, nI_eq], fin_s hI (Fs.rf hI) (Sq.rf _ _) rfl⟩)
    · refine X_tableInN (n := 7) (tgt := 126) (tk_X9_count.at 1 rfl) (pz ef e1) (by decide) (by decide) (by decide) rfl (by decide) ?_
      refine X_aload_n (tk_X9_count.at 36 rfl) rfl ?_
      refine X_getR (tk_X9_count.at 37 rfl) fl_x9_40 hI.P0 rfl rfl ?_
      refine X_getR (tk_X9_count.at 38 rfl) fl_x9_300 hI.V.1 rfl rfl ?_
      refine X_cV0i (lv2 := [(0, _)]) (tk_X9_count.at 39 rfl) mv_X6_size lk_x9_142 np_X6_size hI.V.2.1 (by decide) rfl (Nat.le_of_ble_eq_true rfl) (Nat.le_of_ble_eq_true rfl) rfl (c6_size hI.V.2 ht1 ht0 (by decide) ?_)
      refine X_ireturn (tk_X9_count.at 40 rfl) rfl rfl ?_
      have w1 := hw.n1.1
      have w2 := hw.n2.1
      have w3 := hw.n3.1
      have w4 := hw.n4.1
      have w5 := hw.n5.1
      have w6 := hw.n6.1
      have r0 := hr.1.1
      have r7 := hr.1.2
      have z22 := ht2
      refine n10_count (N := N) hI.M hN (by intros; first | (exfalso; grind [In, On, nI_eq]) | exact ⟨by grind [In, On, nI_eq], fin_s hI (Fs.rf hI) (Sq.rf _ _) rfl⟩) (by intros; first | (exfalso; grind [In, On, nI_eq]) | exact ⟨by grind [In, On, nI_eq], fin_s hI (Fs.rf hI) (Sq.rf _ _) rfl⟩) (by intros; first | (exfalso; grind [In, On, nI_eq]) | exact ⟨by grind [In, On, nI_eq], fin_s hI (Fs.rf hI) (Sq.rf _ _) rfl⟩) (by intros; first | (exfalso; grind [In, On, nI_eq]) | exact ⟨by grind [In, On, nI_eq], fin_s hI (Fs.rf hI) (Sq.rf _ _) rfl⟩)
    · refine X_tableInN (n := 8) (tgt := 137) (tk_X9_count.at 1 rfl) (pz ef e1) (by decide) (by decide) (by decide) rfl (by decide) ?_
      refine X_aload_n (tk_X9_count.at 41 rfl) rfl ?_
      refine X_getR (tk_X9_count.at 42 rfl) fl_x9_12 hI.P0 rfl rfl ?_
      refine X_getI (tk_X9_count.at 43 rfl) fl_x9_293 hI.D.1 rfl ?_
      refine X_ireturn (tk_X9_count.at 44 rfl) rfl rfl ?_
      have w1 := hw.n1.1
      have w2 := hw.n2.1
      have w3 := hw.n3.1
      have w4 := hw.n4.1
      have w5 := hw.n5.1
      have w6 := hw.n6.1
      have r0 := hr.1.1
      have r7 := hr.1.2
      have z22 := ht2
      refine n10_count (N := N) hI.M hN (by intros; first | (exfalso; grind [In, On, nI_eq]) | exact ⟨by grind [In, On, nI_eq], fin_s hI (Fs.rf hI) (Sq.rf _ _) rfl⟩) (by intros; first | (exfalso; grind [In, On, nI_eq]) | exact ⟨by grind [In, On, nI_eq], fin_s hI (Fs.rf hI) (Sq.rf _ _) rfl⟩) (by intros; first | (exfalso; grind [In, On, nI_eq]) | exact ⟨by grind [In, On, nI_eq], fin_s hI (Fs.rf hI) (Sq.rf _ _) rfl⟩) (by intros; first | (exfalso; grind [In, On, nI_eq]) | exact ⟨by grind [In, On, nI_eq], fin_s hI (Fs.rf hI) (Sq.rf _ _) rfl⟩)
  · refine X_tableOut (tgt := 145) (tk_X9_count.at 1 rfl) (by have h0 := hcf; rw [Int32.le_iff_toInt_le, Int32.le_iff_toInt_le] at h0; have e0 : (0 : Int32).toInt = 0 := (by decide); have e8 : (8 : Int32).toInt = 8 := (by decide); omega) (by decide) ?_
    refine X_aload_n (tk_X9_count.at 45 rfl) rfl ?_
    refine X_ldc (tk_X9_count.at 46 rfl) kn_x9_76 ?_
    refine X_cV1i (lv2 := [(0, _), (1, _)]) (tk_X9_count.at 47 rfl) mv_X9_fail lk_x9_77 np_X9_fail hI.P0 (by decide) rfl (Nat.le_of_ble_eq_true rfl) (Nat.le_of_ble_eq_true rfl) rfl (c9_fail (k := 1) hI.P0 hI.E (by decide) (by decide) ?_)
    refine X_ireturn (tk_X9_count.at 48 rfl) rfl rfl ?_
    have rg8 : ∀ f, f ≤ 8 → 0 ≤ nI f ∧ nI f ≤ 8 := fun f h => rng rfl h (by decide)
    refine n10_count (N := N) hI.M (by rw [su_ne (by omega)]; exact hN) (by intros; first | (exfalso; grind [In, On, nI_eq]) | exact ⟨by grind [In, On, nI_eq], fin_e hI (Fs.rf hI) (Sq.rf _ _) rfl⟩) (by intros; first | (exfalso; grind [In, On, nI_eq]) | exact ⟨by grind [In, On, nI_eq], fin_e hI (Fs.rf hI) (Sq.rf _ _) rfl⟩) (by intros; first | (exfalso; grind [In, On, nI_eq]) | exact ⟨by grind [In, On, nI_eq], fin_e hI (Fs.rf hI) (Sq.rf _ _) rfl⟩) (by intros; first | (exfalso; grind [In, On, nI_eq]) | exact ⟨by grind [In, On, nI_eq], fin_e hI (Fs.rf hI) (Sq.rf _ _) rfl⟩)
