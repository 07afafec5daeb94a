set_option maxHeartbeats 1000000 in
theorem c9_isUse {G : Gl} {d : Nat} {S : Sh} {μ : Mu} {x : Int32} {K : Int32 → Sh → Mu → Prop} (kt : ∀ u, u < 2 → x = nI u → K 1 S μ) (kf : ¬ (0 ≤ x ∧ x ≤ 1) → K 0 S μ) : X G mi_X9_isUse d 0 0 [(0, .int x)] [] S μ (qi K) := by
  refine X_iload_n (tk_X9_isUse.at 0 rfl) rfl ?_
  refine X_if_eq (tgt := 9) (tk_X9_isUse.at 1 rfl) (by decide) (fun c1 => ?_) (fun c1 => ?_)
  · refine X_iconst (tk_X9_isUse.at 5 rfl) ci_1 ?_
    refine X_goto (tgt := 14) (tk_X9_isUse.at 6 rfl) (by decide) ?_
    refine X_ireturn (tk_X9_isUse.at 8 rfl) rfl rfl ?_
    exact kt 0 (by decide) c1
  · refine X_iload_n (tk_X9_isUse.at 2 rfl) rfl ?_
    refine X_iconst (tk_X9_isUse.at 3 rfl) ci_1 ?_
    refine X_icmp_ne (tgt := 13) (tk_X9_isUse.at 4 rfl) (by decide) (fun c2 => ?_) (fun c2 => ?_)
    · refine X_iconst (tk_X9_isUse.at 7 rfl) ci_0 ?_
      refine X_ireturn (tk_X9_isUse.at 8 rfl) rfl rfl ?_
      exact kf (by grind)
    · refine X_iconst (tk_X9_isUse.at 5 rfl) ci_1 ?_
      refine X_goto (tgt := 14) (tk_X9_isUse.at 6 rfl) (by decide) ?_
      refine X_ireturn (tk_X9_isUse.at 8 rfl) rfl rfl ?_
      exact kt 1 (by decide) c2
theorem In_u {u : Nat} (h : u < 2) : nI u = 0 ∨ nI u = 1 := by
  rcases (show u = 0 ∨ u = 1 by omega) with rfl | rfl
  · exact Or.inl rfl
  · exact Or.inr rfl
set_option maxHeartbeats 1000000 in
theorem t_law {G : Gl} {d : Nat} {S : Sh} {μ : Mu} {P o t q im : Nat} {kp : Option Nat} {x a b c e : Int32} (hI : Inv G S P o kp t q im μ) : X G mi_X9_law (d + 60) 0 0 [(0, .ref P), (1, .int x), (2, .int a), (3, .int b), (4, .int c), (5, .int e)] [] S μ (qi (fun an S1 μ1 => X G mi_X10_law (d + 60) 0 0 [(0, .ref o), (1, .int x), (2, .int a), (3, .int b), (4, .int c), (5, .int e)] [] S1 μ1 (qi (Eq2 G P o im an)))) := by
  obtain ⟨N, hN⟩ : ∃ N, μ (o + 1) = N := ⟨_, rfl⟩
  have hw : WF N := hN ▸ hI.wf
  have hr : repD μ (P + 1) N := hN ▸ hI.rep
  have lo := hI.lo
  have b1 := hw.n1.2
  have b2 := hw.n2.2
  have b3 := hw.n3.2
  have b4 := hw.n4.2
  have b5 := hw.n5.2
  have b6 := hw.n6.2
  have hun : ∀ r i r' i' p, On N r i p → On N r' i' p → r = r' ∧ i = i' := fun _ _ _ _ _ h1 h2 => hw.un h1 h2
  have hlu : ∀ k k', k < nv (N 4) → k' < nv (N 4) → N (134 + k) = N (134 + k') → k = k' := fun _ _ h1 h2 e => hw.lu h1 h2 e
  have hnz : nI 0 = 0 := rfl
  have hli : ∀ k, k < nv (N 4) → N (134 + k) = nI (nv (N (134 + k))) ∧ nv (N (134 + k)) < nv (N 3) := fun k h => hw.li h
  refine X_iload_n (tk_X9_law.at 0 rfl) rfl ?_
  refine X_cS1i (lv2 := [(0, _)]) (tk_X9_law.at 1 rfl) ms_X9_isUse lk_x9_200 np_X9_isUse (Nat.le_of_ble_eq_true rfl) (Nat.le_of_ble_eq_true rfl) rfl (c9_isUse (fun u hu hx => ?_) (fun hno => ?_))
  · refine X_if_ne (tgt := 14) (tk_X9_law.at 2 rfl) (by decide) (fun _ => ?_) (fun h => absurd h (by decide))
    refine X_aload_n (tk_X9_law.at 7 rfl) rfl ?_
    refine X_getR (tk_X9_law.at 8 rfl) fl_x9_19 hI.P0 rfl rfl ?_
    refine X_getR (tk_X9_law.at 9 rfl) fl_x9_180 hI.C.1 rfl rfl ?_
    refine X_iload_n (tk_X9_law.at 10 rfl) rfl ?_
    refine X_iload_n (tk_X9_law.at 11 rfl) rfl ?_
    refine X_iload (tk_X9_law.at 12 rfl) rfl ?_
    refine X_iload (tk_X9_law.at 13 rfl) rfl ?_
    refine X_iconst (tk_X9_law.at 14 rfl) ci_0 ?_
    refine X_cV5v (lv2 := [(0, _), (1, _), (2, _), (3, _), (4, _), (5, _)]) (tk_X9_law.at 15 rfl) mv_X5_name lk_x9_184 np_X5_name hI.C.2.1.1 (by decide) rfl (Nat.le_of_ble_eq_true rfl) (Nat.le_of_ble_eq_true rfl) rfl (c5_name hI.C.2.1 ?_)
    refine X_aload_n (tk_X9_law.at 16 rfl) rfl ?_
    refine X_getR (tk_X9_law.at 17 rfl) fl_x9_19 hI.P0 rfl rfl ?_
    refine X_getR (tk_X9_law.at 18 rfl) fl_x9_180 hI.C.1 rfl rfl ?_
    refine X_iload_n (tk_X9_law.at 19 rfl) rfl ?_
    refine X_aload_n (tk_X9_law.at 20 rfl) rfl ?_
    refine X_getR (tk_X9_law.at 21 rfl) fl_x9_12 hI.P0 rfl rfl ?_
    refine X_iload_n (tk_X9_law.at 22 rfl) rfl ?_
    refine X_cV1r (lv2 := [(0, _), (1, _)]) (tk_X9_law.at 23 rfl) mv_X2_textOf lk_x9_190 np_X2_textOf hI.D.1 (by decide) rfl (Nat.le_of_ble_eq_true rfl) (Nat.le_of_ble_eq_true rfl) rfl (c2_textOf (u := u) hI.D hx hu ?_)
    refine X_cV2i (lv2 := [(0, _), (1, _), (2, _)]) (tk_X9_law.at 24 rfl) mv_X5_give lk_x9_193 np_X5_give hI.C.2.1.1 (by decide) rfl (Nat.le_of_ble_eq_true rfl) (Nat.le_of_ble_eq_true rfl) rfl (d_give (u := u) (a := a) (b := b) (c := c) (e := e) (f := 0) hI.C.2.1 hI.D hw (repD_of hr (fun q h1 h2 => Mx_ne (by omega))) (Or.inl (by omega)) hu hx (by rw [Mx_same]; exact nm5_i) (fun p2 => ?_))
    have hFs : Fs P μ (Mx (Mx μ (P + 33 + 1 + 1) (upd (upd (upd (upd (upd (μ (P + 33 + 1 + 1)) 0 a) 1 b) 2 c) 3 e) 4 0)) (P + 33 + 1 + 2) p2) := ⟨fun q hq => by rw [Mx_ne (by omega), Mx_ne (by omega)], by rw [Mx_ne (by omega), Mx_ne (by omega)]; exact hI.nb⟩
    refine X_ireturn (tk_X9_law.at 25 rfl) rfl rfl ?_
    have rg1 : ∀ f, f ≤ 1 → 0 ≤ nI f ∧ nI f ≤ 1 := fun f h => rng rfl h (by decide)
    have rgu := rg1 u (by omega)
    refine n10_law (N := N) hI.M (by rw [Mx_ne (by omega), Mx_ne (by omega)]; exact hN) hw (fun g => absurd (by rw [hx]; exact rgu) g) (fun u' h p hu' ex => ⟨by rw [nI_j ex hx (by omega) (by omega)], fin_s hI hFs (by first | exact Tst_sy.sx | assumption | exact Sq.rf _ _) (by first | exact Tst1 _ _ _ _ _ _ _ | rfl | grind)⟩)
  · refine X_if_ne (tgt := 14) (tk_X9_law.at 2 rfl) (by decide) (fun h => absurd h (by decide)) (fun _ => ?_)
    refine X_aload_n (tk_X9_law.at 3 rfl) rfl ?_
    refine X_ldc (tk_X9_law.at 4 rfl) kn_x9_76 ?_
    refine X_cV1i (lv2 := [(0, _), (1, _)]) (tk_X9_law.at 5 rfl) mv_X9_fail lk_x9_77 np_X9_fail hI.P0 (by decide) rfl (Nat.le_of_ble_eq_true rfl) (Nat.le_of_ble_eq_true rfl) rfl (c9_fail (k := 1) hI.P0 hI.E (by decide) (by decide) ?_)
    refine X_ireturn (tk_X9_law.at 6 rfl) rfl rfl ?_
    have rg1 : ∀ f, f ≤ 1 → 0 ≤ nI f ∧ nI f ≤ 1 := fun f h => rng rfl h (by decide)
    have hiu := @In_u
    refine n10_law (N := N) hI.M (by rw [su_ne (by omega)]; exact hN) hw (by intros; first | (exfalso; grind [In, On, nI_eq]) | exact ⟨by grind [In, On, nI_eq], fin_e hI (Fs.rf hI) (Sq.rf _ _) rfl⟩) (by intros; first | (exfalso; grind [In, On, nI_eq]) | exact ⟨by grind [In, On, nI_eq], fin_e hI (Fs.rf hI) (Sq.rf _ _) rfl⟩)
set_option maxHeartbeats 1000000 in
theorem t_haul {G : Gl} {d : Nat} {S : Sh} {μ : Mu} {P o t q im : Nat} {kp : Option Nat} {p c : Int32} (hI : Inv G S P o kp t q im μ) : X G mi_X9_haul (d + 60) 0 0 [(0, .ref P), (1, .int p), (2, .int c)] [] S μ (qi (fun an S1 μ1 => X G mi_X10_haul (d + 60) 0 0 [(0, .ref o), (1, .int p), (2, .int c)] [] S1 μ1 (qi (Eq2 G P o im an)))) := by
  obtain ⟨N, hN⟩ : ∃ N, μ (o + 1) = N := ⟨_, rfl⟩
  have hw : WF N := hN ▸ hI.wf
  have hr : repD μ (P + 1) N := hN ▸ hI.rep
  have lo := hI.lo
  have b1 := hw.n1.2
  have b2 := hw.n2.2
  have b3 := hw.n3.2
  have b4 := hw.n4.2
  have b5 := hw.n5.2
  have b6 := hw.n6.2
  have hun : ∀ r i r' i' p, On N r i p → On N r' i' p → r = r' ∧ i = i' := fun _ _ _ _ _ h1 h2 => hw.un h1 h2
  have hlu : ∀ k k', k < nv (N 4) → k' < nv (N 4) → N (134 + k) = N (134 + k') → k = k' := fun _ _ h1 h2 e => hw.lu h1 h2 e
  have hnz : nI 0 = 0 := rfl
  have hli : ∀ k, k < nv (N 4) → N (134 + k) = nI (nv (N (134 + k))) ∧ nv (N (134 + k)) < nv (N 3) := fun k h => hw.li h
  refine X_aload_n (tk_X9_haul.at 0 rfl) rfl ?_
  refine X_iload_n (tk_X9_haul.at 1 rfl) rfl ?_
  refine X_iload_n (tk_X9_haul.at 2 rfl) rfl ?_
  refine X_cV2i (lv2 := [(0, _), (1, _), (2, _)]) (tk_X9_haul.at 3 rfl) mv_X9_errorOnRope lk_x9_170 np_X9_errorOnRope hI.P0 (by decide) rfl (Nat.le_of_ble_eq_true rfl) (Nat.le_of_ble_eq_true rfl) rfl (c9_errorOnRope hI hw hr (fun hno => ?_) (fun b0 x0 hb hx eb ex hno => ?_) (fun b0 x0 r0 i0 hb hx eb ex hon => ?_))
  · refine X_istore_n (lv' := [(0, _), (1, _), (2, _), (3, _)]) (tk_X9_haul.at 4 rfl) (by decide) rfl rfl ?_
    refine X_iload_n (tk_X9_haul.at 5 rfl) rfl ?_
    refine X_if_ge (tgt := 17) (tk_X9_haul.at 6 rfl) (by decide) (fun h => absurd h (by decide)) (fun _ => ?_)
    refine X_aload_n (tk_X9_haul.at 7 rfl) rfl ?_
    refine X_iload_n (tk_X9_haul.at 8 rfl) rfl ?_
    refine X_cV1i (lv2 := [(0, _), (1, _)]) (tk_X9_haul.at 9 rfl) mv_X9_fail lk_x9_77 np_X9_fail hI.P0 (by decide) rfl (Nat.le_of_ble_eq_true rfl) (Nat.le_of_ble_eq_true rfl) rfl (c9_fail (k := 1) hI.P0 hI.E (by decide) (by decide) ?_)
    refine X_ireturn (tk_X9_haul.at 10 rfl) rfl rfl ?_
    refine n10_haul (N := N) hI.M (by rw [su_ne (by omega)]; exact hN) hw (by intros; first | (exfalso; grind [In, On, nI_eq]) | exact ⟨by grind [In, On, nI_eq], fin_e hI (Fs.rf hI) (Sq.rf _ _) rfl⟩) (by intros; first | (exfalso; grind [In, On, nI_eq]) | exact ⟨by grind [In, On, nI_eq], fin_e hI (Fs.rf hI) (Sq.rf _ _) rfl⟩) (by intros; first | (exfalso; grind [In, On, nI_eq]) | exact ⟨by grind [In, On, nI_eq], fin_e hI (Fs.rf hI) (Sq.rf _ _) rfl⟩)
  · refine X_istore_n (lv' := [(0, _), (1, _), (2, _), (3, _)]) (tk_X9_haul.at 4 rfl) (by decide) rfl rfl ?_
    refine X_iload_n (tk_X9_haul.at 5 rfl) rfl ?_
    refine X_if_ge (tgt := 17) (tk_X9_haul.at 6 rfl) (by decide) (fun h => absurd h (by decide)) (fun _ => ?_)
    refine X_aload_n (tk_X9_haul.at 7 rfl) rfl ?_
    refine X_iload_n (tk_X9_haul.at 8 rfl) rfl ?_
    refine X_cV1i (lv2 := [(0, _), (1, _)]) (tk_X9_haul.at 9 rfl) mv_X9_fail lk_x9_77 np_X9_fail hI.P0 (by decide) rfl (Nat.le_of_ble_eq_true rfl) (Nat.le_of_ble_eq_true rfl) rfl (c9_fail (k := 2) hI.P0 hI.E (by decide) (by decide) ?_)
    refine X_ireturn (tk_X9_haul.at 10 rfl) rfl rfl ?_
    refine n10_haul (N := N) hI.M (by rw [su_ne (by omega)]; exact hN) hw (by intros; first | (exfalso; grind [In, On, nI_eq]) | exact ⟨by grind [In, On, nI_eq], fin_e hI (Fs.rf hI) (Sq.rf _ _) rfl⟩) (by intros; first | (exfalso; grind [In, On, nI_eq]) | exact ⟨by grind [In, On, nI_eq], fin_e hI (Fs.rf hI) (Sq.rf _ _) rfl⟩) (by intros; first | (exfalso; grind [In, On, nI_eq]) | exact ⟨by grind [In, On, nI_eq], fin_e hI (Fs.rf hI) (Sq.rf _ _) rfl⟩)
  · have hr0 := hon.1
    have hi0 : i0 < mny N r0 := hon.2.1
    have bm0 := hw.mb hr0
    refine X_istore_n (lv' := [(0, _), (1, _), (2, _), (3, _)]) (tk_X9_haul.at 4 rfl) (by decide) rfl rfl ?_
    refine X_iload_n (tk_X9_haul.at 5 rfl) rfl ?_
    refine X_if_ge (tgt := 17) (tk_X9_haul.at 6 rfl) (by decide) (fun _ => ?_) (fun h => absurd h (by decide))
    refine X_aload_n (tk_X9_haul.at 11 rfl) rfl ?_
    refine X_getR (tk_X9_haul.at 12 rfl) fl_x9_12 hI.P0 rfl rfl ?_
    refine X_aload_n (tk_X9_haul.at 13 rfl) rfl ?_
    refine X_getR (tk_X9_haul.at 14 rfl) fl_x9_12 hI.P0 rfl rfl ?_
    refine X_iload_n (tk_X9_haul.at 15 rfl) rfl ?_
    refine X_cV1i (lv2 := [(0, _), (1, _)]) (tk_X9_haul.at 16 rfl) mv_X2_ropeOf lk_x9_85 np_X2_ropeOf hI.D.1 (by decide) rfl (Nat.le_of_ble_eq_true rfl) (Nat.le_of_ble_eq_true rfl) rfl (c2_ropeOf (p := b0) hI.D hw hr eb (fun r' i' g => ?_) (fun g => absurd hon (g r0 i0)))
    rw [show r' = r0 from (hw.un g hon).1]
    refine X_cV1r (lv2 := [(0, _), (1, _)]) (tk_X9_haul.at 17 rfl) mv_X2_rowOf lk_x9_131 np_X2_rowOf hI.D.1 (by decide) rfl (Nat.le_of_ble_eq_true rfl) (Nat.le_of_ble_eq_true rfl) rfl (d_rowOf (r := r0) hI.D hw hr (pz (pl r0 rfl) (by omega)) (by omega) ?_)
    refine X_astore (lv' := [(0, _), (1, _), (2, _), (3, _), (4, _)]) (tk_X9_haul.at 18 rfl) (by decide) rfl rfl ?_
    refine X_iconst (tk_X9_haul.at 19 rfl) ci_0 ?_
    refine X_istore (lv' := [(0, _), (1, _), (2, _), (3, _), (4, _), (5, _)]) (tk_X9_haul.at 20 rfl) (by decide) rfl rfl ?_
    refine X_iconst (tk_X9_haul.at 21 rfl) ci_0 ?_
    refine X_istore (lv' := [(0, _), (1, _), (2, _), (3, _), (4, _), (5, _), (6, _)]) (tk_X9_haul.at 22 rfl) (by decide) rfl rfl ?_
    have loop : ∀ (m i : Nat), i + m = mny N r0 → X G mi_X9_haul (d + 60) 0 40 [(0, .ref P), (1, .int p), (2, .int c), (3, .int 0), (4, .ref (P + 1 + 20 + 2 * r0)), (5, .int (ssum N r0 i)), (6, .int (nI i))] [] S μ (qi (fun an S1 μ1 => X G mi_X10_haul (d + 60) 0 0 [(0, .ref o), (1, .int p), (2, .int c)] [] S1 μ1 (qi (Eq2 G P o im an)))) := by
      intro m
      induction m with
      | zero =>
        intro i hi
        have e : i = mny N r0 := by omega
        refine X_iload (tk_X9_haul.at 23 rfl) rfl ?_
        refine X_aload (tk_X9_haul.at 24 rfl) rfl ?_
        refine X_cV0i (lv2 := [(0, _)]) (tk_X9_haul.at 25 rfl) mv_X6_size lk_x9_142 np_X6_size (hI.D.2.2.2.2.2.2.2.2.2.2.2 r0 (by omega)).1 (by decide) rfl (Nat.le_of_ble_eq_true rfl) (Nat.le_of_ble_eq_true rfl) rfl (d_rsz hI.D hw hr (by omega) ?_)
        refine X_icmp_geN (tgt := 79) (tk_X9_haul.at 26 rfl) (by decide) (pl i rfl) (pl (mny N r0) rfl) (by omega) (by omega) (fun c31 => ?_) (fun c31 => (by exfalso; omega))
        refine X_iload (tk_X9_haul.at 40 rfl) rfl ?_
        refine X_aload_n (tk_X9_haul.at 41 rfl) rfl ?_
        refine X_getR (tk_X9_haul.at 42 rfl) fl_x9_12 hI.P0 rfl rfl ?_
        refine X_getR (tk_X9_haul.at 43 rfl) fl_x9_62 hI.D.1 rfl rfl ?_
        refine X_iload_n (tk_X9_haul.at 44 rfl) rfl ?_
        refine X_iconst (tk_X9_haul.at 45 rfl) ci_1 ?_
        refine X_cV2i (lv2 := [(0, _), (1, _), (2, _)]) (tk_X9_haul.at 46 rfl) mv_X3_get lk_x9_81 np_X3_get hI.D.2.1.1 (by decide) rfl (Nat.le_of_ble_eq_true rfl) (Nat.le_of_ble_eq_true rfl) rfl (d_pg (k := 9 + 4 * b0) (p := b0) (c := 1) hI.D hw hr eb (by omega) (pz (pl 1 rfl) (by omega)) (by omega) (by omega) ?_)
        refine X_isub (tk_X9_haul.at 47 rfl) ?_
        refine X_istore (lv' := [(0, _), (1, _), (2, _), (3, _), (4, _), (5, _), (6, _)]) (tk_X9_haul.at 48 rfl) (by decide) rfl rfl ?_
        refine X_aload_n (tk_X9_haul.at 49 rfl) rfl ?_
        refine X_getR (tk_X9_haul.at 50 rfl) fl_x9_19 hI.P0 rfl rfl ?_
        refine X_getR (tk_X9_haul.at 51 rfl) fl_x9_180 hI.C.1 rfl rfl ?_
        refine X_astore (lv' := [(0, _), (1, _), (2, _), (3, _), (4, _), (5, _), (6, _), (7, _)]) (tk_X9_haul.at 52 rfl) (by decide) rfl rfl ?_
        refine X_aload (tk_X9_haul.at 53 rfl) rfl ?_
        refine X_aload_n (tk_X9_haul.at 54 rfl) rfl ?_
        refine X_getR (tk_X9_haul.at 55 rfl) fl_x9_12 hI.P0 rfl rfl ?_
        refine X_getR (tk_X9_haul.at 56 rfl) fl_x9_62 hI.D.1 rfl rfl ?_
        refine X_iload_n (tk_X9_haul.at 57 rfl) rfl ?_
        refine X_iconst (tk_X9_haul.at 58 rfl) ci_0 ?_
        refine X_cV2i (lv2 := [(0, _), (1, _), (2, _)]) (tk_X9_haul.at 59 rfl) mv_X3_get lk_x9_81 np_X3_get hI.D.2.1.1 (by decide) rfl (Nat.le_of_ble_eq_true rfl) (Nat.le_of_ble_eq_true rfl) rfl (d_pg (k := 8 + 4 * b0) (p := b0) (c := 0) hI.D hw hr eb (by omega) (pz (pl 0 rfl) (by omega)) (by omega) (by omega) ?_)
        refine X_aload_n (tk_X9_haul.at 60 rfl) rfl ?_
        refine X_getR (tk_X9_haul.at 61 rfl) fl_x9_12 hI.P0 rfl rfl ?_
        refine X_getR (tk_X9_haul.at 62 rfl) fl_x9_118 hI.D.1 rfl rfl ?_
        refine X_iload_n (tk_X9_haul.at 63 rfl) rfl ?_
        refine X_iconst (tk_X9_haul.at 64 rfl) ci_3 ?_
        refine X_cV2i (lv2 := [(0, _), (1, _), (2, _)]) (tk_X9_haul.at 65 rfl) mv_X3_get lk_x9_81 np_X3_get hI.D.2.2.1.1 (by decide) rfl (Nat.le_of_ble_eq_true rfl) (Nat.le_of_ble_eq_true rfl) rfl (d_cg (k := 51 + 4 * x0) (p := x0) (c := 3) hI.D hw hr ex (by omega) (pz (pl 3 rfl) (by omega)) (by omega) (by omega) ?_)
        refine X_iload (tk_X9_haul.at 66 rfl) rfl ?_
        refine X_aload (tk_X9_haul.at 67 rfl) rfl ?_
        refine X_cV0i (lv2 := [(0, _)]) (tk_X9_haul.at 68 rfl) mv_X6_size lk_x9_142 np_X6_size (hI.D.2.2.2.2.2.2.2.2.2.2.2 r0 (by omega)).1 (by decide) rfl (Nat.le_of_ble_eq_true rfl) (Nat.le_of_ble_eq_true rfl) rfl (d_rsz hI.D hw hr (by omega) ?_)
        refine X_iconst (tk_X9_haul.at 69 rfl) ci_1 ?_
        refine X_isub (tk_X9_haul.at 70 rfl) ?_
        refine X_iconst (tk_X9_haul.at 71 rfl) ci_0 ?_
        refine X_cV5v (lv2 := [(0, _), (1, _), (2, _), (3, _), (4, _), (5, _)]) (tk_X9_haul.at 72 rfl) mv_X5_name lk_x9_184 np_X5_name hI.C.2.1.1 (by decide) rfl (Nat.le_of_ble_eq_true rfl) (Nat.le_of_ble_eq_true rfl) rfl (c5_name hI.C.2.1 ?_)
        refine X_aload (tk_X9_haul.at 73 rfl) rfl ?_
        refine X_iconst (tk_X9_haul.at 74 rfl) ci_1 ?_
        refine X_aload_n (tk_X9_haul.at 75 rfl) rfl ?_
        refine X_getR (tk_X9_haul.at 76 rfl) fl_x9_12 hI.P0 rfl rfl ?_
        refine X_iconst (tk_X9_haul.at 77 rfl) ci_1 ?_
        refine X_cV1r (lv2 := [(0, _), (1, _)]) (tk_X9_haul.at 78 rfl) mv_X2_textOf lk_x9_190 np_X2_textOf hI.D.1 (by decide) rfl (Nat.le_of_ble_eq_true rfl) (Nat.le_of_ble_eq_true rfl) rfl (c2_textOf (u := 1) hI.D rfl (by decide) ?_)
        refine X_cV2i (lv2 := [(0, _), (1, _), (2, _)]) (tk_X9_haul.at 79 rfl) mv_X5_give lk_x9_193 np_X5_give hI.C.2.1.1 (by decide) rfl (Nat.le_of_ble_eq_true rfl) (Nat.le_of_ble_eq_true rfl) rfl (d_give (u := 1) (a := (N (8 + 4 * b0))) (b := (N (51 + 4 * x0))) (c := ((ssum N r0 i) - (N (9 + 4 * b0)))) (e := ((nI (mny N r0)) - 1)) (f := 0) hI.C.2.1 hI.D hw (repD_of hr (fun q h1 h2 => Mx_ne (by omega))) (Or.inl (by omega)) (by decide) rfl (by rw [Mx_same]; exact nm5_i) (fun p2 => ?_))
        have hFs : Fs P μ (Mx (Mx μ (P + 33 + 1 + 1) (upd (upd (upd (upd (upd (μ (P + 33 + 1 + 1)) 0 (N (8 + 4 * b0))) 1 (N (51 + 4 * x0))) 2 ((ssum N r0 i) - (N (9 + 4 * b0)))) 3 ((nI (mny N r0)) - 1)) 4 0)) (P + 33 + 1 + 2) p2) := ⟨fun q hq => by rw [Mx_ne (by omega), Mx_ne (by omega)], by rw [Mx_ne (by omega), Mx_ne (by omega)]; exact hI.nb⟩
        refine X_ireturn (tk_X9_haul.at 80 rfl) rfl rfl ?_
        have em0 : N (83 + 9 * r0) = nI (mny N r0) := (hw.ro hr0).2.2.2.1.1
        rw [e] at hFs ⊢
        refine n10_haul (N := N) hI.M (by rw [Mx_ne (by omega), Mx_ne (by omega)]; exact hN) hw (by intros; first | (exfalso; grind [In, On, nI_eq]) | exact ⟨by grind [In, On, nI_eq], fin_s hI hFs (by first | exact Tst_sy.sx | assumption | exact Sq.rf _ _) (by first | exact Tst1 _ _ _ _ _ _ _ | rfl | grind)⟩) (by intros; first | (exfalso; grind [In, On, nI_eq]) | exact ⟨by grind [In, On, nI_eq], fin_s hI hFs (by first | exact Tst_sy.sx | assumption | exact Sq.rf _ _) (by first | exact Tst1 _ _ _ _ _ _ _ | rfl | grind)⟩) (by intros; first | (exfalso; grind [In, On, nI_eq]) | exact ⟨by grind [In, On, nI_eq], fin_s hI hFs (by first | exact Tst_sy.sx | assumption | exact Sq.rf _ _) (by first | exact Tst1 _ _ _ _ _ _ _ | rfl | grind)⟩)
      | succ m ih =>
        intro i hi
        have wp := hw.wh hr0 (i := i) (by omega)
        have bp := wp.2
        refine X_iload (tk_X9_haul.at 23 rfl) rfl ?_
        refine X_aload (tk_X9_haul.at 24 rfl) rfl ?_
        refine X_cV0i (lv2 := [(0, _)]) (tk_X9_haul.at 25 rfl) mv_X6_size lk_x9_142 np_X6_size (hI.D.2.2.2.2.2.2.2.2.2.2.2 r0 (by omega)).1 (by decide) rfl (Nat.le_of_ble_eq_true rfl) (Nat.le_of_ble_eq_true rfl) rfl (d_rsz hI.D hw hr (by omega) ?_)
        refine X_icmp_geN (tgt := 79) (tk_X9_haul.at 26 rfl) (by decide) (pl i rfl) (pl (mny N r0) rfl) (by omega) (by omega) (fun c31 => (by exfalso; omega)) (fun c31 => ?_)
        refine X_iload (tk_X9_haul.at 27 rfl) rfl ?_
        refine X_aload_n (tk_X9_haul.at 28 rfl) rfl ?_
        refine X_getR (tk_X9_haul.at 29 rfl) fl_x9_12 hI.P0 rfl rfl ?_
        refine X_getR (tk_X9_haul.at 30 rfl) fl_x9_62 hI.D.1 rfl rfl ?_
        refine X_aload (tk_X9_haul.at 31 rfl) rfl ?_
        refine X_iload (tk_X9_haul.at 32 rfl) rfl ?_
        refine X_cV1i (lv2 := [(0, _), (1, _)]) (tk_X9_haul.at 33 rfl) mv_X6_at lk_x9_151 np_X6_at (hI.D.2.2.2.2.2.2.2.2.2.2.2 r0 (by omega)).1 (by decide) rfl (Nat.le_of_ble_eq_true rfl) (Nat.le_of_ble_eq_true rfl) rfl (d_rat (k := 84 + 9 * r0 + i) (i := i) hI.D hw hr (by omega) (pz (pl i rfl) (by omega)) (by omega) (by omega) ?_)
        refine X_iconst (tk_X9_haul.at 34 rfl) ci_1 ?_
        refine X_cV2i (lv2 := [(0, _), (1, _), (2, _)]) (tk_X9_haul.at 35 rfl) mv_X3_get lk_x9_81 np_X3_get hI.D.2.1.1 (by decide) rfl (Nat.le_of_ble_eq_true rfl) (Nat.le_of_ble_eq_true rfl) rfl (d_pg (k := 9 + 4 * (nv (N (84 + 9 * r0 + i)))) (p := (nv (N (84 + 9 * r0 + i)))) (c := 1) hI.D hw hr (pz wp.1 (by omega)) (by omega) (pz (pl 1 rfl) (by omega)) (by omega) (by omega) ?_)
        refine X_iadd (tk_X9_haul.at 36 rfl) ?_
        refine X_istore (lv' := [(0, _), (1, _), (2, _), (3, _), (4, _), (5, _), (6, _)]) (tk_X9_haul.at 37 rfl) (by decide) rfl rfl ?_
        refine X_iinc (lv' := [(0, _), (1, _), (2, _), (3, _), (4, _), (5, _), (6, _)]) (tk_X9_haul.at 38 rfl) rfl ci_1 (by decide) rfl rfl ?_
        refine X_goto (tgt := 40) (tk_X9_haul.at 39 rfl) (by decide) ?_
        rw [nI_1 i]
        exact ih (i + 1) (by omega)
    exact loop _ 0 (Nat.zero_add _)
theorem lts_lin {L m : Nat} : ∀ n, lts (fun s => s + L ≤ m) n = if n = 0 ∨ m < L then none else some (if m - L < n - 1 then m - L else n - 1)
  | 0 => by rw [lts, if_pos (Or.inl rfl)]
  | n + 1 => by
    rw [lts, lts_lin n]
    by_cases h : n + L ≤ m
    · rw [if_pos h, if_neg (by omega), if_neg (by omega)]; rfl
    · rw [if_neg h]
      by_cases h2 : m < L
      · rw [if_pos (Or.inr h2), if_pos (Or.inr h2)]
      · rcases Nat.eq_zero_or_pos n with e | e
        · exfalso; omega
        · rw [if_neg (show ¬ (n = 0 ∨ m < L) by omega), if_neg (show ¬ (n + 1 = 0 ∨ m < L) by omega), if_pos (show m - L < n + 1 - 1 by omega)]
          by_cases h3 : m - L < n - 1
          · rw [if_pos h3]
          · rw [if_neg h3]; congr 1; omega
theorem lts_c {P Q : Nat → Prop} : ∀ n, (∀ s, s < n → (P s ↔ Q s)) → lts P n = lts Q n
  | 0, _ => by rw [lts, lts]
  | n + 1, h => by
    rw [lts, lts, lts_c n (fun s hs => h s (by omega))]
    by_cases c : P n
    · rw [if_pos c, if_pos ((h n (by omega)).mp c)]
    · rw [if_neg c, if_neg (fun g => c ((h n (by omega)).mpr g))]
/-- how long a crossing lasts -/
theorem ovr_L {N : Nat → Int32} (hw : WF N) : ∃ L, ovr N (nv (N 4)) = nv (N 0) + L ∧ ∀ m, lts (ltP N m) 1440 = if m < L then none else some (if m - L < 1439 then m - L else 1439) := by
  have b0 := hw.n0.2
  refine ⟨ovr (upd N 0 (nI 0)) (nv (N 4)), ?_, fun m => ?_⟩
  · have h := ovr_sh (N := N) (a := 0) (D := nv (N 0)) (by omega) (nv (N 4))
    rw [Nat.zero_add, ← hw.n0.1, upd_self0] at h
    omega
  · rw [lts_c 1440 (Q := fun s => s + ovr (upd N 0 (nI 0)) (nv (N 4)) ≤ m), lts_lin]
    · by_cases c : m < ovr (upd N 0 (nI 0)) (nv (N 4))
      · rw [if_pos (Or.inr c), if_pos c]
      · rw [if_neg (by omega), if_neg c]
    · intro s hs
      have h := ovr_sh (N := N) (a := 0) (D := s) (by omega) (nv (N 4))
      rw [Nat.zero_add] at h
      show ovr (upd N 0 (nI s)) (nv (N 4)) ≤ m ↔ _
      rw [h, Nat.add_comm]
set_option maxHeartbeats 1000000 in
theorem t_latest {G : Gl} {d : Nat} {S : Sh} {μ : Mu} {P o t q im : Nat} {kp : Option Nat} {x : Int32} (hI : Inv G S P o kp t q im μ) : X G mi_X9_latest (d + 60) 0 0 [(0, .ref P), (1, .int x)] [] S μ (qi (fun an S1 μ1 => X G mi_X10_latest (d + 60) 0 0 [(0, .ref o), (1, .int x)] [] S1 μ1 (qi (Eq2 G P o im an)))) := by
  obtain ⟨N, hN⟩ : ∃ N, μ (o + 1) = N := ⟨_, rfl⟩
  have hw : WF N := hN ▸ hI.wf
  have hr : repD μ (P + 1) N := hN ▸ hI.rep
  have lo := hI.lo
  have b1 := hw.n1.2
  have b2 := hw.n2.2
  have b3 := hw.n3.2
  have b4 := hw.n4.2
  have b5 := hw.n5.2
  have b6 := hw.n6.2
  have hun : ∀ r i r' i' p, On N r i p → On N r' i' p → r = r' ∧ i = i' := fun _ _ _ _ _ h1 h2 => hw.un h1 h2
  have hlu : ∀ k k', k < nv (N 4) → k' < nv (N 4) → N (134 + k) = N (134 + k') → k = k' := fun _ _ h1 h2 e => hw.lu h1 h2 e
  have hnz : nI 0 = 0 := rfl
  have hli : ∀ k, k < nv (N 4) → N (134 + k) = nI (nv (N (134 + k))) ∧ nv (N (134 + k)) < nv (N 3) := fun k h => hw.li h
  obtain ⟨L, eL, hL⟩ := ovr_L hw
  have b0 := hw.n0.2
  have bov := ovr_le hw _ (Nat.le_refl _)
  refine X_iload_n (tk_X9_latest.at 0 rfl) rfl ?_
  refine X_if_lt (tgt := 11) (tk_X9_latest.at 1 rfl) (by decide) (fun c1 => ?_) (fun c1 => ?_)
  · refine X_aload_n (tk_X9_latest.at 5 rfl) rfl ?_
    refine X_ldc (tk_X9_latest.at 6 rfl) kn_x9_76 ?_
    refine X_cV1i (lv2 := [(0, _), (1, _)]) (tk_X9_latest.at 7 rfl) mv_X9_fail lk_x9_77 np_X9_fail hI.P0 (by decide) rfl (Nat.le_of_ble_eq_true rfl) (Nat.le_of_ble_eq_true rfl) rfl (c9_fail (k := 1) hI.P0 hI.E (by decide) (by decide) ?_)
    refine X_ireturn (tk_X9_latest.at 8 rfl) rfl rfl ?_
    have rg9999 : ∀ f, f ≤ 9999 → 0 ≤ nI f ∧ nI f ≤ 9999 := fun f h => rng rfl h (by decide)
    refine c10_latest (N := N) hI.M (by rw [su_ne (by omega)]; exact hN) hw (fun _ => ⟨rfl, fin_e hI (Fs.rf hI) (Sq.rf _ _) rfl⟩) (fun mi h1 e1 _ ν h2 h3 => by exfalso; have := rg9999 mi h1; grind) (fun mi c h1 e1 _ ν h2 h3 => by exfalso; have := rg9999 mi h1; grind)
  · refine X_iload_n (tk_X9_latest.at 2 rfl) rfl ?_
    refine X_sipush (tk_X9_latest.at 3 rfl) cs_9999 ?_
    refine X_icmp_le (tgt := 18) (tk_X9_latest.at 4 rfl) (by decide) (fun c2 => ?_) (fun c2 => ?_)
    · have hcf : 0 ≤ x ∧ x ≤ 9999 := by grind
      obtain ⟨f, ef, hf⟩ : ∃ f, x = nI f ∧ f ≤ 9999 := ⟨nv x, (le_lits (a := 0) (b := 9999) (by decide) hcf.1 hcf.2 (by decide)).1, (le_lits (a := 0) (b := 9999) (by decide) hcf.1 hcf.2 (by decide)).2.2⟩
      refine X_aload_n (tk_X9_latest.at 9 rfl) rfl ?_
      refine X_getR (tk_X9_latest.at 10 rfl) fl_x9_19 hI.P0 rfl rfl ?_
      refine X_aload_n (tk_X9_latest.at 11 rfl) rfl ?_
      refine X_getR (tk_X9_latest.at 12 rfl) fl_x9_12 hI.P0 rfl rfl ?_
      refine X_cV1v (lv2 := [(0, _), (1, _)]) (tk_X9_latest.at 13 rfl) mv_X1_cross lk_x9_224 np_X1_cross hI.C.1 (by decide) rfl (Nat.le_of_ble_eq_true rfl) (Nat.le_of_ble_eq_true rfl) rfl (c1_cross hI.C hI.D hw hr (Or.inl (by omega)) (fun cm of hCr => ?_))
      have hFs : Fs P μ (Tc μ (P + 33) (nI (ovr N (nv (N 4)))) cm of (μ (P + 33 + 2)) (μ (P + 33 + 3))) := Fs_Tc hI
      refine X_aload_n (tk_X9_latest.at 14 rfl) rfl ?_
      refine X_getR (tk_X9_latest.at 15 rfl) fl_x9_19 hI.P0 rfl rfl ?_
      refine X_getI (tk_X9_latest.at 16 rfl) fl_x9_241 hI.C.1 rfl ?_
      rw [show (Tc μ (P + 33) (nI (ovr N (nv (N 4)))) cm of (μ (P + 33 + 2)) (μ (P + 33 + 3))) (P + 33) 3 = nI (ovr N (nv (N 4))) from TcC]
      refine X_aload_n (tk_X9_latest.at 17 rfl) rfl ?_
      refine X_getR (tk_X9_latest.at 18 rfl) fl_x9_12 hI.P0 rfl rfl ?_
      refine X_getI (tk_X9_latest.at 19 rfl) fl_x9_124 hI.D.1 rfl ?_
      rw [show (Tc μ (P + 33) (nI (ovr N (nv (N 4)))) cm of (μ (P + 33 + 2)) (μ (P + 33 + 3))) (P + 1) 10 = nI (nv (N 0)) from by rw [Tc_out (by omega)]; exact hr.1.1.trans hw.n0.1]
      refine X_isub (tk_X9_latest.at 20 rfl) ?_
      rw [show nI (ovr N (nv (N 4))) - nI (nv (N 0)) = nI L from by rw [eL, pk_sub (by omega)]; congr 1; omega]
      refine X_istore_n (lv' := [(0, _), (1, _), (2, _)]) (tk_X9_latest.at 21 rfl) (by decide) rfl rfl ?_
      refine X_iload_n (tk_X9_latest.at 22 rfl) rfl ?_
      refine X_iload_n (tk_X9_latest.at 23 rfl) rfl ?_
      refine X_icmp_leN (tgt := 57) (tk_X9_latest.at 24 rfl) (by decide) (pl L rfl) ef (by omega) (by omega) (fun c3 => ?_) (fun c3 => ?_)
      · refine X_sipush (tk_X9_latest.at 29 rfl) cs_1439 ?_
        refine X_iload_n (tk_X9_latest.at 30 rfl) rfl ?_
        refine X_iload_n (tk_X9_latest.at 31 rfl) rfl ?_
        refine X_isub (tk_X9_latest.at 32 rfl) ?_
        refine X_min (tk_X9_latest.at 33 rfl) lk_x9_271 (Nat.le_of_ble_eq_true rfl) ?_
        refine X_ireturn (tk_X9_latest.at 34 rfl) rfl rfl ?_
        refine c10_latest (N := N) hI.M (by rw [Tc_out (by omega)]; exact hN) hw (fun g => absurd hcf g) (fun mi h1 e1 h4 ν h2 h3 => by exfalso; rw [hL mi, if_neg (by have := nI_j e1 ef (by omega) (by omega); omega)] at h4; cases h4) (fun mi c h1 e1 h4 ν h2 h3 => ⟨?_, fin_s hI hFs h2 (by rw [h3, Tc_out (by omega)]; exact hN.symm)⟩)
        have em := nI_j e1 ef (by omega) (by omega)
        subst em
        rw [hL mi, if_neg (by omega)] at h4
        have h5 := Option.some.inj h4
        rw [← h5, ef, pk_sub (by omega)]
        by_cases c9 : mi - L < 1439
        · rw [if_pos c9, if_pos (show nI (mi - L) < 1439 from nI_lt (b := 1439) c9 (by decide))]
        · rw [if_neg c9, if_neg (show ¬ nI (mi - L) < 1439 from nI_nlt (b := 1439) (by omega) (by omega))]; rfl
      · refine X_aload_n (tk_X9_latest.at 25 rfl) rfl ?_
        refine X_ldc (tk_X9_latest.at 26 rfl) kn_x9_99 ?_
        refine X_cV1i (lv2 := [(0, _), (1, _)]) (tk_X9_latest.at 27 rfl) mv_X9_fail lk_x9_77 np_X9_fail hI.P0 (by decide) rfl (Nat.le_of_ble_eq_true rfl) (Nat.le_of_ble_eq_true rfl) rfl (c9_fail (k := 2) hI.P0 hI.E (by decide) (by decide) ?_)
        refine X_ireturn (tk_X9_latest.at 28 rfl) rfl rfl ?_
        refine c10_latest (N := N) hI.M (by rw [su_ne (by omega), Tc_out (by omega)]; exact hN) hw (fun g => absurd hcf g) (fun mi h1 e1 _ ν h2 h3 => ⟨rfl, fin_e hI hFs h2 (by rw [h3, su_ne (by omega), Tc_out (by omega)]; exact hN.symm)⟩) (fun mi c h1 e1 h4 ν h2 h3 => by exfalso; rw [hL mi, if_pos (by have := nI_j e1 ef (by omega) (by omega); omega)] at h4; cases h4)
    · refine X_aload_n (tk_X9_latest.at 5 rfl) rfl ?_
      refine X_ldc (tk_X9_latest.at 6 rfl) kn_x9_76 ?_
      refine X_cV1i (lv2 := [(0, _), (1, _)]) (tk_X9_latest.at 7 rfl) mv_X9_fail lk_x9_77 np_X9_fail hI.P0 (by decide) rfl (Nat.le_of_ble_eq_true rfl) (Nat.le_of_ble_eq_true rfl) rfl (c9_fail (k := 1) hI.P0 hI.E (by decide) (by decide) ?_)
      refine X_ireturn (tk_X9_latest.at 8 rfl) rfl rfl ?_
      have rg9999 : ∀ f, f ≤ 9999 → 0 ≤ nI f ∧ nI f ≤ 9999 := fun f h => rng rfl h (by decide)
      refine c10_latest (N := N) hI.M (by rw [su_ne (by omega)]; exact hN) hw (fun _ => ⟨rfl, fin_e hI (Fs.rf hI) (Sq.rf _ _) rfl⟩) (fun mi h1 e1 _ ν h2 h3 => by exfalso; have := rg9999 mi h1; grind) (fun mi c h1 e1 _ ν h2 h3 => by exfalso; have := rg9999 mi h1; grind)
