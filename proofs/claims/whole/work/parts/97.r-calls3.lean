theorem d_tpsz {G : Gl} {d : Nat} {S : Sh} {μ : Mu} {D : Nat} {N : Nat → Int32} {K : Int32 → Sh → Mu → Prop} (hD : DS G S D) (hw : WF N) (hr : repD μ D N) (hK : K (nI (nv (N 5))) S μ) : X G mi_X6_size d 0 0 [(0, .ref (D + 9))] [] S μ (qi K) :=
  c6_size hD.2.2.2.2.2.1 (rD_tape hw hr) hw.n5.2 (by decide) hK
theorem d_wtsz {G : Gl} {d : Nat} {S : Sh} {μ : Mu} {D : Nat} {N : Nat → Int32} {K : Int32 → Sh → Mu → Prop} (hD : DS G S D) (hw : WF N) (hr : repD μ D N) (hK : K (nI (nv (N 6))) S μ) : X G mi_X6_size d 0 0 [(0, .ref (D + 11))] [] S μ (qi K) :=
  c6_size hD.2.2.2.2.2.2.1 (rD_wait hw hr) hw.n6.2 (by decide) hK
set_option maxHeartbeats 1000000 in
theorem c9_isUnder {G : Gl} {d : Nat} {S : Sh} {μ : Mu} {x y : Int32} {k a : Nat} {K : Int32 → Sh → Mu → Prop} (hst : Sta G S μ) (hx : x = nI k) (hk : k < 7) (hy : y = nI a) (ha : a < 7) (kt : und k a = true → K 1 S μ) (kf : und k a = false → K 0 S μ) : X G mi_X9_isUnder d 0 0 [(0, .int x), (1, .int y)] [] S μ (qi K) := by
  have loop : ∀ (m j u : Nat), j < 7 → rkk j < m → u + m ≤ 3 → und j a = und k a → X G mi_X9_isUnder d 0 4 [(0, .int x), (1, .int y), (2, .int (nI j)), (3, .int (nI u))] [] S μ (qi K) := by
    intro m
    induction m with
    | zero => intro j u _ h; exact absurd h (Nat.not_lt_zero _)
    | succ m ih =>
      intro j u hj hm hu hb
      refine X_iload_n (tk_X9_isUnder.at 4 rfl) rfl ?_
      refine X_bipush (tk_X9_isUnder.at 5 rfl) cb_7 ?_
      refine X_icmp_geN (tgt := 41) (tk_X9_isUnder.at 6 rfl) (by decide) (pl u rfl) (pl 7 rfl) (by omega) (by omega) (fun c1 => (by exfalso; omega)) (fun c1 => ?_)
      refine X_iload_n (tk_X9_isUnder.at 7 rfl) rfl ?_
      refine X_if_ltN (tgt := 41) (tk_X9_isUnder.at 8 rfl) (by decide) (pl j rfl) (by omega) ?_
      refine X_iload_n (tk_X9_isUnder.at 9 rfl) rfl ?_
      refine X_gets (j := 6) (tk_X9_isUnder.at 10 rfl) (by decide) gl_x9_328 ?_
      refine X_alenC (tk_X9_isUnder.at 11 rfl) hst.s6 ?_
      refine X_icmp_geN (tgt := 41) (tk_X9_isUnder.at 12 rfl) (by decide) (pl j rfl) rfl (by omega) (by omega) (fun c3 => (by exfalso; omega)) (fun c3 => ?_)
      refine X_iload_n (tk_X9_isUnder.at 13 rfl) rfl ?_
      refine X_iload_n (tk_X9_isUnder.at 14 rfl) rfl ?_
      refine X_icmp_neN (tgt := 29) (tk_X9_isUnder.at 15 rfl) (by decide) (pl j rfl) hy (by omega) (by omega) (fun c4 => ?_) (fun c4 => ?_)
      · by_cases z0 : j = 0
        · subst z0
          rw [und_0 a ha c4] at hb
          refine X_gets (j := 6) (tk_X9_isUnder.at 18 rfl) (by decide) gl_x9_328 ?_
          refine X_iload_n (tk_X9_isUnder.at 19 rfl) rfl ?_
          refine X_ialdCN (k := 0) (tk_X9_isUnder.at 20 rfl) hst.s6 (pz (pl 0 rfl) (by omega)) (by omega) (by decide) ?_
          rw [hst.v6 (by decide), abv0]
          refine X_istore_n (lv' := [(0, _), (1, _), (2, _), (3, _)]) (tk_X9_isUnder.at 21 rfl) (by decide) rfl rfl ?_
          refine X_iinc (lv' := [(0, _), (1, _), (2, _), (3, _)]) (tk_X9_isUnder.at 22 rfl) rfl ci_1 (by decide) rfl rfl ?_
          refine X_goto (tgt := 4) (tk_X9_isUnder.at 23 rfl) (by decide) ?_
          refine X_iload_n (tk_X9_isUnder.at 4 rfl) rfl ?_
          refine X_bipush (tk_X9_isUnder.at 5 rfl) cb_7 ?_
          refine X_icmp_geN (tgt := 41) (tk_X9_isUnder.at 6 rfl) (by decide) (pa (pl u rfl) (pl 1 rfl)) (pl 7 rfl) (by omega) (by omega) (fun c41 => ?_) (fun c41 => ?_)
          · refine X_iconst (tk_X9_isUnder.at 24 rfl) ci_0 ?_
            refine X_ireturn (tk_X9_isUnder.at 25 rfl) rfl rfl ?_
            exact kf hb.symm
          · refine X_iload_n (tk_X9_isUnder.at 7 rfl) rfl ?_
            refine X_if_lt (tgt := 41) (tk_X9_isUnder.at 8 rfl) (by decide) (fun _ => ?_) (fun h => absurd h (by decide))
            refine X_iconst (tk_X9_isUnder.at 24 rfl) ci_0 ?_
            refine X_ireturn (tk_X9_isUnder.at 25 rfl) rfl rfl ?_
            exact kf hb.symm
        · obtain ⟨q1, q2, q3⟩ := abv_ab1 j hj z0
          refine X_gets (j := 6) (tk_X9_isUnder.at 18 rfl) (by decide) gl_x9_328 ?_
          refine X_iload_n (tk_X9_isUnder.at 19 rfl) rfl ?_
          refine X_ialdCN (k := j) (tk_X9_isUnder.at 20 rfl) hst.s6 (pz (pl j rfl) (by omega)) (by omega) (by decide) ?_
          rw [hst.v6 hj, q1]
          refine X_istore_n (lv' := [(0, _), (1, _), (2, _), (3, _)]) (tk_X9_isUnder.at 21 rfl) (by decide) rfl rfl ?_
          refine X_iinc (lv' := [(0, _), (1, _), (2, _), (3, _)]) (tk_X9_isUnder.at 22 rfl) rfl ci_1 (by decide) rfl rfl ?_
          refine X_goto (tgt := 4) (tk_X9_isUnder.at 23 rfl) (by decide) ?_
          rw [nI_1 u]
          exact ih (ab j) (u + 1) q2 (by omega) (by omega) ((und_st j hj a ha c4 z0).symm.trans hb)
      · refine X_iconst (tk_X9_isUnder.at 16 rfl) ci_1 ?_
        refine X_ireturn (tk_X9_isUnder.at 17 rfl) rfl rfl ?_
        rw [show j = a from c4, und_eq] at hb
        exact kt hb.symm
  refine X_iload_n (tk_X9_isUnder.at 0 rfl) rfl ?_
  refine X_istore_n (lv' := [(0, _), (1, _), (2, _)]) (tk_X9_isUnder.at 1 rfl) (by decide) rfl rfl ?_
  refine X_iconst (tk_X9_isUnder.at 2 rfl) ci_0 ?_
  refine X_istore_n (lv' := [(0, _), (1, _), (2, _), (3, _)]) (tk_X9_isUnder.at 3 rfl) (by decide) rfl rfl ?_
  have r3 : ∀ k, k < 7 → rkk k < 3 := by decide
  subst hx
  exact loop 3 k 0 hk (r3 k hk) (by decide) rfl
set_option maxHeartbeats 1000000 in
theorem t_as {G : Gl} {d : Nat} {S : Sh} {μ : Mu} {P o t q im : Nat} {kp : Option Nat} {r x : Int32} (hI : Inv G S P o kp t q im μ) : X G mi_X9_as (d + 60) 0 0 [(0, .ref P), (1, .int r), (2, .int x)] [] S μ (qi (fun an S1 μ1 => X G mi_X10_as (d + 60) 0 0 [(0, .ref o), (1, .int r), (2, .int x)] [] S1 μ1 (qi (Eq2 G P o im an)))) := by
  obtain ⟨N, hN⟩ : ∃ N, μ (o + 1) = N := ⟨_, rfl⟩
  have hw : WF N := hN ▸ hI.wf
  have hr : repD μ (P + 1) N := hN ▸ hI.rep
  have lo := hI.lo
  have b1 := hw.n1.2
  have b2 := hw.n2.2
  have b3 := hw.n3.2
  have b4 := hw.n4.2
  have b5 := hw.n5.2
  have b6 := hw.n6.2
  have hun : ∀ r i r' i' p, On N r i p → On N r' i' p → r = r' ∧ i = i' := fun _ _ _ _ _ h1 h2 => hw.un h1 h2
  have hlu : ∀ k k', k < nv (N 4) → k' < nv (N 4) → N (134 + k) = N (134 + k') → k = k' := fun _ _ h1 h2 e => hw.lu h1 h2 e
  have hnz : nI 0 = 0 := rfl
  refine X_aload_n (tk_X9_as.at 0 rfl) rfl ?_
  refine X_getR (tk_X9_as.at 1 rfl) fl_x9_12 hI.P0 rfl rfl ?_
  refine X_getR (tk_X9_as.at 2 rfl) fl_x9_127 hI.D.1 rfl rfl ?_
  refine X_iload_n (tk_X9_as.at 3 rfl) rfl ?_
  refine X_cV1i (lv2 := [(0, _), (1, _)]) (tk_X9_as.at 4 rfl) mv_X3_has lk_x9_70 np_X3_has hI.D.2.2.2.1.1 (by decide) rfl (Nat.le_of_ble_eq_true rfl) (Nat.le_of_ble_eq_true rfl) rfl (d_ohas hI.D hw hr (fun j8 hj8 ej8 => ?_) (fun hj8 => ?_))
  · refine X_if_eq (tgt := 24) (tk_X9_as.at 5 rfl) (by decide) (fun h => absurd h (by decide)) (fun _ => ?_)
    refine X_iload_n (tk_X9_as.at 6 rfl) rfl ?_
    refine X_if_lt (tgt := 24) (tk_X9_as.at 7 rfl) (by decide) (fun c2 => ?_) (fun c2 => ?_)
    · refine X_aload_n (tk_X9_as.at 11 rfl) rfl ?_
      refine X_ldc (tk_X9_as.at 12 rfl) kn_x9_76 ?_
      refine X_cV1i (lv2 := [(0, _), (1, _)]) (tk_X9_as.at 13 rfl) mv_X9_fail lk_x9_77 np_X9_fail hI.P0 (by decide) rfl (Nat.le_of_ble_eq_true rfl) (Nat.le_of_ble_eq_true rfl) rfl (c9_fail (k := 1) hI.P0 hI.E (by decide) (by decide) ?_)
      refine X_ireturn (tk_X9_as.at 14 rfl) rfl rfl ?_
      have rg6 : ∀ f, f ≤ 6 → 0 ≤ nI f ∧ nI f ≤ 6 := fun f h => rng rfl h (by decide)
      refine n10_as (N := N) hI.M (by rw [su_ne (by omega)]; exact hN) hw (by intros; first | (exfalso; grind [In, On, nI_eq]) | exact ⟨by grind [In, On, nI_eq], fin_e hI (Fs.rf hI) (Sq.rf _ _) rfl⟩) (by intros; first | (exfalso; grind [In, On, nI_eq]) | exact ⟨by grind [In, On, nI_eq], fin_e hI (Fs.rf hI) (Sq.rf _ _) rfl⟩) (by intros; first | (exfalso; grind [In, On, nI_eq]) | exact ⟨by grind [In, On, nI_eq], fin_e hI (Fs.rf hI) (Sq.rf _ _) rfl⟩)
    · refine X_iload_n (tk_X9_as.at 8 rfl) rfl ?_
      refine X_bipush (tk_X9_as.at 9 rfl) cb_7 ?_
      refine X_icmp_lt (tgt := 31) (tk_X9_as.at 10 rfl) (by decide) (fun c3 => ?_) (fun c3 => ?_)
      · have hcf : 0 ≤ x ∧ x ≤ 6 := by grind
        obtain ⟨f, ef, hf⟩ : ∃ f, x = nI f ∧ f ≤ 6 := ⟨nv x, (le_lits (a := 0) (b := 6) (by decide) hcf.1 hcf.2 (by decide)).1, (le_lits (a := 0) (b := 6) (by decide) hcf.1 hcf.2 (by decide)).2.2⟩
        have bk : (nv (N (80 + 9 * j8))) ≤ 6 := (hw.ro hj8).1.2
        refine X_aload_n (tk_X9_as.at 15 rfl) rfl ?_
        refine X_getR (tk_X9_as.at 16 rfl) fl_x9_12 hI.P0 rfl rfl ?_
        refine X_getR (tk_X9_as.at 17 rfl) fl_x9_127 hI.D.1 rfl rfl ?_
        refine X_iload_n (tk_X9_as.at 18 rfl) rfl ?_
        refine X_iconst (tk_X9_as.at 19 rfl) ci_0 ?_
        refine X_cV2i (lv2 := [(0, _), (1, _), (2, _)]) (tk_X9_as.at 20 rfl) mv_X3_get lk_x9_81 np_X3_get hI.D.2.2.2.1.1 (by decide) rfl (Nat.le_of_ble_eq_true rfl) (Nat.le_of_ble_eq_true rfl) rfl (d_rg (k := 80 + 9 * j8) (p := j8) (c := 0) hI.D hw hr ej8 (by omega) (pz (pl 0 rfl) (by omega)) (by omega) (by omega) ?_)
        refine X_iload_n (tk_X9_as.at 21 rfl) rfl ?_
        refine X_cS2i (lv2 := [(0, _), (1, _)]) (tk_X9_as.at 22 rfl) ms_X9_isUnder lk_x9_152 np_X9_isUnder (Nat.le_of_ble_eq_true rfl) (Nat.le_of_ble_eq_true rfl) rfl (c9_isUnder (k := (nv (N (80 + 9 * j8)))) (a := f) hI.st (pz (hw.ro hj8).1.1 (by omega)) (by omega) ef (by omega) (fun h44 => ?_) (fun h44 => ?_))
        · refine X_if_ne (tgt := 57) (tk_X9_as.at 23 rfl) (by decide) (fun _ => ?_) (fun h => absurd h (by decide))
          refine X_aload_n (tk_X9_as.at 28 rfl) rfl ?_
          refine X_getR (tk_X9_as.at 29 rfl) fl_x9_12 hI.P0 rfl rfl ?_
          refine X_getR (tk_X9_as.at 30 rfl) fl_x9_127 hI.D.1 rfl rfl ?_
          refine X_iload_n (tk_X9_as.at 31 rfl) rfl ?_
          refine X_iconst (tk_X9_as.at 32 rfl) ci_2 ?_
          refine X_cV2i (lv2 := [(0, _), (1, _), (2, _)]) (tk_X9_as.at 33 rfl) mv_X3_get lk_x9_81 np_X3_get hI.D.2.2.2.1.1 (by decide) rfl (Nat.le_of_ble_eq_true rfl) (Nat.le_of_ble_eq_true rfl) rfl (d_rg (k := 82 + 9 * j8) (p := j8) (c := 2) hI.D hw hr ej8 (by omega) (pz (pl 2 rfl) (by omega)) (by omega) (by omega) ?_)
          refine X_ireturn (tk_X9_as.at 34 rfl) rfl rfl ?_
          have rg6 : ∀ f, f ≤ 6 → 0 ≤ nI f ∧ nI f ≤ 6 := fun f h => rng rfl h (by decide)
          refine n10_as (N := N) hI.M hN hw (by intros; first | (exfalso; grind [In, On, nI_eq]) | exact ⟨by grind [In, On, nI_eq], fin_s hI (Fs.rf hI) (Sq.rf _ _) rfl⟩) (by intros; first | (exfalso; grind [In, On, nI_eq]) | exact ⟨by grind [In, On, nI_eq], fin_s hI (Fs.rf hI) (Sq.rf _ _) rfl⟩) (by intros; first | (exfalso; grind [In, On, nI_eq]) | exact ⟨by grind [In, On, nI_eq], fin_s hI (Fs.rf hI) (Sq.rf _ _) rfl⟩)
        · refine X_if_ne (tgt := 57) (tk_X9_as.at 23 rfl) (by decide) (fun h => absurd h (by decide)) (fun _ => ?_)
          refine X_aload_n (tk_X9_as.at 24 rfl) rfl ?_
          refine X_ldc (tk_X9_as.at 25 rfl) kn_x9_156 ?_
          refine X_cV1i (lv2 := [(0, _), (1, _)]) (tk_X9_as.at 26 rfl) mv_X9_fail lk_x9_77 np_X9_fail hI.P0 (by decide) rfl (Nat.le_of_ble_eq_true rfl) (Nat.le_of_ble_eq_true rfl) rfl (c9_fail (k := 5) hI.P0 hI.E (by decide) (by decide) ?_)
          refine X_ireturn (tk_X9_as.at 27 rfl) rfl rfl ?_
          have rg6 : ∀ f, f ≤ 6 → 0 ≤ nI f ∧ nI f ≤ 6 := fun f h => rng rfl h (by decide)
          refine n10_as (N := N) hI.M (by rw [su_ne (by omega)]; exact hN) hw (by intros; first | (exfalso; grind [In, On, nI_eq]) | exact ⟨by grind [In, On, nI_eq], fin_e hI (Fs.rf hI) (Sq.rf _ _) rfl⟩) (by intros; first | (exfalso; grind [In, On, nI_eq]) | exact ⟨by grind [In, On, nI_eq], fin_e hI (Fs.rf hI) (Sq.rf _ _) rfl⟩) (by intros; first | (exfalso; grind [In, On, nI_eq]) | exact ⟨by grind [In, On, nI_eq], fin_e hI (Fs.rf hI) (Sq.rf _ _) rfl⟩)
      · refine X_aload_n (tk_X9_as.at 11 rfl) rfl ?_
        refine X_ldc (tk_X9_as.at 12 rfl) kn_x9_76 ?_
        refine X_cV1i (lv2 := [(0, _), (1, _)]) (tk_X9_as.at 13 rfl) mv_X9_fail lk_x9_77 np_X9_fail hI.P0 (by decide) rfl (Nat.le_of_ble_eq_true rfl) (Nat.le_of_ble_eq_true rfl) rfl (c9_fail (k := 1) hI.P0 hI.E (by decide) (by decide) ?_)
        refine X_ireturn (tk_X9_as.at 14 rfl) rfl rfl ?_
        have rg6 : ∀ f, f ≤ 6 → 0 ≤ nI f ∧ nI f ≤ 6 := fun f h => rng rfl h (by decide)
        refine n10_as (N := N) hI.M (by rw [su_ne (by omega)]; exact hN) hw (by intros; first | (exfalso; grind [In, On, nI_eq]) | exact ⟨by grind [In, On, nI_eq], fin_e hI (Fs.rf hI) (Sq.rf _ _) rfl⟩) (by intros; first | (exfalso; grind [In, On, nI_eq]) | exact ⟨by grind [In, On, nI_eq], fin_e hI (Fs.rf hI) (Sq.rf _ _) rfl⟩) (by intros; first | (exfalso; grind [In, On, nI_eq]) | exact ⟨by grind [In, On, nI_eq], fin_e hI (Fs.rf hI) (Sq.rf _ _) rfl⟩)
  · refine X_if_eq (tgt := 24) (tk_X9_as.at 5 rfl) (by decide) (fun _ => ?_) (fun h => absurd h (by decide))
    refine X_aload_n (tk_X9_as.at 11 rfl) rfl ?_
    refine X_ldc (tk_X9_as.at 12 rfl) kn_x9_76 ?_
    refine X_cV1i (lv2 := [(0, _), (1, _)]) (tk_X9_as.at 13 rfl) mv_X9_fail lk_x9_77 np_X9_fail hI.P0 (by decide) rfl (Nat.le_of_ble_eq_true rfl) (Nat.le_of_ble_eq_true rfl) rfl (c9_fail (k := 1) hI.P0 hI.E (by decide) (by decide) ?_)
    refine X_ireturn (tk_X9_as.at 14 rfl) rfl rfl ?_
    have rg6 : ∀ f, f ≤ 6 → 0 ≤ nI f ∧ nI f ≤ 6 := fun f h => rng rfl h (by decide)
    refine n10_as (N := N) hI.M (by rw [su_ne (by omega)]; exact hN) hw (by intros; first | (exfalso; grind [In, On, nI_eq]) | exact ⟨by grind [In, On, nI_eq], fin_e hI (Fs.rf hI) (Sq.rf _ _) rfl⟩) (by intros; first | (exfalso; grind [In, On, nI_eq]) | exact ⟨by grind [In, On, nI_eq], fin_e hI (Fs.rf hI) (Sq.rf _ _) rfl⟩) (by intros; first | (exfalso; grind [In, On, nI_eq]) | exact ⟨by grind [In, On, nI_eq], fin_e hI (Fs.rf hI) (Sq.rf _ _) rfl⟩)
set_option maxHeartbeats 1000000 in
theorem t_ofRope {G : Gl} {d : Nat} {S : Sh} {μ : Mu} {P o t q im : Nat} {kp : Option Nat} {r x : Int32} (hI : Inv G S P o kp t q im μ) : X G mi_X9_ofRope (d + 60) 0 0 [(0, .ref P), (1, .int r), (2, .int x)] [] S μ (qi (fun an S1 μ1 => X G mi_X10_ofRope (d + 60) 0 0 [(0, .ref o), (1, .int r), (2, .int x)] [] S1 μ1 (qi (Eq2 G P o im an)))) := by
  obtain ⟨N, hN⟩ : ∃ N, μ (o + 1) = N := ⟨_, rfl⟩
  have hw : WF N := hN ▸ hI.wf
  have hr : repD μ (P + 1) N := hN ▸ hI.rep
  have lo := hI.lo
  have b1 := hw.n1.2
  have b2 := hw.n2.2
  have b3 := hw.n3.2
  have b4 := hw.n4.2
  have b5 := hw.n5.2
  have b6 := hw.n6.2
  have hun : ∀ r i r' i' p, On N r i p → On N r' i' p → r = r' ∧ i = i' := fun _ _ _ _ _ h1 h2 => hw.un h1 h2
  have hlu : ∀ k k', k < nv (N 4) → k' < nv (N 4) → N (134 + k) = N (134 + k') → k = k' := fun _ _ h1 h2 e => hw.lu h1 h2 e
  have hnz : nI 0 = 0 := rfl
  refine X_aload_n (tk_X9_ofRope.at 0 rfl) rfl ?_
  refine X_getR (tk_X9_ofRope.at 1 rfl) fl_x9_12 hI.P0 rfl rfl ?_
  refine X_getR (tk_X9_ofRope.at 2 rfl) fl_x9_127 hI.D.1 rfl rfl ?_
  refine X_iload_n (tk_X9_ofRope.at 3 rfl) rfl ?_
  refine X_cV1i (lv2 := [(0, _), (1, _)]) (tk_X9_ofRope.at 4 rfl) mv_X3_has lk_x9_70 np_X3_has hI.D.2.2.2.1.1 (by decide) rfl (Nat.le_of_ble_eq_true rfl) (Nat.le_of_ble_eq_true rfl) rfl (d_ohas hI.D hw hr (fun j8 hj8 ej8 => ?_) (fun hj8 => ?_))
  · refine X_if_eq (tgt := 24) (tk_X9_ofRope.at 5 rfl) (by decide) (fun h => absurd h (by decide)) (fun _ => ?_)
    refine X_iload_n (tk_X9_ofRope.at 6 rfl) rfl ?_
    refine X_if_lt (tgt := 24) (tk_X9_ofRope.at 7 rfl) (by decide) (fun c2 => ?_) (fun c2 => ?_)
    · refine X_aload_n (tk_X9_ofRope.at 11 rfl) rfl ?_
      refine X_ldc (tk_X9_ofRope.at 12 rfl) kn_x9_76 ?_
      refine X_cV1i (lv2 := [(0, _), (1, _)]) (tk_X9_ofRope.at 13 rfl) mv_X9_fail lk_x9_77 np_X9_fail hI.P0 (by decide) rfl (Nat.le_of_ble_eq_true rfl) (Nat.le_of_ble_eq_true rfl) rfl (c9_fail (k := 1) hI.P0 hI.E (by decide) (by decide) ?_)
      refine X_ireturn (tk_X9_ofRope.at 14 rfl) rfl rfl ?_
      have rg9 : ∀ f, f ≤ 9 → 0 ≤ nI f ∧ nI f ≤ 9 := fun f h => rng rfl h (by decide)
      refine n10_ofRope (N := N) hI.M (by rw [su_ne (by omega)]; exact hN) hw (by intros; first | (exfalso; grind [In, On, nI_eq]) | exact ⟨by grind [In, On, nI_eq], fin_e hI (Fs.rf hI) (Sq.rf _ _) rfl⟩) (by intros; first | (exfalso; grind [In, On, nI_eq]) | exact ⟨by grind [In, On, nI_eq], fin_e hI (Fs.rf hI) (Sq.rf _ _) rfl⟩) (by intros; first | (exfalso; grind [In, On, nI_eq]) | exact ⟨by grind [In, On, nI_eq], fin_e hI (Fs.rf hI) (Sq.rf _ _) rfl⟩) (by intros; first | (exfalso; grind [In, On, nI_eq]) | exact ⟨by grind [In, On, nI_eq], fin_e hI (Fs.rf hI) (Sq.rf _ _) rfl⟩) (by intros; first | (exfalso; grind [In, On, nI_eq]) | exact ⟨by grind [In, On, nI_eq], fin_e hI (Fs.rf hI) (Sq.rf _ _) rfl⟩) (by intros; first | (exfalso; grind [In, On, nI_eq]) | exact ⟨by grind [In, On, nI_eq], fin_e hI (Fs.rf hI) (Sq.rf _ _) rfl⟩)
    · refine X_iload_n (tk_X9_ofRope.at 8 rfl) rfl ?_
      refine X_bipush (tk_X9_ofRope.at 9 rfl) cb_10 ?_
      refine X_icmp_lt (tgt := 31) (tk_X9_ofRope.at 10 rfl) (by decide) (fun c3 => ?_) (fun c3 => ?_)
      · have hcf : 0 ≤ x ∧ x ≤ 9 := by grind
        obtain ⟨f, ef, hf⟩ : ∃ f, x = nI f ∧ f ≤ 9 := ⟨nv x, (le_lits (a := 0) (b := 9) (by decide) hcf.1 hcf.2 (by decide)).1, (le_lits (a := 0) (b := 9) (by decide) hcf.1 hcf.2 (by decide)).2.2⟩
        refine X_iload_n (tk_X9_ofRope.at 15 rfl) rfl ?_
        refine X_iconst (tk_X9_ofRope.at 16 rfl) ci_3 ?_
        refine X_icmp_geN (tgt := 49) (tk_X9_ofRope.at 17 rfl) (by decide) ef (pl 3 rfl) (by omega) (by omega) (fun c4 => ?_) (fun c4 => ?_)
        · refine X_iload_n (tk_X9_ofRope.at 25 rfl) rfl ?_
          refine X_iconst (tk_X9_ofRope.at 26 rfl) ci_3 ?_
          refine X_icmp_neN (tgt := 66) (tk_X9_ofRope.at 27 rfl) (by decide) ef (pl 3 rfl) (by omega) (by omega) (fun c5 => ?_) (fun c5 => ?_)
          · refine X_iload_n (tk_X9_ofRope.at 34 rfl) rfl ?_
            refine X_iconst (tk_X9_ofRope.at 35 rfl) ci_4 ?_
            refine X_icmp_neN (tgt := 83) (tk_X9_ofRope.at 36 rfl) (by decide) ef (pl 4 rfl) (by omega) (by omega) (fun c6 => ?_) (fun c6 => ?_)
            · refine X_aload_n (tk_X9_ofRope.at 43 rfl) rfl ?_
              refine X_getR (tk_X9_ofRope.at 44 rfl) fl_x9_12 hI.P0 rfl rfl ?_
              refine X_iload_n (tk_X9_ofRope.at 45 rfl) rfl ?_
              refine X_cV1r (lv2 := [(0, _), (1, _)]) (tk_X9_ofRope.at 46 rfl) mv_X2_rowOf lk_x9_131 np_X2_rowOf hI.D.1 (by decide) rfl (Nat.le_of_ble_eq_true rfl) (Nat.le_of_ble_eq_true rfl) rfl (d_rowOf (r := j8) hI.D hw hr ej8 (by omega) ?_)
              refine X_iload_n (tk_X9_ofRope.at 47 rfl) rfl ?_
              refine X_iconst (tk_X9_ofRope.at 48 rfl) ci_5 ?_
              refine X_isub (tk_X9_ofRope.at 49 rfl) ?_
              obtain ⟨y, ef5⟩ : ∃ y, f = 5 + y := ⟨f - 5, by omega⟩
              have e94 : x - 5 = nI y := by rw [ef, ef5, show (5 : Int32) = nI 5 from rfl, pk_sub (by omega)]; congr 1; omega
              refine X_cV1i (lv2 := [(0, _), (1, _)]) (tk_X9_ofRope.at 50 rfl) mv_X6_at lk_x9_151 np_X6_at (DS_r hI.D (by omega)).1 (by decide) rfl (Nat.le_of_ble_eq_true rfl) (Nat.le_of_ble_eq_true rfl) rfl (c6_at (DS_r hI.D (by omega)) (rD_rs1 hw hr hj8) (hw.mb hj8) (by decide) (fun i94 hi94 ei94 => ?_) (fun h94 => ?_))
              · rw [rD_ra1 hw hr hj8 hi94]
                have ey : y = i94 := nI_j e94 ei94 (by omega) (by have := hw.mb hj8; omega)
                refine X_ireturn (tk_X9_ofRope.at 51 rfl) rfl rfl ?_
                have em8 : N (83 + 9 * j8) = nI (mny N j8) := (hw.ro hj8).2.2.2.1.1
                have rg9 : ∀ f, f ≤ 9 → 0 ≤ nI f ∧ nI f ≤ 9 := fun f h => rng rfl h (by decide)
                refine n10_ofRope (N := N) hI.M hN hw (by intros; first | (exfalso; grind [In, On, nI_eq]) | exact ⟨by grind [In, On, nI_eq], fin_s hI (Fs.rf hI) (Sq.rf _ _) rfl⟩) (by intros; first | (exfalso; grind [In, On, nI_eq]) | exact ⟨by grind [In, On, nI_eq], fin_s hI (Fs.rf hI) (Sq.rf _ _) rfl⟩) (by intros; first | (exfalso; grind [In, On, nI_eq]) | exact ⟨by grind [In, On, nI_eq], fin_s hI (Fs.rf hI) (Sq.rf _ _) rfl⟩) (by intros; first | (exfalso; grind [In, On, nI_eq]) | exact ⟨by grind [In, On, nI_eq], fin_s hI (Fs.rf hI) (Sq.rf _ _) rfl⟩) (by intros; first | (exfalso; grind [In, On, nI_eq]) | exact ⟨by grind [In, On, nI_eq], fin_s hI (Fs.rf hI) (Sq.rf _ _) rfl⟩) (by intros; first | (exfalso; grind [In, On, nI_eq]) | exact ⟨by grind [In, On, nI_eq], fin_s hI (Fs.rf hI) (Sq.rf _ _) rfl⟩)
              · have ey : mny N j8 ≤ y := Nat.not_lt.mp (fun g => h94 ⟨y, g, e94⟩)
                refine X_ireturn (tk_X9_ofRope.at 51 rfl) rfl rfl ?_
                have em8 : N (83 + 9 * j8) = nI (mny N j8) := (hw.ro hj8).2.2.2.1.1
                have rg9 : ∀ f, f ≤ 9 → 0 ≤ nI f ∧ nI f ≤ 9 := fun f h => rng rfl h (by decide)
                refine n10_ofRope (N := N) hI.M hN hw (by intros; first | (exfalso; grind [In, On, nI_eq]) | exact ⟨by grind [In, On, nI_eq], fin_s hI (Fs.rf hI) (Sq.rf _ _) rfl⟩) (by intros; first | (exfalso; grind [In, On, nI_eq]) | exact ⟨by grind [In, On, nI_eq], fin_s hI (Fs.rf hI) (Sq.rf _ _) rfl⟩) (by intros; first | (exfalso; grind [In, On, nI_eq]) | exact ⟨by grind [In, On, nI_eq], fin_s hI (Fs.rf hI) (Sq.rf _ _) rfl⟩) (by intros; first | (exfalso; grind [In, On, nI_eq]) | exact ⟨by grind [In, On, nI_eq], fin_s hI (Fs.rf hI) (Sq.rf _ _) rfl⟩) (by intros; first | (exfalso; grind [In, On, nI_eq]) | exact ⟨by grind [In, On, nI_eq], fin_s hI (Fs.rf hI) (Sq.rf _ _) rfl⟩) (by intros; first | (exfalso; grind [In, On, nI_eq]) | exact ⟨by grind [In, On, nI_eq], fin_s hI (Fs.rf hI) (Sq.rf _ _) rfl⟩)
            · refine X_aload_n (tk_X9_ofRope.at 37 rfl) rfl ?_
              refine X_getR (tk_X9_ofRope.at 38 rfl) fl_x9_12 hI.P0 rfl rfl ?_
              refine X_getR (tk_X9_ofRope.at 39 rfl) fl_x9_146 hI.D.1 rfl rfl ?_
              refine X_iload_n (tk_X9_ofRope.at 40 rfl) rfl ?_
              refine X_cV1i (lv2 := [(0, _), (1, _)]) (tk_X9_ofRope.at 41 rfl) mv_X6_placeOf lk_x9_150 np_X6_placeOf hI.D.2.2.2.2.1.1 (by decide) rfl (Nat.le_of_ble_eq_true rfl) (Nat.le_of_ble_eq_true rfl) rfl (d_lpl hI.D hw hr (fun i79 hi79 h79 => ?_) (fun h79 => ?_))
              · refine X_ireturn (tk_X9_ofRope.at 42 rfl) rfl rfl ?_
                have em8 : N (83 + 9 * j8) = nI (mny N j8) := (hw.ro hj8).2.2.2.1.1
                have rg9 : ∀ f, f ≤ 9 → 0 ≤ nI f ∧ nI f ≤ 9 := fun f h => rng rfl h (by decide)
                refine n10_ofRope (N := N) hI.M hN hw (by intros; first | (exfalso; grind [In, On, nI_eq]) | exact ⟨by grind [In, On, nI_eq], fin_s hI (Fs.rf hI) (Sq.rf _ _) rfl⟩) (by intros; first | (exfalso; grind [In, On, nI_eq]) | exact ⟨by grind [In, On, nI_eq], fin_s hI (Fs.rf hI) (Sq.rf _ _) rfl⟩) (by intros; first | (exfalso; grind [In, On, nI_eq]) | exact ⟨by grind [In, On, nI_eq], fin_s hI (Fs.rf hI) (Sq.rf _ _) rfl⟩) (by intros; first | (exfalso; grind [In, On, nI_eq]) | exact ⟨by grind [In, On, nI_eq], fin_s hI (Fs.rf hI) (Sq.rf _ _) rfl⟩) (by intros; first | (exfalso; grind [In, On, nI_eq]) | exact ⟨by grind [In, On, nI_eq], fin_s hI (Fs.rf hI) (Sq.rf _ _) rfl⟩) (by intros; first | (exfalso; grind [In, On, nI_eq]) | exact ⟨by grind [In, On, nI_eq], fin_s hI (Fs.rf hI) (Sq.rf _ _) rfl⟩)
              · refine X_ireturn (tk_X9_ofRope.at 42 rfl) rfl rfl ?_
                have em8 : N (83 + 9 * j8) = nI (mny N j8) := (hw.ro hj8).2.2.2.1.1
                have rg9 : ∀ f, f ≤ 9 → 0 ≤ nI f ∧ nI f ≤ 9 := fun f h => rng rfl h (by decide)
                refine n10_ofRope (N := N) hI.M hN hw (by intros; first | (exfalso; grind [In, On, nI_eq]) | exact ⟨by grind [In, On, nI_eq], fin_s hI (Fs.rf hI) (Sq.rf _ _) rfl⟩) (by intros; first | (exfalso; grind [In, On, nI_eq]) | exact ⟨by grind [In, On, nI_eq], fin_s hI (Fs.rf hI) (Sq.rf _ _) rfl⟩) (by intros; first | (exfalso; grind [In, On, nI_eq]) | exact ⟨by grind [In, On, nI_eq], fin_s hI (Fs.rf hI) (Sq.rf _ _) rfl⟩) (by intros; first | (exfalso; grind [In, On, nI_eq]) | exact ⟨by grind [In, On, nI_eq], fin_s hI (Fs.rf hI) (Sq.rf _ _) rfl⟩) (by intros; first | (exfalso; grind [In, On, nI_eq]) | exact ⟨by grind [In, On, nI_eq], fin_s hI (Fs.rf hI) (Sq.rf _ _) rfl⟩) (by intros; first | (exfalso; grind [In, On, nI_eq]) | exact ⟨by grind [In, On, nI_eq], fin_s hI (Fs.rf hI) (Sq.rf _ _) rfl⟩)
          · refine X_aload_n (tk_X9_ofRope.at 28 rfl) rfl ?_
            refine X_getR (tk_X9_ofRope.at 29 rfl) fl_x9_12 hI.P0 rfl rfl ?_
            refine X_iload_n (tk_X9_ofRope.at 30 rfl) rfl ?_
            refine X_cV1r (lv2 := [(0, _), (1, _)]) (tk_X9_ofRope.at 31 rfl) mv_X2_rowOf lk_x9_131 np_X2_rowOf hI.D.1 (by decide) rfl (Nat.le_of_ble_eq_true rfl) (Nat.le_of_ble_eq_true rfl) rfl (d_rowOf (r := j8) hI.D hw hr ej8 (by omega) ?_)
            refine X_cV0i (lv2 := [(0, _)]) (tk_X9_ofRope.at 32 rfl) mv_X6_size lk_x9_142 np_X6_size (hI.D.2.2.2.2.2.2.2.2.2.2.2 j8 (by omega)).1 (by decide) rfl (Nat.le_of_ble_eq_true rfl) (Nat.le_of_ble_eq_true rfl) rfl (d_rsz hI.D hw hr (by omega) ?_)
            refine X_ireturn (tk_X9_ofRope.at 33 rfl) rfl rfl ?_
            have em8 : N (83 + 9 * j8) = nI (mny N j8) := (hw.ro hj8).2.2.2.1.1
            have rg9 : ∀ f, f ≤ 9 → 0 ≤ nI f ∧ nI f ≤ 9 := fun f h => rng rfl h (by decide)
            refine n10_ofRope (N := N) hI.M hN hw (by intros; first | (exfalso; grind [In, On, nI_eq]) | exact ⟨by grind [In, On, nI_eq], fin_s hI (Fs.rf hI) (Sq.rf _ _) rfl⟩) (by intros; first | (exfalso; grind [In, On, nI_eq]) | exact ⟨by grind [In, On, nI_eq], fin_s hI (Fs.rf hI) (Sq.rf _ _) rfl⟩) (by intros; first | (exfalso; grind [In, On, nI_eq]) | exact ⟨by grind [In, On, nI_eq], fin_s hI (Fs.rf hI) (Sq.rf _ _) rfl⟩) (by intros; first | (exfalso; grind [In, On, nI_eq]) | exact ⟨by grind [In, On, nI_eq], fin_s hI (Fs.rf hI) (Sq.rf _ _) rfl⟩) (by intros; first | (exfalso; grind [In, On, nI_eq]) | exact ⟨by grind [In, On, nI_eq], fin_s hI (Fs.rf hI) (Sq.rf _ _) rfl⟩) (by intros; first | (exfalso; grind [In, On, nI_eq]) | exact ⟨by grind [In, On, nI_eq], fin_s hI (Fs.rf hI) (Sq.rf _ _) rfl⟩)
        · refine X_aload_n (tk_X9_ofRope.at 18 rfl) rfl ?_
          refine X_getR (tk_X9_ofRope.at 19 rfl) fl_x9_12 hI.P0 rfl rfl ?_
          refine X_getR (tk_X9_ofRope.at 20 rfl) fl_x9_127 hI.D.1 rfl rfl ?_
          refine X_iload_n (tk_X9_ofRope.at 21 rfl) rfl ?_
          refine X_iload_n (tk_X9_ofRope.at 22 rfl) rfl ?_
          refine X_cV2i (lv2 := [(0, _), (1, _), (2, _)]) (tk_X9_ofRope.at 23 rfl) mv_X3_get lk_x9_81 np_X3_get hI.D.2.2.2.1.1 (by decide) rfl (Nat.le_of_ble_eq_true rfl) (Nat.le_of_ble_eq_true rfl) rfl (d_rg (k := 80 + 9 * j8 + f) (p := j8) (c := f) hI.D hw hr ej8 (by omega) ef (by omega) (by omega) ?_)
          refine X_ireturn (tk_X9_ofRope.at 24 rfl) rfl rfl ?_
          have em8 : N (83 + 9 * j8) = nI (mny N j8) := (hw.ro hj8).2.2.2.1.1
          have rg9 : ∀ f, f ≤ 9 → 0 ≤ nI f ∧ nI f ≤ 9 := fun f h => rng rfl h (by decide)
          refine n10_ofRope (N := N) hI.M hN hw (by intros; first | (exfalso; grind [In, On, nI_eq]) | exact ⟨by grind [In, On, nI_eq], fin_s hI (Fs.rf hI) (Sq.rf _ _) rfl⟩) (by intros; first | (exfalso; grind [In, On, nI_eq]) | exact ⟨by grind [In, On, nI_eq], fin_s hI (Fs.rf hI) (Sq.rf _ _) rfl⟩) (by intros; first | (exfalso; grind [In, On, nI_eq]) | exact ⟨by grind [In, On, nI_eq], fin_s hI (Fs.rf hI) (Sq.rf _ _) rfl⟩) (by intros; first | (exfalso; grind [In, On, nI_eq]) | exact ⟨by grind [In, On, nI_eq], fin_s hI (Fs.rf hI) (Sq.rf _ _) rfl⟩) (by intros; first | (exfalso; grind [In, On, nI_eq]) | exact ⟨by grind [In, On, nI_eq], fin_s hI (Fs.rf hI) (Sq.rf _ _) rfl⟩) (by intros; first | (exfalso; grind [In, On, nI_eq]) | exact ⟨by grind [In, On, nI_eq], fin_s hI (Fs.rf hI) (Sq.rf _ _) rfl⟩)
      · refine X_aload_n (tk_X9_ofRope.at 11 rfl) rfl ?_
        refine X_ldc (tk_X9_ofRope.at 12 rfl) kn_x9_76 ?_
        refine X_cV1i (lv2 := [(0, _), (1, _)]) (tk_X9_ofRope.at 13 rfl) mv_X9_fail lk_x9_77 np_X9_fail hI.P0 (by decide) rfl (Nat.le_of_ble_eq_true rfl) (Nat.le_of_ble_eq_true rfl) rfl (c9_fail (k := 1) hI.P0 hI.E (by decide) (by decide) ?_)
        refine X_ireturn (tk_X9_ofRope.at 14 rfl) rfl rfl ?_
        have rg9 : ∀ f, f ≤ 9 → 0 ≤ nI f ∧ nI f ≤ 9 := fun f h => rng rfl h (by decide)
        refine n10_ofRope (N := N) hI.M (by rw [su_ne (by omega)]; exact hN) hw (by intros; first | (exfalso; grind [In, On, nI_eq]) | exact ⟨by grind [In, On, nI_eq], fin_e hI (Fs.rf hI) (Sq.rf _ _) rfl⟩) (by intros; first | (exfalso; grind [In, On, nI_eq]) | exact ⟨by grind [In, On, nI_eq], fin_e hI (Fs.rf hI) (Sq.rf _ _) rfl⟩) (by intros; first | (exfalso; grind [In, On, nI_eq]) | exact ⟨by grind [In, On, nI_eq], fin_e hI (Fs.rf hI) (Sq.rf _ _) rfl⟩) (by intros; first | (exfalso; grind [In, On, nI_eq]) | exact ⟨by grind [In, On, nI_eq], fin_e hI (Fs.rf hI) (Sq.rf _ _) rfl⟩) (by intros; first | (exfalso; grind [In, On, nI_eq]) | exact ⟨by grind [In, On, nI_eq], fin_e hI (Fs.rf hI) (Sq.rf _ _) rfl⟩) (by intros; first | (exfalso; grind [In, On, nI_eq]) | exact ⟨by grind [In, On, nI_eq], fin_e hI (Fs.rf hI) (Sq.rf _ _) rfl⟩)
  · refine X_if_eq (tgt := 24) (tk_X9_ofRope.at 5 rfl) (by decide) (fun _ => ?_) (fun h => absurd h (by decide))
    refine X_aload_n (tk_X9_ofRope.at 11 rfl) rfl ?_
    refine X_ldc (tk_X9_ofRope.at 12 rfl) kn_x9_76 ?_
    refine X_cV1i (lv2 := [(0, _), (1, _)]) (tk_X9_ofRope.at 13 rfl) mv_X9_fail lk_x9_77 np_X9_fail hI.P0 (by decide) rfl (Nat.le_of_ble_eq_true rfl) (Nat.le_of_ble_eq_true rfl) rfl (c9_fail (k := 1) hI.P0 hI.E (by decide) (by decide) ?_)
    refine X_ireturn (tk_X9_ofRope.at 14 rfl) rfl rfl ?_
    have rg9 : ∀ f, f ≤ 9 → 0 ≤ nI f ∧ nI f ≤ 9 := fun f h => rng rfl h (by decide)
    refine n10_ofRope (N := N) hI.M (by rw [su_ne (by omega)]; exact hN) hw (by intros; first | (exfalso; grind [In, On, nI_eq]) | exact ⟨by grind [In, On, nI_eq], fin_e hI (Fs.rf hI) (Sq.rf _ _) rfl⟩) (by intros; first | (exfalso; grind [In, On, nI_eq]) | exact ⟨by grind [In, On, nI_eq], fin_e hI (Fs.rf hI) (Sq.rf _ _) rfl⟩) (by intros; first | (exfalso; grind [In, On, nI_eq]) | exact ⟨by grind [In, On, nI_eq], fin_e hI (Fs.rf hI) (Sq.rf _ _) rfl⟩) (by intros; first | (exfalso; grind [In, On, nI_eq]) | exact ⟨by grind [In, On, nI_eq], fin_e hI (Fs.rf hI) (Sq.rf _ _) rfl⟩) (by intros; first | (exfalso; grind [In, On, nI_eq]) | exact ⟨by grind [In, On, nI_eq], fin_e hI (Fs.rf hI) (Sq.rf _ _) rfl⟩) (by intros; first | (exfalso; grind [In, On, nI_eq]) | exact ⟨by grind [In, On, nI_eq], fin_e hI (Fs.rf hI) (Sq.rf _ _) rfl⟩)
