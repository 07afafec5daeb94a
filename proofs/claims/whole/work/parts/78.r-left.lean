theorem WF.l1 {N : Nat → Int32} (hw : WF N) {k : Nat} (hk : k < nv (N 4)) (e : N (134 + k) = -1) : False := by
  have h := (hw.li hk).1
  rw [e] at h
  exact absurd h (by decide)
theorem repD_rw {μ ν : Mu} {D : Nat} {N M : Nat → Int32} {r m : Nat} (hw : WF N) (h : repD μ D N) (h3 : r < nv (N 3)) (hν : ∀ a, a ≠ D + 20 + 2 * r → a ≠ D + 20 + 2 * r + 1 → ν a = μ a) (hN : ∀ a, a < 83 + 9 * r ∨ 89 + 9 * r ≤ a → M a = N a) (hm : m ≤ 5) (h1 : ν (D + 20 + 2 * r) 1 = nI m) (h2 : M (83 + 9 * r) = nI m) (hc : ∀ i, i < m → ν (D + 20 + 2 * r + 1) i = M (84 + 9 * r + i)) : repD ν D M :=
  repD_row hw h h3 hν hN ⟨h1.trans h2.symm, fun i hi => hc i (by rw [h2, nv_nI (by omega)] at hi; exact hi)⟩
theorem rD_rs1 {μ : Mu} {D : Nat} {N : Nat → Int32} (hw : WF N) (h : repD μ D N) {r : Nat} (h3 : r < nv (N 3)) : μ (D + 20 + 2 * r) 1 = nI (mny N r) := by
  rw [rD_rsz hw h (by have := hw.n3.2; omega), mR_t h3]
theorem rD_ra1 {μ : Mu} {D : Nat} {N : Nat → Int32} (hw : WF N) (h : repD μ D N) {r i : Nat} (h3 : r < nv (N 3)) (hi : i < mny N r) : μ (D + 20 + 2 * r + 1) i = N (84 + 9 * r + i) := rD_rat h (by have := hw.n3.2; omega) (by rw [mR_t h3]; exact hi)
theorem DS_r {G : Gl} {S : Sh} {D : Nat} (h : DS G S D) {r : Nat} (hr : r < 6) : RS S (D + 20 + 2 * r) 5 := h.2.2.2.2.2.2.2.2.2.2.2 r hr
/-- one of a row of people out -/
theorem repD_del {μ : Mu} {D : Nat} {N : Nat → Int32} {r i : Nat} (hw : WF N) (h : repD μ D N) (h3 : r < nv (N 3)) (hi : i < mny N r) : repD (su (Mx μ (D + 20 + 2 * r + 1) (rmv (μ (D + 20 + 2 * r + 1)) i (mny N r - 1))) (D + 20 + 2 * r) 1 (nI (mny N r - 1))) D (delN N r (mny N r) i) := by
  have b5 := hw.mb h3
  refine repD_rw hw h h3 (fun a h1 h2 => by rw [su_ne h1, Mx_ne h2]) (fun a ha => delN_o b5 ha) (show mny N r - 1 ≤ 5 by omega) (by rw [su_same]; exact upd_at _ _ _) (delN_c hi) (fun k hk => ?_)
  rw [su_ne (by omega), Mx_same, delN_s hk]
  unfold rmv
  by_cases c : k < i
  · rw [if_neg (by omega), if_pos c]; exact rD_ra1 hw h h3 (by omega)
  · rw [if_pos (by omega), if_neg c]; exact rD_ra1 hw h h3 (by omega)
set_option maxHeartbeats 1000000 in
theorem c0_chooseLeft {G : Gl} {d : Nat} {S : Sh} {μ : Mu} {H D : Nat} {N : Nat → Int32} {K : Sh → Mu → Prop} (hH : OS G S H) (hD : DS G S D) (hw : WF N) (hr : repD μ D N) (hnb : μ (H + 3 + 14) 1 = 0) (hdis : D + 32 ≤ H ∨ H + 41 ≤ D) (hK : ∀ ν M, Fh H μ ν → repD ν (H + 3) M → BW H ν (bw (InL N) (tlD N) 0 (nv (N 1))) → K S ν) : X G mi_X0_chooseLeft (d + 6) 0 0 [(0, .ref H), (1, .ref D)] [] S μ (qv K) := by
  have b1 := hw.n1.2
  have b3 := hw.n3.2
  refine X_aload_n (tk_X0_chooseLeft.at 0 rfl) rfl ?_
  refine X_aload_n (tk_X0_chooseLeft.at 1 rfl) rfl ?_
  refine X_cV1v (lv2 := [(0, _), (1, _)]) (tk_X0_chooseLeft.at 2 rfl) mv_X0_begin lk_x0_46 np_X0_begin hH.1 (by decide) rfl (Nat.le_of_ble_eq_true rfl) (Nat.le_of_ble_eq_true rfl) rfl (c0_begin hH hD hw hr hnb hdis (fun ν hF hT hB => ?_))
  refine X_iconst (tk_X0_chooseLeft.at 3 rfl) ci_0 ?_
  refine X_istore_n (lv' := [(0, _), (1, _), (2, _)]) (tk_X0_chooseLeft.at 4 rfl) (by decide) rfl rfl ?_
  have loop : ∀ (m p : Nat) (ν : Mu) (rest : List (Nat × Value)), p + m = nv (N 1) → Fh H μ ν → repD ν (H + 3) N → BW H ν (bw (InL N) (tlD N) 0 p) → X G mi_X0_chooseLeft (d + 6) 0 7 ([(0, .ref H), (1, .ref D), (2, .int (nI p))] ++ rest) [] S ν (qv K) := by
    intro m
    induction m with
    | zero =>
      intro p ν rest hk hF hT hB
      refine X_lvp [0, 1, 2] (lv' := [(0, _), (1, _), (2, _)]) rfl ?_
      have hrν : repD ν D N := repD_of hr (fun a h1 h2 => hF a (by omega))
      have e : p = nv (N 1) := by omega
      refine X_iload_n (tk_X0_chooseLeft.at 5 rfl) rfl ?_
      refine X_aload_n (tk_X0_chooseLeft.at 6 rfl) rfl ?_
      refine X_getR (tk_X0_chooseLeft.at 7 rfl) fl_x0_110 hD.1 rfl rfl ?_
      refine X_cV0i (lv2 := [(0, _)]) (tk_X0_chooseLeft.at 8 rfl) mv_X3_size lk_x0_113 np_X3_size hD.2.1.1 (by decide) rfl (Nat.le_of_ble_eq_true rfl) (Nat.le_of_ble_eq_true rfl) rfl (d_psz hD hw hrν ?_)
      refine X_icmp_geN (tgt := 84) (tk_X0_chooseLeft.at 9 rfl) (by decide) (pl p rfl) (pl (nv (N 1)) rfl) (by omega) (by omega) (fun c1 => ?_) (fun c1 => (by exfalso; omega))
      refine X_return (tk_X0_chooseLeft.at 43 rfl) rfl ?_
      rw [e] at hB
      exact hK ν N hF hT hB
    | succ m ih =>
      intro p ν rest hk hF hT hB
      refine X_lvp [0, 1, 2] (lv' := [(0, _), (1, _), (2, _)]) rfl ?_
      have hrν : repD ν D N := repD_of hr (fun a h1 h2 => hF a (by omega))
      refine X_iload_n (tk_X0_chooseLeft.at 5 rfl) rfl ?_
      refine X_aload_n (tk_X0_chooseLeft.at 6 rfl) rfl ?_
      refine X_getR (tk_X0_chooseLeft.at 7 rfl) fl_x0_110 hD.1 rfl rfl ?_
      refine X_cV0i (lv2 := [(0, _)]) (tk_X0_chooseLeft.at 8 rfl) mv_X3_size lk_x0_113 np_X3_size hD.2.1.1 (by decide) rfl (Nat.le_of_ble_eq_true rfl) (Nat.le_of_ble_eq_true rfl) rfl (d_psz hD hw hrν ?_)
      refine X_icmp_geN (tgt := 84) (tk_X0_chooseLeft.at 9 rfl) (by decide) (pl p rfl) (pl (nv (N 1)) rfl) (by omega) (by omega) (fun c1 => (by exfalso; omega)) (fun c1 => ?_)
      refine X_aload_n (tk_X0_chooseLeft.at 10 rfl) rfl ?_
      refine X_iload_n (tk_X0_chooseLeft.at 11 rfl) rfl ?_
      refine X_cV1i (lv2 := [(0, _), (1, _)]) (tk_X0_chooseLeft.at 12 rfl) mv_X2_ropeOf lk_x0_116 np_X2_ropeOf hD.1 (by decide) rfl (Nat.le_of_ble_eq_true rfl) (Nat.le_of_ble_eq_true rfl) rfl (c2_ropeOf (p := p) hD hw hrν (pz (pl p rfl) (by omega)) (fun r20 i20 h20 => ?_) (fun h20 => ?_))
      · have hr20 := h20.1
        refine X_istore_n (lv' := [(0, _), (1, _), (2, _), (3, _)]) (tk_X0_chooseLeft.at 13 rfl) (by decide) rfl rfl ?_
        refine X_aload_n (tk_X0_chooseLeft.at 14 rfl) rfl ?_
        refine X_iload_n (tk_X0_chooseLeft.at 15 rfl) rfl ?_
        refine X_cV1i (lv2 := [(0, _), (1, _)]) (tk_X0_chooseLeft.at 16 rfl) mv_X2_isInLine lk_x0_119 np_X2_isInLine hD.1 (by decide) rfl (Nat.le_of_ble_eq_true rfl) (Nat.le_of_ble_eq_true rfl) rfl (c2_isInLine hD hw hrν (fun k26 hk26 h26 => ?_) (fun h26 => ?_))
        · refine X_if_eq (tgt := 78) (tk_X0_chooseLeft.at 17 rfl) (by decide) (fun h => absurd h (by decide)) (fun _ => ?_)
          have hi20 : i20 < mny N r20 := h20.2.1
          have bm := hw.mb h20.1
          refine X_aload_n (tk_X0_chooseLeft.at 18 rfl) rfl ?_
          refine X_getR (tk_X0_chooseLeft.at 19 rfl) fl_x0_30 hH.1 rfl rfl ?_
          refine X_iload_n (tk_X0_chooseLeft.at 20 rfl) rfl ?_
          refine X_cV1r (lv2 := [(0, _), (1, _)]) (tk_X0_chooseLeft.at 21 rfl) mv_X2_rowOf lk_x0_49 np_X2_rowOf hH.2.2.1.1 (by decide) rfl (Nat.le_of_ble_eq_true rfl) (Nat.le_of_ble_eq_true rfl) rfl (d_rowOf (r := r20) hH.2.2.1 hw hT (pz (pl r20 rfl) (by omega)) (by omega) ?_)
          refine X_astore (lv' := [(0, _), (1, _), (2, _), (3, _), (4, _)]) (tk_X0_chooseLeft.at 22 rfl) (by decide) rfl rfl ?_
          refine X_aload (tk_X0_chooseLeft.at 23 rfl) rfl ?_
          refine X_aload_n (tk_X0_chooseLeft.at 24 rfl) rfl ?_
          refine X_iload_n (tk_X0_chooseLeft.at 25 rfl) rfl ?_
          refine X_cV1i (lv2 := [(0, _), (1, _)]) (tk_X0_chooseLeft.at 26 rfl) mv_X2_placeOf lk_x0_123 np_X2_placeOf hD.1 (by decide) rfl (Nat.le_of_ble_eq_true rfl) (Nat.le_of_ble_eq_true rfl) rfl (c2_placeOf (p := p) hD hw hrν (pz (pl p rfl) (by omega)) (fun r46 i46 h46 => ?_) (fun h46 => absurd h20 (h46 r20 i20)))
          rw [show i46 = i20 from (hw.un h46 h20).2]
          refine X_cV1v (lv2 := [(0, _), (1, _)]) (tk_X0_chooseLeft.at 27 rfl) mv_X6_removeAt lk_x0_126 np_X6_removeAt (DS_r hH.2.2.1 (by omega)).1 (by decide) rfl (Nat.le_of_ble_eq_true rfl) (Nat.le_of_ble_eq_true rfl) rfl (c6_removeAt (DS_r hH.2.2.1 (by omega)) (rD_rs1 hw hT h20.1) bm (by decide) (fun j hj ej => ?_) (fun hno => absurd ⟨i20, hi20, rfl⟩ hno))
          rw [show j = i20 from ((nI_eq (by omega) (by omega)).mp ej).symm]
          have hT2 := repD_del hw hT h20.1 hi20
          generalize eζ : su (Mx ν ((H + 3 + 20 + 2 * r20) + 1) (rmv (ν ((H + 3 + 20 + 2 * r20) + 1)) i20 (mny N r20 - 1))) (H + 3 + 20 + 2 * r20) 1 (nI (mny N r20 - 1)) = ζ at hT2 ⊢
          have fζ : ∀ a, a ≠ (H + 3 + 20 + 2 * r20) → a ≠ (H + 3 + 20 + 2 * r20) + 1 → ζ a = ν a := fun a h1 h2 => by rw [← eζ, su_ne h1, Mx_ne h2]
          have wf := WF_del hw h20.1 h20.2.1
          have eo : outN N p = delN N r20 (mny N r20) i20 := by unfold outN; rw [pos_eq hw h20]
          refine X_aload_n (tk_X0_chooseLeft.at 28 rfl) rfl ?_
          refine X_iload_n (tk_X0_chooseLeft.at 29 rfl) rfl ?_
          refine X_aload_n (tk_X0_chooseLeft.at 30 rfl) rfl ?_
          refine X_getR (tk_X0_chooseLeft.at 31 rfl) fl_x0_37 hH.1 rfl rfl ?_
          refine X_aload_n (tk_X0_chooseLeft.at 32 rfl) rfl ?_
          refine X_getR (tk_X0_chooseLeft.at 33 rfl) fl_x0_30 hH.1 rfl rfl ?_
          refine X_cV1i (lv2 := [(0, _), (1, _)]) (tk_X0_chooseLeft.at 34 rfl) mv_X1_tollOf lk_x0_56 np_X1_tollOf hH.2.2.2.1 (by decide) rfl (Nat.le_of_ble_eq_true rfl) (Nat.le_of_ble_eq_true rfl) rfl (c0_toll hH wf hT2 (fun ξ hf1 hT1 ho1 => ?_))
          refine X_cV2v (lv2 := [(0, _), (1, _), (2, _)]) (tk_X0_chooseLeft.at 35 rfl) mv_X0_weigh lk_x0_83 np_X0_weigh hH.1 (by decide) rfl (Nat.le_of_ble_eq_true rfl) (Nat.le_of_ble_eq_true rfl) rfl (c0_weigh (tn := (toll (delN N r20 (mny N r20) i20))) (c := p) hH (BW_eq (BW_eq hB (fζ H (by omega) (by omega))) (hf1 H (by omega))) (pl (toll (delN N r20 (mny N r20) i20)) rfl) (toll_le wf) (pz (pl p rfl) (by omega)) (fun η hf2 hB2 => ?_))
          refine X_aload (tk_X0_chooseLeft.at 36 rfl) rfl ?_
          refine X_aload_n (tk_X0_chooseLeft.at 37 rfl) rfl ?_
          refine X_iload_n (tk_X0_chooseLeft.at 38 rfl) rfl ?_
          refine X_cV1r (lv2 := [(0, _), (1, _)]) (tk_X0_chooseLeft.at 39 rfl) mv_X2_rowOf lk_x0_49 np_X2_rowOf hD.1 (by decide) rfl (Nat.le_of_ble_eq_true rfl) (Nat.le_of_ble_eq_true rfl) rfl (c2_rowOf (r := r20) hD rfl (by omega) ?_)
          have hrη : repD η D N := repD_of hr (fun a h1 h2 => by rw [hf2 a (by omega), hf1 a (by omega), fζ a (by omega) (by omega)]; exact hF a (by omega))
          refine X_cV1v (lv2 := [(0, _), (1, _)]) (tk_X0_chooseLeft.at 40 rfl) mv_X6_copyFrom lk_x0_60 np_X6_copyFrom (DS_r hH.2.2.1 (by omega)).1 (by decide) rfl (Nat.le_of_ble_eq_true rfl) (Nat.le_of_ble_eq_true rfl) rfl (d_cp6 (DS_r hH.2.2.1 (by omega)) (DS_r hD (by omega)) (rD_rs1 hw hrη h20.1) bm bm (by decide) (by omega) (fun θ cc => ?_))
          refine X_iinc (lv' := [(0, _), (1, _), (2, _), (3, _), (4, _)]) (tk_X0_chooseLeft.at 41 rfl) rfl ci_1 (by decide) rfl rfl ?_
          refine X_goto (tgt := 7) (tk_X0_chooseLeft.at 42 rfl) (by decide) ?_
          rw [nI_1 p]
          have hTη : repD η (H + 3) (delN N r20 (mny N r20) i20) := repD_of hT1 (fun a h1 h2 => hf2 a (by omega))
          refine ih (p + 1) θ _ (by omega) ?_ (repD_rw wf hTη (by rw [delN_o bm (by omega)]; exact h20.1) cc.1 (fun a ha => (delN_o bm ha).symm) bm cc.2.1 (hw.ro h20.1).2.2.2.1.1 (fun q hq => ?_)) ?_
          · intro a ha
            rw [cc.1 a (by omega) (by omega), hf2 a (by omega), hf1 a (by omega), fζ a (by omega) (by omega)]
            exact hF a ha
          · rw [cc.2.2 q hq]; exact rD_ra1 hw hrη h20.1 hq
          · rw [bw_wg (show InL N (0 + p) from by rw [Nat.zero_add]; exact ⟨r20, i20, k26, h20, hk26, h26⟩), Nat.zero_add, show tlD N p = toll (delN N r20 (mny N r20) i20) from by unfold tlD; rw [eo]]
            exact BW_eq hB2 (cc.1 H (by omega) (by omega))
        · refine X_if_eq (tgt := 78) (tk_X0_chooseLeft.at 17 rfl) (by decide) (fun _ => ?_) (fun h => absurd h (by decide))
          refine X_iinc (lv' := [(0, _), (1, _), (2, _), (3, _)]) (tk_X0_chooseLeft.at 41 rfl) rfl ci_1 (by decide) rfl rfl ?_
          refine X_goto (tgt := 7) (tk_X0_chooseLeft.at 42 rfl) (by decide) ?_
          rw [nI_1 p]
          refine ih (p + 1) ν _ (by omega) hF hT ?_
          rw [bw_n (show ¬ InL N (0 + p) from by rw [Nat.zero_add]; exact fun ⟨r', i', k', g, g2, g3⟩ => h26 k' g2 (by rw [g3, (hw.un g h20).1]))]
          exact hB
      · refine X_istore_n (lv' := [(0, _), (1, _), (2, _), (3, _)]) (tk_X0_chooseLeft.at 13 rfl) (by decide) rfl rfl ?_
        refine X_aload_n (tk_X0_chooseLeft.at 14 rfl) rfl ?_
        refine X_iload_n (tk_X0_chooseLeft.at 15 rfl) rfl ?_
        refine X_cV1i (lv2 := [(0, _), (1, _)]) (tk_X0_chooseLeft.at 16 rfl) mv_X2_isInLine lk_x0_119 np_X2_isInLine hD.1 (by decide) rfl (Nat.le_of_ble_eq_true rfl) (Nat.le_of_ble_eq_true rfl) rfl (c2_isInLine hD hw hrν (fun k hk e => (hw.l1 hk e).elim) (fun _ => ?_))
        refine X_if_eq (tgt := 78) (tk_X0_chooseLeft.at 17 rfl) (by decide) (fun _ => ?_) (fun h => absurd h (by decide))
        refine X_iinc (lv' := [(0, _), (1, _), (2, _), (3, _)]) (tk_X0_chooseLeft.at 41 rfl) rfl ci_1 (by decide) rfl rfl ?_
        refine X_goto (tgt := 7) (tk_X0_chooseLeft.at 42 rfl) (by decide) ?_
        rw [nI_1 p]
        refine ih (p + 1) ν _ (by omega) hF hT ?_
        rw [bw_n (show ¬ InL N (0 + p) from by rw [Nat.zero_add]; exact fun ⟨r', i', k', g, _, _⟩ => h20 r' i' g)]
        exact hB
  exact loop _ 0 ν [] (Nat.zero_add _) hF hT hB
