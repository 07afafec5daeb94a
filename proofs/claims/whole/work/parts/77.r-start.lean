set_option maxHeartbeats 1000000 in
theorem c0_chooseStart {G : Gl} {d : Nat} {S : Sh} {μ : Mu} {H D : Nat} {N : Nat → Int32} {x y : Int32} {fr to : Nat} {K : Sh → Mu → Prop} (hH : OS G S H) (hD : DS G S D) (hw : WF N) (hr : repD μ D N) (hnb : μ (H + 3 + 14) 1 = 0) (hdis : D + 32 ≤ H ∨ H + 41 ≤ D) (hx : x = nI fr) (hy : y = nI to) (h1 : fr ≤ to) (h2 : to ≤ 1439) (hK : ∀ ν M, Fh H μ ν → repD ν (H + 3) M → BW H ν (bw (fun _ => True) (tlM N) fr (to + 1 - fr)) → K S ν) : X G mi_X0_chooseStart (d + 6) 0 0 [(0, .ref H), (1, .ref D), (2, .int x), (3, .int y)] [] S μ (qv K) := by
  refine X_aload_n (tk_X0_chooseStart.at 0 rfl) rfl ?_
  refine X_aload_n (tk_X0_chooseStart.at 1 rfl) rfl ?_
  refine X_cV1v (lv2 := [(0, _), (1, _)]) (tk_X0_chooseStart.at 2 rfl) mv_X0_begin lk_x0_46 np_X0_begin hH.1 (by decide) rfl (Nat.le_of_ble_eq_true rfl) (Nat.le_of_ble_eq_true rfl) rfl (c0_begin hH hD hw hr hnb hdis (fun ν hF hT hB => ?_))
  refine X_iload_n (tk_X0_chooseStart.at 3 rfl) rfl ?_
  refine X_istore (lv' := [(0, _), (1, _), (2, _), (3, _), (4, _)]) (tk_X0_chooseStart.at 4 rfl) (by decide) rfl rfl ?_
  have loop : ∀ (m k : Nat) (ν : Mu) (M : Nat → Int32), k + m = to + 1 - fr → Fh H μ ν → WF M → repD ν (H + 3) M → (∀ a, a ≠ 0 → M a = N a) → BW H ν (bw (fun _ => True) (tlM N) fr k) → X G mi_X0_chooseStart (d + 6) 0 8 [(0, .ref H), (1, .ref D), (2, .int x), (3, .int y), (4, .int (nI (fr + k)))] [] S ν (qv K) := by
    intro m
    induction m with
    | zero =>
      intro k ν M hk hF hwM hT hM hB
      have e : k = to + 1 - fr := by omega
      refine X_iload (tk_X0_chooseStart.at 5 rfl) rfl ?_
      refine X_iload_n (tk_X0_chooseStart.at 6 rfl) rfl ?_
      refine X_icmp_gtN (tgt := 85) (tk_X0_chooseStart.at 7 rfl) (by decide) (pl (fr + k) rfl) hy (by omega) (by omega) (fun c1 => ?_) (fun c1 => (by exfalso; omega))
      refine X_return (tk_X0_chooseStart.at 39 rfl) rfl ?_
      rw [e] at hB
      exact hK ν M hF hT hB
    | succ m ih =>
      intro k ν M hk hF hwM hT hM hB
      refine X_iload (tk_X0_chooseStart.at 5 rfl) rfl ?_
      refine X_iload_n (tk_X0_chooseStart.at 6 rfl) rfl ?_
      refine X_icmp_gtN (tgt := 85) (tk_X0_chooseStart.at 7 rfl) (by decide) (pl (fr + k) rfl) hy (by omega) (by omega) (fun c1 => (by exfalso; omega)) (fun c1 => ?_)
      refine X_iload (tk_X0_chooseStart.at 8 rfl) rfl ?_
      refine X_sipush (tk_X0_chooseStart.at 9 rfl) cs_1439 ?_
      refine X_icmp_gtN (tgt := 85) (tk_X0_chooseStart.at 10 rfl) (by decide) (pl (fr + k) rfl) (pl 1439 rfl) (by omega) (by omega) (fun c2 => (by exfalso; omega)) (fun c2 => ?_)
      refine X_aload_n (tk_X0_chooseStart.at 11 rfl) rfl ?_
      refine X_getR (tk_X0_chooseStart.at 12 rfl) fl_x0_30 hH.1 rfl rfl ?_
      refine X_iload (tk_X0_chooseStart.at 13 rfl) rfl ?_
      refine X_putI (tk_X0_chooseStart.at 14 rfl) fl_x0_100 hH.2.2.1.1 rfl rfl ⟨rfl, rfl⟩ ?_
      generalize eζ : su ν (H + 3) 10 (nI (fr + k)) = ζ
      have wf := WF_u0 hw (x := nI (fr + k)) (okN_of (by omega) (by decide))
      have fζ : ∀ a, a ≠ H + 3 → ζ a = ν a := fun a ha => by rw [← eζ, su_ne ha]
      have hT2 : repD ζ (H + 3) (upd N 0 (nI (fr + k))) := repD_start (v := nI (fr + k)) hwM hT fζ (by rw [← eζ]; exact su_same) (fun a ha => by rw [upd_ne _ _ ha]; exact (hM a ha).symm) (upd_at _ _ _)
      refine X_aload_n (tk_X0_chooseStart.at 15 rfl) rfl ?_
      refine X_getR (tk_X0_chooseStart.at 16 rfl) fl_x0_37 hH.1 rfl rfl ?_
      refine X_aload_n (tk_X0_chooseStart.at 17 rfl) rfl ?_
      refine X_getR (tk_X0_chooseStart.at 18 rfl) fl_x0_30 hH.1 rfl rfl ?_
      refine X_cV1v (lv2 := [(0, _), (1, _)]) (tk_X0_chooseStart.at 19 rfl) mv_X1_cross lk_x0_103 np_X1_cross hH.2.2.2.1 (by decide) rfl (Nat.le_of_ble_eq_true rfl) (Nat.le_of_ble_eq_true rfl) rfl (c1_cross hH.2.2.2 hH.2.2.1 wf hT2 (Or.inl (by omega)) (fun cm of hI => ?_))
      generalize eω : Tc ζ (H + 35) (nI (ovr (upd N 0 (nI (fr + k))) (nv ((upd N 0 (nI (fr + k))) 4)))) cm of (ζ (H + 35 + 2)) (ζ (H + 35 + 3)) = ω
      have fω : ∀ a, a < H + 35 ∨ H + 41 ≤ a → ω a = ζ a := fun a ha => by rw [← eω]; exact Tc_out (by omega)
      have hT3 : repD ω (H + 3) (upd N 0 (nI (fr + k))) := repD_of hT2 (fun a h1 h2 => fω a (by omega))
      refine X_iload (tk_X0_chooseStart.at 20 rfl) rfl ?_
      refine X_iload_n (tk_X0_chooseStart.at 21 rfl) rfl ?_
      refine X_icmp_eqN (tgt := 62) (tk_X0_chooseStart.at 22 rfl) (by decide) (pl (fr + k) rfl) hx (by omega) (by omega) (fun c3 => ?_) (fun c3 => ?_)
      · refine X_aload_n (tk_X0_chooseStart.at 29 rfl) rfl ?_
        refine X_iload (tk_X0_chooseStart.at 30 rfl) rfl ?_
        refine X_aload_n (tk_X0_chooseStart.at 31 rfl) rfl ?_
        refine X_getR (tk_X0_chooseStart.at 32 rfl) fl_x0_37 hH.1 rfl rfl ?_
        refine X_aload_n (tk_X0_chooseStart.at 33 rfl) rfl ?_
        refine X_getR (tk_X0_chooseStart.at 34 rfl) fl_x0_30 hH.1 rfl rfl ?_
        refine X_cV1i (lv2 := [(0, _), (1, _)]) (tk_X0_chooseStart.at 35 rfl) mv_X1_tollOf lk_x0_56 np_X1_tollOf hH.2.2.2.1 (by decide) rfl (Nat.le_of_ble_eq_true rfl) (Nat.le_of_ble_eq_true rfl) rfl (c0_toll hH wf hT3 (fun ξ hf1 hT1 ho1 => ?_))
        refine X_cV2v (lv2 := [(0, _), (1, _), (2, _)]) (tk_X0_chooseStart.at 36 rfl) mv_X0_weigh lk_x0_83 np_X0_weigh hH.1 (by decide) rfl (Nat.le_of_ble_eq_true rfl) (Nat.le_of_ble_eq_true rfl) rfl (c0_weigh (tn := (toll (upd N 0 (nI (fr + k))))) (c := fr + k) hH (BW_eq (BW_eq (BW_eq hB (fζ H (by omega))) (fω H (by omega))) (hf1 H (by omega))) (pl (toll (upd N 0 (nI (fr + k)))) rfl) (toll_le wf) (pz (pl (fr + k) rfl) (by omega)) (fun η hf2 hB2 => ?_))
        refine X_iinc (lv' := [(0, _), (1, _), (2, _), (3, _), (4, _)]) (tk_X0_chooseStart.at 37 rfl) rfl ci_1 (by decide) rfl rfl ?_
        refine X_goto (tgt := 8) (tk_X0_chooseStart.at 38 rfl) (by decide) ?_
        rw [nI_1 (fr + k), show fr + k + 1 = fr + (k + 1) from rfl]
        refine ih (k + 1) η _ (by omega) ?_ wf (repD_of hT1 (fun a h1 h2 => hf2 a (by omega))) (fun a ha => upd_ne _ _ ha) (by rw [bw_wg trivial]; exact hB2)
        intro a ha
        rw [hf2 a (by omega), hf1 a (by omega), fω a (by omega), fζ a (by omega)]
        exact hF a ha
      · refine X_aload_n (tk_X0_chooseStart.at 23 rfl) rfl ?_
        refine X_getR (tk_X0_chooseStart.at 24 rfl) fl_x0_37 hH.1 rfl rfl ?_
        refine X_aload_n (tk_X0_chooseStart.at 25 rfl) rfl ?_
        refine X_getR (tk_X0_chooseStart.at 26 rfl) fl_x0_30 hH.1 rfl rfl ?_
        subst eω
        refine X_cV1i (lv2 := [(0, _), (1, _)]) (tk_X0_chooseStart.at 27 rfl) mv_X1_turnsHour lk_x0_106 np_X1_turnsHour hH.2.2.2.1 (by decide) rfl (Nat.le_of_ble_eq_true rfl) (Nat.le_of_ble_eq_true rfl) rfl (c1_turnsHour hH.2.2.2 hH.2.2.1 wf hT2 (Or.inl (by omega)) hI (fun htr => ?_) (fun htr => ?_))
        · refine X_if_eq (tgt := 79) (tk_X0_chooseStart.at 28 rfl) (by decide) (fun h => absurd h (by decide)) (fun _ => ?_)
          refine X_aload_n (tk_X0_chooseStart.at 29 rfl) rfl ?_
          refine X_iload (tk_X0_chooseStart.at 30 rfl) rfl ?_
          refine X_aload_n (tk_X0_chooseStart.at 31 rfl) rfl ?_
          refine X_getR (tk_X0_chooseStart.at 32 rfl) fl_x0_37 hH.1 rfl rfl ?_
          refine X_aload_n (tk_X0_chooseStart.at 33 rfl) rfl ?_
          refine X_getR (tk_X0_chooseStart.at 34 rfl) fl_x0_30 hH.1 rfl rfl ?_
          refine X_cV1i (lv2 := [(0, _), (1, _)]) (tk_X0_chooseStart.at 35 rfl) mv_X1_tollOf lk_x0_56 np_X1_tollOf hH.2.2.2.1 (by decide) rfl (Nat.le_of_ble_eq_true rfl) (Nat.le_of_ble_eq_true rfl) rfl (c0_toll hH wf hT3 (fun ξ hf1 hT1 ho1 => ?_))
          refine X_cV2v (lv2 := [(0, _), (1, _), (2, _)]) (tk_X0_chooseStart.at 36 rfl) mv_X0_weigh lk_x0_83 np_X0_weigh hH.1 (by decide) rfl (Nat.le_of_ble_eq_true rfl) (Nat.le_of_ble_eq_true rfl) rfl (c0_weigh (tn := (toll (upd N 0 (nI (fr + k))))) (c := fr + k) hH (BW_eq (BW_eq (BW_eq hB (fζ H (by omega))) (fω H (by omega))) (hf1 H (by omega))) (pl (toll (upd N 0 (nI (fr + k)))) rfl) (toll_le wf) (pz (pl (fr + k) rfl) (by omega)) (fun η hf2 hB2 => ?_))
          refine X_iinc (lv' := [(0, _), (1, _), (2, _), (3, _), (4, _)]) (tk_X0_chooseStart.at 37 rfl) rfl ci_1 (by decide) rfl rfl ?_
          refine X_goto (tgt := 8) (tk_X0_chooseStart.at 38 rfl) (by decide) ?_
          rw [nI_1 (fr + k), show fr + k + 1 = fr + (k + 1) from rfl]
          refine ih (k + 1) η _ (by omega) ?_ wf (repD_of hT1 (fun a h1 h2 => hf2 a (by omega))) (fun a ha => upd_ne _ _ ha) (by rw [bw_wg trivial]; exact hB2)
          intro a ha
          rw [hf2 a (by omega), hf1 a (by omega), fω a (by omega), fζ a (by omega)]
          exact hF a ha
        · refine X_if_eq (tgt := 79) (tk_X0_chooseStart.at 28 rfl) (by decide) (fun _ => ?_) (fun h => absurd h (by decide))
          refine X_iinc (lv' := [(0, _), (1, _), (2, _), (3, _), (4, _)]) (tk_X0_chooseStart.at 37 rfl) rfl ci_1 (by decide) rfl rfl ?_
          refine X_goto (tgt := 8) (tk_X0_chooseStart.at 38 rfl) (by decide) ?_
          rw [nI_1 (fr + k), show fr + k + 1 = fr + (k + 1) from rfl]
          obtain ⟨k0, rfl⟩ : ∃ k0, k = k0 + 1 := ⟨k - 1, by omega⟩
          refine ih (k0 + 1 + 1) _ _ (by omega) ?_ wf hT3 (fun a ha => upd_ne _ _ ha) ?_
          · intro a ha
            rw [fω a (by omega), fζ a (by omega)]
            exact hF a ha
          · rw [show bw (fun _ => True) (tlM N) fr (k0 + 1 + 1) = bw (fun _ => True) (tlM N) fr (k0 + 1) from bw_same (tl := tlM N) (a := fr) (k := k0) (tlM_sh (N := N) (a := fr + k0) (by omega) htr)]
            exact BW_eq (BW_eq hB (fζ H (by omega))) (fω H (by omega))
  have z := loop _ 0 ν N (Nat.zero_add _) hF hw hT (fun a _ => rfl) hB
  rw [show nI (fr + 0) = x from hx.symm] at z
  exact z
