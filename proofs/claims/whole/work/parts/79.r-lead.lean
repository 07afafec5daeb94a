section
variable {N : Nat → Int32} {r i p : Nat}
theorem ld_eq (hw : WF N) (h : On N r i p) (q : Nat) : ldN N p q = insN (delN N r (mny N r) i) r (mny N r - 1) q (nI p) := by
  unfold ldN outN
  rw [pos_eq hw h]
theorem ld_c (hw : WF N) (h : On N r i p) (q : Nat) : ldN N p q (83 + 9 * r) = nI (mny N r) := by
  have h2 : i < mny N r := h.2.1
  rw [ld_eq hw h, insN_c, show mny N r - 1 + 1 = mny N r by omega]
theorem ld_o (hw : WF N) (h : On N r i p) {q : Nat} (hq : q < mny N r) {a : Nat} (ha : a < 83 + 9 * r ∨ 89 + 9 * r ≤ a) : ldN N p q a = N a := by
  have b5 := hw.mb h.1
  rw [ld_eq hw h, insN_o (by omega) (by omega) ha, delN_o b5 ha]
theorem ld_s (hw : WF N) (h : On N r i p) {q k : Nat} (hk : k < mny N r) : ldN N p q (84 + 9 * r + k) = if k < q then delN N r (mny N r) i (84 + 9 * r + k) else if k = q then nI p else delN N r (mny N r) i (84 + 9 * r + (k - 1)) := by
  rw [ld_eq hw h, insN_s (by omega)]
theorem ld_i (hw : WF N) (h : On N r i p) {k : Nat} (hk : k < mny N r) : ldN N p i (84 + 9 * r + k) = N (84 + 9 * r + k) := by
  have h2 : i < mny N r := h.2.1
  rw [ld_s hw h hk]
  by_cases c : k < i
  · rw [if_pos c, delN_s (by omega), if_pos c]
  · rw [if_neg c]
    by_cases e : k = i
    · rw [if_pos e, e]; exact h.2.2.symm
    · rw [if_neg e, delN_s (by omega), if_neg (by omega), show k - 1 + 1 = k by omega]
theorem ld_x (hw : WF N) (h : On N r i p) {q k : Nat} (hk : k < mny N r) (hq : q + 1 < mny N r) : ldN N p q (84 + 9 * r + k) = if k = q then ldN N p (q + 1) (84 + 9 * r + (q + 1)) else if k = q + 1 then ldN N p (q + 1) (84 + 9 * r + q) else ldN N p (q + 1) (84 + 9 * r + k) := by
  rw [ld_s hw h hk, ld_s hw h hq, ld_s hw h (show q < mny N r by omega), ld_s hw h hk]
  by_cases c : k = q
  · rw [if_neg (by omega), if_pos c, if_pos c, if_neg (by omega), if_pos rfl]
  · rw [if_neg c, if_neg c]
    by_cases c2 : k = q + 1
    · rw [if_pos c2, if_neg (by omega), if_pos (by omega), show k - 1 = q by omega]
    · rw [if_neg c2, if_neg c2]
      by_cases c3 : k < q
      · rw [if_pos c3, if_pos (by omega)]
      · rw [if_neg c3, if_neg (by omega)]
theorem ld_rs {μ : Mu} {T q : Nat} (hw : WF N) (h : On N r i p) (hp : p < nv (N 1)) (hq : q < mny N r) (hT : repD μ T (ldN N p q)) : μ (T + 20 + 2 * r) 1 = nI (mny N r) ∧ ∀ k, k < mny N r → μ (T + 20 + 2 * r + 1) k = ldN N p q (84 + 9 * r + k) := by
  have wf := WF_ld hw h hp (j := q) hq
  have b5 := hw.mb h.1
  have h3 : r < nv (ldN N p q 3) := by rw [ld_o hw h hq (by omega)]; exact h.1
  have em : mny (ldN N p q) r = mny N r := by show nv _ = _; rw [ld_c hw h q, nv_nI (by omega)]
  refine ⟨by rw [rD_rs1 wf hT h3, em], fun k hk => rD_ra1 wf hT h3 (by rw [em]; exact hk)⟩
theorem ld_0 {μ : Mu} {T : Nat} (hw : WF N) (h : On N r i p) (hT : repD μ T N) : repD μ T (ldN N p i) := by
  refine repD_rw hw hT h.1 (fun a _ _ => rfl) (fun a ha => ld_o hw h h.2.1 ha) (hw.mb h.1) (rD_rs1 hw hT h.1) (ld_c hw h i) (fun k hk => ?_)
  rw [ld_i hw h hk]; exact rD_ra1 hw hT h.1 hk
/-- one place further ahead -/
theorem ld_dn {μ : Mu} {T q : Nat} (hw : WF N) (h : On N r i p) (hp : p < nv (N 1)) (hq : q + 1 < mny N r) (hT : repD μ T (ldN N p (q + 1))) : repD (Mx μ (T + 20 + 2 * r + 1) (upd (upd (μ (T + 20 + 2 * r + 1)) (q + 1) (μ (T + 20 + 2 * r + 1) q)) q (μ (T + 20 + 2 * r + 1) (q + 1)))) T (ldN N p q) := by
  have z := ld_rs hw h hp hq hT
  refine repD_rw (WF_ld hw h hp (j := q + 1) hq) hT (by rw [ld_o hw h hq (by omega)]; exact h.1) (fun a _ h2 => Mx_ne h2) (fun a ha => by rw [ld_o hw h (by omega) ha, ld_o hw h hq ha]) (hw.mb h.1) (by rw [Mx_ne (by omega)]; exact z.1) (ld_c hw h q) (fun k hk => ?_)
  rw [Mx_same, ld_x hw h hk hq]
  by_cases c : k = q
  · rw [if_pos c, c, upd_at]; exact z.2 _ hq
  · rw [if_neg c, upd_ne _ _ c]
    by_cases c2 : k = q + 1
    · rw [if_pos c2, c2, upd_at]; exact z.2 _ (by omega)
    · rw [if_neg c2, upd_ne _ _ c2]; exact z.2 _ hk
theorem ld_up {μ : Mu} {T q : Nat} (hw : WF N) (h : On N r i p) (hp : p < nv (N 1)) (hq : q + 1 < mny N r) (hT : repD μ T (ldN N p q)) : repD (Mx μ (T + 20 + 2 * r + 1) (upd (upd (μ (T + 20 + 2 * r + 1)) q (μ (T + 20 + 2 * r + 1) (q + 1))) (q + 1) (μ (T + 20 + 2 * r + 1) q))) T (ldN N p (q + 1)) := by
  have hq0 : q < mny N r := by omega
  have z := ld_rs hw h hp hq0 hT
  have x1 := ld_x hw h (k := q) hq0 hq
  have x2 := ld_x hw h (k := q + 1) hq hq
  rw [if_pos rfl] at x1
  rw [if_neg (by omega), if_pos rfl] at x2
  refine repD_rw (WF_ld hw h hp (j := q) hq0) hT (by rw [ld_o hw h hq0 (by omega)]; exact h.1) (fun a _ h2 => Mx_ne h2) (fun a ha => by rw [ld_o hw h hq ha, ld_o hw h hq0 ha]) (hw.mb h.1) (by rw [Mx_ne (by omega)]; exact z.1) (ld_c hw h (q + 1)) (fun k hk => ?_)
  rw [Mx_same]
  by_cases c2 : k = q + 1
  · rw [c2, upd_at, ← x1]; exact z.2 _ hq0
  · rw [upd_ne _ _ c2]
    by_cases c : k = q
    · rw [c, upd_at, ← x2]; exact z.2 _ hq
    · rw [upd_ne _ _ c, z.2 _ hk, ld_x hw h hk hq, if_neg c, if_neg c2]
end
set_option maxHeartbeats 1000000 in
theorem c0_chooseLead {G : Gl} {d : Nat} {S : Sh} {μ : Mu} {H D : Nat} {N : Nat → Int32} {x : Int32} {p r i : Nat} {K : Sh → Mu → Prop} (hH : OS G S H) (hD : DS G S D) (hw : WF N) (hr : repD μ D N) (hnb : μ (H + 3 + 14) 1 = 0) (hdis : D + 32 ≤ H ∨ H + 41 ≤ D) (hx : x = nI p) (hp : p < nv (N 1)) (hon : On N r i p) (hK : ∀ ν M, Fh H μ ν → repD ν (H + 3) M → BW H ν (bw (fun _ => True) (tlE N p) 0 (mny N r)) → K S ν) : X G mi_X0_chooseLead (d + 6) 0 0 [(0, .ref H), (1, .ref D), (2, .int x)] [] S μ (qv K) := by
  have h3 := hon.1
  have b3 := hw.n3.2
  have h6 : r < 6 := by omega
  have bm := hw.mb hon.1
  have hi : i < mny N r := hon.2.1
  refine X_aload_n (tk_X0_chooseLead.at 0 rfl) rfl ?_
  refine X_aload_n (tk_X0_chooseLead.at 1 rfl) rfl ?_
  refine X_cV1v (lv2 := [(0, _), (1, _)]) (tk_X0_chooseLead.at 2 rfl) mv_X0_begin lk_x0_46 np_X0_begin hH.1 (by decide) rfl (Nat.le_of_ble_eq_true rfl) (Nat.le_of_ble_eq_true rfl) rfl (c0_begin hH hD hw hr hnb hdis (fun ν hF hT hB => ?_))
  refine X_aload_n (tk_X0_chooseLead.at 3 rfl) rfl ?_
  refine X_getR (tk_X0_chooseLead.at 4 rfl) fl_x0_30 hH.1 rfl rfl ?_
  refine X_aload_n (tk_X0_chooseLead.at 5 rfl) rfl ?_
  refine X_iload_n (tk_X0_chooseLead.at 6 rfl) rfl ?_
  have hrν : repD ν D N := repD_of hr (fun a h1 h2 => hF a (by omega))
  refine X_cV1i (lv2 := [(0, _), (1, _)]) (tk_X0_chooseLead.at 7 rfl) mv_X2_ropeOf lk_x0_116 np_X2_ropeOf hD.1 (by decide) rfl (Nat.le_of_ble_eq_true rfl) (Nat.le_of_ble_eq_true rfl) rfl (c2_ropeOf (p := p) hD hw hrν hx (fun r' i' g => ?_) (fun g => absurd hon (g r i)))
  rw [show r' = r from (hw.un g hon).1]
  refine X_cV1r (lv2 := [(0, _), (1, _)]) (tk_X0_chooseLead.at 8 rfl) mv_X2_rowOf lk_x0_49 np_X2_rowOf hH.2.2.1.1 (by decide) rfl (Nat.le_of_ble_eq_true rfl) (Nat.le_of_ble_eq_true rfl) rfl (d_rowOf (r := r) hH.2.2.1 hw hT (pz (pl r rfl) (by omega)) (by omega) ?_)
  refine X_astore_n (lv' := [(0, _), (1, _), (2, _), (3, _)]) (tk_X0_chooseLead.at 9 rfl) (by decide) rfl rfl ?_
  refine X_aload_n (tk_X0_chooseLead.at 10 rfl) rfl ?_
  refine X_iload_n (tk_X0_chooseLead.at 11 rfl) rfl ?_
  refine X_cV1i (lv2 := [(0, _), (1, _)]) (tk_X0_chooseLead.at 12 rfl) mv_X2_placeOf lk_x0_123 np_X2_placeOf hD.1 (by decide) rfl (Nat.le_of_ble_eq_true rfl) (Nat.le_of_ble_eq_true rfl) rfl (c2_placeOf (p := p) hD hw hrν hx (fun r' i' g => ?_) (fun g => absurd hon (g r i)))
  rw [show i' = i from (hw.un g hon).2]
  refine X_istore (lv' := [(0, _), (1, _), (2, _), (3, _), (4, _)]) (tk_X0_chooseLead.at 13 rfl) (by decide) rfl rfl ?_
  have loop2 : ∀ (m q : Nat) (ν : Mu) (M : Nat → Int32), q + m = mny N r → Fh H μ ν → repD ν (H + 3) M → (q < mny N r → repD ν (H + 3) (ldN N p q)) → ν (H + 3 + 20 + 2 * r) 1 = nI (mny N r) → BW H ν (bw (fun _ => True) (tlE N p) 0 q) → X G mi_X0_chooseLead (d + 6) 0 49 [(0, .ref H), (1, .ref D), (2, .int x), (3, .ref (H + 3 + 20 + 2 * r)), (4, .int (nI q))] [] S ν (qv K) := by
    intro m
    induction m with
    | zero =>
      intro q ν M hq hF hTM hT hsz hB
      have e : q = mny N r := by omega
      refine X_iload (tk_X0_chooseLead.at 26 rfl) rfl ?_
      refine X_aload_n (tk_X0_chooseLead.at 27 rfl) rfl ?_
      refine X_cV0i (lv2 := [(0, _)]) (tk_X0_chooseLead.at 28 rfl) mv_X6_size lk_x0_132 np_X6_size (DS_r hH.2.2.1 h6).1 (by decide) rfl (Nat.le_of_ble_eq_true rfl) (Nat.le_of_ble_eq_true rfl) rfl (c6_size (DS_r hH.2.2.1 h6) hsz bm (by decide) ?_)
      refine X_icmp_geN (tgt := 91) (tk_X0_chooseLead.at 29 rfl) (by decide) (pl q rfl) (pl (mny N r) rfl) (by omega) (by omega) (fun c1 => ?_) (fun c1 => (by exfalso; omega))
      refine X_return (tk_X0_chooseLead.at 46 rfl) rfl ?_
      rw [e] at hB
      exact hK ν M hF hTM hB
    | succ m ih2 =>
      intro q ν M hq hF hTM hT hsz hB
      have hqm : q < mny N r := by omega
      have wfq := WF_ld hw hon hp (j := q) hqm
      refine X_iload (tk_X0_chooseLead.at 26 rfl) rfl ?_
      refine X_aload_n (tk_X0_chooseLead.at 27 rfl) rfl ?_
      refine X_cV0i (lv2 := [(0, _)]) (tk_X0_chooseLead.at 28 rfl) mv_X6_size lk_x0_132 np_X6_size (DS_r hH.2.2.1 h6).1 (by decide) rfl (Nat.le_of_ble_eq_true rfl) (Nat.le_of_ble_eq_true rfl) rfl (c6_size (DS_r hH.2.2.1 h6) hsz bm (by decide) ?_)
      refine X_icmp_geN (tgt := 91) (tk_X0_chooseLead.at 29 rfl) (by decide) (pl q rfl) (pl (mny N r) rfl) (by omega) (by omega) (fun c1 => (by exfalso; omega)) (fun c1 => ?_)
      refine X_aload_n (tk_X0_chooseLead.at 30 rfl) rfl ?_
      refine X_iload (tk_X0_chooseLead.at 31 rfl) rfl ?_
      refine X_aload_n (tk_X0_chooseLead.at 32 rfl) rfl ?_
      refine X_getR (tk_X0_chooseLead.at 33 rfl) fl_x0_37 hH.1 rfl rfl ?_
      refine X_aload_n (tk_X0_chooseLead.at 34 rfl) rfl ?_
      refine X_getR (tk_X0_chooseLead.at 35 rfl) fl_x0_30 hH.1 rfl rfl ?_
      refine X_cV1i (lv2 := [(0, _), (1, _)]) (tk_X0_chooseLead.at 36 rfl) mv_X1_tollOf lk_x0_56 np_X1_tollOf hH.2.2.2.1 (by decide) rfl (Nat.le_of_ble_eq_true rfl) (Nat.le_of_ble_eq_true rfl) rfl (c0_toll hH wfq (hT hqm) (fun ξ hf1 hT1 ho1 => ?_))
      refine X_cV2v (lv2 := [(0, _), (1, _), (2, _)]) (tk_X0_chooseLead.at 37 rfl) mv_X0_weigh lk_x0_83 np_X0_weigh hH.1 (by decide) rfl (Nat.le_of_ble_eq_true rfl) (Nat.le_of_ble_eq_true rfl) rfl (c0_weigh (tn := (toll (ldN N p q))) (c := q) hH (BW_eq hB (hf1 H (by omega))) (pl (toll (ldN N p q)) rfl) (toll_le wfq) (pz (pl q rfl) (by omega)) (fun η hf2 hB2 => ?_))
      refine X_aload_n (tk_X0_chooseLead.at 38 rfl) rfl ?_
      refine X_iload (tk_X0_chooseLead.at 39 rfl) rfl ?_
      refine X_iload (tk_X0_chooseLead.at 40 rfl) rfl ?_
      refine X_iconst (tk_X0_chooseLead.at 41 rfl) ci_1 ?_
      refine X_iadd (tk_X0_chooseLead.at 42 rfl) ?_
      have hTη : repD η (H + 3) (ldN N p q) := repD_of hT1 (fun a h1 h2 => hf2 a (by omega))
      have hsη : η (H + 3 + 20 + 2 * r) 1 = nI (mny N r) := (ld_rs hw hon hp hqm hTη).1
      refine X_cV2v (lv2 := [(0, _), (1, _), (2, _)]) (tk_X0_chooseLead.at 43 rfl) mv_X6_exchange lk_x0_129 np_X6_exchange (DS_r hH.2.2.1 h6).1 (by decide) rfl (Nat.le_of_ble_eq_true rfl) (Nat.le_of_ble_eq_true rfl) rfl (c6_exchange (n := mny N r) (i := q) (j := q + 1) (DS_r hH.2.2.1 h6) hsη bm (by decide) rfl (nI_1 q) hqm (fun hup => ?_) (fun hup => ?_) (by omega))
      · have hT2 := ld_up hw hon hp hup hTη
        generalize eχ : Mx η ((H + 3 + 20 + 2 * r) + 1) (upd (upd (η ((H + 3 + 20 + 2 * r) + 1)) q (η ((H + 3 + 20 + 2 * r) + 1) (q + 1))) (q + 1) (η ((H + 3 + 20 + 2 * r) + 1) q)) = χ at hT2 ⊢
        refine X_iinc (lv' := [(0, _), (1, _), (2, _), (3, _), (4, _)]) (tk_X0_chooseLead.at 44 rfl) rfl ci_1 (by decide) rfl rfl ?_
        refine X_goto (tgt := 49) (tk_X0_chooseLead.at 45 rfl) (by decide) ?_
        rw [nI_1 q]
        refine ih2 (q + 1) χ _ (by omega) ?_ hT2 (fun _ => hT2) (ld_rs hw hon hp hup hT2).1 (by rw [bw_wg trivial, Nat.zero_add]; exact BW_eq hB2 (by rw [← eχ, Mx_ne (by omega)]))
        intro a ha
        rw [← eχ, Mx_ne (by omega), hf2 a (by omega), hf1 a (by omega)]
        exact hF a ha
      · refine X_iinc (lv' := [(0, _), (1, _), (2, _), (3, _), (4, _)]) (tk_X0_chooseLead.at 44 rfl) rfl ci_1 (by decide) rfl rfl ?_
        refine X_goto (tgt := 49) (tk_X0_chooseLead.at 45 rfl) (by decide) ?_
        rw [nI_1 q]
        refine ih2 (q + 1) η _ (by omega) ?_ hTη (fun hh => absurd hh (by omega)) hsη (by rw [bw_wg trivial, Nat.zero_add]; exact hB2)
        intro a ha
        rw [hf2 a (by omega), hf1 a (by omega)]
        exact hF a ha
  have loop1 : ∀ (q : Nat) (ν : Mu), q < mny N r → Fh H μ ν → repD ν (H + 3) (ldN N p q) → BW H ν none → X G mi_X0_chooseLead (d + 6) 0 25 [(0, .ref H), (1, .ref D), (2, .int x), (3, .ref (H + 3 + 20 + 2 * r)), (4, .int (nI q))] [] S ν (qv K) := by
    intro q
    induction q with
    | zero =>
      intro ν hq hF hT hB
      refine X_iload (tk_X0_chooseLead.at 14 rfl) rfl ?_
      refine X_if_le (tgt := 46) (tk_X0_chooseLead.at 15 rfl) (by decide) (fun _ => ?_) (fun h => absurd h (by decide))
      refine X_iconst (tk_X0_chooseLead.at 24 rfl) ci_0 ?_
      refine X_istore (lv' := [(0, _), (1, _), (2, _), (3, _), (4, _)]) (tk_X0_chooseLead.at 25 rfl) (by decide) rfl rfl ?_
      exact loop2 (mny N r) 0 ν _ (Nat.zero_add _) hF hT (fun _ => hT) (ld_rs hw hon hp hq hT).1 hB
    | succ q ih1 =>
      intro ν hq hF hT hB
      refine X_iload (tk_X0_chooseLead.at 14 rfl) rfl ?_
      refine X_if_leN (tgt := 46) (tk_X0_chooseLead.at 15 rfl) (by decide) (pl (q + 1) rfl) (by omega) (fun c1 => (by exfalso; omega)) (fun c1 => ?_)
      refine X_aload_n (tk_X0_chooseLead.at 16 rfl) rfl ?_
      refine X_iload (tk_X0_chooseLead.at 17 rfl) rfl ?_
      refine X_iload (tk_X0_chooseLead.at 18 rfl) rfl ?_
      refine X_iconst (tk_X0_chooseLead.at 19 rfl) ci_1 ?_
      refine X_isub (tk_X0_chooseLead.at 20 rfl) ?_
      refine X_cV2v (lv2 := [(0, _), (1, _), (2, _)]) (tk_X0_chooseLead.at 21 rfl) mv_X6_exchange lk_x0_129 np_X6_exchange (DS_r hH.2.2.1 h6).1 (by decide) rfl (Nat.le_of_ble_eq_true rfl) (Nat.le_of_ble_eq_true rfl) rfl (c6_exchange (n := mny N r) (i := q + 1) (j := q) (DS_r hH.2.2.1 h6) (ld_rs hw hon hp hq hT).1 bm (by decide) rfl (ps (pl (q + 1) rfl) (pl 1 rfl) (by omega)) hq (fun _ => ?_) (fun hh => absurd hh (by omega)) (by omega))
      have hT2 := ld_dn hw hon hp hq hT
      generalize eζ : Mx ν ((H + 3 + 20 + 2 * r) + 1) (upd (upd (ν ((H + 3 + 20 + 2 * r) + 1)) (q + 1) (ν ((H + 3 + 20 + 2 * r) + 1) q)) q (ν ((H + 3 + 20 + 2 * r) + 1) (q + 1))) = ζ at hT2 ⊢
      refine X_iinc (lv' := [(0, _), (1, _), (2, _), (3, _), (4, _)]) (tk_X0_chooseLead.at 22 rfl) rfl ci_m1 (by decide) rfl rfl ?_
      refine X_goto (tgt := 25) (tk_X0_chooseLead.at 23 rfl) (by decide) ?_
      rw [show nI (q + 1) + (-1) = nI q from pk_m1 q]
      refine ih1 ζ (by omega) ?_ hT2 (BW_eq hB (by rw [← eζ, Mx_ne (by omega)]))
      intro a ha
      rw [← eζ, Mx_ne (by omega)]
      exact hF a ha
  exact loop1 i ν hi hF (ld_0 hw hon hT) hB
