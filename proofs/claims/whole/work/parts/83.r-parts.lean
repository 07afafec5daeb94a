set_option maxHeartbeats 1000000 in
theorem repD_row2 {μ ν : Mu} {D : Nat} {N M : Nat → Int32} {r0 r1 : Nat} (hw : WF N) (h : repD μ D N) (h3 : r0 < nv (N 3)) (h31 : r1 < nv (N 3)) (hν : ∀ a, a ≠ D + 20 + 2 * r0 → a ≠ D + 20 + 2 * r0 + 1 → a ≠ D + 20 + 2 * r1 → a ≠ D + 20 + 2 * r1 + 1 → ν a = μ a) (hN : ∀ a, (a < 83 + 9 * r0 ∨ 89 + 9 * r0 ≤ a) → (a < 83 + 9 * r1 ∨ 89 + 9 * r1 ≤ a) → M a = N a) (hrow : RwI ν (D + 20 + 2 * r0) (M (83 + 9 * r0)) (fun i => M (84 + 9 * r0 + i))) (hrow1 : RwI ν (D + 20 + 2 * r1) (M (83 + 9 * r1)) (fun i => M (84 + 9 * r1 + i))) : repD ν D M := by
  have k1 := hw.n1.2
  have k2 := hw.n2.2
  have k3 := hw.n3.2
  have k4 := hw.n4.2
  have k5 := hw.n5.2
  have k6 := hw.n6.2
  have k7 := (tx0 hw).2
  have k8 := (tx1 hw).2
  obtain ⟨⟨a1, a2⟩, ⟨b1, b2⟩, ⟨c1, c2⟩, ⟨d1, d2⟩, l, t, w, r, n, x, y⟩ := h
  refine ⟨⟨?_, ?_⟩, ⟨?_, ?_⟩, ⟨?_, ?_⟩, ⟨?_, ?_⟩, ?_, ?_, ?_, ?_, ?_, ?_, ?_⟩
  · rw [hν (D) (by omega) (by omega) (by omega) (by omega), hN (0) (by omega) (by omega)]; exact a1
  · rw [hν (D) (by omega) (by omega) (by omega) (by omega), hN (7) (by omega) (by omega)]; exact a2
  · rw [hν (D + 1) (by omega) (by omega) (by omega) (by omega), hN (1) (by omega) (by omega)]; exact b1
  · intro p c hp hc
    rw [hN (1) (by omega) (by omega)] at hp
    rw [hν (D + 2) (by omega) (by omega) (by omega) (by omega), hN (8 + 4 * p + c) (by omega) (by omega)]; exact b2 p c hp hc
  · rw [hν (D + 3) (by omega) (by omega) (by omega) (by omega), hN (2) (by omega) (by omega)]; exact c1
  · intro p c hp hc
    rw [hN (2) (by omega) (by omega)] at hp
    rw [hν (D + 4) (by omega) (by omega) (by omega) (by omega), hN (48 + 4 * p + c) (by omega) (by omega)]; exact c2 p c hp hc
  · rw [hν (D + 5) (by omega) (by omega) (by omega) (by omega), hN (3) (by omega) (by omega)]; exact d1
  · intro p c hp hc
    rw [hN (3) (by omega) (by omega)] at hp
    rw [hν (D + 6) (by omega) (by omega) (by omega) (by omega), hN (80 + 9 * p + c) (by omega) (by omega)]; exact d2 p c hp hc
  · refine ⟨by rw [hν (D + 7) (by omega) (by omega) (by omega) (by omega), hN (4) (by omega) (by omega)]; exact l.1, fun i hi => ?_⟩
    rw [hN (4) (by omega) (by omega)] at hi
    dsimp only
    rw [show D + 7 + 1 = D + 8 from rfl, hν (D + 8) (by omega) (by omega) (by omega) (by omega), hN (134 + i) (by omega) (by omega)]; exact l.2 i hi
  · refine ⟨by rw [hν (D + 9) (by omega) (by omega) (by omega) (by omega), hN (5) (by omega) (by omega)]; exact t.1, fun i hi => ?_⟩
    rw [hN (5) (by omega) (by omega)] at hi
    dsimp only
    rw [show D + 9 + 1 = D + 10 from rfl, hν (D + 10) (by omega) (by omega) (by omega) (by omega), hN (140 + i) (by omega) (by omega)]; exact t.2 i hi
  · refine ⟨by rw [hν (D + 11) (by omega) (by omega) (by omega) (by omega), hN (6) (by omega) (by omega)]; exact w.1, fun i hi => ?_⟩
    rw [hN (6) (by omega) (by omega)] at hi
    dsimp only
    rw [show D + 11 + 1 = D + 12 from rfl, hν (D + 12) (by omega) (by omega) (by omega) (by omega), hN (190 + i) (by omega) (by omega)]; exact w.2 i hi
  · intro q hq
    rw [hN 3 (by omega) (by omega)]
    by_cases e : q = r0
    · subst e
      rw [if_pos h3]
      exact hrow
    by_cases e1 : q = r1
    · subst e1
      rw [if_pos h31]
      exact hrow1
    · have z := r q hq
      refine ⟨?_, fun i hi => ?_⟩
      · rw [hν (D + 20 + 2 * q) (by omega) (by omega) (by omega) (by omega), z.1]
        by_cases cq : q < nv (N 3)
        · rw [if_pos cq, if_pos cq, hN (83 + 9 * q) (by omega) (by omega)]
        · rw [if_neg cq, if_neg cq]
      · by_cases cq : q < nv (N 3)
        · have k5q := (hw.ro cq).2.2.2.1.2
          rw [if_pos cq, hN (83 + 9 * q) (by omega) (by omega)] at hi
          rw [if_pos cq] at z
          dsimp only
          rw [hν (D + 20 + 2 * q + 1) (by omega) (by omega) (by omega) (by omega), hN (84 + 9 * q + i) (by omega) (by omega)]; exact z.2 i hi
        · rw [if_neg cq] at hi; exact absurd hi (Nat.not_lt_zero i)
  · rw [hν (D + 14) (by omega) (by omega) (by omega) (by omega)]; exact n
  · refine ⟨by rw [hν (D + 16) (by omega) (by omega) (by omega) (by omega), hN (210) (by omega) (by omega)]; exact x.1, fun i hi => ?_⟩
    rw [hN (210) (by omega) (by omega)] at hi
    dsimp only
    rw [show D + 16 + 1 = D + 17 from rfl, hν (D + 17) (by omega) (by omega) (by omega) (by omega), hN (211 + i) (by omega) (by omega)]; exact x.2 i hi
  · refine ⟨by rw [hν (D + 18) (by omega) (by omega) (by omega) (by omega), hN (262) (by omega) (by omega)]; exact y.1, fun i hi => ?_⟩
    rw [hN (262) (by omega) (by omega)] at hi
    dsimp only
    rw [show D + 18 + 1 = D + 19 from rfl, hν (D + 19) (by omega) (by omega) (by omega) (by omega), hN (263 + i) (by omega) (by omega)]; exact y.2 i hi
theorem and_lt {n : Nat} (h : n < 1024) (y : Int32) : ∃ m, m < 1024 ∧ nI n &&& y = nI m := by
  refine ⟨n &&& y.toBitVec.toNat, Nat.lt_of_le_of_lt Nat.and_le_left h, ?_⟩
  apply Int32.toBitVec_inj.mp
  apply BitVec.eq_of_toNat_eq
  rw [Int32.toBitVec_and, BitVec.toNat_and, pk_tn (by omega), pk_tn (Nat.lt_of_le_of_lt Nat.and_le_left (by omega))]
def mnk (a b : Nat) : Nat := if a < b then a else b
theorem al_bt {N : Nat → Int32} (hw : WF N) {a b : Nat} (ha : a < nv (N 3)) (hb : b < nv (N 3)) {f g : Nat → Int32} (hf : ∀ i, i < mny N a → f i = N (84 + 9 * a + i)) (hg : ∀ i, i < mny N b → g i = N (84 + 9 * b + i)) : ∀ k, bt f (mnk k (mny N a)) ||| bt g (mnk k (mny N b)) = nI (al N a b k)
  | 0 => by
    have e : ∀ m, mnk 0 m = 0 := fun m => by unfold mnk; split <;> omega
    rw [e, e]
    show (0 : Int32) ||| 0 = nI 0
    decide
  | k + 1 => by
    have ih := al_bt hw ha hb hf hg k
    have b1 := hw.n1.2
    have st : ∀ (h : Nat → Int32) (m c : Nat), c < nv (N 3) → m = mny N c → (∀ i, i < m → h i = N (84 + 9 * c + i)) → bt h (mnk (k + 1) m) = bt h (mnk k m) ||| nI (if k < m then 2 ^ nv (N (84 + 9 * c + k)) else 0) := by
      intro h m c hc hm hh
      by_cases q : k < m
      · have wq := hw.wh hc (i := k) (by omega)
        rw [if_pos q, show mnk (k + 1) m = k + 1 from by unfold mnk; split <;> omega, show mnk k m = k from if_pos q]
        show bt h k ||| (1 <<< (h k &&& 31)) = _
        rw [hh k q, ← nI_sh _ (by omega), ← wq.1]
      · rw [if_neg q, show mnk (k + 1) m = m from by unfold mnk; split <;> omega, show mnk k m = m from by unfold mnk; split <;> omega]
        show _ = bt h m ||| 0
        rw [Int32.or_zero]
    rw [st f _ a ha rfl hf, st g _ b hb rfl hg, al, nI_or, nI_or, ← ih]
    simp only [Int32.or_assoc]
    congr 1
    rw [← Int32.or_assoc, ← Int32.or_assoc, Int32.or_comm (nI _) (bt g _)]
theorem mnk5 {m : Nat} (h : m ≤ 5) : mnk 5 m = m := by unfold mnk; split <;> omega
theorem ptN_two {N : Nat → Int32} {a b s : Nat} (hab : a ≠ b) (h : okP N a b s) : Two N (ptN N a b s) a b (nI s) (rsN N a b s) := Two.of hab h.2.1 (fun _ _ _ => rfl) (ptR_p h.2.1) (ptR_p h.2.2)
theorem ptN_wf {N : Nat → Int32} (hw : WF N) {a b s : Nat} (ha : a < nv (N 3)) (hb : b < nv (N 3)) (hab : a ≠ b) (h : okP N a b s) : WF (ptN N a b s) := by
  refine WF_two hw ha hb hab h.2.1 h.2.2 (fun p hp hl => ?_) (fun p hp hl => ?_) (fun p hp h1 h2 => ?_) (ptN_two hab h)
  · exact lb_al hw ha hb hp 5 (lb_sub h.1 hp hl)
  · exact lb_al hw ha hb hp 5 ((lb_and hp).mp hl).1
  · exact (lb_not hp).mp ((lb_and hp).mp h2).2 h1
set_option maxHeartbeats 1000000 in
theorem c0_chooseParts {G : Gl} {d : Nat} {S : Sh} {μ : Mu} {H D : Nat} {N : Nat → Int32} {x y : Int32} {a b : Nat} {K : Sh → Mu → Prop} (hH : OS G S H) (hD : DS G S D) (hw : WF N) (hr : repD μ D N) (hnb : μ (H + 3 + 14) 1 = 0) (hdis : D + 32 ≤ H ∨ H + 41 ≤ D) (hx : x = nI a) (ha : a < nv (N 3)) (hy : y = nI b) (hb : b < nv (N 3)) (hab : a ≠ b) (hK : ∀ ν M, Fh H μ ν → repD ν (H + 3) M → BW H ν (bw (okP N a b) (tlP N a b) 0 ((al N a b 5) + 1)) → K S ν) : X G mi_X0_chooseParts (d + 6) 0 0 [(0, .ref H), (1, .ref D), (2, .int x), (3, .int y)] [] S μ (qv K) := by
  have b3 := hw.n3.2
  have h6a : a < 6 := by omega
  have h6b : b < 6 := by omega
  have hal : (al N a b 5) < 1024 := al_lt hw ha hb 5
  refine X_aload_n (tk_X0_chooseParts.at 0 rfl) rfl ?_
  refine X_aload_n (tk_X0_chooseParts.at 1 rfl) rfl ?_
  refine X_cV1v (lv2 := [(0, _), (1, _)]) (tk_X0_chooseParts.at 2 rfl) mv_X0_begin lk_x0_46 np_X0_begin hH.1 (by decide) rfl (Nat.le_of_ble_eq_true rfl) (Nat.le_of_ble_eq_true rfl) rfl (c0_begin hH hD hw hr hnb hdis (fun ν hF hT hB => ?_))
  refine X_aload_n (tk_X0_chooseParts.at 3 rfl) rfl ?_
  refine X_getR (tk_X0_chooseParts.at 4 rfl) fl_x0_30 hH.1 rfl rfl ?_
  refine X_iload_n (tk_X0_chooseParts.at 5 rfl) rfl ?_
  refine X_cV1r (lv2 := [(0, _), (1, _)]) (tk_X0_chooseParts.at 6 rfl) mv_X2_rowOf lk_x0_49 np_X2_rowOf hH.2.2.1.1 (by decide) rfl (Nat.le_of_ble_eq_true rfl) (Nat.le_of_ble_eq_true rfl) rfl (c2_rowOf (r := a) hH.2.2.1 hx h6a ?_)
  refine X_cV0i (lv2 := [(0, _)]) (tk_X0_chooseParts.at 7 rfl) mv_X6_bits lk_x0_87 np_X6_bits (DS_r hH.2.2.1 h6a).1 (by decide) rfl (Nat.le_of_ble_eq_true rfl) (Nat.le_of_ble_eq_true rfl) rfl (c6_bits (DS_r hH.2.2.1 h6a) (rD_rs1 hw hT ha) (hw.mb ha) (by decide) ?_)
  refine X_aload_n (tk_X0_chooseParts.at 8 rfl) rfl ?_
  refine X_getR (tk_X0_chooseParts.at 9 rfl) fl_x0_30 hH.1 rfl rfl ?_
  refine X_iload_n (tk_X0_chooseParts.at 10 rfl) rfl ?_
  refine X_cV1r (lv2 := [(0, _), (1, _)]) (tk_X0_chooseParts.at 11 rfl) mv_X2_rowOf lk_x0_49 np_X2_rowOf hH.2.2.1.1 (by decide) rfl (Nat.le_of_ble_eq_true rfl) (Nat.le_of_ble_eq_true rfl) rfl (c2_rowOf (r := b) hH.2.2.1 hy h6b ?_)
  refine X_cV0i (lv2 := [(0, _)]) (tk_X0_chooseParts.at 12 rfl) mv_X6_bits lk_x0_87 np_X6_bits (DS_r hH.2.2.1 h6b).1 (by decide) rfl (Nat.le_of_ble_eq_true rfl) (Nat.le_of_ble_eq_true rfl) rfl (c6_bits (DS_r hH.2.2.1 h6b) (rD_rs1 hw hT hb) (hw.mb hb) (by decide) ?_)
  refine X_ior (tk_X0_chooseParts.at 13 rfl) ?_
  have eal := al_bt hw ha hb (f := ν (H + 3 + 20 + 2 * a + 1)) (g := ν (H + 3 + 20 + 2 * b + 1)) (fun i hi => rD_ra1 hw hT ha hi) (fun i hi => rD_ra1 hw hT hb hi) 5
  rw [mnk5 (hw.mb ha), mnk5 (hw.mb hb)] at eal
  rw [eal]
  refine X_istore (lv' := [(0, _), (1, _), (2, _), (3, _), (4, _)]) (tk_X0_chooseParts.at 14 rfl) (by decide) rfl rfl ?_
  refine X_iconst (tk_X0_chooseParts.at 15 rfl) ci_0 ?_
  refine X_istore (lv' := [(0, _), (1, _), (2, _), (3, _), (4, _), (5, _)]) (tk_X0_chooseParts.at 16 rfl) (by decide) rfl rfl ?_
  have loop : ∀ (m s : Nat) (ν : Mu) (M : Nat → Int32) (rest : List (Nat × Value)), s + m = (al N a b 5) + 1 → Fh H μ ν → WF M → repD ν (H + 3) M → (∀ q, (q < 83 + 9 * a ∨ 89 + 9 * a ≤ q) → (q < 83 + 9 * b ∨ 89 + 9 * b ≤ q) → M q = N q) → BW H ν (bw (okP N a b) (tlP N a b) 0 s) → X G mi_X0_chooseParts (d + 6) 0 33 ([(0, .ref H), (1, .ref D), (2, .int x), (3, .int y), (4, .int (nI (al N a b 5))), (5, .int (nI s))] ++ rest) [] S ν (qv K) := by
    intro m
    induction m with
    | zero =>
      intro s ν M rest hk hF hwM hT hM hB
      refine X_lvp [0, 1, 2, 3, 4, 5] (lv' := [(0, _), (1, _), (2, _), (3, _), (4, _), (5, _)]) rfl ?_
      have e : s = (al N a b 5) + 1 := by omega
      refine X_iload (tk_X0_chooseParts.at 17 rfl) rfl ?_
      refine X_iload (tk_X0_chooseParts.at 18 rfl) rfl ?_
      refine X_icmp_gtN (tgt := 138) (tk_X0_chooseParts.at 19 rfl) (by decide) (pl s rfl) (pl (al N a b 5) rfl) (by omega) (by omega) (fun c1 => ?_) (fun c1 => (by exfalso; omega))
      refine X_return (tk_X0_chooseParts.at 68 rfl) rfl ?_
      rw [e] at hB
      exact hK ν M hF hT hB
    | succ m ih =>
      intro s ν M rest hk hF hwM hT hM hB
      refine X_lvp [0, 1, 2, 3, 4, 5] (lv' := [(0, _), (1, _), (2, _), (3, _), (4, _), (5, _)]) rfl ?_
      obtain ⟨rs, hrs, ers⟩ := and_lt hal (nI s ^^^ -1)
      have l10 := slc_le (nI s) 10
      have l11 : slc (rsN N a b s) 10 ≤ 10 := slc_le _ 10
      refine X_iload (tk_X0_chooseParts.at 17 rfl) rfl ?_
      refine X_iload (tk_X0_chooseParts.at 18 rfl) rfl ?_
      refine X_icmp_gtN (tgt := 138) (tk_X0_chooseParts.at 19 rfl) (by decide) (pl s rfl) (pl (al N a b 5) rfl) (by omega) (by omega) (fun c1 => (by exfalso; omega)) (fun c1 => ?_)
      refine X_iload (tk_X0_chooseParts.at 20 rfl) rfl ?_
      refine X_iload (tk_X0_chooseParts.at 21 rfl) rfl ?_
      refine X_iconst (tk_X0_chooseParts.at 22 rfl) ci_m1 ?_
      refine X_ixor (tk_X0_chooseParts.at 23 rfl) ?_
      refine X_iand (tk_X0_chooseParts.at 24 rfl) ?_
      change X _ _ _ _ _ _ (.int (rsN N a b s) :: _) _ _ _
      refine X_istore (lv' := [(0, _), (1, _), (2, _), (3, _), (4, _), (5, _), (6, _)]) (tk_X0_chooseParts.at 25 rfl) (by decide) rfl rfl ?_
      refine X_iload (tk_X0_chooseParts.at 26 rfl) rfl ?_
      refine X_cS1i (lv2 := [(0, _)]) (tk_X0_chooseParts.at 27 rfl) ms_J6_bitCount_0f7a4 lk_x0_91 np_J6_bitCount_0f7a4 (Nat.le_of_ble_eq_true rfl) (Nat.le_of_ble_eq_true rfl) rfl (cj_bitCount (n := s) rfl (by omega) ?_)
      refine X_iconst (tk_X0_chooseParts.at 28 rfl) ci_5 ?_
      refine X_icmp_gtN (tgt := 71) (tk_X0_chooseParts.at 29 rfl) (by decide) (pl (slc (nI s) 10) rfl) (pl 5 rfl) (by omega) (by omega) (fun c2 => ?_) (fun c2 => ?_)
      · refine X_iconst (tk_X0_chooseParts.at 36 rfl) ci_0 ?_
        refine X_istore (lv' := [(0, _), (1, _), (2, _), (3, _), (4, _), (5, _), (6, _), (7, _)]) (tk_X0_chooseParts.at 37 rfl) (by decide) rfl rfl ?_
        refine X_iload (tk_X0_chooseParts.at 38 rfl) rfl ?_
        refine X_iload (tk_X0_chooseParts.at 39 rfl) rfl ?_
        refine X_iconst (tk_X0_chooseParts.at 40 rfl) ci_m1 ?_
        refine X_ixor (tk_X0_chooseParts.at 41 rfl) ?_
        refine X_iand (tk_X0_chooseParts.at 42 rfl) ?_
        refine X_if_ne (tgt := 132) (tk_X0_chooseParts.at 43 rfl) (by decide) (fun c3 => ?_) (fun c3 => ?_)
        · refine X_iinc (lv' := [(0, _), (1, _), (2, _), (3, _), (4, _), (5, _), (6, _), (7, _)]) (tk_X0_chooseParts.at 66 rfl) rfl ci_1 (by decide) rfl rfl ?_
          refine X_goto (tgt := 33) (tk_X0_chooseParts.at 67 rfl) (by decide) ?_
          rw [nI_1 s]
          refine ih (s + 1) ν M _ (by omega) hF hwM hT hM ?_
          rw [bw_n (show ¬ okP N a b (0 + s) from by rw [Nat.zero_add]; exact fun g => by first | exact c3 g.1 | (have := g.2.1; omega) | (have g2 : slc (rsN N a b s) 10 ≤ 5 := g.2.2; omega))]
          exact hB
        · refine X_iload (tk_X0_chooseParts.at 44 rfl) rfl ?_
          refine X_if_eq (tgt := 132) (tk_X0_chooseParts.at 45 rfl) (by decide) (fun _ => ?_) (fun h => absurd h (by decide))
          refine X_iinc (lv' := [(0, _), (1, _), (2, _), (3, _), (4, _), (5, _), (6, _), (7, _)]) (tk_X0_chooseParts.at 66 rfl) rfl ci_1 (by decide) rfl rfl ?_
          refine X_goto (tgt := 33) (tk_X0_chooseParts.at 67 rfl) (by decide) ?_
          rw [nI_1 s]
          refine ih (s + 1) ν M _ (by omega) hF hwM hT hM ?_
          rw [bw_n (show ¬ okP N a b (0 + s) from by rw [Nat.zero_add]; exact fun g => by first | exact c3 g.1 | (have := g.2.1; omega) | (have g2 : slc (rsN N a b s) 10 ≤ 5 := g.2.2; omega))]
          exact hB
      · refine X_iload (tk_X0_chooseParts.at 30 rfl) rfl ?_
        refine X_cS1i (lv2 := [(0, _)]) (tk_X0_chooseParts.at 31 rfl) ms_J6_bitCount_0f7a4 lk_x0_91 np_J6_bitCount_0f7a4 (Nat.le_of_ble_eq_true rfl) (Nat.le_of_ble_eq_true rfl) rfl (cj_bitCount (n := rs) ers hrs ?_)
        rw [← ers]
        refine X_iconst (tk_X0_chooseParts.at 32 rfl) ci_5 ?_
        refine X_icmp_gtN (tgt := 71) (tk_X0_chooseParts.at 33 rfl) (by decide) (pl (slc (rsN N a b s) 10) rfl) (pl 5 rfl) (by omega) (by omega) (fun c5 => ?_) (fun c5 => ?_)
        · refine X_iconst (tk_X0_chooseParts.at 36 rfl) ci_0 ?_
          refine X_istore (lv' := [(0, _), (1, _), (2, _), (3, _), (4, _), (5, _), (6, _), (7, _)]) (tk_X0_chooseParts.at 37 rfl) (by decide) rfl rfl ?_
          refine X_iload (tk_X0_chooseParts.at 38 rfl) rfl ?_
          refine X_iload (tk_X0_chooseParts.at 39 rfl) rfl ?_
          refine X_iconst (tk_X0_chooseParts.at 40 rfl) ci_m1 ?_
          refine X_ixor (tk_X0_chooseParts.at 41 rfl) ?_
          refine X_iand (tk_X0_chooseParts.at 42 rfl) ?_
          refine X_if_ne (tgt := 132) (tk_X0_chooseParts.at 43 rfl) (by decide) (fun c6 => ?_) (fun c6 => ?_)
          · refine X_iinc (lv' := [(0, _), (1, _), (2, _), (3, _), (4, _), (5, _), (6, _), (7, _)]) (tk_X0_chooseParts.at 66 rfl) rfl ci_1 (by decide) rfl rfl ?_
            refine X_goto (tgt := 33) (tk_X0_chooseParts.at 67 rfl) (by decide) ?_
            rw [nI_1 s]
            refine ih (s + 1) ν M _ (by omega) hF hwM hT hM ?_
            rw [bw_n (show ¬ okP N a b (0 + s) from by rw [Nat.zero_add]; exact fun g => by first | exact c6 g.1 | (have := g.2.1; omega) | (have g2 : slc (rsN N a b s) 10 ≤ 5 := g.2.2; omega))]
            exact hB
          · refine X_iload (tk_X0_chooseParts.at 44 rfl) rfl ?_
            refine X_if_eq (tgt := 132) (tk_X0_chooseParts.at 45 rfl) (by decide) (fun _ => ?_) (fun h => absurd h (by decide))
            refine X_iinc (lv' := [(0, _), (1, _), (2, _), (3, _), (4, _), (5, _), (6, _), (7, _)]) (tk_X0_chooseParts.at 66 rfl) rfl ci_1 (by decide) rfl rfl ?_
            refine X_goto (tgt := 33) (tk_X0_chooseParts.at 67 rfl) (by decide) ?_
            rw [nI_1 s]
            refine ih (s + 1) ν M _ (by omega) hF hwM hT hM ?_
            rw [bw_n (show ¬ okP N a b (0 + s) from by rw [Nat.zero_add]; exact fun g => by first | exact c6 g.1 | (have := g.2.1; omega) | (have g2 : slc (rsN N a b s) 10 ≤ 5 := g.2.2; omega))]
            exact hB
        · refine X_iconst (tk_X0_chooseParts.at 34 rfl) ci_1 ?_
          refine X_goto (tgt := 72) (tk_X0_chooseParts.at 35 rfl) (by decide) ?_
          refine X_istore (lv' := [(0, _), (1, _), (2, _), (3, _), (4, _), (5, _), (6, _), (7, _)]) (tk_X0_chooseParts.at 37 rfl) (by decide) rfl rfl ?_
          refine X_iload (tk_X0_chooseParts.at 38 rfl) rfl ?_
          refine X_iload (tk_X0_chooseParts.at 39 rfl) rfl ?_
          refine X_iconst (tk_X0_chooseParts.at 40 rfl) ci_m1 ?_
          refine X_ixor (tk_X0_chooseParts.at 41 rfl) ?_
          refine X_iand (tk_X0_chooseParts.at 42 rfl) ?_
          refine X_if_ne (tgt := 132) (tk_X0_chooseParts.at 43 rfl) (by decide) (fun c8 => ?_) (fun c8 => ?_)
          · refine X_iinc (lv' := [(0, _), (1, _), (2, _), (3, _), (4, _), (5, _), (6, _), (7, _)]) (tk_X0_chooseParts.at 66 rfl) rfl ci_1 (by decide) rfl rfl ?_
            refine X_goto (tgt := 33) (tk_X0_chooseParts.at 67 rfl) (by decide) ?_
            rw [nI_1 s]
            refine ih (s + 1) ν M _ (by omega) hF hwM hT hM ?_
            rw [bw_n (show ¬ okP N a b (0 + s) from by rw [Nat.zero_add]; exact fun g => by first | exact c8 g.1 | (have := g.2.1; omega) | (have g2 : slc (rsN N a b s) 10 ≤ 5 := g.2.2; omega))]
            exact hB
          · refine X_iload (tk_X0_chooseParts.at 44 rfl) rfl ?_
            refine X_if_eq (tgt := 132) (tk_X0_chooseParts.at 45 rfl) (by decide) (fun h => absurd h (by decide)) (fun _ => ?_)
            have hok : okP N a b s := ⟨c8, by omega, by show slc (rsN N a b s) 10 ≤ 5; omega⟩
            have wf := ptN_wf hw ha hb hab hok
            have htw := ptN_two hab hok
            refine X_aload_n (tk_X0_chooseParts.at 46 rfl) rfl ?_
            refine X_getR (tk_X0_chooseParts.at 47 rfl) fl_x0_30 hH.1 rfl rfl ?_
            refine X_iload_n (tk_X0_chooseParts.at 48 rfl) rfl ?_
            refine X_cV1r (lv2 := [(0, _), (1, _)]) (tk_X0_chooseParts.at 49 rfl) mv_X2_rowOf lk_x0_49 np_X2_rowOf hH.2.2.1.1 (by decide) rfl (Nat.le_of_ble_eq_true rfl) (Nat.le_of_ble_eq_true rfl) rfl (c2_rowOf (r := a) hH.2.2.1 hx h6a ?_)
            refine X_iload (tk_X0_chooseParts.at 50 rfl) rfl ?_
            refine X_cV1v (lv2 := [(0, _), (1, _)]) (tk_X0_chooseParts.at 51 rfl) mv_X6_becomeBits lk_x0_97 np_X6_becomeBits (DS_r hH.2.2.1 h6a).1 (by decide) rfl (Nat.le_of_ble_eq_true rfl) (Nat.le_of_ble_eq_true rfl) rfl (c6_becomeBits (DS_r hH.2.2.1 h6a) (by decide) hok.2.1 (fun B1 hB1 => ?_))
            generalize eζ : Mx (su ν (H + 3 + 20 + 2 * a) 1 (nI (slc (nI s) 10))) (H + 3 + 20 + 2 * a + 1) B1 = ζ
            have fζ : ∀ q, q ≠ H + 3 + 20 + 2 * a → q ≠ H + 3 + 20 + 2 * a + 1 → ζ q = ν q := fun q h1 h2 => by rw [← eζ, Mx_ne h2, su_ne h1]
            have sζ : ζ (H + 3 + 20 + 2 * a) 1 = nI (slc (nI s) 10) := by rw [← eζ, Mx_ne (by omega), su_same]; exact upd_at _ _ _
            have cζ : ∀ i, i < slc (nI s) 10 → ζ (H + 3 + 20 + 2 * a + 1) i = nI (slf (nI s) 10 i) := fun i hi => by rw [← eζ, Mx_same]; exact hB1 i hi
            refine X_aload_n (tk_X0_chooseParts.at 52 rfl) rfl ?_
            refine X_getR (tk_X0_chooseParts.at 53 rfl) fl_x0_30 hH.1 rfl rfl ?_
            refine X_iload_n (tk_X0_chooseParts.at 54 rfl) rfl ?_
            refine X_cV1r (lv2 := [(0, _), (1, _)]) (tk_X0_chooseParts.at 55 rfl) mv_X2_rowOf lk_x0_49 np_X2_rowOf hH.2.2.1.1 (by decide) rfl (Nat.le_of_ble_eq_true rfl) (Nat.le_of_ble_eq_true rfl) rfl (c2_rowOf (r := b) hH.2.2.1 hy h6b ?_)
            refine X_iload (tk_X0_chooseParts.at 56 rfl) rfl ?_
            refine X_cV1v (lv2 := [(0, _), (1, _)]) (tk_X0_chooseParts.at 57 rfl) mv_X6_becomeBits lk_x0_97 np_X6_becomeBits (DS_r hH.2.2.1 h6b).1 (by decide) rfl (Nat.le_of_ble_eq_true rfl) (Nat.le_of_ble_eq_true rfl) rfl (c6_becomeBits (DS_r hH.2.2.1 h6b) (by decide) hok.2.2 (fun B2 hB2 => ?_))
            generalize eθ : Mx (su ζ (H + 3 + 20 + 2 * b) 1 (nI (slc (rsN N a b s) 10))) (H + 3 + 20 + 2 * b + 1) B2 = θ
            have fθ : ∀ q, q ≠ H + 3 + 20 + 2 * b → q ≠ H + 3 + 20 + 2 * b + 1 → θ q = ζ q := fun q h1 h2 => by rw [← eθ, Mx_ne h2, su_ne h1]
            have sθ : θ (H + 3 + 20 + 2 * b) 1 = nI (slc (rsN N a b s) 10) := by rw [← eθ, Mx_ne (by omega), su_same]; exact upd_at _ _ _
            have cθ : ∀ i, i < slc (rsN N a b s) 10 → θ (H + 3 + 20 + 2 * b + 1) i = nI (slf (rsN N a b s) 10 i) := fun i hi => by rw [← eθ, Mx_same]; exact hB2 i hi
            have hM3 : M 3 = N 3 := hM 3 (by omega) (by omega)
            have hT2 : repD θ (H + 3) (ptN N a b s) := repD_row2 (r0 := a) (r1 := b) hwM hT (by rw [hM3]; exact ha) (by rw [hM3]; exact hb) (fun q h1 h2 h3 h4 => by rw [fθ q h3 h4, fζ q h1 h2]) (fun q h1 h2 => by rw [htw.1 q h1 h2]; exact (hM q h1 h2).symm) ⟨?_, fun i hi => ?_⟩ ⟨?_, fun i hi => ?_⟩
            rotate_left
            · rw [fθ _ (by omega) (by omega), sζ]; exact htw.2.1.1.symm
            · have hi2 : i < slc (nI s) 10 := by rw [htw.2.1.1, nv_nI (by have := hok.2.1; omega)] at hi; exact hi
              rw [fθ _ (by omega) (by omega), cζ i hi2]; exact (htw.2.1.2 i hi2).symm
            · rw [sθ]; exact htw.2.2.1.symm
            · have hi2 : i < slc (rsN N a b s) 10 := by rw [htw.2.2.1, nv_nI (by have := hok.2.2; omega)] at hi; exact hi
              rw [cθ i hi2]; exact (htw.2.2.2 i hi2).symm
            refine X_aload_n (tk_X0_chooseParts.at 58 rfl) rfl ?_
            refine X_iload (tk_X0_chooseParts.at 59 rfl) rfl ?_
            refine X_aload_n (tk_X0_chooseParts.at 60 rfl) rfl ?_
            refine X_getR (tk_X0_chooseParts.at 61 rfl) fl_x0_37 hH.1 rfl rfl ?_
            refine X_aload_n (tk_X0_chooseParts.at 62 rfl) rfl ?_
            refine X_getR (tk_X0_chooseParts.at 63 rfl) fl_x0_30 hH.1 rfl rfl ?_
            refine X_cV1i (lv2 := [(0, _), (1, _)]) (tk_X0_chooseParts.at 64 rfl) mv_X1_tollOf lk_x0_56 np_X1_tollOf hH.2.2.2.1 (by decide) rfl (Nat.le_of_ble_eq_true rfl) (Nat.le_of_ble_eq_true rfl) rfl (c0_toll hH wf hT2 (fun ξ hf1 hT1 ho1 => ?_))
            refine X_cV2v (lv2 := [(0, _), (1, _), (2, _)]) (tk_X0_chooseParts.at 65 rfl) mv_X0_weigh lk_x0_83 np_X0_weigh hH.1 (by decide) rfl (Nat.le_of_ble_eq_true rfl) (Nat.le_of_ble_eq_true rfl) rfl (c0_weigh (tn := (toll (ptN N a b s))) (c := s) hH (BW_eq (BW_eq hB (by rw [fθ H (by omega) (by omega), fζ H (by omega) (by omega)])) (hf1 H (by omega))) (pl (toll (ptN N a b s)) rfl) (toll_le wf) (pz (pl s rfl) (by omega)) (fun η hf2 hB2 => ?_))
            refine X_iinc (lv' := [(0, _), (1, _), (2, _), (3, _), (4, _), (5, _), (6, _), (7, _)]) (tk_X0_chooseParts.at 66 rfl) rfl ci_1 (by decide) rfl rfl ?_
            refine X_goto (tgt := 33) (tk_X0_chooseParts.at 67 rfl) (by decide) ?_
            rw [nI_1 s]
            refine ih (s + 1) η _ _ (by omega) ?_ wf (repD_of hT1 (fun q h1 h2 => hf2 q (by omega))) (fun q h1 h2 => htw.1 q h1 h2) (by rw [bw_wg (show okP N a b (0 + s) from by rw [Nat.zero_add]; exact hok), Nat.zero_add]; exact hB2)
            intro q hq
            rw [hf2 q (by omega), hf1 q (by omega), fθ q (by omega) (by omega), fζ q (by omega) (by omega)]
            exact hF q hq
  exact loop _ 0 ν N [] (Nat.zero_add _) hF hw hT (fun _ _ _ => rfl) hB
