section
variable {N : Nat → Int32} {a b s : Nat}
theorem okP.m1 (hw : WF N) (ha : a < nv (N 3)) (hb : b < nv (N 3)) (h : nI s &&& (nI (al N a b 5) ^^^ -1) = 0) : ∀ p, p < 10 → lb (nI s) (nI p) → ∃ i, On N a i p ∨ On N b i p := fun p hp g => lb_al hw ha hb hp 5 (lb_sub h hp g)
theorem okP.m2 (hw : WF N) (ha : a < nv (N 3)) (hb : b < nv (N 3)) : ∀ p, p < 10 → lb (rsN N a b s) (nI p) → ∃ i, On N a i p ∨ On N b i p := fun p hp g => lb_al hw ha hb hp 5 ((lb_and hp).mp g).1
theorem okP.dj : ∀ p, p < 10 → lb (nI s) (nI p) → lb (rsN N a b s) (nI p) → False := fun p hp g1 g2 => ((lb_not hp).mp ((lb_and hp).mp g2).2) g1
theorem pt_two (hab : a ≠ b) (h1 : slc (nI s) 10 ≤ 5) (h2 : slc (rsN N a b s) 10 ≤ 5) : Two N (ptN N a b s) a b (nI s) (rsN N a b s) := Two.of hab h1 (fun _ _ _ => rfl) (ptR_p h1) (ptR_p h2)
end
theorem BB_c {o : Nat} {ν ξ : Mu} {bl : Int32} {b : Option (Nat × Nat)} (h : BB o ν bl b) (e : ξ o = ν o) : BB o ξ bl b := by
  unfold BB at h ⊢
  rw [e]
  exact h
set_option maxHeartbeats 1000000 in
theorem c10_parts {G : Gl} {d : Nat} {S : Sh} {μ : Mu} {o : Nat} {q : Nat → Nat} {x y : Int32} {N : Nat → Int32} {K : Int32 → Sh → Mu → Prop} (hM : MS S o q) (hN : μ (o + 1) = N) (hl0 : μ o 5 = 0) (hw : WF N) (k1 : ¬ (In x (nv (N 3)) ∧ In y (nv (N 3)) ∧ x ≠ y) → K (-1000000001) S (er μ o 1)) (k2 : ∀ a b, a < nv (N 3) → b < nv (N 3) → x = nI a → y = nI b → a ≠ b → ¬ ((∃ k, k < nv (N 4) ∧ N (134 + k) = nI a) ∧ ∃ k, k < nv (N 4) ∧ N (134 + k) = nI b) → K (-1000000003) S (er μ o 3)) (k3 : ∀ ν a b, a < nv (N 3) → b < nv (N 3) → x = nI a → y = nI b → a ≠ b → (∃ k, k < nv (N 4) ∧ N (134 + k) = nI a) → (∃ k, k < nv (N 4) ∧ N (134 + k) = nI b) → Sq o μ ν → ν (o + 1) = N → bw (okP N a b) (tlP N a b) 0 (al N a b 5 + 1) = none → K (-1) S ν) (k4 : ∀ ν a b t c, a < nv (N 3) → b < nv (N 3) → x = nI a → y = nI b → a ≠ b → (∃ k, k < nv (N 4) ∧ N (134 + k) = nI a) → (∃ k, k < nv (N 4) ∧ N (134 + k) = nI b) → Sq o μ ν → ν (o + 1) = N → bw (okP N a b) (tlP N a b) 0 (al N a b 5 + 1) = some (t, c) → K (nI c) S ν) : X G mi_X10_parts (d + 9) 0 0 [(0, .ref o), (1, .int x), (2, .int y)] [] S μ (qi K) := by
  have b3 := hw.n3.2
  have b4 := hw.n4.2
  have b1 := hw.n1.2
  have w3 : μ (o + 1) 3 = nI (nv (N 3)) := by rw [hN]; exact hw.n3.1
  have b4m : nv (μ (o + 1) 4) ≤ 6 := by rw [hN]; exact b4
  refine X_aload_n (tk_X10_parts.at 0 rfl) rfl ?_
  refine X_iload_n (tk_X10_parts.at 1 rfl) rfl ?_
  refine X_iconst (tk_X10_parts.at 2 rfl) ci_3 ?_
  refine X_cV2i (lv2 := [(0, _), (1, _), (2, _)]) (tk_X10_parts.at 3 rfl) mv_X10_is lk_x10_90 np_X10_is hM.f0 (by decide) rfl (Nat.le_of_ble_eq_true rfl) (Nat.le_of_ble_eq_true rfl) rfl (c10_is hM (pl 3 rfl) (by decide) w3 (by omega) (fun j3 hj3 ej3 => ?_) (fun hj3 => ?_))
  · refine X_if_eq (tgt := 23) (tk_X10_parts.at 4 rfl) (by decide) (fun h => absurd h (by decide)) (fun _ => ?_)
    refine X_aload_n (tk_X10_parts.at 5 rfl) rfl ?_
    refine X_iload_n (tk_X10_parts.at 6 rfl) rfl ?_
    refine X_iconst (tk_X10_parts.at 7 rfl) ci_3 ?_
    refine X_cV2i (lv2 := [(0, _), (1, _), (2, _)]) (tk_X10_parts.at 8 rfl) mv_X10_is lk_x10_90 np_X10_is hM.f0 (by decide) rfl (Nat.le_of_ble_eq_true rfl) (Nat.le_of_ble_eq_true rfl) rfl (c10_is hM (pl 3 rfl) (by decide) w3 (by omega) (fun j12 hj12 ej12 => ?_) (fun hj12 => ?_))
    · refine X_if_eq (tgt := 23) (tk_X10_parts.at 9 rfl) (by decide) (fun h => absurd h (by decide)) (fun _ => ?_)
      refine X_iload_n (tk_X10_parts.at 10 rfl) rfl ?_
      refine X_iload_n (tk_X10_parts.at 11 rfl) rfl ?_
      refine X_icmp_neN (tgt := 30) (tk_X10_parts.at 12 rfl) (by decide) ej3 ej12 (by omega) (by omega) (fun c3 => ?_) (fun c3 => ?_)
      · refine X_aload_n (tk_X10_parts.at 17 rfl) rfl ?_
        refine X_iload_n (tk_X10_parts.at 18 rfl) rfl ?_
        refine X_cV1i (lv2 := [(0, _), (1, _)]) (tk_X10_parts.at 19 rfl) mv_X10_inLine lk_x10_139 np_X10_inLine hM.f0 (by decide) rfl (Nat.le_of_ble_eq_true rfl) (Nat.le_of_ble_eq_true rfl) rfl (c10_inLine hM (by rw [hN]; exact hw) (fun k32 hk32 h32 => ?_) (fun h32 => ?_))
        · refine X_if_ltN (tgt := 46) (tk_X10_parts.at 20 rfl) (by decide) (pl k32 rfl) (by omega) ?_
          refine X_aload_n (tk_X10_parts.at 21 rfl) rfl ?_
          refine X_iload_n (tk_X10_parts.at 22 rfl) rfl ?_
          refine X_cV1i (lv2 := [(0, _), (1, _)]) (tk_X10_parts.at 23 rfl) mv_X10_inLine lk_x10_139 np_X10_inLine hM.f0 (by decide) rfl (Nat.le_of_ble_eq_true rfl) (Nat.le_of_ble_eq_true rfl) rfl (c10_inLine hM (by rw [hN]; exact hw) (fun k40 hk40 h40 => ?_) (fun h40 => ?_))
          · refine X_if_geN (tgt := 53) (tk_X10_parts.at 24 rfl) (by decide) (pl k40 rfl) (by omega) ?_
            have hne : j3 ≠ j12 := c3
            rw [hN] at hk32 hk40 h32 h40
            have hl1 : ∃ k, k < nv (N 4) ∧ N (134 + k) = nI j3 := ⟨k32, hk32, by rw [← ej3]; exact h32⟩
            have hl2 : ∃ k, k < nv (N 4) ∧ N (134 + k) = nI j12 := ⟨k40, hk40, by rw [← ej12]; exact h40⟩
            refine X_aload_n (tk_X10_parts.at 29 rfl) rfl ?_
            refine X_getR (tk_X10_parts.at 30 rfl) fl_x10_9 hM.f0 rfl rfl ?_
            refine X_aload_n (tk_X10_parts.at 31 rfl) rfl ?_
            refine X_getR (tk_X10_parts.at 32 rfl) fl_x10_16 hM.f0 rfl rfl ?_
            refine X_cS2v (lv2 := [(0, _), (1, _)]) (tk_X10_parts.at 33 rfl) ms_X10_copy lk_x10_73 np_X10_copy (Nat.le_of_ble_eq_true rfl) (Nat.le_of_ble_eq_true rfl) rfl (c10_copy hM.f1 hM.f3 (by omega) ?_)
            rw [hN]
            refine X_iconst (tk_X10_parts.at 34 rfl) ci_0 ?_
            refine X_istore_n (lv' := [(0, _), (1, _), (2, _), (3, _)]) (tk_X10_parts.at 35 rfl) (by decide) rfl rfl ?_
            refine X_iconst (tk_X10_parts.at 36 rfl) ci_0 ?_
            refine X_istore (lv' := [(0, _), (1, _), (2, _), (3, _), (4, _)]) (tk_X10_parts.at 37 rfl) (by decide) rfl rfl ?_
            have hm1 : (Mx μ (o + 3) N) (o + 1) = N := by rw [Mx_ne (by omega)]; exact hN
            have ma := (hw.ro hj3).2.2.2.1
            have mb := (hw.ro hj12).2.2.2.1
            have sa := (hw.ro hj3).2.2.2.2
            have sb := (hw.ro hj12).2.2.2.2
            have ma2 := ma.2
            have mb2 := mb.2
            have loop0 : ∀ (m i : Nat), i + m = 5 → X G mi_X10_parts (d + 9) 0 69 [(0, .ref o), (1, .int x), (2, .int y), (3, .int (nI (al N j3 j12 i))), (4, .int (nI i))] [] S (Mx μ (o + 3) N) (qi K) := by
              intro m
              induction m with
              | zero =>
                intro i hi
                have e5 : i = 5 := by omega
                subst e5
                have hal := al_lt hw hj3 hj12 5
                refine X_iload (tk_X10_parts.at 38 rfl) rfl ?_
                refine X_iconst (tk_X10_parts.at 39 rfl) ci_5 ?_
                refine X_icmp_geN (tgt := 133) (tk_X10_parts.at 40 rfl) (by decide) (pl 5 rfl) (pl 5 rfl) (by omega) (by omega) (fun c1 => ?_) (fun c1 => (by exfalso; omega))
                refine X_iconst (tk_X10_parts.at 75 rfl) ci_m1 ?_
                refine X_istore (lv' := [(0, _), (1, _), (2, _), (3, _), (4, _)]) (tk_X10_parts.at 76 rfl) (by decide) rfl rfl ?_
                refine X_aload_n (tk_X10_parts.at 77 rfl) rfl ?_
                refine X_iconst (tk_X10_parts.at 78 rfl) ci_0 ?_
                refine X_putI (tk_X10_parts.at 79 rfl) fl_x10_275 hM.f0 rfl rfl ⟨rfl, rfl⟩ ?_
                refine X_iconst (tk_X10_parts.at 80 rfl) ci_0 ?_
                refine X_istore (lv' := [(0, _), (1, _), (2, _), (3, _), (4, _), (5, _)]) (tk_X10_parts.at 81 rfl) (by decide) rfl rfl ?_
                have loop : ∀ (m s : Nat) (ν : Mu) (bl : Int32) (N1 : Nat → Int32) (rest : List (Nat × Value)), s + m = (al N j3 j12 5) + 1 → Sq o μ ν → ν (o + 1) = N1 → ν (o + 3) = N → (∀ z, (z < 83 + 9 * j3 ∨ 89 + 9 * j3 ≤ z) → (z < 83 + 9 * j12 ∨ 89 + 9 * j12 ≤ z) → N1 z = N z) → BB o ν bl (bw (okP N j3 j12) (tlP N j3 j12) 0 s) → X G mi_X10_parts (d + 9) 0 144 ([(0, .ref o), (1, .int x), (2, .int y), (3, .int (nI (al N j3 j12 5))), (4, .int bl), (5, .int (nI s))] ++ rest) [] S ν (qi K) := by
                  intro m
                  induction m with
                  | zero =>
                    intro s ν bl N1 rest hs hsq h1 h3 hj hb
                    refine X_lvp [0, 1, 2, 3, 4, 5] (lv' := [(0, _), (1, _), (2, _), (3, _), (4, _), (5, _)]) rfl ?_
                    have es : s = (al N j3 j12 5) + 1 := by omega
                    refine X_iload (tk_X10_parts.at 82 rfl) rfl ?_
                    refine X_iload_n (tk_X10_parts.at 83 rfl) rfl ?_
                    refine X_icmp_gtN (tgt := 219) (tk_X10_parts.at 84 rfl) (by decide) (pl s rfl) (pl (al N j3 j12 5) rfl) (by omega) (by omega) (fun c1 => ?_) (fun c1 => (by exfalso; omega))
                    refine X_aload_n (tk_X10_parts.at 121 rfl) rfl ?_
                    refine X_iload (tk_X10_parts.at 122 rfl) rfl ?_
                    refine X_cV1i (lv2 := [(0, _), (1, _)]) (tk_X10_parts.at 123 rfl) mv_X10_back lk_x10_285 np_X10_back hM.f0 (by decide) rfl (Nat.le_of_ble_eq_true rfl) (Nat.le_of_ble_eq_true rfl) rfl (c10_back hM ?_)
                    refine X_ireturn (tk_X10_parts.at 124 rfl) rfl rfl ?_
                    rw [es] at hb
                    cases hbw : bw (okP N j3 j12) (tlP N j3 j12) 0 ((al N j3 j12 5) + 1) with
                    | none =>
                      rw [hbw] at hb
                      have ebl : bl = -1 := hb
                      rw [ebl, h3]
                      exact k3 _ j3 j12 hj3 hj12 ej3 ej12 hne hl1 hl2 (hsq.mx _ (by omega)) Mx_same hbw
                    | some x =>
                      obtain ⟨t, c⟩ := x
                      rw [hbw] at hb
                      obtain ⟨c20, ct, cl, cb⟩ := hb
                      rw [cl, h3]
                      exact k4 _ j3 j12 t c hj3 hj12 ej3 ej12 hne hl1 hl2 (hsq.mx _ (by omega)) Mx_same hbw
                  | succ m ih =>
                    intro s ν bl N1 rest hs hsq h1 h3 hj hb
                    refine X_lvp [0, 1, 2, 3, 4, 5] (lv' := [(0, _), (1, _), (2, _), (3, _), (4, _), (5, _)]) rfl ?_
                    refine X_iload (tk_X10_parts.at 82 rfl) rfl ?_
                    refine X_iload_n (tk_X10_parts.at 83 rfl) rfl ?_
                    refine X_icmp_gtN (tgt := 219) (tk_X10_parts.at 84 rfl) (by decide) (pl s rfl) (pl (al N j3 j12 5) rfl) (by omega) (by omega) (fun c1 => (by exfalso; omega)) (fun c1 => ?_)
                    refine X_iload (tk_X10_parts.at 85 rfl) rfl ?_
                    refine X_iload_n (tk_X10_parts.at 86 rfl) rfl ?_
                    refine X_iconst (tk_X10_parts.at 87 rfl) ci_m1 ?_
                    refine X_ixor (tk_X10_parts.at 88 rfl) ?_
                    refine X_iand (tk_X10_parts.at 89 rfl) ?_
                    refine X_if_ne (tgt := 213) (tk_X10_parts.at 90 rfl) (by decide) (fun c2 => ?_) (fun c2 => ?_)
                    · refine X_iinc (lv' := [(0, _), (1, _), (2, _), (3, _), (4, _), (5, _)]) (tk_X10_parts.at 119 rfl) rfl ci_1 (by decide) rfl rfl ?_
                      refine X_goto (tgt := 144) (tk_X10_parts.at 120 rfl) (by decide) ?_
                      rw [nI_1 s]
                      refine ih (s + 1) ν bl N1 [] (by omega) hsq h1 h3 hj ?_
                      rw [bw_n (by rw [Nat.zero_add]; exact (fun g => c2 g.1))]
                      exact BB_c hb rfl
                    · refine X_aload_n (tk_X10_parts.at 91 rfl) rfl ?_
                      refine X_iload_n (tk_X10_parts.at 92 rfl) rfl ?_
                      refine X_iload (tk_X10_parts.at 93 rfl) rfl ?_
                      refine X_cV2i (lv2 := [(0, _), (1, _), (2, _)]) (tk_X10_parts.at 94 rfl) mv_X10_parted lk_x10_294 np_X10_parted hM.f0 (by decide) rfl (Nat.le_of_ble_eq_true rfl) (Nat.le_of_ble_eq_true rfl) rfl (c10_parted hM h1 ej3 (by omega) (fun M1 q1 p1 => ?_) (fun M1 q1 hout1 => ?_))
                      · have hout1 := p1.1
                        refine X_if_eq (tgt := 213) (tk_X10_parts.at 95 rfl) (by decide) (fun h => absurd h (by decide)) (fun _ => ?_)
                        refine X_aload_n (tk_X10_parts.at 96 rfl) rfl ?_
                        refine X_iload_n (tk_X10_parts.at 97 rfl) rfl ?_
                        refine X_iload_n (tk_X10_parts.at 98 rfl) rfl ?_
                        refine X_iload (tk_X10_parts.at 99 rfl) rfl ?_
                        refine X_iconst (tk_X10_parts.at 100 rfl) ci_m1 ?_
                        refine X_ixor (tk_X10_parts.at 101 rfl) ?_
                        refine X_iand (tk_X10_parts.at 102 rfl) ?_
                        refine X_cV2i (lv2 := [(0, _), (1, _), (2, _)]) (tk_X10_parts.at 103 rfl) mv_X10_parted lk_x10_294 np_X10_parted hM.f0 (by decide) rfl (Nat.le_of_ble_eq_true rfl) (Nat.le_of_ble_eq_true rfl) rfl (c10_parted hM Mx_same ej12 (by omega) (fun M2 q2 p2 => ?_) (fun M2 q2 hout2 => ?_))
                        · rw [Mx_Mx]
                          have hout2 := p2.1
                          have two := Two.of hne q1 hj p1 p2
                          have wfm : WF M2 := WF_two hw hj3 hj12 hne q1 q2 (okP.m1 hw hj3 hj12 c2) (okP.m2 hw hj3 hj12) okP.dj two
                          have two0 := pt_two hne q1 q2
                          have wfp : WF (ptN N j3 j12 s) := WF_two hw hj3 hj12 hne q1 q2 (okP.m1 hw hj3 hj12 c2) (okP.m2 hw hj3 hj12) okP.dj two0
                          have eqv := Two.eqv hw hj3 hj12 q1 q2 two0 two
                          have hok : okP N j3 j12 s := ⟨c2, q1, q2⟩
                          have hj0 := hj
                          have hj : (∀ z, (z < 83 + 9 * j3 ∨ 89 + 9 * j3 ≤ z) → (z < 83 + 9 * j12 ∨ 89 + 9 * j12 ≤ z) → M2 z = N z) := (fun z q1 q2 => by rw [hout2 z q2, hout1 z q1]; exact hj0 z q1 q2)
                          refine X_if_eq (tgt := 213) (tk_X10_parts.at 104 rfl) (by decide) (fun h => absurd h (by decide)) (fun _ => ?_)
                          refine X_aload_n (tk_X10_parts.at 105 rfl) rfl ?_
                          have wft : WF M2 := wfm
                          refine X_cV0i (lv2 := [(0, _)]) (tk_X10_parts.at 106 rfl) mv_X10_tollOf lk_x10_264 np_X10_tollOf hM.f0 (by decide) rfl (Nat.le_of_ble_eq_true rfl) (Nat.le_of_ble_eq_true rfl) rfl (c10_tollY hM Mx_same (by rw [Mx_ne (by omega)]; exact hsq.2.2.1.trans hl0) wft (fun ξ hsy hov => ?_))
                          have tb := toll_le wft
                          have x20 : ξ o 20 = ν o 20 := by rw [hsy.2 20 (by decide), Mx_ne (by omega)]
                          have x1 : ξ (o + 1) = M2 := by rw [hsy.1 _ (by omega) (by omega) (by omega) (by omega) (by omega), Mx_same]
                          have x3 : ξ (o + 3) = ν (o + 3) := by rw [hsy.1 _ (by omega) (by omega) (by omega) (by omega) (by omega), Mx_ne (by omega)]
                          have xsq : Sq o μ ξ := (hsq.mx _ (by omega)).tr hsy.sx
                          clear hsy hov
                          refine X_istore (lv' := [(0, _), (1, _), (2, _), (3, _), (4, _), (5, _), (6, _)]) (tk_X10_parts.at 107 rfl) (by decide) rfl rfl ?_
                          have y20 := x20
                          have etl : toll M2 = (tlP N j3 j12) (0 + s) := by rw [Nat.zero_add]; exact toll_e wfp eqv
                          generalize hbb : bw (okP N j3 j12) (tlP N j3 j12) 0 s = b at hb
                          cases b with
                          | none =>
                            have hbt : btr none (toll M2) := trivial
                            have ebl : bl = -1 := hb
                            rw [ebl]
                            refine X_iload (tk_X10_parts.at 108 rfl) rfl ?_
                            refine X_if_lt (tgt := 203) (tk_X10_parts.at 109 rfl) (by decide) (fun _ => ?_) (fun h => absurd h (by decide))
                            refine X_iload (tk_X10_parts.at 114 rfl) rfl ?_
                            refine X_istore (lv' := [(0, _), (1, _), (2, _), (3, _), (4, _), (5, _), (6, _)]) (tk_X10_parts.at 115 rfl) (by decide) rfl rfl ?_
                            refine X_aload_n (tk_X10_parts.at 116 rfl) rfl ?_
                            refine X_iload (tk_X10_parts.at 117 rfl) rfl ?_
                            refine X_putI (tk_X10_parts.at 118 rfl) fl_x10_275 hM.f0 rfl rfl ⟨rfl, rfl⟩ ?_
                            refine X_iinc (lv' := [(0, _), (1, _), (2, _), (3, _), (4, _), (5, _), (6, _)]) (tk_X10_parts.at 119 rfl) rfl ci_1 (by decide) rfl rfl ?_
                            refine X_goto (tgt := 144) (tk_X10_parts.at 120 rfl) (by decide) ?_
                            rw [nI_1 s]
                            refine ih (s + 1) (su ξ o 20 (nI (toll M2))) (nI s) M2 [(6, _)] (by omega) (xsq.su _ (by decide)) (by rw [su_ne (by omega)]; exact x1) (by rw [su_ne (by omega)]; exact x3.trans h3) hj ?_
                            rw [bw_t (by first | exact hok | (rw [Nat.zero_add]; exact hok)) (by rw [hbb, ← etl]; exact hbt), ← etl, Nat.zero_add]
                            exact ⟨by rw [su_same]; exact upd_at _ _ _, tb, rfl, by omega⟩
                          | some x =>
                            obtain ⟨t, c⟩ := x
                            obtain ⟨c20, ct, cl, cb⟩ := hb
                            refine X_iload (tk_X10_parts.at 108 rfl) rfl ?_
                            refine X_if_ltN (tgt := 203) (tk_X10_parts.at 109 rfl) (by decide) cl (by omega) ?_
                            refine X_iload (tk_X10_parts.at 110 rfl) rfl ?_
                            refine X_aload_n (tk_X10_parts.at 111 rfl) rfl ?_
                            refine X_getI (tk_X10_parts.at 112 rfl) fl_x10_275 hM.f0 rfl ?_
                            refine X_icmp_geN (tgt := 213) (tk_X10_parts.at 113 rfl) (by decide) (pl (toll M2) rfl) (y20.trans c20) (by omega) (by omega) (fun c2 => ?_) (fun c2 => ?_)
                            · refine X_iinc (lv' := [(0, _), (1, _), (2, _), (3, _), (4, _), (5, _), (6, _)]) (tk_X10_parts.at 119 rfl) rfl ci_1 (by decide) rfl rfl ?_
                              refine X_goto (tgt := 144) (tk_X10_parts.at 120 rfl) (by decide) ?_
                              rw [nI_1 s]
                              refine ih (s + 1) ξ bl M2 [(6, _)] (by omega) xsq x1 (x3.trans h3) hj ?_
                              rw [bw_f (by rw [hbb, ← etl]; exact Nat.not_lt.mpr (by omega)), hbb]
                              exact ⟨y20.trans c20, ct, cl, cb⟩
                            · refine X_iload (tk_X10_parts.at 114 rfl) rfl ?_
                              refine X_istore (lv' := [(0, _), (1, _), (2, _), (3, _), (4, _), (5, _), (6, _)]) (tk_X10_parts.at 115 rfl) (by decide) rfl rfl ?_
                              refine X_aload_n (tk_X10_parts.at 116 rfl) rfl ?_
                              refine X_iload (tk_X10_parts.at 117 rfl) rfl ?_
                              refine X_putI (tk_X10_parts.at 118 rfl) fl_x10_275 hM.f0 rfl rfl ⟨rfl, rfl⟩ ?_
                              refine X_iinc (lv' := [(0, _), (1, _), (2, _), (3, _), (4, _), (5, _), (6, _)]) (tk_X10_parts.at 119 rfl) rfl ci_1 (by decide) rfl rfl ?_
                              refine X_goto (tgt := 144) (tk_X10_parts.at 120 rfl) (by decide) ?_
                              have hbt : btr (some (t, c)) (toll M2) := (show toll M2 < t by omega)
                              rw [nI_1 s]
                              refine ih (s + 1) (su ξ o 20 (nI (toll M2))) (nI s) M2 [(6, _)] (by omega) (xsq.su _ (by decide)) (by rw [su_ne (by omega)]; exact x1) (by rw [su_ne (by omega)]; exact x3.trans h3) hj ?_
                              rw [bw_t (by first | exact hok | (rw [Nat.zero_add]; exact hok)) (by rw [hbb, ← etl]; exact hbt), ← etl, Nat.zero_add]
                              exact ⟨by rw [su_same]; exact upd_at _ _ _, tb, rfl, by omega⟩
                        · rw [Mx_Mx]
                          refine X_if_eq (tgt := 213) (tk_X10_parts.at 104 rfl) (by decide) (fun _ => ?_) (fun h => absurd h (by decide))
                          refine X_iinc (lv' := [(0, _), (1, _), (2, _), (3, _), (4, _), (5, _)]) (tk_X10_parts.at 119 rfl) rfl ci_1 (by decide) rfl rfl ?_
                          refine X_goto (tgt := 144) (tk_X10_parts.at 120 rfl) (by decide) ?_
                          rw [nI_1 s]
                          refine ih (s + 1) (Mx ν (o + 1) M2) bl M2 [] (by omega) (hsq.mx _ (by omega)) Mx_same (by rw [Mx_ne (by omega)]; exact h3) (fun z q1 q2 => by rw [hout2 z q2, hout1 z q1]; exact hj z q1 q2) ?_
                          rw [bw_n (by rw [Nat.zero_add]; exact (fun g => Nat.lt_irrefl _ (Nat.lt_of_lt_of_le q2 g.2.2)))]
                          exact BB_c hb (by rw [Mx_ne (by omega)])
                      · refine X_if_eq (tgt := 213) (tk_X10_parts.at 95 rfl) (by decide) (fun _ => ?_) (fun h => absurd h (by decide))
                        refine X_iinc (lv' := [(0, _), (1, _), (2, _), (3, _), (4, _), (5, _)]) (tk_X10_parts.at 119 rfl) rfl ci_1 (by decide) rfl rfl ?_
                        refine X_goto (tgt := 144) (tk_X10_parts.at 120 rfl) (by decide) ?_
                        rw [nI_1 s]
                        refine ih (s + 1) (Mx ν (o + 1) M1) bl M1 [] (by omega) (hsq.mx _ (by omega)) Mx_same (by rw [Mx_ne (by omega)]; exact h3) (fun z q1 q2 => by rw [hout1 z q1]; exact hj z q1 q2) ?_
                        rw [bw_n (by rw [Nat.zero_add]; exact (fun g => absurd g.2.1 (by omega)))]
                        exact BB_c hb (by rw [Mx_ne (by omega)])
                exact loop ((al N j3 j12 5) + 1) 0 (su (Mx μ (o + 3) N) o 20 0) (-1) N [] (Nat.zero_add _) (((Sq.rf o μ).mx _ (by omega)).su _ (by decide)) (by rw [su_ne (by omega), Mx_ne (by omega)]; exact hN) (by rw [su_ne (by omega)]; exact Mx_same) (fun _ _ _ => rfl) rfl
              | succ m ih =>
                intro i hi
                have z := ih (i + 1) (by omega)
                rw [al, nI_or, nI_or] at z
                refine X_iload (tk_X10_parts.at 38 rfl) rfl ?_
                refine X_iconst (tk_X10_parts.at 39 rfl) ci_5 ?_
                refine X_icmp_geN (tgt := 133) (tk_X10_parts.at 40 rfl) (by decide) (pl i rfl) (pl 5 rfl) (by omega) (by omega) (fun c1 => (by exfalso; omega)) (fun c1 => ?_)
                refine X_iload_n (tk_X10_parts.at 41 rfl) rfl ?_
                refine X_iload (tk_X10_parts.at 42 rfl) rfl ?_
                refine X_aload_n (tk_X10_parts.at 43 rfl) rfl ?_
                refine X_iload_n (tk_X10_parts.at 44 rfl) rfl ?_
                refine X_cV1i (lv2 := [(0, _), (1, _)]) (tk_X10_parts.at 45 rfl) mv_X10_many lk_x10_118 np_X10_many hM.f0 (by decide) rfl (Nat.le_of_ble_eq_true rfl) (Nat.le_of_ble_eq_true rfl) rfl (c10_many hM ej3 (by omega) ?_)
                refine X_icmp_geN (tgt := 98) (tk_X10_parts.at 46 rfl) (by decide) (pl i rfl) (show (Mx μ (o + 3) N) (o + 1) (83 + 9 * j3) = _ by rw [hm1]; exact ma.1) (by omega) (by omega) (fun c2 => ?_) (fun c2 => ?_)
                · refine X_iconst (tk_X10_parts.at 54 rfl) ci_0 ?_
                  refine X_ior (tk_X10_parts.at 55 rfl) ?_
                  refine X_istore_n (lv' := [(0, _), (1, _), (2, _), (3, _), (4, _)]) (tk_X10_parts.at 56 rfl) (by decide) rfl rfl ?_
                  refine X_iload_n (tk_X10_parts.at 57 rfl) rfl ?_
                  refine X_iload (tk_X10_parts.at 58 rfl) rfl ?_
                  refine X_aload_n (tk_X10_parts.at 59 rfl) rfl ?_
                  refine X_iload_n (tk_X10_parts.at 60 rfl) rfl ?_
                  refine X_cV1i (lv2 := [(0, _), (1, _)]) (tk_X10_parts.at 61 rfl) mv_X10_many lk_x10_118 np_X10_many hM.f0 (by decide) rfl (Nat.le_of_ble_eq_true rfl) (Nat.le_of_ble_eq_true rfl) rfl (c10_many hM ej12 (by omega) ?_)
                  refine X_icmp_geN (tgt := 124) (tk_X10_parts.at 62 rfl) (by decide) (pl i rfl) (show (Mx μ (o + 3) N) (o + 1) (83 + 9 * j12) = _ by rw [hm1]; exact mb.1) (by omega) (by omega) (fun c3 => ?_) (fun c3 => ?_)
                  · refine X_iconst (tk_X10_parts.at 70 rfl) ci_0 ?_
                    refine X_ior (tk_X10_parts.at 71 rfl) ?_
                    refine X_istore_n (lv' := [(0, _), (1, _), (2, _), (3, _), (4, _)]) (tk_X10_parts.at 72 rfl) (by decide) rfl rfl ?_
                    refine X_iinc (lv' := [(0, _), (1, _), (2, _), (3, _), (4, _)]) (tk_X10_parts.at 73 rfl) rfl ci_1 (by decide) rfl rfl ?_
                    refine X_goto (tgt := 69) (tk_X10_parts.at 74 rfl) (by decide) ?_
                    rw [if_neg (show ¬ i < mny N j3 by show ¬ i < nv (N (83 + 9 * j3)); omega)] at z
                    rw [if_neg (show ¬ i < mny N j12 by show ¬ i < nv (N (83 + 9 * j12)); omega)] at z
                    rw [nI_1 i]
                    exact z
                  · refine X_iconst (tk_X10_parts.at 63 rfl) ci_1 ?_
                    refine X_aload_n (tk_X10_parts.at 64 rfl) rfl ?_
                    refine X_iload_n (tk_X10_parts.at 65 rfl) rfl ?_
                    refine X_iload (tk_X10_parts.at 66 rfl) rfl ?_
                    refine X_cV2i (lv2 := [(0, _), (1, _), (2, _)]) (tk_X10_parts.at 67 rfl) mv_X10_who lk_x10_121 np_X10_who hM.f0 (by decide) rfl (Nat.le_of_ble_eq_true rfl) (Nat.le_of_ble_eq_true rfl) rfl (c10_who hM ej12 (pl i rfl) (by omega) (by omega) ?_)
                    refine X_ishl (tk_X10_parts.at 68 rfl) ?_
                    refine X_goto (tgt := 125) (tk_X10_parts.at 69 rfl) (by decide) ?_
                    refine X_ior (tk_X10_parts.at 71 rfl) ?_
                    refine X_istore_n (lv' := [(0, _), (1, _), (2, _), (3, _), (4, _)]) (tk_X10_parts.at 72 rfl) (by decide) rfl rfl ?_
                    refine X_iinc (lv' := [(0, _), (1, _), (2, _), (3, _), (4, _)]) (tk_X10_parts.at 73 rfl) rfl ci_1 (by decide) rfl rfl ?_
                    refine X_goto (tgt := 69) (tk_X10_parts.at 74 rfl) (by decide) ?_
                    rw [if_neg (show ¬ i < mny N j3 by show ¬ i < nv (N (83 + 9 * j3)); omega)] at z
                    rw [if_pos (show i < mny N j12 by show i < nv (N (83 + 9 * j12)); omega), ← nI_sh _ (by have := (sb i (by omega)).2; omega), ← (sb i (by omega)).1] at z
                    rw [hm1, nI_1 i]
                    exact z
                · refine X_iconst (tk_X10_parts.at 47 rfl) ci_1 ?_
                  refine X_aload_n (tk_X10_parts.at 48 rfl) rfl ?_
                  refine X_iload_n (tk_X10_parts.at 49 rfl) rfl ?_
                  refine X_iload (tk_X10_parts.at 50 rfl) rfl ?_
                  refine X_cV2i (lv2 := [(0, _), (1, _), (2, _)]) (tk_X10_parts.at 51 rfl) mv_X10_who lk_x10_121 np_X10_who hM.f0 (by decide) rfl (Nat.le_of_ble_eq_true rfl) (Nat.le_of_ble_eq_true rfl) rfl (c10_who hM ej3 (pl i rfl) (by omega) (by omega) ?_)
                  refine X_ishl (tk_X10_parts.at 52 rfl) ?_
                  refine X_goto (tgt := 99) (tk_X10_parts.at 53 rfl) (by decide) ?_
                  refine X_ior (tk_X10_parts.at 55 rfl) ?_
                  refine X_istore_n (lv' := [(0, _), (1, _), (2, _), (3, _), (4, _)]) (tk_X10_parts.at 56 rfl) (by decide) rfl rfl ?_
                  refine X_iload_n (tk_X10_parts.at 57 rfl) rfl ?_
                  refine X_iload (tk_X10_parts.at 58 rfl) rfl ?_
                  refine X_aload_n (tk_X10_parts.at 59 rfl) rfl ?_
                  refine X_iload_n (tk_X10_parts.at 60 rfl) rfl ?_
                  refine X_cV1i (lv2 := [(0, _), (1, _)]) (tk_X10_parts.at 61 rfl) mv_X10_many lk_x10_118 np_X10_many hM.f0 (by decide) rfl (Nat.le_of_ble_eq_true rfl) (Nat.le_of_ble_eq_true rfl) rfl (c10_many hM ej12 (by omega) ?_)
                  refine X_icmp_geN (tgt := 124) (tk_X10_parts.at 62 rfl) (by decide) (pl i rfl) (show (Mx μ (o + 3) N) (o + 1) (83 + 9 * j12) = _ by rw [hm1]; exact mb.1) (by omega) (by omega) (fun c4 => ?_) (fun c4 => ?_)
                  · refine X_iconst (tk_X10_parts.at 70 rfl) ci_0 ?_
                    refine X_ior (tk_X10_parts.at 71 rfl) ?_
                    refine X_istore_n (lv' := [(0, _), (1, _), (2, _), (3, _), (4, _)]) (tk_X10_parts.at 72 rfl) (by decide) rfl rfl ?_
                    refine X_iinc (lv' := [(0, _), (1, _), (2, _), (3, _), (4, _)]) (tk_X10_parts.at 73 rfl) rfl ci_1 (by decide) rfl rfl ?_
                    refine X_goto (tgt := 69) (tk_X10_parts.at 74 rfl) (by decide) ?_
                    rw [if_pos (show i < mny N j3 by show i < nv (N (83 + 9 * j3)); omega), ← nI_sh _ (by have := (sa i (by omega)).2; omega), ← (sa i (by omega)).1] at z
                    rw [if_neg (show ¬ i < mny N j12 by show ¬ i < nv (N (83 + 9 * j12)); omega)] at z
                    rw [hm1, nI_1 i]
                    exact z
                  · refine X_iconst (tk_X10_parts.at 63 rfl) ci_1 ?_
                    refine X_aload_n (tk_X10_parts.at 64 rfl) rfl ?_
                    refine X_iload_n (tk_X10_parts.at 65 rfl) rfl ?_
                    refine X_iload (tk_X10_parts.at 66 rfl) rfl ?_
                    refine X_cV2i (lv2 := [(0, _), (1, _), (2, _)]) (tk_X10_parts.at 67 rfl) mv_X10_who lk_x10_121 np_X10_who hM.f0 (by decide) rfl (Nat.le_of_ble_eq_true rfl) (Nat.le_of_ble_eq_true rfl) rfl (c10_who hM ej12 (pl i rfl) (by omega) (by omega) ?_)
                    refine X_ishl (tk_X10_parts.at 68 rfl) ?_
                    refine X_goto (tgt := 125) (tk_X10_parts.at 69 rfl) (by decide) ?_
                    refine X_ior (tk_X10_parts.at 71 rfl) ?_
                    refine X_istore_n (lv' := [(0, _), (1, _), (2, _), (3, _), (4, _)]) (tk_X10_parts.at 72 rfl) (by decide) rfl rfl ?_
                    refine X_iinc (lv' := [(0, _), (1, _), (2, _), (3, _), (4, _)]) (tk_X10_parts.at 73 rfl) rfl ci_1 (by decide) rfl rfl ?_
                    refine X_goto (tgt := 69) (tk_X10_parts.at 74 rfl) (by decide) ?_
                    rw [if_pos (show i < mny N j3 by show i < nv (N (83 + 9 * j3)); omega), ← nI_sh _ (by have := (sa i (by omega)).2; omega), ← (sa i (by omega)).1] at z
                    rw [if_pos (show i < mny N j12 by show i < nv (N (83 + 9 * j12)); omega), ← nI_sh _ (by have := (sb i (by omega)).2; omega), ← (sb i (by omega)).1] at z
                    rw [hm1, nI_1 i]
                    exact z
            exact loop0 5 0 rfl
          · refine X_if_ge (tgt := 53) (tk_X10_parts.at 24 rfl) (by decide) (fun h => absurd h (by decide)) (fun _ => ?_)
            refine X_aload_n (tk_X10_parts.at 25 rfl) rfl ?_
            refine X_ldc (tk_X10_parts.at 26 rfl) kn_x10_131 ?_
            refine X_cV1i (lv2 := [(0, _), (1, _)]) (tk_X10_parts.at 27 rfl) mv_X10_finding lk_x10_82 np_X10_finding hM.f0 (by decide) rfl (Nat.le_of_ble_eq_true rfl) (Nat.le_of_ble_eq_true rfl) rfl (c10_finding (k := 3) hM (by decide) (by decide) ?_)
            refine X_ireturn (tk_X10_parts.at 28 rfl) rfl rfl ?_
            exact k2 j3 j12 hj3 hj12 ej3 ej12 c3 (fun g => by obtain ⟨_, k, g1, g2⟩ := g; exact h40 k (by rw [hN]; exact g1) (by rw [hN, ej12]; exact g2))
        · refine X_if_lt (tgt := 46) (tk_X10_parts.at 20 rfl) (by decide) (fun _ => ?_) (fun h => absurd h (by decide))
          refine X_aload_n (tk_X10_parts.at 25 rfl) rfl ?_
          refine X_ldc (tk_X10_parts.at 26 rfl) kn_x10_131 ?_
          refine X_cV1i (lv2 := [(0, _), (1, _)]) (tk_X10_parts.at 27 rfl) mv_X10_finding lk_x10_82 np_X10_finding hM.f0 (by decide) rfl (Nat.le_of_ble_eq_true rfl) (Nat.le_of_ble_eq_true rfl) rfl (c10_finding (k := 3) hM (by decide) (by decide) ?_)
          refine X_ireturn (tk_X10_parts.at 28 rfl) rfl rfl ?_
          exact k2 j3 j12 hj3 hj12 ej3 ej12 c3 (fun g => by obtain ⟨⟨k, g1, g2⟩, _⟩ := g; exact h32 k (by rw [hN]; exact g1) (by rw [hN, ej3]; exact g2))
      · refine X_aload_n (tk_X10_parts.at 13 rfl) rfl ?_
        refine X_ldc (tk_X10_parts.at 14 rfl) kn_x10_81 ?_
        refine X_cV1i (lv2 := [(0, _), (1, _)]) (tk_X10_parts.at 15 rfl) mv_X10_finding lk_x10_82 np_X10_finding hM.f0 (by decide) rfl (Nat.le_of_ble_eq_true rfl) (Nat.le_of_ble_eq_true rfl) rfl (c10_finding (k := 1) hM (by decide) (by decide) ?_)
        refine X_ireturn (tk_X10_parts.at 16 rfl) rfl rfl ?_
        exact k1 (fun g => by first | exact In_no (by omega) hj12 g.2.1 | exact In_no (by omega) hj3 g.1 | exact g.2.2 (by rw [ej3, ej12, show j3 = j12 by omega]))
    · refine X_if_eq (tgt := 23) (tk_X10_parts.at 9 rfl) (by decide) (fun _ => ?_) (fun h => absurd h (by decide))
      refine X_aload_n (tk_X10_parts.at 13 rfl) rfl ?_
      refine X_ldc (tk_X10_parts.at 14 rfl) kn_x10_81 ?_
      refine X_cV1i (lv2 := [(0, _), (1, _)]) (tk_X10_parts.at 15 rfl) mv_X10_finding lk_x10_82 np_X10_finding hM.f0 (by decide) rfl (Nat.le_of_ble_eq_true rfl) (Nat.le_of_ble_eq_true rfl) rfl (c10_finding (k := 1) hM (by decide) (by decide) ?_)
      refine X_ireturn (tk_X10_parts.at 16 rfl) rfl rfl ?_
      exact k1 (fun g => by first | exact In_no (by omega) hj12 g.2.1 | exact In_no (by omega) hj3 g.1 | exact g.2.2 (by rw [ej3, ej12, show j3 = j12 by omega]))
  · refine X_if_eq (tgt := 23) (tk_X10_parts.at 4 rfl) (by decide) (fun _ => ?_) (fun h => absurd h (by decide))
    refine X_aload_n (tk_X10_parts.at 13 rfl) rfl ?_
    refine X_ldc (tk_X10_parts.at 14 rfl) kn_x10_81 ?_
    refine X_cV1i (lv2 := [(0, _), (1, _)]) (tk_X10_parts.at 15 rfl) mv_X10_finding lk_x10_82 np_X10_finding hM.f0 (by decide) rfl (Nat.le_of_ble_eq_true rfl) (Nat.le_of_ble_eq_true rfl) rfl (c10_finding (k := 1) hM (by decide) (by decide) ?_)
    refine X_ireturn (tk_X10_parts.at 16 rfl) rfl rfl ?_
    exact k1 (fun g => by first | exact In_no (by omega) hj12 g.2.1 | exact In_no (by omega) hj3 g.1 | exact g.2.2 (by rw [ej3, ej12, show j3 = j12 by omega]))
