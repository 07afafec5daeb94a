theorem lb0 (x : Int32) : ¬ lb 0 x := by
  unfold lb
  have e : (0 : Int32) >>> (x &&& 31) = 0 := by
    apply Int32.toBitVec_inj.mp
    simp
  rw [e]
  decide
def cst (N : Nat → Int32) (L : Int32) (r f c : Nat) : Nat := if pull N (nv (N (84 + 9 * r + f))) c ≤ hs N L r f (nv (N (83 + 9 * r))) then 0 else if nv (N (80 + 9 * r)) = 6 then 1 else nv (N (83 + 9 * r))
def ssum (N : Nat → Int32) (r : Nat) : Nat → Int32
  | 0 => 0
  | i + 1 => ssum N r i + N (9 + 4 * nv (N (84 + 9 * r + i)))
/-- the slowest pace of the first n on a rope -/
def pcn (N : Nat → Int32) (r : Nat) : Nat → Nat
  | 0 => 0
  | i + 1 => if pcn N r i < nv (N (10 + 4 * nv (N (84 + 9 * r + i)))) then nv (N (10 + 4 * nv (N (84 + 9 * r + i)))) else pcn N r i
theorem mx_nI {a b : Nat} (ha : a < 2 ^ 31) (hb : b < 2 ^ 31) : (if nI a < nI b then nI b else nI a) = nI (if a < b then b else a) := by
  by_cases h : a < b
  · rw [if_pos (nI_lt h hb), if_pos h]
  · rw [if_neg (nI_nlt (by omega) ha), if_neg h]
set_option maxHeartbeats 1000000 in
theorem c10_holdOfN {G : Gl} {d : Nat} {S : Sh} {μ : Mu} {o : Nat} {q : Nat → Nat} {r y : Int32} {rn f : Nat} {N : Nat → Int32} {L : Int32} {K : Int32 → Sh → Mu → Prop} (hM : MS S o q) (hN : μ (o + 1) = N) (hL : μ o 5 = L) (hw : WF N) (hr : r = nI rn) (hrn : rn < nv (N 3)) (hy : y = nI f) (hf : f < nv (N (83 + 9 * rn))) (nlf : ¬ lb L (N (84 + 9 * rn + f))) (hK : K (hs N L rn f (nv (N (83 + 9 * rn)))) S μ) : X G mi_X10_holdOf (d + 4) 0 0 [(0, .ref o), (1, .int r), (2, .int y)] [] S μ (qi K) := by
  subst hN
  subst hL
  exact c10_holdOf hM hw hr hrn hy hf nlf hK
set_option maxHeartbeats 1000000 in
theorem c10_isHeld {G : Gl} {d : Nat} {S : Sh} {μ : Mu} {o : Nat} {q : Nat → Nat} {r y z : Int32} {rn f cn : Nat} {N : Nat → Int32} {L : Int32} {K : Int32 → Sh → Mu → Prop} (hM : MS S o q) (hN : μ (o + 1) = N) (hL : μ o 5 = L) (hw : WF N) (hr : r = nI rn) (hrn : rn < nv (N 3)) (hy : y = nI f) (hf : f < nv (N (83 + 9 * rn))) (hz : z = nI cn) (hcn : cn < nv (N 2)) (nlf : ¬ lb L (N (84 + 9 * rn + f))) (kt : pull N (nv (N (84 + 9 * rn + f))) cn ≤ hs N L rn f (nv (N (83 + 9 * rn))) → K 1 S μ) (kf : ¬ pull N (nv (N (84 + 9 * rn + f))) cn ≤ hs N L rn f (nv (N (83 + 9 * rn))) → K 0 S μ) : X G mi_X10_isHeld (d + 5) 0 0 [(0, .ref o), (1, .int r), (2, .int y), (3, .int z)] [] S μ (qi K) := by
  subst hN
  subst hL
  have w0 := hw.n0
  have w1 := hw.n1
  have w2 := hw.n2
  have w3 := hw.n3
  have w4 := hw.n4
  have w5 := hw.n5
  have w6 := hw.n6
  have b1 := w1.2
  have b2 := w2.2
  have b3 := w3.2
  have b4 := w4.2
  have b5 := w5.2
  have b6 := w6.2
  have b0 := w0.2
  have wr := hw.ro (p := rn) hrn
  have wk := wr.1
  have bk := wk.2
  have hm := wr.2.2.2.1.1
  have bm := wr.2.2.2.1.2
  have wp := wr.2.2.2.2 f hf
  have bp := wp.2
  refine X_aload_n (tk_X10_isHeld.at 0 rfl) rfl ?_
  refine X_iload_n (tk_X10_isHeld.at 1 rfl) rfl ?_
  refine X_iload_n (tk_X10_isHeld.at 2 rfl) rfl ?_
  refine X_cV2i (lv2 := [(0, _), (1, _), (2, _)]) (tk_X10_isHeld.at 3 rfl) mv_X10_holdOf lk_x10_171 np_X10_holdOf hM.f0 (by decide) rfl (Nat.le_of_ble_eq_true rfl) (Nat.le_of_ble_eq_true rfl) rfl (c10_holdOf hM hw hr hrn hy hf nlf ?_)
  refine X_aload_n (tk_X10_isHeld.at 4 rfl) rfl ?_
  refine X_aload_n (tk_X10_isHeld.at 5 rfl) rfl ?_
  refine X_iload_n (tk_X10_isHeld.at 6 rfl) rfl ?_
  refine X_iload_n (tk_X10_isHeld.at 7 rfl) rfl ?_
  refine X_cV2i (lv2 := [(0, _), (1, _), (2, _)]) (tk_X10_isHeld.at 8 rfl) mv_X10_who lk_x10_121 np_X10_who hM.f0 (by decide) rfl (Nat.le_of_ble_eq_true rfl) (Nat.le_of_ble_eq_true rfl) rfl (c10_who hM hr hy (by omega) (by omega) ?_)
  refine X_iconst (tk_X10_isHeld.at 9 rfl) ci_0 ?_
  refine X_cV2i (lv2 := [(0, _), (1, _), (2, _)]) (tk_X10_isHeld.at 10 rfl) mv_X10_of lk_x10_94 np_X10_of hM.f0 (by decide) rfl (Nat.le_of_ble_eq_true rfl) (Nat.le_of_ble_eq_true rfl) rfl (c10_of (k := 8 + 4 * (nv (μ (o + 1) (84 + 9 * rn + f)))) hM wp.1 (pl 0 rfl) (by omega) (by omega) (by omega) ?_)
  refine X_bipush (tk_X10_isHeld.at 11 rfl) cb_10 ?_
  refine X_aload_n (tk_X10_isHeld.at 12 rfl) rfl ?_
  refine X_iload_n (tk_X10_isHeld.at 13 rfl) rfl ?_
  refine X_iconst (tk_X10_isHeld.at 14 rfl) ci_0 ?_
  refine X_cV2i (lv2 := [(0, _), (1, _), (2, _)]) (tk_X10_isHeld.at 15 rfl) mv_X10_ofPieceAt lk_x10_109 np_X10_ofPieceAt hM.f0 (by decide) rfl (Nat.le_of_ble_eq_true rfl) (Nat.le_of_ble_eq_true rfl) rfl (c10_ofPieceAt (k := 48 + 4 * cn) hM hz (pl 0 rfl) (by omega) (by omega) (by omega) ?_)
  refine X_iadd (tk_X10_isHeld.at 16 rfl) ?_
  refine X_imul (tk_X10_isHeld.at 17 rfl) ?_
  refine X_bipush (tk_X10_isHeld.at 18 rfl) cb_10 ?_
  refine X_idiv (tk_X10_isHeld.at 19 rfl) (by decide) ?_
  refine X_icmp_lt (tgt := 37) (tk_X10_isHeld.at 20 rfl) (by decide) (fun c1 => ?_) (fun c1 => ?_)
  · refine X_iconst (tk_X10_isHeld.at 23 rfl) ci_0 ?_
    refine X_ireturn (tk_X10_isHeld.at 24 rfl) rfl rfl ?_
    exact kf (Int32.not_le.mpr c1)
  · refine X_iconst (tk_X10_isHeld.at 21 rfl) ci_1 ?_
    refine X_goto (tgt := 38) (tk_X10_isHeld.at 22 rfl) (by decide) ?_
    refine X_ireturn (tk_X10_isHeld.at 24 rfl) rfl rfl ?_
    exact kt (Int32.not_lt.mp c1)
set_option maxHeartbeats 1000000 in
theorem c10_costOf {G : Gl} {d : Nat} {S : Sh} {μ : Mu} {o : Nat} {q : Nat → Nat} {r y z : Int32} {rn f cn : Nat} {N : Nat → Int32} {L : Int32} {K : Int32 → Sh → Mu → Prop} (hM : MS S o q) (hN : μ (o + 1) = N) (hL : μ o 5 = L) (hw : WF N) (hr : r = nI rn) (hrn : rn < nv (N 3)) (hy : y = nI f) (hf : f < nv (N (83 + 9 * rn))) (hz : z = nI cn) (hcn : cn < nv (N 2)) (nlf : ¬ lb L (N (84 + 9 * rn + f))) (hK : K (nI (cst N L rn f cn)) S μ) : X G mi_X10_costOf (d + 6) 0 0 [(0, .ref o), (1, .int r), (2, .int y), (3, .int z)] [] S μ (qi K) := by
  subst hN
  subst hL
  have w0 := hw.n0
  have w1 := hw.n1
  have w2 := hw.n2
  have w3 := hw.n3
  have w4 := hw.n4
  have w5 := hw.n5
  have w6 := hw.n6
  have b1 := w1.2
  have b2 := w2.2
  have b3 := w3.2
  have b4 := w4.2
  have b5 := w5.2
  have b6 := w6.2
  have b0 := w0.2
  have wr := hw.ro (p := rn) hrn
  have wk := wr.1
  have bk := wk.2
  have hm := wr.2.2.2.1.1
  have bm := wr.2.2.2.1.2
  refine X_aload_n (tk_X10_costOf.at 0 rfl) rfl ?_
  refine X_iload_n (tk_X10_costOf.at 1 rfl) rfl ?_
  refine X_iload_n (tk_X10_costOf.at 2 rfl) rfl ?_
  refine X_iload_n (tk_X10_costOf.at 3 rfl) rfl ?_
  refine X_cV3i (lv2 := [(0, _), (1, _), (2, _), (3, _)]) (tk_X10_costOf.at 4 rfl) mv_X10_isHeld lk_x10_174 np_X10_isHeld hM.f0 (by decide) rfl (Nat.le_of_ble_eq_true rfl) (Nat.le_of_ble_eq_true rfl) rfl (c10_isHeld hM rfl rfl hw hr hrn hy hf hz hcn nlf (fun h4 => ?_) (fun h4 => ?_))
  · refine X_if_eq (tgt := 14) (tk_X10_costOf.at 5 rfl) (by decide) (fun h => absurd h (by decide)) (fun _ => ?_)
    refine X_iconst (tk_X10_costOf.at 6 rfl) ci_0 ?_
    refine X_goto (tgt := 34) (tk_X10_costOf.at 7 rfl) (by decide) ?_
    refine X_ireturn (tk_X10_costOf.at 19 rfl) rfl rfl ?_
    have e : cst (μ (o + 1)) (μ o 5) rn f cn = 0 := if_pos h4
    rw [e] at hK
    exact hK
  · refine X_if_eq (tgt := 14) (tk_X10_costOf.at 5 rfl) (by decide) (fun _ => ?_) (fun h => absurd h (by decide))
    refine X_aload_n (tk_X10_costOf.at 8 rfl) rfl ?_
    refine X_iload_n (tk_X10_costOf.at 9 rfl) rfl ?_
    refine X_iconst (tk_X10_costOf.at 10 rfl) ci_0 ?_
    refine X_cV2i (lv2 := [(0, _), (1, _), (2, _)]) (tk_X10_costOf.at 11 rfl) mv_X10_rope lk_x10_115 np_X10_rope hM.f0 (by decide) rfl (Nat.le_of_ble_eq_true rfl) (Nat.le_of_ble_eq_true rfl) rfl (c10_rope (k := 80 + 9 * rn) hM hr (pl 0 rfl) (by omega) (by omega) (by omega) ?_)
    refine X_bipush (tk_X10_costOf.at 12 rfl) cb_6 ?_
    refine X_icmp_neN (tgt := 29) (tk_X10_costOf.at 13 rfl) (by decide) wk.1 (pl 6 rfl) (by omega) (by omega) (fun c3 => ?_) (fun c3 => ?_)
    · refine X_aload_n (tk_X10_costOf.at 16 rfl) rfl ?_
      refine X_iload_n (tk_X10_costOf.at 17 rfl) rfl ?_
      refine X_cV1i (lv2 := [(0, _), (1, _)]) (tk_X10_costOf.at 18 rfl) mv_X10_many lk_x10_118 np_X10_many hM.f0 (by decide) rfl (Nat.le_of_ble_eq_true rfl) (Nat.le_of_ble_eq_true rfl) rfl (c10_many hM hr (by omega) ?_)
      refine X_ireturn (tk_X10_costOf.at 19 rfl) rfl rfl ?_
      have e : cst (μ (o + 1)) (μ o 5) rn f cn = (nv (μ (o + 1) (83 + 9 * rn))) := by unfold cst; rw [if_neg h4, if_neg c3]
      rw [e, ← hm] at hK
      exact hK
    · refine X_iconst (tk_X10_costOf.at 14 rfl) ci_1 ?_
      refine X_goto (tgt := 34) (tk_X10_costOf.at 15 rfl) (by decide) ?_
      refine X_ireturn (tk_X10_costOf.at 19 rfl) rfl rfl ?_
      have e : cst (μ (o + 1)) (μ o 5) rn f cn = 1 := by unfold cst; rw [if_neg h4, if_pos c3]
      rw [e] at hK
      exact hK
set_option maxHeartbeats 1000000 in
theorem c10_hold {G : Gl} {d : Nat} {S : Sh} {μ : Mu} {o : Nat} {q : Nat → Nat} {p : Int32} {K : Int32 → Sh → Mu → Prop} (hM : MS S o q) (hw : WF (μ (o + 1))) (hl0 : μ o 5 = 0) (k1 : ¬ In p (nv (μ (o + 1) 1)) → K (-1000000001) S (er μ o 1)) (k2 : ∀ b, b < nv (μ (o + 1) 1) → p = nI b → (∀ r i, ¬ On (μ (o + 1)) r i b) → K (-1000000002) S (er μ o 2)) (k3 : ∀ b r i, b < nv (μ (o + 1) 1) → p = nI b → On (μ (o + 1)) r i b → K (hs (μ (o + 1)) 0 r i (nv (μ (o + 1) (83 + 9 * r)))) S μ) : X G mi_X10_hold (d + 5) 0 0 [(0, .ref o), (1, .int p)] [] S μ (qi K) := by
  have w0 := hw.n0
  have w1 := hw.n1
  have w2 := hw.n2
  have w3 := hw.n3
  have w4 := hw.n4
  have w5 := hw.n5
  have w6 := hw.n6
  have b1 := w1.2
  have b2 := w2.2
  have b3 := w3.2
  have b4 := w4.2
  have b5 := w5.2
  have b6 := w6.2
  have b0 := w0.2
  refine X_aload_n (tk_X10_hold.at 0 rfl) rfl ?_
  refine X_iload_n (tk_X10_hold.at 1 rfl) rfl ?_
  refine X_iconst (tk_X10_hold.at 2 rfl) ci_1 ?_
  refine X_cV2i (lv2 := [(0, _), (1, _), (2, _)]) (tk_X10_hold.at 3 rfl) mv_X10_is lk_x10_90 np_X10_is hM.f0 (by decide) rfl (Nat.le_of_ble_eq_true rfl) (Nat.le_of_ble_eq_true rfl) rfl (c10_is hM (pl 1 rfl) (by decide) w1.1 (by omega) (fun j3 hj3 ej3 => ?_) (fun hj3 => ?_))
  · refine X_if_ne (tgt := 16) (tk_X10_hold.at 4 rfl) (by decide) (fun _ => ?_) (fun h => absurd h (by decide))
    refine X_aload_n (tk_X10_hold.at 9 rfl) rfl ?_
    refine X_iload_n (tk_X10_hold.at 10 rfl) rfl ?_
    refine X_cV1i (lv2 := [(0, _), (1, _)]) (tk_X10_hold.at 11 rfl) mv_X10_ropeOf lk_x10_98 np_X10_ropeOf hM.f0 (by decide) rfl (Nat.le_of_ble_eq_true rfl) (Nat.le_of_ble_eq_true rfl) rfl (c10_ropeOf hM hw ej3 (fun r18 i18 h18 => ?_) (fun h18 => ?_))
    · have g18 := h18.1
      refine X_istore_n (lv' := [(0, _), (1, _), (2, _)]) (tk_X10_hold.at 12 rfl) (by decide) rfl rfl ?_
      refine X_iload_n (tk_X10_hold.at 13 rfl) rfl ?_
      refine X_if_geN (tgt := 35) (tk_X10_hold.at 14 rfl) (by decide) (pl r18 rfl) (by omega) ?_
      refine X_aload_n (tk_X10_hold.at 19 rfl) rfl ?_
      refine X_iload_n (tk_X10_hold.at 20 rfl) rfl ?_
      refine X_aload_n (tk_X10_hold.at 21 rfl) rfl ?_
      refine X_iload_n (tk_X10_hold.at 22 rfl) rfl ?_
      refine X_cV1i (lv2 := [(0, _), (1, _)]) (tk_X10_hold.at 23 rfl) mv_X10_placeOf lk_x10_101 np_X10_placeOf hM.f0 (by decide) rfl (Nat.le_of_ble_eq_true rfl) (Nat.le_of_ble_eq_true rfl) rfl (c10_placeOf hM hw ej3 (fun r39 i39 h39 => ?_) (fun h39 => absurd h18 (h39 _ _)))
      have e39 := (hw.un h39 h18).1
      subst e39
      refine X_cV2i (lv2 := [(0, _), (1, _), (2, _)]) (tk_X10_hold.at 24 rfl) mv_X10_holdOf lk_x10_171 np_X10_holdOf hM.f0 (by decide) rfl (Nat.le_of_ble_eq_true rfl) (Nat.le_of_ble_eq_true rfl) rfl (c10_holdOfN hM rfl hl0 hw (pl r39 rfl) h39.1 (pl i39 rfl) h39.2.1 (lb0 _) ?_)
      refine X_ireturn (tk_X10_hold.at 25 rfl) rfl rfl ?_
      exact k3 j3 r39 i39 hj3 ej3 h39
    · refine X_istore_n (lv' := [(0, _), (1, _), (2, _)]) (tk_X10_hold.at 12 rfl) (by decide) rfl rfl ?_
      refine X_iload_n (tk_X10_hold.at 13 rfl) rfl ?_
      refine X_if_ge (tgt := 35) (tk_X10_hold.at 14 rfl) (by decide) (fun h => absurd h (by decide)) (fun _ => ?_)
      refine X_aload_n (tk_X10_hold.at 15 rfl) rfl ?_
      refine X_ldc (tk_X10_hold.at 16 rfl) kn_x10_108 ?_
      refine X_cV1i (lv2 := [(0, _), (1, _)]) (tk_X10_hold.at 17 rfl) mv_X10_finding lk_x10_82 np_X10_finding hM.f0 (by decide) rfl (Nat.le_of_ble_eq_true rfl) (Nat.le_of_ble_eq_true rfl) rfl (c10_finding (k := 2) hM (by decide) (by decide) ?_)
      refine X_goto (tgt := 45) (tk_X10_hold.at 18 rfl) (by decide) ?_
      refine X_ireturn (tk_X10_hold.at 25 rfl) rfl rfl ?_
      exact k2 j3 hj3 ej3 h18
  · refine X_if_ne (tgt := 16) (tk_X10_hold.at 4 rfl) (by decide) (fun h => absurd h (by decide)) (fun _ => ?_)
    refine X_aload_n (tk_X10_hold.at 5 rfl) rfl ?_
    refine X_ldc (tk_X10_hold.at 6 rfl) kn_x10_81 ?_
    refine X_cV1i (lv2 := [(0, _), (1, _)]) (tk_X10_hold.at 7 rfl) mv_X10_finding lk_x10_82 np_X10_finding hM.f0 (by decide) rfl (Nat.le_of_ble_eq_true rfl) (Nat.le_of_ble_eq_true rfl) rfl (c10_finding (k := 1) hM (by decide) (by decide) ?_)
    refine X_ireturn (tk_X10_hold.at 8 rfl) rfl rfl ?_
    exact k1 (In_no (by omega) hj3)
set_option maxHeartbeats 1000000 in
theorem c10_held {G : Gl} {d : Nat} {S : Sh} {μ : Mu} {o : Nat} {q : Nat → Nat} {p c : Int32} {K : Int32 → Sh → Mu → Prop} (hM : MS S o q) (hw : WF (μ (o + 1))) (hl0 : μ o 5 = 0) (k1 : ¬ (In p (nv (μ (o + 1) 1)) ∧ In c (nv (μ (o + 1) 2))) → K (-1000000001) S (er μ o 1)) (k2 : ∀ b x, b < nv (μ (o + 1) 1) → x < nv (μ (o + 1) 2) → p = nI b → c = nI x → (∀ r i, ¬ On (μ (o + 1)) r i b) → K (-1000000002) S (er μ o 2)) (k3 : ∀ b x r i, b < nv (μ (o + 1) 1) → x < nv (μ (o + 1) 2) → p = nI b → c = nI x → On (μ (o + 1)) r i b → pull (μ (o + 1)) (nv (μ (o + 1) (84 + 9 * r + i))) x ≤ hs (μ (o + 1)) 0 r i (nv (μ (o + 1) (83 + 9 * r))) → K 1 S μ) (k4 : ∀ b x r i, b < nv (μ (o + 1) 1) → x < nv (μ (o + 1) 2) → p = nI b → c = nI x → On (μ (o + 1)) r i b → ¬ pull (μ (o + 1)) (nv (μ (o + 1) (84 + 9 * r + i))) x ≤ hs (μ (o + 1)) 0 r i (nv (μ (o + 1) (83 + 9 * r))) → K 0 S μ) : X G mi_X10_held (d + 6) 0 0 [(0, .ref o), (1, .int p), (2, .int c)] [] S μ (qi K) := by
  have w0 := hw.n0
  have w1 := hw.n1
  have w2 := hw.n2
  have w3 := hw.n3
  have w4 := hw.n4
  have w5 := hw.n5
  have w6 := hw.n6
  have b1 := w1.2
  have b2 := w2.2
  have b3 := w3.2
  have b4 := w4.2
  have b5 := w5.2
  have b6 := w6.2
  have b0 := w0.2
  refine X_aload_n (tk_X10_held.at 0 rfl) rfl ?_
  refine X_iload_n (tk_X10_held.at 1 rfl) rfl ?_
  refine X_iconst (tk_X10_held.at 2 rfl) ci_1 ?_
  refine X_cV2i (lv2 := [(0, _), (1, _), (2, _)]) (tk_X10_held.at 3 rfl) mv_X10_is lk_x10_90 np_X10_is hM.f0 (by decide) rfl (Nat.le_of_ble_eq_true rfl) (Nat.le_of_ble_eq_true rfl) rfl (c10_is hM (pl 1 rfl) (by decide) w1.1 (by omega) (fun j3 hj3 ej3 => ?_) (fun hj3 => ?_))
  · refine X_if_eq (tgt := 18) (tk_X10_held.at 4 rfl) (by decide) (fun h => absurd h (by decide)) (fun _ => ?_)
    refine X_aload_n (tk_X10_held.at 5 rfl) rfl ?_
    refine X_iload_n (tk_X10_held.at 6 rfl) rfl ?_
    refine X_iconst (tk_X10_held.at 7 rfl) ci_2 ?_
    refine X_cV2i (lv2 := [(0, _), (1, _), (2, _)]) (tk_X10_held.at 8 rfl) mv_X10_is lk_x10_90 np_X10_is hM.f0 (by decide) rfl (Nat.le_of_ble_eq_true rfl) (Nat.le_of_ble_eq_true rfl) rfl (c10_is hM (pl 2 rfl) (by decide) w2.1 (by omega) (fun j12 hj12 ej12 => ?_) (fun hj12 => ?_))
    · refine X_if_ne (tgt := 25) (tk_X10_held.at 9 rfl) (by decide) (fun _ => ?_) (fun h => absurd h (by decide))
      refine X_aload_n (tk_X10_held.at 14 rfl) rfl ?_
      refine X_iload_n (tk_X10_held.at 15 rfl) rfl ?_
      refine X_cV1i (lv2 := [(0, _), (1, _)]) (tk_X10_held.at 16 rfl) mv_X10_ropeOf lk_x10_98 np_X10_ropeOf hM.f0 (by decide) rfl (Nat.le_of_ble_eq_true rfl) (Nat.le_of_ble_eq_true rfl) rfl (c10_ropeOf hM hw ej3 (fun r27 i27 h27 => ?_) (fun h27 => ?_))
      · have g27 := h27.1
        refine X_istore_n (lv' := [(0, _), (1, _), (2, _), (3, _)]) (tk_X10_held.at 17 rfl) (by decide) rfl rfl ?_
        refine X_iload_n (tk_X10_held.at 18 rfl) rfl ?_
        refine X_if_geN (tgt := 44) (tk_X10_held.at 19 rfl) (by decide) (pl r27 rfl) (by omega) ?_
        refine X_aload_n (tk_X10_held.at 24 rfl) rfl ?_
        refine X_iload_n (tk_X10_held.at 25 rfl) rfl ?_
        refine X_aload_n (tk_X10_held.at 26 rfl) rfl ?_
        refine X_iload_n (tk_X10_held.at 27 rfl) rfl ?_
        refine X_cV1i (lv2 := [(0, _), (1, _)]) (tk_X10_held.at 28 rfl) mv_X10_placeOf lk_x10_101 np_X10_placeOf hM.f0 (by decide) rfl (Nat.le_of_ble_eq_true rfl) (Nat.le_of_ble_eq_true rfl) rfl (c10_placeOf hM hw ej3 (fun r48 i48 h48 => ?_) (fun h48 => absurd h27 (h48 _ _)))
        have e48 := (hw.un h48 h27).1
        subst e48
        refine X_iload_n (tk_X10_held.at 29 rfl) rfl ?_
        refine X_cV3i (lv2 := [(0, _), (1, _), (2, _), (3, _)]) (tk_X10_held.at 30 rfl) mv_X10_isHeld lk_x10_174 np_X10_isHeld hM.f0 (by decide) rfl (Nat.le_of_ble_eq_true rfl) (Nat.le_of_ble_eq_true rfl) rfl (c10_isHeld hM rfl hl0 hw (pl r48 rfl) h48.1 (pl i48 rfl) h48.2.1 ej12 hj12 (lb0 _) (fun h52 => ?_) (fun h52 => ?_))
        · refine X_if_eq (tgt := 62) (tk_X10_held.at 31 rfl) (by decide) (fun h => absurd h (by decide)) (fun _ => ?_)
          refine X_iconst (tk_X10_held.at 32 rfl) ci_1 ?_
          refine X_goto (tgt := 63) (tk_X10_held.at 33 rfl) (by decide) ?_
          refine X_ireturn (tk_X10_held.at 35 rfl) rfl rfl ?_
          exact k3 j3 j12 r48 i48 hj3 hj12 ej3 ej12 h48 h52
        · refine X_if_eq (tgt := 62) (tk_X10_held.at 31 rfl) (by decide) (fun _ => ?_) (fun h => absurd h (by decide))
          refine X_iconst (tk_X10_held.at 34 rfl) ci_0 ?_
          refine X_ireturn (tk_X10_held.at 35 rfl) rfl rfl ?_
          exact k4 j3 j12 r48 i48 hj3 hj12 ej3 ej12 h48 h52
      · refine X_istore_n (lv' := [(0, _), (1, _), (2, _), (3, _)]) (tk_X10_held.at 17 rfl) (by decide) rfl rfl ?_
        refine X_iload_n (tk_X10_held.at 18 rfl) rfl ?_
        refine X_if_ge (tgt := 44) (tk_X10_held.at 19 rfl) (by decide) (fun h => absurd h (by decide)) (fun _ => ?_)
        refine X_aload_n (tk_X10_held.at 20 rfl) rfl ?_
        refine X_ldc (tk_X10_held.at 21 rfl) kn_x10_108 ?_
        refine X_cV1i (lv2 := [(0, _), (1, _)]) (tk_X10_held.at 22 rfl) mv_X10_finding lk_x10_82 np_X10_finding hM.f0 (by decide) rfl (Nat.le_of_ble_eq_true rfl) (Nat.le_of_ble_eq_true rfl) rfl (c10_finding (k := 2) hM (by decide) (by decide) ?_)
        refine X_goto (tgt := 63) (tk_X10_held.at 23 rfl) (by decide) ?_
        refine X_ireturn (tk_X10_held.at 35 rfl) rfl rfl ?_
        exact k2 j3 j12 hj3 hj12 ej3 ej12 h27
    · refine X_if_ne (tgt := 25) (tk_X10_held.at 9 rfl) (by decide) (fun h => absurd h (by decide)) (fun _ => ?_)
      refine X_aload_n (tk_X10_held.at 10 rfl) rfl ?_
      refine X_ldc (tk_X10_held.at 11 rfl) kn_x10_81 ?_
      refine X_cV1i (lv2 := [(0, _), (1, _)]) (tk_X10_held.at 12 rfl) mv_X10_finding lk_x10_82 np_X10_finding hM.f0 (by decide) rfl (Nat.le_of_ble_eq_true rfl) (Nat.le_of_ble_eq_true rfl) rfl (c10_finding (k := 1) hM (by decide) (by decide) ?_)
      refine X_ireturn (tk_X10_held.at 13 rfl) rfl rfl ?_
      exact k1 (fun g => by first | exact In_no (by omega) hj12 g.2 | exact In_no (by omega) hj3 g.1)
  · refine X_if_eq (tgt := 18) (tk_X10_held.at 4 rfl) (by decide) (fun _ => ?_) (fun h => absurd h (by decide))
    refine X_aload_n (tk_X10_held.at 10 rfl) rfl ?_
    refine X_ldc (tk_X10_held.at 11 rfl) kn_x10_81 ?_
    refine X_cV1i (lv2 := [(0, _), (1, _)]) (tk_X10_held.at 12 rfl) mv_X10_finding lk_x10_82 np_X10_finding hM.f0 (by decide) rfl (Nat.le_of_ble_eq_true rfl) (Nat.le_of_ble_eq_true rfl) rfl (c10_finding (k := 1) hM (by decide) (by decide) ?_)
    refine X_ireturn (tk_X10_held.at 13 rfl) rfl rfl ?_
    exact k1 (fun g => by first | exact In_no (by omega) hj12 g.2 | exact In_no (by omega) hj3 g.1)
set_option maxHeartbeats 1000000 in
theorem c10_cost {G : Gl} {d : Nat} {S : Sh} {μ : Mu} {o : Nat} {q : Nat → Nat} {p c : Int32} {K : Int32 → Sh → Mu → Prop} (hM : MS S o q) (hw : WF (μ (o + 1))) (hl0 : μ o 5 = 0) (k1 : ¬ (In p (nv (μ (o + 1) 1)) ∧ In c (nv (μ (o + 1) 2))) → K (-1000000001) S (er μ o 1)) (k2 : ∀ b x, b < nv (μ (o + 1) 1) → x < nv (μ (o + 1) 2) → p = nI b → c = nI x → (∀ r i, ¬ On (μ (o + 1)) r i b) → K (-1000000002) S (er μ o 2)) (k3 : ∀ b x r i, b < nv (μ (o + 1) 1) → x < nv (μ (o + 1) 2) → p = nI b → c = nI x → On (μ (o + 1)) r i b → K (nI (cst (μ (o + 1)) 0 r i x)) S μ) : X G mi_X10_cost (d + 7) 0 0 [(0, .ref o), (1, .int p), (2, .int c)] [] S μ (qi K) := by
  have w0 := hw.n0
  have w1 := hw.n1
  have w2 := hw.n2
  have w3 := hw.n3
  have w4 := hw.n4
  have w5 := hw.n5
  have w6 := hw.n6
  have b1 := w1.2
  have b2 := w2.2
  have b3 := w3.2
  have b4 := w4.2
  have b5 := w5.2
  have b6 := w6.2
  have b0 := w0.2
  refine X_aload_n (tk_X10_cost.at 0 rfl) rfl ?_
  refine X_iload_n (tk_X10_cost.at 1 rfl) rfl ?_
  refine X_iconst (tk_X10_cost.at 2 rfl) ci_1 ?_
  refine X_cV2i (lv2 := [(0, _), (1, _), (2, _)]) (tk_X10_cost.at 3 rfl) mv_X10_is lk_x10_90 np_X10_is hM.f0 (by decide) rfl (Nat.le_of_ble_eq_true rfl) (Nat.le_of_ble_eq_true rfl) rfl (c10_is hM (pl 1 rfl) (by decide) w1.1 (by omega) (fun j3 hj3 ej3 => ?_) (fun hj3 => ?_))
  · refine X_if_eq (tgt := 18) (tk_X10_cost.at 4 rfl) (by decide) (fun h => absurd h (by decide)) (fun _ => ?_)
    refine X_aload_n (tk_X10_cost.at 5 rfl) rfl ?_
    refine X_iload_n (tk_X10_cost.at 6 rfl) rfl ?_
    refine X_iconst (tk_X10_cost.at 7 rfl) ci_2 ?_
    refine X_cV2i (lv2 := [(0, _), (1, _), (2, _)]) (tk_X10_cost.at 8 rfl) mv_X10_is lk_x10_90 np_X10_is hM.f0 (by decide) rfl (Nat.le_of_ble_eq_true rfl) (Nat.le_of_ble_eq_true rfl) rfl (c10_is hM (pl 2 rfl) (by decide) w2.1 (by omega) (fun j12 hj12 ej12 => ?_) (fun hj12 => ?_))
    · refine X_if_ne (tgt := 25) (tk_X10_cost.at 9 rfl) (by decide) (fun _ => ?_) (fun h => absurd h (by decide))
      refine X_aload_n (tk_X10_cost.at 14 rfl) rfl ?_
      refine X_iload_n (tk_X10_cost.at 15 rfl) rfl ?_
      refine X_cV1i (lv2 := [(0, _), (1, _)]) (tk_X10_cost.at 16 rfl) mv_X10_ropeOf lk_x10_98 np_X10_ropeOf hM.f0 (by decide) rfl (Nat.le_of_ble_eq_true rfl) (Nat.le_of_ble_eq_true rfl) rfl (c10_ropeOf hM hw ej3 (fun r27 i27 h27 => ?_) (fun h27 => ?_))
      · have g27 := h27.1
        refine X_istore_n (lv' := [(0, _), (1, _), (2, _), (3, _)]) (tk_X10_cost.at 17 rfl) (by decide) rfl rfl ?_
        refine X_iload_n (tk_X10_cost.at 18 rfl) rfl ?_
        refine X_if_geN (tgt := 44) (tk_X10_cost.at 19 rfl) (by decide) (pl r27 rfl) (by omega) ?_
        refine X_aload_n (tk_X10_cost.at 24 rfl) rfl ?_
        refine X_iload_n (tk_X10_cost.at 25 rfl) rfl ?_
        refine X_aload_n (tk_X10_cost.at 26 rfl) rfl ?_
        refine X_iload_n (tk_X10_cost.at 27 rfl) rfl ?_
        refine X_cV1i (lv2 := [(0, _), (1, _)]) (tk_X10_cost.at 28 rfl) mv_X10_placeOf lk_x10_101 np_X10_placeOf hM.f0 (by decide) rfl (Nat.le_of_ble_eq_true rfl) (Nat.le_of_ble_eq_true rfl) rfl (c10_placeOf hM hw ej3 (fun r48 i48 h48 => ?_) (fun h48 => absurd h27 (h48 _ _)))
        have e48 := (hw.un h48 h27).1
        subst e48
        refine X_iload_n (tk_X10_cost.at 29 rfl) rfl ?_
        refine X_cV3i (lv2 := [(0, _), (1, _), (2, _), (3, _)]) (tk_X10_cost.at 30 rfl) mv_X10_costOf lk_x10_177 np_X10_costOf hM.f0 (by decide) rfl (Nat.le_of_ble_eq_true rfl) (Nat.le_of_ble_eq_true rfl) rfl (c10_costOf hM rfl hl0 hw (pl r48 rfl) h48.1 (pl i48 rfl) h48.2.1 ej12 hj12 (lb0 _) ?_)
        refine X_ireturn (tk_X10_cost.at 31 rfl) rfl rfl ?_
        exact k3 j3 j12 r48 i48 hj3 hj12 ej3 ej12 h48
      · refine X_istore_n (lv' := [(0, _), (1, _), (2, _), (3, _)]) (tk_X10_cost.at 17 rfl) (by decide) rfl rfl ?_
        refine X_iload_n (tk_X10_cost.at 18 rfl) rfl ?_
        refine X_if_ge (tgt := 44) (tk_X10_cost.at 19 rfl) (by decide) (fun h => absurd h (by decide)) (fun _ => ?_)
        refine X_aload_n (tk_X10_cost.at 20 rfl) rfl ?_
        refine X_ldc (tk_X10_cost.at 21 rfl) kn_x10_108 ?_
        refine X_cV1i (lv2 := [(0, _), (1, _)]) (tk_X10_cost.at 22 rfl) mv_X10_finding lk_x10_82 np_X10_finding hM.f0 (by decide) rfl (Nat.le_of_ble_eq_true rfl) (Nat.le_of_ble_eq_true rfl) rfl (c10_finding (k := 2) hM (by decide) (by decide) ?_)
        refine X_goto (tgt := 55) (tk_X10_cost.at 23 rfl) (by decide) ?_
        refine X_ireturn (tk_X10_cost.at 31 rfl) rfl rfl ?_
        exact k2 j3 j12 hj3 hj12 ej3 ej12 h27
    · refine X_if_ne (tgt := 25) (tk_X10_cost.at 9 rfl) (by decide) (fun h => absurd h (by decide)) (fun _ => ?_)
      refine X_aload_n (tk_X10_cost.at 10 rfl) rfl ?_
      refine X_ldc (tk_X10_cost.at 11 rfl) kn_x10_81 ?_
      refine X_cV1i (lv2 := [(0, _), (1, _)]) (tk_X10_cost.at 12 rfl) mv_X10_finding lk_x10_82 np_X10_finding hM.f0 (by decide) rfl (Nat.le_of_ble_eq_true rfl) (Nat.le_of_ble_eq_true rfl) rfl (c10_finding (k := 1) hM (by decide) (by decide) ?_)
      refine X_ireturn (tk_X10_cost.at 13 rfl) rfl rfl ?_
      exact k1 (fun g => by first | exact In_no (by omega) hj12 g.2 | exact In_no (by omega) hj3 g.1)
  · refine X_if_eq (tgt := 18) (tk_X10_cost.at 4 rfl) (by decide) (fun _ => ?_) (fun h => absurd h (by decide))
    refine X_aload_n (tk_X10_cost.at 10 rfl) rfl ?_
    refine X_ldc (tk_X10_cost.at 11 rfl) kn_x10_81 ?_
    refine X_cV1i (lv2 := [(0, _), (1, _)]) (tk_X10_cost.at 12 rfl) mv_X10_finding lk_x10_82 np_X10_finding hM.f0 (by decide) rfl (Nat.le_of_ble_eq_true rfl) (Nat.le_of_ble_eq_true rfl) rfl (c10_finding (k := 1) hM (by decide) (by decide) ?_)
    refine X_ireturn (tk_X10_cost.at 13 rfl) rfl rfl ?_
    exact k1 (fun g => by first | exact In_no (by omega) hj12 g.2 | exact In_no (by omega) hj3 g.1)
set_option maxHeartbeats 1000000 in
theorem c10_law {G : Gl} {d : Nat} {S : Sh} {μ : Mu} {o : Nat} {q : Nat → Nat} {x a b c e : Int32} {K : Int32 → Sh → Mu → Prop} (hM : MS S o q) (hw : WF (μ (o + 1))) (k1 : ¬ (0 ≤ x ∧ x ≤ 1) → K (-1000000001) S (er μ o 1)) (k2 : ∀ u h P, u < 2 → x = nI u → K (gv (μ (o + 1)) u a b c e 0) S (Tst μ o (μ o 17) (μ (o + 9)) (μ (o + 10)) h P)) : X G mi_X10_law (d + 3) 0 0 [(0, .ref o), (1, .int x), (2, .int a), (3, .int b), (4, .int c), (5, .int e)] [] S μ (qi K) := by
  refine X_iload_n (tk_X10_law.at 0 rfl) rfl ?_
  refine X_iconst (tk_X10_law.at 1 rfl) ci_0 ?_
  refine X_iconst (tk_X10_law.at 2 rfl) ci_1 ?_
  refine X_cS3i (lv2 := [(0, _), (1, _), (2, _)]) (tk_X10_law.at 3 rfl) ms_X10_within lk_x10_69 np_X10_within (Nat.le_of_ble_eq_true rfl) (Nat.le_of_ble_eq_true rfl) rfl (c10_within (fun h3 h1003 => ?_) (fun h3 => ?_))
  · obtain ⟨ew3, lw3, bw3⟩ := le_lits (a := 0) (b := 1) (by decide) h3 h1003 (by decide)
    refine X_if_eq (tgt := 24) (tk_X10_law.at 4 rfl) (by decide) (fun h => absurd h (by decide)) (fun _ => ?_)
    refine X_aload_n (tk_X10_law.at 5 rfl) rfl ?_
    refine X_iload_n (tk_X10_law.at 6 rfl) rfl ?_
    refine X_iload_n (tk_X10_law.at 7 rfl) rfl ?_
    refine X_iload_n (tk_X10_law.at 8 rfl) rfl ?_
    refine X_iload (tk_X10_law.at 9 rfl) rfl ?_
    refine X_iload (tk_X10_law.at 10 rfl) rfl ?_
    refine X_iconst (tk_X10_law.at 11 rfl) ci_0 ?_
    refine X_cV6i (lv2 := [(0, _), (1, _), (2, _), (3, _), (4, _), (5, _), (6, _)]) (tk_X10_law.at 12 rfl) mv_X10_given lk_x10_180 np_X10_given hM.f0 (by decide) rfl (Nat.le_of_ble_eq_true rfl) (Nat.le_of_ble_eq_true rfl) rfl (c10_given hM hw (by omega) ew3 (fun h P => ?_))
    refine X_goto (tgt := 30) (tk_X10_law.at 13 rfl) (by decide) ?_
    refine X_ireturn (tk_X10_law.at 17 rfl) rfl rfl ?_
    exact k2 (nv x) h P (by omega) ew3
  · refine X_if_eq (tgt := 24) (tk_X10_law.at 4 rfl) (by decide) (fun _ => ?_) (fun h => absurd h (by decide))
    refine X_aload_n (tk_X10_law.at 14 rfl) rfl ?_
    refine X_ldc (tk_X10_law.at 15 rfl) kn_x10_81 ?_
    refine X_cV1i (lv2 := [(0, _), (1, _)]) (tk_X10_law.at 16 rfl) mv_X10_finding lk_x10_82 np_X10_finding hM.f0 (by decide) rfl (Nat.le_of_ble_eq_true rfl) (Nat.le_of_ble_eq_true rfl) rfl (c10_finding (k := 1) hM (by decide) (by decide) ?_)
    refine X_ireturn (tk_X10_law.at 17 rfl) rfl rfl ?_
    exact k1 h3
set_option maxHeartbeats 1000000 in
theorem c10_haul {G : Gl} {d : Nat} {S : Sh} {μ : Mu} {o : Nat} {q : Nat → Nat} {p c : Int32} {K : Int32 → Sh → Mu → Prop} (hM : MS S o q) (hw : WF (μ (o + 1))) (k1 : ¬ (In p (nv (μ (o + 1) 1)) ∧ In c (nv (μ (o + 1) 2))) → K (-1000000001) S (er μ o 1)) (k2 : ∀ b x, b < nv (μ (o + 1) 1) → x < nv (μ (o + 1) 2) → p = nI b → c = nI x → (∀ r i, ¬ On (μ (o + 1)) r i b) → K (-1000000002) S (er μ o 2)) (k3 : ∀ b x r i, b < nv (μ (o + 1) 1) → x < nv (μ (o + 1) 2) → p = nI b → c = nI x → On (μ (o + 1)) r i b → ∀ h P, K (gv (μ (o + 1)) 1 (μ (o + 1) (8 + 4 * b)) (μ (o + 1) (51 + 4 * x)) ((0 - μ (o + 1) (9 + 4 * b)) + ssum (μ (o + 1)) r (nv (μ (o + 1) (83 + 9 * r)))) (μ (o + 1) (83 + 9 * r) - 1) 0) S (Tst μ o (μ o 17) (μ (o + 9)) (μ (o + 10)) h P)) : X G mi_X10_haul (d + 3) 0 0 [(0, .ref o), (1, .int p), (2, .int c)] [] S μ (qi K) := by
  have w0 := hw.n0
  have w1 := hw.n1
  have w2 := hw.n2
  have w3 := hw.n3
  have w4 := hw.n4
  have w5 := hw.n5
  have w6 := hw.n6
  have b1 := w1.2
  have b2 := w2.2
  have b3 := w3.2
  have b4 := w4.2
  have b5 := w5.2
  have b6 := w6.2
  have b0 := w0.2
  refine X_aload_n (tk_X10_haul.at 0 rfl) rfl ?_
  refine X_iload_n (tk_X10_haul.at 1 rfl) rfl ?_
  refine X_iconst (tk_X10_haul.at 2 rfl) ci_1 ?_
  refine X_cV2i (lv2 := [(0, _), (1, _), (2, _)]) (tk_X10_haul.at 3 rfl) mv_X10_is lk_x10_90 np_X10_is hM.f0 (by decide) rfl (Nat.le_of_ble_eq_true rfl) (Nat.le_of_ble_eq_true rfl) rfl (c10_is hM (pl 1 rfl) (by decide) w1.1 (by omega) (fun j3 hj3 ej3 => ?_) (fun hj3 => ?_))
  · refine X_if_eq (tgt := 18) (tk_X10_haul.at 4 rfl) (by decide) (fun h => absurd h (by decide)) (fun _ => ?_)
    refine X_aload_n (tk_X10_haul.at 5 rfl) rfl ?_
    refine X_iload_n (tk_X10_haul.at 6 rfl) rfl ?_
    refine X_iconst (tk_X10_haul.at 7 rfl) ci_2 ?_
    refine X_cV2i (lv2 := [(0, _), (1, _), (2, _)]) (tk_X10_haul.at 8 rfl) mv_X10_is lk_x10_90 np_X10_is hM.f0 (by decide) rfl (Nat.le_of_ble_eq_true rfl) (Nat.le_of_ble_eq_true rfl) rfl (c10_is hM (pl 2 rfl) (by decide) w2.1 (by omega) (fun j12 hj12 ej12 => ?_) (fun hj12 => ?_))
    · refine X_if_ne (tgt := 25) (tk_X10_haul.at 9 rfl) (by decide) (fun _ => ?_) (fun h => absurd h (by decide))
      refine X_aload_n (tk_X10_haul.at 14 rfl) rfl ?_
      refine X_iload_n (tk_X10_haul.at 15 rfl) rfl ?_
      refine X_cV1i (lv2 := [(0, _), (1, _)]) (tk_X10_haul.at 16 rfl) mv_X10_ropeOf lk_x10_98 np_X10_ropeOf hM.f0 (by decide) rfl (Nat.le_of_ble_eq_true rfl) (Nat.le_of_ble_eq_true rfl) rfl (c10_ropeOf hM hw ej3 (fun r27 i27 h27 => ?_) (fun h27 => ?_))
      · have g27 := h27.1
        refine X_istore_n (lv' := [(0, _), (1, _), (2, _), (3, _)]) (tk_X10_haul.at 17 rfl) (by decide) rfl rfl ?_
        refine X_iload_n (tk_X10_haul.at 18 rfl) rfl ?_
        refine X_if_geN (tgt := 42) (tk_X10_haul.at 19 rfl) (by decide) (pl r27 rfl) (by omega) ?_
        refine X_aload_n (tk_X10_haul.at 24 rfl) rfl ?_
        refine X_iload_n (tk_X10_haul.at 25 rfl) rfl ?_
        refine X_iconst (tk_X10_haul.at 26 rfl) ci_1 ?_
        refine X_cV2i (lv2 := [(0, _), (1, _), (2, _)]) (tk_X10_haul.at 27 rfl) mv_X10_of lk_x10_94 np_X10_of hM.f0 (by decide) rfl (Nat.le_of_ble_eq_true rfl) (Nat.le_of_ble_eq_true rfl) rfl (c10_of (k := 9 + 4 * j3) hM ej3 (pl 1 rfl) (by omega) (by omega) (by omega) ?_)
        refine X_ineg (tk_X10_haul.at 28 rfl) ?_
        refine X_istore (lv' := [(0, _), (1, _), (2, _), (3, _), (4, _)]) (tk_X10_haul.at 29 rfl) (by decide) rfl rfl ?_
        refine X_iconst (tk_X10_haul.at 30 rfl) ci_0 ?_
        refine X_istore (lv' := [(0, _), (1, _), (2, _), (3, _), (4, _), (5, _)]) (tk_X10_haul.at 31 rfl) (by decide) rfl rfl ?_
        have wr := hw.ro (p := r27) h27.1
        have hm := wr.2.2.2.1.1
        have bm := wr.2.2.2.1.2
        have g27b := h27.1
        have loop : ∀ (n i : Nat), i + n = (nv (μ (o + 1) (83 + 9 * r27))) → X G mi_X10_haul (d + 3) 0 54 [(0, .ref o), (1, .int p), (2, .int c), (3, .int (nI r27)), (4, .int ((0 - μ (o + 1) (9 + 4 * j3)) + ssum (μ (o + 1)) r27 i)), (5, .int (nI i))] [] S μ (qi K) := by
          intro n
          induction n with
          | zero =>
            intro i hi
            have e : i = (nv (μ (o + 1) (83 + 9 * r27))) := by omega
            refine X_iload (tk_X10_haul.at 32 rfl) rfl ?_
            refine X_aload_n (tk_X10_haul.at 33 rfl) rfl ?_
            refine X_iload_n (tk_X10_haul.at 34 rfl) rfl ?_
            refine X_cV1i (lv2 := [(0, _), (1, _)]) (tk_X10_haul.at 35 rfl) mv_X10_many lk_x10_118 np_X10_many hM.f0 (by decide) rfl (Nat.le_of_ble_eq_true rfl) (Nat.le_of_ble_eq_true rfl) rfl (c10_many hM (pl r27 rfl) (by omega) ?_)
            refine X_icmp_geN (tgt := 87) (tk_X10_haul.at 36 rfl) (by decide) (pl i rfl) hm (by omega) (by omega) (fun c1 => ?_) (fun c1 => (by exfalso; omega))
            refine X_aload_n (tk_X10_haul.at 49 rfl) rfl ?_
            refine X_iconst (tk_X10_haul.at 50 rfl) ci_1 ?_
            refine X_aload_n (tk_X10_haul.at 51 rfl) rfl ?_
            refine X_iload_n (tk_X10_haul.at 52 rfl) rfl ?_
            refine X_iconst (tk_X10_haul.at 53 rfl) ci_0 ?_
            refine X_cV2i (lv2 := [(0, _), (1, _), (2, _)]) (tk_X10_haul.at 54 rfl) mv_X10_of lk_x10_94 np_X10_of hM.f0 (by decide) rfl (Nat.le_of_ble_eq_true rfl) (Nat.le_of_ble_eq_true rfl) rfl (c10_of (k := 8 + 4 * j3) hM ej3 (pl 0 rfl) (by omega) (by omega) (by omega) ?_)
            refine X_aload_n (tk_X10_haul.at 55 rfl) rfl ?_
            refine X_iload_n (tk_X10_haul.at 56 rfl) rfl ?_
            refine X_iconst (tk_X10_haul.at 57 rfl) ci_3 ?_
            refine X_cV2i (lv2 := [(0, _), (1, _), (2, _)]) (tk_X10_haul.at 58 rfl) mv_X10_ofPieceAt lk_x10_109 np_X10_ofPieceAt hM.f0 (by decide) rfl (Nat.le_of_ble_eq_true rfl) (Nat.le_of_ble_eq_true rfl) rfl (c10_ofPieceAt (k := 51 + 4 * j12) hM ej12 (pl 3 rfl) (by omega) (by omega) (by omega) ?_)
            refine X_iload (tk_X10_haul.at 59 rfl) rfl ?_
            refine X_aload_n (tk_X10_haul.at 60 rfl) rfl ?_
            refine X_iload_n (tk_X10_haul.at 61 rfl) rfl ?_
            refine X_cV1i (lv2 := [(0, _), (1, _)]) (tk_X10_haul.at 62 rfl) mv_X10_many lk_x10_118 np_X10_many hM.f0 (by decide) rfl (Nat.le_of_ble_eq_true rfl) (Nat.le_of_ble_eq_true rfl) rfl (c10_many hM (pl r27 rfl) (by omega) ?_)
            refine X_iconst (tk_X10_haul.at 63 rfl) ci_1 ?_
            refine X_isub (tk_X10_haul.at 64 rfl) ?_
            refine X_iconst (tk_X10_haul.at 65 rfl) ci_0 ?_
            refine X_cV6i (lv2 := [(0, _), (1, _), (2, _), (3, _), (4, _), (5, _), (6, _)]) (tk_X10_haul.at 66 rfl) mv_X10_given lk_x10_180 np_X10_given hM.f0 (by decide) rfl (Nat.le_of_ble_eq_true rfl) (Nat.le_of_ble_eq_true rfl) rfl (c10_given hM hw (by decide) (pl 1 rfl) (fun h P => ?_))
            refine X_ireturn (tk_X10_haul.at 67 rfl) rfl rfl ?_
            rw [e]
            exact k3 j3 j12 r27 i27 hj3 hj12 ej3 ej12 h27 h P
          | succ n ih =>
            intro i hi
            have wp := wr.2.2.2.2 i (by omega)
            have bp := wp.2
            have z := ih (i + 1) (by omega)
            rw [show ((0 - μ (o + 1) (9 + 4 * j3)) + ssum (μ (o + 1)) r27 (i + 1)) = ((0 - μ (o + 1) (9 + 4 * j3)) + ssum (μ (o + 1)) r27 i) + μ (o + 1) (9 + 4 * nv (μ (o + 1) (84 + 9 * r27 + i))) from by show _ + (_ + _) = _; rw [Int32.add_assoc]] at z
            refine X_iload (tk_X10_haul.at 32 rfl) rfl ?_
            refine X_aload_n (tk_X10_haul.at 33 rfl) rfl ?_
            refine X_iload_n (tk_X10_haul.at 34 rfl) rfl ?_
            refine X_cV1i (lv2 := [(0, _), (1, _)]) (tk_X10_haul.at 35 rfl) mv_X10_many lk_x10_118 np_X10_many hM.f0 (by decide) rfl (Nat.le_of_ble_eq_true rfl) (Nat.le_of_ble_eq_true rfl) rfl (c10_many hM (pl r27 rfl) (by omega) ?_)
            refine X_icmp_geN (tgt := 87) (tk_X10_haul.at 36 rfl) (by decide) (pl i rfl) hm (by omega) (by omega) (fun c1 => (by exfalso; omega)) (fun c1 => ?_)
            refine X_iload (tk_X10_haul.at 37 rfl) rfl ?_
            refine X_aload_n (tk_X10_haul.at 38 rfl) rfl ?_
            refine X_aload_n (tk_X10_haul.at 39 rfl) rfl ?_
            refine X_iload_n (tk_X10_haul.at 40 rfl) rfl ?_
            refine X_iload (tk_X10_haul.at 41 rfl) rfl ?_
            refine X_cV2i (lv2 := [(0, _), (1, _), (2, _)]) (tk_X10_haul.at 42 rfl) mv_X10_who lk_x10_121 np_X10_who hM.f0 (by decide) rfl (Nat.le_of_ble_eq_true rfl) (Nat.le_of_ble_eq_true rfl) rfl (c10_who hM (pl r27 rfl) (pl i rfl) (by omega) (by omega) ?_)
            refine X_iconst (tk_X10_haul.at 43 rfl) ci_1 ?_
            refine X_cV2i (lv2 := [(0, _), (1, _), (2, _)]) (tk_X10_haul.at 44 rfl) mv_X10_of lk_x10_94 np_X10_of hM.f0 (by decide) rfl (Nat.le_of_ble_eq_true rfl) (Nat.le_of_ble_eq_true rfl) rfl (c10_of (k := 9 + 4 * (nv (μ (o + 1) (84 + 9 * r27 + i)))) hM wp.1 (pl 1 rfl) (by omega) (by omega) (by omega) ?_)
            refine X_iadd (tk_X10_haul.at 45 rfl) ?_
            refine X_istore (lv' := [(0, _), (1, _), (2, _), (3, _), (4, _), (5, _)]) (tk_X10_haul.at 46 rfl) (by decide) rfl rfl ?_
            refine X_iinc (lv' := [(0, _), (1, _), (2, _), (3, _), (4, _), (5, _)]) (tk_X10_haul.at 47 rfl) rfl ci_1 (by decide) rfl rfl ?_
            refine X_goto (tgt := 54) (tk_X10_haul.at 48 rfl) (by decide) ?_
            rw [nI_1 i]
            exact z
        have z := loop _ 0 (Nat.zero_add _)
        rw [show ((0 - μ (o + 1) (9 + 4 * j3)) + ssum (μ (o + 1)) r27 0) = 0 - μ (o + 1) (9 + 4 * j3) from by show _ + 0 = _; rw [Int32.add_zero]] at z
        exact z
      · refine X_istore_n (lv' := [(0, _), (1, _), (2, _), (3, _)]) (tk_X10_haul.at 17 rfl) (by decide) rfl rfl ?_
        refine X_iload_n (tk_X10_haul.at 18 rfl) rfl ?_
        refine X_if_ge (tgt := 42) (tk_X10_haul.at 19 rfl) (by decide) (fun h => absurd h (by decide)) (fun _ => ?_)
        refine X_aload_n (tk_X10_haul.at 20 rfl) rfl ?_
        refine X_ldc (tk_X10_haul.at 21 rfl) kn_x10_108 ?_
        refine X_cV1i (lv2 := [(0, _), (1, _)]) (tk_X10_haul.at 22 rfl) mv_X10_finding lk_x10_82 np_X10_finding hM.f0 (by decide) rfl (Nat.le_of_ble_eq_true rfl) (Nat.le_of_ble_eq_true rfl) rfl (c10_finding (k := 2) hM (by decide) (by decide) ?_)
        refine X_ireturn (tk_X10_haul.at 23 rfl) rfl rfl ?_
        exact k2 j3 j12 hj3 hj12 ej3 ej12 h27
    · refine X_if_ne (tgt := 25) (tk_X10_haul.at 9 rfl) (by decide) (fun h => absurd h (by decide)) (fun _ => ?_)
      refine X_aload_n (tk_X10_haul.at 10 rfl) rfl ?_
      refine X_ldc (tk_X10_haul.at 11 rfl) kn_x10_81 ?_
      refine X_cV1i (lv2 := [(0, _), (1, _)]) (tk_X10_haul.at 12 rfl) mv_X10_finding lk_x10_82 np_X10_finding hM.f0 (by decide) rfl (Nat.le_of_ble_eq_true rfl) (Nat.le_of_ble_eq_true rfl) rfl (c10_finding (k := 1) hM (by decide) (by decide) ?_)
      refine X_ireturn (tk_X10_haul.at 13 rfl) rfl rfl ?_
      exact k1 (fun g => by first | exact In_no (by omega) hj12 g.2 | exact In_no (by omega) hj3 g.1)
  · refine X_if_eq (tgt := 18) (tk_X10_haul.at 4 rfl) (by decide) (fun _ => ?_) (fun h => absurd h (by decide))
    refine X_aload_n (tk_X10_haul.at 10 rfl) rfl ?_
    refine X_ldc (tk_X10_haul.at 11 rfl) kn_x10_81 ?_
    refine X_cV1i (lv2 := [(0, _), (1, _)]) (tk_X10_haul.at 12 rfl) mv_X10_finding lk_x10_82 np_X10_finding hM.f0 (by decide) rfl (Nat.le_of_ble_eq_true rfl) (Nat.le_of_ble_eq_true rfl) rfl (c10_finding (k := 1) hM (by decide) (by decide) ?_)
    refine X_ireturn (tk_X10_haul.at 13 rfl) rfl rfl ?_
    exact k1 (fun g => by first | exact In_no (by omega) hj12 g.2 | exact In_no (by omega) hj3 g.1)
set_option maxHeartbeats 1000000 in
theorem c10_paceOf {G : Gl} {d : Nat} {S : Sh} {μ : Mu} {o : Nat} {q : Nat → Nat} {r : Int32} {rn : Nat} {N : Nat → Int32} {K : Int32 → Sh → Mu → Prop} (hM : MS S o q) (hN : μ (o + 1) = N) (hw : WF N) (hr : r = nI rn) (hrn : rn < nv (N 3)) (hK : K (nI (pcn N rn (nv (N (83 + 9 * rn))))) S μ) : X G mi_X10_paceOf (d + 2) 0 0 [(0, .ref o), (1, .int r)] [] S μ (qi K) := by
  subst hN
  have w0 := hw.n0
  have w1 := hw.n1
  have w2 := hw.n2
  have w3 := hw.n3
  have w4 := hw.n4
  have w5 := hw.n5
  have w6 := hw.n6
  have b1 := w1.2
  have b2 := w2.2
  have b3 := w3.2
  have b4 := w4.2
  have b5 := w5.2
  have b6 := w6.2
  have b0 := w0.2
  have wr := hw.ro (p := rn) hrn
  have wk := wr.1
  have bk := wk.2
  have hm := wr.2.2.2.1.1
  have bm := wr.2.2.2.1.2
  have loop : ∀ (n i : Nat), i + n = (nv (μ (o + 1) (83 + 9 * rn))) → (pcn (μ (o + 1)) rn i) ≤ 60 → X G mi_X10_paceOf (d + 2) 0 4 [(0, .ref o), (1, .int r), (2, .int (nI (pcn (μ (o + 1)) rn i))), (3, .int (nI i))] [] S μ (qi K) := by
    intro n
    induction n with
    | zero =>
      intro i hi hb
      have e : i = (nv (μ (o + 1) (83 + 9 * rn))) := by omega
      refine X_iload_n (tk_X10_paceOf.at 4 rfl) rfl ?_
      refine X_aload_n (tk_X10_paceOf.at 5 rfl) rfl ?_
      refine X_iload_n (tk_X10_paceOf.at 6 rfl) rfl ?_
      refine X_cV1i (lv2 := [(0, _), (1, _)]) (tk_X10_paceOf.at 7 rfl) mv_X10_many lk_x10_118 np_X10_many hM.f0 (by decide) rfl (Nat.le_of_ble_eq_true rfl) (Nat.le_of_ble_eq_true rfl) rfl (c10_many hM hr (by omega) ?_)
      refine X_icmp_geN (tgt := 35) (tk_X10_paceOf.at 8 rfl) (by decide) (pl i rfl) hm (by omega) (by omega) (fun c1 => ?_) (fun c1 => (by exfalso; omega))
      refine X_iload_n (tk_X10_paceOf.at 21 rfl) rfl ?_
      refine X_ireturn (tk_X10_paceOf.at 22 rfl) rfl rfl ?_
      rw [e]
      exact hK
    | succ n ih =>
      intro i hi hb
      have wp := wr.2.2.2.2 i (by omega)
      have bp := wp.2
      have wq := hw.pe bp
      have bq := wq.2.2.1.1.2
      have z := ih (i + 1) (by omega) (by show (if (pcn (μ (o + 1)) rn i) < nv (μ (o + 1) (10 + 4 * nv (μ (o + 1) (84 + 9 * rn + i)))) then nv (μ (o + 1) (10 + 4 * nv (μ (o + 1) (84 + 9 * rn + i)))) else (pcn (μ (o + 1)) rn i)) ≤ 60; split <;> omega)
      refine X_iload_n (tk_X10_paceOf.at 4 rfl) rfl ?_
      refine X_aload_n (tk_X10_paceOf.at 5 rfl) rfl ?_
      refine X_iload_n (tk_X10_paceOf.at 6 rfl) rfl ?_
      refine X_cV1i (lv2 := [(0, _), (1, _)]) (tk_X10_paceOf.at 7 rfl) mv_X10_many lk_x10_118 np_X10_many hM.f0 (by decide) rfl (Nat.le_of_ble_eq_true rfl) (Nat.le_of_ble_eq_true rfl) rfl (c10_many hM hr (by omega) ?_)
      refine X_icmp_geN (tgt := 35) (tk_X10_paceOf.at 8 rfl) (by decide) (pl i rfl) hm (by omega) (by omega) (fun c1 => (by exfalso; omega)) (fun c1 => ?_)
      refine X_iload_n (tk_X10_paceOf.at 9 rfl) rfl ?_
      refine X_aload_n (tk_X10_paceOf.at 10 rfl) rfl ?_
      refine X_aload_n (tk_X10_paceOf.at 11 rfl) rfl ?_
      refine X_iload_n (tk_X10_paceOf.at 12 rfl) rfl ?_
      refine X_iload_n (tk_X10_paceOf.at 13 rfl) rfl ?_
      refine X_cV2i (lv2 := [(0, _), (1, _), (2, _)]) (tk_X10_paceOf.at 14 rfl) mv_X10_who lk_x10_121 np_X10_who hM.f0 (by decide) rfl (Nat.le_of_ble_eq_true rfl) (Nat.le_of_ble_eq_true rfl) rfl (c10_who hM hr (pl i rfl) (by omega) (by omega) ?_)
      refine X_iconst (tk_X10_paceOf.at 15 rfl) ci_2 ?_
      refine X_cV2i (lv2 := [(0, _), (1, _), (2, _)]) (tk_X10_paceOf.at 16 rfl) mv_X10_of lk_x10_94 np_X10_of hM.f0 (by decide) rfl (Nat.le_of_ble_eq_true rfl) (Nat.le_of_ble_eq_true rfl) rfl (c10_of (k := 10 + 4 * (nv (μ (o + 1) (84 + 9 * rn + i)))) hM wp.1 (pl 2 rfl) (by omega) (by omega) (by omega) ?_)
      refine X_max (tk_X10_paceOf.at 17 rfl) lk_x10_164 (Nat.le_of_ble_eq_true rfl) ?_
      rw [wq.2.2.1.1.1, mx_nI (by omega) (by omega)]
      refine X_istore_n (lv' := [(0, _), (1, _), (2, _), (3, _)]) (tk_X10_paceOf.at 18 rfl) (by decide) rfl rfl ?_
      refine X_iinc (lv' := [(0, _), (1, _), (2, _), (3, _)]) (tk_X10_paceOf.at 19 rfl) rfl ci_1 (by decide) rfl rfl ?_
      refine X_goto (tgt := 4) (tk_X10_paceOf.at 20 rfl) (by decide) ?_
      rw [nI_1 i]
      exact z
  refine X_iconst (tk_X10_paceOf.at 0 rfl) ci_0 ?_
  refine X_istore_n (lv' := [(0, _), (1, _), (2, _)]) (tk_X10_paceOf.at 1 rfl) (by decide) rfl rfl ?_
  refine X_iconst (tk_X10_paceOf.at 2 rfl) ci_0 ?_
  refine X_istore_n (lv' := [(0, _), (1, _), (2, _), (3, _)]) (tk_X10_paceOf.at 3 rfl) (by decide) rfl rfl ?_
  exact loop _ 0 (Nat.zero_add _) (Nat.zero_le _)
set_option maxHeartbeats 1000000 in
theorem c10_riskOf {G : Gl} {d : Nat} {S : Sh} {μ : Mu} {o : Nat} {q : Nat → Nat} {r x z : Int32} {rn i cn : Nat} {N : Nat → Int32} {K : Int32 → Sh → Mu → Prop} (hM : MS S o q) (hN : μ (o + 1) = N) (hw : WF N) (hr : r = nI rn) (hrn : rn < nv (N 3)) (hx : x = nI i) (hi : i < nv (N (83 + 9 * rn))) (hz : z = nI cn) (hcn : cn < nv (N 2)) (hK : ∀ h P, K (gv N 0 (N (8 + 4 * (nv (N (84 + 9 * rn + i))))) (μ (o + 9) (8 * rn + cn) / 60) (μ (o + 10) rn + x) (N (49 + 4 * cn)) (N (50 + 4 * cn))) S (Tst μ o (μ o 17) (μ (o + 9)) (μ (o + 10)) h P)) : X G mi_X10_riskOf (d + 3) 0 0 [(0, .ref o), (1, .int r), (2, .int x), (3, .int z)] [] S μ (qi K) := by
  subst hN
  have w0 := hw.n0
  have w1 := hw.n1
  have w2 := hw.n2
  have w3 := hw.n3
  have w4 := hw.n4
  have w5 := hw.n5
  have w6 := hw.n6
  have b1 := w1.2
  have b2 := w2.2
  have b3 := w3.2
  have b4 := w4.2
  have b5 := w5.2
  have b6 := w6.2
  have b0 := w0.2
  have wr := hw.ro (p := rn) hrn
  have wk := wr.1
  have bk := wk.2
  have hm := wr.2.2.2.1.1
  have bm := wr.2.2.2.1.2
  have wp := wr.2.2.2.2 i hi
  have bp := wp.2
  refine X_aload_n (tk_X10_riskOf.at 0 rfl) rfl ?_
  refine X_aload_n (tk_X10_riskOf.at 1 rfl) rfl ?_
  refine X_iload_n (tk_X10_riskOf.at 2 rfl) rfl ?_
  refine X_iload_n (tk_X10_riskOf.at 3 rfl) rfl ?_
  refine X_cV2i (lv2 := [(0, _), (1, _), (2, _)]) (tk_X10_riskOf.at 4 rfl) mv_X10_who lk_x10_121 np_X10_who hM.f0 (by decide) rfl (Nat.le_of_ble_eq_true rfl) (Nat.le_of_ble_eq_true rfl) rfl (c10_who hM hr hx (by omega) (by omega) ?_)
  refine X_iconst (tk_X10_riskOf.at 5 rfl) ci_0 ?_
  refine X_cV2i (lv2 := [(0, _), (1, _), (2, _)]) (tk_X10_riskOf.at 6 rfl) mv_X10_of lk_x10_94 np_X10_of hM.f0 (by decide) rfl (Nat.le_of_ble_eq_true rfl) (Nat.le_of_ble_eq_true rfl) rfl (c10_of (k := 8 + 4 * (nv (μ (o + 1) (84 + 9 * rn + i)))) hM wp.1 (pl 0 rfl) (by omega) (by omega) (by omega) ?_)
  refine X_istore (lv' := [(0, _), (1, _), (2, _), (3, _), (4, _)]) (tk_X10_riskOf.at 7 rfl) (by decide) rfl rfl ?_
  refine X_aload_n (tk_X10_riskOf.at 8 rfl) rfl ?_
  refine X_iconst (tk_X10_riskOf.at 9 rfl) ci_0 ?_
  refine X_iload (tk_X10_riskOf.at 10 rfl) rfl ?_
  refine X_aload_n (tk_X10_riskOf.at 11 rfl) rfl ?_
  refine X_getR (tk_X10_riskOf.at 12 rfl) fl_x10_41 hM.f0 rfl rfl ?_
  refine X_bipush (tk_X10_riskOf.at 13 rfl) cb_8 ?_
  refine X_iload_n (tk_X10_riskOf.at 14 rfl) rfl ?_
  refine X_imul (tk_X10_riskOf.at 15 rfl) ?_
  refine X_iload_n (tk_X10_riskOf.at 16 rfl) rfl ?_
  refine X_iadd (tk_X10_riskOf.at 17 rfl) ?_
  refine X_ialdN (k := 8 * rn + cn) (tk_X10_riskOf.at 18 rfl) hM.f9 (pz (pa (pm (pl 8 rfl) hr) hz) (by omega)) (by omega) (by decide) ?_
  refine X_bipush (tk_X10_riskOf.at 19 rfl) cb_60 ?_
  refine X_idiv (tk_X10_riskOf.at 20 rfl) (by decide) ?_
  refine X_aload_n (tk_X10_riskOf.at 21 rfl) rfl ?_
  refine X_getR (tk_X10_riskOf.at 22 rfl) fl_x10_44 hM.f0 rfl rfl ?_
  refine X_iload_n (tk_X10_riskOf.at 23 rfl) rfl ?_
  refine X_ialdN (k := rn) (tk_X10_riskOf.at 24 rfl) hM.f10 hr (by omega) (by decide) ?_
  refine X_iload_n (tk_X10_riskOf.at 25 rfl) rfl ?_
  refine X_iadd (tk_X10_riskOf.at 26 rfl) ?_
  refine X_aload_n (tk_X10_riskOf.at 27 rfl) rfl ?_
  refine X_iload_n (tk_X10_riskOf.at 28 rfl) rfl ?_
  refine X_iconst (tk_X10_riskOf.at 29 rfl) ci_1 ?_
  refine X_cV2i (lv2 := [(0, _), (1, _), (2, _)]) (tk_X10_riskOf.at 30 rfl) mv_X10_ofPieceAt lk_x10_109 np_X10_ofPieceAt hM.f0 (by decide) rfl (Nat.le_of_ble_eq_true rfl) (Nat.le_of_ble_eq_true rfl) rfl (c10_ofPieceAt (k := 49 + 4 * cn) hM hz (pl 1 rfl) (by omega) (by omega) (by omega) ?_)
  refine X_aload_n (tk_X10_riskOf.at 31 rfl) rfl ?_
  refine X_iload_n (tk_X10_riskOf.at 32 rfl) rfl ?_
  refine X_iconst (tk_X10_riskOf.at 33 rfl) ci_2 ?_
  refine X_cV2i (lv2 := [(0, _), (1, _), (2, _)]) (tk_X10_riskOf.at 34 rfl) mv_X10_ofPieceAt lk_x10_109 np_X10_ofPieceAt hM.f0 (by decide) rfl (Nat.le_of_ble_eq_true rfl) (Nat.le_of_ble_eq_true rfl) rfl (c10_ofPieceAt (k := 50 + 4 * cn) hM hz (pl 2 rfl) (by omega) (by omega) (by omega) ?_)
  refine X_cV6i (lv2 := [(0, _), (1, _), (2, _), (3, _), (4, _), (5, _), (6, _)]) (tk_X10_riskOf.at 35 rfl) mv_X10_given lk_x10_180 np_X10_given hM.f0 (by decide) rfl (Nat.le_of_ble_eq_true rfl) (Nat.le_of_ble_eq_true rfl) rfl (c10_given hM hw (by decide) (pl 0 rfl) (fun h P => ?_))
  refine X_ireturn (tk_X10_riskOf.at 36 rfl) rfl rfl ?_
  exact hK h P
