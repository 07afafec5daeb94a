def OrdR (N : Nat → Int32) (r t : Nat) (g : Nat → Nat) : Prop := ∃ g0 t2, Pm (nv (N (83 + 9 * r))) g0 (rowN N r) ∧ (∀ x y, x < y → y < nv (N (83 + 9 * r)) → g0 x < g0 y) ∧ fnd (kyO N r (nv (N (83 + 9 * r)))) (nv (N (83 + 9 * r))) 120 g0 none = some ((t, t2), g)
def LinR (N : Nat → Int32) (t : Nat) (g : Nat → Nat) : Prop := ∃ g0 t2, Pm (nv (N 4)) g0 (linN N) ∧ (∀ x y, x < y → y < nv (N 4) → g0 x < g0 y) ∧ fnd (kyL N (nv (N 4))) (nv (N 4)) 720 g0 none = some ((t, t2), g)
/-- a number from -1 on that is below another -/
theorem ix_of {i : Int32} {n : Nat} (hn : n < 2 ^ 30) (h : 0 ≤ i) (h2 : i < nI n) : ∃ j, j < n ∧ i = nI j := by
  obtain ⟨j, hj, rfl⟩ := nI_of (Int32.not_lt.mpr h)
  refine ⟨j, ?_, rfl⟩
  rw [Int32.lt_iff_toInt_lt, nI_toInt hj, nI_toInt (by omega)] at h2
  omega
set_option maxHeartbeats 1000000 in
theorem c10_order {G : Gl} {d : Nat} {S : Sh} {μ : Mu} {o : Nat} {q : Nat → Nat} {r i : Int32} {K : Int32 → Sh → Mu → Prop} (hM : MS S o q) (hw : WF (μ (o + 1))) (hl0 : μ o 5 = 0) (k1 : ¬ (In r (nv (μ (o + 1) 3)) ∧ -1 ≤ i) → K (-1000000001) S (er μ o 1)) (k2 : ∀ a, a < nv (μ (o + 1) 3) → r = nI a → -1 ≤ i → (∀ k, k < nv (μ (o + 1) 4) → ¬ μ (o + 1) (134 + k) = nI a) → K (-1000000003) S (er μ o 3)) (k3 : ∀ a k, a < nv (μ (o + 1) 3) → k < nv (μ (o + 1) 4) → r = nI a → -1 ≤ i → μ (o + 1) (134 + k) = nI a → ¬ i < nI (nv (μ (o + 1) (83 + 9 * a))) → K (-1000000002) S (er μ o 2)) (k4 : ∀ ν t g a k, a < nv (μ (o + 1) 3) → k < nv (μ (o + 1) 4) → r = nI a → -1 ≤ i → i < 0 → μ (o + 1) (134 + k) = nI a → Sq o μ ν → ν (o + 1) = μ (o + 1) → OrdR (μ (o + 1)) a t g → Rw (ν (o + 12)) (nv (μ (o + 1) (83 + 9 * a))) g → K (nI t) S ν) (k5 : ∀ ν t g a k j, a < nv (μ (o + 1) 3) → k < nv (μ (o + 1) 4) → r = nI a → i = nI j → j < nv (μ (o + 1) (83 + 9 * a)) → μ (o + 1) (134 + k) = nI a → Sq o μ ν → ν (o + 1) = μ (o + 1) → OrdR (μ (o + 1)) a t g → Rw (ν (o + 12)) (nv (μ (o + 1) (83 + 9 * a))) g → Pm (nv (μ (o + 1) (83 + 9 * a))) g (rowN (μ (o + 1)) a) → K (nI (g j)) S ν) : X G mi_X10_order (d + 9) 0 0 [(0, .ref o), (1, .int r), (2, .int i)] [] S μ (qi K) := by
  have w0 := hw.n0
  have w1 := hw.n1
  have w2 := hw.n2
  have w3 := hw.n3
  have w4 := hw.n4
  have w5 := hw.n5
  have w6 := hw.n6
  have b1 := w1.2
  have b2 := w2.2
  have b3 := w3.2
  have b4 := w4.2
  have b5 := w5.2
  have b6 := w6.2
  have b0 := w0.2
  refine X_aload_n (tk_X10_order.at 0 rfl) rfl ?_
  refine X_iload_n (tk_X10_order.at 1 rfl) rfl ?_
  refine X_iconst (tk_X10_order.at 2 rfl) ci_3 ?_
  refine X_cV2i (lv2 := [(0, _), (1, _), (2, _)]) (tk_X10_order.at 3 rfl) mv_X10_is lk_x10_90 np_X10_is hM.f0 (by decide) rfl (Nat.le_of_ble_eq_true rfl) (Nat.le_of_ble_eq_true rfl) rfl (c10_is hM (pl 3 rfl) (by decide) w3.1 (by omega) (fun j3 hj3 ej3 => ?_) (fun hj3 => ?_))
  · refine X_if_eq (tgt := 14) (tk_X10_order.at 4 rfl) (by decide) (fun h => absurd h (by decide)) (fun _ => ?_)
    refine X_iload_n (tk_X10_order.at 5 rfl) rfl ?_
    refine X_iconst (tk_X10_order.at 6 rfl) ci_m1 ?_
    refine X_icmp_ge (tgt := 21) (tk_X10_order.at 7 rfl) (by decide) (fun c2 => ?_) (fun c2 => ?_)
    · refine X_aload_n (tk_X10_order.at 12 rfl) rfl ?_
      refine X_iload_n (tk_X10_order.at 13 rfl) rfl ?_
      refine X_cV1i (lv2 := [(0, _), (1, _)]) (tk_X10_order.at 14 rfl) mv_X10_inLine lk_x10_139 np_X10_inLine hM.f0 (by decide) rfl (Nat.le_of_ble_eq_true rfl) (Nat.le_of_ble_eq_true rfl) rfl (c10_inLine hM hw (fun k23 hk23 h23 => ?_) (fun h23 => ?_))
      · refine X_if_geN (tgt := 36) (tk_X10_order.at 15 rfl) (by decide) (pl k23 rfl) (by omega) ?_
        have wm := (hw.ro (p := j3) hj3).2.2.2.1
        have bm := wm.2
        refine X_iload_n (tk_X10_order.at 20 rfl) rfl ?_
        refine X_aload_n (tk_X10_order.at 21 rfl) rfl ?_
        refine X_iload_n (tk_X10_order.at 22 rfl) rfl ?_
        refine X_cV1i (lv2 := [(0, _), (1, _)]) (tk_X10_order.at 23 rfl) mv_X10_many lk_x10_118 np_X10_many hM.f0 (by decide) rfl (Nat.le_of_ble_eq_true rfl) (Nat.le_of_ble_eq_true rfl) rfl (c10_many hM ej3 (by omega) ?_)
        refine X_icmp_lt (tgt := 52) (tk_X10_order.at 24 rfl) (by decide) (fun c4 => ?_) (fun c4 => ?_)
        · refine X_aload_n (tk_X10_order.at 29 rfl) rfl ?_
          refine X_iload_n (tk_X10_order.at 30 rfl) rfl ?_
          refine X_cV1v (lv2 := [(0, _), (1, _)]) (tk_X10_order.at 31 rfl) mv_X10_findOrder lk_x10_282 np_X10_findOrder hM.f0 (by decide) rfl (Nat.le_of_ble_eq_true rfl) (Nat.le_of_ble_eq_true rfl) rfl (c10_findOrder hM rfl hl0 hw ej3 hj3 (fun ν g0 t t2 g hsq h1 hp0 hr0 hfn h20 hrw hpg => ?_))
          have hres : OrdR (μ (o + 1)) j3 t g := ⟨g0, t2, hp0, hr0, hfn⟩
          refine X_iload_n (tk_X10_order.at 32 rfl) rfl ?_
          refine X_if_ge (tgt := 68) (tk_X10_order.at 33 rfl) (by decide) (fun c5 => ?_) (fun c5 => ?_)
          · obtain ⟨jx, hjx, ejx⟩ := ix_of (n := nv (μ (o + 1) (83 + 9 * j3))) (by omega) c5 (by rw [← wm.1]; exact c4)
            refine X_aload_n (tk_X10_order.at 37 rfl) rfl ?_
            refine X_getR (tk_X10_order.at 38 rfl) fl_x10_50 hM.f0 rfl rfl ?_
            refine X_iload_n (tk_X10_order.at 39 rfl) rfl ?_
            refine X_ialdN (k := jx) (tk_X10_order.at 40 rfl) hM.f12 ejx (by omega) (by decide) ?_
            refine X_ireturn (tk_X10_order.at 41 rfl) rfl rfl ?_
            rw [(hrw jx hjx).1]
            exact k5 ν t g j3 k23 jx hj3 hk23 ej3 ejx hjx (by rw [← ej3]; exact h23) hsq h1 hres hrw hpg
          · refine X_aload_n (tk_X10_order.at 34 rfl) rfl ?_
            refine X_getI (tk_X10_order.at 35 rfl) fl_x10_275 hM.f0 rfl ?_
            refine X_goto (tgt := 74) (tk_X10_order.at 36 rfl) (by decide) ?_
            refine X_ireturn (tk_X10_order.at 41 rfl) rfl rfl ?_
            rw [h20]
            exact k4 ν t g j3 k23 hj3 hk23 ej3 c2 (Int32.not_le.mp c5) (by rw [← ej3]; exact h23) hsq h1 hres hrw
        · refine X_aload_n (tk_X10_order.at 25 rfl) rfl ?_
          refine X_ldc (tk_X10_order.at 26 rfl) kn_x10_108 ?_
          refine X_cV1i (lv2 := [(0, _), (1, _)]) (tk_X10_order.at 27 rfl) mv_X10_finding lk_x10_82 np_X10_finding hM.f0 (by decide) rfl (Nat.le_of_ble_eq_true rfl) (Nat.le_of_ble_eq_true rfl) rfl (c10_finding (k := 2) hM (by decide) (by decide) ?_)
          refine X_ireturn (tk_X10_order.at 28 rfl) rfl rfl ?_
          exact k3 j3 k23 hj3 hk23 ej3 c2 (by rw [← ej3]; exact h23) (by rw [← wm.1]; exact c4)
      · refine X_if_ge (tgt := 36) (tk_X10_order.at 15 rfl) (by decide) (fun h => absurd h (by decide)) (fun _ => ?_)
        refine X_aload_n (tk_X10_order.at 16 rfl) rfl ?_
        refine X_ldc (tk_X10_order.at 17 rfl) kn_x10_131 ?_
        refine X_cV1i (lv2 := [(0, _), (1, _)]) (tk_X10_order.at 18 rfl) mv_X10_finding lk_x10_82 np_X10_finding hM.f0 (by decide) rfl (Nat.le_of_ble_eq_true rfl) (Nat.le_of_ble_eq_true rfl) rfl (c10_finding (k := 3) hM (by decide) (by decide) ?_)
        refine X_ireturn (tk_X10_order.at 19 rfl) rfl rfl ?_
        exact k2 j3 hj3 ej3 c2 (fun k hk z => h23 k hk (by rw [ej3]; exact z))
    · refine X_aload_n (tk_X10_order.at 8 rfl) rfl ?_
      refine X_ldc (tk_X10_order.at 9 rfl) kn_x10_81 ?_
      refine X_cV1i (lv2 := [(0, _), (1, _)]) (tk_X10_order.at 10 rfl) mv_X10_finding lk_x10_82 np_X10_finding hM.f0 (by decide) rfl (Nat.le_of_ble_eq_true rfl) (Nat.le_of_ble_eq_true rfl) rfl (c10_finding (k := 1) hM (by decide) (by decide) ?_)
      refine X_ireturn (tk_X10_order.at 11 rfl) rfl rfl ?_
      exact k1 (fun g => by first | exact absurd g.2 c2 | exact In_no (by omega) hj3 g.1)
  · refine X_if_eq (tgt := 14) (tk_X10_order.at 4 rfl) (by decide) (fun _ => ?_) (fun h => absurd h (by decide))
    refine X_aload_n (tk_X10_order.at 8 rfl) rfl ?_
    refine X_ldc (tk_X10_order.at 9 rfl) kn_x10_81 ?_
    refine X_cV1i (lv2 := [(0, _), (1, _)]) (tk_X10_order.at 10 rfl) mv_X10_finding lk_x10_82 np_X10_finding hM.f0 (by decide) rfl (Nat.le_of_ble_eq_true rfl) (Nat.le_of_ble_eq_true rfl) rfl (c10_finding (k := 1) hM (by decide) (by decide) ?_)
    refine X_ireturn (tk_X10_order.at 11 rfl) rfl rfl ?_
    exact k1 (fun g => by first | exact absurd g.2 h | exact In_no (by omega) hj3 g.1)
set_option maxHeartbeats 1000000 in
theorem c10_line {G : Gl} {d : Nat} {S : Sh} {μ : Mu} {o : Nat} {q : Nat → Nat} {i : Int32} {K : Int32 → Sh → Mu → Prop} (hM : MS S o q) (hw : WF (μ (o + 1))) (hl0 : μ o 5 = 0) (k1 : ¬ -1 ≤ i → K (-1000000001) S (er μ o 1)) (k2 : -1 ≤ i → ¬ i < nI (nv (μ (o + 1) 4)) → K (-1000000002) S (er μ o 2)) (k3 : ∀ ν t g, -1 ≤ i → i < 0 → Sq o μ ν → ν (o + 1) = μ (o + 1) → LinR (μ (o + 1)) t g → Rw (ν (o + 12)) (nv (μ (o + 1) 4)) g → K (nI t) S ν) (k4 : ∀ ν t g j, i = nI j → j < nv (μ (o + 1) 4) → Sq o μ ν → ν (o + 1) = μ (o + 1) → LinR (μ (o + 1)) t g → Rw (ν (o + 12)) (nv (μ (o + 1) 4)) g → Pm (nv (μ (o + 1) 4)) g (linN (μ (o + 1))) → K (nI (g j)) S ν) : X G mi_X10_line (d + 9) 0 0 [(0, .ref o), (1, .int i)] [] S μ (qi K) := by
  have w0 := hw.n0
  have w1 := hw.n1
  have w2 := hw.n2
  have w3 := hw.n3
  have w4 := hw.n4
  have w5 := hw.n5
  have w6 := hw.n6
  have b1 := w1.2
  have b2 := w2.2
  have b3 := w3.2
  have b4 := w4.2
  have b5 := w5.2
  have b6 := w6.2
  have b0 := w0.2
  refine X_iload_n (tk_X10_line.at 0 rfl) rfl ?_
  refine X_iconst (tk_X10_line.at 1 rfl) ci_m1 ?_
  refine X_icmp_ge (tgt := 12) (tk_X10_line.at 2 rfl) (by decide) (fun c1 => ?_) (fun c1 => ?_)
  · refine X_iload_n (tk_X10_line.at 7 rfl) rfl ?_
    refine X_aload_n (tk_X10_line.at 8 rfl) rfl ?_
    refine X_getR (tk_X10_line.at 9 rfl) fl_x10_9 hM.f0 rfl rfl ?_
    refine X_iconst (tk_X10_line.at 10 rfl) ci_4 ?_
    refine X_ialdN (k := 4) (tk_X10_line.at 11 rfl) hM.f1 (pz (pl 4 rfl) (by omega)) (by omega) (by decide) ?_
    refine X_icmp_lt (tgt := 29) (tk_X10_line.at 12 rfl) (by decide) (fun c2 => ?_) (fun c2 => ?_)
    · refine X_aload_n (tk_X10_line.at 17 rfl) rfl ?_
      refine X_cV0v (lv2 := [(0, _)]) (tk_X10_line.at 18 rfl) mv_X10_findLine lk_x10_291 np_X10_findLine hM.f0 (by decide) rfl (Nat.le_of_ble_eq_true rfl) (Nat.le_of_ble_eq_true rfl) rfl (c10_findLine hM rfl hl0 hw (fun ν g0 t t2 g hsq h1 hp0 hr0 hfn h20 hrw hpg => ?_))
      have hres : LinR (μ (o + 1)) t g := ⟨g0, t2, hp0, hr0, hfn⟩
      refine X_iload_n (tk_X10_line.at 19 rfl) rfl ?_
      refine X_if_ge (tgt := 44) (tk_X10_line.at 20 rfl) (by decide) (fun c3 => ?_) (fun c3 => ?_)
      · obtain ⟨jx, hjx, ejx⟩ := ix_of (n := nv (μ (o + 1) 4)) (by omega) c3 (by rw [← w4.1]; exact c2)
        refine X_aload_n (tk_X10_line.at 24 rfl) rfl ?_
        refine X_getR (tk_X10_line.at 25 rfl) fl_x10_50 hM.f0 rfl rfl ?_
        refine X_iload_n (tk_X10_line.at 26 rfl) rfl ?_
        refine X_ialdN (k := jx) (tk_X10_line.at 27 rfl) hM.f12 ejx (by omega) (by decide) ?_
        refine X_ireturn (tk_X10_line.at 28 rfl) rfl rfl ?_
        rw [(hrw jx hjx).1]
        exact k4 ν t g jx ejx hjx hsq h1 hres hrw hpg
      · refine X_aload_n (tk_X10_line.at 21 rfl) rfl ?_
        refine X_getI (tk_X10_line.at 22 rfl) fl_x10_275 hM.f0 rfl ?_
        refine X_goto (tgt := 50) (tk_X10_line.at 23 rfl) (by decide) ?_
        refine X_ireturn (tk_X10_line.at 28 rfl) rfl rfl ?_
        rw [h20]
        exact k3 ν t g c1 (Int32.not_le.mp c3) hsq h1 hres hrw
    · refine X_aload_n (tk_X10_line.at 13 rfl) rfl ?_
      refine X_ldc (tk_X10_line.at 14 rfl) kn_x10_108 ?_
      refine X_cV1i (lv2 := [(0, _), (1, _)]) (tk_X10_line.at 15 rfl) mv_X10_finding lk_x10_82 np_X10_finding hM.f0 (by decide) rfl (Nat.le_of_ble_eq_true rfl) (Nat.le_of_ble_eq_true rfl) rfl (c10_finding (k := 2) hM (by decide) (by decide) ?_)
      refine X_ireturn (tk_X10_line.at 16 rfl) rfl rfl ?_
      exact k2 c1 (by rw [← w4.1]; exact c2)
  · refine X_aload_n (tk_X10_line.at 3 rfl) rfl ?_
    refine X_ldc (tk_X10_line.at 4 rfl) kn_x10_81 ?_
    refine X_cV1i (lv2 := [(0, _), (1, _)]) (tk_X10_line.at 5 rfl) mv_X10_finding lk_x10_82 np_X10_finding hM.f0 (by decide) rfl (Nat.le_of_ble_eq_true rfl) (Nat.le_of_ble_eq_true rfl) rfl (c10_finding (k := 1) hM (by decide) (by decide) ?_)
    refine X_ireturn (tk_X10_line.at 6 rfl) rfl rfl ?_
    exact k1 (fun g => absurd g c1)
