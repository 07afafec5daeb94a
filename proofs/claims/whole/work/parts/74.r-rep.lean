set_option maxHeartbeats 1000000 in
theorem repD_row {μ ν : Mu} {D : Nat} {N M : Nat → Int32} {r0 : Nat} (hw : WF N) (h : repD μ D N) (h3 : r0 < nv (N 3)) (hν : ∀ a, a ≠ D + 20 + 2 * r0 → a ≠ D + 20 + 2 * r0 + 1 → ν a = μ a) (hN : ∀ a, a < 83 + 9 * r0 ∨ 89 + 9 * r0 ≤ a → M a = N a) (hrow : RwI ν (D + 20 + 2 * r0) (M (83 + 9 * r0)) (fun i => M (84 + 9 * r0 + i))) : repD ν D M := by
  have k1 := hw.n1.2
  have k2 := hw.n2.2
  have k3 := hw.n3.2
  have k4 := hw.n4.2
  have k5 := hw.n5.2
  have k6 := hw.n6.2
  have k7 := (tx0 hw).2
  have k8 := (tx1 hw).2
  obtain ⟨⟨a1, a2⟩, ⟨b1, b2⟩, ⟨c1, c2⟩, ⟨d1, d2⟩, l, t, w, r, n, x, y⟩ := h
  refine ⟨⟨?_, ?_⟩, ⟨?_, ?_⟩, ⟨?_, ?_⟩, ⟨?_, ?_⟩, ?_, ?_, ?_, ?_, ?_, ?_, ?_⟩
  · rw [hν (D) (by omega) (by omega), hN (0) (by omega)]; exact a1
  · rw [hν (D) (by omega) (by omega), hN (7) (by omega)]; exact a2
  · rw [hν (D + 1) (by omega) (by omega), hN (1) (by omega)]; exact b1
  · intro p c hp hc
    rw [hN (1) (by omega)] at hp
    rw [hν (D + 2) (by omega) (by omega), hN (8 + 4 * p + c) (by omega)]; exact b2 p c hp hc
  · rw [hν (D + 3) (by omega) (by omega), hN (2) (by omega)]; exact c1
  · intro p c hp hc
    rw [hN (2) (by omega)] at hp
    rw [hν (D + 4) (by omega) (by omega), hN (48 + 4 * p + c) (by omega)]; exact c2 p c hp hc
  · rw [hν (D + 5) (by omega) (by omega), hN (3) (by omega)]; exact d1
  · intro p c hp hc
    rw [hN (3) (by omega)] at hp
    rw [hν (D + 6) (by omega) (by omega), hN (80 + 9 * p + c) (by omega)]; exact d2 p c hp hc
  · refine ⟨by rw [hν (D + 7) (by omega) (by omega), hN (4) (by omega)]; exact l.1, fun i hi => ?_⟩
    rw [hN (4) (by omega)] at hi
    dsimp only
    rw [show D + 7 + 1 = D + 8 from rfl, hν (D + 8) (by omega) (by omega), hN (134 + i) (by omega)]; exact l.2 i hi
  · refine ⟨by rw [hν (D + 9) (by omega) (by omega), hN (5) (by omega)]; exact t.1, fun i hi => ?_⟩
    rw [hN (5) (by omega)] at hi
    dsimp only
    rw [show D + 9 + 1 = D + 10 from rfl, hν (D + 10) (by omega) (by omega), hN (140 + i) (by omega)]; exact t.2 i hi
  · refine ⟨by rw [hν (D + 11) (by omega) (by omega), hN (6) (by omega)]; exact w.1, fun i hi => ?_⟩
    rw [hN (6) (by omega)] at hi
    dsimp only
    rw [show D + 11 + 1 = D + 12 from rfl, hν (D + 12) (by omega) (by omega), hN (190 + i) (by omega)]; exact w.2 i hi
  · intro q hq
    rw [hN 3 (by omega)]
    by_cases e : q = r0
    · subst e
      rw [if_pos h3]
      exact hrow
    · have z := r q hq
      refine ⟨?_, fun i hi => ?_⟩
      · rw [hν (D + 20 + 2 * q) (by omega) (by omega), z.1]
        by_cases cq : q < nv (N 3)
        · rw [if_pos cq, if_pos cq, hN (83 + 9 * q) (by omega)]
        · rw [if_neg cq, if_neg cq]
      · by_cases cq : q < nv (N 3)
        · have k5q := (hw.ro cq).2.2.2.1.2
          rw [if_pos cq, hN (83 + 9 * q) (by omega)] at hi
          rw [if_pos cq] at z
          dsimp only
          rw [hν (D + 20 + 2 * q + 1) (by omega) (by omega), hN (84 + 9 * q + i) (by omega)]; exact z.2 i hi
        · rw [if_neg cq] at hi; exact absurd hi (Nat.not_lt_zero i)
  · rw [hν (D + 14) (by omega) (by omega)]; exact n
  · refine ⟨by rw [hν (D + 16) (by omega) (by omega), hN (210) (by omega)]; exact x.1, fun i hi => ?_⟩
    rw [hN (210) (by omega)] at hi
    dsimp only
    rw [show D + 16 + 1 = D + 17 from rfl, hν (D + 17) (by omega) (by omega), hN (211 + i) (by omega)]; exact x.2 i hi
  · refine ⟨by rw [hν (D + 18) (by omega) (by omega), hN (262) (by omega)]; exact y.1, fun i hi => ?_⟩
    rw [hN (262) (by omega)] at hi
    dsimp only
    rw [show D + 18 + 1 = D + 19 from rfl, hν (D + 19) (by omega) (by omega), hN (263 + i) (by omega)]; exact y.2 i hi
set_option maxHeartbeats 1000000 in
theorem repD_line {μ ν : Mu} {D : Nat} {N M : Nat → Int32} (hw : WF N) (h : repD μ D N) (hν : ∀ a, a ≠ D + 7 → a ≠ D + 8 → ν a = μ a) (hN : ∀ a, a ≠ 4 → (a < 134 ∨ 140 ≤ a) → M a = N a) (hrow : RwI ν (D + 7) (M 4) (fun i => M (134 + i))) : repD ν D M := by
  have k1 := hw.n1.2
  have k2 := hw.n2.2
  have k3 := hw.n3.2
  have k4 := hw.n4.2
  have k5 := hw.n5.2
  have k6 := hw.n6.2
  have k7 := (tx0 hw).2
  have k8 := (tx1 hw).2
  obtain ⟨⟨a1, a2⟩, ⟨b1, b2⟩, ⟨c1, c2⟩, ⟨d1, d2⟩, l, t, w, r, n, x, y⟩ := h
  refine ⟨⟨?_, ?_⟩, ⟨?_, ?_⟩, ⟨?_, ?_⟩, ⟨?_, ?_⟩, ?_, ?_, ?_, ?_, ?_, ?_, ?_⟩
  · rw [hν (D) (by omega) (by omega), hN (0) (by omega) (by omega)]; exact a1
  · rw [hν (D) (by omega) (by omega), hN (7) (by omega) (by omega)]; exact a2
  · rw [hν (D + 1) (by omega) (by omega), hN (1) (by omega) (by omega)]; exact b1
  · intro p c hp hc
    rw [hN (1) (by omega) (by omega)] at hp
    rw [hν (D + 2) (by omega) (by omega), hN (8 + 4 * p + c) (by omega) (by omega)]; exact b2 p c hp hc
  · rw [hν (D + 3) (by omega) (by omega), hN (2) (by omega) (by omega)]; exact c1
  · intro p c hp hc
    rw [hN (2) (by omega) (by omega)] at hp
    rw [hν (D + 4) (by omega) (by omega), hN (48 + 4 * p + c) (by omega) (by omega)]; exact c2 p c hp hc
  · rw [hν (D + 5) (by omega) (by omega), hN (3) (by omega) (by omega)]; exact d1
  · intro p c hp hc
    rw [hN (3) (by omega) (by omega)] at hp
    rw [hν (D + 6) (by omega) (by omega), hN (80 + 9 * p + c) (by omega) (by omega)]; exact d2 p c hp hc
  · exact hrow
  · refine ⟨by rw [hν (D + 9) (by omega) (by omega), hN (5) (by omega) (by omega)]; exact t.1, fun i hi => ?_⟩
    rw [hN (5) (by omega) (by omega)] at hi
    dsimp only
    rw [show D + 9 + 1 = D + 10 from rfl, hν (D + 10) (by omega) (by omega), hN (140 + i) (by omega) (by omega)]; exact t.2 i hi
  · refine ⟨by rw [hν (D + 11) (by omega) (by omega), hN (6) (by omega) (by omega)]; exact w.1, fun i hi => ?_⟩
    rw [hN (6) (by omega) (by omega)] at hi
    dsimp only
    rw [show D + 11 + 1 = D + 12 from rfl, hν (D + 12) (by omega) (by omega), hN (190 + i) (by omega) (by omega)]; exact w.2 i hi
  · intro q hq
    have z := r q hq
    rw [hN (3) (by omega) (by omega)]
    refine ⟨?_, fun i hi => ?_⟩
    · rw [hν (D + 20 + 2 * q) (by omega) (by omega), z.1]
      by_cases cq : q < nv (N 3)
      · rw [if_pos cq, if_pos cq, hN (83 + 9 * q) (by omega) (by omega)]
      · rw [if_neg cq, if_neg cq]
    · by_cases cq : q < nv (N 3)
      · have k5q := (hw.ro cq).2.2.2.1.2
        rw [if_pos cq, hN (83 + 9 * q) (by omega) (by omega)] at hi
        rw [if_pos cq] at z
        dsimp only
        rw [hν (D + 20 + 2 * q + 1) (by omega) (by omega), hN (84 + 9 * q + i) (by omega) (by omega)]; exact z.2 i hi
      · rw [if_neg cq] at hi; exact absurd hi (Nat.not_lt_zero i)
  · rw [hν (D + 14) (by omega) (by omega)]; exact n
  · refine ⟨by rw [hν (D + 16) (by omega) (by omega), hN (210) (by omega) (by omega)]; exact x.1, fun i hi => ?_⟩
    rw [hN (210) (by omega) (by omega)] at hi
    dsimp only
    rw [show D + 16 + 1 = D + 17 from rfl, hν (D + 17) (by omega) (by omega), hN (211 + i) (by omega) (by omega)]; exact x.2 i hi
  · refine ⟨by rw [hν (D + 18) (by omega) (by omega), hN (262) (by omega) (by omega)]; exact y.1, fun i hi => ?_⟩
    rw [hN (262) (by omega) (by omega)] at hi
    dsimp only
    rw [show D + 18 + 1 = D + 19 from rfl, hν (D + 19) (by omega) (by omega), hN (263 + i) (by omega) (by omega)]; exact y.2 i hi
set_option maxHeartbeats 1000000 in
theorem repD_tape {μ ν : Mu} {D : Nat} {N M : Nat → Int32} (hw : WF N) (h : repD μ D N) (hν : ∀ a, a ≠ D + 9 → a ≠ D + 10 → ν a = μ a) (hN : ∀ a, a ≠ 5 → (a < 140 ∨ 190 ≤ a) → M a = N a) (hrow : RwI ν (D + 9) (M 5) (fun i => M (140 + i))) : repD ν D M := by
  have k1 := hw.n1.2
  have k2 := hw.n2.2
  have k3 := hw.n3.2
  have k4 := hw.n4.2
  have k5 := hw.n5.2
  have k6 := hw.n6.2
  have k7 := (tx0 hw).2
  have k8 := (tx1 hw).2
  obtain ⟨⟨a1, a2⟩, ⟨b1, b2⟩, ⟨c1, c2⟩, ⟨d1, d2⟩, l, t, w, r, n, x, y⟩ := h
  refine ⟨⟨?_, ?_⟩, ⟨?_, ?_⟩, ⟨?_, ?_⟩, ⟨?_, ?_⟩, ?_, ?_, ?_, ?_, ?_, ?_, ?_⟩
  · rw [hν (D) (by omega) (by omega), hN (0) (by omega) (by omega)]; exact a1
  · rw [hν (D) (by omega) (by omega), hN (7) (by omega) (by omega)]; exact a2
  · rw [hν (D + 1) (by omega) (by omega), hN (1) (by omega) (by omega)]; exact b1
  · intro p c hp hc
    rw [hN (1) (by omega) (by omega)] at hp
    rw [hν (D + 2) (by omega) (by omega), hN (8 + 4 * p + c) (by omega) (by omega)]; exact b2 p c hp hc
  · rw [hν (D + 3) (by omega) (by omega), hN (2) (by omega) (by omega)]; exact c1
  · intro p c hp hc
    rw [hN (2) (by omega) (by omega)] at hp
    rw [hν (D + 4) (by omega) (by omega), hN (48 + 4 * p + c) (by omega) (by omega)]; exact c2 p c hp hc
  · rw [hν (D + 5) (by omega) (by omega), hN (3) (by omega) (by omega)]; exact d1
  · intro p c hp hc
    rw [hN (3) (by omega) (by omega)] at hp
    rw [hν (D + 6) (by omega) (by omega), hN (80 + 9 * p + c) (by omega) (by omega)]; exact d2 p c hp hc
  · refine ⟨by rw [hν (D + 7) (by omega) (by omega), hN (4) (by omega) (by omega)]; exact l.1, fun i hi => ?_⟩
    rw [hN (4) (by omega) (by omega)] at hi
    dsimp only
    rw [show D + 7 + 1 = D + 8 from rfl, hν (D + 8) (by omega) (by omega), hN (134 + i) (by omega) (by omega)]; exact l.2 i hi
  · exact hrow
  · refine ⟨by rw [hν (D + 11) (by omega) (by omega), hN (6) (by omega) (by omega)]; exact w.1, fun i hi => ?_⟩
    rw [hN (6) (by omega) (by omega)] at hi
    dsimp only
    rw [show D + 11 + 1 = D + 12 from rfl, hν (D + 12) (by omega) (by omega), hN (190 + i) (by omega) (by omega)]; exact w.2 i hi
  · intro q hq
    have z := r q hq
    rw [hN (3) (by omega) (by omega)]
    refine ⟨?_, fun i hi => ?_⟩
    · rw [hν (D + 20 + 2 * q) (by omega) (by omega), z.1]
      by_cases cq : q < nv (N 3)
      · rw [if_pos cq, if_pos cq, hN (83 + 9 * q) (by omega) (by omega)]
      · rw [if_neg cq, if_neg cq]
    · by_cases cq : q < nv (N 3)
      · have k5q := (hw.ro cq).2.2.2.1.2
        rw [if_pos cq, hN (83 + 9 * q) (by omega) (by omega)] at hi
        rw [if_pos cq] at z
        dsimp only
        rw [hν (D + 20 + 2 * q + 1) (by omega) (by omega), hN (84 + 9 * q + i) (by omega) (by omega)]; exact z.2 i hi
      · rw [if_neg cq] at hi; exact absurd hi (Nat.not_lt_zero i)
  · rw [hν (D + 14) (by omega) (by omega)]; exact n
  · refine ⟨by rw [hν (D + 16) (by omega) (by omega), hN (210) (by omega) (by omega)]; exact x.1, fun i hi => ?_⟩
    rw [hN (210) (by omega) (by omega)] at hi
    dsimp only
    rw [show D + 16 + 1 = D + 17 from rfl, hν (D + 17) (by omega) (by omega), hN (211 + i) (by omega) (by omega)]; exact x.2 i hi
  · refine ⟨by rw [hν (D + 18) (by omega) (by omega), hN (262) (by omega) (by omega)]; exact y.1, fun i hi => ?_⟩
    rw [hN (262) (by omega) (by omega)] at hi
    dsimp only
    rw [show D + 18 + 1 = D + 19 from rfl, hν (D + 19) (by omega) (by omega), hN (263 + i) (by omega) (by omega)]; exact y.2 i hi
set_option maxHeartbeats 1000000 in
theorem repD_wait {μ ν : Mu} {D : Nat} {N M : Nat → Int32} (hw : WF N) (h : repD μ D N) (hν : ∀ a, a ≠ D + 11 → a ≠ D + 12 → ν a = μ a) (hN : ∀ a, a ≠ 6 → (a < 190 ∨ 210 ≤ a) → M a = N a) (hrow : RwI ν (D + 11) (M 6) (fun i => M (190 + i))) : repD ν D M := by
  have k1 := hw.n1.2
  have k2 := hw.n2.2
  have k3 := hw.n3.2
  have k4 := hw.n4.2
  have k5 := hw.n5.2
  have k6 := hw.n6.2
  have k7 := (tx0 hw).2
  have k8 := (tx1 hw).2
  obtain ⟨⟨a1, a2⟩, ⟨b1, b2⟩, ⟨c1, c2⟩, ⟨d1, d2⟩, l, t, w, r, n, x, y⟩ := h
  refine ⟨⟨?_, ?_⟩, ⟨?_, ?_⟩, ⟨?_, ?_⟩, ⟨?_, ?_⟩, ?_, ?_, ?_, ?_, ?_, ?_, ?_⟩
  · rw [hν (D) (by omega) (by omega), hN (0) (by omega) (by omega)]; exact a1
  · rw [hν (D) (by omega) (by omega), hN (7) (by omega) (by omega)]; exact a2
  · rw [hν (D + 1) (by omega) (by omega), hN (1) (by omega) (by omega)]; exact b1
  · intro p c hp hc
    rw [hN (1) (by omega) (by omega)] at hp
    rw [hν (D + 2) (by omega) (by omega), hN (8 + 4 * p + c) (by omega) (by omega)]; exact b2 p c hp hc
  · rw [hν (D + 3) (by omega) (by omega), hN (2) (by omega) (by omega)]; exact c1
  · intro p c hp hc
    rw [hN (2) (by omega) (by omega)] at hp
    rw [hν (D + 4) (by omega) (by omega), hN (48 + 4 * p + c) (by omega) (by omega)]; exact c2 p c hp hc
  · rw [hν (D + 5) (by omega) (by omega), hN (3) (by omega) (by omega)]; exact d1
  · intro p c hp hc
    rw [hN (3) (by omega) (by omega)] at hp
    rw [hν (D + 6) (by omega) (by omega), hN (80 + 9 * p + c) (by omega) (by omega)]; exact d2 p c hp hc
  · refine ⟨by rw [hν (D + 7) (by omega) (by omega), hN (4) (by omega) (by omega)]; exact l.1, fun i hi => ?_⟩
    rw [hN (4) (by omega) (by omega)] at hi
    dsimp only
    rw [show D + 7 + 1 = D + 8 from rfl, hν (D + 8) (by omega) (by omega), hN (134 + i) (by omega) (by omega)]; exact l.2 i hi
  · refine ⟨by rw [hν (D + 9) (by omega) (by omega), hN (5) (by omega) (by omega)]; exact t.1, fun i hi => ?_⟩
    rw [hN (5) (by omega) (by omega)] at hi
    dsimp only
    rw [show D + 9 + 1 = D + 10 from rfl, hν (D + 10) (by omega) (by omega), hN (140 + i) (by omega) (by omega)]; exact t.2 i hi
  · exact hrow
  · intro q hq
    have z := r q hq
    rw [hN (3) (by omega) (by omega)]
    refine ⟨?_, fun i hi => ?_⟩
    · rw [hν (D + 20 + 2 * q) (by omega) (by omega), z.1]
      by_cases cq : q < nv (N 3)
      · rw [if_pos cq, if_pos cq, hN (83 + 9 * q) (by omega) (by omega)]
      · rw [if_neg cq, if_neg cq]
    · by_cases cq : q < nv (N 3)
      · have k5q := (hw.ro cq).2.2.2.1.2
        rw [if_pos cq, hN (83 + 9 * q) (by omega) (by omega)] at hi
        rw [if_pos cq] at z
        dsimp only
        rw [hν (D + 20 + 2 * q + 1) (by omega) (by omega), hN (84 + 9 * q + i) (by omega) (by omega)]; exact z.2 i hi
      · rw [if_neg cq] at hi; exact absurd hi (Nat.not_lt_zero i)
  · rw [hν (D + 14) (by omega) (by omega)]; exact n
  · refine ⟨by rw [hν (D + 16) (by omega) (by omega), hN (210) (by omega) (by omega)]; exact x.1, fun i hi => ?_⟩
    rw [hN (210) (by omega) (by omega)] at hi
    dsimp only
    rw [show D + 16 + 1 = D + 17 from rfl, hν (D + 17) (by omega) (by omega), hN (211 + i) (by omega) (by omega)]; exact x.2 i hi
  · refine ⟨by rw [hν (D + 18) (by omega) (by omega), hN (262) (by omega) (by omega)]; exact y.1, fun i hi => ?_⟩
    rw [hN (262) (by omega) (by omega)] at hi
    dsimp only
    rw [show D + 18 + 1 = D + 19 from rfl, hν (D + 19) (by omega) (by omega), hN (263 + i) (by omega) (by omega)]; exact y.2 i hi
set_option maxHeartbeats 1000000 in
theorem repD_txt0 {μ ν : Mu} {D : Nat} {N M : Nat → Int32} (hw : WF N) (h : repD μ D N) (hν : ∀ a, a ≠ D + 16 → a ≠ D + 17 → ν a = μ a) (hN : ∀ a, a ≠ 210 → (a < 211 ∨ 261 ≤ a) → M a = N a) (hrow : RwI ν (D + 16) (M 210) (fun i => tr (M (211 + i)))) : repD ν D M := by
  have k1 := hw.n1.2
  have k2 := hw.n2.2
  have k3 := hw.n3.2
  have k4 := hw.n4.2
  have k5 := hw.n5.2
  have k6 := hw.n6.2
  have k7 := (tx0 hw).2
  have k8 := (tx1 hw).2
  obtain ⟨⟨a1, a2⟩, ⟨b1, b2⟩, ⟨c1, c2⟩, ⟨d1, d2⟩, l, t, w, r, n, x, y⟩ := h
  refine ⟨⟨?_, ?_⟩, ⟨?_, ?_⟩, ⟨?_, ?_⟩, ⟨?_, ?_⟩, ?_, ?_, ?_, ?_, ?_, ?_, ?_⟩
  · rw [hν (D) (by omega) (by omega), hN (0) (by omega) (by omega)]; exact a1
  · rw [hν (D) (by omega) (by omega), hN (7) (by omega) (by omega)]; exact a2
  · rw [hν (D + 1) (by omega) (by omega), hN (1) (by omega) (by omega)]; exact b1
  · intro p c hp hc
    rw [hN (1) (by omega) (by omega)] at hp
    rw [hν (D + 2) (by omega) (by omega), hN (8 + 4 * p + c) (by omega) (by omega)]; exact b2 p c hp hc
  · rw [hν (D + 3) (by omega) (by omega), hN (2) (by omega) (by omega)]; exact c1
  · intro p c hp hc
    rw [hN (2) (by omega) (by omega)] at hp
    rw [hν (D + 4) (by omega) (by omega), hN (48 + 4 * p + c) (by omega) (by omega)]; exact c2 p c hp hc
  · rw [hν (D + 5) (by omega) (by omega), hN (3) (by omega) (by omega)]; exact d1
  · intro p c hp hc
    rw [hN (3) (by omega) (by omega)] at hp
    rw [hν (D + 6) (by omega) (by omega), hN (80 + 9 * p + c) (by omega) (by omega)]; exact d2 p c hp hc
  · refine ⟨by rw [hν (D + 7) (by omega) (by omega), hN (4) (by omega) (by omega)]; exact l.1, fun i hi => ?_⟩
    rw [hN (4) (by omega) (by omega)] at hi
    dsimp only
    rw [show D + 7 + 1 = D + 8 from rfl, hν (D + 8) (by omega) (by omega), hN (134 + i) (by omega) (by omega)]; exact l.2 i hi
  · refine ⟨by rw [hν (D + 9) (by omega) (by omega), hN (5) (by omega) (by omega)]; exact t.1, fun i hi => ?_⟩
    rw [hN (5) (by omega) (by omega)] at hi
    dsimp only
    rw [show D + 9 + 1 = D + 10 from rfl, hν (D + 10) (by omega) (by omega), hN (140 + i) (by omega) (by omega)]; exact t.2 i hi
  · refine ⟨by rw [hν (D + 11) (by omega) (by omega), hN (6) (by omega) (by omega)]; exact w.1, fun i hi => ?_⟩
    rw [hN (6) (by omega) (by omega)] at hi
    dsimp only
    rw [show D + 11 + 1 = D + 12 from rfl, hν (D + 12) (by omega) (by omega), hN (190 + i) (by omega) (by omega)]; exact w.2 i hi
  · intro q hq
    have z := r q hq
    rw [hN (3) (by omega) (by omega)]
    refine ⟨?_, fun i hi => ?_⟩
    · rw [hν (D + 20 + 2 * q) (by omega) (by omega), z.1]
      by_cases cq : q < nv (N 3)
      · rw [if_pos cq, if_pos cq, hN (83 + 9 * q) (by omega) (by omega)]
      · rw [if_neg cq, if_neg cq]
    · by_cases cq : q < nv (N 3)
      · have k5q := (hw.ro cq).2.2.2.1.2
        rw [if_pos cq, hN (83 + 9 * q) (by omega) (by omega)] at hi
        rw [if_pos cq] at z
        dsimp only
        rw [hν (D + 20 + 2 * q + 1) (by omega) (by omega), hN (84 + 9 * q + i) (by omega) (by omega)]; exact z.2 i hi
      · rw [if_neg cq] at hi; exact absurd hi (Nat.not_lt_zero i)
  · rw [hν (D + 14) (by omega) (by omega)]; exact n
  · exact hrow
  · refine ⟨by rw [hν (D + 18) (by omega) (by omega), hN (262) (by omega) (by omega)]; exact y.1, fun i hi => ?_⟩
    rw [hN (262) (by omega) (by omega)] at hi
    dsimp only
    rw [show D + 18 + 1 = D + 19 from rfl, hν (D + 19) (by omega) (by omega), hN (263 + i) (by omega) (by omega)]; exact y.2 i hi
set_option maxHeartbeats 1000000 in
theorem repD_txt1 {μ ν : Mu} {D : Nat} {N M : Nat → Int32} (hw : WF N) (h : repD μ D N) (hν : ∀ a, a ≠ D + 18 → a ≠ D + 19 → ν a = μ a) (hN : ∀ a, a ≠ 262 → (a < 263 ∨ 313 ≤ a) → M a = N a) (hrow : RwI ν (D + 18) (M 262) (fun i => tr (M (263 + i)))) : repD ν D M := by
  have k1 := hw.n1.2
  have k2 := hw.n2.2
  have k3 := hw.n3.2
  have k4 := hw.n4.2
  have k5 := hw.n5.2
  have k6 := hw.n6.2
  have k7 := (tx0 hw).2
  have k8 := (tx1 hw).2
  obtain ⟨⟨a1, a2⟩, ⟨b1, b2⟩, ⟨c1, c2⟩, ⟨d1, d2⟩, l, t, w, r, n, x, y⟩ := h
  refine ⟨⟨?_, ?_⟩, ⟨?_, ?_⟩, ⟨?_, ?_⟩, ⟨?_, ?_⟩, ?_, ?_, ?_, ?_, ?_, ?_, ?_⟩
  · rw [hν (D) (by omega) (by omega), hN (0) (by omega) (by omega)]; exact a1
  · rw [hν (D) (by omega) (by omega), hN (7) (by omega) (by omega)]; exact a2
  · rw [hν (D + 1) (by omega) (by omega), hN (1) (by omega) (by omega)]; exact b1
  · intro p c hp hc
    rw [hN (1) (by omega) (by omega)] at hp
    rw [hν (D + 2) (by omega) (by omega), hN (8 + 4 * p + c) (by omega) (by omega)]; exact b2 p c hp hc
  · rw [hν (D + 3) (by omega) (by omega), hN (2) (by omega) (by omega)]; exact c1
  · intro p c hp hc
    rw [hN (2) (by omega) (by omega)] at hp
    rw [hν (D + 4) (by omega) (by omega), hN (48 + 4 * p + c) (by omega) (by omega)]; exact c2 p c hp hc
  · rw [hν (D + 5) (by omega) (by omega), hN (3) (by omega) (by omega)]; exact d1
  · intro p c hp hc
    rw [hN (3) (by omega) (by omega)] at hp
    rw [hν (D + 6) (by omega) (by omega), hN (80 + 9 * p + c) (by omega) (by omega)]; exact d2 p c hp hc
  · refine ⟨by rw [hν (D + 7) (by omega) (by omega), hN (4) (by omega) (by omega)]; exact l.1, fun i hi => ?_⟩
    rw [hN (4) (by omega) (by omega)] at hi
    dsimp only
    rw [show D + 7 + 1 = D + 8 from rfl, hν (D + 8) (by omega) (by omega), hN (134 + i) (by omega) (by omega)]; exact l.2 i hi
  · refine ⟨by rw [hν (D + 9) (by omega) (by omega), hN (5) (by omega) (by omega)]; exact t.1, fun i hi => ?_⟩
    rw [hN (5) (by omega) (by omega)] at hi
    dsimp only
    rw [show D + 9 + 1 = D + 10 from rfl, hν (D + 10) (by omega) (by omega), hN (140 + i) (by omega) (by omega)]; exact t.2 i hi
  · refine ⟨by rw [hν (D + 11) (by omega) (by omega), hN (6) (by omega) (by omega)]; exact w.1, fun i hi => ?_⟩
    rw [hN (6) (by omega) (by omega)] at hi
    dsimp only
    rw [show D + 11 + 1 = D + 12 from rfl, hν (D + 12) (by omega) (by omega), hN (190 + i) (by omega) (by omega)]; exact w.2 i hi
  · intro q hq
    have z := r q hq
    rw [hN (3) (by omega) (by omega)]
    refine ⟨?_, fun i hi => ?_⟩
    · rw [hν (D + 20 + 2 * q) (by omega) (by omega), z.1]
      by_cases cq : q < nv (N 3)
      · rw [if_pos cq, if_pos cq, hN (83 + 9 * q) (by omega) (by omega)]
      · rw [if_neg cq, if_neg cq]
    · by_cases cq : q < nv (N 3)
      · have k5q := (hw.ro cq).2.2.2.1.2
        rw [if_pos cq, hN (83 + 9 * q) (by omega) (by omega)] at hi
        rw [if_pos cq] at z
        dsimp only
        rw [hν (D + 20 + 2 * q + 1) (by omega) (by omega), hN (84 + 9 * q + i) (by omega) (by omega)]; exact z.2 i hi
      · rw [if_neg cq] at hi; exact absurd hi (Nat.not_lt_zero i)
  · rw [hν (D + 14) (by omega) (by omega)]; exact n
  · refine ⟨by rw [hν (D + 16) (by omega) (by omega), hN (210) (by omega) (by omega)]; exact x.1, fun i hi => ?_⟩
    rw [hN (210) (by omega) (by omega)] at hi
    dsimp only
    rw [show D + 16 + 1 = D + 17 from rfl, hν (D + 17) (by omega) (by omega), hN (211 + i) (by omega) (by omega)]; exact x.2 i hi
  · exact hrow
set_option maxHeartbeats 1000000 in
theorem repD_rop {μ ν : Mu} {D : Nat} {N M : Nat → Int32} {r0 f : Nat} {v : Int32} (hw : WF N) (h : repD μ D N) (h3 : r0 < nv (N 3)) (hf : f < 3) (hν : ∀ a, a ≠ D + 6 → ν a = μ a) (h6 : ν (D + 6) = upd (μ (D + 6)) (4 * r0 + f) v) (hN : ∀ a, a ≠ 80 + 9 * r0 + f → M a = N a) (hv : M (80 + 9 * r0 + f) = v) : repD ν D M := by
  have k1 := hw.n1.2
  have k2 := hw.n2.2
  have k3 := hw.n3.2
  have k4 := hw.n4.2
  have k5 := hw.n5.2
  have k6 := hw.n6.2
  have k7 := (tx0 hw).2
  have k8 := (tx1 hw).2
  obtain ⟨⟨a1, a2⟩, ⟨b1, b2⟩, ⟨c1, c2⟩, ⟨d1, d2⟩, l, t, w, r, n, x, y⟩ := h
  refine ⟨⟨?_, ?_⟩, ⟨?_, ?_⟩, ⟨?_, ?_⟩, ⟨?_, ?_⟩, ?_, ?_, ?_, ?_, ?_, ?_, ?_⟩
  · rw [hν (D) (by omega), hN (0) (by omega)]; exact a1
  · rw [hν (D) (by omega), hN (7) (by omega)]; exact a2
  · rw [hν (D + 1) (by omega), hN (1) (by omega)]; exact b1
  · intro p c hp hc
    rw [hN (1) (by omega)] at hp
    rw [hν (D + 2) (by omega), hN (8 + 4 * p + c) (by omega)]; exact b2 p c hp hc
  · rw [hν (D + 3) (by omega), hN (2) (by omega)]; exact c1
  · intro p c hp hc
    rw [hN (2) (by omega)] at hp
    rw [hν (D + 4) (by omega), hN (48 + 4 * p + c) (by omega)]; exact c2 p c hp hc
  · rw [hν (D + 5) (by omega), hN (3) (by omega)]; exact d1
  · intro p c hp hc
    rw [hN 3 (by omega)] at hp
    rw [h6]
    by_cases e : 4 * p + c = 4 * r0 + f
    · have e1 : p = r0 := by omega
      have e2 : c = f := by omega
      subst e1 e2
      rw [upd_at]; exact hv.symm
    · rw [upd_ne _ _ e, hN (80 + 9 * p + c) (by omega)]; exact d2 p c hp hc
  · refine ⟨by rw [hν (D + 7) (by omega), hN (4) (by omega)]; exact l.1, fun i hi => ?_⟩
    rw [hN (4) (by omega)] at hi
    dsimp only
    rw [show D + 7 + 1 = D + 8 from rfl, hν (D + 8) (by omega), hN (134 + i) (by omega)]; exact l.2 i hi
  · refine ⟨by rw [hν (D + 9) (by omega), hN (5) (by omega)]; exact t.1, fun i hi => ?_⟩
    rw [hN (5) (by omega)] at hi
    dsimp only
    rw [show D + 9 + 1 = D + 10 from rfl, hν (D + 10) (by omega), hN (140 + i) (by omega)]; exact t.2 i hi
  · refine ⟨by rw [hν (D + 11) (by omega), hN (6) (by omega)]; exact w.1, fun i hi => ?_⟩
    rw [hN (6) (by omega)] at hi
    dsimp only
    rw [show D + 11 + 1 = D + 12 from rfl, hν (D + 12) (by omega), hN (190 + i) (by omega)]; exact w.2 i hi
  · intro q hq
    have z := r q hq
    rw [hN (3) (by omega)]
    refine ⟨?_, fun i hi => ?_⟩
    · rw [hν (D + 20 + 2 * q) (by omega), z.1]
      by_cases cq : q < nv (N 3)
      · rw [if_pos cq, if_pos cq, hN (83 + 9 * q) (by omega)]
      · rw [if_neg cq, if_neg cq]
    · by_cases cq : q < nv (N 3)
      · have k5q := (hw.ro cq).2.2.2.1.2
        rw [if_pos cq, hN (83 + 9 * q) (by omega)] at hi
        rw [if_pos cq] at z
        dsimp only
        rw [hν (D + 20 + 2 * q + 1) (by omega), hN (84 + 9 * q + i) (by omega)]; exact z.2 i hi
      · rw [if_neg cq] at hi; exact absurd hi (Nat.not_lt_zero i)
  · rw [hν (D + 14) (by omega)]; exact n
  · refine ⟨by rw [hν (D + 16) (by omega), hN (210) (by omega)]; exact x.1, fun i hi => ?_⟩
    rw [hN (210) (by omega)] at hi
    dsimp only
    rw [show D + 16 + 1 = D + 17 from rfl, hν (D + 17) (by omega), hN (211 + i) (by omega)]; exact x.2 i hi
  · refine ⟨by rw [hν (D + 18) (by omega), hN (262) (by omega)]; exact y.1, fun i hi => ?_⟩
    rw [hN (262) (by omega)] at hi
    dsimp only
    rw [show D + 18 + 1 = D + 19 from rfl, hν (D + 19) (by omega), hN (263 + i) (by omega)]; exact y.2 i hi
set_option maxHeartbeats 1000000 in
theorem repD_start {μ ν : Mu} {D : Nat} {N M : Nat → Int32} {v : Int32} (hw : WF N) (h : repD μ D N) (hν : ∀ a, a ≠ D → ν a = μ a) (hD0 : ν D = upd (μ D) 10 v) (hN : ∀ a, a ≠ 0 → M a = N a) (hv : M 0 = v) : repD ν D M := by
  have k1 := hw.n1.2
  have k2 := hw.n2.2
  have k3 := hw.n3.2
  have k4 := hw.n4.2
  have k5 := hw.n5.2
  have k6 := hw.n6.2
  have k7 := (tx0 hw).2
  have k8 := (tx1 hw).2
  obtain ⟨⟨a1, a2⟩, ⟨b1, b2⟩, ⟨c1, c2⟩, ⟨d1, d2⟩, l, t, w, r, n, x, y⟩ := h
  refine ⟨⟨?_, ?_⟩, ⟨?_, ?_⟩, ⟨?_, ?_⟩, ⟨?_, ?_⟩, ?_, ?_, ?_, ?_, ?_, ?_, ?_⟩
  · rw [hD0, upd_at]; exact hv.symm
  · rw [hD0, upd_ne _ _ (by decide), hN 7 (by decide)]; exact a2
  · rw [hν (D + 1) (by omega), hN (1) (by omega)]; exact b1
  · intro p c hp hc
    rw [hN (1) (by omega)] at hp
    rw [hν (D + 2) (by omega), hN (8 + 4 * p + c) (by omega)]; exact b2 p c hp hc
  · rw [hν (D + 3) (by omega), hN (2) (by omega)]; exact c1
  · intro p c hp hc
    rw [hN (2) (by omega)] at hp
    rw [hν (D + 4) (by omega), hN (48 + 4 * p + c) (by omega)]; exact c2 p c hp hc
  · rw [hν (D + 5) (by omega), hN (3) (by omega)]; exact d1
  · intro p c hp hc
    rw [hN (3) (by omega)] at hp
    rw [hν (D + 6) (by omega), hN (80 + 9 * p + c) (by omega)]; exact d2 p c hp hc
  · refine ⟨by rw [hν (D + 7) (by omega), hN (4) (by omega)]; exact l.1, fun i hi => ?_⟩
    rw [hN (4) (by omega)] at hi
    dsimp only
    rw [show D + 7 + 1 = D + 8 from rfl, hν (D + 8) (by omega), hN (134 + i) (by omega)]; exact l.2 i hi
  · refine ⟨by rw [hν (D + 9) (by omega), hN (5) (by omega)]; exact t.1, fun i hi => ?_⟩
    rw [hN (5) (by omega)] at hi
    dsimp only
    rw [show D + 9 + 1 = D + 10 from rfl, hν (D + 10) (by omega), hN (140 + i) (by omega)]; exact t.2 i hi
  · refine ⟨by rw [hν (D + 11) (by omega), hN (6) (by omega)]; exact w.1, fun i hi => ?_⟩
    rw [hN (6) (by omega)] at hi
    dsimp only
    rw [show D + 11 + 1 = D + 12 from rfl, hν (D + 12) (by omega), hN (190 + i) (by omega)]; exact w.2 i hi
  · intro q hq
    have z := r q hq
    rw [hN (3) (by omega)]
    refine ⟨?_, fun i hi => ?_⟩
    · rw [hν (D + 20 + 2 * q) (by omega), z.1]
      by_cases cq : q < nv (N 3)
      · rw [if_pos cq, if_pos cq, hN (83 + 9 * q) (by omega)]
      · rw [if_neg cq, if_neg cq]
    · by_cases cq : q < nv (N 3)
      · have k5q := (hw.ro cq).2.2.2.1.2
        rw [if_pos cq, hN (83 + 9 * q) (by omega)] at hi
        rw [if_pos cq] at z
        dsimp only
        rw [hν (D + 20 + 2 * q + 1) (by omega), hN (84 + 9 * q + i) (by omega)]; exact z.2 i hi
      · rw [if_neg cq] at hi; exact absurd hi (Nat.not_lt_zero i)
  · rw [hν (D + 14) (by omega)]; exact n
  · refine ⟨by rw [hν (D + 16) (by omega), hN (210) (by omega)]; exact x.1, fun i hi => ?_⟩
    rw [hN (210) (by omega)] at hi
    dsimp only
    rw [show D + 16 + 1 = D + 17 from rfl, hν (D + 17) (by omega), hN (211 + i) (by omega)]; exact x.2 i hi
  · refine ⟨by rw [hν (D + 18) (by omega), hN (262) (by omega)]; exact y.1, fun i hi => ?_⟩
    rw [hN (262) (by omega)] at hi
    dsimp only
    rw [show D + 18 + 1 = D + 19 from rfl, hν (D + 19) (by omega), hN (263 + i) (by omega)]; exact y.2 i hi
set_option maxHeartbeats 1000000 in
theorem repD_z {μ ν : Mu} {D : Nat} {N M : Nat → Int32} {v : Int32} (hw : WF N) (h : repD μ D N) (hν : ∀ a, a ≠ D → ν a = μ a) (hD0 : ν D = upd (μ D) 11 v) (hN : ∀ a, a ≠ 7 → M a = N a) (hv : M 7 = v) : repD ν D M := by
  have k1 := hw.n1.2
  have k2 := hw.n2.2
  have k3 := hw.n3.2
  have k4 := hw.n4.2
  have k5 := hw.n5.2
  have k6 := hw.n6.2
  have k7 := (tx0 hw).2
  have k8 := (tx1 hw).2
  obtain ⟨⟨a1, a2⟩, ⟨b1, b2⟩, ⟨c1, c2⟩, ⟨d1, d2⟩, l, t, w, r, n, x, y⟩ := h
  refine ⟨⟨?_, ?_⟩, ⟨?_, ?_⟩, ⟨?_, ?_⟩, ⟨?_, ?_⟩, ?_, ?_, ?_, ?_, ?_, ?_, ?_⟩
  · rw [hD0, upd_ne _ _ (by decide), hN 0 (by decide)]; exact a1
  · rw [hD0, upd_at]; exact hv.symm
  · rw [hν (D + 1) (by omega), hN (1) (by omega)]; exact b1
  · intro p c hp hc
    rw [hN (1) (by omega)] at hp
    rw [hν (D + 2) (by omega), hN (8 + 4 * p + c) (by omega)]; exact b2 p c hp hc
  · rw [hν (D + 3) (by omega), hN (2) (by omega)]; exact c1
  · intro p c hp hc
    rw [hN (2) (by omega)] at hp
    rw [hν (D + 4) (by omega), hN (48 + 4 * p + c) (by omega)]; exact c2 p c hp hc
  · rw [hν (D + 5) (by omega), hN (3) (by omega)]; exact d1
  · intro p c hp hc
    rw [hN (3) (by omega)] at hp
    rw [hν (D + 6) (by omega), hN (80 + 9 * p + c) (by omega)]; exact d2 p c hp hc
  · refine ⟨by rw [hν (D + 7) (by omega), hN (4) (by omega)]; exact l.1, fun i hi => ?_⟩
    rw [hN (4) (by omega)] at hi
    dsimp only
    rw [show D + 7 + 1 = D + 8 from rfl, hν (D + 8) (by omega), hN (134 + i) (by omega)]; exact l.2 i hi
  · refine ⟨by rw [hν (D + 9) (by omega), hN (5) (by omega)]; exact t.1, fun i hi => ?_⟩
    rw [hN (5) (by omega)] at hi
    dsimp only
    rw [show D + 9 + 1 = D + 10 from rfl, hν (D + 10) (by omega), hN (140 + i) (by omega)]; exact t.2 i hi
  · refine ⟨by rw [hν (D + 11) (by omega), hN (6) (by omega)]; exact w.1, fun i hi => ?_⟩
    rw [hN (6) (by omega)] at hi
    dsimp only
    rw [show D + 11 + 1 = D + 12 from rfl, hν (D + 12) (by omega), hN (190 + i) (by omega)]; exact w.2 i hi
  · intro q hq
    have z := r q hq
    rw [hN (3) (by omega)]
    refine ⟨?_, fun i hi => ?_⟩
    · rw [hν (D + 20 + 2 * q) (by omega), z.1]
      by_cases cq : q < nv (N 3)
      · rw [if_pos cq, if_pos cq, hN (83 + 9 * q) (by omega)]
      · rw [if_neg cq, if_neg cq]
    · by_cases cq : q < nv (N 3)
      · have k5q := (hw.ro cq).2.2.2.1.2
        rw [if_pos cq, hN (83 + 9 * q) (by omega)] at hi
        rw [if_pos cq] at z
        dsimp only
        rw [hν (D + 20 + 2 * q + 1) (by omega), hN (84 + 9 * q + i) (by omega)]; exact z.2 i hi
      · rw [if_neg cq] at hi; exact absurd hi (Nat.not_lt_zero i)
  · rw [hν (D + 14) (by omega)]; exact n
  · refine ⟨by rw [hν (D + 16) (by omega), hN (210) (by omega)]; exact x.1, fun i hi => ?_⟩
    rw [hN (210) (by omega)] at hi
    dsimp only
    rw [show D + 16 + 1 = D + 17 from rfl, hν (D + 17) (by omega), hN (211 + i) (by omega)]; exact x.2 i hi
  · refine ⟨by rw [hν (D + 18) (by omega), hN (262) (by omega)]; exact y.1, fun i hi => ?_⟩
    rw [hN (262) (by omega)] at hi
    dsimp only
    rw [show D + 18 + 1 = D + 19 from rfl, hν (D + 19) (by omega), hN (263 + i) (by omega)]; exact y.2 i hi
