set_option maxHeartbeats 1000000 in
theorem WF_addp {N M : Nat → Int32} (hw : WF N) {n : Nat} {w s p g : Int32} (hn : nv (N 1) = n) (h10 : n < 10) (ht : Told w s p g) (out : ∀ a, a ≠ 1 → (a < 8 + 4 * n ∨ 12 + 4 * n ≤ a) → M a = N a) (e1 : M 1 = nI (n + 1)) (v0 : M (8 + 4 * n) = w) (v1 : M (9 + 4 * n) = s) (v2 : M (10 + 4 * n) = p) (v3 : M (11 + 4 * n) = g) : WF M := by
  have k1 := hw.n1.2
  have k2 := hw.n2.2
  have k3 := hw.n3.2
  have k4 := hw.n4.2
  have k5 := hw.n5.2
  have k6 := hw.n6.2
  have on : ∀ {r i p : Nat}, On M r i p → On N r i p := by
    intro r i p g
    have h3 : r < nv (N 3) := by rw [← out 3 (by omega) (by omega)]; exact g.1
    have gm := (hw.ro h3).2.2.2.1.2
    have hi : i < nv (N (83 + 9 * r)) := by rw [← out (83 + 9 * r) (by omega) (by omega)]; exact g.2.1
    exact ⟨h3, hi, by rw [← out (84 + 9 * r + i) (by omega) (by omega)]; exact g.2.2⟩
  refine ⟨⟨?_, ?_, ?_, ?_, ?_, ?_, ?_⟩, ?_, ?_, ?_, ?_, ?_, ?_, ?_, ?_⟩
  · rw [out (0) (by omega) (by omega)]; exact hw.n0
  · rw [e1]; exact okN_of (by omega) (by decide)
  · rw [out (2) (by omega) (by omega)]; exact hw.n2
  · rw [out (3) (by omega) (by omega)]; exact hw.n3
  · rw [out (4) (by omega) (by omega)]; exact hw.n4
  · rw [out (5) (by omega) (by omega)]; exact hw.n5
  · rw [out (6) (by omega) (by omega)]; exact hw.n6
  · intro x hx
    rw [e1, nv_nI (by omega)] at hx
    by_cases e : x = n
    · subst e
      unfold WFp
      rw [v0, v1, v2, v3]
      have q0 := le_lits (a := 30) (b := 300) (by decide) ht.1.1.1 ht.1.1.2 (by decide)
      have q1 := le_lits (a := 0) (b := 999) (by decide) ht.1.2.1 ht.1.2.2 (by decide)
      have q2 := le_lits (a := 1) (b := 60) (by decide) ht.2.1.1 ht.2.1.2 (by decide)
      have q3 := le_lits (a := 0) (b := 1) (by decide) ht.2.2.1 ht.2.2.2 (by decide)
      exact ⟨⟨⟨q0.1, q0.2.2⟩, q0.2.1⟩, ⟨q1.1, q1.2.2⟩, ⟨⟨q2.1, q2.2.2⟩, q2.2.1⟩, ⟨q3.1, q3.2.2⟩⟩
    · have g := hw.pe (p := x) (by omega)
      unfold WFp at g ⊢
      rw [out (8 + 4 * x) (by omega) (by omega), out (9 + 4 * x) (by omega) (by omega), out (10 + 4 * x) (by omega) (by omega), out (11 + 4 * x) (by omega) (by omega)]
      exact g
  · intro p hp
    rw [out (2) (by omega) (by omega)] at hp
    have g := hw.pc hp
    unfold WFc at g ⊢
    rw [out (48 + 4 * p) (by omega) (by omega), out (49 + 4 * p) (by omega) (by omega), out (50 + 4 * p) (by omega) (by omega), out (51 + 4 * p) (by omega) (by omega)]
    exact g
  · intro r hr
    rw [out 3 (by omega) (by omega)] at hr
    have g := hw.ro hr
    have gm := g.2.2.2.1.2
    unfold WFr at g ⊢
    rw [out (80 + 9 * r) (by omega) (by omega), out (81 + 9 * r) (by omega) (by omega), out (82 + 9 * r) (by omega) (by omega), out (83 + 9 * r) (by omega) (by omega), e1, nv_nI (by omega)]
    refine ⟨g.1, g.2.1, g.2.2.1, g.2.2.2.1, fun i hi => ?_⟩
    rw [out (84 + 9 * r + i) (by omega) (by omega)]; have z := g.2.2.2.2 i hi; exact ⟨z.1, by omega⟩
  · intro r i r' i' p g g'
    refine hw.un (on g) (on g')
  · intro k hk
    rw [out (4) (by omega) (by omega)] at hk
    rw [out (134 + k) (by omega) (by omega), out (3) (by omega) (by omega)]; exact hw.li hk
  · intro k k' hk hk' e
    rw [out (4) (by omega) (by omega)] at hk hk'
    rw [out (134 + k) (by omega) (by omega), out (134 + k') (by omega) (by omega)] at e; exact hw.lu hk hk' e
  · intro k hk
    rw [out (5) (by omega) (by omega)] at hk
    rw [out (140 + k) (by omega) (by omega)]; exact hw.ta hk
  · intro u hu
    have g := hw.tx hu
    rw [out (210 + 52 * u) (by omega) (by omega), show (fun k => M (211 + 52 * u + k)) = (fun k => N (211 + 52 * u + k)) from funext (fun k => out (211 + 52 * u + k) (by omega) (by omega))]
    exact g
set_option maxHeartbeats 1000000 in
theorem WF_addc {N M : Nat → Int32} (hw : WF N) {n : Nat} {w s p g : Int32} (hn : nv (N 2) = n) (h10 : n < 8) (ht : ToldC w s p g) (out : ∀ a, a ≠ 2 → (a < 48 + 4 * n ∨ 52 + 4 * n ≤ a) → M a = N a) (e1 : M 2 = nI (n + 1)) (v0 : M (48 + 4 * n) = w) (v1 : M (49 + 4 * n) = s) (v2 : M (50 + 4 * n) = p) (v3 : M (51 + 4 * n) = g) : WF M := by
  have k1 := hw.n1.2
  have k2 := hw.n2.2
  have k3 := hw.n3.2
  have k4 := hw.n4.2
  have k5 := hw.n5.2
  have k6 := hw.n6.2
  have on : ∀ {r i p : Nat}, On M r i p → On N r i p := by
    intro r i p g
    have h3 : r < nv (N 3) := by rw [← out 3 (by omega) (by omega)]; exact g.1
    have gm := (hw.ro h3).2.2.2.1.2
    have hi : i < nv (N (83 + 9 * r)) := by rw [← out (83 + 9 * r) (by omega) (by omega)]; exact g.2.1
    exact ⟨h3, hi, by rw [← out (84 + 9 * r + i) (by omega) (by omega)]; exact g.2.2⟩
  refine ⟨⟨?_, ?_, ?_, ?_, ?_, ?_, ?_⟩, ?_, ?_, ?_, ?_, ?_, ?_, ?_, ?_⟩
  · rw [out (0) (by omega) (by omega)]; exact hw.n0
  · rw [out (1) (by omega) (by omega)]; exact hw.n1
  · rw [e1]; exact okN_of (by omega) (by decide)
  · rw [out (3) (by omega) (by omega)]; exact hw.n3
  · rw [out (4) (by omega) (by omega)]; exact hw.n4
  · rw [out (5) (by omega) (by omega)]; exact hw.n5
  · rw [out (6) (by omega) (by omega)]; exact hw.n6
  · intro p hp
    rw [out (1) (by omega) (by omega)] at hp
    have g := hw.pe hp
    unfold WFp at g ⊢
    rw [out (8 + 4 * p) (by omega) (by omega), out (9 + 4 * p) (by omega) (by omega), out (10 + 4 * p) (by omega) (by omega), out (11 + 4 * p) (by omega) (by omega)]
    exact g
  · intro x hx
    rw [e1, nv_nI (by omega)] at hx
    by_cases e : x = n
    · subst e
      unfold WFc
      rw [v0, v1, v2, v3]
      have q1 := le_lits (a := 0) (b := 999) (by decide) ht.1.2.1 ht.1.2.2 (by decide)
      have q2 := le_lits (a := 0) (b := 99) (by decide) ht.2.1.1 ht.2.1.2 (by decide)
      have q3 := le_lits (a := 1) (b := 40) (by decide) ht.2.2.1 ht.2.2.2 (by decide)
      exact ⟨ht.1.1, ⟨q1.1, q1.2.2⟩, ⟨q2.1, q2.2.2⟩, ⟨⟨q3.1, q3.2.2⟩, q3.2.1⟩⟩
    · have g := hw.pc (p := x) (by omega)
      unfold WFc at g ⊢
      rw [out (48 + 4 * x) (by omega) (by omega), out (49 + 4 * x) (by omega) (by omega), out (50 + 4 * x) (by omega) (by omega), out (51 + 4 * x) (by omega) (by omega)]
      exact g
  · intro r hr
    rw [out (3) (by omega) (by omega)] at hr
    have g := hw.ro hr
    have gm := g.2.2.2.1.2
    unfold WFr at g ⊢
    rw [out (80 + 9 * r) (by omega) (by omega), out (81 + 9 * r) (by omega) (by omega), out (82 + 9 * r) (by omega) (by omega), out (83 + 9 * r) (by omega) (by omega), out (1) (by omega) (by omega)]
    refine ⟨g.1, g.2.1, g.2.2.1, g.2.2.2.1, fun i hi => ?_⟩
    rw [out (84 + 9 * r + i) (by omega) (by omega)]; exact g.2.2.2.2 i hi
  · intro r i r' i' p g g'
    refine hw.un (on g) (on g')
  · intro k hk
    rw [out (4) (by omega) (by omega)] at hk
    rw [out (134 + k) (by omega) (by omega), out (3) (by omega) (by omega)]; exact hw.li hk
  · intro k k' hk hk' e
    rw [out (4) (by omega) (by omega)] at hk hk'
    rw [out (134 + k) (by omega) (by omega), out (134 + k') (by omega) (by omega)] at e; exact hw.lu hk hk' e
  · intro k hk
    rw [out (5) (by omega) (by omega)] at hk
    rw [out (140 + k) (by omega) (by omega)]; exact hw.ta hk
  · intro u hu
    have g := hw.tx hu
    rw [out (210 + 52 * u) (by omega) (by omega), show (fun k => M (211 + 52 * u + k)) = (fun k => N (211 + 52 * u + k)) from funext (fun k => out (211 + 52 * u + k) (by omega) (by omega))]
    exact g
set_option maxHeartbeats 1000000 in
theorem WF_addr {N M : Nat → Int32} (hw : WF N) {n : Nat} {k s x : Int32} (hn : nv (N 3) = n) (h10 : n < 6) (ht : ToldR k s x) (out : ∀ a, a ≠ 3 → (a < 80 + 9 * n ∨ 84 + 9 * n ≤ a) → M a = N a) (e1 : M 3 = nI (n + 1)) (v0 : M (80 + 9 * n) = k) (v1 : M (81 + 9 * n) = s) (v2 : M (82 + 9 * n) = x) (v3 : M (83 + 9 * n) = 0) : WF M := by
  have k1 := hw.n1.2
  have k2 := hw.n2.2
  have k3 := hw.n3.2
  have k4 := hw.n4.2
  have k5 := hw.n5.2
  have k6 := hw.n6.2
  have on : ∀ {r i p : Nat}, On M r i p → On N r i p := by
    intro r i p g
    have h3 : r < n + 1 := by have := g.1; rw [e1, nv_nI (by omega)] at this; exact this
    have hne : r ≠ n := by
      intro e
      have := g.2.1
      rw [e, v3] at this
      exact absurd this (Nat.not_lt_zero i)
    have h3' : r < nv (N 3) := by omega
    have gm := (hw.ro h3').2.2.2.1.2
    have hi : i < nv (N (83 + 9 * r)) := by rw [← out (83 + 9 * r) (by omega) (by omega)]; exact g.2.1
    exact ⟨h3', hi, by rw [← out (84 + 9 * r + i) (by omega) (by omega)]; exact g.2.2⟩
  refine ⟨⟨?_, ?_, ?_, ?_, ?_, ?_, ?_⟩, ?_, ?_, ?_, ?_, ?_, ?_, ?_, ?_⟩
  · rw [out (0) (by omega) (by omega)]; exact hw.n0
  · rw [out (1) (by omega) (by omega)]; exact hw.n1
  · rw [out (2) (by omega) (by omega)]; exact hw.n2
  · rw [e1]; exact okN_of (by omega) (by decide)
  · rw [out (4) (by omega) (by omega)]; exact hw.n4
  · rw [out (5) (by omega) (by omega)]; exact hw.n5
  · rw [out (6) (by omega) (by omega)]; exact hw.n6
  · intro p hp
    rw [out (1) (by omega) (by omega)] at hp
    have g := hw.pe hp
    unfold WFp at g ⊢
    rw [out (8 + 4 * p) (by omega) (by omega), out (9 + 4 * p) (by omega) (by omega), out (10 + 4 * p) (by omega) (by omega), out (11 + 4 * p) (by omega) (by omega)]
    exact g
  · intro p hp
    rw [out (2) (by omega) (by omega)] at hp
    have g := hw.pc hp
    unfold WFc at g ⊢
    rw [out (48 + 4 * p) (by omega) (by omega), out (49 + 4 * p) (by omega) (by omega), out (50 + 4 * p) (by omega) (by omega), out (51 + 4 * p) (by omega) (by omega)]
    exact g
  · intro r hr
    rw [e1, nv_nI (by omega)] at hr
    by_cases e : r = n
    · subst e
      unfold WFr
      rw [v0, v1, v2, v3]
      have q0 := le_lits (a := 0) (b := 6) (by decide) ht.1.1 ht.1.2 (by decide)
      have q1 := le_lits (a := 1) (b := 20) (by decide) ht.2.1.1 ht.2.1.2 (by decide)
      have q2 := le_lits (a := 0) (b := 9) (by decide) ht.2.2.1 ht.2.2.2 (by decide)
      exact ⟨⟨q0.1, q0.2.2⟩, ⟨⟨q1.1, q1.2.2⟩, q1.2.1⟩, ⟨q2.1, q2.2.2⟩, okN_of (n := 0) (by decide) (by decide), fun i hi => absurd hi (Nat.not_lt_zero i)⟩
    · have hr2 : r < nv (N 3) := by omega
      have g := hw.ro hr2
      have gm := g.2.2.2.1.2
      unfold WFr at g ⊢
      rw [out (80 + 9 * r) (by omega) (by omega), out (81 + 9 * r) (by omega) (by omega), out (82 + 9 * r) (by omega) (by omega), out (83 + 9 * r) (by omega) (by omega), out 1 (by omega) (by omega)]
      refine ⟨g.1, g.2.1, g.2.2.1, g.2.2.2.1, fun i hi => ?_⟩
      rw [out (84 + 9 * r + i) (by omega) (by omega)]; exact g.2.2.2.2 i hi
  · intro r i r' i' p g g'
    refine hw.un (on g) (on g')
  · intro k hk
    rw [out 4 (by omega) (by omega)] at hk
    have z := hw.li hk
    rw [out (134 + k) (by omega) (by omega), e1, nv_nI (by omega)]; exact ⟨z.1, by omega⟩
  · intro k k' hk hk' e
    rw [out (4) (by omega) (by omega)] at hk hk'
    rw [out (134 + k) (by omega) (by omega), out (134 + k') (by omega) (by omega)] at e; exact hw.lu hk hk' e
  · intro k hk
    rw [out (5) (by omega) (by omega)] at hk
    rw [out (140 + k) (by omega) (by omega)]; exact hw.ta hk
  · intro u hu
    have g := hw.tx hu
    rw [out (210 + 52 * u) (by omega) (by omega), show (fun k => M (211 + 52 * u + k)) = (fun k => N (211 + 52 * u + k)) from funext (fun k => out (211 + 52 * u + k) (by omega) (by omega))]
    exact g
set_option maxHeartbeats 1000000 in
theorem repD_addp {μ ν : Mu} {D : Nat} {N M : Nat → Int32} {m0 : Nat} (hw : WF N) (h : repD μ D N) (hn : nv (N 1) = m0) (h10 : m0 < 10) (hν : ∀ a, a ≠ D + 1 → a ≠ D + 2 → ν a = μ a) (hN : ∀ a, a ≠ 1 → (a < 8 + 4 * m0 ∨ 12 + 4 * m0 ≤ a) → M a = N a) (e1 : M 1 = nI (m0 + 1)) (s1 : ν (D + 1) 3 = nI (m0 + 1)) (c0 : ∀ i, i < 4 * m0 → ν (D + 2) i = μ (D + 2) i) (w1 : ∀ c, c < 4 → ν (D + 2) (4 * m0 + c) = M (8 + 4 * m0 + c)) : repD ν D M := by
  have k1 := hw.n1.2
  have k2 := hw.n2.2
  have k3 := hw.n3.2
  have k4 := hw.n4.2
  have k5 := hw.n5.2
  have k6 := hw.n6.2
  have k7 := (tx0 hw).2
  have k8 := (tx1 hw).2
  obtain ⟨⟨a1, a2⟩, ⟨b1, b2⟩, ⟨c1, c2⟩, ⟨d1, d2⟩, l, t, w, r, n, x, y⟩ := h
  refine ⟨⟨?_, ?_⟩, ⟨?_, ?_⟩, ⟨?_, ?_⟩, ⟨?_, ?_⟩, ?_, ?_, ?_, ?_, ?_, ?_, ?_⟩
  · rw [hν (D) (by omega) (by omega), hN (0) (by omega) (by omega)]; exact a1
  · rw [hν (D) (by omega) (by omega), hN (7) (by omega) (by omega)]; exact a2
  · rw [s1, e1]
  · intro p c hp hc
    rw [e1, nv_nI (by omega)] at hp
    by_cases e : p = m0
    · subst e; exact w1 c hc
    · rw [c0 _ (by omega), hN (8 + 4 * p + c) (by omega) (by omega)]; exact b2 p c (by omega) hc
  · rw [hν (D + 3) (by omega) (by omega), hN (2) (by omega) (by omega)]; exact c1
  · intro p c hp hc
    rw [hN (2) (by omega) (by omega)] at hp
    rw [hν (D + 4) (by omega) (by omega), hN (48 + 4 * p + c) (by omega) (by omega)]; exact c2 p c hp hc
  · rw [hν (D + 5) (by omega) (by omega), hN (3) (by omega) (by omega)]; exact d1
  · intro p c hp hc
    rw [hN (3) (by omega) (by omega)] at hp
    rw [hν (D + 6) (by omega) (by omega), hN (80 + 9 * p + c) (by omega) (by omega)]; exact d2 p c hp hc
  · refine ⟨by rw [hν (D + 7) (by omega) (by omega), hN (4) (by omega) (by omega)]; exact l.1, fun i hi => ?_⟩
    rw [hN (4) (by omega) (by omega)] at hi
    dsimp only
    rw [show D + 7 + 1 = D + 8 from rfl, hν (D + 8) (by omega) (by omega), hN (134 + i) (by omega) (by omega)]; exact l.2 i hi
  · refine ⟨by rw [hν (D + 9) (by omega) (by omega), hN (5) (by omega) (by omega)]; exact t.1, fun i hi => ?_⟩
    rw [hN (5) (by omega) (by omega)] at hi
    dsimp only
    rw [show D + 9 + 1 = D + 10 from rfl, hν (D + 10) (by omega) (by omega), hN (140 + i) (by omega) (by omega)]; exact t.2 i hi
  · refine ⟨by rw [hν (D + 11) (by omega) (by omega), hN (6) (by omega) (by omega)]; exact w.1, fun i hi => ?_⟩
    rw [hN (6) (by omega) (by omega)] at hi
    dsimp only
    rw [show D + 11 + 1 = D + 12 from rfl, hν (D + 12) (by omega) (by omega), hN (190 + i) (by omega) (by omega)]; exact w.2 i hi
  · intro q hq
    have z := r q hq
    rw [hN (3) (by omega) (by omega)]
    refine ⟨?_, fun i hi => ?_⟩
    · rw [hν (D + 20 + 2 * q) (by omega) (by omega), z.1]
      by_cases cq : q < nv (N 3)
      · rw [if_pos cq, if_pos cq, hN (83 + 9 * q) (by omega) (by omega)]
      · rw [if_neg cq, if_neg cq]
    · by_cases cq : q < nv (N 3)
      · have k5q := (hw.ro cq).2.2.2.1.2
        rw [if_pos cq, hN (83 + 9 * q) (by omega) (by omega)] at hi
        rw [if_pos cq] at z
        dsimp only
        rw [hν (D + 20 + 2 * q + 1) (by omega) (by omega), hN (84 + 9 * q + i) (by omega) (by omega)]; exact z.2 i hi
      · rw [if_neg cq] at hi; exact absurd hi (Nat.not_lt_zero i)
  · rw [hν (D + 14) (by omega) (by omega)]; exact n
  · refine ⟨by rw [hν (D + 16) (by omega) (by omega), hN (210) (by omega) (by omega)]; exact x.1, fun i hi => ?_⟩
    rw [hN (210) (by omega) (by omega)] at hi
    dsimp only
    rw [show D + 16 + 1 = D + 17 from rfl, hν (D + 17) (by omega) (by omega), hN (211 + i) (by omega) (by omega)]; exact x.2 i hi
  · refine ⟨by rw [hν (D + 18) (by omega) (by omega), hN (262) (by omega) (by omega)]; exact y.1, fun i hi => ?_⟩
    rw [hN (262) (by omega) (by omega)] at hi
    dsimp only
    rw [show D + 18 + 1 = D + 19 from rfl, hν (D + 19) (by omega) (by omega), hN (263 + i) (by omega) (by omega)]; exact y.2 i hi
set_option maxHeartbeats 1000000 in
theorem repD_addc {μ ν : Mu} {D : Nat} {N M : Nat → Int32} {m0 : Nat} (hw : WF N) (h : repD μ D N) (hn : nv (N 2) = m0) (h10 : m0 < 8) (hν : ∀ a, a ≠ D + 3 → a ≠ D + 4 → ν a = μ a) (hN : ∀ a, a ≠ 2 → (a < 48 + 4 * m0 ∨ 52 + 4 * m0 ≤ a) → M a = N a) (e1 : M 2 = nI (m0 + 1)) (s1 : ν (D + 3) 3 = nI (m0 + 1)) (k0 : ∀ i, i < 4 * m0 → ν (D + 4) i = μ (D + 4) i) (q1 : ∀ c, c < 4 → ν (D + 4) (4 * m0 + c) = M (48 + 4 * m0 + c)) : repD ν D M := by
  have k1 := hw.n1.2
  have k2 := hw.n2.2
  have k3 := hw.n3.2
  have k4 := hw.n4.2
  have k5 := hw.n5.2
  have k6 := hw.n6.2
  have k7 := (tx0 hw).2
  have k8 := (tx1 hw).2
  obtain ⟨⟨a1, a2⟩, ⟨b1, b2⟩, ⟨c1, c2⟩, ⟨d1, d2⟩, l, t, w, r, n, x, y⟩ := h
  refine ⟨⟨?_, ?_⟩, ⟨?_, ?_⟩, ⟨?_, ?_⟩, ⟨?_, ?_⟩, ?_, ?_, ?_, ?_, ?_, ?_, ?_⟩
  · rw [hν (D) (by omega) (by omega), hN (0) (by omega) (by omega)]; exact a1
  · rw [hν (D) (by omega) (by omega), hN (7) (by omega) (by omega)]; exact a2
  · rw [hν (D + 1) (by omega) (by omega), hN (1) (by omega) (by omega)]; exact b1
  · intro p c hp hc
    rw [hN (1) (by omega) (by omega)] at hp
    rw [hν (D + 2) (by omega) (by omega), hN (8 + 4 * p + c) (by omega) (by omega)]; exact b2 p c hp hc
  · rw [s1, e1]
  · intro p c hp hc
    rw [e1, nv_nI (by omega)] at hp
    by_cases e : p = m0
    · subst e; exact q1 c hc
    · rw [k0 _ (by omega), hN (48 + 4 * p + c) (by omega) (by omega)]; exact c2 p c (by omega) hc
  · rw [hν (D + 5) (by omega) (by omega), hN (3) (by omega) (by omega)]; exact d1
  · intro p c hp hc
    rw [hN (3) (by omega) (by omega)] at hp
    rw [hν (D + 6) (by omega) (by omega), hN (80 + 9 * p + c) (by omega) (by omega)]; exact d2 p c hp hc
  · refine ⟨by rw [hν (D + 7) (by omega) (by omega), hN (4) (by omega) (by omega)]; exact l.1, fun i hi => ?_⟩
    rw [hN (4) (by omega) (by omega)] at hi
    dsimp only
    rw [show D + 7 + 1 = D + 8 from rfl, hν (D + 8) (by omega) (by omega), hN (134 + i) (by omega) (by omega)]; exact l.2 i hi
  · refine ⟨by rw [hν (D + 9) (by omega) (by omega), hN (5) (by omega) (by omega)]; exact t.1, fun i hi => ?_⟩
    rw [hN (5) (by omega) (by omega)] at hi
    dsimp only
    rw [show D + 9 + 1 = D + 10 from rfl, hν (D + 10) (by omega) (by omega), hN (140 + i) (by omega) (by omega)]; exact t.2 i hi
  · refine ⟨by rw [hν (D + 11) (by omega) (by omega), hN (6) (by omega) (by omega)]; exact w.1, fun i hi => ?_⟩
    rw [hN (6) (by omega) (by omega)] at hi
    dsimp only
    rw [show D + 11 + 1 = D + 12 from rfl, hν (D + 12) (by omega) (by omega), hN (190 + i) (by omega) (by omega)]; exact w.2 i hi
  · intro q hq
    have z := r q hq
    rw [hN (3) (by omega) (by omega)]
    refine ⟨?_, fun i hi => ?_⟩
    · rw [hν (D + 20 + 2 * q) (by omega) (by omega), z.1]
      by_cases cq : q < nv (N 3)
      · rw [if_pos cq, if_pos cq, hN (83 + 9 * q) (by omega) (by omega)]
      · rw [if_neg cq, if_neg cq]
    · by_cases cq : q < nv (N 3)
      · have k5q := (hw.ro cq).2.2.2.1.2
        rw [if_pos cq, hN (83 + 9 * q) (by omega) (by omega)] at hi
        rw [if_pos cq] at z
        dsimp only
        rw [hν (D + 20 + 2 * q + 1) (by omega) (by omega), hN (84 + 9 * q + i) (by omega) (by omega)]; exact z.2 i hi
      · rw [if_neg cq] at hi; exact absurd hi (Nat.not_lt_zero i)
  · rw [hν (D + 14) (by omega) (by omega)]; exact n
  · refine ⟨by rw [hν (D + 16) (by omega) (by omega), hN (210) (by omega) (by omega)]; exact x.1, fun i hi => ?_⟩
    rw [hN (210) (by omega) (by omega)] at hi
    dsimp only
    rw [show D + 16 + 1 = D + 17 from rfl, hν (D + 17) (by omega) (by omega), hN (211 + i) (by omega) (by omega)]; exact x.2 i hi
  · refine ⟨by rw [hν (D + 18) (by omega) (by omega), hN (262) (by omega) (by omega)]; exact y.1, fun i hi => ?_⟩
    rw [hN (262) (by omega) (by omega)] at hi
    dsimp only
    rw [show D + 18 + 1 = D + 19 from rfl, hν (D + 19) (by omega) (by omega), hN (263 + i) (by omega) (by omega)]; exact y.2 i hi
set_option maxHeartbeats 1000000 in
theorem repD_addr {μ ν : Mu} {D : Nat} {N M : Nat → Int32} {m0 : Nat} (hw : WF N) (h : repD μ D N) (hn : nv (N 3) = m0) (h10 : m0 < 6) (hν : ∀ a, a ≠ D + 5 → a ≠ D + 6 → ν a = μ a) (hN : ∀ a, a ≠ 3 → (a < 80 + 9 * m0 ∨ 84 + 9 * m0 ≤ a) → M a = N a) (e1 : M 3 = nI (m0 + 1)) (e83 : M (83 + 9 * m0) = 0) (s1 : ν (D + 5) 3 = nI (m0 + 1)) (k0 : ∀ i, i < 4 * m0 → ν (D + 6) i = μ (D + 6) i) (q1 : ∀ c, c < 3 → ν (D + 6) (4 * m0 + c) = M (80 + 9 * m0 + c)) : repD ν D M := by
  have k1 := hw.n1.2
  have k2 := hw.n2.2
  have k3 := hw.n3.2
  have k4 := hw.n4.2
  have k5 := hw.n5.2
  have k6 := hw.n6.2
  have k7 := (tx0 hw).2
  have k8 := (tx1 hw).2
  obtain ⟨⟨a1, a2⟩, ⟨b1, b2⟩, ⟨c1, c2⟩, ⟨d1, d2⟩, l, t, w, r, n, x, y⟩ := h
  refine ⟨⟨?_, ?_⟩, ⟨?_, ?_⟩, ⟨?_, ?_⟩, ⟨?_, ?_⟩, ?_, ?_, ?_, ?_, ?_, ?_, ?_⟩
  · rw [hν (D) (by omega) (by omega), hN (0) (by omega) (by omega)]; exact a1
  · rw [hν (D) (by omega) (by omega), hN (7) (by omega) (by omega)]; exact a2
  · rw [hν (D + 1) (by omega) (by omega), hN (1) (by omega) (by omega)]; exact b1
  · intro p c hp hc
    rw [hN (1) (by omega) (by omega)] at hp
    rw [hν (D + 2) (by omega) (by omega), hN (8 + 4 * p + c) (by omega) (by omega)]; exact b2 p c hp hc
  · rw [hν (D + 3) (by omega) (by omega), hN (2) (by omega) (by omega)]; exact c1
  · intro p c hp hc
    rw [hN (2) (by omega) (by omega)] at hp
    rw [hν (D + 4) (by omega) (by omega), hN (48 + 4 * p + c) (by omega) (by omega)]; exact c2 p c hp hc
  · rw [s1, e1]
  · intro p c hp hc
    rw [e1, nv_nI (by omega)] at hp
    by_cases e : p = m0
    · subst e; exact q1 c hc
    · rw [k0 _ (by omega), hN (80 + 9 * p + c) (by omega) (by omega)]; exact d2 p c (by omega) hc
  · refine ⟨by rw [hν (D + 7) (by omega) (by omega), hN (4) (by omega) (by omega)]; exact l.1, fun i hi => ?_⟩
    rw [hN (4) (by omega) (by omega)] at hi
    dsimp only
    rw [show D + 7 + 1 = D + 8 from rfl, hν (D + 8) (by omega) (by omega), hN (134 + i) (by omega) (by omega)]; exact l.2 i hi
  · refine ⟨by rw [hν (D + 9) (by omega) (by omega), hN (5) (by omega) (by omega)]; exact t.1, fun i hi => ?_⟩
    rw [hN (5) (by omega) (by omega)] at hi
    dsimp only
    rw [show D + 9 + 1 = D + 10 from rfl, hν (D + 10) (by omega) (by omega), hN (140 + i) (by omega) (by omega)]; exact t.2 i hi
  · refine ⟨by rw [hν (D + 11) (by omega) (by omega), hN (6) (by omega) (by omega)]; exact w.1, fun i hi => ?_⟩
    rw [hN (6) (by omega) (by omega)] at hi
    dsimp only
    rw [show D + 11 + 1 = D + 12 from rfl, hν (D + 12) (by omega) (by omega), hN (190 + i) (by omega) (by omega)]; exact w.2 i hi
  · intro q hq
    have z := r q hq
    rw [e1, nv_nI (by omega)]
    refine ⟨?_, fun i hi => ?_⟩
    · rw [hν (D + 20 + 2 * q) (by omega) (by omega), z.1]
      by_cases cq : q < nv (N 3)
      · rw [if_pos cq, if_pos (by omega), hN (83 + 9 * q) (by omega) (by omega)]
      · rw [if_neg cq]
        by_cases c2 : q < m0 + 1
        · rw [if_pos c2, show q = m0 by omega]; exact e83.symm
        · rw [if_neg c2]
    · by_cases cq : q < nv (N 3)
      · have k5q := (hw.ro cq).2.2.2.1.2
        rw [if_pos (by omega), hN (83 + 9 * q) (by omega) (by omega)] at hi
        rw [if_pos cq] at z
        dsimp only
        rw [hν (D + 20 + 2 * q + 1) (by omega) (by omega), hN (84 + 9 * q + i) (by omega) (by omega)]; exact z.2 i hi
      · by_cases c2 : q < m0 + 1
        · rw [if_pos c2, show q = m0 by omega, e83] at hi; exact absurd hi (Nat.not_lt_zero i)
        · rw [if_neg c2] at hi; exact absurd hi (Nat.not_lt_zero i)
  · rw [hν (D + 14) (by omega) (by omega)]; exact n
  · refine ⟨by rw [hν (D + 16) (by omega) (by omega), hN (210) (by omega) (by omega)]; exact x.1, fun i hi => ?_⟩
    rw [hN (210) (by omega) (by omega)] at hi
    dsimp only
    rw [show D + 16 + 1 = D + 17 from rfl, hν (D + 17) (by omega) (by omega), hN (211 + i) (by omega) (by omega)]; exact x.2 i hi
  · refine ⟨by rw [hν (D + 18) (by omega) (by omega), hN (262) (by omega) (by omega)]; exact y.1, fun i hi => ?_⟩
    rw [hN (262) (by omega) (by omega)] at hi
    dsimp only
    rw [show D + 18 + 1 = D + 19 from rfl, hν (D + 19) (by omega) (by omega), hN (263 + i) (by omega) (by omega)]; exact y.2 i hi
