theorem n10_person {G : Gl} {d : Nat} {S : Sh} {μ : Mu} {o : Nat} {q : Nat → Nat} {w s p g : Int32} {n : Nat} {K : Int32 → Sh → Mu → Prop} {N : Nat → Int32} (hM : MS S o q) (hN : μ (o + 1) = N) (hn : N 1 = nI n) (hb : n ≤ 10) (k1 : ¬ Told w s p g → K (-1000000001) S (er μ o 1)) (k2 : Told w s p g → n = 10 → K (-1000000004) S (er μ o 4)) (k3 : Told w s p g → n < 10 → K (nI n) S (Mx μ (o + 1) (addN (N) 8 n w s p g 1))) : X G mi_X10_person (d + 2) 0 0 [(0, .ref o), (1, .int w), (2, .int s), (3, .int p), (4, .int g)] [] S μ (qi K) := by
  subst hN
  exact c10_person hM hn hb k1 k2 k3
theorem n10_ofPerson {G : Gl} {d : Nat} {S : Sh} {μ : Mu} {o : Nat} {q : Nat → Nat} {p w : Int32} {K : Int32 → Sh → Mu → Prop} {N : Nat → Int32} (hM : MS S o q) (hN : μ (o + 1) = N) (hw : WF (N)) (k1 : ¬ (In p (nv (N 1)) ∧ (0 ≤ w ∧ w ≤ 5)) → K (-1000000001) S (er μ o 1)) (k2 : ∀ a f, a < nv (N 1) → f < 4 → p = nI a → w = nI f → K (N (8 + 4 * a + f)) S μ) (k3 : ∀ a r i, a < nv (N 1) → p = nI a → w = nI 4 → On (N) r i a → K (nI r) S μ) (k4 : ∀ a, a < nv (N 1) → p = nI a → w = nI 4 → (∀ r i, ¬ On (N) r i a) → K (-1) S μ) (k5 : ∀ a r i, a < nv (N 1) → p = nI a → w = nI 5 → On (N) r i a → K (nI i) S μ) (k6 : ∀ a, a < nv (N 1) → p = nI a → w = nI 5 → (∀ r i, ¬ On (N) r i a) → K (-1) S μ) : X G mi_X10_ofPerson (d + 4) 0 0 [(0, .ref o), (1, .int p), (2, .int w)] [] S μ (qi K) := by
  subst hN
  exact c10_ofPerson hM hw k1 k2 k3 k4 k5 k6
theorem n10_people {G : Gl} {d : Nat} {S : Sh} {μ : Mu} {o : Nat} {q : Nat → Nat} {s : Int32} {K : Int32 → Sh → Mu → Prop} {N : Nat → Int32} (hM : MS S o q) (hN : μ (o + 1) = N) (hw : WF (N)) (hz : ∀ j, j < 4 → okN (μ (o + 15) j) 40) (k1 : ¬ In s 4 → K (-1000000001) S (er μ o 1)) (k2 : ∀ a, a < 4 → s = nI a → μ (o + 14) a = 0 → K (-1000000002) S (er μ o 2)) (k3 : ∀ a, a < 4 → s = nI a → ¬ μ (o + 14) a = 0 → K (nI (ppl (μ (o + 16)) (nv (μ (o + 15) a)) (40 * a) 11 0 (N)).1) S (Mx μ (o + 1) (ppl (μ (o + 16)) (nv (μ (o + 15) a)) (40 * a) 11 0 (N)).2)) : X G mi_X10_people (d + 2) 0 0 [(0, .ref o), (1, .int s)] [] S μ (qi K) := by
  subst hN
  exact c10_people hM hw hz k1 k2 k3
theorem n10_piece {G : Gl} {d : Nat} {S : Sh} {μ : Mu} {o : Nat} {q : Nat → Nat} {w s p g : Int32} {n : Nat} {K : Int32 → Sh → Mu → Prop} {N : Nat → Int32} (hM : MS S o q) (hN : μ (o + 1) = N) (hn : N 2 = nI n) (hb : n ≤ 8) (k1 : ¬ ToldC w s p g → K (-1000000001) S (er μ o 1)) (k2 : ToldC w s p g → n = 8 → K (-1000000004) S (er μ o 4)) (k3 : ToldC w s p g → n < 8 → K (nI n) S (Mx μ (o + 1) (addN (N) 48 n w s p g 2))) : X G mi_X10_piece (d + 1) 0 0 [(0, .ref o), (1, .int w), (2, .int s), (3, .int p), (4, .int g)] [] S μ (qi K) := by
  subst hN
  exact c10_piece hM hn hb k1 k2 k3
theorem n10_ofPiece {G : Gl} {d : Nat} {S : Sh} {μ : Mu} {o : Nat} {q : Nat → Nat} {p w : Int32} {n : Nat} {K : Int32 → Sh → Mu → Prop} {N : Nat → Int32} (hM : MS S o q) (hN : μ (o + 1) = N) (hn : N 2 = nI n) (hb : n ≤ 8) (k1 : ¬ (In p n ∧ (0 ≤ w ∧ w ≤ 3)) → K (-1000000001) S (er μ o 1)) (k2 : ∀ j f, j < n → f < 4 → p = nI j → w = nI f → K (N (48 + 4 * j + f)) S μ) : X G mi_X10_ofPiece (d + 2) 0 0 [(0, .ref o), (1, .int p), (2, .int w)] [] S μ (qi K) := by
  subst hN
  exact c10_ofPiece hM hn hb k1 k2
theorem n10_start {G : Gl} {d : Nat} {S : Sh} {μ : Mu} {o : Nat} {q : Nat → Nat} {m : Int32} {K : Int32 → Sh → Mu → Prop} {N : Nat → Int32} (hM : MS S o q) (hN : μ (o + 1) = N) (k1 : ¬ (0 ≤ m ∧ m ≤ 1439) → K (-1000000001) S (er μ o 1)) (k2 : 0 ≤ m → m ≤ 1439 → K (N 0) S (su μ (o + 1) 0 m)) : X G mi_X10_start (d + 1) 0 0 [(0, .ref o), (1, .int m)] [] S μ (qi K) := by
  subst hN
  exact c10_start hM k1 k2
theorem n10_ropeP {G : Gl} {d : Nat} {S : Sh} {μ : Mu} {o : Nat} {q : Nat → Nat} {k s t : Int32} {n : Nat} {K : Int32 → Sh → Mu → Prop} {N : Nat → Int32} (hM : MS S o q) (hN : μ (o + 1) = N) (hn : N 3 = nI n) (hb : n ≤ 6) (k1 : ¬ ToldR k s t → K (-1000000001) S (er μ o 1)) (k2 : ToldR k s t → n = 6 → K (-1000000004) S (er μ o 4)) (k3 : ToldR k s t → n < 6 → K (nI n) S (Mx μ (o + 1) (addR (N) n k s t))) : X G mi_X10_rope_ (d + 2) 0 0 [(0, .ref o), (1, .int k), (2, .int s), (3, .int t)] [] S μ (qi K) := by
  subst hN
  exact c10_ropeP hM hn hb k1 k2 k3
theorem n10_tie {G : Gl} {d : Nat} {S : Sh} {μ : Mu} {o : Nat} {q : Nat → Nat} {r p : Int32} {K : Int32 → Sh → Mu → Prop} {N : Nat → Int32} (hM : MS S o q) (hN : μ (o + 1) = N) (hw : WF (N)) (k1 : ¬ (In r (nv (N 3)) ∧ In p (nv (N 1))) → K (-1000000001) S (er μ o 1)) (k2 : ∀ a b, a < nv (N 3) → b < nv (N 1) → r = nI a → p = nI b → (∃ r i, On (N) r i b) → K (-1000000003) S (er μ o 3)) (k3 : ∀ a b, a < nv (N 3) → b < nv (N 1) → r = nI a → p = nI b → (∀ r i, ¬ On (N) r i b) → nv (N (83 + 9 * a)) = 5 → K (-1000000004) S (er μ o 4)) (k4 : ∀ a b, a < nv (N 3) → b < nv (N 1) → r = nI a → p = nI b → (∀ r i, ¬ On (N) r i b) → nv (N (83 + 9 * a)) < 5 → K (nI (nv (N (83 + 9 * a)))) S (Mx μ (o + 1) (insN (N) a (nv (N (83 + 9 * a))) (nv (N (83 + 9 * a))) p))) : X G mi_X10_tie (d + 3) 0 0 [(0, .ref o), (1, .int r), (2, .int p)] [] S μ (qi K) := by
  subst hN
  exact c10_tie hM hw k1 k2 k3 k4
theorem n10_untie {G : Gl} {d : Nat} {S : Sh} {μ : Mu} {o : Nat} {q : Nat → Nat} {p : Int32} {K : Int32 → Sh → Mu → Prop} {N : Nat → Int32} (hM : MS S o q) (hN : μ (o + 1) = N) (hw : WF (N)) (k1 : ¬ In p (nv (N 1)) → K (-1000000001) S (er μ o 1)) (k2 : ∀ b, b < nv (N 1) → p = nI b → (∀ r i, ¬ On (N) r i b) → K (-1000000002) S (er μ o 2)) (k3 : ∀ b r i, b < nv (N 1) → p = nI b → On (N) r i b → K (nI r) S (Mx μ (o + 1) (delN (N) r (nv (N (83 + 9 * r))) i))) : X G mi_X10_untie (d + 5) 0 0 [(0, .ref o), (1, .int p)] [] S μ (qi K) := by
  subst hN
  exact c10_untie hM hw k1 k2 k3
theorem n10_ofRope {G : Gl} {d : Nat} {S : Sh} {μ : Mu} {o : Nat} {q : Nat → Nat} {r w : Int32} {K : Int32 → Sh → Mu → Prop} {N : Nat → Int32} (hM : MS S o q) (hN : μ (o + 1) = N) (hw : WF (N)) (k1 : ¬ (In r (nv (N 3)) ∧ (0 ≤ w ∧ w ≤ 9)) → K (-1000000001) S (er μ o 1)) (k2 : ∀ a f, a < nv (N 3) → f < 4 → r = nI a → w = nI f → K (N (80 + 9 * a + f)) S μ) (k3 : ∀ a k, a < nv (N 3) → k < nv (N 4) → r = nI a → w = nI 4 → N (134 + k) = nI a → K (nI k) S μ) (k4 : ∀ a, a < nv (N 3) → r = nI a → w = nI 4 → (∀ k, k < nv (N 4) → ¬ N (134 + k) = nI a) → K (-1) S μ) (k5 : ∀ a i, a < nv (N 3) → i < 5 → r = nI a → w = nI (5 + i) → i < nv (N (83 + 9 * a)) → K (N (84 + 9 * a + i)) S μ) (k6 : ∀ a i, a < nv (N 3) → i < 5 → r = nI a → w = nI (5 + i) → nv (N (83 + 9 * a)) ≤ i → K (-1) S μ) : X G mi_X10_ofRope (d + 2) 0 0 [(0, .ref o), (1, .int r), (2, .int w)] [] S μ (qi K) := by
  subst hN
  exact c10_ofRope hM hw k1 k2 k3 k4 k5 k6
theorem n10_as {G : Gl} {d : Nat} {S : Sh} {μ : Mu} {o : Nat} {q : Nat → Nat} {r a : Int32} {K : Int32 → Sh → Mu → Prop} {N : Nat → Int32} (hM : MS S o q) (hN : μ (o + 1) = N) (hw : WF (N)) (k1 : ¬ (In r (nv (N 3)) ∧ (0 ≤ a ∧ a ≤ 6)) → K (-1000000001) S (er μ o 1)) (k2 : ∀ j x, j < nv (N 3) → x < 7 → r = nI j → a = nI x → und (nv (N (80 + 9 * j))) x = false → K (-1000000005) S (er μ o 5)) (k3 : ∀ j x, j < nv (N 3) → x < 7 → r = nI j → a = nI x → und (nv (N (80 + 9 * j))) x = true → K (N (82 + 9 * j)) S μ) : X G mi_X10_as (d + 2) 0 0 [(0, .ref o), (1, .int r), (2, .int a)] [] S μ (qi K) := by
  subst hN
  exact c10_as hM hw k1 k2 k3
theorem n10_set {G : Gl} {d : Nat} {S : Sh} {μ : Mu} {o : Nat} {q : Nat → Nat} {r w v : Int32} {n : Nat} {K : Int32 → Sh → Mu → Prop} {N : Nat → Int32} (hM : MS S o q) (hN : μ (o + 1) = N) (hn : N 3 = nI n) (hb : n ≤ 6) (k1 : ¬ (In r n ∧ (0 ≤ w ∧ w ≤ 1) ∧ (if w = 0 then 1 ≤ v ∧ v ≤ 20 else 0 ≤ v ∧ v ≤ 9)) → K (-1000000001) S (er μ o 1)) (k2 : ∀ j f, j < n → f < 2 → r = nI j → w = nI f → (if w = 0 then 1 ≤ v ∧ v ≤ 20 else 0 ≤ v ∧ v ≤ 9) → K (N (81 + 9 * j + f)) S (su μ (o + 1) (81 + 9 * j + f) v)) : X G mi_X10_set (d + 2) 0 0 [(0, .ref o), (1, .int r), (2, .int w), (3, .int v)] [] S μ (qi K) := by
  subst hN
  exact c10_set hM hn hb k1 k2
theorem n10_swap {G : Gl} {d : Nat} {S : Sh} {μ : Mu} {o : Nat} {q : Nat → Nat} {a b : Int32} {K : Int32 → Sh → Mu → Prop} {N : Nat → Int32} (hM : MS S o q) (hN : μ (o + 1) = N) (hw : WF (N)) (k1 : ¬ (In a (nv (N 1)) ∧ In b (nv (N 1)) ∧ ¬ a = b) → K (-1000000001) S (er μ o 1)) (k2 : ∀ x y, x < nv (N 1) → y < nv (N 1) → a = nI x → b = nI y → ¬ x = y → ((∀ r i, ¬ On (N) r i x) ∨ (∀ r i, ¬ On (N) r i y)) → K (-1000000002) S (er μ o 2)) (k3 : ∀ x y r i r' i', x < nv (N 1) → y < nv (N 1) → a = nI x → b = nI y → ¬ x = y → On (N) r i x → On (N) r' i' y → K 1 S (Mx μ (o + 1) (upd (upd (N) (84 + 9 * r + i) b) (84 + 9 * r' + i') a))) : X G mi_X10_swap (d + 4) 0 0 [(0, .ref o), (1, .int a), (2, .int b)] [] S μ (qi K) := by
  subst hN
  exact c10_swap hM hw k1 k2 k3
theorem n10_hold {G : Gl} {d : Nat} {S : Sh} {μ : Mu} {o : Nat} {q : Nat → Nat} {p : Int32} {K : Int32 → Sh → Mu → Prop} {N : Nat → Int32} (hM : MS S o q) (hN : μ (o + 1) = N) (hw : WF (N)) (hl0 : μ o 5 = 0) (k1 : ¬ In p (nv (N 1)) → K (-1000000001) S (er μ o 1)) (k2 : ∀ b, b < nv (N 1) → p = nI b → (∀ r i, ¬ On (N) r i b) → K (-1000000002) S (er μ o 2)) (k3 : ∀ b r i, b < nv (N 1) → p = nI b → On (N) r i b → K (hs (N) 0 r i (nv (N (83 + 9 * r)))) S μ) : X G mi_X10_hold (d + 5) 0 0 [(0, .ref o), (1, .int p)] [] S μ (qi K) := by
  subst hN
  exact c10_hold hM hw hl0 k1 k2 k3
theorem n10_held {G : Gl} {d : Nat} {S : Sh} {μ : Mu} {o : Nat} {q : Nat → Nat} {p c : Int32} {K : Int32 → Sh → Mu → Prop} {N : Nat → Int32} (hM : MS S o q) (hN : μ (o + 1) = N) (hw : WF (N)) (hl0 : μ o 5 = 0) (k1 : ¬ (In p (nv (N 1)) ∧ In c (nv (N 2))) → K (-1000000001) S (er μ o 1)) (k2 : ∀ b x, b < nv (N 1) → x < nv (N 2) → p = nI b → c = nI x → (∀ r i, ¬ On (N) r i b) → K (-1000000002) S (er μ o 2)) (k3 : ∀ b x r i, b < nv (N 1) → x < nv (N 2) → p = nI b → c = nI x → On (N) r i b → pull (N) (nv (N (84 + 9 * r + i))) x ≤ hs (N) 0 r i (nv (N (83 + 9 * r))) → K 1 S μ) (k4 : ∀ b x r i, b < nv (N 1) → x < nv (N 2) → p = nI b → c = nI x → On (N) r i b → ¬ pull (N) (nv (N (84 + 9 * r + i))) x ≤ hs (N) 0 r i (nv (N (83 + 9 * r))) → K 0 S μ) : X G mi_X10_held (d + 6) 0 0 [(0, .ref o), (1, .int p), (2, .int c)] [] S μ (qi K) := by
  subst hN
  exact c10_held hM hw hl0 k1 k2 k3 k4
theorem n10_cost {G : Gl} {d : Nat} {S : Sh} {μ : Mu} {o : Nat} {q : Nat → Nat} {p c : Int32} {K : Int32 → Sh → Mu → Prop} {N : Nat → Int32} (hM : MS S o q) (hN : μ (o + 1) = N) (hw : WF (N)) (hl0 : μ o 5 = 0) (k1 : ¬ (In p (nv (N 1)) ∧ In c (nv (N 2))) → K (-1000000001) S (er μ o 1)) (k2 : ∀ b x, b < nv (N 1) → x < nv (N 2) → p = nI b → c = nI x → (∀ r i, ¬ On (N) r i b) → K (-1000000002) S (er μ o 2)) (k3 : ∀ b x r i, b < nv (N 1) → x < nv (N 2) → p = nI b → c = nI x → On (N) r i b → K (nI (cst (N) 0 r i x)) S μ) : X G mi_X10_cost (d + 7) 0 0 [(0, .ref o), (1, .int p), (2, .int c)] [] S μ (qi K) := by
  subst hN
  exact c10_cost hM hw hl0 k1 k2 k3
theorem n10_haul {G : Gl} {d : Nat} {S : Sh} {μ : Mu} {o : Nat} {q : Nat → Nat} {p c : Int32} {K : Int32 → Sh → Mu → Prop} {N : Nat → Int32} (hM : MS S o q) (hN : μ (o + 1) = N) (hw : WF (N)) (k1 : ¬ (In p (nv (N 1)) ∧ In c (nv (N 2))) → K (-1000000001) S (er μ o 1)) (k2 : ∀ b x, b < nv (N 1) → x < nv (N 2) → p = nI b → c = nI x → (∀ r i, ¬ On (N) r i b) → K (-1000000002) S (er μ o 2)) (k3 : ∀ b x r i, b < nv (N 1) → x < nv (N 2) → p = nI b → c = nI x → On (N) r i b → ∀ h P, K (gv (N) 1 (N (8 + 4 * b)) (N (51 + 4 * x)) ((0 - N (9 + 4 * b)) + ssum (N) r (nv (N (83 + 9 * r)))) (N (83 + 9 * r) - 1) 0) S (Tst μ o (μ o 17) (μ (o + 9)) (μ (o + 10)) h P)) : X G mi_X10_haul (d + 3) 0 0 [(0, .ref o), (1, .int p), (2, .int c)] [] S μ (qi K) := by
  subst hN
  exact c10_haul hM hw k1 k2 k3
theorem n10_feed {G : Gl} {d : Nat} {S : Sh} {μ : Mu} {o : Nat} {q : Nat → Nat} {w : Int64} {n : Int32} {K : Int32 → Sh → Mu → Prop} {N : Nat → Int32} (hM : MS S o q) (hN : μ (o + 1) = N) (hw : WF (N)) (k1 : ¬ (1 ≤ n ∧ n ≤ 8) → K (-1000000001) S (er μ o 1)) (k2 : ∀ j, 1 ≤ j → j ≤ 8 → n = nI j → 50 < nv (N 5) + j → K (-1000000004) S (er μ o 4)) (k3 : ∀ j, 1 ≤ j → j ≤ 8 → n = nI j → nv (N 5) + j ≤ 50 → K (nI (nv (N 5) + j)) S (Mx μ (o + 1) (fdN (N) w j))) : X G mi_X10_feed (d + 1) 0 0 [(0, .ref o), (1, .long w), (3, .int n)] [] S μ (qi K) := by
  subst hN
  exact c10_feed hM hw k1 k2 k3
theorem n10_text {G : Gl} {d : Nat} {S : Sh} {μ : Mu} {o : Nat} {q : Nat → Nat} {fm : Nat} {x : Int32} {K : Int32 → Sh → Mu → Prop} {N : Nat → Int32} (hM : MS S o q) (hN : μ (o + 1) = N) (hw : WF (N)) (hF : Fmt G fm) (hT : Txt G S μ q) (k1 : ¬ (0 ≤ x ∧ x ≤ 1) → K (-1000000001) S (er μ o 1)) (k2 : ∀ u, u < 2 → x = nI u → ((rdr (N) u (μ (o + 6))).2.1 = true ∨ (rdr (N) u (μ (o + 6))).1 < nv (N 5)) → K (-10 - nI (rdr (N) u (μ (o + 6))).1) S (PM (su (su μ o 9 (nI u)) (o + 1) 5 0) o 0 (bad (rdr (N) u (μ (o + 6)))))) (k3 : ∀ u, u < 2 → x = nI u → (rdr (N) u (μ (o + 6))).2.1 = false → nv (N 5) ≤ (rdr (N) u (μ (o + 6))).1 → K 1 S (PM (Mx (su μ o 9 (nI u)) (o + 1) (txN (N) u (rdr (N) u (μ (o + 6))).2.2.1 (rdr (N) u (μ (o + 6))).2.2.1 (rdr (N) u (μ (o + 6))).2.2.2)) o 0 (rdr (N) u (μ (o + 6))))) : X G mi_X10_text (d + 44) 0 0 [(0, .ref o), (1, .int x)] [] S μ (qi K) := by
  subst hN
  exact c10_text hM hw hF hT k1 k2 k3
theorem n10_law {G : Gl} {d : Nat} {S : Sh} {μ : Mu} {o : Nat} {q : Nat → Nat} {x a b c e : Int32} {K : Int32 → Sh → Mu → Prop} {N : Nat → Int32} (hM : MS S o q) (hN : μ (o + 1) = N) (hw : WF (N)) (k1 : ¬ (0 ≤ x ∧ x ≤ 1) → K (-1000000001) S (er μ o 1)) (k2 : ∀ u h P, u < 2 → x = nI u → K (gv (N) u a b c e 0) S (Tst μ o (μ o 17) (μ (o + 9)) (μ (o + 10)) h P)) : X G mi_X10_law (d + 3) 0 0 [(0, .ref o), (1, .int x), (2, .int a), (3, .int b), (4, .int c), (5, .int e)] [] S μ (qi K) := by
  subst hN
  exact c10_law hM hw k1 k2
theorem n10_join {G : Gl} {d : Nat} {S : Sh} {μ : Mu} {o : Nat} {q : Nat → Nat} {r : Int32} {K : Int32 → Sh → Mu → Prop} {N : Nat → Int32} (hM : MS S o q) (hN : μ (o + 1) = N) (hw : WF (N)) (k1 : ¬ In r (nv (N 3)) → K (-1000000001) S (er μ o 1)) (k2 : ∀ a k, a < nv (N 3) → k < nv (N 4) → r = nI a → N (134 + k) = nI a → K (-1000000003) S (er μ o 3)) (k3 : ∀ a, a < nv (N 3) → r = nI a → (∀ k, k < nv (N 4) → ¬ N (134 + k) = nI a) → K (nI (nv (N 4))) S (Mx μ (o + 1) (upd (upd (N) (134 + nv (N 4)) r) 4 (nI (nv (N 4) + 1))))) : X G mi_X10_join (d + 2) 0 0 [(0, .ref o), (1, .int r)] [] S μ (qi K) := by
  subst hN
  exact c10_join hM hw k1 k2 k3
theorem n10_clear {G : Gl} {d : Nat} {S : Sh} {μ : Mu} {o : Nat} {q : Nat → Nat} {K : Int32 → Sh → Mu → Prop} {N : Nat → Int32} (hM : MS S o q) (hN : μ (o + 1) = N) (hK : K (N 4) S (su μ (o + 1) 4 0)) : X G mi_X10_clear (d + 1) 0 0 [(0, .ref o)] [] S μ (qi K) := by
  subst hN
  exact c10_clear hM hK
theorem n10_when {G : Gl} {d : Nat} {S : Sh} {μ : Mu} {o : Nat} {q : Nat → Nat} {r c w : Int32} {K : Int32 → Sh → Mu → Prop} {N : Nat → Int32} (hM : MS S o q) (hN : μ (o + 1) = N) (hw : WF (N)) (k1 : ¬ (In r (nv (N 3)) ∧ In c (nv (N 2)) ∧ (0 ≤ w ∧ w ≤ 1)) → K (-1000000001) S (er μ o 1)) (k2 : ∀ a b, a < nv (N 3) → b < nv (N 2) → r = nI a → c = nI b → (0 ≤ w ∧ w ≤ 1) → ((∀ k, k < nv (N 4) → ¬ N (134 + k) = nI a) ∨ mny (N) a = 0) → K (-1000000002) S (er μ o 2)) (k3 : ∀ a b k cm bf, a < nv (N 3) → b < nv (N 2) → r = nI a → c = nI b → w = nI 0 → k < nv (N 4) → lnA (N) k = a → 0 < mny (N) a → CrI (N) cm bf (nv (N 4)) → K (nI (arv (N) k b)) S (Tst μ o (nI (ovr (N) (nv (N 4)))) cm bf (μ (o + 7)) (μ (o + 8)))) (k4 : ∀ a b k cm bf, a < nv (N 3) → b < nv (N 2) → r = nI a → c = nI b → w = nI 1 → k < nv (N 4) → lnA (N) k = a → 0 < mny (N) a → CrI (N) cm bf (nv (N 4)) → K (nI (arv (N) k b + pac (N) a)) S (Tst μ o (nI (ovr (N) (nv (N 4)))) cm bf (μ (o + 7)) (μ (o + 8)))) : X G mi_X10_when (d + 4) 0 0 [(0, .ref o), (1, .int r), (2, .int c), (3, .int w)] [] S μ (qi K) := by
  subst hN
  exact c10_when hM hw k1 k2 k3 k4
theorem n10_risk {G : Gl} {d : Nat} {S : Sh} {μ : Mu} {o : Nat} {q : Nat → Nat} {p c : Int32} {K : Int32 → Sh → Mu → Prop} {N : Nat → Int32} (hM : MS S o q) (hN : μ (o + 1) = N) (hw : WF (N)) (k1 : ¬ (In p (nv (N 1)) ∧ In c (nv (N 2))) → K (-1000000001) S (er μ o 1)) (k2 : ∀ pn x, pn < nv (N 1) → x < nv (N 2) → p = nI pn → c = nI x → (∀ r i k, On (N) r i pn → k < nv (N 4) → N (134 + k) = nI r → False) → K (-1000000002) S (er μ o 2)) (k3 : ∀ b x r i k cm bf h P, b < nv (N 1) → x < nv (N 2) → p = nI b → c = nI x → On (N) r i b → k < nv (N 4) → lnA (N) k = r → CrI (N) cm bf (nv (N 4)) → K (nI (rkc (N) k i x)) S (Tst μ o (nI (ovr (N) (nv (N 4)))) cm bf h P)) : X G mi_X10_risk (d + 4) 0 0 [(0, .ref o), (1, .int p), (2, .int c)] [] S μ (qi K) := by
  subst hN
  exact c10_risk hM hw k1 k2 k3
theorem n10_over {G : Gl} {d : Nat} {S : Sh} {μ : Mu} {o : Nat} {q : Nat → Nat} {K : Int32 → Sh → Mu → Prop} {N : Nat → Int32} (hM : MS S o q) (hN : μ (o + 1) = N) (hw : WF (N)) (hK : ∀ cm bf, CrI (N) cm bf (nv (N 4)) → K (nI (ovr (N) (nv (N 4)))) S (Tst μ o (nI (ovr (N) (nv (N 4)))) cm bf (μ (o + 7)) (μ (o + 8)))) : X G mi_X10_over (d + 4) 0 0 [(0, .ref o)] [] S μ (qi K) := by
  subst hN
  exact c10_over hM hw hK
theorem n10_toll {G : Gl} {d : Nat} {S : Sh} {μ : Mu} {o : Nat} {q : Nat → Nat} {K : Int32 → Sh → Mu → Prop} {N : Nat → Int32} (hM : MS S o q) (hN : μ (o + 1) = N) (hw : WF (N)) (hl0 : μ o 5 = 0) (hK : ∀ cm bf h P, CrI (N) cm bf (nv (N 4)) → K (nI (toll (N))) S (Tst μ o (nI (ovr (N) (nv (N 4)))) cm bf h P)) : X G mi_X10_toll (d + 8) 0 0 [(0, .ref o)] [] S μ (qi K) := by
  subst hN
  exact c10_toll hM hw hl0 hK
theorem n10_order {G : Gl} {d : Nat} {S : Sh} {μ : Mu} {o : Nat} {q : Nat → Nat} {r i : Int32} {K : Int32 → Sh → Mu → Prop} {N : Nat → Int32} (hM : MS S o q) (hN : μ (o + 1) = N) (hw : WF (N)) (hl0 : μ o 5 = 0) (k1 : ¬ (In r (nv (N 3)) ∧ -1 ≤ i) → K (-1000000001) S (er μ o 1)) (k2 : ∀ a, a < nv (N 3) → r = nI a → -1 ≤ i → (∀ k, k < nv (N 4) → ¬ N (134 + k) = nI a) → K (-1000000003) S (er μ o 3)) (k3 : ∀ a k, a < nv (N 3) → k < nv (N 4) → r = nI a → -1 ≤ i → N (134 + k) = nI a → ¬ i < nI (nv (N (83 + 9 * a))) → K (-1000000002) S (er μ o 2)) (k4 : ∀ ν t g a k, a < nv (N 3) → k < nv (N 4) → r = nI a → -1 ≤ i → i < 0 → N (134 + k) = nI a → Sq o μ ν → ν (o + 1) = N → OrdR (N) a t g → Rw (ν (o + 12)) (nv (N (83 + 9 * a))) g → K (nI t) S ν) (k5 : ∀ ν t g a k j, a < nv (N 3) → k < nv (N 4) → r = nI a → i = nI j → j < nv (N (83 + 9 * a)) → N (134 + k) = nI a → Sq o μ ν → ν (o + 1) = N → OrdR (N) a t g → Rw (ν (o + 12)) (nv (N (83 + 9 * a))) g → Pm (nv (N (83 + 9 * a))) g (rowN (N) a) → K (nI (g j)) S ν) : X G mi_X10_order (d + 9) 0 0 [(0, .ref o), (1, .int r), (2, .int i)] [] S μ (qi K) := by
  subst hN
  exact c10_order hM hw hl0 k1 k2 k3 k4 k5
theorem n10_space {G : Gl} {d : Nat} {S : Sh} {μ : Mu} {o : Nat} {q : Nat → Nat} {r : Int32} {K : Int32 → Sh → Mu → Prop} {N : Nat → Int32} (hM : MS S o q) (hN : μ (o + 1) = N) (hw : WF (N)) (hl0 : μ o 5 = 0) (k1 : ¬ In r (nv (N 3)) → K (-1000000001) S (er μ o 1)) (k2 : ∀ a, a < nv (N 3) → r = nI a → (∀ k, k < nv (N 4) → ¬ N (134 + k) = nI a) → K (-1000000003) S (er μ o 3)) (k3 : ∀ ν a k t c, a < nv (N 3) → k < nv (N 4) → r = nI a → N (134 + k) = nI a → Sq o μ ν → ν (o + 1) = N → bw (fun _ => True) (tlS (N) a) 1 20 = some (t, c) → K (nI c) S ν) : X G mi_X10_space (d + 9) 0 0 [(0, .ref o), (1, .int r)] [] S μ (qi K) := by
  subst hN
  exact c10_space hM hw hl0 k1 k2 k3
theorem n10_line {G : Gl} {d : Nat} {S : Sh} {μ : Mu} {o : Nat} {q : Nat → Nat} {i : Int32} {K : Int32 → Sh → Mu → Prop} {N : Nat → Int32} (hM : MS S o q) (hN : μ (o + 1) = N) (hw : WF (N)) (hl0 : μ o 5 = 0) (k1 : ¬ -1 ≤ i → K (-1000000001) S (er μ o 1)) (k2 : -1 ≤ i → ¬ i < nI (nv (N 4)) → K (-1000000002) S (er μ o 2)) (k3 : ∀ ν t g, -1 ≤ i → i < 0 → Sq o μ ν → ν (o + 1) = N → LinR (N) t g → Rw (ν (o + 12)) (nv (N 4)) g → K (nI t) S ν) (k4 : ∀ ν t g j, i = nI j → j < nv (N 4) → Sq o μ ν → ν (o + 1) = N → LinR (N) t g → Rw (ν (o + 12)) (nv (N 4)) g → Pm (nv (N 4)) g (linN (N)) → K (nI (g j)) S ν) : X G mi_X10_line (d + 9) 0 0 [(0, .ref o), (1, .int i)] [] S μ (qi K) := by
  subst hN
  exact c10_line hM hw hl0 k1 k2 k3 k4
theorem n10_seed {G : Gl} {d : Nat} {S : Sh} {μ : Mu} {o : Nat} {q : Nat → Nat} {v : Int32} {K : Int32 → Sh → Mu → Prop} {N : Nat → Int32} (hM : MS S o q) (hN : μ (o + 1) = N) (hK : K (N 7) S (su μ (o + 1) 7 v)) : X G mi_X10_seed (d + 1) 0 0 [(0, .ref o), (1, .int v)] [] S μ (qi K) := by
  subst hN
  exact c10_seed hM hK
theorem n10_voice {G : Gl} {d : Nat} {S : Sh} {μ : Mu} {o : Nat} {q : Nat → Nat} {r a x : Int32} {K : Int32 → Sh → Mu → Prop} {N : Nat → Int32} (hM : MS S o q) (hN : μ (o + 1) = N) (hw : WF (N)) (k1 : ¬ (In r (nv (N 3)) ∧ (0 ≤ a ∧ a ≤ 3)) → K (-1000000001) S (er μ o 1)) (k2 : ∀ j b, j < nv (N 3) → b < 4 → r = nI j → a = nI b → K (vo (nv (N (80 + 9 * j))) r (N (82 + 9 * j)) 9 (nv (N (80 + 9 * j))) b x (0, μ (o + 13))).1 S (VM (su μ o 23 r) o (vo (nv (N (80 + 9 * j))) r (N (82 + 9 * j)) 9 (nv (N (80 + 9 * j))) b x (0, μ (o + 13))).2)) : X G mi_X10_voice (d + 33) 0 0 [(0, .ref o), (1, .int r), (2, .int a), (3, .int x)] [] S μ (qi K) := by
  subst hN
  exact c10_voice hM hw k1 k2
theorem n10_trace {G : Gl} {d : Nat} {S : Sh} {μ : Mu} {o : Nat} {q : Nat → Nat} {i : Int32} {t : Nat} {K : Int32 → Sh → Mu → Prop} {N : Nat → Int32} (hM : MS S o q) (hN : μ (o + 1) = N) (ht : μ o 22 = nI t) (hb : t ≤ 40) (k1 : ¬ In i t → K (-1000000002) S (er μ o 2)) (k2 : ∀ j, j < t → i = nI j → K (μ (o + 13) j) S μ) : X G mi_X10_trace (d + 1) 0 0 [(0, .ref o), (1, .int i)] [] S μ (qi K) := by
  subst hN
  exact c10_trace hM ht hb k1 k2
theorem n10_sheet {G : Gl} {d : Nat} {S : Sh} {μ : Mu} {o : Nat} {q : Nat → Nat} {s b n : Int32} {K : Int32 → Sh → Mu → Prop} {N : Nat → Int32} (hM : MS S o q) (hN : μ (o + 1) = N) (k1 : ¬ (In s 4 ∧ okB b) → K (-1000000001) S (er μ o 1)) (k2 : ∀ j, j < 4 → s = nI j → okB b → ¬ b = 0 → n < 0 → K (-1000000003) S (er μ o 3)) (k3 : ∀ j, j < 4 → s = nI j → okB b → ¬ b = 0 → 0 ≤ n → 40 < n → K (-1000000001) S (er μ o 1)) (k4 : ∀ j, j < 4 → s = nI j → okB b → (b ≠ 0 → 0 ≤ n ∧ n ≤ 40) → K 1 S (Mx (su (su μ (o + 14) j b) (o + 15) j (if b = 0 then 0 else n)) (o + 16) (clrN (μ (o + 16)) j))) : X G mi_X10_sheet (d + 2) 0 0 [(0, .ref o), (1, .int s), (2, .int b), (3, .int n)] [] S μ (qi K) := by
  subst hN
  exact c10_sheet hM k1 k2 k3 k4
theorem n10_put {G : Gl} {d : Nat} {S : Sh} {μ : Mu} {o : Nat} {q : Nat → Nat} {s i v : Int32} {K : Int32 → Sh → Mu → Prop} {N : Nat → Int32} (hM : MS S o q) (hN : μ (o + 1) = N) (hz : ∀ j, j < 4 → okN (μ (o + 15) j) 40) (k1 : ¬ In s 4 → K (-1000000001) S (er μ o 1)) (k2 : ∀ a, a < 4 → s = nI a → μ (o + 14) a = 0 → K (-1000000002) S (er μ o 2)) (k3 : ∀ a, a < 4 → s = nI a → ¬ μ (o + 14) a = 0 → ¬ In i (nv (μ (o + 15) a)) → K (-1000000001) S (er μ o 1)) (k4 : ∀ a j, a < 4 → j < nv (μ (o + 15) a) → s = nI a → i = nI j → ¬ μ (o + 14) a = 0 → K 1 S (su μ (o + 16) (40 * a + j) (nar (μ (o + 14) a) v))) : X G mi_X10_put (d + 2) 0 0 [(0, .ref o), (1, .int s), (2, .int i), (3, .int v)] [] S μ (qi K) := by
  subst hN
  exact c10_put hM hz k1 k2 k3 k4
theorem n10_move {G : Gl} {d : Nat} {S : Sh} {μ : Mu} {o : Nat} {q : Nat → Nat} {s i t j n : Int32} {K : Int32 → Sh → Mu → Prop} {N : Nat → Int32} (hM : MS S o q) (hN : μ (o + 1) = N) (hz : (∀ x, x < 4 → okN (μ (o + 15) x) 40)) (k1 : ¬ (In s 4 ∧ In t 4) → K (-1000000001) S (er μ o 1)) (k2 : ∀ x y, x < 4 → y < 4 → s = nI x → t = nI y → (μ (o + 14) x = 0 ∨ μ (o + 14) y = 0) → K (-1000000002) S (er μ o 2)) (k3 : ∀ x y, x < 4 → y < 4 → s = nI x → t = nI y → ¬ μ (o + 14) x = 0 → ¬ μ (o + 14) y = 0 → ¬ μ (o + 14) x = μ (o + 14) y → K (-1000000005) S (er μ o 5)) (k4 : ∀ x y, x < 4 → y < 4 → s = nI x → t = nI y → ¬ μ (o + 14) x = 0 → ¬ μ (o + 14) y = 0 → μ (o + 14) x = μ (o + 14) y → ¬ mvOk i j n (nv (μ (o + 15) x)) (nv (μ (o + 15) y)) → K (-1000000001) S (er μ o 1)) (k5 : ∀ x y a b c, x < 4 → y < 4 → s = nI x → t = nI y → i = nI a → j = nI b → n = nI c → ¬ μ (o + 14) x = 0 → ¬ μ (o + 14) y = 0 → μ (o + 14) x = μ (o + 14) y → a + c ≤ nv (μ (o + 15) x) → b + c ≤ nv (μ (o + 15) y) → ∀ F, K (nI c) S (Mx (Mx μ (o + 17) F) (o + 16) (mvN (μ (o + 16)) x a y b c))) : X G mi_X10_move (d + 2) 0 0 [(0, .ref o), (1, .int s), (2, .int i), (3, .int t), (4, .int j), (5, .int n)] [] S μ (qi K) := by
  subst hN
  exact c10_move hM hz k1 k2 k3 k4 k5
theorem n10_image {G : Gl} {d : Nat} {S : Sh} {μ : Mu} {o : Nat} {q : Nat → Nat} {K : Int32 → Sh → Mu → Prop} {N : Nat → Int32} (hM : MS S o q) (hN : μ (o + 1) = N) (hK : K (μ o 3 + 1) S (su (Mx μ (o + 2) (N)) o 3 (μ o 3 + 1))) : X G mi_X10_image (d + 1) 0 0 [(0, .ref o)] [] S μ (qi K) := by
  subst hN
  exact c10_image hM hK
theorem n10_restore {G : Gl} {d : Nat} {S : Sh} {μ : Mu} {o : Nat} {q : Nat → Nat} {K : Int32 → Sh → Mu → Prop} {N : Nat → Int32} (hM : MS S o q) (hN : μ (o + 1) = N) (k1 : μ o 3 = 0 → K (-1000000002) S (er μ o 2)) (k2 : ¬ μ o 3 = 0 → K (μ (o + 2) 0) S (Mx μ (o + 1) (μ (o + 2)))) : X G mi_X10_restore (d + 1) 0 0 [(0, .ref o)] [] S μ (qi K) := by
  subst hN
  exact c10_restore hM k1 k2
theorem n10_tell {G : Gl} {d : Nat} {S : Sh} {μ : Mu} {o : Nat} {q : Nat → Nat} {v : Int32} {K : Int32 → Sh → Mu → Prop} {N : Nat → Int32} (hM : MS S o q) (hN : μ (o + 1) = N) (hw : WF (N)) (k1 : nv (N 6) = 20 → K (-1000000004) S (er μ o 4)) (k2 : nv (N 6) < 20 → K (nI (nv (N 6) + 1)) S (Mx μ (o + 1) (upd (upd (N) (190 + nv (N 6)) v) 6 (nI (nv (N 6) + 1))))) : X G mi_X10_tell (d + 1) 0 0 [(0, .ref o), (1, .int v)] [] S μ (qi K) := by
  subst hN
  exact c10_tell hM hw k1 k2
theorem n10_check {G : Gl} {d : Nat} {S : Sh} {μ : Mu} {o : Nat} {q : Nat → Nat} {K : Int32 → Sh → Mu → Prop} {N : Nat → Int32} (hM : MS S o q) (hN : μ (o + 1) = N) (hw : WF (N)) (hK : K (nI (ck (upd (N) 6 0) (nv (N 6)) 42 0 0 0)) S (su μ (o + 1) 6 0)) : X G mi_X10_check (d + 2) 0 0 [(0, .ref o)] [] S μ (qi K) := by
  subst hN
  exact c10_check hM hw hK
theorem n10_count {G : Gl} {d : Nat} {S : Sh} {μ : Mu} {o : Nat} {q : Nat → Nat} {w : Int32} {K : Int32 → Sh → Mu → Prop} {N : Nat → Int32} (hM : MS S o q) (hN : μ (o + 1) = N) (k1 : ¬ (0 ≤ w ∧ w ≤ 8) → K (-1000000001) S (er μ o 1)) (k2 : ∀ f, f < 7 → w = nI f → K (N f) S μ) (k3 : w = nI 7 → K (μ o 22) S μ) (k4 : w = nI 8 → K (N 7) S μ) : X G mi_X10_count (d + 1) 0 0 [(0, .ref o), (1, .int w)] [] S μ (qi K) := by
  subst hN
  exact c10_count hM k1 k2 k3 k4
theorem n10_told {G : Gl} {d : Nat} {S : Sh} {μ : Mu} {o : Nat} {q : Nat → Nat} {k : Int32} {K : Int32 → Sh → Mu → Prop} {N : Nat → Int32} (hM : MS S o q) (hN : μ (o + 1) = N) (k1 : ¬ (1 ≤ k ∧ k ≤ 5) → K (-1000000001) S (er μ o 1)) (k2 : ∀ f, 1 ≤ f → f ≤ 5 → k = nI f → K (μ (o + 4) f) S μ) : X G mi_X10_told (d + 1) 0 0 [(0, .ref o), (1, .int k)] [] S μ (qi K) := by
  subst hN
  exact c10_told hM k1 k2
def Eq2 (G : Gl) (P o im : Nat) (a : Int32) (b : Int32) (S : Sh) (μ : Mu) : Prop := b = a ∧ Nx G P o im S μ
theorem nI_j {a b : Nat} {x : Int32} (h : x = nI a) (g : x = nI b) (ha : a < 2 ^ 30) (hb : b < 2 ^ 30) : a = b := (nI_eq (by omega) (by omega)).mp (h.symm.trans g)
set_option maxHeartbeats 1000000 in
theorem c9_fail {G : Gl} {d : Nat} {S : Sh} {μ : Mu} {P k : Nat} {kp : Option Nat} {w : Int32} {K : Int32 → Sh → Mu → Prop} (hP : S.2 P = some (kO 9 (rP P kp))) (hE : S.2 (P + 89) = some (kI 6)) (hw : -1000000000 - w = nI k) (hk : k < 6) (hK : K w S (su μ (P + 89) k (μ (P + 89) k + 1))) : X G mi_X9_fail d 0 0 [(0, .ref P), (1, .int w)] [] S μ (qi K) := by
  refine X_ldcw (tk_X9_fail.at 0 rfl) kn_x9_327 ?_
  refine X_iload_n (tk_X9_fail.at 1 rfl) rfl ?_
  refine X_isub (tk_X9_fail.at 2 rfl) ?_
  rw [hw]
  refine X_istore_n (lv' := [(0, _), (1, _), (2, _)]) (tk_X9_fail.at 3 rfl) (by decide) rfl rfl ?_
  refine X_iload_n (tk_X9_fail.at 4 rfl) rfl ?_
  refine X_if_ltN (tgt := 29) (tk_X9_fail.at 5 rfl) (by decide) (pl k rfl) (by omega) ?_
  refine X_iload_n (tk_X9_fail.at 6 rfl) rfl ?_
  refine X_aload_n (tk_X9_fail.at 7 rfl) rfl ?_
  refine X_getR (tk_X9_fail.at 8 rfl) fl_x9_50 hP rfl rfl ?_
  refine X_alen (tk_X9_fail.at 9 rfl) hE ?_
  refine X_icmp_geN (tgt := 29) (tk_X9_fail.at 10 rfl) (by decide) (pl k rfl) rfl (by omega) (by omega) (fun c2 => (by exfalso; omega)) (fun c2 => ?_)
  refine X_aload_n (tk_X9_fail.at 11 rfl) rfl ?_
  refine X_getR (tk_X9_fail.at 12 rfl) fl_x9_50 hP rfl rfl ?_
  refine X_iload_n (tk_X9_fail.at 13 rfl) rfl ?_
  refine X_dup2 (tk_X9_fail.at 14 rfl) rfl rfl ?_
  refine X_ialdN (k := k) (tk_X9_fail.at 15 rfl) hE (pz (pl k rfl) (by omega)) (by omega) (by decide) ?_
  refine X_iconst (tk_X9_fail.at 16 rfl) ci_1 ?_
  refine X_iadd (tk_X9_fail.at 17 rfl) ?_
  refine X_iastN (k := k) (tk_X9_fail.at 18 rfl) hE (pz (pl k rfl) (by omega)) (by omega) (by decide) ?_
  refine X_iload_n (tk_X9_fail.at 19 rfl) rfl ?_
  refine X_ireturn (tk_X9_fail.at 20 rfl) rfl rfl ?_
  exact hK
