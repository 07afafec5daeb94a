/-! Pure rows: stores; the reference's row of numbers and what is always so of it. -/
theorem su_eq (μ : Mu) (a i : Nat) (x : Int32) : su μ a i x = Mx μ a (upd (μ a) i x) := rfl
theorem Mx_Mx (μ : Mu) (a : Nat) (f g : Nat → Int32) : Mx (Mx μ a f) a g = Mx μ a g := by
  funext b
  unfold Mx
  by_cases h : b = a
  · simp [h]
  · simp [h]
theorem su_Mx (μ : Mu) (a i : Nat) (f : Nat → Int32) (x : Int32) : su (Mx μ a f) a i x = Mx μ a (upd f i x) := by
  rw [su_eq, Mx_same, Mx_Mx]
theorem Mx_comm (μ : Mu) {a b : Nat} (h : a ≠ b) (f g : Nat → Int32) : Mx (Mx μ a f) b g = Mx (Mx μ b g) a f := by
  funext c
  unfold Mx
  by_cases h1 : c = a
  · subst h1; simp [h]
  · simp [h1]
theorem Mx_self (μ : Mu) (a : Nat) : Mx μ a (μ a) = μ := by
  funext c
  unfold Mx
  by_cases h1 : c = a
  · subst h1; simp
  · simp [h1]
theorem upd_at (f : Nat → Int32) (k : Nat) (x : Int32) : upd f k x k = x := if_pos rfl
theorem upd_ne (f : Nat → Int32) {k j : Nat} (x : Int32) (h : j ≠ k) : upd f k x j = f j := if_neg h
theorem upd_upd (f : Nat → Int32) (k : Nat) (x y : Int32) : upd (upd f k x) k y = upd f k y := by
  funext j
  unfold upd
  by_cases h : j = k <;> simp [h]
theorem nI_m1 {n : Nat} (h : 1 ≤ n) : nI n - 1 = nI (n - 1) := by
  obtain ⟨m, rfl⟩ : ∃ m, n = m + 1 := ⟨n - 1, by omega⟩
  exact nI_pred m
theorem in_t {k : Int32} {n : Nat} (hn : n < 2 ^ 30) (h1 : 0 ≤ k) (h2 : k ≤ nI n - 1) : ∃ j, j < n ∧ k = nI j := by
  obtain ⟨j, hj, rfl⟩ := nI_of (Int32.not_lt.mpr h1)
  refine ⟨j, ?_, rfl⟩
  rw [Int32.le_iff_toInt_le, nI_toInt hj, show (1 : Int32) = nI 1 from rfl, pk_sub_toInt hn (by omega)] at h2
  omega
theorem in_f {k : Int32} {n : Nat} (hn : n < 2 ^ 30) (h : ¬ (0 ≤ k ∧ k ≤ nI n - 1)) : k < 0 ∨ nI n ≤ k := by
  rcases Classical.em (k < 0) with q | q
  · exact Or.inl q
  · refine Or.inr ?_
    obtain ⟨j, hj, rfl⟩ := nI_of q
    rw [nI_leI (by omega) hj]
    rcases Nat.lt_or_ge j n with z | z
    · exfalso
      refine h ⟨nI_pos' hj, ?_⟩
      rw [Int32.le_iff_toInt_le, nI_toInt hj, show (1 : Int32) = nI 1 from rfl, pk_sub_toInt hn (by omega)]
      omega
    · exact z
theorem out_no {k : Int32} {n j : Nat} (hn : n < 2 ^ 30) (hj : j < n) (h : k < 0 ∨ nI n ≤ k) : ¬ k = nI j := by
  rintro rfl
  rcases h with h | h
  · exact nI_pos (by omega) h
  · exact nI_ge hj (by omega) h
/-- between two written numbers -/
theorem le_lits {v : Int32} {a b : Nat} (hb : b < 2 ^ 31) (h1 : nI a ≤ v) (h2 : v ≤ nI b) (ha : a < 2 ^ 31) : v = nI (nv v) ∧ a ≤ nv v ∧ nv v ≤ b := by
  have h0 : ¬ v < 0 := by
    rw [Int32.lt_iff_toInt_lt, Int32.toInt_zero]
    rw [Int32.le_iff_toInt_le, nI_toInt ha] at h1
    omega
  obtain ⟨j, hj, rfl⟩ := nI_of h0
  rw [nv_nI hj]
  rw [nI_leI ha hj] at h1
  rw [nI_leI hj hb] at h2
  exact ⟨rfl, h1, h2⟩
def Told (w s p g : Int32) : Prop := ((30 ≤ w ∧ w ≤ 300) ∧ (0 ≤ s ∧ s ≤ 999)) ∧ ((1 ≤ p ∧ p ≤ 60) ∧ (0 ≤ g ∧ g ≤ 1))
def ToldC (s b f e : Int32) : Prop := ((-5 ≤ s ∧ s ≤ 5) ∧ (0 ≤ b ∧ b ≤ 999)) ∧ ((0 ≤ f ∧ f ≤ 99) ∧ (1 ≤ e ∧ e ≤ 40))
def ToldR (k s n : Int32) : Prop := (0 ≤ k ∧ k ≤ 6) ∧ (1 ≤ s ∧ s ≤ 20) ∧ (0 ≤ n ∧ n ≤ 9)
/-- four numbers more, the count at c -/
def addN (N : Nat → Int32) (b n : Nat) (w s p g : Int32) (c : Nat) : Nat → Int32 := upd (upd (upd (upd (upd N (b + 4 * n) w) (b + 1 + 4 * n) s) (b + 2 + 4 * n) p) (b + 3 + 4 * n) g) c (nI (n + 1))
def addR (N : Nat → Int32) (n : Nat) (k s t : Int32) : Nat → Int32 := upd (upd (upd (upd (upd N (80 + 9 * n) k) (81 + 9 * n) s) (82 + 9 * n) t) (83 + 9 * n) 0) 3 (nI (n + 1))
/-- an error more -/
def er (μ : Mu) (o k : Nat) : Mu := su μ (o + 4) k (μ (o + 4) k + 1)
/-- who stands where -/
def On (N : Nat → Int32) (r i p : Nat) : Prop := r < nv (N 3) ∧ i < nv (N (83 + 9 * r)) ∧ N (84 + 9 * r + i) = nI p
def okN (x : Int32) (b : Nat) : Prop := x = nI (nv x) ∧ nv x ≤ b
theorem okN.lt {x : Int32} {b : Nat} (h : okN x b) (hb : b < 2 ^ 31) : nv x < 2 ^ 31 := Nat.lt_of_le_of_lt h.2 hb
theorem okN_of {n b : Nat} (h : n ≤ b) (hb : b < 2 ^ 31) : okN (nI n) b := by
  have e : nv (nI n) = n := nv_nI (by omega)
  exact ⟨by rw [e], by rw [e]; exact h⟩
/-- a text's codes: how many numbers lie on the pile behind the first k codes -/
def dpt (C : Nat → Int32) : Nat → Nat
  | 0 => 0
  | k + 1 => if C k < 20000 then dpt C k + 1 else if C k = 20010 then dpt C k else dpt C k - 1
def okT (C : Nat → Int32) (n : Nat) : Prop := (∀ k, k < n → (C k < 20000 ∧ 0 ≤ C k ∧ C k < 10005) ∨ (C k = 20010 ∧ 1 ≤ dpt C k) ∨ (¬ C k < 20000 ∧ C k < 20010 ∧ 2 ≤ dpt C k)) ∧ (0 < n → 1 ≤ dpt C n)
def WF0 (N : Nat → Int32) : Prop := okN (N 0) 1439 ∧ okN (N 1) 10 ∧ okN (N 2) 8 ∧ okN (N 3) 6 ∧ okN (N 4) 6 ∧ okN (N 5) 50 ∧ okN (N 6) 20
def WFp (N : Nat → Int32) (p : Nat) : Prop := (okN (N (8 + 4 * p)) 300 ∧ 30 ≤ nv (N (8 + 4 * p))) ∧ okN (N (9 + 4 * p)) 999 ∧ (okN (N (10 + 4 * p)) 60 ∧ 1 ≤ nv (N (10 + 4 * p))) ∧ okN (N (11 + 4 * p)) 1
def WFc (N : Nat → Int32) (c : Nat) : Prop := (-5 ≤ N (48 + 4 * c) ∧ N (48 + 4 * c) ≤ 5) ∧ okN (N (49 + 4 * c)) 999 ∧ okN (N (50 + 4 * c)) 99 ∧ (okN (N (51 + 4 * c)) 40 ∧ 1 ≤ nv (N (51 + 4 * c)))
def WFr (N : Nat → Int32) (r : Nat) : Prop := okN (N (80 + 9 * r)) 6 ∧ (okN (N (81 + 9 * r)) 20 ∧ 1 ≤ nv (N (81 + 9 * r))) ∧ okN (N (82 + 9 * r)) 9 ∧ okN (N (83 + 9 * r)) 5 ∧ ∀ i, i < nv (N (83 + 9 * r)) → N (84 + 9 * r + i) = nI (nv (N (84 + 9 * r + i))) ∧ nv (N (84 + 9 * r + i)) < nv (N 1)
def WF (N : Nat → Int32) : Prop := WF0 N ∧ (∀ p, p < nv (N 1) → WFp N p) ∧ (∀ c, c < nv (N 2) → WFc N c) ∧ (∀ r, r < nv (N 3) → WFr N r) ∧
  (∀ r i r' i' p, On N r i p → On N r' i' p → r = r' ∧ i = i') ∧ (∀ k, k < nv (N 4) → N (134 + k) = nI (nv (N (134 + k))) ∧ nv (N (134 + k)) < nv (N 3)) ∧ (∀ k k', k < nv (N 4) → k' < nv (N 4) → N (134 + k) = N (134 + k') → k = k') ∧
  (∀ k, k < nv (N 5) → okN (N (140 + k)) 255) ∧ ∀ u, u < 2 → okN (N (210 + 52 * u)) 50 ∧ okT (fun k => N (211 + 52 * u + k)) (nv (N (210 + 52 * u)))
theorem WF.n0 {N : Nat → Int32} (h : WF N) : okN (N 0) 1439 := h.1.1
theorem WF.n1 {N : Nat → Int32} (h : WF N) : okN (N 1) 10 := h.1.2.1
theorem WF.n2 {N : Nat → Int32} (h : WF N) : okN (N 2) 8 := h.1.2.2.1
theorem WF.n3 {N : Nat → Int32} (h : WF N) : okN (N 3) 6 := h.1.2.2.2.1
theorem WF.n4 {N : Nat → Int32} (h : WF N) : okN (N 4) 6 := h.1.2.2.2.2.1
theorem WF.n5 {N : Nat → Int32} (h : WF N) : okN (N 5) 50 := h.1.2.2.2.2.2.1
theorem WF.n6 {N : Nat → Int32} (h : WF N) : okN (N 6) 20 := h.1.2.2.2.2.2.2
theorem WF.pe {N : Nat → Int32} (h : WF N) {p : Nat} (hp : p < nv (N 1)) : WFp N p := h.2.1 p hp
theorem WF.pc {N : Nat → Int32} (h : WF N) {p : Nat} (hp : p < nv (N 2)) : WFc N p := h.2.2.1 p hp
theorem WF.ro {N : Nat → Int32} (h : WF N) {p : Nat} (hp : p < nv (N 3)) : WFr N p := h.2.2.2.1 p hp
theorem WF.un {N : Nat → Int32} (h : WF N) {r i r' i' p : Nat} (h1 : On N r i p) (h2 : On N r' i' p) : r = r' ∧ i = i' := h.2.2.2.2.1 r i r' i' p h1 h2
theorem WF.li {N : Nat → Int32} (h : WF N) {k : Nat} (hk : k < nv (N 4)) : N (134 + k) = nI (nv (N (134 + k))) ∧ nv (N (134 + k)) < nv (N 3) := h.2.2.2.2.2.1 k hk
theorem WF.lu {N : Nat → Int32} (h : WF N) {k k' : Nat} (hk : k < nv (N 4)) (hk' : k' < nv (N 4)) (e : N (134 + k) = N (134 + k')) : k = k' := h.2.2.2.2.2.2.1 k k' hk hk' e
theorem WF.ta {N : Nat → Int32} (h : WF N) {k : Nat} (hk : k < nv (N 5)) : okN (N (140 + k)) 255 := h.2.2.2.2.2.2.2.1 k hk
theorem WF.tx {N : Nat → Int32} (h : WF N) {u : Nat} (hu : u < 2) : okN (N (210 + 52 * u)) 50 ∧ okT (fun k => N (211 + 52 * u + k)) (nv (N (210 + 52 * u))) := h.2.2.2.2.2.2.2.2 u hu
