def pfL (L : List Nat) : Nat → Nat := fun i => L.getD i 0
def endL (n : Nat) : Nat → List Nat → Bool
  | 0, _ => false
  | m + 1, L => match nxo n (pfL L) with
    | none => true
    | some g => endL n m ((List.range n).map g)
theorem lstA_c {f g : Nat → Nat} {n : Nat} (h : ∀ i j, i < n → j < n → (f i < f j ↔ g i < g j)) : ∀ m, m < n → lstA f m = lstA g m
  | 0, _ => rfl
  | m + 1, hm => by
    have ih := lstA_c h m (by omega)
    have e := h (m + 1) m hm (by omega)
    rw [lstA, lstA, ih]
    by_cases c : f (m + 1) < f m
    · rw [if_pos c, if_pos (e.mp c)]
    · rw [if_neg c, if_neg (fun z => c (e.mpr z))]
theorem gtJ_c {f g : Nat → Nat} {n k : Nat} (h : ∀ i j, i < n → j < n → (f i < f j ↔ g i < g j)) (hk : k < n) : ∀ j, j < n → gtJ f k j = gtJ g k j
  | 0, _ => rfl
  | j + 1, hj => by
    have ih := gtJ_c h hk j (by omega)
    have e := h (j + 1) k hj hk
    rw [gtJ, gtJ, ih]
    by_cases c : f (j + 1) < f k
    · rw [if_pos c, if_pos (e.mp c)]
    · rw [if_neg c, if_neg (fun z => c (e.mpr z))]
theorem pfL_map {n : Nat} (g : Nat → Nat) {i : Nat} (h : i < n) : pfL ((List.range n).map g) i = g i := by
  unfold pfL
  rw [List.getD_eq_getElem?_getD, List.getElem?_map, List.getElem?_range h]
  rfl
theorem nxv_at {n : Nat} {f : Nat → Nat} {k j : Nat} (hk : k < n) (hj : j < n) {x : Nat} (hx : x < n) : ∃ y, y < n ∧ ∀ g : Nat → Nat, nxv n g k j x = g y := by
  have sw_at : ∀ z, z < n → ∃ y, y < n ∧ ∀ g : Nat → Nat, sw g k j z = g y := by
    intro z hz
    by_cases c1 : z = k
    · exact ⟨j, hj, fun g => by unfold sw; rw [if_pos c1]⟩
    · by_cases c2 : z = j
      · exact ⟨k, hk, fun g => by unfold sw; rw [if_neg c1, if_pos c2]⟩
      · exact ⟨z, hz, fun g => by unfold sw; rw [if_neg c1, if_neg c2]⟩
  by_cases c : k < x ∧ x < n
  · obtain ⟨y, h1, h2⟩ := sw_at (k + n - x) (by omega)
    exact ⟨y, h1, fun g => by unfold nxv; rw [if_pos c]; exact h2 g⟩
  · obtain ⟨y, h1, h2⟩ := sw_at x hx
    exact ⟨y, h1, fun g => by unfold nxv; rw [if_neg c]; exact h2 g⟩
theorem ends_L {n : Nat} (h0 : 0 < n) {v : Nat → Nat} (hv : ∀ x y, x < y → y < n → v x < v y) : ∀ (m : Nat) (L : List Nat) (f : Nat → Nat), endL n m L = true → (∀ i, i < n → pfL L i < n ∧ f i = v (pfL L i)) → ends n m f
  | 0, L, f, h, _ => by cases h
  | m + 1, L, f, h, hL => by
    have hc : ∀ i j, i < n → j < n → (f i < f j ↔ pfL L i < pfL L j) := by
      intro i j hi hj
      rw [(hL i hi).2, (hL j hj).2]
      have a := (hL i hi).1
      have b := (hL j hj).1
      constructor
      · intro z
        rcases Nat.lt_trichotomy (pfL L i) (pfL L j) with q | q | q
        · exact q
        · rw [q] at z; omega
        · have := hv _ _ q a; omega
      · intro z
        exact hv _ _ z b
    have e1 := lstA_c hc (n - 1) (by omega)
    rw [ends]
    rw [endL] at h
    cases e : lstA (pfL L) (n - 1) with
    | none =>
      rw [nxo_n (by rw [e1]; exact e)]
      trivial
    | some k =>
      have hk := lstA_lt e
      have e2 := gtJ_c hc (show k < n by omega) (n - 1) (by omega)
      have hj := gtJ_le (f := pfL L) (k := k) (n - 1)
      rw [nxo_s (by rw [e1]; exact e)]
      rw [nxo_s e] at h
      dsimp only at h ⊢
      refine ends_L h0 hv m _ _ h (fun i hi => ?_)
      obtain ⟨y, hy, hg⟩ := nxv_at (n := n) (f := f) (k := k) (j := gtJ (pfL L) k (n - 1)) (by omega) (by omega) hi
      rw [pfL_map _ hi, hg, e2, hg]
      exact hL y hy
theorem pfL_id {n i : Nat} (h : i < n) : pfL (List.range n) i = i := by
  unfold pfL
  rw [List.getD_eq_getElem?_getD, List.getElem?_range h]
  rfl
theorem endL_5 : ∀ n, n < 6 → 0 < n → endL n 120 (List.range n) = true := by decide +kernel
theorem endL_6 : ∀ n, n < 7 → 0 < n → endL n 720 (List.range n) = true := by decide +kernel
theorem ends_5 {n : Nat} (hn : n ≤ 5) {f : Nat → Nat} (hv : ∀ x y, x < y → y < n → f x < f y) : ends n 120 f := by
  rcases Nat.eq_zero_or_pos n with rfl | h0
  · rw [ends, nxo_n rfl]; trivial
  · exact ends_L h0 hv 120 _ f (endL_5 n (by omega) h0) (fun i hi => by rw [pfL_id hi]; exact ⟨hi, rfl⟩)
theorem ends_6 {n : Nat} (hn : n ≤ 6) {f : Nat → Nat} (hv : ∀ x y, x < y → y < n → f x < f y) : ends n 720 f := by
  rcases Nat.eq_zero_or_pos n with rfl | h0
  · rw [ends, nxo_n rfl]; trivial
  · exact ends_L h0 hv 720 _ f (endL_6 n (by omega) h0) (fun i hi => by rw [pfL_id hi]; exact ⟨hi, rfl⟩)
