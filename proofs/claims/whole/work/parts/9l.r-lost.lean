def lx (N : Nat → Int32) (r i : Nat) : Nat → Int32
  | 0 => 0
  | k + 1 => lx N r i k ||| (if k = i ∨ ¬ nv (N (80 + 9 * r)) = 6 then 1 <<< (N (84 + 9 * r + k) &&& 31) else 0)
theorem or_0 (L : Int32) : L ||| 0 = L := by
  apply Int32.toBitVec_inj.mp
  rw [Int32.toBitVec_or]
  show L.toBitVec ||| 0#32 = L.toBitVec
  exact BitVec.or_zero
theorem o_0 (L : Int32) : 0 ||| L = L := by
  apply Int32.toBitVec_inj.mp
  rw [Int32.toBitVec_or]
  show 0#32 ||| L.toBitVec = L.toBitVec
  exact BitVec.zero_or
theorem or_a (a b c : Int32) : a ||| b ||| c = a ||| (b ||| c) := by
  apply Int32.toBitVec_inj.mp
  simp only [Int32.toBitVec_or]
  exact BitVec.or_assoc _ _ _
theorem los_lx (N : Nat → Int32) (r i : Nat) : ∀ k L, los N r i k L = L ||| lx N r i k
  | 0, L => (or_0 L).symm
  | k + 1, L => by rw [los, lx, los_lx N r i k L, or_a]
theorem lx_0 {N : Nat → Int32} {r i : Nat} (h : nv (N (80 + 9 * r)) = 6) : ∀ k, k ≤ i → lx N r i k = 0
  | 0, _ => rfl
  | k + 1, hk => by rw [lx, lx_0 h k (by omega), if_neg (by omega)]; exact or_0 0
theorem lx_b {N : Nat → Int32} {r i : Nat} (h : nv (N (80 + 9 * r)) = 6) : ∀ k, i < k → lx N r i k = 1 <<< (N (84 + 9 * r + i) &&& 31)
  | 0, hk => absurd hk (Nat.not_lt_zero _)
  | k + 1, hk => by
    rw [lx]
    by_cases e : k = i
    · subst e; rw [lx_0 h k (Nat.le_refl _), if_pos (Or.inl rfl)]; exact o_0 _
    · rw [lx_b h k (by omega), if_neg (fun g => by rcases g with g | g; exact e g; exact g h)]; exact or_0 _
theorem lx_f {N : Nat → Int32} {r i : Nat} (h : ¬ nv (N (80 + 9 * r)) = 6) : ∀ k, lx N r i k = bt (fun j => N (84 + 9 * r + j)) k
  | 0 => rfl
  | k + 1 => by rw [lx, bt, lx_f h k, if_pos (Or.inr h)]
theorem bt_c {f g : Nat → Int32} : ∀ n, (∀ i, i < n → f i = g i) → bt f n = bt g n
  | 0, _ => rfl
  | n + 1, h => by rw [bt, bt, bt_c n (fun i hi => h i (by omega)), h n (by omega)]
theorem one_p : ∀ p, p < 10 → 1 <<< (nI p &&& 31) = nI (2 ^ p) := by decide
theorem one_lt : ∀ p, p < 10 → 2 ^ p < 1024 := by decide
theorem or_lt {a b : Nat} (ha : a < 1024) (hb : b < 1024) : a ||| b < 1024 := Nat.or_lt_two_pow (n := 10) ha hb
theorem lx_lt {N : Nat → Int32} {r i m : Nat} (hm : ∀ j, j < m → N (84 + 9 * r + j) = nI (nv (N (84 + 9 * r + j))) ∧ nv (N (84 + 9 * r + j)) < 10) : ∀ k, k ≤ m → ∃ n, n < 1024 ∧ lx N r i k = nI n
  | 0, _ => ⟨0, by decide, rfl⟩
  | k + 1, hk => by
    obtain ⟨n, hn, e⟩ := lx_lt hm (i := i) k (by omega)
    rw [lx, e]
    have z := hm k (by omega)
    split
    · refine ⟨n ||| 2 ^ nv (N (84 + 9 * r + k)), or_lt hn (one_lt _ z.2), ?_⟩
      rw [nI_or, ← one_p _ z.2, ← z.1]
    · exact ⟨n, hn, or_0 _⟩
theorem lx_in {N : Nat → Int32} {r i m p : Nat} (hp : p < 10) (hm : ∀ j, j < m → N (84 + 9 * r + j) = nI (nv (N (84 + 9 * r + j))) ∧ nv (N (84 + 9 * r + j)) < 10) : ∀ k, k ≤ m → lb (lx N r i k) (nI p) → ∃ j, j < k ∧ N (84 + 9 * r + j) = nI p
  | 0, _, h => absurd h lb_zero
  | k + 1, hk, h => by
    rw [lx, lb_or hp] at h
    rcases h with h | h
    · obtain ⟨j, hj, e⟩ := lx_in hp hm k (by omega) h
      exact ⟨j, by omega, e⟩
    · have z := hm k (by omega)
      split at h
      · rw [z.1, lb_one _ z.2 p hp] at h
        exact ⟨k, by omega, by rw [z.1, h]⟩
      · exact absurd h lb_zero
theorem lx_all {N : Nat → Int32} {r i m : Nat} (hf : ¬ nv (N (80 + 9 * r)) = 6) (hm : ∀ j, j < m → N (84 + 9 * r + j) = nI (nv (N (84 + 9 * r + j))) ∧ nv (N (84 + 9 * r + j)) < 10) : ∀ k, k ≤ m → ∀ j, j < k → lb (lx N r i k) (N (84 + 9 * r + j))
  | 0, _, j, h => absurd h (Nat.not_lt_zero _)
  | k + 1, hk, j, h => by
    have z := hm j (by omega)
    rw [z.1, lx, lb_or z.2, ← z.1]
    by_cases e : j = k
    · subst e
      right
      rw [if_pos (Or.inr hf), z.1]
      exact (lb_one _ z.2 _ z.2).mpr rfl
    · left; exact lx_all hf hm k (by omega) j (by omega)
theorem and_bit {L : Int32} {p : Nat} (hp : p < 10) : (L &&& (1 <<< (nI p &&& 31)) = 0) ↔ ¬ lb L (nI p) := by
  constructor
  · intro h g
    have z : lb (L &&& (1 <<< (nI p &&& 31))) (nI p) := (lb_and hp).mpr ⟨g, (lb_one p hp p hp).mpr rfl⟩
    rw [h] at z
    exact lb_zero z
  · intro h
    rw [lb_bit hp] at h
    have e : ∀ q, q < 10 → ∀ j, j < 32 → (1 <<< (nI q &&& 31) : Int32).toBitVec.getLsbD j = decide (j = q) := by decide
    apply Int32.toBitVec_inj.mp
    rw [Int32.toBitVec_and]
    apply BitVec.eq_of_getLsbD_eq
    intro j hj
    rw [BitVec.getLsbD_and, e p hp j hj]
    show _ = (0#32).getLsbD j
    rw [BitVec.getLsbD_zero]
    by_cases c : j = p
    · subst c; simp [h]
    · simp [c]
theorem and1 (x : Int32) : x &&& 1 = 0 ∨ x &&& 1 = 1 := by
  by_cases h : x.toBitVec.getLsbD 0 = true
  · right
    apply Int32.toBitVec_inj.mp
    exact (bv_and1 x.toBitVec).mpr h
  · left
    apply Int32.toBitVec_inj.mp
    show x.toBitVec &&& 1#32 = 0#32
    apply BitVec.eq_of_getLsbD_eq
    intro i hi
    rw [BitVec.getLsbD_and, BitVec.getLsbD_one, BitVec.getLsbD_zero]
    by_cases e : i = 0
    · subst e; rw [Bool.not_eq_true] at h; rw [h]; rfl
    · simp [e]
theorem bs_slc (L : Int32) : ∀ k, bs L k = nI (slc L k)
  | 0 => rfl
  | k + 1 => by
    rw [bs, bs_slc L k]
    by_cases h : lb L (nI k)
    · rw [slc_t h, show (L >>> (nI k &&& 31)) &&& 1 = 1 from h, nI_1]
    · rw [slc_f h]
      rcases and1 (L >>> (nI k &&& 31)) with e | e
      · rw [e]; exact pa (pl _ rfl) (pl 0 rfl)
      · exact absurd e h
/-- a set of those who go with one rope -/
def OwL (N : Nat → Int32) (r : Nat) (Lo : Int32) : Prop := (∀ p, p < 10 → lb Lo (nI p) → ∃ i, i < mny N r ∧ N (84 + 9 * r + i) = nI p) ∧ (¬ nv (N (80 + 9 * r)) = 6 → Lo = 0 ∨ ∀ i, i < mny N r → lb Lo (N (84 + 9 * r + i))) ∧ ∃ n, n < 1024 ∧ Lo = nI n
/-- a set of those who go with the first k -/
def Dis (N : Nat → Int32) (k : Nat) (Lt : Int32) : Prop := (∀ p, p < 10 → lb Lt (nI p) → ∃ k', k' < k ∧ ∃ i, i < mny N (lnA N k') ∧ N (84 + 9 * lnA N k' + i) = nI p) ∧ ∃ n, n < 1024 ∧ Lt = nI n
theorem Dis_0 (N : Nat → Int32) : Dis N 0 0 := ⟨fun p _ h => absurd h lb_zero, 0, by decide, rfl⟩
theorem OwL_0 (N : Nat → Int32) (r : Nat) : OwL N r 0 := ⟨fun p _ h => absurd h lb_zero, fun _ => Or.inl rfl, 0, by decide, rfl⟩
theorem Dis_s {N : Nat → Int32} {k : Nat} {Lt Lo : Int32} (h : Dis N k Lt) (g : OwL N (lnA N k) Lo) : Dis N (k + 1) (Lt ||| Lo) := by
  refine ⟨fun p hp e => ?_, ?_⟩
  · rw [lb_or hp] at e
    rcases e with e | e
    · obtain ⟨k', h1, z⟩ := h.1 p hp e
      exact ⟨k', by omega, z⟩
    · exact ⟨k, by omega, g.1 p hp e⟩
  · obtain ⟨a, ha, ea⟩ := h.2
    obtain ⟨b, hb, eb⟩ := g.2.2
    exact ⟨a ||| b, or_lt ha hb, by rw [ea, eb, nI_or]⟩
theorem mem10 {N : Nat → Int32} (hw : WF N) {r : Nat} (h3 : r < nv (N 3)) : ∀ j, j < mny N r → N (84 + 9 * r + j) = nI (nv (N (84 + 9 * r + j))) ∧ nv (N (84 + 9 * r + j)) < 10 := fun j hj => by
  have z := hw.wh h3 hj
  have := hw.n1.2
  exact ⟨z.1, by omega⟩
theorem dis_no {N : Nat → Int32} (hw : WF N) {k i : Nat} {Lt : Int32} (h : Dis N k Lt) (hk : k < nv (N 4)) (hi : i < mny N (lnA N k)) : ¬ lb Lt (N (84 + 9 * lnA N k + i)) := fun e => by
  have z := mem10 hw (hw.lb hk) i hi
  rw [z.1] at e
  obtain ⟨k', h1, i', hi', e'⟩ := h.1 _ z.2 e
  have u := hw.un (r := lnA N k') (i := i') (r' := lnA N k) (i' := i) (p := nv (N (84 + 9 * lnA N k + i))) ⟨hw.lb (by omega), hi', e'⟩ ⟨hw.lb hk, hi, z.1⟩
  exact absurd (lin_inj hw k' k (by omega) hk u.1) (by omega)
theorem dis_or {N : Nat → Int32} (hw : WF N) {k i : Nat} {Lt Lo : Int32} (h : Dis N k Lt) (hk : k < nv (N 4)) (hi : i < mny N (lnA N k)) : lb (Lt ||| Lo) (N (84 + 9 * lnA N k + i)) ↔ lb Lo (N (84 + 9 * lnA N k + i)) := by
  have z := mem10 hw (hw.lb hk) i hi
  have n := dis_no hw h hk hi
  rw [z.1] at n ⊢
  rw [lb_or z.2]
  exact ⟨fun g => by rcases g with g | g; exact absurd g n; exact g, Or.inr⟩
theorem hs_bare {N : Nat → Int32} {L : Int32} {r f : Nat} (h : N (80 + 9 * r) = nI 6) : ∀ i, hs N L r f i = 0
  | 0 => rfl
  | i + 1 => by
    have g : ∀ p j la, grp N r p j la = 0 := fun p j la => by
      unfold grp gk
      rw [h, if_neg (by decide), if_neg (by decide), if_neg (by decide), if_neg (by decide), if_neg (by decide), if_pos (by decide)]
      rfl
    rw [hs, hs_bare h i, g]
    split <;> rfl
theorem hs_none {N : Nat → Int32} {L : Int32} {r f : Nat} (h : ∀ j, j < mny N r → ¬ lb L (N (84 + 9 * r + j))) (hf : f ≤ mny N r) : ∀ i, i ≤ mny N r → hs N L r f i = hs N 0 r f i
  | 0, _ => rfl
  | i + 1, hi => by
    have pc : ∀ k, k ≤ mny N r → pcnt N L r k = pcnt N 0 r k := by
      intro k
      induction k with
      | zero => intro _; rfl
      | succ k ih => intro hk; rw [pcnt, pcnt, ih (by omega), if_neg (h k (by omega)), if_neg (lb0 _)]
    have la : lastb N L r i = lastb N 0 r i := by
      unfold lastb
      apply decide_eq_decide.mpr
      exact ⟨fun g k hk hik => absurd (g k hk hik) (h k hk), fun g k hk hik => absurd (g k hk hik) (lb0 _)⟩
    rw [hs, hs, hs_none h hf i (by omega), pc i (by omega), pc f hf, la]
    have e : (i = f ∨ lb L (N (84 + 9 * r + i))) ↔ (i = f ∨ lb 0 (N (84 + 9 * r + i))) := ⟨fun g => by rcases g with g | g; exact Or.inl g; exact absurd g (h i (by omega)), fun g => by rcases g with g | g; exact Or.inl g; exact absurd g (lb0 _)⟩
    by_cases c : i = f ∨ lb L (N (84 + 9 * r + i))
    · rw [if_pos c, if_pos (e.mp c)]
    · rw [if_neg c, if_neg (fun g => c (e.mpr g))]
theorem hs_own {N : Nat → Int32} (hw : WF N) {k i : Nat} {Lt Lo : Int32} (h : Dis N k Lt) (g : OwL N (lnA N k) Lo) (hk : k < nv (N 4)) (hi : i < mny N (lnA N k)) (hn : ¬ lb Lo (N (84 + 9 * lnA N k + i))) : hs N (Lt ||| Lo) (lnA N k) i (mny N (lnA N k)) = hs N 0 (lnA N k) i (mny N (lnA N k)) := by
  by_cases c : nv (N (80 + 9 * lnA N k)) = 6
  · have e : N (80 + 9 * lnA N k) = nI 6 := by rw [← c]; exact (hw.ro (hw.lb hk)).1.1
    rw [hs_bare e, hs_bare e]
  · rcases g.2.1 c with e | e
    · refine hs_none (fun j hj => ?_) (Nat.le_of_lt hi) _ (Nat.le_refl _)
      rw [dis_or hw h hk hj, e]
      exact lb0 _
    · exact absurd (e i hi) hn
theorem OwL_x {N : Nat → Int32} (hw : WF N) {k i : Nat} {Lo : Int32} (g : OwL N (lnA N k) Lo) (hk : k < nv (N 4)) : OwL N (lnA N k) (Lo ||| lx N (lnA N k) i (mny N (lnA N k))) := by
  have hm := mem10 hw (hw.lb hk)
  refine ⟨fun p hp e => ?_, fun c => Or.inr (fun j hj => ?_), ?_⟩
  · rw [lb_or hp] at e
    rcases e with e | e
    · exact g.1 p hp e
    · exact lx_in hp hm _ (Nat.le_refl _) e
  · have z := hm j hj
    rw [z.1, lb_or z.2, ← z.1]
    exact Or.inr (lx_all c hm _ (Nat.le_refl _) j hj)
  · obtain ⟨a, ha, ea⟩ := g.2.2
    obtain ⟨b, hb, eb⟩ := lx_lt (i := i) hm _ (Nat.le_refl _)
    exact ⟨a ||| b, or_lt ha hb, by rw [ea, eb, nI_or]⟩
theorem Crs_e {N M : Nat → Int32} (hw : WF N) (he : Eqv N M) {cm of : Nat → Int32} (h : Crs N cm of (nv (N 4))) : Crs M cm of (nv (M 4)) := by
  have e4 : M 4 = N 4 := he.1 4 (by omega)
  have e2 : M 2 = N 2 := he.1 2 (by omega)
  intro j hj hp c hc
  rw [e4] at hj
  rw [lnA_e hw he, mny_e hw he (hw.lb hj)] at hp
  rw [e2] at hc
  rw [lnA_e hw he, arv_e hw he hj, pac_e hw he (hw.lb hj)]
  exact h j hj hp c hc
