theorem bv_and1 (b : BitVec 32) : b &&& 1#32 = 1#32 ↔ b.getLsbD 0 = true := by
  constructor
  · intro h
    have := congrArg (fun z => z.getLsbD 0) h
    simpa using this
  · intro h
    apply BitVec.eq_of_getLsbD_eq
    intro i hi
    rw [BitVec.getLsbD_and, BitVec.getLsbD_one]
    by_cases e : i = 0
    · subst e; simp [h]
    · simp [e]
theorem shr_k : ∀ p, p < 10 → ((nI p &&& 31 : Int32).toBitVec.smod 32).toNat = p := by decide
theorem lb_bit {x : Int32} {p : Nat} (hp : p < 10) : lb x (nI p) ↔ x.toBitVec.getLsbD p = true := by
  unfold lb
  rw [← Int32.toBitVec_inj, Int32.toBitVec_and, Int32.toBitVec_shiftRight]
  rw [show x.toBitVec.sshiftRight' ((nI p &&& 31 : Int32).toBitVec.smod 32) = x.toBitVec.sshiftRight p from by unfold BitVec.sshiftRight'; rw [shr_k p hp]]
  rw [show (1 : Int32).toBitVec = 1#32 from rfl, bv_and1, BitVec.getLsbD_sshiftRight]
  simp [show p < 32 by omega]
theorem lb_and {x y : Int32} {p : Nat} (hp : p < 10) : lb (x &&& y) (nI p) ↔ lb x (nI p) ∧ lb y (nI p) := by
  rw [lb_bit hp, lb_bit hp, lb_bit hp, Int32.toBitVec_and, BitVec.getLsbD_and, Bool.and_eq_true]
theorem lb_or {x y : Int32} {p : Nat} (hp : p < 10) : lb (x ||| y) (nI p) ↔ lb x (nI p) ∨ lb y (nI p) := by
  rw [lb_bit hp, lb_bit hp, lb_bit hp, Int32.toBitVec_or, BitVec.getLsbD_or, Bool.or_eq_true]
theorem lb_not {x : Int32} {p : Nat} (hp : p < 10) : lb (x ^^^ -1) (nI p) ↔ ¬ lb x (nI p) := by
  rw [lb_bit hp, lb_bit hp, Int32.toBitVec_xor, BitVec.getLsbD_xor]
  have e : (-1 : Int32).toBitVec.getLsbD p = true := by
    have : ∀ p, p < 10 → (-1 : Int32).toBitVec.getLsbD p = true := by decide
    exact this p hp
  rw [e]
  cases x.toBitVec.getLsbD p <;> simp
theorem lb_one : ∀ q, q < 10 → ∀ p, p < 10 → (lb (1 <<< (nI q &&& 31)) (nI p) ↔ p = q) := by decide
theorem lb_sub {x y : Int32} (h : x &&& (y ^^^ -1) = 0) {p : Nat} (hp : p < 10) (hx : lb x (nI p)) : lb y (nI p) := by
  rcases Classical.em (lb y (nI p)) with g | g
  · exact g
  · exfalso
    have z := (lb_and hp).mpr ⟨hx, (lb_not hp).mpr g⟩
    rw [h] at z
    exact lb0 _ z
theorem lb_zero {p : Nat} : ¬ lb 0 (nI p) := lb0 _
/-- those of a set below k, by numbers -/
def slc (L : Int32) : Nat → Nat
  | 0 => 0
  | k + 1 => if lb L (nI k) then slc L k + 1 else slc L k
def slf (L : Int32) : Nat → Nat → Nat
  | 0 => fun _ => 0
  | k + 1 => if lb L (nI k) then (fun i => if i = slc L k then k else slf L k i) else slf L k
theorem slc_le (L : Int32) : ∀ k, slc L k ≤ k
  | 0 => Nat.le_refl 0
  | k + 1 => by
    have := slc_le L k
    rw [slc]
    split <;> omega
theorem slc_t {L : Int32} {k : Nat} (h : lb L (nI k)) : slc L (k + 1) = slc L k + 1 := if_pos h
theorem slc_f {L : Int32} {k : Nat} (h : ¬ lb L (nI k)) : slc L (k + 1) = slc L k := if_neg h
theorem slf_t {L : Int32} {k : Nat} (h : lb L (nI k)) : slf L (k + 1) = fun i => if i = slc L k then k else slf L k i := if_pos h
theorem slf_f {L : Int32} {k : Nat} (h : ¬ lb L (nI k)) : slf L (k + 1) = slf L k := if_neg h
theorem slf_in {L : Int32} : ∀ k i, i < slc L k → slf L k i < k ∧ lb L (nI (slf L k i))
  | 0, i, h => by cases h
  | k + 1, i, h => by
    by_cases c : lb L (nI k)
    · rw [slc_t c] at h
      rw [slf_t c]
      by_cases e : i = slc L k
      · simp only [e, if_true]
        exact ⟨by omega, c⟩
      · simp only [e, if_false]
        have := slf_in (L := L) k i (by omega)
        exact ⟨by omega, this.2⟩
    · rw [slc_f c] at h
      rw [slf_f c]
      have := slf_in k i h
      exact ⟨by omega, this.2⟩
theorem slf_inj {L : Int32} : ∀ k i j, i < slc L k → j < slc L k → slf L k i = slf L k j → i = j
  | 0, i, j, h, _, _ => by cases h
  | k + 1, i, j, h, g, e => by
    by_cases c : lb L (nI k)
    · rw [slc_t c] at h g
      rw [slf_t c] at e
      dsimp only at e
      by_cases e1 : i = slc L k
      · by_cases e2 : j = slc L k
        · omega
        · rw [if_pos e1, if_neg e2] at e
          have := (slf_in (L := L) k j (by omega)).1
          omega
      · by_cases e2 : j = slc L k
        · rw [if_neg e1, if_pos e2] at e
          have := (slf_in (L := L) k i (by omega)).1
          omega
        · rw [if_neg e1, if_neg e2] at e
          exact slf_inj k i j (by omega) (by omega) e
    · rw [slc_f c] at h g
      rw [slf_f c] at e
      exact slf_inj k i j h g e
