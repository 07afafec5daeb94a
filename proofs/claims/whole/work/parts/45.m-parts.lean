theorem nI_or (x y : Nat) : nI (x ||| y) = nI x ||| nI y := by
  apply Int32.toBitVec_inj.mp
  rw [Int32.toBitVec_or]
  apply BitVec.eq_of_getLsbD_eq
  intro i hi
  rw [BitVec.getLsbD_or]
  show (BitVec.ofNat 32 (x ||| y)).getLsbD i = ((BitVec.ofNat 32 x).getLsbD i || (BitVec.ofNat 32 y).getLsbD i)
  simp only [BitVec.getLsbD_ofNat, Nat.testBit_or]
  cases decide (i < 32) <;> simp
theorem nI_sh : ∀ p, p < 10 → (1 : Int32) <<< (nI p &&& 31) = nI (2 ^ p) := by decide
/-- those on either of two ropes -/
def al (N : Nat → Int32) (a b : Nat) : Nat → Nat
  | 0 => 0
  | i + 1 => (al N a b i ||| (if i < mny N a then 2 ^ nv (N (84 + 9 * a + i)) else 0)) ||| (if i < mny N b then 2 ^ nv (N (84 + 9 * b + i)) else 0)
theorem two_lt {p : Nat} (h : p < 10) : 2 ^ p < 2 ^ 10 := Nat.pow_lt_pow_right (by decide) h
theorem al_lt {N : Nat → Int32} (hw : WF N) {a b : Nat} (ha : a < nv (N 3)) (hb : b < nv (N 3)) : ∀ k, al N a b k < 2 ^ 10
  | 0 => by show 0 < _; decide
  | i + 1 => by
    have ih := al_lt hw ha hb i
    have b1 := hw.n1.2
    rw [al]
    refine Nat.or_lt_two_pow (Nat.or_lt_two_pow ih ?_) ?_
    · split
      · rename_i h
        have := ((hw.ro ha).2.2.2.2 i h).2
        exact two_lt (by omega)
      · decide
    · split
      · rename_i h
        have := ((hw.ro hb).2.2.2.2 i h).2
        exact two_lt (by omega)
      · decide
theorem lb_al {N : Nat → Int32} (hw : WF N) {a b : Nat} (ha : a < nv (N 3)) (hb : b < nv (N 3)) {p : Nat} (hp : p < 10) : ∀ k, lb (nI (al N a b k)) (nI p) → ∃ i, On N a i p ∨ On N b i p
  | 0, h => absurd h (by have : nI 0 = 0 := rfl
                         show ¬ lb (nI 0) _
                         rw [this]
                         exact lb_zero)
  | i + 1, h => by
    have b1 := hw.n1.2
    rw [al, nI_or, lb_or hp, nI_or, lb_or hp] at h
    rcases h with (h | h) | h
    · exact lb_al hw ha hb hp i h
    · by_cases c : i < mny N a
      · rw [if_pos c] at h
        have z := (hw.ro ha).2.2.2.2 i c
        rw [← nI_sh _ (by omega), lb_one _ (by omega) _ hp] at h
        exact ⟨i, Or.inl ⟨ha, c, by rw [z.1, h]⟩⟩
      · rw [if_neg c] at h
        exact absurd h (by rw [show nI 0 = 0 from rfl]; exact lb_zero)
    · by_cases c : i < mny N b
      · rw [if_pos c] at h
        have z := (hw.ro hb).2.2.2.2 i c
        rw [← nI_sh _ (by omega), lb_one _ (by omega) _ hp] at h
        exact ⟨i, Or.inr ⟨hb, c, by rw [z.1, h]⟩⟩
      · rw [if_neg c] at h
        exact absurd h (by rw [show nI 0 = 0 from rfl]; exact lb_zero)
abbrev rsN (N : Nat → Int32) (a b s : Nat) : Int32 := nI (al N a b 5) &&& (nI s ^^^ -1)
def okP (N : Nat → Int32) (a b s : Nat) : Prop := nI s &&& (nI (al N a b 5) ^^^ -1) = 0 ∧ slc (nI s) 10 ≤ 5 ∧ slc (rsN N a b s) 10 ≤ 5
def ptR (N : Nat → Int32) (r : Nat) (L : Int32) : Nat → Int32 := fun x => if x = 83 + 9 * r then nI (slc L 10) else if 84 + 9 * r ≤ x ∧ x < 84 + 9 * r + slc L 10 then nI (slf L 10 (x - (84 + 9 * r))) else N x
def ptN (N : Nat → Int32) (a b s : Nat) : Nat → Int32 := ptR (ptR N a (nI s)) b (rsN N a b s)
noncomputable def tlP (N : Nat → Int32) (a b s : Nat) : Nat := toll (ptN N a b s)
theorem ptR_p {N : Nat → Int32} {r : Nat} {L : Int32} (h : slc L 10 ≤ 5) : Prt N (ptR N r L) r L := by
  refine ⟨fun x hx => ?_, if_pos rfl, fun i hi => ?_⟩
  · unfold ptR
    rw [if_neg (by omega), if_neg (by omega)]
  · unfold ptR
    rw [if_neg (by omega), if_pos (by omega), show 84 + 9 * r + i - (84 + 9 * r) = i by omega]
/-- two ropes parted anew -/
def Two (N M : Nat → Int32) (a b : Nat) (L1 L2 : Int32) : Prop := (∀ x, (x < 83 + 9 * a ∨ 89 + 9 * a ≤ x) → (x < 83 + 9 * b ∨ 89 + 9 * b ≤ x) → M x = N x) ∧ (M (83 + 9 * a) = nI (slc L1 10) ∧ ∀ i, i < slc L1 10 → M (84 + 9 * a + i) = nI (slf L1 10 i)) ∧ (M (83 + 9 * b) = nI (slc L2 10) ∧ ∀ i, i < slc L2 10 → M (84 + 9 * b + i) = nI (slf L2 10 i))
theorem Two.of {N N1 M1 M2 : Nat → Int32} {a b : Nat} {L1 L2 : Int32} (hab : a ≠ b) (h1c : slc L1 10 ≤ 5) (h : ∀ x, (x < 83 + 9 * a ∨ 89 + 9 * a ≤ x) → (x < 83 + 9 * b ∨ 89 + 9 * b ≤ x) → N1 x = N x) (p1 : Prt N1 M1 a L1) (p2 : Prt M1 M2 b L2) : Two N M2 a b L1 L2 := by
  refine ⟨fun x hx hy => ?_, ⟨?_, fun i hi => ?_⟩, ⟨p2.2.1, p2.2.2⟩⟩
  · rw [p2.1 x hy, p1.1 x hx, h x hx hy]
  · rw [p2.1 _ (by omega), p1.2.1]
  · rw [p2.1 _ (by omega), p1.2.2 i hi]
theorem Two.eqv {N M M' : Nat → Int32} {a b : Nat} {L1 L2 : Int32} (hw : WF N) (ha : a < nv (N 3)) (hb : b < nv (N 3)) (h1c : slc L1 10 ≤ 5) (h2c : slc L2 10 ≤ 5) (h : Two N M a b L1 L2) (g : Two N M' a b L1 L2)   : Eqv M M' := by
  have b3 := hw.n3.2
  have e3 : M 3 = N 3 := h.1 3 (by omega) (by omega)
  refine ⟨fun x hx => by rw [h.1 x (by omega) (by omega), g.1 x (by omega) (by omega)], fun r hr => ?_⟩
  rw [e3] at hr
  refine ⟨?_, ?_, ?_, ?_, fun i hi => ?_⟩
  · rw [h.1 _ (by omega) (by omega), g.1 _ (by omega) (by omega)]
  · rw [h.1 _ (by omega) (by omega), g.1 _ (by omega) (by omega)]
  · rw [h.1 _ (by omega) (by omega), g.1 _ (by omega) (by omega)]
  · by_cases c1 : r = a
    · subst c1; rw [h.2.1.1, g.2.1.1]
    · by_cases c2 : r = b
      · subst c2; rw [h.2.2.1, g.2.2.1]
      · rw [h.1 _ (by omega) (by omega), g.1 _ (by omega) (by omega)]
  · by_cases c1 : r = a
    · subst c1
      rw [h.2.1.1, nv_nI (by omega)] at hi
      rw [h.2.1.2 i hi, g.2.1.2 i hi]
    · by_cases c2 : r = b
      · subst c2
        rw [h.2.2.1, nv_nI (by omega)] at hi
        rw [h.2.2.2 i hi, g.2.2.2 i hi]
      · rw [h.1 _ (by omega) (by omega)] at hi
        have := (hw.ro hr).2.2.2.1.2
        rw [h.1 _ (by omega) (by omega), g.1 _ (by omega) (by omega)]
theorem WF_two {N M : Nat → Int32} (hw : WF N) {a b : Nat} (ha : a < nv (N 3)) (hb : b < nv (N 3)) (hab : a ≠ b) {L1 L2 : Int32} (c1 : slc L1 10 ≤ 5) (c2 : slc L2 10 ≤ 5) (hm1 : ∀ p, p < 10 → lb L1 (nI p) → ∃ i, On N a i p ∨ On N b i p) (hm2 : ∀ p, p < 10 → lb L2 (nI p) → ∃ i, On N a i p ∨ On N b i p) (hd : ∀ p, p < 10 → lb L1 (nI p) → lb L2 (nI p) → False) (h : Two N M a b L1 L2) : WF M := by
  have b3 := hw.n3.2
  have b1 := hw.n1.2
  have ip : ∀ p i, On N a i p ∨ On N b i p → p < 10 → p < nv (N 1) := by
    intro p i g hp
    rcases g with g | g
    · have z := ((hw.ro ha).2.2.2.2 i g.2.1)
      rw [g.2.2, nv_nI (by omega)] at z
      exact z.2
    · have z := ((hw.ro hb).2.2.2.2 i g.2.1)
      rw [g.2.2, nv_nI (by omega)] at z
      exact z.2
  have f1 : ∀ i, i < slc L1 10 → slf L1 10 i < nv (N 1) := fun i hi => by
    have z := slf_in 10 i hi
    obtain ⟨j, g⟩ := hm1 _ z.1 z.2
    exact ip _ _ g z.1
  have f2 : ∀ i, i < slc L2 10 → slf L2 10 i < nv (N 1) := fun i hi => by
    have z := slf_in 10 i hi
    obtain ⟨j, g⟩ := hm2 _ z.1 z.2
    exact ip _ _ g z.1
  -- both empty
  have wa : WF (upd N (83 + 9 * a) (nI 0)) := WF_row (f := fun _ => 0) (m := 0) hw ha (by decide) (fun x hx => upd_ne _ _ (by omega)) (upd_at _ _ _) (fun i hi => absurd hi (Nat.not_lt_zero i)) (fun i j hi => absurd hi (Nat.not_lt_zero i)) (fun i hi => absurd hi (Nat.not_lt_zero i))
  have a3 : upd N (83 + 9 * a) (nI 0) 3 = N 3 := upd_ne _ _ (by omega)
  have wb : WF (upd (upd N (83 + 9 * a) (nI 0)) (83 + 9 * b) (nI 0)) := WF_row (f := fun _ => 0) (m := 0) wa (by rw [a3]; exact hb) (by decide) (fun x hx => upd_ne _ _ (by omega)) (upd_at _ _ _) (fun i hi => absurd hi (Nat.not_lt_zero i)) (fun i j hi => absurd hi (Nat.not_lt_zero i)) (fun i hi => absurd hi (Nat.not_lt_zero i))
  have hN0 : ∀ x, x ≠ 83 + 9 * a → x ≠ 83 + 9 * b → upd (upd N (83 + 9 * a) (nI 0)) (83 + 9 * b) (nI 0) x = N x := fun x h1 h2 => by rw [upd_ne _ _ h2, upd_ne _ _ h1]
  have hA0 : upd (upd N (83 + 9 * a) (nI 0)) (83 + 9 * b) (nI 0) (83 + 9 * a) = nI 0 := by rw [upd_ne _ _ (by omega), upd_at]
  have hB0 : upd (upd N (83 + 9 * a) (nI 0)) (83 + 9 * b) (nI 0) (83 + 9 * b) = nI 0 := upd_at _ _ _
  generalize upd (upd N (83 + 9 * a) (nI 0)) (83 + 9 * b) (nI 0) = N0 at wb hN0 hA0 hB0
  have on0 : ∀ r i p, On N0 r i p → r ≠ a ∧ r ≠ b ∧ On N r i p := by
    intro r i p g
    have hr : r < nv (N 3) := by rw [← hN0 3 (by omega) (by omega)]; exact g.1
    have ra : r ≠ a := fun e => by
      have z := g.2.1
      rw [e, hA0, nv_nI (by decide)] at z
      exact absurd z (Nat.not_lt_zero _)
    have rb : r ≠ b := fun e => by
      have z := g.2.1
      rw [e, hB0, nv_nI (by decide)] at z
      exact absurd z (Nat.not_lt_zero _)
    have hi := g.2.1
    rw [hN0 _ (by omega) (by omega)] at hi
    have := (hw.ro hr).2.2.2.1.2
    exact ⟨ra, rb, hr, hi, by rw [← hN0 (84 + 9 * r + i) (by omega) (by omega)]; exact g.2.2⟩
  have free : ∀ p r i, p < 10 → (∃ j, On N a j p ∨ On N b j p) → ¬ On N0 r i p := by
    intro p r i hp hj g
    obtain ⟨ra, rb, g⟩ := on0 _ _ _ g
    obtain ⟨j, hj | hj⟩ := hj
    · exact ra (hw.un g hj).1
    · exact rb (hw.un g hj).1
  -- the first one filled
  have z3 : N0 3 = N 3 := hN0 3 (by omega) (by omega)
  have z1 : N0 1 = N 1 := hN0 1 (by omega) (by omega)
  have w1 : WF (fun x => if 83 + 9 * a ≤ x ∧ x < 89 + 9 * a then M x else N0 x) := by
    refine WF_row (m := slc L1 10) (f := slf L1 10) wb (r := a) (by rw [z3]; exact ha) c1 (fun x hx => if_neg (by omega)) ?_ (fun i hi => ?_) (fun i j hi hj e => slf_inj 10 i j hi hj e) (fun i hi r' i' hne => ?_)
    · rw [if_pos (by omega)]
      exact h.2.1.1
    · rw [if_pos (by omega), z1]
      exact ⟨h.2.1.2 i hi, f1 i hi⟩
    · exact free _ _ _ (slf_in 10 i hi).1 (hm1 _ (slf_in 10 i hi).1 (slf_in 10 i hi).2)
  have hN1 : ∀ x, x < 83 + 9 * a ∨ 89 + 9 * a ≤ x → (fun x => if 83 + 9 * a ≤ x ∧ x < 89 + 9 * a then M x else N0 x) x = N0 x := fun x hx => if_neg (by omega)
  have hA1 : ∀ x, 83 + 9 * a ≤ x → x < 89 + 9 * a → (fun x => if 83 + 9 * a ≤ x ∧ x < 89 + 9 * a then M x else N0 x) x = M x := fun x h1 h2 => if_pos ⟨h1, h2⟩
  generalize (fun x => if 83 + 9 * a ≤ x ∧ x < 89 + 9 * a then M x else N0 x) = N1 at w1 hN1 hA1
  have y3 : N1 3 = N 3 := (hN1 3 (by omega)).trans z3
  have y1 : N1 1 = N 1 := (hN1 1 (by omega)).trans z1
  refine WF_row (m := slc L2 10) (f := slf L2 10) w1 (r := b) (by rw [y3]; exact hb) c2 (fun x hx => ?_) h.2.2.1 (fun i hi => ?_) (fun i j hi hj e => slf_inj 10 i j hi hj e) (fun i hi r' i' hne g => ?_)
  · by_cases c : 83 + 9 * a ≤ x ∧ x < 89 + 9 * a
    · rw [hA1 x c.1 c.2]
    · rw [hN1 x (by omega), hN0 x (by omega) (by omega)]
      exact h.1 x (by omega) hx
  · rw [y1]
    exact ⟨h.2.2.2 i hi, f2 i hi⟩
  · have zi := slf_in 10 i hi
    by_cases c : r' = a
    · subst c
      have hi' := g.2.1
      rw [hA1 _ (by omega) (by omega), h.2.1.1, nv_nI (by omega)] at hi'
      have e := g.2.2
      rw [hA1 _ (by omega) (by omega), h.2.1.2 i' hi'] at e
      have zj := slf_in 10 i' hi'
      have e2 := congrArg nv e
      rw [nv_nI (by omega), nv_nI (by omega)] at e2
      exact hd _ zi.1 (by rw [← e2]; exact zj.2) zi.2
    · have hr' : r' < nv (N 3) := by rw [← y3]; exact g.1
      have hi' := g.2.1
      rw [hN1 _ (by omega), hN0 _ (by omega) (by omega)] at hi'
      have := (hw.ro hr').2.2.2.1.2
      refine free _ r' i' zi.1 (hm2 _ zi.1 zi.2) ⟨by rw [z3]; exact hr', ?_, ?_⟩
      · rw [hN0 _ (by omega) (by omega)]; exact hi'
      · rw [← hN1 (84 + 9 * r' + i') (by omega)]; exact g.2.2
