/-! Rules with numbers as naturals; the shape of the reference. -/
theorem pa {x y : Int32} {a b : Nat} (h : x = nI a) (g : y = nI b) : x + y = nI (a + b) := by rw [h, g]; exact nI_add a b
theorem pm {x y : Int32} {a b : Nat} (h : x = nI a) (g : y = nI b) : x * y = nI (a * b) := by rw [h, g]; exact pk_mul a b
theorem ps {x y : Int32} {a b : Nat} (h : x = nI a) (g : y = nI b) (l : b ≤ a) : x - y = nI (a - b) := by rw [h, g]; exact pk_sub l
theorem pm1 {x : Int32} {a : Nat} (h : x = nI a) (l : 1 ≤ a) : x + (-1) = nI (a - 1) := by
  obtain ⟨b, rfl⟩ : ∃ b, a = b + 1 := ⟨a - 1, by omega⟩
  rw [h]; exact pk_m1 b
theorem pl (n : Nat) {x : Int32} (h : x = nI n) : x = nI n := h
theorem pz {x : Int32} {a b : Nat} (h : x = nI a) (e : a = b) : x = nI b := by rw [h, e]
abbrev nv (x : Int32) : Nat := x.toNatClampNeg
theorem nv_nI {n : Nat} (h : n < 2 ^ 31) : nv (nI n) = n := nI_clamp h
theorem nv_eq {x : Int32} (h : ¬ x < 0) : x = nI (nv x) := by
  obtain ⟨j, hj, rfl⟩ := nI_of h
  rw [nv_nI hj]
section
variable {G : Gl} {mi : MI} {d kc pc nx : Nat} {lv lv' : List (Nat × Value)} {rest : List Value} {S : Sh} {μ : Mu} {Q : Option Value → Sh → Mu → Prop}
theorem X_ialdN {a n k : Nat} {i : Int32} (hd : Dc mi.2.1 pc .iaload 1 nx) (hb : S.2 a = some (kI n)) (hi : i = nI k) (hk : k < n) (hn : n < 2 ^ 31) (kk : X G mi d kc nx lv (.int (μ a k) :: rest) S μ Q) : X G mi d kc pc lv (.int i :: .ref a :: rest) S μ Q := by
  subst hi
  refine X_iald hd hb (vp_in_nI hk hn) ?_
  rw [nI_clamp (by omega)]
  exact kk
theorem X_ialdCN {a n k : Nat} {i : Int32} (hd : Dc mi.2.1 pc .iaload 1 nx) (hb : S.2 a = some (kC n)) (hi : i = nI k) (hk : k < n) (hn : n < 2 ^ 31) (kk : X G mi d kc nx lv (.int (μ a k) :: rest) S μ Q) : X G mi d kc pc lv (.int i :: .ref a :: rest) S μ Q := by
  subst hi
  refine X_ialdC hd hb (vp_in_nI hk hn) ?_
  rw [nI_clamp (by omega)]
  exact kk
theorem X_iastN {a n k : Nat} {i x : Int32} (hd : Dc mi.2.1 pc .iastore 1 nx) (hb : S.2 a = some (kI n)) (hi : i = nI k) (hk : k < n) (hn : n < 2 ^ 31) (kk : X G mi d kc nx lv rest S (su μ a k x) Q) : X G mi d kc pc lv (.int x :: .int i :: .ref a :: rest) S μ Q := by
  subst hi
  refine X_iast hd hb (vp_in_nI hk hn) ?_
  rw [nI_clamp (by omega)]
  exact kk
theorem X_aaldN {a j n q k : Nat} {r : Nat → Option Nat} {i : Int32} (hd : Dc mi.2.1 pc .aaload 1 nx) (hb : S.2 a = some (kR j n r)) (hi : i = nI k) (hk : k < n) (hn : n < 2 ^ 31) (hr : r k = some q) (kk : X G mi d kc nx lv (.ref q :: rest) S μ Q) : X G mi d kc pc lv (.int i :: .ref a :: rest) S μ Q := by
  subst hi
  exact X_aald hd hb (vp_in_nI hk hn) (by rw [nI_clamp (by omega)]; exact hr) kk
theorem X_lvp {st : List Value} (ks : List Nat) (h : lv_pick lv ks = lv') (k : X G mi d kc pc lv' st S μ Q) : X G mi d kc pc lv st S μ Q := by
  refine X_lv (fun q hq => ?_) k
  rw [← h] at hq
  obtain ⟨i, -, hi⟩ := List.mem_filterMap.mp hq
  exact List.mem_of_getElem? hi
theorem X_icmp_eqN {x y : Int32} {a b : Nat} {off : Int} {tgt : Nat} (hd : Dc mi.2.1 pc (.if_icmp .eq off) 3 nx) (ht : (pc : Int) + off = (tgt : Int)) (ha : x = nI a) (hb : y = nI b) (ga2 : a < 2 ^ 31) (gb2 : b < 2 ^ 31) (kt : a = b → X G mi d kc tgt lv rest S μ Q) (kf : ¬ a = b → X G mi d kc nx lv rest S μ Q) : X G mi d kc pc lv (.int y :: .int x :: rest) S μ Q := by
  subst ha hb
  exact X_icmp_eq hd ht (fun z => kt ((nI_eq ga2 gb2).mp z)) (fun z => kf (fun q => z ((nI_eq ga2 gb2).mpr q)))
theorem X_if_eqN {x : Int32} {a : Nat} {off : Int} {tgt : Nat} (hd : Dc mi.2.1 pc (.ifCond .eq off) 3 nx) (ht : (pc : Int) + off = (tgt : Int)) (ha : x = nI a) (ga2 : a < 2 ^ 31) (kt : a = 0 → X G mi d kc tgt lv rest S μ Q) (kf : ¬ a = 0 → X G mi d kc nx lv rest S μ Q) : X G mi d kc pc lv (.int x :: rest) S μ Q := by
  subst ha
  have e : nI a = 0 ↔ a = 0 := nI_eq (b := 0) ga2 (by omega)
  exact X_if_eq hd ht (fun z => kt (e.mp z)) (fun z => kf (fun q => z (e.mpr q)))
theorem X_icmp_neN {x y : Int32} {a b : Nat} {off : Int} {tgt : Nat} (hd : Dc mi.2.1 pc (.if_icmp .ne off) 3 nx) (ht : (pc : Int) + off = (tgt : Int)) (ha : x = nI a) (hb : y = nI b) (ga2 : a < 2 ^ 31) (gb2 : b < 2 ^ 31) (kt : ¬ a = b → X G mi d kc tgt lv rest S μ Q) (kf : a = b → X G mi d kc nx lv rest S μ Q) : X G mi d kc pc lv (.int y :: .int x :: rest) S μ Q := by
  subst ha hb
  exact X_icmp_ne hd ht (fun z => kt (fun q => z ((nI_eq ga2 gb2).mpr q))) (fun z => kf ((nI_eq ga2 gb2).mp z))
theorem X_if_neN {x : Int32} {a : Nat} {off : Int} {tgt : Nat} (hd : Dc mi.2.1 pc (.ifCond .ne off) 3 nx) (ht : (pc : Int) + off = (tgt : Int)) (ha : x = nI a) (ga2 : a < 2 ^ 31) (kt : ¬ a = 0 → X G mi d kc tgt lv rest S μ Q) (kf : a = 0 → X G mi d kc nx lv rest S μ Q) : X G mi d kc pc lv (.int x :: rest) S μ Q := by
  subst ha
  have e : nI a = 0 ↔ a = 0 := nI_eq (b := 0) ga2 (by omega)
  exact X_if_ne hd ht (fun z => kt (fun q => z (e.mpr q))) (fun z => kf (e.mp z))
theorem X_icmp_ltN {x y : Int32} {a b : Nat} {off : Int} {tgt : Nat} (hd : Dc mi.2.1 pc (.if_icmp .lt off) 3 nx) (ht : (pc : Int) + off = (tgt : Int)) (ha : x = nI a) (hb : y = nI b) (ga2 : a < 2 ^ 31) (gb2 : b < 2 ^ 31) (kt : a < b → X G mi d kc tgt lv rest S μ Q) (kf : b ≤ a → X G mi d kc nx lv rest S μ Q) : X G mi d kc pc lv (.int y :: .int x :: rest) S μ Q := by
  subst ha hb
  exact X_icmp_lt hd ht (fun z => kt ((nI_ltI ga2 gb2).mp z)) (fun z => kf (by have := mt (nI_ltI ga2 gb2).mpr z; omega))
theorem X_icmp_geN {x y : Int32} {a b : Nat} {off : Int} {tgt : Nat} (hd : Dc mi.2.1 pc (.if_icmp .ge off) 3 nx) (ht : (pc : Int) + off = (tgt : Int)) (ha : x = nI a) (hb : y = nI b) (ga2 : a < 2 ^ 31) (gb2 : b < 2 ^ 31) (kt : b ≤ a → X G mi d kc tgt lv rest S μ Q) (kf : a < b → X G mi d kc nx lv rest S μ Q) : X G mi d kc pc lv (.int y :: .int x :: rest) S μ Q := by
  subst ha hb
  exact X_icmp_ge hd ht (fun z => kt ((nI_leI gb2 ga2).mp z)) (fun z => kf (by have := mt (nI_leI gb2 ga2).mpr z; omega))
theorem X_icmp_gtN {x y : Int32} {a b : Nat} {off : Int} {tgt : Nat} (hd : Dc mi.2.1 pc (.if_icmp .gt off) 3 nx) (ht : (pc : Int) + off = (tgt : Int)) (ha : x = nI a) (hb : y = nI b) (ga2 : a < 2 ^ 31) (gb2 : b < 2 ^ 31) (kt : b < a → X G mi d kc tgt lv rest S μ Q) (kf : a ≤ b → X G mi d kc nx lv rest S μ Q) : X G mi d kc pc lv (.int y :: .int x :: rest) S μ Q := by
  subst ha hb
  exact X_icmp_gt hd ht (fun z => kt ((nI_ltI gb2 ga2).mp z)) (fun z => kf (by have := mt (nI_ltI gb2 ga2).mpr z; omega))
theorem X_icmp_leN {x y : Int32} {a b : Nat} {off : Int} {tgt : Nat} (hd : Dc mi.2.1 pc (.if_icmp .le off) 3 nx) (ht : (pc : Int) + off = (tgt : Int)) (ha : x = nI a) (hb : y = nI b) (ga2 : a < 2 ^ 31) (gb2 : b < 2 ^ 31) (kt : a ≤ b → X G mi d kc tgt lv rest S μ Q) (kf : b < a → X G mi d kc nx lv rest S μ Q) : X G mi d kc pc lv (.int y :: .int x :: rest) S μ Q := by
  subst ha hb
  exact X_icmp_le hd ht (fun z => kt ((nI_leI ga2 gb2).mp z)) (fun z => kf (by have := mt (nI_leI ga2 gb2).mpr z; omega))
theorem X_if_ltN {x : Int32} {a : Nat} {off : Int} {tgt : Nat} (hd : Dc mi.2.1 pc (.ifCond .lt off) 3 nx) (ht : (pc : Int) + off = (tgt : Int)) (ha : x = nI a) (ga2 : a < 2 ^ 31) (kf : X G mi d kc nx lv rest S μ Q) : X G mi d kc pc lv (.int x :: rest) S μ Q := by
  subst ha
  exact X_if_lt hd ht (fun z => absurd z (nI_pos ga2)) (fun _ => kf)
theorem X_if_geN {x : Int32} {a : Nat} {off : Int} {tgt : Nat} (hd : Dc mi.2.1 pc (.ifCond .ge off) 3 nx) (ht : (pc : Int) + off = (tgt : Int)) (ha : x = nI a) (ga2 : a < 2 ^ 31) (kt : X G mi d kc tgt lv rest S μ Q) : X G mi d kc pc lv (.int x :: rest) S μ Q := by
  subst ha
  exact X_if_ge hd ht (fun _ => kt) (fun z => absurd (nI_pos' ga2) z)
theorem X_if_leN {x : Int32} {a : Nat} {off : Int} {tgt : Nat} (hd : Dc mi.2.1 pc (.ifCond .le off) 3 nx) (ht : (pc : Int) + off = (tgt : Int)) (ha : x = nI a) (ga2 : a < 2 ^ 31) (kt : a = 0 → X G mi d kc tgt lv rest S μ Q) (kf : 0 < a → X G mi d kc nx lv rest S μ Q) : X G mi d kc pc lv (.int x :: rest) S μ Q := by
  subst ha
  exact X_if_le hd ht (fun z => kt ((nI_leI (b := 0) ga2 (by omega)).mp z |> Nat.le_zero.mp)) (fun z => kf (Nat.pos_of_ne_zero fun q => z (by rw [q]; decide)))
theorem X_if_gtN {x : Int32} {a : Nat} {off : Int} {tgt : Nat} (hd : Dc mi.2.1 pc (.ifCond .gt off) 3 nx) (ht : (pc : Int) + off = (tgt : Int)) (ha : x = nI a) (ga2 : a < 2 ^ 31) (kt : 0 < a → X G mi d kc tgt lv rest S μ Q) (kf : a = 0 → X G mi d kc nx lv rest S μ Q) : X G mi d kc pc lv (.int x :: rest) S μ Q := by
  subst ha
  exact X_if_gt hd ht (fun z => kt ((nI_ltI (a := 0) (by omega) ga2).mp z)) (fun z => kf (Nat.eq_zero_of_not_pos fun q => z ((nI_ltI (a := 0) (by omega) ga2).mpr q)))
end
def rM (o k : Nat) : Option Nat := match k with
  | 0 => some (o + 1)
  | 1 => some (o + 2)
  | 2 => some (o + 3)
  | 4 => some (o + 4)
  | 6 => some (o + 5)
  | 11 => some (o + 6)
  | 13 => some (o + 7)
  | 14 => some (o + 8)
  | 15 => some (o + 9)
  | 16 => some (o + 10)
  | 18 => some (o + 11)
  | 19 => some (o + 12)
  | 21 => some (o + 13)
  | 24 => some (o + 14)
  | 25 => some (o + 15)
  | 26 => some (o + 16)
  | 27 => some (o + 17)
  | _ => none
/-- the reference: its cells; q: the two texts of names -/
def MS (S : Sh) (o : Nat) (q : Nat → Nat) : Prop := S.2 o = some (kO 10 (rM o)) ∧ S.2 (o + 1) = some (kI 314) ∧ S.2 (o + 2) = some (kI 314) ∧ S.2 (o + 3) = some (kI 314) ∧ S.2 (o + 4) = some (kI 6) ∧ S.2 (o + 5) = some (kR 2 2 (fun k => some (q k))) ∧ S.2 (o + 6) = some (kI 60) ∧ S.2 (o + 7) = some (kI 5) ∧ S.2 (o + 8) = some (kI 60) ∧ S.2 (o + 9) = some (kI 48) ∧ S.2 (o + 10) = some (kI 6) ∧ S.2 (o + 11) = some (kI 6) ∧ S.2 (o + 12) = some (kI 6) ∧ S.2 (o + 13) = some (kI 40) ∧ S.2 (o + 14) = some (kI 4) ∧ S.2 (o + 15) = some (kI 4) ∧ S.2 (o + 16) = some (kI 160) ∧ S.2 (o + 17) = some (kI 40)
theorem MS.f0 {S : Sh} {o : Nat} {q : Nat → Nat} (h : MS S o q) : S.2 o = some (kO 10 (rM o)) := h.1
theorem MS.f1 {S : Sh} {o : Nat} {q : Nat → Nat} (h : MS S o q) : S.2 (o + 1) = some (kI 314) := h.2.1
theorem MS.f2 {S : Sh} {o : Nat} {q : Nat → Nat} (h : MS S o q) : S.2 (o + 2) = some (kI 314) := h.2.2.1
theorem MS.f3 {S : Sh} {o : Nat} {q : Nat → Nat} (h : MS S o q) : S.2 (o + 3) = some (kI 314) := h.2.2.2.1
theorem MS.f4 {S : Sh} {o : Nat} {q : Nat → Nat} (h : MS S o q) : S.2 (o + 4) = some (kI 6) := h.2.2.2.2.1
theorem MS.f5 {S : Sh} {o : Nat} {q : Nat → Nat} (h : MS S o q) : S.2 (o + 5) = some (kR 2 2 (fun k => some (q k))) := h.2.2.2.2.2.1
theorem MS.f6 {S : Sh} {o : Nat} {q : Nat → Nat} (h : MS S o q) : S.2 (o + 6) = some (kI 60) := h.2.2.2.2.2.2.1
theorem MS.f7 {S : Sh} {o : Nat} {q : Nat → Nat} (h : MS S o q) : S.2 (o + 7) = some (kI 5) := h.2.2.2.2.2.2.2.1
theorem MS.f8 {S : Sh} {o : Nat} {q : Nat → Nat} (h : MS S o q) : S.2 (o + 8) = some (kI 60) := h.2.2.2.2.2.2.2.2.1
theorem MS.f9 {S : Sh} {o : Nat} {q : Nat → Nat} (h : MS S o q) : S.2 (o + 9) = some (kI 48) := h.2.2.2.2.2.2.2.2.2.1
theorem MS.f10 {S : Sh} {o : Nat} {q : Nat → Nat} (h : MS S o q) : S.2 (o + 10) = some (kI 6) := h.2.2.2.2.2.2.2.2.2.2.1
theorem MS.f11 {S : Sh} {o : Nat} {q : Nat → Nat} (h : MS S o q) : S.2 (o + 11) = some (kI 6) := h.2.2.2.2.2.2.2.2.2.2.2.1
theorem MS.f12 {S : Sh} {o : Nat} {q : Nat → Nat} (h : MS S o q) : S.2 (o + 12) = some (kI 6) := h.2.2.2.2.2.2.2.2.2.2.2.2.1
theorem MS.f13 {S : Sh} {o : Nat} {q : Nat → Nat} (h : MS S o q) : S.2 (o + 13) = some (kI 40) := h.2.2.2.2.2.2.2.2.2.2.2.2.2.1
theorem MS.f14 {S : Sh} {o : Nat} {q : Nat → Nat} (h : MS S o q) : S.2 (o + 14) = some (kI 4) := h.2.2.2.2.2.2.2.2.2.2.2.2.2.2.1
theorem MS.f15 {S : Sh} {o : Nat} {q : Nat → Nat} (h : MS S o q) : S.2 (o + 15) = some (kI 4) := h.2.2.2.2.2.2.2.2.2.2.2.2.2.2.2.1
theorem MS.f16 {S : Sh} {o : Nat} {q : Nat → Nat} (h : MS S o q) : S.2 (o + 16) = some (kI 160) := h.2.2.2.2.2.2.2.2.2.2.2.2.2.2.2.2.1
theorem MS.f17 {S : Sh} {o : Nat} {q : Nat → Nat} (h : MS S o q) : S.2 (o + 17) = some (kI 40) := h.2.2.2.2.2.2.2.2.2.2.2.2.2.2.2.2.2
