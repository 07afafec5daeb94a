/-- a reader's state: the place, whether it is wrong, how many codes, the codes -/
abbrev Ps := Nat × Bool × Nat × (Nat → Int32)
def bN (b : Bool) : Nat := if b then 1 else 0
theorem bN_t : bN true = 1 := rfl
theorem bN_f : bN false = 0 := rfl
theorem bN_0 {b : Bool} (h : bN b = 0) : b = false := by cases b; rfl; cases h
theorem bN_1 {b : Bool} (h : ¬ bN b = 0) : b = true := by cases b; exact absurd rfl h; rfl
theorem bN_le (b : Bool) : bN b ≤ 1 := by cases b <;> decide
def hr (T : Nat → Int32) (n : Nat) (s : Ps) : Int32 := if s.2.1 = true then -1 else if s.1 < n then T s.1 else -1
def em (s : Ps) (v : Int32) : Ps := if s.2.1 = true then s else (s.1, false, s.2.2.1 + 1, upd s.2.2.2 s.2.2.1 v)
def ad (s : Ps) : Ps := (s.1 + 1, s.2)
def bad (s : Ps) : Ps := (s.1, true, s.2.2)
def lvl (b : Int32) : Nat := if b = 124 then 0 else if b = 38 then 1 else if b = 60 then 2 else if b = 61 then 2 else if b = 62 then 2 else if b = 43 then 3 else if b = 45 then 3 else if b = 42 then 4 else if b = 47 then 4 else if b = 37 then 4 else 9
def opc (b : Int32) : Int32 := if b = 124 then 20000 else if b = 38 then 20001 else if b = 60 then 20002 else if b = 61 then 20003 else if b = 62 then 20004 else if b = 43 then 20005 else if b = 45 then 20006 else if b = 42 then 20007 else if b = 47 then 20008 else 20009
def num (T : Nat → Int32) (n : Nat) : Nat → Ps → Int32 → Ps × Int32
  | 0, s, v => (s, v)
  | k + 1, s, v => if 48 ≤ hr T n s ∧ hr T n s ≤ 57 then num T n k (ad s) (10 * v + hr T n s - 48) else (s, v)
def cl (T : Nat → Int32) (n : Nat) (s : Ps) : Ps := if hr T n s = 41 then ad s else bad s
/-- reads: mode 0 a level from its start (5: a factor), mode 1 the rest of a level -/
def pF (T : Nat → Int32) (n : Nat) (nm : Int32 → Int32) : Nat → Nat → Nat → Nat → Ps → Ps
  | 0, _, _, _, s => s
  | f + 1, 0, l, o, s =>
    if l < 5 then pF T n nm f 1 l o (pF T n nm f 0 (l + 1) o s)
    else if hr T n s = 33 ∨ hr T n s = 40 then
      (if o = 5 then bad s else if hr T n s = 33 then em (pF T n nm f 0 5 (o + 1) (ad s)) 20010 else cl T n (pF T n nm f 0 0 (o + 1) (ad s)))
    else if 48 ≤ hr T n s ∧ hr T n s ≤ 57 then em (num T n 4 s 0).1 (num T n 4 s 0).2
    else if hr T n s < 0 ∨ nm (hr T n s) < 0 then bad s else ad (em s (10000 + nm (hr T n s)))
  | f + 1, _ + 1, l, o, s =>
    if lvl (hr T n s) = l then (if l = 2 then em (pF T n nm f 0 (l + 1) o (ad s)) (opc (hr T n s)) else pF T n nm f 1 l o (em (pF T n nm f 0 (l + 1) o (ad s)) (opc (hr T n s)))) else s
section
variable {T : Nat → Int32} {n : Nat} {nm : Int32 → Int32} {f l o : Nat} {s : Ps}
theorem pF_lev (h : l < 5) : pF T n nm (f + 1) 0 l o s = pF T n nm f 1 l o (pF T n nm f 0 (l + 1) o s) := by rw [pF, if_pos h]
theorem pF_full (h : hr T n s = 33 ∨ hr T n s = 40) (h5 : o = 5) : pF T n nm (f + 1) 0 5 o s = bad s := by rw [pF, if_neg (by omega), if_pos h, if_pos h5]
theorem pF_not (h : hr T n s = 33) (h5 : ¬ o = 5) : pF T n nm (f + 1) 0 5 o s = em (pF T n nm f 0 5 (o + 1) (ad s)) 20010 := by rw [pF, if_neg (by omega), if_pos (Or.inl h), if_neg h5, if_pos h]
theorem pF_opn (h : hr T n s = 40) (h5 : ¬ o = 5) : pF T n nm (f + 1) 0 5 o s = cl T n (pF T n nm f 0 0 (o + 1) (ad s)) := by rw [pF, if_neg (by omega), if_pos (Or.inr h), if_neg h5, if_neg (by rw [h]; decide)]
theorem pF_num (h : 48 ≤ hr T n s ∧ hr T n s ≤ 57) : pF T n nm (f + 1) 0 5 o s = em (num T n 4 s 0).1 (num T n 4 s 0).2 := by
  rw [pF, if_neg (by omega), if_neg, if_pos h]
  intro g
  rcases g with g | g <;> rw [g] at h <;> exact absurd h (by decide)
theorem pF_bad (h1 : ¬ (hr T n s = 33 ∨ hr T n s = 40)) (h2 : ¬ (48 ≤ hr T n s ∧ hr T n s ≤ 57)) (h : hr T n s < 0 ∨ nm (hr T n s) < 0) : pF T n nm (f + 1) 0 5 o s = bad s := by rw [pF, if_neg (by omega), if_neg h1, if_neg h2, if_pos h]
theorem pF_nam (h1 : ¬ (hr T n s = 33 ∨ hr T n s = 40)) (h2 : ¬ (48 ≤ hr T n s ∧ hr T n s ≤ 57)) (h : ¬ (hr T n s < 0 ∨ nm (hr T n s) < 0)) : pF T n nm (f + 1) 0 5 o s = ad (em s (10000 + nm (hr T n s))) := by rw [pF, if_neg (by omega), if_neg h1, if_neg h2, if_neg h]
theorem pF_end (h : ¬ lvl (hr T n s) = l) : pF T n nm (f + 1) 1 l o s = s := by rw [pF, if_neg h]
theorem pF_cmp (h : lvl (hr T n s) = 2) : pF T n nm (f + 1) 1 2 o s = em (pF T n nm f 0 3 o (ad s)) (opc (hr T n s)) := by rw [pF, if_pos h, if_pos rfl]
theorem pF_more (h : lvl (hr T n s) = l) (h2 : ¬ l = 2) : pF T n nm (f + 1) 1 l o s = pF T n nm f 1 l o (em (pF T n nm f 0 (l + 1) o (ad s)) (opc (hr T n s))) := by rw [pF, if_pos h, if_neg h2]
theorem hr_w (h : s.2.1 = true) : hr T n s = -1 := if_pos h
theorem hr_e (h : n ≤ s.1) : hr T n s = -1 := by
  unfold hr
  by_cases e : s.2.1 = true
  · rw [if_pos e]
  · rw [if_neg e, if_neg (by omega)]
theorem hr_v (h : s.2.1 = false) (h2 : s.1 < n) : hr T n s = T s.1 := by
  unfold hr
  rw [if_neg (by rw [h]; decide), if_pos h2]
/-- a sign is there: neither wrong nor at the end -/
theorem hr_in (h : ¬ hr T n s = -1) : s.2.1 = false ∧ s.1 < n := by
  rcases Nat.lt_or_ge s.1 n with g | g
  · cases e : s.2.1
    · exact ⟨rfl, g⟩
    · exact absurd (hr_w e) h
  · exact absurd (hr_e g) h
theorem em_w {v : Int32} (h : s.2.1 = true) : em s v = s := if_pos h
theorem em_v {v : Int32} (h : s.2.1 = false) : em s v = (s.1, false, s.2.2.1 + 1, upd s.2.2.2 s.2.2.1 v) := if_neg (by rw [h]; decide)
theorem em_1 {v : Int32} : (em s v).1 = s.1 := by
  cases e : s.2.1
  · rw [em_v e]
  · rw [em_w e]
theorem em_c {v : Int32} : (em s v).2.2.1 ≤ s.2.2.1 + 1 := by
  cases e : s.2.1
  · rw [em_v e]; exact Nat.le_refl _
  · rw [em_w e]; exact Nat.le_succ _
theorem em_b {v : Int32} : (em s v).2.1 = s.2.1 := by
  cases e : s.2.1
  · rw [em_v e]
  · rw [em_w e]; exact e
theorem bad_w (h : s.2.1 = true) : bad s = s := by
  unfold bad
  rw [← h]
/-- the measure of a read -/
def mes (n : Nat) (l : Nat) (s : Ps) : Nat := 20 * (n - s.1) + 2 * (6 - l)
/-- what is always so of a read -/
def Pg (n : Nat) (s s' : Ps) : Prop := s.1 ≤ s'.1 ∧ s'.1 ≤ n ∧ s'.2.2.1 + s.1 ≤ s'.1 + s.2.2.1
theorem Pg.tr {n : Nat} {s s' s'' : Ps} (h : Pg n s s') (g : Pg n s' s'') : Pg n s s'' := by
  obtain ⟨a1, a2, a3⟩ := h
  obtain ⟨b1, b2, b3⟩ := g
  exact ⟨by omega, b2, by omega⟩
theorem Pg.rf {n : Nat} {s : Ps} (h : s.1 ≤ n) : Pg n s s := ⟨Nat.le_refl _, h, by omega⟩
/-- one byte is taken, then a read, then a code -/
theorem Pg.op {n : Nat} {s s' : Ps} {v : Int32} (h : s.1 < n) (g : Pg n (ad s) s') : Pg n s (em s' v) := by
  obtain ⟨b1, b2, b3⟩ := g
  have e := em_c (s := s') (v := v)
  have e1 := em_1 (s := s') (v := v)
  have a1 : (ad s).1 = s.1 + 1 := rfl
  have a2 : (ad s).2.2.1 = s.2.2.1 := rfl
  refine ⟨by omega, by omega, by omega⟩
theorem num_g {T : Nat → Int32} {n : Nat} : ∀ (k : Nat) (s : Ps) (v : Int32), s.1 ≤ n → s.1 ≤ (num T n k s v).1.1 ∧ (num T n k s v).1.1 ≤ n ∧ (num T n k s v).1.2 = s.2
  | 0, s, v, h => ⟨Nat.le_refl _, h, rfl⟩
  | k + 1, s, v, h => by
    rw [num]
    by_cases c : 48 ≤ hr T n s ∧ hr T n s ≤ 57
    · rw [if_pos c]
      have hi := hr_in (T := T) (n := n) (s := s) (fun e => by rw [e] at c; exact absurd c (by decide))
      obtain ⟨g1, g2, g3⟩ := num_g k (ad s) (10 * v + hr T n s - 48) (show s.1 + 1 ≤ n from hi.2)
      exact ⟨by have : (ad s).1 = s.1 + 1 := rfl
                omega, g2, g3⟩
    · rw [if_neg c]
      exact ⟨Nat.le_refl _, h, rfl⟩
theorem num_1 {T : Nat → Int32} {n k : Nat} {s : Ps} {v : Int32} (h : s.1 ≤ n) (c : 48 ≤ hr T n s ∧ hr T n s ≤ 57) : s.1 + 1 ≤ (num T n (k + 1) s v).1.1 := by
  rw [num, if_pos c]
  have hi := hr_in (T := T) (n := n) (s := s) (fun e => by rw [e] at c; exact absurd c (by decide))
  exact (num_g k (ad s) (10 * v + hr T n s - 48) (show s.1 + 1 ≤ n from hi.2)).1
theorem lvl_m1 : lvl (-1) = 9 := by decide
theorem lvl_in {T : Nat → Int32} {n l : Nat} {s : Ps} (h : lvl (hr T n s) = l) (hl : l < 9) : s.2.1 = false ∧ s.1 < n := hr_in (fun e => by rw [e, lvl_m1] at h; omega)
theorem pF_g {T : Nat → Int32} {n : Nat} {nm : Int32 → Int32} : ∀ (f m l o : Nat) (s : Ps), s.1 ≤ n → l < 9 → Pg n s (pF T n nm f m l o s)
  | 0, _, _, _, s, h, _ => Pg.rf h
  | f + 1, 0, l, o, s, h, hl => by
    rw [pF]
    split
    · have h1 := pF_g (T := T) (nm := nm) f 0 (l + 1) o s h (by omega)
      exact h1.tr (pF_g f 1 l o _ h1.2.1 hl)
    · split
      · rename_i c
        have hi := hr_in (T := T) (n := n) (s := s) (fun e => by rw [e] at c; exact absurd c (by decide))
        have ha : (ad s).1 ≤ n := hi.2
        split
        · exact ⟨Nat.le_refl _, h, by show s.2.2.1 + s.1 ≤ s.1 + s.2.2.1; omega⟩
        · split
          · exact Pg.op hi.2 (pF_g f 0 5 (o + 1) (ad s) ha (by omega))
          · have h1 := pF_g (T := T) (nm := nm) f 0 0 (o + 1) (ad s) ha (by omega)
            unfold cl
            have hx : Pg n s (pF T n nm f 0 0 (o + 1) (ad s)) := ⟨by have := h1.1; have e : (ad s).1 = s.1 + 1 := rfl; omega, h1.2.1, by have := h1.2.2; have e : (ad s).1 = s.1 + 1 := rfl; have e2 : (ad s).2.2.1 = s.2.2.1 := rfl; omega⟩
            split
            · rename_i c2
              have h2 := hr_in (T := T) (n := n) (s := pF T n nm f 0 0 (o + 1) (ad s)) (fun e => by rw [e] at c2; exact absurd c2 (by decide))
              exact ⟨Nat.le_succ_of_le hx.1, h2.2, Nat.le_trans hx.2.2 (by show _ ≤ _ + 1 + _; omega)⟩
            · exact hx
      · split
        · rename_i c
          have g := num_g (T := T) 4 s 0 h
          have g1 : s.1 + 1 ≤ (num T n 4 s 0).1.1 := num_1 (T := T) (k := 3) (v := 0) h c
          have e := em_c (s := (num T n 4 s 0).1) (v := (num T n 4 s 0).2)
          have e1 := em_1 (s := (num T n 4 s 0).1) (v := (num T n 4 s 0).2)
          have e2 : (num T n 4 s 0).1.2.2.1 = s.2.2.1 := by rw [g.2.2]
          exact ⟨by omega, by omega, by omega⟩
        · split
          · exact ⟨Nat.le_refl _, h, by show s.2.2.1 + s.1 ≤ s.1 + s.2.2.1; omega⟩
          · rename_i c
            have hi := hr_in (T := T) (n := n) (s := s) (fun e => by rw [e] at c; exact absurd (Or.inl (by decide)) c)
            have e := em_c (s := s) (v := 10000 + nm (hr T n s))
            have e1 := em_1 (s := s) (v := 10000 + nm (hr T n s))
            refine ⟨?_, ?_, ?_⟩
            · show _ ≤ (em s _).1 + 1; omega
            · show (em s _).1 + 1 ≤ _; omega
            · show (em s _).2.2.1 + _ ≤ (em s _).1 + 1 + _; omega
  | f + 1, _ + 1, l, o, s, h, hl => by
    rw [pF]
    split
    · rename_i c
      have hi := lvl_in c hl
      have ha : (ad s).1 ≤ n := hi.2
      have h1 := Pg.op (v := opc (hr T n s)) hi.2 (pF_g (T := T) (nm := nm) f 0 (l + 1) o (ad s) ha (by
        rcases Nat.lt_or_ge (l + 1) 9 with z | z
        · exact z
        · exfalso
          have : ∀ b, lvl b ≠ 8 := by
            intro b
            unfold lvl
            repeat' split
            all_goals decide
          exact this (hr T n s) (by omega)))
      split
      · exact h1
      · exact h1.tr (pF_g f 1 l o _ h1.2.1 hl)
    · exact Pg.rf h
end
def pmf (g : Nat → Int32) (s : Ps) (op : Nat) : Nat → Int32 := fun k => if k = 7 then nI s.1 else if k = 8 then nI op else if k = 10 then nI (bN s.2.1) else if k = 12 then nI s.2.2.1 else g k
/-- the reference with a reader's state -/
def PM (μ : Mu) (o op : Nat) (s : Ps) : Mu := Mx (Mx μ (o + 6) s.2.2.2) o (pmf (μ o) s op)
section
variable {μ : Mu} {o op : Nat} {s : Ps}
theorem PM7 : PM μ o op s o 7 = nI s.1 := by rw [PM, Mx_same]; rfl
theorem PM8 : PM μ o op s o 8 = nI op := by rw [PM, Mx_same]; rfl
theorem PM10 : PM μ o op s o 10 = nI (bN s.2.1) := by rw [PM, Mx_same]; rfl
theorem PM12 : PM μ o op s o 12 = nI s.2.2.1 := by rw [PM, Mx_same]; rfl
theorem PM9 : PM μ o op s o 9 = μ o 9 := by rw [PM, Mx_same]; rfl
theorem PMa {a : Nat} (h : a ≠ o) (h6 : a ≠ o + 6) : PM μ o op s a = μ a := by rw [PM, Mx_ne h, Mx_ne h6]
theorem PM1 : PM μ o op s (o + 1) = μ (o + 1) := PMa (by omega) (by omega)
theorem PM6 : PM μ o op s (o + 6) = s.2.2.2 := by rw [PM, Mx_ne (by omega), Mx_same]
theorem PM_7 {a : Nat} : su (PM μ o op s) o 7 (nI a) = PM μ o op (a, s.2) := by
  unfold PM
  rw [su_Mx]
  congr 1
  funext k
  unfold upd pmf
  by_cases h : k = 7 <;> simp [h]
theorem PM_8 {a : Nat} : su (PM μ o op s) o 8 (nI a) = PM μ o a s := by
  unfold PM
  rw [su_Mx]
  congr 1
  funext k
  unfold upd pmf
  by_cases h : k = 8 <;> simp [h]
theorem PM_10 {b : Bool} : su (PM μ o op s) o 10 (nI (bN b)) = PM μ o op (s.1, b, s.2.2) := by
  unfold PM
  rw [su_Mx]
  congr 1
  funext k
  unfold upd pmf
  by_cases h : k = 10 <;> simp [h]
theorem PM_em {v : Int32} (h : s.2.1 = false) : su (su (PM μ o op s) (o + 6) s.2.2.1 v) o 12 (nI (s.2.2.1 + 1)) = PM μ o op (em s v) := by
  rw [em_v h]
  unfold PM
  rw [Mx_comm _ (show o + 6 ≠ o by omega), su_Mx, Mx_comm _ (show o ≠ o + 6 by omega), su_Mx]
  congr 1
  funext k
  unfold upd pmf
  by_cases h12 : k = 12
  · simp [h12]
  · by_cases h10 : k = 10
    · simp [h10, h]
    · simp [h12, h10]
end
