def own (k a : Nat) : Bool := if k = 0 then true else if k = 1 then a == 1 else if k = 2 then a == 0 else if k = 3 then (a == 0 || a == 2) else if k = 4 then a == 3 else if k = 5 then (a == 0 || a == 3) else (a == 1 || a == 2)
/-- the kind whose body answers -/
def bear (k a : Nat) : Nat := if own k a then k else if own (ab k) a then ab k else 0
theorem bear_t {k a : Nat} (h : own k a = true) : bear k a = k := if_pos h
theorem bear_u : ∀ k, k < 7 → ∀ a, a < 4 → own k a = false → k ≠ 0 ∧ bear k a = bear (ab k) a := by decide
theorem bear_ok : ∀ k, k < 7 → ∀ a, a < 4 → bear k a < 7 ∧ own (bear k a) a = true := by decide
abbrev Tr := Nat × (Nat → Int32)
def bg (s : Tr) (b : Int32) : Tr := if s.1 < 40 then (s.1 + 1, upd s.2 s.1 b) else s
/-- what the bodies say; K the speaker's kind -/
def vo (K : Nat) (sp kn : Int32) : Nat → Nat → Nat → Int32 → Tr → Int32 × Tr
  | 0, _, _, _, s => (0, s)
  | f + 1, k, a, x, s => match 4 * bear k a + a with
    | 0 => (x + sp, bg s 10)
    | 1 => let r := vo K sp kn f K 0 x (bg s 11); (r.1 * 2, r.2)
    | 2 => (x - kn, bg s 12)
    | 3 => let r := vo K sp kn f K 1 x (bg s 13); let q := vo K sp kn f K 2 x r.2; (r.1 ^^^ q.1, q.2)
    | 5 => let r := vo K sp kn f 0 1 x (bg s 20); let q := vo K sp kn f K 2 1 r.2; (r.1 - q.1, q.2)
    | 8 => let r := vo K sp kn f 0 0 x (bg s 30); (r.1 * 3, r.2)
    | 14 => let r := vo K sp kn f 2 2 x (bg s 40); (0 - r.1, r.2)
    | 12 => vo K sp kn f 2 0 (x + 1) (bg s 41)
    | 19 => let r := vo K sp kn f 0 3 x (bg s 50); let q := vo K sp kn f K 0 2 r.2; (r.1 - q.1, q.2)
    | 20 => let r := vo K sp kn f 4 0 x (bg s 60); (r.1 ^^^ sp, r.2)
    | 23 => let r := vo K sp kn f 4 3 x (bg s 61); (r.1 * 5, r.2)
    | 25 => (0, bg s 70)
    | _ => let r := vo K sp kn f 0 2 x (bg s 71); (r.1 + sp, r.2)
/-- so many bodies deep at most -/
def trm (K : Nat) : Nat → Nat → Nat → Bool
  | 0, _, _ => false
  | f + 1, k, a => match 4 * bear k a + a with
    | 0 => true
    | 1 => trm K f K 0
    | 2 => true
    | 3 => trm K f K 1 && trm K f K 2
    | 5 => trm K f 0 1 && trm K f K 2
    | 8 => trm K f 0 0
    | 14 => trm K f 2 2
    | 12 => trm K f 2 0
    | 19 => trm K f 0 3 && trm K f K 0
    | 20 => trm K f 4 0
    | 23 => trm K f 4 3
    | 25 => true
    | _ => trm K f 0 2
theorem trm_all : ∀ K, K < 7 → ∀ k, k < 7 → ∀ a, a < 4 → (k = K ∨ und K k = true) → trm K 9 k a = true := by decide
