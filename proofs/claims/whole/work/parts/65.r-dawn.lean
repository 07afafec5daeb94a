/-- a dawn of the class at D -/
def rD (D k : Nat) : Option Nat := match k with
  | 0 => some (D + 1)
  | 1 => some (D + 3)
  | 2 => some (D + 5)
  | 3 => some (D + 7)
  | 4 => some (D + 9)
  | 5 => some (D + 11)
  | 6 => some (D + 13)
  | 7 => some (D + 14)
  | 8 => some (D + 16)
  | 9 => some (D + 18)
  | _ => none
def DS (G : Gl) (S : Sh) (D : Nat) : Prop := S.2 D = some (kO 2 (rD D)) ∧ FS S (D + 1) (G.2.2.2 0) (G.2.2.2 1) 40 ∧ FS S (D + 3) (G.2.2.2 2) (G.2.2.2 3) 32 ∧ FS S (D + 5) (G.2.2.2 4) (G.2.2.2 5) 24 ∧ RS S (D + 7) 6 ∧ RS S (D + 9) 50 ∧ RS S (D + 11) 20 ∧ S.2 (D + 13) = some (kR 0 6 (fun i => some (D + 20 + 2 * i))) ∧ RS S (D + 14) 0 ∧ RS S (D + 16) 50 ∧ RS S (D + 18) 50 ∧ ∀ i, i < 6 → RS S (D + 20 + 2 * i) 5
