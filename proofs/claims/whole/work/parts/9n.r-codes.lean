def cdk (C : Nat → Int32) (k : Nat) : Prop := (C k < 20000 ∧ 0 ≤ C k ∧ C k < 10005) ∨ (C k = 20010 ∧ 1 ≤ dpt C k) ∨ (¬ C k < 20000 ∧ C k < 20010 ∧ 2 ≤ dpt C k)
def Gd (s : Ps) : Prop := ∀ k, k < s.2.2.1 → cdk s.2.2.2 k
def Dp (s : Ps) : Nat := dpt s.2.2.2 s.2.2.1
/-- wrong, or read well and k numbers more on the pile -/
def Rs (k : Nat) (s s' : Ps) : Prop := s'.2.1 = true ∨ (s'.2.1 = false ∧ Gd s' ∧ Dp s' = Dp s + k)
theorem dpt_u {C : Nat → Int32} {c : Nat} {v : Int32} : ∀ k, k ≤ c → dpt (upd C c v) k = dpt C k
  | 0, _ => rfl
  | k + 1, h => by rw [dpt, dpt, dpt_u k (by omega), upd_ne _ _ (show k ≠ c by omega)]
theorem cdk_u {C : Nat → Int32} {c k : Nat} {v : Int32} (h : k < c) (g : cdk C k) : cdk (upd C c v) k := by
  unfold cdk
  rw [upd_ne _ _ (show k ≠ c by omega), dpt_u k (by omega)]
  exact g
theorem em_g {s : Ps} {v : Int32} (hs : s.2.1 = false) (hg : Gd s) (hv : cdk (upd s.2.2.2 s.2.2.1 v) s.2.2.1) : Gd (em s v) := by
  rw [em_v hs]
  intro k hk
  show cdk (upd s.2.2.2 s.2.2.1 v) k
  have hk2 : k < s.2.2.1 + 1 := hk
  by_cases e : k = s.2.2.1
  · rw [e]; exact hv
  · exact cdk_u (by omega) (hg k (by omega))
theorem em_n {s : Ps} {v : Int32} (hs : s.2.1 = false) (hg : Gd s) (hv : v < 20000 ∧ 0 ≤ v ∧ v < 10005) : Gd (em s v) ∧ Dp (em s v) = Dp s + 1 := by
  refine ⟨em_g hs hg (Or.inl (by rw [upd_at]; exact hv)), ?_⟩
  rw [em_v hs]
  show dpt (upd s.2.2.2 s.2.2.1 v) (s.2.2.1 + 1) = _
  rw [dpt, dpt_u _ (Nat.le_refl _), upd_at, if_pos hv.1]
  rfl
theorem em_not {s : Ps} (hs : s.2.1 = false) (hg : Gd s) (hd : 1 ≤ Dp s) : Gd (em s 20010) ∧ Dp (em s 20010) = Dp s := by
  refine ⟨em_g hs hg (Or.inr (Or.inl (by rw [upd_at, dpt_u _ (Nat.le_refl _)]; exact ⟨rfl, hd⟩))), ?_⟩
  rw [em_v hs]
  show dpt (upd s.2.2.2 s.2.2.1 20010) (s.2.2.1 + 1) = _
  rw [dpt, dpt_u _ (Nat.le_refl _), upd_at, if_neg (by decide), if_pos rfl]
  rfl
theorem em_op {s : Ps} {v : Int32} (hs : s.2.1 = false) (hg : Gd s) (hv : ¬ v < 20000 ∧ v < 20010) (hd : 2 ≤ Dp s) : Gd (em s v) ∧ Dp (em s v) + 1 = Dp s := by
  refine ⟨em_g hs hg (Or.inr (Or.inr (by rw [upd_at, dpt_u _ (Nat.le_refl _)]; exact ⟨hv.1, hv.2, hd⟩))), ?_⟩
  rw [em_v hs]
  show dpt (upd s.2.2.2 s.2.2.1 v) (s.2.2.1 + 1) + 1 = _
  have ne : ¬ v = 20010 := fun e => by rw [e] at hv; exact absurd hv.2 (by decide)
  have hd2 : 2 ≤ dpt s.2.2.2 s.2.2.1 := hd
  rw [dpt, dpt_u _ (Nat.le_refl _), upd_at, if_neg hv.1, if_neg ne]
  show _ = dpt s.2.2.2 s.2.2.1
  omega
theorem opc_r (b : Int32) : ¬ opc b < 20000 ∧ opc b < 20010 := by
  unfold opc
  repeat' split
  all_goals decide
theorem num_v {T : Nat → Int32} {n : Nat} : ∀ (k : Nat) (s : Ps) (a j : Nat), a < 10 ^ j → j + k ≤ 4 → ∃ b, b < 10 ^ (j + k) ∧ (num T n k s (nI a)).2 = nI b
  | 0, s, a, j, h, _ => ⟨a, h, rfl⟩
  | k + 1, s, a, j, h, hj => by
    rw [num]
    by_cases c : 48 ≤ hr T n s ∧ hr T n s ≤ 57
    · rw [if_pos c]
      have z := le_lits (a := 48) (b := 57) (by decide) c.1 c.2 (by decide)
      have e : 10 * nI a + hr T n s - 48 = nI (10 * a + nv (hr T n s) - 48) := ps (pa (pm (pl 10 rfl) (pl a rfl)) z.1) (pl 48 rfl) (by omega)
      rw [e]
      obtain ⟨b, hb, eb⟩ := num_v k (ad s) (10 * a + nv (hr T n s) - 48) (j + 1) (by rw [Nat.pow_succ]; omega) (by omega)
      exact ⟨b, by rw [show j + (k + 1) = j + 1 + k by omega]; exact hb, eb⟩
    · rw [if_neg c]
      exact ⟨a, Nat.lt_of_lt_of_le h (Nat.pow_le_pow_right (by decide) (by omega)), rfl⟩
theorem cn_ok {b : Nat} (h : b < 10005) : nI b < 20000 ∧ 0 ≤ nI b ∧ nI b < 10005 := by
  refine ⟨?_, nI_pos' (by omega), ?_⟩
  · exact Int32.not_le.mp (fun g => absurd ((nI_leI (a := 20000) (b := b) (by decide) (by omega)).mp g) (by omega))
  · exact Int32.not_le.mp (fun g => absurd ((nI_leI (a := 10005) (b := b) (by decide) (by omega)).mp g) (by omega))
theorem pF_wr {T : Nat → Int32} {n : Nat} {nm : Int32 → Int32} {l o : Nat} {s : Ps} (hl : l < 9) (h : s.2.1 = true) : ∀ f, (pF T n nm f 1 l o s).2.1 = true
  | 0 => h
  | f + 1 => by rw [pF_end (by rw [hr_w h, lvl_m1]; omega)]; exact h
theorem pF_ok {T : Nat → Int32} {n : Nat} {nm : Int32 → Int32} (hnm : ∀ c, nm c < 0 ∨ ∃ j, j < 5 ∧ nm c = nI j) : ∀ f, (∀ (l o : Nat) (s : Ps), s.1 ≤ n → l ≤ 5 → 20 * (n - s.1) + 2 * (6 - l) < f → s.2.1 = false → Gd s → Rs 1 s (pF T n nm f 0 l o s)) ∧ (∀ (l o : Nat) (s : Ps), s.1 ≤ n → l ≤ 4 → 20 * (n - s.1) + 1 < f → 1 ≤ Dp s → s.2.1 = false → Gd s → Rs 0 s (pF T n nm f 1 l o s)) := by
  intro f
  induction f with
  | zero => exact ⟨fun l o s _ _ h => absurd h (Nat.not_lt_zero _), fun l o s _ _ h => absurd h (Nat.not_lt_zero _)⟩
  | succ f ih =>
    refine ⟨fun l o s h hl h0 hw hg => ?_, fun l o s h hl h0 hd hw hg => ?_⟩
    · by_cases c5 : l < 5
      · rw [pF_lev c5]
        have g := pF_g (T := T) (nm := nm) f 0 (l + 1) o s h (by omega)
        have g1 := g.1
        rcases ih.1 (l + 1) o s h (by omega) (by omega) hw hg with e | ⟨e1, e2, e3⟩
        · exact Or.inl (pF_wr (by omega) e f)
        · rcases ih.2 l o _ g.2.1 (by omega) (by omega) (by rw [e3]; omega) e1 e2 with z | ⟨z1, z2, z3⟩
          · exact Or.inl z
          · exact Or.inr ⟨z1, z2, by rw [z3, e3]⟩
      · have e5 : l = 5 := by omega
        subst e5
        by_cases c1 : hr T n s = 33 ∨ hr T n s = 40
        · have hi := hr_in (T := T) (n := n) (s := s) (fun e => by rw [e] at c1; exact absurd c1 (by decide))
          have hi2 := hi.2
          have a1 : (ad s).1 = s.1 + 1 := rfl
          by_cases o5 : o = 5
          · rw [pF_full c1 o5]; exact Or.inl rfl
          · rcases c1 with c | c
            · rw [pF_not c o5]
              rcases ih.1 5 (o + 1) (ad s) hi.2 (by omega) (by omega) hw hg with e | ⟨e1, e2, e3⟩
              · exact Or.inl (by rw [em_b]; exact e)
              · have z := em_not e1 e2 (by rw [e3]; omega)
                exact Or.inr ⟨em_b.trans e1, z.1, z.2.trans e3⟩
            · rw [pF_opn c o5]
              unfold cl
              rcases ih.1 0 (o + 1) (ad s) hi.2 (by omega) (by omega) hw hg with e | ⟨e1, e2, e3⟩
              · split
                · exact Or.inl e
                · exact Or.inl rfl
              · split
                · exact Or.inr ⟨e1, e2, e3⟩
                · exact Or.inl rfl
        · by_cases c2 : 48 ≤ hr T n s ∧ hr T n s ≤ 57
          · rw [pF_num c2]
            have g := num_g (T := T) 4 s 0 h
            obtain ⟨b, hb, eb⟩ := num_v (T := T) (n := n) 4 s 0 0 (by decide) (by decide)
            have eb2 : (num T n 4 s 0).2 = nI b := eb
            have hb2 : b < 10000 := hb
            have e1 : (num T n 4 s 0).1.2.1 = false := by rw [g.2.2]; exact hw
            have e2 : Gd (num T n 4 s 0).1 := by unfold Gd; rw [g.2.2]; exact hg
            have e3 : Dp (num T n 4 s 0).1 = Dp s := by unfold Dp; rw [g.2.2]
            have z := em_n e1 e2 (v := (num T n 4 s 0).2) (by rw [eb2]; exact cn_ok (by omega))
            exact Or.inr ⟨em_b.trans e1, z.1, by rw [z.2, e3]⟩
          · by_cases c3 : hr T n s < 0 ∨ nm (hr T n s) < 0
            · rw [pF_bad c1 c2 c3]; exact Or.inl rfl
            · rw [pF_nam c1 c2 c3]
              rcases hnm (hr T n s) with e | ⟨j, hj, ej⟩
              · exact absurd (Or.inr e) c3
              · have z := em_n hw hg (v := 10000 + nm (hr T n s)) (by rw [ej, show (10000 : Int32) + nI j = nI (10000 + j) from pa (pl 10000 rfl) (pl j rfl)]; exact cn_ok (by omega))
                exact Or.inr ⟨(em_b (s := s)).trans hw, z.1, z.2⟩
    · by_cases c : lvl (hr T n s) = l
      · have hi := lvl_in c (by omega)
        have hi2 := hi.2
        have a1 : (ad s).1 = s.1 + 1 := rfl
        have g := pF_g (T := T) (nm := nm) f 0 (l + 1) o (ad s) hi.2 (by omega)
        have g1 := g.1
        have gm := em_1 (s := pF T n nm f 0 (l + 1) o (ad s)) (v := opc (hr T n s))
        have key : Rs 0 s (em (pF T n nm f 0 (l + 1) o (ad s)) (opc (hr T n s))) := by
          rcases ih.1 (l + 1) o (ad s) hi.2 (by omega) (by omega) hw hg with e | ⟨e1, e2, e3⟩
          · exact Or.inl (by rw [em_b]; exact e)
          · have ed : Dp (ad s) = Dp s := rfl
            have z := em_op e1 e2 (opc_r (hr T n s)) (by rw [e3]; omega)
            exact Or.inr ⟨em_b.trans e1, z.1, by have := z.2; omega⟩
        by_cases c2 : l = 2
        · subst c2
          rw [pF_cmp c]; exact key
        · rw [pF_more c c2]
          rcases key with e | ⟨e1, e2, e3⟩
          · exact Or.inl (pF_wr (by omega) e f)
          · rcases ih.2 l o _ (by rw [gm]; exact g.2.1) hl (by rw [gm]; omega) (by omega) e1 e2 with z | ⟨z1, z2, z3⟩
            · exact Or.inl z
            · exact Or.inr ⟨z1, z2, by rw [z3, e3]⟩
      · rw [pF_end c]
        exact Or.inr ⟨hw, hg, rfl⟩
theorem nmU_r (u : Nat) (c : Int32) : nmU u c < 0 ∨ ∃ j, j < 5 ∧ nmU u c = nI j := by
  unfold nmU
  repeat' split
  all_goals first | exact Or.inl (by decide) | exact Or.inr ⟨4, by decide, rfl⟩ | exact Or.inr ⟨3, by decide, rfl⟩ | exact Or.inr ⟨2, by decide, rfl⟩ | exact Or.inr ⟨1, by decide, rfl⟩ | exact Or.inr ⟨0, by decide, rfl⟩
theorem rdr_ok {N : Nat → Int32} (hw : WF N) {u : Nat} {C : Nat → Int32} (h : (rdr N u C).2.1 = false) : okT (rdr N u C).2.2.2 (rdr N u C).2.2.1 := by
  have b5 := hw.n5.2
  have z := (pF_ok (T := fun k => N (140 + k)) (n := nv (N 5)) (nmU_r u) 1013).1 0 0 (0, false, 0, C) (Nat.zero_le _) (by decide) (by show 20 * (nv (N 5) - 0) + 2 * (6 - 0) < 1013; omega) rfl (fun k hk => absurd hk (Nat.not_lt_zero k))
  have er : pF (fun k => N (140 + k)) (nv (N 5)) (nmU u) 1013 0 0 0 (0, false, 0, C) = rdr N u C := by unfold rdr; exact Eq.refl _
  rw [er] at z
  revert h z
  generalize rdr N u C = s
  intro h z
  rcases z with z | ⟨_, z2, z3⟩
  · rw [h] at z; exact absurd z (by decide)
  · exact ⟨z2, fun _ => by have e : dpt s.2.2.2 s.2.2.1 = Dp (0, false, 0, C) + 1 := z3; rw [e]; omega⟩
