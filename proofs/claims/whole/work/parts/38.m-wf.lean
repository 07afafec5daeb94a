theorem WF_row {N M : Nat → Int32} (hw : WF N) {r m : Nat} (hr : r < nv (N 3)) (hm : m ≤ 5) {f : Nat → Nat} (out : ∀ a, a < 83 + 9 * r ∨ 89 + 9 * r ≤ a → M a = N a) (hc : M (83 + 9 * r) = nI m) (hs : ∀ i, i < m → M (84 + 9 * r + i) = nI (f i) ∧ f i < nv (N 1)) (hinj : ∀ i j, i < m → j < m → f i = f j → i = j) (hfree : ∀ i, i < m → ∀ r' i', r' ≠ r → ¬ On N r' i' (f i)) : WF M := by
  have b1 := hw.n1.2
  have b2 := hw.n2.2
  have b3 := hw.n3.2
  have b4 := hw.n4.2
  have b5 := hw.n5.2
  have e0 := out 0 (by omega)
  have e1 := out 1 (by omega)
  have e2 := out 2 (by omega)
  have e3 := out 3 (by omega)
  have e4 := out 4 (by omega)
  have e5 := out 5 (by omega)
  have e6 := out 6 (by omega)
  have on : ∀ r' i p, On M r' i p → (r' ≠ r ∧ On N r' i p) ∨ (r' = r ∧ i < m ∧ nI (f i) = nI p) := by
    intro r' i p g
    have hr' : r' < nv (N 3) := by rw [← e3]; exact g.1
    by_cases c : r' = r
    · subst c
      have hi := g.2.1
      rw [hc, nv_nI (by omega)] at hi
      exact Or.inr ⟨rfl, hi, by rw [← (hs i hi).1]; exact g.2.2⟩
    · have c3 := out (83 + 9 * r') (by omega)
      have hi : i < nv (N (83 + 9 * r')) := by rw [← c3]; exact g.2.1
      have := (hw.ro hr').2.2.2.1.2
      exact Or.inl ⟨c, hr', hi, by rw [← out (84 + 9 * r' + i) (by omega)]; exact g.2.2⟩
  have mix : ∀ r' i' i p, r' ≠ r → On N r' i' p → i < m → nI (f i) = nI p → False := by
    intro r' i' i p hne h1 h2 h3
    exact hfree i h2 r' i' hne ⟨h1.1, h1.2.1, by rw [h1.2.2, h3]⟩
  refine ⟨⟨by rw [e0]; exact hw.n0, by rw [e1]; exact hw.n1, by rw [e2]; exact hw.n2, by rw [e3]; exact hw.n3, by rw [e4]; exact hw.n4, by rw [e5]; exact hw.n5, by rw [e6]; exact hw.n6⟩, ?_, ?_, ?_, ?_, ?_, ?_, ?_, ?_⟩
  · intro p hp'
    rw [e1] at hp'
    have g := hw.pe hp'
    unfold WFp at g ⊢
    rw [out (8 + 4 * p) (by omega), out (9 + 4 * p) (by omega), out (10 + 4 * p) (by omega), out (11 + 4 * p) (by omega)]
    exact g
  · intro p hp'
    rw [e2] at hp'
    have g := hw.pc hp'
    unfold WFc at g ⊢
    rw [out (48 + 4 * p) (by omega), out (49 + 4 * p) (by omega), out (50 + 4 * p) (by omega), out (51 + 4 * p) (by omega)]
    exact g
  · intro r' hr'
    rw [e3] at hr'
    have g := hw.ro hr'
    have bm' := g.2.2.2.1.2
    unfold WFr at g ⊢
    rw [out (80 + 9 * r') (by omega), out (81 + 9 * r') (by omega), out (82 + 9 * r') (by omega), e1]
    by_cases c : r' = r
    · subst c
      rw [hc]
      refine ⟨g.1, g.2.1, g.2.2.1, okN_of hm (by decide), fun i hi => ?_⟩
      rw [nv_nI (by omega)] at hi
      have z := hs i hi
      rw [z.1, nv_nI (by omega)]
      exact ⟨rfl, z.2⟩
    · rw [out (83 + 9 * r') (by omega)]
      refine ⟨g.1, g.2.1, g.2.2.1, g.2.2.2.1, fun i hi => ?_⟩
      rw [out (84 + 9 * r' + i) (by omega)]
      exact g.2.2.2.2 i hi
  · intro r1 i1 r2 i2 p g1 g2
    rcases on _ _ _ g1 with ⟨a1, a2⟩ | ⟨a1, a2, a3⟩
    · rcases on _ _ _ g2 with ⟨c1, c2⟩ | ⟨c1, c2, c3⟩
      · exact hw.un a2 c2
      · exact (mix _ _ _ _ a1 a2 c2 c3).elim
    · rcases on _ _ _ g2 with ⟨c1, c2⟩ | ⟨c1, c2, c3⟩
      · exact (mix _ _ _ _ c1 c2 a2 a3).elim
      · have h1 := (hs i1 a2).2
        have h2 := (hs i2 c2).2
        have h3 := congrArg nv (a3.trans c3.symm)
        rw [nv_nI (by omega), nv_nI (by omega)] at h3
        exact ⟨a1.trans c1.symm, hinj _ _ a2 c2 h3⟩
  · intro k hk
    rw [e4] at hk
    rw [out (134 + k) (by omega), e3]
    exact hw.li hk
  · intro k k' hk hk' e
    rw [e4] at hk hk'
    rw [out (134 + k) (by omega), out (134 + k') (by omega)] at e
    exact hw.lu hk hk' e
  · intro k hk
    rw [e5] at hk
    rw [out (140 + k) (by omega)]
    exact hw.ta hk
  · intro u hu
    have g := hw.tx hu
    rw [out (210 + 52 * u) (by omega), show (fun k => M (211 + 52 * u + k)) = (fun k => N (211 + 52 * u + k)) from funext (fun k => out _ (by omega))]
    exact g
theorem delN_c {N : Nat → Int32} {r m j : Nat} (hj : j < m) : delN N r m j (83 + 9 * r) = nI (m - 1) := by
  unfold delN
  rw [shD_lo _ (by omega), upd_at]
theorem delN_s {N : Nat → Int32} {r m j i : Nat} (hi : i < m - 1) : delN N r m j (84 + 9 * r + i) = N (84 + 9 * r + (if i < j then i else i + 1)) := by
  unfold delN
  by_cases c : i < j
  · rw [if_pos c, shD_lo _ (by omega), upd_ne _ _ (by omega)]
  · rw [if_neg c]
    unfold shD
    rw [if_pos (by omega), upd_ne _ _ (by omega)]
    congr 1
theorem delN_o {N : Nat → Int32} {r m j a : Nat} (hm : m ≤ 5) (h : a < 83 + 9 * r ∨ 89 + 9 * r ≤ a) : delN N r m j a = N a := by
  unfold delN
  rcases h with h | h
  · unfold shD
    rw [if_neg (by omega), upd_ne _ _ (by omega)]
  · rw [shD_hi _ (by omega), upd_ne _ _ (by omega)]
theorem insN_c {N : Nat → Int32} {r m j : Nat} {x : Int32} : insN N r m j x (83 + 9 * r) = nI (m + 1) := upd_at _ _ _
theorem insN_s {N : Nat → Int32} {r m j i : Nat} {x : Int32} (hi : i ≤ m) : insN N r m j x (84 + 9 * r + i) = if i < j then N (84 + 9 * r + i) else if i = j then x else N (84 + 9 * r + (i - 1)) := by
  unfold insN
  rw [upd_ne _ _ (by omega)]
  by_cases c : i < j
  · rw [if_pos c, upd_ne _ _ (by omega)]
    exact shU_lo _ (by omega)
  · rw [if_neg c]
    by_cases e : i = j
    · rw [if_pos e, e, upd_at]
    · rw [if_neg e, upd_ne _ _ (by omega)]
      unfold shU
      rw [if_pos (by omega)]
      congr 1
      omega
theorem insN_o {N : Nat → Int32} {r m j a : Nat} {x : Int32} (hm : m < 5) (hj : j ≤ m) (h : a < 83 + 9 * r ∨ 89 + 9 * r ≤ a) : insN N r m j x a = N a := by
  unfold insN
  rw [upd_ne _ _ (by omega), upd_ne _ _ (by omega)]
  unfold shU
  rw [if_neg (by omega)]
theorem seat_on {N : Nat → Int32} (hw : WF N) {r i : Nat} (hr : r < nv (N 3)) (hi : i < nv (N (83 + 9 * r))) : On N r i (nv (N (84 + 9 * r + i))) := ⟨hr, hi, ((hw.ro hr).2.2.2.2 i hi).1⟩
theorem WF_del {N : Nat → Int32} (hw : WF N) {r j : Nat} (hr : r < nv (N 3)) (hj : j < nv (N (83 + 9 * r))) : WF (delN N r (nv (N (83 + 9 * r))) j) := by
  have wr := hw.ro hr
  have bm := wr.2.2.2.1.2
  refine WF_row hw hr (m := nv (N (83 + 9 * r)) - 1) (f := fun i => nv (N (84 + 9 * r + (if i < j then i else i + 1)))) (by omega) (fun a h => delN_o bm h) (delN_c hj) (fun i hi => ?_) (fun i i' hi hi' e => ?_) (fun i hi r' i' hne h => ?_)
  · rw [delN_s hi]
    exact wr.2.2.2.2 _ (by split <;> omega)
  · have := row_inj hw hr _ _ (by split <;> omega) (by split <;> omega) e
    split at this <;> split at this <;> omega
  · exact hne (hw.un h (seat_on hw hr (i := if i < j then i else i + 1) (by split <;> omega))).1
theorem del_off {N : Nat → Int32} (hw : WF N) {r j p : Nat} (h : On N r j p) : ∀ r' i', ¬ On (delN N r (nv (N (83 + 9 * r))) j) r' i' p := by
  intro r' i' g
  have b3 := hw.n3.2
  have hr := h.1
  have bm := (hw.ro hr).2.2.2.1.2
  have e3 : delN N r (nv (N (83 + 9 * r))) j 3 = N 3 := delN_o bm (by omega)
  have hr' : r' < nv (N 3) := by rw [← e3]; exact g.1
  by_cases c : r' = r
  · subst c
    have hi := g.2.1
    rw [delN_c h.2.1, nv_nI (by omega)] at hi
    have z := g.2.2
    rw [delN_s hi] at z
    have := (hw.un h ⟨hr, by split <;> omega, z⟩).2
    split at this <;> omega
  · have hi := g.2.1
    rw [delN_o bm (by omega)] at hi
    have := (hw.ro hr').2.2.2.1.2
    have z := g.2.2
    rw [delN_o bm (by omega)] at z
    exact c (hw.un ⟨hr', hi, z⟩ h).1
theorem WF_ins {N : Nat → Int32} (hw : WF N) {r j p : Nat} (hr : r < nv (N 3)) (hm : nv (N (83 + 9 * r)) < 5) (hj : j ≤ nv (N (83 + 9 * r))) (hp : p < nv (N 1)) (hf : ∀ r' i', ¬ On N r' i' p) : WF (insN N r (nv (N (83 + 9 * r))) j (nI p)) := by
  have wr := hw.ro hr
  have b1 := hw.n1.2
  refine WF_row hw hr (m := nv (N (83 + 9 * r)) + 1) (f := fun i => if i < j then nv (N (84 + 9 * r + i)) else if i = j then p else nv (N (84 + 9 * r + (i - 1)))) (by omega) (fun a h => insN_o hm hj h) insN_c (fun i hi => ?_) (fun i i' hi hi' e => ?_) (fun i hi r' i' hne h => ?_)
  · rw [insN_s (by omega)]
    by_cases c : i < j
    · rw [if_pos c, if_pos c]; exact wr.2.2.2.2 i (by omega)
    · rw [if_neg c, if_neg c]
      by_cases c2 : i = j
      · rw [if_pos c2, if_pos c2]; exact ⟨rfl, hp⟩
      · rw [if_neg c2, if_neg c2]; exact wr.2.2.2.2 (i - 1) (by omega)
  · have off : ∀ x, x < nv (N (83 + 9 * r)) → nv (N (84 + 9 * r + x)) ≠ p := fun x hx z => hf r x (by have := seat_on hw hr hx; rw [z] at this; exact this)
    by_cases c : i < j
    · rw [if_pos c] at e
      by_cases d : i' < j
      · rw [if_pos d] at e; exact row_inj hw hr _ _ (by omega) (by omega) e
      · rw [if_neg d] at e
        by_cases d2 : i' = j
        · rw [if_pos d2] at e; exact absurd e (off i (by omega))
        · rw [if_neg d2] at e; have := row_inj hw hr _ _ (by omega) (by omega) e; omega
    · rw [if_neg c] at e
      by_cases c2 : i = j
      · rw [if_pos c2] at e
        by_cases d : i' < j
        · rw [if_pos d] at e; exact absurd e.symm (off i' (by omega))
        · rw [if_neg d] at e
          by_cases d2 : i' = j
          · omega
          · rw [if_neg d2] at e; exact absurd e.symm (off (i' - 1) (by omega))
      · rw [if_neg c2] at e
        by_cases d : i' < j
        · rw [if_pos d] at e; have := row_inj hw hr _ _ (by omega) (by omega) e; omega
        · rw [if_neg d] at e
          by_cases d2 : i' = j
          · rw [if_pos d2] at e; exact absurd e (off (i - 1) (by omega))
          · rw [if_neg d2] at e; have := row_inj hw hr _ _ (by omega) (by omega) e; omega
  · by_cases c : i < j
    · rw [if_pos c] at h; exact hne (hw.un h (seat_on hw hr (by omega))).1
    · rw [if_neg c] at h
      by_cases c2 : i = j
      · rw [if_pos c2] at h; exact hf _ _ h
      · rw [if_neg c2] at h; exact hne (hw.un h (seat_on hw hr (i := i - 1) (by omega))).1
/-- where somebody stands -/
noncomputable def pos (N : Nat → Int32) (p : Nat) : Nat × Nat := @dite _ (∃ x : Nat × Nat, On N x.1 x.2 p) (Classical.propDecidable _) (fun h => Classical.choose h) (fun _ => (0, 0))
theorem pos_eq {N : Nat → Int32} (hw : WF N) {r i p : Nat} (h : On N r i p) : pos N p = (r, i) := by
  have hx : ∃ x : Nat × Nat, On N x.1 x.2 p := ⟨(r, i), h⟩
  unfold pos
  rw [dif_pos hx]
  have z := hw.un (Classical.choose_spec hx) h
  exact Prod.ext z.1 z.2
abbrev mnr (N : Nat → Int32) (r : Nat) : Nat := nv (N (83 + 9 * r))
noncomputable def outN (N : Nat → Int32) (p : Nat) : Nat → Int32 := delN N (pos N p).1 (mnr N (pos N p).1) (pos N p).2
noncomputable def tlD (N : Nat → Int32) (p : Nat) : Nat := toll (outN N p)
def InL (N : Nat → Int32) (p : Nat) : Prop := ∃ r i k, On N r i p ∧ k < nv (N 4) ∧ N (134 + k) = nI r
/-- somebody at another place of the rope -/
noncomputable def ldN (N : Nat → Int32) (p j : Nat) : Nat → Int32 := insN (outN N p) (pos N p).1 (mnr N (pos N p).1 - 1) j (nI p)
noncomputable def tlE (N : Nat → Int32) (p j : Nat) : Nat := toll (ldN N p j)
theorem WF_out {N : Nat → Int32} (hw : WF N) {r i p : Nat} (h : On N r i p) : WF (outN N p) := by
  unfold outN
  rw [pos_eq hw h]
  exact WF_del hw h.1 h.2.1
theorem WF_ld {N : Nat → Int32} (hw : WF N) {r i p j : Nat} (h : On N r i p) (hp : p < nv (N 1)) (hj : j < mnr N r) : WF (ldN N p j) := by
  have wd := WF_del hw h.1 h.2.1
  have off := del_off hw h
  have bm := (hw.ro h.1).2.2.2.1.2
  unfold ldN outN
  rw [pos_eq hw h]
  have b3 := hw.n3.2
  have hm0 : 0 < nv (N (83 + 9 * r)) := Nat.lt_of_le_of_lt (Nat.zero_le _) h.2.1
  have ec : nv (delN N r (nv (N (83 + 9 * r))) i (83 + 9 * r)) = nv (N (83 + 9 * r)) - 1 := by rw [delN_c h.2.1, nv_nI (by omega)]
  have e3 : delN N r (nv (N (83 + 9 * r))) i 3 = N 3 := delN_o bm (by omega)
  have e1 : delN N r (nv (N (83 + 9 * r))) i 1 = N 1 := delN_o bm (by omega)
  have z := WF_ins wd (r := r) (j := j) (p := p) (by rw [e3]; exact h.1) (by rw [ec]; omega) (by rw [ec]; have : j < nv (N (83 + 9 * r)) := hj; omega) (by rw [e1]; exact hp) off
  rw [ec] at z
  exact z
