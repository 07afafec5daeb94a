noncomputable def mu0 (s : State) : Mu := fun a i => match s.heap[a]? with
  | some ce => (match ce.slots[i]? with
    | some (.int v) => v
    | _ => 0)
  | none => 0
noncomputable def nA (s : State) (a : Nat) : Nat := match s.heap[a]? with
  | some ce => ce.slots.size.toInt32.toNatClampNeg
  | none => 0
noncomputable def sh0 (s : State) (A adK adV : Nat → Nat) : Sh := (s.heap.size, fun a => @ite _ (∃ j, j < 8 ∧ a = A j) (Classical.propDecidable _) (some (kC (nA s a))) (@ite _ (a = adV 0 ∨ a = adV 1) (Classical.propDecidable _) (some (kB (nA s a))) (@ite _ (a = adK 0) (Classical.propDecidable _) (some (kT 11)) (@ite _ (a = adK 1) (Classical.propDecidable _) (some (kT 12)) none))))
def ad0 (A adK adV : Nat → Nat) (r : Nat) (k : Nat) : Nat := if k < 8 then A k else if k = 10 then r else if k = 11 then adK 0 else if k = 12 then adK 1 else if k = 31 then adV 0 else adV 1
theorem mu0_at {s : State} {a i : Nat} {ce : Cell} {v : Int32} (h : s.heap[a]? = some ce) (hv : ce.slots[i]? = some (.int v)) : mu0 s a i = v := by
  unfold mu0
  rw [h]
  dsimp only
  rw [hv]
theorem nA_at {s : State} {a n : Nat} {ce : Cell} (h : s.heap[a]? = some ce) (hz : ce.slots.size.toInt32 = Int32.ofNat n) (hn : n < 2 ^ 31) : nA s a = n := by
  unfold nA
  rw [h]
  dsimp only
  rw [hz]
  exact nI_clamp hn
theorem T_cArr {s : State} {ty : FieldType} {t N : Nat} {f : Nat → Int32} {A : Nat → Prop} (hN : N < 2 ^ 31) (h : va_T ty t N (fun i => .int (f i)) A s s.heap) : nA s t = N ∧ t < s.heap.size ∧ cArr ty N (mu0 s t) t s s.heap ∧ ∀ i, i < N → mu0 s t i = f i := by
  obtain ⟨ce, h1, h2, h3, h4, h5, h6, -⟩ := h
  refine ⟨nA_at h1 h5 hN, (Array.getElem?_eq_some_iff.mp h1).1, ⟨ce, h1, h2, h3, h4, h5, fun j hj => ?_⟩, fun i hi => mu0_at h1 (h6 i hi)⟩
  rw [mu0_at h1 (h6 j hj)]
  exact h6 j hj
theorem begin_ex {b : Nat} {s : State} (hts : ∀ w ∈ lw_tbl, w.before #[Value.ref b] s = true) (h : (Jvm.Cond.and given_1 narrow_1).before #[Value.ref b] s = true) (hh : heapFits s = true) : ∃ (G : Gl) (fm : Nat) (S : Sh) (μ : Mu), G.1 = s ∧ Gok G ∧ Fmt G fm ∧ Rp G S μ G.1.heap [] ∧ Sta G S μ ∧ TxB G S μ ∧ (∀ j, j < 8 → G.2.2.2 j < S.1) ∧ ∀ v, v < 2 → G.2.2.2 (11 + v) < S.1 ∧ G.2.2.2 (11 + v + 20) < S.1 := by
  obtain ⟨A, hA⟩ := b_statics hts h
  obtain ⟨adK, adV, ⟨hS, hne⟩, he⟩ := b_texts h
  obtain ⟨fm, hfm⟩ := b_fm hts h
  obtain ⟨dC, dI, hK⟩ := b_known hts
  obtain ⟨r, r1, r2, r3, r4, r5⟩ := b_refs hts h he
  have ca : ∀ j, j < 8 → nA s (A j) = stL j ∧ A j < s.heap.size ∧ cArr .int (stL j) (mu0 s (A j)) (A j) s s.heap ∧ ∀ i, i < stL j → mu0 s (A j) i = stV j i := fun j hj => T_cArr (st_lt j hj) (hA j hj).2
  have cv : ∀ u, u < 2 → nA s (adV u) = 5 - u ∧ adV u < s.heap.size ∧ cArr .byte (5 - u) (mu0 s (adV u)) (adV u) s s.heap ∧ ∀ i, i < 5 - u → mu0 s (adV u) i = nI (ltr u i) := by
    intro u hu
    have z := T_cArr (f := fun i => (byS.getD u []).getD i 0) (by rw [lnS_eq u hu]; omega) (hS u hu).2.2.2
    rw [lnS_eq u hu] at z
    exact ⟨z.1, z.2.1, z.2.2.1, fun i hi => (z.2.2.2 i hi).trans (ltr_by u hu i hi)⟩
  have lk : ∀ u, u < 2 → adK u < s.heap.size := by
    intro u hu
    obtain ⟨ce, h1, -⟩ := (hS u hu).1
    exact (Array.getElem?_eq_some_iff.mp h1).1
  have n1 : ∀ j u, j < 8 → u < 2 → A j ≠ adV u := by
    intro j u hj hu e
    obtain ⟨c1, h1, h2, -⟩ := (ca j hj).2.2.1
    obtain ⟨c2, g1, g2, -⟩ := (cv u hu).2.2.1
    rw [e] at h1
    cases h1.symm.trans g1
    exact two_arr h2 g2
  have n2 : ∀ j u, j < 8 → u < 2 → A j ≠ adK u := by
    intro j u hj hu e
    obtain ⟨c1, h1, h2, -⟩ := (ca j hj).2.2.1
    obtain ⟨cf, k, i, f, c2, g0, g1, g2, g3, g4, -⟩ := (hS u hu).2.2.1
    rw [e] at h1
    cases h1.symm.trans g2
    exact no_ref hh g2 h2 rfl g4
  have n3 : ∀ v u, v < 2 → u < 2 → adV v ≠ adK u := by
    intro v u hv hu e
    obtain ⟨c1, h1, h2, -⟩ := (cv v hv).2.2.1
    obtain ⟨cf, k, i, f, c2, g0, g1, g2, g3, g4, -⟩ := (hS u hu).2.2.1
    rw [e] at h1
    cases h1.symm.trans g2
    exact no_ref hh g2 h2 rfl g4
  have n4 : adK 1 ≠ adK 0 := fun e => absurd (hne 1 0 (by decide) (by decide) e) (by decide)
  have sA : ∀ j, j < 8 → (sh0 s A adK adV).2 (A j) = some (kC (stL j)) := by
    intro j hj
    unfold sh0
    dsimp only
    rw [if_pos ⟨j, hj, rfl⟩, (ca j hj).1]
  have sV : ∀ u, u < 2 → (sh0 s A adK adV).2 (adV u) = some (kB (5 - u)) := by
    intro u hu
    unfold sh0
    dsimp only
    rw [if_neg (fun ⟨j, hj, e⟩ => n1 j u hj hu e.symm), if_pos (by rcases (show u = 0 ∨ u = 1 by omega) with rfl | rfl <;> simp), (cv u hu).1]
  have nK : ∀ u, u < 2 → ¬ (∃ j, j < 8 ∧ adK u = A j) := fun u hu ⟨j, hj, e⟩ => n2 j u hj hu e.symm
  have nV : ∀ u, u < 2 → ¬ (adK u = adV 0 ∨ adK u = adV 1) := fun u hu e => e.elim (fun e => n3 0 u (by decide) hu e.symm) (fun e => n3 1 u (by decide) hu e.symm)
  have sK0 : (sh0 s A adK adV).2 (adK 0) = some (kT 11) := by
    unfold sh0
    dsimp only
    rw [if_neg (nK 0 (by decide)), if_neg (nV 0 (by decide)), if_pos rfl]
  have sK1 : (sh0 s A adK adV).2 (adK 1) = some (kT 12) := by
    unfold sh0
    dsimp only
    rw [if_neg (nK 1 (by decide)), if_neg (nV 1 (by decide)), if_neg n4, if_pos rfl]
  have eA : ∀ j, j < 8 → ad0 A adK adV r j = A j := fun j hj => if_pos hj
  refine ⟨(s, dC, dI, ad0 A adK adV r), fm, sh0 s A adK adV, mu0 s, rfl, ⟨hK, fun j hj => ?_, b_nest hts, b_over hts, b_cs hts h, r1, r2, r3, r4, r5⟩, hfm, ⟨Nat.le_refl _, rfl, fun a ha => ?_, fun a => ?_, fun q _ => rfl, fun l hl => by cases hl⟩, fun j hj => ?_, fun u hu => ?_, fun j hj => ?_, fun v hv => ?_⟩
  · show va_Z _ _ _ (.ref (ad0 A adK adV r j)) _ _ _
    rw [eA j hj]
    exact (hA j hj).1
  · have ha2 : s.heap.size ≤ a := ha
    have z0 : ¬ (∃ j, j < 8 ∧ a = A j) := fun ⟨j, hj, e⟩ => by have := (ca j hj).2.1; omega
    have z1 : ¬ (a = adV 0 ∨ a = adV 1) := fun e => by have := (cv 0 (by decide)).2.1; have := (cv 1 (by decide)).2.1; omega
    have z2 : ¬ a = adK 0 := fun e => by have := lk 0 (by decide); omega
    have z3 : ¬ a = adK 1 := fun e => by have := lk 1 (by decide); omega
    unfold sh0
    dsimp only
    rw [if_neg z0, if_neg z1, if_neg z2, if_neg z3]
  · by_cases z0 : ∃ j, j < 8 ∧ a = A j
    · obtain ⟨j, hj, rfl⟩ := z0
      rw [sA j hj]
      exact ⟨(ca j hj).2.1, (ca j hj).2.2.1⟩
    · by_cases z1 : ∃ u, u < 2 ∧ a = adV u
      · obtain ⟨u, hu, rfl⟩ := z1
        rw [sV u hu]
        exact ⟨(cv u hu).2.1, (cv u hu).2.2.1⟩
      · by_cases z2 : a = adK 0
        · subst z2
          rw [sK0]
          exact ⟨(hS 0 (by decide)).2.2.1, (hS 0 (by decide)).2.1, (hS 0 (by decide)).1⟩
        · by_cases z3 : a = adK 1
          · subst z3
            rw [sK1]
            exact ⟨(hS 1 (by decide)).2.2.1, (hS 1 (by decide)).2.1, (hS 1 (by decide)).1⟩
          · have e : (sh0 s A adK adV).2 a = none := by
              unfold sh0
              dsimp only
              rw [if_neg z0, if_neg (fun e => z1 (e.elim (fun e => ⟨0, by decide, e⟩) (fun e => ⟨1, by decide, e⟩))), if_neg z2, if_neg z3]
            rw [e]
            trivial
  · show (sh0 s A adK adV).2 (ad0 A adK adV r j) = _ ∧ ∀ i, _ → mu0 s (ad0 A adK adV r j) i = _
    rw [eA j hj]
    exact ⟨sA j hj, (ca j hj).2.2.2⟩
  · rcases (show u = 0 ∨ u = 1 by omega) with rfl | rfl
    · exact ⟨sK0, sV 0 (by decide), (cv 0 (by decide)).2.2.2⟩
    · exact ⟨sK1, sV 1 (by decide), (cv 1 (by decide)).2.2.2⟩
  · show ad0 A adK adV r j < s.heap.size
    rw [eA j hj]
    exact (ca j hj).2.1
  · rcases (show v = 0 ∨ v = 1 by omega) with rfl | rfl
    · exact ⟨lk 0 (by decide), (cv 0 (by decide)).2.1⟩
    · exact ⟨lk 1 (by decide), (cv 1 (by decide)).2.1⟩
