def offS (j : Nat) : Nat := ([7, 14, 21, 28, 35, 42, 49, 64] : List Nat).getD j 0
def layS (j : Nat) : Nat := ([38, 40, 63, 65, 67, 69, 452, 942] : List Nat).getD j 0
theorem gvn {b : Nat} {s : State} (h : (Jvm.Cond.and given_1 narrow_1).before #[Value.ref b] s = true) (i : Nat) {c : Cond} (hc : (flatC (Jvm.Cond.and given_1 narrow_1))[i]? = some c) : c.before #[Value.ref b] s = true := flat_of_before _ h c (List.mem_of_getElem? hc)
theorem st_arr : ∀ j, j < 8 → (flatC (Jvm.Cond.and given_1 narrow_1))[offS j - 2]? = some (Cond.arrayOf (.static "RopesAtDawn" (sN j) "[I") .int) := by decide +kernel
theorem st_len : ∀ j, j < 8 → (flatC (Jvm.Cond.and given_1 narrow_1))[offS j - 1]? = some (Cond.eq (.length (.static "RopesAtDawn" (sN j) "[I")) (.int (Int32.ofNat (stL j)))) := by decide +kernel
theorem st_el : ∀ j, j < 8 → ∀ i, i < stL j → (flatC (Jvm.Cond.and given_1 narrow_1))[offS j + i]? = some (Cond.eq (.elem (.static "RopesAtDawn" (sN j) "[I") (.int (Int32.ofNat i))) (.int (stV j i))) := by decide +kernel
theorem st_lay : ∀ j, j < 8 → tables_1[layS j]? = some (Cond.laysStatic "RopesAtDawn" (sN j) "[I") := by decide +kernel
theorem st_lt : ∀ j, j < 8 → stL j < 2 ^ 31 := by decide +kernel
def tmS (i : Nat) : Term := .string "RopesAtDawn" (if i = 0 then 203 else 205)
def lnS : List Nat := [5, 4]
def byS : List (List Int32) := [[119, 104, 98, 108, 115], [119, 100, 112, 110]]
def ofS (i : Nat) : Nat := if i = 0 then 118 else 128
theorem sx_ex : ∀ i, i < 2 → (flatC (Jvm.Cond.and given_1 narrow_1))[ofS i]? = some (Cond.exactly (tmS i) "java/lang/String") := by decide +kernel
theorem sx_co : ∀ i, i < 2 → (flatC (Jvm.Cond.and given_1 narrow_1))[ofS i + 1]? = some (Cond.eq (.field (tmS i) "java/lang/String" "coder" "B") (.int 0)) := by decide +kernel
theorem sx_ar : ∀ i, i < 2 → (flatC (Jvm.Cond.and given_1 narrow_1))[ofS i + 2]? = some (Cond.arrayOf (.field (tmS i) "java/lang/String" "value" "[B") .byte) := by decide +kernel
theorem sx_le : ∀ i, i < 2 → (flatC (Jvm.Cond.and given_1 narrow_1))[ofS i + 3]? = some (Cond.eq (.length (.field (tmS i) "java/lang/String" "value" "[B")) (.int (Int32.ofNat (lnS.getD i 0)))) := by decide +kernel
theorem sx_el : ∀ i, i < 2 → ∀ j, j < lnS.getD i 0 → (flatC (Jvm.Cond.and given_1 narrow_1))[ofS i + 4 + j]? = some (Cond.eq (.elem (.field (tmS i) "java/lang/String" "value" "[B") (.int (Int32.ofNat j))) (.int ((byS.getD i []).getD j 0))) := by decide +kernel
theorem sx_ne : (flatC (Jvm.Cond.and given_1 narrow_1))[137]? = some (Cond.not (Cond.eq (tmS 0) (tmS 1))) := by decide +kernel
theorem sx_24 : (flatC (Jvm.Cond.and given_1 narrow_1))[148]? = some (Cond.eq (tmS 0) (.string "RopesAtDawnModel" 24)) := by decide +kernel
theorem sx_26 : (flatC (Jvm.Cond.and given_1 narrow_1))[160]? = some (Cond.eq (tmS 1) (.string "RopesAtDawnModel" 26)) := by decide +kernel
theorem sx_23 : (flatC (Jvm.Cond.and given_1 narrow_1))[114]? = some (Cond.exactly (.string "RopesAtDawn$Reader" 23) "java/lang/String") := by decide +kernel
theorem sx_cs : (flatC (Jvm.Cond.and given_1 narrow_1))[56]? = some (Cond.eq (.static "java/lang/String" "COMPACT_STRINGS" "Z") (.int 1)) := by decide +kernel
theorem sx_fm : (flatC (Jvm.Cond.and given_1 narrow_1))[57]? = some (Cond.isRef (.static "jdk/internal/util/Preconditions" "SIOOBE_FORMATTER" "Ljava/util/function/BiFunction;")) := by decide +kernel
theorem ltr_by : ∀ u, u < 2 → ∀ i, i < 5 - u → (byS.getD u []).getD i 0 = nI (ltr u i) := by decide +kernel
theorem lnS_eq : ∀ u, u < 2 → lnS.getD u 0 = 5 - u := by decide +kernel
theorem no_ref {s : State} {c : Cell} {ty : FieldType} {a i q : Nat} (hh : heapFits s = true) (hc : s.heap[a]? = some c) (ho : s.isArrayOf c ty) (hty : fits ty (.ref q) = false) (hv : c.slots[i]? = some (.ref q)) : False := by
  have h1 : cellFits s c = true := by
    obtain ⟨hl, e⟩ := Array.getElem?_eq_some_iff.mp hc
    have z := Array.all_eq_true.mp hh a hl
    rw [e] at z
    exact z
  have h2 := List.all_eq_true.mp h1 i (List.mem_range.mpr (Array.getElem?_eq_some_iff.mp hv).1)
  rw [hv] at h2
  obtain ⟨hn, k, hk, comp, hkind⟩ := ho
  have h3 : s.slotType? c.cls c.vm i = some ty := by
    unfold State.slotType?
    rw [hk]
    cases hm : c.vm <;> first | exact absurd hm (hn _) | simp [hkind]
  have h4 : s.fitsSlot c.cls c.vm i (.ref q) = true := h2
  unfold State.fitsSlot at h4
  rw [h3] at h4
  have h5 : fits ty (.ref q) = true := h4
  rw [hty] at h5
  cases h5
theorem two_arr {s : State} {c : Cell} (h1 : s.isArrayOf c .int) (h2 : s.isArrayOf c .byte) : False := by
  obtain ⟨-, k, hk, comp, e⟩ := h1
  obtain ⟨-, k', hk', comp', e'⟩ := h2
  cases hk.symm.trans hk'
  rw [e] at e'
  cases e'
section
variable {b : Nat} {s : State}
theorem b_statics (hts : ∀ w ∈ lw_tbl, w.before #[Value.ref b] s = true) (h : (Jvm.Cond.and given_1 narrow_1).before #[Value.ref b] s = true) : ∃ A : Nat → Nat, ∀ j, j < 8 → va_Z "RopesAtDawn" (sN j) "[I" (.ref (A j)) (fun q => s.heap.size ≤ q) s s.heap ∧ va_T .int (A j) (stL j) (fun i => .int (stV j i)) (fun q => s.heap.size ≤ q) s s.heap := by
  have hA : ∀ a : Nat, a < s.heap.size → ¬ (fun q : Nat => s.heap.size ≤ q) a := fun a ha hq => absurd ha (Nat.not_lt.mpr hq)
  have h0 : ∀ j : Nat, ∃ a : Nat, j < 8 → va_Z "RopesAtDawn" (sN j) "[I" (.ref a) (fun q => s.heap.size ≤ q) s s.heap ∧ va_T .int a (stL j) (fun i => .int (stV j i)) (fun q => s.heap.size ≤ q) s s.heap := by
    intro j
    by_cases hj : j < 8
    · obtain ⟨t, e, hT⟩ := va_Tof (tm := .static "RopesAtDawn" (sN j) "[I") (ty := .int) (N := stL j) (f := fun i => .int (stV j i)) (A := fun q => s.heap.size ≤ q) (st_lt j hj) (gvn h _ (st_arr j hj)) (va_eqt (gvn h _ (st_len j hj))) (fun i hi => va_eqt (gvn h _ (st_el j hj i hi))) hA
      exact ⟨t, fun _ => ⟨va_Zof (hts _ (wk _ (st_lay j hj))) (hts _ (wk 1 (by decide +kernel))) e hA, hT⟩⟩
    · exact ⟨0, fun q => absurd q hj⟩
  exact ⟨fun j => Classical.choose (h0 j), fun j hj => Classical.choose_spec (h0 j) hj⟩
theorem b_texts (h : (Jvm.Cond.and given_1 narrow_1).before #[Value.ref b] s = true) : ∃ adK adV : Nat → Nat, vk_S 2 lnS byS adK adV (fun q => s.heap.size ≤ q) s s.heap ∧ ∀ i : Nat, i < 2 → (tmS i).eval #[Value.ref b] s none [] s = some (.ref (adK i)) := by
  have hA : ∀ a : Nat, a < s.heap.size → ¬ (fun q : Nat => s.heap.size ≤ q) a := fun a ha hq => absurd ha (Nat.not_lt.mpr hq)
  refine vk_Sof (tm := tmS) (by decide +kernel) (fun i hi => gvn h _ (sx_ex i hi)) (fun i hi => gvn h _ (sx_co i hi)) (fun i hi => gvn h _ (sx_ar i hi)) (fun i hi => gvn h _ (sx_le i hi)) (fun i hi j hj => gvn h _ (sx_el i hi j hj)) (fun i j hi hj hij => ?_) hA
  rcases (show (i = 0 ∧ j = 1) ∨ (i = 1 ∧ j = 0) by omega) with ⟨rfl, rfl⟩ | ⟨rfl, rfl⟩
  · exact Or.inl (gvn h _ sx_ne)
  · exact Or.inr (gvn h _ sx_ne)
theorem b_fm (hts : ∀ w ∈ lw_tbl, w.before #[Value.ref b] s = true) (h : (Jvm.Cond.and given_1 narrow_1).before #[Value.ref b] s = true) : ∃ f : Nat, va_Z "jdk/internal/util/Preconditions" "SIOOBE_FORMATTER" "Ljava/util/function/BiFunction;" (fz f) (fun q => s.heap.size ≤ q) s s.heap := by
  have hA : ∀ a : Nat, a < s.heap.size → ¬ (fun q : Nat => s.heap.size ≤ q) a := fun a ha hq => absurd ha (Nat.not_lt.mpr hq)
  rcases va_Zqof (A := fun q => s.heap.size ≤ q) (hts _ (wk 631 (by decide +kernel))) (hts _ (wk 16 (by decide +kernel))) (gvn h _ sx_fm) hA with z | ⟨t, z⟩
  · exact ⟨0, z⟩
  · exact ⟨t + 1, z⟩
theorem b_known (hts : ∀ w ∈ lw_tbl, w.before #[Value.ref b] s = true) : ∃ (dC : Nat → ClassId) (dI : Nat → Nat → Nat), ∀ ci, ci < 11 → u_Kn s (cN ci) (cT ci) (fN ci) (dC ci) (dI ci) := by
  have hi : ∀ ci, ci < 11 → Cond.instantiable (cN ci) (fN ci) ∈ lw_gd := by
    intro ci h
    match ci, h with
    | 0, _ => exact io_0
    | 1, _ => exact io_1
    | 2, _ => exact io_2
    | 3, _ => exact io_3
    | 4, _ => exact io_4
    | 5, _ => exact io_5
    | 6, _ => exact io_6
    | 7, _ => exact io_7
    | 8, _ => exact io_8
    | 9, _ => exact io_9
    | 10, _ => exact io_10
    | n + 11, h => exact absurd h (by omega)
  have h0 : ∀ ci : Nat, ∃ q : ClassId × (Nat → Nat), ci < 11 → u_Kn s (cN ci) (cT ci) (fN ci) q.1 q.2 := by
    intro ci
    by_cases h : ci < 11
    · obtain ⟨c, i, hk⟩ := u_known hts (cls_in ci h) (hts _ (List.mem_filter.mp (hi ci h)).1)
      exact ⟨(c, i), fun _ => hk⟩
    · exact ⟨(0, fun _ => 0), fun q => absurd q h⟩
  exact ⟨fun ci => (Classical.choose (h0 ci)).1, fun ci => (Classical.choose (h0 ci)).2, fun ci h => Classical.choose_spec (h0 ci) h⟩
theorem b_nest (hts : ∀ w ∈ lw_tbl, w.before #[Value.ref b] s = true) : ∀ w ∈ gN, va_Nw w s := by
  intro w hw
  obtain ⟨h1, h2⟩ := List.mem_filter.mp hw
  refine va_Nw.of ?_ (hts w h1)
  cases w <;> first | rfl | cases h2
theorem b_over (hts : ∀ w ∈ lw_tbl, w.before #[Value.ref b] s = true) : ∀ j, j < 3 → va_AO (rC j) s := by
  intro j hj
  match j, hj with
  | 0, _ => exact (hts _ (wk (w := Cond.arrayOver (.object "RopesAtDawn$Row")) 84 (by decide +kernel)))
  | 1, _ => exact (hts _ (wk (w := Cond.arrayOver (.object "RopesAtDawn$Sheet")) 254 (by decide +kernel)))
  | 2, _ => exact (hts _ (wk (w := Cond.arrayOver (.object "java/lang/String")) 1020 (by decide +kernel)))
  | n + 3, h => exact absurd h (by omega)
theorem b_cs (hts : ∀ w ∈ lw_tbl, w.before #[Value.ref b] s = true) (h : (Jvm.Cond.and given_1 narrow_1).before #[Value.ref b] s = true) : va_Z "java/lang/String" "COMPACT_STRINGS" "Z" (.int 1) (fun q => s.heap.size ≤ q) s s.heap := by
  have hA : ∀ a : Nat, a < s.heap.size → ¬ (fun q : Nat => s.heap.size ≤ q) a := fun a ha hq => absurd ha (Nat.not_lt.mpr hq)
  exact va_Zof (hts _ (wk 592 (by decide +kernel))) (hts _ (wk 13 (by decide +kernel))) (va_eqi (gvn h _ sx_cs)) hA
theorem b_refs (hts : ∀ w ∈ lw_tbl, w.before #[Value.ref b] s = true) (h : (Jvm.Cond.and given_1 narrow_1).before #[Value.ref b] s = true) {adK : Nat → Nat} (he : ∀ i : Nat, i < 2 → (tmS i).eval #[Value.ref b] s none [] s = some (.ref (adK i))) : ∃ r : Nat, vk_R "RopesAtDawn$Reader" 23 "" r s ∧ vk_R "RopesAtDawn" 203 "whbls" (adK 0) s ∧ vk_R "RopesAtDawn" 205 "wdpn" (adK 1) s ∧ vk_R "RopesAtDawnModel" 24 "whbls" (adK 0) s ∧ vk_R "RopesAtDawnModel" 26 "wdpn" (adK 1) s := by
  obtain ⟨r, c, cA, kA, q1, -⟩ := Cond.exactly_spec (args := #[Value.ref b]) (first := s) (o := none) (s := s) (idx := []) (t := .string "RopesAtDawn$Reader" 23) (cls := "java/lang/String") (gvn h _ sx_23)
  exact ⟨r, vk_R.of (hts _ (wk 212 (by decide +kernel))) q1, vk_R.of (hts _ (wk 552 (by decide +kernel))) (he 0 (by decide)), vk_R.of (hts _ (wk 553 (by decide +kernel))) (he 1 (by decide)), vk_R.of (hts _ (wk 1021 (by decide +kernel))) (va_eqR (gvn h _ sx_24) (he 0 (by decide))), vk_R.of (hts _ (wk 1022 (by decide +kernel))) (va_eqR (gvn h _ sx_26) (he 1 (by decide)))⟩
end
