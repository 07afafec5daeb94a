/-! The layer X: a method's walk over a store of ints (Mu) and a shape (Sh), the machine's own state hidden. -/
abbrev MI : Type := MethodName × ByteArray × Nat × Option FieldType
abbrev Kd : Type := (Nat × Nat) ⊕ ((Nat × Nat × (Nat → Option Nat)) ⊕ (Nat × (Nat → Option Nat)))
abbrev Sh : Type := Nat × (Nat → Option Kd)
abbrev Mu : Type := Nat → Nat → Int32
/-- the start of the law, class numbers, field slots, addresses of static arrays and texts -/
abbrev Gl : Type := State × (Nat → ClassId) × (Nat → Nat → Nat) × (Nat → Nat)
abbrev kI (n : Nat) : Kd := .inl (1, n)
abbrev kC (n : Nat) : Kd := .inl (0, n)
abbrev kB (n : Nat) : Kd := .inl (2, n)
abbrev kT (n : Nat) : Kd := .inl (3, n)
abbrev kR (j n : Nat) (r : Nat → Option Nat) : Kd := .inr (.inl (j, n, r))
abbrev kO (ci : Nat) (r : Nat → Option Nat) : Kd := .inr (.inr (ci, r))
def gb (G : Gl) : Nat := G.1.heap.size
def lw_gd : List Cond := lw_tbl.filter goodWord
theorem gd {w : Cond} (h : w ∈ lw_tbl) (hg : goodWord w = true) : w ∈ lw_gd := List.mem_filter.mpr ⟨h, hg⟩
theorem gd_good : ∀ w ∈ lw_gd, goodWord w = true := fun _ h => (List.mem_filter.mp h).2
/-- which fields hold numbers -/
def fI (ci k : Nat) : Bool := match cTy ci k with
  | .int => true
  | .boolean => true
  | _ => false
def fV (ci : Nat) (r : Nat → Option Nat) (f : Nat → Int32) (k : Nat) : Value := if fI ci k = true then .int (f k) else va_rf (r k)
/-- the elements' class of arrays of references -/
def rC (j : Nat) : String := match j with
  | 0 => "RopesAtDawn$Row"
  | 1 => "RopesAtDawn$Sheet"
  | _ => "java/lang/String"
def cArr (ty : FieldType) (n : Nat) (f : Nat → Int32) (a : Nat) (U : State) (H : Heap) : Prop := ∃ cell : Cell, H[a]? = some cell ∧ U.isArrayOf cell ty ∧ cell.vm ≠ .unknown ∧ n ≤ cell.slots.size ∧ cell.slots.size.toInt32 = Int32.ofNat n ∧ ∀ j : Nat, j < n → cell.slots[j]? = some (.int (f j))
def cellAt (G : Gl) (k : Option Kd) (f : Nat → Int32) (a : Nat) (H : Heap) : Prop := match k with
  | none => True
  | some (.inl (1, n)) => gb G ≤ a ∧ ∃ cA : ClassId, ArrOfT G.1 cA .int ∧ H[a]? = some (arrV cA n (fun j => .int (f j)))
  | some (.inl (0, n)) => a < gb G ∧ cArr .int n f a G.1 H
  | some (.inl (2, n)) => a < gb G ∧ cArr .byte n f a G.1 H
  | some (.inl (3, n)) => va_OF "java/lang/String" "value" "[B" (.ref (G.2.2.2 (n + 20))) a (fun q => gb G ≤ q) G.1 H ∧ va_OF "java/lang/String" "coder" "B" (.int 0) a (fun q => gb G ≤ q) G.1 H ∧ va_O "java/lang/String" a (fun q => gb G ≤ q) G.1 H
  | some (.inl _) => False
  | some (.inr (.inl (j, n, r))) => gb G ≤ a ∧ ∃ cA : ClassId, (ArrOfT G.1 cA (.object (rC j)) ∧ va_RA G.1 cA (.object (rC j))) ∧ H[a]? = some (arrV cA n (fun i => va_rf (r i)))
  | some (.inr (.inr (ci, r))) => gb G ≤ a ∧ t_OB a (G.2.1 ci) (fN ci) (G.2.2.1 ci) H (fV ci r f)
theorem cellAt.kept {G : Gl} {k : Option Kd} {f : Nat → Int32} {a : Nat} {H H1 : Heap} (h : cellAt G k f a H) (hq : H1[a]? = H[a]?) : cellAt G k f a H1 := by
  match k, h with
  | none, _ => trivial
  | some (.inl (0, n)), ⟨h0, ce, h1, h2⟩ => exact ⟨h0, ce, by rw [hq]; exact h1, h2⟩
  | some (.inl (1, n)), ⟨h1, cA, h2, h3⟩ => exact ⟨h1, cA, h2, by rw [hq]; exact h3⟩
  | some (.inl (2, n)), ⟨h0, ce, h1, h2⟩ => exact ⟨h0, ce, by rw [hq]; exact h1, h2⟩
  | some (.inl (3, n)), ⟨⟨c1, k1, i1, f1, e1, a1, a2, a3, a4⟩, ⟨c2, k2, i2, f2, e2, b1, b2, b3, b4⟩, ⟨e3, d1, d2⟩⟩ => exact ⟨⟨c1, k1, i1, f1, e1, a1, a2, by rw [hq]; exact a3, a4⟩, ⟨c2, k2, i2, f2, e2, b1, b2, by rw [hq]; exact b3, b4⟩, ⟨e3, by rw [hq]; exact d1, d2⟩⟩
  | some (.inr (.inl (j, n, r))), ⟨h1, cA, h2, h3⟩ => exact ⟨h1, cA, h2, by rw [hq]; exact h3⟩
  | some (.inr (.inr (ci, r))), ⟨h1, h2⟩ => exact ⟨h1, h2.kept hq⟩
/-- the heap holds the shape and the store; below the law's start it is as it was; what was written is above it -/
def Rp (G : Gl) (S : Sh) (μ : Mu) (H : Heap) (locs : List Loc) : Prop := gb G ≤ H.size ∧ H.size = S.1 ∧ (∀ a : Nat, S.1 ≤ a → S.2 a = none) ∧ (∀ a : Nat, cellAt G (S.2 a) (μ a) a H) ∧ (∀ q : Nat, q < gb G → H[q]? = G.1.heap[q]?) ∧ ∀ l ∈ locs, gb G ≤ l.base
theorem Rp.at {G : Gl} {S : Sh} {μ : Mu} {H : Heap} {locs : List Loc} (h : Rp G S μ H locs) {a : Nat} {k : Kd} (hk : S.2 a = some k) : cellAt G (some k) (μ a) a H := by
  have := h.2.2.2.1 a
  rw [hk] at this
  exact this
theorem Rp.nil {G : Gl} {S : Sh} {μ : Mu} {H : Heap} {locs : List Loc} (h : Rp G S μ H locs) : Rp G S μ H [] := ⟨h.1, h.2.1, h.2.2.1, h.2.2.2.1, h.2.2.2.2.1, fun _ q => by cases q⟩
theorem Rp.app {G : Gl} {S : Sh} {μ : Mu} {H : Heap} {locs L : List Loc} (h : Rp G S μ H []) (h1 : ∀ l ∈ locs, gb G ≤ l.base) (h2 : ∀ l ∈ L, gb G ≤ l.base) : Rp G S μ H (locs ++ L) := ⟨h.1, h.2.1, h.2.2.1, h.2.2.2.1, h.2.2.2.2.1, fun l q => (List.mem_append.mp q).elim (h1 l) (h2 l)⟩
/-- one cell anew -/
theorem Rp.put {G : Gl} {S S' : Sh} {μ μ' : Mu} {H H1 : Heap} {locs : List Loc} {a i : Nat} (h : Rp G S μ H locs) (hs : S'.1 = S.1) (ha : gb G ≤ a) (hal : a < S.1) (hz : H1.size = H.size) (oq : ∀ q : Nat, q ≠ a → H1[q]? = H[q]?) (hS : ∀ q : Nat, q ≠ a → S'.2 q = S.2 q ∧ μ' q = μ q) (hc : cellAt G (S'.2 a) (μ' a) a H1) : Rp G S' μ' H1 (locs ++ [⟨a, i⟩]) := by
  refine ⟨by rw [hz]; exact h.1, by rw [hz, hs]; exact h.2.1, fun q hq => ?_, fun q => ?_, fun q hq => ?_, fun l hl => ?_⟩
  · rw [hs] at hq
    rw [(hS q (by omega)).1]
    exact h.2.2.1 q hq
  · by_cases e : q = a
    · subst e; exact hc
    · rw [(hS q e).1, (hS q e).2]
      exact (h.2.2.2.1 q).kept (oq q e)
  · rw [oq q (by omega)]
    exact h.2.2.2.2.1 q hq
  · rcases List.mem_append.mp hl with q | q
    · exact h.2.2.2.2.2 l q
    · rw [List.mem_singleton.mp q]; exact ha
/-- a cell more -/
def Sx (S : Sh) (k : Kd) : Sh := (S.1 + 1, fun a => if a = S.1 then some k else S.2 a)
def Mx (μ : Mu) (a : Nat) (f : Nat → Int32) : Mu := fun b => if b = a then f else μ b
theorem Rp.push {G : Gl} {S : Sh} {μ : Mu} {H H1 : Heap} {locs : List Loc} {k : Kd} {f : Nat → Int32} (h : Rp G S μ H locs) (hz : H1.size = S.1 + 1) (oq : ∀ q : Nat, q < S.1 → H1[q]? = H[q]?) (hc : cellAt G (some k) f S.1 H1) : Rp G (Sx S k) (Mx μ S.1 f) H1 locs := by
  refine ⟨by rw [hz]; have := h.1; have := h.2.1; omega, hz, fun q hq => ?_, fun q => ?_, fun q hq => ?_, h.2.2.2.2.2⟩
  · have h1 : S.1 + 1 ≤ q := hq
    show (if q = S.1 then some k else S.2 q) = none
    rw [if_neg (by omega)]
    exact h.2.2.1 q (by omega)
  · show cellAt G (if q = S.1 then some k else S.2 q) (if q = S.1 then f else μ q) q H1
    by_cases e : q = S.1
    · subst e
      simp only [if_true]
      exact hc
    · rw [if_neg e, if_neg e]
      by_cases l : q < S.1
      · exact (h.2.2.2.1 q).kept (oq q l)
      · rw [h.2.2.1 q (by omega)]; trivial
  · have := h.1
    have := h.2.1
    rw [oq q (by omega)]
    exact h.2.2.2.2.1 q hq
theorem Rp.lt {G : Gl} {S : Sh} {μ : Mu} {H : Heap} {locs : List Loc} (h : Rp G S μ H locs) {a : Nat} {k : Kd} (hk : S.2 a = some k) : a < S.1 := by
  rcases Nat.lt_or_ge a S.1 with q | q
  · exact q
  · rw [h.2.2.1 a q] at hk; cases hk
/-- the words that the tables' laws of calls and fields don't carry: they are the law's start's own -/
def sN (j : Nat) : String := match j with
  | 0 => "PERSON_LEAST"
  | 1 => "PERSON_MOST"
  | 2 => "PIECE_LEAST"
  | 3 => "PIECE_MOST"
  | 4 => "ROPE_LEAST"
  | 5 => "ROPE_MOST"
  | 6 => "KIND_ABOVE"
  | _ => "BODIES"
def gN : List Cond := lw_tbl.filter (fun w => match w with | .fieldLinkNest .. => true | _ => false)
def Gok (G : Gl) : Prop := (∀ ci, ci < 11 → u_Kn G.1 (cN ci) (cT ci) (fN ci) (G.2.1 ci) (G.2.2.1 ci)) ∧ (∀ j, j < 8 → va_Z "RopesAtDawn" (sN j) "[I" (.ref (G.2.2.2 j)) (fun q => gb G ≤ q) G.1 G.1.heap) ∧ (∀ w ∈ gN, va_Nw w G.1) ∧ (∀ j, j < 3 → va_AO (rC j) G.1) ∧
  va_Z "java/lang/String" "COMPACT_STRINGS" "Z" (.int 1) (fun q => gb G ≤ q) G.1 G.1.heap ∧ (vk_R "RopesAtDawn$Reader" 23 "" (G.2.2.2 10) G.1 ∧ vk_R "RopesAtDawn" 203 "whbls" (G.2.2.2 11) G.1 ∧ vk_R "RopesAtDawn" 205 "wdpn" (G.2.2.2 12) G.1 ∧ vk_R "RopesAtDawnModel" 24 "whbls" (G.2.2.2 11) G.1 ∧ vk_R "RopesAtDawnModel" 26 "wdpn" (G.2.2.2 12) G.1)
def Cx (G : Gl) (mi : MI) (d mc : Nat) (p : Program) (R : Room) (s : State) (m : MethodId) (args : Array Value) (meth : Method) (c : Code) : Prop :=
  p.tables.exec = Jvm.exec ∧ c.code = mi.2.1 ∧ meth.sig.returnType = mi.2.2.2 ∧ c.maxLocals = mi.2.2.1 ∧ s.vm.findClass mi.1.cls = some m.cls ∧ (∀ w ∈ lw_gd, w.before args s = true) ∧ meth.locks = false ∧ meth.name = mi.1.name ∧ (d ≤ R.frames ∧ 64 * d + 13 ≤ R.locals ∧ mc ≤ R.cells ∧ 400 * mc ≤ R.slots) ∧ G.1.WarmedH s.vm ∧ Gok G
/-- where a method may leave with v -/
def Rk (mi : MI) (pc : Nat) (v : Option Value) : Prop :=
  (v = none ∧ mi.2.2.2 = none ∧ decode mi.2.1 pc = .ok (.return_, 1)) ∨ (∃ (x : Int32) (ty : FieldType), v = some (.int x) ∧ mi.2.2.2 = some ty ∧ narrow ty (.int x) = .int x ∧ decode mi.2.1 pc = .ok (.ireturn, 1)) ∨ (∃ (rt : FieldType) (w : Value), v = some w ∧ (w = .null ∨ ∃ a, w = .ref a) ∧ mi.2.2.2 = some rt ∧ ((∃ n, rt = .object n) ∨ ∃ t, rt = .array t) ∧ decode mi.2.1 pc = .ok (.areturn, 1))
def Rt (G : Gl) (mi : MI) (mc : Nat) (p : Program) (l : Launch) (e : Env) (R : Room) (s : State) (m : MethodId) (args : Array Value) (below : List Frame) (meth : Method) (c : Code) (Z : State → Prop) (Q : Option Value → Sh → Mu → Prop) : Prop :=
  ∀ (v : Option Value) (S' : Sh) (μ' : Mu) (H' : Heap) (locs' : List Loc) (cells' slots' pc' : Nat) (ls' : Array Slot), Q v S' μ' → Rp G S' μ' H' locs' → cells' ≤ mc → slots' ≤ 400 * mc → Rk mi pc' v → W p l e R s m args below meth c H' locs' cells' slots' Z (F0 m pc' ls' v.toList)
def X (G : Gl) (mi : MI) (d kc pc : Nat) (lv : List (Nat × Value)) (st : List Value) (S : Sh) (μ : Mu) (Q : Option Value → Sh → Mu → Prop) : Prop :=
  ∀ (p : Program) (l : Launch) (e : Env) (R : Room) (s : State) (m : MethodId) (args : Array Value) (below : List Frame) (meth : Method) (c : Code) (mc : Nat) (Z : State → Prop), Cx G mi d mc p R s m args meth c → Rt G mi mc p l e R s m args below meth c Z Q →
    ∀ (H : Heap) (locs : List Loc) (cells slots : Nat) (ls : Array Slot), Rp G S μ H locs → cells + kc ≤ mc ∧ slots + 400 * kc ≤ 400 * mc → lv_has ls mi.2.2.1 lv → W p l e R s m args below meth c H locs cells slots Z (F0 m pc ls st)
/-- what a method's end is asked for, by what it answers -/
def qi (K : Int32 → Sh → Mu → Prop) : Option Value → Sh → Mu → Prop := fun v S μ => ∃ r : Int32, v = some (.int r) ∧ K r S μ
def qv (K : Sh → Mu → Prop) : Option Value → Sh → Mu → Prop := fun v S μ => v = none ∧ K S μ
def qr (K : Option Nat → Sh → Mu → Prop) : Option Value → Sh → Mu → Prop := fun v S μ => ∃ r : Option Nat, v = some (va_rf r) ∧ K r S μ
def Dc (cc : ByteArray) (pc : Nat) (i : Instr) (len nx : Nat) : Prop := decode cc pc = .ok (i, len) ∧ pc + len = nx
def Tk (cc : ByteArray) (tb : List (Nat × Instr × Nat × Nat)) : Prop := ∀ q ∈ tb, Dc cc q.1 q.2.1 q.2.2.1 q.2.2.2
theorem Tk.of {cc : ByteArray} {tb : List (Nat × Instr × Nat × Nat)} (h : tb.all (fun q => decide (decode cc q.1 = .ok (q.2.1, q.2.2.1)) && decide (q.1 + q.2.2.1 = q.2.2.2)) = true) : Tk cc tb := by
  intro q hq
  have h1 := List.all_eq_true.mp h q hq
  simp only [Bool.and_eq_true, decide_eq_true_eq] at h1
  exact h1
theorem Tk.at {cc : ByteArray} {tb : List (Nat × Instr × Nat × Nat)} (h : Tk cc tb) (k : Nat) {pc len nx : Nat} {i : Instr} (hk : tb[k]? = some (pc, i, len, nx)) : Dc cc pc i len nx := h (pc, i, len, nx) (List.mem_of_getElem? hk)
/-- locals: read and written by place -/
def lget (lv : List (Nat × Value)) (i : Nat) : Option Value := match lv with
  | [] => none
  | (j, v) :: r => if i = j then some v else lget r i
def lset (lv : List (Nat × Value)) (i : Nat) (v : Value) : List (Nat × Value) := match lv with
  | [] => [(i, v)]
  | (j, w) :: r => if i = j then (i, v) :: r.filter (fun q => !(q.1 == i)) else (j, w) :: lset r i v
theorem lget_mem {lv : List (Nat × Value)} {i : Nat} {v : Value} (h : lget lv i = some v) : (i, v) ∈ lv := by
  induction lv with
  | nil => cases h
  | cons q r ih =>
    obtain ⟨j, w⟩ := q
    unfold lget at h
    by_cases e : i = j
    · rw [if_pos e] at h
      cases h
      rw [e]
      exact List.mem_cons_self
    · rw [if_neg e] at h
      exact List.mem_cons_of_mem _ (ih h)
theorem lset_mem {lv : List (Nat × Value)} {i : Nat} {v : Value} {q : Nat × Value} (h : q ∈ lset lv i v) : q = (i, v) ∨ (q ∈ lv ∧ ¬ q.1 = i) := by
  induction lv with
  | nil => exact Or.inl (List.mem_singleton.mp h)
  | cons p r ih =>
    obtain ⟨j, w⟩ := p
    unfold lset at h
    by_cases e : i = j
    · rw [if_pos e] at h
      rcases List.mem_cons.mp h with h | h
      · exact Or.inl h
      · obtain ⟨h1, h2⟩ := List.mem_filter.mp h
        exact Or.inr ⟨List.mem_cons_of_mem _ h1, by simpa using h2⟩
    · rw [if_neg e] at h
      rcases List.mem_cons.mp h with h | h
      · exact Or.inr ⟨by rw [h]; exact List.mem_cons_self, by rw [h]; exact fun z => e z.symm⟩
      · rcases ih h with h | ⟨h1, h2⟩
        · exact Or.inl h
        · exact Or.inr ⟨List.mem_cons_of_mem _ h1, h2⟩
/-- no listed value of two slots -/
def lone (lv : List (Nat × Value)) : Bool := lv.all (fun q => decide (q.2.category = 1))
theorem lv_setL {ls : Array Slot} {nL : Nat} {lv lv' : List (Nat × Value)} {i : Nat} {v : Value} (h : lv_has ls nL ((i, v) :: lv.filter (fun q => !(q.1 == i) && !(q.1 + 1 == i && q.2.category == 2)))) (h1 : lone lv = true) (hl : lset lv i v = lv') : lv_has ls nL lv' := by
  refine ⟨h.1, h.2.1, fun q hq => ?_⟩
  rw [← hl] at hq
  rcases lset_mem hq with e | ⟨h2, h3⟩
  · rw [e]; exact h.2.2 _ List.mem_cons_self
  · refine h.2.2 q (List.mem_cons_of_mem _ (List.mem_filter.mpr ⟨h2, ?_⟩))
    have hc := List.all_eq_true.mp h1 q h2
    simp only [decide_eq_true_eq] at hc
    simp [h3, hc]
section
variable {G : Gl} {mi : MI} {d kc pc nx : Nat} {lv lv' : List (Nat × Value)} {rest : List Value} {S : Sh} {μ : Mu} {Q : Option Value → Sh → Mu → Prop}
theorem X_iconst {n : Int} {v : Int32} (hd : Dc mi.2.1 pc (.iconst n) 1 nx) (hv : Int32.ofInt n = v) (k : X G mi d kc nx lv (.int v :: rest) S μ Q) : X G mi d kc pc lv (rest) S μ Q := by
  intro p l e R s m args below meth c mc Z C hZ H locs cells slots ls hR hk hl
  obtain ⟨hd, rfl⟩ := hd
  exact lv_iconst C.1 C.2.1 hd hv (k p l e R s m args below meth c mc Z C hZ H locs cells slots ls hR hk hl)
theorem X_bipush {n : Int} {v : Int32} (hd : Dc mi.2.1 pc (.bipush n) 2 nx) (hv : (Int8.ofInt n).toInt32 = v) (k : X G mi d kc nx lv (.int v :: rest) S μ Q) : X G mi d kc pc lv (rest) S μ Q := by
  intro p l e R s m args below meth c mc Z C hZ H locs cells slots ls hR hk hl
  obtain ⟨hd, rfl⟩ := hd
  exact lv_bipush C.1 C.2.1 hd hv (k p l e R s m args below meth c mc Z C hZ H locs cells slots ls hR hk hl)
theorem X_sipush {n : Int} {v : Int32} (hd : Dc mi.2.1 pc (.sipush n) 3 nx) (hv : (Int16.ofInt n).toInt32 = v) (k : X G mi d kc nx lv (.int v :: rest) S μ Q) : X G mi d kc pc lv (rest) S μ Q := by
  intro p l e R s m args below meth c mc Z C hZ H locs cells slots ls hR hk hl
  obtain ⟨hd, rfl⟩ := hd
  exact lv_sipush C.1 C.2.1 hd hv (k p l e R s m args below meth c mc Z C hZ H locs cells slots ls hR hk hl)
theorem X_null (hd : Dc mi.2.1 pc (.aconst_null) 1 nx) (k : X G mi d kc nx lv (.null :: rest) S μ Q) : X G mi d kc pc lv (rest) S μ Q := by
  intro p l e R s m args below meth c mc Z C hZ H locs cells slots ls hR hk hl
  obtain ⟨hd, rfl⟩ := hd
  exact lv_null C.1 C.2.1 hd (k p l e R s m args below meth c mc Z C hZ H locs cells slots ls hR hk hl)
theorem X_ldc {v : Int32} {i : Nat} (hd : Dc mi.2.1 pc (.ldc i) 2 nx) (hw : Cond.constant mi.1.cls i v ∈ lw_gd) (k : X G mi d kc nx lv (.int v :: rest) S μ Q) : X G mi d kc pc lv (rest) S μ Q := by
  intro p l e R s m args below meth c mc Z C hZ H locs cells slots ls hR hk hl
  obtain ⟨hd, rfl⟩ := hd
  exact lv_ldc C.1 C.2.1 C.2.2.2.2.1 (C.2.2.2.2.2.1 _ hw) hd (k p l e R s m args below meth c mc Z C hZ H locs cells slots ls hR hk hl)
theorem X_ldcw {v : Int32} {i : Nat} (hd : Dc mi.2.1 pc (.ldc_w i) 3 nx) (hw : Cond.constant mi.1.cls i v ∈ lw_gd) (k : X G mi d kc nx lv (.int v :: rest) S μ Q) : X G mi d kc pc lv (rest) S μ Q := by
  intro p l e R s m args below meth c mc Z C hZ H locs cells slots ls hR hk hl
  obtain ⟨hd, rfl⟩ := hd
  exact lv_ldcw C.1 C.2.1 C.2.2.2.2.1 (C.2.2.2.2.2.1 _ hw) hd (k p l e R s m args below meth c mc Z C hZ H locs cells slots ls hR hk hl)
theorem X_ldc2 {v : Int64} {i : Nat} (hd : Dc mi.2.1 pc (.ldc2_w i) 3 nx) (hw : Cond.constantLong mi.1.cls i v ∈ lw_gd) (k : X G mi d kc nx lv (.long v :: rest) S μ Q) : X G mi d kc pc lv (rest) S μ Q := by
  intro p l e R s m args below meth c mc Z C hZ H locs cells slots ls hR hk hl
  obtain ⟨hd, rfl⟩ := hd
  exact lv_ldc2 C.1 C.2.1 C.2.2.2.2.1 (C.2.2.2.2.2.1 _ hw) hd (k p l e R s m args below meth c mc Z C hZ H locs cells slots ls hR hk hl)
theorem X_iload_n {n : Fin 4} {x : Int32} (hd : Dc mi.2.1 pc (.iload_n n) 1 nx) (hv : lget lv n = some (.int x)) (k : X G mi d kc nx lv (.int x :: rest) S μ Q) : X G mi d kc pc lv (rest) S μ Q := by
  intro p l e R s m args below meth c mc Z C hZ H locs cells slots ls hR hk hl
  obtain ⟨hd, rfl⟩ := hd
  exact lv_iload_n C.1 C.2.1 hd rfl (hl.2.2 _ (lget_mem hv)) (k p l e R s m args below meth c mc Z C hZ H locs cells slots ls hR hk hl)
theorem X_iload {n : Nat} {x : Int32} (hd : Dc mi.2.1 pc (.iload n) 2 nx) (hv : lget lv n = some (.int x)) (k : X G mi d kc nx lv (.int x :: rest) S μ Q) : X G mi d kc pc lv (rest) S μ Q := by
  intro p l e R s m args below meth c mc Z C hZ H locs cells slots ls hR hk hl
  obtain ⟨hd, rfl⟩ := hd
  exact lv_iload C.1 C.2.1 hd (hl.2.2 _ (lget_mem hv)) (k p l e R s m args below meth c mc Z C hZ H locs cells slots ls hR hk hl)
theorem X_lload_n {n : Fin 4} {x : Int64} (hd : Dc mi.2.1 pc (.lload_n n) 1 nx) (hv : lget lv n = some (.long x)) (k : X G mi d kc nx lv (.long x :: rest) S μ Q) : X G mi d kc pc lv (rest) S μ Q := by
  intro p l e R s m args below meth c mc Z C hZ H locs cells slots ls hR hk hl
  obtain ⟨hd, rfl⟩ := hd
  exact lv_lload_n C.1 C.2.1 hd rfl (hl.2.2 _ (lget_mem hv)) (k p l e R s m args below meth c mc Z C hZ H locs cells slots ls hR hk hl)
theorem X_aload_n {n : Fin 4} {x : Nat} (hd : Dc mi.2.1 pc (.aload_n n) 1 nx) (hv : lget lv n = some (.ref x)) (k : X G mi d kc nx lv (.ref x :: rest) S μ Q) : X G mi d kc pc lv (rest) S μ Q := by
  intro p l e R s m args below meth c mc Z C hZ H locs cells slots ls hR hk hl
  obtain ⟨hd, rfl⟩ := hd
  exact lv_aload_n C.1 C.2.1 hd rfl (hl.2.2 _ (lget_mem hv)) (k p l e R s m args below meth c mc Z C hZ H locs cells slots ls hR hk hl)
theorem X_aload {n : Nat} {x : Nat} (hd : Dc mi.2.1 pc (.aload n) 2 nx) (hv : lget lv n = some (.ref x)) (k : X G mi d kc nx lv (.ref x :: rest) S μ Q) : X G mi d kc pc lv (rest) S μ Q := by
  intro p l e R s m args below meth c mc Z C hZ H locs cells slots ls hR hk hl
  obtain ⟨hd, rfl⟩ := hd
  exact lv_aload C.1 C.2.1 hd (hl.2.2 _ (lget_mem hv)) (k p l e R s m args below meth c mc Z C hZ H locs cells slots ls hR hk hl)
theorem X_aload_nN {n : Fin 4} (hd : Dc mi.2.1 pc (.aload_n n) 1 nx) (hv : lget lv n = some .null) (k : X G mi d kc nx lv (.null :: rest) S μ Q) : X G mi d kc pc lv (rest) S μ Q := by
  intro p l e R s m args below meth c mc Z C hZ H locs cells slots ls hR hk hl
  obtain ⟨hd, rfl⟩ := hd
  exact lv_aload_nN C.1 C.2.1 hd rfl (hl.2.2 _ (lget_mem hv)) (k p l e R s m args below meth c mc Z C hZ H locs cells slots ls hR hk hl)
theorem X_aloadN {n : Nat} (hd : Dc mi.2.1 pc (.aload n) 2 nx) (hv : lget lv n = some .null) (k : X G mi d kc nx lv (.null :: rest) S μ Q) : X G mi d kc pc lv (rest) S μ Q := by
  intro p l e R s m args below meth c mc Z C hZ H locs cells slots ls hR hk hl
  obtain ⟨hd, rfl⟩ := hd
  exact lv_aloadN C.1 C.2.1 hd (hl.2.2 _ (lget_mem hv)) (k p l e R s m args below meth c mc Z C hZ H locs cells slots ls hR hk hl)
theorem X_istore_n {n : Fin 4} {x : Int32} (hd : Dc mi.2.1 pc (.istore_n n) 1 nx) (hn : (n : Nat) < mi.2.2.1) (h1 : lone lv = true) (hs : lset lv (n : Nat) (Value.int x) = lv') (k : X G mi d kc nx lv' rest S μ Q) : X G mi d kc pc lv (Value.int x :: rest) S μ Q := by
  intro p l e R s m args below meth c mc Z C hZ H locs cells slots ls hR hk hl
  obtain ⟨hd, rfl⟩ := hd
  exact lv_istore_n C.1 C.2.1 hd rfl hl hn rfl (fun ls' hl' => k p l e R s m args below meth c mc Z C hZ H locs cells slots ls' hR hk (lv_setL hl' h1 hs))
theorem X_istore {n : Nat} {x : Int32} (hd : Dc mi.2.1 pc (.istore n) 2 nx) (hn : n < mi.2.2.1) (h1 : lone lv = true) (hs : lset lv n (Value.int x) = lv') (k : X G mi d kc nx lv' rest S μ Q) : X G mi d kc pc lv (Value.int x :: rest) S μ Q := by
  intro p l e R s m args below meth c mc Z C hZ H locs cells slots ls hR hk hl
  obtain ⟨hd, rfl⟩ := hd
  exact lv_istore C.1 C.2.1 hd hl hn rfl (fun ls' hl' => k p l e R s m args below meth c mc Z C hZ H locs cells slots ls' hR hk (lv_setL hl' h1 hs))
theorem X_astore_n {n : Fin 4} {x : Nat} (hd : Dc mi.2.1 pc (.astore_n n) 1 nx) (hn : (n : Nat) < mi.2.2.1) (h1 : lone lv = true) (hs : lset lv (n : Nat) (Value.ref x) = lv') (k : X G mi d kc nx lv' rest S μ Q) : X G mi d kc pc lv (Value.ref x :: rest) S μ Q := by
  intro p l e R s m args below meth c mc Z C hZ H locs cells slots ls hR hk hl
  obtain ⟨hd, rfl⟩ := hd
  exact lv_astore_n C.1 C.2.1 hd rfl hl hn rfl (fun ls' hl' => k p l e R s m args below meth c mc Z C hZ H locs cells slots ls' hR hk (lv_setL hl' h1 hs))
theorem X_astore {n : Nat} {x : Nat} (hd : Dc mi.2.1 pc (.astore n) 2 nx) (hn : n < mi.2.2.1) (h1 : lone lv = true) (hs : lset lv n (Value.ref x) = lv') (k : X G mi d kc nx lv' rest S μ Q) : X G mi d kc pc lv (Value.ref x :: rest) S μ Q := by
  intro p l e R s m args below meth c mc Z C hZ H locs cells slots ls hR hk hl
  obtain ⟨hd, rfl⟩ := hd
  exact lv_astore C.1 C.2.1 hd hl hn rfl (fun ls' hl' => k p l e R s m args below meth c mc Z C hZ H locs cells slots ls' hR hk (lv_setL hl' h1 hs))
theorem X_astore_nN {n : Fin 4} (hd : Dc mi.2.1 pc (.astore_n n) 1 nx) (hn : (n : Nat) < mi.2.2.1) (h1 : lone lv = true) (hs : lset lv (n : Nat) (Value.null) = lv') (k : X G mi d kc nx lv' rest S μ Q) : X G mi d kc pc lv (Value.null :: rest) S μ Q := by
  intro p l e R s m args below meth c mc Z C hZ H locs cells slots ls hR hk hl
  obtain ⟨hd, rfl⟩ := hd
  exact lv_astore_nN C.1 C.2.1 hd rfl hl hn rfl (fun ls' hl' => k p l e R s m args below meth c mc Z C hZ H locs cells slots ls' hR hk (lv_setL hl' h1 hs))
theorem X_astoreN {n : Nat} (hd : Dc mi.2.1 pc (.astore n) 2 nx) (hn : n < mi.2.2.1) (h1 : lone lv = true) (hs : lset lv n (Value.null) = lv') (k : X G mi d kc nx lv' rest S μ Q) : X G mi d kc pc lv (Value.null :: rest) S μ Q := by
  intro p l e R s m args below meth c mc Z C hZ H locs cells slots ls hR hk hl
  obtain ⟨hd, rfl⟩ := hd
  exact lv_astoreN C.1 C.2.1 hd hl hn rfl (fun ls' hl' => k p l e R s m args below meth c mc Z C hZ H locs cells slots ls' hR hk (lv_setL hl' h1 hs))
theorem X_iinc {i : Nat} {n : Int} {x v : Int32} (hd : Dc mi.2.1 pc (.iinc i n) 3 nx) (hv : lget lv i = some (.int x)) (hw : Int32.ofInt n = v) (hn : i < mi.2.2.1) (h1 : lone lv = true) (hs : lset lv i (.int (x + v)) = lv') (k : X G mi d kc nx lv' rest S μ Q) : X G mi d kc pc lv rest S μ Q := by
  intro p l e R s m args below meth c mc Z C hZ H locs cells slots ls hR hk hl
  obtain ⟨hd, rfl⟩ := hd
  obtain ⟨k0, hk0⟩ := List.getElem?_of_mem (lget_mem hv)
  subst hw
  exact lv_iinc C.1 C.2.1 hd hl hk0 rfl hn rfl (fun ls' hl' => k p l e R s m args below meth c mc Z C hZ H locs cells slots ls' hR hk (lv_setL hl' h1 hs))
theorem X_iadd {x y : Int32} (hd : Dc mi.2.1 pc (.iadd) 1 nx) (k : X G mi d kc nx lv (.int (x + y) :: rest) S μ Q) : X G mi d kc pc lv (.int y :: .int x :: rest) S μ Q := by
  intro p l e R s m args below meth c mc Z C hZ H locs cells slots ls hR hk hl
  obtain ⟨hd, rfl⟩ := hd
  exact lv_iadd C.1 C.2.1 hd (k p l e R s m args below meth c mc Z C hZ H locs cells slots ls hR hk hl)
theorem X_isub {x y : Int32} (hd : Dc mi.2.1 pc (.isub) 1 nx) (k : X G mi d kc nx lv (.int (x - y) :: rest) S μ Q) : X G mi d kc pc lv (.int y :: .int x :: rest) S μ Q := by
  intro p l e R s m args below meth c mc Z C hZ H locs cells slots ls hR hk hl
  obtain ⟨hd, rfl⟩ := hd
  exact lv_isub C.1 C.2.1 hd (k p l e R s m args below meth c mc Z C hZ H locs cells slots ls hR hk hl)
theorem X_imul {x y : Int32} (hd : Dc mi.2.1 pc (.imul) 1 nx) (k : X G mi d kc nx lv (.int (x * y) :: rest) S μ Q) : X G mi d kc pc lv (.int y :: .int x :: rest) S μ Q := by
  intro p l e R s m args below meth c mc Z C hZ H locs cells slots ls hR hk hl
  obtain ⟨hd, rfl⟩ := hd
  exact lv_imul C.1 C.2.1 hd (k p l e R s m args below meth c mc Z C hZ H locs cells slots ls hR hk hl)
theorem X_iand {x y : Int32} (hd : Dc mi.2.1 pc (.iand) 1 nx) (k : X G mi d kc nx lv (.int (x &&& y) :: rest) S μ Q) : X G mi d kc pc lv (.int y :: .int x :: rest) S μ Q := by
  intro p l e R s m args below meth c mc Z C hZ H locs cells slots ls hR hk hl
  obtain ⟨hd, rfl⟩ := hd
  exact lv_iand C.1 C.2.1 hd (k p l e R s m args below meth c mc Z C hZ H locs cells slots ls hR hk hl)
theorem X_ior {x y : Int32} (hd : Dc mi.2.1 pc (.ior) 1 nx) (k : X G mi d kc nx lv (.int (x ||| y) :: rest) S μ Q) : X G mi d kc pc lv (.int y :: .int x :: rest) S μ Q := by
  intro p l e R s m args below meth c mc Z C hZ H locs cells slots ls hR hk hl
  obtain ⟨hd, rfl⟩ := hd
  exact lv_ior C.1 C.2.1 hd (k p l e R s m args below meth c mc Z C hZ H locs cells slots ls hR hk hl)
theorem X_ixor {x y : Int32} (hd : Dc mi.2.1 pc (.ixor) 1 nx) (k : X G mi d kc nx lv (.int (x ^^^ y) :: rest) S μ Q) : X G mi d kc pc lv (.int y :: .int x :: rest) S μ Q := by
  intro p l e R s m args below meth c mc Z C hZ H locs cells slots ls hR hk hl
  obtain ⟨hd, rfl⟩ := hd
  exact lv_ixor C.1 C.2.1 hd (k p l e R s m args below meth c mc Z C hZ H locs cells slots ls hR hk hl)
theorem X_ishl {x y : Int32} (hd : Dc mi.2.1 pc (.ishl) 1 nx) (k : X G mi d kc nx lv (.int (x <<< (y &&& 31)) :: rest) S μ Q) : X G mi d kc pc lv (.int y :: .int x :: rest) S μ Q := by
  intro p l e R s m args below meth c mc Z C hZ H locs cells slots ls hR hk hl
  obtain ⟨hd, rfl⟩ := hd
  exact lv_ishl C.1 C.2.1 hd (k p l e R s m args below meth c mc Z C hZ H locs cells slots ls hR hk hl)
theorem X_ishr {x y : Int32} (hd : Dc mi.2.1 pc (.ishr) 1 nx) (k : X G mi d kc nx lv (.int (x >>> (y &&& 31)) :: rest) S μ Q) : X G mi d kc pc lv (.int y :: .int x :: rest) S μ Q := by
  intro p l e R s m args below meth c mc Z C hZ H locs cells slots ls hR hk hl
  obtain ⟨hd, rfl⟩ := hd
  exact lv_ishr C.1 C.2.1 hd (k p l e R s m args below meth c mc Z C hZ H locs cells slots ls hR hk hl)
theorem X_idiv {x y : Int32} (hd : Dc mi.2.1 pc (.idiv) 1 nx) (hne : ¬ y = 0) (k : X G mi d kc nx lv (.int (x / y) :: rest) S μ Q) : X G mi d kc pc lv (.int y :: .int x :: rest) S μ Q := by
  intro p l e R s m args below meth c mc Z C hZ H locs cells slots ls hR hk hl
  obtain ⟨hd, rfl⟩ := hd
  exact lv_idiv C.1 C.2.1 hd hne (k p l e R s m args below meth c mc Z C hZ H locs cells slots ls hR hk hl)
theorem X_irem {x y : Int32} (hd : Dc mi.2.1 pc (.irem) 1 nx) (hne : ¬ y = 0) (k : X G mi d kc nx lv (.int (x - x / y * y) :: rest) S μ Q) : X G mi d kc pc lv (.int y :: .int x :: rest) S μ Q := by
  intro p l e R s m args below meth c mc Z C hZ H locs cells slots ls hR hk hl
  obtain ⟨hd, rfl⟩ := hd
  exact lv_irem C.1 C.2.1 hd hne (k p l e R s m args below meth c mc Z C hZ H locs cells slots ls hR hk hl)
theorem X_ineg {x : Int32} (hd : Dc mi.2.1 pc (.ineg) 1 nx) (k : X G mi d kc nx lv (.int (0 - x) :: rest) S μ Q) : X G mi d kc pc lv (.int x :: rest) S μ Q := by
  intro p l e R s m args below meth c mc Z C hZ H locs cells slots ls hR hk hl
  obtain ⟨hd, rfl⟩ := hd
  exact lv_ineg C.1 C.2.1 hd (k p l e R s m args below meth c mc Z C hZ H locs cells slots ls hR hk hl)
theorem X_iushr {x y : Int32} (hd : Dc mi.2.1 pc (.iushr) 1 nx) (k : X G mi d kc nx lv (.int ((x.toUInt32 >>> (y.toUInt32 &&& Int32.toUInt32 31)).toInt32) :: rest) S μ Q) : X G mi d kc pc lv (.int y :: .int x :: rest) S μ Q := by
  intro p l e R s m args below meth c mc Z C hZ H locs cells slots ls hR hk hl
  obtain ⟨hd, rfl⟩ := hd
  exact lv_iushr C.1 C.2.1 hd rfl (k p l e R s m args below meth c mc Z C hZ H locs cells slots ls hR hk hl)
theorem X_i2l {x : Int32} (hd : Dc mi.2.1 pc (.i2l) 1 nx) (k : X G mi d kc nx lv (.long (x.toInt64) :: rest) S μ Q) : X G mi d kc pc lv (.int x :: rest) S μ Q := by
  intro p l e R s m args below meth c mc Z C hZ H locs cells slots ls hR hk hl
  obtain ⟨hd, rfl⟩ := hd
  exact lv_i2l C.1 C.2.1 hd rfl (k p l e R s m args below meth c mc Z C hZ H locs cells slots ls hR hk hl)
theorem X_l2i {x : Int64} (hd : Dc mi.2.1 pc (.l2i) 1 nx) (k : X G mi d kc nx lv (.int (x.toInt32) :: rest) S μ Q) : X G mi d kc pc lv (.long x :: rest) S μ Q := by
  intro p l e R s m args below meth c mc Z C hZ H locs cells slots ls hR hk hl
  obtain ⟨hd, rfl⟩ := hd
  exact lv_l2i C.1 C.2.1 hd rfl (k p l e R s m args below meth c mc Z C hZ H locs cells slots ls hR hk hl)
theorem X_i2b {x : Int32} (hd : Dc mi.2.1 pc (.i2b) 1 nx) (k : X G mi d kc nx lv (.int (x.toInt8.toInt32) :: rest) S μ Q) : X G mi d kc pc lv (.int x :: rest) S μ Q := by
  intro p l e R s m args below meth c mc Z C hZ H locs cells slots ls hR hk hl
  obtain ⟨hd, rfl⟩ := hd
  exact lv_i2b C.1 C.2.1 hd rfl (k p l e R s m args below meth c mc Z C hZ H locs cells slots ls hR hk hl)
theorem X_i2s {x : Int32} (hd : Dc mi.2.1 pc (.i2s) 1 nx) (k : X G mi d kc nx lv (.int (x.toInt16.toInt32) :: rest) S μ Q) : X G mi d kc pc lv (.int x :: rest) S μ Q := by
  intro p l e R s m args below meth c mc Z C hZ H locs cells slots ls hR hk hl
  obtain ⟨hd, rfl⟩ := hd
  exact lv_i2s C.1 C.2.1 hd rfl (k p l e R s m args below meth c mc Z C hZ H locs cells slots ls hR hk hl)
theorem X_i2c {x : Int32} (hd : Dc mi.2.1 pc (.i2c) 1 nx) (k : X G mi d kc nx lv (.int ((x.toUInt32 % 65536).toInt32) :: rest) S μ Q) : X G mi d kc pc lv (.int x :: rest) S μ Q := by
  intro p l e R s m args below meth c mc Z C hZ H locs cells slots ls hR hk hl
  obtain ⟨hd, rfl⟩ := hd
  exact lv_i2c C.1 C.2.1 hd rfl (k p l e R s m args below meth c mc Z C hZ H locs cells slots ls hR hk hl)
theorem X_ladd {x y : Int64} (hd : Dc mi.2.1 pc (.ladd) 1 nx) (k : X G mi d kc nx lv (.long (x + y) :: rest) S μ Q) : X G mi d kc pc lv (.long y :: .long x :: rest) S μ Q := by
  intro p l e R s m args below meth c mc Z C hZ H locs cells slots ls hR hk hl
  obtain ⟨hd, rfl⟩ := hd
  exact lv_ladd C.1 C.2.1 hd (k p l e R s m args below meth c mc Z C hZ H locs cells slots ls hR hk hl)
theorem X_land {x y : Int64} (hd : Dc mi.2.1 pc (.land) 1 nx) (k : X G mi d kc nx lv (.long (x &&& y) :: rest) S μ Q) : X G mi d kc pc lv (.long y :: .long x :: rest) S μ Q := by
  intro p l e R s m args below meth c mc Z C hZ H locs cells slots ls hR hk hl
  obtain ⟨hd, rfl⟩ := hd
  exact lv_land C.1 C.2.1 hd (k p l e R s m args below meth c mc Z C hZ H locs cells slots ls hR hk hl)
theorem X_lor {x y : Int64} (hd : Dc mi.2.1 pc (.lor) 1 nx) (k : X G mi d kc nx lv (.long (x ||| y) :: rest) S μ Q) : X G mi d kc pc lv (.long y :: .long x :: rest) S μ Q := by
  intro p l e R s m args below meth c mc Z C hZ H locs cells slots ls hR hk hl
  obtain ⟨hd, rfl⟩ := hd
  exact lv_lor C.1 C.2.1 hd (k p l e R s m args below meth c mc Z C hZ H locs cells slots ls hR hk hl)
theorem X_lshl {x : Int64} {y : Int32} (hd : Dc mi.2.1 pc (.lshl) 1 nx) (k : X G mi d kc nx lv (.long (x <<< (y.toInt64 &&& 63)) :: rest) S μ Q) : X G mi d kc pc lv (.int y :: .long x :: rest) S μ Q := by
  intro p l e R s m args below meth c mc Z C hZ H locs cells slots ls hR hk hl
  obtain ⟨hd, rfl⟩ := hd
  exact lv_lshl C.1 C.2.1 hd rfl (k p l e R s m args below meth c mc Z C hZ H locs cells slots ls hR hk hl)
theorem X_lshr {x : Int64} {y : Int32} (hd : Dc mi.2.1 pc (.lshr) 1 nx) (k : X G mi d kc nx lv (.long (x >>> (y.toInt64 &&& 63)) :: rest) S μ Q) : X G mi d kc pc lv (.int y :: .long x :: rest) S μ Q := by
  intro p l e R s m args below meth c mc Z C hZ H locs cells slots ls hR hk hl
  obtain ⟨hd, rfl⟩ := hd
  exact lv_lshr C.1 C.2.1 hd rfl (k p l e R s m args below meth c mc Z C hZ H locs cells slots ls hR hk hl)
theorem X_lushr {x : Int64} {y : Int32} (hd : Dc mi.2.1 pc (.lushr) 1 nx) (k : X G mi d kc nx lv (.long ((x.toUInt64 >>> (y.toInt64.toUInt64 &&& Int64.toUInt64 63)).toInt64) :: rest) S μ Q) : X G mi d kc pc lv (.int y :: .long x :: rest) S μ Q := by
  intro p l e R s m args below meth c mc Z C hZ H locs cells slots ls hR hk hl
  obtain ⟨hd, rfl⟩ := hd
  exact lv_lushr C.1 C.2.1 hd rfl (k p l e R s m args below meth c mc Z C hZ H locs cells slots ls hR hk hl)
theorem X_dup {v : Value} (hd : Dc mi.2.1 pc (.dup) 1 nx) (hc : v.category = 1) (k : X G mi d kc nx lv (v :: v :: rest) S μ Q) : X G mi d kc pc lv (v :: rest) S μ Q := by
  intro p l e R s m args below meth c mc Z C hZ H locs cells slots ls hR hk hl
  obtain ⟨hd, rfl⟩ := hd
  exact lv_dup C.1 C.2.1 hd hc (k p l e R s m args below meth c mc Z C hZ H locs cells slots ls hR hk hl)
theorem X_pop {v : Value} (hd : Dc mi.2.1 pc (.pop) 1 nx) (hc : v.category = 1) (k : X G mi d kc nx lv (rest) S μ Q) : X G mi d kc pc lv (v :: rest) S μ Q := by
  intro p l e R s m args below meth c mc Z C hZ H locs cells slots ls hR hk hl
  obtain ⟨hd, rfl⟩ := hd
  exact lv_pop C.1 C.2.1 hd hc (k p l e R s m args below meth c mc Z C hZ H locs cells slots ls hR hk hl)
theorem X_dup2 {v w : Value} (hd : Dc mi.2.1 pc (.dup2) 1 nx) (hc : v.category = 1) (hc2 : w.category = 1) (k : X G mi d kc nx lv (v :: w :: v :: w :: rest) S μ Q) : X G mi d kc pc lv (v :: w :: rest) S μ Q := by
  intro p l e R s m args below meth c mc Z C hZ H locs cells slots ls hR hk hl
  obtain ⟨hd, rfl⟩ := hd
  exact lv_dup2_11 C.1 C.2.1 hd hc hc2 (k p l e R s m args below meth c mc Z C hZ H locs cells slots ls hR hk hl)
theorem X_icmp_eq {x y : Int32} {off : Int} {tgt : Nat} (hd : Dc mi.2.1 pc (.if_icmp .eq off) 3 nx) (ht : (pc : Int) + off = (tgt : Int)) (kt : x = y → X G mi d kc tgt lv rest S μ Q) (kf : ¬ x = y → X G mi d kc nx lv rest S μ Q) : X G mi d kc pc lv (.int y :: .int x :: rest) S μ Q := by
  intro p l e R s m args below meth c mc Z C hZ H locs cells slots ls hR hk hl
  obtain ⟨hd, rfl⟩ := hd
  exact lv_icmp_eq C.1 C.2.1 hd ht (fun z => kt z p l e R s m args below meth c mc Z C hZ H locs cells slots ls hR hk hl) (fun z => kf z p l e R s m args below meth c mc Z C hZ H locs cells slots ls hR hk hl)
theorem X_if_eq {x : Int32} {off : Int} {tgt : Nat} (hd : Dc mi.2.1 pc (.ifCond .eq off) 3 nx) (ht : (pc : Int) + off = (tgt : Int)) (kt : x = 0 → X G mi d kc tgt lv rest S μ Q) (kf : ¬ x = 0 → X G mi d kc nx lv rest S μ Q) : X G mi d kc pc lv (.int x :: rest) S μ Q := by
  intro p l e R s m args below meth c mc Z C hZ H locs cells slots ls hR hk hl
  obtain ⟨hd, rfl⟩ := hd
  exact lv_if_eq C.1 C.2.1 hd ht (fun z => kt z p l e R s m args below meth c mc Z C hZ H locs cells slots ls hR hk hl) (fun z => kf z p l e R s m args below meth c mc Z C hZ H locs cells slots ls hR hk hl)
theorem X_icmp_ne {x y : Int32} {off : Int} {tgt : Nat} (hd : Dc mi.2.1 pc (.if_icmp .ne off) 3 nx) (ht : (pc : Int) + off = (tgt : Int)) (kt : ¬ x = y → X G mi d kc tgt lv rest S μ Q) (kf : x = y → X G mi d kc nx lv rest S μ Q) : X G mi d kc pc lv (.int y :: .int x :: rest) S μ Q := by
  intro p l e R s m args below meth c mc Z C hZ H locs cells slots ls hR hk hl
  obtain ⟨hd, rfl⟩ := hd
  exact lv_icmp_ne C.1 C.2.1 hd ht (fun z => kt z p l e R s m args below meth c mc Z C hZ H locs cells slots ls hR hk hl) (fun z => kf z p l e R s m args below meth c mc Z C hZ H locs cells slots ls hR hk hl)
theorem X_if_ne {x : Int32} {off : Int} {tgt : Nat} (hd : Dc mi.2.1 pc (.ifCond .ne off) 3 nx) (ht : (pc : Int) + off = (tgt : Int)) (kt : ¬ x = 0 → X G mi d kc tgt lv rest S μ Q) (kf : x = 0 → X G mi d kc nx lv rest S μ Q) : X G mi d kc pc lv (.int x :: rest) S μ Q := by
  intro p l e R s m args below meth c mc Z C hZ H locs cells slots ls hR hk hl
  obtain ⟨hd, rfl⟩ := hd
  exact lv_if_ne C.1 C.2.1 hd ht (fun z => kt z p l e R s m args below meth c mc Z C hZ H locs cells slots ls hR hk hl) (fun z => kf z p l e R s m args below meth c mc Z C hZ H locs cells slots ls hR hk hl)
theorem X_icmp_lt {x y : Int32} {off : Int} {tgt : Nat} (hd : Dc mi.2.1 pc (.if_icmp .lt off) 3 nx) (ht : (pc : Int) + off = (tgt : Int)) (kt : x < y → X G mi d kc tgt lv rest S μ Q) (kf : ¬ x < y → X G mi d kc nx lv rest S μ Q) : X G mi d kc pc lv (.int y :: .int x :: rest) S μ Q := by
  intro p l e R s m args below meth c mc Z C hZ H locs cells slots ls hR hk hl
  obtain ⟨hd, rfl⟩ := hd
  exact lv_icmp_lt C.1 C.2.1 hd ht (fun z => kt z p l e R s m args below meth c mc Z C hZ H locs cells slots ls hR hk hl) (fun z => kf z p l e R s m args below meth c mc Z C hZ H locs cells slots ls hR hk hl)
theorem X_if_lt {x : Int32} {off : Int} {tgt : Nat} (hd : Dc mi.2.1 pc (.ifCond .lt off) 3 nx) (ht : (pc : Int) + off = (tgt : Int)) (kt : x < 0 → X G mi d kc tgt lv rest S μ Q) (kf : ¬ x < 0 → X G mi d kc nx lv rest S μ Q) : X G mi d kc pc lv (.int x :: rest) S μ Q := by
  intro p l e R s m args below meth c mc Z C hZ H locs cells slots ls hR hk hl
  obtain ⟨hd, rfl⟩ := hd
  exact lv_if_lt C.1 C.2.1 hd ht (fun z => kt z p l e R s m args below meth c mc Z C hZ H locs cells slots ls hR hk hl) (fun z => kf z p l e R s m args below meth c mc Z C hZ H locs cells slots ls hR hk hl)
theorem X_icmp_ge {x y : Int32} {off : Int} {tgt : Nat} (hd : Dc mi.2.1 pc (.if_icmp .ge off) 3 nx) (ht : (pc : Int) + off = (tgt : Int)) (kt : y ≤ x → X G mi d kc tgt lv rest S μ Q) (kf : ¬ y ≤ x → X G mi d kc nx lv rest S μ Q) : X G mi d kc pc lv (.int y :: .int x :: rest) S μ Q := by
  intro p l e R s m args below meth c mc Z C hZ H locs cells slots ls hR hk hl
  obtain ⟨hd, rfl⟩ := hd
  exact lv_icmp_ge C.1 C.2.1 hd ht (fun z => kt z p l e R s m args below meth c mc Z C hZ H locs cells slots ls hR hk hl) (fun z => kf z p l e R s m args below meth c mc Z C hZ H locs cells slots ls hR hk hl)
theorem X_if_ge {x : Int32} {off : Int} {tgt : Nat} (hd : Dc mi.2.1 pc (.ifCond .ge off) 3 nx) (ht : (pc : Int) + off = (tgt : Int)) (kt : 0 ≤ x → X G mi d kc tgt lv rest S μ Q) (kf : ¬ 0 ≤ x → X G mi d kc nx lv rest S μ Q) : X G mi d kc pc lv (.int x :: rest) S μ Q := by
  intro p l e R s m args below meth c mc Z C hZ H locs cells slots ls hR hk hl
  obtain ⟨hd, rfl⟩ := hd
  exact lv_if_ge C.1 C.2.1 hd ht (fun z => kt z p l e R s m args below meth c mc Z C hZ H locs cells slots ls hR hk hl) (fun z => kf z p l e R s m args below meth c mc Z C hZ H locs cells slots ls hR hk hl)
theorem X_icmp_gt {x y : Int32} {off : Int} {tgt : Nat} (hd : Dc mi.2.1 pc (.if_icmp .gt off) 3 nx) (ht : (pc : Int) + off = (tgt : Int)) (kt : y < x → X G mi d kc tgt lv rest S μ Q) (kf : ¬ y < x → X G mi d kc nx lv rest S μ Q) : X G mi d kc pc lv (.int y :: .int x :: rest) S μ Q := by
  intro p l e R s m args below meth c mc Z C hZ H locs cells slots ls hR hk hl
  obtain ⟨hd, rfl⟩ := hd
  exact lv_icmp_gt C.1 C.2.1 hd ht (fun z => kt z p l e R s m args below meth c mc Z C hZ H locs cells slots ls hR hk hl) (fun z => kf z p l e R s m args below meth c mc Z C hZ H locs cells slots ls hR hk hl)
theorem X_if_gt {x : Int32} {off : Int} {tgt : Nat} (hd : Dc mi.2.1 pc (.ifCond .gt off) 3 nx) (ht : (pc : Int) + off = (tgt : Int)) (kt : 0 < x → X G mi d kc tgt lv rest S μ Q) (kf : ¬ 0 < x → X G mi d kc nx lv rest S μ Q) : X G mi d kc pc lv (.int x :: rest) S μ Q := by
  intro p l e R s m args below meth c mc Z C hZ H locs cells slots ls hR hk hl
  obtain ⟨hd, rfl⟩ := hd
  exact lv_if_gt C.1 C.2.1 hd ht (fun z => kt z p l e R s m args below meth c mc Z C hZ H locs cells slots ls hR hk hl) (fun z => kf z p l e R s m args below meth c mc Z C hZ H locs cells slots ls hR hk hl)
theorem X_icmp_le {x y : Int32} {off : Int} {tgt : Nat} (hd : Dc mi.2.1 pc (.if_icmp .le off) 3 nx) (ht : (pc : Int) + off = (tgt : Int)) (kt : x ≤ y → X G mi d kc tgt lv rest S μ Q) (kf : ¬ x ≤ y → X G mi d kc nx lv rest S μ Q) : X G mi d kc pc lv (.int y :: .int x :: rest) S μ Q := by
  intro p l e R s m args below meth c mc Z C hZ H locs cells slots ls hR hk hl
  obtain ⟨hd, rfl⟩ := hd
  exact lv_icmp_le C.1 C.2.1 hd ht (fun z => kt z p l e R s m args below meth c mc Z C hZ H locs cells slots ls hR hk hl) (fun z => kf z p l e R s m args below meth c mc Z C hZ H locs cells slots ls hR hk hl)
theorem X_if_le {x : Int32} {off : Int} {tgt : Nat} (hd : Dc mi.2.1 pc (.ifCond .le off) 3 nx) (ht : (pc : Int) + off = (tgt : Int)) (kt : x ≤ 0 → X G mi d kc tgt lv rest S μ Q) (kf : ¬ x ≤ 0 → X G mi d kc nx lv rest S μ Q) : X G mi d kc pc lv (.int x :: rest) S μ Q := by
  intro p l e R s m args below meth c mc Z C hZ H locs cells slots ls hR hk hl
  obtain ⟨hd, rfl⟩ := hd
  exact lv_if_le C.1 C.2.1 hd ht (fun z => kt z p l e R s m args below meth c mc Z C hZ H locs cells slots ls hR hk hl) (fun z => kf z p l e R s m args below meth c mc Z C hZ H locs cells slots ls hR hk hl)
theorem X_goto {off : Int} {tgt : Nat} (hd : Dc mi.2.1 pc (.goto off) 3 nx) (ht : (pc : Int) + off = (tgt : Int)) (k : X G mi d kc tgt lv rest S μ Q) : X G mi d kc pc lv rest S μ Q := by
  intro p l e R s m args below meth c mc Z C hZ H locs cells slots ls hR hk hl
  obtain ⟨hd, rfl⟩ := hd
  exact lv_goto C.1 C.2.1 hd ht (k p l e R s m args below meth c mc Z C hZ H locs cells slots ls hR hk hl)
theorem X_ifnull {x : Nat} {off : Int} {tgt : Nat} (hd : Dc mi.2.1 pc (.ifnull off) 3 nx) (ht : (pc : Int) + off = (tgt : Int)) (k : X G mi d kc nx lv rest S μ Q) : X G mi d kc pc lv (.ref x :: rest) S μ Q := by
  intro p l e R s m args below meth c mc Z C hZ H locs cells slots ls hR hk hl
  obtain ⟨hd, rfl⟩ := hd
  exact lv_ifnull C.1 C.2.1 hd (k p l e R s m args below meth c mc Z C hZ H locs cells slots ls hR hk hl)
theorem X_ifnonnull {x : Nat} {off : Int} {tgt : Nat} (hd : Dc mi.2.1 pc (.ifnonnull off) 3 nx) (ht : (pc : Int) + off = (tgt : Int)) (k : X G mi d kc tgt lv rest S μ Q) : X G mi d kc pc lv (.ref x :: rest) S μ Q := by
  intro p l e R s m args below meth c mc Z C hZ H locs cells slots ls hR hk hl
  obtain ⟨hd, rfl⟩ := hd
  exact lv_ifnonnull C.1 C.2.1 hd ht (k p l e R s m args below meth c mc Z C hZ H locs cells slots ls hR hk hl)
theorem X_ifnullN {off : Int} {tgt : Nat} (hd : Dc mi.2.1 pc (.ifnull off) 3 nx) (ht : (pc : Int) + off = (tgt : Int)) (k : X G mi d kc tgt lv rest S μ Q) : X G mi d kc pc lv (.null :: rest) S μ Q := by
  intro p l e R s m args below meth c mc Z C hZ H locs cells slots ls hR hk hl
  obtain ⟨hd, rfl⟩ := hd
  exact lv_ifnullN C.1 C.2.1 hd ht (k p l e R s m args below meth c mc Z C hZ H locs cells slots ls hR hk hl)
theorem X_ifnonnullN {off : Int} {tgt : Nat} (hd : Dc mi.2.1 pc (.ifnonnull off) 3 nx) (ht : (pc : Int) + off = (tgt : Int)) (k : X G mi d kc nx lv rest S μ Q) : X G mi d kc pc lv (.null :: rest) S μ Q := by
  intro p l e R s m args below meth c mc Z C hZ H locs cells slots ls hR hk hl
  obtain ⟨hd, rfl⟩ := hd
  exact lv_ifnonnullN C.1 C.2.1 hd (k p l e R s m args below meth c mc Z C hZ H locs cells slots ls hR hk hl)
theorem X_lookup {dflt : Int} {ps : Array (Int × Int)} {len : Nat} {x : Int32} {off : Int} {tgt : Nat} (hd : Dc mi.2.1 pc (.lookupswitch dflt ps) len nx) (hp : (ps.toList.zip (ps.toList.drop 1)).all (fun (a, next) => a.1 < next.1) = true) (ho : Op.lookupswitch.offset ps.toList dflt x.toInt = off) (ht : (pc : Int) + off = (tgt : Int)) (k : X G mi d kc tgt lv rest S μ Q) : X G mi d kc pc lv (.int x :: rest) S μ Q := by
  intro p l e R s m args below meth c mc Z C hZ H locs cells slots ls hR hk hl
  obtain ⟨hd, rfl⟩ := hd
  exact lv_lookup C.1 C.2.1 hd hp ho ht (k p l e R s m args below meth c mc Z C hZ H locs cells slots ls hR hk hl)
theorem X_tableOut {dflt lo hi : Int} {offs : Array Int} {len : Nat} {x : Int32} {tgt : Nat} (hd : Dc mi.2.1 pc (.tableswitch dflt lo hi offs) len nx) (h : x.toInt < lo ∨ hi < x.toInt) (ht : (pc : Int) + dflt = (tgt : Int)) (k : X G mi d kc tgt lv rest S μ Q) : X G mi d kc pc lv (.int x :: rest) S μ Q := by
  intro p l e R s m args below meth c mc Z C hZ H locs cells slots ls hR hk hl
  obtain ⟨hd, rfl⟩ := hd
  exact lv_tableOut C.1 C.2.1 hd h ht (k p l e R s m args below meth c mc Z C hZ H locs cells slots ls hR hk hl)
theorem X_tableIn {dflt lo hi : Int} {offs : Array Int} {len : Nat} {x : Int32} {off : Int} {tgt : Nat} (hd : Dc mi.2.1 pc (.tableswitch dflt lo hi offs) len nx) (h1 : ¬ x.toInt < lo) (h2 : ¬ hi < x.toInt) (ho : offs[(x.toInt - lo).toNat]? = some off) (ht : (pc : Int) + off = (tgt : Int)) (k : X G mi d kc tgt lv rest S μ Q) : X G mi d kc pc lv (.int x :: rest) S μ Q := by
  intro p l e R s m args below meth c mc Z C hZ H locs cells slots ls hR hk hl
  obtain ⟨hd, rfl⟩ := hd
  exact lv_tableIn C.1 C.2.1 hd h1 h2 ho ht (k p l e R s m args below meth c mc Z C hZ H locs cells slots ls hR hk hl)
end
