set_option maxHeartbeats 1000000 in
theorem c10_sorts {G : Gl} {d : Nat} {S : Sh} {μ : Mu} {a n len : Nat} {f : Nat → Nat} {nn : Int32} {K : Sh → Mu → Prop} (ha : S.2 a = some (kI len)) (hl : len < 2 ^ 31) (hn : n ≤ len) (hnn : nn = nI n) (hA : Rw (μ a) n f) (hinj : (∀ i j, i < n → j < n → f i = f j → i = j)) (hK : ∀ g B, Pm n g f → (∀ x y, x < y → y < n → g x < g y) → Rw B n g → K S (Mx μ a B)) : X G mi_X10_sorts (d + 1) 0 0 [(0, .ref a), (1, .int nn)] [] S μ (qv K) := by
  have outer : ∀ (m i : Nat) (g : Nat → Nat) (B : Nat → Int32) (rest : List (Nat × Value)), i + m = n → Pm n g f → Rw B n g → (∀ x y, x < y → y < n → x < i → g x < g y) → X G mi_X10_sorts (d + 1) 0 2 ([(0, .ref a), (1, .int nn), (2, .int (nI i))] ++ rest) [] S (Mx μ a B) (qv K) := by
    intro m
    induction m with
    | zero =>
      intro i g B rest hi hp hB hs
      refine X_lvp [0, 1, 2] (lv' := [(0, _), (1, _), (2, _)]) rfl ?_
      refine X_iload_n (tk_X10_sorts.at 2 rfl) rfl ?_
      refine X_iload_n (tk_X10_sorts.at 3 rfl) rfl ?_
      refine X_icmp_geN (tgt := 43) (tk_X10_sorts.at 4 rfl) (by decide) (pl i rfl) hnn (by omega) (by omega) (fun c1 => ?_) (fun c1 => (by exfalso; omega))
      refine X_return (tk_X10_sorts.at 27 rfl) rfl ?_
      exact hK g B hp (fun x y a b => hs x y a b (by omega)) hB
    | succ m ih =>
      intro i g B rest hi hp hB hs
      refine X_lvp [0, 1, 2] (lv' := [(0, _), (1, _), (2, _)]) rfl ?_
      have inner : ∀ (w j : Nat) (g : Nat → Nat) (B : Nat → Int32), j + w = n → i < j → Pm n g f → Rw B n g → (∀ x y, x < y → y < n → x < i → g x < g y) → (∀ y, i < y → y < j → g i < g y) → X G mi_X10_sorts (d + 1) 0 11 [(0, .ref a), (1, .int nn), (2, .int (nI i)), (3, .int (nI j))] [] S (Mx μ a B) (qv K) := by
        intro w
        induction w with
        | zero =>
          intro j g B hj hij hp hB hs hq
          refine X_iload_n (tk_X10_sorts.at 9 rfl) rfl ?_
          refine X_iload_n (tk_X10_sorts.at 10 rfl) rfl ?_
          refine X_icmp_geN (tgt := 37) (tk_X10_sorts.at 11 rfl) (by decide) (pl j rfl) hnn (by omega) (by omega) (fun c1 => ?_) (fun c1 => (by exfalso; omega))
          refine X_iinc (lv' := [(0, _), (1, _), (2, _), (3, _)]) (tk_X10_sorts.at 25 rfl) rfl ci_1 (by decide) rfl rfl ?_
          refine X_goto (tgt := 2) (tk_X10_sorts.at 26 rfl) (by decide) ?_
          rw [nI_1 i]
          exact ih (i + 1) g B [(3, _)] (by omega) hp hB (fun x y a b c => by
            by_cases e : x = i
            · subst e; exact hq y a (by omega)
            · exact hs x y a b (by omega))
        | succ w ihw =>
          intro j g B hj hij hp hB hs hq
          have gj := (hB j (by omega)).2
          have gi := (hB i (by omega)).2
          refine X_iload_n (tk_X10_sorts.at 9 rfl) rfl ?_
          refine X_iload_n (tk_X10_sorts.at 10 rfl) rfl ?_
          refine X_icmp_geN (tgt := 37) (tk_X10_sorts.at 11 rfl) (by decide) (pl j rfl) hnn (by omega) (by omega) (fun c1 => (by exfalso; omega)) (fun c1 => ?_)
          refine X_aload_n (tk_X10_sorts.at 12 rfl) rfl ?_
          refine X_iload_n (tk_X10_sorts.at 13 rfl) rfl ?_
          refine X_ialdN (k := j) (tk_X10_sorts.at 14 rfl) ha (pz (pl j rfl) (by omega)) (by omega) hl ?_
          refine X_aload_n (tk_X10_sorts.at 15 rfl) rfl ?_
          refine X_iload_n (tk_X10_sorts.at 16 rfl) rfl ?_
          refine X_ialdN (k := i) (tk_X10_sorts.at 17 rfl) ha (pz (pl i rfl) (by omega)) (by omega) hl ?_
          refine X_icmp_geN (tgt := 31) (tk_X10_sorts.at 18 rfl) (by decide) (show Mx μ a B a j = _ by rw [Mx_same]; exact (hB j (by omega)).1) (show Mx μ a B a i = _ by rw [Mx_same]; exact (hB i (by omega)).1) (by omega) (by omega) (fun c2 => ?_) (fun c2 => ?_)
          · refine X_iinc (lv' := [(0, _), (1, _), (2, _), (3, _)]) (tk_X10_sorts.at 23 rfl) rfl ci_1 (by decide) rfl rfl ?_
            refine X_goto (tgt := 11) (tk_X10_sorts.at 24 rfl) (by decide) ?_
            rw [nI_1 j]
            refine ihw (j + 1) g B (by omega) (by omega) hp hB hs (fun y a b => ?_)
            by_cases e : y = j
            · subst e
              rcases Nat.lt_or_ge (g i) (g y) with z | z
              · exact z
              · exact absurd (hp.2.2 i y (by omega) (by omega) (by omega)) (by omega)
            · exact hq y a (by omega)
          · refine X_aload_n (tk_X10_sorts.at 19 rfl) rfl ?_
            refine X_iload_n (tk_X10_sorts.at 20 rfl) rfl ?_
            refine X_iload_n (tk_X10_sorts.at 21 rfl) rfl ?_
            refine X_cS3v (lv2 := [(0, _), (1, _), (2, _)]) (tk_X10_sorts.at 22 rfl) ms_X10_swaps lk_x10_267 np_X10_swaps (Nat.le_of_ble_eq_true rfl) (Nat.le_of_ble_eq_true rfl) rfl (c10_swaps ha (pl i rfl) (pl j rfl) (by omega) (by omega) hl ?_)
            refine X_iinc (lv' := [(0, _), (1, _), (2, _), (3, _)]) (tk_X10_sorts.at 23 rfl) rfl ci_1 (by decide) rfl rfl ?_
            refine X_goto (tgt := 11) (tk_X10_sorts.at 24 rfl) (by decide) ?_
            rw [Mx_same, Mx_Mx, nI_1 j]
            have hsw := Pm_sw hp.2.2 (i := i) (j := j) (by omega) (by omega)
            refine ihw (j + 1) (sw g i j) _ (by omega) (by omega) (hsw.tr hp) (Rw_sw hB (by omega) (by omega)) (fun x y a b c => ?_) (fun y a b => ?_)
            · unfold sw
              rw [if_neg (show ¬ x = i by omega), if_neg (show ¬ x = j by omega)]
              by_cases e1 : y = i
              · rw [if_pos e1]; exact hs x j (by omega) (by omega) c
              · rw [if_neg e1]
                by_cases e2 : y = j
                · rw [if_pos e2]; exact hs x i (by omega) (by omega) c
                · rw [if_neg e2]; exact hs x y a b c
            · unfold sw
              rw [if_pos rfl, if_neg (show ¬ y = i by omega)]
              by_cases e2 : y = j
              · rw [if_pos e2]; omega
              · rw [if_neg e2]; have := hq y a (by omega); omega
      refine X_iload_n (tk_X10_sorts.at 2 rfl) rfl ?_
      refine X_iload_n (tk_X10_sorts.at 3 rfl) rfl ?_
      refine X_icmp_geN (tgt := 43) (tk_X10_sorts.at 4 rfl) (by decide) (pl i rfl) hnn (by omega) (by omega) (fun c1 => (by exfalso; omega)) (fun c1 => ?_)
      refine X_iload_n (tk_X10_sorts.at 5 rfl) rfl ?_
      refine X_iconst (tk_X10_sorts.at 6 rfl) ci_1 ?_
      refine X_iadd (tk_X10_sorts.at 7 rfl) ?_
      refine X_istore_n (lv' := [(0, _), (1, _), (2, _), (3, _)]) (tk_X10_sorts.at 8 rfl) (by decide) rfl rfl ?_
      rw [nI_1 i]
      exact inner _ (i + 1) g B (show i + 1 + (n - (i + 1)) = n by omega) (by omega) hp hB hs (fun y a b => by omega)
  refine X_iconst (tk_X10_sorts.at 0 rfl) ci_0 ?_
  refine X_istore_n (lv' := [(0, _), (1, _), (2, _)]) (tk_X10_sorts.at 1 rfl) (by decide) rfl rfl ?_
  have z := outer n 0 f (μ a) [] (Nat.zero_add n) (Pm.rf hinj) hA (fun x y a b c => by omega)
  rw [Mx_self] at z
  exact z
/-- what stays of the reference while it tries -/
def Sq (o : Nat) (μ ν : Mu) : Prop := (∀ a, (a < o ∨ o + 18 ≤ a ∨ a = o + 2 ∨ a = o + 4 ∨ a = o + 13 ∨ a = o + 14 ∨ a = o + 15 ∨ a = o + 16) → ν a = μ a) ∧ ν o 3 = μ o 3 ∧ ν o 5 = μ o 5 ∧ ν o 22 = μ o 22
theorem Sq.rf (o : Nat) (μ : Mu) : Sq o μ μ := ⟨fun _ _ => rfl, rfl, rfl, rfl⟩
theorem Sq.tr {o : Nat} {μ ν ξ : Mu} (h : Sq o μ ν) (g : Sq o ν ξ) : Sq o μ ξ := ⟨fun a e => (g.1 a e).trans (h.1 a e), g.2.1.trans h.2.1, g.2.2.1.trans h.2.2.1, g.2.2.2.trans h.2.2.2⟩
theorem Sq.mx {o : Nat} {μ ν : Mu} (h : Sq o μ ν) {a : Nat} (f : Nat → Int32) (ha : o < a ∧ a < o + 18 ∧ a ≠ o + 2 ∧ a ≠ o + 4 ∧ a ≠ o + 13 ∧ a ≠ o + 14 ∧ a ≠ o + 15 ∧ a ≠ o + 16) : Sq o μ (Mx ν a f) := by
  refine h.tr ⟨fun b e => Mx_ne (by omega), ?_, ?_, ?_⟩ <;> rw [Mx_ne (by omega)]
theorem Sq.su {o : Nat} {μ ν : Mu} (h : Sq o μ ν) {k : Nat} (x : Int32) (hk : k ≠ 3 ∧ k ≠ 5 ∧ k ≠ 22) : Sq o μ (su ν o k x) := by
  refine h.tr ⟨fun b e => su_ne (by omega), ?_, ?_, ?_⟩ <;> rw [su_same, upd_ne _ _ (by omega)]
/-- what stays while a toll is reckoned -/
def Sy (o : Nat) (μ ν : Mu) : Prop := (∀ a, a ≠ o → a ≠ o + 7 → a ≠ o + 8 → a ≠ o + 9 → a ≠ o + 10 → ν a = μ a) ∧ ∀ k, k ≠ 17 → ν o k = μ o k
theorem Sy.sx {o : Nat} {μ ν : Mu} (h : Sy o μ ν) : Sq o μ ν := ⟨fun a e => h.1 a (by omega) (by omega) (by omega) (by omega) (by omega), h.2 3 (by decide), h.2 5 (by decide), h.2 22 (by decide)⟩
theorem Tst_sy {μ : Mu} {o : Nat} {ov : Int32} {cm bf f P : Nat → Int32} : Sy o μ (Tst μ o ov cm bf f P) := by
  refine ⟨fun a h0 h7 h8 h9 h10 => ?_, fun k hk => ?_⟩
  · unfold Tst
    rw [if_neg h0, if_neg h7, if_neg h8, if_neg h9, if_neg h10]
  · rw [Tsto, upd_ne _ _ hk]
theorem c10_tollY {G : Gl} {d : Nat} {S : Sh} {μ : Mu} {o : Nat} {q : Nat → Nat} {N : Nat → Int32} {K : Int32 → Sh → Mu → Prop} (hM : MS S o q) (hN : μ (o + 1) = N) (hl0 : μ o 5 = 0) (hw : WF N) (hK : ∀ ν, Sy o μ ν → ν o 17 = nI (ovr N (nv (N 4))) → K (nI (toll N)) S ν) : X G mi_X10_tollOf (d + 7) 0 0 [(0, .ref o)] [] S μ (qi K) :=
  c10_tollOf hM hN hl0 hw (fun cm bf h P _ => hK _ Tst_sy (by rw [Tsto, upd_at]))
theorem t3_le {N : Nat → Int32} (hw : WF N) {k i : Nat} (hk : k < nv (N 4)) : ∀ c, t3 N k i c ≤ 5000 * c
  | 0 => Nat.le_refl 0
  | c + 1 => by
    have ih := t3_le hw (k := k) (i := i) hk c
    have h1 : cst N 0 (lnA N k) i c ≤ 5 := by
      have h2 : nv (N (83 + 9 * lnA N k)) ≤ 5 := (hw.ro (hw.li hk).2).2.2.2.1.2
      unfold cst
      split
      · omega
      · split
        · omega
        · exact h2
    have h2 := rkc_le N k i c
    have h3 : cst N 0 (lnA N k) i c * rkc N k i c ≤ 5 * 1000 := Nat.mul_le_mul h1 h2
    show t3 N k i c + _ ≤ _
    omega
theorem t2_le {N : Nat → Int32} (hw : WF N) {k : Nat} (hk : k < nv (N 4)) : ∀ i, t2 N k i ≤ 40000 * i
  | 0 => Nat.le_refl 0
  | i + 1 => by
    have ih := t2_le hw hk i
    have h1 := t3_le hw (i := i) hk (nv (N 2))
    have h2 := hw.n2.2
    show t2 N k i + _ ≤ _
    omega
theorem t1_le {N : Nat → Int32} (hw : WF N) : ∀ k, k ≤ nv (N 4) → t1 N k ≤ 200000 * k
  | 0, _ => Nat.le_refl 0
  | k + 1, h => by
    have ih := t1_le hw k (by omega)
    have h1 := t2_le hw (show k < nv (N 4) by omega) (mny N (lnA N k))
    have h2 : mny N (lnA N k) ≤ 5 := (hw.ro (hw.li (show k < nv (N 4) by omega)).2).2.2.2.1.2
    show t1 N k + _ ≤ _
    omega
theorem toll_le {N : Nat → Int32} (hw : WF N) : toll N ≤ 1200000 := by
  have h := t1_le hw (nv (N 4)) (Nat.le_refl _)
  have h2 := hw.n4.2
  unfold toll
  omega
theorem ovr_le {N : Nat → Int32} (hw : WF N) : ∀ k, k ≤ nv (N 4) → ovr N k ≤ 9999
  | 0, _ => by have := hw.n0.2; show nv (N 0) ≤ _; omega
  | k + 1, h => by
    have ih := ovr_le hw k (by omega)
    have h1 := ofk_le hw (show k < nv (N 4) by omega) (c := nv (N 2)) hw.n2.2
    have h4 := hw.n4.2
    unfold ovr
    split
    · exact ih
    · show ofk N k _ ≤ _; omega
abbrev Bst := Option ((Nat × Nat) × (Nat → Nat))
def bet (b : Bst) (k : Nat × Nat) : Prop := match b with
  | none => True
  | some (k', _) => k.1 < k'.1 ∨ (k.1 = k'.1 ∧ k.2 < k'.2)
noncomputable def upB (key : (Nat → Nat) → Nat × Nat) (f : Nat → Nat) (b : Bst) : Bst := @ite _ (bet b (key f)) (Classical.propDecidable _) (some (key f, f)) b
noncomputable def fnd (key : (Nat → Nat) → Nat × Nat) (n : Nat) : Nat → (Nat → Nat) → Bst → Bst
  | 0, _, b => b
  | m + 1, f, b => match nxo n f with
    | none => upB key f b
    | some g => fnd key n m g (upB key f b)
def ends (n : Nat) : Nat → (Nat → Nat) → Prop
  | 0, _ => False
  | m + 1, f => match nxo n f with
    | none => True
    | some g => ends n m g
theorem nxo_n {n : Nat} {f : Nat → Nat} (h : lstA f (n - 1) = none) : nxo n f = none := by unfold nxo; rw [h]
theorem nxo_s {n k : Nat} {f : Nat → Nat} (h : lstA f (n - 1) = some k) : nxo n f = some (nxv n f k (gtJ f k (n - 1))) := by unfold nxo; rw [h]
theorem fnd_n {key : (Nat → Nat) → Nat × Nat} {n m : Nat} {f : Nat → Nat} {b : Bst} (h : nxo n f = none) : fnd key n (m + 1) f b = upB key f b := by rw [fnd, h]
theorem fnd_s {key : (Nat → Nat) → Nat × Nat} {n m : Nat} {f g : Nat → Nat} {b : Bst} (h : nxo n f = some g) : fnd key n (m + 1) f b = fnd key n m g (upB key f b) := by rw [fnd, h]
theorem ends_s {n m : Nat} {f g : Nat → Nat} (e : ends n (m + 1) f) (h : nxo n f = some g) : ends n m g := by rw [ends, h] at e; exact e
theorem upB_t {key : (Nat → Nat) → Nat × Nat} {f : Nat → Nat} {b : Bst} (h : bet b (key f)) : upB key f b = some (key f, f) := if_pos h
theorem upB_f {key : (Nat → Nat) → Nat × Nat} {f : Nat → Nat} {b : Bst} (h : ¬ bet b (key f)) : upB key f b = b := if_neg h
def stN (N : Nat → Int32) (r n : Nat) (f : Nat → Nat) : Nat → Int32 := fun a => if 84 + 9 * r ≤ a ∧ a < 84 + 9 * r + n then nI (f (a - (84 + 9 * r))) else N a
def lnN (N : Nat → Int32) (n : Nat) (f : Nat → Nat) : Nat → Int32 := fun a => if 134 ≤ a ∧ a < 134 + n then nI (f (a - 134)) else N a
abbrev rowN (N : Nat → Int32) (r : Nat) : Nat → Nat := fun i => nv (N (84 + 9 * r + i))
abbrev linN (N : Nat → Int32) : Nat → Nat := fun i => nv (N (134 + i))
theorem stN_in (N : Nat → Int32) {r n i : Nat} (f : Nat → Nat) (h : i < n) : stN N r n f (84 + 9 * r + i) = nI (f i) := by
  unfold stN
  rw [if_pos (by omega), show 84 + 9 * r + i - (84 + 9 * r) = i by omega]
theorem stN_out (N : Nat → Int32) {r n a : Nat} (f : Nat → Nat) (h : a < 84 + 9 * r ∨ 84 + 9 * r + n ≤ a) : stN N r n f a = N a := if_neg (by omega)
theorem lnN_in (N : Nat → Int32) {n i : Nat} (f : Nat → Nat) (h : i < n) : lnN N n f (134 + i) = nI (f i) := by
  unfold lnN
  rw [if_pos (by omega), show 134 + i - 134 = i by omega]
theorem lnN_out (N : Nat → Int32) {n a : Nat} (f : Nat → Nat) (h : a < 134 ∨ 134 + n ≤ a) : lnN N n f a = N a := if_neg (by omega)
theorem WF_st {N : Nat → Int32} (hw : WF N) {r : Nat} (hr : r < nv (N 3)) {f : Nat → Nat} (hp : Pm (nv (N (83 + 9 * r))) f (rowN N r)) : WF (stN N r (nv (N (83 + 9 * r))) f) := by
  have b3 := hw.n3.2
  have wr := hw.ro hr
  have bm := wr.2.2.2.1.2
  have wb : ∀ i, i < nv (N (83 + 9 * r)) → N (84 + 9 * r + i) = nI (nv (N (84 + 9 * r + i))) ∧ nv (N (84 + 9 * r + i)) < nv (N 1) := wr.2.2.2.2
  generalize hn : nv (N (83 + 9 * r)) = n at hp bm wb ⊢
  have b1 := hw.n1.2
  have out : ∀ {a : Nat}, a < 84 + 9 * r ∨ 84 + 9 * r + n ≤ a → stN N r n f a = N a := fun h => stN_out N f h
  have e0 : stN N r n f 0 = N 0 := out (by omega)
  have e1 : stN N r n f 1 = N 1 := out (by omega)
  have e2 : stN N r n f 2 = N 2 := out (by omega)
  have e3 : stN N r n f 3 = N 3 := out (by omega)
  have e4 : stN N r n f 4 = N 4 := out (by omega)
  have e5 : stN N r n f 5 = N 5 := out (by omega)
  have e6 : stN N r n f 6 = N 6 := out (by omega)
  have fi : ∀ i, i < n → f i < nv (N 1) := by
    intro i hi
    obtain ⟨j, hj, e⟩ := hp.1 i hi
    rw [e]
    exact (wb j hj).2
  have seat : ∀ r' i, r' < nv (N 3) → i < nv (N (83 + 9 * r')) → r' ≠ r → stN N r n f (84 + 9 * r' + i) = N (84 + 9 * r' + i) := by
    intro r' i hr' hi hne
    have := (hw.ro hr').2.2.2.1.2
    exact out (by omega)
  have cnt : ∀ r', r' < nv (N 3) → stN N r n f (83 + 9 * r') = N (83 + 9 * r') := by
    intro r' hr'
    exact out (by omega)
  have on : ∀ r' i p, On (stN N r n f) r' i p → (r' ≠ r ∧ On N r' i p) ∨ (r' = r ∧ i < n ∧ nI (f i) = nI p) := by
    intro r' i p g
    have hr' : r' < nv (N 3) := by rw [← e3]; exact g.1
    have hi : i < nv (N (83 + 9 * r')) := by rw [← cnt r' hr']; exact g.2.1
    by_cases c : r' = r
    · subst c
      rw [hn] at hi
      exact Or.inr ⟨rfl, hi, by rw [← stN_in N f hi]; exact g.2.2⟩
    · exact Or.inl ⟨c, hr', hi, by rw [← seat r' i hr' hi c]; exact g.2.2⟩
  have mix : ∀ r' i' i p, r' ≠ r → On N r' i' p → i < n → nI (f i) = nI p → False := by
    intro r' i' i p hne h1 h2 h3
    obtain ⟨j, hj, e⟩ := hp.1 i h2
    have h4 : On N r j p := ⟨hr, by rw [hn]; exact hj, by rw [(wb j hj).1, ← h3, e]⟩
    exact hne (hw.un h1 h4).1
  refine ⟨⟨by rw [e0]; exact hw.n0, by rw [e1]; exact hw.n1, by rw [e2]; exact hw.n2, by rw [e3]; exact hw.n3, by rw [e4]; exact hw.n4, by rw [e5]; exact hw.n5, by rw [e6]; exact hw.n6⟩, ?_, ?_, ?_, ?_, ?_, ?_, ?_, ?_⟩
  · intro p hp'
    rw [e1] at hp'
    have g := hw.pe hp'
    unfold WFp at g ⊢
    rw [out (a := 8 + 4 * p) (by omega), out (a := 9 + 4 * p) (by omega), out (a := 10 + 4 * p) (by omega), out (a := 11 + 4 * p) (by omega)]
    exact g
  · intro p hp'
    rw [e2] at hp'
    have b := hw.n2.2
    have g := hw.pc hp'
    unfold WFc at g ⊢
    rw [out (a := 48 + 4 * p) (by omega), out (a := 49 + 4 * p) (by omega), out (a := 50 + 4 * p) (by omega), out (a := 51 + 4 * p) (by omega)]
    exact g
  · intro r' hr'
    rw [e3] at hr'
    have g := hw.ro hr'
    have bm' := g.2.2.2.1.2
    unfold WFr at g ⊢
    rw [out (a := 80 + 9 * r') (by omega), out (a := 81 + 9 * r') (by omega), out (a := 82 + 9 * r') (by omega), cnt r' hr', e1]
    refine ⟨g.1, g.2.1, g.2.2.1, g.2.2.2.1, fun i hi => ?_⟩
    by_cases c : r' = r
    · subst c
      rw [hn] at hi
      rw [stN_in N f hi]
      have := fi i hi
      rw [nv_nI (by omega)]
      exact ⟨rfl, this⟩
    · rw [seat r' i hr' hi c]
      exact g.2.2.2.2 i hi
  · intro r1 i1 r2 i2 p g1 g2
    rcases on _ _ _ g1 with ⟨a1, a2⟩ | ⟨a1, a2, a3⟩
    · rcases on _ _ _ g2 with ⟨c1, c2⟩ | ⟨c1, c2, c3⟩
      · exact hw.un a2 c2
      · exact (mix _ _ _ _ a1 a2 c2 c3).elim
    · rcases on _ _ _ g2 with ⟨c1, c2⟩ | ⟨c1, c2, c3⟩
      · exact (mix _ _ _ _ c1 c2 a2 a3).elim
      · have h1 := fi i1 a2
        have h2 := fi i2 c2
        have h3 := congrArg nv (a3.trans c3.symm)
        rw [nv_nI (by omega), nv_nI (by omega)] at h3
        exact ⟨a1.trans c1.symm, hp.2.2 _ _ a2 c2 h3⟩
  · intro k hk
    rw [e4] at hk
    have b := hw.n4.2
    rw [out (a := 134 + k) (by omega), e3]
    exact hw.li hk
  · intro k k' hk hk' e
    rw [e4] at hk hk'
    have b := hw.n4.2
    rw [out (a := 134 + k) (by omega), out (a := 134 + k') (by omega)] at e
    exact hw.lu hk hk' e
  · intro k hk
    rw [e5] at hk
    have b := hw.n5.2
    rw [out (a := 140 + k) (by omega)]
    exact hw.ta hk
  · intro u hu
    have g := hw.tx hu
    rw [out (a := 210 + 52 * u) (by omega), show (fun k => stN N r n f (211 + 52 * u + k)) = (fun k => N (211 + 52 * u + k)) from funext (fun k => out (by omega))]
    exact g
theorem WF_ln {N : Nat → Int32} (hw : WF N) {f : Nat → Nat} (hp : Pm (nv (N 4)) f (linN N)) : WF (lnN N (nv (N 4)) f) := by
  have b4 := hw.n4.2
  have b3 := hw.n3.2
  have b1 := hw.n1.2
  have wb : ∀ i, i < nv (N 4) → N (134 + i) = nI (nv (N (134 + i))) ∧ nv (N (134 + i)) < nv (N 3) := fun i hi => hw.li hi
  have e4' : lnN N (nv (N 4)) f 4 = N 4 := lnN_out N f (by omega)
  generalize hn : nv (N 4) = n at hp b4 wb e4' ⊢
  have out : ∀ {a : Nat}, a < 134 ∨ 134 + n ≤ a → lnN N n f a = N a := fun h => lnN_out N f h
  have e0 : lnN N n f 0 = N 0 := out (by omega)
  have e1 : lnN N n f 1 = N 1 := out (by omega)
  have e2 : lnN N n f 2 = N 2 := out (by omega)
  have e3 : lnN N n f 3 = N 3 := out (by omega)
  have e5 : lnN N n f 5 = N 5 := out (by omega)
  have e6 : lnN N n f 6 = N 6 := out (by omega)
  have fi : ∀ i, i < n → f i < nv (N 3) := by
    intro i hi
    obtain ⟨j, hj, e⟩ := hp.1 i hi
    rw [e]
    exact (wb j hj).2
  have on : ∀ r' i p, On (lnN N n f) r' i p → On N r' i p := by
    intro r' i p g
    have hr' : r' < nv (N 3) := by rw [← e3]; exact g.1
    have c3 : lnN N n f (83 + 9 * r') = N (83 + 9 * r') := out (by omega)
    have hi : i < nv (N (83 + 9 * r')) := by rw [← c3]; exact g.2.1
    have := (hw.ro hr').2.2.2.1.2
    exact ⟨hr', hi, by rw [← out (a := 84 + 9 * r' + i) (by omega)]; exact g.2.2⟩
  refine ⟨⟨by rw [e0]; exact hw.n0, by rw [e1]; exact hw.n1, by rw [e2]; exact hw.n2, by rw [e3]; exact hw.n3, by rw [e4']; exact hw.n4, by rw [e5]; exact hw.n5, by rw [e6]; exact hw.n6⟩, ?_, ?_, ?_, ?_, ?_, ?_, ?_, ?_⟩
  · intro p hp'
    rw [e1] at hp'
    have g := hw.pe hp'
    unfold WFp at g ⊢
    rw [out (a := 8 + 4 * p) (by omega), out (a := 9 + 4 * p) (by omega), out (a := 10 + 4 * p) (by omega), out (a := 11 + 4 * p) (by omega)]
    exact g
  · intro p hp'
    rw [e2] at hp'
    have b := hw.n2.2
    have g := hw.pc hp'
    unfold WFc at g ⊢
    rw [out (a := 48 + 4 * p) (by omega), out (a := 49 + 4 * p) (by omega), out (a := 50 + 4 * p) (by omega), out (a := 51 + 4 * p) (by omega)]
    exact g
  · intro r' hr'
    rw [e3] at hr'
    have g := hw.ro hr'
    have bm' := g.2.2.2.1.2
    unfold WFr at g ⊢
    rw [out (a := 80 + 9 * r') (by omega), out (a := 81 + 9 * r') (by omega), out (a := 82 + 9 * r') (by omega), out (a := 83 + 9 * r') (by omega), e1]
    refine ⟨g.1, g.2.1, g.2.2.1, g.2.2.2.1, fun i hi => ?_⟩
    rw [out (a := 84 + 9 * r' + i) (by omega)]
    exact g.2.2.2.2 i hi
  · intro r1 i1 r2 i2 p g1 g2
    exact hw.un (on _ _ _ g1) (on _ _ _ g2)
  · intro k hk
    rw [e4', hn] at hk
    rw [lnN_in N f hk, e3]
    have := fi k hk
    rw [nv_nI (by omega)]
    exact ⟨rfl, this⟩
  · intro k k' hk hk' e
    rw [e4', hn] at hk hk'
    rw [lnN_in N f hk, lnN_in N f hk'] at e
    have h1 := fi k hk
    have h2 := fi k' hk'
    have h3 := congrArg nv e
    rw [nv_nI (by omega), nv_nI (by omega)] at h3
    exact hp.2.2 _ _ hk hk' h3
  · intro k hk
    rw [e5] at hk
    have b := hw.n5.2
    rw [out (a := 140 + k) (by omega)]
    exact hw.ta hk
  · intro u hu
    have g := hw.tx hu
    rw [out (a := 210 + 52 * u) (by omega), show (fun k => lnN N n f (211 + 52 * u + k)) = (fun k => N (211 + 52 * u + k)) from funext (fun k => out (by omega))]
    exact g
theorem row_inj {N : Nat → Int32} (hw : WF N) {r : Nat} (hr : r < nv (N 3)) : ∀ i j, i < nv (N (83 + 9 * r)) → j < nv (N (83 + 9 * r)) → rowN N r i = rowN N r j → i = j := by
  intro i j hi hj e
  have h1 := ((hw.ro hr).2.2.2.2 i hi).1
  have h2 := ((hw.ro hr).2.2.2.2 j hj).1
  exact (hw.un ⟨hr, hi, h1⟩ ⟨hr, hj, by rw [h2]; exact congrArg nI e.symm⟩).2
theorem lin_inj {N : Nat → Int32} (hw : WF N) : ∀ i j, i < nv (N 4) → j < nv (N 4) → linN N i = linN N j → i = j := by
  intro i j hi hj e
  exact hw.lu hi hj (by rw [(hw.li hi).1, (hw.li hj).1]; exact congrArg nI e)
