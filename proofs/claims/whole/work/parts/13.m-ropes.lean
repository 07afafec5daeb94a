/-- what a search has found so far: nobody before place i of rope r, or somebody -/
def Fnd (N : Nat → Int32) (p r i : Nat) (on : Int32) : Prop := (on = -1 ∧ ∀ r' i', On N r' i' p → r < r' ∨ (r = r' ∧ i ≤ i')) ∨ ∃ r0 i0, on = nI r0 ∧ On N r0 i0 p
theorem Fnd.next {N : Nat → Int32} {p r i : Nat} {on : Int32} (h : Fnd N p r i on) (hn : ¬ N (84 + 9 * r + i) = nI p) : Fnd N p r (i + 1) on := by
  rcases h with ⟨e, h⟩ | h
  · refine Or.inl ⟨e, fun r' i' h' => ?_⟩
    rcases h r' i' h' with q | ⟨rfl, q⟩
    · exact Or.inl q
    · refine Or.inr ⟨rfl, ?_⟩
      rcases Nat.lt_or_ge i i' with z | z
      · exact z
      · have e : i' = i := by omega
        subst e
        exact absurd h'.2.2 hn
  · exact Or.inr h
theorem Fnd.row {N : Nat → Int32} {p r i : Nat} {on : Int32} (h : Fnd N p r i on) (hi : nv (N (83 + 9 * r)) ≤ i) : Fnd N p (r + 1) 0 on := by
  rcases h with ⟨e, h⟩ | h
  · refine Or.inl ⟨e, fun r' i' h' => ?_⟩
    rcases h r' i' h' with q | ⟨rfl, q⟩
    · rcases Nat.lt_or_ge (r + 1) r' with z | z
      · exact Or.inl z
      · exact Or.inr ⟨by omega, by omega⟩
    · have := h'.2.1
      omega
  · exact Or.inr h
set_option maxHeartbeats 1000000 in
theorem c10_ropeOf {G : Gl} {d : Nat} {S : Sh} {μ : Mu} {o : Nat} {q : Nat → Nat} {p : Int32} {pn : Nat} {K : Int32 → Sh → Mu → Prop} (hM : MS S o q) (hw : WF (μ (o + 1))) (hp : p = nI pn) (k1 : ∀ r i, On (μ (o + 1)) r i pn → K (nI r) S μ) (k2 : (∀ r i, ¬ On (μ (o + 1)) r i pn) → K (-1) S μ) : X G mi_X10_ropeOf (d + 2) 0 0 [(0, .ref o), (1, .int p)] [] S μ (qi K) := by
  have w0 := hw.n0
  have w1 := hw.n1
  have w2 := hw.n2
  have w3 := hw.n3
  have w4 := hw.n4
  have w5 := hw.n5
  have w6 := hw.n6
  have b1 := w1.2
  have b2 := w2.2
  have b3 := w3.2
  have b4 := w4.2
  have b5 := w5.2
  have b6 := w6.2
  have b0 := w0.2
  have outer : ∀ (n r : Nat) (on : Int32), r + n = nv (μ (o + 1) 3) → Fnd (μ (o + 1)) pn r 0 on → ∀ v4 : List (Nat × Value), v4 = [] ∨ (∃ x, v4 = [(4, .int x)]) → X G mi_X10_ropeOf (d + 2) 0 4 ([(0, .ref o), (1, .int p), (2, .int on), (3, .int (nI r))] ++ v4) [] S μ (qi K) := by
    intro n
    induction n with
    | zero =>
      intro r on hr hF v4 hv4
      refine X_lvp [0, 1, 2, 3] (lv' := [(0, .ref o), (1, .int p), (2, .int on), (3, .int (nI r))]) rfl ?_
      refine X_iload_n (tk_X10_ropeOf.at 4 rfl) rfl ?_
      refine X_aload_n (tk_X10_ropeOf.at 5 rfl) rfl ?_
      refine X_getR (tk_X10_ropeOf.at 6 rfl) fl_x10_9 hM.f0 rfl rfl ?_
      refine X_iconst (tk_X10_ropeOf.at 7 rfl) ci_3 ?_
      refine X_ialdN (k := 3) (tk_X10_ropeOf.at 8 rfl) hM.f1 (pz (pl 3 rfl) (by omega)) (by omega) (by decide) ?_
      refine X_icmp_geN (tgt := 56) (tk_X10_ropeOf.at 9 rfl) (by decide) rfl w3.1 (by omega) (by omega) (fun c1 => ?_) (fun c1 => (by exfalso; omega))
      refine X_iload_n (tk_X10_ropeOf.at 31 rfl) rfl ?_
      refine X_ireturn (tk_X10_ropeOf.at 32 rfl) rfl rfl ?_
      rcases hF with ⟨e, h⟩ | ⟨r0, i0, e, h⟩
      · rw [e]
        refine k2 (fun r' i' z => ?_)
        rcases h r' i' z with q | ⟨rfl, -⟩
        · have := z.1; omega
        · have := z.1; omega
      · rw [e]; exact k1 r0 i0 h
    | succ n ih =>
      intro r on hr hF v4 hv4
      refine X_lvp [0, 1, 2, 3] (lv' := [(0, .ref o), (1, .int p), (2, .int on), (3, .int (nI r))]) rfl ?_
      have wr := hw.ro (p := r) (by omega)
      have wm := wr.2.2.2.1
      have bm := wm.2
      have inn : ∀ (m i : Nat) (on : Int32), i + m = (nv (μ (o + 1) (83 + 9 * r))) → Fnd (μ (o + 1)) pn r i on → X G mi_X10_ropeOf (d + 2) 0 17 [(0, .ref o), (1, .int p), (2, .int on), (3, .int (nI r)), (4, .int (nI i))] [] S μ (qi K) := by
        intro m
        induction m with
        | zero =>
          intro i on hi hF
          refine X_iload (tk_X10_ropeOf.at 12 rfl) rfl ?_
          refine X_aload_n (tk_X10_ropeOf.at 13 rfl) rfl ?_
          refine X_iload_n (tk_X10_ropeOf.at 14 rfl) rfl ?_
          refine X_cV1i (lv2 := [(0, _), (1, _)]) (tk_X10_ropeOf.at 15 rfl) mv_X10_many lk_x10_118 np_X10_many hM.f0 (by decide) rfl (Nat.le_of_ble_eq_true rfl) (Nat.le_of_ble_eq_true rfl) rfl (c10_many hM rfl (by omega) ?_)
          refine X_icmp_geN (tgt := 50) (tk_X10_ropeOf.at 16 rfl) (by decide) rfl wm.1 (by omega) (by omega) (fun c1 => ?_) (fun c1 => (by exfalso; omega))
          refine X_iinc (lv' := [(0, _), (1, _), (2, _), (3, _), (4, _)]) (tk_X10_ropeOf.at 29 rfl) rfl ci_1 (by decide) rfl rfl ?_
          refine X_goto (tgt := 4) (tk_X10_ropeOf.at 30 rfl) (by decide) ?_
          rw [show nI r + 1 = nI (r + 1) from nI_1 r]
          exact ih (r + 1) on (by omega) (hF.row (by omega)) _ (Or.inr ⟨_, rfl⟩)
        | succ m ihm =>
          intro i on hi hF
          refine X_iload (tk_X10_ropeOf.at 12 rfl) rfl ?_
          refine X_aload_n (tk_X10_ropeOf.at 13 rfl) rfl ?_
          refine X_iload_n (tk_X10_ropeOf.at 14 rfl) rfl ?_
          refine X_cV1i (lv2 := [(0, _), (1, _)]) (tk_X10_ropeOf.at 15 rfl) mv_X10_many lk_x10_118 np_X10_many hM.f0 (by decide) rfl (Nat.le_of_ble_eq_true rfl) (Nat.le_of_ble_eq_true rfl) rfl (c10_many hM rfl (by omega) ?_)
          refine X_icmp_geN (tgt := 50) (tk_X10_ropeOf.at 16 rfl) (by decide) rfl wm.1 (by omega) (by omega) (fun c1 => (by exfalso; omega)) (fun c1 => ?_)
          refine X_aload_n (tk_X10_ropeOf.at 17 rfl) rfl ?_
          refine X_iload_n (tk_X10_ropeOf.at 18 rfl) rfl ?_
          refine X_iload (tk_X10_ropeOf.at 19 rfl) rfl ?_
          refine X_cV2i (lv2 := [(0, _), (1, _), (2, _)]) (tk_X10_ropeOf.at 20 rfl) mv_X10_who lk_x10_121 np_X10_who hM.f0 (by decide) rfl (Nat.le_of_ble_eq_true rfl) (Nat.le_of_ble_eq_true rfl) rfl (c10_who hM rfl rfl (by omega) (by omega) ?_)
          refine X_iload_n (tk_X10_ropeOf.at 21 rfl) rfl ?_
          refine X_icmp_ne (tgt := 42) (tk_X10_ropeOf.at 22 rfl) (by decide) (fun c2 => ?_) (fun c2 => ?_)
          · refine X_iload_n (tk_X10_ropeOf.at 25 rfl) rfl ?_
            refine X_istore_n (lv' := [(0, _), (1, _), (2, _), (3, _), (4, _)]) (tk_X10_ropeOf.at 26 rfl) (by decide) rfl rfl ?_
            refine X_iinc (lv' := [(0, _), (1, _), (2, _), (3, _), (4, _)]) (tk_X10_ropeOf.at 27 rfl) rfl ci_1 (by decide) rfl rfl ?_
            refine X_goto (tgt := 17) (tk_X10_ropeOf.at 28 rfl) (by decide) ?_
            rw [show nI i + 1 = nI (i + 1) from nI_1 i]
            exact ihm (i + 1) on (by omega) (hF.next (by rw [← hp]; exact c2))
          · refine X_iload_n (tk_X10_ropeOf.at 23 rfl) rfl ?_
            refine X_goto (tgt := 43) (tk_X10_ropeOf.at 24 rfl) (by decide) ?_
            refine X_istore_n (lv' := [(0, _), (1, _), (2, _), (3, _), (4, _)]) (tk_X10_ropeOf.at 26 rfl) (by decide) rfl rfl ?_
            refine X_iinc (lv' := [(0, _), (1, _), (2, _), (3, _), (4, _)]) (tk_X10_ropeOf.at 27 rfl) rfl ci_1 (by decide) rfl rfl ?_
            refine X_goto (tgt := 17) (tk_X10_ropeOf.at 28 rfl) (by decide) ?_
            rw [show nI i + 1 = nI (i + 1) from nI_1 i]
            refine ihm (i + 1) (nI r) (by omega) (Or.inr ⟨r, i, rfl, by omega, by omega, ?_⟩)
            rw [← hp]; exact c2
      refine X_iload_n (tk_X10_ropeOf.at 4 rfl) rfl ?_
      refine X_aload_n (tk_X10_ropeOf.at 5 rfl) rfl ?_
      refine X_getR (tk_X10_ropeOf.at 6 rfl) fl_x10_9 hM.f0 rfl rfl ?_
      refine X_iconst (tk_X10_ropeOf.at 7 rfl) ci_3 ?_
      refine X_ialdN (k := 3) (tk_X10_ropeOf.at 8 rfl) hM.f1 (pz (pl 3 rfl) (by omega)) (by omega) (by decide) ?_
      refine X_icmp_geN (tgt := 56) (tk_X10_ropeOf.at 9 rfl) (by decide) rfl w3.1 (by omega) (by omega) (fun c1 => (by exfalso; omega)) (fun c1 => ?_)
      refine X_iconst (tk_X10_ropeOf.at 10 rfl) ci_0 ?_
      refine X_istore (lv' := [(0, _), (1, _), (2, _), (3, _), (4, _)]) (tk_X10_ropeOf.at 11 rfl) (by decide) rfl rfl ?_
      exact inn _ 0 on (Nat.zero_add _) hF
  refine X_iconst (tk_X10_ropeOf.at 0 rfl) ci_m1 ?_
  refine X_istore_n (lv' := [(0, _), (1, _), (2, _)]) (tk_X10_ropeOf.at 1 rfl) (by decide) rfl rfl ?_
  refine X_iconst (tk_X10_ropeOf.at 2 rfl) ci_0 ?_
  refine X_istore_n (lv' := [(0, _), (1, _), (2, _), (3, _)]) (tk_X10_ropeOf.at 3 rfl) (by decide) rfl rfl ?_
  exact outer _ 0 (-1) (Nat.zero_add _) (Or.inl ⟨rfl, fun r' i' _ => by omega⟩) [] (Or.inl rfl)
def Fnp (N : Nat → Int32) (p r i : Nat) (on : Int32) : Prop := (on = -1 ∧ ∀ i', On N r i' p → i ≤ i') ∨ ∃ i0, on = nI i0 ∧ On N r i0 p
set_option maxHeartbeats 1000000 in
theorem c10_placeOf {G : Gl} {d : Nat} {S : Sh} {μ : Mu} {o : Nat} {q : Nat → Nat} {p : Int32} {pn : Nat} {K : Int32 → Sh → Mu → Prop} (hM : MS S o q) (hw : WF (μ (o + 1))) (hp : p = nI pn) (k1 : ∀ r i, On (μ (o + 1)) r i pn → K (nI i) S μ) (k2 : (∀ r i, ¬ On (μ (o + 1)) r i pn) → K (-1) S μ) : X G mi_X10_placeOf (d + 3) 0 0 [(0, .ref o), (1, .int p)] [] S μ (qi K) := by
  have w0 := hw.n0
  have w1 := hw.n1
  have w2 := hw.n2
  have w3 := hw.n3
  have w4 := hw.n4
  have w5 := hw.n5
  have w6 := hw.n6
  have b1 := w1.2
  have b2 := w2.2
  have b3 := w3.2
  have b4 := w4.2
  have b5 := w5.2
  have b6 := w6.2
  have b0 := w0.2
  refine X_aload_n (tk_X10_placeOf.at 0 rfl) rfl ?_
  refine X_iload_n (tk_X10_placeOf.at 1 rfl) rfl ?_
  refine X_cV1i (lv2 := [(0, _), (1, _)]) (tk_X10_placeOf.at 2 rfl) mv_X10_ropeOf lk_x10_98 np_X10_ropeOf hM.f0 (by decide) rfl (Nat.le_of_ble_eq_true rfl) (Nat.le_of_ble_eq_true rfl) rfl (c10_ropeOf hM hw hp (fun r2 i2 h2 => ?_) (fun h2 => ?_))
  · have g2 := h2.1
    refine X_istore_n (lv' := [(0, _), (1, _), (2, _)]) (tk_X10_placeOf.at 3 rfl) (by decide) rfl rfl ?_
    refine X_iconst (tk_X10_placeOf.at 4 rfl) ci_m1 ?_
    refine X_istore_n (lv' := [(0, _), (1, _), (2, _), (3, _)]) (tk_X10_placeOf.at 5 rfl) (by decide) rfl rfl ?_
    refine X_iconst (tk_X10_placeOf.at 6 rfl) ci_0 ?_
    refine X_istore (lv' := [(0, _), (1, _), (2, _), (3, _), (4, _)]) (tk_X10_placeOf.at 7 rfl) (by decide) rfl rfl ?_
    have wr := hw.ro (p := r2) h2.1
    have wm := wr.2.2.2.1
    have bm := wm.2
    have loop : ∀ (m i : Nat) (on : Int32), i + m = (nv (μ (o + 1) (83 + 9 * r2))) → Fnp (μ (o + 1)) pn r2 i on → X G mi_X10_placeOf (d + 3) 0 11 [(0, .ref o), (1, .int p), (2, .int (nI r2)), (3, .int on), (4, .int (nI i))] [] S μ (qi K) := by
      intro m
      induction m with
      | zero =>
        intro i on hi hF
        refine X_iload_n (tk_X10_placeOf.at 8 rfl) rfl ?_
        refine X_if_ltN (tgt := 49) (tk_X10_placeOf.at 9 rfl) (by decide) (pl r2 rfl) (by omega) ?_
        refine X_iload (tk_X10_placeOf.at 10 rfl) rfl ?_
        refine X_aload_n (tk_X10_placeOf.at 11 rfl) rfl ?_
        refine X_iload_n (tk_X10_placeOf.at 12 rfl) rfl ?_
        refine X_cV1i (lv2 := [(0, _), (1, _)]) (tk_X10_placeOf.at 13 rfl) mv_X10_many lk_x10_118 np_X10_many hM.f0 (by decide) rfl (Nat.le_of_ble_eq_true rfl) (Nat.le_of_ble_eq_true rfl) rfl (c10_many hM (pl r2 rfl) (by omega) ?_)
        refine X_icmp_geN (tgt := 49) (tk_X10_placeOf.at 14 rfl) (by decide) (pl i rfl) wm.1 (by omega) (by omega) (fun c2 => ?_) (fun c2 => (by exfalso; omega))
        refine X_iload_n (tk_X10_placeOf.at 27 rfl) rfl ?_
        refine X_ireturn (tk_X10_placeOf.at 28 rfl) rfl rfl ?_
        rcases hF with ⟨e, h⟩ | ⟨i0, e, h⟩
        · exact absurd (h i2 h2) (by have := h2.2.1; omega)
        · rw [e]; exact k1 r2 i0 h
      | succ m ih =>
        intro i on hi hF
        refine X_iload_n (tk_X10_placeOf.at 8 rfl) rfl ?_
        refine X_if_ltN (tgt := 49) (tk_X10_placeOf.at 9 rfl) (by decide) (pl r2 rfl) (by omega) ?_
        refine X_iload (tk_X10_placeOf.at 10 rfl) rfl ?_
        refine X_aload_n (tk_X10_placeOf.at 11 rfl) rfl ?_
        refine X_iload_n (tk_X10_placeOf.at 12 rfl) rfl ?_
        refine X_cV1i (lv2 := [(0, _), (1, _)]) (tk_X10_placeOf.at 13 rfl) mv_X10_many lk_x10_118 np_X10_many hM.f0 (by decide) rfl (Nat.le_of_ble_eq_true rfl) (Nat.le_of_ble_eq_true rfl) rfl (c10_many hM (pl r2 rfl) (by omega) ?_)
        refine X_icmp_geN (tgt := 49) (tk_X10_placeOf.at 14 rfl) (by decide) (pl i rfl) wm.1 (by omega) (by omega) (fun c2 => (by exfalso; omega)) (fun c2 => ?_)
        refine X_aload_n (tk_X10_placeOf.at 15 rfl) rfl ?_
        refine X_iload_n (tk_X10_placeOf.at 16 rfl) rfl ?_
        refine X_iload (tk_X10_placeOf.at 17 rfl) rfl ?_
        refine X_cV2i (lv2 := [(0, _), (1, _), (2, _)]) (tk_X10_placeOf.at 18 rfl) mv_X10_who lk_x10_121 np_X10_who hM.f0 (by decide) rfl (Nat.le_of_ble_eq_true rfl) (Nat.le_of_ble_eq_true rfl) rfl (c10_who hM (pl r2 rfl) (pl i rfl) (by omega) (by omega) ?_)
        refine X_iload_n (tk_X10_placeOf.at 19 rfl) rfl ?_
        refine X_icmp_ne (tgt := 41) (tk_X10_placeOf.at 20 rfl) (by decide) (fun c3 => ?_) (fun c3 => ?_)
        · refine X_iload_n (tk_X10_placeOf.at 23 rfl) rfl ?_
          refine X_istore_n (lv' := [(0, _), (1, _), (2, _), (3, _), (4, _)]) (tk_X10_placeOf.at 24 rfl) (by decide) rfl rfl ?_
          refine X_iinc (lv' := [(0, _), (1, _), (2, _), (3, _), (4, _)]) (tk_X10_placeOf.at 25 rfl) rfl ci_1 (by decide) rfl rfl ?_
          refine X_goto (tgt := 11) (tk_X10_placeOf.at 26 rfl) (by decide) ?_
          rw [show nI i + 1 = nI (i + 1) from nI_1 i]
          refine ih (i + 1) on (by omega) ?_
          rcases hF with ⟨e, h⟩ | h
          · refine Or.inl ⟨e, fun i' z => ?_⟩
            have := h i' z
            rcases Nat.lt_or_ge i i' with y | y
            · exact y
            · have e2 : i' = i := by omega
              subst e2
              exact absurd z.2.2 (by rw [← hp]; exact c3)
          · exact Or.inr h
        · refine X_iload (tk_X10_placeOf.at 21 rfl) rfl ?_
          refine X_goto (tgt := 42) (tk_X10_placeOf.at 22 rfl) (by decide) ?_
          refine X_istore_n (lv' := [(0, _), (1, _), (2, _), (3, _), (4, _)]) (tk_X10_placeOf.at 24 rfl) (by decide) rfl rfl ?_
          refine X_iinc (lv' := [(0, _), (1, _), (2, _), (3, _), (4, _)]) (tk_X10_placeOf.at 25 rfl) rfl ci_1 (by decide) rfl rfl ?_
          refine X_goto (tgt := 11) (tk_X10_placeOf.at 26 rfl) (by decide) ?_
          rw [show nI i + 1 = nI (i + 1) from nI_1 i]
          refine ih (i + 1) (nI i) (by omega) (Or.inr ⟨i, rfl, h2.1, by omega, ?_⟩)
          rw [← hp]; exact c3
    exact loop _ 0 (-1) (Nat.zero_add _) (Or.inl ⟨rfl, fun i' _ => Nat.zero_le i'⟩)
  · refine X_istore_n (lv' := [(0, _), (1, _), (2, _)]) (tk_X10_placeOf.at 3 rfl) (by decide) rfl rfl ?_
    refine X_iconst (tk_X10_placeOf.at 4 rfl) ci_m1 ?_
    refine X_istore_n (lv' := [(0, _), (1, _), (2, _), (3, _)]) (tk_X10_placeOf.at 5 rfl) (by decide) rfl rfl ?_
    refine X_iconst (tk_X10_placeOf.at 6 rfl) ci_0 ?_
    refine X_istore (lv' := [(0, _), (1, _), (2, _), (3, _), (4, _)]) (tk_X10_placeOf.at 7 rfl) (by decide) rfl rfl ?_
    refine X_iload_n (tk_X10_placeOf.at 8 rfl) rfl ?_
    refine X_if_lt (tgt := 49) (tk_X10_placeOf.at 9 rfl) (by decide) (fun _ => ?_) (fun h => absurd h (by decide))
    refine X_iload_n (tk_X10_placeOf.at 27 rfl) rfl ?_
    refine X_ireturn (tk_X10_placeOf.at 28 rfl) rfl rfl ?_
    exact k2 h2
def Fnl (N : Nat → Int32) (r : Int32) (i : Nat) (on : Int32) : Prop := (on = -1 ∧ ∀ k, k < nv (N 4) → N (134 + k) = r → i ≤ k) ∨ ∃ k, on = nI k ∧ k < nv (N 4) ∧ N (134 + k) = r
set_option maxHeartbeats 1000000 in
theorem c10_inLine {G : Gl} {d : Nat} {S : Sh} {μ : Mu} {o : Nat} {q : Nat → Nat} {r : Int32} {K : Int32 → Sh → Mu → Prop} (hM : MS S o q) (hw : WF (μ (o + 1))) (k1 : ∀ k, k < nv (μ (o + 1) 4) → μ (o + 1) (134 + k) = r → K (nI k) S μ) (k2 : (∀ k, k < nv (μ (o + 1) 4) → ¬ μ (o + 1) (134 + k) = r) → K (-1) S μ) : X G mi_X10_inLine d 0 0 [(0, .ref o), (1, .int r)] [] S μ (qi K) := by
  have w0 := hw.n0
  have w1 := hw.n1
  have w2 := hw.n2
  have w3 := hw.n3
  have w4 := hw.n4
  have w5 := hw.n5
  have w6 := hw.n6
  have b1 := w1.2
  have b2 := w2.2
  have b3 := w3.2
  have b4 := w4.2
  have b5 := w5.2
  have b6 := w6.2
  have b0 := w0.2
  have loop : ∀ (m i : Nat) (on : Int32), i + m = nv (μ (o + 1) 4) → Fnl (μ (o + 1)) r i on → X G mi_X10_inLine d 0 4 [(0, .ref o), (1, .int r), (2, .int on), (3, .int (nI i))] [] S μ (qi K) := by
    intro m
    induction m with
    | zero =>
      intro i on hi hF
      refine X_iload_n (tk_X10_inLine.at 4 rfl) rfl ?_
      refine X_aload_n (tk_X10_inLine.at 5 rfl) rfl ?_
      refine X_getR (tk_X10_inLine.at 6 rfl) fl_x10_9 hM.f0 rfl rfl ?_
      refine X_iconst (tk_X10_inLine.at 7 rfl) ci_4 ?_
      refine X_ialdN (k := 4) (tk_X10_inLine.at 8 rfl) hM.f1 (pz (pl 4 rfl) (by omega)) (by omega) (by decide) ?_
      refine X_icmp_geN (tgt := 40) (tk_X10_inLine.at 9 rfl) (by decide) (pl i rfl) w4.1 (by omega) (by omega) (fun c1 => ?_) (fun c1 => (by exfalso; omega))
      refine X_iload_n (tk_X10_inLine.at 24 rfl) rfl ?_
      refine X_ireturn (tk_X10_inLine.at 25 rfl) rfl rfl ?_
      rcases hF with ⟨e, h⟩ | ⟨k, e, h1, h2⟩
      · rw [e]
        exact k2 (fun k hk z => absurd (h k hk z) (by omega))
      · rw [e]; exact k1 k h1 h2
    | succ m ih =>
      intro i on hi hF
      refine X_iload_n (tk_X10_inLine.at 4 rfl) rfl ?_
      refine X_aload_n (tk_X10_inLine.at 5 rfl) rfl ?_
      refine X_getR (tk_X10_inLine.at 6 rfl) fl_x10_9 hM.f0 rfl rfl ?_
      refine X_iconst (tk_X10_inLine.at 7 rfl) ci_4 ?_
      refine X_ialdN (k := 4) (tk_X10_inLine.at 8 rfl) hM.f1 (pz (pl 4 rfl) (by omega)) (by omega) (by decide) ?_
      refine X_icmp_geN (tgt := 40) (tk_X10_inLine.at 9 rfl) (by decide) (pl i rfl) w4.1 (by omega) (by omega) (fun c1 => (by exfalso; omega)) (fun c1 => ?_)
      refine X_aload_n (tk_X10_inLine.at 10 rfl) rfl ?_
      refine X_getR (tk_X10_inLine.at 11 rfl) fl_x10_9 hM.f0 rfl rfl ?_
      refine X_sipush (tk_X10_inLine.at 12 rfl) cs_134 ?_
      refine X_iload_n (tk_X10_inLine.at 13 rfl) rfl ?_
      refine X_iadd (tk_X10_inLine.at 14 rfl) ?_
      refine X_ialdN (k := 134 + i) (tk_X10_inLine.at 15 rfl) hM.f1 (pz (pa (pl 134 rfl) (pl i rfl)) (by omega)) (by omega) (by decide) ?_
      refine X_iload_n (tk_X10_inLine.at 16 rfl) rfl ?_
      refine X_icmp_ne (tgt := 32) (tk_X10_inLine.at 17 rfl) (by decide) (fun c2 => ?_) (fun c2 => ?_)
      · refine X_iload_n (tk_X10_inLine.at 20 rfl) rfl ?_
        refine X_istore_n (lv' := [(0, _), (1, _), (2, _), (3, _)]) (tk_X10_inLine.at 21 rfl) (by decide) rfl rfl ?_
        refine X_iinc (lv' := [(0, _), (1, _), (2, _), (3, _)]) (tk_X10_inLine.at 22 rfl) rfl ci_1 (by decide) rfl rfl ?_
        refine X_goto (tgt := 4) (tk_X10_inLine.at 23 rfl) (by decide) ?_
        rw [show nI i + 1 = nI (i + 1) from nI_1 i]
        refine ih (i + 1) on (by omega) ?_
        rcases hF with ⟨e, h⟩ | h
        · refine Or.inl ⟨e, fun k hk z => ?_⟩
          have := h k hk z
          rcases Nat.lt_or_ge i k with y | y
          · exact y
          · have e2 : k = i := by omega
            subst e2
            exact absurd z c2
        · exact Or.inr h
      · refine X_iload_n (tk_X10_inLine.at 18 rfl) rfl ?_
        refine X_goto (tgt := 33) (tk_X10_inLine.at 19 rfl) (by decide) ?_
        refine X_istore_n (lv' := [(0, _), (1, _), (2, _), (3, _)]) (tk_X10_inLine.at 21 rfl) (by decide) rfl rfl ?_
        refine X_iinc (lv' := [(0, _), (1, _), (2, _), (3, _)]) (tk_X10_inLine.at 22 rfl) rfl ci_1 (by decide) rfl rfl ?_
        refine X_goto (tgt := 4) (tk_X10_inLine.at 23 rfl) (by decide) ?_
        rw [show nI i + 1 = nI (i + 1) from nI_1 i]
        exact ih (i + 1) (nI i) (by omega) (Or.inr ⟨i, rfl, by omega, c2⟩)
  refine X_iconst (tk_X10_inLine.at 0 rfl) ci_m1 ?_
  refine X_istore_n (lv' := [(0, _), (1, _), (2, _)]) (tk_X10_inLine.at 1 rfl) (by decide) rfl rfl ?_
  refine X_iconst (tk_X10_inLine.at 2 rfl) ci_0 ?_
  refine X_istore_n (lv' := [(0, _), (1, _), (2, _), (3, _)]) (tk_X10_inLine.at 3 rfl) (by decide) rfl rfl ?_
  exact loop _ 0 (-1) (Nat.zero_add _) (Or.inl ⟨rfl, fun k _ _ => Nat.zero_le k⟩)
