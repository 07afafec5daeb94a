/-- a row of the class at R: its cells lie behind it -/
def rR (R k : Nat) : Option Nat := match k with
  | 0 => some (R + 1)
  | _ => none
def RS (S : Sh) (R len : Nat) : Prop := S.2 R = some (kO 6 (rR R)) ∧ S.2 (R + 1) = some (kI len)
theorem in_or (x : Int32) {n : Nat} (hn : n < 2 ^ 30) : (∃ j, j < n ∧ x = nI j) ∨ x < 0 ∨ nI n ≤ x := by
  rcases Classical.em (x < 0) with h | h
  · exact Or.inr (Or.inl h)
  · obtain ⟨j, hj, rfl⟩ := nI_of h
    rcases Nat.lt_or_ge j n with g | g
    · exact Or.inl ⟨j, g, rfl⟩
    · exact Or.inr (Or.inr (by rw [nI_leI (by omega) hj]; exact g))
set_option maxHeartbeats 1000000 in
theorem c6_size {G : Gl} {d : Nat} {S : Sh} {μ : Mu} {R n len : Nat} {K : Int32 → Sh → Mu → Prop} (hR : RS S R len) (hn : μ R 1 = nI n) (hb : n ≤ len) (hl : len ≤ 60) (hK : K (nI n) S μ) : X G mi_X6_size d 0 0 [(0, .ref R)] [] S μ (qi K) := by
  refine X_aload_n (tk_X6_size.at 0 rfl) rfl ?_
  refine X_getI (tk_X6_size.at 1 rfl) fl_x6_9 hR.1 rfl ?_
  refine X_ireturn (tk_X6_size.at 2 rfl) rfl rfl ?_
  rw [hn]
  exact hK
set_option maxHeartbeats 1000000 in
theorem c6_isFull {G : Gl} {d : Nat} {S : Sh} {μ : Mu} {R n len : Nat} {K : Int32 → Sh → Mu → Prop} (hR : RS S R len) (hn : μ R 1 = nI n) (hb : n ≤ len) (hl : len ≤ 60) (kt : n = len → K 1 S μ) (kf : n < len → K 0 S μ) : X G mi_X6_isFull d 0 0 [(0, .ref R)] [] S μ (qi K) := by
  refine X_aload_n (tk_X6_isFull.at 0 rfl) rfl ?_
  refine X_getI (tk_X6_isFull.at 1 rfl) fl_x6_9 hR.1 rfl ?_
  refine X_aload_n (tk_X6_isFull.at 2 rfl) rfl ?_
  refine X_getR (tk_X6_isFull.at 3 rfl) fl_x6_21 hR.1 rfl rfl ?_
  refine X_alen (tk_X6_isFull.at 4 rfl) hR.2 ?_
  refine X_icmp_ltN (tgt := 16) (tk_X6_isFull.at 5 rfl) (by decide) hn rfl (by omega) (by omega) (fun c1 => ?_) (fun c1 => ?_)
  · refine X_iconst (tk_X6_isFull.at 8 rfl) ci_0 ?_
    refine X_ireturn (tk_X6_isFull.at 9 rfl) rfl rfl ?_
    exact kf (by omega)
  · refine X_iconst (tk_X6_isFull.at 6 rfl) ci_1 ?_
    refine X_goto (tgt := 17) (tk_X6_isFull.at 7 rfl) (by decide) ?_
    refine X_ireturn (tk_X6_isFull.at 9 rfl) rfl rfl ?_
    exact kt (by omega)
set_option maxHeartbeats 1000000 in
theorem c6_at {G : Gl} {d : Nat} {S : Sh} {μ : Mu} {R n len : Nat} {x : Int32} {K : Int32 → Sh → Mu → Prop} (hR : RS S R len) (hn : μ R 1 = nI n) (hb : n ≤ len) (hl : len ≤ 60) (kt : ∀ j, j < n → x = nI j → K (μ (R + 1) j) S μ) (kf : ¬ In x n → K (-1) S μ) : X G mi_X6_at d 0 0 [(0, .ref R), (1, .int x)] [] S μ (qi K) := by
  rcases in_or x (n := n) (by omega) with ⟨j, hj, ej⟩ | hx
  · refine X_iload_n (tk_X6_at.at 0 rfl) rfl ?_
    refine X_if_ltN (tgt := 21) (tk_X6_at.at 1 rfl) (by decide) ej (by omega) ?_
    refine X_iload_n (tk_X6_at.at 2 rfl) rfl ?_
    refine X_aload_n (tk_X6_at.at 3 rfl) rfl ?_
    refine X_getI (tk_X6_at.at 4 rfl) fl_x6_9 hR.1 rfl ?_
    refine X_icmp_geN (tgt := 21) (tk_X6_at.at 5 rfl) (by decide) ej hn (by omega) (by omega) (fun c2 => (by exfalso; omega)) (fun c2 => ?_)
    refine X_aload_n (tk_X6_at.at 6 rfl) rfl ?_
    refine X_getR (tk_X6_at.at 7 rfl) fl_x6_21 hR.1 rfl rfl ?_
    refine X_iload_n (tk_X6_at.at 8 rfl) rfl ?_
    refine X_ialdN (k := j) (tk_X6_at.at 9 rfl) hR.2 ej (by omega) (by omega) ?_
    refine X_goto (tgt := 22) (tk_X6_at.at 10 rfl) (by decide) ?_
    refine X_ireturn (tk_X6_at.at 12 rfl) rfl rfl ?_
    exact kt j hj ej
  · refine X_iload_n (tk_X6_at.at 0 rfl) rfl ?_
    refine X_if_lt (tgt := 21) (tk_X6_at.at 1 rfl) (by decide) (fun c1 => ?_) (fun c1 => ?_)
    · refine X_iconst (tk_X6_at.at 11 rfl) ci_m1 ?_
      refine X_ireturn (tk_X6_at.at 12 rfl) rfl rfl ?_
      exact kf (In_no (by omega) hx)
    · refine X_iload_n (tk_X6_at.at 2 rfl) rfl ?_
      refine X_aload_n (tk_X6_at.at 3 rfl) rfl ?_
      refine X_getI (tk_X6_at.at 4 rfl) fl_x6_9 hR.1 rfl ?_
      refine X_icmp_ge (tgt := 21) (tk_X6_at.at 5 rfl) (by decide) (fun c2 => ?_) (fun c2 => (by rw [hn] at c2; exfalso; rcases hx with hx | hx <;> contradiction))
      refine X_iconst (tk_X6_at.at 11 rfl) ci_m1 ?_
      refine X_ireturn (tk_X6_at.at 12 rfl) rfl rfl ?_
      exact kf (In_no (by omega) hx)
set_option maxHeartbeats 1000000 in
theorem c6_add {G : Gl} {d : Nat} {S : Sh} {μ : Mu} {R n len : Nat} {v : Int32} {K : Sh → Mu → Prop} (hR : RS S R len) (hn : μ R 1 = nI n) (hb : n ≤ len) (hl : len ≤ 60) (kt : n < len → K S (su (su μ (R + 1) n v) R 1 (nI (n + 1)))) (kf : n = len → K S μ) : X G mi_X6_add d 0 0 [(0, .ref R), (1, .int v)] [] S μ (qv K) := by
  refine X_aload_n (tk_X6_add.at 0 rfl) rfl ?_
  refine X_getI (tk_X6_add.at 1 rfl) fl_x6_9 hR.1 rfl ?_
  refine X_aload_n (tk_X6_add.at 2 rfl) rfl ?_
  refine X_getR (tk_X6_add.at 3 rfl) fl_x6_21 hR.1 rfl rfl ?_
  refine X_alen (tk_X6_add.at 4 rfl) hR.2 ?_
  refine X_icmp_geN (tgt := 32) (tk_X6_add.at 5 rfl) (by decide) hn rfl (by omega) (by omega) (fun c1 => ?_) (fun c1 => ?_)
  · refine X_return (tk_X6_add.at 18 rfl) rfl ?_
    exact kf (by omega)
  · refine X_aload_n (tk_X6_add.at 6 rfl) rfl ?_
    refine X_getR (tk_X6_add.at 7 rfl) fl_x6_21 hR.1 rfl rfl ?_
    refine X_aload_n (tk_X6_add.at 8 rfl) rfl ?_
    refine X_getI (tk_X6_add.at 9 rfl) fl_x6_9 hR.1 rfl ?_
    refine X_iload_n (tk_X6_add.at 10 rfl) rfl ?_
    refine X_iastN (k := n) (tk_X6_add.at 11 rfl) hR.2 hn (by omega) (by omega) ?_
    refine X_aload_n (tk_X6_add.at 12 rfl) rfl ?_
    refine X_dup (tk_X6_add.at 13 rfl) rfl ?_
    refine X_getI (tk_X6_add.at 14 rfl) fl_x6_9 hR.1 rfl ?_
    refine X_iconst (tk_X6_add.at 15 rfl) ci_1 ?_
    refine X_iadd (tk_X6_add.at 16 rfl) ?_
    refine X_putI (tk_X6_add.at 17 rfl) fl_x6_9 hR.1 rfl rfl ⟨rfl, rfl⟩ ?_
    refine X_return (tk_X6_add.at 18 rfl) rfl ?_
    rw [show su μ (R + 1) n v R 1 = nI n from by rw [su_ne (by omega)]; exact hn, nI_1]
    exact kt (by omega)
set_option maxHeartbeats 1000000 in
theorem c6_empty {G : Gl} {d : Nat} {S : Sh} {μ : Mu} {R n len : Nat} {K : Sh → Mu → Prop} (hR : RS S R len) (hK : K S (su μ R 1 0)) : X G mi_X6_empty d 0 0 [(0, .ref R)] [] S μ (qv K) := by
  refine X_aload_n (tk_X6_empty.at 0 rfl) rfl ?_
  refine X_iconst (tk_X6_empty.at 1 rfl) ci_0 ?_
  refine X_putI (tk_X6_empty.at 2 rfl) fl_x6_9 hR.1 rfl rfl ⟨rfl, rfl⟩ ?_
  refine X_return (tk_X6_empty.at 3 rfl) rfl ?_
  exact hK
set_option maxHeartbeats 1000000 in
theorem c6_placeOf {G : Gl} {d : Nat} {S : Sh} {μ : Mu} {R n len : Nat} {v : Int32} {K : Int32 → Sh → Mu → Prop} (hR : RS S R len) (hn : μ R 1 = nI n) (hb : n ≤ len) (hl : len ≤ 60) (kt : ∀ i, i < n → μ (R + 1) i = v → (∀ j, j < i → ¬ μ (R + 1) j = v) → K (nI i) S μ) (kf : (∀ j, j < n → ¬ μ (R + 1) j = v) → K (-1) S μ) : X G mi_X6_placeOf d 0 0 [(0, .ref R), (1, .int v)] [] S μ (qi K) := by
  have loop : ∀ (m i : Nat), i + m = n → (∀ j, j < i → ¬ μ (R + 1) j = v) → X G mi_X6_placeOf d 0 2 [(0, .ref R), (1, .int v), (2, .int (nI i))] [] S μ (qi K) := by
    intro m
    induction m with
    | zero =>
      intro i hi hj
      refine X_iload_n (tk_X6_placeOf.at 2 rfl) rfl ?_
      refine X_aload_n (tk_X6_placeOf.at 3 rfl) rfl ?_
      refine X_getI (tk_X6_placeOf.at 4 rfl) fl_x6_9 hR.1 rfl ?_
      refine X_icmp_geN (tgt := 28) (tk_X6_placeOf.at 5 rfl) (by decide) (pl i rfl) hn (by omega) (by omega) (fun c1 => ?_) (fun c1 => (by exfalso; omega))
      refine X_iconst (tk_X6_placeOf.at 16 rfl) ci_m1 ?_
      refine X_ireturn (tk_X6_placeOf.at 17 rfl) rfl rfl ?_
      exact kf (fun j h => hj j (by omega))
    | succ m ih =>
      intro i hi hj
      refine X_iload_n (tk_X6_placeOf.at 2 rfl) rfl ?_
      refine X_aload_n (tk_X6_placeOf.at 3 rfl) rfl ?_
      refine X_getI (tk_X6_placeOf.at 4 rfl) fl_x6_9 hR.1 rfl ?_
      refine X_icmp_geN (tgt := 28) (tk_X6_placeOf.at 5 rfl) (by decide) (pl i rfl) hn (by omega) (by omega) (fun c1 => (by exfalso; omega)) (fun c1 => ?_)
      refine X_aload_n (tk_X6_placeOf.at 6 rfl) rfl ?_
      refine X_getR (tk_X6_placeOf.at 7 rfl) fl_x6_21 hR.1 rfl rfl ?_
      refine X_iload_n (tk_X6_placeOf.at 8 rfl) rfl ?_
      refine X_ialdN (k := i) (tk_X6_placeOf.at 9 rfl) hR.2 (pz (pl i rfl) (by omega)) (by omega) (by omega) ?_
      refine X_iload_n (tk_X6_placeOf.at 10 rfl) rfl ?_
      refine X_icmp_ne (tgt := 22) (tk_X6_placeOf.at 11 rfl) (by decide) (fun c2 => ?_) (fun c2 => ?_)
      · refine X_iinc (lv' := [(0, _), (1, _), (2, _)]) (tk_X6_placeOf.at 14 rfl) rfl ci_1 (by decide) rfl rfl ?_
        refine X_goto (tgt := 2) (tk_X6_placeOf.at 15 rfl) (by decide) ?_
        rw [nI_1 i]
        exact ih (i + 1) (by omega) (fun j h => by
          by_cases e : j = i
          · rw [e]; exact c2
          · exact hj j (by omega))
      · refine X_iload_n (tk_X6_placeOf.at 12 rfl) rfl ?_
        refine X_ireturn (tk_X6_placeOf.at 13 rfl) rfl rfl ?_
        exact kt i (by omega) c2 hj
  refine X_iconst (tk_X6_placeOf.at 0 rfl) ci_0 ?_
  refine X_istore_n (lv' := [(0, _), (1, _), (2, _)]) (tk_X6_placeOf.at 1 rfl) (by decide) rfl rfl ?_
  exact loop n 0 (Nat.zero_add n) (fun j h => absurd h (Nat.not_lt_zero j))
