def bt (f : Nat → Int32) : Nat → Int32
  | 0 => 0
  | i + 1 => bt f i ||| (1 <<< (f i &&& 31))
set_option maxHeartbeats 1000000 in
theorem c6_change {G : Gl} {d : Nat} {S : Sh} {μ : Mu} {R n len : Nat} {x v : Int32} {K : Sh → Mu → Prop} (hR : RS S R len) (hn : μ R 1 = nI n) (hb : n ≤ len) (hl : len ≤ 60) (kt : ∀ j, j < n → x = nI j → K S (su μ (R + 1) j v)) (kf : ¬ In x n → K S μ) : X G mi_X6_change d 0 0 [(0, .ref R), (1, .int x), (2, .int v)] [] S μ (qv K) := by
  rcases in_or x (n := n) (by omega) with ⟨j, hj, ej⟩ | hx
  · refine X_iload_n (tk_X6_change.at 0 rfl) rfl ?_
    refine X_if_ltN (tgt := 19) (tk_X6_change.at 1 rfl) (by decide) ej (by omega) ?_
    refine X_iload_n (tk_X6_change.at 2 rfl) rfl ?_
    refine X_aload_n (tk_X6_change.at 3 rfl) rfl ?_
    refine X_getI (tk_X6_change.at 4 rfl) fl_x6_9 hR.1 rfl ?_
    refine X_icmp_geN (tgt := 19) (tk_X6_change.at 5 rfl) (by decide) ej hn (by omega) (by omega) (fun c2 => (by exfalso; omega)) (fun c2 => ?_)
    refine X_aload_n (tk_X6_change.at 6 rfl) rfl ?_
    refine X_getR (tk_X6_change.at 7 rfl) fl_x6_21 hR.1 rfl rfl ?_
    refine X_iload_n (tk_X6_change.at 8 rfl) rfl ?_
    refine X_iload_n (tk_X6_change.at 9 rfl) rfl ?_
    refine X_iastN (k := j) (tk_X6_change.at 10 rfl) hR.2 ej (by omega) (by omega) ?_
    refine X_return (tk_X6_change.at 11 rfl) rfl ?_
    exact kt j hj ej
  · refine X_iload_n (tk_X6_change.at 0 rfl) rfl ?_
    refine X_if_lt (tgt := 19) (tk_X6_change.at 1 rfl) (by decide) (fun c1 => ?_) (fun c1 => ?_)
    · refine X_return (tk_X6_change.at 11 rfl) rfl ?_
      exact kf (In_no (by omega) hx)
    · refine X_iload_n (tk_X6_change.at 2 rfl) rfl ?_
      refine X_aload_n (tk_X6_change.at 3 rfl) rfl ?_
      refine X_getI (tk_X6_change.at 4 rfl) fl_x6_9 hR.1 rfl ?_
      refine X_icmp_ge (tgt := 19) (tk_X6_change.at 5 rfl) (by decide) (fun c2 => ?_) (fun c2 => (by rw [hn] at c2; exfalso; rcases hx with hx | hx <;> contradiction))
      refine X_return (tk_X6_change.at 11 rfl) rfl ?_
      exact kf (In_no (by omega) hx)
set_option maxHeartbeats 1000000 in
theorem c6_exchange {G : Gl} {d : Nat} {S : Sh} {μ : Mu} {R n len : Nat} {x y : Int32} {i j : Nat} {K : Sh → Mu → Prop} (hR : RS S R len) (hn : μ R 1 = nI n) (hb : n ≤ len) (hl : len ≤ 60) (hx : x = nI i) (hy : y = nI j) (hi : i < n) (kt : j < n → K S (Mx μ (R + 1) (upd (upd (μ (R + 1)) i (μ (R + 1) j)) j (μ (R + 1) i)))) (kf : n ≤ j → K S μ) (hj30 : j < 2 ^ 30) : X G mi_X6_exchange d 0 0 [(0, .ref R), (1, .int x), (2, .int y)] [] S μ (qv K) := by
  refine X_iload_n (tk_X6_exchange.at 0 rfl) rfl ?_
  refine X_if_ltN (tgt := 50) (tk_X6_exchange.at 1 rfl) (by decide) hx (by omega) ?_
  refine X_iload_n (tk_X6_exchange.at 2 rfl) rfl ?_
  refine X_aload_n (tk_X6_exchange.at 3 rfl) rfl ?_
  refine X_getI (tk_X6_exchange.at 4 rfl) fl_x6_9 hR.1 rfl ?_
  refine X_icmp_geN (tgt := 50) (tk_X6_exchange.at 5 rfl) (by decide) hx hn (by omega) (by omega) (fun c2 => (by exfalso; omega)) (fun c2 => ?_)
  refine X_iload_n (tk_X6_exchange.at 6 rfl) rfl ?_
  refine X_if_ltN (tgt := 50) (tk_X6_exchange.at 7 rfl) (by decide) hy (by omega) ?_
  refine X_iload_n (tk_X6_exchange.at 8 rfl) rfl ?_
  refine X_aload_n (tk_X6_exchange.at 9 rfl) rfl ?_
  refine X_getI (tk_X6_exchange.at 10 rfl) fl_x6_9 hR.1 rfl ?_
  refine X_icmp_geN (tgt := 50) (tk_X6_exchange.at 11 rfl) (by decide) hy hn (by omega) (by omega) (fun c4 => ?_) (fun c4 => ?_)
  · refine X_return (tk_X6_exchange.at 30 rfl) rfl ?_
    exact kf (by omega)
  · refine X_aload_n (tk_X6_exchange.at 12 rfl) rfl ?_
    refine X_getR (tk_X6_exchange.at 13 rfl) fl_x6_21 hR.1 rfl rfl ?_
    refine X_iload_n (tk_X6_exchange.at 14 rfl) rfl ?_
    refine X_ialdN (k := i) (tk_X6_exchange.at 15 rfl) hR.2 hx (by omega) (by omega) ?_
    refine X_istore_n (lv' := [(0, _), (1, _), (2, _), (3, _)]) (tk_X6_exchange.at 16 rfl) (by decide) rfl rfl ?_
    refine X_aload_n (tk_X6_exchange.at 17 rfl) rfl ?_
    refine X_getR (tk_X6_exchange.at 18 rfl) fl_x6_21 hR.1 rfl rfl ?_
    refine X_iload_n (tk_X6_exchange.at 19 rfl) rfl ?_
    refine X_aload_n (tk_X6_exchange.at 20 rfl) rfl ?_
    refine X_getR (tk_X6_exchange.at 21 rfl) fl_x6_21 hR.1 rfl rfl ?_
    refine X_iload_n (tk_X6_exchange.at 22 rfl) rfl ?_
    refine X_ialdN (k := j) (tk_X6_exchange.at 23 rfl) hR.2 hy (by omega) (by omega) ?_
    refine X_iastN (k := i) (tk_X6_exchange.at 24 rfl) hR.2 hx (by omega) (by omega) ?_
    refine X_aload_n (tk_X6_exchange.at 25 rfl) rfl ?_
    refine X_getR (tk_X6_exchange.at 26 rfl) fl_x6_21 hR.1 rfl rfl ?_
    refine X_iload_n (tk_X6_exchange.at 27 rfl) rfl ?_
    refine X_iload_n (tk_X6_exchange.at 28 rfl) rfl ?_
    refine X_iastN (k := j) (tk_X6_exchange.at 29 rfl) hR.2 hy (by omega) (by omega) ?_
    refine X_return (tk_X6_exchange.at 30 rfl) rfl ?_
    simp only [su_eq, Mx_same, Mx_Mx]
    exact kt (by omega)
set_option maxHeartbeats 1000000 in
theorem c6_bits {G : Gl} {d : Nat} {S : Sh} {μ : Mu} {R n len : Nat} {K : Int32 → Sh → Mu → Prop} (hR : RS S R len) (hn : μ R 1 = nI n) (hb : n ≤ len) (hl : len ≤ 60) (hK : K (bt (μ (R + 1)) n) S μ) : X G mi_X6_bits d 0 0 [(0, .ref R)] [] S μ (qi K) := by
  have loop : ∀ (m i : Nat), i + m = n → X G mi_X6_bits d 0 4 [(0, .ref R), (1, .int (bt (μ (R + 1)) i)), (2, .int (nI i))] [] S μ (qi K) := by
    intro m
    induction m with
    | zero =>
      intro i hi
      have ei : i = n := by omega
      refine X_iload_n (tk_X6_bits.at 4 rfl) rfl ?_
      refine X_aload_n (tk_X6_bits.at 5 rfl) rfl ?_
      refine X_getI (tk_X6_bits.at 6 rfl) fl_x6_9 hR.1 rfl ?_
      refine X_icmp_geN (tgt := 29) (tk_X6_bits.at 7 rfl) (by decide) (pl i rfl) hn (by omega) (by omega) (fun c1 => ?_) (fun c1 => (by exfalso; omega))
      refine X_iload_n (tk_X6_bits.at 19 rfl) rfl ?_
      refine X_ireturn (tk_X6_bits.at 20 rfl) rfl rfl ?_
      rw [ei]
      exact hK
    | succ m ih =>
      intro i hi
      refine X_iload_n (tk_X6_bits.at 4 rfl) rfl ?_
      refine X_aload_n (tk_X6_bits.at 5 rfl) rfl ?_
      refine X_getI (tk_X6_bits.at 6 rfl) fl_x6_9 hR.1 rfl ?_
      refine X_icmp_geN (tgt := 29) (tk_X6_bits.at 7 rfl) (by decide) (pl i rfl) hn (by omega) (by omega) (fun c1 => (by exfalso; omega)) (fun c1 => ?_)
      refine X_iload_n (tk_X6_bits.at 8 rfl) rfl ?_
      refine X_iconst (tk_X6_bits.at 9 rfl) ci_1 ?_
      refine X_aload_n (tk_X6_bits.at 10 rfl) rfl ?_
      refine X_getR (tk_X6_bits.at 11 rfl) fl_x6_21 hR.1 rfl rfl ?_
      refine X_iload_n (tk_X6_bits.at 12 rfl) rfl ?_
      refine X_ialdN (k := i) (tk_X6_bits.at 13 rfl) hR.2 (pz (pl i rfl) (by omega)) (by omega) (by omega) ?_
      refine X_ishl (tk_X6_bits.at 14 rfl) ?_
      refine X_ior (tk_X6_bits.at 15 rfl) ?_
      refine X_istore_n (lv' := [(0, _), (1, _), (2, _)]) (tk_X6_bits.at 16 rfl) (by decide) rfl rfl ?_
      refine X_iinc (lv' := [(0, _), (1, _), (2, _)]) (tk_X6_bits.at 17 rfl) rfl ci_1 (by decide) rfl rfl ?_
      refine X_goto (tgt := 4) (tk_X6_bits.at 18 rfl) (by decide) ?_
      rw [nI_1 i]
      exact ih (i + 1) (by omega)
  refine X_iconst (tk_X6_bits.at 0 rfl) ci_0 ?_
  refine X_istore_n (lv' := [(0, _), (1, _)]) (tk_X6_bits.at 1 rfl) (by decide) rfl rfl ?_
  refine X_iconst (tk_X6_bits.at 2 rfl) ci_0 ?_
  refine X_istore_n (lv' := [(0, _), (1, _), (2, _)]) (tk_X6_bits.at 3 rfl) (by decide) rfl rfl ?_
  exact loop n 0 (Nat.zero_add n)
def rmv (f : Nat → Int32) (j i : Nat) : Nat → Int32 := fun k => if j ≤ k ∧ k < i then f (k + 1) else f k
theorem rmv_0 (f : Nat → Int32) (j : Nat) : rmv f j j = f := by funext k; exact if_neg (by omega)
theorem rmv_s (f : Nat → Int32) {j i : Nat} (h : j ≤ i) : upd (rmv f j i) i (f (1 + i)) = rmv f j (i + 1) := by
  funext k
  unfold upd rmv
  by_cases e : k = i
  · rw [if_pos e, if_pos (by omega), e, Nat.add_comm]
  · rw [if_neg e]
    by_cases c : j ≤ k ∧ k < i
    · rw [if_pos c, if_pos (by omega)]
    · rw [if_neg c, if_neg (by omega)]
set_option maxHeartbeats 1000000 in
theorem c6_removeAt {G : Gl} {d : Nat} {S : Sh} {μ : Mu} {R n len : Nat} {x : Int32} {K : Sh → Mu → Prop} (hR : RS S R len) (hn : μ R 1 = nI n) (hb : n ≤ len) (hl : len ≤ 60) (kt : ∀ j, j < n → x = nI j → K S (su (Mx μ (R + 1) (rmv (μ (R + 1)) j (n - 1))) R 1 (nI (n - 1)))) (kf : ¬ In x n → K S μ) : X G mi_X6_removeAt d 0 0 [(0, .ref R), (1, .int x)] [] S μ (qv K) := by
  rcases in_or x (n := n) (by omega) with ⟨j, hj, ej⟩ | hx
  · refine X_iload_n (tk_X6_removeAt.at 0 rfl) rfl ?_
    refine X_if_ltN (tgt := 12) (tk_X6_removeAt.at 1 rfl) (by decide) ej (by omega) ?_
    refine X_iload_n (tk_X6_removeAt.at 2 rfl) rfl ?_
    refine X_aload_n (tk_X6_removeAt.at 3 rfl) rfl ?_
    refine X_getI (tk_X6_removeAt.at 4 rfl) fl_x6_9 hR.1 rfl ?_
    refine X_icmp_ltN (tgt := 13) (tk_X6_removeAt.at 5 rfl) (by decide) ej hn (by omega) (by omega) (fun c2 => ?_) (fun c2 => (by exfalso; omega))
    refine X_iload_n (tk_X6_removeAt.at 7 rfl) rfl ?_
    refine X_istore_n (lv' := [(0, _), (1, _), (2, _)]) (tk_X6_removeAt.at 8 rfl) (by decide) rfl rfl ?_
    have loop : ∀ (m i : Nat), i + 1 + m = n → j ≤ i → X G mi_X6_removeAt d 0 15 [(0, .ref R), (1, .int x), (2, .int (nI i))] [] S (Mx μ (R + 1) (rmv (μ (R + 1)) j i)) (qv K) := by
      intro m
      induction m with
      | zero =>
        intro i hi hji
        refine X_iload_n (tk_X6_removeAt.at 9 rfl) rfl ?_
        refine X_iconst (tk_X6_removeAt.at 10 rfl) ci_1 ?_
        refine X_iadd (tk_X6_removeAt.at 11 rfl) ?_
        refine X_aload_n (tk_X6_removeAt.at 12 rfl) rfl ?_
        refine X_getI (tk_X6_removeAt.at 13 rfl) fl_x6_9 hR.1 rfl ?_
        refine X_icmp_geN (tgt := 45) (tk_X6_removeAt.at 14 rfl) (by decide) (pa (pl i rfl) (pl 1 rfl)) (show (Mx μ (R + 1) (rmv (μ (R + 1)) j i)) R 1 = nI n by rw [Mx_ne (by omega)]; exact hn) (by omega) (by omega) (fun c1 => ?_) (fun c1 => (by exfalso; omega))
        refine X_aload_n (tk_X6_removeAt.at 27 rfl) rfl ?_
        refine X_dup (tk_X6_removeAt.at 28 rfl) rfl ?_
        refine X_getI (tk_X6_removeAt.at 29 rfl) fl_x6_9 hR.1 rfl ?_
        refine X_iconst (tk_X6_removeAt.at 30 rfl) ci_1 ?_
        refine X_isub (tk_X6_removeAt.at 31 rfl) ?_
        refine X_putI (tk_X6_removeAt.at 32 rfl) fl_x6_9 hR.1 rfl rfl ⟨rfl, rfl⟩ ?_
        refine X_return (tk_X6_removeAt.at 33 rfl) rfl ?_
        rw [show (Mx μ (R + 1) (rmv (μ (R + 1)) j i)) R 1 = nI n from by rw [Mx_ne (by omega)]; exact hn, nI_m1 (by omega)]
        have z := kt j hj ej
        rw [show n - 1 = i by omega] at z ⊢
        exact z
      | succ m ih =>
        intro i hi hji
        refine X_iload_n (tk_X6_removeAt.at 9 rfl) rfl ?_
        refine X_iconst (tk_X6_removeAt.at 10 rfl) ci_1 ?_
        refine X_iadd (tk_X6_removeAt.at 11 rfl) ?_
        refine X_aload_n (tk_X6_removeAt.at 12 rfl) rfl ?_
        refine X_getI (tk_X6_removeAt.at 13 rfl) fl_x6_9 hR.1 rfl ?_
        refine X_icmp_geN (tgt := 45) (tk_X6_removeAt.at 14 rfl) (by decide) (pa (pl i rfl) (pl 1 rfl)) (show (Mx μ (R + 1) (rmv (μ (R + 1)) j i)) R 1 = nI n by rw [Mx_ne (by omega)]; exact hn) (by omega) (by omega) (fun c1 => (by exfalso; omega)) (fun c1 => ?_)
        refine X_aload_n (tk_X6_removeAt.at 15 rfl) rfl ?_
        refine X_getR (tk_X6_removeAt.at 16 rfl) fl_x6_21 hR.1 rfl rfl ?_
        refine X_iload_n (tk_X6_removeAt.at 17 rfl) rfl ?_
        refine X_aload_n (tk_X6_removeAt.at 18 rfl) rfl ?_
        refine X_getR (tk_X6_removeAt.at 19 rfl) fl_x6_21 hR.1 rfl rfl ?_
        refine X_iload_n (tk_X6_removeAt.at 20 rfl) rfl ?_
        refine X_iconst (tk_X6_removeAt.at 21 rfl) ci_1 ?_
        refine X_iadd (tk_X6_removeAt.at 22 rfl) ?_
        refine X_ialdN (k := 1 + i) (tk_X6_removeAt.at 23 rfl) hR.2 (pz (pa (pl i rfl) (pl 1 rfl)) (by omega)) (by omega) (by omega) ?_
        refine X_iastN (k := i) (tk_X6_removeAt.at 24 rfl) hR.2 (pz (pl i rfl) (by omega)) (by omega) (by omega) ?_
        refine X_iinc (lv' := [(0, _), (1, _), (2, _)]) (tk_X6_removeAt.at 25 rfl) rfl ci_1 (by decide) rfl rfl ?_
        refine X_goto (tgt := 15) (tk_X6_removeAt.at 26 rfl) (by decide) ?_
        rw [Mx_same, show rmv (μ (R + 1)) j i (1 + i) = μ (R + 1) (1 + i) from if_neg (by omega), su_Mx, rmv_s _ hji, nI_1 i]
        exact ih (i + 1) (by omega) (by omega)
    have z := loop (n - 1 - j) j (by omega) (Nat.le_refl j)
    rw [rmv_0, Mx_self, ← ej] at z
    exact z
  · refine X_iload_n (tk_X6_removeAt.at 0 rfl) rfl ?_
    refine X_if_lt (tgt := 12) (tk_X6_removeAt.at 1 rfl) (by decide) (fun c1 => ?_) (fun c1 => ?_)
    · refine X_return (tk_X6_removeAt.at 6 rfl) rfl ?_
      exact kf (In_no (by omega) hx)
    · refine X_iload_n (tk_X6_removeAt.at 2 rfl) rfl ?_
      refine X_aload_n (tk_X6_removeAt.at 3 rfl) rfl ?_
      refine X_getI (tk_X6_removeAt.at 4 rfl) fl_x6_9 hR.1 rfl ?_
      refine X_icmp_lt (tgt := 13) (tk_X6_removeAt.at 5 rfl) (by decide) (fun c2 => (by rw [hn] at c2; exfalso; rcases hx with hx | hx; exact absurd hx c1; exact absurd hx (Int32.not_le.mpr c2))) (fun c2 => ?_)
      refine X_return (tk_X6_removeAt.at 6 rfl) rfl ?_
      exact kf (In_no (by omega) hx)
