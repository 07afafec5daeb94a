/-- rows of four at F: bounds at la and ma, cells behind it -/
def rF (F la ma k : Nat) : Option Nat := match k with
  | 0 => some la
  | 1 => some ma
  | 2 => some (F + 1)
  | _ => none
def FS (S : Sh) (F la ma len : Nat) : Prop := S.2 F = some (kO 3 (rF F la ma)) ∧ S.2 (F + 1) = some (kI len) ∧ S.2 la = some (kC 4) ∧ S.2 ma = some (kC 4)
set_option maxHeartbeats 1000000 in
theorem c3_size {G : Gl} {d : Nat} {S : Sh} {μ : Mu} {F la ma n len : Nat} {K : Int32 → Sh → Mu → Prop} (hF3 : FS S F la ma len) (hn : μ F 3 = nI n) (hb : 4 * n ≤ len) (hl : len ≤ 60) (hK : K (nI n) S μ) : X G mi_X3_size d 0 0 [(0, .ref F)] [] S μ (qi K) := by
  refine X_aload_n (tk_X3_size.at 0 rfl) rfl ?_
  refine X_getI (tk_X3_size.at 1 rfl) fl_x3_9 hF3.1 rfl ?_
  refine X_ireturn (tk_X3_size.at 2 rfl) rfl rfl ?_
  rw [hn]
  exact hK
set_option maxHeartbeats 1000000 in
theorem c3_has {G : Gl} {d : Nat} {S : Sh} {μ : Mu} {F la ma n len : Nat} {x : Int32} {K : Int32 → Sh → Mu → Prop} (hF3 : FS S F la ma len) (hn : μ F 3 = nI n) (hb : 4 * n ≤ len) (hl : len ≤ 60) (kt : ∀ j, j < n → x = nI j → K 1 S μ) (kf : ¬ In x n → K 0 S μ) : X G mi_X3_has d 0 0 [(0, .ref F), (1, .int x)] [] S μ (qi K) := by
  rcases in_or x (n := n) (by omega) with ⟨j, hj, ej⟩ | hx
  · refine X_iload_n (tk_X3_has.at 0 rfl) rfl ?_
    refine X_if_ltN (tgt := 16) (tk_X3_has.at 1 rfl) (by decide) ej (by omega) ?_
    refine X_iload_n (tk_X3_has.at 2 rfl) rfl ?_
    refine X_aload_n (tk_X3_has.at 3 rfl) rfl ?_
    refine X_getI (tk_X3_has.at 4 rfl) fl_x3_9 hF3.1 rfl ?_
    refine X_icmp_geN (tgt := 16) (tk_X3_has.at 5 rfl) (by decide) ej hn (by omega) (by omega) (fun c2 => (by exfalso; omega)) (fun c2 => ?_)
    refine X_iconst (tk_X3_has.at 6 rfl) ci_1 ?_
    refine X_goto (tgt := 17) (tk_X3_has.at 7 rfl) (by decide) ?_
    refine X_ireturn (tk_X3_has.at 9 rfl) rfl rfl ?_
    exact kt j hj ej
  · refine X_iload_n (tk_X3_has.at 0 rfl) rfl ?_
    refine X_if_lt (tgt := 16) (tk_X3_has.at 1 rfl) (by decide) (fun c1 => ?_) (fun c1 => ?_)
    · refine X_iconst (tk_X3_has.at 8 rfl) ci_0 ?_
      refine X_ireturn (tk_X3_has.at 9 rfl) rfl rfl ?_
      exact kf (In_no (by omega) hx)
    · refine X_iload_n (tk_X3_has.at 2 rfl) rfl ?_
      refine X_aload_n (tk_X3_has.at 3 rfl) rfl ?_
      refine X_getI (tk_X3_has.at 4 rfl) fl_x3_9 hF3.1 rfl ?_
      refine X_icmp_ge (tgt := 16) (tk_X3_has.at 5 rfl) (by decide) (fun c2 => ?_) (fun c2 => (by rw [hn] at c2; exfalso; rcases hx with hx | hx <;> contradiction))
      refine X_iconst (tk_X3_has.at 8 rfl) ci_0 ?_
      refine X_ireturn (tk_X3_has.at 9 rfl) rfl rfl ?_
      exact kf (In_no (by omega) hx)
set_option maxHeartbeats 1000000 in
theorem c3_get {G : Gl} {d : Nat} {S : Sh} {μ : Mu} {F la ma n len : Nat} {x y : Int32} {r c : Nat} {K : Int32 → Sh → Mu → Prop} (hF3 : FS S F la ma len) (hn : μ F 3 = nI n) (hb : 4 * n ≤ len) (hl : len ≤ 60) (hx : x = nI r) (hr : r < n) (hy : y = nI c) (hc : c < 4) (hK : K (μ (F + 1) (4 * r + c)) S μ) : X G mi_X3_get d 0 0 [(0, .ref F), (1, .int x), (2, .int y)] [] S μ (qi K) := by
  refine X_iload_n (tk_X3_get.at 0 rfl) rfl ?_
  refine X_if_ltN (tgt := 21) (tk_X3_get.at 1 rfl) (by decide) hx (by omega) ?_
  refine X_iload_n (tk_X3_get.at 2 rfl) rfl ?_
  refine X_aload_n (tk_X3_get.at 3 rfl) rfl ?_
  refine X_getI (tk_X3_get.at 4 rfl) fl_x3_9 hF3.1 rfl ?_
  refine X_icmp_geN (tgt := 21) (tk_X3_get.at 5 rfl) (by decide) hx hn (by omega) (by omega) (fun c2 => (by exfalso; omega)) (fun c2 => ?_)
  refine X_iload_n (tk_X3_get.at 6 rfl) rfl ?_
  refine X_if_ltN (tgt := 21) (tk_X3_get.at 7 rfl) (by decide) hy (by omega) ?_
  refine X_iload_n (tk_X3_get.at 8 rfl) rfl ?_
  refine X_iconst (tk_X3_get.at 9 rfl) ci_4 ?_
  refine X_icmp_ltN (tgt := 23) (tk_X3_get.at 10 rfl) (by decide) hy (pl 4 rfl) (by omega) (by omega) (fun c4 => ?_) (fun c4 => (by exfalso; omega))
  refine X_aload_n (tk_X3_get.at 13 rfl) rfl ?_
  refine X_getR (tk_X3_get.at 14 rfl) fl_x3_28 hF3.1 rfl rfl ?_
  refine X_iload_n (tk_X3_get.at 15 rfl) rfl ?_
  refine X_iconst (tk_X3_get.at 16 rfl) ci_4 ?_
  refine X_imul (tk_X3_get.at 17 rfl) ?_
  refine X_iload_n (tk_X3_get.at 18 rfl) rfl ?_
  refine X_iadd (tk_X3_get.at 19 rfl) ?_
  refine X_ialdN (k := 4 * r + c) (tk_X3_get.at 20 rfl) hF3.2.1 (pz (pa (pm hx (pl 4 rfl)) hy) (by omega)) (by omega) (by omega) ?_
  refine X_ireturn (tk_X3_get.at 21 rfl) rfl rfl ?_
  exact hK
set_option maxHeartbeats 1000000 in
theorem c3_isFull {G : Gl} {d : Nat} {S : Sh} {μ : Mu} {F la ma n len : Nat} {K : Int32 → Sh → Mu → Prop} (hF3 : FS S F la ma len) (hn : μ F 3 = nI n) (hb : 4 * n ≤ len) (hl : len ≤ 60) (kt : len < 4 * (n + 1) → K 1 S μ) (kf : 4 * (n + 1) ≤ len → K 0 S μ) : X G mi_X3_isFull d 0 0 [(0, .ref F)] [] S μ (qi K) := by
  refine X_aload_n (tk_X3_isFull.at 0 rfl) rfl ?_
  refine X_getI (tk_X3_isFull.at 1 rfl) fl_x3_9 hF3.1 rfl ?_
  refine X_iconst (tk_X3_isFull.at 2 rfl) ci_1 ?_
  refine X_iadd (tk_X3_isFull.at 3 rfl) ?_
  refine X_iconst (tk_X3_isFull.at 4 rfl) ci_4 ?_
  refine X_imul (tk_X3_isFull.at 5 rfl) ?_
  refine X_aload_n (tk_X3_isFull.at 6 rfl) rfl ?_
  refine X_getR (tk_X3_isFull.at 7 rfl) fl_x3_28 hF3.1 rfl rfl ?_
  refine X_alen (tk_X3_isFull.at 8 rfl) hF3.2.1 ?_
  refine X_icmp_leN (tgt := 20) (tk_X3_isFull.at 9 rfl) (by decide) (pm (pa hn (pl 1 rfl)) (pl 4 rfl)) rfl (by omega) (by omega) (fun c1 => ?_) (fun c1 => ?_)
  · refine X_iconst (tk_X3_isFull.at 12 rfl) ci_0 ?_
    refine X_ireturn (tk_X3_isFull.at 13 rfl) rfl rfl ?_
    exact kf (by omega)
  · refine X_iconst (tk_X3_isFull.at 10 rfl) ci_1 ?_
    refine X_goto (tgt := 21) (tk_X3_isFull.at 11 rfl) (by decide) ?_
    refine X_ireturn (tk_X3_isFull.at 13 rfl) rfl rfl ?_
    exact kt (by omega)
