theorem io_0 : Cond.instantiable (cN 0) (fN 0) ∈ lw_gd := gd (wk 174 (by decide +kernel)) rfl
theorem in_0 : Cond.initialized (cN 0) ∈ lw_gd := gd (wk 8 (by decide +kernel)) rfl
theorem df_0 : ∀ j, j < fN 0 → defaultValue (cTy 0 j) = fV 0 (fun _ => none) (fun _ => 0) j := by decide
theorem io_1 : Cond.instantiable (cN 1) (fN 1) ∈ lw_gd := gd (wk 139 (by decide +kernel)) rfl
theorem in_1 : Cond.initialized (cN 1) ∈ lw_gd := gd (wk 6 (by decide +kernel)) rfl
theorem df_1 : ∀ j, j < fN 1 → defaultValue (cTy 1 j) = fV 1 (fun _ => none) (fun _ => 0) j := by decide
theorem io_2 : Cond.instantiable (cN 2) (fN 2) ∈ lw_gd := gd (wk 30 (by decide +kernel)) rfl
theorem in_2 : Cond.initialized (cN 2) ∈ lw_gd := gd (wk 2 (by decide +kernel)) rfl
theorem df_2 : ∀ j, j < fN 2 → defaultValue (cTy 2 j) = fV 2 (fun _ => none) (fun _ => 0) j := by decide
theorem io_3 : Cond.instantiable (cN 3) (fN 3) ∈ lw_gd := gd (wk 36 (by decide +kernel)) rfl
theorem in_3 : Cond.initialized (cN 3) ∈ lw_gd := gd (wk 3 (by decide +kernel)) rfl
theorem df_3 : ∀ j, j < fN 3 → defaultValue (cTy 3 j) = fV 3 (fun _ => none) (fun _ => 0) j := by decide
theorem io_4 : Cond.instantiable (cN 4) (fN 4) ∈ lw_gd := gd (wk 205 (by decide +kernel)) rfl
theorem in_4 : Cond.initialized (cN 4) ∈ lw_gd := gd (wk 9 (by decide +kernel)) rfl
theorem df_4 : ∀ j, j < fN 4 → defaultValue (cTy 4 j) = fV 4 (fun _ => none) (fun _ => 0) j := by decide
theorem io_5 : Cond.instantiable (cN 5) (fN 5) ∈ lw_gd := gd (wk 145 (by decide +kernel)) rfl
theorem in_5 : Cond.initialized (cN 5) ∈ lw_gd := gd (wk 7 (by decide +kernel)) rfl
theorem df_5 : ∀ j, j < fN 5 → defaultValue (cTy 5 j) = fV 5 (fun _ => none) (fun _ => 0) j := by decide
theorem io_6 : Cond.instantiable (cN 6) (fN 6) ∈ lw_gd := gd (wk 71 (by decide +kernel)) rfl
theorem in_6 : Cond.initialized (cN 6) ∈ lw_gd := gd (wk 5 (by decide +kernel)) rfl
theorem df_6 : ∀ j, j < fN 6 → defaultValue (cTy 6 j) = fV 6 (fun _ => none) (fun _ => 0) j := by decide
theorem io_7 : Cond.instantiable (cN 7) (fN 7) ∈ lw_gd := gd (wk 255 (by decide +kernel)) rfl
theorem in_7 : Cond.initialized (cN 7) ∈ lw_gd := gd (wk 11 (by decide +kernel)) rfl
theorem df_7 : ∀ j, j < fN 7 → defaultValue (cTy 7 j) = fV 7 (fun _ => none) (fun _ => 0) j := by decide
theorem io_8 : Cond.instantiable (cN 8) (fN 8) ∈ lw_gd := gd (wk 232 (by decide +kernel)) rfl
theorem in_8 : Cond.initialized (cN 8) ∈ lw_gd := gd (wk 10 (by decide +kernel)) rfl
theorem df_8 : ∀ j, j < fN 8 → defaultValue (cTy 8 j) = fV 8 (fun _ => none) (fun _ => 0) j := by decide
theorem io_9 : Cond.instantiable (cN 9) (fN 9) ∈ lw_gd := gd (wk 22 (by decide +kernel)) rfl
theorem in_9 : Cond.initialized (cN 9) ∈ lw_gd := gd (wk 1 (by decide +kernel)) rfl
theorem df_9 : ∀ j, j < fN 9 → defaultValue (cTy 9 j) = fV 9 (fun _ => none) (fun _ => 0) j := by decide
theorem io_10 : Cond.instantiable (cN 10) (fN 10) ∈ lw_gd := gd (wk 1014 (by decide +kernel)) rfl
theorem in_10 : Cond.initialized (cN 10) ∈ lw_gd := gd (wk 12 (by decide +kernel)) rfl
theorem df_10 : ∀ j, j < fN 10 → defaultValue (cTy 10 j) = fV 10 (fun _ => none) (fun _ => 0) j := by decide
theorem X_bd {G : Gl} {mi : MI} {d kc pc : Nat} {lv : List (Nat × Value)} {st : List Value} {S : Sh} {μ : Mu} {Q : Option Value → Sh → Mu → Prop} (h : (∀ a, S.1 ≤ a → S.2 a = none) → X G mi d kc pc lv st S μ Q) : X G mi d kc pc lv st S μ Q := by
  intro p l e R s m args below meth c mc Z C hZ H locs cells slots ls hR hk hl
  exact h hR.2.2.1 p l e R s m args below meth c mc Z C hZ H locs cells slots ls hR hk hl
/-- what lies below A stays; n cells more -/
def Nw (S S' : Sh) (μ μ' : Mu) (A n : Nat) : Prop := S'.1 = S.1 + n ∧ (∀ a, a < A → S'.2 a = S.2 a) ∧ ∀ a, a < A → μ' a = μ a
theorem mxz_nI {n : Nat} (h : n < 2 ^ 31) : (if (0 : Int32) < nI n then nI n else 0) = nI n := by
  by_cases c : (0 : Int32) < nI n
  · rw [if_pos c]
  · rw [if_neg c]
    rcases Nat.eq_zero_or_pos n with e | e
    · rw [e]; rfl
    · exfalso
      have z := Int32.not_lt.mp c
      have := (nI_leI (a := n) (b := 0) h (by decide)).mp z
      omega
theorem i6 {G : Gl} {d : Nat} {S : Sh} {μ : Mu} {R len : Nat} {x : Int32} {K : Sh → Mu → Prop} (hS : S.1 = R + 1) (hR : S.2 R = some (kO 6 (fun _ => none))) (hx : x = nI len) (hl : len ≤ 60) (hK : ∀ S' μ', Nw S S' μ μ' R 1 → RS S' R len → μ' R 1 = 0 → (∀ i, μ' (R + 1) i = 0) → K S' μ') : X G mi_X6_init (d + 1) 1 0 [(0, .ref R), (1, .int x)] [] S μ (qv K) := by
  subst hx
  refine X_aload_n (tk_X6_init.at 0 rfl) rfl ?_
  refine X_objInit (tk_X6_init.at 1 rfl) lk_x6_3 (Nat.le_of_ble_eq_true rfl) ?_
  refine X_aload_n (tk_X6_init.at 2 rfl) rfl ?_
  refine X_iconst (tk_X6_init.at 3 rfl) ci_0 ?_
  refine X_putI (tk_X6_init.at 4 rfl) fl_x6_9 hR rfl rfl ⟨rfl, rfl⟩ ?_
  refine X_aload_n (tk_X6_init.at 5 rfl) rfl ?_
  refine X_iconst (tk_X6_init.at 6 rfl) ci_0 ?_
  refine X_iload_n (tk_X6_init.at 7 rfl) rfl ?_
  refine X_max (tk_X6_init.at 8 rfl) lk_x6_15 (Nat.le_of_ble_eq_true rfl) ?_
  rw [mxz_nI (by omega)]
  refine X_newI (N := len) (tk_X6_init.at 9 rfl) (fun h => absurd (nI_pos' (n := len) (by omega)) (Int32.not_le.mpr h)) (nv_nI (by omega)) (by omega) ?_
  refine X_putRF (tk_X6_init.at 10 rfl) fl_x6_21 (show (Sx S (kI len)).2 R = some (kO 6 (fun _ => none)) from by unfold Sx; dsimp only; rw [if_neg (by omega)]; exact hR) rfl rfl rfl rfl ⟨rfl, rfl⟩ ?_
  refine X_return (tk_X6_init.at 11 rfl) rfl ?_
  refine hK _ _ ⟨rfl, fun a ha => ?_, fun a ha => ?_⟩ ⟨?_, ?_⟩ ?_ (fun i => ?_)
  · rw [Su_ne (by omega)]; unfold Sx; dsimp only; rw [if_neg (by omega)]
  · rw [Mx_ne (by omega), su_ne (by omega)]
  · rw [Su_at, show (va_up (fun _ => none) 0 (some S.1) : Nat → Option Nat) = rR R from funext (fun k => by rw [hS]; rcases k with _ | k <;> rfl)]
  · rw [Su_ne (by omega)]; unfold Sx; dsimp only; rw [if_pos (by omega)]
  · rw [Mx_ne (by omega), su_same]; exact upd_at _ _ _
  · rw [← hS, Mx_same]
theorem i3 {G : Gl} {d : Nat} {S : Sh} {μ : Mu} {F la ma m : Nat} {x : Int32} {K : Sh → Mu → Prop} (hS : S.1 = F + 1) (hF : S.2 F = some (kO 3 (fun _ => none))) (hla : la < F) (hma : ma < F) (h1 : S.2 la = some (kC 4)) (h2 : S.2 ma = some (kC 4)) (hx : x = nI m) (hl : m ≤ 15) (hK : ∀ S' μ', Nw S S' μ μ' F 1 → FS S' F la ma (4 * m) → μ' F 3 = 0 → (∀ i, μ' (F + 1) i = 0) → K S' μ') : X G mi_X3_init (d + 1) 1 0 [(0, .ref F), (1, .int x), (2, .ref la), (3, .ref ma)] [] S μ (qv K) := by
  subst hx
  refine X_aload_n (tk_X3_init.at 0 rfl) rfl ?_
  refine X_objInit (tk_X3_init.at 1 rfl) lk_x3_3 (Nat.le_of_ble_eq_true rfl) ?_
  refine X_aload_n (tk_X3_init.at 2 rfl) rfl ?_
  refine X_iconst (tk_X3_init.at 3 rfl) ci_0 ?_
  refine X_putI (tk_X3_init.at 4 rfl) fl_x3_9 hF rfl rfl ⟨rfl, rfl⟩ ?_
  refine X_aload_n (tk_X3_init.at 5 rfl) rfl ?_
  refine X_aload_n (tk_X3_init.at 6 rfl) rfl ?_
  refine X_putRF (tk_X3_init.at 7 rfl) fl_x3_15 hF rfl rfl rfl rfl ⟨rfl, rfl⟩ ?_
  refine X_aload_n (tk_X3_init.at 8 rfl) rfl ?_
  refine X_aload_n (tk_X3_init.at 9 rfl) rfl ?_
  refine X_putRF (tk_X3_init.at 10 rfl) fl_x3_19 Su_at rfl rfl rfl rfl ⟨rfl, rfl⟩ ?_
  refine X_aload_n (tk_X3_init.at 11 rfl) rfl ?_
  refine X_iconst (tk_X3_init.at 12 rfl) ci_0 ?_
  refine X_iload_n (tk_X3_init.at 13 rfl) rfl ?_
  refine X_max (tk_X3_init.at 14 rfl) lk_x3_22 (Nat.le_of_ble_eq_true rfl) ?_
  rw [mxz_nI (by omega)]
  refine X_iconst (tk_X3_init.at 15 rfl) ci_4 ?_
  refine X_imul (tk_X3_init.at 16 rfl) ?_
  rw [show nI m * 4 = nI (4 * m) from by rw [Nat.mul_comm]; exact pm (pl m rfl) (pl 4 rfl)]
  generalize eT : Su (Su S F _) F _ = T
  have tS : T.1 = F + 1 := by rw [← eT]; exact hS
  have tF : T.2 F = some (kO 3 (va_up (va_up (fun _ => none) 0 (some la)) 1 (some ma))) := by rw [← eT]; exact Su_at
  have tN : ∀ a, a ≠ F → T.2 a = S.2 a := fun a h => by rw [← eT, Su_ne h, Su_ne h]
  refine X_newI (N := 4 * m) (tk_X3_init.at 17 rfl) (fun h => absurd (nI_pos' (n := 4 * m) (by omega)) (Int32.not_le.mpr h)) (nv_nI (by omega)) (by omega) ?_
  refine X_putRF (tk_X3_init.at 18 rfl) fl_x3_28 (show (Sx T (kI (4 * m))).2 F = _ from by unfold Sx; dsimp only; rw [if_neg (by omega)]; exact tF) rfl rfl rfl rfl ⟨rfl, rfl⟩ ?_
  refine X_return (tk_X3_init.at 19 rfl) rfl ?_
  refine hK _ _ ⟨?_, fun a ha => ?_, fun a ha => ?_⟩ ⟨?_, ?_, ?_, ?_⟩ ?_ (fun i => ?_)
  · show T.1 + 1 = S.1 + 1; omega
  · rw [Su_ne (by omega)]; unfold Sx; dsimp only; rw [if_neg (by omega)]; exact tN a (by omega)
  · rw [Mx_ne (by omega), su_ne (by omega)]
  · rw [Su_at, show (va_up (va_up (va_up (fun _ => none) 0 (some la)) 1 (some ma)) 2 (some T.1) : Nat → Option Nat) = rF F la ma from funext (fun k => by rw [tS]; rcases k with _ | _ | _ | k <;> rfl)]
  · rw [Su_ne (by omega)]; unfold Sx; dsimp only; rw [if_pos (by omega)]
  · rw [Su_ne (by omega)]; unfold Sx; dsimp only; rw [if_neg (by omega), tN _ (by omega)]; exact h1
  · rw [Su_ne (by omega)]; unfold Sx; dsimp only; rw [if_neg (by omega), tN _ (by omega)]; exact h2
  · rw [Mx_ne (by omega), su_same]; exact upd_at _ _ _
  · rw [← tS, Mx_same]
