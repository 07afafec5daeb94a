section
variable {G : Gl} {mi : MI} {d kc pc p1 p2 p3 p4 : Nat} {lv : List (Nat × Value)} {rest : List Value} {S : Sh} {μ : Mu} {Q : Option Value → Sh → Mu → Prop}
theorem X_mk {ci idx A : Nat} (hd : Dc mi.2.1 pc (.new idx) 3 p1) (hci : ci < 11) (h1 : Cond.classLink mi.1.cls idx (cN ci) ∈ lw_gd) (h2 : Cond.instantiable (cN ci) (fN ci) ∈ lw_gd) (h3 : Cond.initialized (cN ci) ∈ lw_gd) (hdf : ∀ j, j < fN ci → defaultValue (cTy ci j) = fV ci (fun _ => none) (fun _ => 0) j) (hA : S.1 = A) (kk : ∀ T τ, T.1 = A + 1 → T.2 A = some (kO ci (fun _ => none)) → (∀ a, a < A → T.2 a = S.2 a) → (∀ a, a < A → τ a = μ a) → (∀ i, τ A i = 0) → X G mi d kc p1 lv (.ref A :: rest) T τ Q) : X G mi d (kc + 1) pc lv rest S μ Q := by
  subst hA
  refine X_newO hd hci h1 h2 h3 hdf (kk _ _ rfl (if_pos rfl) (fun a ha => ?_) (fun a ha => Mx_ne (by omega)) (fun i => by rw [Mx_same]))
  unfold Sx; dsimp only; rw [if_neg (by omega)]
theorem X_row {A len idx i2 : Nat} {x : Int32} (t1 : Dc mi.2.1 pc (.new idx) 3 p1) (t2 : Dc mi.2.1 p1 .dup 1 p2) (h1 : Cond.classLink mi.1.cls idx (cN 6) ∈ lw_gd) (tc : ∀ T τ st, X G mi (d + 2) (kc + 1) p3 lv (.int x :: st) T τ Q → X G mi (d + 2) (kc + 1) p2 lv st T τ Q) (t4 : Dc mi.2.1 p3 (.invokespecial i2) 3 p4) (hlk : Cond.methodLink mi.1.cls i2 mi_X6_init.1 ∈ lw_gd) (hr : ((Value.ref A :: rest).map fun v => v.category).sum ≤ 8) (hx : x = nI len) (hl : len ≤ 60) (hA : S.1 = A) (kk : ∀ S' μ', S'.1 = A + 2 → (∀ a, a < A → S'.2 a = S.2 a) → (∀ a, a < A → μ' a = μ a) → RS S' A len → μ' A 1 = 0 → (∀ i, μ' (A + 1) i = 0) → X G mi (d + 2) kc p4 lv (.ref A :: rest) S' μ' Q) : X G mi (d + 2) (kc + 2) pc lv rest S μ Q := by
  refine X_mk (kc := kc + 1) t1 (by decide) h1 io_6 in_6 df_6 hA (fun T τ e1 e2 e3 e4 e5 => ?_)
  refine X_dup t2 rfl ?_
  refine tc T τ _ ?_
  refine X_callI (As := [.int x]) (rest := .ref A :: rest) (Q' := qv (fun S' μ' => Nw T S' τ μ' A 1 ∧ RS S' A len ∧ μ' A 1 = 0 ∧ ∀ i, μ' (A + 1) i = 0)) (kd := 1) (n := kc) t4 mn_X6_init hlk np_X6_init rfl hr (Nat.le_of_ble_eq_true rfl) (Nat.add_comm kc 1) (i6 e1 e2 hx hl (fun S' μ' a b c e => ⟨a, b, c, e⟩)) (fun v S' μ' hq => ?_)
  obtain ⟨rfl, hN, q1, q2, q3⟩ := hq
  exact kk S' μ' (by rw [hN.1, e1]) (fun a ha => (hN.2.1 a ha).trans (e3 a ha)) (fun a ha => (hN.2.2 a ha).trans (e4 a ha)) q1 q2 q3
theorem X_fou {A m idx i2 la ma : Nat} {x : Int32} (t1 : Dc mi.2.1 pc (.new idx) 3 p1) (t2 : Dc mi.2.1 p1 .dup 1 p2) (h1 : Cond.classLink mi.1.cls idx (cN 3) ∈ lw_gd) (tc : ∀ T τ st, X G mi (d + 2) (kc + 1) p3 lv (.ref ma :: .ref la :: .int x :: st) T τ Q → X G mi (d + 2) (kc + 1) p2 lv st T τ Q) (t4 : Dc mi.2.1 p3 (.invokespecial i2) 3 p4) (hlk : Cond.methodLink mi.1.cls i2 mi_X3_init.1 ∈ lw_gd) (hr : ((Value.ref A :: rest).map fun v => v.category).sum ≤ 8) (hx : x = nI m) (hl : m ≤ 15) (hla : la < A) (hma : ma < A) (s1 : S.2 la = some (kC 4)) (s2 : S.2 ma = some (kC 4)) (hA : S.1 = A) (kk : ∀ S' μ', S'.1 = A + 2 → (∀ a, a < A → S'.2 a = S.2 a) → (∀ a, a < A → μ' a = μ a) → FS S' A la ma (4 * m) → μ' A 3 = 0 → (∀ i, μ' (A + 1) i = 0) → X G mi (d + 2) kc p4 lv (.ref A :: rest) S' μ' Q) : X G mi (d + 2) (kc + 2) pc lv rest S μ Q := by
  refine X_mk (kc := kc + 1) t1 (by decide) h1 io_3 in_3 df_3 hA (fun T τ e1 e2 e3 e4 e5 => ?_)
  refine X_dup t2 rfl ?_
  refine tc T τ _ ?_
  refine X_callI (As := [.int x, .ref la, .ref ma]) (rest := .ref A :: rest) (Q' := qv (fun S' μ' => Nw T S' τ μ' A 1 ∧ FS S' A la ma (4 * m) ∧ μ' A 3 = 0 ∧ ∀ i, μ' (A + 1) i = 0)) (kd := 1) (n := kc) t4 mn_X3_init hlk np_X3_init rfl hr (Nat.le_of_ble_eq_true rfl) (Nat.add_comm kc 1) (i3 e1 e2 hla hma (by rw [e3 _ hla]; exact s1) (by rw [e3 _ hma]; exact s2) hx hl (fun S' μ' a b c e => ⟨a, b, c, e⟩)) (fun v S' μ' hq => ?_)
  obtain ⟨rfl, hN, q1, q2, q3⟩ := hq
  exact kk S' μ' (by rw [hN.1, e1]) (fun a ha => (hN.2.1 a ha).trans (e3 a ha)) (fun a ha => (hN.2.2 a ha).trans (e4 a ha)) q1 q2 q3
end
