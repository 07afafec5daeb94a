section
variable {G : Gl} {mi mj : MI} {d kc pc p1 p2 p3 p4 : Nat} {lv : List (Nat × Value)} {rest : List Value} {S : Sh} {μ : Mu} {Q : Option Value → Sh → Mu → Prop}
theorem X_arr {A N : Nat} {n : Int32} (hd : Dc mi.2.1 pc (.newarray .int) 2 p1) (hx : n = nI N) (hN4 : N ≤ 400) (hA : S.1 = A) (kk : ∀ T τ, T.1 = A + 1 → T.2 A = some (kI N) → (∀ a, a < A → T.2 a = S.2 a) → (∀ a, a < A → τ a = μ a) → (∀ i, τ A i = 0) → X G mi d kc p1 lv (.ref A :: rest) T τ Q) : X G mi d (kc + 1) pc lv (.int n :: rest) S μ Q := by
  subst hA hx
  refine X_newI hd (fun h => absurd (nI_pos' (n := N) (by omega)) (Int32.not_le.mpr h)) (nv_nI (by omega)) hN4 (kk _ _ rfl (if_pos rfl) (fun a ha => ?_) (fun a ha => Mx_ne (by omega)) (fun i => by rw [Mx_same]))
  unfold Sx; dsimp only; rw [if_neg (by omega)]
theorem X_sub {ci A n idx i2 : Nat} {F : Sh → Mu → Prop} (t1 : Dc mi.2.1 pc (.new idx) 3 p1) (t2 : Dc mi.2.1 p1 .dup 1 p2) (hci : ci < 11) (h1 : Cond.classLink mi.1.cls idx (cN ci) ∈ lw_gd) (h2 : Cond.instantiable (cN ci) (fN ci) ∈ lw_gd) (h3 : Cond.initialized (cN ci) ∈ lw_gd) (hdf : ∀ j, j < fN ci → defaultValue (cTy ci j) = fV ci (fun _ => none) (fun _ => 0) j) (t4 : Dc mi.2.1 p2 (.invokespecial i2) 3 p4) (hm : MokI mj) (hlk : Cond.methodLink mi.1.cls i2 mj.1 ∈ lw_gd) (hn : nPar mj.1 0) (hr : ((Value.ref A :: rest).map fun v => v.category).sum ≤ 8) (hlen : (lg_sl [Value.ref A]).length ≤ mj.2.2.1) (hA : S.1 = A) (init : ∀ T τ, T.1 = A + 1 → T.2 A = some (kO ci (fun _ => none)) → (∀ a, a < A → T.2 a = S.2 a) → (∀ a, a < A → τ a = μ a) → X G mj d n 0 [(0, .ref A)] [] T τ (qv (fun S' μ' => Nw T S' τ μ' A n ∧ F S' μ'))) (kk : ∀ S' μ', S'.1 = A + 1 + n → (∀ a, a < A → S'.2 a = S.2 a) → (∀ a, a < A → μ' a = μ a) → F S' μ' → X G mi (d + 1) kc p4 lv (.ref A :: rest) S' μ' Q) : X G mi (d + 1) (n + kc + 1) pc lv rest S μ Q := by
  refine X_mk (kc := n + kc) t1 hci h1 h2 h3 hdf hA (fun T τ e1 e2 e3 e4 e5 => ?_)
  refine X_dup t2 rfl ?_
  refine X_callI (As := []) (rest := .ref A :: rest) (Q' := qv (fun S' μ' => Nw T S' τ μ' A n ∧ F S' μ')) (kd := n) (n := kc) t4 hm hlk hn rfl hr hlen rfl (init T τ e1 e2 e3 e4) (fun v S' μ' hq => ?_)
  obtain ⟨rfl, hN, q⟩ := hq
  exact kk S' μ' (by rw [hN.1, e1]) (fun a ha => (hN.2.1 a ha).trans (e3 a ha)) (fun a ha => (hN.2.2 a ha).trans (e4 a ha)) q
end
set_option maxHeartbeats 2000000 in
theorem i5 {G : Gl} {d : Nat} {S : Sh} {μ : Mu} {D : Nat} {K : Sh → Mu → Prop} (hS : S.1 = D + 1) (hD : S.2 D = some (kO 5 (fun _ => none))) (hK : ∀ S' μ', Nw S S' μ μ' D 2 → ES S' D → K S' μ') : X G mi_X5_init (d + 1) 2 0 [(0, .ref D)] [] S μ (qv K) := by
  have n_0 := hS
  have d_0 := hD
  have b_0 : ∀ a, a < D → S.2 a = S.2 a := fun _ _ => rfl
  have m_0 : ∀ a, a < D → μ a = μ a := fun _ _ => rfl
  refine X_aload_n (tk_X5_init.at 0 rfl) rfl ?_
  refine X_objInit (tk_X5_init.at 1 rfl) lk_x5_3 (Nat.le_of_ble_eq_true rfl) ?_
  refine X_aload_n (tk_X5_init.at 2 rfl) rfl ?_
  refine X_iconst (tk_X5_init.at 3 rfl) ci_5 ?_
  refine X_arr (A := D + 1) (N := 5) (tk_X5_init.at 4 rfl) (pl 5 rfl) (by decide) n_0 (fun U μ1 n1 q0 f1 g1 v0 => ?_)
  refine X_putRF (tk_X5_init.at 5 rfl) fl_x5_9 (show U.2 D = some (kO 5 (fun _ => none)) from (f1 D (by omega)).trans d_0) rfl rfl rfl rfl ⟨rfl, rfl⟩ ?_
  generalize eT : Su U D (kO 5 (va_up (fun _ => none) 0 (some (D + 1)))) = S1
  have n_1 : S1.1 = D + 2 := by rw [← eT]; show U.1 = _; omega
  have d_1 : S1.2 D = some (kO 5 (va_up (fun _ => none) 0 (some (D + 1)))) := by rw [← eT]; exact Su_at
  have f_1 : ∀ a, D < a → a < D + 1 → S1.2 a = S.2 a := fun a h1 h2 => by rw [← eT, Su_ne (by omega)]; exact f1 a h2
  have b_1 : ∀ a, a < D → S1.2 a = S.2 a := fun a h => by rw [← eT, Su_ne (by omega)]; exact (f1 a (by omega)).trans (b_0 a h)
  have g_1 : ∀ a, a < D + 1 → a ≠ D → μ1 a = μ a := fun a h _ => g1 a h
  have gD_1 : μ1 D = μ D := g1 D (by omega)
  have m_1 : ∀ a, a < D → μ1 a = μ a := fun a h => (g1 a (by omega)).trans (m_0 a h)
  have u_1 : ∀ a, a ≠ D → S1.2 a = U.2 a := fun a h => by rw [← eT]; exact Su_ne h
  have q_0 : S1.2 (D + 1) = some (kI 5) := (u_1 _ (by omega)).trans q0
  have w_0 : ∀ i, μ1 (D + 1) i = 0 := v0
  clear q0 v0
  clear eT f1 n1 g1
  refine X_aload_n (tk_X5_init.at 6 rfl) rfl ?_
  refine X_bipush (tk_X5_init.at 7 rfl) cb_50 ?_
  refine X_arr (A := D + 2) (N := 50) (tk_X5_init.at 8 rfl) (pl 50 rfl) (by decide) n_1 (fun U μ2 n1 q0 f1 g1 v0 => ?_)
  refine X_putRF (tk_X5_init.at 9 rfl) fl_x5_15 (show U.2 D = some (kO 5 (va_up (fun _ => none) 0 (some (D + 1)))) from (f1 D (by omega)).trans d_1) rfl rfl rfl rfl ⟨rfl, rfl⟩ ?_
  generalize eT : Su U D (kO 5 (va_up (va_up (fun _ => none) 0 (some (D + 1))) 1 (some (D + 2)))) = S2
  have n_2 : S2.1 = D + 3 := by rw [← eT]; show U.1 = _; omega
  have d_2 : S2.2 D = some (kO 5 (va_up (va_up (fun _ => none) 0 (some (D + 1))) 1 (some (D + 2)))) := by rw [← eT]; exact Su_at
  have f_2 : ∀ a, D < a → a < D + 2 → S2.2 a = S1.2 a := fun a h1 h2 => by rw [← eT, Su_ne (by omega)]; exact f1 a h2
  have b_2 : ∀ a, a < D → S2.2 a = S.2 a := fun a h => by rw [← eT, Su_ne (by omega)]; exact (f1 a (by omega)).trans (b_1 a h)
  have g_2 : ∀ a, a < D + 2 → a ≠ D → μ2 a = μ1 a := fun a h _ => g1 a h
  have gD_2 : μ2 D = μ1 D := g1 D (by omega)
  have m_2 : ∀ a, a < D → μ2 a = μ a := fun a h => (g1 a (by omega)).trans (m_1 a h)
  have u_2 : ∀ a, a ≠ D → S2.2 a = U.2 a := fun a h => by rw [← eT]; exact Su_ne h
  have q_1 : S2.2 (D + 2) = some (kI 50) := (u_2 _ (by omega)).trans q0
  have w_1 : ∀ i, μ2 (D + 2) i = 0 := v0
  clear q0 v0
  clear eT f1 n1 g1
  refine X_return (tk_X5_init.at 10 rfl) rfl ?_
  have F_2 : ∀ a, D < a → a < D + 3 → S2.2 a = S2.2 a := fun _ _ _ => rfl
  have E_2 : ∀ a, D < a → a < D + 3 → μ2 a = μ2 a := fun _ _ _ => rfl
  have F_1 : ∀ a, D < a → a < D + 2 → S2.2 a = S1.2 a := fun a h1 h2 => (F_2 a h1 (by omega)).trans (f_2 a h1 h2)
  have E_1 : ∀ a, D < a → a < D + 2 → μ2 a = μ1 a := fun a h1 h2 => (E_2 a h1 (by omega)).trans (g_2 a h2 (by omega))
  have er : (va_up (va_up (fun _ => none) 0 (some (D + 1))) 1 (some (D + 2))) = rE D := funext (fun k => by rcases k with _ | _ | k <;> rfl)
  exact hK _ _ ⟨by omega, b_2, m_2⟩ ⟨by rw [d_2, er], (F_1 _ (by omega) (by omega)).trans q_0, (F_2 _ (by omega) (by omega)).trans q_1⟩
set_option maxHeartbeats 2000000 in
theorem i7 {G : Gl} {d : Nat} {S : Sh} {μ : Mu} {D : Nat} {K : Sh → Mu → Prop} (hS : S.1 = D + 1) (hD : S.2 D = some (kO 7 (fun _ => none))) (hK : ∀ S' μ', Nw S S' μ μ' D 1 → HS S' D → μ' D 1 = 0 → μ' D 2 = 0 → (∀ i, μ' (D + 1) i = 0) → K S' μ') : X G mi_X7_init (d + 1) 1 0 [(0, .ref D)] [] S μ (qv K) := by
  have n_0 := hS
  have d_0 := hD
  have b_0 : ∀ a, a < D → S.2 a = S.2 a := fun _ _ => rfl
  have m_0 : ∀ a, a < D → μ a = μ a := fun _ _ => rfl
  refine X_aload_n (tk_X7_init.at 0 rfl) rfl ?_
  refine X_objInit (tk_X7_init.at 1 rfl) lk_x7_3 (Nat.le_of_ble_eq_true rfl) ?_
  refine X_aload_n (tk_X7_init.at 2 rfl) rfl ?_
  refine X_bipush (tk_X7_init.at 3 rfl) cb_40 ?_
  refine X_arr (A := D + 1) (N := 40) (tk_X7_init.at 4 rfl) (pl 40 rfl) (by decide) n_0 (fun U μ1 n1 q0 f1 g1 v0 => ?_)
  refine X_putRF (tk_X7_init.at 5 rfl) fl_x7_9 (show U.2 D = some (kO 7 (fun _ => none)) from (f1 D (by omega)).trans d_0) rfl rfl rfl rfl ⟨rfl, rfl⟩ ?_
  generalize eT : Su U D (kO 7 (va_up (fun _ => none) 0 (some (D + 1)))) = S1
  have n_1 : S1.1 = D + 2 := by rw [← eT]; show U.1 = _; omega
  have d_1 : S1.2 D = some (kO 7 (va_up (fun _ => none) 0 (some (D + 1)))) := by rw [← eT]; exact Su_at
  have f_1 : ∀ a, D < a → a < D + 1 → S1.2 a = S.2 a := fun a h1 h2 => by rw [← eT, Su_ne (by omega)]; exact f1 a h2
  have b_1 : ∀ a, a < D → S1.2 a = S.2 a := fun a h => by rw [← eT, Su_ne (by omega)]; exact (f1 a (by omega)).trans (b_0 a h)
  have g_1 : ∀ a, a < D + 1 → a ≠ D → μ1 a = μ a := fun a h _ => g1 a h
  have gD_1 : μ1 D = μ D := g1 D (by omega)
  have m_1 : ∀ a, a < D → μ1 a = μ a := fun a h => (g1 a (by omega)).trans (m_0 a h)
  have u_1 : ∀ a, a ≠ D → S1.2 a = U.2 a := fun a h => by rw [← eT]; exact Su_ne h
  have q_0 : S1.2 (D + 1) = some (kI 40) := (u_1 _ (by omega)).trans q0
  have w_0 : ∀ i, μ1 (D + 1) i = 0 := v0
  clear q0 v0
  clear eT f1 n1 g1
  refine X_aload_n (tk_X7_init.at 6 rfl) rfl ?_
  refine X_iconst (tk_X7_init.at 7 rfl) ci_0 ?_
  refine X_putI (tk_X7_init.at 8 rfl) fl_x7_15 d_1 rfl rfl ⟨rfl, rfl⟩ ?_
  generalize eT : su μ1 D 1 0 = μ2
  have g_2 : ∀ a, a < D + 2 → a ≠ D → μ2 a = μ1 a := fun a _ h => by rw [← eT]; exact su_ne h
  have gk_2 : ∀ k, k ≠ 1 → μ2 D k = μ1 D k := fun k h => by rw [← eT, su_same]; exact upd_ne _ _ h
  have z_1 : μ2 D 1 = 0 := by rw [← eT, su_same, upd_at]
  have m_2 : ∀ a, a < D → μ2 a = μ a := fun a h => (g_2 a (by omega) (by omega)).trans (m_1 a h)
  clear eT
  obtain ⟨S2, eS2⟩ : ∃ T, S1 = T := ⟨_, rfl⟩
  have n_2 : S2.1 = D + 2 := eS2 ▸ n_1
  have d_2 : S2.2 D = some (kO 7 (va_up (fun _ => none) 0 (some (D + 1)))) := eS2 ▸ d_1
  have f_2 : ∀ a, D < a → a < D + 2 → S2.2 a = S1.2 a := fun a _ _ => by rw [eS2]
  have b_2 : ∀ a, a < D → S2.2 a = S.2 a := eS2 ▸ b_1
  rw [eS2]
  refine X_aload_n (tk_X7_init.at 9 rfl) rfl ?_
  refine X_iconst (tk_X7_init.at 10 rfl) ci_0 ?_
  refine X_putI (tk_X7_init.at 11 rfl) fl_x7_19 d_2 rfl rfl ⟨rfl, rfl⟩ ?_
  generalize eT : su μ2 D 2 0 = μ3
  have g_3 : ∀ a, a < D + 2 → a ≠ D → μ3 a = μ2 a := fun a _ h => by rw [← eT]; exact su_ne h
  have gk_3 : ∀ k, k ≠ 2 → μ3 D k = μ2 D k := fun k h => by rw [← eT, su_same]; exact upd_ne _ _ h
  have z_2 : μ3 D 2 = 0 := by rw [← eT, su_same, upd_at]
  have m_3 : ∀ a, a < D → μ3 a = μ a := fun a h => (g_3 a (by omega) (by omega)).trans (m_2 a h)
  clear eT
  obtain ⟨S3, eS3⟩ : ∃ T, S2 = T := ⟨_, rfl⟩
  have n_3 : S3.1 = D + 2 := eS3 ▸ n_2
  have d_3 : S3.2 D = some (kO 7 (va_up (fun _ => none) 0 (some (D + 1)))) := eS3 ▸ d_2
  have f_3 : ∀ a, D < a → a < D + 2 → S3.2 a = S2.2 a := fun a _ _ => by rw [eS3]
  have b_3 : ∀ a, a < D → S3.2 a = S.2 a := eS3 ▸ b_2
  rw [eS3]
  refine X_return (tk_X7_init.at 12 rfl) rfl ?_
  have F_3 : ∀ a, D < a → a < D + 2 → S3.2 a = S3.2 a := fun _ _ _ => rfl
  have E_3 : ∀ a, D < a → a < D + 2 → μ3 a = μ3 a := fun _ _ _ => rfl
  have F_2 : ∀ a, D < a → a < D + 2 → S3.2 a = S2.2 a := fun a h1 h2 => (F_3 a h1 (by omega)).trans (f_3 a h1 h2)
  have E_2 : ∀ a, D < a → a < D + 2 → μ3 a = μ2 a := fun a h1 h2 => (E_3 a h1 (by omega)).trans (g_3 a h2 (by omega))
  have F_1 : ∀ a, D < a → a < D + 2 → S3.2 a = S1.2 a := fun a h1 h2 => (F_2 a h1 (by omega)).trans (f_2 a h1 h2)
  have E_1 : ∀ a, D < a → a < D + 2 → μ3 a = μ1 a := fun a h1 h2 => (E_2 a h1 (by omega)).trans (g_2 a h2 (by omega))
  have er : (va_up (fun _ => none) 0 (some (D + 1))) = rH D := funext (fun k => by rcases k with _ | k <;> rfl)
  exact hK _ _ ⟨by omega, b_3, m_3⟩ ⟨by rw [d_3, er], (F_1 _ (by omega) (by omega)).trans q_0⟩ (by rw [gk_3 1 (by decide)]; exact z_1) z_2 (fun i => by rw [E_1 _ (by omega) (by omega)]; exact w_0 i)
set_option maxHeartbeats 2000000 in
theorem i8 {G : Gl} {d : Nat} {S : Sh} {μ : Mu} {D : Nat} {K : Sh → Mu → Prop} (hS : S.1 = D + 1) (hD : S.2 D = some (kO 8 (fun _ => none))) (hK : ∀ S' μ', Nw S S' μ μ' D 2 → VS S' D → μ' (D + 1) 1 = 0 → K S' μ') : X G mi_X8_init (d + 2) 2 0 [(0, .ref D)] [] S μ (qv K) := by
  have n_0 := hS
  have d_0 := hD
  have b_0 : ∀ a, a < D → S.2 a = S.2 a := fun _ _ => rfl
  have m_0 : ∀ a, a < D → μ a = μ a := fun _ _ => rfl
  refine X_aload_n (tk_X8_init.at 0 rfl) rfl ?_
  refine X_objInit (tk_X8_init.at 1 rfl) lk_x8_3 (Nat.le_of_ble_eq_true rfl) ?_
  refine X_aload_n (tk_X8_init.at 2 rfl) rfl ?_
  refine X_row (A := D + 1) (len := 40) (tk_X8_init.at 3 rfl) (tk_X8_init.at 4 rfl) cl_x8_9 (fun T τ st h => X_bipush (tk_X8_init.at 5 rfl) cb_40 h) (tk_X8_init.at 6 rfl) lk_x8_11 (Nat.le_of_ble_eq_true rfl) (pl 40 rfl) (by decide) n_0 (fun U μ1 n1 f1 g1 q0 w0 v0 => ?_)
  refine X_putRF (tk_X8_init.at 7 rfl) fl_x8_14 (show U.2 D = some (kO 8 (fun _ => none)) from (f1 D (by omega)).trans d_0) rfl rfl rfl rfl ⟨rfl, rfl⟩ ?_
  generalize eT : Su U D (kO 8 (va_up (fun _ => none) 0 (some (D + 1)))) = S1
  have n_1 : S1.1 = D + 3 := by rw [← eT]; show U.1 = _; omega
  have d_1 : S1.2 D = some (kO 8 (va_up (fun _ => none) 0 (some (D + 1)))) := by rw [← eT]; exact Su_at
  have f_1 : ∀ a, D < a → a < D + 1 → S1.2 a = S.2 a := fun a h1 h2 => by rw [← eT, Su_ne (by omega)]; exact f1 a h2
  have b_1 : ∀ a, a < D → S1.2 a = S.2 a := fun a h => by rw [← eT, Su_ne (by omega)]; exact (f1 a (by omega)).trans (b_0 a h)
  have g_1 : ∀ a, a < D + 1 → a ≠ D → μ1 a = μ a := fun a h _ => g1 a h
  have gD_1 : μ1 D = μ D := g1 D (by omega)
  have m_1 : ∀ a, a < D → μ1 a = μ a := fun a h => (g1 a (by omega)).trans (m_0 a h)
  have u_1 : ∀ a, a ≠ D → S1.2 a = U.2 a := fun a h => by rw [← eT]; exact Su_ne h
  have q_0 : RS S1 (D + 1) 40 := q0.fr (u_1 _ (by omega)) (u_1 _ (by omega))
  have w_0 : μ1 (D + 1) 1 = 0 := w0
  clear q0 w0 v0
  clear eT f1 n1 g1
  refine X_aload_n (tk_X8_init.at 8 rfl) rfl ?_
  refine X_iconst (tk_X8_init.at 9 rfl) ci_0 ?_
  refine X_putI (tk_X8_init.at 10 rfl) fl_x8_20 d_1 rfl rfl ⟨rfl, rfl⟩ ?_
  generalize eT : su μ1 D 1 0 = μ2
  have g_2 : ∀ a, a < D + 3 → a ≠ D → μ2 a = μ1 a := fun a _ h => by rw [← eT]; exact su_ne h
  have gk_2 : ∀ k, k ≠ 1 → μ2 D k = μ1 D k := fun k h => by rw [← eT, su_same]; exact upd_ne _ _ h
  have z_1 : μ2 D 1 = 0 := by rw [← eT, su_same, upd_at]
  have m_2 : ∀ a, a < D → μ2 a = μ a := fun a h => (g_2 a (by omega) (by omega)).trans (m_1 a h)
  clear eT
  obtain ⟨S2, eS2⟩ : ∃ T, S1 = T := ⟨_, rfl⟩
  have n_2 : S2.1 = D + 3 := eS2 ▸ n_1
  have d_2 : S2.2 D = some (kO 8 (va_up (fun _ => none) 0 (some (D + 1)))) := eS2 ▸ d_1
  have f_2 : ∀ a, D < a → a < D + 3 → S2.2 a = S1.2 a := fun a _ _ => by rw [eS2]
  have b_2 : ∀ a, a < D → S2.2 a = S.2 a := eS2 ▸ b_1
  rw [eS2]
  refine X_aload_n (tk_X8_init.at 11 rfl) rfl ?_
  refine X_iconst (tk_X8_init.at 12 rfl) ci_0 ?_
  refine X_putI (tk_X8_init.at 13 rfl) fl_x8_24 d_2 rfl rfl ⟨rfl, rfl⟩ ?_
  generalize eT : su μ2 D 2 0 = μ3
  have g_3 : ∀ a, a < D + 3 → a ≠ D → μ3 a = μ2 a := fun a _ h => by rw [← eT]; exact su_ne h
  have gk_3 : ∀ k, k ≠ 2 → μ3 D k = μ2 D k := fun k h => by rw [← eT, su_same]; exact upd_ne _ _ h
  have z_2 : μ3 D 2 = 0 := by rw [← eT, su_same, upd_at]
  have m_3 : ∀ a, a < D → μ3 a = μ a := fun a h => (g_3 a (by omega) (by omega)).trans (m_2 a h)
  clear eT
  obtain ⟨S3, eS3⟩ : ∃ T, S2 = T := ⟨_, rfl⟩
  have n_3 : S3.1 = D + 3 := eS3 ▸ n_2
  have d_3 : S3.2 D = some (kO 8 (va_up (fun _ => none) 0 (some (D + 1)))) := eS3 ▸ d_2
  have f_3 : ∀ a, D < a → a < D + 3 → S3.2 a = S2.2 a := fun a _ _ => by rw [eS3]
  have b_3 : ∀ a, a < D → S3.2 a = S.2 a := eS3 ▸ b_2
  rw [eS3]
  refine X_aload_n (tk_X8_init.at 14 rfl) rfl ?_
  refine X_iconst (tk_X8_init.at 15 rfl) ci_0 ?_
  refine X_putI (tk_X8_init.at 16 rfl) fl_x8_27 d_3 rfl rfl ⟨rfl, rfl⟩ ?_
  generalize eT : su μ3 D 3 0 = μ4
  have g_4 : ∀ a, a < D + 3 → a ≠ D → μ4 a = μ3 a := fun a _ h => by rw [← eT]; exact su_ne h
  have gk_4 : ∀ k, k ≠ 3 → μ4 D k = μ3 D k := fun k h => by rw [← eT, su_same]; exact upd_ne _ _ h
  have z_3 : μ4 D 3 = 0 := by rw [← eT, su_same, upd_at]
  have m_4 : ∀ a, a < D → μ4 a = μ a := fun a h => (g_4 a (by omega) (by omega)).trans (m_3 a h)
  clear eT
  obtain ⟨S4, eS4⟩ : ∃ T, S3 = T := ⟨_, rfl⟩
  have n_4 : S4.1 = D + 3 := eS4 ▸ n_3
  have d_4 : S4.2 D = some (kO 8 (va_up (fun _ => none) 0 (some (D + 1)))) := eS4 ▸ d_3
  have f_4 : ∀ a, D < a → a < D + 3 → S4.2 a = S3.2 a := fun a _ _ => by rw [eS4]
  have b_4 : ∀ a, a < D → S4.2 a = S.2 a := eS4 ▸ b_3
  rw [eS4]
  refine X_return (tk_X8_init.at 17 rfl) rfl ?_
  have F_4 : ∀ a, D < a → a < D + 3 → S4.2 a = S4.2 a := fun _ _ _ => rfl
  have E_4 : ∀ a, D < a → a < D + 3 → μ4 a = μ4 a := fun _ _ _ => rfl
  have F_3 : ∀ a, D < a → a < D + 3 → S4.2 a = S3.2 a := fun a h1 h2 => (F_4 a h1 (by omega)).trans (f_4 a h1 h2)
  have E_3 : ∀ a, D < a → a < D + 3 → μ4 a = μ3 a := fun a h1 h2 => (E_4 a h1 (by omega)).trans (g_4 a h2 (by omega))
  have F_2 : ∀ a, D < a → a < D + 3 → S4.2 a = S2.2 a := fun a h1 h2 => (F_3 a h1 (by omega)).trans (f_3 a h1 h2)
  have E_2 : ∀ a, D < a → a < D + 3 → μ4 a = μ2 a := fun a h1 h2 => (E_3 a h1 (by omega)).trans (g_3 a h2 (by omega))
  have F_1 : ∀ a, D < a → a < D + 3 → S4.2 a = S1.2 a := fun a h1 h2 => (F_2 a h1 (by omega)).trans (f_2 a h1 h2)
  have E_1 : ∀ a, D < a → a < D + 3 → μ4 a = μ1 a := fun a h1 h2 => (E_2 a h1 (by omega)).trans (g_2 a h2 (by omega))
  have er : (va_up (fun _ => none) 0 (some (D + 1))) = rV D := funext (fun k => by rcases k with _ | k <;> rfl)
  exact hK _ _ ⟨by omega, b_4, m_4⟩ ⟨by rw [d_4, er], q_0.fr (F_1 _ (by omega) (by omega)) (F_1 _ (by omega) (by omega))⟩ (by rw [E_1 _ (by omega) (by omega)]; exact w_0)
set_option maxHeartbeats 2000000 in
theorem i1 {G : Gl} {d : Nat} {S : Sh} {μ : Mu} {D : Nat} {K : Sh → Mu → Prop} (hS : S.1 = D + 1) (hD : S.2 D = some (kO 1 (fun _ => none))) (hK : ∀ S' μ', Nw S S' μ μ' D 5 → XS S' D → K S' μ') : X G mi_X1_init (d + 2) 5 0 [(0, .ref D)] [] S μ (qv K) := by
  have n_0 := hS
  have d_0 := hD
  have b_0 : ∀ a, a < D → S.2 a = S.2 a := fun _ _ => rfl
  have m_0 : ∀ a, a < D → μ a = μ a := fun _ _ => rfl
  refine X_aload_n (tk_X1_init.at 0 rfl) rfl ?_
  refine X_objInit (tk_X1_init.at 1 rfl) lk_x1_3 (Nat.le_of_ble_eq_true rfl) ?_
  refine X_aload_n (tk_X1_init.at 2 rfl) rfl ?_
  refine X_sub (rest := [.ref D]) (kc := 2) (ci := 5) (n := 2) (A := D + 1) (F := fun S' μ' => ES S' (D + 1)) (tk_X1_init.at 3 rfl) (tk_X1_init.at 4 rfl) (by decide) cl_x1_9 io_5 in_5 df_5 (tk_X1_init.at 5 rfl) mn_X5_init lk_x1_11 np_X5_init (Nat.le_of_ble_eq_true rfl) (Nat.le_of_ble_eq_true rfl) n_0 (fun T τ e1 e2 e3 e4 => i5 e1 e2 (fun S' μ' a b => ⟨a, b⟩)) (fun U μ1 n1 f1 g1 q0 => ?_)
  refine X_putRF (tk_X1_init.at 6 rfl) fl_x1_12 (show U.2 D = some (kO 1 (fun _ => none)) from (f1 D (by omega)).trans d_0) rfl rfl rfl rfl ⟨rfl, rfl⟩ ?_
  generalize eT : Su U D (kO 1 (va_up (fun _ => none) 0 (some (D + 1)))) = S1
  have n_1 : S1.1 = D + 4 := by rw [← eT]; show U.1 = _; omega
  have d_1 : S1.2 D = some (kO 1 (va_up (fun _ => none) 0 (some (D + 1)))) := by rw [← eT]; exact Su_at
  have f_1 : ∀ a, D < a → a < D + 1 → S1.2 a = S.2 a := fun a h1 h2 => by rw [← eT, Su_ne (by omega)]; exact f1 a h2
  have b_1 : ∀ a, a < D → S1.2 a = S.2 a := fun a h => by rw [← eT, Su_ne (by omega)]; exact (f1 a (by omega)).trans (b_0 a h)
  have g_1 : ∀ a, a < D + 1 → a ≠ D → μ1 a = μ a := fun a h _ => g1 a h
  have gD_1 : μ1 D = μ D := g1 D (by omega)
  have m_1 : ∀ a, a < D → μ1 a = μ a := fun a h => (g1 a (by omega)).trans (m_0 a h)
  have u_1 : ∀ a, a ≠ D → S1.2 a = U.2 a := fun a h => by rw [← eT]; exact Su_ne h
  have q_0 : ES S1 (D + 1) := ⟨(u_1 _ (by omega)).trans q0.1, (u_1 _ (by omega)).trans q0.2.1, (u_1 _ (by omega)).trans q0.2.2⟩
  clear q0
  clear eT f1 n1 g1
  refine X_aload_n (tk_X1_init.at 7 rfl) rfl ?_
  refine X_bipush (tk_X1_init.at 8 rfl) cb_48 ?_
  refine X_arr (A := D + 4) (N := 48) (tk_X1_init.at 9 rfl) (pl 48 rfl) (by decide) n_1 (fun U μ2 n1 q0 f1 g1 v0 => ?_)
  refine X_putRF (tk_X1_init.at 10 rfl) fl_x1_18 (show U.2 D = some (kO 1 (va_up (fun _ => none) 0 (some (D + 1)))) from (f1 D (by omega)).trans d_1) rfl rfl rfl rfl ⟨rfl, rfl⟩ ?_
  generalize eT : Su U D (kO 1 (va_up (va_up (fun _ => none) 0 (some (D + 1))) 1 (some (D + 4)))) = S2
  have n_2 : S2.1 = D + 5 := by rw [← eT]; show U.1 = _; omega
  have d_2 : S2.2 D = some (kO 1 (va_up (va_up (fun _ => none) 0 (some (D + 1))) 1 (some (D + 4)))) := by rw [← eT]; exact Su_at
  have f_2 : ∀ a, D < a → a < D + 4 → S2.2 a = S1.2 a := fun a h1 h2 => by rw [← eT, Su_ne (by omega)]; exact f1 a h2
  have b_2 : ∀ a, a < D → S2.2 a = S.2 a := fun a h => by rw [← eT, Su_ne (by omega)]; exact (f1 a (by omega)).trans (b_1 a h)
  have g_2 : ∀ a, a < D + 4 → a ≠ D → μ2 a = μ1 a := fun a h _ => g1 a h
  have gD_2 : μ2 D = μ1 D := g1 D (by omega)
  have m_2 : ∀ a, a < D → μ2 a = μ a := fun a h => (g1 a (by omega)).trans (m_1 a h)
  have u_2 : ∀ a, a ≠ D → S2.2 a = U.2 a := fun a h => by rw [← eT]; exact Su_ne h
  have q_1 : S2.2 (D + 4) = some (kI 48) := (u_2 _ (by omega)).trans q0
  have w_1 : ∀ i, μ2 (D + 4) i = 0 := v0
  clear q0 v0
  clear eT f1 n1 g1
  refine X_aload_n (tk_X1_init.at 11 rfl) rfl ?_
  refine X_bipush (tk_X1_init.at 12 rfl) cb_48 ?_
  refine X_arr (A := D + 5) (N := 48) (tk_X1_init.at 13 rfl) (pl 48 rfl) (by decide) n_2 (fun U μ3 n1 q0 f1 g1 v0 => ?_)
  refine X_putRF (tk_X1_init.at 14 rfl) fl_x1_22 (show U.2 D = some (kO 1 (va_up (va_up (fun _ => none) 0 (some (D + 1))) 1 (some (D + 4)))) from (f1 D (by omega)).trans d_2) rfl rfl rfl rfl ⟨rfl, rfl⟩ ?_
  generalize eT : Su U D (kO 1 (va_up (va_up (va_up (fun _ => none) 0 (some (D + 1))) 1 (some (D + 4))) 2 (some (D + 5)))) = S3
  have n_3 : S3.1 = D + 6 := by rw [← eT]; show U.1 = _; omega
  have d_3 : S3.2 D = some (kO 1 (va_up (va_up (va_up (fun _ => none) 0 (some (D + 1))) 1 (some (D + 4))) 2 (some (D + 5)))) := by rw [← eT]; exact Su_at
  have f_3 : ∀ a, D < a → a < D + 5 → S3.2 a = S2.2 a := fun a h1 h2 => by rw [← eT, Su_ne (by omega)]; exact f1 a h2
  have b_3 : ∀ a, a < D → S3.2 a = S.2 a := fun a h => by rw [← eT, Su_ne (by omega)]; exact (f1 a (by omega)).trans (b_2 a h)
  have g_3 : ∀ a, a < D + 5 → a ≠ D → μ3 a = μ2 a := fun a h _ => g1 a h
  have gD_3 : μ3 D = μ2 D := g1 D (by omega)
  have m_3 : ∀ a, a < D → μ3 a = μ a := fun a h => (g1 a (by omega)).trans (m_2 a h)
  have u_3 : ∀ a, a ≠ D → S3.2 a = U.2 a := fun a h => by rw [← eT]; exact Su_ne h
  have q_2 : S3.2 (D + 5) = some (kI 48) := (u_3 _ (by omega)).trans q0
  have w_2 : ∀ i, μ3 (D + 5) i = 0 := v0
  clear q0 v0
  clear eT f1 n1 g1
  refine X_aload_n (tk_X1_init.at 15 rfl) rfl ?_
  refine X_iconst (tk_X1_init.at 16 rfl) ci_0 ?_
  refine X_putI (tk_X1_init.at 17 rfl) fl_x1_25 d_3 rfl rfl ⟨rfl, rfl⟩ ?_
  generalize eT : su μ3 D 3 0 = μ4
  have g_4 : ∀ a, a < D + 6 → a ≠ D → μ4 a = μ3 a := fun a _ h => by rw [← eT]; exact su_ne h
  have gk_4 : ∀ k, k ≠ 3 → μ4 D k = μ3 D k := fun k h => by rw [← eT, su_same]; exact upd_ne _ _ h
  have z_3 : μ4 D 3 = 0 := by rw [← eT, su_same, upd_at]
  have m_4 : ∀ a, a < D → μ4 a = μ a := fun a h => (g_4 a (by omega) (by omega)).trans (m_3 a h)
  clear eT
  obtain ⟨S4, eS4⟩ : ∃ T, S3 = T := ⟨_, rfl⟩
  have n_4 : S4.1 = D + 6 := eS4 ▸ n_3
  have d_4 : S4.2 D = some (kO 1 (va_up (va_up (va_up (fun _ => none) 0 (some (D + 1))) 1 (some (D + 4))) 2 (some (D + 5)))) := eS4 ▸ d_3
  have f_4 : ∀ a, D < a → a < D + 6 → S4.2 a = S3.2 a := fun a _ _ => by rw [eS4]
  have b_4 : ∀ a, a < D → S4.2 a = S.2 a := eS4 ▸ b_3
  rw [eS4]
  refine X_return (tk_X1_init.at 18 rfl) rfl ?_
  have F_4 : ∀ a, D < a → a < D + 6 → S4.2 a = S4.2 a := fun _ _ _ => rfl
  have E_4 : ∀ a, D < a → a < D + 6 → μ4 a = μ4 a := fun _ _ _ => rfl
  have F_3 : ∀ a, D < a → a < D + 6 → S4.2 a = S3.2 a := fun a h1 h2 => (F_4 a h1 (by omega)).trans (f_4 a h1 h2)
  have E_3 : ∀ a, D < a → a < D + 6 → μ4 a = μ3 a := fun a h1 h2 => (E_4 a h1 (by omega)).trans (g_4 a h2 (by omega))
  have F_2 : ∀ a, D < a → a < D + 5 → S4.2 a = S2.2 a := fun a h1 h2 => (F_3 a h1 (by omega)).trans (f_3 a h1 h2)
  have E_2 : ∀ a, D < a → a < D + 5 → μ4 a = μ2 a := fun a h1 h2 => (E_3 a h1 (by omega)).trans (g_3 a h2 (by omega))
  have F_1 : ∀ a, D < a → a < D + 4 → S4.2 a = S1.2 a := fun a h1 h2 => (F_2 a h1 (by omega)).trans (f_2 a h1 h2)
  have E_1 : ∀ a, D < a → a < D + 4 → μ4 a = μ1 a := fun a h1 h2 => (E_2 a h1 (by omega)).trans (g_2 a h2 (by omega))
  have er : (va_up (va_up (va_up (fun _ => none) 0 (some (D + 1))) 1 (some (D + 4))) 2 (some (D + 5))) = rX D := funext (fun k => by rcases k with _ | _ | _ | k <;> rfl)
  exact hK _ _ ⟨by omega, b_4, m_4⟩ ⟨by rw [d_4, er], ⟨(F_1 _ (by omega) (by omega)).trans q_0.1, (F_1 _ (by omega) (by omega)).trans q_0.2.1, (F_1 _ (by omega) (by omega)).trans q_0.2.2⟩, (F_2 _ (by omega) (by omega)).trans q_1, (F_3 _ (by omega) (by omega)).trans q_2⟩
