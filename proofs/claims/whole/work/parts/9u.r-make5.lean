theorem DS.fr {G : Gl} {S T : Sh} {D : Nat} (h : DS G S D) (e : ∀ a, D ≤ a → a < D + 32 → T.2 a = S.2 a) (es : ∀ j, j < 6 → T.2 (G.2.2.2 j) = S.2 (G.2.2.2 j)) : DS G T D := by
  obtain ⟨a0, a1, a2, a3, a4, a5, a6, a7, a8, a9, a10, a11⟩ := h
  exact ⟨(e _ (by omega) (by omega)).trans a0, a1.fr (e _ (by omega) (by omega)) (e _ (by omega) (by omega)) (es 0 (by decide)) (es 1 (by decide)), a2.fr (e _ (by omega) (by omega)) (e _ (by omega) (by omega)) (es 2 (by decide)) (es 3 (by decide)), a3.fr (e _ (by omega) (by omega)) (e _ (by omega) (by omega)) (es 4 (by decide)) (es 5 (by decide)), a4.fr (e _ (by omega) (by omega)) (e _ (by omega) (by omega)), a5.fr (e _ (by omega) (by omega)) (e _ (by omega) (by omega)), a6.fr (e _ (by omega) (by omega)) (e _ (by omega) (by omega)), (e _ (by omega) (by omega)).trans a7, a8.fr (e _ (by omega) (by omega)) (e _ (by omega) (by omega)), a9.fr (e _ (by omega) (by omega)) (e _ (by omega) (by omega)), a10.fr (e _ (by omega) (by omega)) (e _ (by omega) (by omega)), fun i hi => (a11 i hi).fr (e _ (by omega) (by omega)) (e _ (by omega) (by omega))⟩
theorem XS.fr {S T : Sh} {C : Nat} (h : XS S C) (e : ∀ a, C ≤ a → a < C + 6 → T.2 a = S.2 a) : XS T C := ⟨(e _ (by omega) (by omega)).trans h.1, ⟨(e _ (by omega) (by omega)).trans h.2.1.1, (e _ (by omega) (by omega)).trans h.2.1.2.1, (e _ (by omega) (by omega)).trans h.2.1.2.2⟩, (e _ (by omega) (by omega)).trans h.2.2.1, (e _ (by omega) (by omega)).trans h.2.2.2⟩
theorem OS.fr {G : Gl} {S T : Sh} {H : Nat} (h : OS G S H) (e : ∀ a, H ≤ a → a < H + 41 → T.2 a = S.2 a) (es : ∀ j, j < 6 → T.2 (G.2.2.2 j) = S.2 (G.2.2.2 j)) : OS G T H := ⟨(e _ (by omega) (by omega)).trans h.1, h.2.1.fr (e _ (by omega) (by omega)) (e _ (by omega) (by omega)), h.2.2.1.fr (fun a h1 h2 => e a (by omega) (by omega)) es, h.2.2.2.fr (fun a h1 h2 => e a (by omega) (by omega))⟩
set_option maxHeartbeats 2000000 in
theorem i0 {G : Gl} {d : Nat} {S : Sh} {μ : Mu} {D : Nat} {K : Sh → Mu → Prop} (hS : S.1 = D + 1) (hD : S.2 D = some (kO 0 (fun _ => none))) (hst : ∀ j, j < 6 → G.2.2.2 j < D ∧ S.2 (G.2.2.2 j) = some (kC 4)) (hK : ∀ S' μ', Nw S S' μ μ' D 40 → OS G S' D → μ' (D + 3 + 14) 1 = 0 → K S' μ') : X G mi_X0_init (d + 4) 40 0 [(0, .ref D)] [] S μ (qv K) := by
  have n_0 := hS
  have d_0 := hD
  have b_0 : ∀ a, a < D → S.2 a = S.2 a := fun _ _ => rfl
  have m_0 : ∀ a, a < D → μ a = μ a := fun _ _ => rfl
  refine X_aload_n (tk_X0_init.at 0 rfl) rfl ?_
  refine X_objInit (tk_X0_init.at 1 rfl) lk_x0_3 (Nat.le_of_ble_eq_true rfl) ?_
  refine X_aload_n (tk_X0_init.at 2 rfl) rfl ?_
  refine X_row (A := D + 1) (len := 6) (tk_X0_init.at 3 rfl) (tk_X0_init.at 4 rfl) cl_x0_9 (fun T τ st h => X_bipush (tk_X0_init.at 5 rfl) cb_6 h) (tk_X0_init.at 6 rfl) lk_x0_11 (Nat.le_of_ble_eq_true rfl) (pl 6 rfl) (by decide) n_0 (fun U μ1 n1 f1 g1 q0 w0 v0 => ?_)
  refine X_putRF (tk_X0_init.at 7 rfl) fl_x0_14 (show U.2 D = some (kO 0 (fun _ => none)) from (f1 D (by omega)).trans d_0) rfl rfl rfl rfl ⟨rfl, rfl⟩ ?_
  generalize eT : Su U D (kO 0 (va_up (fun _ => none) 0 (some (D + 1)))) = S1
  have n_1 : S1.1 = D + 3 := by rw [← eT]; show U.1 = _; omega
  have d_1 : S1.2 D = some (kO 0 (va_up (fun _ => none) 0 (some (D + 1)))) := by rw [← eT]; exact Su_at
  have f_1 : ∀ a, D < a → a < D + 1 → S1.2 a = S.2 a := fun a h1 h2 => by rw [← eT, Su_ne (by omega)]; exact f1 a h2
  have b_1 : ∀ a, a < D → S1.2 a = S.2 a := fun a h => by rw [← eT, Su_ne (by omega)]; exact (f1 a (by omega)).trans (b_0 a h)
  have g_1 : ∀ a, a < D + 1 → a ≠ D → μ1 a = μ a := fun a h _ => g1 a h
  have gD_1 : μ1 D = μ D := g1 D (by omega)
  have m_1 : ∀ a, a < D → μ1 a = μ a := fun a h => (g1 a (by omega)).trans (m_0 a h)
  have u_1 : ∀ a, a ≠ D → S1.2 a = U.2 a := fun a h => by rw [← eT]; exact Su_ne h
  have q_0 : RS S1 (D + 1) 6 := q0.fr (u_1 _ (by omega)) (u_1 _ (by omega))
  have w_0 : μ1 (D + 1) 1 = 0 := w0
  clear q0 w0 v0
  clear eT f1 n1 g1
  refine X_aload_n (tk_X0_init.at 8 rfl) rfl ?_
  refine X_iconst (tk_X0_init.at 9 rfl) ci_m1 ?_
  refine X_putI (tk_X0_init.at 10 rfl) fl_x0_20 d_1 rfl rfl ⟨rfl, rfl⟩ ?_
  generalize eT : su μ1 D 1 (-1) = μ2
  have g_2 : ∀ a, a < D + 3 → a ≠ D → μ2 a = μ1 a := fun a _ h => by rw [← eT]; exact su_ne h
  have gk_2 : ∀ k, k ≠ 1 → μ2 D k = μ1 D k := fun k h => by rw [← eT, su_same]; exact upd_ne _ _ h
  have z_1 : μ2 D 1 = (-1) := by rw [← eT, su_same, upd_at]
  have m_2 : ∀ a, a < D → μ2 a = μ a := fun a h => (g_2 a (by omega) (by omega)).trans (m_1 a h)
  clear eT
  obtain ⟨S2, eS2⟩ : ∃ T, S1 = T := ⟨_, rfl⟩
  have n_2 : S2.1 = D + 3 := eS2 ▸ n_1
  have d_2 : S2.2 D = some (kO 0 (va_up (fun _ => none) 0 (some (D + 1)))) := eS2 ▸ d_1
  have f_2 : ∀ a, D < a → a < D + 3 → S2.2 a = S1.2 a := fun a _ _ => by rw [eS2]
  have b_2 : ∀ a, a < D → S2.2 a = S.2 a := eS2 ▸ b_1
  rw [eS2]
  refine X_aload_n (tk_X0_init.at 11 rfl) rfl ?_
  refine X_iconst (tk_X0_init.at 12 rfl) ci_0 ?_
  refine X_putI (tk_X0_init.at 13 rfl) fl_x0_24 d_2 rfl rfl ⟨rfl, rfl⟩ ?_
  generalize eT : su μ2 D 2 0 = μ3
  have g_3 : ∀ a, a < D + 3 → a ≠ D → μ3 a = μ2 a := fun a _ h => by rw [← eT]; exact su_ne h
  have gk_3 : ∀ k, k ≠ 2 → μ3 D k = μ2 D k := fun k h => by rw [← eT, su_same]; exact upd_ne _ _ h
  have z_2 : μ3 D 2 = 0 := by rw [← eT, su_same, upd_at]
  have m_3 : ∀ a, a < D → μ3 a = μ a := fun a h => (g_3 a (by omega) (by omega)).trans (m_2 a h)
  clear eT
  obtain ⟨S3, eS3⟩ : ∃ T, S2 = T := ⟨_, rfl⟩
  have n_3 : S3.1 = D + 3 := eS3 ▸ n_2
  have d_3 : S3.2 D = some (kO 0 (va_up (fun _ => none) 0 (some (D + 1)))) := eS3 ▸ d_2
  have f_3 : ∀ a, D < a → a < D + 3 → S3.2 a = S2.2 a := fun a _ _ => by rw [eS3]
  have b_3 : ∀ a, a < D → S3.2 a = S.2 a := eS3 ▸ b_2
  rw [eS3]
  refine X_aload_n (tk_X0_init.at 14 rfl) rfl ?_
  refine X_sub (rest := [.ref D]) (kc := 6) (ci := 2) (n := 31) (A := D + 3) (F := fun S' μ' => DS G S' (D + 3) ∧ repD μ' (D + 3) N0) (tk_X0_init.at 15 rfl) (tk_X0_init.at 16 rfl) (by decide) cl_x0_27 io_2 in_2 df_2 (tk_X0_init.at 17 rfl) mn_X2_init lk_x0_29 np_X2_init (Nat.le_of_ble_eq_true rfl) (Nat.le_of_ble_eq_true rfl) n_3 (fun T τ e1 e2 e3 e4 => i2 e1 e2 (fun j hj => ⟨by have := (hst j hj).1; omega, by rw [e3 _ (by have := (hst j hj).1; omega), b_3 _ (hst j hj).1]; exact (hst j hj).2⟩) (fun S' μ' a b c => ⟨a, b, c⟩)) (fun U μ4 n1 f1 g1 q0 => ?_)
  refine X_putRF (tk_X0_init.at 18 rfl) fl_x0_30 (show U.2 D = some (kO 0 (va_up (fun _ => none) 0 (some (D + 1)))) from (f1 D (by omega)).trans d_3) rfl rfl rfl rfl ⟨rfl, rfl⟩ ?_
  generalize eT : Su U D (kO 0 (va_up (va_up (fun _ => none) 0 (some (D + 1))) 3 (some (D + 3)))) = S4
  have n_4 : S4.1 = D + 35 := by rw [← eT]; show U.1 = _; omega
  have d_4 : S4.2 D = some (kO 0 (va_up (va_up (fun _ => none) 0 (some (D + 1))) 3 (some (D + 3)))) := by rw [← eT]; exact Su_at
  have f_4 : ∀ a, D < a → a < D + 3 → S4.2 a = S3.2 a := fun a h1 h2 => by rw [← eT, Su_ne (by omega)]; exact f1 a h2
  have b_4 : ∀ a, a < D → S4.2 a = S.2 a := fun a h => by rw [← eT, Su_ne (by omega)]; exact (f1 a (by omega)).trans (b_3 a h)
  have g_4 : ∀ a, a < D + 3 → a ≠ D → μ4 a = μ3 a := fun a h _ => g1 a h
  have gD_4 : μ4 D = μ3 D := g1 D (by omega)
  have m_4 : ∀ a, a < D → μ4 a = μ a := fun a h => (g1 a (by omega)).trans (m_3 a h)
  have u_4 : ∀ a, a ≠ D → S4.2 a = U.2 a := fun a h => by rw [← eT]; exact Su_ne h
  have q_3 : DS G S4 (D + 3) := q0.1.fr (fun a h1 h2 => u_4 a (by omega)) (fun j hj => u_4 _ (by have := (hst j hj).1; omega))
  have w_3 : repD μ4 (D + 3) N0 := q0.2
  clear q0
  clear eT f1 n1 g1
  refine X_aload_n (tk_X0_init.at 19 rfl) rfl ?_
  refine X_sub (rest := [.ref D]) (kc := 0) (ci := 1) (n := 5) (A := D + 35) (F := fun S' μ' => XS S' (D + 35)) (tk_X0_init.at 20 rfl) (tk_X0_init.at 21 rfl) (by decide) cl_x0_34 io_1 in_1 df_1 (tk_X0_init.at 22 rfl) mn_X1_init lk_x0_36 np_X1_init (Nat.le_of_ble_eq_true rfl) (Nat.le_of_ble_eq_true rfl) n_4 (fun T τ e1 e2 e3 e4 => i1 e1 e2 (fun S' μ' a b => ⟨a, b⟩)) (fun U μ5 n1 f1 g1 q0 => ?_)
  refine X_putRF (tk_X0_init.at 23 rfl) fl_x0_37 (show U.2 D = some (kO 0 (va_up (va_up (fun _ => none) 0 (some (D + 1))) 3 (some (D + 3)))) from (f1 D (by omega)).trans d_4) rfl rfl rfl rfl ⟨rfl, rfl⟩ ?_
  generalize eT : Su U D (kO 0 (va_up (va_up (va_up (fun _ => none) 0 (some (D + 1))) 3 (some (D + 3))) 4 (some (D + 35)))) = S5
  have n_5 : S5.1 = D + 41 := by rw [← eT]; show U.1 = _; omega
  have d_5 : S5.2 D = some (kO 0 (va_up (va_up (va_up (fun _ => none) 0 (some (D + 1))) 3 (some (D + 3))) 4 (some (D + 35)))) := by rw [← eT]; exact Su_at
  have f_5 : ∀ a, D < a → a < D + 35 → S5.2 a = S4.2 a := fun a h1 h2 => by rw [← eT, Su_ne (by omega)]; exact f1 a h2
  have b_5 : ∀ a, a < D → S5.2 a = S.2 a := fun a h => by rw [← eT, Su_ne (by omega)]; exact (f1 a (by omega)).trans (b_4 a h)
  have g_5 : ∀ a, a < D + 35 → a ≠ D → μ5 a = μ4 a := fun a h _ => g1 a h
  have gD_5 : μ5 D = μ4 D := g1 D (by omega)
  have m_5 : ∀ a, a < D → μ5 a = μ a := fun a h => (g1 a (by omega)).trans (m_4 a h)
  have u_5 : ∀ a, a ≠ D → S5.2 a = U.2 a := fun a h => by rw [← eT]; exact Su_ne h
  have q_4 : XS S5 (D + 35) := q0.fr (fun a h1 h2 => u_5 a (by omega))
  clear q0
  clear eT f1 n1 g1
  refine X_return (tk_X0_init.at 24 rfl) rfl ?_
  have F_5 : ∀ a, D < a → a < D + 41 → S5.2 a = S5.2 a := fun _ _ _ => rfl
  have E_5 : ∀ a, D < a → a < D + 41 → μ5 a = μ5 a := fun _ _ _ => rfl
  have F_4 : ∀ a, D < a → a < D + 35 → S5.2 a = S4.2 a := fun a h1 h2 => (F_5 a h1 (by omega)).trans (f_5 a h1 h2)
  have E_4 : ∀ a, D < a → a < D + 35 → μ5 a = μ4 a := fun a h1 h2 => (E_5 a h1 (by omega)).trans (g_5 a h2 (by omega))
  have F_3 : ∀ a, D < a → a < D + 3 → S5.2 a = S3.2 a := fun a h1 h2 => (F_4 a h1 (by omega)).trans (f_4 a h1 h2)
  have E_3 : ∀ a, D < a → a < D + 3 → μ5 a = μ3 a := fun a h1 h2 => (E_4 a h1 (by omega)).trans (g_4 a h2 (by omega))
  have F_2 : ∀ a, D < a → a < D + 3 → S5.2 a = S2.2 a := fun a h1 h2 => (F_3 a h1 (by omega)).trans (f_3 a h1 h2)
  have E_2 : ∀ a, D < a → a < D + 3 → μ5 a = μ2 a := fun a h1 h2 => (E_3 a h1 (by omega)).trans (g_3 a h2 (by omega))
  have F_1 : ∀ a, D < a → a < D + 3 → S5.2 a = S1.2 a := fun a h1 h2 => (F_2 a h1 (by omega)).trans (f_2 a h1 h2)
  have E_1 : ∀ a, D < a → a < D + 3 → μ5 a = μ1 a := fun a h1 h2 => (E_2 a h1 (by omega)).trans (g_2 a h2 (by omega))
  have er : (va_up (va_up (va_up (fun _ => none) 0 (some (D + 1))) 3 (some (D + 3))) 4 (some (D + 35))) = rO D := funext (fun k => by rcases k with _ | _ | _ | _ | _ | k <;> rfl)
  exact hK _ _ ⟨by omega, b_5, m_5⟩ ⟨by rw [d_5, er], q_0.fr (F_1 _ (by omega) (by omega)) (F_1 _ (by omega) (by omega)), q_3.fr (fun a h1 h2 => F_4 a (by omega) (by omega)) (fun j hj => by rw [b_5 _ (hst j hj).1, b_4 _ (hst j hj).1]), q_4.fr (fun a h1 h2 => F_5 a (by omega) (by omega))⟩ (by rw [E_4 _ (by omega) (by omega)]; exact rD_nob w_3)
set_option maxHeartbeats 2000000 in
theorem i4 {G : Gl} {d : Nat} {S : Sh} {μ : Mu} {D : Nat} {K : Sh → Mu → Prop} (hS : S.1 = D + 1) (hD : S.2 D = some (kO 4 (fun _ => none))) (hK : ∀ S' μ', Nw S S' μ μ' D 4 → RdS S' D (D + 3) (G.2.2.2 10) → K S' μ') : X G mi_X4_init (d + 2) 4 0 [(0, .ref D)] [] S μ (qv K) := by
  have n_0 := hS
  have d_0 := hD
  have b_0 : ∀ a, a < D → S.2 a = S.2 a := fun _ _ => rfl
  have m_0 : ∀ a, a < D → μ a = μ a := fun _ _ => rfl
  refine X_aload_n (tk_X4_init.at 0 rfl) rfl ?_
  refine X_objInit (tk_X4_init.at 1 rfl) lk_x4_3 (Nat.le_of_ble_eq_true rfl) ?_
  refine X_aload_n (tk_X4_init.at 2 rfl) rfl ?_
  refine X_row (A := D + 1) (len := 50) (tk_X4_init.at 3 rfl) (tk_X4_init.at 4 rfl) cl_x4_9 (fun T τ st h => X_bipush (tk_X4_init.at 5 rfl) cb_50 h) (tk_X4_init.at 6 rfl) lk_x4_11 (Nat.le_of_ble_eq_true rfl) (pl 50 rfl) (by decide) n_0 (fun U μ1 n1 f1 g1 q0 w0 v0 => ?_)
  refine X_putRF (tk_X4_init.at 7 rfl) fl_x4_14 (show U.2 D = some (kO 4 (fun _ => none)) from (f1 D (by omega)).trans d_0) rfl rfl rfl rfl ⟨rfl, rfl⟩ ?_
  generalize eT : Su U D (kO 4 (va_up (fun _ => none) 0 (some (D + 1)))) = S1
  have n_1 : S1.1 = D + 3 := by rw [← eT]; show U.1 = _; omega
  have d_1 : S1.2 D = some (kO 4 (va_up (fun _ => none) 0 (some (D + 1)))) := by rw [← eT]; exact Su_at
  have f_1 : ∀ a, D < a → a < D + 1 → S1.2 a = S.2 a := fun a h1 h2 => by rw [← eT, Su_ne (by omega)]; exact f1 a h2
  have b_1 : ∀ a, a < D → S1.2 a = S.2 a := fun a h => by rw [← eT, Su_ne (by omega)]; exact (f1 a (by omega)).trans (b_0 a h)
  have g_1 : ∀ a, a < D + 1 → a ≠ D → μ1 a = μ a := fun a h _ => g1 a h
  have gD_1 : μ1 D = μ D := g1 D (by omega)
  have m_1 : ∀ a, a < D → μ1 a = μ a := fun a h => (g1 a (by omega)).trans (m_0 a h)
  have u_1 : ∀ a, a ≠ D → S1.2 a = U.2 a := fun a h => by rw [← eT]; exact Su_ne h
  have q_0 : RS S1 (D + 1) 50 := q0.fr (u_1 _ (by omega)) (u_1 _ (by omega))
  have w_0 : μ1 (D + 1) 1 = 0 := w0
  clear q0 w0 v0
  clear eT f1 n1 g1
  refine X_aload_n (tk_X4_init.at 8 rfl) rfl ?_
  refine X_row (A := D + 3) (len := 0) (tk_X4_init.at 9 rfl) (tk_X4_init.at 10 rfl) cl_x4_9 (fun T τ st h => X_iconst (tk_X4_init.at 11 rfl) ci_0 h) (tk_X4_init.at 12 rfl) lk_x4_11 (Nat.le_of_ble_eq_true rfl) (pl 0 rfl) (by decide) n_1 (fun U μ2 n1 f1 g1 q0 w0 v0 => ?_)
  refine X_putR (tk_X4_init.at 13 rfl) fl_x4_20 (show U.2 D = some (kO 4 (va_up (fun _ => none) 0 (some (D + 1)))) from (f1 D (by omega)).trans d_1) rfl rfl ⟨rfl, rfl⟩ ?_
  generalize eT : Su U D (kO 4 (va_up (va_up (fun _ => none) 0 (some (D + 1))) 1 (some (D + 3)))) = S2
  have n_2 : S2.1 = D + 5 := by rw [← eT]; show U.1 = _; omega
  have d_2 : S2.2 D = some (kO 4 (va_up (va_up (fun _ => none) 0 (some (D + 1))) 1 (some (D + 3)))) := by rw [← eT]; exact Su_at
  have f_2 : ∀ a, D < a → a < D + 3 → S2.2 a = S1.2 a := fun a h1 h2 => by rw [← eT, Su_ne (by omega)]; exact f1 a h2
  have b_2 : ∀ a, a < D → S2.2 a = S.2 a := fun a h => by rw [← eT, Su_ne (by omega)]; exact (f1 a (by omega)).trans (b_1 a h)
  have g_2 : ∀ a, a < D + 3 → a ≠ D → μ2 a = μ1 a := fun a h _ => g1 a h
  have gD_2 : μ2 D = μ1 D := g1 D (by omega)
  have m_2 : ∀ a, a < D → μ2 a = μ a := fun a h => (g1 a (by omega)).trans (m_1 a h)
  have u_2 : ∀ a, a ≠ D → S2.2 a = U.2 a := fun a h => by rw [← eT]; exact Su_ne h
  have q_1 : RS S2 (D + 3) 0 := q0.fr (u_2 _ (by omega)) (u_2 _ (by omega))
  have w_1 : μ2 (D + 3) 1 = 0 := w0
  clear q0 w0 v0
  clear eT f1 n1 g1
  refine X_aload_n (tk_X4_init.at 14 rfl) rfl ?_
  refine X_ldcS (tk_X4_init.at 15 rfl) (fun g => g.2.2.2.2.2.1) ?_
  refine X_putR (tk_X4_init.at 16 rfl) fl_x4_25 d_2 rfl rfl ⟨rfl, rfl⟩ ?_
  generalize eT : Su S2 D (kO 4 (va_up (va_up (va_up (fun _ => none) 0 (some (D + 1))) 1 (some (D + 3))) 2 (some (G.2.2.2 10)))) = S3
  have n_3 : S3.1 = D + 5 := by rw [← eT]; exact n_2
  have d_3 : S3.2 D = some (kO 4 (va_up (va_up (va_up (fun _ => none) 0 (some (D + 1))) 1 (some (D + 3))) 2 (some (G.2.2.2 10)))) := by rw [← eT]; exact Su_at
  have f_3 : ∀ a, D < a → a < D + 5 → S3.2 a = S2.2 a := fun a h1 h2 => by rw [← eT]; exact Su_ne (by omega)
  have b_3 : ∀ a, a < D → S3.2 a = S.2 a := fun a h => by rw [← eT, Su_ne (by omega)]; exact b_2 a h
  clear eT
  obtain ⟨μ3, eμ3⟩ : ∃ T, μ2 = T := ⟨_, rfl⟩
  have g_3 : ∀ a, a < D + 5 → a ≠ D → μ3 a = μ2 a := fun a _ _ => by rw [eμ3]
  have m_3 : ∀ a, a < D → μ3 a = μ a := eμ3 ▸ m_2
  rw [eμ3]
  refine X_aload_n (tk_X4_init.at 17 rfl) rfl ?_
  refine X_iconst (tk_X4_init.at 18 rfl) ci_0 ?_
  refine X_putI (tk_X4_init.at 19 rfl) fl_x4_29 d_3 rfl rfl ⟨rfl, rfl⟩ ?_
  generalize eT : su μ3 D 3 0 = μ4
  have g_4 : ∀ a, a < D + 5 → a ≠ D → μ4 a = μ3 a := fun a _ h => by rw [← eT]; exact su_ne h
  have gk_4 : ∀ k, k ≠ 3 → μ4 D k = μ3 D k := fun k h => by rw [← eT, su_same]; exact upd_ne _ _ h
  have z_3 : μ4 D 3 = 0 := by rw [← eT, su_same, upd_at]
  have m_4 : ∀ a, a < D → μ4 a = μ a := fun a h => (g_4 a (by omega) (by omega)).trans (m_3 a h)
  clear eT
  obtain ⟨S4, eS4⟩ : ∃ T, S3 = T := ⟨_, rfl⟩
  have n_4 : S4.1 = D + 5 := eS4 ▸ n_3
  have d_4 : S4.2 D = some (kO 4 (va_up (va_up (va_up (fun _ => none) 0 (some (D + 1))) 1 (some (D + 3))) 2 (some (G.2.2.2 10)))) := eS4 ▸ d_3
  have f_4 : ∀ a, D < a → a < D + 5 → S4.2 a = S3.2 a := fun a _ _ => by rw [eS4]
  have b_4 : ∀ a, a < D → S4.2 a = S.2 a := eS4 ▸ b_3
  rw [eS4]
  refine X_aload_n (tk_X4_init.at 20 rfl) rfl ?_
  refine X_iconst (tk_X4_init.at 21 rfl) ci_0 ?_
  refine X_putI (tk_X4_init.at 22 rfl) fl_x4_33 d_4 rfl rfl ⟨rfl, rfl⟩ ?_
  generalize eT : su μ4 D 4 0 = μ5
  have g_5 : ∀ a, a < D + 5 → a ≠ D → μ5 a = μ4 a := fun a _ h => by rw [← eT]; exact su_ne h
  have gk_5 : ∀ k, k ≠ 4 → μ5 D k = μ4 D k := fun k h => by rw [← eT, su_same]; exact upd_ne _ _ h
  have z_4 : μ5 D 4 = 0 := by rw [← eT, su_same, upd_at]
  have m_5 : ∀ a, a < D → μ5 a = μ a := fun a h => (g_5 a (by omega) (by omega)).trans (m_4 a h)
  clear eT
  obtain ⟨S5, eS5⟩ : ∃ T, S4 = T := ⟨_, rfl⟩
  have n_5 : S5.1 = D + 5 := eS5 ▸ n_4
  have d_5 : S5.2 D = some (kO 4 (va_up (va_up (va_up (fun _ => none) 0 (some (D + 1))) 1 (some (D + 3))) 2 (some (G.2.2.2 10)))) := eS5 ▸ d_4
  have f_5 : ∀ a, D < a → a < D + 5 → S5.2 a = S4.2 a := fun a _ _ => by rw [eS5]
  have b_5 : ∀ a, a < D → S5.2 a = S.2 a := eS5 ▸ b_4
  rw [eS5]
  refine X_return (tk_X4_init.at 23 rfl) rfl ?_
  have F_5 : ∀ a, D < a → a < D + 5 → S5.2 a = S5.2 a := fun _ _ _ => rfl
  have E_5 : ∀ a, D < a → a < D + 5 → μ5 a = μ5 a := fun _ _ _ => rfl
  have F_4 : ∀ a, D < a → a < D + 5 → S5.2 a = S4.2 a := fun a h1 h2 => (F_5 a h1 (by omega)).trans (f_5 a h1 h2)
  have E_4 : ∀ a, D < a → a < D + 5 → μ5 a = μ4 a := fun a h1 h2 => (E_5 a h1 (by omega)).trans (g_5 a h2 (by omega))
  have F_3 : ∀ a, D < a → a < D + 5 → S5.2 a = S3.2 a := fun a h1 h2 => (F_4 a h1 (by omega)).trans (f_4 a h1 h2)
  have E_3 : ∀ a, D < a → a < D + 5 → μ5 a = μ3 a := fun a h1 h2 => (E_4 a h1 (by omega)).trans (g_4 a h2 (by omega))
  have F_2 : ∀ a, D < a → a < D + 5 → S5.2 a = S2.2 a := fun a h1 h2 => (F_3 a h1 (by omega)).trans (f_3 a h1 h2)
  have E_2 : ∀ a, D < a → a < D + 5 → μ5 a = μ2 a := fun a h1 h2 => (E_3 a h1 (by omega)).trans (g_3 a h2 (by omega))
  have F_1 : ∀ a, D < a → a < D + 3 → S5.2 a = S1.2 a := fun a h1 h2 => (F_2 a h1 (by omega)).trans (f_2 a h1 h2)
  have E_1 : ∀ a, D < a → a < D + 3 → μ5 a = μ1 a := fun a h1 h2 => (E_2 a h1 (by omega)).trans (g_2 a h2 (by omega))
  have er : (va_up (va_up (va_up (fun _ => none) 0 (some (D + 1))) 1 (some (D + 3))) 2 (some (G.2.2.2 10))) = rRq D (D + 3) (G.2.2.2 10) := funext (fun k => by rcases k with _ | _ | _ | k <;> rfl)
  exact hK _ _ ⟨by omega, b_5, m_5⟩ ⟨by rw [d_5, er], q_0.fr (F_1 _ (by omega) (by omega)) (F_1 _ (by omega) (by omega))⟩
