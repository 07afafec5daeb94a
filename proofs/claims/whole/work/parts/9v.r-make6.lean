set_option maxHeartbeats 4000000 in
theorem i9 {G : Gl} {d : Nat} {S : Sh} {μ : Mu} {P : Nat} {K : Sh → Mu → Prop} (hS : S.1 = P + 1) (hD : S.2 P = some (kO 9 (fun _ => none))) (hst : ∀ j, j < 6 → G.2.2.2 j < P ∧ S.2 (G.2.2.2 j) = some (kC 4)) (hK : ∀ S' μ', Nw S S' μ μ' P 97 → PS G S' P none (P + 80 + 3) (G.2.2.2 10) → repD μ' (P + 1) N0 → μ' P 8 = 0 → μ' (P + 39 + 3 + 14) 1 = 0 → μ' (P + 85 + 1) 1 = 0 → (∀ i, μ' (P + 89) i = 0) → (∀ s, s < 4 → μ' (P + 90 + 2 * s) 1 = 0 ∧ μ' (P + 90 + 2 * s) 2 = 0 ∧ ∀ j, μ' (P + 90 + 2 * s + 1) j = 0) → K S' μ') : X G mi_X9_init (d + 6) 97 0 [(0, .ref P)] [] S μ (qv K) := by
  have n_0 := hS
  have d_0 := hD
  have b_0 : ∀ a, a < P → S.2 a = S.2 a := fun _ _ => rfl
  have m_0 : ∀ a, a < P → μ a = μ a := fun _ _ => rfl
  refine X_aload_n (tk_X9_init.at 0 rfl) rfl ?_
  refine X_objInit (tk_X9_init.at 1 rfl) lk_x9_3 (Nat.le_of_ble_eq_true rfl) ?_
  refine X_aload_n (tk_X9_init.at 2 rfl) rfl ?_
  refine X_sub (rest := [.ref P]) (kc := 65) (ci := 2) (n := 31) (A := P + 1) (F := fun S' μ' => DS G S' (P + 1) ∧ repD μ' (P + 1) N0) (tk_X9_init.at 3 rfl) (tk_X9_init.at 4 rfl) (by decide) cl_x9_9 io_2 in_2 df_2 (tk_X9_init.at 5 rfl) mn_X2_init lk_x9_11 np_X2_init (Nat.le_of_ble_eq_true rfl) (Nat.le_of_ble_eq_true rfl) n_0 (fun T τ e1 e2 e3 e4 => i2 e1 e2 (fun j hj => ⟨by have := (hst j hj).1; omega, by rw [e3 _ (by have := (hst j hj).1; omega), b_0 _ (hst j hj).1]; exact (hst j hj).2⟩) (fun S' μ' a b c => ⟨a, b, c⟩)) (fun U μ1 n1 f1 g1 q0 => ?_)
  refine X_putRF (tk_X9_init.at 6 rfl) fl_x9_12 (show U.2 P = some (kO 9 (fun _ => none)) from (f1 P (by omega)).trans d_0) rfl rfl rfl rfl ⟨rfl, rfl⟩ ?_
  generalize eT : Su U P (kO 9 (va_up (fun _ => none) 0 (some (P + 1)))) = S1
  have n_1 : S1.1 = P + 33 := by rw [← eT]; show U.1 = _; omega
  have d_1 : S1.2 P = some (kO 9 (va_up (fun _ => none) 0 (some (P + 1)))) := by rw [← eT]; exact Su_at
  have f_1 : ∀ a, P < a → a < P + 1 → S1.2 a = S.2 a := fun a h1 h2 => by rw [← eT, Su_ne (by omega)]; exact f1 a h2
  have b_1 : ∀ a, a < P → S1.2 a = S.2 a := fun a h => by rw [← eT, Su_ne (by omega)]; exact (f1 a (by omega)).trans (b_0 a h)
  have g_1 : ∀ a, a < P + 1 → a ≠ P → μ1 a = μ a := fun a h _ => g1 a h
  have gD_1 : μ1 P = μ P := g1 P (by omega)
  have m_1 : ∀ a, a < P → μ1 a = μ a := fun a h => (g1 a (by omega)).trans (m_0 a h)
  have u_1 : ∀ a, a ≠ P → S1.2 a = U.2 a := fun a h => by rw [← eT]; exact Su_ne h
  have q_0 : DS G S1 (P + 1) := q0.1.fr (fun a h1 h2 => u_1 a (by omega)) (fun j hj => u_1 _ (by have := (hst j hj).1; omega))
  have w_0 : repD μ1 (P + 1) N0 := q0.2
  clear q0
  clear eT f1 n1 g1
  refine X_aload_n (tk_X9_init.at 7 rfl) rfl ?_
  refine X_sub (rest := [.ref P]) (kc := 59) (ci := 1) (n := 5) (A := P + 33) (F := fun S' μ' => XS S' (P + 33)) (tk_X9_init.at 8 rfl) (tk_X9_init.at 9 rfl) (by decide) cl_x9_16 io_1 in_1 df_1 (tk_X9_init.at 10 rfl) mn_X1_init lk_x9_18 np_X1_init (Nat.le_of_ble_eq_true rfl) (Nat.le_of_ble_eq_true rfl) n_1 (fun T τ e1 e2 e3 e4 => i1 e1 e2 (fun S' μ' a b => ⟨a, b⟩)) (fun U μ2 n1 f1 g1 q0 => ?_)
  refine X_putRF (tk_X9_init.at 11 rfl) fl_x9_19 (show U.2 P = some (kO 9 (va_up (fun _ => none) 0 (some (P + 1)))) from (f1 P (by omega)).trans d_1) rfl rfl rfl rfl ⟨rfl, rfl⟩ ?_
  generalize eT : Su U P (kO 9 (va_up (va_up (fun _ => none) 0 (some (P + 1))) 1 (some (P + 33)))) = S2
  have n_2 : S2.1 = P + 39 := by rw [← eT]; show U.1 = _; omega
  have d_2 : S2.2 P = some (kO 9 (va_up (va_up (fun _ => none) 0 (some (P + 1))) 1 (some (P + 33)))) := by rw [← eT]; exact Su_at
  have f_2 : ∀ a, P < a → a < P + 33 → S2.2 a = S1.2 a := fun a h1 h2 => by rw [← eT, Su_ne (by omega)]; exact f1 a h2
  have b_2 : ∀ a, a < P → S2.2 a = S.2 a := fun a h => by rw [← eT, Su_ne (by omega)]; exact (f1 a (by omega)).trans (b_1 a h)
  have g_2 : ∀ a, a < P + 33 → a ≠ P → μ2 a = μ1 a := fun a h _ => g1 a h
  have gD_2 : μ2 P = μ1 P := g1 P (by omega)
  have m_2 : ∀ a, a < P → μ2 a = μ a := fun a h => (g1 a (by omega)).trans (m_1 a h)
  have u_2 : ∀ a, a ≠ P → S2.2 a = U.2 a := fun a h => by rw [← eT]; exact Su_ne h
  have q_1 : XS S2 (P + 33) := q0.fr (fun a h1 h2 => u_2 a (by omega))
  clear q0
  clear eT f1 n1 g1
  refine X_aload_n (tk_X9_init.at 12 rfl) rfl ?_
  refine X_sub (rest := [.ref P]) (kc := 18) (ci := 0) (n := 40) (A := P + 39) (F := fun S' μ' => OS G S' (P + 39) ∧ μ' (P + 39 + 3 + 14) 1 = 0) (tk_X9_init.at 13 rfl) (tk_X9_init.at 14 rfl) (by decide) cl_x9_23 io_0 in_0 df_0 (tk_X9_init.at 15 rfl) mn_X0_init lk_x9_25 np_X0_init (Nat.le_of_ble_eq_true rfl) (Nat.le_of_ble_eq_true rfl) n_2 (fun T τ e1 e2 e3 e4 => i0 e1 e2 (fun j hj => ⟨by have := (hst j hj).1; omega, by rw [e3 _ (by have := (hst j hj).1; omega), b_2 _ (hst j hj).1]; exact (hst j hj).2⟩) (fun S' μ' a b c => ⟨a, b, c⟩)) (fun U μ3 n1 f1 g1 q0 => ?_)
  refine X_putRF (tk_X9_init.at 16 rfl) fl_x9_26 (show U.2 P = some (kO 9 (va_up (va_up (fun _ => none) 0 (some (P + 1))) 1 (some (P + 33)))) from (f1 P (by omega)).trans d_2) rfl rfl rfl rfl ⟨rfl, rfl⟩ ?_
  generalize eT : Su U P (kO 9 (va_up (va_up (va_up (fun _ => none) 0 (some (P + 1))) 1 (some (P + 33))) 2 (some (P + 39)))) = S3
  have n_3 : S3.1 = P + 80 := by rw [← eT]; show U.1 = _; omega
  have d_3 : S3.2 P = some (kO 9 (va_up (va_up (va_up (fun _ => none) 0 (some (P + 1))) 1 (some (P + 33))) 2 (some (P + 39)))) := by rw [← eT]; exact Su_at
  have f_3 : ∀ a, P < a → a < P + 39 → S3.2 a = S2.2 a := fun a h1 h2 => by rw [← eT, Su_ne (by omega)]; exact f1 a h2
  have b_3 : ∀ a, a < P → S3.2 a = S.2 a := fun a h => by rw [← eT, Su_ne (by omega)]; exact (f1 a (by omega)).trans (b_2 a h)
  have g_3 : ∀ a, a < P + 39 → a ≠ P → μ3 a = μ2 a := fun a h _ => g1 a h
  have gD_3 : μ3 P = μ2 P := g1 P (by omega)
  have m_3 : ∀ a, a < P → μ3 a = μ a := fun a h => (g1 a (by omega)).trans (m_2 a h)
  have u_3 : ∀ a, a ≠ P → S3.2 a = U.2 a := fun a h => by rw [← eT]; exact Su_ne h
  have q_2 : OS G S3 (P + 39) := q0.1.fr (fun a h1 h2 => u_3 a (by omega)) (fun j hj => u_3 _ (by have := (hst j hj).1; omega))
  have w_2 : μ3 (P + 39 + 3 + 14) 1 = 0 := q0.2
  clear q0
  clear eT f1 n1 g1
  refine X_aload_n (tk_X9_init.at 17 rfl) rfl ?_
  refine X_sub (rest := [.ref P]) (kc := 13) (ci := 4) (n := 4) (A := P + 80) (F := fun S' μ' => RdS S' (P + 80) (P + 80 + 3) (G.2.2.2 10)) (tk_X9_init.at 18 rfl) (tk_X9_init.at 19 rfl) (by decide) cl_x9_30 io_4 in_4 df_4 (tk_X9_init.at 20 rfl) mn_X4_init lk_x9_32 np_X4_init (Nat.le_of_ble_eq_true rfl) (Nat.le_of_ble_eq_true rfl) n_3 (fun T τ e1 e2 e3 e4 => i4 e1 e2 (fun S' μ' a b => ⟨a, b⟩)) (fun U μ4 n1 f1 g1 q0 => ?_)
  refine X_putRF (tk_X9_init.at 21 rfl) fl_x9_33 (show U.2 P = some (kO 9 (va_up (va_up (va_up (fun _ => none) 0 (some (P + 1))) 1 (some (P + 33))) 2 (some (P + 39)))) from (f1 P (by omega)).trans d_3) rfl rfl rfl rfl ⟨rfl, rfl⟩ ?_
  generalize eT : Su U P (kO 9 (va_up (va_up (va_up (va_up (fun _ => none) 0 (some (P + 1))) 1 (some (P + 33))) 2 (some (P + 39))) 3 (some (P + 80)))) = S4
  have n_4 : S4.1 = P + 85 := by rw [← eT]; show U.1 = _; omega
  have d_4 : S4.2 P = some (kO 9 (va_up (va_up (va_up (va_up (fun _ => none) 0 (some (P + 1))) 1 (some (P + 33))) 2 (some (P + 39))) 3 (some (P + 80)))) := by rw [← eT]; exact Su_at
  have f_4 : ∀ a, P < a → a < P + 80 → S4.2 a = S3.2 a := fun a h1 h2 => by rw [← eT, Su_ne (by omega)]; exact f1 a h2
  have b_4 : ∀ a, a < P → S4.2 a = S.2 a := fun a h => by rw [← eT, Su_ne (by omega)]; exact (f1 a (by omega)).trans (b_3 a h)
  have g_4 : ∀ a, a < P + 80 → a ≠ P → μ4 a = μ3 a := fun a h _ => g1 a h
  have gD_4 : μ4 P = μ3 P := g1 P (by omega)
  have m_4 : ∀ a, a < P → μ4 a = μ a := fun a h => (g1 a (by omega)).trans (m_3 a h)
  have u_4 : ∀ a, a ≠ P → S4.2 a = U.2 a := fun a h => by rw [← eT]; exact Su_ne h
  have q_3 : RdS S4 (P + 80) (P + 80 + 3) (G.2.2.2 10) := ⟨(u_4 _ (by omega)).trans q0.1, q0.2.fr (u_4 _ (by omega)) (u_4 _ (by omega))⟩
  clear q0
  clear eT f1 n1 g1
  refine X_aload_n (tk_X9_init.at 22 rfl) rfl ?_
  refine X_sub (rest := [.ref P]) (kc := 10) (ci := 8) (n := 2) (A := P + 85) (F := fun S' μ' => VS S' (P + 85) ∧ μ' (P + 85 + 1) 1 = 0) (tk_X9_init.at 23 rfl) (tk_X9_init.at 24 rfl) (by decide) cl_x9_37 io_8 in_8 df_8 (tk_X9_init.at 25 rfl) mn_X8_init lk_x9_39 np_X8_init (Nat.le_of_ble_eq_true rfl) (Nat.le_of_ble_eq_true rfl) n_4 (fun T τ e1 e2 e3 e4 => i8 e1 e2 (fun S' μ' a b c => ⟨a, b, c⟩)) (fun U μ5 n1 f1 g1 q0 => ?_)
  refine X_putRF (tk_X9_init.at 26 rfl) fl_x9_40 (show U.2 P = some (kO 9 (va_up (va_up (va_up (va_up (fun _ => none) 0 (some (P + 1))) 1 (some (P + 33))) 2 (some (P + 39))) 3 (some (P + 80)))) from (f1 P (by omega)).trans d_4) rfl rfl rfl rfl ⟨rfl, rfl⟩ ?_
  generalize eT : Su U P (kO 9 (va_up (va_up (va_up (va_up (va_up (fun _ => none) 0 (some (P + 1))) 1 (some (P + 33))) 2 (some (P + 39))) 3 (some (P + 80))) 4 (some (P + 85)))) = S5
  have n_5 : S5.1 = P + 88 := by rw [← eT]; show U.1 = _; omega
  have d_5 : S5.2 P = some (kO 9 (va_up (va_up (va_up (va_up (va_up (fun _ => none) 0 (some (P + 1))) 1 (some (P + 33))) 2 (some (P + 39))) 3 (some (P + 80))) 4 (some (P + 85)))) := by rw [← eT]; exact Su_at
  have f_5 : ∀ a, P < a → a < P + 85 → S5.2 a = S4.2 a := fun a h1 h2 => by rw [← eT, Su_ne (by omega)]; exact f1 a h2
  have b_5 : ∀ a, a < P → S5.2 a = S.2 a := fun a h => by rw [← eT, Su_ne (by omega)]; exact (f1 a (by omega)).trans (b_4 a h)
  have g_5 : ∀ a, a < P + 85 → a ≠ P → μ5 a = μ4 a := fun a h _ => g1 a h
  have gD_5 : μ5 P = μ4 P := g1 P (by omega)
  have m_5 : ∀ a, a < P → μ5 a = μ a := fun a h => (g1 a (by omega)).trans (m_4 a h)
  have u_5 : ∀ a, a ≠ P → S5.2 a = U.2 a := fun a h => by rw [← eT]; exact Su_ne h
  have q_4 : VS S5 (P + 85) := ⟨(u_5 _ (by omega)).trans q0.1.1, q0.1.2.fr (u_5 _ (by omega)) (u_5 _ (by omega))⟩
  have w_4 : μ5 (P + 85 + 1) 1 = 0 := q0.2
  clear q0
  clear eT f1 n1 g1
  refine X_aload_n (tk_X9_init.at 27 rfl) rfl ?_
  refine X_iconst (tk_X9_init.at 28 rfl) ci_4 ?_
  refine X_newR (j := 1) (N := 4) (tk_X9_init.at 29 rfl) (by decide) cl_x9_44 (by decide) (by decide) (by decide) ?_
  rw [n_5]
  generalize eM : Mx μ5 (P + 88) (fun _ => 0) = μ6
  generalize eU : Sx S5 (kR 1 4 (fun _ => none)) = U
  have n1 : U.1 = P + 88 + 1 := by rw [← eU]; show S5.1 + 1 = _; omega
  have f1 : ∀ a, a < P + 88 → U.2 a = S5.2 a := fun a h => by rw [← eU]; unfold Sx; dsimp only; rw [if_neg (by omega)]
  have g1 : ∀ a, a < P + 88 → μ6 a = μ5 a := fun a h => by rw [← eM]; exact Mx_ne (by omega)
  have q0 : U.2 (P + 88) = some (kR 1 4 (fun _ => none)) := by rw [← eU]; unfold Sx; dsimp only; rw [if_pos (by omega)]
  clear eM eU
  refine X_putRF (tk_X9_init.at 30 rfl) fl_x9_46 (show U.2 P = some (kO 9 (va_up (va_up (va_up (va_up (va_up (fun _ => none) 0 (some (P + 1))) 1 (some (P + 33))) 2 (some (P + 39))) 3 (some (P + 80))) 4 (some (P + 85)))) from (f1 P (by omega)).trans d_5) rfl rfl rfl rfl ⟨rfl, rfl⟩ ?_
  generalize eT : Su U P (kO 9 (va_up (va_up (va_up (va_up (va_up (va_up (fun _ => none) 0 (some (P + 1))) 1 (some (P + 33))) 2 (some (P + 39))) 3 (some (P + 80))) 4 (some (P + 85))) 5 (some (P + 88)))) = S6
  have n_6 : S6.1 = P + 89 := by rw [← eT]; show U.1 = _; omega
  have d_6 : S6.2 P = some (kO 9 (va_up (va_up (va_up (va_up (va_up (va_up (fun _ => none) 0 (some (P + 1))) 1 (some (P + 33))) 2 (some (P + 39))) 3 (some (P + 80))) 4 (some (P + 85))) 5 (some (P + 88)))) := by rw [← eT]; exact Su_at
  have f_6 : ∀ a, P < a → a < P + 88 → S6.2 a = S5.2 a := fun a h1 h2 => by rw [← eT, Su_ne (by omega)]; exact f1 a h2
  have b_6 : ∀ a, a < P → S6.2 a = S.2 a := fun a h => by rw [← eT, Su_ne (by omega)]; exact (f1 a (by omega)).trans (b_5 a h)
  have g_6 : ∀ a, a < P + 88 → a ≠ P → μ6 a = μ5 a := fun a h _ => g1 a h
  have gD_6 : μ6 P = μ5 P := g1 P (by omega)
  have m_6 : ∀ a, a < P → μ6 a = μ a := fun a h => (g1 a (by omega)).trans (m_5 a h)
  have u_6 : ∀ a, a ≠ P → S6.2 a = U.2 a := fun a h => by rw [← eT]; exact Su_ne h
  have q_5 : S6.2 (P + 88) = some (kR 1 4 (fun _ => none)) := (u_6 _ (by omega)).trans q0
  clear q0
  clear eT f1 n1 g1
  refine X_aload_n (tk_X9_init.at 31 rfl) rfl ?_
  refine X_bipush (tk_X9_init.at 32 rfl) cb_6 ?_
  refine X_arr (A := P + 89) (N := 6) (tk_X9_init.at 33 rfl) (pl 6 rfl) (by decide) n_6 (fun U μ7 n1 q0 f1 g1 v0 => ?_)
  refine X_putRF (tk_X9_init.at 34 rfl) fl_x9_50 (show U.2 P = some (kO 9 (va_up (va_up (va_up (va_up (va_up (va_up (fun _ => none) 0 (some (P + 1))) 1 (some (P + 33))) 2 (some (P + 39))) 3 (some (P + 80))) 4 (some (P + 85))) 5 (some (P + 88)))) from (f1 P (by omega)).trans d_6) rfl rfl rfl rfl ⟨rfl, rfl⟩ ?_
  generalize eT : Su U P (kO 9 (va_up (va_up (va_up (va_up (va_up (va_up (va_up (fun _ => none) 0 (some (P + 1))) 1 (some (P + 33))) 2 (some (P + 39))) 3 (some (P + 80))) 4 (some (P + 85))) 5 (some (P + 88))) 6 (some (P + 89)))) = S7
  have n_7 : S7.1 = P + 90 := by rw [← eT]; show U.1 = _; omega
  have d_7 : S7.2 P = some (kO 9 (va_up (va_up (va_up (va_up (va_up (va_up (va_up (fun _ => none) 0 (some (P + 1))) 1 (some (P + 33))) 2 (some (P + 39))) 3 (some (P + 80))) 4 (some (P + 85))) 5 (some (P + 88))) 6 (some (P + 89)))) := by rw [← eT]; exact Su_at
  have f_7 : ∀ a, P < a → a < P + 89 → S7.2 a = S6.2 a := fun a h1 h2 => by rw [← eT, Su_ne (by omega)]; exact f1 a h2
  have b_7 : ∀ a, a < P → S7.2 a = S.2 a := fun a h => by rw [← eT, Su_ne (by omega)]; exact (f1 a (by omega)).trans (b_6 a h)
  have g_7 : ∀ a, a < P + 89 → a ≠ P → μ7 a = μ6 a := fun a h _ => g1 a h
  have gD_7 : μ7 P = μ6 P := g1 P (by omega)
  have m_7 : ∀ a, a < P → μ7 a = μ a := fun a h => (g1 a (by omega)).trans (m_6 a h)
  have u_7 : ∀ a, a ≠ P → S7.2 a = U.2 a := fun a h => by rw [← eT]; exact Su_ne h
  have q_6 : S7.2 (P + 89) = some (kI 6) := (u_7 _ (by omega)).trans q0
  have w_6 : ∀ i, μ7 (P + 89) i = 0 := v0
  clear q0 v0
  clear eT f1 n1 g1
  refine X_aload_n (tk_X9_init.at 35 rfl) rfl ?_
  refine X_null (tk_X9_init.at 36 rfl) ?_
  refine X_putN (tk_X9_init.at 37 rfl) fl_x9_54 d_7 rfl rfl ⟨rfl, rfl⟩ ?_
  generalize eT : Su S7 P (kO 9 (va_up (va_up (va_up (va_up (va_up (va_up (va_up (va_up (fun _ => none) 0 (some (P + 1))) 1 (some (P + 33))) 2 (some (P + 39))) 3 (some (P + 80))) 4 (some (P + 85))) 5 (some (P + 88))) 6 (some (P + 89))) 7 none)) = S8
  have n_8 : S8.1 = P + 90 := by rw [← eT]; exact n_7
  have d_8 : S8.2 P = some (kO 9 (va_up (va_up (va_up (va_up (va_up (va_up (va_up (va_up (fun _ => none) 0 (some (P + 1))) 1 (some (P + 33))) 2 (some (P + 39))) 3 (some (P + 80))) 4 (some (P + 85))) 5 (some (P + 88))) 6 (some (P + 89))) 7 none)) := by rw [← eT]; exact Su_at
  have f_8 : ∀ a, P < a → a < P + 90 → S8.2 a = S7.2 a := fun a h1 h2 => by rw [← eT]; exact Su_ne (by omega)
  have b_8 : ∀ a, a < P → S8.2 a = S.2 a := fun a h => by rw [← eT, Su_ne (by omega)]; exact b_7 a h
  clear eT
  obtain ⟨μ8, eμ8⟩ : ∃ T, μ7 = T := ⟨_, rfl⟩
  have g_8 : ∀ a, a < P + 90 → a ≠ P → μ8 a = μ7 a := fun a _ _ => by rw [eμ8]
  have m_8 : ∀ a, a < P → μ8 a = μ a := eμ8 ▸ m_7
  rw [eμ8]
  refine X_aload_n (tk_X9_init.at 38 rfl) rfl ?_
  refine X_iconst (tk_X9_init.at 39 rfl) ci_0 ?_
  refine X_putI (tk_X9_init.at 40 rfl) fl_x9_57 d_8 rfl rfl ⟨rfl, rfl⟩ ?_
  generalize eT : su μ8 P 8 0 = μ9
  have g_9 : ∀ a, a < P + 90 → a ≠ P → μ9 a = μ8 a := fun a _ h => by rw [← eT]; exact su_ne h
  have gk_9 : ∀ k, k ≠ 8 → μ9 P k = μ8 P k := fun k h => by rw [← eT, su_same]; exact upd_ne _ _ h
  have z_8 : μ9 P 8 = 0 := by rw [← eT, su_same, upd_at]
  have m_9 : ∀ a, a < P → μ9 a = μ a := fun a h => (g_9 a (by omega) (by omega)).trans (m_8 a h)
  clear eT
  obtain ⟨S9, eS9⟩ : ∃ T, S8 = T := ⟨_, rfl⟩
  have n_9 : S9.1 = P + 90 := eS9 ▸ n_8
  have d_9 : S9.2 P = some (kO 9 (va_up (va_up (va_up (va_up (va_up (va_up (va_up (va_up (fun _ => none) 0 (some (P + 1))) 1 (some (P + 33))) 2 (some (P + 39))) 3 (some (P + 80))) 4 (some (P + 85))) 5 (some (P + 88))) 6 (some (P + 89))) 7 none)) := eS9 ▸ d_8
  have f_9 : ∀ a, P < a → a < P + 90 → S9.2 a = S8.2 a := fun a _ _ => by rw [eS9]
  have b_9 : ∀ a, a < P → S9.2 a = S.2 a := eS9 ▸ b_8
  rw [eS9]
  refine X_iconst (tk_X9_init.at 41 rfl) ci_0 ?_
  refine X_istore_n (lv' := [(0, _), (1, _)]) (tk_X9_init.at 42 rfl) (by decide) rfl rfl ?_
  have F_9 : ∀ a, P < a → a < P + 90 → S9.2 a = S9.2 a := fun _ _ _ => rfl
  have E_9 : ∀ a, P < a → a < P + 90 → μ9 a = μ9 a := fun _ _ _ => rfl
  have F_8 : ∀ a, P < a → a < P + 90 → S9.2 a = S8.2 a := fun a h1 h2 => (F_9 a h1 (by omega)).trans (f_9 a h1 h2)
  have E_8 : ∀ a, P < a → a < P + 90 → μ9 a = μ8 a := fun a h1 h2 => (E_9 a h1 (by omega)).trans (g_9 a h2 (by omega))
  have F_7 : ∀ a, P < a → a < P + 90 → S9.2 a = S7.2 a := fun a h1 h2 => (F_8 a h1 (by omega)).trans (f_8 a h1 h2)
  have E_7 : ∀ a, P < a → a < P + 90 → μ9 a = μ7 a := fun a h1 h2 => (E_8 a h1 (by omega)).trans (g_8 a h2 (by omega))
  have F_6 : ∀ a, P < a → a < P + 89 → S9.2 a = S6.2 a := fun a h1 h2 => (F_7 a h1 (by omega)).trans (f_7 a h1 h2)
  have E_6 : ∀ a, P < a → a < P + 89 → μ9 a = μ6 a := fun a h1 h2 => (E_7 a h1 (by omega)).trans (g_7 a h2 (by omega))
  have F_5 : ∀ a, P < a → a < P + 88 → S9.2 a = S5.2 a := fun a h1 h2 => (F_6 a h1 (by omega)).trans (f_6 a h1 h2)
  have E_5 : ∀ a, P < a → a < P + 88 → μ9 a = μ5 a := fun a h1 h2 => (E_6 a h1 (by omega)).trans (g_6 a h2 (by omega))
  have F_4 : ∀ a, P < a → a < P + 85 → S9.2 a = S4.2 a := fun a h1 h2 => (F_5 a h1 (by omega)).trans (f_5 a h1 h2)
  have E_4 : ∀ a, P < a → a < P + 85 → μ9 a = μ4 a := fun a h1 h2 => (E_5 a h1 (by omega)).trans (g_5 a h2 (by omega))
  have F_3 : ∀ a, P < a → a < P + 80 → S9.2 a = S3.2 a := fun a h1 h2 => (F_4 a h1 (by omega)).trans (f_4 a h1 h2)
  have E_3 : ∀ a, P < a → a < P + 80 → μ9 a = μ3 a := fun a h1 h2 => (E_4 a h1 (by omega)).trans (g_4 a h2 (by omega))
  have F_2 : ∀ a, P < a → a < P + 39 → S9.2 a = S2.2 a := fun a h1 h2 => (F_3 a h1 (by omega)).trans (f_3 a h1 h2)
  have E_2 : ∀ a, P < a → a < P + 39 → μ9 a = μ2 a := fun a h1 h2 => (E_3 a h1 (by omega)).trans (g_3 a h2 (by omega))
  have F_1 : ∀ a, P < a → a < P + 33 → S9.2 a = S1.2 a := fun a h1 h2 => (F_2 a h1 (by omega)).trans (f_2 a h1 h2)
  have E_1 : ∀ a, P < a → a < P + 33 → μ9 a = μ1 a := fun a h1 h2 => (E_2 a h1 (by omega)).trans (g_2 a h2 (by omega))
  have er : (va_up (va_up (va_up (va_up (va_up (va_up (va_up (va_up (fun _ => none) 0 (some (P + 1))) 1 (some (P + 33))) 2 (some (P + 39))) 3 (some (P + 80))) 4 (some (P + 85))) 5 (some (P + 88))) 6 (some (P + 89))) 7 none) = rP P none := funext (fun k => by rcases k with _ | _ | _ | _ | _ | _ | _ | _ | k <;> rfl)
  have a88 : S9.2 (P + 88) = some (kR 1 4 (fun _ => none)) := (F_6 _ (by omega) (by omega)).trans q_5
  have loop : ∀ (m i : Nat) (T : Sh) (τ : Mu) (q : Nat → Option Nat), i + m = 4 → T.1 = P + 90 + 2 * i → T.2 (P + 88) = some (kR 1 4 q) → (∀ k, k < i → q k = some (P + 90 + 2 * k)) → (∀ a, a < P + 90 → a ≠ P + 88 → T.2 a = S9.2 a) → (∀ a, a < P + 90 → τ a = μ9 a) → (∀ k, k < i → HS T (P + 90 + 2 * k) ∧ τ (P + 90 + 2 * k) 1 = 0 ∧ τ (P + 90 + 2 * k) 2 = 0 ∧ ∀ j, τ (P + 90 + 2 * k + 1) j = 0) → X G mi_X9_init (d + 6) (2 * m) 87 [(0, .ref P), (1, .int (nI i))] [] T τ (qv K) := by
    intro m
    induction m with
    | zero =>
      intro i T τ q hi hT hq hqk fT fτ hrow
      have ei : i = 4 := by omega
      subst ei
      refine X_kR (r' := fun i => some (P + 90 + 2 * i)) hq hqk ?_
      generalize eV : Su T (P + 88) (kR 1 4 (fun i => some (P + 90 + 2 * i))) = V
      have v88 : V.2 (P + 88) = some (kR 1 4 (fun i => some (P + 90 + 2 * i))) := by rw [← eV]; exact Su_at
      have vN : ∀ a, a ≠ P + 88 → V.2 a = T.2 a := fun a h => by rw [← eV]; exact Su_ne h
      have vS : ∀ a, a < P + 90 → a ≠ P + 88 → V.2 a = S9.2 a := fun a h1 h2 => (vN a h2).trans (fT a h1 h2)
      have vD : V.2 P = some (kO 9 (va_up (va_up (va_up (va_up (va_up (va_up (va_up (va_up (fun _ => none) 0 (some (P + 1))) 1 (some (P + 33))) 2 (some (P + 39))) 3 (some (P + 80))) 4 (some (P + 85))) 5 (some (P + 88))) 6 (some (P + 89))) 7 none)) := (vS P (by omega) (by omega)).trans d_9
      have vb : ∀ a, a < P → V.2 a = S.2 a := fun a h => (vS a (by omega) (by omega)).trans (b_9 a h)
      refine X_iload_n (tk_X9_init.at 43 rfl) rfl ?_
      refine X_aload_n (tk_X9_init.at 44 rfl) rfl ?_
      refine X_getR (tk_X9_init.at 45 rfl) fl_x9_46 vD rfl rfl ?_
      refine X_alenR (tk_X9_init.at 46 rfl) v88 ?_
      refine X_icmp_geN (tgt := 115) (tk_X9_init.at 47 rfl) (by decide) (pl 4 rfl) rfl (by decide) (by decide) (fun _ => ?_) (fun h => absurd h (Nat.lt_irrefl 4))
      refine X_return (tk_X9_init.at 57 rfl) rfl ?_
      refine hK V τ ⟨by rw [← eV]; show T.1 = S.1 + 97; omega, vb, fun a h => (fτ a (by omega)).trans (m_9 a h)⟩ ⟨by rw [vD, er], q_0.fr (fun a h1 h2 => (vS a (by omega) (by omega)).trans (F_1 a (by omega) (by omega))) (fun j hj => by rw [vb _ (hst j hj).1, b_1 _ (hst j hj).1]), q_1.fr (fun a h1 h2 => (vS a (by omega) (by omega)).trans (F_2 a (by omega) (by omega))), q_2.fr (fun a h1 h2 => (vS a (by omega) (by omega)).trans (F_3 a (by omega) (by omega))) (fun j hj => by rw [vb _ (hst j hj).1, b_3 _ (hst j hj).1]), ⟨((vS _ (by omega) (by omega)).trans (F_4 _ (by omega) (by omega))).trans q_3.1, q_3.2.fr ((vS _ (by omega) (by omega)).trans (F_4 _ (by omega) (by omega))) ((vS _ (by omega) (by omega)).trans (F_4 _ (by omega) (by omega)))⟩, ⟨((vS _ (by omega) (by omega)).trans (F_5 _ (by omega) (by omega))).trans q_4.1, q_4.2.fr ((vS _ (by omega) (by omega)).trans (F_5 _ (by omega) (by omega))) ((vS _ (by omega) (by omega)).trans (F_5 _ (by omega) (by omega)))⟩, v88, ((vS _ (by omega) (by omega)).trans (F_7 _ (by omega) (by omega))).trans q_6, fun i hi => ⟨(vN _ (by omega)).trans (hrow i hi).1.1, (vN _ (by omega)).trans (hrow i hi).1.2⟩⟩ (repD_of w_0 (fun a h1 h2 => by rw [fτ _ (by omega), E_1 _ (by omega) (by omega)])) (by rw [fτ P (by omega)]; exact z_8) (by rw [fτ _ (by omega), E_3 _ (by omega) (by omega)]; exact w_2) (by rw [fτ _ (by omega), E_5 _ (by omega) (by omega)]; exact w_4) (fun i => by rw [fτ _ (by omega), E_7 _ (by omega) (by omega)]; exact w_6 i) (fun s hs => (hrow s hs).2)
    | succ m ih =>
      intro i T τ q hi hT hq hqk fT fτ hrow
      have tD : T.2 P = some (kO 9 (va_up (va_up (va_up (va_up (va_up (va_up (va_up (va_up (fun _ => none) 0 (some (P + 1))) 1 (some (P + 33))) 2 (some (P + 39))) 3 (some (P + 80))) 4 (some (P + 85))) 5 (some (P + 88))) 6 (some (P + 89))) 7 none)) := (fT P (by omega) (by omega)).trans d_9
      refine X_iload_n (tk_X9_init.at 43 rfl) rfl ?_
      refine X_aload_n (tk_X9_init.at 44 rfl) rfl ?_
      refine X_getR (tk_X9_init.at 45 rfl) fl_x9_46 tD rfl rfl ?_
      refine X_alenR (tk_X9_init.at 46 rfl) hq ?_
      refine X_icmp_geN (tgt := 115) (tk_X9_init.at 47 rfl) (by decide) (pl i rfl) rfl (by omega) (by decide) (fun h => by exfalso; omega) (fun _ => ?_)
      refine X_aload_n (tk_X9_init.at 48 rfl) rfl ?_
      refine X_getR (tk_X9_init.at 49 rfl) fl_x9_46 tD rfl rfl ?_
      refine X_iload_n (tk_X9_init.at 50 rfl) rfl ?_
      rw [show 2 * (m + 1) = 1 + 2 * m + 1 by omega]
      refine X_sub (rest := [.int (nI i), .ref (P + 88), .ref P].take 2) (kc := 2 * m) (ci := 7) (n := 1) (A := P + 90 + 2 * i) (F := fun S' μ' => HS S' (P + 90 + 2 * i) ∧ μ' (P + 90 + 2 * i) 1 = 0 ∧ μ' (P + 90 + 2 * i) 2 = 0 ∧ ∀ j, μ' (P + 90 + 2 * i + 1) j = 0) (tk_X9_init.at 51 rfl) (tk_X9_init.at 52 rfl) (by decide) cl_x9_44 io_7 in_7 df_7 (tk_X9_init.at 53 rfl) mn_X7_init lk_x9_61 np_X7_init (Nat.le_of_ble_eq_true rfl) (Nat.le_of_ble_eq_true rfl) hT (fun T τ e1 e2 e3 e4 => i7 e1 e2 (fun S' μ' a b c e f => ⟨a, b, c, e, f⟩)) (fun U υ n1 f1 g1 q0 => ?_)
      refine X_aast (tk_X9_init.at 54 rfl) (show U.2 (P + 88) = some (kR 1 4 q) from (f1 _ (by omega)).trans hq) (vp_in_nI (by omega) (by decide)) q0.1.1 (by decide) rfl ?_
      refine X_iinc (lv' := [(0, _), (1, _)]) (tk_X9_init.at 55 rfl) rfl ci_1 (by decide) rfl rfl ?_
      refine X_goto (tgt := 87) (tk_X9_init.at 56 rfl) (by decide) ?_
      rw [nI_1 i, show (nI i).toNatClampNeg = i from nv_nI (by omega)]
      refine ih (i + 1) _ υ (va_up q i (some (P + 90 + 2 * i))) (by omega) (by show U.1 = _; omega) Su_at (fun k hk => ?_) (fun a h1 h2 => by rw [Su_ne h2, f1 a (by omega)]; exact fT a h1 h2) (fun a h => (g1 a (by omega)).trans (fτ a h)) (fun k hk => ?_)
      · unfold va_up; by_cases e : k = i; rw [if_pos e, e]; rw [if_neg e]; exact hqk k (by omega)
      · by_cases e : k = i
        · subst e; exact ⟨⟨(Su_ne (by omega)).trans q0.1.1, (Su_ne (by omega)).trans q0.1.2⟩, q0.2⟩
        · have z := hrow k (by omega)
          exact ⟨⟨by rw [Su_ne (by omega), f1 _ (by omega)]; exact z.1.1, by rw [Su_ne (by omega), f1 _ (by omega)]; exact z.1.2⟩, by rw [g1 _ (by omega)]; exact z.2.1, by rw [g1 _ (by omega)]; exact z.2.2.1, fun j => by rw [g1 _ (by omega)]; exact z.2.2.2 j⟩
  exact loop 4 0 S9 μ9 (fun _ => none) rfl n_9 a88 (fun k hk => absurd hk (Nat.not_lt_zero k)) (fun a h1 h2 => rfl) (fun a h => rfl) (fun k hk => absurd hk (Nat.not_lt_zero k))
