/-- the reference's cells in the order of their making -/
def kdM (t : Nat → Option Nat) (i : Nat) : Kd := match i with
  | 0 => kI 314
  | 1 => kI 314
  | 2 => kI 314
  | 3 => kI 6
  | 4 => kR 2 2 t
  | 5 => kI 60
  | 6 => kI 5
  | 7 => kI 60
  | 8 => kI 48
  | 9 => kI 6
  | 10 => kI 6
  | 11 => kI 6
  | 12 => kI 40
  | 13 => kI 4
  | 14 => kI 4
  | 15 => kI 160
  | _ => kI 40
def Cst (S0 : Sh) (μ0 : Mu) (o : Nat) (kd : Nat → Kd) (k : Nat) (r : Nat → Option Nat) (S : Sh) (μ : Mu) : Prop := S.1 = o + (k + 1) ∧ S.2 o = some (kO 10 r) ∧ (∀ a, a < o → S.2 a = S0.2 a) ∧ (∀ a, a < o → μ a = μ0 a) ∧ μ o = μ0 o ∧ ∀ i, i < k → S.2 (o + (i + 1)) = some (kd i) ∧ ∀ j, μ (o + (i + 1)) j = 0
theorem Cst.put {S0 S U : Sh} {μ0 μ τ : Mu} {o k : Nat} {kd : Nat → Kd} {r r' : Nat → Option Nat} (c : Cst S0 μ0 o kd k r S μ) (n1 : U.1 = o + (k + 1) + 1) (q0 : U.2 (o + (k + 1)) = some (kd k)) (f1 : ∀ a, a < o + (k + 1) → U.2 a = S.2 a) (g1 : ∀ a, a < o + (k + 1) → τ a = μ a) (v0 : ∀ i, τ (o + (k + 1)) i = 0) : Cst S0 μ0 o kd (k + 1) r' (Su U o (kO 10 r')) τ := by
  refine ⟨n1, Su_at, fun a h => ?_, fun a h => ?_, ?_, fun i hi => ?_⟩
  · rw [Su_ne (by omega), f1 a (by omega)]; exact c.2.2.1 a h
  · rw [g1 a (by omega)]; exact c.2.2.2.1 a h
  · rw [g1 o (by omega)]; exact c.2.2.2.2.1
  · rw [Su_ne (by omega)]
    by_cases e : i = k
    · subst e; exact ⟨q0, v0⟩
    · rw [f1 _ (by omega), g1 _ (by omega)]; exact c.2.2.2.2.2 i (by omega)
theorem Cst.D {S0 S U : Sh} {μ0 μ : Mu} {o k : Nat} {kd : Nat → Kd} {r : Nat → Option Nat} (c : Cst S0 μ0 o kd k r S μ) (f1 : ∀ a, a < o + (k + 1) → U.2 a = S.2 a) : U.2 o = some (kO 10 r) := (f1 o (by omega)).trans c.2.1
theorem N0_of {f : Nat → Int32} (h : ∀ k, f k = 0) : upd (upd f 0 60) 7 1 = N0 := by
  funext k
  unfold N0
  by_cases k7 : k = 7
  · subst k7; rw [upd_at, if_neg (by decide), if_pos rfl]
  · rw [upd_ne _ _ k7]
    by_cases k0 : k = 0
    · subst k0; rw [upd_at, if_pos rfl]
    · rw [upd_ne _ _ k0, if_neg k0, if_neg k7]; exact h k
set_option maxHeartbeats 4000000 in
theorem i10 {G : Gl} {d : Nat} {S : Sh} {μ : Mu} {o : Nat} {K : Sh → Mu → Prop} (hS : S.1 = o + 1) (hD : S.2 o = some (kO 10 (fun _ => none))) (hz : ∀ k, μ o k = 0) (hT : ∀ u, u < 2 → G.2.2.2 (11 + u) < o ∧ S.2 (G.2.2.2 (11 + u)) = some (kT (11 + u))) (hK : ∀ S' μ', Nw S S' μ μ' o 17 → MS S' o (fun u => G.2.2.2 (11 + u)) → μ' (o + 1) = N0 → (∀ k, μ' o k = 0) → (∀ i, μ' (o + 4) i = 0) → (∀ i, μ' (o + 14) i = 0) → (∀ i, μ' (o + 15) i = 0) → (∀ i, μ' (o + 16) i = 0) → K S' μ') : X G mi_X10_init (d + 1) 17 0 [(0, .ref o)] [] S μ (qv K) := by
  have c_0 : Cst S μ o (kdM fun k => some (G.2.2.2 (11 + k))) 0 (fun _ => none) S μ := ⟨hS, hD, fun _ _ => rfl, fun _ _ => rfl, rfl, fun i hi => absurd hi (Nat.not_lt_zero i)⟩
  refine X_aload_n (tk_X10_init.at 0 rfl) rfl ?_
  refine X_objInit (tk_X10_init.at 1 rfl) lk_x10_3 (Nat.le_of_ble_eq_true rfl) ?_
  refine X_aload_n (tk_X10_init.at 2 rfl) rfl ?_
  refine X_sipush (tk_X10_init.at 3 rfl) cs_314 ?_
  refine X_arr (A := o + (0 + 1)) (N := 314) (tk_X10_init.at 4 rfl) (pl 314 rfl) (by decide) c_0.1 (fun U μ1 n1 q0 f1 g1 v0 => ?_)
  refine X_putRF (tk_X10_init.at 5 rfl) fl_x10_9 (show U.2 o = some (kO 10 (fun _ => none)) from c_0.D f1) rfl rfl rfl rfl ⟨rfl, rfl⟩ ?_
  have c_1 : Cst S μ o (kdM fun k => some (G.2.2.2 (11 + k))) 1 (va_up (fun _ => none) 0 (some (o + (0 + 1)))) (Su U o (kO 10 (va_up (fun _ => none) 0 (some (o + (0 + 1)))))) μ1 := c_0.put n1 q0 f1 g1 v0
  generalize Su U o (kO 10 (va_up (fun _ => none) 0 (some (o + (0 + 1))))) = S1 at c_1 ⊢
  clear c_0 n1 q0 f1 g1 v0
  refine X_aload_n (tk_X10_init.at 6 rfl) rfl ?_
  refine X_sipush (tk_X10_init.at 7 rfl) cs_314 ?_
  refine X_arr (A := o + (1 + 1)) (N := 314) (tk_X10_init.at 8 rfl) (pl 314 rfl) (by decide) c_1.1 (fun U μ2 n1 q0 f1 g1 v0 => ?_)
  refine X_putRF (tk_X10_init.at 9 rfl) fl_x10_13 (show U.2 o = some (kO 10 (va_up (fun _ => none) 0 (some (o + (0 + 1))))) from c_1.D f1) rfl rfl rfl rfl ⟨rfl, rfl⟩ ?_
  have c_2 : Cst S μ o (kdM fun k => some (G.2.2.2 (11 + k))) 2 (va_up (va_up (fun _ => none) 0 (some (o + (0 + 1)))) 1 (some (o + (1 + 1)))) (Su U o (kO 10 (va_up (va_up (fun _ => none) 0 (some (o + (0 + 1)))) 1 (some (o + (1 + 1)))))) μ2 := c_1.put n1 q0 f1 g1 v0
  generalize Su U o (kO 10 (va_up (va_up (fun _ => none) 0 (some (o + (0 + 1)))) 1 (some (o + (1 + 1))))) = S2 at c_2 ⊢
  clear c_1 n1 q0 f1 g1 v0
  refine X_aload_n (tk_X10_init.at 10 rfl) rfl ?_
  refine X_sipush (tk_X10_init.at 11 rfl) cs_314 ?_
  refine X_arr (A := o + (2 + 1)) (N := 314) (tk_X10_init.at 12 rfl) (pl 314 rfl) (by decide) c_2.1 (fun U μ3 n1 q0 f1 g1 v0 => ?_)
  refine X_putRF (tk_X10_init.at 13 rfl) fl_x10_16 (show U.2 o = some (kO 10 (va_up (va_up (fun _ => none) 0 (some (o + (0 + 1)))) 1 (some (o + (1 + 1))))) from c_2.D f1) rfl rfl rfl rfl ⟨rfl, rfl⟩ ?_
  have c_3 : Cst S μ o (kdM fun k => some (G.2.2.2 (11 + k))) 3 (va_up (va_up (va_up (fun _ => none) 0 (some (o + (0 + 1)))) 1 (some (o + (1 + 1)))) 2 (some (o + (2 + 1)))) (Su U o (kO 10 (va_up (va_up (va_up (fun _ => none) 0 (some (o + (0 + 1)))) 1 (some (o + (1 + 1)))) 2 (some (o + (2 + 1)))))) μ3 := c_2.put n1 q0 f1 g1 v0
  generalize Su U o (kO 10 (va_up (va_up (va_up (fun _ => none) 0 (some (o + (0 + 1)))) 1 (some (o + (1 + 1)))) 2 (some (o + (2 + 1))))) = S3 at c_3 ⊢
  clear c_2 n1 q0 f1 g1 v0
  refine X_aload_n (tk_X10_init.at 14 rfl) rfl ?_
  refine X_bipush (tk_X10_init.at 15 rfl) cb_6 ?_
  refine X_arr (A := o + (3 + 1)) (N := 6) (tk_X10_init.at 16 rfl) (pl 6 rfl) (by decide) c_3.1 (fun U μ4 n1 q0 f1 g1 v0 => ?_)
  refine X_putRF (tk_X10_init.at 17 rfl) fl_x10_19 (show U.2 o = some (kO 10 (va_up (va_up (va_up (fun _ => none) 0 (some (o + (0 + 1)))) 1 (some (o + (1 + 1)))) 2 (some (o + (2 + 1))))) from c_3.D f1) rfl rfl rfl rfl ⟨rfl, rfl⟩ ?_
  have c_4 : Cst S μ o (kdM fun k => some (G.2.2.2 (11 + k))) 4 (va_up (va_up (va_up (va_up (fun _ => none) 0 (some (o + (0 + 1)))) 1 (some (o + (1 + 1)))) 2 (some (o + (2 + 1)))) 4 (some (o + (3 + 1)))) (Su U o (kO 10 (va_up (va_up (va_up (va_up (fun _ => none) 0 (some (o + (0 + 1)))) 1 (some (o + (1 + 1)))) 2 (some (o + (2 + 1)))) 4 (some (o + (3 + 1)))))) μ4 := c_3.put n1 q0 f1 g1 v0
  generalize Su U o (kO 10 (va_up (va_up (va_up (va_up (fun _ => none) 0 (some (o + (0 + 1)))) 1 (some (o + (1 + 1)))) 2 (some (o + (2 + 1)))) 4 (some (o + (3 + 1))))) = S4 at c_4 ⊢
  clear c_3 n1 q0 f1 g1 v0
  refine X_aload_n (tk_X10_init.at 18 rfl) rfl ?_
  refine X_iconst (tk_X10_init.at 19 rfl) ci_2 ?_
  refine X_newR (j := 2) (N := 2) (tk_X10_init.at 20 rfl) (by decide) cl_x10_22 (by decide) (by decide) (by decide) ?_
  rw [c_4.1]
  generalize eM : Mx μ4 (o + (4 + 1)) (fun _ => 0) = μ5
  generalize eU : Sx S4 (kR 2 2 (fun _ => none)) = U0
  have cn := c_4.1
  have n0 : U0.1 = o + (4 + 1) + 1 := by rw [← eU]; show S4.1 + 1 = _; omega
  have f0 : ∀ a, a < o + (4 + 1) → U0.2 a = S4.2 a := fun a h => by rw [← eU]; unfold Sx; dsimp only; rw [if_neg (by omega)]
  have g1 : ∀ a, a < o + (4 + 1) → μ5 a = μ4 a := fun a h => by rw [← eM]; exact Mx_ne (by omega)
  have v0 : ∀ i, μ5 (o + (4 + 1)) i = 0 := fun i => by rw [← eM, Mx_same]
  have q00 : U0.2 (o + (4 + 1)) = some (kR 2 2 (fun _ => none)) := by rw [← eU]; unfold Sx; dsimp only; rw [if_pos (by omega)]
  clear eM eU
  have t0 : G.2.2.2 (11 + 0) < o ∧ U0.2 (G.2.2.2 (11 + 0)) = some (kT (11 + 0)) := by have z := hT 0 (by decide); refine ⟨z.1, ?_⟩; rw [f0 _ (Nat.lt_add_right _ z.1), c_4.2.2.1 _ z.1]; exact z.2
  have t1 : G.2.2.2 (11 + 1) < o ∧ U0.2 (G.2.2.2 (11 + 1)) = some (kT (11 + 1)) := by have z := hT 1 (by decide); refine ⟨z.1, ?_⟩; rw [f0 _ (Nat.lt_add_right _ z.1), c_4.2.2.1 _ z.1]; exact z.2
  refine X_dup (tk_X10_init.at 21 rfl) rfl ?_
  refine X_iconst (tk_X10_init.at 22 rfl) ci_0 ?_
  refine X_ldcS (tk_X10_init.at 23 rfl) (fun g => g.2.2.2.2.2.2.2.2.1) ?_
  refine X_aastT (t := 11) (tk_X10_init.at 24 rfl) q00 (by unfold vp_in; decide) t0.2 rfl ?_
  refine X_dup (tk_X10_init.at 25 rfl) rfl ?_
  refine X_iconst (tk_X10_init.at 26 rfl) ci_1 ?_
  refine X_ldcS (tk_X10_init.at 27 rfl) (fun g => g.2.2.2.2.2.2.2.2.2) ?_
  refine X_aastT (t := 12) (tk_X10_init.at 28 rfl) Su_at (by unfold vp_in; decide) ((Su_ne (Nat.ne_of_lt (Nat.lt_add_right _ t1.1))).trans t1.2) rfl ?_
  refine X_kR (r' := fun k => some (G.2.2.2 (11 + k))) Su_at (fun k hk => by rcases (show k = 0 ∨ k = 1 by omega) with rfl | rfl <;> rfl) ?_
  generalize eW : Su (Su (Su U0 (o + (4 + 1)) _) (o + (4 + 1)) _) (o + (4 + 1)) (kR 2 2 (fun k => some (G.2.2.2 (11 + k)))) = U
  have n1 : U.1 = o + (4 + 1) + 1 := by rw [← eW]; exact n0
  have f1 : ∀ a, a < o + (4 + 1) → U.2 a = S4.2 a := fun a h => by rw [← eW, Su_ne (Nat.ne_of_lt h), Su_ne (Nat.ne_of_lt h), Su_ne (Nat.ne_of_lt h)]; exact f0 a h
  have q0 : U.2 (o + (4 + 1)) = some (kR 2 2 (fun k => some (G.2.2.2 (11 + k)))) := by rw [← eW]; exact Su_at
  clear eW q00 f0 n0 t0 t1 cn
  refine X_putRF (tk_X10_init.at 29 rfl) fl_x10_28 (show U.2 o = some (kO 10 (va_up (va_up (va_up (va_up (fun _ => none) 0 (some (o + (0 + 1)))) 1 (some (o + (1 + 1)))) 2 (some (o + (2 + 1)))) 4 (some (o + (3 + 1))))) from c_4.D f1) rfl rfl rfl rfl ⟨rfl, rfl⟩ ?_
  have c_5 : Cst S μ o (kdM fun k => some (G.2.2.2 (11 + k))) 5 (va_up (va_up (va_up (va_up (va_up (fun _ => none) 0 (some (o + (0 + 1)))) 1 (some (o + (1 + 1)))) 2 (some (o + (2 + 1)))) 4 (some (o + (3 + 1)))) 6 (some (o + (4 + 1)))) (Su U o (kO 10 (va_up (va_up (va_up (va_up (va_up (fun _ => none) 0 (some (o + (0 + 1)))) 1 (some (o + (1 + 1)))) 2 (some (o + (2 + 1)))) 4 (some (o + (3 + 1)))) 6 (some (o + (4 + 1)))))) μ5 := c_4.put n1 q0 f1 g1 v0
  generalize Su U o (kO 10 (va_up (va_up (va_up (va_up (va_up (fun _ => none) 0 (some (o + (0 + 1)))) 1 (some (o + (1 + 1)))) 2 (some (o + (2 + 1)))) 4 (some (o + (3 + 1)))) 6 (some (o + (4 + 1))))) = S5 at c_5 ⊢
  clear c_4 n1 q0 f1 g1 v0
  refine X_aload_n (tk_X10_init.at 30 rfl) rfl ?_
  refine X_bipush (tk_X10_init.at 31 rfl) cb_60 ?_
  refine X_arr (A := o + (5 + 1)) (N := 60) (tk_X10_init.at 32 rfl) (pl 60 rfl) (by decide) c_5.1 (fun U μ6 n1 q0 f1 g1 v0 => ?_)
  refine X_putRF (tk_X10_init.at 33 rfl) fl_x10_32 (show U.2 o = some (kO 10 (va_up (va_up (va_up (va_up (va_up (fun _ => none) 0 (some (o + (0 + 1)))) 1 (some (o + (1 + 1)))) 2 (some (o + (2 + 1)))) 4 (some (o + (3 + 1)))) 6 (some (o + (4 + 1))))) from c_5.D f1) rfl rfl rfl rfl ⟨rfl, rfl⟩ ?_
  have c_6 : Cst S μ o (kdM fun k => some (G.2.2.2 (11 + k))) 6 (va_up (va_up (va_up (va_up (va_up (va_up (fun _ => none) 0 (some (o + (0 + 1)))) 1 (some (o + (1 + 1)))) 2 (some (o + (2 + 1)))) 4 (some (o + (3 + 1)))) 6 (some (o + (4 + 1)))) 11 (some (o + (5 + 1)))) (Su U o (kO 10 (va_up (va_up (va_up (va_up (va_up (va_up (fun _ => none) 0 (some (o + (0 + 1)))) 1 (some (o + (1 + 1)))) 2 (some (o + (2 + 1)))) 4 (some (o + (3 + 1)))) 6 (some (o + (4 + 1)))) 11 (some (o + (5 + 1)))))) μ6 := c_5.put n1 q0 f1 g1 v0
  generalize Su U o (kO 10 (va_up (va_up (va_up (va_up (va_up (va_up (fun _ => none) 0 (some (o + (0 + 1)))) 1 (some (o + (1 + 1)))) 2 (some (o + (2 + 1)))) 4 (some (o + (3 + 1)))) 6 (some (o + (4 + 1)))) 11 (some (o + (5 + 1))))) = S6 at c_6 ⊢
  clear c_5 n1 q0 f1 g1 v0
  refine X_aload_n (tk_X10_init.at 34 rfl) rfl ?_
  refine X_iconst (tk_X10_init.at 35 rfl) ci_5 ?_
  refine X_arr (A := o + (6 + 1)) (N := 5) (tk_X10_init.at 36 rfl) (pl 5 rfl) (by decide) c_6.1 (fun U μ7 n1 q0 f1 g1 v0 => ?_)
  refine X_putRF (tk_X10_init.at 37 rfl) fl_x10_35 (show U.2 o = some (kO 10 (va_up (va_up (va_up (va_up (va_up (va_up (fun _ => none) 0 (some (o + (0 + 1)))) 1 (some (o + (1 + 1)))) 2 (some (o + (2 + 1)))) 4 (some (o + (3 + 1)))) 6 (some (o + (4 + 1)))) 11 (some (o + (5 + 1))))) from c_6.D f1) rfl rfl rfl rfl ⟨rfl, rfl⟩ ?_
  have c_7 : Cst S μ o (kdM fun k => some (G.2.2.2 (11 + k))) 7 (va_up (va_up (va_up (va_up (va_up (va_up (va_up (fun _ => none) 0 (some (o + (0 + 1)))) 1 (some (o + (1 + 1)))) 2 (some (o + (2 + 1)))) 4 (some (o + (3 + 1)))) 6 (some (o + (4 + 1)))) 11 (some (o + (5 + 1)))) 13 (some (o + (6 + 1)))) (Su U o (kO 10 (va_up (va_up (va_up (va_up (va_up (va_up (va_up (fun _ => none) 0 (some (o + (0 + 1)))) 1 (some (o + (1 + 1)))) 2 (some (o + (2 + 1)))) 4 (some (o + (3 + 1)))) 6 (some (o + (4 + 1)))) 11 (some (o + (5 + 1)))) 13 (some (o + (6 + 1)))))) μ7 := c_6.put n1 q0 f1 g1 v0
  generalize Su U o (kO 10 (va_up (va_up (va_up (va_up (va_up (va_up (va_up (fun _ => none) 0 (some (o + (0 + 1)))) 1 (some (o + (1 + 1)))) 2 (some (o + (2 + 1)))) 4 (some (o + (3 + 1)))) 6 (some (o + (4 + 1)))) 11 (some (o + (5 + 1)))) 13 (some (o + (6 + 1))))) = S7 at c_7 ⊢
  clear c_6 n1 q0 f1 g1 v0
  refine X_aload_n (tk_X10_init.at 38 rfl) rfl ?_
  refine X_bipush (tk_X10_init.at 39 rfl) cb_60 ?_
  refine X_arr (A := o + (7 + 1)) (N := 60) (tk_X10_init.at 40 rfl) (pl 60 rfl) (by decide) c_7.1 (fun U μ8 n1 q0 f1 g1 v0 => ?_)
  refine X_putRF (tk_X10_init.at 41 rfl) fl_x10_38 (show U.2 o = some (kO 10 (va_up (va_up (va_up (va_up (va_up (va_up (va_up (fun _ => none) 0 (some (o + (0 + 1)))) 1 (some (o + (1 + 1)))) 2 (some (o + (2 + 1)))) 4 (some (o + (3 + 1)))) 6 (some (o + (4 + 1)))) 11 (some (o + (5 + 1)))) 13 (some (o + (6 + 1))))) from c_7.D f1) rfl rfl rfl rfl ⟨rfl, rfl⟩ ?_
  have c_8 : Cst S μ o (kdM fun k => some (G.2.2.2 (11 + k))) 8 (va_up (va_up (va_up (va_up (va_up (va_up (va_up (va_up (fun _ => none) 0 (some (o + (0 + 1)))) 1 (some (o + (1 + 1)))) 2 (some (o + (2 + 1)))) 4 (some (o + (3 + 1)))) 6 (some (o + (4 + 1)))) 11 (some (o + (5 + 1)))) 13 (some (o + (6 + 1)))) 14 (some (o + (7 + 1)))) (Su U o (kO 10 (va_up (va_up (va_up (va_up (va_up (va_up (va_up (va_up (fun _ => none) 0 (some (o + (0 + 1)))) 1 (some (o + (1 + 1)))) 2 (some (o + (2 + 1)))) 4 (some (o + (3 + 1)))) 6 (some (o + (4 + 1)))) 11 (some (o + (5 + 1)))) 13 (some (o + (6 + 1)))) 14 (some (o + (7 + 1)))))) μ8 := c_7.put n1 q0 f1 g1 v0
  generalize Su U o (kO 10 (va_up (va_up (va_up (va_up (va_up (va_up (va_up (va_up (fun _ => none) 0 (some (o + (0 + 1)))) 1 (some (o + (1 + 1)))) 2 (some (o + (2 + 1)))) 4 (some (o + (3 + 1)))) 6 (some (o + (4 + 1)))) 11 (some (o + (5 + 1)))) 13 (some (o + (6 + 1)))) 14 (some (o + (7 + 1))))) = S8 at c_8 ⊢
  clear c_7 n1 q0 f1 g1 v0
  refine X_aload_n (tk_X10_init.at 42 rfl) rfl ?_
  refine X_bipush (tk_X10_init.at 43 rfl) cb_48 ?_
  refine X_arr (A := o + (8 + 1)) (N := 48) (tk_X10_init.at 44 rfl) (pl 48 rfl) (by decide) c_8.1 (fun U μ9 n1 q0 f1 g1 v0 => ?_)
  refine X_putRF (tk_X10_init.at 45 rfl) fl_x10_41 (show U.2 o = some (kO 10 (va_up (va_up (va_up (va_up (va_up (va_up (va_up (va_up (fun _ => none) 0 (some (o + (0 + 1)))) 1 (some (o + (1 + 1)))) 2 (some (o + (2 + 1)))) 4 (some (o + (3 + 1)))) 6 (some (o + (4 + 1)))) 11 (some (o + (5 + 1)))) 13 (some (o + (6 + 1)))) 14 (some (o + (7 + 1))))) from c_8.D f1) rfl rfl rfl rfl ⟨rfl, rfl⟩ ?_
  have c_9 : Cst S μ o (kdM fun k => some (G.2.2.2 (11 + k))) 9 (va_up (va_up (va_up (va_up (va_up (va_up (va_up (va_up (va_up (fun _ => none) 0 (some (o + (0 + 1)))) 1 (some (o + (1 + 1)))) 2 (some (o + (2 + 1)))) 4 (some (o + (3 + 1)))) 6 (some (o + (4 + 1)))) 11 (some (o + (5 + 1)))) 13 (some (o + (6 + 1)))) 14 (some (o + (7 + 1)))) 15 (some (o + (8 + 1)))) (Su U o (kO 10 (va_up (va_up (va_up (va_up (va_up (va_up (va_up (va_up (va_up (fun _ => none) 0 (some (o + (0 + 1)))) 1 (some (o + (1 + 1)))) 2 (some (o + (2 + 1)))) 4 (some (o + (3 + 1)))) 6 (some (o + (4 + 1)))) 11 (some (o + (5 + 1)))) 13 (some (o + (6 + 1)))) 14 (some (o + (7 + 1)))) 15 (some (o + (8 + 1)))))) μ9 := c_8.put n1 q0 f1 g1 v0
  generalize Su U o (kO 10 (va_up (va_up (va_up (va_up (va_up (va_up (va_up (va_up (va_up (fun _ => none) 0 (some (o + (0 + 1)))) 1 (some (o + (1 + 1)))) 2 (some (o + (2 + 1)))) 4 (some (o + (3 + 1)))) 6 (some (o + (4 + 1)))) 11 (some (o + (5 + 1)))) 13 (some (o + (6 + 1)))) 14 (some (o + (7 + 1)))) 15 (some (o + (8 + 1))))) = S9 at c_9 ⊢
  clear c_8 n1 q0 f1 g1 v0
  refine X_aload_n (tk_X10_init.at 46 rfl) rfl ?_
  refine X_bipush (tk_X10_init.at 47 rfl) cb_6 ?_
  refine X_arr (A := o + (9 + 1)) (N := 6) (tk_X10_init.at 48 rfl) (pl 6 rfl) (by decide) c_9.1 (fun U μ10 n1 q0 f1 g1 v0 => ?_)
  refine X_putRF (tk_X10_init.at 49 rfl) fl_x10_44 (show U.2 o = some (kO 10 (va_up (va_up (va_up (va_up (va_up (va_up (va_up (va_up (va_up (fun _ => none) 0 (some (o + (0 + 1)))) 1 (some (o + (1 + 1)))) 2 (some (o + (2 + 1)))) 4 (some (o + (3 + 1)))) 6 (some (o + (4 + 1)))) 11 (some (o + (5 + 1)))) 13 (some (o + (6 + 1)))) 14 (some (o + (7 + 1)))) 15 (some (o + (8 + 1))))) from c_9.D f1) rfl rfl rfl rfl ⟨rfl, rfl⟩ ?_
  have c_10 : Cst S μ o (kdM fun k => some (G.2.2.2 (11 + k))) 10 (va_up (va_up (va_up (va_up (va_up (va_up (va_up (va_up (va_up (va_up (fun _ => none) 0 (some (o + (0 + 1)))) 1 (some (o + (1 + 1)))) 2 (some (o + (2 + 1)))) 4 (some (o + (3 + 1)))) 6 (some (o + (4 + 1)))) 11 (some (o + (5 + 1)))) 13 (some (o + (6 + 1)))) 14 (some (o + (7 + 1)))) 15 (some (o + (8 + 1)))) 16 (some (o + (9 + 1)))) (Su U o (kO 10 (va_up (va_up (va_up (va_up (va_up (va_up (va_up (va_up (va_up (va_up (fun _ => none) 0 (some (o + (0 + 1)))) 1 (some (o + (1 + 1)))) 2 (some (o + (2 + 1)))) 4 (some (o + (3 + 1)))) 6 (some (o + (4 + 1)))) 11 (some (o + (5 + 1)))) 13 (some (o + (6 + 1)))) 14 (some (o + (7 + 1)))) 15 (some (o + (8 + 1)))) 16 (some (o + (9 + 1)))))) μ10 := c_9.put n1 q0 f1 g1 v0
  generalize Su U o (kO 10 (va_up (va_up (va_up (va_up (va_up (va_up (va_up (va_up (va_up (va_up (fun _ => none) 0 (some (o + (0 + 1)))) 1 (some (o + (1 + 1)))) 2 (some (o + (2 + 1)))) 4 (some (o + (3 + 1)))) 6 (some (o + (4 + 1)))) 11 (some (o + (5 + 1)))) 13 (some (o + (6 + 1)))) 14 (some (o + (7 + 1)))) 15 (some (o + (8 + 1)))) 16 (some (o + (9 + 1))))) = S10 at c_10 ⊢
  clear c_9 n1 q0 f1 g1 v0
  refine X_aload_n (tk_X10_init.at 50 rfl) rfl ?_
  refine X_bipush (tk_X10_init.at 51 rfl) cb_6 ?_
  refine X_arr (A := o + (10 + 1)) (N := 6) (tk_X10_init.at 52 rfl) (pl 6 rfl) (by decide) c_10.1 (fun U μ11 n1 q0 f1 g1 v0 => ?_)
  refine X_putRF (tk_X10_init.at 53 rfl) fl_x10_47 (show U.2 o = some (kO 10 (va_up (va_up (va_up (va_up (va_up (va_up (va_up (va_up (va_up (va_up (fun _ => none) 0 (some (o + (0 + 1)))) 1 (some (o + (1 + 1)))) 2 (some (o + (2 + 1)))) 4 (some (o + (3 + 1)))) 6 (some (o + (4 + 1)))) 11 (some (o + (5 + 1)))) 13 (some (o + (6 + 1)))) 14 (some (o + (7 + 1)))) 15 (some (o + (8 + 1)))) 16 (some (o + (9 + 1))))) from c_10.D f1) rfl rfl rfl rfl ⟨rfl, rfl⟩ ?_
  have c_11 : Cst S μ o (kdM fun k => some (G.2.2.2 (11 + k))) 11 (va_up (va_up (va_up (va_up (va_up (va_up (va_up (va_up (va_up (va_up (va_up (fun _ => none) 0 (some (o + (0 + 1)))) 1 (some (o + (1 + 1)))) 2 (some (o + (2 + 1)))) 4 (some (o + (3 + 1)))) 6 (some (o + (4 + 1)))) 11 (some (o + (5 + 1)))) 13 (some (o + (6 + 1)))) 14 (some (o + (7 + 1)))) 15 (some (o + (8 + 1)))) 16 (some (o + (9 + 1)))) 18 (some (o + (10 + 1)))) (Su U o (kO 10 (va_up (va_up (va_up (va_up (va_up (va_up (va_up (va_up (va_up (va_up (va_up (fun _ => none) 0 (some (o + (0 + 1)))) 1 (some (o + (1 + 1)))) 2 (some (o + (2 + 1)))) 4 (some (o + (3 + 1)))) 6 (some (o + (4 + 1)))) 11 (some (o + (5 + 1)))) 13 (some (o + (6 + 1)))) 14 (some (o + (7 + 1)))) 15 (some (o + (8 + 1)))) 16 (some (o + (9 + 1)))) 18 (some (o + (10 + 1)))))) μ11 := c_10.put n1 q0 f1 g1 v0
  generalize Su U o (kO 10 (va_up (va_up (va_up (va_up (va_up (va_up (va_up (va_up (va_up (va_up (va_up (fun _ => none) 0 (some (o + (0 + 1)))) 1 (some (o + (1 + 1)))) 2 (some (o + (2 + 1)))) 4 (some (o + (3 + 1)))) 6 (some (o + (4 + 1)))) 11 (some (o + (5 + 1)))) 13 (some (o + (6 + 1)))) 14 (some (o + (7 + 1)))) 15 (some (o + (8 + 1)))) 16 (some (o + (9 + 1)))) 18 (some (o + (10 + 1))))) = S11 at c_11 ⊢
  clear c_10 n1 q0 f1 g1 v0
  refine X_aload_n (tk_X10_init.at 54 rfl) rfl ?_
  refine X_bipush (tk_X10_init.at 55 rfl) cb_6 ?_
  refine X_arr (A := o + (11 + 1)) (N := 6) (tk_X10_init.at 56 rfl) (pl 6 rfl) (by decide) c_11.1 (fun U μ12 n1 q0 f1 g1 v0 => ?_)
  refine X_putRF (tk_X10_init.at 57 rfl) fl_x10_50 (show U.2 o = some (kO 10 (va_up (va_up (va_up (va_up (va_up (va_up (va_up (va_up (va_up (va_up (va_up (fun _ => none) 0 (some (o + (0 + 1)))) 1 (some (o + (1 + 1)))) 2 (some (o + (2 + 1)))) 4 (some (o + (3 + 1)))) 6 (some (o + (4 + 1)))) 11 (some (o + (5 + 1)))) 13 (some (o + (6 + 1)))) 14 (some (o + (7 + 1)))) 15 (some (o + (8 + 1)))) 16 (some (o + (9 + 1)))) 18 (some (o + (10 + 1))))) from c_11.D f1) rfl rfl rfl rfl ⟨rfl, rfl⟩ ?_
  have c_12 : Cst S μ o (kdM fun k => some (G.2.2.2 (11 + k))) 12 (va_up (va_up (va_up (va_up (va_up (va_up (va_up (va_up (va_up (va_up (va_up (va_up (fun _ => none) 0 (some (o + (0 + 1)))) 1 (some (o + (1 + 1)))) 2 (some (o + (2 + 1)))) 4 (some (o + (3 + 1)))) 6 (some (o + (4 + 1)))) 11 (some (o + (5 + 1)))) 13 (some (o + (6 + 1)))) 14 (some (o + (7 + 1)))) 15 (some (o + (8 + 1)))) 16 (some (o + (9 + 1)))) 18 (some (o + (10 + 1)))) 19 (some (o + (11 + 1)))) (Su U o (kO 10 (va_up (va_up (va_up (va_up (va_up (va_up (va_up (va_up (va_up (va_up (va_up (va_up (fun _ => none) 0 (some (o + (0 + 1)))) 1 (some (o + (1 + 1)))) 2 (some (o + (2 + 1)))) 4 (some (o + (3 + 1)))) 6 (some (o + (4 + 1)))) 11 (some (o + (5 + 1)))) 13 (some (o + (6 + 1)))) 14 (some (o + (7 + 1)))) 15 (some (o + (8 + 1)))) 16 (some (o + (9 + 1)))) 18 (some (o + (10 + 1)))) 19 (some (o + (11 + 1)))))) μ12 := c_11.put n1 q0 f1 g1 v0
  generalize Su U o (kO 10 (va_up (va_up (va_up (va_up (va_up (va_up (va_up (va_up (va_up (va_up (va_up (va_up (fun _ => none) 0 (some (o + (0 + 1)))) 1 (some (o + (1 + 1)))) 2 (some (o + (2 + 1)))) 4 (some (o + (3 + 1)))) 6 (some (o + (4 + 1)))) 11 (some (o + (5 + 1)))) 13 (some (o + (6 + 1)))) 14 (some (o + (7 + 1)))) 15 (some (o + (8 + 1)))) 16 (some (o + (9 + 1)))) 18 (some (o + (10 + 1)))) 19 (some (o + (11 + 1))))) = S12 at c_12 ⊢
  clear c_11 n1 q0 f1 g1 v0
  refine X_aload_n (tk_X10_init.at 58 rfl) rfl ?_
  refine X_bipush (tk_X10_init.at 59 rfl) cb_40 ?_
  refine X_arr (A := o + (12 + 1)) (N := 40) (tk_X10_init.at 60 rfl) (pl 40 rfl) (by decide) c_12.1 (fun U μ13 n1 q0 f1 g1 v0 => ?_)
  refine X_putRF (tk_X10_init.at 61 rfl) fl_x10_53 (show U.2 o = some (kO 10 (va_up (va_up (va_up (va_up (va_up (va_up (va_up (va_up (va_up (va_up (va_up (va_up (fun _ => none) 0 (some (o + (0 + 1)))) 1 (some (o + (1 + 1)))) 2 (some (o + (2 + 1)))) 4 (some (o + (3 + 1)))) 6 (some (o + (4 + 1)))) 11 (some (o + (5 + 1)))) 13 (some (o + (6 + 1)))) 14 (some (o + (7 + 1)))) 15 (some (o + (8 + 1)))) 16 (some (o + (9 + 1)))) 18 (some (o + (10 + 1)))) 19 (some (o + (11 + 1))))) from c_12.D f1) rfl rfl rfl rfl ⟨rfl, rfl⟩ ?_
  have c_13 : Cst S μ o (kdM fun k => some (G.2.2.2 (11 + k))) 13 (va_up (va_up (va_up (va_up (va_up (va_up (va_up (va_up (va_up (va_up (va_up (va_up (va_up (fun _ => none) 0 (some (o + (0 + 1)))) 1 (some (o + (1 + 1)))) 2 (some (o + (2 + 1)))) 4 (some (o + (3 + 1)))) 6 (some (o + (4 + 1)))) 11 (some (o + (5 + 1)))) 13 (some (o + (6 + 1)))) 14 (some (o + (7 + 1)))) 15 (some (o + (8 + 1)))) 16 (some (o + (9 + 1)))) 18 (some (o + (10 + 1)))) 19 (some (o + (11 + 1)))) 21 (some (o + (12 + 1)))) (Su U o (kO 10 (va_up (va_up (va_up (va_up (va_up (va_up (va_up (va_up (va_up (va_up (va_up (va_up (va_up (fun _ => none) 0 (some (o + (0 + 1)))) 1 (some (o + (1 + 1)))) 2 (some (o + (2 + 1)))) 4 (some (o + (3 + 1)))) 6 (some (o + (4 + 1)))) 11 (some (o + (5 + 1)))) 13 (some (o + (6 + 1)))) 14 (some (o + (7 + 1)))) 15 (some (o + (8 + 1)))) 16 (some (o + (9 + 1)))) 18 (some (o + (10 + 1)))) 19 (some (o + (11 + 1)))) 21 (some (o + (12 + 1)))))) μ13 := c_12.put n1 q0 f1 g1 v0
  generalize Su U o (kO 10 (va_up (va_up (va_up (va_up (va_up (va_up (va_up (va_up (va_up (va_up (va_up (va_up (va_up (fun _ => none) 0 (some (o + (0 + 1)))) 1 (some (o + (1 + 1)))) 2 (some (o + (2 + 1)))) 4 (some (o + (3 + 1)))) 6 (some (o + (4 + 1)))) 11 (some (o + (5 + 1)))) 13 (some (o + (6 + 1)))) 14 (some (o + (7 + 1)))) 15 (some (o + (8 + 1)))) 16 (some (o + (9 + 1)))) 18 (some (o + (10 + 1)))) 19 (some (o + (11 + 1)))) 21 (some (o + (12 + 1))))) = S13 at c_13 ⊢
  clear c_12 n1 q0 f1 g1 v0
  refine X_aload_n (tk_X10_init.at 62 rfl) rfl ?_
  refine X_iconst (tk_X10_init.at 63 rfl) ci_4 ?_
  refine X_arr (A := o + (13 + 1)) (N := 4) (tk_X10_init.at 64 rfl) (pl 4 rfl) (by decide) c_13.1 (fun U μ14 n1 q0 f1 g1 v0 => ?_)
  refine X_putRF (tk_X10_init.at 65 rfl) fl_x10_56 (show U.2 o = some (kO 10 (va_up (va_up (va_up (va_up (va_up (va_up (va_up (va_up (va_up (va_up (va_up (va_up (va_up (fun _ => none) 0 (some (o + (0 + 1)))) 1 (some (o + (1 + 1)))) 2 (some (o + (2 + 1)))) 4 (some (o + (3 + 1)))) 6 (some (o + (4 + 1)))) 11 (some (o + (5 + 1)))) 13 (some (o + (6 + 1)))) 14 (some (o + (7 + 1)))) 15 (some (o + (8 + 1)))) 16 (some (o + (9 + 1)))) 18 (some (o + (10 + 1)))) 19 (some (o + (11 + 1)))) 21 (some (o + (12 + 1))))) from c_13.D f1) rfl rfl rfl rfl ⟨rfl, rfl⟩ ?_
  have c_14 : Cst S μ o (kdM fun k => some (G.2.2.2 (11 + k))) 14 (va_up (va_up (va_up (va_up (va_up (va_up (va_up (va_up (va_up (va_up (va_up (va_up (va_up (va_up (fun _ => none) 0 (some (o + (0 + 1)))) 1 (some (o + (1 + 1)))) 2 (some (o + (2 + 1)))) 4 (some (o + (3 + 1)))) 6 (some (o + (4 + 1)))) 11 (some (o + (5 + 1)))) 13 (some (o + (6 + 1)))) 14 (some (o + (7 + 1)))) 15 (some (o + (8 + 1)))) 16 (some (o + (9 + 1)))) 18 (some (o + (10 + 1)))) 19 (some (o + (11 + 1)))) 21 (some (o + (12 + 1)))) 24 (some (o + (13 + 1)))) (Su U o (kO 10 (va_up (va_up (va_up (va_up (va_up (va_up (va_up (va_up (va_up (va_up (va_up (va_up (va_up (va_up (fun _ => none) 0 (some (o + (0 + 1)))) 1 (some (o + (1 + 1)))) 2 (some (o + (2 + 1)))) 4 (some (o + (3 + 1)))) 6 (some (o + (4 + 1)))) 11 (some (o + (5 + 1)))) 13 (some (o + (6 + 1)))) 14 (some (o + (7 + 1)))) 15 (some (o + (8 + 1)))) 16 (some (o + (9 + 1)))) 18 (some (o + (10 + 1)))) 19 (some (o + (11 + 1)))) 21 (some (o + (12 + 1)))) 24 (some (o + (13 + 1)))))) μ14 := c_13.put n1 q0 f1 g1 v0
  generalize Su U o (kO 10 (va_up (va_up (va_up (va_up (va_up (va_up (va_up (va_up (va_up (va_up (va_up (va_up (va_up (va_up (fun _ => none) 0 (some (o + (0 + 1)))) 1 (some (o + (1 + 1)))) 2 (some (o + (2 + 1)))) 4 (some (o + (3 + 1)))) 6 (some (o + (4 + 1)))) 11 (some (o + (5 + 1)))) 13 (some (o + (6 + 1)))) 14 (some (o + (7 + 1)))) 15 (some (o + (8 + 1)))) 16 (some (o + (9 + 1)))) 18 (some (o + (10 + 1)))) 19 (some (o + (11 + 1)))) 21 (some (o + (12 + 1)))) 24 (some (o + (13 + 1))))) = S14 at c_14 ⊢
  clear c_13 n1 q0 f1 g1 v0
  refine X_aload_n (tk_X10_init.at 66 rfl) rfl ?_
  refine X_iconst (tk_X10_init.at 67 rfl) ci_4 ?_
  refine X_arr (A := o + (14 + 1)) (N := 4) (tk_X10_init.at 68 rfl) (pl 4 rfl) (by decide) c_14.1 (fun U μ15 n1 q0 f1 g1 v0 => ?_)
  refine X_putRF (tk_X10_init.at 69 rfl) fl_x10_59 (show U.2 o = some (kO 10 (va_up (va_up (va_up (va_up (va_up (va_up (va_up (va_up (va_up (va_up (va_up (va_up (va_up (va_up (fun _ => none) 0 (some (o + (0 + 1)))) 1 (some (o + (1 + 1)))) 2 (some (o + (2 + 1)))) 4 (some (o + (3 + 1)))) 6 (some (o + (4 + 1)))) 11 (some (o + (5 + 1)))) 13 (some (o + (6 + 1)))) 14 (some (o + (7 + 1)))) 15 (some (o + (8 + 1)))) 16 (some (o + (9 + 1)))) 18 (some (o + (10 + 1)))) 19 (some (o + (11 + 1)))) 21 (some (o + (12 + 1)))) 24 (some (o + (13 + 1))))) from c_14.D f1) rfl rfl rfl rfl ⟨rfl, rfl⟩ ?_
  have c_15 : Cst S μ o (kdM fun k => some (G.2.2.2 (11 + k))) 15 (va_up (va_up (va_up (va_up (va_up (va_up (va_up (va_up (va_up (va_up (va_up (va_up (va_up (va_up (va_up (fun _ => none) 0 (some (o + (0 + 1)))) 1 (some (o + (1 + 1)))) 2 (some (o + (2 + 1)))) 4 (some (o + (3 + 1)))) 6 (some (o + (4 + 1)))) 11 (some (o + (5 + 1)))) 13 (some (o + (6 + 1)))) 14 (some (o + (7 + 1)))) 15 (some (o + (8 + 1)))) 16 (some (o + (9 + 1)))) 18 (some (o + (10 + 1)))) 19 (some (o + (11 + 1)))) 21 (some (o + (12 + 1)))) 24 (some (o + (13 + 1)))) 25 (some (o + (14 + 1)))) (Su U o (kO 10 (va_up (va_up (va_up (va_up (va_up (va_up (va_up (va_up (va_up (va_up (va_up (va_up (va_up (va_up (va_up (fun _ => none) 0 (some (o + (0 + 1)))) 1 (some (o + (1 + 1)))) 2 (some (o + (2 + 1)))) 4 (some (o + (3 + 1)))) 6 (some (o + (4 + 1)))) 11 (some (o + (5 + 1)))) 13 (some (o + (6 + 1)))) 14 (some (o + (7 + 1)))) 15 (some (o + (8 + 1)))) 16 (some (o + (9 + 1)))) 18 (some (o + (10 + 1)))) 19 (some (o + (11 + 1)))) 21 (some (o + (12 + 1)))) 24 (some (o + (13 + 1)))) 25 (some (o + (14 + 1)))))) μ15 := c_14.put n1 q0 f1 g1 v0
  generalize Su U o (kO 10 (va_up (va_up (va_up (va_up (va_up (va_up (va_up (va_up (va_up (va_up (va_up (va_up (va_up (va_up (va_up (fun _ => none) 0 (some (o + (0 + 1)))) 1 (some (o + (1 + 1)))) 2 (some (o + (2 + 1)))) 4 (some (o + (3 + 1)))) 6 (some (o + (4 + 1)))) 11 (some (o + (5 + 1)))) 13 (some (o + (6 + 1)))) 14 (some (o + (7 + 1)))) 15 (some (o + (8 + 1)))) 16 (some (o + (9 + 1)))) 18 (some (o + (10 + 1)))) 19 (some (o + (11 + 1)))) 21 (some (o + (12 + 1)))) 24 (some (o + (13 + 1)))) 25 (some (o + (14 + 1))))) = S15 at c_15 ⊢
  clear c_14 n1 q0 f1 g1 v0
  refine X_aload_n (tk_X10_init.at 70 rfl) rfl ?_
  refine X_sipush (tk_X10_init.at 71 rfl) cs_160 ?_
  refine X_arr (A := o + (15 + 1)) (N := 160) (tk_X10_init.at 72 rfl) (pl 160 rfl) (by decide) c_15.1 (fun U μ16 n1 q0 f1 g1 v0 => ?_)
  refine X_putRF (tk_X10_init.at 73 rfl) fl_x10_62 (show U.2 o = some (kO 10 (va_up (va_up (va_up (va_up (va_up (va_up (va_up (va_up (va_up (va_up (va_up (va_up (va_up (va_up (va_up (fun _ => none) 0 (some (o + (0 + 1)))) 1 (some (o + (1 + 1)))) 2 (some (o + (2 + 1)))) 4 (some (o + (3 + 1)))) 6 (some (o + (4 + 1)))) 11 (some (o + (5 + 1)))) 13 (some (o + (6 + 1)))) 14 (some (o + (7 + 1)))) 15 (some (o + (8 + 1)))) 16 (some (o + (9 + 1)))) 18 (some (o + (10 + 1)))) 19 (some (o + (11 + 1)))) 21 (some (o + (12 + 1)))) 24 (some (o + (13 + 1)))) 25 (some (o + (14 + 1))))) from c_15.D f1) rfl rfl rfl rfl ⟨rfl, rfl⟩ ?_
  have c_16 : Cst S μ o (kdM fun k => some (G.2.2.2 (11 + k))) 16 (va_up (va_up (va_up (va_up (va_up (va_up (va_up (va_up (va_up (va_up (va_up (va_up (va_up (va_up (va_up (va_up (fun _ => none) 0 (some (o + (0 + 1)))) 1 (some (o + (1 + 1)))) 2 (some (o + (2 + 1)))) 4 (some (o + (3 + 1)))) 6 (some (o + (4 + 1)))) 11 (some (o + (5 + 1)))) 13 (some (o + (6 + 1)))) 14 (some (o + (7 + 1)))) 15 (some (o + (8 + 1)))) 16 (some (o + (9 + 1)))) 18 (some (o + (10 + 1)))) 19 (some (o + (11 + 1)))) 21 (some (o + (12 + 1)))) 24 (some (o + (13 + 1)))) 25 (some (o + (14 + 1)))) 26 (some (o + (15 + 1)))) (Su U o (kO 10 (va_up (va_up (va_up (va_up (va_up (va_up (va_up (va_up (va_up (va_up (va_up (va_up (va_up (va_up (va_up (va_up (fun _ => none) 0 (some (o + (0 + 1)))) 1 (some (o + (1 + 1)))) 2 (some (o + (2 + 1)))) 4 (some (o + (3 + 1)))) 6 (some (o + (4 + 1)))) 11 (some (o + (5 + 1)))) 13 (some (o + (6 + 1)))) 14 (some (o + (7 + 1)))) 15 (some (o + (8 + 1)))) 16 (some (o + (9 + 1)))) 18 (some (o + (10 + 1)))) 19 (some (o + (11 + 1)))) 21 (some (o + (12 + 1)))) 24 (some (o + (13 + 1)))) 25 (some (o + (14 + 1)))) 26 (some (o + (15 + 1)))))) μ16 := c_15.put n1 q0 f1 g1 v0
  generalize Su U o (kO 10 (va_up (va_up (va_up (va_up (va_up (va_up (va_up (va_up (va_up (va_up (va_up (va_up (va_up (va_up (va_up (va_up (fun _ => none) 0 (some (o + (0 + 1)))) 1 (some (o + (1 + 1)))) 2 (some (o + (2 + 1)))) 4 (some (o + (3 + 1)))) 6 (some (o + (4 + 1)))) 11 (some (o + (5 + 1)))) 13 (some (o + (6 + 1)))) 14 (some (o + (7 + 1)))) 15 (some (o + (8 + 1)))) 16 (some (o + (9 + 1)))) 18 (some (o + (10 + 1)))) 19 (some (o + (11 + 1)))) 21 (some (o + (12 + 1)))) 24 (some (o + (13 + 1)))) 25 (some (o + (14 + 1)))) 26 (some (o + (15 + 1))))) = S16 at c_16 ⊢
  clear c_15 n1 q0 f1 g1 v0
  refine X_aload_n (tk_X10_init.at 74 rfl) rfl ?_
  refine X_bipush (tk_X10_init.at 75 rfl) cb_40 ?_
  refine X_arr (A := o + (16 + 1)) (N := 40) (tk_X10_init.at 76 rfl) (pl 40 rfl) (by decide) c_16.1 (fun U μ17 n1 q0 f1 g1 v0 => ?_)
  refine X_putRF (tk_X10_init.at 77 rfl) fl_x10_65 (show U.2 o = some (kO 10 (va_up (va_up (va_up (va_up (va_up (va_up (va_up (va_up (va_up (va_up (va_up (va_up (va_up (va_up (va_up (va_up (fun _ => none) 0 (some (o + (0 + 1)))) 1 (some (o + (1 + 1)))) 2 (some (o + (2 + 1)))) 4 (some (o + (3 + 1)))) 6 (some (o + (4 + 1)))) 11 (some (o + (5 + 1)))) 13 (some (o + (6 + 1)))) 14 (some (o + (7 + 1)))) 15 (some (o + (8 + 1)))) 16 (some (o + (9 + 1)))) 18 (some (o + (10 + 1)))) 19 (some (o + (11 + 1)))) 21 (some (o + (12 + 1)))) 24 (some (o + (13 + 1)))) 25 (some (o + (14 + 1)))) 26 (some (o + (15 + 1))))) from c_16.D f1) rfl rfl rfl rfl ⟨rfl, rfl⟩ ?_
  have c_17 : Cst S μ o (kdM fun k => some (G.2.2.2 (11 + k))) 17 (va_up (va_up (va_up (va_up (va_up (va_up (va_up (va_up (va_up (va_up (va_up (va_up (va_up (va_up (va_up (va_up (va_up (fun _ => none) 0 (some (o + (0 + 1)))) 1 (some (o + (1 + 1)))) 2 (some (o + (2 + 1)))) 4 (some (o + (3 + 1)))) 6 (some (o + (4 + 1)))) 11 (some (o + (5 + 1)))) 13 (some (o + (6 + 1)))) 14 (some (o + (7 + 1)))) 15 (some (o + (8 + 1)))) 16 (some (o + (9 + 1)))) 18 (some (o + (10 + 1)))) 19 (some (o + (11 + 1)))) 21 (some (o + (12 + 1)))) 24 (some (o + (13 + 1)))) 25 (some (o + (14 + 1)))) 26 (some (o + (15 + 1)))) 27 (some (o + (16 + 1)))) (Su U o (kO 10 (va_up (va_up (va_up (va_up (va_up (va_up (va_up (va_up (va_up (va_up (va_up (va_up (va_up (va_up (va_up (va_up (va_up (fun _ => none) 0 (some (o + (0 + 1)))) 1 (some (o + (1 + 1)))) 2 (some (o + (2 + 1)))) 4 (some (o + (3 + 1)))) 6 (some (o + (4 + 1)))) 11 (some (o + (5 + 1)))) 13 (some (o + (6 + 1)))) 14 (some (o + (7 + 1)))) 15 (some (o + (8 + 1)))) 16 (some (o + (9 + 1)))) 18 (some (o + (10 + 1)))) 19 (some (o + (11 + 1)))) 21 (some (o + (12 + 1)))) 24 (some (o + (13 + 1)))) 25 (some (o + (14 + 1)))) 26 (some (o + (15 + 1)))) 27 (some (o + (16 + 1)))))) μ17 := c_16.put n1 q0 f1 g1 v0
  generalize Su U o (kO 10 (va_up (va_up (va_up (va_up (va_up (va_up (va_up (va_up (va_up (va_up (va_up (va_up (va_up (va_up (va_up (va_up (va_up (fun _ => none) 0 (some (o + (0 + 1)))) 1 (some (o + (1 + 1)))) 2 (some (o + (2 + 1)))) 4 (some (o + (3 + 1)))) 6 (some (o + (4 + 1)))) 11 (some (o + (5 + 1)))) 13 (some (o + (6 + 1)))) 14 (some (o + (7 + 1)))) 15 (some (o + (8 + 1)))) 16 (some (o + (9 + 1)))) 18 (some (o + (10 + 1)))) 19 (some (o + (11 + 1)))) 21 (some (o + (12 + 1)))) 24 (some (o + (13 + 1)))) 25 (some (o + (14 + 1)))) 26 (some (o + (15 + 1)))) 27 (some (o + (16 + 1))))) = S17 at c_17 ⊢
  clear c_16 n1 q0 f1 g1 v0
  obtain ⟨e1, e2, e3, e4, e5, e6⟩ := c_17
  have er : (va_up (va_up (va_up (va_up (va_up (va_up (va_up (va_up (va_up (va_up (va_up (va_up (va_up (va_up (va_up (va_up (va_up (fun _ => none) 0 (some (o + (0 + 1)))) 1 (some (o + (1 + 1)))) 2 (some (o + (2 + 1)))) 4 (some (o + (3 + 1)))) 6 (some (o + (4 + 1)))) 11 (some (o + (5 + 1)))) 13 (some (o + (6 + 1)))) 14 (some (o + (7 + 1)))) 15 (some (o + (8 + 1)))) 16 (some (o + (9 + 1)))) 18 (some (o + (10 + 1)))) 19 (some (o + (11 + 1)))) 21 (some (o + (12 + 1)))) 24 (some (o + (13 + 1)))) 25 (some (o + (14 + 1)))) 26 (some (o + (15 + 1)))) 27 (some (o + (16 + 1)))) = rM o := funext (fun k => by rcases k with _ | _ | _ | _ | _ | _ | _ | _ | _ | _ | _ | _ | _ | _ | _ | _ | _ | _ | _ | _ | _ | _ | _ | _ | _ | _ | _ | _ | k <;> rfl)
  rw [er] at e2
  have hm1 : S17.2 (o + 1) = some (kI 314) := (e6 0 (by decide)).1
  refine X_aload_n (tk_X10_init.at 78 rfl) rfl ?_
  refine X_getR (tk_X10_init.at 79 rfl) fl_x10_9 e2 rfl rfl ?_
  refine X_iconst (tk_X10_init.at 80 rfl) ci_0 ?_
  refine X_bipush (tk_X10_init.at 81 rfl) cb_60 ?_
  refine X_iastN (k := 0) (tk_X10_init.at 82 rfl) hm1 (pl 0 rfl) (by decide) (by decide) ?_
  refine X_aload_n (tk_X10_init.at 83 rfl) rfl ?_
  refine X_getR (tk_X10_init.at 84 rfl) fl_x10_9 e2 rfl rfl ?_
  refine X_bipush (tk_X10_init.at 85 rfl) cb_7 ?_
  refine X_iconst (tk_X10_init.at 86 rfl) ci_1 ?_
  refine X_iastN (k := 7) (tk_X10_init.at 87 rfl) hm1 (pl 7 rfl) (by decide) (by decide) ?_
  refine X_return (tk_X10_init.at 88 rfl) rfl ?_
  generalize eζ : su (su μ17 (o + 1) 0 60) (o + 1) 7 1 = ζ
  have fζ : ∀ a, a ≠ o + 1 → ζ a = μ17 a := fun a h => by rw [← eζ, su_ne h, su_ne h]
  have c1 : ζ (o + 1) = N0 := by rw [← eζ, su_same, su_same]; exact N0_of (e6 0 (by decide)).2
  have zz : ∀ i, i < 17 → i ≠ 0 → ∀ j, ζ (o + (i + 1)) j = 0 := fun i h h0 j => by rw [fζ _ (by omega)]; exact (e6 i h).2 j
  exact hK _ _ ⟨by omega, e3, fun a h => (fζ a (by omega)).trans (e4 a h)⟩ ⟨e2, (e6 0 (by decide)).1, (e6 1 (by decide)).1, (e6 2 (by decide)).1, (e6 3 (by decide)).1, (e6 4 (by decide)).1, (e6 5 (by decide)).1, (e6 6 (by decide)).1, (e6 7 (by decide)).1, (e6 8 (by decide)).1, (e6 9 (by decide)).1, (e6 10 (by decide)).1, (e6 11 (by decide)).1, (e6 12 (by decide)).1, (e6 13 (by decide)).1, (e6 14 (by decide)).1, (e6 15 (by decide)).1, (e6 16 (by decide)).1⟩ c1 (fun k => by rw [fζ o (by omega), e5]; exact hz k) (zz 3 (by decide) (by decide)) (zz 13 (by decide) (by decide)) (zz 14 (by decide) (by decide)) (zz 15 (by decide) (by decide))
