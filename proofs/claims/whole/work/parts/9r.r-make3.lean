theorem X_kR {G : Gl} {mi : MI} {d kc pc : Nat} {lv : List (Nat × Value)} {st : List Value} {S : Sh} {μ : Mu} {Q : Option Value → Sh → Mu → Prop} {a j n : Nat} {r r' : Nat → Option Nat} (hb : S.2 a = some (kR j n r)) (h : ∀ i, i < n → r i = r' i) (kk : X G mi d kc pc lv st (Su S a (kR j n r')) μ Q) : X G mi d kc pc lv st S μ Q := by
  intro p l e R s m args below meth c mc Z C hZ H locs cells slots ls hR hk hl
  refine kk p l e R s m args below meth c mc Z C hZ H locs cells slots ls ⟨hR.1, hR.2.1, fun q hq => ?_, fun q => ?_, hR.2.2.2.2.1, hR.2.2.2.2.2⟩ hk hl
  · have hne : q ≠ a := fun e => by subst e; rw [hR.2.2.1 q hq] at hb; cases hb
    rw [Su_ne hne]; exact hR.2.2.1 q hq
  · by_cases e : q = a
    · subst e
      rw [Su_at]
      obtain ⟨z1, cA, z2, z3⟩ := hR.at hb
      refine ⟨z1, cA, z2, ?_⟩
      rw [z3]
      unfold arrV
      rw [show (fun j : Fin n => va_rf (r j.val)) = (fun j : Fin n => va_rf (r' j.val)) from funext (fun j => by rw [h j.val j.isLt])]
    · rw [Su_ne e]; exact hR.2.2.2.1 q
theorem RS.fr {S T : Sh} {R len : Nat} (h : RS S R len) (e1 : T.2 R = S.2 R) (e2 : T.2 (R + 1) = S.2 (R + 1)) : RS T R len := ⟨e1.trans h.1, e2.trans h.2⟩
theorem FS.fr {S T : Sh} {F la ma len : Nat} (h : FS S F la ma len) (e1 : T.2 F = S.2 F) (e2 : T.2 (F + 1) = S.2 (F + 1)) (e3 : T.2 la = S.2 la) (e4 : T.2 ma = S.2 ma) : FS T F la ma len := ⟨e1.trans h.1, e2.trans h.2.1, e3.trans h.2.2.1, e4.trans h.2.2.2⟩
/-- the first morning -/
def N0 : Nat → Int32 := fun a => if a = 0 then 60 else if a = 7 then 1 else 0
theorem N0_z {a : Nat} (h : a ≠ 0) (h7 : a ≠ 7) : N0 a = 0 := by unfold N0; rw [if_neg h, if_neg h7]
set_option maxHeartbeats 4000000 in
theorem i2 {G : Gl} {d : Nat} {S : Sh} {μ : Mu} {D : Nat} {K : Sh → Mu → Prop} (hS : S.1 = D + 1) (hD : S.2 D = some (kO 2 (fun _ => none))) (hst : ∀ j, j < 6 → G.2.2.2 j < D ∧ S.2 (G.2.2.2 j) = some (kC 4)) (hK : ∀ S' μ', Nw S S' μ μ' D 31 → DS G S' D → repD μ' D N0 → K S' μ') : X G mi_X2_init (d + 2) 31 0 [(0, .ref D)] [] S μ (qv K) := by
  have n_0 := hS
  have d_0 := hD
  have b_0 : ∀ a, a < D → S.2 a = S.2 a := fun _ _ => rfl
  have m_0 : ∀ a, a < D → μ a = μ a := fun _ _ => rfl
  refine X_aload_n (tk_X2_init.at 0 rfl) rfl ?_
  refine X_objInit (tk_X2_init.at 1 rfl) lk_x2_3 (Nat.le_of_ble_eq_true rfl) ?_
  refine X_aload_n (tk_X2_init.at 2 rfl) rfl ?_
  refine X_fou (A := D + 1) (m := 10) (la := G.2.2.2 0) (ma := G.2.2.2 1) (tk_X2_init.at 3 rfl) (tk_X2_init.at 4 rfl) cl_x2_9 (fun T τ st h => X_bipush (tk_X2_init.at 5 rfl) cb_10 (X_getsN (j := 0) (tk_X2_init.at 6 rfl) (by decide) gn_x2_11 (X_getsN (j := 1) (tk_X2_init.at 7 rfl) (by decide) gn_x2_15 h))) (tk_X2_init.at 8 rfl) lk_x2_18 (Nat.le_of_ble_eq_true rfl) (pl 10 rfl) (by decide) (by have := (hst 0 (by decide)).1; omega) (by have := (hst 1 (by decide)).1; omega) (by rw [b_0 _ (hst 0 (by decide)).1]; exact (hst 0 (by decide)).2) (by rw [b_0 _ (hst 1 (by decide)).1]; exact (hst 1 (by decide)).2) n_0 (fun U μ1 n1 f1 g1 q0 w0 v0 => ?_)
  refine X_putRF (tk_X2_init.at 9 rfl) fl_x2_21 (show U.2 D = some (kO 2 (fun _ => none)) from (f1 D (by omega)).trans d_0) rfl rfl rfl rfl ⟨rfl, rfl⟩ ?_
  generalize eT : Su U D (kO 2 (va_up (fun _ => none) 0 (some (D + 1)))) = S1
  have n_1 : S1.1 = D + 3 := by rw [← eT]; exact n1
  have d_1 : S1.2 D = some (kO 2 (va_up (fun _ => none) 0 (some (D + 1)))) := by rw [← eT]; exact Su_at
  have f_1 : ∀ a, D < a → a < D + 1 → S1.2 a = S.2 a := fun a h1 h2 => by rw [← eT, Su_ne (by omega)]; exact f1 a h2
  have b_1 : ∀ a, a < D → S1.2 a = S.2 a := fun a h => by rw [← eT, Su_ne (by omega)]; exact (f1 a (by omega)).trans (b_0 a h)
  have g_1 : ∀ a, a < D + 1 → μ1 a = μ a := g1
  have m_1 : ∀ a, a < D → μ1 a = μ a := fun a h => (g1 a (by omega)).trans (m_0 a h)
  have q_0 : FS S1 (D + 1) (G.2.2.2 0) (G.2.2.2 1) 40 := q0.fr (by rw [← eT, Su_ne (by omega)]) (by rw [← eT, Su_ne (by omega)]) (by have := (hst 0 (by decide)).1; rw [← eT, Su_ne (by omega)]) (by have := (hst 1 (by decide)).1; rw [← eT, Su_ne (by omega)])
  have w_0 : μ1 (D + 1) 3 = 0 := w0
  clear eT f1 n1 g1 w0 v0 q0
  refine X_aload_n (tk_X2_init.at 10 rfl) rfl ?_
  refine X_fou (A := D + 3) (m := 8) (la := G.2.2.2 2) (ma := G.2.2.2 3) (tk_X2_init.at 11 rfl) (tk_X2_init.at 12 rfl) cl_x2_9 (fun T τ st h => X_bipush (tk_X2_init.at 13 rfl) cb_8 (X_getsN (j := 2) (tk_X2_init.at 14 rfl) (by decide) gn_x2_27 (X_getsN (j := 3) (tk_X2_init.at 15 rfl) (by decide) gn_x2_30 h))) (tk_X2_init.at 16 rfl) lk_x2_18 (Nat.le_of_ble_eq_true rfl) (pl 8 rfl) (by decide) (by have := (hst 2 (by decide)).1; omega) (by have := (hst 3 (by decide)).1; omega) (by rw [b_1 _ (hst 2 (by decide)).1]; exact (hst 2 (by decide)).2) (by rw [b_1 _ (hst 3 (by decide)).1]; exact (hst 3 (by decide)).2) n_1 (fun U μ2 n1 f1 g1 q0 w0 v0 => ?_)
  refine X_putRF (tk_X2_init.at 17 rfl) fl_x2_33 (show U.2 D = some (kO 2 (va_up (fun _ => none) 0 (some (D + 1)))) from (f1 D (by omega)).trans d_1) rfl rfl rfl rfl ⟨rfl, rfl⟩ ?_
  generalize eT : Su U D (kO 2 (va_up (va_up (fun _ => none) 0 (some (D + 1))) 1 (some (D + 3)))) = S2
  have n_2 : S2.1 = D + 5 := by rw [← eT]; exact n1
  have d_2 : S2.2 D = some (kO 2 (va_up (va_up (fun _ => none) 0 (some (D + 1))) 1 (some (D + 3)))) := by rw [← eT]; exact Su_at
  have f_2 : ∀ a, D < a → a < D + 3 → S2.2 a = S1.2 a := fun a h1 h2 => by rw [← eT, Su_ne (by omega)]; exact f1 a h2
  have b_2 : ∀ a, a < D → S2.2 a = S.2 a := fun a h => by rw [← eT, Su_ne (by omega)]; exact (f1 a (by omega)).trans (b_1 a h)
  have g_2 : ∀ a, a < D + 3 → μ2 a = μ1 a := g1
  have m_2 : ∀ a, a < D → μ2 a = μ a := fun a h => (g1 a (by omega)).trans (m_1 a h)
  have q_1 : FS S2 (D + 3) (G.2.2.2 2) (G.2.2.2 3) 32 := q0.fr (by rw [← eT, Su_ne (by omega)]) (by rw [← eT, Su_ne (by omega)]) (by have := (hst 2 (by decide)).1; rw [← eT, Su_ne (by omega)]) (by have := (hst 3 (by decide)).1; rw [← eT, Su_ne (by omega)])
  have w_1 : μ2 (D + 3) 3 = 0 := w0
  clear eT f1 n1 g1 w0 v0 q0
  refine X_aload_n (tk_X2_init.at 18 rfl) rfl ?_
  refine X_fou (A := D + 5) (m := 6) (la := G.2.2.2 4) (ma := G.2.2.2 5) (tk_X2_init.at 19 rfl) (tk_X2_init.at 20 rfl) cl_x2_9 (fun T τ st h => X_bipush (tk_X2_init.at 21 rfl) cb_6 (X_getsN (j := 4) (tk_X2_init.at 22 rfl) (by decide) gn_x2_36 (X_getsN (j := 5) (tk_X2_init.at 23 rfl) (by decide) gn_x2_39 h))) (tk_X2_init.at 24 rfl) lk_x2_18 (Nat.le_of_ble_eq_true rfl) (pl 6 rfl) (by decide) (by have := (hst 4 (by decide)).1; omega) (by have := (hst 5 (by decide)).1; omega) (by rw [b_2 _ (hst 4 (by decide)).1]; exact (hst 4 (by decide)).2) (by rw [b_2 _ (hst 5 (by decide)).1]; exact (hst 5 (by decide)).2) n_2 (fun U μ3 n1 f1 g1 q0 w0 v0 => ?_)
  refine X_putRF (tk_X2_init.at 25 rfl) fl_x2_42 (show U.2 D = some (kO 2 (va_up (va_up (fun _ => none) 0 (some (D + 1))) 1 (some (D + 3)))) from (f1 D (by omega)).trans d_2) rfl rfl rfl rfl ⟨rfl, rfl⟩ ?_
  generalize eT : Su U D (kO 2 (va_up (va_up (va_up (fun _ => none) 0 (some (D + 1))) 1 (some (D + 3))) 2 (some (D + 5)))) = S3
  have n_3 : S3.1 = D + 7 := by rw [← eT]; exact n1
  have d_3 : S3.2 D = some (kO 2 (va_up (va_up (va_up (fun _ => none) 0 (some (D + 1))) 1 (some (D + 3))) 2 (some (D + 5)))) := by rw [← eT]; exact Su_at
  have f_3 : ∀ a, D < a → a < D + 5 → S3.2 a = S2.2 a := fun a h1 h2 => by rw [← eT, Su_ne (by omega)]; exact f1 a h2
  have b_3 : ∀ a, a < D → S3.2 a = S.2 a := fun a h => by rw [← eT, Su_ne (by omega)]; exact (f1 a (by omega)).trans (b_2 a h)
  have g_3 : ∀ a, a < D + 5 → μ3 a = μ2 a := g1
  have m_3 : ∀ a, a < D → μ3 a = μ a := fun a h => (g1 a (by omega)).trans (m_2 a h)
  have q_2 : FS S3 (D + 5) (G.2.2.2 4) (G.2.2.2 5) 24 := q0.fr (by rw [← eT, Su_ne (by omega)]) (by rw [← eT, Su_ne (by omega)]) (by have := (hst 4 (by decide)).1; rw [← eT, Su_ne (by omega)]) (by have := (hst 5 (by decide)).1; rw [← eT, Su_ne (by omega)])
  have w_2 : μ3 (D + 5) 3 = 0 := w0
  clear eT f1 n1 g1 w0 v0 q0
  refine X_aload_n (tk_X2_init.at 26 rfl) rfl ?_
  refine X_row (A := D + 7) (len := 6) (tk_X2_init.at 27 rfl) (tk_X2_init.at 28 rfl) cl_x2_45 (fun T τ st h => X_bipush (tk_X2_init.at 29 rfl) cb_6 h) (tk_X2_init.at 30 rfl) lk_x2_47 (Nat.le_of_ble_eq_true rfl) (pl 6 rfl) (by decide) n_3 (fun U μ4 n1 f1 g1 q0 w0 v0 => ?_)
  refine X_putRF (tk_X2_init.at 31 rfl) fl_x2_50 (show U.2 D = some (kO 2 (va_up (va_up (va_up (fun _ => none) 0 (some (D + 1))) 1 (some (D + 3))) 2 (some (D + 5)))) from (f1 D (by omega)).trans d_3) rfl rfl rfl rfl ⟨rfl, rfl⟩ ?_
  generalize eT : Su U D (kO 2 (va_up (va_up (va_up (va_up (fun _ => none) 0 (some (D + 1))) 1 (some (D + 3))) 2 (some (D + 5))) 3 (some (D + 7)))) = S4
  have n_4 : S4.1 = D + 9 := by rw [← eT]; exact n1
  have d_4 : S4.2 D = some (kO 2 (va_up (va_up (va_up (va_up (fun _ => none) 0 (some (D + 1))) 1 (some (D + 3))) 2 (some (D + 5))) 3 (some (D + 7)))) := by rw [← eT]; exact Su_at
  have f_4 : ∀ a, D < a → a < D + 7 → S4.2 a = S3.2 a := fun a h1 h2 => by rw [← eT, Su_ne (by omega)]; exact f1 a h2
  have b_4 : ∀ a, a < D → S4.2 a = S.2 a := fun a h => by rw [← eT, Su_ne (by omega)]; exact (f1 a (by omega)).trans (b_3 a h)
  have g_4 : ∀ a, a < D + 7 → μ4 a = μ3 a := g1
  have m_4 : ∀ a, a < D → μ4 a = μ a := fun a h => (g1 a (by omega)).trans (m_3 a h)
  have q_3 : RS S4 (D + 7) 6 := q0.fr (by rw [← eT, Su_ne (by omega)]) (by rw [← eT, Su_ne (by omega)])
  have w_3 : μ4 (D + 7) 1 = 0 := w0
  clear eT f1 n1 g1 w0 v0 q0
  refine X_aload_n (tk_X2_init.at 32 rfl) rfl ?_
  refine X_row (A := D + 9) (len := 50) (tk_X2_init.at 33 rfl) (tk_X2_init.at 34 rfl) cl_x2_45 (fun T τ st h => X_bipush (tk_X2_init.at 35 rfl) cb_50 h) (tk_X2_init.at 36 rfl) lk_x2_47 (Nat.le_of_ble_eq_true rfl) (pl 50 rfl) (by decide) n_4 (fun U μ5 n1 f1 g1 q0 w0 v0 => ?_)
  refine X_putRF (tk_X2_init.at 37 rfl) fl_x2_54 (show U.2 D = some (kO 2 (va_up (va_up (va_up (va_up (fun _ => none) 0 (some (D + 1))) 1 (some (D + 3))) 2 (some (D + 5))) 3 (some (D + 7)))) from (f1 D (by omega)).trans d_4) rfl rfl rfl rfl ⟨rfl, rfl⟩ ?_
  generalize eT : Su U D (kO 2 (va_up (va_up (va_up (va_up (va_up (fun _ => none) 0 (some (D + 1))) 1 (some (D + 3))) 2 (some (D + 5))) 3 (some (D + 7))) 4 (some (D + 9)))) = S5
  have n_5 : S5.1 = D + 11 := by rw [← eT]; exact n1
  have d_5 : S5.2 D = some (kO 2 (va_up (va_up (va_up (va_up (va_up (fun _ => none) 0 (some (D + 1))) 1 (some (D + 3))) 2 (some (D + 5))) 3 (some (D + 7))) 4 (some (D + 9)))) := by rw [← eT]; exact Su_at
  have f_5 : ∀ a, D < a → a < D + 9 → S5.2 a = S4.2 a := fun a h1 h2 => by rw [← eT, Su_ne (by omega)]; exact f1 a h2
  have b_5 : ∀ a, a < D → S5.2 a = S.2 a := fun a h => by rw [← eT, Su_ne (by omega)]; exact (f1 a (by omega)).trans (b_4 a h)
  have g_5 : ∀ a, a < D + 9 → μ5 a = μ4 a := g1
  have m_5 : ∀ a, a < D → μ5 a = μ a := fun a h => (g1 a (by omega)).trans (m_4 a h)
  have q_4 : RS S5 (D + 9) 50 := q0.fr (by rw [← eT, Su_ne (by omega)]) (by rw [← eT, Su_ne (by omega)])
  have w_4 : μ5 (D + 9) 1 = 0 := w0
  clear eT f1 n1 g1 w0 v0 q0
  refine X_aload_n (tk_X2_init.at 38 rfl) rfl ?_
  refine X_row (A := D + 11) (len := 20) (tk_X2_init.at 39 rfl) (tk_X2_init.at 40 rfl) cl_x2_45 (fun T τ st h => X_bipush (tk_X2_init.at 41 rfl) cb_20 h) (tk_X2_init.at 42 rfl) lk_x2_47 (Nat.le_of_ble_eq_true rfl) (pl 20 rfl) (by decide) n_5 (fun U μ6 n1 f1 g1 q0 w0 v0 => ?_)
  refine X_putRF (tk_X2_init.at 43 rfl) fl_x2_57 (show U.2 D = some (kO 2 (va_up (va_up (va_up (va_up (va_up (fun _ => none) 0 (some (D + 1))) 1 (some (D + 3))) 2 (some (D + 5))) 3 (some (D + 7))) 4 (some (D + 9)))) from (f1 D (by omega)).trans d_5) rfl rfl rfl rfl ⟨rfl, rfl⟩ ?_
  generalize eT : Su U D (kO 2 (va_up (va_up (va_up (va_up (va_up (va_up (fun _ => none) 0 (some (D + 1))) 1 (some (D + 3))) 2 (some (D + 5))) 3 (some (D + 7))) 4 (some (D + 9))) 5 (some (D + 11)))) = S6
  have n_6 : S6.1 = D + 13 := by rw [← eT]; exact n1
  have d_6 : S6.2 D = some (kO 2 (va_up (va_up (va_up (va_up (va_up (va_up (fun _ => none) 0 (some (D + 1))) 1 (some (D + 3))) 2 (some (D + 5))) 3 (some (D + 7))) 4 (some (D + 9))) 5 (some (D + 11)))) := by rw [← eT]; exact Su_at
  have f_6 : ∀ a, D < a → a < D + 11 → S6.2 a = S5.2 a := fun a h1 h2 => by rw [← eT, Su_ne (by omega)]; exact f1 a h2
  have b_6 : ∀ a, a < D → S6.2 a = S.2 a := fun a h => by rw [← eT, Su_ne (by omega)]; exact (f1 a (by omega)).trans (b_5 a h)
  have g_6 : ∀ a, a < D + 11 → μ6 a = μ5 a := g1
  have m_6 : ∀ a, a < D → μ6 a = μ a := fun a h => (g1 a (by omega)).trans (m_5 a h)
  have q_5 : RS S6 (D + 11) 20 := q0.fr (by rw [← eT, Su_ne (by omega)]) (by rw [← eT, Su_ne (by omega)])
  have w_5 : μ6 (D + 11) 1 = 0 := w0
  clear eT f1 n1 g1 w0 v0 q0
  refine X_aload_n (tk_X2_init.at 44 rfl) rfl ?_
  refine X_bipush (tk_X2_init.at 45 rfl) cb_6 ?_
  refine X_newR (j := 0) (N := 6) (tk_X2_init.at 46 rfl) (by decide) cl_x2_45 (by decide) (by decide) (by decide) ?_
  rw [n_6]
  generalize eM : Mx μ6 (D + 13) (fun _ => 0) = μ7
  generalize eU : Sx S6 (kR 0 6 (fun _ => none)) = U
  have n1 : U.1 = D + 13 + 1 := by rw [← eU]; show S6.1 + 1 = _; omega
  have f1 : ∀ a, a < D + 13 → U.2 a = S6.2 a := fun a h => by rw [← eU]; unfold Sx; dsimp only; rw [if_neg (by omega)]
  have g1 : ∀ a, a < D + 13 → μ7 a = μ6 a := fun a h => by rw [← eM]; exact Mx_ne (by omega)
  have q0 : U.2 (D + 13) = some (kR 0 6 (fun _ => none)) := by rw [← eU]; unfold Sx; dsimp only; rw [if_pos (by omega)]
  refine X_putRF (tk_X2_init.at 47 rfl) fl_x2_60 (show U.2 D = some (kO 2 (va_up (va_up (va_up (va_up (va_up (va_up (fun _ => none) 0 (some (D + 1))) 1 (some (D + 3))) 2 (some (D + 5))) 3 (some (D + 7))) 4 (some (D + 9))) 5 (some (D + 11)))) from (f1 D (by omega)).trans d_6) rfl rfl rfl rfl ⟨rfl, rfl⟩ ?_
  generalize eT : Su U D (kO 2 (va_up (va_up (va_up (va_up (va_up (va_up (va_up (fun _ => none) 0 (some (D + 1))) 1 (some (D + 3))) 2 (some (D + 5))) 3 (some (D + 7))) 4 (some (D + 9))) 5 (some (D + 11))) 6 (some (D + 13)))) = S7
  have n_7 : S7.1 = D + 14 := by rw [← eT]; exact n1
  have d_7 : S7.2 D = some (kO 2 (va_up (va_up (va_up (va_up (va_up (va_up (va_up (fun _ => none) 0 (some (D + 1))) 1 (some (D + 3))) 2 (some (D + 5))) 3 (some (D + 7))) 4 (some (D + 9))) 5 (some (D + 11))) 6 (some (D + 13)))) := by rw [← eT]; exact Su_at
  have f_7 : ∀ a, D < a → a < D + 13 → S7.2 a = S6.2 a := fun a h1 h2 => by rw [← eT, Su_ne (by omega)]; exact f1 a h2
  have b_7 : ∀ a, a < D → S7.2 a = S.2 a := fun a h => by rw [← eT, Su_ne (by omega)]; exact (f1 a (by omega)).trans (b_6 a h)
  have g_7 : ∀ a, a < D + 13 → μ7 a = μ6 a := g1
  have m_7 : ∀ a, a < D → μ7 a = μ a := fun a h => (g1 a (by omega)).trans (m_6 a h)
  have q_6 : S7.2 (D + 13) = some (kR 0 6 (fun _ => none)) := by rw [← eT, Su_ne (by omega)]; exact q0
  clear eT f1 n1 g1 eM eU q0
  refine X_aload_n (tk_X2_init.at 48 rfl) rfl ?_
  refine X_row (A := D + 14) (len := 0) (tk_X2_init.at 49 rfl) (tk_X2_init.at 50 rfl) cl_x2_45 (fun T τ st h => X_iconst (tk_X2_init.at 51 rfl) ci_0 h) (tk_X2_init.at 52 rfl) lk_x2_47 (Nat.le_of_ble_eq_true rfl) (pl 0 rfl) (by decide) n_7 (fun U μ8 n1 f1 g1 q0 w0 v0 => ?_)
  refine X_putRF (tk_X2_init.at 53 rfl) fl_x2_64 (show U.2 D = some (kO 2 (va_up (va_up (va_up (va_up (va_up (va_up (va_up (fun _ => none) 0 (some (D + 1))) 1 (some (D + 3))) 2 (some (D + 5))) 3 (some (D + 7))) 4 (some (D + 9))) 5 (some (D + 11))) 6 (some (D + 13)))) from (f1 D (by omega)).trans d_7) rfl rfl rfl rfl ⟨rfl, rfl⟩ ?_
  generalize eT : Su U D (kO 2 (va_up (va_up (va_up (va_up (va_up (va_up (va_up (va_up (fun _ => none) 0 (some (D + 1))) 1 (some (D + 3))) 2 (some (D + 5))) 3 (some (D + 7))) 4 (some (D + 9))) 5 (some (D + 11))) 6 (some (D + 13))) 7 (some (D + 14)))) = S8
  have n_8 : S8.1 = D + 16 := by rw [← eT]; exact n1
  have d_8 : S8.2 D = some (kO 2 (va_up (va_up (va_up (va_up (va_up (va_up (va_up (va_up (fun _ => none) 0 (some (D + 1))) 1 (some (D + 3))) 2 (some (D + 5))) 3 (some (D + 7))) 4 (some (D + 9))) 5 (some (D + 11))) 6 (some (D + 13))) 7 (some (D + 14)))) := by rw [← eT]; exact Su_at
  have f_8 : ∀ a, D < a → a < D + 14 → S8.2 a = S7.2 a := fun a h1 h2 => by rw [← eT, Su_ne (by omega)]; exact f1 a h2
  have b_8 : ∀ a, a < D → S8.2 a = S.2 a := fun a h => by rw [← eT, Su_ne (by omega)]; exact (f1 a (by omega)).trans (b_7 a h)
  have g_8 : ∀ a, a < D + 14 → μ8 a = μ7 a := g1
  have m_8 : ∀ a, a < D → μ8 a = μ a := fun a h => (g1 a (by omega)).trans (m_7 a h)
  have q_7 : RS S8 (D + 14) 0 := q0.fr (by rw [← eT, Su_ne (by omega)]) (by rw [← eT, Su_ne (by omega)])
  have w_7 : μ8 (D + 14) 1 = 0 := w0
  clear eT f1 n1 g1 w0 v0 q0
  refine X_aload_n (tk_X2_init.at 54 rfl) rfl ?_
  refine X_row (A := D + 16) (len := 50) (tk_X2_init.at 55 rfl) (tk_X2_init.at 56 rfl) cl_x2_45 (fun T τ st h => X_bipush (tk_X2_init.at 57 rfl) cb_50 h) (tk_X2_init.at 58 rfl) lk_x2_47 (Nat.le_of_ble_eq_true rfl) (pl 50 rfl) (by decide) n_8 (fun U μ9 n1 f1 g1 q0 w0 v0 => ?_)
  refine X_putRF (tk_X2_init.at 59 rfl) fl_x2_67 (show U.2 D = some (kO 2 (va_up (va_up (va_up (va_up (va_up (va_up (va_up (va_up (fun _ => none) 0 (some (D + 1))) 1 (some (D + 3))) 2 (some (D + 5))) 3 (some (D + 7))) 4 (some (D + 9))) 5 (some (D + 11))) 6 (some (D + 13))) 7 (some (D + 14)))) from (f1 D (by omega)).trans d_8) rfl rfl rfl rfl ⟨rfl, rfl⟩ ?_
  generalize eT : Su U D (kO 2 (va_up (va_up (va_up (va_up (va_up (va_up (va_up (va_up (va_up (fun _ => none) 0 (some (D + 1))) 1 (some (D + 3))) 2 (some (D + 5))) 3 (some (D + 7))) 4 (some (D + 9))) 5 (some (D + 11))) 6 (some (D + 13))) 7 (some (D + 14))) 8 (some (D + 16)))) = S9
  have n_9 : S9.1 = D + 18 := by rw [← eT]; exact n1
  have d_9 : S9.2 D = some (kO 2 (va_up (va_up (va_up (va_up (va_up (va_up (va_up (va_up (va_up (fun _ => none) 0 (some (D + 1))) 1 (some (D + 3))) 2 (some (D + 5))) 3 (some (D + 7))) 4 (some (D + 9))) 5 (some (D + 11))) 6 (some (D + 13))) 7 (some (D + 14))) 8 (some (D + 16)))) := by rw [← eT]; exact Su_at
  have f_9 : ∀ a, D < a → a < D + 16 → S9.2 a = S8.2 a := fun a h1 h2 => by rw [← eT, Su_ne (by omega)]; exact f1 a h2
  have b_9 : ∀ a, a < D → S9.2 a = S.2 a := fun a h => by rw [← eT, Su_ne (by omega)]; exact (f1 a (by omega)).trans (b_8 a h)
  have g_9 : ∀ a, a < D + 16 → μ9 a = μ8 a := g1
  have m_9 : ∀ a, a < D → μ9 a = μ a := fun a h => (g1 a (by omega)).trans (m_8 a h)
  have q_8 : RS S9 (D + 16) 50 := q0.fr (by rw [← eT, Su_ne (by omega)]) (by rw [← eT, Su_ne (by omega)])
  have w_8 : μ9 (D + 16) 1 = 0 := w0
  clear eT f1 n1 g1 w0 v0 q0
  refine X_aload_n (tk_X2_init.at 60 rfl) rfl ?_
  refine X_row (A := D + 18) (len := 50) (tk_X2_init.at 61 rfl) (tk_X2_init.at 62 rfl) cl_x2_45 (fun T τ st h => X_bipush (tk_X2_init.at 63 rfl) cb_50 h) (tk_X2_init.at 64 rfl) lk_x2_47 (Nat.le_of_ble_eq_true rfl) (pl 50 rfl) (by decide) n_9 (fun U μ10 n1 f1 g1 q0 w0 v0 => ?_)
  refine X_putRF (tk_X2_init.at 65 rfl) fl_x2_70 (show U.2 D = some (kO 2 (va_up (va_up (va_up (va_up (va_up (va_up (va_up (va_up (va_up (fun _ => none) 0 (some (D + 1))) 1 (some (D + 3))) 2 (some (D + 5))) 3 (some (D + 7))) 4 (some (D + 9))) 5 (some (D + 11))) 6 (some (D + 13))) 7 (some (D + 14))) 8 (some (D + 16)))) from (f1 D (by omega)).trans d_9) rfl rfl rfl rfl ⟨rfl, rfl⟩ ?_
  generalize eT : Su U D (kO 2 (va_up (va_up (va_up (va_up (va_up (va_up (va_up (va_up (va_up (va_up (fun _ => none) 0 (some (D + 1))) 1 (some (D + 3))) 2 (some (D + 5))) 3 (some (D + 7))) 4 (some (D + 9))) 5 (some (D + 11))) 6 (some (D + 13))) 7 (some (D + 14))) 8 (some (D + 16))) 9 (some (D + 18)))) = S10
  have n_10 : S10.1 = D + 20 := by rw [← eT]; exact n1
  have d_10 : S10.2 D = some (kO 2 (va_up (va_up (va_up (va_up (va_up (va_up (va_up (va_up (va_up (va_up (fun _ => none) 0 (some (D + 1))) 1 (some (D + 3))) 2 (some (D + 5))) 3 (some (D + 7))) 4 (some (D + 9))) 5 (some (D + 11))) 6 (some (D + 13))) 7 (some (D + 14))) 8 (some (D + 16))) 9 (some (D + 18)))) := by rw [← eT]; exact Su_at
  have f_10 : ∀ a, D < a → a < D + 18 → S10.2 a = S9.2 a := fun a h1 h2 => by rw [← eT, Su_ne (by omega)]; exact f1 a h2
  have b_10 : ∀ a, a < D → S10.2 a = S.2 a := fun a h => by rw [← eT, Su_ne (by omega)]; exact (f1 a (by omega)).trans (b_9 a h)
  have g_10 : ∀ a, a < D + 18 → μ10 a = μ9 a := g1
  have m_10 : ∀ a, a < D → μ10 a = μ a := fun a h => (g1 a (by omega)).trans (m_9 a h)
  have q_9 : RS S10 (D + 18) 50 := q0.fr (by rw [← eT, Su_ne (by omega)]) (by rw [← eT, Su_ne (by omega)])
  have w_9 : μ10 (D + 18) 1 = 0 := w0
  clear eT f1 n1 g1 w0 v0 q0
  refine X_aload_n (tk_X2_init.at 66 rfl) rfl ?_
  refine X_bipush (tk_X2_init.at 67 rfl) cb_60 ?_
  refine X_putI (tk_X2_init.at 68 rfl) fl_x2_73 d_10 rfl rfl ⟨rfl, rfl⟩ ?_
  refine X_aload_n (tk_X2_init.at 69 rfl) rfl ?_
  refine X_iconst (tk_X2_init.at 70 rfl) ci_1 ?_
  refine X_putI (tk_X2_init.at 71 rfl) fl_x2_77 d_10 rfl rfl ⟨rfl, rfl⟩ ?_
  refine X_iconst (tk_X2_init.at 72 rfl) ci_0 ?_
  refine X_istore_n (lv' := [(0, _), (1, _)]) (tk_X2_init.at 73 rfl) (by decide) rfl rfl ?_
  generalize eμ : su (su μ10 D 10 60) D 11 1 = M
  have hM : ∀ a, a ≠ D → M a = μ10 a := fun a h => by rw [← eμ, su_ne h, su_ne h]
  have h10 : M D 10 = 60 := by rw [← eμ, su_same, upd_ne _ _ (by decide), su_same, upd_at]
  have h11 : M D 11 = 1 := by rw [← eμ, su_same, upd_at]
  have a13 : S10.2 (D + 13) = some (kR 0 6 (fun _ => none)) := by rw [f_10 _ (by omega) (by omega), f_9 _ (by omega) (by omega), f_8 _ (by omega) (by omega)]; exact q_6
  have loop : ∀ (m i : Nat) (T : Sh) (τ : Mu) (q : Nat → Option Nat), i + m = 6 → T.1 = D + 20 + 2 * i → T.2 (D + 13) = some (kR 0 6 q) → (∀ k, k < i → q k = some (D + 20 + 2 * k)) → (∀ a, a < D + 20 → a ≠ D + 13 → T.2 a = S10.2 a) → (∀ a, a < D + 20 → τ a = M a) → (∀ k, k < i → RS T (D + 20 + 2 * k) 5 ∧ τ (D + 20 + 2 * k) 1 = 0) → X G mi_X2_init (d + 2) (2 * m) 160 [(0, .ref D), (1, .int (nI i))] [] T τ (qv K) := by
    intro m
    induction m with
    | zero =>
      intro i T τ q hi hT hq hqk fT fτ hrow
      have ei : i = 6 := by omega
      subst ei
      have tD : T.2 D = some (kO 2 (va_up (va_up (va_up (va_up (va_up (va_up (va_up (va_up (va_up (va_up (fun _ => none) 0 (some (D + 1))) 1 (some (D + 3))) 2 (some (D + 5))) 3 (some (D + 7))) 4 (some (D + 9))) 5 (some (D + 11))) 6 (some (D + 13))) 7 (some (D + 14))) 8 (some (D + 16))) 9 (some (D + 18)))) := (fT D (by omega) (by omega)).trans d_10
      refine X_kR (r' := fun i => some (D + 20 + 2 * i)) hq hqk ?_
      generalize eV : Su T (D + 13) (kR 0 6 (fun i => some (D + 20 + 2 * i))) = V
      have v13 : V.2 (D + 13) = some (kR 0 6 (fun i => some (D + 20 + 2 * i))) := by rw [← eV]; exact Su_at
      have vN : ∀ a, a ≠ D + 13 → V.2 a = T.2 a := fun a h => by rw [← eV]; exact Su_ne h
      have vS : ∀ a, a < D + 20 → a ≠ D + 13 → V.2 a = S10.2 a := fun a h1 h2 => (vN a h2).trans (fT a h1 h2)
      have vD : V.2 D = some (kO 2 (va_up (va_up (va_up (va_up (va_up (va_up (va_up (va_up (va_up (va_up (fun _ => none) 0 (some (D + 1))) 1 (some (D + 3))) 2 (some (D + 5))) 3 (some (D + 7))) 4 (some (D + 9))) 5 (some (D + 11))) 6 (some (D + 13))) 7 (some (D + 14))) 8 (some (D + 16))) 9 (some (D + 18)))) := (vN D (by omega)).trans tD
      refine X_iload_n (tk_X2_init.at 74 rfl) rfl ?_
      refine X_aload_n (tk_X2_init.at 75 rfl) rfl ?_
      refine X_getR (tk_X2_init.at 76 rfl) fl_x2_60 vD rfl rfl ?_
      refine X_alenR (tk_X2_init.at 77 rfl) v13 ?_
      refine X_icmp_geN (tgt := 189) (tk_X2_init.at 78 rfl) (by decide) (pl 6 rfl) rfl (by decide) (by decide) (fun _ => ?_) (fun h => absurd h (Nat.lt_irrefl 6))
      refine X_return (tk_X2_init.at 89 rfl) rfl ?_
      have F_10 : ∀ a, D < a → a < D + 20 → a ≠ D + 13 → V.2 a = S10.2 a := fun a h1 h2 h3 => vS a h2 h3
      have F_9 : ∀ a, D < a → a < D + 18 → a ≠ D + 13 → V.2 a = S9.2 a := fun a h1 h2 h3 => (F_10 a h1 (by omega) h3).trans (f_10 a h1 h2)
      have F_8 : ∀ a, D < a → a < D + 16 → a ≠ D + 13 → V.2 a = S8.2 a := fun a h1 h2 h3 => (F_9 a h1 (by omega) h3).trans (f_9 a h1 h2)
      have F_7 : ∀ a, D < a → a < D + 14 → a ≠ D + 13 → V.2 a = S7.2 a := fun a h1 h2 h3 => (F_8 a h1 (by omega) h3).trans (f_8 a h1 h2)
      have F_6 : ∀ a, D < a → a < D + 13 → a ≠ D + 13 → V.2 a = S6.2 a := fun a h1 h2 h3 => (F_7 a h1 (by omega) h3).trans (f_7 a h1 h2)
      have F_5 : ∀ a, D < a → a < D + 11 → a ≠ D + 13 → V.2 a = S5.2 a := fun a h1 h2 h3 => (F_6 a h1 (by omega) h3).trans (f_6 a h1 h2)
      have F_4 : ∀ a, D < a → a < D + 9 → a ≠ D + 13 → V.2 a = S4.2 a := fun a h1 h2 h3 => (F_5 a h1 (by omega) h3).trans (f_5 a h1 h2)
      have F_3 : ∀ a, D < a → a < D + 7 → a ≠ D + 13 → V.2 a = S3.2 a := fun a h1 h2 h3 => (F_4 a h1 (by omega) h3).trans (f_4 a h1 h2)
      have F_2 : ∀ a, D < a → a < D + 5 → a ≠ D + 13 → V.2 a = S2.2 a := fun a h1 h2 h3 => (F_3 a h1 (by omega) h3).trans (f_3 a h1 h2)
      have F_1 : ∀ a, D < a → a < D + 3 → a ≠ D + 13 → V.2 a = S1.2 a := fun a h1 h2 h3 => (F_2 a h1 (by omega) h3).trans (f_2 a h1 h2)
      have E_10 : ∀ a, D < a → a < D + 20 → τ a = μ10 a := fun a h1 h2 => (fτ a h2).trans (hM a (by omega))
      have E_9 : ∀ a, D < a → a < D + 18 → τ a = μ9 a := fun a h1 h2 => (E_10 a h1 (by omega)).trans (g_10 a h2)
      have E_8 : ∀ a, D < a → a < D + 16 → τ a = μ8 a := fun a h1 h2 => (E_9 a h1 (by omega)).trans (g_9 a h2)
      have E_7 : ∀ a, D < a → a < D + 14 → τ a = μ7 a := fun a h1 h2 => (E_8 a h1 (by omega)).trans (g_8 a h2)
      have E_6 : ∀ a, D < a → a < D + 13 → τ a = μ6 a := fun a h1 h2 => (E_7 a h1 (by omega)).trans (g_7 a h2)
      have E_5 : ∀ a, D < a → a < D + 11 → τ a = μ5 a := fun a h1 h2 => (E_6 a h1 (by omega)).trans (g_6 a h2)
      have E_4 : ∀ a, D < a → a < D + 9 → τ a = μ4 a := fun a h1 h2 => (E_5 a h1 (by omega)).trans (g_5 a h2)
      have E_3 : ∀ a, D < a → a < D + 7 → τ a = μ3 a := fun a h1 h2 => (E_4 a h1 (by omega)).trans (g_4 a h2)
      have E_2 : ∀ a, D < a → a < D + 5 → τ a = μ2 a := fun a h1 h2 => (E_3 a h1 (by omega)).trans (g_3 a h2)
      have E_1 : ∀ a, D < a → a < D + 3 → τ a = μ1 a := fun a h1 h2 => (E_2 a h1 (by omega)).trans (g_2 a h2)
      have vb : ∀ a, a < D → V.2 a = S.2 a := fun a h => (vS a (by omega) (by omega)).trans (b_10 a h)
      have er : (va_up (va_up (va_up (va_up (va_up (va_up (va_up (va_up (va_up (va_up (fun _ => none) 0 (some (D + 1))) 1 (some (D + 3))) 2 (some (D + 5))) 3 (some (D + 7))) 4 (some (D + 9))) 5 (some (D + 11))) 6 (some (D + 13))) 7 (some (D + 14))) 8 (some (D + 16))) 9 (some (D + 18))) = rD D := funext (fun k => by rcases k with _ | _ | _ | _ | _ | _ | _ | _ | _ | _ | k <;> rfl)
      refine hK V τ ⟨?_, vb, fun a h => ?_⟩ ⟨by rw [vD, er], q_0.fr (F_1 _ (by omega) (by omega) (by omega)) (F_1 _ (by omega) (by omega) (by omega)) (by rw [vb _ (hst 0 (by decide)).1, b_1 _ (hst 0 (by decide)).1]) (by rw [vb _ (hst 1 (by decide)).1, b_1 _ (hst 1 (by decide)).1]), q_1.fr (F_2 _ (by omega) (by omega) (by omega)) (F_2 _ (by omega) (by omega) (by omega)) (by rw [vb _ (hst 2 (by decide)).1, b_2 _ (hst 2 (by decide)).1]) (by rw [vb _ (hst 3 (by decide)).1, b_2 _ (hst 3 (by decide)).1]), q_2.fr (F_3 _ (by omega) (by omega) (by omega)) (F_3 _ (by omega) (by omega) (by omega)) (by rw [vb _ (hst 4 (by decide)).1, b_3 _ (hst 4 (by decide)).1]) (by rw [vb _ (hst 5 (by decide)).1, b_3 _ (hst 5 (by decide)).1]), q_3.fr (F_4 _ (by omega) (by omega) (by omega)) (F_4 _ (by omega) (by omega) (by omega)), q_4.fr (F_5 _ (by omega) (by omega) (by omega)) (F_5 _ (by omega) (by omega) (by omega)), q_5.fr (F_6 _ (by omega) (by omega) (by omega)) (F_6 _ (by omega) (by omega) (by omega)), v13, q_7.fr (F_8 _ (by omega) (by omega) (by omega)) (F_8 _ (by omega) (by omega) (by omega)), q_8.fr (F_9 _ (by omega) (by omega) (by omega)) (F_9 _ (by omega) (by omega) (by omega)), q_9.fr (F_10 _ (by omega) (by omega) (by omega)) (F_10 _ (by omega) (by omega) (by omega)), fun i hi => (hrow i hi).1.fr (vN _ (by omega)) (vN _ (by omega))⟩ ?_
      · rw [← eV]; show T.1 = S.1 + 31; omega
      · rw [fτ a (by omega), hM a (by omega)]; exact m_10 a h
      refine ⟨⟨by rw [fτ D (by omega), h10]; rfl, by rw [fτ D (by omega), h11]; rfl⟩, ⟨by rw [E_1 _ (by omega) (by omega), w_0, N0_z (by omega) (by omega)], fun p c hp => absurd hp (by rw [N0_z (by omega) (by omega)]; exact Nat.not_lt_zero p)⟩, ⟨by rw [E_2 _ (by omega) (by omega), w_1, N0_z (by omega) (by omega)], fun p c hp => absurd hp (by rw [N0_z (by omega) (by omega)]; exact Nat.not_lt_zero p)⟩, ⟨by rw [E_3 _ (by omega) (by omega), w_2, N0_z (by omega) (by omega)], fun p c hp => absurd hp (by rw [N0_z (by omega) (by omega)]; exact Nat.not_lt_zero p)⟩, ⟨by rw [E_4 _ (by omega) (by omega), w_3, N0_z (by omega) (by omega)], fun i hi => absurd hi (by rw [N0_z (by omega) (by omega)]; exact Nat.not_lt_zero i)⟩, ⟨by rw [E_5 _ (by omega) (by omega), w_4, N0_z (by omega) (by omega)], fun i hi => absurd hi (by rw [N0_z (by omega) (by omega)]; exact Nat.not_lt_zero i)⟩, ⟨by rw [E_6 _ (by omega) (by omega), w_5, N0_z (by omega) (by omega)], fun i hi => absurd hi (by rw [N0_z (by omega) (by omega)]; exact Nat.not_lt_zero i)⟩, fun r1 hr1 => ?_, by rw [E_8 _ (by omega) (by omega), w_7], ⟨by rw [E_9 _ (by omega) (by omega), w_8, N0_z (by omega) (by omega)], fun i hi => absurd hi (by rw [N0_z (by omega) (by omega)]; exact Nat.not_lt_zero i)⟩, ⟨by rw [E_10 _ (by omega) (by omega), w_9, N0_z (by omega) (by omega)], fun i hi => absurd hi (by rw [N0_z (by omega) (by omega)]; exact Nat.not_lt_zero i)⟩⟩
      rw [if_neg (by rw [N0_z (by omega) (by omega)]; exact Nat.not_lt_zero r1)]
      exact ⟨(hrow r1 hr1).2, fun i hi => absurd hi (Nat.not_lt_zero i)⟩
    | succ m ih =>
      intro i T τ q hi hT hq hqk fT fτ hrow
      have tD : T.2 D = some (kO 2 (va_up (va_up (va_up (va_up (va_up (va_up (va_up (va_up (va_up (va_up (fun _ => none) 0 (some (D + 1))) 1 (some (D + 3))) 2 (some (D + 5))) 3 (some (D + 7))) 4 (some (D + 9))) 5 (some (D + 11))) 6 (some (D + 13))) 7 (some (D + 14))) 8 (some (D + 16))) 9 (some (D + 18)))) := (fT D (by omega) (by omega)).trans d_10
      refine X_iload_n (tk_X2_init.at 74 rfl) rfl ?_
      refine X_aload_n (tk_X2_init.at 75 rfl) rfl ?_
      refine X_getR (tk_X2_init.at 76 rfl) fl_x2_60 tD rfl rfl ?_
      refine X_alenR (tk_X2_init.at 77 rfl) hq ?_
      refine X_icmp_geN (tgt := 189) (tk_X2_init.at 78 rfl) (by decide) (pl i rfl) rfl (by omega) (by decide) (fun h => by exfalso; omega) (fun _ => ?_)
      refine X_aload_n (tk_X2_init.at 79 rfl) rfl ?_
      refine X_getR (tk_X2_init.at 80 rfl) fl_x2_60 tD rfl rfl ?_
      refine X_iload_n (tk_X2_init.at 81 rfl) rfl ?_
      rw [Nat.mul_succ]
      refine X_row (kc := 2 * m) (A := D + 20 + 2 * i) (len := 5) (tk_X2_init.at 82 rfl) (tk_X2_init.at 83 rfl) cl_x2_45 (fun T τ st h => X_iconst (tk_X2_init.at 84 rfl) ci_5 h) (tk_X2_init.at 85 rfl) lk_x2_47 (Nat.le_of_ble_eq_true rfl) (pl 5 rfl) (by decide) hT (fun U υ n1 f1 g1 q0 w0 v0 => ?_)
      refine X_aast (tk_X2_init.at 86 rfl) (show U.2 (D + 13) = some (kR 0 6 q) from (f1 _ (by omega)).trans hq) (vp_in_nI (by omega) (by decide)) q0.1 (by decide) rfl ?_
      refine X_iinc (lv' := [(0, _), (1, _)]) (tk_X2_init.at 87 rfl) rfl ci_1 (by decide) rfl rfl ?_
      refine X_goto (tgt := 160) (tk_X2_init.at 88 rfl) (by decide) ?_
      rw [nI_1 i, show (nI i).toNatClampNeg = i from nv_nI (by omega)]
      refine ih (i + 1) _ υ (va_up q i (some (D + 20 + 2 * i))) (by omega) (by show U.1 = _; omega) Su_at (fun k hk => ?_) (fun a h1 h2 => by rw [Su_ne h2, f1 a (by omega)]; exact fT a h1 h2) (fun a h => (g1 a (by omega)).trans (fτ a h)) (fun k hk => ?_)
      · unfold va_up; by_cases e : k = i; rw [if_pos e, e]; rw [if_neg e]; exact hqk k (by omega)
      · by_cases e : k = i
        · subst e; exact ⟨q0.fr (Su_ne (by omega)) (Su_ne (by omega)), w0⟩
        · exact ⟨(hrow k (by omega)).1.fr (by rw [Su_ne (by omega)]; exact f1 _ (by omega)) (by rw [Su_ne (by omega)]; exact f1 _ (by omega)), by rw [g1 _ (by omega)]; exact (hrow k (by omega)).2⟩
  exact loop 6 0 S10 M (fun _ => none) rfl n_10 a13 (fun k hk => absurd hk (Nat.not_lt_zero k)) (fun a h1 h2 => rfl) (fun a h => rfl) (fun k hk => absurd hk (Nat.not_lt_zero k))
