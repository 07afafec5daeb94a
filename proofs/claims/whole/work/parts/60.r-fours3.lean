set_option maxHeartbeats 1000000 in
theorem c3_add {G : Gl} {d : Nat} {S : Sh} {μ : Mu} {F la ma n len : Nat} {a b c e : Int32} {K : Sh → Mu → Prop} (hF3 : FS S F la ma len) (hn : μ F 3 = nI n) (hb : 4 * n ≤ len) (hl : len ≤ 60) (hf : 4 * (n + 1) ≤ len) (hK : K S (Mx (su μ F 3 (nI (n + 1))) (F + 1) (upd (upd (upd (upd (μ (F + 1)) (4 * n + 0) a) (4 * n + 1) b) (4 * n + 2) c) (4 * n + 3) e))) : X G mi_X3_add (d + 2) 0 0 [(0, .ref F), (1, .int a), (2, .int b), (3, .int c), (4, .int e)] [] S μ (qv K) := by
  have hsz : ∀ B, (Mx (su μ F 3 (nI (n + 1))) (F + 1) B) F 3 = nI (n + 1) := fun B => by rw [Mx_ne (by omega), su_same]; exact upd_at _ _ _
  refine X_aload_n (tk_X3_add.at 0 rfl) rfl ?_
  refine X_cV0i (lv2 := [(0, _)]) (tk_X3_add.at 1 rfl) mv_X3_isFull lk_x3_35 np_X3_isFull hF3.1 (by decide) rfl (Nat.le_of_ble_eq_true rfl) (Nat.le_of_ble_eq_true rfl) rfl (c3_isFull hF3 hn hb hl (fun h1 => absurd h1 (by omega)) (fun h1 => ?_))
  refine X_if_eq (tgt := 8) (tk_X3_add.at 2 rfl) (by decide) (fun _ => ?_) (fun h => absurd h (by decide))
  refine X_aload_n (tk_X3_add.at 4 rfl) rfl ?_
  refine X_dup (tk_X3_add.at 5 rfl) rfl ?_
  refine X_getI (tk_X3_add.at 6 rfl) fl_x3_9 hF3.1 rfl ?_
  refine X_iconst (tk_X3_add.at 7 rfl) ci_1 ?_
  refine X_iadd (tk_X3_add.at 8 rfl) ?_
  refine X_putI (tk_X3_add.at 9 rfl) fl_x3_9 hF3.1 rfl rfl ⟨rfl, rfl⟩ ?_
  rw [hn, nI_1, show (su μ F 3 (nI (n + 1))) = Mx (su μ F 3 (nI (n + 1))) (F + 1) (μ (F + 1)) from by rw [show μ (F + 1) = (su μ F 3 (nI (n + 1))) (F + 1) from (by rw [su_ne (by omega)]), Mx_self]]
  refine X_aload_n (tk_X3_add.at 10 rfl) rfl ?_
  refine X_aload_n (tk_X3_add.at 11 rfl) rfl ?_
  refine X_getI (tk_X3_add.at 12 rfl) fl_x3_9 hF3.1 rfl ?_
  refine X_iconst (tk_X3_add.at 13 rfl) ci_1 ?_
  refine X_isub (tk_X3_add.at 14 rfl) ?_
  refine X_iconst (tk_X3_add.at 15 rfl) ci_0 ?_
  refine X_iload_n (tk_X3_add.at 16 rfl) rfl ?_
  refine X_cV3v (lv2 := [(0, _), (1, _), (2, _), (3, _)]) (tk_X3_add.at 17 rfl) mv_X3_change lk_x3_39 np_X3_change hF3.1 (by decide) rfl (Nat.le_of_ble_eq_true rfl) (Nat.le_of_ble_eq_true rfl) rfl (c3_change (n := n + 1) (r := n) (c := 0) hF3 (hsz _) (by omega) hl (by rw [hsz]; exact nI_pred n) (by omega) (pl 0 rfl) (by decide) ?_)
  rw [su_Mx]
  refine X_aload_n (tk_X3_add.at 18 rfl) rfl ?_
  refine X_aload_n (tk_X3_add.at 19 rfl) rfl ?_
  refine X_getI (tk_X3_add.at 20 rfl) fl_x3_9 hF3.1 rfl ?_
  refine X_iconst (tk_X3_add.at 21 rfl) ci_1 ?_
  refine X_isub (tk_X3_add.at 22 rfl) ?_
  refine X_iconst (tk_X3_add.at 23 rfl) ci_1 ?_
  refine X_iload_n (tk_X3_add.at 24 rfl) rfl ?_
  refine X_cV3v (lv2 := [(0, _), (1, _), (2, _), (3, _)]) (tk_X3_add.at 25 rfl) mv_X3_change lk_x3_39 np_X3_change hF3.1 (by decide) rfl (Nat.le_of_ble_eq_true rfl) (Nat.le_of_ble_eq_true rfl) rfl (c3_change (n := n + 1) (r := n) (c := 1) hF3 (hsz _) (by omega) hl (by rw [hsz]; exact nI_pred n) (by omega) (pl 1 rfl) (by decide) ?_)
  rw [su_Mx]
  refine X_aload_n (tk_X3_add.at 26 rfl) rfl ?_
  refine X_aload_n (tk_X3_add.at 27 rfl) rfl ?_
  refine X_getI (tk_X3_add.at 28 rfl) fl_x3_9 hF3.1 rfl ?_
  refine X_iconst (tk_X3_add.at 29 rfl) ci_1 ?_
  refine X_isub (tk_X3_add.at 30 rfl) ?_
  refine X_iconst (tk_X3_add.at 31 rfl) ci_2 ?_
  refine X_iload_n (tk_X3_add.at 32 rfl) rfl ?_
  refine X_cV3v (lv2 := [(0, _), (1, _), (2, _), (3, _)]) (tk_X3_add.at 33 rfl) mv_X3_change lk_x3_39 np_X3_change hF3.1 (by decide) rfl (Nat.le_of_ble_eq_true rfl) (Nat.le_of_ble_eq_true rfl) rfl (c3_change (n := n + 1) (r := n) (c := 2) hF3 (hsz _) (by omega) hl (by rw [hsz]; exact nI_pred n) (by omega) (pl 2 rfl) (by decide) ?_)
  rw [su_Mx]
  refine X_aload_n (tk_X3_add.at 34 rfl) rfl ?_
  refine X_aload_n (tk_X3_add.at 35 rfl) rfl ?_
  refine X_getI (tk_X3_add.at 36 rfl) fl_x3_9 hF3.1 rfl ?_
  refine X_iconst (tk_X3_add.at 37 rfl) ci_1 ?_
  refine X_isub (tk_X3_add.at 38 rfl) ?_
  refine X_iconst (tk_X3_add.at 39 rfl) ci_3 ?_
  refine X_iload (tk_X3_add.at 40 rfl) rfl ?_
  refine X_cV3v (lv2 := [(0, _), (1, _), (2, _), (3, _)]) (tk_X3_add.at 41 rfl) mv_X3_change lk_x3_39 np_X3_change hF3.1 (by decide) rfl (Nat.le_of_ble_eq_true rfl) (Nat.le_of_ble_eq_true rfl) rfl (c3_change (n := n + 1) (r := n) (c := 3) hF3 (hsz _) (by omega) hl (by rw [hsz]; exact nI_pred n) (by omega) (pl 3 rfl) (by decide) ?_)
  rw [su_Mx]
  refine X_return (tk_X3_add.at 42 rfl) rfl ?_
  exact hK
set_option maxHeartbeats 1000000 in
theorem c3_copyFrom {G : Gl} {d : Nat} {S : Sh} {μ : Mu} {F Q la ma m len : Nat} {K : Sh → Mu → Prop} (hF3 : FS S F la ma len) (hQ : FS S Q la ma len) (hm : μ Q 3 = nI m) (h1 : 4 * m ≤ len) (hl : len ≤ 60) (hQR : Q + 1 ≠ F) (hK : ∀ B, (∀ i, i < 4 * m → B i = μ (Q + 1) i) → K S (Mx (su μ F 3 (nI m)) (F + 1) B)) : X G mi_X3_copyFrom (d + 1) 0 0 [(0, .ref F), (1, .ref Q)] [] S μ (qv K) := by
  refine X_aload_n (tk_X3_copyFrom.at 0 rfl) rfl ?_
  refine X_aload_n (tk_X3_copyFrom.at 1 rfl) rfl ?_
  refine X_getI (tk_X3_copyFrom.at 2 rfl) fl_x3_9 hQ.1 rfl ?_
  refine X_aload_n (tk_X3_copyFrom.at 3 rfl) rfl ?_
  refine X_getR (tk_X3_copyFrom.at 4 rfl) fl_x3_28 hF3.1 rfl rfl ?_
  refine X_alen (tk_X3_copyFrom.at 5 rfl) hF3.2.1 ?_
  refine X_iconst (tk_X3_copyFrom.at 6 rfl) ci_4 ?_
  refine X_idiv (tk_X3_copyFrom.at 7 rfl) (by decide) ?_
  refine X_min (tk_X3_copyFrom.at 8 rfl) lk_x3_47 (Nat.le_of_ble_eq_true rfl) ?_
  rw [hm, show nI len / 4 = nI (len / 4) from pk_div (by omega) (by decide) (by decide), show (if nI (len / 4) < nI m then nI (len / 4) else nI m) = nI m from if_neg (nI_nlt (by omega) (by omega))]
  refine X_putI (tk_X3_copyFrom.at 9 rfl) fl_x3_9 hF3.1 rfl rfl ⟨rfl, rfl⟩ ?_
  refine X_aload_n (tk_X3_copyFrom.at 10 rfl) rfl ?_
  refine X_getR (tk_X3_copyFrom.at 11 rfl) fl_x3_28 hQ.1 rfl rfl ?_
  refine X_iconst (tk_X3_copyFrom.at 12 rfl) ci_0 ?_
  refine X_aload_n (tk_X3_copyFrom.at 13 rfl) rfl ?_
  refine X_getR (tk_X3_copyFrom.at 14 rfl) fl_x3_28 hF3.1 rfl rfl ?_
  refine X_iconst (tk_X3_copyFrom.at 15 rfl) ci_0 ?_
  refine X_aload_n (tk_X3_copyFrom.at 16 rfl) rfl ?_
  refine X_getI (tk_X3_copyFrom.at 17 rfl) fl_x3_9 hF3.1 rfl ?_
  refine X_iconst (tk_X3_copyFrom.at 18 rfl) ci_4 ?_
  refine X_imul (tk_X3_copyFrom.at 19 rfl) ?_
  have e1 : su μ F 3 (nI m) F 3 = nI m := by rw [su_same]; exact upd_at _ _ _
  rw [e1, show nI m * 4 = nI (m * 4) from pk_mul m 4]
  refine X_copy (tk_X3_copyFrom.at 20 rfl) lk_x3_50 hQ.2.1 hF3.2.1 (by decide) (by decide) (nI_pos (by omega)) ?_ ?_ (Nat.le_of_ble_eq_true rfl) ?_
  · rw [nI_clamp (by omega)]; show 0 + m * 4 ≤ _; omega
  · rw [nI_clamp (by omega)]; show 0 + m * 4 ≤ _; omega
  rw [nI_clamp (by omega)]
  refine X_return (tk_X3_copyFrom.at 21 rfl) rfl ?_
  refine hK _ (fun i hi => ?_)
  rw [show (0 : Int32).toNatClampNeg = 0 from rfl, sb_cpy0 (by omega), su_ne hQR]
