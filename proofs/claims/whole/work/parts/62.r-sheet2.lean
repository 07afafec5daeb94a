set_option maxHeartbeats 1000000 in
theorem c7_become {G : Gl} {d : Nat} {S : Sh} {μ : Mu} {H m : Nat} {x y : Int32} {K : Sh → Mu → Prop} (hH : HS S H) (hy : y = nI m) (hm : m ≤ 40) (hK : ∀ B, (∀ i, i < 40 → B i = 0) → K S (Mx (su (su μ H 1 x) H 2 (nI m)) (H + 1) B)) : X G mi_X7_become (d + 1) 0 0 [(0, .ref H), (1, .int x), (2, .int y)] [] S μ (qv K) := by
  refine X_aload_n (tk_X7_become.at 0 rfl) rfl ?_
  refine X_iload_n (tk_X7_become.at 1 rfl) rfl ?_
  refine X_putI (tk_X7_become.at 2 rfl) fl_x7_15 hH.1 rfl rfl ⟨rfl, rfl⟩ ?_
  refine X_aload_n (tk_X7_become.at 3 rfl) rfl ?_
  refine X_iconst (tk_X7_become.at 4 rfl) ci_0 ?_
  refine X_iload_n (tk_X7_become.at 5 rfl) rfl ?_
  refine X_aload_n (tk_X7_become.at 6 rfl) rfl ?_
  refine X_getR (tk_X7_become.at 7 rfl) fl_x7_9 hH.1 rfl rfl ?_
  refine X_alen (tk_X7_become.at 8 rfl) hH.2 ?_
  refine X_min (tk_X7_become.at 9 rfl) lk_x7_22 (Nat.le_of_ble_eq_true rfl) ?_
  refine X_max (tk_X7_become.at 10 rfl) lk_x7_28 (Nat.le_of_ble_eq_true rfl) ?_
  rw [hy, show (if nI 40 < nI m then nI 40 else nI m) = nI m from if_neg (nI_nlt (by omega) (by decide)), show (if (0 : Int32) < nI m then nI m else 0) = nI m from ?_]
  rotate_left
  · rcases Nat.eq_zero_or_pos m with z | z
    · rw [z, if_neg (by decide)]; rfl
    · exact if_pos (show nI 0 < nI m from nI_lt z (by omega))
  refine X_putI (tk_X7_become.at 11 rfl) fl_x7_19 hH.1 rfl rfl ⟨rfl, rfl⟩ ?_
  refine X_aload_n (tk_X7_become.at 12 rfl) rfl ?_
  refine X_getR (tk_X7_become.at 13 rfl) fl_x7_9 hH.1 rfl rfl ?_
  refine X_iconst (tk_X7_become.at 14 rfl) ci_0 ?_
  refine X_cS2v (lv2 := [(0, _), (1, _)]) (tk_X7_become.at 15 rfl) ms_J7_fill_53178 lk_x7_31 np_J7_fill_53178 (Nat.le_of_ble_eq_true rfl) (Nat.le_of_ble_eq_true rfl) rfl (cj_fill hH.2 (by decide) (fun B hB => ?_))
  refine X_return (tk_X7_become.at 16 rfl) rfl ?_
  exact hK B hB
set_option maxHeartbeats 1000000 in
theorem c7_write {G : Gl} {d : Nat} {S : Sh} {μ : Mu} {H n : Nat} {x v : Int32} {j : Nat} {K : Sh → Mu → Prop} (hH : HS S H) (hn : μ H 2 = nI n) (hb : n ≤ 40) (hx : x = nI j) (hj : j < n) (hK : K S (su μ (H + 1) j (nar (μ H 1) v))) : X G mi_X7_write d 0 0 [(0, .ref H), (1, .int x), (2, .int v)] [] S μ (qv K) := by
  refine X_iload_n (tk_X7_write.at 0 rfl) rfl ?_
  refine X_if_ltN (tgt := 47) (tk_X7_write.at 1 rfl) (by decide) hx (by omega) ?_
  refine X_iload_n (tk_X7_write.at 2 rfl) rfl ?_
  refine X_aload_n (tk_X7_write.at 3 rfl) rfl ?_
  refine X_getI (tk_X7_write.at 4 rfl) fl_x7_19 hH.1 rfl ?_
  refine X_icmp_geN (tgt := 47) (tk_X7_write.at 5 rfl) (by decide) hx hn (by omega) (by omega) (fun c2 => (by exfalso; omega)) (fun c2 => ?_)
  refine X_aload_n (tk_X7_write.at 6 rfl) rfl ?_
  refine X_getR (tk_X7_write.at 7 rfl) fl_x7_9 hH.1 rfl rfl ?_
  refine X_iload_n (tk_X7_write.at 8 rfl) rfl ?_
  refine X_aload_n (tk_X7_write.at 9 rfl) rfl ?_
  refine X_getI (tk_X7_write.at 10 rfl) fl_x7_15 hH.1 rfl ?_
  refine X_bipush (tk_X7_write.at 11 rfl) cb_8 ?_
  refine X_icmp_ne (tgt := 31) (tk_X7_write.at 12 rfl) (by decide) (fun c3 => ?_) (fun c3 => ?_)
  · refine X_aload_n (tk_X7_write.at 16 rfl) rfl ?_
    refine X_getI (tk_X7_write.at 17 rfl) fl_x7_15 hH.1 rfl ?_
    refine X_bipush (tk_X7_write.at 18 rfl) cb_16 ?_
    refine X_icmp_ne (tgt := 45) (tk_X7_write.at 19 rfl) (by decide) (fun c4 => ?_) (fun c4 => ?_)
    · refine X_iload_n (tk_X7_write.at 23 rfl) rfl ?_
      refine X_iastN (k := j) (tk_X7_write.at 24 rfl) hH.2 hx (by omega) (by decide) ?_
      refine X_return (tk_X7_write.at 25 rfl) rfl ?_
      have z := hK
      rw [show nar (μ H 1) v = v from by unfold nar; simp [c3, c4]] at z
      exact z
    · refine X_iload_n (tk_X7_write.at 20 rfl) rfl ?_
      refine X_i2s (tk_X7_write.at 21 rfl) ?_
      refine X_goto (tgt := 46) (tk_X7_write.at 22 rfl) (by decide) ?_
      refine X_iastN (k := j) (tk_X7_write.at 24 rfl) hH.2 hx (by omega) (by decide) ?_
      refine X_return (tk_X7_write.at 25 rfl) rfl ?_
      have z := hK
      rw [show nar (μ H 1) v = v.toInt16.toInt32 from by unfold nar; simp [c3, c4]] at z
      exact z
  · refine X_iload_n (tk_X7_write.at 13 rfl) rfl ?_
    refine X_i2b (tk_X7_write.at 14 rfl) ?_
    refine X_goto (tgt := 46) (tk_X7_write.at 15 rfl) (by decide) ?_
    refine X_iastN (k := j) (tk_X7_write.at 24 rfl) hH.2 hx (by omega) (by decide) ?_
    refine X_return (tk_X7_write.at 25 rfl) rfl ?_
    have z := hK
    rw [show nar (μ H 1) v = v.toInt8.toInt32 from by unfold nar; simp [c3]] at z
    exact z
