set_option maxHeartbeats 1000000 in
theorem c7_copyFrom {G : Gl} {d : Nat} {S : Sh} {μ : Mu} {H Q n m a b c : Nat} {x y z : Int32} {K : Sh → Mu → Prop} (hH : HS S H) (hQ : HS S Q) (hn : μ H 2 = nI n) (hb : n ≤ 40) (hm : μ Q 2 = nI m) (hb2 : m ≤ 40) (hj : x = nI b) (hi : y = nI a) (hc : z = nI c) (h1 : b + c ≤ n) (h2 : a + c ≤ m) (hK : K S (Mx μ (H + 1) (va_cpy (μ (Q + 1)) (μ (H + 1)) a b c))) : X G mi_X7_copyFrom (d + 1) 0 0 [(0, .ref H), (1, .int x), (2, .ref Q), (3, .int y), (4, .int z)] [] S μ (qv K) := by
  refine X_aload_n (tk_X7_copyFrom.at 0 rfl) rfl ?_
  refine X_iload_n (tk_X7_copyFrom.at 1 rfl) rfl ?_
  refine X_iload (tk_X7_copyFrom.at 2 rfl) rfl ?_
  refine X_cV2i (lv2 := [(0, _), (1, _), (2, _)]) (tk_X7_copyFrom.at 3 rfl) mv_X7_stands lk_x7_37 np_X7_stands hH.1 (by decide) rfl (Nat.le_of_ble_eq_true rfl) (Nat.le_of_ble_eq_true rfl) rfl (c7_stands hH hn hb (fun _ => ?_) (fun h => absurd (show Stn x z n from ⟨b, c, hj, hc, h1⟩) h))
  refine X_if_eq (tgt := 35) (tk_X7_copyFrom.at 4 rfl) (by decide) (fun h => absurd h (by decide)) (fun _ => ?_)
  refine X_aload_n (tk_X7_copyFrom.at 5 rfl) rfl ?_
  refine X_iload_n (tk_X7_copyFrom.at 6 rfl) rfl ?_
  refine X_iload (tk_X7_copyFrom.at 7 rfl) rfl ?_
  refine X_cV2i (lv2 := [(0, _), (1, _), (2, _)]) (tk_X7_copyFrom.at 8 rfl) mv_X7_stands lk_x7_37 np_X7_stands hQ.1 (by decide) rfl (Nat.le_of_ble_eq_true rfl) (Nat.le_of_ble_eq_true rfl) rfl (c7_stands hQ hm hb2 (fun _ => ?_) (fun h => absurd (show Stn y z m from ⟨a, c, hi, hc, h2⟩) h))
  refine X_if_eq (tgt := 35) (tk_X7_copyFrom.at 9 rfl) (by decide) (fun h => absurd h (by decide)) (fun _ => ?_)
  refine X_aload_n (tk_X7_copyFrom.at 10 rfl) rfl ?_
  refine X_getR (tk_X7_copyFrom.at 11 rfl) fl_x7_9 hQ.1 rfl rfl ?_
  refine X_iload_n (tk_X7_copyFrom.at 12 rfl) rfl ?_
  refine X_aload_n (tk_X7_copyFrom.at 13 rfl) rfl ?_
  refine X_getR (tk_X7_copyFrom.at 14 rfl) fl_x7_9 hH.1 rfl rfl ?_
  refine X_iload_n (tk_X7_copyFrom.at 15 rfl) rfl ?_
  refine X_iload (tk_X7_copyFrom.at 16 rfl) rfl ?_
  refine X_copy (tk_X7_copyFrom.at 17 rfl) lk_x7_41 hQ.2 hH.2 (by rw [hi]; exact nI_pos (by omega)) (by rw [hj]; exact nI_pos (by omega)) (by rw [hc]; exact nI_pos (by omega)) ?_ ?_ (Nat.le_of_ble_eq_true rfl) ?_
  · rw [hi, hc, nI_clamp (by omega), nI_clamp (by omega)]; omega
  · rw [hj, hc, nI_clamp (by omega), nI_clamp (by omega)]; omega
  rw [hi, hj, hc, nI_clamp (by omega), nI_clamp (by omega), nI_clamp (by omega)]
  refine X_return (tk_X7_copyFrom.at 18 rfl) rfl ?_
  exact hK
