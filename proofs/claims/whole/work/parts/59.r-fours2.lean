set_option maxHeartbeats 1000000 in
theorem c3_fitsColumn {G : Gl} {d : Nat} {S : Sh} {μ : Mu} {F la ma c len : Nat} {x v : Int32} {K : Int32 → Sh → Mu → Prop} (hF3 : FS S F la ma len) (hx : x = nI c) (hc : c < 4) (kt : (μ la c ≤ v ∧ v ≤ μ ma c) → K 1 S μ) (kf : ¬ (μ la c ≤ v ∧ v ≤ μ ma c) → K 0 S μ) : X G mi_X3_fitsColumn d 0 0 [(0, .ref F), (1, .int x), (2, .int v)] [] S μ (qi K) := by
  refine X_iload_n (tk_X3_fitsColumn.at 0 rfl) rfl ?_
  refine X_if_ltN (tgt := 22) (tk_X3_fitsColumn.at 1 rfl) (by decide) hx (by omega) ?_
  refine X_iload_n (tk_X3_fitsColumn.at 2 rfl) rfl ?_
  refine X_aload_n (tk_X3_fitsColumn.at 3 rfl) rfl ?_
  refine X_getR (tk_X3_fitsColumn.at 4 rfl) fl_x3_15 hF3.1 rfl rfl ?_
  refine X_alenC (tk_X3_fitsColumn.at 5 rfl) hF3.2.2.1 ?_
  refine X_icmp_geN (tgt := 22) (tk_X3_fitsColumn.at 6 rfl) (by decide) hx rfl (by omega) (by omega) (fun c2 => (by exfalso; omega)) (fun c2 => ?_)
  refine X_iload_n (tk_X3_fitsColumn.at 7 rfl) rfl ?_
  refine X_aload_n (tk_X3_fitsColumn.at 8 rfl) rfl ?_
  refine X_getR (tk_X3_fitsColumn.at 9 rfl) fl_x3_19 hF3.1 rfl rfl ?_
  refine X_alenC (tk_X3_fitsColumn.at 10 rfl) hF3.2.2.2 ?_
  refine X_icmp_ltN (tgt := 24) (tk_X3_fitsColumn.at 11 rfl) (by decide) hx rfl (by omega) (by omega) (fun c3 => ?_) (fun c3 => (by exfalso; omega))
  refine X_iload_n (tk_X3_fitsColumn.at 14 rfl) rfl ?_
  refine X_aload_n (tk_X3_fitsColumn.at 15 rfl) rfl ?_
  refine X_getR (tk_X3_fitsColumn.at 16 rfl) fl_x3_15 hF3.1 rfl rfl ?_
  refine X_iload_n (tk_X3_fitsColumn.at 17 rfl) rfl ?_
  refine X_ialdCN (k := c) (tk_X3_fitsColumn.at 18 rfl) hF3.2.2.1 hx (by omega) (by decide) ?_
  refine X_icmp_lt (tgt := 48) (tk_X3_fitsColumn.at 19 rfl) (by decide) (fun c4 => ?_) (fun c4 => ?_)
  · refine X_iconst (tk_X3_fitsColumn.at 28 rfl) ci_0 ?_
    refine X_ireturn (tk_X3_fitsColumn.at 29 rfl) rfl rfl ?_
    exact kf (fun g => by first | exact absurd g.2 (Int32.not_le.mpr c4) | exact absurd g.1 (Int32.not_le.mpr c4))
  · refine X_iload_n (tk_X3_fitsColumn.at 20 rfl) rfl ?_
    refine X_aload_n (tk_X3_fitsColumn.at 21 rfl) rfl ?_
    refine X_getR (tk_X3_fitsColumn.at 22 rfl) fl_x3_19 hF3.1 rfl rfl ?_
    refine X_iload_n (tk_X3_fitsColumn.at 23 rfl) rfl ?_
    refine X_ialdCN (k := c) (tk_X3_fitsColumn.at 24 rfl) hF3.2.2.2 hx (by omega) (by decide) ?_
    refine X_icmp_gt (tgt := 48) (tk_X3_fitsColumn.at 25 rfl) (by decide) (fun c5 => ?_) (fun c5 => ?_)
    · refine X_iconst (tk_X3_fitsColumn.at 28 rfl) ci_0 ?_
      refine X_ireturn (tk_X3_fitsColumn.at 29 rfl) rfl rfl ?_
      exact kf (fun g => by first | exact absurd g.2 (Int32.not_le.mpr c5) | exact absurd g.1 (Int32.not_le.mpr c5))
    · refine X_iconst (tk_X3_fitsColumn.at 26 rfl) ci_1 ?_
      refine X_goto (tgt := 49) (tk_X3_fitsColumn.at 27 rfl) (by decide) ?_
      refine X_ireturn (tk_X3_fitsColumn.at 29 rfl) rfl rfl ?_
      exact kt ⟨Int32.not_lt.mp c4, Int32.not_lt.mp c5⟩
set_option maxHeartbeats 1000000 in
theorem c3_fits {G : Gl} {d : Nat} {S : Sh} {μ : Mu} {F la ma len : Nat} {a b c e : Int32} {K : Int32 → Sh → Mu → Prop} (hF3 : FS S F la ma len) (kt : ((μ la 0 ≤ a ∧ a ≤ μ ma 0) ∧ (μ la 1 ≤ b ∧ b ≤ μ ma 1)) ∧ ((μ la 2 ≤ c ∧ c ≤ μ ma 2) ∧ (μ la 3 ≤ e ∧ e ≤ μ ma 3)) → K 1 S μ) (kf : ¬ (((μ la 0 ≤ a ∧ a ≤ μ ma 0) ∧ (μ la 1 ≤ b ∧ b ≤ μ ma 1)) ∧ ((μ la 2 ≤ c ∧ c ≤ μ ma 2) ∧ (μ la 3 ≤ e ∧ e ≤ μ ma 3))) → K 0 S μ) : X G mi_X3_fits (d + 1) 0 0 [(0, .ref F), (1, .int a), (2, .int b), (3, .int c), (4, .int e)] [] S μ (qi K) := by
  refine X_aload_n (tk_X3_fits.at 0 rfl) rfl ?_
  refine X_iconst (tk_X3_fits.at 1 rfl) ci_0 ?_
  refine X_iload_n (tk_X3_fits.at 2 rfl) rfl ?_
  refine X_cV2i (lv2 := [(0, _), (1, _), (2, _)]) (tk_X3_fits.at 3 rfl) mv_X3_fitsColumn lk_x3_31 np_X3_fitsColumn hF3.1 (by decide) rfl (Nat.le_of_ble_eq_true rfl) (Nat.le_of_ble_eq_true rfl) rfl (c3_fitsColumn hF3 (pl 0 rfl) (by decide) (fun h3 => ?_) (fun h3 => ?_))
  · refine X_if_eq (tgt := 41) (tk_X3_fits.at 4 rfl) (by decide) (fun h => absurd h (by decide)) (fun _ => ?_)
    refine X_aload_n (tk_X3_fits.at 5 rfl) rfl ?_
    refine X_iconst (tk_X3_fits.at 6 rfl) ci_1 ?_
    refine X_iload_n (tk_X3_fits.at 7 rfl) rfl ?_
    refine X_cV2i (lv2 := [(0, _), (1, _), (2, _)]) (tk_X3_fits.at 8 rfl) mv_X3_fitsColumn lk_x3_31 np_X3_fitsColumn hF3.1 (by decide) rfl (Nat.le_of_ble_eq_true rfl) (Nat.le_of_ble_eq_true rfl) rfl (c3_fitsColumn hF3 (pl 1 rfl) (by decide) (fun h12 => ?_) (fun h12 => ?_))
    · refine X_if_eq (tgt := 41) (tk_X3_fits.at 9 rfl) (by decide) (fun h => absurd h (by decide)) (fun _ => ?_)
      refine X_aload_n (tk_X3_fits.at 10 rfl) rfl ?_
      refine X_iconst (tk_X3_fits.at 11 rfl) ci_2 ?_
      refine X_iload_n (tk_X3_fits.at 12 rfl) rfl ?_
      refine X_cV2i (lv2 := [(0, _), (1, _), (2, _)]) (tk_X3_fits.at 13 rfl) mv_X3_fitsColumn lk_x3_31 np_X3_fitsColumn hF3.1 (by decide) rfl (Nat.le_of_ble_eq_true rfl) (Nat.le_of_ble_eq_true rfl) rfl (c3_fitsColumn hF3 (pl 2 rfl) (by decide) (fun h21 => ?_) (fun h21 => ?_))
      · refine X_if_eq (tgt := 41) (tk_X3_fits.at 14 rfl) (by decide) (fun h => absurd h (by decide)) (fun _ => ?_)
        refine X_aload_n (tk_X3_fits.at 15 rfl) rfl ?_
        refine X_iconst (tk_X3_fits.at 16 rfl) ci_3 ?_
        refine X_iload (tk_X3_fits.at 17 rfl) rfl ?_
        refine X_cV2i (lv2 := [(0, _), (1, _), (2, _)]) (tk_X3_fits.at 18 rfl) mv_X3_fitsColumn lk_x3_31 np_X3_fitsColumn hF3.1 (by decide) rfl (Nat.le_of_ble_eq_true rfl) (Nat.le_of_ble_eq_true rfl) rfl (c3_fitsColumn hF3 (pl 3 rfl) (by decide) (fun h31 => ?_) (fun h31 => ?_))
        · refine X_if_eq (tgt := 41) (tk_X3_fits.at 19 rfl) (by decide) (fun h => absurd h (by decide)) (fun _ => ?_)
          refine X_iconst (tk_X3_fits.at 20 rfl) ci_1 ?_
          refine X_goto (tgt := 42) (tk_X3_fits.at 21 rfl) (by decide) ?_
          refine X_ireturn (tk_X3_fits.at 23 rfl) rfl rfl ?_
          exact kt ⟨⟨h3, h12⟩, ⟨h21, h31⟩⟩
        · refine X_if_eq (tgt := 41) (tk_X3_fits.at 19 rfl) (by decide) (fun _ => ?_) (fun h => absurd h (by decide))
          refine X_iconst (tk_X3_fits.at 22 rfl) ci_0 ?_
          refine X_ireturn (tk_X3_fits.at 23 rfl) rfl rfl ?_
          exact kf (fun g => by obtain ⟨⟨a1, a2⟩, a3, a4⟩ := g; first | exact h31 a4 | exact h21 a3 | exact h12 a2 | exact h3 a1)
      · refine X_if_eq (tgt := 41) (tk_X3_fits.at 14 rfl) (by decide) (fun _ => ?_) (fun h => absurd h (by decide))
        refine X_iconst (tk_X3_fits.at 22 rfl) ci_0 ?_
        refine X_ireturn (tk_X3_fits.at 23 rfl) rfl rfl ?_
        exact kf (fun g => by obtain ⟨⟨a1, a2⟩, a3, a4⟩ := g; first | exact h31 a4 | exact h21 a3 | exact h12 a2 | exact h3 a1)
    · refine X_if_eq (tgt := 41) (tk_X3_fits.at 9 rfl) (by decide) (fun _ => ?_) (fun h => absurd h (by decide))
      refine X_iconst (tk_X3_fits.at 22 rfl) ci_0 ?_
      refine X_ireturn (tk_X3_fits.at 23 rfl) rfl rfl ?_
      exact kf (fun g => by obtain ⟨⟨a1, a2⟩, a3, a4⟩ := g; first | exact h31 a4 | exact h21 a3 | exact h12 a2 | exact h3 a1)
  · refine X_if_eq (tgt := 41) (tk_X3_fits.at 4 rfl) (by decide) (fun _ => ?_) (fun h => absurd h (by decide))
    refine X_iconst (tk_X3_fits.at 22 rfl) ci_0 ?_
    refine X_ireturn (tk_X3_fits.at 23 rfl) rfl rfl ?_
    exact kf (fun g => by obtain ⟨⟨a1, a2⟩, a3, a4⟩ := g; first | exact h31 a4 | exact h21 a3 | exact h12 a2 | exact h3 a1)
set_option maxHeartbeats 1000000 in
theorem c3_change {G : Gl} {d : Nat} {S : Sh} {μ : Mu} {F la ma n len : Nat} {x y v : Int32} {r c : Nat} {K : Sh → Mu → Prop} (hF3 : FS S F la ma len) (hn : μ F 3 = nI n) (hb : 4 * n ≤ len) (hl : len ≤ 60) (hx : x = nI r) (hr : r < n) (hy : y = nI c) (hc : c < 4) (hK : K S (su μ (F + 1) (4 * r + c) v)) : X G mi_X3_change (d + 1) 0 0 [(0, .ref F), (1, .int x), (2, .int y), (3, .int v)] [] S μ (qv K) := by
  refine X_aload_n (tk_X3_change.at 0 rfl) rfl ?_
  refine X_iload_n (tk_X3_change.at 1 rfl) rfl ?_
  refine X_cV1i (lv2 := [(0, _), (1, _)]) (tk_X3_change.at 2 rfl) mv_X3_has lk_x3_43 np_X3_has hF3.1 (by decide) rfl (Nat.le_of_ble_eq_true rfl) (Nat.le_of_ble_eq_true rfl) rfl (c3_has hF3 hn hb hl (fun j2 hj2 ej2 => ?_) (fun hj2 => absurd ⟨r, hr, hx⟩ hj2))
  refine X_if_eq (tgt := 28) (tk_X3_change.at 3 rfl) (by decide) (fun h => absurd h (by decide)) (fun _ => ?_)
  refine X_iload_n (tk_X3_change.at 4 rfl) rfl ?_
  refine X_if_ltN (tgt := 28) (tk_X3_change.at 5 rfl) (by decide) hy (by omega) ?_
  refine X_iload_n (tk_X3_change.at 6 rfl) rfl ?_
  refine X_iconst (tk_X3_change.at 7 rfl) ci_4 ?_
  refine X_icmp_geN (tgt := 28) (tk_X3_change.at 8 rfl) (by decide) hy (pl 4 rfl) (by omega) (by omega) (fun c3 => (by exfalso; omega)) (fun c3 => ?_)
  refine X_aload_n (tk_X3_change.at 9 rfl) rfl ?_
  refine X_getR (tk_X3_change.at 10 rfl) fl_x3_28 hF3.1 rfl rfl ?_
  refine X_iload_n (tk_X3_change.at 11 rfl) rfl ?_
  refine X_iconst (tk_X3_change.at 12 rfl) ci_4 ?_
  refine X_imul (tk_X3_change.at 13 rfl) ?_
  refine X_iload_n (tk_X3_change.at 14 rfl) rfl ?_
  refine X_iadd (tk_X3_change.at 15 rfl) ?_
  refine X_iload_n (tk_X3_change.at 16 rfl) rfl ?_
  refine X_iastN (k := 4 * r + c) (tk_X3_change.at 17 rfl) hF3.2.1 (pz (pa (pm hx (pl 4 rfl)) hy) (by omega)) (by omega) (by omega) ?_
  refine X_return (tk_X3_change.at 18 rfl) rfl ?_
  exact hK
