set_option maxHeartbeats 1000000 in
theorem c2_aheadOf {G : Gl} {d : Nat} {S : Sh} {μ : Mu} {D : Nat} {N : Nat → Int32} {x : Int32} {k : Nat} {K : Int32 → Sh → Mu → Prop} (hD : DS G S D) (hw : WF N) (hr : repD μ D N) (hk : k < nv (N 4)) (hx : N (134 + k) = x) (hK : K (nI (bef N k)) S μ) : X G mi_X2_aheadOf (d + 1) 0 0 [(0, .ref D), (1, .int x)] [] S μ (qi K) := by
  have b1 := hw.n1.2
  have b2 := hw.n2.2
  have b3 := hw.n3.2
  have b4 := hw.n4.2
  have loop : ∀ (m i : Nat), i + m = k → X G mi_X2_aheadOf (d + 1) 0 4 [(0, .ref D), (1, .int x), (2, .int (nI (bef N i))), (3, .int (nI i))] [] S μ (qi K) := by
    intro m
    induction m with
    | zero =>
      intro i hm
      have e : i = k := by omega
      refine X_iload_n (tk_X2_aheadOf.at 4 rfl) rfl ?_
      refine X_aload_n (tk_X2_aheadOf.at 5 rfl) rfl ?_
      refine X_getR (tk_X2_aheadOf.at 6 rfl) fl_x2_50 hD.1 rfl rfl ?_
      refine X_iload_n (tk_X2_aheadOf.at 7 rfl) rfl ?_
      refine X_cV1i (lv2 := [(0, _), (1, _)]) (tk_X2_aheadOf.at 8 rfl) mv_X6_placeOf lk_x2_91 np_X6_placeOf hD.2.2.2.2.1.1 (by decide) rfl (Nat.le_of_ble_eq_true rfl) (Nat.le_of_ble_eq_true rfl) rfl (d_lpl hD hw hr (fun i10 hi10 h10 => ?_) (fun h10 => absurd hx (h10 k hk)))
      rw [show i10 = k from hw.lu hi10 hk (h10.trans hx.symm)]
      refine X_icmp_geN (tgt := 40) (tk_X2_aheadOf.at 9 rfl) (by decide) (pl i rfl) (pl k rfl) (by omega) (by omega) (fun c1 => ?_) (fun c1 => (by exfalso; omega))
      refine X_iload_n (tk_X2_aheadOf.at 22 rfl) rfl ?_
      refine X_ireturn (tk_X2_aheadOf.at 23 rfl) rfl rfl ?_
      rw [e]
      exact hK
    | succ m ih =>
      intro i hm
      have hl : lnA N i < nv (N 3) := (hw.li (k := i) (by omega)).2
      refine X_iload_n (tk_X2_aheadOf.at 4 rfl) rfl ?_
      refine X_aload_n (tk_X2_aheadOf.at 5 rfl) rfl ?_
      refine X_getR (tk_X2_aheadOf.at 6 rfl) fl_x2_50 hD.1 rfl rfl ?_
      refine X_iload_n (tk_X2_aheadOf.at 7 rfl) rfl ?_
      refine X_cV1i (lv2 := [(0, _), (1, _)]) (tk_X2_aheadOf.at 8 rfl) mv_X6_placeOf lk_x2_91 np_X6_placeOf hD.2.2.2.2.1.1 (by decide) rfl (Nat.le_of_ble_eq_true rfl) (Nat.le_of_ble_eq_true rfl) rfl (d_lpl hD hw hr (fun i10 hi10 h10 => ?_) (fun h10 => absurd hx (h10 k hk)))
      rw [show i10 = k from hw.lu hi10 hk (h10.trans hx.symm)]
      refine X_icmp_geN (tgt := 40) (tk_X2_aheadOf.at 9 rfl) (by decide) (pl i rfl) (pl k rfl) (by omega) (by omega) (fun c1 => (by exfalso; omega)) (fun c1 => ?_)
      refine X_iload_n (tk_X2_aheadOf.at 10 rfl) rfl ?_
      refine X_aload_n (tk_X2_aheadOf.at 11 rfl) rfl ?_
      refine X_aload_n (tk_X2_aheadOf.at 12 rfl) rfl ?_
      refine X_getR (tk_X2_aheadOf.at 13 rfl) fl_x2_50 hD.1 rfl rfl ?_
      refine X_iload_n (tk_X2_aheadOf.at 14 rfl) rfl ?_
      refine X_cV1i (lv2 := [(0, _), (1, _)]) (tk_X2_aheadOf.at 15 rfl) mv_X6_at lk_x2_98 np_X6_at hD.2.2.2.2.1.1 (by decide) rfl (Nat.le_of_ble_eq_true rfl) (Nat.le_of_ble_eq_true rfl) rfl (d_lat (i := i) hD hw hr (pz (pl i rfl) (by omega)) (by omega) ?_)
      refine X_cV1r (lv2 := [(0, _), (1, _)]) (tk_X2_aheadOf.at 16 rfl) mv_X2_rowOf lk_x2_87 np_X2_rowOf hD.1 (by decide) rfl (Nat.le_of_ble_eq_true rfl) (Nat.le_of_ble_eq_true rfl) rfl (d_rowOf (r := (lnA N i)) hD hw hr (pz (pl (lnA N i) rfl) (by omega)) (by omega) ?_)
      refine X_cV0i (lv2 := [(0, _)]) (tk_X2_aheadOf.at 17 rfl) mv_X6_size lk_x2_101 np_X6_size (hD.2.2.2.2.2.2.2.2.2.2.2 ((lnA N i)) (by omega)).1 (by decide) rfl (Nat.le_of_ble_eq_true rfl) (Nat.le_of_ble_eq_true rfl) rfl (d_rsz hD hw hr (by omega) ?_)
      refine X_iadd (tk_X2_aheadOf.at 18 rfl) ?_
      refine X_istore_n (lv' := [(0, _), (1, _), (2, _), (3, _)]) (tk_X2_aheadOf.at 19 rfl) (by decide) rfl rfl ?_
      refine X_iinc (lv' := [(0, _), (1, _), (2, _), (3, _)]) (tk_X2_aheadOf.at 20 rfl) rfl ci_1 (by decide) rfl rfl ?_
      refine X_goto (tgt := 4) (tk_X2_aheadOf.at 21 rfl) (by decide) ?_
      rw [nI_1 i, nI_add]
      exact ih (i + 1) (by omega)
  refine X_iconst (tk_X2_aheadOf.at 0 rfl) ci_0 ?_
  refine X_istore_n (lv' := [(0, _), (1, _), (2, _)]) (tk_X2_aheadOf.at 1 rfl) (by decide) rfl rfl ?_
  refine X_iconst (tk_X2_aheadOf.at 2 rfl) ci_0 ?_
  refine X_istore_n (lv' := [(0, _), (1, _), (2, _), (3, _)]) (tk_X2_aheadOf.at 3 rfl) (by decide) rfl rfl ?_
  exact loop k 0 (Nat.zero_add k)
theorem pcn_60 {N : Nat → Int32} (hw : WF N) {r : Nat} (h3 : r < nv (N 3)) : ∀ i, i ≤ mny N r → pcn N r i ≤ 60
  | 0, _ => Nat.zero_le _
  | i + 1, h => by
    have h1 := pcn_60 hw h3 i (by omega)
    have wp := hw.wh h3 (i := i) (by omega)
    have w2 := (hw.pe wp.2).2.2.1.1.2
    show (if _ then _ else _) ≤ 60
    split <;> omega
set_option maxHeartbeats 1000000 in
theorem c2_slowestPace {G : Gl} {d : Nat} {S : Sh} {μ : Mu} {D : Nat} {N : Nat → Int32} {x : Int32} {rn : Nat} {K : Int32 → Sh → Mu → Prop} (hD : DS G S D) (hw : WF N) (hr : repD μ D N) (hx : x = nI rn) (h3 : rn < nv (N 3)) (hK : K (nI (pac N rn)) S μ) : X G mi_X2_slowestPace (d + 1) 0 0 [(0, .ref D), (1, .int x)] [] S μ (qi K) := by
  have b1 := hw.n1.2
  have b2 := hw.n2.2
  have b3 := hw.n3.2
  have b4 := hw.n4.2
  have bm := hw.mb h3
  have loop : ∀ (m i : Nat), i + m = mny N rn → X G mi_X2_slowestPace (d + 1) 0 11 [(0, .ref D), (1, .int x), (2, .ref (D + 20 + 2 * rn)), (3, .int (nI (pcn N rn i))), (4, .int (nI i))] [] S μ (qi K) := by
    intro m
    induction m with
    | zero =>
      intro i hm
      have e : i = mny N rn := by omega
      refine X_iload (tk_X2_slowestPace.at 8 rfl) rfl ?_
      refine X_aload_n (tk_X2_slowestPace.at 9 rfl) rfl ?_
      refine X_cV0i (lv2 := [(0, _)]) (tk_X2_slowestPace.at 10 rfl) mv_X6_size lk_x2_101 np_X6_size (hD.2.2.2.2.2.2.2.2.2.2.2 rn (by omega)).1 (by decide) rfl (Nat.le_of_ble_eq_true rfl) (Nat.le_of_ble_eq_true rfl) rfl (d_rsz hD hw hr (by omega) ?_)
      refine X_icmp_geN (tgt := 45) (tk_X2_slowestPace.at 11 rfl) (by decide) (pl i rfl) (pl (mny N rn) rfl) (by omega) (by omega) (fun c1 => ?_) (fun c1 => (by exfalso; omega))
      refine X_iload_n (tk_X2_slowestPace.at 24 rfl) rfl ?_
      refine X_ireturn (tk_X2_slowestPace.at 25 rfl) rfl rfl ?_
      rw [e]
      exact hK
    | succ m ih =>
      intro i hm
      have wp := hw.wh h3 (i := i) (by omega)
      have bp := wp.2
      have w2 := (hw.pe wp.2).2.2.1.1
      have b60 := pcn_60 hw h3 i (by omega)
      have b61 := w2.2
      refine X_iload (tk_X2_slowestPace.at 8 rfl) rfl ?_
      refine X_aload_n (tk_X2_slowestPace.at 9 rfl) rfl ?_
      refine X_cV0i (lv2 := [(0, _)]) (tk_X2_slowestPace.at 10 rfl) mv_X6_size lk_x2_101 np_X6_size (hD.2.2.2.2.2.2.2.2.2.2.2 rn (by omega)).1 (by decide) rfl (Nat.le_of_ble_eq_true rfl) (Nat.le_of_ble_eq_true rfl) rfl (d_rsz hD hw hr (by omega) ?_)
      refine X_icmp_geN (tgt := 45) (tk_X2_slowestPace.at 11 rfl) (by decide) (pl i rfl) (pl (mny N rn) rfl) (by omega) (by omega) (fun c1 => (by exfalso; omega)) (fun c1 => ?_)
      refine X_iload_n (tk_X2_slowestPace.at 12 rfl) rfl ?_
      refine X_aload_n (tk_X2_slowestPace.at 13 rfl) rfl ?_
      refine X_getR (tk_X2_slowestPace.at 14 rfl) fl_x2_21 hD.1 rfl rfl ?_
      refine X_aload_n (tk_X2_slowestPace.at 15 rfl) rfl ?_
      refine X_iload (tk_X2_slowestPace.at 16 rfl) rfl ?_
      refine X_cV1i (lv2 := [(0, _), (1, _)]) (tk_X2_slowestPace.at 17 rfl) mv_X6_at lk_x2_98 np_X6_at (hD.2.2.2.2.2.2.2.2.2.2.2 rn (by omega)).1 (by decide) rfl (Nat.le_of_ble_eq_true rfl) (Nat.le_of_ble_eq_true rfl) rfl (d_rat (k := 84 + 9 * rn + i) (i := i) hD hw hr (by omega) (pz (pl i rfl) (by omega)) (by omega) (by omega) ?_)
      refine X_iconst (tk_X2_slowestPace.at 18 rfl) ci_2 ?_
      refine X_cV2i (lv2 := [(0, _), (1, _), (2, _)]) (tk_X2_slowestPace.at 19 rfl) mv_X3_get lk_x2_105 np_X3_get hD.2.1.1 (by decide) rfl (Nat.le_of_ble_eq_true rfl) (Nat.le_of_ble_eq_true rfl) rfl (d_pg (k := 10 + 4 * (nv (N (84 + 9 * rn + i)))) (p := (nv (N (84 + 9 * rn + i)))) (c := 2) hD hw hr (pz wp.1 (by omega)) (by omega) (pz (pl 2 rfl) (by omega)) (by omega) (by omega) ?_)
      refine X_max (tk_X2_slowestPace.at 20 rfl) lk_x2_109 (Nat.le_of_ble_eq_true rfl) ?_
      rw [w2.1, mx_nI (by omega) (by omega)]
      refine X_istore_n (lv' := [(0, _), (1, _), (2, _), (3, _), (4, _)]) (tk_X2_slowestPace.at 21 rfl) (by decide) rfl rfl ?_
      refine X_iinc (lv' := [(0, _), (1, _), (2, _), (3, _), (4, _)]) (tk_X2_slowestPace.at 22 rfl) rfl ci_1 (by decide) rfl rfl ?_
      refine X_goto (tgt := 11) (tk_X2_slowestPace.at 23 rfl) (by decide) ?_
      rw [nI_1 i]
      exact ih (i + 1) (by omega)
  refine X_aload_n (tk_X2_slowestPace.at 0 rfl) rfl ?_
  refine X_iload_n (tk_X2_slowestPace.at 1 rfl) rfl ?_
  refine X_cV1r (lv2 := [(0, _), (1, _)]) (tk_X2_slowestPace.at 2 rfl) mv_X2_rowOf lk_x2_87 np_X2_rowOf hD.1 (by decide) rfl (Nat.le_of_ble_eq_true rfl) (Nat.le_of_ble_eq_true rfl) rfl (d_rowOf (r := rn) hD hw hr hx (by omega) ?_)
  refine X_astore_n (lv' := [(0, _), (1, _), (2, _)]) (tk_X2_slowestPace.at 3 rfl) (by decide) rfl rfl ?_
  refine X_iconst (tk_X2_slowestPace.at 4 rfl) ci_0 ?_
  refine X_istore_n (lv' := [(0, _), (1, _), (2, _), (3, _)]) (tk_X2_slowestPace.at 5 rfl) (by decide) rfl rfl ?_
  refine X_iconst (tk_X2_slowestPace.at 6 rfl) ci_0 ?_
  refine X_istore (lv' := [(0, _), (1, _), (2, _), (3, _), (4, _)]) (tk_X2_slowestPace.at 7 rfl) (by decide) rfl rfl ?_
  exact loop _ 0 (Nat.zero_add _)
set_option maxHeartbeats 1000000 in
theorem c2_pullOf {G : Gl} {d : Nat} {S : Sh} {μ : Mu} {D : Nat} {N : Nat → Int32} {x y : Int32} {p c : Nat} {K : Int32 → Sh → Mu → Prop} (hD : DS G S D) (hw : WF N) (hr : repD μ D N) (hx : x = nI p) (hp : p < nv (N 1)) (hy : y = nI c) (hc : c < nv (N 2)) (hK : K (pull N p c) S μ) : X G mi_X2_pullOf (d + 1) 0 0 [(0, .ref D), (1, .int x), (2, .int y)] [] S μ (qi K) := by
  have b1 := hw.n1.2
  have b2 := hw.n2.2
  have b3 := hw.n3.2
  have b4 := hw.n4.2
  refine X_aload_n (tk_X2_pullOf.at 0 rfl) rfl ?_
  refine X_getR (tk_X2_pullOf.at 1 rfl) fl_x2_21 hD.1 rfl rfl ?_
  refine X_iload_n (tk_X2_pullOf.at 2 rfl) rfl ?_
  refine X_iconst (tk_X2_pullOf.at 3 rfl) ci_0 ?_
  refine X_cV2i (lv2 := [(0, _), (1, _), (2, _)]) (tk_X2_pullOf.at 4 rfl) mv_X3_get lk_x2_105 np_X3_get hD.2.1.1 (by decide) rfl (Nat.le_of_ble_eq_true rfl) (Nat.le_of_ble_eq_true rfl) rfl (d_pg (k := 8 + 4 * p) (p := p) (c := 0) hD hw hr hx (by omega) (pz (pl 0 rfl) (by omega)) (by omega) (by omega) ?_)
  refine X_bipush (tk_X2_pullOf.at 5 rfl) cb_10 ?_
  refine X_aload_n (tk_X2_pullOf.at 6 rfl) rfl ?_
  refine X_getR (tk_X2_pullOf.at 7 rfl) fl_x2_33 hD.1 rfl rfl ?_
  refine X_iload_n (tk_X2_pullOf.at 8 rfl) rfl ?_
  refine X_iconst (tk_X2_pullOf.at 9 rfl) ci_0 ?_
  refine X_cV2i (lv2 := [(0, _), (1, _), (2, _)]) (tk_X2_pullOf.at 10 rfl) mv_X3_get lk_x2_105 np_X3_get hD.2.2.1.1 (by decide) rfl (Nat.le_of_ble_eq_true rfl) (Nat.le_of_ble_eq_true rfl) rfl (d_cg (k := 48 + 4 * c) (p := c) (c := 0) hD hw hr hy (by omega) (pz (pl 0 rfl) (by omega)) (by omega) (by omega) ?_)
  refine X_iadd (tk_X2_pullOf.at 11 rfl) ?_
  refine X_imul (tk_X2_pullOf.at 12 rfl) ?_
  refine X_bipush (tk_X2_pullOf.at 13 rfl) cb_10 ?_
  refine X_idiv (tk_X2_pullOf.at 14 rfl) (by decide) ?_
  refine X_ireturn (tk_X2_pullOf.at 15 rfl) rfl rfl ?_
  exact hK
def lwo (N : Nat → Int32) (r : Nat) : Nat := if nv (N (80 + 9 * r)) = 6 then 1 else mny N r
set_option maxHeartbeats 1000000 in
theorem c2_lostWithOne {G : Gl} {d : Nat} {S : Sh} {μ : Mu} {D : Nat} {N : Nat → Int32} {x : Int32} {rn : Nat} {K : Int32 → Sh → Mu → Prop} (hD : DS G S D) (hw : WF N) (hr : repD μ D N) (hx : x = nI rn) (h3 : rn < nv (N 3)) (hK : K (nI (lwo N rn)) S μ) : X G mi_X2_lostWithOne (d + 1) 0 0 [(0, .ref D), (1, .int x)] [] S μ (qi K) := by
  have b1 := hw.n1.2
  have b2 := hw.n2.2
  have b3 := hw.n3.2
  have b4 := hw.n4.2
  have wk := (hw.ro h3).1
  have bk := wk.2
  refine X_aload_n (tk_X2_lostWithOne.at 0 rfl) rfl ?_
  refine X_getR (tk_X2_lostWithOne.at 1 rfl) fl_x2_42 hD.1 rfl rfl ?_
  refine X_iload_n (tk_X2_lostWithOne.at 2 rfl) rfl ?_
  refine X_iconst (tk_X2_lostWithOne.at 3 rfl) ci_0 ?_
  refine X_cV2i (lv2 := [(0, _), (1, _), (2, _)]) (tk_X2_lostWithOne.at 4 rfl) mv_X3_get lk_x2_105 np_X3_get hD.2.2.2.1.1 (by decide) rfl (Nat.le_of_ble_eq_true rfl) (Nat.le_of_ble_eq_true rfl) rfl (d_rg (k := 80 + 9 * rn) (p := rn) (c := 0) hD hw hr hx (by omega) (pz (pl 0 rfl) (by omega)) (by omega) (by omega) ?_)
  refine X_bipush (tk_X2_lostWithOne.at 5 rfl) cb_6 ?_
  refine X_icmp_neN (tgt := 18) (tk_X2_lostWithOne.at 6 rfl) (by decide) wk.1 (pl 6 rfl) (by omega) (by omega) (fun c1 => ?_) (fun c1 => ?_)
  · refine X_aload_n (tk_X2_lostWithOne.at 9 rfl) rfl ?_
    refine X_iload_n (tk_X2_lostWithOne.at 10 rfl) rfl ?_
    refine X_cV1r (lv2 := [(0, _), (1, _)]) (tk_X2_lostWithOne.at 11 rfl) mv_X2_rowOf lk_x2_87 np_X2_rowOf hD.1 (by decide) rfl (Nat.le_of_ble_eq_true rfl) (Nat.le_of_ble_eq_true rfl) rfl (d_rowOf (r := rn) hD hw hr hx (by omega) ?_)
    refine X_cV0i (lv2 := [(0, _)]) (tk_X2_lostWithOne.at 12 rfl) mv_X6_size lk_x2_101 np_X6_size (hD.2.2.2.2.2.2.2.2.2.2.2 rn (by omega)).1 (by decide) rfl (Nat.le_of_ble_eq_true rfl) (Nat.le_of_ble_eq_true rfl) rfl (d_rsz hD hw hr (by omega) ?_)
    refine X_ireturn (tk_X2_lostWithOne.at 13 rfl) rfl rfl ?_
    unfold lwo at hK
    rw [if_neg c1] at hK
    exact hK
  · refine X_iconst (tk_X2_lostWithOne.at 7 rfl) ci_1 ?_
    refine X_goto (tgt := 26) (tk_X2_lostWithOne.at 8 rfl) (by decide) ?_
    refine X_ireturn (tk_X2_lostWithOne.at 13 rfl) rfl rfl ?_
    unfold lwo at hK
    rw [if_pos c1] at hK
    exact hK
set_option maxHeartbeats 1000000 in
theorem c2_draw {G : Gl} {d : Nat} {S : Sh} {μ : Mu} {D : Nat} {K : Int32 → Sh → Mu → Prop} (hD : DS G S D) (hK : K (ush (nz (μ D 11))) S (su μ D 11 (nz (μ D 11)))) : X G mi_X2_draw d 0 0 [(0, .ref D)] [] S μ (qi K) := by
  refine X_aload_n (tk_X2_draw.at 0 rfl) rfl ?_
  refine X_aload_n (tk_X2_draw.at 1 rfl) rfl ?_
  refine X_getI (tk_X2_draw.at 2 rfl) fl_x2_77 hD.1 rfl ?_
  refine X_ldc (tk_X2_draw.at 3 rfl) kn_x2_127 ?_
  refine X_imul (tk_X2_draw.at 4 rfl) ?_
  refine X_sipush (tk_X2_draw.at 5 rfl) cs_12345 ?_
  refine X_iadd (tk_X2_draw.at 6 rfl) ?_
  refine X_putI (tk_X2_draw.at 7 rfl) fl_x2_77 hD.1 rfl rfl ⟨rfl, rfl⟩ ?_
  refine X_aload_n (tk_X2_draw.at 8 rfl) rfl ?_
  refine X_getI (tk_X2_draw.at 9 rfl) fl_x2_77 hD.1 rfl ?_
  refine X_bipush (tk_X2_draw.at 10 rfl) cb_8 ?_
  refine X_iushr (tk_X2_draw.at 11 rfl) ?_
  refine X_ireturn (tk_X2_draw.at 12 rfl) rfl rfl ?_
  rw [show (su μ D 11 (μ D 11 * 1103515245 + 12345)) D 11 = nz (μ D 11) from by rw [su_same]; exact upd_at _ _ _]
  exact hK
