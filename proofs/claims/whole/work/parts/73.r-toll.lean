set_option maxHeartbeats 1000000 in
theorem c1_riskOf {G : Gl} {d : Nat} {S : Sh} {μ : Mu} {C D : Nat} {N : Nat → Int32} {x y z w ov : Int32} {k i c : Nat} {cm of h P : Nat → Int32} {K : Int32 → Sh → Mu → Prop} (hC : XS S C) (hD : DS G S D) (hw : WF N) (hr : repD μ D N) (hdis : D + 32 ≤ C ∨ C + 6 ≤ D) (hI : Crs N cm of (nv (N 4))) (hk : k < nv (N 4)) (hx : x = nI (lnA N k)) (hi : i < mny N (lnA N k)) (hy : y = nI (nv (N (84 + 9 * lnA N k + i)))) (hz : z = nI c) (hc : c < nv (N 2)) (hb : w = nI (bef N k + i)) (hK : ∀ h P, K (nI (rkc N k i c)) S (Tc μ C ov cm of h P)) : X G mi_X1_riskOf (d + 3) 0 0 [(0, .ref C), (1, .ref D), (2, .int x), (3, .int y), (4, .int z), (5, .int w)] [] S (Tc μ C ov cm of h P) (qi K) := by
  subst hb
  have b1 := hw.n1.2
  have b2 := hw.n2.2
  have b3 := hw.n3.2
  have b4 := hw.n4.2
  have bl := hw.lb hk
  have ba := arv_le hw (k := k) (c := c) (by omega) (by omega)
  have hp : 0 < mny N (lnA N k) := by omega
  have bp := (hw.wh bl hi).2
  refine X_aload_n (tk_X1_riskOf.at 0 rfl) rfl ?_
  refine X_iload_n (tk_X1_riskOf.at 1 rfl) rfl ?_
  refine X_iload (tk_X1_riskOf.at 2 rfl) rfl ?_
  refine X_cV2i (lv2 := [(0, _), (1, _), (2, _)]) (tk_X1_riskOf.at 3 rfl) mv_X1_comesTo lk_x1_78 np_X1_comesTo hC.1 (by decide) rfl (Nat.le_of_ble_eq_true rfl) (Nat.le_of_ble_eq_true rfl) rfl (c1_comesTo (v := nI (arv N k c)) hC hx (by omega) hz (by omega) (by rw [Tc4]; exact (hI k hk hp c hc).1) ?_)
  refine X_bipush (tk_X1_riskOf.at 4 rfl) cb_60 ?_
  refine X_idiv (tk_X1_riskOf.at 5 rfl) (by decide) ?_
  rw [show nI (arv N k c) / 60 = nI (arv N k c / 60) from pk_div (by omega) (by decide) (by decide)]
  refine X_istore (lv' := [(0, _), (1, _), (2, _), (3, _), (4, _), (5, _), (6, _)]) (tk_X1_riskOf.at 6 rfl) (by decide) rfl rfl ?_
  refine X_aload_n (tk_X1_riskOf.at 7 rfl) rfl ?_
  refine X_getR (tk_X1_riskOf.at 8 rfl) fl_x1_59 hD.1 rfl rfl ?_
  refine X_iload (tk_X1_riskOf.at 9 rfl) rfl ?_
  refine X_iconst (tk_X1_riskOf.at 10 rfl) ci_1 ?_
  refine X_cV2i (lv2 := [(0, _), (1, _), (2, _)]) (tk_X1_riskOf.at 11 rfl) mv_X3_get lk_x1_81 np_X3_get hD.2.2.1.1 (by decide) rfl (Nat.le_of_ble_eq_true rfl) (Nat.le_of_ble_eq_true rfl) rfl (d_cg (k := 49 + 4 * c) (p := c) (c := 1) hD hw (rTc hdis hr) hz (by omega) (pz (pl 1 rfl) (by omega)) (by omega) (by omega) ?_)
  refine X_istore (lv' := [(0, _), (1, _), (2, _), (3, _), (4, _), (5, _), (6, _), (7, _)]) (tk_X1_riskOf.at 12 rfl) (by decide) rfl rfl ?_
  refine X_aload_n (tk_X1_riskOf.at 13 rfl) rfl ?_
  refine X_getR (tk_X1_riskOf.at 14 rfl) fl_x1_59 hD.1 rfl rfl ?_
  refine X_iload (tk_X1_riskOf.at 15 rfl) rfl ?_
  refine X_iconst (tk_X1_riskOf.at 16 rfl) ci_2 ?_
  refine X_cV2i (lv2 := [(0, _), (1, _), (2, _)]) (tk_X1_riskOf.at 17 rfl) mv_X3_get lk_x1_81 np_X3_get hD.2.2.1.1 (by decide) rfl (Nat.le_of_ble_eq_true rfl) (Nat.le_of_ble_eq_true rfl) rfl (d_cg (k := 50 + 4 * c) (p := c) (c := 2) hD hw (rTc hdis hr) hz (by omega) (pz (pl 2 rfl) (by omega)) (by omega) (by omega) ?_)
  refine X_istore (lv' := [(0, _), (1, _), (2, _), (3, _), (4, _), (5, _), (6, _), (7, _), (8, _)]) (tk_X1_riskOf.at 18 rfl) (by decide) rfl rfl ?_
  refine X_aload_n (tk_X1_riskOf.at 19 rfl) rfl ?_
  refine X_getR (tk_X1_riskOf.at 20 rfl) fl_x1_12 hC.1 rfl rfl ?_
  refine X_aload_n (tk_X1_riskOf.at 21 rfl) rfl ?_
  refine X_getR (tk_X1_riskOf.at 22 rfl) fl_x1_84 hD.1 rfl rfl ?_
  refine X_iload_n (tk_X1_riskOf.at 23 rfl) rfl ?_
  refine X_iconst (tk_X1_riskOf.at 24 rfl) ci_0 ?_
  refine X_cV2i (lv2 := [(0, _), (1, _), (2, _)]) (tk_X1_riskOf.at 25 rfl) mv_X3_get lk_x1_81 np_X3_get hD.2.1.1 (by decide) rfl (Nat.le_of_ble_eq_true rfl) (Nat.le_of_ble_eq_true rfl) rfl (d_pg (k := 8 + 4 * (nv (N (84 + 9 * lnA N k + i)))) (p := (nv (N (84 + 9 * lnA N k + i)))) (c := 0) hD hw (rTc hdis hr) hy (by omega) (pz (pl 0 rfl) (by omega)) (by omega) (by omega) ?_)
  refine X_iload (tk_X1_riskOf.at 26 rfl) rfl ?_
  refine X_iload (tk_X1_riskOf.at 27 rfl) rfl ?_
  refine X_iload (tk_X1_riskOf.at 28 rfl) rfl ?_
  refine X_iload (tk_X1_riskOf.at 29 rfl) rfl ?_
  refine X_cV5v (lv2 := [(0, _), (1, _), (2, _), (3, _), (4, _), (5, _)]) (tk_X1_riskOf.at 30 rfl) mv_X5_name lk_x1_87 np_X5_name hC.2.1.1 (by decide) rfl (Nat.le_of_ble_eq_true rfl) (Nat.le_of_ble_eq_true rfl) rfl (c5_name hC.2.1 ?_)
  rw [show C + 1 + 1 = C + 2 from rfl, Tc_h, Tc2]
  generalize eh2 : (upd (upd (upd (upd (upd h 0 _) 1 _) 2 _) 3 _) 4 _) = h2
  refine X_aload_n (tk_X1_riskOf.at 31 rfl) rfl ?_
  refine X_getR (tk_X1_riskOf.at 32 rfl) fl_x1_12 hC.1 rfl rfl ?_
  refine X_iconst (tk_X1_riskOf.at 33 rfl) ci_0 ?_
  refine X_aload_n (tk_X1_riskOf.at 34 rfl) rfl ?_
  refine X_iconst (tk_X1_riskOf.at 35 rfl) ci_0 ?_
  refine X_cV1r (lv2 := [(0, _), (1, _)]) (tk_X1_riskOf.at 36 rfl) mv_X2_textOf lk_x1_91 np_X2_textOf hD.1 (by decide) rfl (Nat.le_of_ble_eq_true rfl) (Nat.le_of_ble_eq_true rfl) rfl (c2_textOf (u := 0) hD rfl (by decide) ?_)
  refine X_cV2i (lv2 := [(0, _), (1, _), (2, _)]) (tk_X1_riskOf.at 37 rfl) mv_X5_give lk_x1_94 np_X5_give hC.2.1.1 (by decide) rfl (Nat.le_of_ble_eq_true rfl) (Nat.le_of_ble_eq_true rfl) rfl (d_give (u := 0) (a := N (8 + 4 * (nv (N (84 + 9 * lnA N k + i))))) (b := nI (arv N k c / 60)) (c := nI (bef N k + i)) (e := N (49 + 4 * c)) (f := N (50 + 4 * c)) hC.2.1 hD hw (rTc hdis hr) (by omega) (by decide) rfl (by rw [show C + 1 + 1 = C + 2 from rfl, Tc2, ← eh2]; exact nm5_i) (fun P2 => ?_))
  rw [show C + 1 + 2 = C + 3 from rfl, Tc_P, show (gv N 0 (N (8 + 4 * (nv (N (84 + 9 * lnA N k + i))))) (nI (arv N k c / 60)) (nI (bef N k + i)) (N (49 + 4 * c)) (N (50 + 4 * c))) = nI (rkc N k i c) from (gv_ok N 0 _ _ _ _ _).1]
  refine X_ireturn (tk_X1_riskOf.at 38 rfl) rfl rfl ?_
  exact hK h2 P2
def rsk (N : Nat → Int32) (k i : Nat) : Nat → Nat
  | 0 => 0
  | c + 1 => rsk N k i c + (if pull N (nv (N (84 + 9 * lnA N k + i))) c ≤ hs N 0 (lnA N k) i (mny N (lnA N k)) then 0 else rkc N k i c)
theorem rsk_t3 (N : Nat → Int32) (k i : Nat) : ∀ c, rsk N k i c * lwo N (lnA N k) = t3 N k i c
  | 0 => Nat.zero_mul _
  | c + 1 => by
    show (rsk N k i c + _) * _ = t3 N k i c + cst N 0 (lnA N k) i c * rkc N k i c
    rw [Nat.add_mul, rsk_t3 N k i c]
    congr 1
    unfold cst
    split
    · rw [Nat.zero_mul, Nat.zero_mul]
    · exact Nat.mul_comm _ _
set_option maxHeartbeats 1000000 in
theorem c1_tollAt {G : Gl} {d : Nat} {S : Sh} {μ : Mu} {C D : Nat} {N : Nat → Int32} {x y w ov : Int32} {k i : Nat} {cm of h P : Nat → Int32} {K : Int32 → Sh → Mu → Prop} (hC : XS S C) (hD : DS G S D) (hw : WF N) (hr : repD μ D N) (hdis : D + 32 ≤ C ∨ C + 6 ≤ D) (hI : Crs N cm of (nv (N 4))) (hk : k < nv (N 4)) (hx : x = nI (lnA N k)) (hi : i < mny N (lnA N k)) (hy : y = nI i) (hb : w = nI (bef N k + i)) (hK : ∀ h P, K (nI (t3 N k i (nv (N 2)))) S (Tc μ C ov cm of h P)) : X G mi_X1_tollAt (d + 4) 0 0 [(0, .ref C), (1, .ref D), (2, .int x), (3, .int y), (4, .int w)] [] S (Tc μ C ov cm of h P) (qi K) := by
  have b1 := hw.n1.2
  have b2 := hw.n2.2
  have b3 := hw.n3.2
  have b4 := hw.n4.2
  have bl := hw.lb hk
  have bm := hw.mb bl
  have wp := hw.wh bl hi
  have bp := wp.2
  have loop : ∀ (m c : Nat) (h P : Nat → Int32), c + m = nv (N 2) → X G mi_X1_tollAt (d + 4) 0 25 [(0, .ref C), (1, .ref D), (2, .int x), (3, .int y), (4, .int w), (5, .int (N (84 + 9 * lnA N k + i))), (6, .int (hs N 0 (lnA N k) i (mny N (lnA N k)))), (7, .int (nI (rsk N k i c))), (8, .int (nI c))] [] S (Tc μ C ov cm of h P) (qi K) := by
    intro m
    induction m with
    | zero =>
      intro c h P hc
      have e : c = nv (N 2) := by omega
      refine X_iload (tk_X1_tollAt.at 15 rfl) rfl ?_
      refine X_aload_n (tk_X1_tollAt.at 16 rfl) rfl ?_
      refine X_getR (tk_X1_tollAt.at 17 rfl) fl_x1_59 hD.1 rfl rfl ?_
      refine X_cV0i (lv2 := [(0, _)]) (tk_X1_tollAt.at 18 rfl) mv_X3_size lk_x1_63 np_X3_size hD.2.2.1.1 (by decide) rfl (Nat.le_of_ble_eq_true rfl) (Nat.le_of_ble_eq_true rfl) rfl (d_csz hD hw (rTc hdis hr) ?_)
      refine X_icmp_geN (tgt := 73) (tk_X1_tollAt.at 19 rfl) (by decide) (pl c rfl) (pl (nv (N 2)) rfl) (by omega) (by omega) (fun c1 => ?_) (fun c1 => (by exfalso; omega))
      refine X_iload (tk_X1_tollAt.at 38 rfl) rfl ?_
      refine X_aload_n (tk_X1_tollAt.at 39 rfl) rfl ?_
      refine X_iload_n (tk_X1_tollAt.at 40 rfl) rfl ?_
      refine X_cV1i (lv2 := [(0, _), (1, _)]) (tk_X1_tollAt.at 41 rfl) mv_X2_lostWithOne lk_x1_116 np_X2_lostWithOne hD.1 (by decide) rfl (Nat.le_of_ble_eq_true rfl) (Nat.le_of_ble_eq_true rfl) rfl (c2_lostWithOne (rn := (lnA N k)) hD hw (rTc hdis hr) hx (by omega) ?_)
      refine X_imul (tk_X1_tollAt.at 42 rfl) ?_
      refine X_ireturn (tk_X1_tollAt.at 43 rfl) rfl rfl ?_
      rw [pk_mul, rsk_t3, e]
      exact hK h P
    | succ m ih =>
      intro c h P hc
      have z := fun h P => ih (c + 1) h P (by omega)
      refine X_iload (tk_X1_tollAt.at 15 rfl) rfl ?_
      refine X_aload_n (tk_X1_tollAt.at 16 rfl) rfl ?_
      refine X_getR (tk_X1_tollAt.at 17 rfl) fl_x1_59 hD.1 rfl rfl ?_
      refine X_cV0i (lv2 := [(0, _)]) (tk_X1_tollAt.at 18 rfl) mv_X3_size lk_x1_63 np_X3_size hD.2.2.1.1 (by decide) rfl (Nat.le_of_ble_eq_true rfl) (Nat.le_of_ble_eq_true rfl) rfl (d_csz hD hw (rTc hdis hr) ?_)
      refine X_icmp_geN (tgt := 73) (tk_X1_tollAt.at 19 rfl) (by decide) (pl c rfl) (pl (nv (N 2)) rfl) (by omega) (by omega) (fun c1 => (by exfalso; omega)) (fun c1 => ?_)
      refine X_iload (tk_X1_tollAt.at 20 rfl) rfl ?_
      refine X_aload_n (tk_X1_tollAt.at 21 rfl) rfl ?_
      refine X_iload (tk_X1_tollAt.at 22 rfl) rfl ?_
      refine X_iload (tk_X1_tollAt.at 23 rfl) rfl ?_
      refine X_cV2i (lv2 := [(0, _), (1, _), (2, _)]) (tk_X1_tollAt.at 24 rfl) mv_X2_pullOf lk_x1_109 np_X2_pullOf hD.1 (by decide) rfl (Nat.le_of_ble_eq_true rfl) (Nat.le_of_ble_eq_true rfl) rfl (c2_pullOf (p := (nv (N (84 + 9 * lnA N k + i)))) (c := c) hD hw (rTc hdis hr) (pz wp.1 (by omega)) (by omega) (pz (pl c rfl) (by omega)) (by omega) ?_)
      refine X_icmp_ge (tgt := 67) (tk_X1_tollAt.at 25 rfl) (by decide) (fun c2 => ?_) (fun c2 => ?_)
      · refine X_iinc (lv' := [(0, _), (1, _), (2, _), (3, _), (4, _), (5, _), (6, _), (7, _), (8, _)]) (tk_X1_tollAt.at 36 rfl) rfl ci_1 (by decide) rfl rfl ?_
        refine X_goto (tgt := 25) (tk_X1_tollAt.at 37 rfl) (by decide) ?_
        rw [nI_1 c]
        have z2 := z h P
        rw [show rsk N k i (c + 1) = rsk N k i c from by show _ + (if _ then _ else _) = _; rw [if_pos c2, Nat.add_zero]] at z2
        exact z2
      · refine X_iload (tk_X1_tollAt.at 26 rfl) rfl ?_
        refine X_aload_n (tk_X1_tollAt.at 27 rfl) rfl ?_
        refine X_aload_n (tk_X1_tollAt.at 28 rfl) rfl ?_
        refine X_iload_n (tk_X1_tollAt.at 29 rfl) rfl ?_
        refine X_iload (tk_X1_tollAt.at 30 rfl) rfl ?_
        refine X_iload (tk_X1_tollAt.at 31 rfl) rfl ?_
        refine X_iload (tk_X1_tollAt.at 32 rfl) rfl ?_
        refine X_cV5i (lv2 := [(0, _), (1, _), (2, _), (3, _), (4, _), (5, _)]) (tk_X1_tollAt.at 33 rfl) mv_X1_riskOf lk_x1_112 np_X1_riskOf hC.1 (by decide) rfl (Nat.le_of_ble_eq_true rfl) (Nat.le_of_ble_eq_true rfl) rfl (c1_riskOf hC hD hw hr hdis hI hk hx hi wp.1 (pl c rfl) (by omega) hb (fun h2 P2 => ?_))
        refine X_iadd (tk_X1_tollAt.at 34 rfl) ?_
        refine X_istore (lv' := [(0, _), (1, _), (2, _), (3, _), (4, _), (5, _), (6, _), (7, _), (8, _)]) (tk_X1_tollAt.at 35 rfl) (by decide) rfl rfl ?_
        refine X_iinc (lv' := [(0, _), (1, _), (2, _), (3, _), (4, _), (5, _), (6, _), (7, _), (8, _)]) (tk_X1_tollAt.at 36 rfl) rfl ci_1 (by decide) rfl rfl ?_
        refine X_goto (tgt := 25) (tk_X1_tollAt.at 37 rfl) (by decide) ?_
        rw [nI_1 c, nI_add]
        have z2 := z h2 P2
        rw [show rsk N k i (c + 1) = rsk N k i c + rkc N k i c from by show _ + (if _ then _ else _) = _; rw [if_neg (Int32.not_le.mpr (Int32.not_le.mp c2))]] at z2
        exact z2
  refine X_aload_n (tk_X1_tollAt.at 0 rfl) rfl ?_
  refine X_iload_n (tk_X1_tollAt.at 1 rfl) rfl ?_
  refine X_cV1r (lv2 := [(0, _), (1, _)]) (tk_X1_tollAt.at 2 rfl) mv_X2_rowOf lk_x1_48 np_X2_rowOf hD.1 (by decide) rfl (Nat.le_of_ble_eq_true rfl) (Nat.le_of_ble_eq_true rfl) rfl (d_rowOf (r := (lnA N k)) hD hw (rTc hdis hr) hx (by omega) ?_)
  refine X_iload_n (tk_X1_tollAt.at 3 rfl) rfl ?_
  refine X_cV1i (lv2 := [(0, _), (1, _)]) (tk_X1_tollAt.at 4 rfl) mv_X6_at lk_x1_44 np_X6_at (hD.2.2.2.2.2.2.2.2.2.2.2 ((lnA N k)) (by omega)).1 (by decide) rfl (Nat.le_of_ble_eq_true rfl) (Nat.le_of_ble_eq_true rfl) rfl (d_rat (k := 84 + 9 * (lnA N k) + i) (i := i) hD hw (rTc hdis hr) (by omega) hy (by omega) (by omega) ?_)
  refine X_istore (lv' := [(0, _), (1, _), (2, _), (3, _), (4, _), (5, _)]) (tk_X1_tollAt.at 5 rfl) (by decide) rfl rfl ?_
  refine X_aload_n (tk_X1_tollAt.at 6 rfl) rfl ?_
  refine X_iload_n (tk_X1_tollAt.at 7 rfl) rfl ?_
  refine X_iload_n (tk_X1_tollAt.at 8 rfl) rfl ?_
  refine X_cV2i (lv2 := [(0, _), (1, _), (2, _)]) (tk_X1_tollAt.at 9 rfl) mv_X2_holdAt lk_x1_106 np_X2_holdAt hD.1 (by decide) rfl (Nat.le_of_ble_eq_true rfl) (Nat.le_of_ble_eq_true rfl) rfl (c2_holdAt (rn := (lnA N k)) (f := i) hD hw (rTc hdis hr) hx (by omega) hy (by omega) ?_)
  refine X_istore (lv' := [(0, _), (1, _), (2, _), (3, _), (4, _), (5, _), (6, _)]) (tk_X1_tollAt.at 10 rfl) (by decide) rfl rfl ?_
  refine X_iconst (tk_X1_tollAt.at 11 rfl) ci_0 ?_
  refine X_istore (lv' := [(0, _), (1, _), (2, _), (3, _), (4, _), (5, _), (6, _), (7, _)]) (tk_X1_tollAt.at 12 rfl) (by decide) rfl rfl ?_
  refine X_iconst (tk_X1_tollAt.at 13 rfl) ci_0 ?_
  refine X_istore (lv' := [(0, _), (1, _), (2, _), (3, _), (4, _), (5, _), (6, _), (7, _), (8, _)]) (tk_X1_tollAt.at 14 rfl) (by decide) rfl rfl ?_
  exact loop _ 0 h P (Nat.zero_add _)
set_option maxHeartbeats 1000000 in
theorem c1_tollOf {G : Gl} {d : Nat} {S : Sh} {μ : Mu} {C D : Nat} {N : Nat → Int32} {K : Int32 → Sh → Mu → Prop} (hC : XS S C) (hD : DS G S D) (hw : WF N) (hr : repD μ D N) (hdis : D + 32 ≤ C ∨ C + 6 ≤ D) (hK : ∀ cm of h P, Crs N cm of (nv (N 4)) → K (nI (toll N)) S (Tc μ C (nI (ovr N (nv (N 4)))) cm of h P)) : X G mi_X1_tollOf (d + 5) 0 0 [(0, .ref C), (1, .ref D)] [] S μ (qi K) := by
  have b1 := hw.n1.2
  have b2 := hw.n2.2
  have b3 := hw.n3.2
  have b4 := hw.n4.2
  refine X_aload_n (tk_X1_tollOf.at 0 rfl) rfl ?_
  refine X_aload_n (tk_X1_tollOf.at 1 rfl) rfl ?_
  refine X_cV1v (lv2 := [(0, _), (1, _)]) (tk_X1_tollOf.at 2 rfl) mv_X1_cross lk_x1_98 np_X1_cross hC.1 (by decide) rfl (Nat.le_of_ble_eq_true rfl) (Nat.le_of_ble_eq_true rfl) rfl (c1_cross hC hD hw hr hdis (fun cm of hI => ?_))
  refine X_iconst (tk_X1_tollOf.at 3 rfl) ci_0 ?_
  refine X_istore_n (lv' := [(0, _), (1, _), (2, _)]) (tk_X1_tollOf.at 4 rfl) (by decide) rfl rfl ?_
  refine X_iconst (tk_X1_tollOf.at 5 rfl) ci_0 ?_
  refine X_istore_n (lv' := [(0, _), (1, _), (2, _), (3, _)]) (tk_X1_tollOf.at 6 rfl) (by decide) rfl rfl ?_
  refine X_iconst (tk_X1_tollOf.at 7 rfl) ci_0 ?_
  refine X_istore (lv' := [(0, _), (1, _), (2, _), (3, _), (4, _)]) (tk_X1_tollOf.at 8 rfl) (by decide) rfl rfl ?_
  have outer : ∀ (m k : Nat) (h P : Nat → Int32) (rest : List (Nat × Value)), k + m = nv (N 4) → X G mi_X1_tollOf (d + 5) 0 12 ([(0, .ref C), (1, .ref D), (2, .int (nI (t1 N k))), (3, .int (nI (bef N k))), (4, .int (nI k))] ++ rest) [] S (Tc μ C (nI (ovr N (nv (N 4)))) cm of h P) (qi K) := by
    intro m
    induction m with
    | zero =>
      intro k h P rest hk
      refine X_lvp [0, 1, 2, 3, 4] (lv' := [(0, _), (1, _), (2, _), (3, _), (4, _)]) rfl ?_
      have e : k = nv (N 4) := by omega
      refine X_iload (tk_X1_tollOf.at 9 rfl) rfl ?_
      refine X_aload_n (tk_X1_tollOf.at 10 rfl) rfl ?_
      refine X_getR (tk_X1_tollOf.at 11 rfl) fl_x1_34 hD.1 rfl rfl ?_
      refine X_cV0i (lv2 := [(0, _)]) (tk_X1_tollOf.at 12 rfl) mv_X6_size lk_x1_38 np_X6_size hD.2.2.2.2.1.1 (by decide) rfl (Nat.le_of_ble_eq_true rfl) (Nat.le_of_ble_eq_true rfl) rfl (d_lsz hD hw (rTc hdis hr) ?_)
      refine X_icmp_geN (tgt := 89) (tk_X1_tollOf.at 13 rfl) (by decide) (pl k rfl) (pl (nv (N 4)) rfl) (by omega) (by omega) (fun c1 => ?_) (fun c1 => (by exfalso; omega))
      refine X_iload_n (tk_X1_tollOf.at 48 rfl) rfl ?_
      refine X_ireturn (tk_X1_tollOf.at 49 rfl) rfl rfl ?_
      rw [e]
      exact hK cm of h P hI
    | succ m ih =>
      intro k h P rest hk
      refine X_lvp [0, 1, 2, 3, 4] (lv' := [(0, _), (1, _), (2, _), (3, _), (4, _)]) rfl ?_
      have bl := hw.lb (k := k) (by omega)
      have bm := hw.mb bl
      have mid : ∀ (q i : Nat) (h P : Nat → Int32), i + q = mny N (lnA N k) → X G mi_X1_tollOf (d + 5) 0 49 [(0, .ref C), (1, .ref D), (2, .int (nI (t1 N k + t2 N k i))), (3, .int (nI (bef N k))), (4, .int (nI k)), (5, .int (nI (lnA N k))), (6, .int (nI (mny N (lnA N k)))), (7, .int (nI i))] [] S (Tc μ C (nI (ovr N (nv (N 4)))) cm of h P) (qi K) := by
        intro q
        induction q with
        | zero =>
          intro i h P hi
          have e : i = mny N (lnA N k) := by omega
          refine X_iload (tk_X1_tollOf.at 26 rfl) rfl ?_
          refine X_iload (tk_X1_tollOf.at 27 rfl) rfl ?_
          refine X_icmp_geN (tgt := 78) (tk_X1_tollOf.at 28 rfl) (by decide) (pl i rfl) (pl (mny N (lnA N k)) rfl) (by omega) (by omega) (fun c1 => ?_) (fun c1 => (by exfalso; omega))
          refine X_iload_n (tk_X1_tollOf.at 42 rfl) rfl ?_
          refine X_iload (tk_X1_tollOf.at 43 rfl) rfl ?_
          refine X_iadd (tk_X1_tollOf.at 44 rfl) ?_
          refine X_istore_n (lv' := [(0, _), (1, _), (2, _), (3, _), (4, _), (5, _), (6, _), (7, _)]) (tk_X1_tollOf.at 45 rfl) (by decide) rfl rfl ?_
          refine X_iinc (lv' := [(0, _), (1, _), (2, _), (3, _), (4, _), (5, _), (6, _), (7, _)]) (tk_X1_tollOf.at 46 rfl) rfl ci_1 (by decide) rfl rfl ?_
          refine X_goto (tgt := 12) (tk_X1_tollOf.at 47 rfl) (by decide) ?_
          rw [nI_1 k, nI_add, e]
          exact ih (k + 1) h P _ (by omega)
        | succ q ihq =>
          intro i h P hi
          refine X_iload (tk_X1_tollOf.at 26 rfl) rfl ?_
          refine X_iload (tk_X1_tollOf.at 27 rfl) rfl ?_
          refine X_icmp_geN (tgt := 78) (tk_X1_tollOf.at 28 rfl) (by decide) (pl i rfl) (pl (mny N (lnA N k)) rfl) (by omega) (by omega) (fun c1 => (by exfalso; omega)) (fun c1 => ?_)
          refine X_iload_n (tk_X1_tollOf.at 29 rfl) rfl ?_
          refine X_aload_n (tk_X1_tollOf.at 30 rfl) rfl ?_
          refine X_aload_n (tk_X1_tollOf.at 31 rfl) rfl ?_
          refine X_iload (tk_X1_tollOf.at 32 rfl) rfl ?_
          refine X_iload (tk_X1_tollOf.at 33 rfl) rfl ?_
          refine X_iload_n (tk_X1_tollOf.at 34 rfl) rfl ?_
          refine X_iload (tk_X1_tollOf.at 35 rfl) rfl ?_
          refine X_iadd (tk_X1_tollOf.at 36 rfl) ?_
          refine X_cV4i (lv2 := [(0, _), (1, _), (2, _), (3, _), (4, _)]) (tk_X1_tollOf.at 37 rfl) mv_X1_tollAt lk_x1_102 np_X1_tollAt hC.1 (by decide) rfl (Nat.le_of_ble_eq_true rfl) (Nat.le_of_ble_eq_true rfl) rfl (c1_tollAt hC hD hw hr hdis hI (k := k) (by omega) rfl (i := i) (by omega) rfl (nI_add _ _) (fun h2 P2 => ?_))
          refine X_iadd (tk_X1_tollOf.at 38 rfl) ?_
          refine X_istore_n (lv' := [(0, _), (1, _), (2, _), (3, _), (4, _), (5, _), (6, _), (7, _)]) (tk_X1_tollOf.at 39 rfl) (by decide) rfl rfl ?_
          refine X_iinc (lv' := [(0, _), (1, _), (2, _), (3, _), (4, _), (5, _), (6, _), (7, _)]) (tk_X1_tollOf.at 40 rfl) rfl ci_1 (by decide) rfl rfl ?_
          refine X_goto (tgt := 49) (tk_X1_tollOf.at 41 rfl) (by decide) ?_
          rw [nI_1 i, nI_add, show t1 N k + t2 N k i + t3 N k i (nv (N 2)) = t1 N k + t2 N k (i + 1) from Nat.add_assoc _ _ _]
          exact ihq (i + 1) h2 P2 (by omega)
      refine X_iload (tk_X1_tollOf.at 9 rfl) rfl ?_
      refine X_aload_n (tk_X1_tollOf.at 10 rfl) rfl ?_
      refine X_getR (tk_X1_tollOf.at 11 rfl) fl_x1_34 hD.1 rfl rfl ?_
      refine X_cV0i (lv2 := [(0, _)]) (tk_X1_tollOf.at 12 rfl) mv_X6_size lk_x1_38 np_X6_size hD.2.2.2.2.1.1 (by decide) rfl (Nat.le_of_ble_eq_true rfl) (Nat.le_of_ble_eq_true rfl) rfl (d_lsz hD hw (rTc hdis hr) ?_)
      refine X_icmp_geN (tgt := 89) (tk_X1_tollOf.at 13 rfl) (by decide) (pl k rfl) (pl (nv (N 4)) rfl) (by omega) (by omega) (fun c1 => (by exfalso; omega)) (fun c1 => ?_)
      refine X_aload_n (tk_X1_tollOf.at 14 rfl) rfl ?_
      refine X_getR (tk_X1_tollOf.at 15 rfl) fl_x1_34 hD.1 rfl rfl ?_
      refine X_iload (tk_X1_tollOf.at 16 rfl) rfl ?_
      refine X_cV1i (lv2 := [(0, _), (1, _)]) (tk_X1_tollOf.at 17 rfl) mv_X6_at lk_x1_44 np_X6_at hD.2.2.2.2.1.1 (by decide) rfl (Nat.le_of_ble_eq_true rfl) (Nat.le_of_ble_eq_true rfl) rfl (d_lat (i := k) hD hw (rTc hdis hr) (pz (pl k rfl) (by omega)) (by omega) ?_)
      refine X_istore (lv' := [(0, _), (1, _), (2, _), (3, _), (4, _), (5, _)]) (tk_X1_tollOf.at 18 rfl) (by decide) rfl rfl ?_
      refine X_aload_n (tk_X1_tollOf.at 19 rfl) rfl ?_
      refine X_iload (tk_X1_tollOf.at 20 rfl) rfl ?_
      refine X_cV1r (lv2 := [(0, _), (1, _)]) (tk_X1_tollOf.at 21 rfl) mv_X2_rowOf lk_x1_48 np_X2_rowOf hD.1 (by decide) rfl (Nat.le_of_ble_eq_true rfl) (Nat.le_of_ble_eq_true rfl) rfl (d_rowOf (r := (lnA N k)) hD hw (rTc hdis hr) (pz (pl (lnA N k) rfl) (by omega)) (by omega) ?_)
      refine X_cV0i (lv2 := [(0, _)]) (tk_X1_tollOf.at 22 rfl) mv_X6_size lk_x1_38 np_X6_size (hD.2.2.2.2.2.2.2.2.2.2.2 ((lnA N k)) (by omega)).1 (by decide) rfl (Nat.le_of_ble_eq_true rfl) (Nat.le_of_ble_eq_true rfl) rfl (d_rsz hD hw (rTc hdis hr) (by omega) ?_)
      refine X_istore (lv' := [(0, _), (1, _), (2, _), (3, _), (4, _), (5, _), (6, _)]) (tk_X1_tollOf.at 23 rfl) (by decide) rfl rfl ?_
      refine X_iconst (tk_X1_tollOf.at 24 rfl) ci_0 ?_
      refine X_istore (lv' := [(0, _), (1, _), (2, _), (3, _), (4, _), (5, _), (6, _), (7, _)]) (tk_X1_tollOf.at 25 rfl) (by decide) rfl rfl ?_
      exact mid _ 0 h P (Nat.zero_add _)
  exact outer _ 0 _ _ [] (Nat.zero_add _)
def trn (N : Nat → Int32) : Prop := ∃ k c, k < nv (N 4) ∧ 0 < mny N (lnA N k) ∧ c < nv (N 2) ∧ arv N k c % 60 = 0
set_option maxHeartbeats 1000000 in
theorem c1_turnsHour {G : Gl} {d : Nat} {S : Sh} {μ : Mu} {C D : Nat} {N : Nat → Int32} {ov : Int32} {cm of h P : Nat → Int32} {K : Int32 → Sh → Mu → Prop} (hC : XS S C) (hD : DS G S D) (hw : WF N) (hr : repD μ D N) (hdis : D + 32 ≤ C ∨ C + 6 ≤ D) (hI : Crs N cm of (nv (N 4))) (kt : trn N → K 1 S (Tc μ C ov cm of h P)) (kf : ¬ trn N → K 0 S (Tc μ C ov cm of h P)) : X G mi_X1_turnsHour (d + 2) 0 0 [(0, .ref C), (1, .ref D)] [] S (Tc μ C ov cm of h P) (qi K) := by
  have b1 := hw.n1.2
  have b2 := hw.n2.2
  have b3 := hw.n3.2
  have b4 := hw.n4.2
  have outer : ∀ (m k : Nat) (rest : List (Nat × Value)), k + m = nv (N 4) → (∀ k' c, k' < k → 0 < mny N (lnA N k') → c < nv (N 2) → ¬ arv N k' c % 60 = 0) → X G mi_X1_turnsHour (d + 2) 0 2 ([(0, .ref C), (1, .ref D), (2, .int (nI k))] ++ rest) [] S (Tc μ C ov cm of h P) (qi K) := by
    intro m
    induction m with
    | zero =>
      intro k rest hk hno
      refine X_lvp [0, 1, 2] (lv' := [(0, _), (1, _), (2, _)]) rfl ?_
      refine X_iload_n (tk_X1_turnsHour.at 2 rfl) rfl ?_
      refine X_aload_n (tk_X1_turnsHour.at 3 rfl) rfl ?_
      refine X_getR (tk_X1_turnsHour.at 4 rfl) fl_x1_34 hD.1 rfl rfl ?_
      refine X_cV0i (lv2 := [(0, _)]) (tk_X1_turnsHour.at 5 rfl) mv_X6_size lk_x1_38 np_X6_size hD.2.2.2.2.1.1 (by decide) rfl (Nat.le_of_ble_eq_true rfl) (Nat.le_of_ble_eq_true rfl) rfl (d_lsz hD hw (rTc hdis hr) ?_)
      refine X_icmp_geN (tgt := 87) (tk_X1_turnsHour.at 6 rfl) (by decide) (pl k rfl) (pl (nv (N 4)) rfl) (by omega) (by omega) (fun c1 => ?_) (fun c1 => (by exfalso; omega))
      refine X_iconst (tk_X1_turnsHour.at 43 rfl) ci_0 ?_
      refine X_ireturn (tk_X1_turnsHour.at 44 rfl) rfl rfl ?_
      exact kf (fun ⟨k2, c2, q1, q2, q3, q4⟩ => hno k2 c2 (by omega) q2 q3 q4)
    | succ m ih =>
      intro k rest hk hno
      refine X_lvp [0, 1, 2] (lv' := [(0, _), (1, _), (2, _)]) rfl ?_
      have bl := hw.lb (k := k) (by omega)
      have bm := hw.mb bl
      refine X_iload_n (tk_X1_turnsHour.at 2 rfl) rfl ?_
      refine X_aload_n (tk_X1_turnsHour.at 3 rfl) rfl ?_
      refine X_getR (tk_X1_turnsHour.at 4 rfl) fl_x1_34 hD.1 rfl rfl ?_
      refine X_cV0i (lv2 := [(0, _)]) (tk_X1_turnsHour.at 5 rfl) mv_X6_size lk_x1_38 np_X6_size hD.2.2.2.2.1.1 (by decide) rfl (Nat.le_of_ble_eq_true rfl) (Nat.le_of_ble_eq_true rfl) rfl (d_lsz hD hw (rTc hdis hr) ?_)
      refine X_icmp_geN (tgt := 87) (tk_X1_turnsHour.at 6 rfl) (by decide) (pl k rfl) (pl (nv (N 4)) rfl) (by omega) (by omega) (fun c1 => (by exfalso; omega)) (fun c1 => ?_)
      refine X_aload_n (tk_X1_turnsHour.at 7 rfl) rfl ?_
      refine X_getR (tk_X1_turnsHour.at 8 rfl) fl_x1_34 hD.1 rfl rfl ?_
      refine X_iload_n (tk_X1_turnsHour.at 9 rfl) rfl ?_
      refine X_cV1i (lv2 := [(0, _), (1, _)]) (tk_X1_turnsHour.at 10 rfl) mv_X6_at lk_x1_44 np_X6_at hD.2.2.2.2.1.1 (by decide) rfl (Nat.le_of_ble_eq_true rfl) (Nat.le_of_ble_eq_true rfl) rfl (d_lat (i := k) hD hw (rTc hdis hr) (pz (pl k rfl) (by omega)) (by omega) ?_)
      refine X_istore_n (lv' := [(0, _), (1, _), (2, _), (3, _)]) (tk_X1_turnsHour.at 11 rfl) (by decide) rfl rfl ?_
      refine X_aload_n (tk_X1_turnsHour.at 12 rfl) rfl ?_
      refine X_iload_n (tk_X1_turnsHour.at 13 rfl) rfl ?_
      refine X_cV1r (lv2 := [(0, _), (1, _)]) (tk_X1_turnsHour.at 14 rfl) mv_X2_rowOf lk_x1_48 np_X2_rowOf hD.1 (by decide) rfl (Nat.le_of_ble_eq_true rfl) (Nat.le_of_ble_eq_true rfl) rfl (d_rowOf (r := (lnA N k)) hD hw (rTc hdis hr) (pz (pl (lnA N k) rfl) (by omega)) (by omega) ?_)
      refine X_cV0i (lv2 := [(0, _)]) (tk_X1_turnsHour.at 15 rfl) mv_X6_size lk_x1_38 np_X6_size (hD.2.2.2.2.2.2.2.2.2.2.2 ((lnA N k)) (by omega)).1 (by decide) rfl (Nat.le_of_ble_eq_true rfl) (Nat.le_of_ble_eq_true rfl) rfl (d_rsz hD hw (rTc hdis hr) (by omega) ?_)
      refine X_if_leN (tgt := 37) (tk_X1_turnsHour.at 16 rfl) (by decide) (pl (mny N ((lnA N k))) rfl) (by omega) (fun c2 => ?_) (fun c2 => ?_)
      · refine X_iconst (tk_X1_turnsHour.at 19 rfl) ci_0 ?_
        refine X_istore (lv' := [(0, _), (1, _), (2, _), (3, _), (4, _)]) (tk_X1_turnsHour.at 20 rfl) (by decide) rfl rfl ?_
        refine X_iconst (tk_X1_turnsHour.at 21 rfl) ci_0 ?_
        refine X_istore (lv' := [(0, _), (1, _), (2, _), (3, _), (4, _), (5, _)]) (tk_X1_turnsHour.at 22 rfl) (by decide) rfl rfl ?_
        refine X_iload (tk_X1_turnsHour.at 23 rfl) rfl ?_
        refine X_if_eq (tgt := 81) (tk_X1_turnsHour.at 24 rfl) (by decide) (fun _ => ?_) (fun h => absurd h (by decide))
        refine X_iinc (lv' := [(0, _), (1, _), (2, _), (3, _), (4, _), (5, _)]) (tk_X1_turnsHour.at 41 rfl) rfl ci_1 (by decide) rfl rfl ?_
        refine X_goto (tgt := 2) (tk_X1_turnsHour.at 42 rfl) (by decide) ?_
        rw [nI_1 k]
        exact ih (k + 1) _ (by omega) (fun k' c' h1 h2 h3 => by
          by_cases e : k' = k
          · subst e; omega
          · exact hno k' c' (by omega) h2 h3)
      · refine X_iconst (tk_X1_turnsHour.at 17 rfl) ci_1 ?_
        refine X_goto (tgt := 38) (tk_X1_turnsHour.at 18 rfl) (by decide) ?_
        refine X_istore (lv' := [(0, _), (1, _), (2, _), (3, _), (4, _)]) (tk_X1_turnsHour.at 20 rfl) (by decide) rfl rfl ?_
        refine X_iconst (tk_X1_turnsHour.at 21 rfl) ci_0 ?_
        refine X_istore (lv' := [(0, _), (1, _), (2, _), (3, _), (4, _), (5, _)]) (tk_X1_turnsHour.at 22 rfl) (by decide) rfl rfl ?_
        have hpos : 0 < mny N (lnA N k) := c2
        have inn : ∀ (q c : Nat), c + q = nv (N 2) → (∀ e, e < c → ¬ arv N k e % 60 = 0) → X G mi_X1_turnsHour (d + 2) 0 43 [(0, .ref C), (1, .ref D), (2, .int (nI k)), (3, .int (nI (lnA N k))), (4, .int 1), (5, .int (nI c))] [] S (Tc μ C ov cm of h P) (qi K) := by
          intro q
          induction q with
          | zero =>
            intro c hc hn
            refine X_iload (tk_X1_turnsHour.at 23 rfl) rfl ?_
            refine X_if_eq (tgt := 81) (tk_X1_turnsHour.at 24 rfl) (by decide) (fun h => absurd h (by decide)) (fun _ => ?_)
            refine X_iload (tk_X1_turnsHour.at 25 rfl) rfl ?_
            refine X_aload_n (tk_X1_turnsHour.at 26 rfl) rfl ?_
            refine X_getR (tk_X1_turnsHour.at 27 rfl) fl_x1_59 hD.1 rfl rfl ?_
            refine X_cV0i (lv2 := [(0, _)]) (tk_X1_turnsHour.at 28 rfl) mv_X3_size lk_x1_63 np_X3_size hD.2.2.1.1 (by decide) rfl (Nat.le_of_ble_eq_true rfl) (Nat.le_of_ble_eq_true rfl) rfl (d_csz hD hw (rTc hdis hr) ?_)
            refine X_icmp_geN (tgt := 81) (tk_X1_turnsHour.at 29 rfl) (by decide) (pl c rfl) (pl (nv (N 2)) rfl) (by omega) (by omega) (fun c2 => ?_) (fun c2 => (by exfalso; omega))
            refine X_iinc (lv' := [(0, _), (1, _), (2, _), (3, _), (4, _), (5, _)]) (tk_X1_turnsHour.at 41 rfl) rfl ci_1 (by decide) rfl rfl ?_
            refine X_goto (tgt := 2) (tk_X1_turnsHour.at 42 rfl) (by decide) ?_
            rw [nI_1 k]
            exact ih (k + 1) _ (by omega) (fun k' c' h1 h2 h3 => by
              by_cases e : k' = k
              · subst e; exact hn c' (by omega)
              · exact hno k' c' (by omega) h2 h3)
          | succ q ihq =>
            intro c hc hn
            refine X_iload (tk_X1_turnsHour.at 23 rfl) rfl ?_
            refine X_if_eq (tgt := 81) (tk_X1_turnsHour.at 24 rfl) (by decide) (fun h => absurd h (by decide)) (fun _ => ?_)
            refine X_iload (tk_X1_turnsHour.at 25 rfl) rfl ?_
            refine X_aload_n (tk_X1_turnsHour.at 26 rfl) rfl ?_
            refine X_getR (tk_X1_turnsHour.at 27 rfl) fl_x1_59 hD.1 rfl rfl ?_
            refine X_cV0i (lv2 := [(0, _)]) (tk_X1_turnsHour.at 28 rfl) mv_X3_size lk_x1_63 np_X3_size hD.2.2.1.1 (by decide) rfl (Nat.le_of_ble_eq_true rfl) (Nat.le_of_ble_eq_true rfl) rfl (d_csz hD hw (rTc hdis hr) ?_)
            refine X_icmp_geN (tgt := 81) (tk_X1_turnsHour.at 29 rfl) (by decide) (pl c rfl) (pl (nv (N 2)) rfl) (by omega) (by omega) (fun c2 => (by exfalso; omega)) (fun c2 => ?_)
            refine X_aload_n (tk_X1_turnsHour.at 30 rfl) rfl ?_
            refine X_iload_n (tk_X1_turnsHour.at 31 rfl) rfl ?_
            refine X_iload (tk_X1_turnsHour.at 32 rfl) rfl ?_
            refine X_cV2i (lv2 := [(0, _), (1, _), (2, _)]) (tk_X1_turnsHour.at 33 rfl) mv_X1_comesTo lk_x1_78 np_X1_comesTo hC.1 (by decide) rfl (Nat.le_of_ble_eq_true rfl) (Nat.le_of_ble_eq_true rfl) rfl (c1_comesTo (v := nI (arv N k c)) hC (pl (lnA N k) rfl) (by omega) (pl c rfl) (by omega) (by rw [Tc4]; exact (hI k (by omega) hpos c (by omega)).1) ?_)
            refine X_bipush (tk_X1_turnsHour.at 34 rfl) cb_60 ?_
            refine X_irem (tk_X1_turnsHour.at 35 rfl) (by decide) ?_
            have ba := arv_le hw (k := k) (c := c) (by omega) (by omega)
            rw [show nI (arv N k c) - nI (arv N k c) / 60 * 60 = nI (arv N k c % 60) from pk_rem (by omega) (by decide) (by decide)]
            refine X_if_neN (tgt := 75) (tk_X1_turnsHour.at 36 rfl) (by decide) (pl (arv N k c % 60) rfl) (by omega) (fun c3 => ?_) (fun c3 => ?_)
            · refine X_iinc (lv' := [(0, _), (1, _), (2, _), (3, _), (4, _), (5, _)]) (tk_X1_turnsHour.at 39 rfl) rfl ci_1 (by decide) rfl rfl ?_
              refine X_goto (tgt := 43) (tk_X1_turnsHour.at 40 rfl) (by decide) ?_
              rw [nI_1 c]
              exact ihq (c + 1) (by omega) (fun e he => by
                by_cases ee : e = c
                · subst ee; exact c3
                · exact hn e (by omega))
            · refine X_iconst (tk_X1_turnsHour.at 37 rfl) ci_1 ?_
              refine X_ireturn (tk_X1_turnsHour.at 38 rfl) rfl rfl ?_
              exact kt ⟨k, c, by omega, hpos, by omega, c3⟩
        exact inn _ 0 (Nat.zero_add _) (fun e he => absurd he (Nat.not_lt_zero e))
  refine X_iconst (tk_X1_turnsHour.at 0 rfl) ci_0 ?_
  refine X_istore_n (lv' := [(0, _), (1, _), (2, _)]) (tk_X1_turnsHour.at 1 rfl) (by decide) rfl rfl ?_
  exact outer _ 0 [] (Nat.zero_add _) (fun k' c h => absurd h (Nat.not_lt_zero k'))
