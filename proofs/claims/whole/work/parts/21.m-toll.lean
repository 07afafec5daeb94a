/-- the risk of the i-th on the k-th of the line at a piece -/
def rkc (N : Nat → Int32) (k i c : Nat) : Nat := nv (gv N 0 (N (8 + 4 * nv (N (84 + 9 * lnA N k + i)))) (nI (arv N k c / 60)) (nI (bef N k + i)) (N (49 + 4 * c)) (N (50 + 4 * c)))
def t3 (N : Nat → Int32) (k i : Nat) : Nat → Nat
  | 0 => 0
  | c + 1 => t3 N k i c + cst N 0 (lnA N k) i c * rkc N k i c
def t2 (N : Nat → Int32) (k : Nat) : Nat → Nat
  | 0 => 0
  | i + 1 => t2 N k i + t3 N k i (nv (N 2))
def t1 (N : Nat → Int32) : Nat → Nat
  | 0 => 0
  | k + 1 => t1 N k + t2 N k (mny N (lnA N k))
def toll (N : Nat → Int32) : Nat := t1 N (nv (N 4))
theorem rkc_le (N : Nat → Int32) (k i c : Nat) : rkc N k i c ≤ 1000 := (gv_ok N 0 _ _ _ _ _).2
theorem arv_le {N : Nat → Int32} (hw : WF N) {k c : Nat} (hk : k < nv (N 4)) (hc : c < 8) : arv N k c ≤ 4799 := by
  have h1 := ofk_le hw hk (c := c) (by omega)
  have h2 := fre_le hw k (by omega) c hc
  have h3 := hw.n4.2
  unfold arv mxn
  split <;> omega
theorem rk_eq {N cm bf : Nat → Int32} (hw : WF N) (hI : CrI N cm bf (nv (N 4))) {k i c : Nat} (hk : k < nv (N 4)) (hp : 0 < mny N (lnA N k)) (hc : c < nv (N 2)) : gv N 0 (N (8 + 4 * nv (N (84 + 9 * lnA N k + i)))) (cm (8 * lnA N k + c) / 60) (bf (lnA N k) + nI i) (N (49 + 4 * c)) (N (50 + 4 * c)) = nI (rkc N k i c) := by
  have h2 := hw.n2.2
  have ha := arv_le hw hk (c := c) (by omega)
  rw [hI.1 k hk, hI.2 k hk hp c hc, nI_add, show (60 : Int32) = nI 60 from rfl, pk_div (by omega) (by decide) (by decide)]
  exact (gv_ok N 0 _ _ _ _ _).1
set_option maxHeartbeats 1000000 in
theorem c10_tollOf {G : Gl} {d : Nat} {S : Sh} {μ : Mu} {o : Nat} {q : Nat → Nat} {N : Nat → Int32} {K : Int32 → Sh → Mu → Prop} (hM : MS S o q) (hN : μ (o + 1) = N) (hl0 : μ o 5 = 0) (hw : WF N) (hK : ∀ cm bf h P, CrI N cm bf (nv (N 4)) → K (nI (toll N)) S (Tst μ o (nI (ovr N (nv (N 4)))) cm bf h P)) : X G mi_X10_tollOf (d + 7) 0 0 [(0, .ref o)] [] S μ (qi K) := by
  subst hN
  have w0 := hw.n0
  have w1 := hw.n1
  have w2 := hw.n2
  have w3 := hw.n3
  have w4 := hw.n4
  have w5 := hw.n5
  have w6 := hw.n6
  have b1 := w1.2
  have b2 := w2.2
  have b3 := w3.2
  have b4 := w4.2
  have b5 := w5.2
  have b6 := w6.2
  have b0 := w0.2
  refine X_aload_n (tk_X10_tollOf.at 0 rfl) rfl ?_
  refine X_cV0v (lv2 := [(0, _)]) (tk_X10_tollOf.at 1 rfl) mv_X10_cross lk_x10_255 np_X10_cross hM.f0 (by decide) rfl (Nat.le_of_ble_eq_true rfl) (Nat.le_of_ble_eq_true rfl) rfl (c10_cross hM rfl hw (fun cm bf hI => ?_))
  have outer : ∀ (n k : Nat) (h P : Nat → Int32) (rest : List (Nat × Value)), k + n = nv (μ (o + 1) 4) → X G mi_X10_tollOf (d + 7) 0 8 ([(0, .ref o), (1, .int (nI (t1 (μ (o + 1)) k))), (2, .int (nI k))] ++ rest) [] S (Tst μ o (nI (ovr (μ (o + 1)) (nv (μ (o + 1) 4)))) cm bf h P) (qi K) := by
    intro n
    induction n with
    | zero =>
      intro k h P rest hk
      refine X_lvp [0, 1, 2] (lv' := [(0, _), (1, _), (2, _)]) rfl ?_
      have e : k = nv (μ (o + 1) 4) := by omega
      refine X_iload_n (tk_X10_tollOf.at 6 rfl) rfl ?_
      refine X_aload_n (tk_X10_tollOf.at 7 rfl) rfl ?_
      refine X_getR (tk_X10_tollOf.at 8 rfl) fl_x10_9 hM.f0 rfl rfl ?_
      refine X_iconst (tk_X10_tollOf.at 9 rfl) ci_4 ?_
      refine X_ialdN (k := 4) (tk_X10_tollOf.at 10 rfl) hM.f1 (pz (pl 4 rfl) (by omega)) (by omega) (by decide) ?_
      rw [Tst1]
      refine X_icmp_geN (tgt := 109) (tk_X10_tollOf.at 11 rfl) (by decide) (pl k rfl) w4.1 (by omega) (by omega) (fun c1 => ?_) (fun c1 => (by exfalso; omega))
      refine X_iload_n (tk_X10_tollOf.at 60 rfl) rfl ?_
      refine X_ireturn (tk_X10_tollOf.at 61 rfl) rfl rfl ?_
      rw [e]
      exact hK cm bf h P hI
    | succ n ih =>
      intro k h P rest hk
      refine X_lvp [0, 1, 2] (lv' := [(0, _), (1, _), (2, _)]) rfl ?_
      have wl := hw.li (k := k) (by omega)
      have wr := hw.ro wl.2
      have bl : lnA (μ (o + 1)) k < nv (μ (o + 1) 3) := wl.2
      have hm : μ (o + 1) (83 + 9 * lnA (μ (o + 1)) k) = nI (mny (μ (o + 1)) (lnA (μ (o + 1)) k)) := wr.2.2.2.1.1
      have bm : mny (μ (o + 1)) (lnA (μ (o + 1)) k) ≤ 5 := wr.2.2.2.1.2
      have mid : ∀ (m i : Nat) (h P : Nat → Int32) (rest : List (Nat × Value)), i + m = (mny (μ (o + 1)) (lnA (μ (o + 1)) k)) → X G mi_X10_tollOf (d + 7) 0 32 ([(0, .ref o), (1, .int (nI (t1 (μ (o + 1)) k + t2 (μ (o + 1)) k i))), (2, .int (nI k)), (3, .int (nI (lnA (μ (o + 1)) k))), (4, .int (nI i))] ++ rest) [] S (Tst μ o (nI (ovr (μ (o + 1)) (nv (μ (o + 1) 4)))) cm bf h P) (qi K) := by
        intro m
        induction m with
        | zero =>
          intro i h P rest hi
          refine X_lvp [0, 1, 2, 3, 4] (lv' := [(0, _), (1, _), (2, _), (3, _), (4, _)]) rfl ?_
          have e : i = (mny (μ (o + 1)) (lnA (μ (o + 1)) k)) := by omega
          refine X_iload (tk_X10_tollOf.at 21 rfl) rfl ?_
          refine X_aload_n (tk_X10_tollOf.at 22 rfl) rfl ?_
          refine X_iload_n (tk_X10_tollOf.at 23 rfl) rfl ?_
          refine X_cV1i (lv2 := [(0, _), (1, _)]) (tk_X10_tollOf.at 24 rfl) mv_X10_many lk_x10_118 np_X10_many hM.f0 (by decide) rfl (Nat.le_of_ble_eq_true rfl) (Nat.le_of_ble_eq_true rfl) rfl (c10_many hM (pl (lnA (μ (o + 1)) k) rfl) (by omega) ?_)
          rw [Tst1]
          refine X_icmp_geN (tgt := 103) (tk_X10_tollOf.at 25 rfl) (by decide) (pl i rfl) hm (by omega) (by omega) (fun c1 => ?_) (fun c1 => (by exfalso; omega))
          refine X_iinc (lv' := [(0, _), (1, _), (2, _), (3, _), (4, _)]) (tk_X10_tollOf.at 58 rfl) rfl ci_1 (by decide) rfl rfl ?_
          refine X_goto (tgt := 8) (tk_X10_tollOf.at 59 rfl) (by decide) ?_
          rw [e, nI_1 k]
          exact ih (k + 1) h P [(3, _), (4, _)] (by omega)
        | succ m ihm =>
          intro i h P rest hi
          refine X_lvp [0, 1, 2, 3, 4] (lv' := [(0, _), (1, _), (2, _), (3, _), (4, _)]) rfl ?_
          have inn : ∀ (w c : Nat) (h P : Nat → Int32) (rest : List (Nat × Value)), c + w = nv (μ (o + 1) 2) → X G mi_X10_tollOf (d + 7) 0 45 ([(0, .ref o), (1, .int (nI (t1 (μ (o + 1)) k + t2 (μ (o + 1)) k i + t3 (μ (o + 1)) k i c))), (2, .int (nI k)), (3, .int (nI (lnA (μ (o + 1)) k))), (4, .int (nI i)), (5, .int (nI c))] ++ rest) [] S (Tst μ o (nI (ovr (μ (o + 1)) (nv (μ (o + 1) 4)))) cm bf h P) (qi K) := by
            intro w
            induction w with
            | zero =>
              intro c h P rest hc
              refine X_lvp [0, 1, 2, 3, 4, 5] (lv' := [(0, _), (1, _), (2, _), (3, _), (4, _), (5, _)]) rfl ?_
              have e : c = nv (μ (o + 1) 2) := by omega
              refine X_iload (tk_X10_tollOf.at 28 rfl) rfl ?_
              refine X_aload_n (tk_X10_tollOf.at 29 rfl) rfl ?_
              refine X_getR (tk_X10_tollOf.at 30 rfl) fl_x10_9 hM.f0 rfl rfl ?_
              refine X_iconst (tk_X10_tollOf.at 31 rfl) ci_2 ?_
              refine X_ialdN (k := 2) (tk_X10_tollOf.at 32 rfl) hM.f1 (pz (pl 2 rfl) (by omega)) (by omega) (by decide) ?_
              rw [Tst1]
              refine X_icmp_geN (tgt := 97) (tk_X10_tollOf.at 33 rfl) (by decide) (pl c rfl) w2.1 (by omega) (by omega) (fun c1 => ?_) (fun c1 => (by exfalso; omega))
              refine X_iinc (lv' := [(0, _), (1, _), (2, _), (3, _), (4, _), (5, _)]) (tk_X10_tollOf.at 56 rfl) rfl ci_1 (by decide) rfl rfl ?_
              refine X_goto (tgt := 32) (tk_X10_tollOf.at 57 rfl) (by decide) ?_
              rw [e, nI_1 i, show (t1 (μ (o + 1)) k + t2 (μ (o + 1)) k i + t3 (μ (o + 1)) k i (nv (μ (o + 1) 2))) = (t1 (μ (o + 1)) k + t2 (μ (o + 1)) k (i + 1)) from by show _ = _ + (_ + _); rw [Nat.add_assoc]]
              exact ihm (i + 1) h P [(5, _)] (by omega)
            | succ w ihw =>
              intro c h P rest hc
              refine X_lvp [0, 1, 2, 3, 4, 5] (lv' := [(0, _), (1, _), (2, _), (3, _), (4, _), (5, _)]) rfl ?_
              have zt := fun h P => ihw (c + 1) h P [(6, .int (nI (cst (μ (o + 1)) 0 (lnA (μ (o + 1)) k) i c)))] (by omega)
              refine X_iload (tk_X10_tollOf.at 28 rfl) rfl ?_
              refine X_aload_n (tk_X10_tollOf.at 29 rfl) rfl ?_
              refine X_getR (tk_X10_tollOf.at 30 rfl) fl_x10_9 hM.f0 rfl rfl ?_
              refine X_iconst (tk_X10_tollOf.at 31 rfl) ci_2 ?_
              refine X_ialdN (k := 2) (tk_X10_tollOf.at 32 rfl) hM.f1 (pz (pl 2 rfl) (by omega)) (by omega) (by decide) ?_
              rw [Tst1]
              refine X_icmp_geN (tgt := 97) (tk_X10_tollOf.at 33 rfl) (by decide) (pl c rfl) w2.1 (by omega) (by omega) (fun c1 => (by exfalso; omega)) (fun c1 => ?_)
              refine X_aload_n (tk_X10_tollOf.at 34 rfl) rfl ?_
              refine X_iload_n (tk_X10_tollOf.at 35 rfl) rfl ?_
              refine X_iload (tk_X10_tollOf.at 36 rfl) rfl ?_
              refine X_iload (tk_X10_tollOf.at 37 rfl) rfl ?_
              refine X_cV3i (lv2 := [(0, _), (1, _), (2, _), (3, _)]) (tk_X10_tollOf.at 38 rfl) mv_X10_costOf lk_x10_177 np_X10_costOf hM.f0 (by decide) rfl (Nat.le_of_ble_eq_true rfl) (Nat.le_of_ble_eq_true rfl) rfl (c10_costOf hM (Tst1 _ _ _ _ _ _ _) ((Tst5 _ _ _ _ _ _ _).trans hl0) hw (pl (lnA (μ (o + 1)) k) rfl) wl.2 (pl i rfl) (show i < (mny (μ (o + 1)) (lnA (μ (o + 1)) k)) by omega) (pl c rfl) (by omega) (lb0 _) ?_)
              refine X_istore (lv' := [(0, _), (1, _), (2, _), (3, _), (4, _), (5, _), (6, _)]) (tk_X10_tollOf.at 39 rfl) (by decide) rfl rfl ?_
              have bc : (cst (μ (o + 1)) 0 (lnA (μ (o + 1)) k) i c) ≤ 5 := by unfold cst; split; omega; split; omega; exact bm
              refine X_iload_n (tk_X10_tollOf.at 40 rfl) rfl ?_
              refine X_iload (tk_X10_tollOf.at 41 rfl) rfl ?_
              refine X_if_neN (tgt := 77) (tk_X10_tollOf.at 42 rfl) (by decide) (pl (cst (μ (o + 1)) 0 (lnA (μ (o + 1)) k) i c) rfl) (by omega) (fun c2 => ?_) (fun c2 => ?_)
              · refine X_iload (tk_X10_tollOf.at 45 rfl) rfl ?_
                refine X_aload_n (tk_X10_tollOf.at 46 rfl) rfl ?_
                refine X_iload_n (tk_X10_tollOf.at 47 rfl) rfl ?_
                refine X_iload (tk_X10_tollOf.at 48 rfl) rfl ?_
                refine X_iload (tk_X10_tollOf.at 49 rfl) rfl ?_
                refine X_cV3i (lv2 := [(0, _), (1, _), (2, _), (3, _)]) (tk_X10_tollOf.at 50 rfl) mv_X10_riskOf lk_x10_258 np_X10_riskOf hM.f0 (by decide) rfl (Nat.le_of_ble_eq_true rfl) (Nat.le_of_ble_eq_true rfl) rfl (c10_riskOf hM (Tst1 _ _ _ _ _ _ _) hw (pl (lnA (μ (o + 1)) k) rfl) wl.2 (pl i rfl) (show i < (mny (μ (o + 1)) (lnA (μ (o + 1)) k)) by omega) (pl c rfl) (by omega) (fun h2 P2 => ?_))
                rw [Tst_Tst, Tst17, Tst9, Tst10, rk_eq hw hI (by omega) (show 0 < (mny (μ (o + 1)) (lnA (μ (o + 1)) k)) by omega) (by omega)]
                refine X_imul (tk_X10_tollOf.at 51 rfl) ?_
                refine X_iadd (tk_X10_tollOf.at 52 rfl) ?_
                refine X_istore_n (lv' := [(0, _), (1, _), (2, _), (3, _), (4, _), (5, _), (6, _)]) (tk_X10_tollOf.at 53 rfl) (by decide) rfl rfl ?_
                refine X_iinc (lv' := [(0, _), (1, _), (2, _), (3, _), (4, _), (5, _), (6, _)]) (tk_X10_tollOf.at 54 rfl) rfl ci_1 (by decide) rfl rfl ?_
                refine X_goto (tgt := 45) (tk_X10_tollOf.at 55 rfl) (by decide) ?_
                have e : (t1 (μ (o + 1)) k + t2 (μ (o + 1)) k i + t3 (μ (o + 1)) k i (c + 1)) = (t1 (μ (o + 1)) k + t2 (μ (o + 1)) k i + t3 (μ (o + 1)) k i c) + (cst (μ (o + 1)) 0 (lnA (μ (o + 1)) k) i c) * rkc (μ (o + 1)) k i c := (Nat.add_assoc _ _ _).symm
                rw [nI_1 c, pk_mul, nI_add]
                have z := zt h2 P2
                rw [e] at z
                exact z
              · refine X_iconst (tk_X10_tollOf.at 43 rfl) ci_0 ?_
                refine X_goto (tgt := 89) (tk_X10_tollOf.at 44 rfl) (by decide) ?_
                refine X_iadd (tk_X10_tollOf.at 52 rfl) ?_
                refine X_istore_n (lv' := [(0, _), (1, _), (2, _), (3, _), (4, _), (5, _), (6, _)]) (tk_X10_tollOf.at 53 rfl) (by decide) rfl rfl ?_
                refine X_iinc (lv' := [(0, _), (1, _), (2, _), (3, _), (4, _), (5, _), (6, _)]) (tk_X10_tollOf.at 54 rfl) rfl ci_1 (by decide) rfl rfl ?_
                refine X_goto (tgt := 45) (tk_X10_tollOf.at 55 rfl) (by decide) ?_
                have e : (t1 (μ (o + 1)) k + t2 (μ (o + 1)) k i + t3 (μ (o + 1)) k i (c + 1)) = (t1 (μ (o + 1)) k + t2 (μ (o + 1)) k i + t3 (μ (o + 1)) k i c) := by show _ + (_ + _ * _) = _; rw [c2, Nat.zero_mul]; rfl
                rw [nI_1 c, show nI (t1 (μ (o + 1)) k + t2 (μ (o + 1)) k i + t3 (μ (o + 1)) k i c) + 0 = nI (t1 (μ (o + 1)) k + t2 (μ (o + 1)) k i + t3 (μ (o + 1)) k i c) from Int32.add_zero _]
                have z := zt h P
                rw [e] at z
                exact z
          refine X_iload (tk_X10_tollOf.at 21 rfl) rfl ?_
          refine X_aload_n (tk_X10_tollOf.at 22 rfl) rfl ?_
          refine X_iload_n (tk_X10_tollOf.at 23 rfl) rfl ?_
          refine X_cV1i (lv2 := [(0, _), (1, _)]) (tk_X10_tollOf.at 24 rfl) mv_X10_many lk_x10_118 np_X10_many hM.f0 (by decide) rfl (Nat.le_of_ble_eq_true rfl) (Nat.le_of_ble_eq_true rfl) rfl (c10_many hM (pl (lnA (μ (o + 1)) k) rfl) (by omega) ?_)
          rw [Tst1]
          refine X_icmp_geN (tgt := 103) (tk_X10_tollOf.at 25 rfl) (by decide) (pl i rfl) hm (by omega) (by omega) (fun c1 => (by exfalso; omega)) (fun c1 => ?_)
          refine X_iconst (tk_X10_tollOf.at 26 rfl) ci_0 ?_
          refine X_istore (lv' := [(0, _), (1, _), (2, _), (3, _), (4, _), (5, _)]) (tk_X10_tollOf.at 27 rfl) (by decide) rfl rfl ?_
          exact inn _ 0 h P [] (Nat.zero_add _)
      refine X_iload_n (tk_X10_tollOf.at 6 rfl) rfl ?_
      refine X_aload_n (tk_X10_tollOf.at 7 rfl) rfl ?_
      refine X_getR (tk_X10_tollOf.at 8 rfl) fl_x10_9 hM.f0 rfl rfl ?_
      refine X_iconst (tk_X10_tollOf.at 9 rfl) ci_4 ?_
      refine X_ialdN (k := 4) (tk_X10_tollOf.at 10 rfl) hM.f1 (pz (pl 4 rfl) (by omega)) (by omega) (by decide) ?_
      rw [Tst1]
      refine X_icmp_geN (tgt := 109) (tk_X10_tollOf.at 11 rfl) (by decide) (pl k rfl) w4.1 (by omega) (by omega) (fun c1 => (by exfalso; omega)) (fun c1 => ?_)
      refine X_aload_n (tk_X10_tollOf.at 12 rfl) rfl ?_
      refine X_getR (tk_X10_tollOf.at 13 rfl) fl_x10_9 hM.f0 rfl rfl ?_
      refine X_sipush (tk_X10_tollOf.at 14 rfl) cs_134 ?_
      refine X_iload_n (tk_X10_tollOf.at 15 rfl) rfl ?_
      refine X_iadd (tk_X10_tollOf.at 16 rfl) ?_
      refine X_ialdN (k := 134 + k) (tk_X10_tollOf.at 17 rfl) hM.f1 (pz (pa (pl 134 rfl) (pl k rfl)) (by omega)) (by omega) (by decide) ?_
      rw [Tst1, wl.1]
      refine X_istore_n (lv' := [(0, _), (1, _), (2, _), (3, _)]) (tk_X10_tollOf.at 18 rfl) (by decide) rfl rfl ?_
      refine X_iconst (tk_X10_tollOf.at 19 rfl) ci_0 ?_
      refine X_istore (lv' := [(0, _), (1, _), (2, _), (3, _), (4, _)]) (tk_X10_tollOf.at 20 rfl) (by decide) rfl rfl ?_
      exact mid _ 0 h P [] (Nat.zero_add _)
  refine X_iconst (tk_X10_tollOf.at 2 rfl) ci_0 ?_
  refine X_istore_n (lv' := [(0, _), (1, _)]) (tk_X10_tollOf.at 3 rfl) (by decide) rfl rfl ?_
  refine X_iconst (tk_X10_tollOf.at 4 rfl) ci_0 ?_
  refine X_istore_n (lv' := [(0, _), (1, _), (2, _)]) (tk_X10_tollOf.at 5 rfl) (by decide) rfl rfl ?_
  exact outer _ 0 _ _ [] (Nat.zero_add _)
