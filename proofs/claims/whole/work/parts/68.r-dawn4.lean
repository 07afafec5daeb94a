theorem mx0_nI {n : Nat} (h : n < 2 ^ 31) : mx0 (nI n) = nI n := by
  unfold mx0
  rcases Nat.eq_zero_or_pos n with e | e
  · subst e; rfl
  · exact if_pos (by rw [show (0 : Int32) = nI 0 from rfl]; exact nI_lt e h)
section
variable {q a b s : Nat} {pl sp kn st : Int32} {la : Bool}
theorem gk0 (g : Prop) (dg : Decidable g) (h : q < 2 ^ 31) : mx0 (@gk 0 (nI q) sp kn st g dg la) = nI q := mx0_nI h
theorem gk1 (g : Prop) (dg : Decidable g) (h : q + 5 * a < 2 ^ 31) : mx0 (@gk 1 (nI q) (nI a) kn st g dg la) = nI q + 5 * nI a := by
  show mx0 (nI q + 5 * nI a) = _
  rw [show (5 : Int32) = nI 5 from rfl, pk_mul, nI_add]
  exact mx0_nI h
theorem gk2 (g : Prop) (dg : Decidable g) (h : q + 10 * b < 2 ^ 31) : mx0 (@gk 2 (nI q) sp (nI b) st g dg la) = nI q + 10 * nI b := by
  show mx0 (nI q + 10 * nI b) = _
  rw [show (10 : Int32) = nI 10 from rfl, pk_mul, nI_add]
  exact mx0_nI h
theorem gk3 (g : Prop) (dg : Decidable g) : mx0 (@gk 3 pl sp kn st g dg la) = (if 0 < (pl + 10 * kn) - 2 * sp then (pl + 10 * kn) - 2 * sp else 0) := by
  show mx0 (pl + (10 * kn - 2 * sp)) = _
  rw [show pl + (10 * kn - 2 * sp) = (pl + 10 * kn) - 2 * sp from by rw [Int32.sub_eq_add_neg, Int32.sub_eq_add_neg, Int32.add_assoc]]
  rfl
theorem two_nI (n : Nat) : 2 * nI n = nI n + nI n := by rw [show (2 : Int32) = nI 2 from rfl, pk_mul, nI_add]; congr 1; omega
theorem gk4t (g : Prop) (dg : Decidable g) (hg : g) (h : q + q < 2 ^ 31) : mx0 (@gk 4 (nI q) sp kn st g dg la) = 2 * nI q := by
  show mx0 (nI q + (@ite _ g dg (nI q) 0)) = _
  rw [if_pos hg, two_nI, nI_add]
  exact mx0_nI h
theorem gk4f (g : Prop) (dg : Decidable g) (hg : ¬ g) (h : q < 2 ^ 31) : mx0 (@gk 4 (nI q) sp kn st g dg la) = nI q := by
  show mx0 (nI q + (@ite _ g dg (nI q) 0)) = _
  rw [if_neg hg, Int32.add_zero]
  exact mx0_nI h
theorem gk5t (g : Prop) (dg : Decidable g) (hg : g) (hl : la = true) (h : q + q + s < 2 ^ 31) : mx0 (@gk 5 (nI q) sp kn (nI s) g dg la) = 2 * nI q + nI s := by
  show mx0 (nI q + (@ite _ g dg (nI q) 0) + (if g ∧ la = true then nI s else 0)) = _
  rw [if_pos hg, if_pos ⟨hg, hl⟩, two_nI, nI_add, nI_add]
  exact mx0_nI h
theorem gk5u (g : Prop) (dg : Decidable g) (hg : g) (hl : ¬ la = true) (h : q + q < 2 ^ 31) : mx0 (@gk 5 (nI q) sp kn st g dg la) = 2 * nI q := by
  show mx0 (nI q + (@ite _ g dg (nI q) 0) + (if g ∧ la = true then st else 0)) = _
  rw [if_pos hg, if_neg (fun z => hl z.2), two_nI, nI_add, Int32.add_zero]
  exact mx0_nI h
theorem gk5f (g : Prop) (dg : Decidable g) (hg : ¬ g) (h : q < 2 ^ 31) : mx0 (@gk 5 (nI q) sp kn st g dg la) = nI q := by
  show mx0 (nI q + (@ite _ g dg (nI q) 0) + (if g ∧ la = true then st else 0)) = _
  rw [if_neg hg, if_neg (fun z => hg z.1), Int32.add_zero, Int32.add_zero]
  exact mx0_nI h
end
theorem pcnt0 (N : Nat → Int32) (r : Nat) : ∀ i, pcnt N 0 r i = i
  | 0 => rfl
  | i + 1 => by
    show pcnt N 0 r i + (if lb 0 (N (84 + 9 * r + i)) then 0 else 1) = i + 1
    rw [if_neg (lb0 _), pcnt0 N r i]
theorem lastb0 {N : Nat → Int32} {r i : Nat} (h : i < mny N r) : lastb N 0 r i = decide (i + 1 = mny N r) := by
  unfold lastb
  apply decide_eq_decide.mpr
  constructor
  · intro g
    rcases Nat.lt_or_ge (i + 1) (mny N r) with c | c
    · exact absurd (g (i + 1) c (by omega)) (lb0 _)
    · omega
  · intro g k hk hik
    have hk2 : k < mny N r := hk
    omega
set_option maxHeartbeats 1000000 in
theorem c2_gripAt {G : Gl} {d : Nat} {S : Sh} {μ : Mu} {D : Nat} {N : Nat → Int32} {x y z : Int32} {rn a j : Nat} {K : Int32 → Sh → Mu → Prop} (hD : DS G S D) (hw : WF N) (hr : repD μ D N) (hx : x = nI rn) (h3 : rn < nv (N 3)) (hy : y = nI a) (ha : a < mny N rn) (hz : z = nI j) (hj0 : 0 < j) (hj5 : j ≤ 5) (hK : K (grp N rn (nv (N (84 + 9 * rn + a))) j (decide (a + 1 = mny N rn))) S μ) : X G mi_X2_gripAt (d + 1) 0 0 [(0, .ref D), (1, .int x), (2, .int y), (3, .int z)] [] S μ (qi K) := by
  subst hz
  have b1 := hw.n1.2
  have b2 := hw.n2.2
  have b3 := hw.n3.2
  have b4 := hw.n4.2
  have wr := hw.ro h3
  have wk := wr.1
  have bk := wk.2
  have wsp := wr.2.1.1
  have bsp := wsp.2
  have wkn := wr.2.2.1
  have bkn := wkn.2
  have bm := hw.mb h3
  have wp := hw.wh h3 ha
  have bp := wp.2
  have ws := (hw.pe wp.2).2.1
  have bs := ws.2
  have ep : N (9 + 4 * (nv (N (84 + 9 * rn + a)))) / nI j = nI ((nv (N (9 + 4 * (nv (N (84 + 9 * rn + a)))))) / j) := by rw [show N (9 + 4 * (nv (N (84 + 9 * rn + a)))) / nI j = nI (nv (N (9 + 4 * (nv (N (84 + 9 * rn + a)))))) / nI j from congrArg (fun z => z / nI j) ws.1]; exact pk_div (by omega) hj0 (by omega)
  have bq : ((nv (N (9 + 4 * (nv (N (84 + 9 * rn + a)))))) / j) ≤ 999 := Nat.le_trans (Nat.div_le_self _ _) ws.2
  generalize ((nv (N (9 + 4 * (nv (N (84 + 9 * rn + a)))))) / j) = q at ep bq
  obtain ⟨s, es, bs⟩ : ∃ s, N (9 + 4 * (nv (N (84 + 9 * rn + a)))) = nI s ∧ s ≤ 999 := ⟨_, ws.1, ws.2⟩
  obtain ⟨sp, esp, bsp⟩ : ∃ s, N (81 + 9 * rn) = nI s ∧ s ≤ 20 := ⟨_, wsp.1, wsp.2⟩
  obtain ⟨kn, ekn, bkn⟩ : ∃ s, N (82 + 9 * rn) = nI s ∧ s ≤ 9 := ⟨_, wkn.1, wkn.2⟩
  refine X_aload_n (tk_X2_gripAt.at 0 rfl) rfl ?_
  refine X_iload_n (tk_X2_gripAt.at 1 rfl) rfl ?_
  refine X_cV1r (lv2 := [(0, _), (1, _)]) (tk_X2_gripAt.at 2 rfl) mv_X2_rowOf lk_x2_87 np_X2_rowOf hD.1 (by decide) rfl (Nat.le_of_ble_eq_true rfl) (Nat.le_of_ble_eq_true rfl) rfl (d_rowOf (r := rn) hD hw hr hx (by omega) ?_)
  refine X_astore (lv' := [(0, _), (1, _), (2, _), (3, _), (4, _)]) (tk_X2_gripAt.at 3 rfl) (by decide) rfl rfl ?_
  refine X_aload (tk_X2_gripAt.at 4 rfl) rfl ?_
  refine X_iload_n (tk_X2_gripAt.at 5 rfl) rfl ?_
  refine X_cV1i (lv2 := [(0, _), (1, _)]) (tk_X2_gripAt.at 6 rfl) mv_X6_at lk_x2_98 np_X6_at (hD.2.2.2.2.2.2.2.2.2.2.2 rn (by omega)).1 (by decide) rfl (Nat.le_of_ble_eq_true rfl) (Nat.le_of_ble_eq_true rfl) rfl (d_rat (k := 84 + 9 * rn + a) (i := a) hD hw hr (by omega) hy (by omega) (by omega) ?_)
  refine X_istore (lv' := [(0, _), (1, _), (2, _), (3, _), (4, _), (5, _)]) (tk_X2_gripAt.at 7 rfl) (by decide) rfl rfl ?_
  refine X_aload_n (tk_X2_gripAt.at 8 rfl) rfl ?_
  refine X_getR (tk_X2_gripAt.at 9 rfl) fl_x2_21 hD.1 rfl rfl ?_
  refine X_iload (tk_X2_gripAt.at 10 rfl) rfl ?_
  refine X_iconst (tk_X2_gripAt.at 11 rfl) ci_1 ?_
  refine X_cV2i (lv2 := [(0, _), (1, _), (2, _)]) (tk_X2_gripAt.at 12 rfl) mv_X3_get lk_x2_105 np_X3_get hD.2.1.1 (by decide) rfl (Nat.le_of_ble_eq_true rfl) (Nat.le_of_ble_eq_true rfl) rfl (d_pg (k := 9 + 4 * (nv (N (84 + 9 * rn + a)))) (p := (nv (N (84 + 9 * rn + a)))) (c := 1) hD hw hr (pz wp.1 (by omega)) (by omega) (pz (pl 1 rfl) (by omega)) (by omega) (by omega) ?_)
  refine X_istore (lv' := [(0, _), (1, _), (2, _), (3, _), (4, _), (5, _), (6, _)]) (tk_X2_gripAt.at 13 rfl) (by decide) rfl rfl ?_
  refine X_aload_n (tk_X2_gripAt.at 14 rfl) rfl ?_
  refine X_getR (tk_X2_gripAt.at 15 rfl) fl_x2_21 hD.1 rfl rfl ?_
  refine X_iload (tk_X2_gripAt.at 16 rfl) rfl ?_
  refine X_iconst (tk_X2_gripAt.at 17 rfl) ci_3 ?_
  refine X_cV2i (lv2 := [(0, _), (1, _), (2, _)]) (tk_X2_gripAt.at 18 rfl) mv_X3_get lk_x2_105 np_X3_get hD.2.1.1 (by decide) rfl (Nat.le_of_ble_eq_true rfl) (Nat.le_of_ble_eq_true rfl) rfl (d_pg (k := 11 + 4 * (nv (N (84 + 9 * rn + a)))) (p := (nv (N (84 + 9 * rn + a)))) (c := 3) hD hw hr (pz wp.1 (by omega)) (by omega) (pz (pl 3 rfl) (by omega)) (by omega) (by omega) ?_)
  refine X_iconst (tk_X2_gripAt.at 19 rfl) ci_1 ?_
  refine X_icmp_ne (tgt := 45) (tk_X2_gripAt.at 20 rfl) (by decide) (fun c1 => ?_) (fun c1 => ?_)
  · refine X_iconst (tk_X2_gripAt.at 23 rfl) ci_0 ?_
    refine X_istore (lv' := [(0, _), (1, _), (2, _), (3, _), (4, _), (5, _), (6, _), (7, _)]) (tk_X2_gripAt.at 24 rfl) (by decide) rfl rfl ?_
    refine X_iload_n (tk_X2_gripAt.at 25 rfl) rfl ?_
    refine X_if_neN (tgt := 56) (tk_X2_gripAt.at 26 rfl) (by decide) (pl j rfl) (by omega) (fun c2 => ?_) (fun c2 => (by exfalso; omega))
    refine X_iload (tk_X2_gripAt.at 29 rfl) rfl ?_
    refine X_iload_n (tk_X2_gripAt.at 30 rfl) rfl ?_
    refine X_idiv (tk_X2_gripAt.at 31 rfl) (nI_ne0 hj0 (by omega)) ?_
    refine X_istore (lv' := [(0, _), (1, _), (2, _), (3, _), (4, _), (5, _), (6, _), (7, _), (8, _)]) (tk_X2_gripAt.at 32 rfl) (by decide) rfl rfl ?_
    refine X_iload (tk_X2_gripAt.at 33 rfl) rfl ?_
    refine X_if_eq (tgt := 74) (tk_X2_gripAt.at 34 rfl) (by decide) (fun _ => ?_) (fun h => absurd h (by decide))
    refine X_iload (tk_X2_gripAt.at 39 rfl) rfl ?_
    refine X_istore (lv' := [(0, _), (1, _), (2, _), (3, _), (4, _), (5, _), (6, _), (7, _), (8, _), (9, _)]) (tk_X2_gripAt.at 40 rfl) (by decide) rfl rfl ?_
    refine X_iload (tk_X2_gripAt.at 41 rfl) rfl ?_
    refine X_bipush (tk_X2_gripAt.at 42 rfl) cb_10 ?_
    refine X_aload_n (tk_X2_gripAt.at 43 rfl) rfl ?_
    refine X_getR (tk_X2_gripAt.at 44 rfl) fl_x2_42 hD.1 rfl rfl ?_
    refine X_iload_n (tk_X2_gripAt.at 45 rfl) rfl ?_
    refine X_iconst (tk_X2_gripAt.at 46 rfl) ci_2 ?_
    refine X_cV2i (lv2 := [(0, _), (1, _), (2, _)]) (tk_X2_gripAt.at 47 rfl) mv_X3_get lk_x2_105 np_X3_get hD.2.2.2.1.1 (by decide) rfl (Nat.le_of_ble_eq_true rfl) (Nat.le_of_ble_eq_true rfl) rfl (d_rg (k := 82 + 9 * rn) (p := rn) (c := 2) hD hw hr hx (by omega) (pz (pl 2 rfl) (by omega)) (by omega) (by omega) ?_)
    refine X_imul (tk_X2_gripAt.at 48 rfl) ?_
    refine X_iadd (tk_X2_gripAt.at 49 rfl) ?_
    refine X_istore (lv' := [(0, _), (1, _), (2, _), (3, _), (4, _), (5, _), (6, _), (7, _), (8, _), (9, _), (10, _)]) (tk_X2_gripAt.at 50 rfl) (by decide) rfl rfl ?_
    refine X_aload_n (tk_X2_gripAt.at 51 rfl) rfl ?_
    refine X_getR (tk_X2_gripAt.at 52 rfl) fl_x2_42 hD.1 rfl rfl ?_
    refine X_iload_n (tk_X2_gripAt.at 53 rfl) rfl ?_
    refine X_iconst (tk_X2_gripAt.at 54 rfl) ci_0 ?_
    refine X_cV2i (lv2 := [(0, _), (1, _), (2, _)]) (tk_X2_gripAt.at 55 rfl) mv_X3_get lk_x2_105 np_X3_get hD.2.2.2.1.1 (by decide) rfl (Nat.le_of_ble_eq_true rfl) (Nat.le_of_ble_eq_true rfl) rfl (d_rg (k := 80 + 9 * rn) (p := rn) (c := 0) hD hw hr hx (by omega) (pz (pl 0 rfl) (by omega)) (by omega) (by omega) ?_)
    rcases (show (nv (N (80 + 9 * rn))) = 0 ∨ (nv (N (80 + 9 * rn))) = 1 ∨ (nv (N (80 + 9 * rn))) = 2 ∨ (nv (N (80 + 9 * rn))) = 3 ∨ (nv (N (80 + 9 * rn))) = 4 ∨ (nv (N (80 + 9 * rn))) = 5 ∨ (nv (N (80 + 9 * rn))) = 6 from by omega) with e104 | e104 | e104 | e104 | e104 | e104 | e104
    · refine X_tableOutN (n := 0) (tgt := 213) (tk_X2_gripAt.at 56 rfl) (pz wk.1 e104) (by decide) (by decide) (by decide) ?_
      refine X_iload (tk_X2_gripAt.at 99 rfl) rfl ?_
      refine X_ireturn (tk_X2_gripAt.at 100 rfl) rfl rfl ?_
      have hk1 : N (80 + 9 * rn) = 0 := by rw [wk.1, e104]; rfl
      refine Eq.mp (congrArg (fun z => K z S μ) ?_) hK
      unfold grp
      rw [hk1, ep, esp, ekn, es]
      exact gk0 _ _ (by omega)
    · refine X_tableInN (n := 1) (tgt := 144) (tk_X2_gripAt.at 56 rfl) (pz wk.1 e104) (by decide) (by decide) (by decide) rfl (by decide) ?_
      refine X_iload (tk_X2_gripAt.at 57 rfl) rfl ?_
      refine X_iconst (tk_X2_gripAt.at 58 rfl) ci_5 ?_
      refine X_aload_n (tk_X2_gripAt.at 59 rfl) rfl ?_
      refine X_getR (tk_X2_gripAt.at 60 rfl) fl_x2_42 hD.1 rfl rfl ?_
      refine X_iload_n (tk_X2_gripAt.at 61 rfl) rfl ?_
      refine X_iconst (tk_X2_gripAt.at 62 rfl) ci_1 ?_
      refine X_cV2i (lv2 := [(0, _), (1, _), (2, _)]) (tk_X2_gripAt.at 63 rfl) mv_X3_get lk_x2_105 np_X3_get hD.2.2.2.1.1 (by decide) rfl (Nat.le_of_ble_eq_true rfl) (Nat.le_of_ble_eq_true rfl) rfl (d_rg (k := 81 + 9 * rn) (p := rn) (c := 1) hD hw hr hx (by omega) (pz (pl 1 rfl) (by omega)) (by omega) (by omega) ?_)
      refine X_imul (tk_X2_gripAt.at 64 rfl) ?_
      refine X_iadd (tk_X2_gripAt.at 65 rfl) ?_
      refine X_ireturn (tk_X2_gripAt.at 66 rfl) rfl rfl ?_
      have hk1 : N (80 + 9 * rn) = 1 := by rw [wk.1, e104]; rfl
      refine Eq.mp (congrArg (fun z => K z S μ) ?_) hK
      unfold grp
      rw [hk1, ep, esp, ekn, es]
      exact gk1 _ _ (by omega)
    · refine X_tableInN (n := 2) (tgt := 159) (tk_X2_gripAt.at 56 rfl) (pz wk.1 e104) (by decide) (by decide) (by decide) rfl (by decide) ?_
      refine X_iload (tk_X2_gripAt.at 67 rfl) rfl ?_
      refine X_ireturn (tk_X2_gripAt.at 68 rfl) rfl rfl ?_
      have hk1 : N (80 + 9 * rn) = 2 := by rw [wk.1, e104]; rfl
      refine Eq.mp (congrArg (fun z => K z S μ) ?_) hK
      unfold grp
      rw [hk1, ep, esp, ekn, es]
      exact gk2 _ _ (by omega)
    · refine X_tableInN (n := 3) (tgt := 162) (tk_X2_gripAt.at 56 rfl) (pz wk.1 e104) (by decide) (by decide) (by decide) rfl (by decide) ?_
      refine X_iconst (tk_X2_gripAt.at 69 rfl) ci_0 ?_
      refine X_iload (tk_X2_gripAt.at 70 rfl) rfl ?_
      refine X_iconst (tk_X2_gripAt.at 71 rfl) ci_2 ?_
      refine X_aload_n (tk_X2_gripAt.at 72 rfl) rfl ?_
      refine X_getR (tk_X2_gripAt.at 73 rfl) fl_x2_42 hD.1 rfl rfl ?_
      refine X_iload_n (tk_X2_gripAt.at 74 rfl) rfl ?_
      refine X_iconst (tk_X2_gripAt.at 75 rfl) ci_1 ?_
      refine X_cV2i (lv2 := [(0, _), (1, _), (2, _)]) (tk_X2_gripAt.at 76 rfl) mv_X3_get lk_x2_105 np_X3_get hD.2.2.2.1.1 (by decide) rfl (Nat.le_of_ble_eq_true rfl) (Nat.le_of_ble_eq_true rfl) rfl (d_rg (k := 81 + 9 * rn) (p := rn) (c := 1) hD hw hr hx (by omega) (pz (pl 1 rfl) (by omega)) (by omega) (by omega) ?_)
      refine X_imul (tk_X2_gripAt.at 77 rfl) ?_
      refine X_isub (tk_X2_gripAt.at 78 rfl) ?_
      refine X_max (tk_X2_gripAt.at 79 rfl) lk_x2_109 (Nat.le_of_ble_eq_true rfl) ?_
      refine X_ireturn (tk_X2_gripAt.at 80 rfl) rfl rfl ?_
      have hk1 : N (80 + 9 * rn) = 3 := by rw [wk.1, e104]; rfl
      refine Eq.mp (congrArg (fun z => K z S μ) ?_) hK
      unfold grp
      rw [hk1, ep, esp, ekn, es]
      exact gk3 _ _
    · refine X_tableInN (n := 4) (tgt := 181) (tk_X2_gripAt.at 56 rfl) (pz wk.1 e104) (by decide) (by decide) (by decide) rfl (by decide) ?_
      refine X_iload (tk_X2_gripAt.at 81 rfl) rfl ?_
      refine X_ireturn (tk_X2_gripAt.at 82 rfl) rfl rfl ?_
      have hk1 : N (80 + 9 * rn) = 4 := by rw [wk.1, e104]; rfl
      refine Eq.mp (congrArg (fun z => K z S μ) ?_) hK
      unfold grp
      rw [hk1, ep, esp, ekn, es]
      exact gk4f _ _ c1 (by omega)
    · refine X_tableInN (n := 5) (tgt := 184) (tk_X2_gripAt.at 56 rfl) (pz wk.1 e104) (by decide) (by decide) (by decide) rfl (by decide) ?_
      refine X_iload (tk_X2_gripAt.at 83 rfl) rfl ?_
      refine X_if_eq (tgt := 208) (tk_X2_gripAt.at 84 rfl) (by decide) (fun _ => ?_) (fun h => absurd h (by decide))
      refine X_iload (tk_X2_gripAt.at 95 rfl) rfl ?_
      refine X_ireturn (tk_X2_gripAt.at 96 rfl) rfl rfl ?_
      have hk1 : N (80 + 9 * rn) = 5 := by rw [wk.1, e104]; rfl
      refine Eq.mp (congrArg (fun z => K z S μ) ?_) hK
      unfold grp
      rw [hk1, ep, esp, ekn, es]
      exact gk5f _ _ c1 (by omega)
    · refine X_tableInN (n := 6) (tgt := 211) (tk_X2_gripAt.at 56 rfl) (pz wk.1 e104) (by decide) (by decide) (by decide) rfl (by decide) ?_
      refine X_iconst (tk_X2_gripAt.at 97 rfl) ci_0 ?_
      refine X_ireturn (tk_X2_gripAt.at 98 rfl) rfl rfl ?_
      have hk1 : N (80 + 9 * rn) = 6 := by rw [wk.1, e104]; rfl
      refine Eq.mp (congrArg (fun z => K z S μ) ?_) hK
      unfold grp
      rw [hk1]
      exact rfl
  · refine X_iconst (tk_X2_gripAt.at 21 rfl) ci_1 ?_
    refine X_goto (tgt := 46) (tk_X2_gripAt.at 22 rfl) (by decide) ?_
    refine X_istore (lv' := [(0, _), (1, _), (2, _), (3, _), (4, _), (5, _), (6, _), (7, _)]) (tk_X2_gripAt.at 24 rfl) (by decide) rfl rfl ?_
    refine X_iload_n (tk_X2_gripAt.at 25 rfl) rfl ?_
    refine X_if_neN (tgt := 56) (tk_X2_gripAt.at 26 rfl) (by decide) (pl j rfl) (by omega) (fun c5 => ?_) (fun c5 => (by exfalso; omega))
    refine X_iload (tk_X2_gripAt.at 29 rfl) rfl ?_
    refine X_iload_n (tk_X2_gripAt.at 30 rfl) rfl ?_
    refine X_idiv (tk_X2_gripAt.at 31 rfl) (nI_ne0 hj0 (by omega)) ?_
    refine X_istore (lv' := [(0, _), (1, _), (2, _), (3, _), (4, _), (5, _), (6, _), (7, _), (8, _)]) (tk_X2_gripAt.at 32 rfl) (by decide) rfl rfl ?_
    refine X_iload (tk_X2_gripAt.at 33 rfl) rfl ?_
    refine X_if_eq (tgt := 74) (tk_X2_gripAt.at 34 rfl) (by decide) (fun h => absurd h (by decide)) (fun _ => ?_)
    refine X_iconst (tk_X2_gripAt.at 35 rfl) ci_2 ?_
    refine X_iload (tk_X2_gripAt.at 36 rfl) rfl ?_
    refine X_imul (tk_X2_gripAt.at 37 rfl) ?_
    refine X_goto (tgt := 76) (tk_X2_gripAt.at 38 rfl) (by decide) ?_
    refine X_istore (lv' := [(0, _), (1, _), (2, _), (3, _), (4, _), (5, _), (6, _), (7, _), (8, _), (9, _)]) (tk_X2_gripAt.at 40 rfl) (by decide) rfl rfl ?_
    refine X_iload (tk_X2_gripAt.at 41 rfl) rfl ?_
    refine X_bipush (tk_X2_gripAt.at 42 rfl) cb_10 ?_
    refine X_aload_n (tk_X2_gripAt.at 43 rfl) rfl ?_
    refine X_getR (tk_X2_gripAt.at 44 rfl) fl_x2_42 hD.1 rfl rfl ?_
    refine X_iload_n (tk_X2_gripAt.at 45 rfl) rfl ?_
    refine X_iconst (tk_X2_gripAt.at 46 rfl) ci_2 ?_
    refine X_cV2i (lv2 := [(0, _), (1, _), (2, _)]) (tk_X2_gripAt.at 47 rfl) mv_X3_get lk_x2_105 np_X3_get hD.2.2.2.1.1 (by decide) rfl (Nat.le_of_ble_eq_true rfl) (Nat.le_of_ble_eq_true rfl) rfl (d_rg (k := 82 + 9 * rn) (p := rn) (c := 2) hD hw hr hx (by omega) (pz (pl 2 rfl) (by omega)) (by omega) (by omega) ?_)
    refine X_imul (tk_X2_gripAt.at 48 rfl) ?_
    refine X_iadd (tk_X2_gripAt.at 49 rfl) ?_
    refine X_istore (lv' := [(0, _), (1, _), (2, _), (3, _), (4, _), (5, _), (6, _), (7, _), (8, _), (9, _), (10, _)]) (tk_X2_gripAt.at 50 rfl) (by decide) rfl rfl ?_
    refine X_aload_n (tk_X2_gripAt.at 51 rfl) rfl ?_
    refine X_getR (tk_X2_gripAt.at 52 rfl) fl_x2_42 hD.1 rfl rfl ?_
    refine X_iload_n (tk_X2_gripAt.at 53 rfl) rfl ?_
    refine X_iconst (tk_X2_gripAt.at 54 rfl) ci_0 ?_
    refine X_cV2i (lv2 := [(0, _), (1, _), (2, _)]) (tk_X2_gripAt.at 55 rfl) mv_X3_get lk_x2_105 np_X3_get hD.2.2.2.1.1 (by decide) rfl (Nat.le_of_ble_eq_true rfl) (Nat.le_of_ble_eq_true rfl) rfl (d_rg (k := 80 + 9 * rn) (p := rn) (c := 0) hD hw hr hx (by omega) (pz (pl 0 rfl) (by omega)) (by omega) (by omega) ?_)
    rcases (show (nv (N (80 + 9 * rn))) = 0 ∨ (nv (N (80 + 9 * rn))) = 1 ∨ (nv (N (80 + 9 * rn))) = 2 ∨ (nv (N (80 + 9 * rn))) = 3 ∨ (nv (N (80 + 9 * rn))) = 4 ∨ (nv (N (80 + 9 * rn))) = 5 ∨ (nv (N (80 + 9 * rn))) = 6 from by omega) with e104 | e104 | e104 | e104 | e104 | e104 | e104
    · refine X_tableOutN (n := 0) (tgt := 213) (tk_X2_gripAt.at 56 rfl) (pz wk.1 e104) (by decide) (by decide) (by decide) ?_
      refine X_iload (tk_X2_gripAt.at 99 rfl) rfl ?_
      refine X_ireturn (tk_X2_gripAt.at 100 rfl) rfl rfl ?_
      have hk1 : N (80 + 9 * rn) = 0 := by rw [wk.1, e104]; rfl
      refine Eq.mp (congrArg (fun z => K z S μ) ?_) hK
      unfold grp
      rw [hk1, ep, esp, ekn, es]
      exact gk0 _ _ (by omega)
    · refine X_tableInN (n := 1) (tgt := 144) (tk_X2_gripAt.at 56 rfl) (pz wk.1 e104) (by decide) (by decide) (by decide) rfl (by decide) ?_
      refine X_iload (tk_X2_gripAt.at 57 rfl) rfl ?_
      refine X_iconst (tk_X2_gripAt.at 58 rfl) ci_5 ?_
      refine X_aload_n (tk_X2_gripAt.at 59 rfl) rfl ?_
      refine X_getR (tk_X2_gripAt.at 60 rfl) fl_x2_42 hD.1 rfl rfl ?_
      refine X_iload_n (tk_X2_gripAt.at 61 rfl) rfl ?_
      refine X_iconst (tk_X2_gripAt.at 62 rfl) ci_1 ?_
      refine X_cV2i (lv2 := [(0, _), (1, _), (2, _)]) (tk_X2_gripAt.at 63 rfl) mv_X3_get lk_x2_105 np_X3_get hD.2.2.2.1.1 (by decide) rfl (Nat.le_of_ble_eq_true rfl) (Nat.le_of_ble_eq_true rfl) rfl (d_rg (k := 81 + 9 * rn) (p := rn) (c := 1) hD hw hr hx (by omega) (pz (pl 1 rfl) (by omega)) (by omega) (by omega) ?_)
      refine X_imul (tk_X2_gripAt.at 64 rfl) ?_
      refine X_iadd (tk_X2_gripAt.at 65 rfl) ?_
      refine X_ireturn (tk_X2_gripAt.at 66 rfl) rfl rfl ?_
      have hk1 : N (80 + 9 * rn) = 1 := by rw [wk.1, e104]; rfl
      refine Eq.mp (congrArg (fun z => K z S μ) ?_) hK
      unfold grp
      rw [hk1, ep, esp, ekn, es]
      exact gk1 _ _ (by omega)
    · refine X_tableInN (n := 2) (tgt := 159) (tk_X2_gripAt.at 56 rfl) (pz wk.1 e104) (by decide) (by decide) (by decide) rfl (by decide) ?_
      refine X_iload (tk_X2_gripAt.at 67 rfl) rfl ?_
      refine X_ireturn (tk_X2_gripAt.at 68 rfl) rfl rfl ?_
      have hk1 : N (80 + 9 * rn) = 2 := by rw [wk.1, e104]; rfl
      refine Eq.mp (congrArg (fun z => K z S μ) ?_) hK
      unfold grp
      rw [hk1, ep, esp, ekn, es]
      exact gk2 _ _ (by omega)
    · refine X_tableInN (n := 3) (tgt := 162) (tk_X2_gripAt.at 56 rfl) (pz wk.1 e104) (by decide) (by decide) (by decide) rfl (by decide) ?_
      refine X_iconst (tk_X2_gripAt.at 69 rfl) ci_0 ?_
      refine X_iload (tk_X2_gripAt.at 70 rfl) rfl ?_
      refine X_iconst (tk_X2_gripAt.at 71 rfl) ci_2 ?_
      refine X_aload_n (tk_X2_gripAt.at 72 rfl) rfl ?_
      refine X_getR (tk_X2_gripAt.at 73 rfl) fl_x2_42 hD.1 rfl rfl ?_
      refine X_iload_n (tk_X2_gripAt.at 74 rfl) rfl ?_
      refine X_iconst (tk_X2_gripAt.at 75 rfl) ci_1 ?_
      refine X_cV2i (lv2 := [(0, _), (1, _), (2, _)]) (tk_X2_gripAt.at 76 rfl) mv_X3_get lk_x2_105 np_X3_get hD.2.2.2.1.1 (by decide) rfl (Nat.le_of_ble_eq_true rfl) (Nat.le_of_ble_eq_true rfl) rfl (d_rg (k := 81 + 9 * rn) (p := rn) (c := 1) hD hw hr hx (by omega) (pz (pl 1 rfl) (by omega)) (by omega) (by omega) ?_)
      refine X_imul (tk_X2_gripAt.at 77 rfl) ?_
      refine X_isub (tk_X2_gripAt.at 78 rfl) ?_
      refine X_max (tk_X2_gripAt.at 79 rfl) lk_x2_109 (Nat.le_of_ble_eq_true rfl) ?_
      refine X_ireturn (tk_X2_gripAt.at 80 rfl) rfl rfl ?_
      have hk1 : N (80 + 9 * rn) = 3 := by rw [wk.1, e104]; rfl
      refine Eq.mp (congrArg (fun z => K z S μ) ?_) hK
      unfold grp
      rw [hk1, ep, esp, ekn, es]
      exact gk3 _ _
    · refine X_tableInN (n := 4) (tgt := 181) (tk_X2_gripAt.at 56 rfl) (pz wk.1 e104) (by decide) (by decide) (by decide) rfl (by decide) ?_
      refine X_iload (tk_X2_gripAt.at 81 rfl) rfl ?_
      refine X_ireturn (tk_X2_gripAt.at 82 rfl) rfl rfl ?_
      have hk1 : N (80 + 9 * rn) = 4 := by rw [wk.1, e104]; rfl
      refine Eq.mp (congrArg (fun z => K z S μ) ?_) hK
      unfold grp
      rw [hk1, ep, esp, ekn, es]
      exact gk4t _ _ c1 (by omega)
    · refine X_tableInN (n := 5) (tgt := 184) (tk_X2_gripAt.at 56 rfl) (pz wk.1 e104) (by decide) (by decide) (by decide) rfl (by decide) ?_
      refine X_iload (tk_X2_gripAt.at 83 rfl) rfl ?_
      refine X_if_eq (tgt := 208) (tk_X2_gripAt.at 84 rfl) (by decide) (fun h => absurd h (by decide)) (fun _ => ?_)
      refine X_iload_n (tk_X2_gripAt.at 85 rfl) rfl ?_
      refine X_aload (tk_X2_gripAt.at 86 rfl) rfl ?_
      refine X_cV0i (lv2 := [(0, _)]) (tk_X2_gripAt.at 87 rfl) mv_X6_size lk_x2_101 np_X6_size (hD.2.2.2.2.2.2.2.2.2.2.2 rn (by omega)).1 (by decide) rfl (Nat.le_of_ble_eq_true rfl) (Nat.le_of_ble_eq_true rfl) rfl (d_rsz hD hw hr (by omega) ?_)
      refine X_iconst (tk_X2_gripAt.at 88 rfl) ci_1 ?_
      refine X_isub (tk_X2_gripAt.at 89 rfl) ?_
      refine X_icmp_neN (tgt := 208) (tk_X2_gripAt.at 90 rfl) (by decide) hy (ps (pl (mny N rn) rfl) (pl 1 rfl) (by omega)) (by omega) (by omega) (fun c8 => ?_) (fun c8 => ?_)
      · refine X_iload (tk_X2_gripAt.at 95 rfl) rfl ?_
        refine X_ireturn (tk_X2_gripAt.at 96 rfl) rfl rfl ?_
        have hk1 : N (80 + 9 * rn) = 5 := by rw [wk.1, e104]; rfl
        refine Eq.mp (congrArg (fun z => K z S μ) ?_) hK
        unfold grp
        rw [hk1, ep, esp, ekn, es]
        exact gk5u _ _ c1 (by rw [decide_eq_true_iff]; omega) (by omega)
      · refine X_iload (tk_X2_gripAt.at 91 rfl) rfl ?_
        refine X_iload (tk_X2_gripAt.at 92 rfl) rfl ?_
        refine X_iadd (tk_X2_gripAt.at 93 rfl) ?_
        refine X_goto (tgt := 210) (tk_X2_gripAt.at 94 rfl) (by decide) ?_
        refine X_ireturn (tk_X2_gripAt.at 96 rfl) rfl rfl ?_
        have hk1 : N (80 + 9 * rn) = 5 := by rw [wk.1, e104]; rfl
        refine Eq.mp (congrArg (fun z => K z S μ) ?_) hK
        unfold grp
        rw [hk1, ep, esp, ekn, es]
        exact gk5t _ _ c1 (decide_eq_true (by omega)) (by omega)
    · refine X_tableInN (n := 6) (tgt := 211) (tk_X2_gripAt.at 56 rfl) (pz wk.1 e104) (by decide) (by decide) (by decide) rfl (by decide) ?_
      refine X_iconst (tk_X2_gripAt.at 97 rfl) ci_0 ?_
      refine X_ireturn (tk_X2_gripAt.at 98 rfl) rfl rfl ?_
      have hk1 : N (80 + 9 * rn) = 6 := by rw [wk.1, e104]; rfl
      refine Eq.mp (congrArg (fun z => K z S μ) ?_) hK
      unfold grp
      rw [hk1]
      exact rfl
set_option maxHeartbeats 1000000 in
theorem c2_holdAt {G : Gl} {d : Nat} {S : Sh} {μ : Mu} {D : Nat} {N : Nat → Int32} {x y : Int32} {rn f : Nat} {K : Int32 → Sh → Mu → Prop} (hD : DS G S D) (hw : WF N) (hr : repD μ D N) (hx : x = nI rn) (h3 : rn < nv (N 3)) (hy : y = nI f) (hf : f < mny N rn) (hK : K (hs N 0 rn f (mny N rn)) S μ) : X G mi_X2_holdAt (d + 2) 0 0 [(0, .ref D), (1, .int x), (2, .int y)] [] S μ (qi K) := by
  subst hy
  have b1 := hw.n1.2
  have b2 := hw.n2.2
  have b3 := hw.n3.2
  have b4 := hw.n4.2
  have bm := hw.mb h3
  have loop : ∀ (m i : Nat), i + m = mny N rn → X G mi_X2_holdAt (d + 2) 0 15 [(0, .ref D), (1, .int x), (2, .int (nI f)), (3, .int (nI (mny N rn))), (4, .int (hs N 0 rn f i)), (5, .int (nI i))] [] S μ (qi K) := by
    intro m
    induction m with
    | zero =>
      intro i hm
      have e : i = mny N rn := by omega
      refine X_iload (tk_X2_holdAt.at 9 rfl) rfl ?_
      refine X_iload_n (tk_X2_holdAt.at 10 rfl) rfl ?_
      refine X_icmp_geN (tgt := 52) (tk_X2_holdAt.at 11 rfl) (by decide) (pl i rfl) (pl (mny N rn) rfl) (by omega) (by omega) (fun c1 => ?_) (fun c1 => (by exfalso; omega))
      refine X_iload (tk_X2_holdAt.at 28 rfl) rfl ?_
      refine X_ireturn (tk_X2_holdAt.at 29 rfl) rfl rfl ?_
      rw [e]
      exact hK
    | succ m ih =>
      intro i hm
      have z := ih (i + 1) (by omega)
      rw [hs_s, pcnt0, pcnt0, lastb0 (show i < mny N rn by omega)] at z
      refine X_iload (tk_X2_holdAt.at 9 rfl) rfl ?_
      refine X_iload_n (tk_X2_holdAt.at 10 rfl) rfl ?_
      refine X_icmp_geN (tgt := 52) (tk_X2_holdAt.at 11 rfl) (by decide) (pl i rfl) (pl (mny N rn) rfl) (by omega) (by omega) (fun c1 => (by exfalso; omega)) (fun c1 => ?_)
      refine X_iload (tk_X2_holdAt.at 12 rfl) rfl ?_
      refine X_iload_n (tk_X2_holdAt.at 13 rfl) rfl ?_
      refine X_icmp_eqN (tgt := 46) (tk_X2_holdAt.at 14 rfl) (by decide) (pl i rfl) (pl f rfl) (by omega) (by omega) (fun c2 => ?_) (fun c2 => ?_)
      · refine X_iinc (lv' := [(0, _), (1, _), (2, _), (3, _), (4, _), (5, _)]) (tk_X2_holdAt.at 26 rfl) rfl ci_1 (by decide) rfl rfl ?_
        refine X_goto (tgt := 15) (tk_X2_holdAt.at 27 rfl) (by decide) ?_
        rw [if_pos (Or.inl c2), Int32.add_zero] at z
        rw [nI_1 i]
        exact z
      · refine X_iload (tk_X2_holdAt.at 15 rfl) rfl ?_
        refine X_aload_n (tk_X2_holdAt.at 16 rfl) rfl ?_
        refine X_iload_n (tk_X2_holdAt.at 17 rfl) rfl ?_
        refine X_iload (tk_X2_holdAt.at 18 rfl) rfl ?_
        refine X_iload (tk_X2_holdAt.at 19 rfl) rfl ?_
        refine X_iload_n (tk_X2_holdAt.at 20 rfl) rfl ?_
        refine X_isub (tk_X2_holdAt.at 21 rfl) ?_
        refine X_abs (tk_X2_holdAt.at 22 rfl) lk_x2_114 (Nat.le_of_ble_eq_true rfl) ?_
        rw [abs_nI (a := i) (b := f) (by omega) (by omega)]
        refine X_cV3i (lv2 := [(0, _), (1, _), (2, _), (3, _)]) (tk_X2_holdAt.at 23 rfl) mv_X2_gripAt lk_x2_117 np_X2_gripAt hD.1 (by decide) rfl (Nat.le_of_ble_eq_true rfl) (Nat.le_of_ble_eq_true rfl) rfl (c2_gripAt (rn := rn) (a := i) (j := (adf i f)) hD hw hr hx (by omega) (pz (pl i rfl) (by omega)) (by omega) (pz (pl (adf i f) rfl) (by omega)) (by unfold adf; split <;> omega) (by unfold adf; split <;> omega) ?_)
        refine X_iadd (tk_X2_holdAt.at 24 rfl) ?_
        refine X_istore (lv' := [(0, _), (1, _), (2, _), (3, _), (4, _), (5, _)]) (tk_X2_holdAt.at 25 rfl) (by decide) rfl rfl ?_
        refine X_iinc (lv' := [(0, _), (1, _), (2, _), (3, _), (4, _), (5, _)]) (tk_X2_holdAt.at 26 rfl) rfl ci_1 (by decide) rfl rfl ?_
        refine X_goto (tgt := 15) (tk_X2_holdAt.at 27 rfl) (by decide) ?_
        rw [if_neg (fun h => h.elim c2 (lb0 _))] at z
        rw [nI_1 i]
        exact z
  refine X_aload_n (tk_X2_holdAt.at 0 rfl) rfl ?_
  refine X_iload_n (tk_X2_holdAt.at 1 rfl) rfl ?_
  refine X_cV1r (lv2 := [(0, _), (1, _)]) (tk_X2_holdAt.at 2 rfl) mv_X2_rowOf lk_x2_87 np_X2_rowOf hD.1 (by decide) rfl (Nat.le_of_ble_eq_true rfl) (Nat.le_of_ble_eq_true rfl) rfl (d_rowOf (r := rn) hD hw hr hx (by omega) ?_)
  refine X_cV0i (lv2 := [(0, _)]) (tk_X2_holdAt.at 3 rfl) mv_X6_size lk_x2_101 np_X6_size (hD.2.2.2.2.2.2.2.2.2.2.2 rn (by omega)).1 (by decide) rfl (Nat.le_of_ble_eq_true rfl) (Nat.le_of_ble_eq_true rfl) rfl (d_rsz hD hw hr (by omega) ?_)
  refine X_istore_n (lv' := [(0, _), (1, _), (2, _), (3, _)]) (tk_X2_holdAt.at 4 rfl) (by decide) rfl rfl ?_
  refine X_iconst (tk_X2_holdAt.at 5 rfl) ci_0 ?_
  refine X_istore (lv' := [(0, _), (1, _), (2, _), (3, _), (4, _)]) (tk_X2_holdAt.at 6 rfl) (by decide) rfl rfl ?_
  refine X_iconst (tk_X2_holdAt.at 7 rfl) ci_0 ?_
  refine X_istore (lv' := [(0, _), (1, _), (2, _), (3, _), (4, _), (5, _)]) (tk_X2_holdAt.at 8 rfl) (by decide) rfl rfl ?_
  exact loop _ 0 (Nat.zero_add _)
set_option maxHeartbeats 1000000 in
theorem c2_isHeld {G : Gl} {d : Nat} {S : Sh} {μ : Mu} {D : Nat} {N : Nat → Int32} {x y z : Int32} {rn f c : Nat} {K : Int32 → Sh → Mu → Prop} (hD : DS G S D) (hw : WF N) (hr : repD μ D N) (hx : x = nI rn) (h3 : rn < nv (N 3)) (hy : y = nI f) (hf : f < mny N rn) (hz : z = nI c) (hc : c < nv (N 2)) (kt : pull N (nv (N (84 + 9 * rn + f))) c ≤ hs N 0 rn f (mny N rn) → K 1 S μ) (kf : ¬ pull N (nv (N (84 + 9 * rn + f))) c ≤ hs N 0 rn f (mny N rn) → K 0 S μ) : X G mi_X2_isHeld (d + 3) 0 0 [(0, .ref D), (1, .int x), (2, .int y), (3, .int z)] [] S μ (qi K) := by
  have b1 := hw.n1.2
  have b2 := hw.n2.2
  have b3 := hw.n3.2
  have b4 := hw.n4.2
  have bm := hw.mb h3
  have wp := hw.wh h3 hf
  have bp := wp.2
  refine X_aload_n (tk_X2_isHeld.at 0 rfl) rfl ?_
  refine X_iload_n (tk_X2_isHeld.at 1 rfl) rfl ?_
  refine X_iload_n (tk_X2_isHeld.at 2 rfl) rfl ?_
  refine X_cV2i (lv2 := [(0, _), (1, _), (2, _)]) (tk_X2_isHeld.at 3 rfl) mv_X2_holdAt lk_x2_121 np_X2_holdAt hD.1 (by decide) rfl (Nat.le_of_ble_eq_true rfl) (Nat.le_of_ble_eq_true rfl) rfl (c2_holdAt (rn := rn) (f := f) hD hw hr hx (by omega) hy (by omega) ?_)
  refine X_aload_n (tk_X2_isHeld.at 4 rfl) rfl ?_
  refine X_aload_n (tk_X2_isHeld.at 5 rfl) rfl ?_
  refine X_iload_n (tk_X2_isHeld.at 6 rfl) rfl ?_
  refine X_cV1r (lv2 := [(0, _), (1, _)]) (tk_X2_isHeld.at 7 rfl) mv_X2_rowOf lk_x2_87 np_X2_rowOf hD.1 (by decide) rfl (Nat.le_of_ble_eq_true rfl) (Nat.le_of_ble_eq_true rfl) rfl (d_rowOf (r := rn) hD hw hr hx (by omega) ?_)
  refine X_iload_n (tk_X2_isHeld.at 8 rfl) rfl ?_
  refine X_cV1i (lv2 := [(0, _), (1, _)]) (tk_X2_isHeld.at 9 rfl) mv_X6_at lk_x2_98 np_X6_at (hD.2.2.2.2.2.2.2.2.2.2.2 rn (by omega)).1 (by decide) rfl (Nat.le_of_ble_eq_true rfl) (Nat.le_of_ble_eq_true rfl) rfl (d_rat (k := 84 + 9 * rn + f) (i := f) hD hw hr (by omega) hy (by omega) (by omega) ?_)
  refine X_iload_n (tk_X2_isHeld.at 10 rfl) rfl ?_
  refine X_cV2i (lv2 := [(0, _), (1, _), (2, _)]) (tk_X2_isHeld.at 11 rfl) mv_X2_pullOf lk_x2_124 np_X2_pullOf hD.1 (by decide) rfl (Nat.le_of_ble_eq_true rfl) (Nat.le_of_ble_eq_true rfl) rfl (c2_pullOf (p := (nv (N (84 + 9 * rn + f)))) (c := c) hD hw hr (pz wp.1 (by omega)) (by omega) hz (by omega) ?_)
  refine X_icmp_lt (tgt := 27) (tk_X2_isHeld.at 12 rfl) (by decide) (fun c1 => ?_) (fun c1 => ?_)
  · refine X_iconst (tk_X2_isHeld.at 15 rfl) ci_0 ?_
    refine X_ireturn (tk_X2_isHeld.at 16 rfl) rfl rfl ?_
    exact kf (Int32.not_le.mpr c1)
  · refine X_iconst (tk_X2_isHeld.at 13 rfl) ci_1 ?_
    refine X_goto (tgt := 28) (tk_X2_isHeld.at 14 rfl) (by decide) ?_
    refine X_ireturn (tk_X2_isHeld.at 16 rfl) rfl rfl ?_
    exact kt (Int32.not_lt.mp c1)
