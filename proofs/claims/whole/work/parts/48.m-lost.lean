/-- as Sq, but for the lost -/
def Sl (o : Nat) (μ ν : Mu) : Prop := (∀ a, (a < o ∨ o + 18 ≤ a ∨ a = o + 2 ∨ a = o + 4 ∨ a = o + 13 ∨ a = o + 14 ∨ a = o + 15 ∨ a = o + 16) → ν a = μ a) ∧ ν o 3 = μ o 3 ∧ ν o 22 = μ o 22
theorem Sl.tr {o : Nat} {μ ν ξ : Mu} (h : Sl o μ ν) (g : Sl o ν ξ) : Sl o μ ξ := ⟨fun a e => (g.1 a e).trans (h.1 a e), g.2.1.trans h.2.1, g.2.2.trans h.2.2⟩
theorem Sq.sl {o : Nat} {μ ν : Mu} (h : Sq o μ ν) : Sl o μ ν := ⟨h.1, h.2.1, h.2.2.2⟩
theorem Sl.su5 (o : Nat) (ν : Mu) (x : Int32) : Sl o ν (su ν o 5 x) := by
  refine ⟨fun b e => su_ne (by omega), ?_, ?_⟩ <;> rw [su_same, upd_ne _ _ (by omega)]
theorem Sl.mx1 (o : Nat) (ν : Mu) (f : Nat → Int32) : Sl o ν (Mx ν (o + 1) f) := ((Sq.rf o ν).mx f (by omega)).sl
def Lst (o : Nat) (μ : Mu) (N cm bf : Nat → Int32) (ν : Mu) (s : Dl) : Prop := Sl o μ ν ∧ ν (o + 1) = upd N 7 s.1 ∧ ν o 5 = s.2 ∧ ν (o + 9) = cm ∧ ν (o + 10) = bf
theorem los_7 (N : Nat → Int32) (z : Int32) (r i : Nat) : ∀ k L, los (upd N 7 z) r i k L = los N r i k L
  | 0, _ => rfl
  | k + 1, L => by
    rw [los, los, los_7 N z r i k L, upd_ne _ _ (show 80 + 9 * r ≠ 7 by omega), upd_ne _ _ (show 84 + 9 * r + k ≠ 7 by omega)]
theorem stp_l {N : Nat → Int32} {k c i : Nat} {s : Dl} (h : lb s.2 (N (84 + 9 * lnA N k + i))) : stp N k c i s = s := if_pos h
theorem stp_n {N : Nat → Int32} {k c i : Nat} {s : Dl} (h : ¬ lb s.2 (N (84 + 9 * lnA N k + i))) (g : ¬ (rd (nz s.1) < nI (rkc N k i c) ∧ ¬ pull N (nv (N (84 + 9 * lnA N k + i))) c ≤ hs N s.2 (lnA N k) i (mny N (lnA N k)))) : stp N k c i s = (nz s.1, s.2) := by
  unfold stp
  rw [if_neg h, if_neg g]
theorem stp_y {N : Nat → Int32} {k c i : Nat} {s : Dl} (h : ¬ lb s.2 (N (84 + 9 * lnA N k + i))) (g : rd (nz s.1) < nI (rkc N k i c) ∧ ¬ pull N (nv (N (84 + 9 * lnA N k + i))) c ≤ hs N s.2 (lnA N k) i (mny N (lnA N k))) : stp N k c i s = (nz s.1, los N (lnA N k) i (mny N (lnA N k)) s.2) := by
  unfold stp
  rw [if_neg h, if_pos g]
set_option maxHeartbeats 1000000 in
theorem c10_lostBy {G : Gl} {d : Nat} {S : Sh} {μ : Mu} {o : Nat} {q : Nat → Nat} {N : Nat → Int32} {K : Int32 → Sh → Mu → Prop} (hM : MS S o q) (hN : μ (o + 1) = N) (hl0 : μ o 5 = 0) (hw : WF N) (hK : ∀ ν, Sq o μ ν → ν (o + 1) = upd N 7 ((l1 N (nv (N 4)) (N 7, 0)).1) → K (l1 N (nv (N 4)) (N 7, 0)).2 S ν) : X G mi_X10_lostBy (d + 6) 0 0 [(0, .ref o)] [] S μ (qi K) := by
  have b1 := hw.n1.2
  have b2 := hw.n2.2
  have b3 := hw.n3.2
  have b4 := hw.n4.2
  refine X_aload_n (tk_X10_lostBy.at 0 rfl) rfl ?_
  refine X_cV0v (lv2 := [(0, _)]) (tk_X10_lostBy.at 1 rfl) mv_X10_cross lk_x10_255 np_X10_cross hM.f0 (by decide) rfl (Nat.le_of_ble_eq_true rfl) (Nat.le_of_ble_eq_true rfl) rfl (c10_cross hM hN hw (fun cm bf hI => ?_))
  have outer : ∀ (n k : Nat) (ν : Mu) (rest : List (Nat × Value)), k + n = nv (N 4) → Lst o μ N cm bf ν (l1 N k (N 7, 0)) → X G mi_X10_lostBy (d + 6) 0 6 ([(0, .ref o), (1, .int (nI k))] ++ rest) [] S ν (qi K) := by
    intro n
    induction n with
    | zero =>
      intro k ν rest hk hL
      refine X_lvp [0, 1] (lv' := [(0, _), (1, _)]) rfl ?_
      have ek : k = nv (N 4) := by omega
      refine X_iload_n (tk_X10_lostBy.at 4 rfl) rfl ?_
      refine X_aload_n (tk_X10_lostBy.at 5 rfl) rfl ?_
      refine X_getR (tk_X10_lostBy.at 6 rfl) fl_x10_9 hM.f0 rfl rfl ?_
      refine X_iconst (tk_X10_lostBy.at 7 rfl) ci_4 ?_
      refine X_ialdN (k := 4) (tk_X10_lostBy.at 8 rfl) hM.f1 (pz (pl 4 rfl) (by omega)) (by omega) (by decide) ?_
      refine X_icmp_geN (tgt := 135) (tk_X10_lostBy.at 9 rfl) (by decide) (pl k rfl) (show ν (o + 1) 4 = _ by rw [hL.2.1, upd_ne _ _ (by omega)]; exact hw.n4.1) (by omega) (by omega) (fun c1 => ?_) (fun c1 => (by exfalso; omega))
      refine X_aload_n (tk_X10_lostBy.at 71 rfl) rfl ?_
      refine X_getI (tk_X10_lostBy.at 72 rfl) fl_x10_146 hM.f0 rfl ?_
      refine X_istore_n (lv' := [(0, _), (1, _)]) (tk_X10_lostBy.at 73 rfl) (by decide) rfl rfl ?_
      refine X_aload_n (tk_X10_lostBy.at 74 rfl) rfl ?_
      refine X_iconst (tk_X10_lostBy.at 75 rfl) ci_0 ?_
      refine X_putI (tk_X10_lostBy.at 76 rfl) fl_x10_146 hM.f0 rfl rfl ⟨rfl, rfl⟩ ?_
      refine X_iload_n (tk_X10_lostBy.at 77 rfl) rfl ?_
      refine X_ireturn (tk_X10_lostBy.at 78 rfl) rfl rfl ?_
      rw [show ν o 5 = (l1 N (nv (N 4)) (N 7, 0)).2 from by rw [hL.2.2.1, ek]]
      exact hK (su ν o 5 0) ⟨fun a e => by rw [su_ne (by omega)]; exact hL.1.1 a e, by rw [su_same, upd_ne _ _ (by omega)]; exact hL.1.2.1, by rw [su_same, upd_at]; exact hl0.symm, by rw [su_same, upd_ne _ _ (by omega)]; exact hL.1.2.2⟩ (by rw [su_ne (by omega), hL.2.1, ek])
    | succ n ih =>
      intro k ν rest hk hL
      refine X_lvp [0, 1] (lv' := [(0, _), (1, _)]) rfl ?_
      have hkl : k < nv (N 4) := by omega
      have wl := hw.li hkl
      have wr := hw.ro wl.2
      have bl : lnA N k < nv (N 3) := wl.2
      have hm : N (83 + 9 * lnA N k) = nI (mny N (lnA N k)) := wr.2.2.2.1.1
      have bm : mny N (lnA N k) ≤ 5 := wr.2.2.2.1.2
      have mid : ∀ (m c : Nat) (ν : Mu) (rest : List (Nat × Value)), c + m = nv (N 2) → Lst o μ N cm bf ν (l2 N k c (l1 N k (N 7, 0))) → X G mi_X10_lostBy (d + 6) 0 29 ([(0, .ref o), (1, .int (nI k)), (2, .int (nI (lnA N k))), (3, .int (nI c))] ++ rest) [] S ν (qi K) := by
        intro m
        induction m with
        | zero =>
          intro c ν rest hc hL
          refine X_lvp [0, 1, 2, 3] (lv' := [(0, _), (1, _), (2, _), (3, _)]) rfl ?_
          have ec : c = nv (N 2) := by omega
          refine X_iload_n (tk_X10_lostBy.at 19 rfl) rfl ?_
          refine X_aload_n (tk_X10_lostBy.at 20 rfl) rfl ?_
          refine X_getR (tk_X10_lostBy.at 21 rfl) fl_x10_9 hM.f0 rfl rfl ?_
          refine X_iconst (tk_X10_lostBy.at 22 rfl) ci_2 ?_
          refine X_ialdN (k := 2) (tk_X10_lostBy.at 23 rfl) hM.f1 (pz (pl 2 rfl) (by omega)) (by omega) (by decide) ?_
          refine X_icmp_geN (tgt := 129) (tk_X10_lostBy.at 24 rfl) (by decide) (pl c rfl) (show ν (o + 1) 2 = _ by rw [hL.2.1, upd_ne _ _ (by omega)]; exact hw.n2.1) (by omega) (by omega) (fun c1 => ?_) (fun c1 => (by exfalso; omega))
          refine X_iinc (lv' := [(0, _), (1, _), (2, _), (3, _)]) (tk_X10_lostBy.at 69 rfl) rfl ci_1 (by decide) rfl rfl ?_
          refine X_goto (tgt := 6) (tk_X10_lostBy.at 70 rfl) (by decide) ?_
          rw [nI_1 k]
          refine ih (k + 1) ν [(2, _), (3, _)] (by omega) ?_
          rw [ec] at hL
          exact hL
        | succ m ihm =>
          intro c ν rest hc hL
          refine X_lvp [0, 1, 2, 3] (lv' := [(0, _), (1, _), (2, _), (3, _)]) rfl ?_
          have inn : ∀ (w i : Nat) (ν : Mu) (rest : List (Nat × Value)), i + w = (mny N (lnA N k)) → Lst o μ N cm bf ν (l3 N k c i (l2 N k c (l1 N k (N 7, 0)))) → X G mi_X10_lostBy (d + 6) 0 42 ([(0, .ref o), (1, .int (nI k)), (2, .int (nI (lnA N k))), (3, .int (nI c)), (4, .int (nI i))] ++ rest) [] S ν (qi K) := by
            intro w
            induction w with
            | zero =>
              intro i ν rest hi hL
              refine X_lvp [0, 1, 2, 3, 4] (lv' := [(0, _), (1, _), (2, _), (3, _), (4, _)]) rfl ?_
              have ei : i = (mny N (lnA N k)) := by omega
              refine X_iload (tk_X10_lostBy.at 27 rfl) rfl ?_
              refine X_aload_n (tk_X10_lostBy.at 28 rfl) rfl ?_
              refine X_iload_n (tk_X10_lostBy.at 29 rfl) rfl ?_
              refine X_cV1i (lv2 := [(0, _), (1, _)]) (tk_X10_lostBy.at 30 rfl) mv_X10_many lk_x10_118 np_X10_many hM.f0 (by decide) rfl (Nat.le_of_ble_eq_true rfl) (Nat.le_of_ble_eq_true rfl) rfl (c10_many hM (pl (lnA N k) rfl) (by omega) ?_)
              refine X_icmp_geN (tgt := 123) (tk_X10_lostBy.at 31 rfl) (by decide) (pl i rfl) (show ν (o + 1) (83 + 9 * (lnA N k)) = _ by rw [hL.2.1, upd_ne _ _ (by omega)]; exact hm) (by omega) (by omega) (fun c1 => ?_) (fun c1 => (by exfalso; omega))
              refine X_iinc (lv' := [(0, _), (1, _), (2, _), (3, _), (4, _)]) (tk_X10_lostBy.at 67 rfl) rfl ci_1 (by decide) rfl rfl ?_
              refine X_goto (tgt := 29) (tk_X10_lostBy.at 68 rfl) (by decide) ?_
              rw [nI_1 c]
              refine ihm (c + 1) ν [(4, _)] (by omega) ?_
              rw [ei] at hL
              exact hL
            | succ w ihw =>
              intro i ν rest hi hL
              refine X_lvp [0, 1, 2, 3, 4] (lv' := [(0, _), (1, _), (2, _), (3, _), (4, _)]) rfl ?_
              refine X_iload (tk_X10_lostBy.at 27 rfl) rfl ?_
              refine X_aload_n (tk_X10_lostBy.at 28 rfl) rfl ?_
              refine X_iload_n (tk_X10_lostBy.at 29 rfl) rfl ?_
              refine X_cV1i (lv2 := [(0, _), (1, _)]) (tk_X10_lostBy.at 30 rfl) mv_X10_many lk_x10_118 np_X10_many hM.f0 (by decide) rfl (Nat.le_of_ble_eq_true rfl) (Nat.le_of_ble_eq_true rfl) rfl (c10_many hM (pl (lnA N k) rfl) (by omega) ?_)
              refine X_icmp_geN (tgt := 123) (tk_X10_lostBy.at 31 rfl) (by decide) (pl i rfl) (show ν (o + 1) (83 + 9 * (lnA N k)) = _ by rw [hL.2.1, upd_ne _ _ (by omega)]; exact hm) (by omega) (by omega) (fun c1 => (by exfalso; omega)) (fun c1 => ?_)
              have zt := fun (ν : Mu) (v5 : Value) hq => ihw (i + 1) ν [(5, v5)] (by omega) (show Lst o μ N cm bf ν (stp N k c i (l3 N k c i (l2 N k c (l1 N k (N 7, 0))))) from hq)
              generalize (l3 N k c i (l2 N k c (l1 N k (N 7, 0)))) = s at hL zt
              obtain ⟨hsl, h1, h5, h9, h10⟩ := hL
              have ew : ν (o + 1) (84 + 9 * lnA N k + i) = N (84 + 9 * lnA N k + i) := by rw [h1, upd_ne _ _ (by omega)]
              refine X_aload_n (tk_X10_lostBy.at 32 rfl) rfl ?_
              refine X_getI (tk_X10_lostBy.at 33 rfl) fl_x10_146 hM.f0 rfl ?_
              refine X_aload_n (tk_X10_lostBy.at 34 rfl) rfl ?_
              refine X_iload_n (tk_X10_lostBy.at 35 rfl) rfl ?_
              refine X_iload (tk_X10_lostBy.at 36 rfl) rfl ?_
              refine X_cV2i (lv2 := [(0, _), (1, _), (2, _)]) (tk_X10_lostBy.at 37 rfl) mv_X10_who lk_x10_121 np_X10_who hM.f0 (by decide) rfl (Nat.le_of_ble_eq_true rfl) (Nat.le_of_ble_eq_true rfl) rfl (c10_who hM (pl (lnA N k) rfl) (pl i rfl) (by omega) (by omega) ?_)
              rw [ew, h5]
              refine X_cS2i (lv2 := [(0, _), (1, _)]) (tk_X10_lostBy.at 38 rfl) ms_X10_has lk_x10_150 np_X10_has (Nat.le_of_ble_eq_true rfl) (Nat.le_of_ble_eq_true rfl) rfl (c10_has (fun hlb => ?_) (fun hlb => ?_))
              · refine X_if_ne (tgt := 91) (tk_X10_lostBy.at 39 rfl) (by decide) (fun _ => ?_) (fun h => absurd h (by decide))
                refine X_iconst (tk_X10_lostBy.at 51 rfl) ci_0 ?_
                refine X_istore (lv' := [(0, _), (1, _), (2, _), (3, _), (4, _), (5, _)]) (tk_X10_lostBy.at 52 rfl) (by decide) rfl rfl ?_
                refine X_iload (tk_X10_lostBy.at 53 rfl) rfl ?_
                refine X_if_eq (tgt := 117) (tk_X10_lostBy.at 54 rfl) (by decide) (fun _ => ?_) (fun h => absurd h (by decide))
                refine X_iinc (lv' := [(0, _), (1, _), (2, _), (3, _), (4, _), (5, _)]) (tk_X10_lostBy.at 65 rfl) rfl ci_1 (by decide) rfl rfl ?_
                refine X_goto (tgt := 42) (tk_X10_lostBy.at 66 rfl) (by decide) ?_
                rw [nI_1 i]
                refine zt ν _ ?_
                rw [stp_l hlb]
                exact ⟨hsl, h1, h5, h9, h10⟩
              · have eq7 := Eqv7 hw (nz s.1)
                have wM : WF (upd N 7 (nz s.1)) := WF_u7 hw _
                have eLk : lnA (upd N 7 (nz s.1)) k = lnA N k := lnA_e hw eq7
                have hCr := CrI_e hw eq7 hI
                refine X_if_ne (tgt := 91) (tk_X10_lostBy.at 39 rfl) (by decide) (fun h => absurd h (by decide)) (fun _ => ?_)
                refine X_aload_n (tk_X10_lostBy.at 40 rfl) rfl ?_
                refine X_sipush (tk_X10_lostBy.at 41 rfl) cs_1000 ?_
                refine X_cV1i (lv2 := [(0, _), (1, _)]) (tk_X10_lostBy.at 42 rfl) mv_X10_drawn lk_x10_298 np_X10_drawn hM.f0 (by decide) rfl (Nat.le_of_ble_eq_true rfl) (Nat.le_of_ble_eq_true rfl) rfl (c10_drawn hM rfl ?_)
                rw [show ν (o + 1) 7 = s.1 from by rw [h1]; exact upd_at _ _ _, su_eq, h1, upd_upd]
                refine X_aload_n (tk_X10_lostBy.at 43 rfl) rfl ?_
                refine X_iload_n (tk_X10_lostBy.at 44 rfl) rfl ?_
                refine X_iload (tk_X10_lostBy.at 45 rfl) rfl ?_
                refine X_iload_n (tk_X10_lostBy.at 46 rfl) rfl ?_
                refine X_cV3i (lv2 := [(0, _), (1, _), (2, _), (3, _)]) (tk_X10_lostBy.at 47 rfl) mv_X10_riskOf lk_x10_258 np_X10_riskOf hM.f0 (by decide) rfl (Nat.le_of_ble_eq_true rfl) (Nat.le_of_ble_eq_true rfl) rfl (c10_riskOf (N := (upd N 7 (nz s.1))) hM Mx_same wM (pl (lnA N k) rfl) (by rw [upd_ne _ _ (by decide)]; exact wl.2) (pl i rfl) (by rw [upd_ne _ _ (by omega)]; show i < (mny N (lnA N k)); omega) (pl c rfl) (by rw [upd_ne _ _ (by decide)]; omega) (fun h P => ?_))
                have zr := rk_eq wM hCr (k := k) (i := i) (c := c) (by rw [upd_ne _ _ (by decide)]; exact hkl) (by rw [eLk, mny_e hw eq7 wl.2]; exact (show 0 < mny N (lnA N k) by omega)) (by rw [upd_ne _ _ (by decide)]; omega)
                rw [eLk] at zr
                rw [Mx_ne (show o + 9 ≠ o + 1 by omega), Mx_ne (show o + 10 ≠ o + 1 by omega), h9, h10, zr, rkc_e hw eq7 hkl (by omega) (by omega)]
                have xsy : Sy o (Mx ν (o + 1) (upd N 7 (nz s.1))) (Tst (Mx ν (o + 1) (upd N 7 (nz s.1))) o ((Mx ν (o + 1) (upd N 7 (nz s.1))) o 17) cm bf h P) := Tst_sy
                have x1 : (Tst (Mx ν (o + 1) (upd N 7 (nz s.1))) o ((Mx ν (o + 1) (upd N 7 (nz s.1))) o 17) cm bf h P) (o + 1) = (upd N 7 (nz s.1)) := by rw [Tst1, Mx_same]
                have x9 : (Tst (Mx ν (o + 1) (upd N 7 (nz s.1))) o ((Mx ν (o + 1) (upd N 7 (nz s.1))) o 17) cm bf h P) (o + 9) = cm := Tst9 _ _ _ _ _ _ _
                have x10 : (Tst (Mx ν (o + 1) (upd N 7 (nz s.1))) o ((Mx ν (o + 1) (upd N 7 (nz s.1))) o 17) cm bf h P) (o + 10) = bf := Tst10 _ _ _ _ _ _ _
                generalize Tst (Mx ν (o + 1) (upd N 7 (nz s.1))) o ((Mx ν (o + 1) (upd N 7 (nz s.1))) o 17) cm bf h P = ξ at xsy x1 x9 x10 ⊢
                have x5 : ξ o 5 = s.2 := by rw [xsy.2 5 (by decide), Mx_ne (by omega)]; exact h5
                have xsl : Sl o μ ξ := (hsl.tr (Sl.mx1 o ν _)).tr xsy.sx.sl
                refine X_icmp_ge (tgt := 91) (tk_X10_lostBy.at 48 rfl) (by decide) (fun c2 => ?_) (fun c2 => ?_)
                · refine X_iconst (tk_X10_lostBy.at 51 rfl) ci_0 ?_
                  refine X_istore (lv' := [(0, _), (1, _), (2, _), (3, _), (4, _), (5, _)]) (tk_X10_lostBy.at 52 rfl) (by decide) rfl rfl ?_
                  refine X_iload (tk_X10_lostBy.at 53 rfl) rfl ?_
                  refine X_if_eq (tgt := 117) (tk_X10_lostBy.at 54 rfl) (by decide) (fun _ => ?_) (fun h => absurd h (by decide))
                  refine X_iinc (lv' := [(0, _), (1, _), (2, _), (3, _), (4, _), (5, _)]) (tk_X10_lostBy.at 65 rfl) rfl ci_1 (by decide) rfl rfl ?_
                  refine X_goto (tgt := 42) (tk_X10_lostBy.at 66 rfl) (by decide) ?_
                  rw [nI_1 i]
                  refine zt ξ _ ?_
                  rw [stp_n hlb (fun g => absurd g.1 (Int32.not_lt.mpr c2))]
                  exact ⟨xsl, x1, x5, x9, x10⟩
                · refine X_iconst (tk_X10_lostBy.at 49 rfl) ci_1 ?_
                  refine X_goto (tgt := 92) (tk_X10_lostBy.at 50 rfl) (by decide) ?_
                  refine X_istore (lv' := [(0, _), (1, _), (2, _), (3, _), (4, _), (5, _)]) (tk_X10_lostBy.at 52 rfl) (by decide) rfl rfl ?_
                  refine X_iload (tk_X10_lostBy.at 53 rfl) rfl ?_
                  refine X_if_eq (tgt := 117) (tk_X10_lostBy.at 54 rfl) (by decide) (fun h => absurd h (by decide)) (fun _ => ?_)
                  refine X_aload_n (tk_X10_lostBy.at 55 rfl) rfl ?_
                  refine X_iload_n (tk_X10_lostBy.at 56 rfl) rfl ?_
                  refine X_iload (tk_X10_lostBy.at 57 rfl) rfl ?_
                  refine X_iload_n (tk_X10_lostBy.at 58 rfl) rfl ?_
                  refine X_cV3i (lv2 := [(0, _), (1, _), (2, _), (3, _)]) (tk_X10_lostBy.at 59 rfl) mv_X10_isHeld lk_x10_174 np_X10_isHeld hM.f0 (by decide) rfl (Nat.le_of_ble_eq_true rfl) (Nat.le_of_ble_eq_true rfl) rfl (c10_isHeld (N := (upd N 7 (nz s.1))) (L := s.2) hM x1 x5 wM (pl (lnA N k) rfl) (by rw [upd_ne _ _ (by decide)]; exact wl.2) (pl i rfl) (by rw [upd_ne _ _ (by omega)]; show i < (mny N (lnA N k)); omega) (pl c rfl) (by rw [upd_ne _ _ (by decide)]; omega) (by rw [upd_ne _ _ (by omega)]; exact hlb) (fun hh => ?_) (fun hh => ?_))
                  · rw [upd_ne _ _ (show (84 + 9 * lnA N k + i) ≠ 7 by omega), show pull (upd N 7 (nz s.1)) (nv (N (84 + 9 * lnA N k + i))) c = pull N (nv (N (84 + 9 * lnA N k + i))) c from by unfold pull; rw [upd_ne _ _ (by omega), upd_ne _ _ (by omega)], upd_ne _ _ (show 83 + 9 * lnA N k ≠ 7 by omega), hs_e hw eq7 wl.2 (show i ≤ (mny N (lnA N k)) by omega) _ (Nat.le_refl _)] at hh
                    refine X_if_ne (tgt := 117) (tk_X10_lostBy.at 60 rfl) (by decide) (fun _ => ?_) (fun h => absurd h (by decide))
                    refine X_iinc (lv' := [(0, _), (1, _), (2, _), (3, _), (4, _), (5, _)]) (tk_X10_lostBy.at 65 rfl) rfl ci_1 (by decide) rfl rfl ?_
                    refine X_goto (tgt := 42) (tk_X10_lostBy.at 66 rfl) (by decide) ?_
                    rw [nI_1 i]
                    refine zt ξ _ ?_
                    rw [stp_n hlb (fun g => g.2 hh)]
                    exact ⟨xsl, x1, x5, x9, x10⟩
                  · rw [upd_ne _ _ (show (84 + 9 * lnA N k + i) ≠ 7 by omega), show pull (upd N 7 (nz s.1)) (nv (N (84 + 9 * lnA N k + i))) c = pull N (nv (N (84 + 9 * lnA N k + i))) c from by unfold pull; rw [upd_ne _ _ (by omega), upd_ne _ _ (by omega)], upd_ne _ _ (show 83 + 9 * lnA N k ≠ 7 by omega), hs_e hw eq7 wl.2 (show i ≤ (mny N (lnA N k)) by omega) _ (Nat.le_refl _)] at hh
                    have hrr : rd (nz s.1) < nI (rkc N k i c) := Int32.not_le.mp c2
                    refine X_if_ne (tgt := 117) (tk_X10_lostBy.at 60 rfl) (by decide) (fun h => absurd h (by decide)) (fun _ => ?_)
                    refine X_aload_n (tk_X10_lostBy.at 61 rfl) rfl ?_
                    refine X_iload_n (tk_X10_lostBy.at 62 rfl) rfl ?_
                    refine X_iload (tk_X10_lostBy.at 63 rfl) rfl ?_
                    have y83 : ξ (o + 1) (83 + 9 * lnA N k) = N (83 + 9 * lnA N k) := by rw [x1, upd_ne _ _ (by omega)]
                    have y80 : ξ (o + 1) (80 + 9 * lnA N k) = N (80 + 9 * lnA N k) := by rw [x1, upd_ne _ _ (by omega)]
                    refine X_cV2v (lv2 := [(0, _), (1, _), (2, _)]) (tk_X10_lostBy.at 64 rfl) mv_X10_loses lk_x10_301 np_X10_loses hM.f0 (by decide) rfl (Nat.le_of_ble_eq_true rfl) (Nat.le_of_ble_eq_true rfl) rfl (c10_loses hM (pl (lnA N k) rfl) (by omega) (pl i rfl) (by omega) (by rw [y83]; exact hm) (by rw [y83]; exact bm) (by rw [y80]; exact wr.1) ?_)
                    rw [y83, x5, x1, los_7]
                    refine X_iinc (lv' := [(0, _), (1, _), (2, _), (3, _), (4, _), (5, _)]) (tk_X10_lostBy.at 65 rfl) rfl ci_1 (by decide) rfl rfl ?_
                    refine X_goto (tgt := 42) (tk_X10_lostBy.at 66 rfl) (by decide) ?_
                    rw [nI_1 i]
                    refine zt _ _ ?_
                    rw [stp_y hlb ⟨hrr, hh⟩]
                    exact ⟨xsl.tr (Sl.su5 o ξ _), by rw [su_ne (by omega)]; exact x1, by rw [su_same]; exact upd_at _ _ _, by rw [su_ne (by omega)]; exact x9, by rw [su_ne (by omega)]; exact x10⟩
          refine X_iload_n (tk_X10_lostBy.at 19 rfl) rfl ?_
          refine X_aload_n (tk_X10_lostBy.at 20 rfl) rfl ?_
          refine X_getR (tk_X10_lostBy.at 21 rfl) fl_x10_9 hM.f0 rfl rfl ?_
          refine X_iconst (tk_X10_lostBy.at 22 rfl) ci_2 ?_
          refine X_ialdN (k := 2) (tk_X10_lostBy.at 23 rfl) hM.f1 (pz (pl 2 rfl) (by omega)) (by omega) (by decide) ?_
          refine X_icmp_geN (tgt := 129) (tk_X10_lostBy.at 24 rfl) (by decide) (pl c rfl) (show ν (o + 1) 2 = _ by rw [hL.2.1, upd_ne _ _ (by omega)]; exact hw.n2.1) (by omega) (by omega) (fun c1 => (by exfalso; omega)) (fun c1 => ?_)
          refine X_iconst (tk_X10_lostBy.at 25 rfl) ci_0 ?_
          refine X_istore (lv' := [(0, _), (1, _), (2, _), (3, _), (4, _)]) (tk_X10_lostBy.at 26 rfl) (by decide) rfl rfl ?_
          exact inn _ 0 ν [] (Nat.zero_add _) hL
      refine X_iload_n (tk_X10_lostBy.at 4 rfl) rfl ?_
      refine X_aload_n (tk_X10_lostBy.at 5 rfl) rfl ?_
      refine X_getR (tk_X10_lostBy.at 6 rfl) fl_x10_9 hM.f0 rfl rfl ?_
      refine X_iconst (tk_X10_lostBy.at 7 rfl) ci_4 ?_
      refine X_ialdN (k := 4) (tk_X10_lostBy.at 8 rfl) hM.f1 (pz (pl 4 rfl) (by omega)) (by omega) (by decide) ?_
      refine X_icmp_geN (tgt := 135) (tk_X10_lostBy.at 9 rfl) (by decide) (pl k rfl) (show ν (o + 1) 4 = _ by rw [hL.2.1, upd_ne _ _ (by omega)]; exact hw.n4.1) (by omega) (by omega) (fun c1 => (by exfalso; omega)) (fun c1 => ?_)
      refine X_aload_n (tk_X10_lostBy.at 10 rfl) rfl ?_
      refine X_getR (tk_X10_lostBy.at 11 rfl) fl_x10_9 hM.f0 rfl rfl ?_
      refine X_sipush (tk_X10_lostBy.at 12 rfl) cs_134 ?_
      refine X_iload_n (tk_X10_lostBy.at 13 rfl) rfl ?_
      refine X_iadd (tk_X10_lostBy.at 14 rfl) ?_
      refine X_ialdN (k := 134 + k) (tk_X10_lostBy.at 15 rfl) hM.f1 (pz (pa (pl 134 rfl) (pl k rfl)) (by omega)) (by omega) (by decide) ?_
      rw [show ν (o + 1) (134 + k) = nI (lnA N k) from by rw [hL.2.1, upd_ne _ _ (by omega)]; exact wl.1]
      refine X_istore_n (lv' := [(0, _), (1, _), (2, _)]) (tk_X10_lostBy.at 16 rfl) (by decide) rfl rfl ?_
      refine X_iconst (tk_X10_lostBy.at 17 rfl) ci_0 ?_
      refine X_istore_n (lv' := [(0, _), (1, _), (2, _), (3, _)]) (tk_X10_lostBy.at 18 rfl) (by decide) rfl rfl ?_
      exact mid _ 0 ν [] (Nat.zero_add _) hL
  refine X_iconst (tk_X10_lostBy.at 2 rfl) ci_0 ?_
  refine X_istore_n (lv' := [(0, _), (1, _)]) (tk_X10_lostBy.at 3 rfl) (by decide) rfl rfl ?_
  refine outer _ 0 _ [] (Nat.zero_add _) ⟨Tst_sy.sx.sl, ?_, ?_, Tst9 _ _ _ _ _ _ _, Tst10 _ _ _ _ _ _ _⟩
  · rw [Tst1, hN]; exact (upd_self0 N 7).symm
  · rw [Tst5]; exact hl0
