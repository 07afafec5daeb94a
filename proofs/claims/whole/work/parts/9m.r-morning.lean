theorem c2_isHeldZ {G : Gl} {d : Nat} {S : Sh} {μ : Mu} {D : Nat} {N : Nat → Int32} {x y w z : Int32} {r f c : Nat} {K : Int32 → Sh → Mu → Prop} (hD : DS G S D) (hw : WF N) (hr : repD μ D (upd N 7 z)) (hx : x = nI r) (h3 : r < nv (N 3)) (hy : y = nI f) (hf : f < mny N r) (hz : w = nI c) (hc : c < nv (N 2)) (kt : pull N (nv (N (84 + 9 * r + f))) c ≤ hs N 0 r f (mny N r) → K 1 S μ) (kf : ¬ pull N (nv (N (84 + 9 * r + f))) c ≤ hs N 0 r f (mny N r) → K 0 S μ) : X G mi_X2_isHeld (d + 3) 0 0 [(0, .ref D), (1, .int x), (2, .int y), (3, .int w)] [] S μ (qi K) := by
  have he := Eqv7 hw z
  have e1 : mny (upd N 7 z) r = mny N r := mny_e hw he h3
  have e2 : upd N 7 z (84 + 9 * r + f) = N (84 + 9 * r + f) := upd_ne _ _ (by omega)
  have e3 := hs_e hw he (L := 0) h3 (Nat.le_of_lt hf) _ (Nat.le_refl _)
  have e4 : ∀ p, pull (upd N 7 z) p c = pull N p c := fun p => by unfold pull; rw [upd_ne _ _ (by omega), upd_ne _ _ (by omega)]
  exact c2_isHeld (rn := r) (f := f) (c := c) hD (WF_u7 hw z) hr hx (by rw [upd_ne _ _ (by omega)]; exact h3) hy (by rw [e1]; exact hf) hz (by rw [upd_ne _ _ (by omega)]; exact hc) (fun h => kt (by rw [e2, e4, e1, e3] at h; exact h)) (fun h => kf (by rw [e2, e4, e1, e3] at h; exact h))
theorem c1_riskZ {G : Gl} {d : Nat} {S : Sh} {ν : Mu} {C D : Nat} {N : Nat → Int32} {x y z w v : Int32} {k i c : Nat} {K : Int32 → Sh → Mu → Prop} (hC : XS S C) (hD : DS G S D) (hw : WF N) (hr : repD ν D (upd N 7 v)) (hdis : D + 32 ≤ C ∨ C + 6 ≤ D) (cr : Crs N (ν (C + 4)) (ν (C + 5)) (nv (N 4))) (hk : k < nv (N 4)) (hx : x = nI (lnA N k)) (hi : i < mny N (lnA N k)) (hy : y = N (84 + 9 * lnA N k + i)) (hz : z = nI c) (hc : c < nv (N 2)) (hb : w = nI (bef N k + i)) (hK : ∀ ξ, (∀ a, a ≠ C + 2 → a ≠ C + 3 → ξ a = ν a) → K (nI (rkc N k i c)) S ξ) : X G mi_X1_riskOf (d + 3) 0 0 [(0, .ref C), (1, .ref D), (2, .int x), (3, .int y), (4, .int z), (5, .int w)] [] S ν (qi K) := by
  have he := Eqv7 hw v
  have el : lnA (upd N 7 v) k = lnA N k := lnA_e hw he
  have em : mny (upd N 7 v) (lnA N k) = mny N (lnA N k) := mny_e hw he (hw.lb hk)
  have b2 := hw.n2.2
  have z2 := c1_riskOf (G := G) (d := d) (μ := ν) (ov := ν C 3) (cm := ν (C + 4)) (of := ν (C + 5)) (h := ν (C + 2)) (P := ν (C + 3)) (N := upd N 7 v) (k := k) (i := i) (c := c) (K := K) (x := x) (y := y) (z := z) (w := w) hC hD (WF_u7 hw v) hr hdis (Crs_e hw he cr) (by rw [upd_ne _ _ (by omega)]; exact hk) (by rw [el]; exact hx) (by rw [el, em]; exact hi) (by rw [el, upd_ne _ _ (by omega), ← (hw.wh (hw.lb hk) hi).1]; exact hy) hz (by rw [upd_ne _ _ (by omega)]; exact hc) (by rw [bef_e hw he k (by omega)]; exact hb) (fun h P => by
    rw [rkc_e hw he hk hi (by omega)]
    refine hK _ (fun a h1 h2 => ?_)
    unfold Tc
    by_cases c1 : a = C
    · rw [if_pos c1, c1]; exact upd_self0 _ _
    · rw [if_neg c1, if_neg h1, if_neg h2]
      by_cases c4 : a = C + 4
      · rw [if_pos c4, c4]
      · rw [if_neg c4]
        by_cases c5 : a = C + 5
        · rw [if_pos c5, c5]
        · rw [if_neg c5])
  rw [Tc_self] at z2
  exact z2
theorem c6_bitsN {G : Gl} {d : Nat} {S : Sh} {μ : Mu} {R n len : Nat} {v : Int32} {K : Int32 → Sh → Mu → Prop} (hR : RS S R len) (hn : μ R 1 = nI n) (hb : n ≤ len) (hl : len ≤ 60) (he : bt (μ (R + 1)) n = v) (hK : K v S μ) : X G mi_X6_bits d 0 0 [(0, .ref R)] [] S μ (qi K) := c6_bits hR hn hb hl (by rw [he]; exact hK)
set_option maxHeartbeats 1000000 in
theorem c9_lostOn {G : Gl} {d : Nat} {S : Sh} {μ : Mu} {P o t q im : Nat} {kp : Option Nat} {N : Nat → Int32} {ν : Mu} {k : Nat} {x y z0 Lt : Int32} {K : Int32 → Sh → Mu → Prop} (hI : Inv G S P o kp t q im μ) (hw : WF N) (rν : repD ν (P + 1) (upd N 7 z0)) (cr : Crs N (ν (P + 33 + 4)) (ν (P + 33 + 5)) (nv (N 4))) (hk : k < nv (N 4)) (hd : Dis N k Lt) (hx : x = nI (lnA N k)) (hy : y = nI (bef N k)) (hK : ∀ ξ Lo z, OwL N (lnA N k) Lo → l2 N k (nv (N 2)) (z0, Lt) = (z, Lt ||| Lo) → repD ξ (P + 1) (upd N 7 z) → (∀ a, a ≠ P + 1 → a ≠ P + 33 + 2 → a ≠ P + 33 + 3 → ξ a = ν a) → K Lo S ξ) : X G mi_X9_lostOn (d + 4) 0 0 [(0, .ref P), (1, .int x), (2, .int y)] [] S ν (qi K) := by
  have b1 := hw.n1.2
  have b2 := hw.n2.2
  have b3 := hw.n3.2
  have b4 := hw.n4.2
  have lo := hI.lo
  have h3 := hw.lb hk
  have bm := hw.mb h3
  have main : ∀ (bv : Int32), (bv = 0 ↔ ¬ nv (N (80 + 9 * lnA N k)) = 6) → X G mi_X9_lostOn (d + 4) 0 39 [(0, .ref P), (1, .int x), (2, .int y), (3, .ref (P + 1 + 20 + 2 * lnA N k)), (4, .int bv), (5, .int 0), (6, .int 0)] [] S ν (qi K) := by
    intro bv hbv
    have outer : ∀ (n c : Nat) (ξ : Mu) (Lo z : Int32) (rest : List (Nat × Value)), c + n = nv (N 2) → OwL N (lnA N k) Lo → l2 N k c (z0, Lt) = (z, Lt ||| Lo) → repD ξ (P + 1) (upd N 7 z) → (∀ a, a ≠ P + 1 → a ≠ P + 33 + 2 → a ≠ P + 33 + 3 → ξ a = ν a) → X G mi_X9_lostOn (d + 4) 0 39 ([(0, .ref P), (1, .int x), (2, .int y), (3, .ref (P + 1 + 20 + 2 * lnA N k)), (4, .int bv), (5, .int Lo), (6, .int (nI c))] ++ rest) [] S ξ (qi K) := by
      intro n
      induction n with
      | zero =>
        intro c ξ Lo z rest hc ho hl2 rξ fξ
        refine X_lvp [0, 1, 2, 3, 4, 5, 6] (lv' := [(0, _), (1, _), (2, _), (3, _), (4, _), (5, _), (6, _)]) rfl ?_
        have ec : c = nv (N 2) := by omega
        refine X_iload (tk_X9_lostOn.at 21 rfl) rfl ?_
        refine X_aload_n (tk_X9_lostOn.at 22 rfl) rfl ?_
        refine X_getR (tk_X9_lostOn.at 23 rfl) fl_x9_12 hI.P0 rfl rfl ?_
        refine X_getR (tk_X9_lostOn.at 24 rfl) fl_x9_118 hI.D.1 rfl rfl ?_
        refine X_cV0i (lv2 := [(0, _)]) (tk_X9_lostOn.at 25 rfl) mv_X3_size lk_x9_326 np_X3_size hI.D.2.2.1.1 (by decide) rfl (Nat.le_of_ble_eq_true rfl) (Nat.le_of_ble_eq_true rfl) rfl (c3_size hI.D.2.2.1 ((rD_pieces (WF_u7 hw z) rξ).trans (congrArg (fun v => nI (nv v)) (upd_ne _ _ (by omega)))) (by omega) (by decide) ?_)
        refine X_icmp_geN (tgt := 175) (tk_X9_lostOn.at 26 rfl) (by decide) (pl c rfl) (pl (nv (N 2)) rfl) (by omega) (by omega) (fun c1 => ?_) (fun c1 => (by exfalso; omega))
        refine X_iload (tk_X9_lostOn.at 85 rfl) rfl ?_
        refine X_ireturn (tk_X9_lostOn.at 86 rfl) rfl rfl ?_
        exact hK ξ Lo z ho (ec ▸ hl2) rξ fξ
      | succ n ih =>
        intro c ξ Lo z rest hc ho hl2 rξ fξ
        have inn : ∀ (m i : Nat) (ξ : Mu) (Lo z : Int32) (rest : List (Nat × Value)), i + m = mny N (lnA N k) → OwL N (lnA N k) Lo → l3 N k c i (l2 N k c (z0, Lt)) = (z, Lt ||| Lo) → repD ξ (P + 1) (upd N 7 z) → (∀ a, a ≠ P + 1 → a ≠ P + 33 + 2 → a ≠ P + 33 + 3 → ξ a = ν a) → X G mi_X9_lostOn (d + 4) 0 57 ([(0, .ref P), (1, .int x), (2, .int y), (3, .ref (P + 1 + 20 + 2 * lnA N k)), (4, .int bv), (5, .int Lo), (6, .int (nI c)), (7, .int (nI i))] ++ rest) [] S ξ (qi K) := by
          intro m
          induction m with
          | zero =>
            intro i ξ Lo z rest hi ho hl3 rξ fξ
            refine X_lvp [0, 1, 2, 3, 4, 5, 6, 7] (lv' := [(0, _), (1, _), (2, _), (3, _), (4, _), (5, _), (6, _), (7, _)]) rfl ?_
            have hsz : ξ (P + 1 + 20 + 2 * lnA N k) 1 = nI (mny N (lnA N k)) := by rw [← mny_e hw (Eqv7 hw z) h3]; exact rD_rs1 (WF_u7 hw z) rξ (by rw [upd_ne _ _ (by omega)]; exact h3)
            have ei : i = mny N (lnA N k) := by omega
            refine X_iload (tk_X9_lostOn.at 29 rfl) rfl ?_
            refine X_aload_n (tk_X9_lostOn.at 30 rfl) rfl ?_
            refine X_cV0i (lv2 := [(0, _)]) (tk_X9_lostOn.at 31 rfl) mv_X6_size lk_x9_142 np_X6_size (DS_r hI.D (r := lnA N k) (by omega)).1 (by decide) rfl (Nat.le_of_ble_eq_true rfl) (Nat.le_of_ble_eq_true rfl) rfl (c6_size (DS_r hI.D (r := lnA N k) (by omega)) hsz bm (by decide) ?_)
            refine X_icmp_geN (tgt := 169) (tk_X9_lostOn.at 32 rfl) (by decide) (pl i rfl) (pl (mny N (lnA N k)) rfl) (by omega) (by omega) (fun c1 => ?_) (fun c1 => (by exfalso; omega))
            refine X_iinc (lv' := [(0, _), (1, _), (2, _), (3, _), (4, _), (5, _), (6, _), (7, _)]) (tk_X9_lostOn.at 83 rfl) rfl ci_1 (by decide) rfl rfl ?_
            refine X_goto (tgt := 39) (tk_X9_lostOn.at 84 rfl) (by decide) ?_
            rw [nI_1 c]
            exact ih (c + 1) ξ Lo z [(7, _)] (by omega) ho (by rw [l2, ← ei]; exact hl3) rξ fξ
          | succ m2 inn =>
            intro i ξ Lo z rest hi0 ho hl3 rξ fξ
            refine X_lvp [0, 1, 2, 3, 4, 5, 6, 7] (lv' := [(0, _), (1, _), (2, _), (3, _), (4, _), (5, _), (6, _), (7, _)]) rfl ?_
            have hsz : ξ (P + 1 + 20 + 2 * lnA N k) 1 = nI (mny N (lnA N k)) := by rw [← mny_e hw (Eqv7 hw z) h3]; exact rD_rs1 (WF_u7 hw z) rξ (by rw [upd_ne _ _ (by omega)]; exact h3)
            have hce : ∀ j, j < mny N (lnA N k) → ξ (P + 1 + 20 + 2 * lnA N k + 1) j = N (84 + 9 * lnA N k + j) := fun j hj => by rw [rD_ra1 (WF_u7 hw z) rξ (by rw [upd_ne _ _ (by omega)]; exact h3) (by rw [mny_e hw (Eqv7 hw z) h3]; exact hj), upd_ne _ _ (by omega)]
            refine X_iload (tk_X9_lostOn.at 29 rfl) rfl ?_
            refine X_aload_n (tk_X9_lostOn.at 30 rfl) rfl ?_
            refine X_cV0i (lv2 := [(0, _)]) (tk_X9_lostOn.at 31 rfl) mv_X6_size lk_x9_142 np_X6_size (DS_r hI.D (r := lnA N k) (by omega)).1 (by decide) rfl (Nat.le_of_ble_eq_true rfl) (Nat.le_of_ble_eq_true rfl) rfl (c6_size (DS_r hI.D (r := lnA N k) (by omega)) hsz bm (by decide) ?_)
            refine X_icmp_geN (tgt := 169) (tk_X9_lostOn.at 32 rfl) (by decide) (pl i rfl) (pl (mny N (lnA N k)) rfl) (by omega) (by omega) (fun c1 => (by exfalso; omega)) (fun c1 => ?_)
            refine X_aload_n (tk_X9_lostOn.at 33 rfl) rfl ?_
            refine X_iload (tk_X9_lostOn.at 34 rfl) rfl ?_
            have hi : i < mny N (lnA N k) := by omega
            have wh := mem10 hw h3 i hi
            refine X_cV1i (lv2 := [(0, _), (1, _)]) (tk_X9_lostOn.at 35 rfl) mv_X6_at lk_x9_151 np_X6_at (DS_r hI.D (r := lnA N k) (by omega)).1 (by decide) rfl (Nat.le_of_ble_eq_true rfl) (Nat.le_of_ble_eq_true rfl) rfl (c6_atN (j := i) (v := N (84 + 9 * lnA N k + i)) (DS_r hI.D (r := lnA N k) (by omega)) hsz bm (by decide) (pl i rfl) hi (hce i hi) ?_)
            refine X_istore (lv' := [(0, _), (1, _), (2, _), (3, _), (4, _), (5, _), (6, _), (7, _), (8, _)]) (tk_X9_lostOn.at 36 rfl) (by decide) rfl rfl ?_
            refine X_iconst (tk_X9_lostOn.at 37 rfl) ci_1 ?_
            refine X_iload (tk_X9_lostOn.at 38 rfl) rfl ?_
            refine X_ishl (tk_X9_lostOn.at 39 rfl) ?_
            refine X_istore (lv' := [(0, _), (1, _), (2, _), (3, _), (4, _), (5, _), (6, _), (7, _), (8, _), (9, _)]) (tk_X9_lostOn.at 40 rfl) (by decide) rfl rfl ?_
            refine X_iload (tk_X9_lostOn.at 41 rfl) rfl ?_
            refine X_iload (tk_X9_lostOn.at 42 rfl) rfl ?_
            refine X_iand (tk_X9_lostOn.at 43 rfl) ?_
            refine X_if_eq (tgt := 91) (tk_X9_lostOn.at 44 rfl) (by decide) (fun c2 => ?_) (fun c2 => ?_)
            · have c85h := c2
              refine X_aload_n (tk_X9_lostOn.at 46 rfl) rfl ?_
              refine X_getR (tk_X9_lostOn.at 47 rfl) fl_x9_19 hI.P0 rfl rfl ?_
              refine X_aload_n (tk_X9_lostOn.at 48 rfl) rfl ?_
              refine X_getR (tk_X9_lostOn.at 49 rfl) fl_x9_12 hI.P0 rfl rfl ?_
              refine X_iload_n (tk_X9_lostOn.at 50 rfl) rfl ?_
              refine X_iload (tk_X9_lostOn.at 51 rfl) rfl ?_
              refine X_iload (tk_X9_lostOn.at 52 rfl) rfl ?_
              refine X_iload_n (tk_X9_lostOn.at 53 rfl) rfl ?_
              refine X_iload (tk_X9_lostOn.at 54 rfl) rfl ?_
              refine X_iadd (tk_X9_lostOn.at 55 rfl) ?_
              refine X_cV5i (lv2 := [(0, _), (1, _), (2, _), (3, _), (4, _), (5, _)]) (tk_X9_lostOn.at 56 rfl) mv_X1_riskOf lk_x9_237 np_X1_riskOf hI.C.1 (by decide) rfl (Nat.le_of_ble_eq_true rfl) (Nat.le_of_ble_eq_true rfl) rfl (c1_riskZ (k := k) (i := i) (c := c) hI.C hI.D hw rξ (Or.inl (by omega)) (by rw [fξ (P + 33 + 4) (by omega) (by omega) (by omega), fξ (P + 33 + 5) (by omega) (by omega) (by omega)]; exact cr) hk hx hi rfl rfl (by omega) (by rw [hy]; exact pa (pl (bef N k) rfl) (pl i rfl)) (fun ζ fζ => ?_))
              have rζ : repD ζ (P + 1) (upd N 7 z) := repD_of rξ (fun a h1 h2 => fζ a (by omega) (by omega))
              refine X_istore (lv' := [(0, _), (1, _), (2, _), (3, _), (4, _), (5, _), (6, _), (7, _), (8, _), (9, _), (10, _)]) (tk_X9_lostOn.at 57 rfl) (by decide) rfl rfl ?_
              refine X_aload_n (tk_X9_lostOn.at 58 rfl) rfl ?_
              refine X_getR (tk_X9_lostOn.at 59 rfl) fl_x9_12 hI.P0 rfl rfl ?_
              refine X_cV0i (lv2 := [(0, _)]) (tk_X9_lostOn.at 60 rfl) mv_X2_draw lk_x9_334 np_X2_draw hI.D.1 (by decide) rfl (Nat.le_of_ble_eq_true rfl) (Nat.le_of_ble_eq_true rfl) rfl (c2_draw hI.D ?_)
              have ez : ζ (P + 1) 11 = z := rζ.1.2.trans (upd_at _ _ _)
              rw [ez]
              generalize eθ : su ζ (P + 1) 11 (nz z) = θ
              have fθ : ∀ a, a ≠ P + 1 → θ a = ζ a := fun a h1 => by rw [← eθ]; exact su_ne h1
              have rθ : repD θ (P + 1) (upd N 7 (nz z)) := repD_z (WF_u7 hw z) rζ fθ (by rw [← eθ]; exact su_same) (fun a ha => by rw [upd_ne _ _ ha, upd_ne _ _ ha]) (upd_at _ _ _)
              have fr : ∀ a, a ≠ P + 1 → a ≠ P + 33 + 2 → a ≠ P + 33 + 3 → θ a = ν a := fun a h1 h2 h3 => (fθ a h1).trans ((fζ a h2 h3).trans (fξ a h1 h2 h3))
              refine X_sipush (tk_X9_lostOn.at 61 rfl) cs_1000 ?_
              refine X_irem (tk_X9_lostOn.at 62 rfl) (by decide) ?_
              refine X_iload (tk_X9_lostOn.at 63 rfl) rfl ?_
              refine X_icmp_ge (tgt := 163) (tk_X9_lostOn.at 64 rfl) (by decide) (fun c3 => ?_) (fun c3 => ?_)
              · refine X_iinc (lv' := [(0, _), (1, _), (2, _), (3, _), (4, _), (5, _), (6, _), (7, _), (8, _), (9, _), (10, _)]) (tk_X9_lostOn.at 81 rfl) rfl ci_1 (by decide) rfl rfl ?_
                refine X_goto (tgt := 57) (tk_X9_lostOn.at 82 rfl) (by decide) ?_
                rw [nI_1 i]
                have nl : ¬ lb Lo (N (84 + 9 * lnA N k + i)) := by rw [wh.1]; have q := c85h; rw [wh.1] at q; exact (and_bit wh.2).mp q
                have nl2 : ¬ lb (Lt ||| Lo) (N (84 + 9 * lnA N k + i)) := fun g => nl ((dis_or hw hd hk hi).mp g)
                have ehs := hs_own hw hd ho hk hi nl
                have hst0 : stp N k c i (z, Lt ||| Lo) = (nz z, Lt ||| Lo) := stp_n (s := (z, Lt ||| Lo)) nl2 (fun (g : rd (nz z) < nI (rkc N k i c) ∧ ¬ pull N (nv (N (84 + 9 * lnA N k + i))) c ≤ hs N (Lt ||| Lo) (lnA N k) i (mny N (lnA N k))) => by rw [ehs] at g; exact absurd g.1 (Int32.not_lt.mpr (by unfold rd; exact c3)))
                exact inn (i + 1) θ Lo (nz z) [(8, _), (9, _), (10, _)] (by omega) ho (by rw [l3, hl3]; exact hst0) rθ fr
              · have c126h : ¬ nI (rkc N k i c) ≤ rd (nz z) := by unfold rd; exact c3
                refine X_aload_n (tk_X9_lostOn.at 65 rfl) rfl ?_
                refine X_getR (tk_X9_lostOn.at 66 rfl) fl_x9_12 hI.P0 rfl rfl ?_
                refine X_iload_n (tk_X9_lostOn.at 67 rfl) rfl ?_
                refine X_iload (tk_X9_lostOn.at 68 rfl) rfl ?_
                refine X_iload (tk_X9_lostOn.at 69 rfl) rfl ?_
                refine X_cV3i (lv2 := [(0, _), (1, _), (2, _), (3, _)]) (tk_X9_lostOn.at 70 rfl) mv_X2_isHeld lk_x9_173 np_X2_isHeld hI.D.1 (by decide) rfl (Nat.le_of_ble_eq_true rfl) (Nat.le_of_ble_eq_true rfl) rfl (c2_isHeldZ (r := lnA N k) (f := i) (c := c) hI.D hw rθ hx h3 rfl hi rfl (by omega) (fun hheld => ?_) (fun hheld => ?_))
                · refine X_if_ne (tgt := 163) (tk_X9_lostOn.at 71 rfl) (by decide) (fun _ => ?_) (fun h => absurd h (by decide))
                  refine X_iinc (lv' := [(0, _), (1, _), (2, _), (3, _), (4, _), (5, _), (6, _), (7, _), (8, _), (9, _), (10, _)]) (tk_X9_lostOn.at 81 rfl) rfl ci_1 (by decide) rfl rfl ?_
                  refine X_goto (tgt := 57) (tk_X9_lostOn.at 82 rfl) (by decide) ?_
                  rw [nI_1 i]
                  have nl : ¬ lb Lo (N (84 + 9 * lnA N k + i)) := by rw [wh.1]; have q := c85h; rw [wh.1] at q; exact (and_bit wh.2).mp q
                  have nl2 : ¬ lb (Lt ||| Lo) (N (84 + 9 * lnA N k + i)) := fun g => nl ((dis_or hw hd hk hi).mp g)
                  have ehs := hs_own hw hd ho hk hi nl
                  have hst0 : stp N k c i (z, Lt ||| Lo) = (nz z, Lt ||| Lo) := stp_n (s := (z, Lt ||| Lo)) nl2 (fun (g : rd (nz z) < nI (rkc N k i c) ∧ ¬ pull N (nv (N (84 + 9 * lnA N k + i))) c ≤ hs N (Lt ||| Lo) (lnA N k) i (mny N (lnA N k))) => by rw [ehs] at g; exact g.2 hheld)
                  exact inn (i + 1) θ Lo (nz z) [(8, _), (9, _), (10, _)] (by omega) ho (by rw [l3, hl3]; exact hst0) rθ fr
                · refine X_if_ne (tgt := 163) (tk_X9_lostOn.at 71 rfl) (by decide) (fun h => absurd h (by decide)) (fun _ => ?_)
                  refine X_iload (tk_X9_lostOn.at 72 rfl) rfl ?_
                  refine X_iload (tk_X9_lostOn.at 73 rfl) rfl ?_
                  refine X_if_eq (tgt := 156) (tk_X9_lostOn.at 74 rfl) (by decide) (fun c6 => ?_) (fun c6 => ?_)
                  · refine X_aload_n (tk_X9_lostOn.at 77 rfl) rfl ?_
                    have hszθ : θ (P + 1 + 20 + 2 * lnA N k) 1 = nI (mny N (lnA N k)) := by rw [fr _ (by omega) (by omega) (by omega), ← fξ _ (by omega) (by omega) (by omega)]; exact hsz
                    refine X_cV0i (lv2 := [(0, _)]) (tk_X9_lostOn.at 78 rfl) mv_X6_bits lk_x9_337 np_X6_bits (DS_r hI.D (r := lnA N k) (by omega)).1 (by decide) rfl (Nat.le_of_ble_eq_true rfl) (Nat.le_of_ble_eq_true rfl) rfl (c6_bitsN (v := bt (fun j => N (84 + 9 * lnA N k + j)) (mny N (lnA N k))) (DS_r hI.D (r := lnA N k) (by omega)) hszθ bm (by decide) (bt_c _ (fun j hj => by rw [fr _ (by omega) (by omega) (by omega), ← fξ _ (by omega) (by omega) (by omega)]; exact hce j hj)) ?_)
                    refine X_ior (tk_X9_lostOn.at 79 rfl) ?_
                    refine X_istore (lv' := [(0, _), (1, _), (2, _), (3, _), (4, _), (5, _), (6, _), (7, _), (8, _), (9, _), (10, _)]) (tk_X9_lostOn.at 80 rfl) (by decide) rfl rfl ?_
                    refine X_iinc (lv' := [(0, _), (1, _), (2, _), (3, _), (4, _), (5, _), (6, _), (7, _), (8, _), (9, _), (10, _)]) (tk_X9_lostOn.at 81 rfl) rfl ci_1 (by decide) rfl rfl ?_
                    refine X_goto (tgt := 57) (tk_X9_lostOn.at 82 rfl) (by decide) ?_
                    rw [nI_1 i]
                    have nl : ¬ lb Lo (N (84 + 9 * lnA N k + i)) := by rw [wh.1]; have q := c85h; rw [wh.1] at q; exact (and_bit wh.2).mp q
                    have nl2 : ¬ lb (Lt ||| Lo) (N (84 + 9 * lnA N k + i)) := fun g => nl ((dis_or hw hd hk hi).mp g)
                    have ehs := hs_own hw hd ho hk hi nl
                    have elx : (bt (fun j => N (84 + 9 * lnA N k + j)) (mny N (lnA N k))) = lx N (lnA N k) i (mny N (lnA N k)) := by exact (lx_f (by have := hbv; grind) _).symm
                    rw [elx]
                    have c126l : rd (nz z) < nI (rkc N k i c) := Int32.not_le.mp c126h
                    have hcond : rd (nz z) < nI (rkc N k i c) ∧ ¬ pull N (nv (N (84 + 9 * lnA N k + i))) c ≤ hs N (Lt ||| Lo) (lnA N k) i (mny N (lnA N k)) := ⟨c126l, by rw [ehs]; exact hheld⟩
                    have hst0 : stp N k c i (z, Lt ||| Lo) = (nz z, Lt ||| (Lo ||| lx N (lnA N k) i (mny N (lnA N k)))) := (stp_y (s := (z, Lt ||| Lo)) nl2 hcond).trans (by show (nz z, los N (lnA N k) i (mny N (lnA N k)) (Lt ||| Lo)) = _; rw [los_lx, or_a])
                    exact inn (i + 1) θ _ (nz z) [(8, _), (9, _), (10, _)] (by omega) (OwL_x hw ho hk) (by rw [l3, hl3]; exact hst0) rθ fr
                  · refine X_iload (tk_X9_lostOn.at 75 rfl) rfl ?_
                    refine X_goto (tgt := 160) (tk_X9_lostOn.at 76 rfl) (by decide) ?_
                    refine X_ior (tk_X9_lostOn.at 79 rfl) ?_
                    refine X_istore (lv' := [(0, _), (1, _), (2, _), (3, _), (4, _), (5, _), (6, _), (7, _), (8, _), (9, _), (10, _)]) (tk_X9_lostOn.at 80 rfl) (by decide) rfl rfl ?_
                    refine X_iinc (lv' := [(0, _), (1, _), (2, _), (3, _), (4, _), (5, _), (6, _), (7, _), (8, _), (9, _), (10, _)]) (tk_X9_lostOn.at 81 rfl) rfl ci_1 (by decide) rfl rfl ?_
                    refine X_goto (tgt := 57) (tk_X9_lostOn.at 82 rfl) (by decide) ?_
                    rw [nI_1 i]
                    have nl : ¬ lb Lo (N (84 + 9 * lnA N k + i)) := by rw [wh.1]; have q := c85h; rw [wh.1] at q; exact (and_bit wh.2).mp q
                    have nl2 : ¬ lb (Lt ||| Lo) (N (84 + 9 * lnA N k + i)) := fun g => nl ((dis_or hw hd hk hi).mp g)
                    have ehs := hs_own hw hd ho hk hi nl
                    have elx : (1 <<< ((N (84 + 9 * lnA N k + i)) &&& 31)) = lx N (lnA N k) i (mny N (lnA N k)) := by rw [lx_b (by have := hbv; grind) _ hi]
                    rw [elx]
                    have c126l : rd (nz z) < nI (rkc N k i c) := Int32.not_le.mp c126h
                    have hcond : rd (nz z) < nI (rkc N k i c) ∧ ¬ pull N (nv (N (84 + 9 * lnA N k + i))) c ≤ hs N (Lt ||| Lo) (lnA N k) i (mny N (lnA N k)) := ⟨c126l, by rw [ehs]; exact hheld⟩
                    have hst0 : stp N k c i (z, Lt ||| Lo) = (nz z, Lt ||| (Lo ||| lx N (lnA N k) i (mny N (lnA N k)))) := (stp_y (s := (z, Lt ||| Lo)) nl2 hcond).trans (by show (nz z, los N (lnA N k) i (mny N (lnA N k)) (Lt ||| Lo)) = _; rw [los_lx, or_a])
                    exact inn (i + 1) θ _ (nz z) [(8, _), (9, _), (10, _)] (by omega) (OwL_x hw ho hk) (by rw [l3, hl3]; exact hst0) rθ fr
            · have c85h := c2
              refine X_goto (tgt := 163) (tk_X9_lostOn.at 45 rfl) (by decide) ?_
              refine X_iinc (lv' := [(0, _), (1, _), (2, _), (3, _), (4, _), (5, _), (6, _), (7, _), (8, _), (9, _)]) (tk_X9_lostOn.at 81 rfl) rfl ci_1 (by decide) rfl rfl ?_
              refine X_goto (tgt := 57) (tk_X9_lostOn.at 82 rfl) (by decide) ?_
              rw [nI_1 i]
              have hl : lb Lo (N (84 + 9 * lnA N k + i)) := by rw [wh.1]; have q := c85h; rw [wh.1] at q; exact Classical.byContradiction (fun g => q ((and_bit wh.2).mpr g))
              have hst0 : stp N k c i (z, Lt ||| Lo) = (z, Lt ||| Lo) := stp_l (s := (z, Lt ||| Lo)) ((dis_or hw hd hk hi).mpr hl)
              exact inn (i + 1) ξ Lo z [(8, _), (9, _)] (by omega) ho (by rw [l3, hl3]; exact hst0) rξ fξ
        refine X_lvp [0, 1, 2, 3, 4, 5, 6] (lv' := [(0, _), (1, _), (2, _), (3, _), (4, _), (5, _), (6, _)]) rfl ?_
        refine X_iload (tk_X9_lostOn.at 21 rfl) rfl ?_
        refine X_aload_n (tk_X9_lostOn.at 22 rfl) rfl ?_
        refine X_getR (tk_X9_lostOn.at 23 rfl) fl_x9_12 hI.P0 rfl rfl ?_
        refine X_getR (tk_X9_lostOn.at 24 rfl) fl_x9_118 hI.D.1 rfl rfl ?_
        refine X_cV0i (lv2 := [(0, _)]) (tk_X9_lostOn.at 25 rfl) mv_X3_size lk_x9_326 np_X3_size hI.D.2.2.1.1 (by decide) rfl (Nat.le_of_ble_eq_true rfl) (Nat.le_of_ble_eq_true rfl) rfl (c3_size hI.D.2.2.1 ((rD_pieces (WF_u7 hw z) rξ).trans (congrArg (fun v => nI (nv v)) (upd_ne _ _ (by omega)))) (by omega) (by decide) ?_)
        refine X_icmp_geN (tgt := 175) (tk_X9_lostOn.at 26 rfl) (by decide) (pl c rfl) (pl (nv (N 2)) rfl) (by omega) (by omega) (fun c1 => (by exfalso; omega)) (fun c1 => ?_)
        refine X_iconst (tk_X9_lostOn.at 27 rfl) ci_0 ?_
        refine X_istore (lv' := [(0, _), (1, _), (2, _), (3, _), (4, _), (5, _), (6, _), (7, _)]) (tk_X9_lostOn.at 28 rfl) (by decide) rfl rfl ?_
        exact inn (mny N (lnA N k)) 0 ξ Lo z [] (Nat.zero_add _) ho hl2 rξ fξ
    exact outer (nv (N 2)) 0 ν 0 z0 [] (Nat.zero_add _) (OwL_0 _ _) (by rw [l2, or_0]) rν (fun _ _ _ _ => rfl)
  refine X_aload_n (tk_X9_lostOn.at 0 rfl) rfl ?_
  refine X_getR (tk_X9_lostOn.at 1 rfl) fl_x9_12 hI.P0 rfl rfl ?_
  refine X_iload_n (tk_X9_lostOn.at 2 rfl) rfl ?_
  refine X_cV1r (lv2 := [(0, _), (1, _)]) (tk_X9_lostOn.at 3 rfl) mv_X2_rowOf lk_x9_131 np_X2_rowOf hI.D.1 (by decide) rfl (Nat.le_of_ble_eq_true rfl) (Nat.le_of_ble_eq_true rfl) rfl (c2_rowOf (r := lnA N k) hI.D hx (by omega) ?_)
  refine X_astore_n (lv' := [(0, _), (1, _), (2, _), (3, _)]) (tk_X9_lostOn.at 4 rfl) (by decide) rfl rfl ?_
  refine X_aload_n (tk_X9_lostOn.at 5 rfl) rfl ?_
  refine X_getR (tk_X9_lostOn.at 6 rfl) fl_x9_12 hI.P0 rfl rfl ?_
  refine X_getR (tk_X9_lostOn.at 7 rfl) fl_x9_127 hI.D.1 rfl rfl ?_
  refine X_iload_n (tk_X9_lostOn.at 8 rfl) rfl ?_
  refine X_iconst (tk_X9_lostOn.at 9 rfl) ci_0 ?_
  have kd := (hw.ro h3).1
  have kb := kd.2
  refine X_cV2i (lv2 := [(0, _), (1, _), (2, _)]) (tk_X9_lostOn.at 10 rfl) mv_X3_get lk_x9_81 np_X3_get hI.D.2.2.2.1.1 (by decide) rfl (Nat.le_of_ble_eq_true rfl) (Nat.le_of_ble_eq_true rfl) rfl (d_rg (p := lnA N k) (c := 0) (k := 80 + 9 * lnA N k) hI.D (WF_u7 hw z0) rν hx (by rw [upd_ne _ _ (by omega)]; exact h3) (pl 0 rfl) (by decide) rfl ?_)
  rw [upd_ne _ _ (show 80 + 9 * lnA N k ≠ 7 by omega)]
  refine X_bipush (tk_X9_lostOn.at 11 rfl) cb_6 ?_
  refine X_icmp_neN (tgt := 30) (tk_X9_lostOn.at 12 rfl) (by decide) kd.1 (pl 6 rfl) (by omega) (by omega) (fun c1 => ?_) (fun c1 => ?_)
  · have hkind : ¬ nv (N (80 + 9 * lnA N k)) = 6 := by omega
    refine X_iconst (tk_X9_lostOn.at 15 rfl) ci_0 ?_
    refine X_istore (lv' := [(0, _), (1, _), (2, _), (3, _), (4, _)]) (tk_X9_lostOn.at 16 rfl) (by decide) rfl rfl ?_
    refine X_iconst (tk_X9_lostOn.at 17 rfl) ci_0 ?_
    refine X_istore (lv' := [(0, _), (1, _), (2, _), (3, _), (4, _), (5, _)]) (tk_X9_lostOn.at 18 rfl) (by decide) rfl rfl ?_
    refine X_iconst (tk_X9_lostOn.at 19 rfl) ci_0 ?_
    refine X_istore (lv' := [(0, _), (1, _), (2, _), (3, _), (4, _), (5, _), (6, _)]) (tk_X9_lostOn.at 20 rfl) (by decide) rfl rfl ?_
    exact main 0 ⟨fun _ => hkind, fun _ => rfl⟩
  · have hkind : nv (N (80 + 9 * lnA N k)) = 6 := by omega
    refine X_iconst (tk_X9_lostOn.at 13 rfl) ci_1 ?_
    refine X_goto (tgt := 31) (tk_X9_lostOn.at 14 rfl) (by decide) ?_
    refine X_istore (lv' := [(0, _), (1, _), (2, _), (3, _), (4, _)]) (tk_X9_lostOn.at 16 rfl) (by decide) rfl rfl ?_
    refine X_iconst (tk_X9_lostOn.at 17 rfl) ci_0 ?_
    refine X_istore (lv' := [(0, _), (1, _), (2, _), (3, _), (4, _), (5, _)]) (tk_X9_lostOn.at 18 rfl) (by decide) rfl rfl ?_
    refine X_iconst (tk_X9_lostOn.at 19 rfl) ci_0 ?_
    refine X_istore (lv' := [(0, _), (1, _), (2, _), (3, _), (4, _), (5, _), (6, _)]) (tk_X9_lostOn.at 20 rfl) (by decide) rfl rfl ?_
    exact main 1 ⟨fun h => absurd h (by decide), fun h => absurd hkind h⟩
set_option maxHeartbeats 1000000 in
theorem c9_runMorning {G : Gl} {d : Nat} {S : Sh} {μ : Mu} {P o t q im : Nat} {kp : Option Nat} {N : Nat → Int32} {ν : Mu} {K : Int32 → Sh → Mu → Prop} (hI : Inv G S P o kp t q im μ) (hw : WF N) (hr : repD ν (P + 1) N) (hK : ∀ ξ Lt z, Dis N (nv (N 4)) Lt → l1 N (nv (N 4)) (N 7, 0) = (z, Lt) → repD ξ (P + 1) (upd N 7 z) → (∀ a, a ≠ P + 1 → (a < P + 33 ∨ P + 39 ≤ a) → ξ a = ν a) → K Lt S ξ) : X G mi_X9_runMorning (d + 5) 0 0 [(0, .ref P)] [] S ν (qi K) := by
  have b4 := hw.n4.2
  have b3 := hw.n3.2
  have lo := hI.lo
  have bef_le : ∀ k, k ≤ nv (N 4) → bef N k ≤ 5 * k := by
    intro k
    induction k with
    | zero => intro _; exact Nat.le_refl _
    | succ k ih => intro h; have a1 := ih (by omega); have a2 := hw.mb (hw.lb (show k < nv (N 4) by omega)); rw [bef]; omega
  have loop : ∀ (m k : Nat) (ξ : Mu) (Lt z : Int32) (rest : List (Nat × Value)), k + m = nv (N 4) → Dis N k Lt → l1 N k (N 7, 0) = (z, Lt) → repD ξ (P + 1) (upd N 7 z) → Crs N (ξ (P + 33 + 4)) (ξ (P + 33 + 5)) (nv (N 4)) → (∀ a, a ≠ P + 1 → (a < P + 33 ∨ P + 39 ≤ a) → ξ a = ν a) → X G mi_X9_runMorning (d + 5) 0 17 ([(0, .ref P), (1, .int Lt), (2, .int (nI (bef N k))), (3, .int (nI k))] ++ rest) [] S ξ (qi K) := by
    intro m
    induction m with
    | zero =>
      intro k ξ Lt z rest hk hd hl1 rξ cr fξ
      refine X_lvp [0, 1, 2, 3] (lv' := [(0, _), (1, _), (2, _), (3, _)]) rfl ?_
      have ek : k = nv (N 4) := by omega
      refine X_iload_n (tk_X9_runMorning.at 11 rfl) rfl ?_
      refine X_aload_n (tk_X9_runMorning.at 12 rfl) rfl ?_
      refine X_getR (tk_X9_runMorning.at 13 rfl) fl_x9_12 hI.P0 rfl rfl ?_
      refine X_getR (tk_X9_runMorning.at 14 rfl) fl_x9_146 hI.D.1 rfl rfl ?_
      refine X_cV0i (lv2 := [(0, _)]) (tk_X9_runMorning.at 15 rfl) mv_X6_size lk_x9_142 np_X6_size hI.D.2.2.2.2.1.1 (by decide) rfl (Nat.le_of_ble_eq_true rfl) (Nat.le_of_ble_eq_true rfl) rfl (c6_size hI.D.2.2.2.2.1 ((rD_line (WF_u7 hw z) rξ).trans (congrArg (fun v => nI (nv v)) (upd_ne _ _ (by omega)))) (by omega) (by decide) ?_)
      refine X_icmp_geN (tgt := 75) (tk_X9_runMorning.at 16 rfl) (by decide) (pl k rfl) (pl (nv (N 4)) rfl) (by omega) (by omega) (fun c1 => ?_) (fun c1 => (by exfalso; omega))
      refine X_iload_n (tk_X9_runMorning.at 40 rfl) rfl ?_
      refine X_ireturn (tk_X9_runMorning.at 41 rfl) rfl rfl ?_
      subst ek
      exact hK ξ Lt z hd hl1 rξ fξ
    | succ m ih =>
      intro k ξ Lt z rest hkm hd hl1 rξ cr fξ
      refine X_lvp [0, 1, 2, 3] (lv' := [(0, _), (1, _), (2, _), (3, _)]) rfl ?_
      have bfk := bef_le k (by omega)
      refine X_iload_n (tk_X9_runMorning.at 11 rfl) rfl ?_
      refine X_aload_n (tk_X9_runMorning.at 12 rfl) rfl ?_
      refine X_getR (tk_X9_runMorning.at 13 rfl) fl_x9_12 hI.P0 rfl rfl ?_
      refine X_getR (tk_X9_runMorning.at 14 rfl) fl_x9_146 hI.D.1 rfl rfl ?_
      refine X_cV0i (lv2 := [(0, _)]) (tk_X9_runMorning.at 15 rfl) mv_X6_size lk_x9_142 np_X6_size hI.D.2.2.2.2.1.1 (by decide) rfl (Nat.le_of_ble_eq_true rfl) (Nat.le_of_ble_eq_true rfl) rfl (c6_size hI.D.2.2.2.2.1 ((rD_line (WF_u7 hw z) rξ).trans (congrArg (fun v => nI (nv v)) (upd_ne _ _ (by omega)))) (by omega) (by decide) ?_)
      refine X_icmp_geN (tgt := 75) (tk_X9_runMorning.at 16 rfl) (by decide) (pl k rfl) (pl (nv (N 4)) rfl) (by omega) (by omega) (fun c1 => (by exfalso; omega)) (fun c1 => ?_)
      refine X_aload_n (tk_X9_runMorning.at 17 rfl) rfl ?_
      refine X_getR (tk_X9_runMorning.at 18 rfl) fl_x9_12 hI.P0 rfl rfl ?_
      refine X_getR (tk_X9_runMorning.at 19 rfl) fl_x9_146 hI.D.1 rfl rfl ?_
      refine X_iload_n (tk_X9_runMorning.at 20 rfl) rfl ?_
      have hk : k < nv (N 4) := by omega
      have h3 := hw.lb hk
      have bm := hw.mb h3
      refine X_cV1i (lv2 := [(0, _), (1, _)]) (tk_X9_runMorning.at 21 rfl) mv_X6_at lk_x9_151 np_X6_at hI.D.2.2.2.2.1.1 (by decide) rfl (Nat.le_of_ble_eq_true rfl) (Nat.le_of_ble_eq_true rfl) rfl (c6_atN (n := nv (N 4)) (j := k) (v := nI (lnA N k)) hI.D.2.2.2.2.1 ((rD_line (WF_u7 hw z) rξ).trans (congrArg (fun v => nI (nv v)) (upd_ne _ _ (by omega)))) (by omega) (by decide) (pl k rfl) hk (by rw [rξ.2.2.2.2.1.2 k (by rw [upd_ne _ _ (by omega)]; exact hk)]; show upd N 7 z (134 + k) = _; rw [upd_ne _ _ (by omega)]; exact (hw.li hk).1) ?_)
      refine X_istore (lv' := [(0, _), (1, _), (2, _), (3, _), (4, _)]) (tk_X9_runMorning.at 22 rfl) (by decide) rfl rfl ?_
      refine X_iload_n (tk_X9_runMorning.at 23 rfl) rfl ?_
      refine X_aload_n (tk_X9_runMorning.at 24 rfl) rfl ?_
      refine X_iload (tk_X9_runMorning.at 25 rfl) rfl ?_
      refine X_iload_n (tk_X9_runMorning.at 26 rfl) rfl ?_
      refine X_cV2i (lv2 := [(0, _), (1, _), (2, _)]) (tk_X9_runMorning.at 27 rfl) mv_X9_lostOn lk_x9_331 np_X9_lostOn hI.P0 (by decide) rfl (Nat.le_of_ble_eq_true rfl) (Nat.le_of_ble_eq_true rfl) rfl (c9_lostOn (k := k) (Lt := Lt) hI hw rξ cr hk hd rfl rfl (fun θ Lo z1 ho hl2 rθ fθ => ?_))
      refine X_ior (tk_X9_runMorning.at 28 rfl) ?_
      refine X_istore_n (lv' := [(0, _), (1, _), (2, _), (3, _), (4, _)]) (tk_X9_runMorning.at 29 rfl) (by decide) rfl rfl ?_
      refine X_iload_n (tk_X9_runMorning.at 30 rfl) rfl ?_
      refine X_aload_n (tk_X9_runMorning.at 31 rfl) rfl ?_
      refine X_getR (tk_X9_runMorning.at 32 rfl) fl_x9_12 hI.P0 rfl rfl ?_
      refine X_iload (tk_X9_runMorning.at 33 rfl) rfl ?_
      refine X_cV1r (lv2 := [(0, _), (1, _)]) (tk_X9_runMorning.at 34 rfl) mv_X2_rowOf lk_x9_131 np_X2_rowOf hI.D.1 (by decide) rfl (Nat.le_of_ble_eq_true rfl) (Nat.le_of_ble_eq_true rfl) rfl (c2_rowOf (r := lnA N k) hI.D rfl (by omega) ?_)
      have hszθ : θ (P + 1 + 20 + 2 * lnA N k) 1 = nI (mny N (lnA N k)) := by rw [← mny_e hw (Eqv7 hw z1) h3]; exact rD_rs1 (WF_u7 hw z1) rθ (by rw [upd_ne _ _ (by omega)]; exact h3)
      refine X_cV0i (lv2 := [(0, _)]) (tk_X9_runMorning.at 35 rfl) mv_X6_size lk_x9_142 np_X6_size (DS_r hI.D (r := lnA N k) (by omega)).1 (by decide) rfl (Nat.le_of_ble_eq_true rfl) (Nat.le_of_ble_eq_true rfl) rfl (c6_size (DS_r hI.D (r := lnA N k) (by omega)) hszθ bm (by decide) ?_)
      refine X_iadd (tk_X9_runMorning.at 36 rfl) ?_
      refine X_istore_n (lv' := [(0, _), (1, _), (2, _), (3, _), (4, _)]) (tk_X9_runMorning.at 37 rfl) (by decide) rfl rfl ?_
      refine X_iinc (lv' := [(0, _), (1, _), (2, _), (3, _), (4, _)]) (tk_X9_runMorning.at 38 rfl) rfl ci_1 (by decide) rfl rfl ?_
      refine X_goto (tgt := 17) (tk_X9_runMorning.at 39 rfl) (by decide) ?_
      rw [nI_1 k, show nI (bef N k) + nI (mny N (lnA N k)) = nI (bef N (k + 1)) from pa (pl _ rfl) (pl _ rfl)]
      exact ih (k + 1) θ (Lt ||| Lo) z1 [(4, _)] (by omega) (Dis_s hd ho) (by rw [l1, hl1]; exact hl2) rθ (by rw [fθ (P + 33 + 4) (by omega) (by omega) (by omega), fθ (P + 33 + 5) (by omega) (by omega) (by omega)]; exact cr) (fun a h1 h2 => (fθ a h1 (by omega) (by omega)).trans (fξ a h1 h2))
  refine X_aload_n (tk_X9_runMorning.at 0 rfl) rfl ?_
  refine X_getR (tk_X9_runMorning.at 1 rfl) fl_x9_19 hI.P0 rfl rfl ?_
  refine X_aload_n (tk_X9_runMorning.at 2 rfl) rfl ?_
  refine X_getR (tk_X9_runMorning.at 3 rfl) fl_x9_12 hI.P0 rfl rfl ?_
  refine X_cV1v (lv2 := [(0, _), (1, _)]) (tk_X9_runMorning.at 4 rfl) mv_X1_cross lk_x9_224 np_X1_cross hI.C.1 (by decide) rfl (Nat.le_of_ble_eq_true rfl) (Nat.le_of_ble_eq_true rfl) rfl (c1_cross hI.C hI.D hw hr (Or.inl (by omega)) (fun cm of hCr => ?_))
  refine X_iconst (tk_X9_runMorning.at 5 rfl) ci_0 ?_
  refine X_istore_n (lv' := [(0, _), (1, _)]) (tk_X9_runMorning.at 6 rfl) (by decide) rfl rfl ?_
  refine X_iconst (tk_X9_runMorning.at 7 rfl) ci_0 ?_
  refine X_istore_n (lv' := [(0, _), (1, _), (2, _)]) (tk_X9_runMorning.at 8 rfl) (by decide) rfl rfl ?_
  refine X_iconst (tk_X9_runMorning.at 9 rfl) ci_0 ?_
  refine X_istore_n (lv' := [(0, _), (1, _), (2, _), (3, _)]) (tk_X9_runMorning.at 10 rfl) (by decide) rfl rfl ?_
  exact loop (nv (N 4)) 0 _ 0 (N 7) [] (Nat.zero_add _) (Dis_0 N) rfl (by rw [upd_self0]; exact rTc (Or.inl (by omega)) hr) (by rw [Tc4, Tc5]; exact hCr) (fun a h1 h2 => Tc_out (by omega))
set_option maxHeartbeats 1000000 in
theorem t_morning {G : Gl} {d : Nat} {S : Sh} {μ : Mu} {P o t q im : Nat} {kp : Option Nat} (hI : Inv G S P o kp t q im μ) : X G mi_X9_morning (d + 60) 0 0 [(0, .ref P)] [] S μ (qi (fun an S1 μ1 => X G mi_X10_morning (d + 60) 0 0 [(0, .ref o)] [] S1 μ1 (qi (Eq2 G P o im an)))) := by
  obtain ⟨N, hN⟩ : ∃ N, μ (o + 1) = N := ⟨_, rfl⟩
  have hw : WF N := hN ▸ hI.wf
  have hr : repD μ (P + 1) N := hN ▸ hI.rep
  have lo := hI.lo
  have b1 := hw.n1.2
  have b2 := hw.n2.2
  have b3 := hw.n3.2
  have b4 := hw.n4.2
  have b5 := hw.n5.2
  have b6 := hw.n6.2
  have hun : ∀ r i r' i' p, On N r i p → On N r' i' p → r = r' ∧ i = i' := fun _ _ _ _ _ h1 h2 => hw.un h1 h2
  have hlu : ∀ k k', k < nv (N 4) → k' < nv (N 4) → N (134 + k) = N (134 + k') → k = k' := fun _ _ h1 h2 e => hw.lu h1 h2 e
  have hnz : nI 0 = 0 := rfl
  have hli : ∀ k, k < nv (N 4) → N (134 + k) = nI (nv (N (134 + k))) ∧ nv (N (134 + k)) < nv (N 3) := fun k h => hw.li h
  refine X_aload_n (tk_X9_morning.at 0 rfl) rfl ?_
  refine X_cV0i (lv2 := [(0, _)]) (tk_X9_morning.at 1 rfl) mv_X9_runMorning lk_x9_285 np_X9_runMorning hI.P0 (by decide) rfl (Nat.le_of_ble_eq_true rfl) (Nat.le_of_ble_eq_true rfl) rfl (c9_runMorning hI hw hr (fun ζ Lt z hd hl1 rζ fζ => ?_))
  refine X_ireturn (tk_X9_morning.at 2 rfl) rfl rfl ?_
  refine c10_morning (N := N) hI.M (by rw [fζ _ (by omega) (by omega)]; exact hN) (by rw [fζ _ (by omega) (by omega)]; exact hI.l0) hw (fun ξ hsq hn1 => ⟨congrArg Prod.snd hl1, ?_⟩)
  have e1 : (dawnL N).1 = z := congrArg Prod.fst hl1
  rw [e1] at hn1
  exact fin_n hI ⟨fun a ha => fζ a (by omega) (by omega), by rw [fζ _ (by omega) (by omega)]; exact hI.nb⟩ hsq (by rw [hn1]; exact repD_of rζ (fun a h1 h2 => hsq.1 a (by omega))) (by rw [hn1]; exact WF_u7 hw z)
set_option maxHeartbeats 1000000 in
theorem t_mornings {G : Gl} {d : Nat} {S : Sh} {μ : Mu} {P o t q im : Nat} {kp : Option Nat} {x y : Int32} (hI : Inv G S P o kp t q im μ) : X G mi_X9_mornings (d + 60) 0 0 [(0, .ref P), (1, .int x), (2, .int y)] [] S μ (qi (fun an S1 μ1 => X G mi_X10_mornings (d + 60) 0 0 [(0, .ref o), (1, .int x), (2, .int y)] [] S1 μ1 (qi (Eq2 G P o im an)))) := by
  obtain ⟨N, hN⟩ : ∃ N, μ (o + 1) = N := ⟨_, rfl⟩
  have hw : WF N := hN ▸ hI.wf
  have hr : repD μ (P + 1) N := hN ▸ hI.rep
  have lo := hI.lo
  have b1 := hw.n1.2
  have b2 := hw.n2.2
  have b3 := hw.n3.2
  have b4 := hw.n4.2
  have b5 := hw.n5.2
  have b6 := hw.n6.2
  have hun : ∀ r i r' i' p, On N r i p → On N r' i' p → r = r' ∧ i = i' := fun _ _ _ _ _ h1 h2 => hw.un h1 h2
  have hlu : ∀ k k', k < nv (N 4) → k' < nv (N 4) → N (134 + k) = N (134 + k') → k = k' := fun _ _ h1 h2 e => hw.lu h1 h2 e
  have hnz : nI 0 = 0 := rfl
  have hli : ∀ k, k < nv (N 4) → N (134 + k) = nI (nv (N (134 + k))) ∧ nv (N (134 + k)) < nv (N 3) := fun k h => hw.li h
  refine X_iload_n (tk_X9_mornings.at 0 rfl) rfl ?_
  refine X_iconst (tk_X9_mornings.at 1 rfl) ci_1 ?_
  refine X_icmp_lt (tgt := 20) (tk_X9_mornings.at 2 rfl) (by decide) (fun c1 => ?_) (fun c1 => ?_)
  · refine X_aload_n (tk_X9_mornings.at 11 rfl) rfl ?_
    refine X_ldc (tk_X9_mornings.at 12 rfl) kn_x9_76 ?_
    refine X_cV1i (lv2 := [(0, _), (1, _)]) (tk_X9_mornings.at 13 rfl) mv_X9_fail lk_x9_77 np_X9_fail hI.P0 (by decide) rfl (Nat.le_of_ble_eq_true rfl) (Nat.le_of_ble_eq_true rfl) rfl (c9_fail (k := 1) hI.P0 hI.E (by decide) (by decide) ?_)
    refine X_ireturn (tk_X9_mornings.at 14 rfl) rfl rfl ?_
    have hbad : ¬ ((1 ≤ x ∧ x ≤ 40) ∧ (0 ≤ y ∧ y ≤ 1)) := by grind
    refine c10_mornings (N := N) hI.M (by rw [su_ne (by omega)]; exact hN) (by rw [su_ne (by omega)]; exact hI.l0) hw (fun _ => ⟨rfl, fin_e hI (Fs.rf hI) (Sq.rf _ _) rfl⟩) (fun ζ m w h1 h2 h3 em ew hsq hn1 => absurd ⟨⟨by rw [em]; exact (nI_leI (a := 1) (b := m) (by decide) (by omega)).mpr h1, by rw [em]; exact (nI_leI (a := m) (b := 40) (by omega) (by decide)).mpr h2⟩, rng ew h3 (by decide)⟩ hbad)
  · refine X_iload_n (tk_X9_mornings.at 3 rfl) rfl ?_
    refine X_bipush (tk_X9_mornings.at 4 rfl) cb_40 ?_
    refine X_icmp_gt (tgt := 20) (tk_X9_mornings.at 5 rfl) (by decide) (fun c2 => ?_) (fun c2 => ?_)
    · refine X_aload_n (tk_X9_mornings.at 11 rfl) rfl ?_
      refine X_ldc (tk_X9_mornings.at 12 rfl) kn_x9_76 ?_
      refine X_cV1i (lv2 := [(0, _), (1, _)]) (tk_X9_mornings.at 13 rfl) mv_X9_fail lk_x9_77 np_X9_fail hI.P0 (by decide) rfl (Nat.le_of_ble_eq_true rfl) (Nat.le_of_ble_eq_true rfl) rfl (c9_fail (k := 1) hI.P0 hI.E (by decide) (by decide) ?_)
      refine X_ireturn (tk_X9_mornings.at 14 rfl) rfl rfl ?_
      have hbad : ¬ ((1 ≤ x ∧ x ≤ 40) ∧ (0 ≤ y ∧ y ≤ 1)) := by grind
      refine c10_mornings (N := N) hI.M (by rw [su_ne (by omega)]; exact hN) (by rw [su_ne (by omega)]; exact hI.l0) hw (fun _ => ⟨rfl, fin_e hI (Fs.rf hI) (Sq.rf _ _) rfl⟩) (fun ζ m w h1 h2 h3 em ew hsq hn1 => absurd ⟨⟨by rw [em]; exact (nI_leI (a := 1) (b := m) (by decide) (by omega)).mpr h1, by rw [em]; exact (nI_leI (a := m) (b := 40) (by omega) (by decide)).mpr h2⟩, rng ew h3 (by decide)⟩ hbad)
    · refine X_iload_n (tk_X9_mornings.at 6 rfl) rfl ?_
      refine X_if_lt (tgt := 20) (tk_X9_mornings.at 7 rfl) (by decide) (fun c3 => ?_) (fun c3 => ?_)
      · refine X_aload_n (tk_X9_mornings.at 11 rfl) rfl ?_
        refine X_ldc (tk_X9_mornings.at 12 rfl) kn_x9_76 ?_
        refine X_cV1i (lv2 := [(0, _), (1, _)]) (tk_X9_mornings.at 13 rfl) mv_X9_fail lk_x9_77 np_X9_fail hI.P0 (by decide) rfl (Nat.le_of_ble_eq_true rfl) (Nat.le_of_ble_eq_true rfl) rfl (c9_fail (k := 1) hI.P0 hI.E (by decide) (by decide) ?_)
        refine X_ireturn (tk_X9_mornings.at 14 rfl) rfl rfl ?_
        have hbad : ¬ ((1 ≤ x ∧ x ≤ 40) ∧ (0 ≤ y ∧ y ≤ 1)) := by grind
        refine c10_mornings (N := N) hI.M (by rw [su_ne (by omega)]; exact hN) (by rw [su_ne (by omega)]; exact hI.l0) hw (fun _ => ⟨rfl, fin_e hI (Fs.rf hI) (Sq.rf _ _) rfl⟩) (fun ζ m w h1 h2 h3 em ew hsq hn1 => absurd ⟨⟨by rw [em]; exact (nI_leI (a := 1) (b := m) (by decide) (by omega)).mpr h1, by rw [em]; exact (nI_leI (a := m) (b := 40) (by omega) (by decide)).mpr h2⟩, rng ew h3 (by decide)⟩ hbad)
      · refine X_iload_n (tk_X9_mornings.at 8 rfl) rfl ?_
        refine X_iconst (tk_X9_mornings.at 9 rfl) ci_1 ?_
        refine X_icmp_le (tgt := 27) (tk_X9_mornings.at 10 rfl) (by decide) (fun c4 => ?_) (fun c4 => ?_)
        · have hcx : 1 ≤ x ∧ x ≤ 40 := by grind
          have hcg : 0 ≤ y ∧ y ≤ 1 := by grind
          obtain ⟨f, ef, hf1, hf⟩ : ∃ f, x = nI f ∧ 1 ≤ f ∧ f ≤ 40 := ⟨nv x, le_lits (a := 1) (b := 40) (by decide) hcx.1 hcx.2 (by decide)⟩
          obtain ⟨g, eg, hg⟩ : ∃ f, y = nI f ∧ f ≤ 1 := ⟨nv y, (le_lits (a := 0) (b := 1) (by decide) hcg.1 hcg.2 (by decide)).1, (le_lits (a := 0) (b := 1) (by decide) hcg.1 hcg.2 (by decide)).2.2⟩
          refine X_iconst (tk_X9_mornings.at 15 rfl) ci_0 ?_
          refine X_istore_n (lv' := [(0, _), (1, _), (2, _), (3, _)]) (tk_X9_mornings.at 16 rfl) (by decide) rfl rfl ?_
          refine X_iconst (tk_X9_mornings.at 17 rfl) ci_0 ?_
          refine X_istore (lv' := [(0, _), (1, _), (2, _), (3, _), (4, _)]) (tk_X9_mornings.at 18 rfl) (by decide) rfl rfl ?_
          refine X_iconst (tk_X9_mornings.at 19 rfl) ci_0 ?_
          refine X_istore (lv' := [(0, _), (1, _), (2, _), (3, _), (4, _), (5, _)]) (tk_X9_mornings.at 20 rfl) (by decide) rfl rfl ?_
          have loop : ∀ (m i : Nat) (M : Nat → Int32) (ξ : Mu) (sa ls : Int32) (rest : List (Nat × Value)), i + m = f → mor 0 m M sa = mor 0 f N 0 → mor 1 m M ls = mor 1 f N 0 → WF M → repD ξ (P + 1) M → (∀ a, (a < P + 1 ∨ P + 39 ≤ a) → ξ a = μ a) → X G mi_X9_mornings (d + 60) 0 35 ([(0, .ref P), (1, .int x), (2, .int y), (3, .int sa), (4, .int ls), (5, .int (nI i))] ++ rest) [] S ξ (qi (fun an S1 μ1 => X G mi_X10_mornings (d + 60) 0 0 [(0, .ref o), (1, .int x), (2, .int y)] [] S1 μ1 (qi (Eq2 G P o im an)))) := by
            intro m
            induction m with
            | zero =>
              intro i M ξ sa ls rest hi h0 h1 wM rξ fξ
              refine X_lvp [0, 1, 2, 3, 4, 5] (lv' := [(0, _), (1, _), (2, _), (3, _), (4, _), (5, _)]) rfl ?_
              have h0x := h0
              have h1x := h1
              refine X_iload (tk_X9_mornings.at 21 rfl) rfl ?_
              refine X_iload_n (tk_X9_mornings.at 22 rfl) rfl ?_
              refine X_icmp_geN (tgt := 76) (tk_X9_mornings.at 23 rfl) (by decide) (pl i rfl) ef (by omega) (by omega) (fun c1 => ?_) (fun c1 => (by exfalso; omega))
              refine X_iload_n (tk_X9_mornings.at 42 rfl) rfl ?_
              refine X_if_neN (tgt := 84) (tk_X9_mornings.at 43 rfl) (by decide) eg (by omega) (fun c2 => ?_) (fun c2 => ?_)
              · refine X_iload (tk_X9_mornings.at 46 rfl) rfl ?_
                refine X_ireturn (tk_X9_mornings.at 47 rfl) rfl rfl ?_
                refine c10_mornings (N := N) hI.M (by rw [fξ _ (by omega)]; exact hN) (by rw [fξ _ (by omega)]; exact hI.l0) hw (fun g => absurd ⟨hcx, hcg⟩ g) (fun ζ m w h1 h2 h3 em ew hsq hn1 => ?_)
                have q1 := nI_j em ef (by omega) (by omega)
                have q2 := nI_j ew eg (by omega) (by omega)
                have q3 : g = 1 := by omega
                subst q1 q2
                rw [q3] at hn1 ⊢
                rw [← h1x] at hn1 ⊢
                refine ⟨rfl, fin_n hI ⟨fun a ha => fξ a (by omega), by rw [fξ _ (by omega)]; exact hI.nb⟩ hsq (by rw [hn1]; exact repD_of rξ (fun a h1 h2 => hsq.1 a (by omega))) (by rw [hn1]; exact wM)⟩
              · refine X_iload_n (tk_X9_mornings.at 44 rfl) rfl ?_
                refine X_goto (tgt := 86) (tk_X9_mornings.at 45 rfl) (by decide) ?_
                refine X_ireturn (tk_X9_mornings.at 47 rfl) rfl rfl ?_
                refine c10_mornings (N := N) hI.M (by rw [fξ _ (by omega)]; exact hN) (by rw [fξ _ (by omega)]; exact hI.l0) hw (fun g => absurd ⟨hcx, hcg⟩ g) (fun ζ m w h1 h2 h3 em ew hsq hn1 => ?_)
                have q1 := nI_j em ef (by omega) (by omega)
                have q2 := nI_j ew eg (by omega) (by omega)
                have q3 : g = 0 := by omega
                subst q1 q2
                rw [q3] at hn1 ⊢
                rw [← h0x] at hn1 ⊢
                refine ⟨rfl, fin_n hI ⟨fun a ha => fξ a (by omega), by rw [fξ _ (by omega)]; exact hI.nb⟩ hsq (by rw [hn1]; exact repD_of rξ (fun a h1 h2 => hsq.1 a (by omega))) (by rw [hn1]; exact wM)⟩
            | succ m ih =>
              intro i M ξ sa ls rest hi h0 h1 wM rξ fξ
              refine X_lvp [0, 1, 2, 3, 4, 5] (lv' := [(0, _), (1, _), (2, _), (3, _), (4, _), (5, _)]) rfl ?_
              refine X_iload (tk_X9_mornings.at 21 rfl) rfl ?_
              refine X_iload_n (tk_X9_mornings.at 22 rfl) rfl ?_
              refine X_icmp_geN (tgt := 76) (tk_X9_mornings.at 23 rfl) (by decide) (pl i rfl) ef (by omega) (by omega) (fun c1 => (by exfalso; omega)) (fun c1 => ?_)
              refine X_aload_n (tk_X9_mornings.at 24 rfl) rfl ?_
              refine X_cV0i (lv2 := [(0, _)]) (tk_X9_mornings.at 25 rfl) mv_X9_runMorning lk_x9_285 np_X9_runMorning hI.P0 (by decide) rfl (Nat.le_of_ble_eq_true rfl) (Nat.le_of_ble_eq_true rfl) rfl (c9_runMorning hI wM rξ (fun ζ Lt z hd hl1 rζ fζ => ?_))
              have e1 : (dawnL M).1 = z := congrArg Prod.fst hl1
              have e2 : (dawnL M).2 = Lt := congrArg Prod.snd hl1
              obtain ⟨nl, hnl, enl⟩ := hd.2
              refine X_istore (lv' := [(0, _), (1, _), (2, _), (3, _), (4, _), (5, _), (6, _)]) (tk_X9_mornings.at 26 rfl) (by decide) rfl rfl ?_
              refine X_iload_n (tk_X9_mornings.at 27 rfl) rfl ?_
              refine X_iload (tk_X9_mornings.at 28 rfl) rfl ?_
              refine X_if_ne (tgt := 57) (tk_X9_mornings.at 29 rfl) (by decide) (fun c2 => ?_) (fun c2 => ?_)
              · refine X_iconst (tk_X9_mornings.at 32 rfl) ci_0 ?_
                refine X_iadd (tk_X9_mornings.at 33 rfl) ?_
                refine X_istore_n (lv' := [(0, _), (1, _), (2, _), (3, _), (4, _), (5, _), (6, _)]) (tk_X9_mornings.at 34 rfl) (by decide) rfl rfl ?_
                refine X_iload (tk_X9_mornings.at 35 rfl) rfl ?_
                refine X_iload (tk_X9_mornings.at 36 rfl) rfl ?_
                refine X_cS1i (lv2 := [(0, _)]) (tk_X9_mornings.at 37 rfl) ms_J6_bitCount_0f7a4 lk_x9_288 np_J6_bitCount_0f7a4 (Nat.le_of_ble_eq_true rfl) (Nat.le_of_ble_eq_true rfl) rfl (cj_bitCount enl hnl ?_)
                refine X_iadd (tk_X9_mornings.at 38 rfl) ?_
                refine X_istore (lv' := [(0, _), (1, _), (2, _), (3, _), (4, _), (5, _), (6, _)]) (tk_X9_mornings.at 39 rfl) (by decide) rfl rfl ?_
                refine X_iinc (lv' := [(0, _), (1, _), (2, _), (3, _), (4, _), (5, _), (6, _)]) (tk_X9_mornings.at 40 rfl) rfl ci_1 (by decide) rfl rfl ?_
                refine X_goto (tgt := 35) (tk_X9_mornings.at 41 rfl) (by decide) ?_
                have ea : addM 0 (dawnL M).2 = 0 := by rw [e2]; unfold addM; rw [if_pos rfl, if_neg c2]
                have eb : addM 1 (dawnL M).2 = nI (slc (nI nl) 10) := by rw [e2]; unfold addM; rw [if_neg (by decide), bs_slc, enl]
                rw [nI_1 i]
                refine ih (i + 1) (upd M 7 z) ζ _ _ [(6, _)] (by omega) ?_ ?_ (WF_u7 wM z) rζ (fun a ha => (fζ a (by omega) (by omega)).trans (fξ a ha))
                · rw [← h0, mor, ea, e1]
                · rw [← h1, mor, eb, e1]
              · refine X_iconst (tk_X9_mornings.at 30 rfl) ci_1 ?_
                refine X_goto (tgt := 58) (tk_X9_mornings.at 31 rfl) (by decide) ?_
                refine X_iadd (tk_X9_mornings.at 33 rfl) ?_
                refine X_istore_n (lv' := [(0, _), (1, _), (2, _), (3, _), (4, _), (5, _), (6, _)]) (tk_X9_mornings.at 34 rfl) (by decide) rfl rfl ?_
                refine X_iload (tk_X9_mornings.at 35 rfl) rfl ?_
                refine X_iload (tk_X9_mornings.at 36 rfl) rfl ?_
                refine X_cS1i (lv2 := [(0, _)]) (tk_X9_mornings.at 37 rfl) ms_J6_bitCount_0f7a4 lk_x9_288 np_J6_bitCount_0f7a4 (Nat.le_of_ble_eq_true rfl) (Nat.le_of_ble_eq_true rfl) rfl (cj_bitCount enl hnl ?_)
                refine X_iadd (tk_X9_mornings.at 38 rfl) ?_
                refine X_istore (lv' := [(0, _), (1, _), (2, _), (3, _), (4, _), (5, _), (6, _)]) (tk_X9_mornings.at 39 rfl) (by decide) rfl rfl ?_
                refine X_iinc (lv' := [(0, _), (1, _), (2, _), (3, _), (4, _), (5, _), (6, _)]) (tk_X9_mornings.at 40 rfl) rfl ci_1 (by decide) rfl rfl ?_
                refine X_goto (tgt := 35) (tk_X9_mornings.at 41 rfl) (by decide) ?_
                have ea : addM 0 (dawnL M).2 = 1 := by rw [e2]; unfold addM; rw [if_pos rfl, if_pos c2]
                have eb : addM 1 (dawnL M).2 = nI (slc (nI nl) 10) := by rw [e2]; unfold addM; rw [if_neg (by decide), bs_slc, enl]
                rw [nI_1 i]
                refine ih (i + 1) (upd M 7 z) ζ _ _ [(6, _)] (by omega) ?_ ?_ (WF_u7 wM z) rζ (fun a ha => (fζ a (by omega) (by omega)).trans (fξ a ha))
                · rw [← h0, mor, ea, e1]
                · rw [← h1, mor, eb, e1]
          exact loop f 0 N μ 0 0 [] (Nat.zero_add _) rfl rfl hw hr (fun _ _ => rfl)
        · refine X_aload_n (tk_X9_mornings.at 11 rfl) rfl ?_
          refine X_ldc (tk_X9_mornings.at 12 rfl) kn_x9_76 ?_
          refine X_cV1i (lv2 := [(0, _), (1, _)]) (tk_X9_mornings.at 13 rfl) mv_X9_fail lk_x9_77 np_X9_fail hI.P0 (by decide) rfl (Nat.le_of_ble_eq_true rfl) (Nat.le_of_ble_eq_true rfl) rfl (c9_fail (k := 1) hI.P0 hI.E (by decide) (by decide) ?_)
          refine X_ireturn (tk_X9_mornings.at 14 rfl) rfl rfl ?_
          have hbad : ¬ ((1 ≤ x ∧ x ≤ 40) ∧ (0 ≤ y ∧ y ≤ 1)) := by grind
          refine c10_mornings (N := N) hI.M (by rw [su_ne (by omega)]; exact hN) (by rw [su_ne (by omega)]; exact hI.l0) hw (fun _ => ⟨rfl, fin_e hI (Fs.rf hI) (Sq.rf _ _) rfl⟩) (fun ζ m w h1 h2 h3 em ew hsq hn1 => absurd ⟨⟨by rw [em]; exact (nI_leI (a := 1) (b := m) (by decide) (by omega)).mpr h1, by rw [em]; exact (nI_leI (a := m) (b := 40) (by omega) (by decide)).mpr h2⟩, rng ew h3 (by decide)⟩ hbad)
