theorem c10_crossY {G : Gl} {d : Nat} {S : Sh} {μ : Mu} {o : Nat} {q : Nat → Nat} {N : Nat → Int32} {K : Sh → Mu → Prop} (hM : MS S o q) (hN : μ (o + 1) = N) (hw : WF N) (hK : ∀ ν, Sy o μ ν → ν o 17 = nI (ovr N (nv (N 4))) → K S ν) : X G mi_X10_cross (d + 3) 0 0 [(0, .ref o)] [] S μ (qv K) :=
  c10_cross hM hN hw (fun cm bf _ => hK _ Tst_sy (by rw [Tsto, upd_at]))
noncomputable def lts (P : Nat → Prop) : Nat → Option Nat
  | 0 => none
  | k + 1 => @ite _ (P k) (Classical.propDecidable _) (some k) (lts P k)
theorem lts_t {P : Nat → Prop} {k : Nat} (h : P k) : lts P (k + 1) = some k := if_pos h
theorem lts_f {P : Nat → Prop} {k : Nat} (h : ¬ P k) : lts P (k + 1) = lts P k := if_neg h
theorem lts_in {P : Nat → Prop} : ∀ {k c : Nat}, lts P k = some c → c < k ∧ P c
  | 0, c, h => by cases h
  | k + 1, c, h => by
    by_cases g : P k
    · rw [lts_t g] at h; cases h; exact ⟨by omega, g⟩
    · rw [lts_f g] at h
      have := lts_in h
      exact ⟨by omega, this.2⟩
def oI (b : Option Nat) : Int32 := match b with
  | none => -1
  | some c => nI c
abbrev ltP (N : Nat → Int32) (m s : Nat) : Prop := ovr (upd N 0 (nI s)) (nv (N 4)) ≤ m
theorem upd_self0 (N : Nat → Int32) (k : Nat) : upd N k (N k) = N := by
  funext z
  by_cases c : z = k
  · rw [c, upd_at]
  · rw [upd_ne _ _ c]
set_option maxHeartbeats 1000000 in
theorem c10_best {G : Gl} {d : Nat} {S : Sh} {μ : Mu} {o : Nat} {q : Nat → Nat} {x y : Int32} {N : Nat → Int32} {K : Int32 → Sh → Mu → Prop} (hM : MS S o q) (hN : μ (o + 1) = N) (hl0 : μ o 5 = 0) (hw : WF N) (k1 : ¬ ((0 ≤ x ∧ x ≤ 1439) ∧ (x ≤ y ∧ y ≤ 1439)) → K (-1000000001) S (er μ o 1)) (hK : ∀ ν fr to t c, fr ≤ to → to ≤ 1439 → x = nI fr → y = nI to → Sq o μ ν → ν (o + 1) = N → bw (fun _ => True) (tlM N) fr (to + 1 - fr) = some (t, c) → K (nI c) S ν) : X G mi_X10_best (d + 8) 0 0 [(0, .ref o), (1, .int x), (2, .int y)] [] S μ (qi K) := by
  refine X_iload_n (tk_X10_best.at 0 rfl) rfl ?_
  refine X_iconst (tk_X10_best.at 1 rfl) ci_0 ?_
  refine X_sipush (tk_X10_best.at 2 rfl) cs_1439 ?_
  refine X_cS3i (lv2 := [(0, _), (1, _), (2, _)]) (tk_X10_best.at 3 rfl) ms_X10_within lk_x10_69 np_X10_within (Nat.le_of_ble_eq_true rfl) (Nat.le_of_ble_eq_true rfl) rfl (c10_within (fun h5 h1005 => ?_) (fun h5 => ?_))
  · obtain ⟨ew5, lw5, bw5⟩ := le_lits (a := 0) (b := 1439) (by decide) h5 h1005 (by decide)
    refine X_if_eq (tgt := 22) (tk_X10_best.at 4 rfl) (by decide) (fun h => absurd h (by decide)) (fun _ => ?_)
    refine X_iload_n (tk_X10_best.at 5 rfl) rfl ?_
    refine X_iload_n (tk_X10_best.at 6 rfl) rfl ?_
    refine X_sipush (tk_X10_best.at 7 rfl) cs_1439 ?_
    refine X_cS3i (lv2 := [(0, _), (1, _), (2, _)]) (tk_X10_best.at 8 rfl) ms_X10_within lk_x10_69 np_X10_within (Nat.le_of_ble_eq_true rfl) (Nat.le_of_ble_eq_true rfl) rfl (c10_within (fun h16 h1016 => ?_) (fun h16 => ?_))
    · refine X_if_ne (tgt := 29) (tk_X10_best.at 9 rfl) (by decide) (fun _ => ?_) (fun h => absurd h (by decide))
      obtain ⟨ey, hft, hto⟩ := le_lits (a := nv x) (b := 1439) (by decide) (by rw [← ew5]; exact h16) h1016 (by omega)
      have ex := ew5
      generalize nv x = fr at ex hft
      generalize nv y = to at ey hft hto
      refine X_aload_n (tk_X10_best.at 14 rfl) rfl ?_
      refine X_getR (tk_X10_best.at 15 rfl) fl_x10_9 hM.f0 rfl rfl ?_
      refine X_iconst (tk_X10_best.at 16 rfl) ci_0 ?_
      refine X_ialdN (k := 0) (tk_X10_best.at 17 rfl) hM.f1 (pz (pl 0 rfl) (by omega)) (by omega) (by decide) ?_
      rw [hN]
      refine X_istore_n (lv' := [(0, _), (1, _), (2, _), (3, _)]) (tk_X10_best.at 18 rfl) (by decide) rfl rfl ?_
      refine X_iload_n (tk_X10_best.at 19 rfl) rfl ?_
      refine X_istore (lv' := [(0, _), (1, _), (2, _), (3, _), (4, _)]) (tk_X10_best.at 20 rfl) (by decide) rfl rfl ?_
      refine X_aload_n (tk_X10_best.at 21 rfl) rfl ?_
      refine X_iconst (tk_X10_best.at 22 rfl) ci_m1 ?_
      refine X_putI (tk_X10_best.at 23 rfl) fl_x10_275 hM.f0 rfl rfl ⟨rfl, rfl⟩ ?_
      refine X_iload_n (tk_X10_best.at 24 rfl) rfl ?_
      refine X_istore (lv' := [(0, _), (1, _), (2, _), (3, _), (4, _), (5, _)]) (tk_X10_best.at 25 rfl) (by decide) rfl rfl ?_
      have loop : ∀ (m s : Nat) (ν : Mu) (bl : Int32) (N1 : Nat → Int32) (rest : List (Nat × Value)), s + m = to + 1 → fr ≤ s → Sq o μ ν → True → ν (o + 1) = N1 → (∀ x, upd N1 0 x = upd N 0 x) → BA o ν bl (bw (fun _ => True) (tlM N) fr (s - fr)) → X G mi_X10_best (d + 8) 0 47 ([(0, .ref o), (1, .int x), (2, .int y), (3, .int (N 0)), (4, .int bl), (5, .int (nI s))] ++ rest) [] S ν (qi K) := by
        intro m
        induction m with
        | zero =>
          intro s ν bl N1 rest hs h1s hsq h3 hn1 hup hb
          refine X_lvp [0, 1, 2, 3, 4, 5] (lv' := [(0, _), (1, _), (2, _), (3, _), (4, _), (5, _)]) rfl ?_
          refine X_iload (tk_X10_best.at 26 rfl) rfl ?_
          refine X_iload_n (tk_X10_best.at 27 rfl) rfl ?_
          refine X_icmp_gtN (tgt := 99) (tk_X10_best.at 28 rfl) (by decide) (pl s rfl) ey (by omega) (by omega) (fun c1 => ?_) (fun c1 => (by exfalso; omega))
          refine X_aload_n (tk_X10_best.at 51 rfl) rfl ?_
          refine X_getR (tk_X10_best.at 52 rfl) fl_x10_9 hM.f0 rfl rfl ?_
          refine X_iconst (tk_X10_best.at 53 rfl) ci_0 ?_
          refine X_iload_n (tk_X10_best.at 54 rfl) rfl ?_
          refine X_iastN (k := 0) (tk_X10_best.at 55 rfl) hM.f1 (pz (pl 0 rfl) (by omega)) (by omega) (by decide) ?_
          refine X_iload (tk_X10_best.at 56 rfl) rfl ?_
          refine X_ireturn (tk_X10_best.at 57 rfl) rfl rfl ?_
          obtain ⟨⟨t, c⟩, hbw⟩ := bw_some (ok := fun _ => True) (tl := (tlM N)) (a := fr) trivial (to + 1 - fr) (by omega)
          rw [show s - fr = to + 1 - fr by omega, hbw] at hb
          obtain ⟨z1, z2, z3⟩ := hb
          rw [z3, su_eq, hn1, hup]
          exact hK (Mx ν (o + 1) (upd N 0 (N 0))) fr to t c hft hto ex ey (hsq.mx _ (by omega)) (by rw [Mx_same]; funext z; by_cases c : z = 0; rw [c, upd_at]; rw [upd_ne _ _ c]) hbw
        | succ m ih =>
          intro s ν bl N1 rest hs h1s hsq h3 hn1 hup hb
          refine X_lvp [0, 1, 2, 3, 4, 5] (lv' := [(0, _), (1, _), (2, _), (3, _), (4, _), (5, _)]) rfl ?_
          refine X_iload (tk_X10_best.at 26 rfl) rfl ?_
          refine X_iload_n (tk_X10_best.at 27 rfl) rfl ?_
          refine X_icmp_gtN (tgt := 99) (tk_X10_best.at 28 rfl) (by decide) (pl s rfl) ey (by omega) (by omega) (fun c1 => (by exfalso; omega)) (fun c1 => ?_)
          refine X_aload_n (tk_X10_best.at 29 rfl) rfl ?_
          refine X_getR (tk_X10_best.at 30 rfl) fl_x10_9 hM.f0 rfl rfl ?_
          refine X_iconst (tk_X10_best.at 31 rfl) ci_0 ?_
          refine X_iload (tk_X10_best.at 32 rfl) rfl ?_
          refine X_iastN (k := 0) (tk_X10_best.at 33 rfl) hM.f1 (pz (pl 0 rfl) (by omega)) (by omega) (by decide) ?_
          rw [su_eq, hn1, hup]
          refine X_aload_n (tk_X10_best.at 34 rfl) rfl ?_
          have wft : WF (upd N 0 (nI s)) := WF_u0 hw (okN_of (by omega) (by decide))
          refine X_cV0i (lv2 := [(0, _)]) (tk_X10_best.at 35 rfl) mv_X10_tollOf lk_x10_264 np_X10_tollOf hM.f0 (by decide) rfl (Nat.le_of_ble_eq_true rfl) (Nat.le_of_ble_eq_true rfl) rfl (c10_tollY hM Mx_same (by rw [Mx_ne (by omega)]; exact hsq.2.2.1.trans hl0) wft (fun ξ hsy hov => ?_))
          have tb := toll_le wft
          have x20 : ξ o 20 = ν o 20 := by rw [hsy.2 20 (by decide), Mx_ne (by omega)]
          have x1 : ξ (o + 1) = (upd N 0 (nI s)) := by rw [hsy.1 _ (by omega) (by omega) (by omega) (by omega) (by omega), Mx_same]
          have x3 : ξ (o + 3) = ν (o + 3) := by rw [hsy.1 _ (by omega) (by omega) (by omega) (by omega) (by omega), Mx_ne (by omega)]
          have xsq : Sq o μ ξ := (hsq.mx _ (by omega)).tr hsy.sx
          clear hsy hov
          refine X_istore (lv' := [(0, _), (1, _), (2, _), (3, _), (4, _), (5, _), (6, _)]) (tk_X10_best.at 36 rfl) (by decide) rfl rfl ?_
          have x3b : True := trivial
          have es : s = fr + (s - fr) := by omega
          have etl : toll (upd N 0 (nI s)) = (tlM N) (fr + (s - fr)) := by rw [← es]; rfl
          have hnext : s + 1 - fr = (s - fr) + 1 := by omega
          generalize hbb : bw (fun _ => True) (tlM N) fr (s - fr) = b at hb
          cases b with
          | none =>
            have hbt : btr none (toll (upd N 0 (nI s))) := trivial
            have e20 : ξ o 20 = -1 := x20.trans hb
            refine X_aload_n (tk_X10_best.at 37 rfl) rfl ?_
            refine X_getI (tk_X10_best.at 38 rfl) fl_x10_275 hM.f0 rfl ?_
            rw [e20]
            refine X_if_lt (tgt := 83) (tk_X10_best.at 39 rfl) (by decide) (fun _ => ?_) (fun h => absurd h (by decide))
            refine X_iload (tk_X10_best.at 44 rfl) rfl ?_
            refine X_istore (lv' := [(0, _), (1, _), (2, _), (3, _), (4, _), (5, _), (6, _)]) (tk_X10_best.at 45 rfl) (by decide) rfl rfl ?_
            refine X_aload_n (tk_X10_best.at 46 rfl) rfl ?_
            refine X_iload (tk_X10_best.at 47 rfl) rfl ?_
            refine X_putI (tk_X10_best.at 48 rfl) fl_x10_275 hM.f0 rfl rfl ⟨rfl, rfl⟩ ?_
            refine X_iinc (lv' := [(0, _), (1, _), (2, _), (3, _), (4, _), (5, _), (6, _)]) (tk_X10_best.at 49 rfl) rfl ci_1 (by decide) rfl rfl ?_
            refine X_goto (tgt := 47) (tk_X10_best.at 50 rfl) (by decide) ?_
            rw [nI_1 s]
            refine ih (s + 1) (su ξ o 20 (nI (toll (upd N 0 (nI s))))) (nI s) (upd N 0 (nI s)) [(6, _)] (by omega) (by omega) (xsq.su _ (by decide)) trivial (by rw [su_ne (by omega)]; exact x1) (fun x => upd_upd _ _ _ _) ?_
            rw [hnext, bw_t trivial (by rw [hbb, ← etl]; exact hbt), ← etl, ← es]
            exact ⟨by rw [su_same]; exact upd_at _ _ _, tb, rfl⟩
          | some x =>
            obtain ⟨t, c⟩ := x
            obtain ⟨c20, ct, cl⟩ := hb
            refine X_aload_n (tk_X10_best.at 37 rfl) rfl ?_
            refine X_getI (tk_X10_best.at 38 rfl) fl_x10_275 hM.f0 rfl ?_
            refine X_if_ltN (tgt := 83) (tk_X10_best.at 39 rfl) (by decide) (x20.trans c20) (by omega) ?_
            refine X_iload (tk_X10_best.at 40 rfl) rfl ?_
            refine X_aload_n (tk_X10_best.at 41 rfl) rfl ?_
            refine X_getI (tk_X10_best.at 42 rfl) fl_x10_275 hM.f0 rfl ?_
            refine X_icmp_geN (tgt := 93) (tk_X10_best.at 43 rfl) (by decide) (pl (toll (upd N 0 (nI s))) rfl) (x20.trans c20) (by omega) (by omega) (fun c2 => ?_) (fun c2 => ?_)
            · refine X_iinc (lv' := [(0, _), (1, _), (2, _), (3, _), (4, _), (5, _), (6, _)]) (tk_X10_best.at 49 rfl) rfl ci_1 (by decide) rfl rfl ?_
              refine X_goto (tgt := 47) (tk_X10_best.at 50 rfl) (by decide) ?_
              rw [nI_1 s]
              refine ih (s + 1) ξ bl (upd N 0 (nI s)) [(6, _)] (by omega) (by omega) xsq x3b x1 (fun x => upd_upd _ _ _ _) ?_
              rw [hnext, bw_f (by rw [hbb, ← etl]; exact Nat.not_lt.mpr (by omega)), hbb]
              exact ⟨x20.trans c20, ct, cl⟩
            · refine X_iload (tk_X10_best.at 44 rfl) rfl ?_
              refine X_istore (lv' := [(0, _), (1, _), (2, _), (3, _), (4, _), (5, _), (6, _)]) (tk_X10_best.at 45 rfl) (by decide) rfl rfl ?_
              refine X_aload_n (tk_X10_best.at 46 rfl) rfl ?_
              refine X_iload (tk_X10_best.at 47 rfl) rfl ?_
              refine X_putI (tk_X10_best.at 48 rfl) fl_x10_275 hM.f0 rfl rfl ⟨rfl, rfl⟩ ?_
              refine X_iinc (lv' := [(0, _), (1, _), (2, _), (3, _), (4, _), (5, _), (6, _)]) (tk_X10_best.at 49 rfl) rfl ci_1 (by decide) rfl rfl ?_
              refine X_goto (tgt := 47) (tk_X10_best.at 50 rfl) (by decide) ?_
              have hbt : btr (some (t, c)) (toll (upd N 0 (nI s))) := (show toll (upd N 0 (nI s)) < t by omega)
              rw [nI_1 s]
              refine ih (s + 1) (su ξ o 20 (nI (toll (upd N 0 (nI s))))) (nI s) (upd N 0 (nI s)) [(6, _)] (by omega) (by omega) (xsq.su _ (by decide)) trivial (by rw [su_ne (by omega)]; exact x1) (fun x => upd_upd _ _ _ _) ?_
              rw [hnext, bw_t trivial (by rw [hbb, ← etl]; exact hbt), ← etl, ← es]
              exact ⟨by rw [su_same]; exact upd_at _ _ _, tb, rfl⟩
      have z := loop (to + 1 - fr) fr (su μ o 20 (-1)) x N [] (by omega) (Nat.le_refl _) ((Sq.rf o μ).su _ (by decide)) trivial (by rw [su_ne (by omega)]; exact hN) (fun x => rfl) (by rw [Nat.sub_self]; show su _ _ _ _ _ _ = _; rw [su_same]; exact upd_at _ _ _)
      rw [← ex] at z
      exact z
    · refine X_if_ne (tgt := 29) (tk_X10_best.at 9 rfl) (by decide) (fun h => absurd h (by decide)) (fun _ => ?_)
      refine X_aload_n (tk_X10_best.at 10 rfl) rfl ?_
      refine X_ldc (tk_X10_best.at 11 rfl) kn_x10_81 ?_
      refine X_cV1i (lv2 := [(0, _), (1, _)]) (tk_X10_best.at 12 rfl) mv_X10_finding lk_x10_82 np_X10_finding hM.f0 (by decide) rfl (Nat.le_of_ble_eq_true rfl) (Nat.le_of_ble_eq_true rfl) rfl (c10_finding (k := 1) hM (by decide) (by decide) ?_)
      refine X_ireturn (tk_X10_best.at 13 rfl) rfl rfl ?_
      exact k1 (fun g => by first | exact h16 g.2 | exact h5 g.1)
  · refine X_if_eq (tgt := 22) (tk_X10_best.at 4 rfl) (by decide) (fun _ => ?_) (fun h => absurd h (by decide))
    refine X_aload_n (tk_X10_best.at 10 rfl) rfl ?_
    refine X_ldc (tk_X10_best.at 11 rfl) kn_x10_81 ?_
    refine X_cV1i (lv2 := [(0, _), (1, _)]) (tk_X10_best.at 12 rfl) mv_X10_finding lk_x10_82 np_X10_finding hM.f0 (by decide) rfl (Nat.le_of_ble_eq_true rfl) (Nat.le_of_ble_eq_true rfl) rfl (c10_finding (k := 1) hM (by decide) (by decide) ?_)
    refine X_ireturn (tk_X10_best.at 13 rfl) rfl rfl ?_
    exact k1 (fun g => by first | exact h16 g.2 | exact h5 g.1)
set_option maxHeartbeats 1000000 in
theorem c10_space {G : Gl} {d : Nat} {S : Sh} {μ : Mu} {o : Nat} {q : Nat → Nat} {r : Int32} {K : Int32 → Sh → Mu → Prop} (hM : MS S o q) (hw : WF (μ (o + 1))) (hl0 : μ o 5 = 0) (k1 : ¬ In r (nv (μ (o + 1) 3)) → K (-1000000001) S (er μ o 1)) (k2 : ∀ a, a < nv (μ (o + 1) 3) → r = nI a → (∀ k, k < nv (μ (o + 1) 4) → ¬ μ (o + 1) (134 + k) = nI a) → K (-1000000003) S (er μ o 3)) (k3 : ∀ ν a k t c, a < nv (μ (o + 1) 3) → k < nv (μ (o + 1) 4) → r = nI a → μ (o + 1) (134 + k) = nI a → Sq o μ ν → ν (o + 1) = μ (o + 1) → bw (fun _ => True) (tlS (μ (o + 1)) a) 1 20 = some (t, c) → K (nI c) S ν) : X G mi_X10_space (d + 9) 0 0 [(0, .ref o), (1, .int r)] [] S μ (qi K) := by
  have w0 := hw.n0
  have w1 := hw.n1
  have w2 := hw.n2
  have w3 := hw.n3
  have w4 := hw.n4
  have w5 := hw.n5
  have w6 := hw.n6
  have b1 := w1.2
  have b2 := w2.2
  have b3 := w3.2
  have b4 := w4.2
  have b5 := w5.2
  have b6 := w6.2
  have b0 := w0.2
  refine X_aload_n (tk_X10_space.at 0 rfl) rfl ?_
  refine X_iload_n (tk_X10_space.at 1 rfl) rfl ?_
  refine X_iconst (tk_X10_space.at 2 rfl) ci_3 ?_
  refine X_cV2i (lv2 := [(0, _), (1, _), (2, _)]) (tk_X10_space.at 3 rfl) mv_X10_is lk_x10_90 np_X10_is hM.f0 (by decide) rfl (Nat.le_of_ble_eq_true rfl) (Nat.le_of_ble_eq_true rfl) rfl (c10_is hM (pl 3 rfl) (by decide) w3.1 (by omega) (fun j3 hj3 ej3 => ?_) (fun hj3 => ?_))
  · refine X_if_ne (tgt := 16) (tk_X10_space.at 4 rfl) (by decide) (fun _ => ?_) (fun h => absurd h (by decide))
    refine X_aload_n (tk_X10_space.at 9 rfl) rfl ?_
    refine X_iload_n (tk_X10_space.at 10 rfl) rfl ?_
    refine X_cV1i (lv2 := [(0, _), (1, _)]) (tk_X10_space.at 11 rfl) mv_X10_inLine lk_x10_139 np_X10_inLine hM.f0 (by decide) rfl (Nat.le_of_ble_eq_true rfl) (Nat.le_of_ble_eq_true rfl) rfl (c10_inLine hM hw (fun k18 hk18 h18 => ?_) (fun h18 => ?_))
    · refine X_if_geN (tgt := 33) (tk_X10_space.at 12 rfl) (by decide) (pl k18 rfl) (by omega) ?_
      refine X_aload_n (tk_X10_space.at 17 rfl) rfl ?_
      refine X_iload_n (tk_X10_space.at 18 rfl) rfl ?_
      refine X_cV1i (lv2 := [(0, _), (1, _)]) (tk_X10_space.at 19 rfl) mv_X10_spaceOf lk_x10_288 np_X10_spaceOf hM.f0 (by decide) rfl (Nat.le_of_ble_eq_true rfl) (Nat.le_of_ble_eq_true rfl) rfl (c10_spaceOf hM rfl hl0 hw ej3 hj3 (fun ν t c hsq h1 hbw => ?_))
      refine X_ireturn (tk_X10_space.at 20 rfl) rfl rfl ?_
      exact k3 ν j3 k18 t c hj3 hk18 ej3 (by rw [← ej3]; exact h18) hsq h1 hbw
    · refine X_if_ge (tgt := 33) (tk_X10_space.at 12 rfl) (by decide) (fun h => absurd h (by decide)) (fun _ => ?_)
      refine X_aload_n (tk_X10_space.at 13 rfl) rfl ?_
      refine X_ldc (tk_X10_space.at 14 rfl) kn_x10_131 ?_
      refine X_cV1i (lv2 := [(0, _), (1, _)]) (tk_X10_space.at 15 rfl) mv_X10_finding lk_x10_82 np_X10_finding hM.f0 (by decide) rfl (Nat.le_of_ble_eq_true rfl) (Nat.le_of_ble_eq_true rfl) rfl (c10_finding (k := 3) hM (by decide) (by decide) ?_)
      refine X_goto (tgt := 38) (tk_X10_space.at 16 rfl) (by decide) ?_
      refine X_ireturn (tk_X10_space.at 20 rfl) rfl rfl ?_
      exact k2 j3 hj3 ej3 (fun k hk z => h18 k hk (by rw [ej3]; exact z))
  · refine X_if_ne (tgt := 16) (tk_X10_space.at 4 rfl) (by decide) (fun h => absurd h (by decide)) (fun _ => ?_)
    refine X_aload_n (tk_X10_space.at 5 rfl) rfl ?_
    refine X_ldc (tk_X10_space.at 6 rfl) kn_x10_81 ?_
    refine X_cV1i (lv2 := [(0, _), (1, _)]) (tk_X10_space.at 7 rfl) mv_X10_finding lk_x10_82 np_X10_finding hM.f0 (by decide) rfl (Nat.le_of_ble_eq_true rfl) (Nat.le_of_ble_eq_true rfl) rfl (c10_finding (k := 1) hM (by decide) (by decide) ?_)
    refine X_ireturn (tk_X10_space.at 8 rfl) rfl rfl ?_
    exact k1 (In_no (by omega) hj3)
set_option maxHeartbeats 1000000 in
theorem c10_latest {G : Gl} {d : Nat} {S : Sh} {μ : Mu} {o : Nat} {q : Nat → Nat} {x : Int32} {N : Nat → Int32} {K : Int32 → Sh → Mu → Prop} (hM : MS S o q) (hN : μ (o + 1) = N) (hw : WF N) (k1 : ¬ (0 ≤ x ∧ x ≤ 9999) → K (-1000000001) S (er μ o 1)) (k2 : ∀ mi, mi ≤ 9999 → x = nI mi → lts (ltP N mi) 1440 = none → ∀ ν, Sq o μ ν → ν (o + 1) = N → K (-1000000002) S (er ν o 2)) (k3 : ∀ mi c, mi ≤ 9999 → x = nI mi → lts (ltP N mi) 1440 = some c → ∀ ν, Sq o μ ν → ν (o + 1) = N → K (nI c) S ν) : X G mi_X10_latest (d + 4) 0 0 [(0, .ref o), (1, .int x)] [] S μ (qi K) := by
  refine X_iload_n (tk_X10_latest.at 0 rfl) rfl ?_
  refine X_iconst (tk_X10_latest.at 1 rfl) ci_0 ?_
  refine X_sipush (tk_X10_latest.at 2 rfl) cs_9999 ?_
  refine X_cS3i (lv2 := [(0, _), (1, _), (2, _)]) (tk_X10_latest.at 3 rfl) ms_X10_within lk_x10_69 np_X10_within (Nat.le_of_ble_eq_true rfl) (Nat.le_of_ble_eq_true rfl) rfl (c10_within (fun h5 h1005 => ?_) (fun h5 => ?_))
  · obtain ⟨ew5, lw5, bw5⟩ := le_lits (a := 0) (b := 9999) (by decide) h5 h1005 (by decide)
    refine X_if_ne (tgt := 18) (tk_X10_latest.at 4 rfl) (by decide) (fun _ => ?_) (fun h => absurd h (by decide))
    refine X_aload_n (tk_X10_latest.at 9 rfl) rfl ?_
    refine X_getR (tk_X10_latest.at 10 rfl) fl_x10_9 hM.f0 rfl rfl ?_
    refine X_iconst (tk_X10_latest.at 11 rfl) ci_0 ?_
    refine X_ialdN (k := 0) (tk_X10_latest.at 12 rfl) hM.f1 (pz (pl 0 rfl) (by omega)) (by omega) (by decide) ?_
    rw [hN]
    refine X_istore_n (lv' := [(0, _), (1, _), (2, _)]) (tk_X10_latest.at 13 rfl) (by decide) rfl rfl ?_
    refine X_iconst (tk_X10_latest.at 14 rfl) ci_m1 ?_
    refine X_istore_n (lv' := [(0, _), (1, _), (2, _), (3, _)]) (tk_X10_latest.at 15 rfl) (by decide) rfl rfl ?_
    refine X_iconst (tk_X10_latest.at 16 rfl) ci_0 ?_
    refine X_istore (lv' := [(0, _), (1, _), (2, _), (3, _), (4, _)]) (tk_X10_latest.at 17 rfl) (by decide) rfl rfl ?_
    have ex := ew5
    have hmi : nv x ≤ 9999 := bw5
    generalize nv x = mi at ex hmi
    have loop : ∀ (m s : Nat) (ν : Mu) (N1 : Nat → Int32), s + m = 1440 → Sq o μ ν → ν (o + 1) = N1 → (∀ x, upd N1 0 x = upd N 0 x) → X G mi_X10_latest (d + 4) 0 30 [(0, .ref o), (1, .int x), (2, .int (N 0)), (3, .int (oI (lts (ltP N mi) s))), (4, .int (nI s))] [] S ν (qi K) := by
      intro m
      induction m with
      | zero =>
        intro s ν N1 hs hsq hn1 hup
        have e1440 : s = 1440 := by omega
        subst e1440
        refine X_iload (tk_X10_latest.at 18 rfl) rfl ?_
        refine X_sipush (tk_X10_latest.at 19 rfl) cs_1440 ?_
        refine X_icmp_geN (tgt := 71) (tk_X10_latest.at 20 rfl) (by decide) (pl 1440 rfl) (pl 1440 rfl) (by omega) (by omega) (fun c1 => ?_) (fun c1 => (by exfalso; omega))
        refine X_aload_n (tk_X10_latest.at 38 rfl) rfl ?_
        refine X_getR (tk_X10_latest.at 39 rfl) fl_x10_9 hM.f0 rfl rfl ?_
        refine X_iconst (tk_X10_latest.at 40 rfl) ci_0 ?_
        refine X_iload_n (tk_X10_latest.at 41 rfl) rfl ?_
        refine X_iastN (k := 0) (tk_X10_latest.at 42 rfl) hM.f1 (pz (pl 0 rfl) (by omega)) (by omega) (by decide) ?_
        rw [su_eq, hn1, hup, upd_self0]
        cases hlt : lts (ltP N mi) 1440 with
        | none =>
          rw [show oI none = -1 from rfl]
          refine X_iload_n (tk_X10_latest.at 43 rfl) rfl ?_
          refine X_if_ge (tgt := 91) (tk_X10_latest.at 44 rfl) (by decide) (fun h => absurd h (by decide)) (fun _ => ?_)
          refine X_aload_n (tk_X10_latest.at 45 rfl) rfl ?_
          refine X_ldc (tk_X10_latest.at 46 rfl) kn_x10_108 ?_
          refine X_cV1i (lv2 := [(0, _), (1, _)]) (tk_X10_latest.at 47 rfl) mv_X10_finding lk_x10_82 np_X10_finding hM.f0 (by decide) rfl (Nat.le_of_ble_eq_true rfl) (Nat.le_of_ble_eq_true rfl) rfl (c10_finding (k := 2) hM (by decide) (by decide) ?_)
          refine X_goto (tgt := 92) (tk_X10_latest.at 48 rfl) (by decide) ?_
          refine X_ireturn (tk_X10_latest.at 50 rfl) rfl rfl ?_
          exact k2 mi hmi ex hlt (Mx ν (o + 1) N) (hsq.mx _ (by omega)) Mx_same
        | some c =>
          have hcb := (lts_in hlt).1
          rw [show oI (some c) = nI c from rfl]
          refine X_iload_n (tk_X10_latest.at 43 rfl) rfl ?_
          refine X_if_geN (tgt := 91) (tk_X10_latest.at 44 rfl) (by decide) (pl c rfl) (by omega) ?_
          refine X_iload_n (tk_X10_latest.at 49 rfl) rfl ?_
          refine X_ireturn (tk_X10_latest.at 50 rfl) rfl rfl ?_
          exact k3 mi c hmi ex hlt (Mx ν (o + 1) N) (hsq.mx _ (by omega)) Mx_same
      | succ m ih =>
        intro s ν N1 hs hsq hn1 hup
        refine X_iload (tk_X10_latest.at 18 rfl) rfl ?_
        refine X_sipush (tk_X10_latest.at 19 rfl) cs_1440 ?_
        refine X_icmp_geN (tgt := 71) (tk_X10_latest.at 20 rfl) (by decide) (pl s rfl) (pl 1440 rfl) (by omega) (by omega) (fun c1 => (by exfalso; omega)) (fun c1 => ?_)
        refine X_aload_n (tk_X10_latest.at 21 rfl) rfl ?_
        refine X_getR (tk_X10_latest.at 22 rfl) fl_x10_9 hM.f0 rfl rfl ?_
        refine X_iconst (tk_X10_latest.at 23 rfl) ci_0 ?_
        refine X_iload (tk_X10_latest.at 24 rfl) rfl ?_
        refine X_iastN (k := 0) (tk_X10_latest.at 25 rfl) hM.f1 (pz (pl 0 rfl) (by omega)) (by omega) (by decide) ?_
        rw [su_eq, hn1, hup]
        refine X_aload_n (tk_X10_latest.at 26 rfl) rfl ?_
        have wft : WF (upd N 0 (nI s)) := WF_u0 hw (okN_of (by omega) (by decide))
        have e4 : (upd N 0 (nI s)) 4 = N 4 := upd_ne _ _ (by decide)
        have ob := ovr_le wft (nv (N 4)) (by rw [e4]; exact Nat.le_refl _)
        refine X_cV0v (lv2 := [(0, _)]) (tk_X10_latest.at 27 rfl) mv_X10_cross lk_x10_255 np_X10_cross hM.f0 (by decide) rfl (Nat.le_of_ble_eq_true rfl) (Nat.le_of_ble_eq_true rfl) rfl (c10_crossY hM Mx_same wft (fun ξ hsy hov => ?_))
        rw [e4] at hov
        refine X_aload_n (tk_X10_latest.at 28 rfl) rfl ?_
        refine X_getI (tk_X10_latest.at 29 rfl) fl_x10_249 hM.f0 rfl ?_
        refine X_iload_n (tk_X10_latest.at 30 rfl) rfl ?_
        refine X_icmp_gtN (tgt := 63) (tk_X10_latest.at 31 rfl) (by decide) hov ex (by omega) (by omega) (fun c2 => ?_) (fun c2 => ?_)
        · refine X_iload_n (tk_X10_latest.at 34 rfl) rfl ?_
          refine X_istore_n (lv' := [(0, _), (1, _), (2, _), (3, _), (4, _)]) (tk_X10_latest.at 35 rfl) (by decide) rfl rfl ?_
          refine X_iinc (lv' := [(0, _), (1, _), (2, _), (3, _), (4, _)]) (tk_X10_latest.at 36 rfl) rfl ci_1 (by decide) rfl rfl ?_
          refine X_goto (tgt := 30) (tk_X10_latest.at 37 rfl) (by decide) ?_
          have z := ih (s + 1) ξ (upd N 0 (nI s)) (by omega) ((hsq.mx _ (by omega)).tr hsy.sx) (by rw [hsy.1 _ (by omega) (by omega) (by omega) (by omega) (by omega), Mx_same]) (fun x => upd_upd _ _ _ _)
          rw [lts_f (show ¬ ltP N mi s from Nat.not_le.mpr c2)] at z
          rw [nI_1 s]
          exact z
        · refine X_iload (tk_X10_latest.at 32 rfl) rfl ?_
          refine X_goto (tgt := 64) (tk_X10_latest.at 33 rfl) (by decide) ?_
          refine X_istore_n (lv' := [(0, _), (1, _), (2, _), (3, _), (4, _)]) (tk_X10_latest.at 35 rfl) (by decide) rfl rfl ?_
          refine X_iinc (lv' := [(0, _), (1, _), (2, _), (3, _), (4, _)]) (tk_X10_latest.at 36 rfl) rfl ci_1 (by decide) rfl rfl ?_
          refine X_goto (tgt := 30) (tk_X10_latest.at 37 rfl) (by decide) ?_
          have z := ih (s + 1) ξ (upd N 0 (nI s)) (by omega) ((hsq.mx _ (by omega)).tr hsy.sx) (by rw [hsy.1 _ (by omega) (by omega) (by omega) (by omega) (by omega), Mx_same]) (fun x => upd_upd _ _ _ _)
          rw [lts_t (show ltP N mi s from c2)] at z
          rw [nI_1 s]
          exact z
    exact loop 1440 0 μ N rfl (Sq.rf o μ) hN (fun _ => rfl)
  · refine X_if_ne (tgt := 18) (tk_X10_latest.at 4 rfl) (by decide) (fun h => absurd h (by decide)) (fun _ => ?_)
    refine X_aload_n (tk_X10_latest.at 5 rfl) rfl ?_
    refine X_ldc (tk_X10_latest.at 6 rfl) kn_x10_81 ?_
    refine X_cV1i (lv2 := [(0, _), (1, _)]) (tk_X10_latest.at 7 rfl) mv_X10_finding lk_x10_82 np_X10_finding hM.f0 (by decide) rfl (Nat.le_of_ble_eq_true rfl) (Nat.le_of_ble_eq_true rfl) rfl (c10_finding (k := 1) hM (by decide) (by decide) ?_)
    refine X_ireturn (tk_X10_latest.at 8 rfl) rfl rfl ?_
    exact k1 h5
