theorem ln_rep {μ ν : Mu} {D : Nat} {N : Nat → Int32} {f0 f : Nat → Nat} (hw : WF N) (hp0 : Pm (nv (N 4)) f0 (linN N)) (h : repD μ D (lnN N (nv (N 4)) f0)) (hν : ∀ a, a ≠ D + 8 → ν a = μ a) (hB : Rw (ν (D + 8)) (nv (N 4)) f) : repD ν D (lnN N (nv (N 4)) f) := by
  have b4 := hw.n4.2
  have wf : WF (lnN N (nv (N 4)) f0) := WF_ln hw hp0
  have e4 : lnN N (nv (N 4)) f 4 = N 4 := lnN_out _ _ (by omega)
  have e40 : lnN N (nv (N 4)) f0 4 = N 4 := lnN_out _ _ (by omega)
  refine repD_line wf h (fun a _ h2 => hν a h2) (fun a h1 h2 => by rw [lnN_out _ _ (by omega), lnN_out _ _ (by omega)]) ⟨?_, fun i hi => ?_⟩
  · rw [hν _ (by omega), e4, rD_line wf h, e40]; exact hw.n4.1.symm
  · rw [e4] at hi
    dsimp only
    rw [lnN_in _ _ hi]; exact (hB i hi).1
theorem ln_row {μ : Mu} {D : Nat} {N : Nat → Int32} {f : Nat → Nat} (hw : WF N) (hp : Pm (nv (N 4)) f (linN N)) (h : repD μ D (lnN N (nv (N 4)) f)) : μ (D + 7) 1 = nI (nv (N 4)) ∧ Rw (μ (D + 7 + 1)) (nv (N 4)) f := by
  have b4 := hw.n4.2
  have wf : WF (lnN N (nv (N 4)) f) := WF_ln hw hp
  have e4 : lnN N (nv (N 4)) f 4 = N 4 := lnN_out _ _ (by omega)
  refine ⟨by rw [rD_line wf h, e4], fun k hk => ⟨?_, lin_Rw hw hp k hk⟩⟩
  rw [h.2.2.2.2.1.2 k (by rw [e4]; exact hk)]
  exact lnN_in _ _ hk
theorem ln_self {N : Nat → Int32} (hw : WF N) {μ : Mu} {D : Nat} (h : repD μ D N) : repD μ D (lnN N (nv (N 4)) (linN N)) := by
  have e : lnN N (nv (N 4)) (linN N) = N := by
    funext a
    unfold lnN
    split
    · next c =>
      have z := (hw.li (k := a - 134) (by omega)).1
      rw [show 134 + (a - 134) = a by omega] at z
      show nI (nv (N (134 + (a - 134)))) = N a
      rw [show 134 + (a - 134) = a by omega]; exact z.symm
    · rfl
  rw [e]; exact h
/-- the soonest so far -/
def SoC (so : Int32) (b : Bst) : Prop := match b with
  | none => so = 2147483647
  | some (k, _) => so = nI k.2
set_option maxHeartbeats 1000000 in
theorem c0_chooseLine {G : Gl} {d : Nat} {S : Sh} {μ : Mu} {H D : Nat} {N : Nat → Int32} {K : Sh → Mu → Prop} (hH : OS G S H) (hD : DS G S D) (hw : WF N) (hr : repD μ D N) (hnb : μ (H + 3 + 14) 1 = 0) (hdis : D + 32 ≤ H ∨ H + 41 ≤ D) (hK : ∀ ν M t g, Fh H μ ν → repD ν (H + 3) M → LinR N t g → ν H 2 = nI t → ν (H + 1) 1 = nI (nv (N 4)) → Rw (ν (H + 2)) (nv (N 4)) g → K S ν) : X G mi_X0_chooseLine (d + 6) 0 0 [(0, .ref H), (1, .ref D)] [] S μ (qv K) := by
  have b4 := hw.n4.2
  refine X_aload_n (tk_X0_chooseLine.at 0 rfl) rfl ?_
  refine X_aload_n (tk_X0_chooseLine.at 1 rfl) rfl ?_
  refine X_cV1v (lv2 := [(0, _), (1, _)]) (tk_X0_chooseLine.at 2 rfl) mv_X0_begin lk_x0_46 np_X0_begin hH.1 (by decide) rfl (Nat.le_of_ble_eq_true rfl) (Nat.le_of_ble_eq_true rfl) rfl (c0_begin hH hD hw hr hnb hdis (fun ν hF hT hB => ?_))
  refine X_aload_n (tk_X0_chooseLine.at 3 rfl) rfl ?_
  refine X_getR (tk_X0_chooseLine.at 4 rfl) fl_x0_30 hH.1 rfl rfl ?_
  refine X_getR (tk_X0_chooseLine.at 5 rfl) fl_x0_67 hH.2.2.1.1 rfl rfl ?_
  have hTs := ln_self hw hT
  have zs := ln_row hw (Pm.rf (lin_inj hw)) hTs
  refine X_cV0v (lv2 := [(0, _)]) (tk_X0_chooseLine.at 6 rfl) mv_X6_sort lk_x0_53 np_X6_sort hH.2.2.1.2.2.2.2.1.1 (by decide) rfl (Nat.le_of_ble_eq_true rfl) (Nat.le_of_ble_eq_true rfl) rfl (c6_sort hH.2.2.1.2.2.2.2.1 zs.1 b4 (by decide) zs.2 (lin_inj hw) (fun g0 B hg0 hs0 hRB => ?_))
  generalize eζ : Mx ν ((H + 3 + 7) + 1) B = ζ
  have hTζ : repD ζ (H + 3) (lnN N (nv (N 4)) g0) := ln_rep hw (Pm.rf (lin_inj hw)) hTs (fun a ha => by rw [← eζ, Mx_ne ha]) (by rw [← eζ]; rw [show H + 3 + 8 = H + 3 + 7 + 1 from rfl, Mx_same]; exact hRB)
  refine X_ldc (tk_X0_chooseLine.at 7 rfl) kn_x0_45 ?_
  refine X_istore_n (lv' := [(0, _), (1, _), (2, _)]) (tk_X0_chooseLine.at 8 rfl) (by decide) rfl rfl ?_
  refine X_iconst (tk_X0_chooseLine.at 9 rfl) ci_1 ?_
  refine X_istore_n (lv' := [(0, _), (1, _), (2, _), (3, _)]) (tk_X0_chooseLine.at 10 rfl) (by decide) rfl rfl ?_
  refine X_iconst (tk_X0_chooseLine.at 11 rfl) ci_0 ?_
  refine X_istore (lv' := [(0, _), (1, _), (2, _), (3, _), (4, _)]) (tk_X0_chooseLine.at 12 rfl) (by decide) rfl rfl ?_
  have hb0 : BO H (nv (N 4)) 9999 ζ none := by show ζ H 2 = _; rw [← eζ, Mx_ne (by omega)]; exact hB.2
  have hFζ : Fh H μ ζ := fun a ha => by rw [← eζ, Mx_ne (by omega)]; exact hF a ha
  clear eζ hB hF hT hTs zs
  have stopped : ∀ (i : Nat) (ν : Mu) (so : Int32) (f : Nat → Nat) (b : Bst) (rest : List (Nat × Value)), i ≤ 720 → Fh H μ ν → Pm (nv (N 4)) f (linN N) → repD ν (H + 3) (lnN N (nv (N 4)) f) → BO H (nv (N 4)) 9999 ν b → (∀ ν f, Fh H μ ν → Pm (nv (N 4)) f (linN N) → repD ν (H + 3) (lnN N (nv (N 4)) f) → BO H (nv (N 4)) 9999 ν b → K S ν) → X G mi_X0_chooseLine (d + 6) 0 23 ([(0, .ref H), (1, .ref D), (2, .int so), (3, .int 0), (4, .int (nI i))] ++ rest) [] S ν (qv K) := by
    intro i ν so f b rest hi hF hp hT hB hX
    refine X_lvp [0, 1, 2, 3, 4] (lv' := [(0, _), (1, _), (2, _), (3, _), (4, _)]) rfl ?_
    refine X_iload (tk_X0_chooseLine.at 13 rfl) rfl ?_
    refine X_sipush (tk_X0_chooseLine.at 14 rfl) cs_720 ?_
    refine X_icmp_geN (tgt := 122) (tk_X0_chooseLine.at 15 rfl) (by decide) (pl i rfl) (pl 720 rfl) (by omega) (by omega) (fun c1 => ?_) (fun c1 => ?_)
    · refine X_return (tk_X0_chooseLine.at 57 rfl) rfl ?_
      exact hX ν f hF hp hT hB
    · refine X_iload_n (tk_X0_chooseLine.at 16 rfl) rfl ?_
      refine X_if_eq (tgt := 122) (tk_X0_chooseLine.at 17 rfl) (by decide) (fun _ => ?_) (fun h => absurd h (by decide))
      refine X_return (tk_X0_chooseLine.at 57 rfl) rfl ?_
      exact hX ν f hF hp hT hB
  have loop : ∀ (m i : Nat) (ν : Mu) (so : Int32) (f : Nat → Nat) (b : Bst) (rest : List (Nat × Value)), i + m = 720 → Fh H μ ν → Pm (nv (N 4)) f (linN N) → repD ν (H + 3) (lnN N (nv (N 4)) f) → BO H (nv (N 4)) 9999 ν b → SoC so b → (∀ ν f', Fh H μ ν → Pm (nv (N 4)) f' (linN N) → repD ν (H + 3) (lnN N (nv (N 4)) f') → BO H (nv (N 4)) 9999 ν (fnd (kyL N (nv (N 4))) (nv (N 4)) m f b) → K S ν) → X G mi_X0_chooseLine (d + 6) 0 23 ([(0, .ref H), (1, .ref D), (2, .int so), (3, .int 1), (4, .int (nI i))] ++ rest) [] S ν (qv K) := by
    intro m
    induction m with
    | zero =>
      intro i ν so f b rest hi hF hp hT hB hso hX
      refine X_lvp [0, 1, 2, 3, 4] (lv' := [(0, _), (1, _), (2, _), (3, _), (4, _)]) rfl ?_
      refine X_iload (tk_X0_chooseLine.at 13 rfl) rfl ?_
      refine X_sipush (tk_X0_chooseLine.at 14 rfl) cs_720 ?_
      refine X_icmp_geN (tgt := 122) (tk_X0_chooseLine.at 15 rfl) (by decide) (pl i rfl) (pl 720 rfl) (by omega) (by omega) (fun c1 => ?_) (fun c1 => (by exfalso; omega))
      refine X_return (tk_X0_chooseLine.at 57 rfl) rfl ?_
      exact hX ν f hF hp hT hB
    | succ m ih =>
      intro i ν so f b rest hi hF hp hT hB hso hX
      refine X_lvp [0, 1, 2, 3, 4] (lv' := [(0, _), (1, _), (2, _), (3, _), (4, _)]) rfl ?_
      have wf : WF (lnN N (nv (N 4)) f) := WF_ln hw hp
      have tb := toll_le wf
      have bo := ovr_le wf _ (Nat.le_refl _)
      have key : ∀ (χ : Mu) (so2 : Int32), Fh H μ χ → repD χ (H + 3) (lnN N (nv (N 4)) f) → BO H (nv (N 4)) 9999 χ (upB (kyL N (nv (N 4))) f b) → SoC so2 (upB (kyL N (nv (N 4))) f b) → X G mi_X0_chooseLine (d + 6) 0 105 ([(0, .ref H), (1, .ref D), (2, .int so2), (3, .int 1), (4, .int (nI i))] ++ [(5, .int (nI (toll (lnN N (nv (N 4)) f))))]) [] S χ (qv K) := by
        intro χ so2 hF2 hT2 hB2 hs2
        have zχ := ln_row hw hp hT2
        refine X_aload_n (tk_X0_chooseLine.at 50 rfl) rfl ?_
        refine X_getR (tk_X0_chooseLine.at 51 rfl) fl_x0_30 hH.1 rfl rfl ?_
        refine X_getR (tk_X0_chooseLine.at 52 rfl) fl_x0_67 hH.2.2.1.1 rfl rfl ?_
        refine X_cV0i (lv2 := [(0, _)]) (tk_X0_chooseLine.at 53 rfl) mv_X6_next lk_x0_63 np_X6_next hH.2.2.1.2.2.2.2.1.1 (by decide) rfl (Nat.le_of_ble_eq_true rfl) (Nat.le_of_ble_eq_true rfl) rfl (c6_next hH.2.2.1.2.2.2.2.1 zχ.1 b4 (by decide) zχ.2 hp.inj' (fun hno => ?_) (fun k hks B hRB => ?_))
        · refine X_istore_n (lv' := [(0, _), (1, _), (2, _), (3, _), (4, _), (5, _)]) (tk_X0_chooseLine.at 54 rfl) (by decide) rfl rfl ?_
          refine X_iinc (lv' := [(0, _), (1, _), (2, _), (3, _), (4, _), (5, _)]) (tk_X0_chooseLine.at 55 rfl) rfl ci_1 (by decide) rfl rfl ?_
          refine X_goto (tgt := 23) (tk_X0_chooseLine.at 56 rfl) (by decide) ?_
          rw [fnd_n (nxo_n hno)] at hX
          rw [nI_1 i]
          exact stopped (i + 1) χ so2 f _ _ (by omega) hF2 hp hT2 hB2 hX
        · generalize eΧ : Mx χ ((H + 3 + 7) + 1) B = Χ
          refine X_istore_n (lv' := [(0, _), (1, _), (2, _), (3, _), (4, _), (5, _)]) (tk_X0_chooseLine.at 54 rfl) (by decide) rfl rfl ?_
          refine X_iinc (lv' := [(0, _), (1, _), (2, _), (3, _), (4, _), (5, _)]) (tk_X0_chooseLine.at 55 rfl) rfl ci_1 (by decide) rfl rfl ?_
          refine X_goto (tgt := 23) (tk_X0_chooseLine.at 56 rfl) (by decide) ?_
          rw [fnd_s (nxo_s hks)] at hX
          rw [nI_1 i]
          have hk1 : k < (nv (N 4)) := by have := (lstA_lt hks).1; omega
          have hpn := (Pm_nxv hp.inj' (n := (nv (N 4))) (k := k) (j := gtJ f k ((nv (N 4)) - 1)) hk1 (by have := gtJ_le (f := f) (k := k) ((nv (N 4)) - 1); omega)).tr hp
          refine ih (i + 1) Χ so2 _ _ _ (by omega) (fun a ha => ?_) hpn (ln_rep hw hp hT2 (fun a ha => by rw [← eΧ, Mx_ne ha]) (by rw [← eΧ]; rw [show H + 3 + 8 = H + 3 + 7 + 1 from rfl, Mx_same]; exact hRB)) (BO_eq hB2 ?_ ?_ ?_) hs2 hX
          · rw [← eΧ, Mx_ne (by omega)]; exact hF2 a ha
          · rw [← eΧ, Mx_ne (by omega)]
          · rw [← eΧ, Mx_ne (by omega)]
          · rw [← eΧ, Mx_ne (by omega)]
      have hcase : ∃ y z, ν H 2 = nI y ∧ y ≤ 2147483647 ∧ so = nI z ∧ z ≤ 2147483647 ∧ (bet b ((kyL N (nv (N 4))) f) ↔ (toll (lnN N (nv (N 4)) f) < y ∨ (toll (lnN N (nv (N 4)) f) = y ∧ (ovr (lnN N (nv (N 4)) f) (nv ((lnN N (nv (N 4)) f) 4))) < z))) := by
        cases b with
        | none => exact ⟨2147483647, 2147483647, hB, Nat.le_refl _, hso, Nat.le_refl _, iff_of_true trivial (by omega)⟩
        | some q => exact ⟨q.1.1, q.1.2, hB.1, by have := hB.2.1; omega, hso, by have := hB.2.2.1; omega, Iff.rfl⟩
      obtain ⟨y, z, ey0, by1, ez, bz, hbet⟩ := hcase
      refine X_iload (tk_X0_chooseLine.at 13 rfl) rfl ?_
      refine X_sipush (tk_X0_chooseLine.at 14 rfl) cs_720 ?_
      refine X_icmp_geN (tgt := 122) (tk_X0_chooseLine.at 15 rfl) (by decide) (pl i rfl) (pl 720 rfl) (by omega) (by omega) (fun c1 => (by exfalso; omega)) (fun c1 => ?_)
      refine X_iload_n (tk_X0_chooseLine.at 16 rfl) rfl ?_
      refine X_if_eq (tgt := 122) (tk_X0_chooseLine.at 17 rfl) (by decide) (fun h => absurd h (by decide)) (fun _ => ?_)
      refine X_aload_n (tk_X0_chooseLine.at 18 rfl) rfl ?_
      refine X_getR (tk_X0_chooseLine.at 19 rfl) fl_x0_37 hH.1 rfl rfl ?_
      refine X_aload_n (tk_X0_chooseLine.at 20 rfl) rfl ?_
      refine X_getR (tk_X0_chooseLine.at 21 rfl) fl_x0_30 hH.1 rfl rfl ?_
      refine X_cV1i (lv2 := [(0, _), (1, _)]) (tk_X0_chooseLine.at 22 rfl) mv_X1_tollOf lk_x0_56 np_X1_tollOf hH.2.2.2.1 (by decide) rfl (Nat.le_of_ble_eq_true rfl) (Nat.le_of_ble_eq_true rfl) rfl (c0_toll hH wf hT (fun ξ hf1 hT1 ho1 => ?_))
      have ey : ξ H 2 = nI y := by rw [hf1 H (by omega)]; exact ey0
      have zr := ln_row hw hp hT1
      refine X_istore (lv' := [(0, _), (1, _), (2, _), (3, _), (4, _), (5, _)]) (tk_X0_chooseLine.at 23 rfl) (by decide) rfl rfl ?_
      refine X_iload (tk_X0_chooseLine.at 24 rfl) rfl ?_
      refine X_aload_n (tk_X0_chooseLine.at 25 rfl) rfl ?_
      refine X_getI (tk_X0_chooseLine.at 26 rfl) fl_x0_24 hH.1 rfl ?_
      refine X_icmp_ltN (tgt := 77) (tk_X0_chooseLine.at 27 rfl) (by decide) (pl (toll (lnN N (nv (N 4)) f)) rfl) ey (by omega) (by omega) (fun c3 => ?_) (fun c3 => ?_)
      · refine X_aload_n (tk_X0_chooseLine.at 37 rfl) rfl ?_
        refine X_iload (tk_X0_chooseLine.at 38 rfl) rfl ?_
        refine X_putI (tk_X0_chooseLine.at 39 rfl) fl_x0_24 hH.1 rfl rfl ⟨rfl, rfl⟩ ?_
        refine X_aload_n (tk_X0_chooseLine.at 40 rfl) rfl ?_
        refine X_getR (tk_X0_chooseLine.at 41 rfl) fl_x0_37 hH.1 rfl rfl ?_
        refine X_getI (tk_X0_chooseLine.at 42 rfl) fl_x0_70 hH.2.2.2.1 rfl ?_
        refine X_istore_n (lv' := [(0, _), (1, _), (2, _), (3, _), (4, _), (5, _)]) (tk_X0_chooseLine.at 43 rfl) (by decide) rfl rfl ?_
        refine X_aload_n (tk_X0_chooseLine.at 44 rfl) rfl ?_
        refine X_getR (tk_X0_chooseLine.at 45 rfl) fl_x0_14 hH.1 rfl rfl ?_
        refine X_aload_n (tk_X0_chooseLine.at 46 rfl) rfl ?_
        refine X_getR (tk_X0_chooseLine.at 47 rfl) fl_x0_30 hH.1 rfl rfl ?_
        refine X_getR (tk_X0_chooseLine.at 48 rfl) fl_x0_67 hH.2.2.1.1 rfl rfl ?_
        refine X_cV1v (lv2 := [(0, _), (1, _)]) (tk_X0_chooseLine.at 49 rfl) mv_X6_copyFrom lk_x0_60 np_X6_copyFrom hH.2.1.1 (by decide) rfl (Nat.le_of_ble_eq_true rfl) (Nat.le_of_ble_eq_true rfl) rfl (d_cp6 hH.2.1 hH.2.2.1.2.2.2.2.1 (m := (nv (N 4))) (by rw [su_ne (by omega)]; exact zr.1) b4 b4 (by decide) (by omega) (fun θ cc => ?_))
        have hb2 : bet b ((kyL N (nv (N 4))) f) := hbet.mpr (by omega)
        rw [show (su ξ H 2 (nI (toll (lnN N (nv (N 4)) f)))) (H + 35) 3 = nI (ovr (lnN N (nv (N 4)) f) (nv ((lnN N (nv (N 4)) f) 4))) from by rw [su_ne (by omega)]; exact ho1]
        refine key θ _ (fun a ha => ?_) (repD_of hT1 (fun a h1 h2 => by rw [cc.1 a (by omega) (by omega), su_ne (by omega)])) ?_ ?_
        · rw [cc.1 a (by omega) (by omega), su_ne (by omega), hf1 a (by omega)]; exact hF a ha
        · rw [upB_t hb2]
          refine ⟨?_, by exact tb, by exact bo, cc.2.1, fun k hk => ?_⟩
          · rw [cc.1 H (by omega) (by omega), su_same]; exact upd_at _ _ _
          · rw [show H + 2 = H + 1 + 1 from rfl, cc.2.2 k hk, su_ne (by omega)]; exact zr.2 k hk
        · rw [upB_t hb2]; rfl
      · refine X_iload (tk_X0_chooseLine.at 28 rfl) rfl ?_
        refine X_aload_n (tk_X0_chooseLine.at 29 rfl) rfl ?_
        refine X_getI (tk_X0_chooseLine.at 30 rfl) fl_x0_24 hH.1 rfl ?_
        refine X_icmp_neN (tgt := 105) (tk_X0_chooseLine.at 31 rfl) (by decide) (pl (toll (lnN N (nv (N 4)) f)) rfl) ey (by omega) (by omega) (fun c4 => ?_) (fun c4 => ?_)
        · have hb2 : ¬ bet b ((kyL N (nv (N 4))) f) := fun g => absurd (hbet.mp g) (by omega)
          refine key ξ so (fun a ha => ?_) hT1 ?_ ?_
          · rw [hf1 a (by omega)]; exact hF a ha
          · rw [upB_f hb2]
            exact BO_eq hB (hf1 _ (by omega)) (hf1 _ (by omega)) (hf1 _ (by omega))
          · rw [upB_f hb2]; exact hso
        · refine X_aload_n (tk_X0_chooseLine.at 32 rfl) rfl ?_
          refine X_getR (tk_X0_chooseLine.at 33 rfl) fl_x0_37 hH.1 rfl rfl ?_
          refine X_getI (tk_X0_chooseLine.at 34 rfl) fl_x0_70 hH.2.2.2.1 rfl ?_
          refine X_iload_n (tk_X0_chooseLine.at 35 rfl) rfl ?_
          refine X_icmp_geN (tgt := 105) (tk_X0_chooseLine.at 36 rfl) (by decide) ho1 ez (by omega) (by omega) (fun c5 => ?_) (fun c5 => ?_)
          · have hb2 : ¬ bet b ((kyL N (nv (N 4))) f) := fun g => absurd (hbet.mp g) (by omega)
            refine key ξ so (fun a ha => ?_) hT1 ?_ ?_
            · rw [hf1 a (by omega)]; exact hF a ha
            · rw [upB_f hb2]
              exact BO_eq hB (hf1 _ (by omega)) (hf1 _ (by omega)) (hf1 _ (by omega))
            · rw [upB_f hb2]; exact hso
          · refine X_aload_n (tk_X0_chooseLine.at 37 rfl) rfl ?_
            refine X_iload (tk_X0_chooseLine.at 38 rfl) rfl ?_
            refine X_putI (tk_X0_chooseLine.at 39 rfl) fl_x0_24 hH.1 rfl rfl ⟨rfl, rfl⟩ ?_
            refine X_aload_n (tk_X0_chooseLine.at 40 rfl) rfl ?_
            refine X_getR (tk_X0_chooseLine.at 41 rfl) fl_x0_37 hH.1 rfl rfl ?_
            refine X_getI (tk_X0_chooseLine.at 42 rfl) fl_x0_70 hH.2.2.2.1 rfl ?_
            refine X_istore_n (lv' := [(0, _), (1, _), (2, _), (3, _), (4, _), (5, _)]) (tk_X0_chooseLine.at 43 rfl) (by decide) rfl rfl ?_
            refine X_aload_n (tk_X0_chooseLine.at 44 rfl) rfl ?_
            refine X_getR (tk_X0_chooseLine.at 45 rfl) fl_x0_14 hH.1 rfl rfl ?_
            refine X_aload_n (tk_X0_chooseLine.at 46 rfl) rfl ?_
            refine X_getR (tk_X0_chooseLine.at 47 rfl) fl_x0_30 hH.1 rfl rfl ?_
            refine X_getR (tk_X0_chooseLine.at 48 rfl) fl_x0_67 hH.2.2.1.1 rfl rfl ?_
            refine X_cV1v (lv2 := [(0, _), (1, _)]) (tk_X0_chooseLine.at 49 rfl) mv_X6_copyFrom lk_x0_60 np_X6_copyFrom hH.2.1.1 (by decide) rfl (Nat.le_of_ble_eq_true rfl) (Nat.le_of_ble_eq_true rfl) rfl (d_cp6 hH.2.1 hH.2.2.1.2.2.2.2.1 (m := (nv (N 4))) (by rw [su_ne (by omega)]; exact zr.1) b4 b4 (by decide) (by omega) (fun θ cc => ?_))
            have hb2 : bet b ((kyL N (nv (N 4))) f) := hbet.mpr (by omega)
            rw [show (su ξ H 2 (nI (toll (lnN N (nv (N 4)) f)))) (H + 35) 3 = nI (ovr (lnN N (nv (N 4)) f) (nv ((lnN N (nv (N 4)) f) 4))) from by rw [su_ne (by omega)]; exact ho1]
            refine key θ _ (fun a ha => ?_) (repD_of hT1 (fun a h1 h2 => by rw [cc.1 a (by omega) (by omega), su_ne (by omega)])) ?_ ?_
            · rw [cc.1 a (by omega) (by omega), su_ne (by omega), hf1 a (by omega)]; exact hF a ha
            · rw [upB_t hb2]
              refine ⟨?_, by exact tb, by exact bo, cc.2.1, fun k hk => ?_⟩
              · rw [cc.1 H (by omega) (by omega), su_same]; exact upd_at _ _ _
              · rw [show H + 2 = H + 1 + 1 from rfl, cc.2.2 k hk, su_ne (by omega)]; exact zr.2 k hk
            · rw [upB_t hb2]; rfl
  refine loop 720 0 ζ 2147483647 g0 none [] rfl hFζ hg0 hTζ hb0 rfl (fun ν f' hF hp hT hB => ?_)
  cases hfin : fnd (kyL N (nv (N 4))) (nv (N 4)) 720 g0 none with
  | none => exact absurd hfin (fnd_some _ _ _ _)
  | some q =>
    obtain ⟨⟨t, t2⟩, g⟩ := q
    rw [hfin] at hB
    exact hK ν _ t g hF hT ⟨g0, t2, hg0, hs0, hfin⟩ hB.1 hB.2.2.2.1 hB.2.2.2.2
