/-- what the chooser keeps of the best order so far -/
def BO (H n M : Nat) (ν : Mu) (b : Bst) : Prop := match b with
  | none => ν H 2 = 2147483647
  | some (k, g) => ν H 2 = nI k.1 ∧ k.1 ≤ 1200000 ∧ k.2 ≤ M ∧ ν (H + 1) 1 = nI n ∧ Rw (ν (H + 2)) n g
theorem BO_eq {H n M : Nat} {μ ν : Mu} {b : Bst} (h : BO H n M μ b) (e : ν H = μ H) (e1 : ν (H + 1) = μ (H + 1)) (e2 : ν (H + 2) = μ (H + 2)) : BO H n M ν b := by
  unfold BO at h ⊢
  rw [e, e1, e2]; exact h
theorem Pm.inj' {n : Nat} {g f : Nat → Nat} (h : Pm n g f) : ∀ i j, i < n → j < n → g i = g j → i = j := h.2.2
theorem row_Rw {N : Nat → Int32} (hw : WF N) {r : Nat} (h3 : r < nv (N 3)) {f : Nat → Nat} (hp : Pm (mny N r) f (rowN N r)) : ∀ k, k < mny N r → f k < 1000 := by
  intro k hk
  obtain ⟨j, hj, e⟩ := hp.1 k hk
  rw [e]
  have := (hw.wh h3 hj).2
  have := hw.n1.2
  show nv _ < _
  omega
theorem lin_Rw {N : Nat → Int32} (hw : WF N) {f : Nat → Nat} (hp : Pm (nv (N 4)) f (linN N)) : ∀ k, k < nv (N 4) → f k < 1000 := by
  intro k hk
  obtain ⟨j, hj, e⟩ := hp.1 k hk
  rw [e]
  have h1 : nv (N (134 + j)) < nv (N 3) := (hw.li hj).2
  have := hw.n3.2
  show nv (N (134 + j)) < 1000
  omega
theorem st_rep {μ ν : Mu} {D : Nat} {N : Nat → Int32} {r : Nat} {f0 f : Nat → Nat} (hw : WF N) (h3 : r < nv (N 3)) (hp0 : Pm (mny N r) f0 (rowN N r)) (h : repD μ D (stN N r (mny N r) f0)) (hν : ∀ a, a ≠ D + 20 + 2 * r + 1 → ν a = μ a) (hB : Rw (ν (D + 20 + 2 * r + 1)) (mny N r) f) : repD ν D (stN N r (mny N r) f) := by
  have b5 := hw.mb h3
  have wf : WF (stN N r (mny N r) f0) := WF_st hw h3 hp0
  have h3' : r < nv (stN N r (mny N r) f0 3) := by rw [stN_out _ _ (by omega)]; exact h3
  have em : mny (stN N r (mny N r) f0) r = mny N r := congrArg nv (stN_out _ _ (by omega))
  refine repD_rw wf h h3' (fun a _ h2 => hν a h2) (fun a ha => by rw [stN_out _ _ (by omega), stN_out _ _ (by omega)]) b5 ?_ (by rw [stN_out _ _ (by omega)]; exact (hw.ro h3).2.2.2.1.1) (fun i hi => by rw [stN_in _ _ hi]; exact (hB i hi).1)
  rw [hν _ (by omega), rD_rs1 wf h h3', em]
theorem st_row {μ : Mu} {D : Nat} {N : Nat → Int32} {r : Nat} {f : Nat → Nat} (hw : WF N) (h3 : r < nv (N 3)) (hp : Pm (mny N r) f (rowN N r)) (h : repD μ D (stN N r (mny N r) f)) : μ (D + 20 + 2 * r) 1 = nI (mny N r) ∧ Rw (μ (D + 20 + 2 * r + 1)) (mny N r) f := by
  have b5 := hw.mb h3
  have wf : WF (stN N r (mny N r) f) := WF_st hw h3 hp
  have h3' : r < nv (stN N r (mny N r) f 3) := by rw [stN_out _ _ (by omega)]; exact h3
  have em : mny (stN N r (mny N r) f) r = mny N r := congrArg nv (stN_out _ _ (by omega))
  refine ⟨by rw [rD_rs1 wf h h3', em], fun k hk => ⟨?_, row_Rw hw h3 hp k hk⟩⟩
  rw [rD_ra1 wf h h3' (by rw [em]; exact hk), stN_in _ _ hk]
theorem st_self {N : Nat → Int32} {r : Nat} (hw : WF N) (h3 : r < nv (N 3)) {μ : Mu} {D : Nat} (h : repD μ D N) : repD μ D (stN N r (mny N r) (rowN N r)) := by
  have b5 := hw.mb h3
  refine repD_rw hw h h3 (fun a _ _ => rfl) (fun a ha => stN_out _ _ (by omega)) b5 (rD_rs1 hw h h3) (by rw [stN_out _ _ (by omega)]; exact (hw.ro h3).2.2.2.1.1) (fun i hi => ?_)
  rw [stN_in _ _ hi, rD_ra1 hw h h3 hi]; exact (hw.wh h3 hi).1
theorem upB_0 {key : (Nat → Nat) → Nat × Nat} {f : Nat → Nat} {b : Bst} (h0 : (key f).2 = 0) {t : Nat} (ht : (key f).1 = t) : bet b (key f) ↔ match b with
    | none => True
    | some (k', _) => t < k'.1 ∨ (t = k'.1 ∧ 0 < k'.2) := by
  subst ht
  unfold bet
  cases b with
  | none => exact Iff.rfl
  | some p => rw [h0]
theorem fnd_ss {key : (Nat → Nat) → Nat × Nat} {n : Nat} : ∀ (m : Nat) (f : Nat → Nat) (q : (Nat × Nat) × (Nat → Nat)), fnd key n m f (some q) ≠ none
  | 0, f, q => by rw [fnd]; exact fun h => by cases h
  | m + 1, f, q => by
    have h : ∃ q', upB key f (some q) = some q' := by
      by_cases c : bet (some q) (key f)
      · exact ⟨_, upB_t c⟩
      · exact ⟨_, upB_f c⟩
    obtain ⟨q', e⟩ := h
    rw [fnd, e]
    split
    · exact fun h => by cases h
    · exact fnd_ss m _ q'
theorem fnd_some (key : (Nat → Nat) → Nat × Nat) (n m : Nat) (f : Nat → Nat) : fnd key n (m + 1) f none ≠ none := by
  rw [fnd, upB_t (b := none) trivial]
  split
  · exact fun h => by cases h
  · exact fnd_ss m _ _
set_option maxHeartbeats 1000000 in
theorem c0_chooseOrder {G : Gl} {d : Nat} {S : Sh} {μ : Mu} {H D : Nat} {N : Nat → Int32} {x : Int32} {rn : Nat} {K : Sh → Mu → Prop} (hH : OS G S H) (hD : DS G S D) (hw : WF N) (hr : repD μ D N) (hnb : μ (H + 3 + 14) 1 = 0) (hdis : D + 32 ≤ H ∨ H + 41 ≤ D) (hx : x = nI rn) (h3 : rn < nv (N 3)) (hK : ∀ ν M t g, Fh H μ ν → repD ν (H + 3) M → OrdR N rn t g → ν H 2 = nI t → ν (H + 1) 1 = nI (mny N rn) → Rw (ν (H + 2)) (mny N rn) g → K S ν) : X G mi_X0_chooseOrder (d + 6) 0 0 [(0, .ref H), (1, .ref D), (2, .int x)] [] S μ (qv K) := by
  have b3 := hw.n3.2
  have h6 : rn < 6 := by omega
  have bm := hw.mb h3
  refine X_aload_n (tk_X0_chooseOrder.at 0 rfl) rfl ?_
  refine X_aload_n (tk_X0_chooseOrder.at 1 rfl) rfl ?_
  refine X_cV1v (lv2 := [(0, _), (1, _)]) (tk_X0_chooseOrder.at 2 rfl) mv_X0_begin lk_x0_46 np_X0_begin hH.1 (by decide) rfl (Nat.le_of_ble_eq_true rfl) (Nat.le_of_ble_eq_true rfl) rfl (c0_begin hH hD hw hr hnb hdis (fun ν hF hT hB => ?_))
  refine X_aload_n (tk_X0_chooseOrder.at 3 rfl) rfl ?_
  refine X_getR (tk_X0_chooseOrder.at 4 rfl) fl_x0_30 hH.1 rfl rfl ?_
  refine X_iload_n (tk_X0_chooseOrder.at 5 rfl) rfl ?_
  refine X_cV1r (lv2 := [(0, _), (1, _)]) (tk_X0_chooseOrder.at 6 rfl) mv_X2_rowOf lk_x0_49 np_X2_rowOf hH.2.2.1.1 (by decide) rfl (Nat.le_of_ble_eq_true rfl) (Nat.le_of_ble_eq_true rfl) rfl (c2_rowOf (r := rn) hH.2.2.1 hx h6 ?_)
  refine X_astore_n (lv' := [(0, _), (1, _), (2, _), (3, _)]) (tk_X0_chooseOrder.at 7 rfl) (by decide) rfl rfl ?_
  refine X_aload_n (tk_X0_chooseOrder.at 8 rfl) rfl ?_
  have hTs := st_self hw h3 hT
  have zs := st_row hw h3 (Pm.rf (row_inj hw h3)) hTs
  refine X_cV0v (lv2 := [(0, _)]) (tk_X0_chooseOrder.at 9 rfl) mv_X6_sort lk_x0_53 np_X6_sort (DS_r hH.2.2.1 h6).1 (by decide) rfl (Nat.le_of_ble_eq_true rfl) (Nat.le_of_ble_eq_true rfl) rfl (c6_sort (DS_r hH.2.2.1 h6) zs.1 bm (by decide) zs.2 (row_inj hw h3) (fun g0 B hg0 hs0 hRB => ?_))
  generalize eζ : Mx ν ((H + 3 + 20 + 2 * rn) + 1) B = ζ
  have hTζ : repD ζ (H + 3) (stN N rn (mny N rn) g0) := st_rep hw h3 (Pm.rf (row_inj hw h3)) hTs (fun a ha => by rw [← eζ, Mx_ne ha]) (by rw [← eζ, Mx_same]; exact hRB)
  refine X_iconst (tk_X0_chooseOrder.at 10 rfl) ci_1 ?_
  refine X_istore (lv' := [(0, _), (1, _), (2, _), (3, _), (4, _)]) (tk_X0_chooseOrder.at 11 rfl) (by decide) rfl rfl ?_
  refine X_iconst (tk_X0_chooseOrder.at 12 rfl) ci_0 ?_
  refine X_istore (lv' := [(0, _), (1, _), (2, _), (3, _), (4, _), (5, _)]) (tk_X0_chooseOrder.at 13 rfl) (by decide) rfl rfl ?_
  have hb0 : BO H (mny N rn) 0 ζ none := by show ζ H 2 = _; rw [← eζ, Mx_ne (by omega)]; exact hB.2
  have hFζ : Fh H μ ζ := fun a ha => by rw [← eζ, Mx_ne (by omega)]; exact hF a ha
  clear eζ hB hF hT hTs zs
  have stopped : ∀ (i : Nat) (ν : Mu) (f : Nat → Nat) (b : Bst) (rest : List (Nat × Value)), i ≤ 120 → Fh H μ ν → Pm (mny N rn) f (rowN N rn) → repD ν (H + 3) (stN N rn (mny N rn) f) → BO H (mny N rn) 0 ν b → (∀ ν f, Fh H μ ν → Pm (mny N rn) f (rowN N rn) → repD ν (H + 3) (stN N rn (mny N rn) f) → BO H (mny N rn) 0 ν b → K S ν) → X G mi_X0_chooseOrder (d + 6) 0 24 ([(0, .ref H), (1, .ref D), (2, .int x), (3, .ref (H + 3 + 20 + 2 * rn)), (4, .int 0), (5, .int (nI i))] ++ rest) [] S ν (qv K) := by
    intro i ν f b rest hi hF hp hT hB hX
    refine X_lvp [0, 1, 2, 3, 4, 5] (lv' := [(0, _), (1, _), (2, _), (3, _), (4, _), (5, _)]) rfl ?_
    refine X_iload (tk_X0_chooseOrder.at 14 rfl) rfl ?_
    refine X_bipush (tk_X0_chooseOrder.at 15 rfl) cb_120 ?_
    refine X_icmp_geN (tgt := 84) (tk_X0_chooseOrder.at 16 rfl) (by decide) (pl i rfl) (pl 120 rfl) (by omega) (by omega) (fun c1 => ?_) (fun c1 => ?_)
    · refine X_return (tk_X0_chooseOrder.at 41 rfl) rfl ?_
      exact hX ν f hF hp hT hB
    · refine X_iload (tk_X0_chooseOrder.at 17 rfl) rfl ?_
      refine X_if_eq (tgt := 84) (tk_X0_chooseOrder.at 18 rfl) (by decide) (fun _ => ?_) (fun h => absurd h (by decide))
      refine X_return (tk_X0_chooseOrder.at 41 rfl) rfl ?_
      exact hX ν f hF hp hT hB
  have loop : ∀ (m i : Nat) (ν : Mu) (f : Nat → Nat) (b : Bst) (rest : List (Nat × Value)), i + m = 120 → Fh H μ ν → Pm (mny N rn) f (rowN N rn) → repD ν (H + 3) (stN N rn (mny N rn) f) → BO H (mny N rn) 0 ν b → (∀ ν f', Fh H μ ν → Pm (mny N rn) f' (rowN N rn) → repD ν (H + 3) (stN N rn (mny N rn) f') → BO H (mny N rn) 0 ν (fnd (kyO N rn (mny N rn)) (mny N rn) m f b) → K S ν) → X G mi_X0_chooseOrder (d + 6) 0 24 ([(0, .ref H), (1, .ref D), (2, .int x), (3, .ref (H + 3 + 20 + 2 * rn)), (4, .int 1), (5, .int (nI i))] ++ rest) [] S ν (qv K) := by
    intro m
    induction m with
    | zero =>
      intro i ν f b rest hi hF hp hT hB hX
      refine X_lvp [0, 1, 2, 3, 4, 5] (lv' := [(0, _), (1, _), (2, _), (3, _), (4, _), (5, _)]) rfl ?_
      refine X_iload (tk_X0_chooseOrder.at 14 rfl) rfl ?_
      refine X_bipush (tk_X0_chooseOrder.at 15 rfl) cb_120 ?_
      refine X_icmp_geN (tgt := 84) (tk_X0_chooseOrder.at 16 rfl) (by decide) (pl i rfl) (pl 120 rfl) (by omega) (by omega) (fun c1 => ?_) (fun c1 => (by exfalso; omega))
      refine X_return (tk_X0_chooseOrder.at 41 rfl) rfl ?_
      exact hX ν f hF hp hT hB
    | succ m ih =>
      intro i ν f b rest hi hF hp hT hB hX
      refine X_lvp [0, 1, 2, 3, 4, 5] (lv' := [(0, _), (1, _), (2, _), (3, _), (4, _), (5, _)]) rfl ?_
      have wf : WF (stN N rn (mny N rn) f) := WF_st hw h3 hp
      have tb := toll_le wf
      have key : ∀ (χ : Mu), Fh H μ χ → repD χ (H + 3) (stN N rn (mny N rn) f) → BO H (mny N rn) 0 χ (upB (kyO N rn (mny N rn)) f b) → X G mi_X0_chooseOrder (d + 6) 0 72 ([(0, .ref H), (1, .ref D), (2, .int x), (3, .ref (H + 3 + 20 + 2 * rn)), (4, .int 1), (5, .int (nI i))] ++ [(6, .int (nI (toll (stN N rn (mny N rn) f))))]) [] S χ (qv K) := by
        intro χ hF2 hT2 hB2
        have zχ := st_row hw h3 hp hT2
        refine X_aload_n (tk_X0_chooseOrder.at 36 rfl) rfl ?_
        refine X_cV0i (lv2 := [(0, _)]) (tk_X0_chooseOrder.at 37 rfl) mv_X6_next lk_x0_63 np_X6_next (DS_r hH.2.2.1 h6).1 (by decide) rfl (Nat.le_of_ble_eq_true rfl) (Nat.le_of_ble_eq_true rfl) rfl (c6_next (DS_r hH.2.2.1 h6) zχ.1 bm (by decide) zχ.2 hp.inj' (fun hno => ?_) (fun k hks B hRB => ?_))
        · refine X_istore (lv' := [(0, _), (1, _), (2, _), (3, _), (4, _), (5, _), (6, _)]) (tk_X0_chooseOrder.at 38 rfl) (by decide) rfl rfl ?_
          refine X_iinc (lv' := [(0, _), (1, _), (2, _), (3, _), (4, _), (5, _), (6, _)]) (tk_X0_chooseOrder.at 39 rfl) rfl ci_1 (by decide) rfl rfl ?_
          refine X_goto (tgt := 24) (tk_X0_chooseOrder.at 40 rfl) (by decide) ?_
          rw [fnd_n (nxo_n hno)] at hX
          rw [nI_1 i]
          exact stopped (i + 1) χ f _ _ (by omega) hF2 hp hT2 hB2 hX
        · generalize eΧ : Mx χ ((H + 3 + 20 + 2 * rn) + 1) B = Χ
          refine X_istore (lv' := [(0, _), (1, _), (2, _), (3, _), (4, _), (5, _), (6, _)]) (tk_X0_chooseOrder.at 38 rfl) (by decide) rfl rfl ?_
          refine X_iinc (lv' := [(0, _), (1, _), (2, _), (3, _), (4, _), (5, _), (6, _)]) (tk_X0_chooseOrder.at 39 rfl) rfl ci_1 (by decide) rfl rfl ?_
          refine X_goto (tgt := 24) (tk_X0_chooseOrder.at 40 rfl) (by decide) ?_
          rw [fnd_s (nxo_s hks)] at hX
          rw [nI_1 i]
          have hk1 : k < mny N rn := by have := (lstA_lt hks).1; omega
          have hpn := (Pm_nxv hp.inj' (n := mny N rn) (k := k) (j := gtJ f k (mny N rn - 1)) hk1 (by have := gtJ_le (f := f) (k := k) (mny N rn - 1); omega)).tr hp
          refine ih (i + 1) Χ _ _ _ (by omega) (fun a ha => ?_) hpn (st_rep hw h3 hp hT2 (fun a ha => by rw [← eΧ, Mx_ne ha]) (by rw [← eΧ, Mx_same]; exact hRB)) (BO_eq hB2 ?_ ?_ ?_) hX
          · rw [← eΧ, Mx_ne (by omega)]; exact hF2 a ha
          · rw [← eΧ, Mx_ne (by omega)]
          · rw [← eΧ, Mx_ne (by omega)]
          · rw [← eΧ, Mx_ne (by omega)]
      have hcase : ∃ y, ν H 2 = nI y ∧ y ≤ 2147483647 ∧ (toll (stN N rn (mny N rn) f) < y ↔ bet b ((kyO N rn (mny N rn)) f)) := by
        cases b with
        | none => exact ⟨2147483647, hB, Nat.le_refl _, iff_of_true (by omega) trivial⟩
        | some q => exact ⟨q.1.1, hB.1, by have := hB.2.1; omega, ⟨fun h => Or.inl h, fun h => h.elim id (fun g => absurd g.2 (by have := hB.2.2.1; omega))⟩⟩
      obtain ⟨y, ey0, by1, hlt⟩ := hcase
      refine X_iload (tk_X0_chooseOrder.at 14 rfl) rfl ?_
      refine X_bipush (tk_X0_chooseOrder.at 15 rfl) cb_120 ?_
      refine X_icmp_geN (tgt := 84) (tk_X0_chooseOrder.at 16 rfl) (by decide) (pl i rfl) (pl 120 rfl) (by omega) (by omega) (fun c1 => (by exfalso; omega)) (fun c1 => ?_)
      refine X_iload (tk_X0_chooseOrder.at 17 rfl) rfl ?_
      refine X_if_eq (tgt := 84) (tk_X0_chooseOrder.at 18 rfl) (by decide) (fun h => absurd h (by decide)) (fun _ => ?_)
      refine X_aload_n (tk_X0_chooseOrder.at 19 rfl) rfl ?_
      refine X_getR (tk_X0_chooseOrder.at 20 rfl) fl_x0_37 hH.1 rfl rfl ?_
      refine X_aload_n (tk_X0_chooseOrder.at 21 rfl) rfl ?_
      refine X_getR (tk_X0_chooseOrder.at 22 rfl) fl_x0_30 hH.1 rfl rfl ?_
      refine X_cV1i (lv2 := [(0, _), (1, _)]) (tk_X0_chooseOrder.at 23 rfl) mv_X1_tollOf lk_x0_56 np_X1_tollOf hH.2.2.2.1 (by decide) rfl (Nat.le_of_ble_eq_true rfl) (Nat.le_of_ble_eq_true rfl) rfl (c0_toll hH wf hT (fun ξ hf1 hT1 ho1 => ?_))
      have ey : ξ H 2 = nI y := by rw [hf1 H (by omega)]; exact ey0
      have zr := st_row hw h3 hp hT1
      refine X_istore (lv' := [(0, _), (1, _), (2, _), (3, _), (4, _), (5, _), (6, _)]) (tk_X0_chooseOrder.at 24 rfl) (by decide) rfl rfl ?_
      refine X_iload (tk_X0_chooseOrder.at 25 rfl) rfl ?_
      refine X_aload_n (tk_X0_chooseOrder.at 26 rfl) rfl ?_
      refine X_getI (tk_X0_chooseOrder.at 27 rfl) fl_x0_24 hH.1 rfl ?_
      refine X_icmp_geN (tgt := 72) (tk_X0_chooseOrder.at 28 rfl) (by decide) (pl (toll (stN N rn (mny N rn) f)) rfl) ey (by omega) (by omega) (fun c3 => ?_) (fun c3 => ?_)
      · have hb2 : ¬ bet b ((kyO N rn (mny N rn)) f) := fun g => absurd (hlt.mpr g) (by omega)
        refine key ξ (fun a ha => ?_) hT1 ?_
        · rw [hf1 a (by omega)]; exact hF a ha
        · rw [upB_f hb2]
          exact BO_eq hB (hf1 _ (by omega)) (hf1 _ (by omega)) (hf1 _ (by omega))
      · refine X_aload_n (tk_X0_chooseOrder.at 29 rfl) rfl ?_
        refine X_iload (tk_X0_chooseOrder.at 30 rfl) rfl ?_
        refine X_putI (tk_X0_chooseOrder.at 31 rfl) fl_x0_24 hH.1 rfl rfl ⟨rfl, rfl⟩ ?_
        refine X_aload_n (tk_X0_chooseOrder.at 32 rfl) rfl ?_
        refine X_getR (tk_X0_chooseOrder.at 33 rfl) fl_x0_14 hH.1 rfl rfl ?_
        refine X_aload_n (tk_X0_chooseOrder.at 34 rfl) rfl ?_
        refine X_cV1v (lv2 := [(0, _), (1, _)]) (tk_X0_chooseOrder.at 35 rfl) mv_X6_copyFrom lk_x0_60 np_X6_copyFrom hH.2.1.1 (by decide) rfl (Nat.le_of_ble_eq_true rfl) (Nat.le_of_ble_eq_true rfl) rfl (d_cp6 hH.2.1 (DS_r hH.2.2.1 h6) (m := mny N rn) (by rw [su_ne (by omega)]; exact zr.1) (by omega) bm (by decide) (by omega) (fun θ cc => ?_))
        have hb2 : bet b ((kyO N rn (mny N rn)) f) := hlt.mp (by omega)
        refine key θ (fun a ha => ?_) (repD_of hT1 (fun a h1 h2 => by rw [cc.1 a (by omega) (by omega), su_ne (by omega)])) ?_
        · rw [cc.1 a (by omega) (by omega), su_ne (by omega), hf1 a (by omega)]; exact hF a ha
        · rw [upB_t hb2]
          refine ⟨?_, by exact tb, Nat.le_refl _, cc.2.1, fun k hk => ?_⟩
          · rw [cc.1 H (by omega) (by omega), su_same]; exact upd_at _ _ _
          · rw [show H + 2 = H + 1 + 1 from rfl, cc.2.2 k hk, su_ne (by omega)]; exact zr.2 k hk
  refine loop 120 0 ζ g0 none [] rfl hFζ hg0 hTζ hb0 (fun ν f' hF hp hT hB => ?_)
  cases hfin : fnd (kyO N rn (mny N rn)) (mny N rn) 120 g0 none with
  | none => exact absurd hfin (fnd_some _ _ _ _)
  | some q =>
    obtain ⟨⟨t, t2⟩, g⟩ := q
    rw [hfin] at hB
    exact hK ν _ t g hF hT ⟨g0, t2, hg0, hs0, hfin⟩ hB.1 hB.2.2.2.1 hB.2.2.2.2
