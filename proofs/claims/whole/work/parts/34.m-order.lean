/-- what is kept of the best so far -/
def BI (o n M : Nat) (R : Nat → Nat) (ν : Mu) (b : Bst) : Prop := match b with
  | none => ν o 20 = -1
  | some (k, g) => ν o 20 = nI k.1 ∧ k.1 ≤ 1200000 ∧ k.2 ≤ M ∧ Rw (ν (o + 12)) n g ∧ Pm n g R
theorem BI.cong {o n M : Nat} {R : Nat → Nat} {ν ξ : Mu} {b : Bst} (h : BI o n M R ν b) (h1 : ξ o 20 = ν o 20) (h2 : ξ (o + 12) = ν (o + 12)) : BI o n M R ξ b := by
  unfold BI at h ⊢
  rw [h1, h2]
  exact h
noncomputable def kyO (N : Nat → Int32) (r n : Nat) (f : Nat → Nat) : Nat × Nat := (toll (stN N r n f), 0)
noncomputable def kyL (N : Nat → Int32) (n : Nat) (f : Nat → Nat) : Nat × Nat := (toll (lnN N n f), ovr (lnN N n f) (nv (lnN N n f 4)))
theorem stN_st (N : Nat → Int32) (r i : Nat) (f : Nat → Nat) : upd (stN N r i f) (84 + 9 * r + i) (nI (f i)) = stN N r (i + 1) f := by
  funext a
  unfold upd stN
  by_cases e : a = 84 + 9 * r + i
  · rw [if_pos e, if_pos (by omega), e, show 84 + 9 * r + i - (84 + 9 * r) = i by omega]
  · rw [if_neg e]
    by_cases c : 84 + 9 * r ≤ a ∧ a < 84 + 9 * r + i
    · rw [if_pos c, if_pos (by omega)]
    · rw [if_neg c, if_neg (by omega)]
theorem stN_0 (N : Nat → Int32) (r : Nat) (f : Nat → Nat) : stN N r 0 f = N := by funext a; exact if_neg (by omega)
theorem stN_stN (N : Nat → Int32) (r n : Nat) (f g : Nat → Nat) : stN (stN N r n f) r n g = stN N r n g := by
  funext a
  unfold stN
  by_cases c : 84 + 9 * r ≤ a ∧ a < 84 + 9 * r + n
  · rw [if_pos c, if_pos c]
  · rw [if_neg c, if_neg c, if_neg c]
theorem lnN_st (N : Nat → Int32) (i : Nat) (f : Nat → Nat) : upd (lnN N i f) (134 + i) (nI (f i)) = lnN N (i + 1) f := by
  funext a
  unfold upd lnN
  by_cases e : a = 134 + i
  · rw [if_pos e, if_pos (by omega), e, show 134 + i - 134 = i by omega]
  · rw [if_neg e]
    by_cases c : 134 ≤ a ∧ a < 134 + i
    · rw [if_pos c, if_pos (by omega)]
    · rw [if_neg c, if_neg (by omega)]
theorem lnN_0 (N : Nat → Int32) (f : Nat → Nat) : lnN N 0 f = N := by funext a; exact if_neg (by omega)
theorem lnN_lnN (N : Nat → Int32) (n : Nat) (f g : Nat → Nat) : lnN (lnN N n f) n g = lnN N n g := by
  funext a
  unfold lnN
  by_cases c : 134 ≤ a ∧ a < 134 + n
  · rw [if_pos c, if_pos c]
  · rw [if_neg c, if_neg c, if_neg c]
theorem upd_row {C : Nat → Int32} {f : Nat → Nat} {i n : Nat} (h : ∀ x, x < i → C x = nI (f x)) : ∀ x, x < i + 1 → upd C i (nI (f i)) x = nI (f x) := by
  intro x hx
  by_cases e : x = i
  · rw [e, upd_at]
  · rw [upd_ne _ _ e]; exact h x (by omega)
theorem upB_self {key : (Nat → Nat) → Nat × Nat} {f : Nat → Nat} : upB key f (some (key f, f)) = some (key f, f) := by
  refine upB_f (fun z => ?_)
  rcases z with z | ⟨_, z⟩ <;> exact absurd z (Nat.lt_irrefl _)
theorem fnd_up {key : (Nat → Nat) → Nat × Nat} {n m : Nat} {f : Nat → Nat} {b : Bst} (h : bet b (key f)) : fnd key n (m + 1) f (some (key f, f)) = fnd key n (m + 1) f b := by
  rw [fnd, fnd, upB_self, upB_t h]
def SoI (so : Int32) (b : Bst) : Prop := match b with
  | none => True
  | some (k, _) => so = nI k.2
set_option maxHeartbeats 1000000 in
theorem c10_findOrder {G : Gl} {d : Nat} {S : Sh} {μ : Mu} {o : Nat} {q : Nat → Nat} {r : Int32} {rn : Nat} {N : Nat → Int32} {K : Sh → Mu → Prop} (hM : MS S o q) (hN : μ (o + 1) = N) (hl0 : μ o 5 = 0) (hw : WF N) (hr : r = nI rn) (hrn : rn < nv (N 3)) (hK : ∀ ν g0 t t2 g, Sq o μ ν → ν (o + 1) = N → Pm (nv (N (83 + 9 * rn))) g0 (rowN N rn) → (∀ x y, x < y → y < nv (N (83 + 9 * rn)) → g0 x < g0 y) → fnd (kyO N rn (nv (N (83 + 9 * rn)))) (nv (N (83 + 9 * rn))) 120 g0 none = some ((t, t2), g) → ν o 20 = nI t → Rw (ν (o + 12)) (nv (N (83 + 9 * rn))) g → Pm (nv (N (83 + 9 * rn))) g (rowN N rn) → K S ν) : X G mi_X10_findOrder (d + 8) 0 0 [(0, .ref o), (1, .int r)] [] S μ (qv K) := by
  subst hN
  have w4 := hw.n4
  have b4 := w4.2
  have w3 := hw.n3
  have b3 := w3.2
  have wr := hw.ro hrn
  have w1 := hw.n1.2
  have hn6 : nv (μ (o + 1) (83 + 9 * rn)) ≤ 5 := wr.2.2.2.1.2
  have wb : ∀ i, i < nv (μ (o + 1) (83 + 9 * rn)) → μ (o + 1) (84 + 9 * rn + i) = nI (nv (μ (o + 1) (84 + 9 * rn + i))) ∧ nv (μ (o + 1) (84 + 9 * rn + i)) < 1000 := fun i hi => ⟨(wr.2.2.2.2 i hi).1, by have := (wr.2.2.2.2 i hi).2; omega⟩
  have hinj := row_inj hw hrn
  have ec : μ (o + 1) (83 + 9 * rn) = nI (nv (μ (o + 1) (83 + 9 * rn))) := wr.2.2.2.1.1
  have wfs : ∀ f, Pm (nv (μ (o + 1) (83 + 9 * rn))) f (rowN (μ (o + 1)) rn) → WF (stN (μ (o + 1)) rn (nv (μ (o + 1) (83 + 9 * rn))) f) := fun f h => WF_st hw hrn h
  refine X_aload_n (tk_X10_findOrder.at 0 rfl) rfl ?_
  refine X_getR (tk_X10_findOrder.at 1 rfl) fl_x10_9 hM.f0 rfl rfl ?_
  refine X_aload_n (tk_X10_findOrder.at 2 rfl) rfl ?_
  refine X_getR (tk_X10_findOrder.at 3 rfl) fl_x10_16 hM.f0 rfl rfl ?_
  refine X_cS2v (lv2 := [(0, _), (1, _)]) (tk_X10_findOrder.at 4 rfl) ms_X10_copy lk_x10_73 np_X10_copy (Nat.le_of_ble_eq_true rfl) (Nat.le_of_ble_eq_true rfl) rfl (c10_copy hM.f1 hM.f3 (by omega) ?_)
  refine X_aload_n (tk_X10_findOrder.at 5 rfl) rfl ?_
  refine X_iload_n (tk_X10_findOrder.at 6 rfl) rfl ?_
  refine X_cV1i (lv2 := [(0, _), (1, _)]) (tk_X10_findOrder.at 7 rfl) mv_X10_many lk_x10_118 np_X10_many hM.f0 (by decide) rfl (Nat.le_of_ble_eq_true rfl) (Nat.le_of_ble_eq_true rfl) rfl (c10_many hM hr (by omega) ?_)
  refine X_istore_n (lv' := [(0, _), (1, _), (2, _)]) (tk_X10_findOrder.at 8 rfl) (by decide) rfl rfl ?_
  refine X_iconst (tk_X10_findOrder.at 9 rfl) ci_0 ?_
  refine X_istore_n (lv' := [(0, _), (1, _), (2, _), (3, _)]) (tk_X10_findOrder.at 10 rfl) (by decide) rfl rfl ?_
  have e1 : (Mx μ (o + 3) (μ (o + 1))) (o + 1) = μ (o + 1) := Mx_ne (by omega)
  rw [e1, ec]
  generalize hnn : nv (μ (o + 1) (83 + 9 * rn)) = n at hn6 wb hinj wfs hK ⊢
  have sq0 : Sq o μ (Mx μ (o + 3) (μ (o + 1))) := (Sq.rf o μ).mx _ (by omega)
  have a0 : (Mx μ (o + 3) (μ (o + 1))) (o + 3) = μ (o + 1) := Mx_same
  have z0 : (Mx μ (o + 3) (μ (o + 1))) o 5 = 0 := by rw [Mx_ne (by omega)]; exact hl0
  generalize (Mx μ (o + 3) (μ (o + 1))) = μ0 at e1 sq0 a0 z0 ⊢
  generalize μ (o + 1) = N at *
  have wbn := wb
  have first : ∀ (m k : Nat) (B : Nat → Int32), k + m = n → (∀ x, x < k → B x = N (84 + 9 * rn + x)) → X G mi_X10_findOrder (d + 8) 0 19 [(0, .ref o), (1, .int r), (2, .int (nI n)), (3, .int (nI k))] [] S (Mx μ0 (o + 11) B) (qv K) := by
    intro m
    induction m with
    | zero =>
      intro k B hk hB
      refine X_iload_n (tk_X10_findOrder.at 11 rfl) rfl ?_
      refine X_iload_n (tk_X10_findOrder.at 12 rfl) rfl ?_
      refine X_icmp_geN (tgt := 42) (tk_X10_findOrder.at 13 rfl) (by decide) (pl k rfl) (pl n rfl) (by omega) (by omega) (fun c1 => ?_) (fun c1 => (by exfalso; omega))
      refine X_aload_n (tk_X10_findOrder.at 24 rfl) rfl ?_
      refine X_getR (tk_X10_findOrder.at 25 rfl) fl_x10_47 hM.f0 rfl rfl ?_
      refine X_iload_n (tk_X10_findOrder.at 26 rfl) rfl ?_
      have rw0 : Rw (Mx μ0 (o + 11) B (o + 11)) n (rowN N rn) := by
        rw [Mx_same]
        intro x hx
        have z := wbn x hx
        exact ⟨(hB x (by omega)).trans z.1, z.2⟩
      refine X_cS2v (lv2 := [(0, _), (1, _)]) (tk_X10_findOrder.at 27 rfl) ms_X10_sorts lk_x10_271 np_X10_sorts (Nat.le_of_ble_eq_true rfl) (Nat.le_of_ble_eq_true rfl) rfl (c10_sorts hM.f11 (by decide) (by omega) (pl n rfl) rw0 hinj (fun g0 C hp0 hr0 hC => ?_))
      rw [Mx_Mx]
      refine X_aload_n (tk_X10_findOrder.at 28 rfl) rfl ?_
      refine X_iconst (tk_X10_findOrder.at 29 rfl) ci_m1 ?_
      refine X_putI (tk_X10_findOrder.at 30 rfl) fl_x10_275 hM.f0 rfl rfl ⟨rfl, rfl⟩ ?_
      refine X_iconst (tk_X10_findOrder.at 31 rfl) ci_1 ?_
      refine X_istore_n (lv' := [(0, _), (1, _), (2, _), (3, _)]) (tk_X10_findOrder.at 32 rfl) (by decide) rfl rfl ?_
      have en0 : ends n 120 g0 := ends_5 (by omega) hr0
      have fin : ∀ (ν : Mu) (b : Bst) (rest : List (Nat × Value)), Sq o μ ν → ν (o + 3) = N → BI o n 0 (rowN N rn) ν b → (∃ k g, b = some (k, g)) → b = fnd (kyO N rn n) n 120 g0 none → X G mi_X10_findOrder (d + 8) 0 57 ([(0, .ref o), (1, .int r), (2, .int (nI n)), (3, .int 0)] ++ rest) [] S ν (qv K) := by
        intro ν b rest hsq h3 hb hsome hfn
        refine X_lvp [0, 1, 2, 3] (lv' := [(0, _), (1, _), (2, _), (3, _)]) rfl ?_
        refine X_iload_n (tk_X10_findOrder.at 33 rfl) rfl ?_
        refine X_if_eq (tgt := 159) (tk_X10_findOrder.at 34 rfl) (by decide) (fun _ => ?_) (fun h => absurd h (by decide))
        refine X_aload_n (tk_X10_findOrder.at 84 rfl) rfl ?_
        refine X_getR (tk_X10_findOrder.at 85 rfl) fl_x10_16 hM.f0 rfl rfl ?_
        refine X_aload_n (tk_X10_findOrder.at 86 rfl) rfl ?_
        refine X_getR (tk_X10_findOrder.at 87 rfl) fl_x10_9 hM.f0 rfl rfl ?_
        refine X_cS2v (lv2 := [(0, _), (1, _)]) (tk_X10_findOrder.at 88 rfl) ms_X10_copy lk_x10_73 np_X10_copy (Nat.le_of_ble_eq_true rfl) (Nat.le_of_ble_eq_true rfl) rfl (c10_copy hM.f3 hM.f1 (by omega) ?_)
        refine X_return (tk_X10_findOrder.at 89 rfl) rfl ?_
        obtain ⟨⟨t, t2⟩, g, rfl⟩ := hsome
        obtain ⟨b1, b2, b5, b3, b4⟩ := hb
        rw [h3]
        exact hK (Mx ν (o + 1) N) g0 t t2 g (hsq.mx _ (by omega)) Mx_same hp0 hr0 hfn.symm (by rw [Mx_ne (by omega)]; exact b1) (by rw [Mx_ne (by omega)]; exact b3) b4
      have loop : ∀ m, ∀ (f : Nat → Nat) (ν : Mu) (b : Bst) (N1 : Nat → Int32) (rest : List (Nat × Value)), ends n m f → Pm n f (rowN N rn) → Sq o μ ν → ν (o + 3) = N → ν (o + 1) = N1 → (∀ h, (stN N1 rn n h) = (stN N rn n h)) → Rw (ν (o + 11)) n f → BI o n 0 (rowN N rn) ν b → fnd (kyO N rn n) n m f b = fnd (kyO N rn n) n 120 g0 none → X G mi_X10_findOrder (d + 8) 0 57 ([(0, .ref o), (1, .int r), (2, .int (nI n)), (3, .int 1)] ++ rest) [] S ν (qv K) := by
        intro m
        induction m with
        | zero => intro f ν b N1 rest h; exact h.elim
        | succ m ih =>
          intro f ν b N1 rest hend hp hsq h3 h1 hst hrw hb hfn
          refine X_lvp [0, 1, 2, 3] (lv' := [(0, _), (1, _), (2, _), (3, _)]) rfl ?_
          have tail : ∀ (ν : Mu) (b : Bst) (rest : List (Nat × Value)), Sq o μ ν → ν (o + 3) = N → ν (o + 1) = (stN N rn n f) → Rw (ν (o + 11)) n f → BI o n 0 (rowN N rn) ν b → (∃ k g, b = some (k, g)) → fnd (kyO N rn n) n (m + 1) f b = fnd (kyO N rn n) n 120 g0 none → upB (kyO N rn n) f b = b → X G mi_X10_findOrder (d + 8) 0 147 ([(0, .ref o), (1, .int r), (2, .int (nI n)), (3, .int 1)] ++ rest) [] S ν (qv K) := by
            intro ν b rest hsq h3 h1 hrw hb hsome hfn hup
            refine X_lvp [0, 1, 2, 3] (lv' := [(0, _), (1, _), (2, _), (3, _)]) rfl ?_
            refine X_aload_n (tk_X10_findOrder.at 78 rfl) rfl ?_
            refine X_getR (tk_X10_findOrder.at 79 rfl) fl_x10_47 hM.f0 rfl rfl ?_
            refine X_iload_n (tk_X10_findOrder.at 80 rfl) rfl ?_
            refine X_cS2i (lv2 := [(0, _), (1, _)]) (tk_X10_findOrder.at 81 rfl) ms_X10_nexts lk_x10_278 np_X10_nexts (Nat.le_of_ble_eq_true rfl) (Nat.le_of_ble_eq_true rfl) rfl (c10_nexts hM.f11 (by decide) (by omega) (pl n rfl) hrw (fun e => ?_) (fun k e B hB => ?_))
            · rw [fnd_n (nxo_n e), hup] at hfn
              refine X_istore_n (lv' := [(0, _), (1, _), (2, _), (3, _)]) (tk_X10_findOrder.at 82 rfl) (by decide) rfl rfl ?_
              refine X_goto (tgt := 57) (tk_X10_findOrder.at 83 rfl) (by decide) ?_
              exact fin ν b [] hsq h3 hb hsome hfn
            · rw [fnd_s (nxo_s e), hup] at hfn
              refine X_istore_n (lv' := [(0, _), (1, _), (2, _), (3, _)]) (tk_X10_findOrder.at 82 rfl) (by decide) rfl rfl ?_
              refine X_goto (tgt := 57) (tk_X10_findOrder.at 83 rfl) (by decide) ?_
              refine ih _ (Mx ν (o + 11) B) b (stN N rn n f) [] (ends_s hend (nxo_s e)) ((Pm_nxv hp.2.2 (by have := lstA_lt e; omega) (by have := lstA_lt e; have := gtJ_le (f := f) (k := k) (n - 1); omega)).tr hp) (hsq.mx _ (by omega)) (by rw [Mx_ne (by omega)]; exact h3) (by rw [Mx_ne (by omega)]; exact h1) (fun h => stN_stN _ _ _ f h) (by rw [Mx_same]; exact hB) (hb.cong (by rw [Mx_ne (by omega)]) (by rw [Mx_ne (by omega)])) hfn
          have seat : ∀ (w i : Nat), i + w = n → X G mi_X10_findOrder (d + 8) 0 64 [(0, .ref o), (1, .int r), (2, .int (nI n)), (3, .int 1), (4, .int (nI i))] [] S (Mx ν (o + 1) (stN N1 rn i f)) (qv K) := by
            intro w
            induction w with
            | zero =>
              intro i hi
              have ei : i = n := by omega
              rw [ei, hst]
              refine X_iload (tk_X10_findOrder.at 37 rfl) rfl ?_
              refine X_iload_n (tk_X10_findOrder.at 38 rfl) rfl ?_
              refine X_icmp_geN (tgt := 90) (tk_X10_findOrder.at 39 rfl) (by decide) (pl n rfl) (pl n rfl) (by omega) (by omega) (fun c1 => ?_) (fun c1 => (by exfalso; omega))
              refine X_aload_n (tk_X10_findOrder.at 50 rfl) rfl ?_
              refine X_cV0i (lv2 := [(0, _)]) (tk_X10_findOrder.at 51 rfl) mv_X10_tollOf lk_x10_264 np_X10_tollOf hM.f0 (by decide) rfl (Nat.le_of_ble_eq_true rfl) (Nat.le_of_ble_eq_true rfl) rfl (c10_tollY hM Mx_same (by rw [Mx_ne (by omega)]; exact hsq.2.2.1.trans hl0) (wfs f hp) (fun ξ hsy hov => ?_))
              have tb := toll_le (wfs f hp)
              have x20 : ξ o 20 = ν o 20 := by rw [hsy.2 20 (by decide), Mx_ne (by omega)]
              have x1 : ξ (o + 1) = (stN N rn n f) := by rw [hsy.1 _ (by omega) (by omega) (by omega) (by omega) (by omega), Mx_same]
              have xa : ∀ a, a ≠ o → a ≠ o + 1 → a ≠ o + 7 → a ≠ o + 8 → a ≠ o + 9 → a ≠ o + 10 → ξ a = ν a := fun a q0 q1 q7 q8 q9 q10 => by rw [hsy.1 a q0 q7 q8 q9 q10, Mx_ne q1]
              have xsq : Sq o μ ξ := (hsq.mx _ (by omega)).tr hsy.sx
              clear hsy
              refine X_istore (lv' := [(0, _), (1, _), (2, _), (3, _), (4, _)]) (tk_X10_findOrder.at 52 rfl) (by decide) rfl rfl ?_
              generalize hres : fnd (kyO N rn n) n 120 g0 none = RES at hfn
              cases b with
              | none =>
                have hbet : bet none ((kyO N rn n) f) := trivial
                have e20 : ξ o 20 = -1 := x20.trans hb
                refine X_aload_n (tk_X10_findOrder.at 53 rfl) rfl ?_
                refine X_getI (tk_X10_findOrder.at 54 rfl) fl_x10_275 hM.f0 rfl ?_
                rw [e20]
                refine X_if_lt (tgt := 112) (tk_X10_findOrder.at 55 rfl) (by decide) (fun _ => ?_) (fun h => absurd h (by decide))
                refine X_aload_n (tk_X10_findOrder.at 60 rfl) rfl ?_
                refine X_iload (tk_X10_findOrder.at 61 rfl) rfl ?_
                refine X_putI (tk_X10_findOrder.at 62 rfl) fl_x10_275 hM.f0 rfl rfl ⟨rfl, rfl⟩ ?_
                refine X_iconst (tk_X10_findOrder.at 63 rfl) ci_0 ?_
                refine X_istore (lv' := [(0, _), (1, _), (2, _), (3, _), (4, _), (5, _)]) (tk_X10_findOrder.at 64 rfl) (by decide) rfl rfl ?_
                generalize hbb : (none : Bst) = b at hbet hfn
                have y11 : (su ξ o 20 (nI (toll (stN N rn n f)))) (o + 11) = ν (o + 11) := by rw [su_ne (by omega)]; exact xa _ (by omega) (by omega) (by omega) (by omega) (by omega) (by omega)
                have y3 : (su ξ o 20 (nI (toll (stN N rn n f)))) (o + 3) = N := by rw [su_ne (by omega), xa _ (by omega) (by omega) (by omega) (by omega) (by omega) (by omega)]; exact h3
                have y1 : (su ξ o 20 (nI (toll (stN N rn n f)))) (o + 1) = (stN N rn n f) := by rw [su_ne (by omega)]; exact x1
                have y20 : (su ξ o 20 (nI (toll (stN N rn n f)))) o 20 = nI (toll (stN N rn n f)) := by rw [su_same]; exact upd_at _ _ _
                have ysq : Sq o μ (su ξ o 20 (nI (toll (stN N rn n f)))) := xsq.su _ (by decide)
                have hnew : bet b ((kyO N rn n) f) := hbet
                generalize su ξ o 20 (nI (toll (stN N rn n f))) = χ at y11 y3 y1 y20 ysq ⊢
                have copyl : ∀ (w i : Nat) (C : Nat → Int32), i + w = n → (∀ x, x < i → C x = nI (f x)) → X G mi_X10_findOrder (d + 8) 0 121 [(0, .ref o), (1, .int r), (2, .int (nI n)), (3, .int 1), (4, .int (nI (toll (stN N rn n f)))), (5, .int (nI i))] [] S (Mx χ (o + 12) C) (qv K) := by
                  intro w
                  induction w with
                  | zero =>
                    intro i C hi hC
                    refine X_iload (tk_X10_findOrder.at 65 rfl) rfl ?_
                    refine X_iload_n (tk_X10_findOrder.at 66 rfl) rfl ?_
                    refine X_icmp_geN (tgt := 147) (tk_X10_findOrder.at 67 rfl) (by decide) (pl i rfl) (pl n rfl) (by omega) (by omega) (fun c1 => ?_) (fun c1 => (by exfalso; omega))
                    have nb : BI o n 0 (rowN N rn) (Mx χ (o + 12) C) (some ((kyO N rn n) f, f)) := ⟨by rw [Mx_ne (by omega)]; exact y20, tb, Nat.zero_le _, by rw [Mx_same]; exact fun x hx => ⟨hC x (by omega), (hrw x hx).2⟩, hp⟩
                    refine tail (Mx χ (o + 12) C) (some ((kyO N rn n) f, f)) [(4, _), (5, _)] (ysq.mx _ (by omega)) (by rw [Mx_ne (by omega)]; exact y3) (by rw [Mx_ne (by omega)]; exact y1) (by rw [Mx_ne (by omega), y11]; exact hrw) nb ⟨_, _, rfl⟩ ?_ ?_
                    · rw [hres, ← hfn]; exact fnd_up hnew
                    · exact upB_self
                  | succ w ihw =>
                    intro i C hi hC
                    refine X_iload (tk_X10_findOrder.at 65 rfl) rfl ?_
                    refine X_iload_n (tk_X10_findOrder.at 66 rfl) rfl ?_
                    refine X_icmp_geN (tgt := 147) (tk_X10_findOrder.at 67 rfl) (by decide) (pl i rfl) (pl n rfl) (by omega) (by omega) (fun c1 => (by exfalso; omega)) (fun c1 => ?_)
                    refine X_aload_n (tk_X10_findOrder.at 68 rfl) rfl ?_
                    refine X_getR (tk_X10_findOrder.at 69 rfl) fl_x10_50 hM.f0 rfl rfl ?_
                    refine X_iload (tk_X10_findOrder.at 70 rfl) rfl ?_
                    refine X_aload_n (tk_X10_findOrder.at 71 rfl) rfl ?_
                    refine X_getR (tk_X10_findOrder.at 72 rfl) fl_x10_47 hM.f0 rfl rfl ?_
                    refine X_iload (tk_X10_findOrder.at 73 rfl) rfl ?_
                    refine X_ialdN (k := i) (tk_X10_findOrder.at 74 rfl) hM.f11 (pz (pl i rfl) (by omega)) (by omega) (by decide) ?_
                    refine X_iastN (k := i) (tk_X10_findOrder.at 75 rfl) hM.f12 (pz (pl i rfl) (by omega)) (by omega) (by decide) ?_
                    refine X_iinc (lv' := [(0, _), (1, _), (2, _), (3, _), (4, _), (5, _)]) (tk_X10_findOrder.at 76 rfl) rfl ci_1 (by decide) rfl rfl ?_
                    refine X_goto (tgt := 121) (tk_X10_findOrder.at 77 rfl) (by decide) ?_
                    rw [Mx_ne (show o + 11 ≠ o + 12 by omega), y11, (hrw i (by omega)).1, nI_1 i, su_Mx]
                    exact ihw (i + 1) _ (by omega) (upd_row (n := n) hC)
                have z := copyl n 0 (χ (o + 12)) (Nat.zero_add n) (fun x hx => absurd hx (Nat.not_lt_zero x))
                rw [Mx_self] at z
                exact z
              | some x =>
                obtain ⟨⟨t, t2⟩, g⟩ := x
                have hb0 := hb
                obtain ⟨c20, ct, ct2, cr, cp⟩ := hb
                have hb : ν o 20 = nI t ∧ True := ⟨c20, trivial⟩
                refine X_aload_n (tk_X10_findOrder.at 53 rfl) rfl ?_
                refine X_getI (tk_X10_findOrder.at 54 rfl) fl_x10_275 hM.f0 rfl ?_
                refine X_if_ltN (tgt := 112) (tk_X10_findOrder.at 55 rfl) (by decide) (x20.trans hb.1) (by omega) ?_
                refine X_iload (tk_X10_findOrder.at 56 rfl) rfl ?_
                refine X_aload_n (tk_X10_findOrder.at 57 rfl) rfl ?_
                refine X_getI (tk_X10_findOrder.at 58 rfl) fl_x10_275 hM.f0 rfl ?_
                refine X_icmp_geN (tgt := 147) (tk_X10_findOrder.at 59 rfl) (by decide) (pl (toll (stN N rn n f)) rfl) (x20.trans hb.1) (by omega) (by omega) (fun c2 => ?_) (fun c2 => ?_)
                · have hno : ¬ bet (some ((t, t2), g)) ((kyO N rn n) f) := by
                    intro z
                    rcases z with z | ⟨z1, z2⟩
                    · have : toll (stN N rn n f) < t := z
                      omega
                    · have : 0 < t2 := z2
                      have z3 : toll (stN N rn n f) = t := z1
                      have ct3 : t2 ≤ 0 := ct2
                      omega
                  refine tail ξ (some ((t, t2), g)) [(4, _)] xsq (by rw [xa _ (by omega) (by omega) (by omega) (by omega) (by omega) (by omega)]; exact h3) x1 (by rw [xa _ (by omega) (by omega) (by omega) (by omega) (by omega) (by omega)]; exact hrw) (hb0.cong x20 (xa _ (by omega) (by omega) (by omega) (by omega) (by omega) (by omega))) ⟨_, _, rfl⟩ (hfn.trans hres.symm) (upB_f hno)
                · refine X_aload_n (tk_X10_findOrder.at 60 rfl) rfl ?_
                  refine X_iload (tk_X10_findOrder.at 61 rfl) rfl ?_
                  refine X_putI (tk_X10_findOrder.at 62 rfl) fl_x10_275 hM.f0 rfl rfl ⟨rfl, rfl⟩ ?_
                  refine X_iconst (tk_X10_findOrder.at 63 rfl) ci_0 ?_
                  refine X_istore (lv' := [(0, _), (1, _), (2, _), (3, _), (4, _), (5, _)]) (tk_X10_findOrder.at 64 rfl) (by decide) rfl rfl ?_
                  have hbet : bet (some ((t, t2), g)) ((kyO N rn n) f) := Or.inl (show toll (stN N rn n f) < t by omega)
                  generalize hbb : (some ((t, t2), g) : Bst) = b at hbet hfn hb0
                  have y11 : (su ξ o 20 (nI (toll (stN N rn n f)))) (o + 11) = ν (o + 11) := by rw [su_ne (by omega)]; exact xa _ (by omega) (by omega) (by omega) (by omega) (by omega) (by omega)
                  have y3 : (su ξ o 20 (nI (toll (stN N rn n f)))) (o + 3) = N := by rw [su_ne (by omega), xa _ (by omega) (by omega) (by omega) (by omega) (by omega) (by omega)]; exact h3
                  have y1 : (su ξ o 20 (nI (toll (stN N rn n f)))) (o + 1) = (stN N rn n f) := by rw [su_ne (by omega)]; exact x1
                  have y20 : (su ξ o 20 (nI (toll (stN N rn n f)))) o 20 = nI (toll (stN N rn n f)) := by rw [su_same]; exact upd_at _ _ _
                  have ysq : Sq o μ (su ξ o 20 (nI (toll (stN N rn n f)))) := xsq.su _ (by decide)
                  have hnew : bet b ((kyO N rn n) f) := hbet
                  generalize su ξ o 20 (nI (toll (stN N rn n f))) = χ at y11 y3 y1 y20 ysq ⊢
                  have copyl : ∀ (w i : Nat) (C : Nat → Int32), i + w = n → (∀ x, x < i → C x = nI (f x)) → X G mi_X10_findOrder (d + 8) 0 121 [(0, .ref o), (1, .int r), (2, .int (nI n)), (3, .int 1), (4, .int (nI (toll (stN N rn n f)))), (5, .int (nI i))] [] S (Mx χ (o + 12) C) (qv K) := by
                    intro w
                    induction w with
                    | zero =>
                      intro i C hi hC
                      refine X_iload (tk_X10_findOrder.at 65 rfl) rfl ?_
                      refine X_iload_n (tk_X10_findOrder.at 66 rfl) rfl ?_
                      refine X_icmp_geN (tgt := 147) (tk_X10_findOrder.at 67 rfl) (by decide) (pl i rfl) (pl n rfl) (by omega) (by omega) (fun c1 => ?_) (fun c1 => (by exfalso; omega))
                      have nb : BI o n 0 (rowN N rn) (Mx χ (o + 12) C) (some ((kyO N rn n) f, f)) := ⟨by rw [Mx_ne (by omega)]; exact y20, tb, Nat.zero_le _, by rw [Mx_same]; exact fun x hx => ⟨hC x (by omega), (hrw x hx).2⟩, hp⟩
                      refine tail (Mx χ (o + 12) C) (some ((kyO N rn n) f, f)) [(4, _), (5, _)] (ysq.mx _ (by omega)) (by rw [Mx_ne (by omega)]; exact y3) (by rw [Mx_ne (by omega)]; exact y1) (by rw [Mx_ne (by omega), y11]; exact hrw) nb ⟨_, _, rfl⟩ ?_ ?_
                      · rw [hres, ← hfn]; exact fnd_up hnew
                      · exact upB_self
                    | succ w ihw =>
                      intro i C hi hC
                      refine X_iload (tk_X10_findOrder.at 65 rfl) rfl ?_
                      refine X_iload_n (tk_X10_findOrder.at 66 rfl) rfl ?_
                      refine X_icmp_geN (tgt := 147) (tk_X10_findOrder.at 67 rfl) (by decide) (pl i rfl) (pl n rfl) (by omega) (by omega) (fun c1 => (by exfalso; omega)) (fun c1 => ?_)
                      refine X_aload_n (tk_X10_findOrder.at 68 rfl) rfl ?_
                      refine X_getR (tk_X10_findOrder.at 69 rfl) fl_x10_50 hM.f0 rfl rfl ?_
                      refine X_iload (tk_X10_findOrder.at 70 rfl) rfl ?_
                      refine X_aload_n (tk_X10_findOrder.at 71 rfl) rfl ?_
                      refine X_getR (tk_X10_findOrder.at 72 rfl) fl_x10_47 hM.f0 rfl rfl ?_
                      refine X_iload (tk_X10_findOrder.at 73 rfl) rfl ?_
                      refine X_ialdN (k := i) (tk_X10_findOrder.at 74 rfl) hM.f11 (pz (pl i rfl) (by omega)) (by omega) (by decide) ?_
                      refine X_iastN (k := i) (tk_X10_findOrder.at 75 rfl) hM.f12 (pz (pl i rfl) (by omega)) (by omega) (by decide) ?_
                      refine X_iinc (lv' := [(0, _), (1, _), (2, _), (3, _), (4, _), (5, _)]) (tk_X10_findOrder.at 76 rfl) rfl ci_1 (by decide) rfl rfl ?_
                      refine X_goto (tgt := 121) (tk_X10_findOrder.at 77 rfl) (by decide) ?_
                      rw [Mx_ne (show o + 11 ≠ o + 12 by omega), y11, (hrw i (by omega)).1, nI_1 i, su_Mx]
                      exact ihw (i + 1) _ (by omega) (upd_row (n := n) hC)
                  have z := copyl n 0 (χ (o + 12)) (Nat.zero_add n) (fun x hx => absurd hx (Nat.not_lt_zero x))
                  rw [Mx_self] at z
                  exact z
            | succ w ihw =>
              intro i hi
              refine X_iload (tk_X10_findOrder.at 37 rfl) rfl ?_
              refine X_iload_n (tk_X10_findOrder.at 38 rfl) rfl ?_
              refine X_icmp_geN (tgt := 90) (tk_X10_findOrder.at 39 rfl) (by decide) (pl i rfl) (pl n rfl) (by omega) (by omega) (fun c1 => (by exfalso; omega)) (fun c1 => ?_)
              refine X_aload_n (tk_X10_findOrder.at 40 rfl) rfl ?_
              refine X_iload_n (tk_X10_findOrder.at 41 rfl) rfl ?_
              refine X_iload (tk_X10_findOrder.at 42 rfl) rfl ?_
              refine X_aload_n (tk_X10_findOrder.at 43 rfl) rfl ?_
              refine X_getR (tk_X10_findOrder.at 44 rfl) fl_x10_47 hM.f0 rfl rfl ?_
              refine X_iload (tk_X10_findOrder.at 45 rfl) rfl ?_
              refine X_ialdN (k := i) (tk_X10_findOrder.at 46 rfl) hM.f11 (pz (pl i rfl) (by omega)) (by omega) (by decide) ?_
              refine X_cV3v (lv2 := [(0, _), (1, _), (2, _), (3, _)]) (tk_X10_findOrder.at 47 rfl) mv_X10_seats lk_x10_127 np_X10_seats hM.f0 (by decide) rfl (Nat.le_of_ble_eq_true rfl) (Nat.le_of_ble_eq_true rfl) rfl (c10_seats hM hr (pl i rfl) (by omega) (by omega) ?_)
              refine X_iinc (lv' := [(0, _), (1, _), (2, _), (3, _), (4, _)]) (tk_X10_findOrder.at 48 rfl) rfl ci_1 (by decide) rfl rfl ?_
              refine X_goto (tgt := 64) (tk_X10_findOrder.at 49 rfl) (by decide) ?_
              rw [Mx_ne (show o + 11 ≠ o + 1 by omega), (hrw i (by omega)).1, nI_1 i, su_Mx, stN_st]
              exact ihw (i + 1) (by omega)
          refine X_iload_n (tk_X10_findOrder.at 33 rfl) rfl ?_
          refine X_if_eq (tgt := 159) (tk_X10_findOrder.at 34 rfl) (by decide) (fun h => absurd h (by decide)) (fun _ => ?_)
          refine X_iconst (tk_X10_findOrder.at 35 rfl) ci_0 ?_
          refine X_istore (lv' := [(0, _), (1, _), (2, _), (3, _), (4, _)]) (tk_X10_findOrder.at 36 rfl) (by decide) rfl rfl ?_
          have z := seat n 0 (Nat.zero_add n)
          rw [stN_0, ← h1, Mx_self] at z
          exact z
      refine loop 120 g0 _ none N [] en0 hp0 ((sq0.mx _ (by omega)).su _ (by decide)) (by rw [su_ne (by omega), Mx_ne (by omega)]; exact a0) (by rw [su_ne (by omega), Mx_ne (by omega)]; exact e1) (fun h => rfl) (by rw [su_ne (by omega), Mx_same]; exact hC) (by show su _ _ _ _ _ _ = _; rw [su_same]; exact upd_at _ _ _) rfl
    | succ m ih =>
      intro k B hk hB
      refine X_iload_n (tk_X10_findOrder.at 11 rfl) rfl ?_
      refine X_iload_n (tk_X10_findOrder.at 12 rfl) rfl ?_
      refine X_icmp_geN (tgt := 42) (tk_X10_findOrder.at 13 rfl) (by decide) (pl k rfl) (pl n rfl) (by omega) (by omega) (fun c1 => (by exfalso; omega)) (fun c1 => ?_)
      refine X_aload_n (tk_X10_findOrder.at 14 rfl) rfl ?_
      refine X_getR (tk_X10_findOrder.at 15 rfl) fl_x10_47 hM.f0 rfl rfl ?_
      refine X_iload_n (tk_X10_findOrder.at 16 rfl) rfl ?_
      refine X_aload_n (tk_X10_findOrder.at 17 rfl) rfl ?_
      refine X_iload_n (tk_X10_findOrder.at 18 rfl) rfl ?_
      refine X_iload_n (tk_X10_findOrder.at 19 rfl) rfl ?_
      refine X_cV2i (lv2 := [(0, _), (1, _), (2, _)]) (tk_X10_findOrder.at 20 rfl) mv_X10_who lk_x10_121 np_X10_who hM.f0 (by decide) rfl (Nat.le_of_ble_eq_true rfl) (Nat.le_of_ble_eq_true rfl) rfl (c10_who hM hr (pl k rfl) (by omega) (by omega) ?_)
      refine X_iastN (k := k) (tk_X10_findOrder.at 21 rfl) hM.f11 (pz (pl k rfl) (by omega)) (by omega) (by decide) ?_
      refine X_iinc (lv' := [(0, _), (1, _), (2, _), (3, _)]) (tk_X10_findOrder.at 22 rfl) rfl ci_1 (by decide) rfl rfl ?_
      refine X_goto (tgt := 19) (tk_X10_findOrder.at 23 rfl) (by decide) ?_
      rw [Mx_ne (show o + 1 ≠ o + 11 by omega), e1, nI_1 k, su_Mx]
      refine ih (k + 1) _ (by omega) (fun x hx => ?_)
      by_cases e : x = k
      · rw [e, upd_at]
      · rw [upd_ne _ _ e]; exact hB x (by omega)
  have z := first n 0 (μ0 (o + 11)) (Nat.zero_add n) (fun x hx => absurd hx (Nat.not_lt_zero x))
  rw [Mx_self] at z
  exact z
set_option maxHeartbeats 1000000 in
theorem c10_findLine {G : Gl} {d : Nat} {S : Sh} {μ : Mu} {o : Nat} {q : Nat → Nat} {N : Nat → Int32} {K : Sh → Mu → Prop} (hM : MS S o q) (hN : μ (o + 1) = N) (hl0 : μ o 5 = 0) (hw : WF N) (hK : ∀ ν g0 t t2 g, Sq o μ ν → ν (o + 1) = N → Pm (nv (N 4)) g0 (linN N) → (∀ x y, x < y → y < nv (N 4) → g0 x < g0 y) → fnd (kyL N (nv (N 4))) (nv (N 4)) 720 g0 none = some ((t, t2), g) → ν o 20 = nI t → Rw (ν (o + 12)) (nv (N 4)) g → Pm (nv (N 4)) g (linN N) → K S ν) : X G mi_X10_findLine (d + 8) 0 0 [(0, .ref o)] [] S μ (qv K) := by
  subst hN
  have w4 := hw.n4
  have b4 := w4.2
  have w3 := hw.n3
  have b3 := w3.2
  have hn6 : nv (μ (o + 1) 4) ≤ 6 := b4
  have wb : ∀ i, i < nv (μ (o + 1) 4) → μ (o + 1) (134 + i) = nI (nv (μ (o + 1) (134 + i))) ∧ nv (μ (o + 1) (134 + i)) < 1000 := fun i hi => ⟨(hw.li hi).1, by have := (hw.li hi).2; omega⟩
  have hinj := lin_inj hw
  have ec : μ (o + 1) 4 = nI (nv (μ (o + 1) 4)) := w4.1
  have wfs : ∀ f, Pm (nv (μ (o + 1) 4)) f (linN (μ (o + 1))) → WF (lnN (μ (o + 1)) (nv (μ (o + 1) 4)) f) := fun f h => WF_ln hw h
  refine X_aload_n (tk_X10_findLine.at 0 rfl) rfl ?_
  refine X_getR (tk_X10_findLine.at 1 rfl) fl_x10_9 hM.f0 rfl rfl ?_
  refine X_aload_n (tk_X10_findLine.at 2 rfl) rfl ?_
  refine X_getR (tk_X10_findLine.at 3 rfl) fl_x10_16 hM.f0 rfl rfl ?_
  refine X_cS2v (lv2 := [(0, _), (1, _)]) (tk_X10_findLine.at 4 rfl) ms_X10_copy lk_x10_73 np_X10_copy (Nat.le_of_ble_eq_true rfl) (Nat.le_of_ble_eq_true rfl) rfl (c10_copy hM.f1 hM.f3 (by omega) ?_)
  refine X_aload_n (tk_X10_findLine.at 5 rfl) rfl ?_
  refine X_getR (tk_X10_findLine.at 6 rfl) fl_x10_9 hM.f0 rfl rfl ?_
  refine X_iconst (tk_X10_findLine.at 7 rfl) ci_4 ?_
  refine X_ialdN (k := 4) (tk_X10_findLine.at 8 rfl) hM.f1 (pz (pl 4 rfl) (by omega)) (by omega) (by decide) ?_
  refine X_istore_n (lv' := [(0, _), (1, _)]) (tk_X10_findLine.at 9 rfl) (by decide) rfl rfl ?_
  refine X_iconst (tk_X10_findLine.at 10 rfl) ci_0 ?_
  refine X_istore_n (lv' := [(0, _), (1, _), (2, _)]) (tk_X10_findLine.at 11 rfl) (by decide) rfl rfl ?_
  have e1 : (Mx μ (o + 3) (μ (o + 1))) (o + 1) = μ (o + 1) := Mx_ne (by omega)
  rw [e1, ec]
  generalize hnn : nv (μ (o + 1) 4) = n at hn6 wb hinj wfs hK ⊢
  have sq0 : Sq o μ (Mx μ (o + 3) (μ (o + 1))) := (Sq.rf o μ).mx _ (by omega)
  have a0 : (Mx μ (o + 3) (μ (o + 1))) (o + 3) = μ (o + 1) := Mx_same
  have z0 : (Mx μ (o + 3) (μ (o + 1))) o 5 = 0 := by rw [Mx_ne (by omega)]; exact hl0
  generalize (Mx μ (o + 3) (μ (o + 1))) = μ0 at e1 sq0 a0 z0 ⊢
  generalize μ (o + 1) = N at *
  have wbn := wb
  have first : ∀ (m k : Nat) (B : Nat → Int32), k + m = n → (∀ x, x < k → B x = N (134 + x)) → X G mi_X10_findLine (d + 8) 0 20 [(0, .ref o), (1, .int (nI n)), (2, .int (nI k))] [] S (Mx μ0 (o + 11) B) (qv K) := by
    intro m
    induction m with
    | zero =>
      intro k B hk hB
      refine X_iload_n (tk_X10_findLine.at 12 rfl) rfl ?_
      refine X_iload_n (tk_X10_findLine.at 13 rfl) rfl ?_
      refine X_icmp_geN (tgt := 47) (tk_X10_findLine.at 14 rfl) (by decide) (pl k rfl) (pl n rfl) (by omega) (by omega) (fun c1 => ?_) (fun c1 => (by exfalso; omega))
      refine X_aload_n (tk_X10_findLine.at 27 rfl) rfl ?_
      refine X_getR (tk_X10_findLine.at 28 rfl) fl_x10_47 hM.f0 rfl rfl ?_
      refine X_iload_n (tk_X10_findLine.at 29 rfl) rfl ?_
      have rw0 : Rw (Mx μ0 (o + 11) B (o + 11)) n (linN N) := by
        rw [Mx_same]
        intro x hx
        have z := wbn x hx
        exact ⟨(hB x (by omega)).trans z.1, z.2⟩
      refine X_cS2v (lv2 := [(0, _), (1, _)]) (tk_X10_findLine.at 30 rfl) ms_X10_sorts lk_x10_271 np_X10_sorts (Nat.le_of_ble_eq_true rfl) (Nat.le_of_ble_eq_true rfl) rfl (c10_sorts hM.f11 (by decide) (by omega) (pl n rfl) rw0 hinj (fun g0 C hp0 hr0 hC => ?_))
      rw [Mx_Mx]
      refine X_aload_n (tk_X10_findLine.at 31 rfl) rfl ?_
      refine X_iconst (tk_X10_findLine.at 32 rfl) ci_m1 ?_
      refine X_putI (tk_X10_findLine.at 33 rfl) fl_x10_275 hM.f0 rfl rfl ⟨rfl, rfl⟩ ?_
      refine X_iconst (tk_X10_findLine.at 34 rfl) ci_0 ?_
      refine X_istore_n (lv' := [(0, _), (1, _), (2, _)]) (tk_X10_findLine.at 35 rfl) (by decide) rfl rfl ?_
      refine X_iconst (tk_X10_findLine.at 36 rfl) ci_1 ?_
      refine X_istore_n (lv' := [(0, _), (1, _), (2, _), (3, _)]) (tk_X10_findLine.at 37 rfl) (by decide) rfl rfl ?_
      have en0 : ends n 720 g0 := ends_6 (by omega) hr0
      have fin : ∀ (ν : Mu) (b : Bst) (so : Int32) (rest : List (Nat × Value)), Sq o μ ν → ν (o + 3) = N → BI o n 9999 (linN N) ν b → (∃ k g, b = some (k, g)) → b = fnd (kyL N n) n 720 g0 none → X G mi_X10_findLine (d + 8) 0 64 ([(0, .ref o), (1, .int (nI n)), (2, .int so), (3, .int 0)] ++ rest) [] S ν (qv K) := by
        intro ν b so rest hsq h3 hb hsome hfn
        refine X_lvp [0, 1, 2, 3] (lv' := [(0, _), (1, _), (2, _), (3, _)]) rfl ?_
        refine X_iload_n (tk_X10_findLine.at 38 rfl) rfl ?_
        refine X_if_eq (tgt := 192) (tk_X10_findLine.at 39 rfl) (by decide) (fun _ => ?_) (fun h => absurd h (by decide))
        refine X_aload_n (tk_X10_findLine.at 102 rfl) rfl ?_
        refine X_getR (tk_X10_findLine.at 103 rfl) fl_x10_16 hM.f0 rfl rfl ?_
        refine X_aload_n (tk_X10_findLine.at 104 rfl) rfl ?_
        refine X_getR (tk_X10_findLine.at 105 rfl) fl_x10_9 hM.f0 rfl rfl ?_
        refine X_cS2v (lv2 := [(0, _), (1, _)]) (tk_X10_findLine.at 106 rfl) ms_X10_copy lk_x10_73 np_X10_copy (Nat.le_of_ble_eq_true rfl) (Nat.le_of_ble_eq_true rfl) rfl (c10_copy hM.f3 hM.f1 (by omega) ?_)
        refine X_return (tk_X10_findLine.at 107 rfl) rfl ?_
        obtain ⟨⟨t, t2⟩, g, rfl⟩ := hsome
        obtain ⟨b1, b2, b5, b3, b4⟩ := hb
        rw [h3]
        exact hK (Mx ν (o + 1) N) g0 t t2 g (hsq.mx _ (by omega)) Mx_same hp0 hr0 hfn.symm (by rw [Mx_ne (by omega)]; exact b1) (by rw [Mx_ne (by omega)]; exact b3) b4
      have loop : ∀ m, ∀ (f : Nat → Nat) (ν : Mu) (b : Bst) (N1 : Nat → Int32) (so : Int32) (rest : List (Nat × Value)), ends n m f → Pm n f (linN N) → Sq o μ ν → ν (o + 3) = N → ν (o + 1) = N1 → (∀ h, (lnN N1 n h) = (lnN N n h)) → Rw (ν (o + 11)) n f → BI o n 9999 (linN N) ν b → SoI so b → fnd (kyL N n) n m f b = fnd (kyL N n) n 720 g0 none → X G mi_X10_findLine (d + 8) 0 64 ([(0, .ref o), (1, .int (nI n)), (2, .int so), (3, .int 1)] ++ rest) [] S ν (qv K) := by
        intro m
        induction m with
        | zero => intro f ν b N1 so rest h; exact h.elim
        | succ m ih =>
          intro f ν b N1 so rest hend hp hsq h3 h1 hst hrw hb hso hfn
          refine X_lvp [0, 1, 2, 3] (lv' := [(0, _), (1, _), (2, _), (3, _)]) rfl ?_
          have tail : ∀ (ν : Mu) (b : Bst) (so : Int32) (rest : List (Nat × Value)), Sq o μ ν → ν (o + 3) = N → ν (o + 1) = (lnN N n f) → Rw (ν (o + 11)) n f → BI o n 9999 (linN N) ν b → SoI so b → (∃ k g, b = some (k, g)) → fnd (kyL N n) n (m + 1) f b = fnd (kyL N n) n 720 g0 none → upB (kyL N n) f b = b → X G mi_X10_findLine (d + 8) 0 180 ([(0, .ref o), (1, .int (nI n)), (2, .int so), (3, .int 1)] ++ rest) [] S ν (qv K) := by
            intro ν b so rest hsq h3 h1 hrw hb hso hsome hfn hup
            refine X_lvp [0, 1, 2, 3] (lv' := [(0, _), (1, _), (2, _), (3, _)]) rfl ?_
            refine X_aload_n (tk_X10_findLine.at 96 rfl) rfl ?_
            refine X_getR (tk_X10_findLine.at 97 rfl) fl_x10_47 hM.f0 rfl rfl ?_
            refine X_iload_n (tk_X10_findLine.at 98 rfl) rfl ?_
            refine X_cS2i (lv2 := [(0, _), (1, _)]) (tk_X10_findLine.at 99 rfl) ms_X10_nexts lk_x10_278 np_X10_nexts (Nat.le_of_ble_eq_true rfl) (Nat.le_of_ble_eq_true rfl) rfl (c10_nexts hM.f11 (by decide) (by omega) (pl n rfl) hrw (fun e => ?_) (fun k e B hB => ?_))
            · rw [fnd_n (nxo_n e), hup] at hfn
              refine X_istore_n (lv' := [(0, _), (1, _), (2, _), (3, _)]) (tk_X10_findLine.at 100 rfl) (by decide) rfl rfl ?_
              refine X_goto (tgt := 64) (tk_X10_findLine.at 101 rfl) (by decide) ?_
              exact fin ν b so [] hsq h3 hb hsome hfn
            · rw [fnd_s (nxo_s e), hup] at hfn
              refine X_istore_n (lv' := [(0, _), (1, _), (2, _), (3, _)]) (tk_X10_findLine.at 100 rfl) (by decide) rfl rfl ?_
              refine X_goto (tgt := 64) (tk_X10_findLine.at 101 rfl) (by decide) ?_
              refine ih _ (Mx ν (o + 11) B) b (lnN N n f) so [] (ends_s hend (nxo_s e)) ((Pm_nxv hp.2.2 (by have := lstA_lt e; omega) (by have := lstA_lt e; have := gtJ_le (f := f) (k := k) (n - 1); omega)).tr hp) (hsq.mx _ (by omega)) (by rw [Mx_ne (by omega)]; exact h3) (by rw [Mx_ne (by omega)]; exact h1) (fun h => lnN_lnN _ _ f h) (by rw [Mx_same]; exact hB) (hb.cong (by rw [Mx_ne (by omega)]) (by rw [Mx_ne (by omega)])) hso hfn
          have seat : ∀ (w i : Nat), i + w = n → X G mi_X10_findLine (d + 8) 0 71 [(0, .ref o), (1, .int (nI n)), (2, .int so), (3, .int 1), (4, .int (nI i))] [] S (Mx ν (o + 1) (lnN N1 i f)) (qv K) := by
            intro w
            induction w with
            | zero =>
              intro i hi
              have ei : i = n := by omega
              rw [ei, hst]
              refine X_iload (tk_X10_findLine.at 42 rfl) rfl ?_
              refine X_iload_n (tk_X10_findLine.at 43 rfl) rfl ?_
              refine X_icmp_geN (tgt := 101) (tk_X10_findLine.at 44 rfl) (by decide) (pl n rfl) (pl n rfl) (by omega) (by omega) (fun c1 => ?_) (fun c1 => (by exfalso; omega))
              refine X_aload_n (tk_X10_findLine.at 57 rfl) rfl ?_
              refine X_cV0i (lv2 := [(0, _)]) (tk_X10_findLine.at 58 rfl) mv_X10_tollOf lk_x10_264 np_X10_tollOf hM.f0 (by decide) rfl (Nat.le_of_ble_eq_true rfl) (Nat.le_of_ble_eq_true rfl) rfl (c10_tollY hM Mx_same (by rw [Mx_ne (by omega)]; exact hsq.2.2.1.trans hl0) (wfs f hp) (fun ξ hsy hov => ?_))
              have tb := toll_le (wfs f hp)
              have x20 : ξ o 20 = ν o 20 := by rw [hsy.2 20 (by decide), Mx_ne (by omega)]
              have x1 : ξ (o + 1) = (lnN N n f) := by rw [hsy.1 _ (by omega) (by omega) (by omega) (by omega) (by omega), Mx_same]
              have xa : ∀ a, a ≠ o → a ≠ o + 1 → a ≠ o + 7 → a ≠ o + 8 → a ≠ o + 9 → a ≠ o + 10 → ξ a = ν a := fun a q0 q1 q7 q8 q9 q10 => by rw [hsy.1 a q0 q7 q8 q9 q10, Mx_ne q1]
              have xsq : Sq o μ ξ := (hsq.mx _ (by omega)).tr hsy.sx
              clear hsy
              have ob := ovr_le (wfs f hp) _ (Nat.le_refl _)
              refine X_istore (lv' := [(0, _), (1, _), (2, _), (3, _), (4, _)]) (tk_X10_findLine.at 59 rfl) (by decide) rfl rfl ?_
              generalize hres : fnd (kyL N n) n 720 g0 none = RES at hfn
              cases b with
              | none =>
                have hbet : bet none ((kyL N n) f) := trivial
                have e20 : ξ o 20 = -1 := x20.trans hb
                refine X_aload_n (tk_X10_findLine.at 60 rfl) rfl ?_
                refine X_getI (tk_X10_findLine.at 61 rfl) fl_x10_275 hM.f0 rfl ?_
                rw [e20]
                refine X_if_lt (tgt := 140) (tk_X10_findLine.at 62 rfl) (by decide) (fun _ => ?_) (fun h => absurd h (by decide))
                refine X_aload_n (tk_X10_findLine.at 75 rfl) rfl ?_
                refine X_iload (tk_X10_findLine.at 76 rfl) rfl ?_
                refine X_putI (tk_X10_findLine.at 77 rfl) fl_x10_275 hM.f0 rfl rfl ⟨rfl, rfl⟩ ?_
                refine X_aload_n (tk_X10_findLine.at 78 rfl) rfl ?_
                refine X_getI (tk_X10_findLine.at 79 rfl) fl_x10_249 hM.f0 rfl ?_
                refine X_istore_n (lv' := [(0, _), (1, _), (2, _), (3, _), (4, _)]) (tk_X10_findLine.at 80 rfl) (by decide) rfl rfl ?_
                refine X_iconst (tk_X10_findLine.at 81 rfl) ci_0 ?_
                refine X_istore (lv' := [(0, _), (1, _), (2, _), (3, _), (4, _), (5, _)]) (tk_X10_findLine.at 82 rfl) (by decide) rfl rfl ?_
                generalize hbb : (none : Bst) = b at hbet hfn
                have y11 : (su ξ o 20 (nI (toll (lnN N n f)))) (o + 11) = ν (o + 11) := by rw [su_ne (by omega)]; exact xa _ (by omega) (by omega) (by omega) (by omega) (by omega) (by omega)
                have y3 : (su ξ o 20 (nI (toll (lnN N n f)))) (o + 3) = N := by rw [su_ne (by omega), xa _ (by omega) (by omega) (by omega) (by omega) (by omega) (by omega)]; exact h3
                have y1 : (su ξ o 20 (nI (toll (lnN N n f)))) (o + 1) = (lnN N n f) := by rw [su_ne (by omega)]; exact x1
                have y20 : (su ξ o 20 (nI (toll (lnN N n f)))) o 20 = nI (toll (lnN N n f)) := by rw [su_same]; exact upd_at _ _ _
                have ysq : Sq o μ (su ξ o 20 (nI (toll (lnN N n f)))) := xsq.su _ (by decide)
                have y17 : (su ξ o 20 (nI (toll (lnN N n f)))) o 17 = (nI (ovr (lnN N n f) (nv ((lnN N n f) 4)))) := by rw [su_same, upd_ne _ _ (by decide)]; exact hov
                rw [y17]
                have hnew : bet b ((kyL N n) f) := hbet
                generalize su ξ o 20 (nI (toll (lnN N n f))) = χ at y11 y3 y1 y20 ysq ⊢
                have copyl : ∀ (w i : Nat) (C : Nat → Int32), i + w = n → (∀ x, x < i → C x = nI (f x)) → X G mi_X10_findLine (d + 8) 0 154 [(0, .ref o), (1, .int (nI n)), (2, .int (nI (ovr (lnN N n f) (nv ((lnN N n f) 4))))), (3, .int 1), (4, .int (nI (toll (lnN N n f)))), (5, .int (nI i))] [] S (Mx χ (o + 12) C) (qv K) := by
                  intro w
                  induction w with
                  | zero =>
                    intro i C hi hC
                    refine X_iload (tk_X10_findLine.at 83 rfl) rfl ?_
                    refine X_iload_n (tk_X10_findLine.at 84 rfl) rfl ?_
                    refine X_icmp_geN (tgt := 180) (tk_X10_findLine.at 85 rfl) (by decide) (pl i rfl) (pl n rfl) (by omega) (by omega) (fun c1 => ?_) (fun c1 => (by exfalso; omega))
                    have nb : BI o n 9999 (linN N) (Mx χ (o + 12) C) (some ((kyL N n) f, f)) := ⟨by rw [Mx_ne (by omega)]; exact y20, tb, ob, by rw [Mx_same]; exact fun x hx => ⟨hC x (by omega), (hrw x hx).2⟩, hp⟩
                    refine tail (Mx χ (o + 12) C) (some ((kyL N n) f, f)) _ [(4, _), (5, _)] (ysq.mx _ (by omega)) (by rw [Mx_ne (by omega)]; exact y3) (by rw [Mx_ne (by omega)]; exact y1) (by rw [Mx_ne (by omega), y11]; exact hrw) nb rfl ⟨_, _, rfl⟩ ?_ ?_
                    · rw [hres, ← hfn]; exact fnd_up hnew
                    · exact upB_self
                  | succ w ihw =>
                    intro i C hi hC
                    refine X_iload (tk_X10_findLine.at 83 rfl) rfl ?_
                    refine X_iload_n (tk_X10_findLine.at 84 rfl) rfl ?_
                    refine X_icmp_geN (tgt := 180) (tk_X10_findLine.at 85 rfl) (by decide) (pl i rfl) (pl n rfl) (by omega) (by omega) (fun c1 => (by exfalso; omega)) (fun c1 => ?_)
                    refine X_aload_n (tk_X10_findLine.at 86 rfl) rfl ?_
                    refine X_getR (tk_X10_findLine.at 87 rfl) fl_x10_50 hM.f0 rfl rfl ?_
                    refine X_iload (tk_X10_findLine.at 88 rfl) rfl ?_
                    refine X_aload_n (tk_X10_findLine.at 89 rfl) rfl ?_
                    refine X_getR (tk_X10_findLine.at 90 rfl) fl_x10_47 hM.f0 rfl rfl ?_
                    refine X_iload (tk_X10_findLine.at 91 rfl) rfl ?_
                    refine X_ialdN (k := i) (tk_X10_findLine.at 92 rfl) hM.f11 (pz (pl i rfl) (by omega)) (by omega) (by decide) ?_
                    refine X_iastN (k := i) (tk_X10_findLine.at 93 rfl) hM.f12 (pz (pl i rfl) (by omega)) (by omega) (by decide) ?_
                    refine X_iinc (lv' := [(0, _), (1, _), (2, _), (3, _), (4, _), (5, _)]) (tk_X10_findLine.at 94 rfl) rfl ci_1 (by decide) rfl rfl ?_
                    refine X_goto (tgt := 154) (tk_X10_findLine.at 95 rfl) (by decide) ?_
                    rw [Mx_ne (show o + 11 ≠ o + 12 by omega), y11, (hrw i (by omega)).1, nI_1 i, su_Mx]
                    exact ihw (i + 1) _ (by omega) (upd_row (n := n) hC)
                have z := copyl n 0 (χ (o + 12)) (Nat.zero_add n) (fun x hx => absurd hx (Nat.not_lt_zero x))
                rw [Mx_self] at z
                exact z
              | some x =>
                obtain ⟨⟨t, t2⟩, g⟩ := x
                have hb0 := hb
                obtain ⟨c20, ct, ct2, cr, cp⟩ := hb
                have hb : ν o 20 = nI t ∧ True := ⟨c20, trivial⟩
                have hso2 : so = nI t2 := hso
                have ct2b : t2 ≤ 9999 := ct2
                refine X_aload_n (tk_X10_findLine.at 60 rfl) rfl ?_
                refine X_getI (tk_X10_findLine.at 61 rfl) fl_x10_275 hM.f0 rfl ?_
                refine X_if_ltN (tgt := 140) (tk_X10_findLine.at 62 rfl) (by decide) (x20.trans hb.1) (by omega) ?_
                refine X_iload (tk_X10_findLine.at 63 rfl) rfl ?_
                refine X_aload_n (tk_X10_findLine.at 64 rfl) rfl ?_
                refine X_getI (tk_X10_findLine.at 65 rfl) fl_x10_275 hM.f0 rfl ?_
                refine X_icmp_ltN (tgt := 140) (tk_X10_findLine.at 66 rfl) (by decide) (pl (toll (lnN N n f)) rfl) (x20.trans hb.1) (by omega) (by omega) (fun c2 => ?_) (fun c2 => ?_)
                · refine X_aload_n (tk_X10_findLine.at 75 rfl) rfl ?_
                  refine X_iload (tk_X10_findLine.at 76 rfl) rfl ?_
                  refine X_putI (tk_X10_findLine.at 77 rfl) fl_x10_275 hM.f0 rfl rfl ⟨rfl, rfl⟩ ?_
                  refine X_aload_n (tk_X10_findLine.at 78 rfl) rfl ?_
                  refine X_getI (tk_X10_findLine.at 79 rfl) fl_x10_249 hM.f0 rfl ?_
                  refine X_istore_n (lv' := [(0, _), (1, _), (2, _), (3, _), (4, _)]) (tk_X10_findLine.at 80 rfl) (by decide) rfl rfl ?_
                  refine X_iconst (tk_X10_findLine.at 81 rfl) ci_0 ?_
                  refine X_istore (lv' := [(0, _), (1, _), (2, _), (3, _), (4, _), (5, _)]) (tk_X10_findLine.at 82 rfl) (by decide) rfl rfl ?_
                  have hbet : bet (some ((t, t2), g)) ((kyL N n) f) := (by first | exact Or.inl (show toll (lnN N n f) < t by omega) | exact Or.inr ⟨show toll (lnN N n f) = t by omega, show ovr (lnN N n f) (nv ((lnN N n f) 4)) < t2 by omega⟩)
                  generalize hbb : (some ((t, t2), g) : Bst) = b at hbet hfn hb0
                  have y11 : (su ξ o 20 (nI (toll (lnN N n f)))) (o + 11) = ν (o + 11) := by rw [su_ne (by omega)]; exact xa _ (by omega) (by omega) (by omega) (by omega) (by omega) (by omega)
                  have y3 : (su ξ o 20 (nI (toll (lnN N n f)))) (o + 3) = N := by rw [su_ne (by omega), xa _ (by omega) (by omega) (by omega) (by omega) (by omega) (by omega)]; exact h3
                  have y1 : (su ξ o 20 (nI (toll (lnN N n f)))) (o + 1) = (lnN N n f) := by rw [su_ne (by omega)]; exact x1
                  have y20 : (su ξ o 20 (nI (toll (lnN N n f)))) o 20 = nI (toll (lnN N n f)) := by rw [su_same]; exact upd_at _ _ _
                  have ysq : Sq o μ (su ξ o 20 (nI (toll (lnN N n f)))) := xsq.su _ (by decide)
                  have y17 : (su ξ o 20 (nI (toll (lnN N n f)))) o 17 = (nI (ovr (lnN N n f) (nv ((lnN N n f) 4)))) := by rw [su_same, upd_ne _ _ (by decide)]; exact hov
                  rw [y17]
                  have hnew : bet b ((kyL N n) f) := hbet
                  generalize su ξ o 20 (nI (toll (lnN N n f))) = χ at y11 y3 y1 y20 ysq ⊢
                  have copyl : ∀ (w i : Nat) (C : Nat → Int32), i + w = n → (∀ x, x < i → C x = nI (f x)) → X G mi_X10_findLine (d + 8) 0 154 [(0, .ref o), (1, .int (nI n)), (2, .int (nI (ovr (lnN N n f) (nv ((lnN N n f) 4))))), (3, .int 1), (4, .int (nI (toll (lnN N n f)))), (5, .int (nI i))] [] S (Mx χ (o + 12) C) (qv K) := by
                    intro w
                    induction w with
                    | zero =>
                      intro i C hi hC
                      refine X_iload (tk_X10_findLine.at 83 rfl) rfl ?_
                      refine X_iload_n (tk_X10_findLine.at 84 rfl) rfl ?_
                      refine X_icmp_geN (tgt := 180) (tk_X10_findLine.at 85 rfl) (by decide) (pl i rfl) (pl n rfl) (by omega) (by omega) (fun c1 => ?_) (fun c1 => (by exfalso; omega))
                      have nb : BI o n 9999 (linN N) (Mx χ (o + 12) C) (some ((kyL N n) f, f)) := ⟨by rw [Mx_ne (by omega)]; exact y20, tb, ob, by rw [Mx_same]; exact fun x hx => ⟨hC x (by omega), (hrw x hx).2⟩, hp⟩
                      refine tail (Mx χ (o + 12) C) (some ((kyL N n) f, f)) _ [(4, _), (5, _)] (ysq.mx _ (by omega)) (by rw [Mx_ne (by omega)]; exact y3) (by rw [Mx_ne (by omega)]; exact y1) (by rw [Mx_ne (by omega), y11]; exact hrw) nb rfl ⟨_, _, rfl⟩ ?_ ?_
                      · rw [hres, ← hfn]; exact fnd_up hnew
                      · exact upB_self
                    | succ w ihw =>
                      intro i C hi hC
                      refine X_iload (tk_X10_findLine.at 83 rfl) rfl ?_
                      refine X_iload_n (tk_X10_findLine.at 84 rfl) rfl ?_
                      refine X_icmp_geN (tgt := 180) (tk_X10_findLine.at 85 rfl) (by decide) (pl i rfl) (pl n rfl) (by omega) (by omega) (fun c1 => (by exfalso; omega)) (fun c1 => ?_)
                      refine X_aload_n (tk_X10_findLine.at 86 rfl) rfl ?_
                      refine X_getR (tk_X10_findLine.at 87 rfl) fl_x10_50 hM.f0 rfl rfl ?_
                      refine X_iload (tk_X10_findLine.at 88 rfl) rfl ?_
                      refine X_aload_n (tk_X10_findLine.at 89 rfl) rfl ?_
                      refine X_getR (tk_X10_findLine.at 90 rfl) fl_x10_47 hM.f0 rfl rfl ?_
                      refine X_iload (tk_X10_findLine.at 91 rfl) rfl ?_
                      refine X_ialdN (k := i) (tk_X10_findLine.at 92 rfl) hM.f11 (pz (pl i rfl) (by omega)) (by omega) (by decide) ?_
                      refine X_iastN (k := i) (tk_X10_findLine.at 93 rfl) hM.f12 (pz (pl i rfl) (by omega)) (by omega) (by decide) ?_
                      refine X_iinc (lv' := [(0, _), (1, _), (2, _), (3, _), (4, _), (5, _)]) (tk_X10_findLine.at 94 rfl) rfl ci_1 (by decide) rfl rfl ?_
                      refine X_goto (tgt := 154) (tk_X10_findLine.at 95 rfl) (by decide) ?_
                      rw [Mx_ne (show o + 11 ≠ o + 12 by omega), y11, (hrw i (by omega)).1, nI_1 i, su_Mx]
                      exact ihw (i + 1) _ (by omega) (upd_row (n := n) hC)
                  have z := copyl n 0 (χ (o + 12)) (Nat.zero_add n) (fun x hx => absurd hx (Nat.not_lt_zero x))
                  rw [Mx_self] at z
                  exact z
                · refine X_iload (tk_X10_findLine.at 67 rfl) rfl ?_
                  refine X_aload_n (tk_X10_findLine.at 68 rfl) rfl ?_
                  refine X_getI (tk_X10_findLine.at 69 rfl) fl_x10_275 hM.f0 rfl ?_
                  refine X_icmp_neN (tgt := 180) (tk_X10_findLine.at 70 rfl) (by decide) (pl (toll (lnN N n f)) rfl) (x20.trans hb.1) (by omega) (by omega) (fun c3 => ?_) (fun c3 => ?_)
                  · have hno : ¬ bet (some ((t, t2), g)) ((kyL N n) f) := by
                      intro z
                      rcases z with z | ⟨z1, z2⟩
                      · have : toll (lnN N n f) < t := z
                        omega
                      · have : ovr (lnN N n f) (nv ((lnN N n f) 4)) < t2 := z2
                        have z3 : toll (lnN N n f) = t := z1
                        have ct3 : t2 ≤ 9999 := ct2
                        omega
                    refine tail ξ (some ((t, t2), g)) so [(4, _)] xsq (by rw [xa _ (by omega) (by omega) (by omega) (by omega) (by omega) (by omega)]; exact h3) x1 (by rw [xa _ (by omega) (by omega) (by omega) (by omega) (by omega) (by omega)]; exact hrw) (hb0.cong x20 (xa _ (by omega) (by omega) (by omega) (by omega) (by omega) (by omega))) hso ⟨_, _, rfl⟩ (hfn.trans hres.symm) (upB_f hno)
                  · refine X_aload_n (tk_X10_findLine.at 71 rfl) rfl ?_
                    refine X_getI (tk_X10_findLine.at 72 rfl) fl_x10_249 hM.f0 rfl ?_
                    refine X_iload_n (tk_X10_findLine.at 73 rfl) rfl ?_
                    refine X_icmp_geN (tgt := 180) (tk_X10_findLine.at 74 rfl) (by decide) hov hso2 (by omega) (by omega) (fun c4 => ?_) (fun c4 => ?_)
                    · have hno : ¬ bet (some ((t, t2), g)) ((kyL N n) f) := by
                        intro z
                        rcases z with z | ⟨z1, z2⟩
                        · have : toll (lnN N n f) < t := z
                          omega
                        · have : ovr (lnN N n f) (nv ((lnN N n f) 4)) < t2 := z2
                          have z3 : toll (lnN N n f) = t := z1
                          have ct3 : t2 ≤ 9999 := ct2
                          omega
                      refine tail ξ (some ((t, t2), g)) so [(4, _)] xsq (by rw [xa _ (by omega) (by omega) (by omega) (by omega) (by omega) (by omega)]; exact h3) x1 (by rw [xa _ (by omega) (by omega) (by omega) (by omega) (by omega) (by omega)]; exact hrw) (hb0.cong x20 (xa _ (by omega) (by omega) (by omega) (by omega) (by omega) (by omega))) hso ⟨_, _, rfl⟩ (hfn.trans hres.symm) (upB_f hno)
                    · refine X_aload_n (tk_X10_findLine.at 75 rfl) rfl ?_
                      refine X_iload (tk_X10_findLine.at 76 rfl) rfl ?_
                      refine X_putI (tk_X10_findLine.at 77 rfl) fl_x10_275 hM.f0 rfl rfl ⟨rfl, rfl⟩ ?_
                      refine X_aload_n (tk_X10_findLine.at 78 rfl) rfl ?_
                      refine X_getI (tk_X10_findLine.at 79 rfl) fl_x10_249 hM.f0 rfl ?_
                      refine X_istore_n (lv' := [(0, _), (1, _), (2, _), (3, _), (4, _)]) (tk_X10_findLine.at 80 rfl) (by decide) rfl rfl ?_
                      refine X_iconst (tk_X10_findLine.at 81 rfl) ci_0 ?_
                      refine X_istore (lv' := [(0, _), (1, _), (2, _), (3, _), (4, _), (5, _)]) (tk_X10_findLine.at 82 rfl) (by decide) rfl rfl ?_
                      have hbet : bet (some ((t, t2), g)) ((kyL N n) f) := (by first | exact Or.inl (show toll (lnN N n f) < t by omega) | exact Or.inr ⟨show toll (lnN N n f) = t by omega, show ovr (lnN N n f) (nv ((lnN N n f) 4)) < t2 by omega⟩)
                      generalize hbb : (some ((t, t2), g) : Bst) = b at hbet hfn hb0
                      have y11 : (su ξ o 20 (nI (toll (lnN N n f)))) (o + 11) = ν (o + 11) := by rw [su_ne (by omega)]; exact xa _ (by omega) (by omega) (by omega) (by omega) (by omega) (by omega)
                      have y3 : (su ξ o 20 (nI (toll (lnN N n f)))) (o + 3) = N := by rw [su_ne (by omega), xa _ (by omega) (by omega) (by omega) (by omega) (by omega) (by omega)]; exact h3
                      have y1 : (su ξ o 20 (nI (toll (lnN N n f)))) (o + 1) = (lnN N n f) := by rw [su_ne (by omega)]; exact x1
                      have y20 : (su ξ o 20 (nI (toll (lnN N n f)))) o 20 = nI (toll (lnN N n f)) := by rw [su_same]; exact upd_at _ _ _
                      have ysq : Sq o μ (su ξ o 20 (nI (toll (lnN N n f)))) := xsq.su _ (by decide)
                      have y17 : (su ξ o 20 (nI (toll (lnN N n f)))) o 17 = (nI (ovr (lnN N n f) (nv ((lnN N n f) 4)))) := by rw [su_same, upd_ne _ _ (by decide)]; exact hov
                      rw [y17]
                      have hnew : bet b ((kyL N n) f) := hbet
                      generalize su ξ o 20 (nI (toll (lnN N n f))) = χ at y11 y3 y1 y20 ysq ⊢
                      have copyl : ∀ (w i : Nat) (C : Nat → Int32), i + w = n → (∀ x, x < i → C x = nI (f x)) → X G mi_X10_findLine (d + 8) 0 154 [(0, .ref o), (1, .int (nI n)), (2, .int (nI (ovr (lnN N n f) (nv ((lnN N n f) 4))))), (3, .int 1), (4, .int (nI (toll (lnN N n f)))), (5, .int (nI i))] [] S (Mx χ (o + 12) C) (qv K) := by
                        intro w
                        induction w with
                        | zero =>
                          intro i C hi hC
                          refine X_iload (tk_X10_findLine.at 83 rfl) rfl ?_
                          refine X_iload_n (tk_X10_findLine.at 84 rfl) rfl ?_
                          refine X_icmp_geN (tgt := 180) (tk_X10_findLine.at 85 rfl) (by decide) (pl i rfl) (pl n rfl) (by omega) (by omega) (fun c1 => ?_) (fun c1 => (by exfalso; omega))
                          have nb : BI o n 9999 (linN N) (Mx χ (o + 12) C) (some ((kyL N n) f, f)) := ⟨by rw [Mx_ne (by omega)]; exact y20, tb, ob, by rw [Mx_same]; exact fun x hx => ⟨hC x (by omega), (hrw x hx).2⟩, hp⟩
                          refine tail (Mx χ (o + 12) C) (some ((kyL N n) f, f)) _ [(4, _), (5, _)] (ysq.mx _ (by omega)) (by rw [Mx_ne (by omega)]; exact y3) (by rw [Mx_ne (by omega)]; exact y1) (by rw [Mx_ne (by omega), y11]; exact hrw) nb rfl ⟨_, _, rfl⟩ ?_ ?_
                          · rw [hres, ← hfn]; exact fnd_up hnew
                          · exact upB_self
                        | succ w ihw =>
                          intro i C hi hC
                          refine X_iload (tk_X10_findLine.at 83 rfl) rfl ?_
                          refine X_iload_n (tk_X10_findLine.at 84 rfl) rfl ?_
                          refine X_icmp_geN (tgt := 180) (tk_X10_findLine.at 85 rfl) (by decide) (pl i rfl) (pl n rfl) (by omega) (by omega) (fun c1 => (by exfalso; omega)) (fun c1 => ?_)
                          refine X_aload_n (tk_X10_findLine.at 86 rfl) rfl ?_
                          refine X_getR (tk_X10_findLine.at 87 rfl) fl_x10_50 hM.f0 rfl rfl ?_
                          refine X_iload (tk_X10_findLine.at 88 rfl) rfl ?_
                          refine X_aload_n (tk_X10_findLine.at 89 rfl) rfl ?_
                          refine X_getR (tk_X10_findLine.at 90 rfl) fl_x10_47 hM.f0 rfl rfl ?_
                          refine X_iload (tk_X10_findLine.at 91 rfl) rfl ?_
                          refine X_ialdN (k := i) (tk_X10_findLine.at 92 rfl) hM.f11 (pz (pl i rfl) (by omega)) (by omega) (by decide) ?_
                          refine X_iastN (k := i) (tk_X10_findLine.at 93 rfl) hM.f12 (pz (pl i rfl) (by omega)) (by omega) (by decide) ?_
                          refine X_iinc (lv' := [(0, _), (1, _), (2, _), (3, _), (4, _), (5, _)]) (tk_X10_findLine.at 94 rfl) rfl ci_1 (by decide) rfl rfl ?_
                          refine X_goto (tgt := 154) (tk_X10_findLine.at 95 rfl) (by decide) ?_
                          rw [Mx_ne (show o + 11 ≠ o + 12 by omega), y11, (hrw i (by omega)).1, nI_1 i, su_Mx]
                          exact ihw (i + 1) _ (by omega) (upd_row (n := n) hC)
                      have z := copyl n 0 (χ (o + 12)) (Nat.zero_add n) (fun x hx => absurd hx (Nat.not_lt_zero x))
                      rw [Mx_self] at z
                      exact z
            | succ w ihw =>
              intro i hi
              refine X_iload (tk_X10_findLine.at 42 rfl) rfl ?_
              refine X_iload_n (tk_X10_findLine.at 43 rfl) rfl ?_
              refine X_icmp_geN (tgt := 101) (tk_X10_findLine.at 44 rfl) (by decide) (pl i rfl) (pl n rfl) (by omega) (by omega) (fun c1 => (by exfalso; omega)) (fun c1 => ?_)
              refine X_aload_n (tk_X10_findLine.at 45 rfl) rfl ?_
              refine X_getR (tk_X10_findLine.at 46 rfl) fl_x10_9 hM.f0 rfl rfl ?_
              refine X_sipush (tk_X10_findLine.at 47 rfl) cs_134 ?_
              refine X_iload (tk_X10_findLine.at 48 rfl) rfl ?_
              refine X_iadd (tk_X10_findLine.at 49 rfl) ?_
              refine X_aload_n (tk_X10_findLine.at 50 rfl) rfl ?_
              refine X_getR (tk_X10_findLine.at 51 rfl) fl_x10_47 hM.f0 rfl rfl ?_
              refine X_iload (tk_X10_findLine.at 52 rfl) rfl ?_
              refine X_ialdN (k := i) (tk_X10_findLine.at 53 rfl) hM.f11 (pz (pl i rfl) (by omega)) (by omega) (by decide) ?_
              refine X_iastN (k := 134 + i) (tk_X10_findLine.at 54 rfl) hM.f1 (pz (pa (pl 134 rfl) (pl i rfl)) (by omega)) (by omega) (by decide) ?_
              refine X_iinc (lv' := [(0, _), (1, _), (2, _), (3, _), (4, _)]) (tk_X10_findLine.at 55 rfl) rfl ci_1 (by decide) rfl rfl ?_
              refine X_goto (tgt := 71) (tk_X10_findLine.at 56 rfl) (by decide) ?_
              rw [Mx_ne (show o + 11 ≠ o + 1 by omega), (hrw i (by omega)).1, nI_1 i, su_Mx, lnN_st]
              exact ihw (i + 1) (by omega)
          refine X_iload_n (tk_X10_findLine.at 38 rfl) rfl ?_
          refine X_if_eq (tgt := 192) (tk_X10_findLine.at 39 rfl) (by decide) (fun h => absurd h (by decide)) (fun _ => ?_)
          refine X_iconst (tk_X10_findLine.at 40 rfl) ci_0 ?_
          refine X_istore (lv' := [(0, _), (1, _), (2, _), (3, _), (4, _)]) (tk_X10_findLine.at 41 rfl) (by decide) rfl rfl ?_
          have z := seat n 0 (Nat.zero_add n)
          rw [lnN_0, ← h1, Mx_self] at z
          exact z
      refine loop 720 g0 _ none N _ [] en0 hp0 ((sq0.mx _ (by omega)).su _ (by decide)) (by rw [su_ne (by omega), Mx_ne (by omega)]; exact a0) (by rw [su_ne (by omega), Mx_ne (by omega)]; exact e1) (fun h => rfl) (by rw [su_ne (by omega), Mx_same]; exact hC) (by show su _ _ _ _ _ _ = _; rw [su_same]; exact upd_at _ _ _) trivial rfl
    | succ m ih =>
      intro k B hk hB
      refine X_iload_n (tk_X10_findLine.at 12 rfl) rfl ?_
      refine X_iload_n (tk_X10_findLine.at 13 rfl) rfl ?_
      refine X_icmp_geN (tgt := 47) (tk_X10_findLine.at 14 rfl) (by decide) (pl k rfl) (pl n rfl) (by omega) (by omega) (fun c1 => (by exfalso; omega)) (fun c1 => ?_)
      refine X_aload_n (tk_X10_findLine.at 15 rfl) rfl ?_
      refine X_getR (tk_X10_findLine.at 16 rfl) fl_x10_47 hM.f0 rfl rfl ?_
      refine X_iload_n (tk_X10_findLine.at 17 rfl) rfl ?_
      refine X_aload_n (tk_X10_findLine.at 18 rfl) rfl ?_
      refine X_getR (tk_X10_findLine.at 19 rfl) fl_x10_9 hM.f0 rfl rfl ?_
      refine X_sipush (tk_X10_findLine.at 20 rfl) cs_134 ?_
      refine X_iload_n (tk_X10_findLine.at 21 rfl) rfl ?_
      refine X_iadd (tk_X10_findLine.at 22 rfl) ?_
      refine X_ialdN (k := 134 + k) (tk_X10_findLine.at 23 rfl) hM.f1 (pz (pa (pl 134 rfl) (pl k rfl)) (by omega)) (by omega) (by decide) ?_
      refine X_iastN (k := k) (tk_X10_findLine.at 24 rfl) hM.f11 (pz (pl k rfl) (by omega)) (by omega) (by decide) ?_
      refine X_iinc (lv' := [(0, _), (1, _), (2, _)]) (tk_X10_findLine.at 25 rfl) rfl ci_1 (by decide) rfl rfl ?_
      refine X_goto (tgt := 20) (tk_X10_findLine.at 26 rfl) (by decide) ?_
      rw [Mx_ne (show o + 1 ≠ o + 11 by omega), e1, nI_1 k, su_Mx]
      refine ih (k + 1) _ (by omega) (fun x hx => ?_)
      by_cases e : x = k
      · rw [e, upd_at]
      · rw [upd_ne _ _ e]; exact hB x (by omega)
  have z := first n 0 (μ0 (o + 11)) (Nat.zero_add n) (fun x hx => absurd hx (Nat.not_lt_zero x))
  rw [Mx_self] at z
  exact z
