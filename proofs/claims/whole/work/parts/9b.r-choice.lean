/-! Two searches of one find the same. -/
def Ag (n : Nat) (f g : Nat → Nat) : Prop := ∀ i, i < n → f i = g i
def BE (n : Nat) (b c : Bst) : Prop := match b, c with
  | none, none => True
  | some (k, f), some (l, g) => k = l ∧ Ag n f g
  | _, _ => False
theorem lstA_d {f g : Nat → Nat} : ∀ m, (∀ i, i ≤ m → f i = g i) → lstA f m = lstA g m
  | 0, _ => rfl
  | m + 1, h => by rw [lstA, lstA, h (m + 1) (by omega), h m (by omega), lstA_d m (fun i hi => h i (by omega))]
theorem gtJ_d {f g : Nat → Nat} {k : Nat} (hk : f k = g k) : ∀ j, (∀ i, i ≤ j → f i = g i) → gtJ f k j = gtJ g k j
  | 0, _ => rfl
  | j + 1, h => by rw [gtJ, gtJ, hk, h (j + 1) (by omega), gtJ_d hk j (fun i hi => h i (by omega))]
theorem sw_c {n i j : Nat} {f g : Nat → Nat} (h : Ag n f g) (hi : i < n) (hj : j < n) : Ag n (sw f i j) (sw g i j) := by
  intro x hx
  unfold sw
  rw [h i hi, h j hj, h x hx]
theorem nxv_c {n k j : Nat} {f g : Nat → Nat} (h : Ag n f g) (hk : k < n) (hj : j < n) : Ag n (nxv n f k j) (nxv n g k j) := by
  intro x hx
  unfold nxv
  split
  · exact sw_c h hk hj _ (by omega)
  · exact sw_c h hk hj x hx
theorem nxo_c {n : Nat} {f g : Nat → Nat} (h : Ag n f g) : (nxo n f = none ∧ nxo n g = none) ∨ ∃ f' g', nxo n f = some f' ∧ nxo n g = some g' ∧ Ag n f' g' := by
  rcases Nat.eq_zero_or_pos n with e | e
  · subst e
    exact Or.inl ⟨nxo_n rfl, nxo_n rfl⟩
  have el := lstA_d (f := f) (g := g) (n - 1) (fun i hi => h i (by omega))
  cases hl : lstA f (n - 1) with
  | none => exact Or.inl ⟨nxo_n hl, nxo_n (el.symm.trans hl)⟩
  | some k =>
    have hk := (lstA_lt hl).1
    refine Or.inr ⟨_, _, nxo_s hl, nxo_s (el.symm.trans hl), ?_⟩
    rw [← gtJ_d (h k (by omega)) (n - 1) (fun i hi => h i (by omega))]
    exact nxv_c h (by omega) (by have := gtJ_le (f := f) (k := k) (n - 1); omega)
theorem upB_c {n : Nat} {key : (Nat → Nat) → Nat × Nat} (hk : ∀ f g, Ag n f g → key f = key g) {f g : Nat → Nat} {b c : Bst} (h : Ag n f g) (hb : BE n b c) : BE n (upB key f b) (upB key g c) := by
  have hbet : bet b (key f) ↔ bet c (key g) := by
    rw [hk f g h]
    cases b with
    | none => cases c with
      | none => exact Iff.rfl
      | some q => exact hb.elim
    | some p => cases c with
      | none => exact hb.elim
      | some q =>
        obtain ⟨k, f'⟩ := p
        obtain ⟨l, g'⟩ := q
        have e : k = l := hb.1
        subst e
        exact Iff.rfl
  by_cases q : bet b (key f)
  · rw [upB_t q, upB_t (hbet.mp q)]; exact ⟨hk f g h, h⟩
  · rw [upB_f q, upB_f (fun z => q (hbet.mpr z))]; exact hb
theorem fnd_c {n : Nat} {key : (Nat → Nat) → Nat × Nat} (hk : ∀ f g, Ag n f g → key f = key g) : ∀ (m : Nat) (f g : Nat → Nat) (b c : Bst), Ag n f g → BE n b c → BE n (fnd key n m f b) (fnd key n m g c)
  | 0, f, g, b, c, _, hb => by rw [fnd, fnd]; exact hb
  | m + 1, f, g, b, c, h, hb => by
    rcases nxo_c h with ⟨e1, e2⟩ | ⟨f', g', e1, e2, h'⟩
    · rw [fnd_n e1, fnd_n e2]; exact upB_c hk h hb
    · rw [fnd_s e1, fnd_s e2]; exact fnd_c hk m f' g' _ _ h' (upB_c hk h hb)
theorem fnd_k {n : Nat} {key : (Nat → Nat) → Nat × Nat} : ∀ (m : Nat) (f : Nat → Nat) (b : Bst), (∀ q, b = some q → q.1 = key q.2) → ∀ q, fnd key n m f b = some q → q.1 = key q.2
  | 0, f, b, hb, q, h => by rw [fnd] at h; exact hb q h
  | m + 1, f, b, hb, q, h => by
    have hu : ∀ q, upB key f b = some q → q.1 = key q.2 := by
      intro q hq
      by_cases c : bet b (key f)
      · rw [upB_t c] at hq; cases hq; rfl
      · rw [upB_f c] at hq; exact hb q hq
    cases e : nxo n f with
    | none => rw [fnd_n e] at h; exact hu q h
    | some g => rw [fnd_s e] at h; exact fnd_k m g _ hu q h
theorem stN_c {N : Nat → Int32} {r n : Nat} {f g : Nat → Nat} (h : Ag n f g) : stN N r n f = stN N r n g := by
  funext a
  unfold stN
  split
  · next c => rw [h _ (by omega)]
  · rfl
theorem lnN_c {N : Nat → Int32} {n : Nat} {f g : Nat → Nat} (h : Ag n f g) : lnN N n f = lnN N n g := by
  funext a
  unfold lnN
  split
  · next c => rw [h _ (by omega)]
  · rfl
theorem OrdR_det {N : Nat → Int32} {r t t' : Nat} {g g' : Nat → Nat} (h : OrdR N r t g) (h' : OrdR N r t' g') : t = t' ∧ Ag (nv (N (83 + 9 * r))) g g' := by
  obtain ⟨g0, t2, p1, p2, p3⟩ := h
  obtain ⟨g1, t3, q1, q2, q3⟩ := h'
  have hag : Ag (nv (N (83 + 9 * r))) g0 g1 := rise_eq p2 q2 (fun i hi => by obtain ⟨j, hj, e⟩ := p1.1 i hi; obtain ⟨l, hl, e2⟩ := q1.2.1 j hj; exact ⟨l, hl, e.trans e2⟩) (fun i hi => by obtain ⟨j, hj, e⟩ := q1.1 i hi; obtain ⟨l, hl, e2⟩ := p1.2.1 j hj; exact ⟨l, hl, e.trans e2⟩)
  have z := fnd_c (key := kyO N r (nv (N (83 + 9 * r)))) (n := nv (N (83 + 9 * r))) (fun f g hfg => by unfold kyO; rw [stN_c hfg]) 120 g0 g1 none none hag trivial
  rw [p3, q3] at z
  exact ⟨congrArg Prod.fst z.1, z.2⟩
theorem LinR_det {N : Nat → Int32} {t t' : Nat} {g g' : Nat → Nat} (h : LinR N t g) (h' : LinR N t' g') : t = t' ∧ Ag (nv (N 4)) g g' := by
  obtain ⟨g0, t2, p1, p2, p3⟩ := h
  obtain ⟨g1, t3, q1, q2, q3⟩ := h'
  have hag : Ag (nv (N 4)) g0 g1 := rise_eq p2 q2 (fun i hi => by obtain ⟨j, hj, e⟩ := p1.1 i hi; obtain ⟨l, hl, e2⟩ := q1.2.1 j hj; exact ⟨l, hl, e.trans e2⟩) (fun i hi => by obtain ⟨j, hj, e⟩ := q1.1 i hi; obtain ⟨l, hl, e2⟩ := p1.2.1 j hj; exact ⟨l, hl, e.trans e2⟩)
  have z := fnd_c (key := kyL N (nv (N 4))) (n := nv (N 4)) (fun f g hfg => by unfold kyL; rw [lnN_c hfg]) 720 g0 g1 none none hag trivial
  rw [p3, q3] at z
  exact ⟨congrArg Prod.fst z.1, z.2⟩
theorem OrdR_t {N : Nat → Int32} {r t : Nat} {g : Nat → Nat} (h : OrdR N r t g) : t = toll (stN N r (nv (N (83 + 9 * r))) g) := by
  obtain ⟨g0, t2, p1, p2, p3⟩ := h
  have z := fnd_k 120 g0 none (fun q hq => by cases hq) _ p3
  exact congrArg Prod.fst z
theorem LinR_t {N : Nat → Int32} {t : Nat} {g : Nat → Nat} (h : LinR N t g) : t = toll (lnN N (nv (N 4)) g) := by
  obtain ⟨g0, t2, p1, p2, p3⟩ := h
  have z := fnd_k 720 g0 none (fun q hq => by cases hq) _ p3
  exact congrArg Prod.fst z
theorem Fs_Fh {G : Gl} {S : Sh} {P o t q im : Nat} {kp : Option Nat} {μ ν : Mu} {M : Nat → Int32} (hI : Inv G S P o kp t q im μ) (h : Fh (P + 39) μ ν) (hT : repD ν (P + 39 + 3) M) : Fs P μ ν := ⟨fun a ha => h a (by omega), rD_nob hT⟩
set_option maxHeartbeats 1000000 in
theorem t_space {G : Gl} {d : Nat} {S : Sh} {μ : Mu} {P o t q im : Nat} {kp : Option Nat} {r : Int32} (hI : Inv G S P o kp t q im μ) : X G mi_X9_space (d + 60) 0 0 [(0, .ref P), (1, .int r)] [] S μ (qi (fun an S1 μ1 => X G mi_X10_space (d + 60) 0 0 [(0, .ref o), (1, .int r)] [] S1 μ1 (qi (Eq2 G P o im an)))) := by
  obtain ⟨N, hN⟩ : ∃ N, μ (o + 1) = N := ⟨_, rfl⟩
  have hw : WF N := hN ▸ hI.wf
  have hr : repD μ (P + 1) N := hN ▸ hI.rep
  have lo := hI.lo
  have b1 := hw.n1.2
  have b2 := hw.n2.2
  have b3 := hw.n3.2
  have b4 := hw.n4.2
  have b5 := hw.n5.2
  have b6 := hw.n6.2
  have hun : ∀ r i r' i' p, On N r i p → On N r' i' p → r = r' ∧ i = i' := fun _ _ _ _ _ h1 h2 => hw.un h1 h2
  have hlu : ∀ k k', k < nv (N 4) → k' < nv (N 4) → N (134 + k) = N (134 + k') → k = k' := fun _ _ h1 h2 e => hw.lu h1 h2 e
  have hnz : nI 0 = 0 := rfl
  have hli : ∀ k, k < nv (N 4) → N (134 + k) = nI (nv (N (134 + k))) ∧ nv (N (134 + k)) < nv (N 3) := fun k h => hw.li h
  refine X_aload_n (tk_X9_space.at 0 rfl) rfl ?_
  refine X_getR (tk_X9_space.at 1 rfl) fl_x9_12 hI.P0 rfl rfl ?_
  refine X_getR (tk_X9_space.at 2 rfl) fl_x9_127 hI.D.1 rfl rfl ?_
  refine X_iload_n (tk_X9_space.at 3 rfl) rfl ?_
  refine X_cV1i (lv2 := [(0, _), (1, _)]) (tk_X9_space.at 4 rfl) mv_X3_has lk_x9_70 np_X3_has hI.D.2.2.2.1.1 (by decide) rfl (Nat.le_of_ble_eq_true rfl) (Nat.le_of_ble_eq_true rfl) rfl (d_ohas hI.D hw hr (fun j8 hj8 ej8 => ?_) (fun hj8 => ?_))
  · refine X_if_ne (tgt := 21) (tk_X9_space.at 5 rfl) (by decide) (fun _ => ?_) (fun h => absurd h (by decide))
    refine X_aload_n (tk_X9_space.at 10 rfl) rfl ?_
    refine X_getR (tk_X9_space.at 11 rfl) fl_x9_12 hI.P0 rfl rfl ?_
    refine X_iload_n (tk_X9_space.at 12 rfl) rfl ?_
    refine X_cV1i (lv2 := [(0, _), (1, _)]) (tk_X9_space.at 13 rfl) mv_X2_isInLine lk_x9_221 np_X2_isInLine hI.D.1 (by decide) rfl (Nat.le_of_ble_eq_true rfl) (Nat.le_of_ble_eq_true rfl) rfl (c2_isInLine hI.D hw hr (fun k26 hk26 h26 => ?_) (fun h26 => ?_))
    · refine X_if_ne (tgt := 39) (tk_X9_space.at 14 rfl) (by decide) (fun _ => ?_) (fun h => absurd h (by decide))
      refine X_aload_n (tk_X9_space.at 19 rfl) rfl ?_
      refine X_getR (tk_X9_space.at 20 rfl) fl_x9_26 hI.P0 rfl rfl ?_
      refine X_aload_n (tk_X9_space.at 21 rfl) rfl ?_
      refine X_getR (tk_X9_space.at 22 rfl) fl_x9_12 hI.P0 rfl rfl ?_
      refine X_iload_n (tk_X9_space.at 23 rfl) rfl ?_
      refine X_cV2v (lv2 := [(0, _), (1, _), (2, _)]) (tk_X9_space.at 24 rfl) mv_X0_chooseSpace lk_x9_258 np_X0_chooseSpace hI.H.1 (by decide) rfl (Nat.le_of_ble_eq_true rfl) (Nat.le_of_ble_eq_true rfl) rfl (c0_chooseSpace hI.H hI.D hw hr hI.nb (Or.inl (by omega)) ej8 hj8 (fun ν M hFh hTr hB => ?_))
      have hFs : Fs P μ ν := Fs_Fh hI hFh hTr
      have hNν : ν (o + 1) = N := by rw [hFh _ (by omega)]; exact hN
      have hl0ν : ν o 5 = 0 := by rw [hFh _ (by omega)]; exact hI.l0
      refine X_aload_n (tk_X9_space.at 25 rfl) rfl ?_
      refine X_getR (tk_X9_space.at 26 rfl) fl_x9_26 hI.P0 rfl rfl ?_
      refine X_getI (tk_X9_space.at 27 rfl) fl_x9_261 hI.H.1 rfl ?_
      refine X_ireturn (tk_X9_space.at 28 rfl) rfl rfl ?_
      refine n10_space (N := N) hI.M hNν hw hl0ν (by intros; first | (exfalso; grind [In, On, nI_eq]) | exact ⟨by grind [In, On, nI_eq], fin_s hI hFs (by first | exact Tst_sy.sx | assumption | exact Sq.rf _ _) (by first | exact Tst1 _ _ _ _ _ _ _ | rfl | grind)⟩) (by intros; first | (exfalso; grind [In, On, nI_eq]) | exact ⟨by grind [In, On, nI_eq], fin_s hI hFs (by first | exact Tst_sy.sx | assumption | exact Sq.rf _ _) (by first | exact Tst1 _ _ _ _ _ _ _ | rfl | grind)⟩) (fun ξ a k t c ha hk ea el hsq hn1 hbw => ⟨?_, fin_s hI hFs hsq (by rw [hn1, hNν])⟩)
      rw [nI_j ea ej8 (by omega) (by omega)] at hbw
      rw [hbw] at hB
      exact hB.1.symm
    · refine X_if_ne (tgt := 39) (tk_X9_space.at 14 rfl) (by decide) (fun h => absurd h (by decide)) (fun _ => ?_)
      refine X_aload_n (tk_X9_space.at 15 rfl) rfl ?_
      refine X_ldc (tk_X9_space.at 16 rfl) kn_x9_130 ?_
      refine X_cV1i (lv2 := [(0, _), (1, _)]) (tk_X9_space.at 17 rfl) mv_X9_fail lk_x9_77 np_X9_fail hI.P0 (by decide) rfl (Nat.le_of_ble_eq_true rfl) (Nat.le_of_ble_eq_true rfl) rfl (c9_fail (k := 3) hI.P0 hI.E (by decide) (by decide) ?_)
      refine X_ireturn (tk_X9_space.at 18 rfl) rfl rfl ?_
      refine n10_space (N := N) hI.M (by rw [su_ne (by omega)]; exact hN) hw (by rw [su_ne (by omega)]; exact hI.l0) (by intros; first | (exfalso; grind [In, On, nI_eq]) | exact ⟨by grind [In, On, nI_eq], fin_e hI (Fs.rf hI) (Sq.rf _ _) rfl⟩) (by intros; first | (exfalso; grind [In, On, nI_eq]) | exact ⟨by grind [In, On, nI_eq], fin_e hI (Fs.rf hI) (Sq.rf _ _) rfl⟩) (by intros; first | (exfalso; grind [In, On, nI_eq]) | exact ⟨by grind [In, On, nI_eq], fin_e hI (Fs.rf hI) (Sq.rf _ _) rfl⟩)
  · refine X_if_ne (tgt := 21) (tk_X9_space.at 5 rfl) (by decide) (fun h => absurd h (by decide)) (fun _ => ?_)
    refine X_aload_n (tk_X9_space.at 6 rfl) rfl ?_
    refine X_ldc (tk_X9_space.at 7 rfl) kn_x9_76 ?_
    refine X_cV1i (lv2 := [(0, _), (1, _)]) (tk_X9_space.at 8 rfl) mv_X9_fail lk_x9_77 np_X9_fail hI.P0 (by decide) rfl (Nat.le_of_ble_eq_true rfl) (Nat.le_of_ble_eq_true rfl) rfl (c9_fail (k := 1) hI.P0 hI.E (by decide) (by decide) ?_)
    refine X_ireturn (tk_X9_space.at 9 rfl) rfl rfl ?_
    refine n10_space (N := N) hI.M (by rw [su_ne (by omega)]; exact hN) hw (by rw [su_ne (by omega)]; exact hI.l0) (by intros; first | (exfalso; grind [In, On, nI_eq]) | exact ⟨by grind [In, On, nI_eq], fin_e hI (Fs.rf hI) (Sq.rf _ _) rfl⟩) (by intros; first | (exfalso; grind [In, On, nI_eq]) | exact ⟨by grind [In, On, nI_eq], fin_e hI (Fs.rf hI) (Sq.rf _ _) rfl⟩) (by intros; first | (exfalso; grind [In, On, nI_eq]) | exact ⟨by grind [In, On, nI_eq], fin_e hI (Fs.rf hI) (Sq.rf _ _) rfl⟩)
set_option maxHeartbeats 1000000 in
theorem c9_isMinute {G : Gl} {d : Nat} {S : Sh} {μ : Mu} {x : Int32} {K : Int32 → Sh → Mu → Prop} (kt : 0 ≤ x → x ≤ 1439 → K 1 S μ) (kf : ¬ (0 ≤ x ∧ x ≤ 1439) → K 0 S μ) : X G mi_X9_isMinute d 0 0 [(0, .int x)] [] S μ (qi K) := by
  refine X_iload_n (tk_X9_isMinute.at 0 rfl) rfl ?_
  refine X_if_lt (tgt := 15) (tk_X9_isMinute.at 1 rfl) (by decide) (fun c1 => ?_) (fun c1 => ?_)
  · refine X_iconst (tk_X9_isMinute.at 7 rfl) ci_0 ?_
    refine X_ireturn (tk_X9_isMinute.at 8 rfl) rfl rfl ?_
    exact kf (by grind)
  · refine X_iload_n (tk_X9_isMinute.at 2 rfl) rfl ?_
    refine X_sipush (tk_X9_isMinute.at 3 rfl) cs_1439 ?_
    refine X_icmp_gt (tgt := 15) (tk_X9_isMinute.at 4 rfl) (by decide) (fun c2 => ?_) (fun c2 => ?_)
    · refine X_iconst (tk_X9_isMinute.at 7 rfl) ci_0 ?_
      refine X_ireturn (tk_X9_isMinute.at 8 rfl) rfl rfl ?_
      exact kf (by grind)
    · refine X_iconst (tk_X9_isMinute.at 5 rfl) ci_1 ?_
      refine X_goto (tgt := 16) (tk_X9_isMinute.at 6 rfl) (by decide) ?_
      refine X_ireturn (tk_X9_isMinute.at 8 rfl) rfl rfl ?_
      exact kt (by grind) (by grind)
set_option maxHeartbeats 1000000 in
theorem t_best {G : Gl} {d : Nat} {S : Sh} {μ : Mu} {P o t q im : Nat} {kp : Option Nat} {x y : Int32} (hI : Inv G S P o kp t q im μ) : X G mi_X9_best (d + 60) 0 0 [(0, .ref P), (1, .int x), (2, .int y)] [] S μ (qi (fun an S1 μ1 => X G mi_X10_best (d + 60) 0 0 [(0, .ref o), (1, .int x), (2, .int y)] [] S1 μ1 (qi (Eq2 G P o im an)))) := by
  obtain ⟨N, hN⟩ : ∃ N, μ (o + 1) = N := ⟨_, rfl⟩
  have hw : WF N := hN ▸ hI.wf
  have hr : repD μ (P + 1) N := hN ▸ hI.rep
  have lo := hI.lo
  have b1 := hw.n1.2
  have b2 := hw.n2.2
  have b3 := hw.n3.2
  have b4 := hw.n4.2
  have b5 := hw.n5.2
  have b6 := hw.n6.2
  have hun : ∀ r i r' i' p, On N r i p → On N r' i' p → r = r' ∧ i = i' := fun _ _ _ _ _ h1 h2 => hw.un h1 h2
  have hlu : ∀ k k', k < nv (N 4) → k' < nv (N 4) → N (134 + k) = N (134 + k') → k = k' := fun _ _ h1 h2 e => hw.lu h1 h2 e
  have hnz : nI 0 = 0 := rfl
  have hli : ∀ k, k < nv (N 4) → N (134 + k) = nI (nv (N (134 + k))) ∧ nv (N (134 + k)) < nv (N 3) := fun k h => hw.li h
  refine X_iload_n (tk_X9_best.at 0 rfl) rfl ?_
  refine X_cS1i (lv2 := [(0, _)]) (tk_X9_best.at 1 rfl) ms_X9_isMinute lk_x9_121 np_X9_isMinute (Nat.le_of_ble_eq_true rfl) (Nat.le_of_ble_eq_true rfl) rfl (c9_isMinute (fun h1 g1 => ?_) (fun h1 => ?_))
  · refine X_if_eq (tgt := 19) (tk_X9_best.at 2 rfl) (by decide) (fun h => absurd h (by decide)) (fun _ => ?_)
    refine X_iload_n (tk_X9_best.at 3 rfl) rfl ?_
    refine X_cS1i (lv2 := [(0, _)]) (tk_X9_best.at 4 rfl) ms_X9_isMinute lk_x9_121 np_X9_isMinute (Nat.le_of_ble_eq_true rfl) (Nat.le_of_ble_eq_true rfl) rfl (c9_isMinute (fun h8 g8 => ?_) (fun h8 => ?_))
    · refine X_if_eq (tgt := 19) (tk_X9_best.at 5 rfl) (by decide) (fun h => absurd h (by decide)) (fun _ => ?_)
      refine X_iload_n (tk_X9_best.at 6 rfl) rfl ?_
      refine X_iload_n (tk_X9_best.at 7 rfl) rfl ?_
      refine X_icmp_le (tgt := 26) (tk_X9_best.at 8 rfl) (by decide) (fun c3 => ?_) (fun c3 => ?_)
      · have hcf : 0 ≤ x ∧ x ≤ 1439 := ⟨h1, g1⟩
        have hcg : 0 ≤ y ∧ y ≤ 1439 := ⟨h8, g8⟩
        obtain ⟨f, ef, hf⟩ : ∃ f, x = nI f ∧ f ≤ 1439 := ⟨nv x, (le_lits (a := 0) (b := 1439) (by decide) hcf.1 hcf.2 (by decide)).1, (le_lits (a := 0) (b := 1439) (by decide) hcf.1 hcf.2 (by decide)).2.2⟩
        obtain ⟨g, eg, hg⟩ : ∃ f, y = nI f ∧ f ≤ 1439 := ⟨nv y, (le_lits (a := 0) (b := 1439) (by decide) hcg.1 hcg.2 (by decide)).1, (le_lits (a := 0) (b := 1439) (by decide) hcg.1 hcg.2 (by decide)).2.2⟩
        have hfg : f ≤ g := by have z := c3; rw [ef, eg] at z; exact (nI_leI (by omega) (by omega)).mp z
        refine X_aload_n (tk_X9_best.at 13 rfl) rfl ?_
        refine X_getR (tk_X9_best.at 14 rfl) fl_x9_26 hI.P0 rfl rfl ?_
        refine X_aload_n (tk_X9_best.at 15 rfl) rfl ?_
        refine X_getR (tk_X9_best.at 16 rfl) fl_x9_12 hI.P0 rfl rfl ?_
        refine X_iload_n (tk_X9_best.at 17 rfl) rfl ?_
        refine X_iload_n (tk_X9_best.at 18 rfl) rfl ?_
        refine X_cV3v (lv2 := [(0, _), (1, _), (2, _), (3, _)]) (tk_X9_best.at 19 rfl) mv_X0_chooseStart lk_x9_276 np_X0_chooseStart hI.H.1 (by decide) rfl (Nat.le_of_ble_eq_true rfl) (Nat.le_of_ble_eq_true rfl) rfl (c0_chooseStart hI.H hI.D hw hr hI.nb (Or.inl (by omega)) ef eg hfg hg (fun ν M hFh hTr hB => ?_))
        have hFs : Fs P μ ν := Fs_Fh hI hFh hTr
        have hNν : ν (o + 1) = N := by rw [hFh _ (by omega)]; exact hN
        have hl0ν : ν o 5 = 0 := by rw [hFh _ (by omega)]; exact hI.l0
        refine X_aload_n (tk_X9_best.at 20 rfl) rfl ?_
        refine X_getR (tk_X9_best.at 21 rfl) fl_x9_26 hI.P0 rfl rfl ?_
        refine X_getI (tk_X9_best.at 22 rfl) fl_x9_261 hI.H.1 rfl ?_
        refine X_ireturn (tk_X9_best.at 23 rfl) rfl rfl ?_
        refine c10_best (N := N) hI.M hNν hl0ν hw (fun g => by exfalso; apply g; exact ⟨⟨h1, g1⟩, by grind, g8⟩) (fun ξ fr to t c h1x h2x e1 e2 hsq hn1 hbw => ⟨?_, fin_s hI hFs hsq (by rw [hn1, hNν])⟩)
        rw [nI_j e1 ef (by omega) (by omega), nI_j e2 eg (by omega) (by omega)] at hbw
        rw [hbw] at hB
        exact hB.1.symm
      · refine X_aload_n (tk_X9_best.at 9 rfl) rfl ?_
        refine X_ldc (tk_X9_best.at 10 rfl) kn_x9_76 ?_
        refine X_cV1i (lv2 := [(0, _), (1, _)]) (tk_X9_best.at 11 rfl) mv_X9_fail lk_x9_77 np_X9_fail hI.P0 (by decide) rfl (Nat.le_of_ble_eq_true rfl) (Nat.le_of_ble_eq_true rfl) rfl (c9_fail (k := 1) hI.P0 hI.E (by decide) (by decide) ?_)
        refine X_ireturn (tk_X9_best.at 12 rfl) rfl rfl ?_
        refine c10_best (N := N) hI.M (by rw [su_ne (by omega)]; exact hN) (by rw [su_ne (by omega)]; exact hI.l0) hw (fun _ => ⟨rfl, fin_e hI (Fs.rf hI) (Sq.rf _ _) rfl⟩) (fun ξ fr to t c h1x h2x e1 e2 hsq hn1 hbw => by exfalso; have q1 := rng e1 (show fr ≤ 1439 by omega) (by decide); have q2 := rng e2 h2x (by decide); have q3 : x ≤ y := (by rw [e1, e2]; exact (nI_leI (by omega) (by omega)).mpr h1x); have q4 : x ≤ 1439 := q1.2; have q5 : y ≤ 1439 := q2.2; grind)
    · refine X_if_eq (tgt := 19) (tk_X9_best.at 5 rfl) (by decide) (fun _ => ?_) (fun h => absurd h (by decide))
      refine X_aload_n (tk_X9_best.at 9 rfl) rfl ?_
      refine X_ldc (tk_X9_best.at 10 rfl) kn_x9_76 ?_
      refine X_cV1i (lv2 := [(0, _), (1, _)]) (tk_X9_best.at 11 rfl) mv_X9_fail lk_x9_77 np_X9_fail hI.P0 (by decide) rfl (Nat.le_of_ble_eq_true rfl) (Nat.le_of_ble_eq_true rfl) rfl (c9_fail (k := 1) hI.P0 hI.E (by decide) (by decide) ?_)
      refine X_ireturn (tk_X9_best.at 12 rfl) rfl rfl ?_
      refine c10_best (N := N) hI.M (by rw [su_ne (by omega)]; exact hN) (by rw [su_ne (by omega)]; exact hI.l0) hw (fun _ => ⟨rfl, fin_e hI (Fs.rf hI) (Sq.rf _ _) rfl⟩) (fun ξ fr to t c h1x h2x e1 e2 hsq hn1 hbw => by exfalso; have q1 := rng e1 (show fr ≤ 1439 by omega) (by decide); have q2 := rng e2 h2x (by decide); have q3 : x ≤ y := (by rw [e1, e2]; exact (nI_leI (by omega) (by omega)).mpr h1x); have q4 : x ≤ 1439 := q1.2; have q5 : y ≤ 1439 := q2.2; grind)
  · refine X_if_eq (tgt := 19) (tk_X9_best.at 2 rfl) (by decide) (fun _ => ?_) (fun h => absurd h (by decide))
    refine X_aload_n (tk_X9_best.at 9 rfl) rfl ?_
    refine X_ldc (tk_X9_best.at 10 rfl) kn_x9_76 ?_
    refine X_cV1i (lv2 := [(0, _), (1, _)]) (tk_X9_best.at 11 rfl) mv_X9_fail lk_x9_77 np_X9_fail hI.P0 (by decide) rfl (Nat.le_of_ble_eq_true rfl) (Nat.le_of_ble_eq_true rfl) rfl (c9_fail (k := 1) hI.P0 hI.E (by decide) (by decide) ?_)
    refine X_ireturn (tk_X9_best.at 12 rfl) rfl rfl ?_
    refine c10_best (N := N) hI.M (by rw [su_ne (by omega)]; exact hN) (by rw [su_ne (by omega)]; exact hI.l0) hw (fun _ => ⟨rfl, fin_e hI (Fs.rf hI) (Sq.rf _ _) rfl⟩) (fun ξ fr to t c h1x h2x e1 e2 hsq hn1 hbw => by exfalso; have q1 := rng e1 (show fr ≤ 1439 by omega) (by decide); have q2 := rng e2 h2x (by decide); have q3 : x ≤ y := (by rw [e1, e2]; exact (nI_leI (by omega) (by omega)).mpr h1x); have q4 : x ≤ 1439 := q1.2; have q5 : y ≤ 1439 := q2.2; grind)
set_option maxHeartbeats 1000000 in
theorem t_left {G : Gl} {d : Nat} {S : Sh} {μ : Mu} {P o t q im : Nat} {kp : Option Nat} (hI : Inv G S P o kp t q im μ) : X G mi_X9_left (d + 60) 0 0 [(0, .ref P)] [] S μ (qi (fun an S1 μ1 => X G mi_X10_left (d + 60) 0 0 [(0, .ref o)] [] S1 μ1 (qi (Eq2 G P o im an)))) := by
  obtain ⟨N, hN⟩ : ∃ N, μ (o + 1) = N := ⟨_, rfl⟩
  have hw : WF N := hN ▸ hI.wf
  have hr : repD μ (P + 1) N := hN ▸ hI.rep
  have lo := hI.lo
  have b1 := hw.n1.2
  have b2 := hw.n2.2
  have b3 := hw.n3.2
  have b4 := hw.n4.2
  have b5 := hw.n5.2
  have b6 := hw.n6.2
  have hun : ∀ r i r' i' p, On N r i p → On N r' i' p → r = r' ∧ i = i' := fun _ _ _ _ _ h1 h2 => hw.un h1 h2
  have hlu : ∀ k k', k < nv (N 4) → k' < nv (N 4) → N (134 + k) = N (134 + k') → k = k' := fun _ _ h1 h2 e => hw.lu h1 h2 e
  have hnz : nI 0 = 0 := rfl
  have hli : ∀ k, k < nv (N 4) → N (134 + k) = nI (nv (N (134 + k))) ∧ nv (N (134 + k)) < nv (N 3) := fun k h => hw.li h
  refine X_aload_n (tk_X9_left.at 0 rfl) rfl ?_
  refine X_getR (tk_X9_left.at 1 rfl) fl_x9_26 hI.P0 rfl rfl ?_
  refine X_aload_n (tk_X9_left.at 2 rfl) rfl ?_
  refine X_getR (tk_X9_left.at 3 rfl) fl_x9_12 hI.P0 rfl rfl ?_
  refine X_cV1v (lv2 := [(0, _), (1, _)]) (tk_X9_left.at 4 rfl) mv_X0_chooseLeft lk_x9_279 np_X0_chooseLeft hI.H.1 (by decide) rfl (Nat.le_of_ble_eq_true rfl) (Nat.le_of_ble_eq_true rfl) rfl (c0_chooseLeft hI.H hI.D hw hr hI.nb (Or.inl (by omega))  (fun ν M hFh hTr hB => ?_))
  have hFs : Fs P μ ν := Fs_Fh hI hFh hTr
  have hNν : ν (o + 1) = N := by rw [hFh _ (by omega)]; exact hN
  have hl0ν : ν o 5 = 0 := by rw [hFh _ (by omega)]; exact hI.l0
  refine X_aload_n (tk_X9_left.at 5 rfl) rfl ?_
  refine X_getR (tk_X9_left.at 6 rfl) fl_x9_26 hI.P0 rfl rfl ?_
  refine X_getI (tk_X9_left.at 7 rfl) fl_x9_261 hI.H.1 rfl ?_
  refine X_if_ge (tgt := 30) (tk_X9_left.at 8 rfl) (by decide) (fun hpos => ?_) (fun hneg => ?_)
  · refine X_aload_n (tk_X9_left.at 13 rfl) rfl ?_
    refine X_getR (tk_X9_left.at 14 rfl) fl_x9_26 hI.P0 rfl rfl ?_
    refine X_getI (tk_X9_left.at 15 rfl) fl_x9_261 hI.H.1 rfl ?_
    refine X_ireturn (tk_X9_left.at 16 rfl) rfl rfl ?_
    refine c10_left (N := N) hI.M hNν hl0ν hw (fun ξ hsq hn1 hbw => by exfalso; rw [hbw] at hB; exact absurd hpos (by rw [hB.1]; decide)) (fun ξ t c hsq hn1 hbw => ⟨?_, fin_s hI hFs hsq (by rw [hn1, hNν])⟩)
    rw [hbw] at hB
    exact hB.1.symm
  · refine X_aload_n (tk_X9_left.at 9 rfl) rfl ?_
    refine X_ldc (tk_X9_left.at 10 rfl) kn_x9_99 ?_
    refine X_cV1i (lv2 := [(0, _), (1, _)]) (tk_X9_left.at 11 rfl) mv_X9_fail lk_x9_77 np_X9_fail hI.P0 (by decide) rfl (Nat.le_of_ble_eq_true rfl) (Nat.le_of_ble_eq_true rfl) rfl (c9_fail (k := 2) hI.P0 hI.E (by decide) (by decide) ?_)
    refine X_goto (tgt := 37) (tk_X9_left.at 12 rfl) (by decide) ?_
    refine X_ireturn (tk_X9_left.at 16 rfl) rfl rfl ?_
    refine c10_left (N := N) hI.M (by rw [su_ne (by omega)]; exact hNν) (by rw [su_ne (by omega)]; exact hl0ν) hw (fun ξ hsq hn1 hbw => ⟨rfl, fin_e hI hFs hsq (by rw [hn1, su_ne (by omega), hNν])⟩) (fun ξ t c hsq hn1 hbw => by exfalso; rw [hbw] at hB; have q := bw_in hbw; exact hneg (by rw [hB.1]; exact nI_pos' (n := c) (by omega)))
