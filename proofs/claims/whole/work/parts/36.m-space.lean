theorem WF_rf {N : Nat → Int32} (hw : WF N) {r f : Nat} (hr : r < nv (N 3)) (hf : f < 2) {x : Int32} (h0 : f = 0 → okN x 20 ∧ 1 ≤ nv x) (h1 : f = 1 → okN x 9) : WF (upd N (81 + 9 * r + f) x) := by
  have b1 := hw.n1.2
  have b2 := hw.n2.2
  have b3 := hw.n3.2
  have b4 := hw.n4.2
  have b5 := hw.n5.2
  have out : ∀ {a : Nat}, a ≠ 81 + 9 * r + f → upd N (81 + 9 * r + f) x a = N a := fun h => upd_ne _ _ h
  have e0 : upd N (81 + 9 * r + f) x 0 = N 0 := out (by omega)
  have e1 : upd N (81 + 9 * r + f) x 1 = N 1 := out (by omega)
  have e2 : upd N (81 + 9 * r + f) x 2 = N 2 := out (by omega)
  have e3 : upd N (81 + 9 * r + f) x 3 = N 3 := out (by omega)
  have e4 : upd N (81 + 9 * r + f) x 4 = N 4 := out (by omega)
  have e5 : upd N (81 + 9 * r + f) x 5 = N 5 := out (by omega)
  have e6 : upd N (81 + 9 * r + f) x 6 = N 6 := out (by omega)
  have on : ∀ r' i p, On (upd N (81 + 9 * r + f) x) r' i p → On N r' i p := by
    intro r' i p g
    have hr' : r' < nv (N 3) := by rw [← e3]; exact g.1
    have c3 : upd N (81 + 9 * r + f) x (83 + 9 * r') = N (83 + 9 * r') := out (by omega)
    have hi : i < nv (N (83 + 9 * r')) := by rw [← c3]; exact g.2.1
    have := (hw.ro hr').2.2.2.1.2
    exact ⟨hr', hi, by rw [← out (a := 84 + 9 * r' + i) (by omega)]; exact g.2.2⟩
  refine ⟨⟨by rw [e0]; exact hw.n0, by rw [e1]; exact hw.n1, by rw [e2]; exact hw.n2, by rw [e3]; exact hw.n3, by rw [e4]; exact hw.n4, by rw [e5]; exact hw.n5, by rw [e6]; exact hw.n6⟩, ?_, ?_, ?_, ?_, ?_, ?_, ?_, ?_⟩
  · intro p hp'
    rw [e1] at hp'
    have g := hw.pe hp'
    unfold WFp at g ⊢
    rw [out (a := 8 + 4 * p) (by omega), out (a := 9 + 4 * p) (by omega), out (a := 10 + 4 * p) (by omega), out (a := 11 + 4 * p) (by omega)]
    exact g
  · intro p hp'
    rw [e2] at hp'
    have g := hw.pc hp'
    unfold WFc at g ⊢
    rw [out (a := 48 + 4 * p) (by omega), out (a := 49 + 4 * p) (by omega), out (a := 50 + 4 * p) (by omega), out (a := 51 + 4 * p) (by omega)]
    exact g
  · intro r' hr'
    rw [e3] at hr'
    have g := hw.ro hr'
    have bm' := g.2.2.2.1.2
    unfold WFr at g ⊢
    rw [out (a := 80 + 9 * r') (by omega), out (a := 83 + 9 * r') (by omega), e1]
    refine ⟨g.1, ?_, ?_, g.2.2.2.1, fun i hi => ?_⟩
    · by_cases c : 81 + 9 * r' = 81 + 9 * r + f
      · rw [c, upd_at]; exact h0 (by omega)
      · rw [out c]; exact g.2.1
    · by_cases c : 82 + 9 * r' = 81 + 9 * r + f
      · rw [c, upd_at]; exact h1 (by omega)
      · rw [out c]; exact g.2.2.1
    · rw [out (a := 84 + 9 * r' + i) (by omega)]
      exact g.2.2.2.2 i hi
  · intro r1 i1 r2 i2 p g1 g2
    exact hw.un (on _ _ _ g1) (on _ _ _ g2)
  · intro k hk
    rw [e4] at hk
    rw [out (a := 134 + k) (by omega), e3]
    exact hw.li hk
  · intro k k' hk hk' e
    rw [e4] at hk hk'
    rw [out (a := 134 + k) (by omega), out (a := 134 + k') (by omega)] at e
    exact hw.lu hk hk' e
  · intro k hk
    rw [e5] at hk
    rw [out (a := 140 + k) (by omega)]
    exact hw.ta hk
  · intro u hu
    have g := hw.tx hu
    rw [out (a := 210 + 52 * u) (by omega), show (fun k => upd N (81 + 9 * r + f) x (211 + 52 * u + k)) = (fun k => N (211 + 52 * u + k)) from funext (fun k => out (by omega))]
    exact g
def btr (b : Option (Nat × Nat)) (t : Nat) : Prop := match b with
  | none => True
  | some (t', _) => t < t'
/-- the first of the least tolls among a, a + 1, .. that are allowed -/
noncomputable def bw (ok : Nat → Prop) (tl : Nat → Nat) (a : Nat) : Nat → Option (Nat × Nat)
  | 0 => none
  | k + 1 => @ite _ (ok (a + k) ∧ btr (bw ok tl a k) (tl (a + k))) (Classical.propDecidable _) (some (tl (a + k), a + k)) (bw ok tl a k)
theorem bw_t {ok : Nat → Prop} {tl : Nat → Nat} {a k : Nat} (h1 : ok (a + k)) (h : btr (bw ok tl a k) (tl (a + k))) : bw ok tl a (k + 1) = some (tl (a + k), a + k) := if_pos ⟨h1, h⟩
theorem bw_f {ok : Nat → Prop} {tl : Nat → Nat} {a k : Nat} (h : ¬ btr (bw ok tl a k) (tl (a + k))) : bw ok tl a (k + 1) = bw ok tl a k := if_neg (fun g => h g.2)
theorem bw_n {ok : Nat → Prop} {tl : Nat → Nat} {a k : Nat} (h : ¬ ok (a + k)) : bw ok tl a (k + 1) = bw ok tl a k := if_neg (fun g => h g.1)
theorem bw_in {ok : Nat → Prop} {tl : Nat → Nat} {a : Nat} : ∀ {k t c : Nat}, bw ok tl a k = some (t, c) → a ≤ c ∧ c < a + k ∧ ok c ∧ t = tl c
  | 0, t, c, h => by cases h
  | k + 1, t, c, h => by
    by_cases g : ok (a + k) ∧ btr (bw ok tl a k) (tl (a + k))
    · rw [bw_t g.1 g.2] at h
      cases h
      exact ⟨by omega, by omega, g.1, rfl⟩
    · have e : bw ok tl a (k + 1) = bw ok tl a k := if_neg g
      rw [e] at h
      have := bw_in h
      exact ⟨this.1, by omega, this.2.2⟩
theorem bw_some {ok : Nat → Prop} {tl : Nat → Nat} {a : Nat} (h : ok a) : ∀ k, 0 < k → ∃ x, bw ok tl a k = some x
  | 0, h0 => by omega
  | k + 1, _ => by
    by_cases g : ok (a + k) ∧ btr (bw ok tl a k) (tl (a + k))
    · exact ⟨_, bw_t g.1 g.2⟩
    · have e : bw ok tl a (k + 1) = bw ok tl a k := if_neg g
      rw [e]
      rcases Nat.eq_zero_or_pos k with z | z
      · subst z
        exact absurd ⟨h, trivial⟩ g
      · exact bw_some h k z
def BA (o : Nat) (ν : Mu) (bl : Int32) (b : Option (Nat × Nat)) : Prop := match b with
  | none => ν o 20 = -1
  | some (t, c) => ν o 20 = nI t ∧ t ≤ 1200000 ∧ bl = nI c
def BB (o : Nat) (ν : Mu) (bl : Int32) (b : Option (Nat × Nat)) : Prop := match b with
  | none => bl = -1
  | some (t, c) => ν o 20 = nI t ∧ t ≤ 1200000 ∧ bl = nI c ∧ c < 2000
noncomputable def tlS (N : Nat → Int32) (r s : Nat) : Nat := toll (upd N (81 + 9 * r) (nI s))
noncomputable def tlM (N : Nat → Int32) (s : Nat) : Nat := toll (upd N 0 (nI s))
set_option maxHeartbeats 1000000 in
theorem c10_spaceOf {G : Gl} {d : Nat} {S : Sh} {μ : Mu} {o : Nat} {q : Nat → Nat} {r : Int32} {rn : Nat} {N : Nat → Int32} {K : Int32 → Sh → Mu → Prop} (hM : MS S o q) (hN : μ (o + 1) = N) (hl0 : μ o 5 = 0) (hw : WF N) (hr : r = nI rn) (hrn : rn < nv (N 3)) (hK : ∀ ν t c, Sq o μ ν → ν (o + 1) = N → bw (fun _ => True) (tlS N rn) 1 20 = some (t, c) → K (nI c) S ν) : X G mi_X10_spaceOf (d + 8) 0 0 [(0, .ref o), (1, .int r)] [] S μ (qi K) := by
  have b3 := hw.n3.2
  refine X_aload_n (tk_X10_spaceOf.at 0 rfl) rfl ?_
  refine X_getR (tk_X10_spaceOf.at 1 rfl) fl_x10_9 hM.f0 rfl rfl ?_
  refine X_aload_n (tk_X10_spaceOf.at 2 rfl) rfl ?_
  refine X_getR (tk_X10_spaceOf.at 3 rfl) fl_x10_16 hM.f0 rfl rfl ?_
  refine X_cS2v (lv2 := [(0, _), (1, _)]) (tk_X10_spaceOf.at 4 rfl) ms_X10_copy lk_x10_73 np_X10_copy (Nat.le_of_ble_eq_true rfl) (Nat.le_of_ble_eq_true rfl) rfl (c10_copy hM.f1 hM.f3 (by omega) ?_)
  rw [hN]
  refine X_iconst (tk_X10_spaceOf.at 5 rfl) ci_0 ?_
  refine X_istore_n (lv' := [(0, _), (1, _), (2, _)]) (tk_X10_spaceOf.at 6 rfl) (by decide) rfl rfl ?_
  refine X_aload_n (tk_X10_spaceOf.at 7 rfl) rfl ?_
  refine X_iconst (tk_X10_spaceOf.at 8 rfl) ci_m1 ?_
  refine X_putI (tk_X10_spaceOf.at 9 rfl) fl_x10_275 hM.f0 rfl rfl ⟨rfl, rfl⟩ ?_
  refine X_iconst (tk_X10_spaceOf.at 10 rfl) ci_1 ?_
  refine X_istore_n (lv' := [(0, _), (1, _), (2, _), (3, _)]) (tk_X10_spaceOf.at 11 rfl) (by decide) rfl rfl ?_
  have loop : ∀ (m s : Nat) (ν : Mu) (bl : Int32) (N1 : Nat → Int32) (rest : List (Nat × Value)), s + m = 21 → 1 ≤ s → Sq o μ ν → ν (o + 3) = N → ν (o + 1) = N1 → (∀ x, upd N1 (81 + 9 * rn) x = upd N (81 + 9 * rn) x) → BA o ν bl (bw (fun _ => True) (tlS N rn) 1 (s - 1)) → X G mi_X10_spaceOf (d + 8) 0 20 ([(0, .ref o), (1, .int r), (2, .int bl), (3, .int (nI s))] ++ rest) [] S ν (qi K) := by
    intro m
    induction m with
    | zero =>
      intro s ν bl N1 rest hs h1s hsq h3 hn1 hup hb
      refine X_lvp [0, 1, 2, 3] (lv' := [(0, _), (1, _), (2, _), (3, _)]) rfl ?_
      refine X_iload_n (tk_X10_spaceOf.at 12 rfl) rfl ?_
      refine X_bipush (tk_X10_spaceOf.at 13 rfl) cb_20 ?_
      refine X_icmp_gtN (tgt := 77) (tk_X10_spaceOf.at 14 rfl) (by decide) (pl s rfl) (pl 20 rfl) (by omega) (by omega) (fun c1 => ?_) (fun c1 => (by exfalso; omega))
      refine X_aload_n (tk_X10_spaceOf.at 43 rfl) rfl ?_
      refine X_iload_n (tk_X10_spaceOf.at 44 rfl) rfl ?_
      refine X_cV1i (lv2 := [(0, _), (1, _)]) (tk_X10_spaceOf.at 45 rfl) mv_X10_back lk_x10_285 np_X10_back hM.f0 (by decide) rfl (Nat.le_of_ble_eq_true rfl) (Nat.le_of_ble_eq_true rfl) rfl (c10_back hM ?_)
      refine X_ireturn (tk_X10_spaceOf.at 46 rfl) rfl rfl ?_
      obtain ⟨⟨t, c⟩, hbw⟩ := bw_some (ok := fun _ => True) (tl := (tlS N rn)) (a := 1) trivial 20 (by decide)
      rw [show s - 1 = 20 by omega, hbw] at hb
      obtain ⟨z1, z2, z3⟩ := hb
      rw [z3, h3]
      exact hK (Mx ν (o + 1) N) t c (hsq.mx _ (by omega)) Mx_same hbw
    | succ m ih =>
      intro s ν bl N1 rest hs h1s hsq h3 hn1 hup hb
      refine X_lvp [0, 1, 2, 3] (lv' := [(0, _), (1, _), (2, _), (3, _)]) rfl ?_
      refine X_iload_n (tk_X10_spaceOf.at 12 rfl) rfl ?_
      refine X_bipush (tk_X10_spaceOf.at 13 rfl) cb_20 ?_
      refine X_icmp_gtN (tgt := 77) (tk_X10_spaceOf.at 14 rfl) (by decide) (pl s rfl) (pl 20 rfl) (by omega) (by omega) (fun c1 => (by exfalso; omega)) (fun c1 => ?_)
      refine X_aload_n (tk_X10_spaceOf.at 15 rfl) rfl ?_
      refine X_getR (tk_X10_spaceOf.at 16 rfl) fl_x10_9 hM.f0 rfl rfl ?_
      refine X_bipush (tk_X10_spaceOf.at 17 rfl) cb_80 ?_
      refine X_bipush (tk_X10_spaceOf.at 18 rfl) cb_9 ?_
      refine X_iload_n (tk_X10_spaceOf.at 19 rfl) rfl ?_
      refine X_imul (tk_X10_spaceOf.at 20 rfl) ?_
      refine X_iadd (tk_X10_spaceOf.at 21 rfl) ?_
      refine X_iconst (tk_X10_spaceOf.at 22 rfl) ci_1 ?_
      refine X_iadd (tk_X10_spaceOf.at 23 rfl) ?_
      refine X_iload_n (tk_X10_spaceOf.at 24 rfl) rfl ?_
      refine X_iastN (k := 81 + 9 * rn) (tk_X10_spaceOf.at 25 rfl) hM.f1 (pz (pa (pa (pl 80 rfl) (pm (pl 9 rfl) hr)) (pl 1 rfl)) (by omega)) (by omega) (by decide) ?_
      rw [su_eq, hn1, hup]
      refine X_aload_n (tk_X10_spaceOf.at 26 rfl) rfl ?_
      have wft : WF (upd N (81 + 9 * rn) (nI s)) := WF_rf (f := 0) hw hrn (by decide) (fun _ => ⟨okN_of (by omega) (by decide), by rw [nv_nI (by omega)]; omega⟩) (fun h => by omega)
      refine X_cV0i (lv2 := [(0, _)]) (tk_X10_spaceOf.at 27 rfl) mv_X10_tollOf lk_x10_264 np_X10_tollOf hM.f0 (by decide) rfl (Nat.le_of_ble_eq_true rfl) (Nat.le_of_ble_eq_true rfl) rfl (c10_tollY hM Mx_same (by rw [Mx_ne (by omega)]; exact hsq.2.2.1.trans hl0) wft (fun ξ hsy hov => ?_))
      have tb := toll_le wft
      have x20 : ξ o 20 = ν o 20 := by rw [hsy.2 20 (by decide), Mx_ne (by omega)]
      have x1 : ξ (o + 1) = (upd N (81 + 9 * rn) (nI s)) := by rw [hsy.1 _ (by omega) (by omega) (by omega) (by omega) (by omega), Mx_same]
      have x3 : ξ (o + 3) = ν (o + 3) := by rw [hsy.1 _ (by omega) (by omega) (by omega) (by omega) (by omega), Mx_ne (by omega)]
      have xsq : Sq o μ ξ := (hsq.mx _ (by omega)).tr hsy.sx
      clear hsy hov
      refine X_istore (lv' := [(0, _), (1, _), (2, _), (3, _), (4, _)]) (tk_X10_spaceOf.at 28 rfl) (by decide) rfl rfl ?_
      have x3b : ξ (o + 3) = N := x3.trans h3
      have es : s = 1 + (s - 1) := by omega
      have etl : toll (upd N (81 + 9 * rn) (nI s)) = (tlS N rn) (1 + (s - 1)) := by rw [← es]; rfl
      have hnext : s + 1 - 1 = (s - 1) + 1 := by omega
      generalize hbb : bw (fun _ => True) (tlS N rn) 1 (s - 1) = b at hb
      cases b with
      | none =>
        have hbt : btr none (toll (upd N (81 + 9 * rn) (nI s))) := trivial
        have e20 : ξ o 20 = -1 := x20.trans hb
        refine X_aload_n (tk_X10_spaceOf.at 29 rfl) rfl ?_
        refine X_getI (tk_X10_spaceOf.at 30 rfl) fl_x10_275 hM.f0 rfl ?_
        rw [e20]
        refine X_if_lt (tgt := 63) (tk_X10_spaceOf.at 31 rfl) (by decide) (fun _ => ?_) (fun h => absurd h (by decide))
        refine X_aload_n (tk_X10_spaceOf.at 36 rfl) rfl ?_
        refine X_iload (tk_X10_spaceOf.at 37 rfl) rfl ?_
        refine X_putI (tk_X10_spaceOf.at 38 rfl) fl_x10_275 hM.f0 rfl rfl ⟨rfl, rfl⟩ ?_
        refine X_iload_n (tk_X10_spaceOf.at 39 rfl) rfl ?_
        refine X_istore_n (lv' := [(0, _), (1, _), (2, _), (3, _), (4, _)]) (tk_X10_spaceOf.at 40 rfl) (by decide) rfl rfl ?_
        refine X_iinc (lv' := [(0, _), (1, _), (2, _), (3, _), (4, _)]) (tk_X10_spaceOf.at 41 rfl) rfl ci_1 (by decide) rfl rfl ?_
        refine X_goto (tgt := 20) (tk_X10_spaceOf.at 42 rfl) (by decide) ?_
        rw [nI_1 s]
        refine ih (s + 1) (su ξ o 20 (nI (toll (upd N (81 + 9 * rn) (nI s))))) (nI s) (upd N (81 + 9 * rn) (nI s)) [(4, _)] (by omega) (by omega) (xsq.su _ (by decide)) (by rw [su_ne (by omega)]; exact x3b) (by rw [su_ne (by omega)]; exact x1) (fun x => upd_upd _ _ _ _) ?_
        rw [hnext, bw_t trivial (by rw [hbb, ← etl]; exact hbt), ← etl, ← es]
        exact ⟨by rw [su_same]; exact upd_at _ _ _, tb, rfl⟩
      | some x =>
        obtain ⟨t, c⟩ := x
        obtain ⟨c20, ct, cl⟩ := hb
        refine X_aload_n (tk_X10_spaceOf.at 29 rfl) rfl ?_
        refine X_getI (tk_X10_spaceOf.at 30 rfl) fl_x10_275 hM.f0 rfl ?_
        refine X_if_ltN (tgt := 63) (tk_X10_spaceOf.at 31 rfl) (by decide) (x20.trans c20) (by omega) ?_
        refine X_iload (tk_X10_spaceOf.at 32 rfl) rfl ?_
        refine X_aload_n (tk_X10_spaceOf.at 33 rfl) rfl ?_
        refine X_getI (tk_X10_spaceOf.at 34 rfl) fl_x10_275 hM.f0 rfl ?_
        refine X_icmp_geN (tgt := 71) (tk_X10_spaceOf.at 35 rfl) (by decide) (pl (toll (upd N (81 + 9 * rn) (nI s))) rfl) (x20.trans c20) (by omega) (by omega) (fun c2 => ?_) (fun c2 => ?_)
        · refine X_iinc (lv' := [(0, _), (1, _), (2, _), (3, _), (4, _)]) (tk_X10_spaceOf.at 41 rfl) rfl ci_1 (by decide) rfl rfl ?_
          refine X_goto (tgt := 20) (tk_X10_spaceOf.at 42 rfl) (by decide) ?_
          rw [nI_1 s]
          refine ih (s + 1) ξ bl (upd N (81 + 9 * rn) (nI s)) [(4, _)] (by omega) (by omega) xsq x3b x1 (fun x => upd_upd _ _ _ _) ?_
          rw [hnext, bw_f (by rw [hbb, ← etl]; exact Nat.not_lt.mpr (by omega)), hbb]
          exact ⟨x20.trans c20, ct, cl⟩
        · refine X_aload_n (tk_X10_spaceOf.at 36 rfl) rfl ?_
          refine X_iload (tk_X10_spaceOf.at 37 rfl) rfl ?_
          refine X_putI (tk_X10_spaceOf.at 38 rfl) fl_x10_275 hM.f0 rfl rfl ⟨rfl, rfl⟩ ?_
          refine X_iload_n (tk_X10_spaceOf.at 39 rfl) rfl ?_
          refine X_istore_n (lv' := [(0, _), (1, _), (2, _), (3, _), (4, _)]) (tk_X10_spaceOf.at 40 rfl) (by decide) rfl rfl ?_
          refine X_iinc (lv' := [(0, _), (1, _), (2, _), (3, _), (4, _)]) (tk_X10_spaceOf.at 41 rfl) rfl ci_1 (by decide) rfl rfl ?_
          refine X_goto (tgt := 20) (tk_X10_spaceOf.at 42 rfl) (by decide) ?_
          have hbt : btr (some (t, c)) (toll (upd N (81 + 9 * rn) (nI s))) := (show toll (upd N (81 + 9 * rn) (nI s)) < t by omega)
          rw [nI_1 s]
          refine ih (s + 1) (su ξ o 20 (nI (toll (upd N (81 + 9 * rn) (nI s))))) (nI s) (upd N (81 + 9 * rn) (nI s)) [(4, _)] (by omega) (by omega) (xsq.su _ (by decide)) (by rw [su_ne (by omega)]; exact x3b) (by rw [su_ne (by omega)]; exact x1) (fun x => upd_upd _ _ _ _) ?_
          rw [hnext, bw_t trivial (by rw [hbb, ← etl]; exact hbt), ← etl, ← es]
          exact ⟨by rw [su_same]; exact upd_at _ _ _, tb, rfl⟩
  refine loop 20 1 (su (Mx μ (o + 3) N) o 20 (-1)) 0 N [] (by decide) (by decide) (((Sq.rf o μ).mx _ (by omega)).su _ (by decide)) (by rw [su_ne (by omega)]; exact Mx_same) (by rw [su_ne (by omega), Mx_ne (by omega)]; exact hN) (fun x => rfl) ?_
  show su _ _ _ _ _ _ = _
  rw [su_same]
  exact upd_at _ _ _
