theorem rD_people {μ : Mu} {D : Nat} {N : Nat → Int32} (hw : WF N) (h : repD μ D N) : μ (D + 1) 3 = nI (nv (N 1)) := h.2.1.1.trans hw.n1.1
theorem rD_pieces {μ : Mu} {D : Nat} {N : Nat → Int32} (hw : WF N) (h : repD μ D N) : μ (D + 3) 3 = nI (nv (N 2)) := h.2.2.1.1.trans hw.n2.1
theorem rD_ropes {μ : Mu} {D : Nat} {N : Nat → Int32} (hw : WF N) (h : repD μ D N) : μ (D + 5) 3 = nI (nv (N 3)) := h.2.2.2.1.1.trans hw.n3.1
theorem rD_line {μ : Mu} {D : Nat} {N : Nat → Int32} (hw : WF N) (h : repD μ D N) : μ (D + 7) 1 = nI (nv (N 4)) := h.2.2.2.2.1.1.trans hw.n4.1
theorem rD_tape {μ : Mu} {D : Nat} {N : Nat → Int32} (hw : WF N) (h : repD μ D N) : μ (D + 9) 1 = nI (nv (N 5)) := h.2.2.2.2.2.1.1.trans hw.n5.1
theorem rD_wait {μ : Mu} {D : Nat} {N : Nat → Int32} (hw : WF N) (h : repD μ D N) : μ (D + 11) 1 = nI (nv (N 6)) := h.2.2.2.2.2.2.1.1.trans hw.n6.1
theorem rD_row {μ : Mu} {D : Nat} {N : Nat → Int32} (h : repD μ D N) {r : Nat} (hr : r < 6) : RwI μ (D + 20 + 2 * r) (if r < nv (N 3) then N (83 + 9 * r) else 0) (fun i => N (84 + 9 * r + i)) := h.2.2.2.2.2.2.2.1 r hr
theorem rD_nob {μ : Mu} {D : Nat} {N : Nat → Int32} (h : repD μ D N) : μ (D + 14) 1 = nI 0 := h.2.2.2.2.2.2.2.2.1
abbrev mR (N : Nat → Int32) (r : Nat) : Nat := if r < nv (N 3) then nv (N (83 + 9 * r)) else 0
theorem mR_le {N : Nat → Int32} (hw : WF N) (r : Nat) : mR N r ≤ 5 := by
  unfold mR
  split
  · exact (hw.ro (by assumption)).2.2.2.1.2
  · omega
theorem WF.mb {N : Nat → Int32} (hw : WF N) {r : Nat} (h3 : r < nv (N 3)) : mny N r ≤ 5 := (hw.ro h3).2.2.2.1.2
theorem WF.wh {N : Nat → Int32} (hw : WF N) {r : Nat} (h3 : r < nv (N 3)) {i : Nat} (hi : i < mny N r) : N (84 + 9 * r + i) = nI (nv (N (84 + 9 * r + i))) ∧ nv (N (84 + 9 * r + i)) < nv (N 1) := (hw.ro h3).2.2.2.2 i hi
theorem WF.lb {N : Nat → Int32} (hw : WF N) {k : Nat} (hk : k < nv (N 4)) : lnA N k < nv (N 3) := (hw.li hk).2
theorem mR_t {N : Nat → Int32} {r : Nat} (h : r < nv (N 3)) : mR N r = mny N r := if_pos h
theorem rD_rsz {μ : Mu} {D : Nat} {N : Nat → Int32} (hw : WF N) (h : repD μ D N) {r : Nat} (hr : r < 6) : μ (D + 20 + 2 * r) 1 = nI (mR N r) := by
  rw [(rD_row h hr).1]
  unfold mR
  split
  · exact (hw.ro (by assumption)).2.2.2.1.1
  · rfl
theorem rD_rat {μ : Mu} {D : Nat} {N : Nat → Int32} (h : repD μ D N) {r i : Nat} (hr : r < 6) (hi : i < mR N r) : μ (D + 20 + 2 * r + 1) i = N (84 + 9 * r + i) := by
  refine (rD_row h hr).2 i ?_
  unfold mR at hi
  split
  · rw [if_pos (by assumption)] at hi; exact hi
  · rw [if_neg (by assumption)] at hi; exact absurd hi (Nat.not_lt_zero i)
theorem mR_On {N : Nat → Int32} {r i p : Nat} : On N r i p ↔ i < mR N r ∧ N (84 + 9 * r + i) = nI p := by
  unfold On mR
  constructor
  · rintro ⟨h1, h2, h3⟩; rw [if_pos h1]; exact ⟨h2, h3⟩
  · rintro ⟨h1, h2⟩
    by_cases c : r < nv (N 3)
    · rw [if_pos c] at h1; exact ⟨c, h1, h2⟩
    · rw [if_neg c] at h1; exact absurd h1 (Nat.not_lt_zero i)
theorem d_pg {G : Gl} {d : Nat} {S : Sh} {μ : Mu} {D : Nat} {N : Nat → Int32} {x y : Int32} {p c k : Nat} {K : Int32 → Sh → Mu → Prop} (hD : DS G S D) (hw : WF N) (hr : repD μ D N) (hx : x = nI p) (hp : p < nv (N 1)) (hy : y = nI c) (hc : c < 4) (he : 8 + 4 * p + c = k) (hK : K (N k) S μ) : X G mi_X3_get d 0 0 [(0, .ref (D + 1)), (1, .int x), (2, .int y)] [] S μ (qi K) :=
  c3_get hD.2.1 (rD_people hw hr) (by have := hw.n1.2; omega) (by decide) hx hp hy hc (by rw [show μ (D + 1 + 1) (4 * p + c) = N k from (hr.2.1.2 p c hp hc).trans (congrArg N he)]; exact hK)
theorem d_cg {G : Gl} {d : Nat} {S : Sh} {μ : Mu} {D : Nat} {N : Nat → Int32} {x y : Int32} {p c k : Nat} {K : Int32 → Sh → Mu → Prop} (hD : DS G S D) (hw : WF N) (hr : repD μ D N) (hx : x = nI p) (hp : p < nv (N 2)) (hy : y = nI c) (hc : c < 4) (he : 48 + 4 * p + c = k) (hK : K (N k) S μ) : X G mi_X3_get d 0 0 [(0, .ref (D + 3)), (1, .int x), (2, .int y)] [] S μ (qi K) :=
  c3_get hD.2.2.1 (rD_pieces hw hr) (by have := hw.n2.2; omega) (by decide) hx hp hy hc (by rw [show μ (D + 3 + 1) (4 * p + c) = N k from (hr.2.2.1.2 p c hp hc).trans (congrArg N he)]; exact hK)
theorem d_rg {G : Gl} {d : Nat} {S : Sh} {μ : Mu} {D : Nat} {N : Nat → Int32} {x y : Int32} {p c k : Nat} {K : Int32 → Sh → Mu → Prop} (hD : DS G S D) (hw : WF N) (hr : repD μ D N) (hx : x = nI p) (hp : p < nv (N 3)) (hy : y = nI c) (hc : c < 3) (he : 80 + 9 * p + c = k) (hK : K (N k) S μ) : X G mi_X3_get d 0 0 [(0, .ref (D + 5)), (1, .int x), (2, .int y)] [] S μ (qi K) :=
  c3_get hD.2.2.2.1 (rD_ropes hw hr) (by have := hw.n3.2; omega) (by decide) hx hp hy (by omega) (by rw [show μ (D + 5 + 1) (4 * p + c) = N k from (hr.2.2.2.1.2 p c hp hc).trans (congrArg N he)]; exact hK)
theorem d_rsz {G : Gl} {d : Nat} {S : Sh} {μ : Mu} {D : Nat} {N : Nat → Int32} {r : Nat} {K : Int32 → Sh → Mu → Prop} (hD : DS G S D) (hw : WF N) (hr : repD μ D N) (h3 : r < nv (N 3)) (hK : K (nI (mny N r)) S μ) : X G mi_X6_size d 0 0 [(0, .ref (D + 20 + 2 * r))] [] S μ (qi K) :=
  have h6 : r < 6 := by have := hw.n3.2; omega
  c6_size (hD.2.2.2.2.2.2.2.2.2.2.2 r h6) (rD_rsz hw hr h6) (mR_le hw r) (by decide) (by rw [mR_t h3]; exact hK)
theorem d_rat {G : Gl} {d : Nat} {S : Sh} {μ : Mu} {D : Nat} {N : Nat → Int32} {x : Int32} {r i k : Nat} {K : Int32 → Sh → Mu → Prop} (hD : DS G S D) (hw : WF N) (hr : repD μ D N) (h3 : r < nv (N 3)) (hx : x = nI i) (hi : i < mny N r) (he : 84 + 9 * r + i = k) (hK : K (N k) S μ) : X G mi_X6_at d 0 0 [(0, .ref (D + 20 + 2 * r)), (1, .int x)] [] S μ (qi K) :=
  have h6 : r < 6 := by have := hw.n3.2; omega
  have hm : mR N r = mny N r := mR_t h3
  have h5 := mR_le hw r
  c6_at (hD.2.2.2.2.2.2.2.2.2.2.2 r h6) (rD_rsz hw hr h6) h5 (by decide) (fun j hj ej => by
    have e : j = i := (nI_eq (by omega) (by omega)).mp (ej.symm.trans hx)
    subst e
    rw [rD_rat hr h6 hj, he]; exact hK) (fun h => absurd ⟨i, by omega, hx⟩ h)
theorem d_rpl {G : Gl} {d : Nat} {S : Sh} {μ : Mu} {D : Nat} {N : Nat → Int32} {x : Int32} {r p : Nat} {K : Int32 → Sh → Mu → Prop} (hD : DS G S D) (hw : WF N) (hr : repD μ D N) (h6 : r < 6) (hx : x = nI p) (kt : ∀ i, On N r i p → K (nI i) S μ) (kf : (∀ i, ¬ On N r i p) → K (-1) S μ) : X G mi_X6_placeOf d 0 0 [(0, .ref (D + 20 + 2 * r)), (1, .int x)] [] S μ (qi K) :=
  c6_placeOf (hD.2.2.2.2.2.2.2.2.2.2.2 r h6) (rD_rsz hw hr h6) (mR_le hw r) (by decide) (fun i hi e _ => kt i (mR_On.mpr ⟨hi, by rw [← rD_rat hr h6 hi, e, hx]⟩)) (fun h => kf (fun i hi => h i (mR_On.mp hi).1 (by rw [rD_rat hr h6 (mR_On.mp hi).1, (mR_On.mp hi).2, hx])))
theorem d_lsz {G : Gl} {d : Nat} {S : Sh} {μ : Mu} {D : Nat} {N : Nat → Int32} {K : Int32 → Sh → Mu → Prop} (hD : DS G S D) (hw : WF N) (hr : repD μ D N) (hK : K (nI (nv (N 4))) S μ) : X G mi_X6_size d 0 0 [(0, .ref (D + 7))] [] S μ (qi K) :=
  c6_size hD.2.2.2.2.1 (rD_line hw hr) hw.n4.2 (by decide) hK
theorem d_lat {G : Gl} {d : Nat} {S : Sh} {μ : Mu} {D : Nat} {N : Nat → Int32} {x : Int32} {i : Nat} {K : Int32 → Sh → Mu → Prop} (hD : DS G S D) (hw : WF N) (hr : repD μ D N) (hx : x = nI i) (hi : i < nv (N 4)) (hK : K (nI (lnA N i)) S μ) : X G mi_X6_at d 0 0 [(0, .ref (D + 7)), (1, .int x)] [] S μ (qi K) :=
  have h5 := hw.n4.2
  c6_at hD.2.2.2.2.1 (rD_line hw hr) h5 (by decide) (fun j hj ej => by
    have e : j = i := (nI_eq (by omega) (by omega)).mp (ej.symm.trans hx)
    subst e
    rw [show μ (D + 7 + 1) j = nI (lnA N j) from (hr.2.2.2.2.1.2 j hj).trans (hw.li hj).1]; exact hK) (fun h => absurd ⟨i, by omega, hx⟩ h)
theorem d_lpl {G : Gl} {d : Nat} {S : Sh} {μ : Mu} {D : Nat} {N : Nat → Int32} {x : Int32} {K : Int32 → Sh → Mu → Prop} (hD : DS G S D) (hw : WF N) (hr : repD μ D N) (kt : ∀ k, k < nv (N 4) → N (134 + k) = x → K (nI k) S μ) (kf : (∀ k, k < nv (N 4) → ¬ N (134 + k) = x) → K (-1) S μ) : X G mi_X6_placeOf d 0 0 [(0, .ref (D + 7)), (1, .int x)] [] S μ (qi K) :=
  c6_placeOf hD.2.2.2.2.1 (rD_line hw hr) hw.n4.2 (by decide) (fun i hi e _ => kt i hi (by rw [← e]; exact (hr.2.2.2.2.1.2 i hi).symm)) (fun h => kf (fun k hk e => h k hk (by rw [← e]; exact hr.2.2.2.2.1.2 k hk)))
theorem d_psz {G : Gl} {d : Nat} {S : Sh} {μ : Mu} {D : Nat} {N : Nat → Int32} {K : Int32 → Sh → Mu → Prop} (hD : DS G S D) (hw : WF N) (hr : repD μ D N) (hK : K (nI (nv (N 1))) S μ) : X G mi_X3_size d 0 0 [(0, .ref (D + 1))] [] S μ (qi K) :=
  c3_size hD.2.1 (rD_people hw hr) (by have := hw.n1.2; omega) (by decide) hK
theorem d_phas {G : Gl} {d : Nat} {S : Sh} {μ : Mu} {D : Nat} {N : Nat → Int32} {x : Int32} {K : Int32 → Sh → Mu → Prop} (hD : DS G S D) (hw : WF N) (hr : repD μ D N) (kt : ∀ j, j < nv (N 1) → x = nI j → K 1 S μ) (kf : ¬ In x (nv (N 1)) → K 0 S μ) : X G mi_X3_has d 0 0 [(0, .ref (D + 1)), (1, .int x)] [] S μ (qi K) :=
  c3_has hD.2.1 (rD_people hw hr) (by have := hw.n1.2; omega) (by decide) kt kf
theorem d_csz {G : Gl} {d : Nat} {S : Sh} {μ : Mu} {D : Nat} {N : Nat → Int32} {K : Int32 → Sh → Mu → Prop} (hD : DS G S D) (hw : WF N) (hr : repD μ D N) (hK : K (nI (nv (N 2))) S μ) : X G mi_X3_size d 0 0 [(0, .ref (D + 3))] [] S μ (qi K) :=
  c3_size hD.2.2.1 (rD_pieces hw hr) (by have := hw.n2.2; omega) (by decide) hK
theorem d_chas {G : Gl} {d : Nat} {S : Sh} {μ : Mu} {D : Nat} {N : Nat → Int32} {x : Int32} {K : Int32 → Sh → Mu → Prop} (hD : DS G S D) (hw : WF N) (hr : repD μ D N) (kt : ∀ j, j < nv (N 2) → x = nI j → K 1 S μ) (kf : ¬ In x (nv (N 2)) → K 0 S μ) : X G mi_X3_has d 0 0 [(0, .ref (D + 3)), (1, .int x)] [] S μ (qi K) :=
  c3_has hD.2.2.1 (rD_pieces hw hr) (by have := hw.n2.2; omega) (by decide) kt kf
theorem d_osz {G : Gl} {d : Nat} {S : Sh} {μ : Mu} {D : Nat} {N : Nat → Int32} {K : Int32 → Sh → Mu → Prop} (hD : DS G S D) (hw : WF N) (hr : repD μ D N) (hK : K (nI (nv (N 3))) S μ) : X G mi_X3_size d 0 0 [(0, .ref (D + 5))] [] S μ (qi K) :=
  c3_size hD.2.2.2.1 (rD_ropes hw hr) (by have := hw.n3.2; omega) (by decide) hK
theorem d_ohas {G : Gl} {d : Nat} {S : Sh} {μ : Mu} {D : Nat} {N : Nat → Int32} {x : Int32} {K : Int32 → Sh → Mu → Prop} (hD : DS G S D) (hw : WF N) (hr : repD μ D N) (kt : ∀ j, j < nv (N 3) → x = nI j → K 1 S μ) (kf : ¬ In x (nv (N 3)) → K 0 S μ) : X G mi_X3_has d 0 0 [(0, .ref (D + 5)), (1, .int x)] [] S μ (qi K) :=
  c3_has hD.2.2.2.1 (rD_ropes hw hr) (by have := hw.n3.2; omega) (by decide) kt kf
theorem d_rowOf {G : Gl} {d : Nat} {S : Sh} {μ : Mu} {D : Nat} {N : Nat → Int32} {x : Int32} {r : Nat} {K : Option Nat → Sh → Mu → Prop} (hD : DS G S D) (hw : WF N) (hr : repD μ D N) (hx : x = nI r) (h3 : r < nv (N 3)) (hK : K (some (D + 20 + 2 * r)) S μ) : X G mi_X2_rowOf d 0 0 [(0, .ref D), (1, .int x)] [] S μ (qr K) :=
  c2_rowOf hD hx (by have := hw.n3.2; omega) hK
set_option maxHeartbeats 1000000 in
theorem c2_rowOfN {G : Gl} {d : Nat} {S : Sh} {μ : Mu} {D : Nat} {K : Option Nat → Sh → Mu → Prop} (hD : DS G S D) (hK : K (some (D + 14)) S μ) : X G mi_X2_rowOf d 0 0 [(0, .ref D), (1, .int (-1))] [] S μ (qr K) := by
  refine X_iload_n (tk_X2_rowOf.at 0 rfl) rfl ?_
  refine X_if_lt (tgt := 22) (tk_X2_rowOf.at 1 rfl) (by decide) (fun _ => ?_) (fun h => absurd h (by decide))
  refine X_aload_n (tk_X2_rowOf.at 12 rfl) rfl ?_
  refine X_getR (tk_X2_rowOf.at 13 rfl) fl_x2_64 hD.1 rfl rfl ?_
  refine X_areturn (tk_X2_rowOf.at 14 rfl) rfl (Or.inl ⟨_, rfl⟩) ?_
  exact hK
set_option maxHeartbeats 1000000 in
theorem c2_isInLine {G : Gl} {d : Nat} {S : Sh} {μ : Mu} {D : Nat} {N : Nat → Int32} {x : Int32} {K : Int32 → Sh → Mu → Prop} (hD : DS G S D) (hw : WF N) (hr : repD μ D N) (kt : ∀ k, k < nv (N 4) → N (134 + k) = x → K 1 S μ) (kf : (∀ k, k < nv (N 4) → ¬ N (134 + k) = x) → K 0 S μ) : X G mi_X2_isInLine (d + 1) 0 0 [(0, .ref D), (1, .int x)] [] S μ (qi K) := by
  have b4 := hw.n4.2
  refine X_aload_n (tk_X2_isInLine.at 0 rfl) rfl ?_
  refine X_getR (tk_X2_isInLine.at 1 rfl) fl_x2_50 hD.1 rfl rfl ?_
  refine X_iload_n (tk_X2_isInLine.at 2 rfl) rfl ?_
  refine X_cV1i (lv2 := [(0, _), (1, _)]) (tk_X2_isInLine.at 3 rfl) mv_X6_placeOf lk_x2_91 np_X6_placeOf hD.2.2.2.2.1.1 (by decide) rfl (Nat.le_of_ble_eq_true rfl) (Nat.le_of_ble_eq_true rfl) rfl (d_lpl hD hw hr (fun i5 hi5 h5 => ?_) (fun h5 => ?_))
  · refine X_if_ltN (tgt := 15) (tk_X2_isInLine.at 4 rfl) (by decide) (pl i5 rfl) (by omega) ?_
    refine X_iconst (tk_X2_isInLine.at 5 rfl) ci_1 ?_
    refine X_goto (tgt := 16) (tk_X2_isInLine.at 6 rfl) (by decide) ?_
    refine X_ireturn (tk_X2_isInLine.at 8 rfl) rfl rfl ?_
    exact kt i5 hi5 h5
  · refine X_if_lt (tgt := 15) (tk_X2_isInLine.at 4 rfl) (by decide) (fun _ => ?_) (fun h => absurd h (by decide))
    refine X_iconst (tk_X2_isInLine.at 7 rfl) ci_0 ?_
    refine X_ireturn (tk_X2_isInLine.at 8 rfl) rfl rfl ?_
    exact kf h5
set_option maxHeartbeats 1000000 in
theorem c2_ropeOf {G : Gl} {d : Nat} {S : Sh} {μ : Mu} {D : Nat} {N : Nat → Int32} {x : Int32} {p : Nat} {K : Int32 → Sh → Mu → Prop} (hD : DS G S D) (hw : WF N) (hr : repD μ D N) (hx : x = nI p) (k1 : ∀ r i, On N r i p → K (nI r) S μ) (k2 : (∀ r i, ¬ On N r i p) → K (-1) S μ) : X G mi_X2_ropeOf (d + 1) 0 0 [(0, .ref D), (1, .int x)] [] S μ (qi K) := by
  have loop : ∀ (m r : Nat), r + m = 6 → (∀ r' i, On N r' i p → r ≤ r') → X G mi_X2_ropeOf (d + 1) 0 2 [(0, .ref D), (1, .int x), (2, .int (nI r))] [] S μ (qi K) := by
    intro m
    induction m with
    | zero =>
      intro r hm hlo
      refine X_iload_n (tk_X2_ropeOf.at 2 rfl) rfl ?_
      refine X_aload_n (tk_X2_ropeOf.at 3 rfl) rfl ?_
      refine X_getR (tk_X2_ropeOf.at 4 rfl) fl_x2_60 hD.1 rfl rfl ?_
      refine X_alenR (tk_X2_ropeOf.at 5 rfl) hD.2.2.2.2.2.2.2.1 ?_
      refine X_icmp_geN (tgt := 32) (tk_X2_ropeOf.at 6 rfl) (by decide) (pl r rfl) rfl (by omega) (by omega) (fun c1 => ?_) (fun c1 => (by exfalso; omega))
      refine X_iconst (tk_X2_ropeOf.at 18 rfl) ci_m1 ?_
      refine X_ireturn (tk_X2_ropeOf.at 19 rfl) rfl rfl ?_
      exact k2 (fun r' i h => by have := hlo r' i h; have := h.1; have := hw.n3.2; omega)
    | succ m ih =>
      intro r hm hlo
      refine X_iload_n (tk_X2_ropeOf.at 2 rfl) rfl ?_
      refine X_aload_n (tk_X2_ropeOf.at 3 rfl) rfl ?_
      refine X_getR (tk_X2_ropeOf.at 4 rfl) fl_x2_60 hD.1 rfl rfl ?_
      refine X_alenR (tk_X2_ropeOf.at 5 rfl) hD.2.2.2.2.2.2.2.1 ?_
      refine X_icmp_geN (tgt := 32) (tk_X2_ropeOf.at 6 rfl) (by decide) (pl r rfl) rfl (by omega) (by omega) (fun c1 => (by exfalso; omega)) (fun c1 => ?_)
      refine X_aload_n (tk_X2_ropeOf.at 7 rfl) rfl ?_
      refine X_getR (tk_X2_ropeOf.at 8 rfl) fl_x2_60 hD.1 rfl rfl ?_
      refine X_iload_n (tk_X2_ropeOf.at 9 rfl) rfl ?_
      refine X_aaldN (k := r) (tk_X2_ropeOf.at 10 rfl) hD.2.2.2.2.2.2.2.1 (pz (pl r rfl) (by omega)) (by omega) (by decide) rfl ?_
      refine X_iload_n (tk_X2_ropeOf.at 11 rfl) rfl ?_
      refine X_cV1i (lv2 := [(0, _), (1, _)]) (tk_X2_ropeOf.at 12 rfl) mv_X6_placeOf lk_x2_91 np_X6_placeOf (hD.2.2.2.2.2.2.2.2.2.2.2 r (by omega)).1 (by decide) rfl (Nat.le_of_ble_eq_true rfl) (Nat.le_of_ble_eq_true rfl) rfl (d_rpl (p := p) hD hw hr (by omega) hx (fun i18 h18 => ?_) (fun h18 => ?_))
      · have hb18 := h18.2.1; have h5 := (hw.ro h18.1).2.2.2.1.2
        refine X_if_ltN (tgt := 26) (tk_X2_ropeOf.at 13 rfl) (by decide) (pl i18 rfl) (by omega) ?_
        refine X_iload_n (tk_X2_ropeOf.at 14 rfl) rfl ?_
        refine X_ireturn (tk_X2_ropeOf.at 15 rfl) rfl rfl ?_
        exact k1 r i18 h18
      · refine X_if_lt (tgt := 26) (tk_X2_ropeOf.at 13 rfl) (by decide) (fun _ => ?_) (fun h => absurd h (by decide))
        refine X_iinc (lv' := [(0, _), (1, _), (2, _)]) (tk_X2_ropeOf.at 16 rfl) rfl ci_1 (by decide) rfl rfl ?_
        refine X_goto (tgt := 2) (tk_X2_ropeOf.at 17 rfl) (by decide) ?_
        rw [nI_1 r]
        exact ih (r + 1) (by omega) (fun r' i h => by
          have h1 := hlo r' i h
          by_cases e : r' = r
          · subst e; exact absurd h (h18 i)
          · omega)
  refine X_iconst (tk_X2_ropeOf.at 0 rfl) ci_0 ?_
  refine X_istore_n (lv' := [(0, _), (1, _), (2, _)]) (tk_X2_ropeOf.at 1 rfl) (by decide) rfl rfl ?_
  exact loop 6 0 rfl (fun r' i _ => Nat.zero_le _)
set_option maxHeartbeats 1000000 in
theorem c2_placeOf {G : Gl} {d : Nat} {S : Sh} {μ : Mu} {D : Nat} {N : Nat → Int32} {x : Int32} {p : Nat} {K : Int32 → Sh → Mu → Prop} (hD : DS G S D) (hw : WF N) (hr : repD μ D N) (hx : x = nI p) (k1 : ∀ r i, On N r i p → K (nI i) S μ) (k2 : (∀ r i, ¬ On N r i p) → K (-1) S μ) : X G mi_X2_placeOf (d + 2) 0 0 [(0, .ref D), (1, .int x)] [] S μ (qi K) := by
  have b3 := hw.n3.2
  refine X_aload_n (tk_X2_placeOf.at 0 rfl) rfl ?_
  refine X_aload_n (tk_X2_placeOf.at 1 rfl) rfl ?_
  refine X_iload_n (tk_X2_placeOf.at 2 rfl) rfl ?_
  refine X_cV1i (lv2 := [(0, _), (1, _)]) (tk_X2_placeOf.at 3 rfl) mv_X2_ropeOf lk_x2_95 np_X2_ropeOf hD.1 (by decide) rfl (Nat.le_of_ble_eq_true rfl) (Nat.le_of_ble_eq_true rfl) rfl (c2_ropeOf (p := p) hD hw hr hx (fun r3 i3 h3 => ?_) (fun h3 => ?_))
  · have hr3 := h3.1
    refine X_cV1r (lv2 := [(0, _), (1, _)]) (tk_X2_placeOf.at 4 rfl) mv_X2_rowOf lk_x2_87 np_X2_rowOf hD.1 (by decide) rfl (Nat.le_of_ble_eq_true rfl) (Nat.le_of_ble_eq_true rfl) rfl (d_rowOf (r := r3) hD hw hr (pz (pl r3 rfl) (by omega)) (by omega) ?_)
    refine X_iload_n (tk_X2_placeOf.at 5 rfl) rfl ?_
    refine X_cV1i (lv2 := [(0, _), (1, _)]) (tk_X2_placeOf.at 6 rfl) mv_X6_placeOf lk_x2_91 np_X6_placeOf (hD.2.2.2.2.2.2.2.2.2.2.2 r3 (by omega)).1 (by decide) rfl (Nat.le_of_ble_eq_true rfl) (Nat.le_of_ble_eq_true rfl) rfl (d_rpl hD hw hr (by omega) hx (fun i10 h10 => ?_) (fun h10 => absurd h3 (h10 i3)))
    refine X_ireturn (tk_X2_placeOf.at 7 rfl) rfl rfl ?_
    exact k1 r3 i10 h10
  · refine X_cV1r (lv2 := [(0, _), (1, _)]) (tk_X2_placeOf.at 4 rfl) mv_X2_rowOf lk_x2_87 np_X2_rowOf hD.1 (by decide) rfl (Nat.le_of_ble_eq_true rfl) (Nat.le_of_ble_eq_true rfl) rfl (c2_rowOfN hD ?_)
    refine X_iload_n (tk_X2_placeOf.at 5 rfl) rfl ?_
    refine X_cV1i (lv2 := [(0, _), (1, _)]) (tk_X2_placeOf.at 6 rfl) mv_X6_placeOf lk_x2_91 np_X6_placeOf hD.2.2.2.2.2.2.2.2.1.1 (by decide) rfl (Nat.le_of_ble_eq_true rfl) (Nat.le_of_ble_eq_true rfl) rfl (c6_placeOf hD.2.2.2.2.2.2.2.2.1 (rD_nob hr) (by decide) (by decide) (fun i hi => absurd hi (Nat.not_lt_zero i)) (fun _ => ?_))
    refine X_ireturn (tk_X2_placeOf.at 7 rfl) rfl rfl ?_
    exact k2 h3
