/-- all that isn't of class c stands where it stood -/
def Xt (c : Nat) (S S' : Sh) : Prop := ∀ a k, S.2 a = some k → (∀ r, k ≠ kO c r) → S'.2 a = some k
section
variable {c : Nat} {S S' : Sh} {G : Gl}
theorem kO_ne {a b : Nat} (h : a ≠ b) {r : Nat → Option Nat} : ∀ q, kO a r ≠ kO b q := fun q e => h (by injection e with e; injection e with e; exact congrArg Prod.fst e)
theorem kI_ne {n b : Nat} : ∀ q, kI n ≠ kO b q := fun q e => by injection e
theorem kC_ne {n b : Nat} : ∀ q, kC n ≠ kO b q := fun q e => by injection e
theorem kT_ne {n b : Nat} : ∀ q, kT n ≠ kO b q := fun q e => by injection e
theorem kB_ne {n b : Nat} : ∀ q, kB n ≠ kO b q := fun q e => by injection e
theorem kR_ne {i n b : Nat} {r : Nat → Option Nat} : ∀ q, kR i n r ≠ kO b q := fun q e => by injection e with e; injection e
theorem RS.x (f : Xt c S S') (hc : 6 ≠ c) {R len : Nat} (h : RS S R len) : RS S' R len := ⟨f _ _ h.1 (kO_ne hc), f _ _ h.2 kI_ne⟩
theorem HS.x (f : Xt c S S') (hc : 7 ≠ c) {R : Nat} (h : HS S R) : HS S' R := ⟨f _ _ h.1 (kO_ne hc), f _ _ h.2 kI_ne⟩
theorem FS.x (f : Xt c S S') (hc : 3 ≠ c) {F la ma len : Nat} (h : FS S F la ma len) : FS S' F la ma len := ⟨f _ _ h.1 (kO_ne hc), f _ _ h.2.1 kI_ne, f _ _ h.2.2.1 kC_ne, f _ _ h.2.2.2 kC_ne⟩
theorem ES.x (f : Xt c S S') (hc : 5 ≠ c) {E : Nat} (h : ES S E) : ES S' E := ⟨f _ _ h.1 (kO_ne hc), f _ _ h.2.1 kI_ne, f _ _ h.2.2 kI_ne⟩
theorem XS.x (f : Xt c S S') (hc : 3 < c) (h5 : 5 ≠ c) {C : Nat} (h : XS S C) : XS S' C := ⟨f _ _ h.1 (kO_ne (by omega)), h.2.1.x f h5, f _ _ h.2.2.1 kI_ne, f _ _ h.2.2.2 kI_ne⟩
theorem DS.x (f : Xt c S S') (hc : 3 < c) (h6 : 6 ≠ c) {D : Nat} (h : DS G S D) : DS G S' D := by
  obtain ⟨a0, a1, a2, a3, a4, a5, a6, a7, a8, a9, a10, a11⟩ := h
  exact ⟨f _ _ a0 (kO_ne (by omega)), a1.x f (by omega), a2.x f (by omega), a3.x f (by omega), a4.x f h6, a5.x f h6, a6.x f h6, f _ _ a7 kR_ne, a8.x f h6, a9.x f h6, a10.x f h6, fun i hi => (a11 i hi).x f h6⟩
theorem OS.x (f : Xt c S S') (hc : 3 < c) (h5 : 5 ≠ c) (h6 : 6 ≠ c) {H : Nat} (h : OS G S H) : OS G S' H := ⟨f _ _ h.1 (kO_ne (by omega)), h.2.1.x f h6, h.2.2.1.x f hc h6, h.2.2.2.x f hc h5⟩
theorem VS.x (f : Xt c S S') (h6 : 6 ≠ c) (h8 : 8 ≠ c) {V : Nat} (h : VS S V) : VS S' V := ⟨f _ _ h.1 (kO_ne h8), h.2.x f h6⟩
theorem MS.x (f : Xt c S S') (hc : 10 ≠ c) {o : Nat} {q : Nat → Nat} (h : MS S o q) : MS S' o q := by
  obtain ⟨a0, a1, a2, a3, a4, a5, a6, a7, a8, a9, a10, a11, a12, a13, a14, a15, a16, a17⟩ := h
  exact ⟨f _ _ a0 (kO_ne hc), f _ _ a1 kI_ne, f _ _ a2 kI_ne, f _ _ a3 kI_ne, f _ _ a4 kI_ne, f _ _ a5 kR_ne, f _ _ a6 kI_ne, f _ _ a7 kI_ne, f _ _ a8 kI_ne, f _ _ a9 kI_ne, f _ _ a10 kI_ne, f _ _ a11 kI_ne, f _ _ a12 kI_ne, f _ _ a13 kI_ne, f _ _ a14 kI_ne, f _ _ a15 kI_ne, f _ _ a16 kI_ne, f _ _ a17 kI_ne⟩
end
theorem Inv_su {G : Gl} {S : Sh} {P o t q im t' q' : Nat} {kp : Option Nat} {μ : Mu} (h : Inv G S P o kp t q im μ) : Inv G (Su S (P + 80) (kO 4 (rRq (P + 80) t' q'))) P o kp t' q' im μ := by
  have f : Xt 4 S (Su S (P + 80) (kO 4 (rRq (P + 80) t' q'))) := fun a k e hk => by
    by_cases c : a = P + 80
    · subst c
      exact absurd (Option.some.inj (e.symm.trans h.R.1)) (hk _)
    · rw [Su_ne c]; exact e
  refine ⟨⟨⟨f _ _ h.P0 (kO_ne (by decide)), h.D.x f (by decide) (by decide), h.C.x f (by decide) (by decide), h.H.x f (by decide) (by decide) (by decide), ⟨Su_at, h.R.2.x f (by decide)⟩, h.V.x f (by decide) (by decide), f _ _ h.sh kR_ne, f _ _ h.E kI_ne, fun i hi => (h.hs hi).x f (by decide)⟩, h.M.x f (by decide), h.lo, h.1.2.2.2.1, h.1.2.2.2.2.1, fun k hk => ⟨(h.1.2.2.2.2.2 k hk).1.x f (by decide) (by decide), (h.1.2.2.2.2.2 k hk).2⟩⟩, ⟨⟨fun j hj => ⟨f _ _ (h.st j hj).1 kC_ne, (h.st j hj).2⟩, fun v hv => ⟨f _ _ (h.tx v hv).1 kT_ne, f _ _ (h.tx v hv).2.1 kB_ne, (h.tx v hv).2.2⟩⟩, h.2.1.2⟩, h.2.2⟩
theorem okT_c {C C' : Nat → Int32} {n : Nat} (h : ∀ k, k < n → C' k = C k) (g : okT C n) : okT C' n := by
  have d : ∀ k, k ≤ n → dpt C' k = dpt C k := by
    intro k
    induction k with
    | zero => intro _; rfl
    | succ k ih => intro hk; rw [dpt, dpt, ih (by omega), h k (by omega)]
  refine ⟨fun k hk => ?_, fun hn => ?_⟩
  · rw [h k hk, d k (by omega)]; exact g.1 k hk
  · rw [d n (Nat.le_refl _)]; exact g.2 hn
set_option maxHeartbeats 1000000 in
theorem WF_txt {N M : Nat → Int32} (hw : WF N) {u c : Nat} {C : Nat → Int32} (hu : u < 2) (hc : c ≤ 50) (hC : okT C c) (out : ∀ a, a ≠ 5 → (a < 210 + 52 * u ∨ 262 + 52 * u ≤ a) → M a = N a) (e5 : M 5 = 0) (ec : M (210 + 52 * u) = nI c) (ek : ∀ k, k < c → M (211 + 52 * u + k) = C k) : WF M := by
  have k1 := hw.n1.2
  have k2 := hw.n2.2
  have k3 := hw.n3.2
  have k4 := hw.n4.2
  have k5 := hw.n5.2
  have k6 := hw.n6.2
  have on : ∀ {r i p : Nat}, On M r i p → On N r i p := by
    intro r i p g
    have h3 : r < nv (N 3) := by rw [← out 3 (by omega) (by omega)]; exact g.1
    have gm := (hw.ro h3).2.2.2.1.2
    have hi : i < nv (N (83 + 9 * r)) := by rw [← out (83 + 9 * r) (by omega) (by omega)]; exact g.2.1
    exact ⟨h3, hi, by rw [← out (84 + 9 * r + i) (by omega) (by omega)]; exact g.2.2⟩
  refine ⟨⟨?_, ?_, ?_, ?_, ?_, ?_, ?_⟩, ?_, ?_, ?_, ?_, ?_, ?_, ?_, ?_⟩
  · rw [out (0) (by omega) (by omega)]; exact hw.n0
  · rw [out (1) (by omega) (by omega)]; exact hw.n1
  · rw [out (2) (by omega) (by omega)]; exact hw.n2
  · rw [out (3) (by omega) (by omega)]; exact hw.n3
  · rw [out (4) (by omega) (by omega)]; exact hw.n4
  · rw [e5]; exact okN_of (n := 0) (by decide) (by decide)
  · rw [out (6) (by omega) (by omega)]; exact hw.n6
  · intro p hp
    rw [out (1) (by omega) (by omega)] at hp
    have g := hw.pe hp
    unfold WFp at g ⊢
    rw [out (8 + 4 * p) (by omega) (by omega), out (9 + 4 * p) (by omega) (by omega), out (10 + 4 * p) (by omega) (by omega), out (11 + 4 * p) (by omega) (by omega)]
    exact g
  · intro p hp
    rw [out (2) (by omega) (by omega)] at hp
    have g := hw.pc hp
    unfold WFc at g ⊢
    rw [out (48 + 4 * p) (by omega) (by omega), out (49 + 4 * p) (by omega) (by omega), out (50 + 4 * p) (by omega) (by omega), out (51 + 4 * p) (by omega) (by omega)]
    exact g
  · intro r hr
    rw [out (3) (by omega) (by omega)] at hr
    have g := hw.ro hr
    have gm := g.2.2.2.1.2
    unfold WFr at g ⊢
    rw [out (80 + 9 * r) (by omega) (by omega), out (81 + 9 * r) (by omega) (by omega), out (82 + 9 * r) (by omega) (by omega), out (83 + 9 * r) (by omega) (by omega), out (1) (by omega) (by omega)]
    refine ⟨g.1, g.2.1, g.2.2.1, g.2.2.2.1, fun i hi => ?_⟩
    rw [out (84 + 9 * r + i) (by omega) (by omega)]; exact g.2.2.2.2 i hi
  · intro r i r' i' p g g'
    refine hw.un (on g) (on g')
  · intro k hk
    rw [out (4) (by omega) (by omega)] at hk
    rw [out (134 + k) (by omega) (by omega), out (3) (by omega) (by omega)]; exact hw.li hk
  · intro k k' hk hk' e
    rw [out (4) (by omega) (by omega)] at hk hk'
    rw [out (134 + k) (by omega) (by omega), out (134 + k') (by omega) (by omega)] at e; exact hw.lu hk hk' e
  · intro k hk
    rw [e5] at hk
    exact absurd hk (Nat.not_lt_zero k)
  · intro v hv
    by_cases e : v = u
    · subst e
      rw [ec, nv_nI (by omega)]
      exact ⟨okN_of hc (by decide), okT_c ek hC⟩
    · have g := hw.tx hv
      have b := g.1.2
      rw [out (210 + 52 * v) (by omega) (by omega)]
      refine ⟨g.1, okT_c (fun k hk => ?_) g.2⟩
      exact out (211 + 52 * v + k) (by omega) (by omega)
theorem Sq_PM {o : Nat} {ν ξ : Mu} (h : Sq o ν ξ) (s : Ps) : Sq o ν (PM ξ o 0 s) := by
  have e : ∀ k, k ≠ 7 → k ≠ 8 → k ≠ 10 → k ≠ 12 → PM ξ o 0 s o k = ξ o k := fun k h1 h2 h3 h4 => by
    rw [PM, Mx_same]; unfold pmf; rw [if_neg h1, if_neg h2, if_neg h3, if_neg h4]
  refine ⟨fun a ha => ?_, ?_, ?_, ?_⟩
  · rw [PM, Mx_ne (by omega), Mx_ne (by omega)]; exact h.1 a ha
  · rw [e 3 (by decide) (by decide) (by decide) (by decide)]; exact h.2.1
  · rw [e 5 (by decide) (by decide) (by decide) (by decide)]; exact h.2.2.1
  · rw [e 22 (by decide) (by decide) (by decide) (by decide)]; exact h.2.2.2
theorem PM_1 {o : Nat} {ξ : Mu} {s : Ps} : PM ξ o 0 s (o + 1) = ξ (o + 1) := by rw [PM, Mx_ne (by omega), Mx_ne (by omega)]
theorem c4_readN {G : Gl} {d : Nat} {S : Sh} {μ : Mu} {R t n u t0 q0 : Nat} {T C0 : Nat → Int32} {s : Ps} {K : Int32 → Sh → Mu → Prop} (es : pF T n (nmU u) 1013 0 0 0 (0, false, 0, C0) = s) (hR : RdS S R t0 q0) (hT : TxB G S μ) (hlo : ∀ v, v < 2 → G.2.2.2 (11 + v) < R ∧ G.2.2.2 (11 + v + 20) < R) (hu : u < 2) (ht : RS S t 50) (htn : μ t 1 = nI n) (hn : n ≤ 50) (htc : ∀ i, i < n → μ (t + 1) i = T i) (hTb : ∀ i, i < n → okN (T i) 255) (hdis : t + 2 ≤ R ∨ R + 3 ≤ t) (k1 : (s.2.1 = true ∨ s.1 < n) → ∀ w c C, K (nI s.1) (Su S R (kO 4 (rRq R t (G.2.2.2 (11 + u))))) (RM μ R s.1 w c C)) (k2 : s.2.1 = false → n ≤ s.1 → ∀ C, (∀ i, i < s.2.2.1 → C i = tr (s.2.2.2 i)) → s.2.2.1 ≤ 50 → K (-1) (Su S R (kO 4 (rRq R t (G.2.2.2 (11 + u))))) (RM μ R s.1 false s.2.2.1 C)) : X G mi_X4_read (d + 56) 0 0 [(0, .ref R), (1, .ref t), (2, .ref (G.2.2.2 (11 + u)))] [] S μ (qi K) := by
  subst es
  exact c4_read hR hT hlo hu ht htn hn htc hTb hdis k1 k2
theorem p10_text {G : Gl} {d : Nat} {S : Sh} {μ : Mu} {o : Nat} {q : Nat → Nat} {fm : Nat} {x : Int32} {K : Int32 → Sh → Mu → Prop} {N C6 : Nat → Int32} (hM : MS S o q) (hN : μ (o + 1) = N) (h6 : μ (o + 6) = C6) (hw : WF (N)) (hF : Fmt G fm) (hT : Txt G S μ q) (k1 : ¬ (0 ≤ x ∧ x ≤ 1) → K (-1000000001) S (er μ o 1)) (k2 : ∀ u, u < 2 → x = nI u → ((rdr (N) u (C6)).2.1 = true ∨ (rdr (N) u (C6)).1 < nv (N 5)) → K (-10 - nI (rdr (N) u (C6)).1) S (PM (su (su μ o 9 (nI u)) (o + 1) 5 0) o 0 (bad (rdr (N) u (C6))))) (k3 : ∀ u, u < 2 → x = nI u → (rdr (N) u (C6)).2.1 = false → nv (N 5) ≤ (rdr (N) u (C6)).1 → K 1 S (PM (Mx (su μ o 9 (nI u)) (o + 1) (txN (N) u (rdr (N) u (C6)).2.2.1 (rdr (N) u (C6)).2.2.1 (rdr (N) u (C6)).2.2.2)) o 0 (rdr (N) u (C6)))) : X G mi_X10_text (d + 44) 0 0 [(0, .ref o), (1, .int x)] [] S μ (qi K) := by
  subst hN h6
  exact c10_text hM hw hF hT k1 k2 k3
theorem sq9 (o : Nat) (ν : Mu) (x : Int32) : Sq o ν (su ν o 9 x) := by
  refine ⟨fun a h => su_ne (by omega), ?_, ?_, ?_⟩ <;> rw [su_same, upd_ne _ _ (by decide)]
set_option maxHeartbeats 1000000 in
theorem t_text {G : Gl} {d : Nat} {S : Sh} {μ : Mu} {P o t q im : Nat} {kp : Option Nat} {x : Int32} {fm : Nat} (hF : Fmt G fm) (hI : Inv G S P o kp t q im μ) : X G mi_X9_text (d + 60) 0 0 [(0, .ref P), (1, .int x)] [] S μ (qi (fun an S1 μ1 => X G mi_X10_text (d + 60) 0 0 [(0, .ref o), (1, .int x)] [] S1 μ1 (qi (Eq2 G P o im an)))) := by
  obtain ⟨N, hN⟩ : ∃ N, μ (o + 1) = N := ⟨_, rfl⟩
  have hw : WF N := hN ▸ hI.wf
  have hr : repD μ (P + 1) N := hN ▸ hI.rep
  have lo := hI.lo
  have b1 := hw.n1.2
  have b2 := hw.n2.2
  have b3 := hw.n3.2
  have b4 := hw.n4.2
  have b5 := hw.n5.2
  have b6 := hw.n6.2
  have hun : ∀ r i r' i' p, On N r i p → On N r' i' p → r = r' ∧ i = i' := fun _ _ _ _ _ h1 h2 => hw.un h1 h2
  have hlu : ∀ k k', k < nv (N 4) → k' < nv (N 4) → N (134 + k) = N (134 + k') → k = k' := fun _ _ h1 h2 e => hw.lu h1 h2 e
  have hnz : nI 0 = 0 := rfl
  have hli : ∀ k, k < nv (N 4) → N (134 + k) = nI (nv (N (134 + k))) ∧ nv (N (134 + k)) < nv (N 3) := fun k h => hw.li h
  obtain ⟨C6, hC6⟩ : ∃ C, μ (o + 6) = C := ⟨_, rfl⟩
  refine X_iload_n (tk_X9_text.at 0 rfl) rfl ?_
  refine X_cS1i (lv2 := [(0, _)]) (tk_X9_text.at 1 rfl) ms_X9_isUse lk_x9_200 np_X9_isUse (Nat.le_of_ble_eq_true rfl) (Nat.le_of_ble_eq_true rfl) rfl (c9_isUse (fun u hu hx => ?_) (fun hno => ?_))
  · rcases (show u = 0 ∨ u = 1 by omega) with rfl | rfl
    · obtain rfl : x = 0 := hx
      generalize es : rdr N 0 C6 = s
      have hs1 : s.1 ≤ nv (N 5) := by rw [← es]; unfold rdr; exact (pF_g _ _ _ _ _ (Nat.zero_le _) (by decide)).2.1
      refine X_if_ne (tgt := 14) (tk_X9_text.at 2 rfl) (by decide) (fun _ => ?_) (fun h => absurd h (by decide))
      refine X_aload_n (tk_X9_text.at 7 rfl) rfl ?_
      refine X_getR (tk_X9_text.at 8 rfl) fl_x9_33 hI.P0 rfl rfl ?_
      refine X_aload_n (tk_X9_text.at 9 rfl) rfl ?_
      refine X_getR (tk_X9_text.at 10 rfl) fl_x9_12 hI.P0 rfl rfl ?_
      refine X_getR (tk_X9_text.at 11 rfl) fl_x9_197 hI.D.1 rfl rfl ?_
      refine X_iload_n (tk_X9_text.at 12 rfl) rfl ?_
      refine X_if_ne (tgt := 34) (tk_X9_text.at 13 rfl) (by decide) (fun h => absurd h (by decide)) (fun _ => ?_)
      refine X_ldcS (tk_X9_text.at 14 rfl) (fun g => g.2.2.2.2.2.2.1) ?_
      refine X_goto (tgt := 36) (tk_X9_text.at 15 rfl) (by decide) ?_
      refine X_cV2i (lv2 := [(0, _), (1, _), (2, _)]) (tk_X9_text.at 17 rfl) mv_X4_read lk_x9_207 np_X4_read hI.R.1 (by decide) rfl (Nat.le_of_ble_eq_true rfl) (Nat.le_of_ble_eq_true rfl) rfl (c4_readN (u := 0) (n := nv (N 5)) (T := fun k => N (140 + k)) (C0 := C6) (s := s) (by rw [← es]; unfold rdr; exact Eq.refl _) hI.R hI.tx (fun v hv => by have := hI.1.2.2.2.2.1 v hv; omega) (by decide) hI.D.2.2.2.2.2.1 (rD_tape hw hr) b5 (fun i hi => hr.2.2.2.2.2.1.2 i hi) (fun i hi => hw.ta hi) (Or.inl (by omega)) (fun hbad w c C => ?_) (fun hok hle C hC hc50 => ?_))
      · replace hI := Inv_su (t' := P + 1 + 9) (q' := G.2.2.2 (11 + 0)) hI
        generalize eν : (RM μ (P + 80) s.1 w c C) = ν
        have fν : ∀ a, (a < P + 80 ∨ P + 83 ≤ a) → ν a = μ a := fun a h => by rw [← eν]; exact RM_out h
        refine X_istore_n (lv' := [(0, _), (1, _), (2, _)]) (tk_X9_text.at 18 rfl) (by decide) rfl rfl ?_
        refine X_aload_n (tk_X9_text.at 19 rfl) rfl ?_
        refine X_getR (tk_X9_text.at 20 rfl) fl_x9_12 hI.P0 rfl rfl ?_
        refine X_getR (tk_X9_text.at 21 rfl) fl_x9_197 hI.D.1 rfl rfl ?_
        refine X_cV0v (lv2 := [(0, _)]) (tk_X9_text.at 22 rfl) mv_X6_empty lk_x9_211 np_X6_empty hI.D.2.2.2.2.2.1.1 (by decide) rfl (Nat.le_of_ble_eq_true rfl) (Nat.le_of_ble_eq_true rfl) rfl (c6_empty (n := 0) hI.D.2.2.2.2.2.1 ?_)
        generalize eζ : su ν (P + 1 + 9) 1 0 = ζ
        have fζ : ∀ a, a ≠ P + 1 + 9 → (a < P + 80 ∨ P + 83 ≤ a) → ζ a = μ a := fun a h1 h2 => by rw [← eζ, su_ne h1]; exact fν a h2
        have r0 : repD ν (P + 1) N := repD_of hr (fun a h1 h2 => fν a (by omega))
        have rζ : repD ζ (P + 1) (upd N 5 0) := repD_tape hw r0 (fun a h1 h2 => by rw [← eζ]; exact su_ne h1) (fun a h1 h2 => upd_ne _ _ h1) ⟨by rw [← eζ, su_same, upd_at, upd_at], fun i hi => absurd hi (by rw [upd_at]; exact Nat.not_lt_zero i)⟩
        have w5 : WF (upd N 5 0) := WF_tap hw (fun a h1 h2 => upd_ne _ _ h1) (by rw [upd_at]; exact okN_of (n := 0) (by decide) (by decide)) (fun k hk => absurd hk (by rw [upd_at]; exact Nat.not_lt_zero k))
        refine X_iload_n (tk_X9_text.at 23 rfl) rfl ?_
        refine X_if_ltN (tgt := 59) (tk_X9_text.at 24 rfl) (by decide) (pl s.1 rfl) (by omega) ?_
        refine X_bipush (tk_X9_text.at 25 rfl) cb_m10 ?_
        refine X_iload_n (tk_X9_text.at 26 rfl) rfl ?_
        refine X_isub (tk_X9_text.at 27 rfl) ?_
        refine X_ireturn (tk_X9_text.at 28 rfl) rfl rfl ?_
        have fr : ∀ a, a < P + 1 ∨ P + 85 ≤ a → ζ a = μ a := fun a h => fζ a (by omega) (by omega)
        refine p10_text (N := N) (C6 := C6) hI.M (by rw [fr _ (by omega)]; exact hN) (by rw [fr _ (by omega)]; exact hC6) hw hF (TxB.txt (fun v hv => ⟨(hI.tx v hv).1, (hI.tx v hv).2.1, fun i hi => by have := hI.1.2.2.2.2.1 v hv; rw [fr _ (by omega)]; exact (hI.tx v hv).2.2 i hi⟩) (fun u hu => rfl)) (fun g => absurd (by decide) g) (fun v hv hx hb => ?_) (fun v hv hx h1 h2 => ?_)
        · have q1 : v = 0 := ((nI_eq (a := 0) (b := v) (by decide) (by omega)).mp hx).symm
          subst q1
          rw [es]
          refine ⟨rfl, fin_n hI ⟨fr, by rw [fζ _ (by omega) (by omega)]; exact hI.nb⟩ (Sq_PM (by rw [su_eq]; exact Sq.mx (sq9 _ _ _) _ (by omega)) _) ?_ ?_⟩
          · rw [PM_1, su_same, su_ne (by omega), fr _ (by omega), hN]; exact repD_of rζ (fun a h1 h2 => by rw [PM, Mx_ne (by omega), Mx_ne (by omega), su_ne (by omega), su_ne (by omega)])
          · rw [PM_1, su_same, su_ne (by omega), fr _ (by omega), hN]; exact w5
        · have q1 : v = 0 := ((nI_eq (a := 0) (b := v) (by decide) (by omega)).mp hx).symm
          subst q1
          rw [es] at h1 h2
          exfalso
          rcases hbad with hb | hb
          · rw [h1] at hb; exact absurd hb (by decide)
          · omega
      · replace hI := Inv_su (t' := P + 1 + 9) (q' := G.2.2.2 (11 + 0)) hI
        generalize eν : (RM μ (P + 80) s.1 false s.2.2.1 C) = ν
        have fν : ∀ a, (a < P + 80 ∨ P + 83 ≤ a) → ν a = μ a := fun a h => by rw [← eν]; exact RM_out h
        have sν : ν (P + 80 + 1) 1 = nI s.2.2.1 := by rw [← eν]; exact RMs
        have cν : ν (P + 80 + 1 + 1) = C := by rw [← eν]; exact RMc
        refine X_istore_n (lv' := [(0, _), (1, _), (2, _)]) (tk_X9_text.at 18 rfl) (by decide) rfl rfl ?_
        refine X_aload_n (tk_X9_text.at 19 rfl) rfl ?_
        refine X_getR (tk_X9_text.at 20 rfl) fl_x9_12 hI.P0 rfl rfl ?_
        refine X_getR (tk_X9_text.at 21 rfl) fl_x9_197 hI.D.1 rfl rfl ?_
        refine X_cV0v (lv2 := [(0, _)]) (tk_X9_text.at 22 rfl) mv_X6_empty lk_x9_211 np_X6_empty hI.D.2.2.2.2.2.1.1 (by decide) rfl (Nat.le_of_ble_eq_true rfl) (Nat.le_of_ble_eq_true rfl) rfl (c6_empty (n := 0) hI.D.2.2.2.2.2.1 ?_)
        generalize eζ : su ν (P + 1 + 9) 1 0 = ζ
        have fζ : ∀ a, a ≠ P + 1 + 9 → (a < P + 80 ∨ P + 83 ≤ a) → ζ a = μ a := fun a h1 h2 => by rw [← eζ, su_ne h1]; exact fν a h2
        have r0 : repD ν (P + 1) N := repD_of hr (fun a h1 h2 => fν a (by omega))
        have rζ : repD ζ (P + 1) (upd N 5 0) := repD_tape hw r0 (fun a h1 h2 => by rw [← eζ]; exact su_ne h1) (fun a h1 h2 => upd_ne _ _ h1) ⟨by rw [← eζ, su_same, upd_at, upd_at], fun i hi => absurd hi (by rw [upd_at]; exact Nat.not_lt_zero i)⟩
        have w5 : WF (upd N 5 0) := WF_tap hw (fun a h1 h2 => upd_ne _ _ h1) (by rw [upd_at]; exact okN_of (n := 0) (by decide) (by decide)) (fun k hk => absurd hk (by rw [upd_at]; exact Nat.not_lt_zero k))
        refine X_iload_n (tk_X9_text.at 23 rfl) rfl ?_
        refine X_if_lt (tgt := 59) (tk_X9_text.at 24 rfl) (by decide) (fun _ => ?_) (fun h => absurd h (by decide))
        refine X_aload_n (tk_X9_text.at 29 rfl) rfl ?_
        refine X_getR (tk_X9_text.at 30 rfl) fl_x9_12 hI.P0 rfl rfl ?_
        refine X_iload_n (tk_X9_text.at 31 rfl) rfl ?_
        refine X_cV1r (lv2 := [(0, _), (1, _)]) (tk_X9_text.at 32 rfl) mv_X2_textOf lk_x9_190 np_X2_textOf hI.D.1 (by decide) rfl (Nat.le_of_ble_eq_true rfl) (Nat.le_of_ble_eq_true rfl) rfl (c2_textOf (u := 0) hI.D rfl (by decide) ?_)
        refine X_aload_n (tk_X9_text.at 33 rfl) rfl ?_
        refine X_getR (tk_X9_text.at 34 rfl) fl_x9_33 hI.P0 rfl rfl ?_
        refine X_getR (tk_X9_text.at 35 rfl) fl_x9_214 hI.R.1 rfl rfl ?_
        refine X_cV1v (lv2 := [(0, _), (1, _)]) (tk_X9_text.at 36 rfl) mv_X6_copyFrom lk_x9_217 np_X6_copyFrom hI.D.2.2.2.2.2.2.2.2.2.1.1 (by decide) rfl (Nat.le_of_ble_eq_true rfl) (Nat.le_of_ble_eq_true rfl) rfl (d_cp6 (R := P + 1 + 16) (Q := P + 80 + 1) (m := s.2.2.1) hI.D.2.2.2.2.2.2.2.2.2.1 hI.R.2 (by rw [← eζ, su_ne (by omega)]; exact sν) hc50 hc50 (by decide) (by omega) (fun θ cc => ?_))
        refine X_iconst (tk_X9_text.at 37 rfl) ci_1 ?_
        refine X_ireturn (tk_X9_text.at 38 rfl) rfl rfl ?_
        have fθ : ∀ a, (a < P + 1 ∨ P + 83 ≤ a) → θ a = μ a := fun a h => by rw [cc.1 a (by omega) (by omega)]; exact fζ a (by omega) (by omega)
        have fr : ∀ a, a < P + 1 ∨ P + 85 ≤ a → θ a = μ a := fun a h => fθ a (by omega)
        refine p10_text (N := N) (C6 := C6) hI.M (by rw [fr _ (by omega)]; exact hN) (by rw [fr _ (by omega)]; exact hC6) hw hF (TxB.txt (fun v hv => ⟨(hI.tx v hv).1, (hI.tx v hv).2.1, fun i hi => by have := hI.1.2.2.2.2.1 v hv; rw [fr _ (by omega)]; exact (hI.tx v hv).2.2 i hi⟩) (fun u hu => rfl)) (fun g => absurd (by decide) g) (fun v hv hx hb => ?_) (fun v hv hx h1 h2 => ?_)
        · have q1 : v = 0 := ((nI_eq (a := 0) (b := v) (by decide) (by omega)).mp hx).symm
          subst q1
          rw [es] at hb
          exfalso
          rcases hb with hb | hb
          · rw [hok] at hb; exact absurd hb (by decide)
          · omega
        · have q1 : v = 0 := ((nI_eq (a := 0) (b := v) (by decide) (by omega)).mp hx).symm
          subst q1
          have okt : okT s.2.2.2 s.2.2.1 := by have z := rdr_ok hw (u := 0) (C := C6) h1; rw [es] at z; exact z
          rw [es]
          have T5 : txN N 0 s.2.2.1 s.2.2.1 s.2.2.2 5 = 0 := if_pos rfl
          have Tn : txN N 0 s.2.2.1 s.2.2.1 s.2.2.2 210 = nI s.2.2.1 := by unfold txN; rw [if_neg (by decide), if_pos rfl]
          have Tk : ∀ k, k < s.2.2.1 → txN N 0 s.2.2.1 s.2.2.1 s.2.2.2 (211 + k) = s.2.2.2 k := fun k hk => by unfold txN; rw [if_neg (by omega), if_neg (by omega), if_pos (by omega)]; exact congrArg _ (by omega)
          have To : ∀ a, a ≠ 5 → (a < 210 ∨ 261 ≤ a) → txN N 0 s.2.2.1 s.2.2.1 s.2.2.2 a = N a := fun a h1 h2 => by unfold txN; rw [if_neg h1, if_neg (by omega), if_neg (by omega)]
          have rθ : repD θ (P + 1) (txN N 0 s.2.2.1 s.2.2.1 s.2.2.2) := repD_txt0 w5 rζ (fun a h1 h2 => cc.1 a h1 h2) (fun a h1 h2 => by by_cases e : a = 5; subst e; rw [T5, upd_at]; rw [upd_ne _ _ e]; exact To a e (by omega)) ⟨by rw [Tn]; exact cc.2.1, fun i hi => by rw [Tn, nv_nI (by omega)] at hi; show θ (P + 1 + 16 + 1) i = tr (txN N 0 s.2.2.1 s.2.2.1 s.2.2.2 (211 + i)); rw [Tk i hi, cc.2.2 i hi, ← eζ, su_ne (by omega), cν]; exact hC i hi⟩
          have wθ : WF (txN N 0 s.2.2.1 s.2.2.1 s.2.2.2) := WF_txt hw (u := 0) (by decide) hc50 okt (fun a h1 h2 => To a h1 (by omega)) T5 Tn Tk
          refine ⟨rfl, fin_n hI ⟨fr, by rw [cc.1 _ (by omega) (by omega), fζ _ (by omega) (by omega)]; exact hI.nb⟩ (Sq_PM (Sq.mx (sq9 _ _ _) _ (by omega)) _) ?_ ?_⟩
          · rw [PM_1, Mx_same]; exact repD_of rθ (fun a h1 h2 => by rw [PM, Mx_ne (by omega), Mx_ne (by omega), Mx_ne (by omega), su_ne (by omega)])
          · rw [PM_1, Mx_same]; exact wθ
    · obtain rfl : x = 1 := hx
      generalize es : rdr N 1 C6 = s
      have hs1 : s.1 ≤ nv (N 5) := by rw [← es]; unfold rdr; exact (pF_g _ _ _ _ _ (Nat.zero_le _) (by decide)).2.1
      refine X_if_ne (tgt := 14) (tk_X9_text.at 2 rfl) (by decide) (fun _ => ?_) (fun h => absurd h (by decide))
      refine X_aload_n (tk_X9_text.at 7 rfl) rfl ?_
      refine X_getR (tk_X9_text.at 8 rfl) fl_x9_33 hI.P0 rfl rfl ?_
      refine X_aload_n (tk_X9_text.at 9 rfl) rfl ?_
      refine X_getR (tk_X9_text.at 10 rfl) fl_x9_12 hI.P0 rfl rfl ?_
      refine X_getR (tk_X9_text.at 11 rfl) fl_x9_197 hI.D.1 rfl rfl ?_
      refine X_iload_n (tk_X9_text.at 12 rfl) rfl ?_
      refine X_if_ne (tgt := 34) (tk_X9_text.at 13 rfl) (by decide) (fun _ => ?_) (fun h => absurd h (by decide))
      refine X_ldcS (tk_X9_text.at 16 rfl) (fun g => g.2.2.2.2.2.2.2.1) ?_
      refine X_cV2i (lv2 := [(0, _), (1, _), (2, _)]) (tk_X9_text.at 17 rfl) mv_X4_read lk_x9_207 np_X4_read hI.R.1 (by decide) rfl (Nat.le_of_ble_eq_true rfl) (Nat.le_of_ble_eq_true rfl) rfl (c4_readN (u := 1) (n := nv (N 5)) (T := fun k => N (140 + k)) (C0 := C6) (s := s) (by rw [← es]; unfold rdr; exact Eq.refl _) hI.R hI.tx (fun v hv => by have := hI.1.2.2.2.2.1 v hv; omega) (by decide) hI.D.2.2.2.2.2.1 (rD_tape hw hr) b5 (fun i hi => hr.2.2.2.2.2.1.2 i hi) (fun i hi => hw.ta hi) (Or.inl (by omega)) (fun hbad w c C => ?_) (fun hok hle C hC hc50 => ?_))
      · replace hI := Inv_su (t' := P + 1 + 9) (q' := G.2.2.2 (11 + 1)) hI
        generalize eν : (RM μ (P + 80) s.1 w c C) = ν
        have fν : ∀ a, (a < P + 80 ∨ P + 83 ≤ a) → ν a = μ a := fun a h => by rw [← eν]; exact RM_out h
        refine X_istore_n (lv' := [(0, _), (1, _), (2, _)]) (tk_X9_text.at 18 rfl) (by decide) rfl rfl ?_
        refine X_aload_n (tk_X9_text.at 19 rfl) rfl ?_
        refine X_getR (tk_X9_text.at 20 rfl) fl_x9_12 hI.P0 rfl rfl ?_
        refine X_getR (tk_X9_text.at 21 rfl) fl_x9_197 hI.D.1 rfl rfl ?_
        refine X_cV0v (lv2 := [(0, _)]) (tk_X9_text.at 22 rfl) mv_X6_empty lk_x9_211 np_X6_empty hI.D.2.2.2.2.2.1.1 (by decide) rfl (Nat.le_of_ble_eq_true rfl) (Nat.le_of_ble_eq_true rfl) rfl (c6_empty (n := 0) hI.D.2.2.2.2.2.1 ?_)
        generalize eζ : su ν (P + 1 + 9) 1 0 = ζ
        have fζ : ∀ a, a ≠ P + 1 + 9 → (a < P + 80 ∨ P + 83 ≤ a) → ζ a = μ a := fun a h1 h2 => by rw [← eζ, su_ne h1]; exact fν a h2
        have r0 : repD ν (P + 1) N := repD_of hr (fun a h1 h2 => fν a (by omega))
        have rζ : repD ζ (P + 1) (upd N 5 0) := repD_tape hw r0 (fun a h1 h2 => by rw [← eζ]; exact su_ne h1) (fun a h1 h2 => upd_ne _ _ h1) ⟨by rw [← eζ, su_same, upd_at, upd_at], fun i hi => absurd hi (by rw [upd_at]; exact Nat.not_lt_zero i)⟩
        have w5 : WF (upd N 5 0) := WF_tap hw (fun a h1 h2 => upd_ne _ _ h1) (by rw [upd_at]; exact okN_of (n := 0) (by decide) (by decide)) (fun k hk => absurd hk (by rw [upd_at]; exact Nat.not_lt_zero k))
        refine X_iload_n (tk_X9_text.at 23 rfl) rfl ?_
        refine X_if_ltN (tgt := 59) (tk_X9_text.at 24 rfl) (by decide) (pl s.1 rfl) (by omega) ?_
        refine X_bipush (tk_X9_text.at 25 rfl) cb_m10 ?_
        refine X_iload_n (tk_X9_text.at 26 rfl) rfl ?_
        refine X_isub (tk_X9_text.at 27 rfl) ?_
        refine X_ireturn (tk_X9_text.at 28 rfl) rfl rfl ?_
        have fr : ∀ a, a < P + 1 ∨ P + 85 ≤ a → ζ a = μ a := fun a h => fζ a (by omega) (by omega)
        refine p10_text (N := N) (C6 := C6) hI.M (by rw [fr _ (by omega)]; exact hN) (by rw [fr _ (by omega)]; exact hC6) hw hF (TxB.txt (fun v hv => ⟨(hI.tx v hv).1, (hI.tx v hv).2.1, fun i hi => by have := hI.1.2.2.2.2.1 v hv; rw [fr _ (by omega)]; exact (hI.tx v hv).2.2 i hi⟩) (fun u hu => rfl)) (fun g => absurd (by decide) g) (fun v hv hx hb => ?_) (fun v hv hx h1 h2 => ?_)
        · have q1 : v = 1 := ((nI_eq (a := 1) (b := v) (by decide) (by omega)).mp hx).symm
          subst q1
          rw [es]
          refine ⟨rfl, fin_n hI ⟨fr, by rw [fζ _ (by omega) (by omega)]; exact hI.nb⟩ (Sq_PM (by rw [su_eq]; exact Sq.mx (sq9 _ _ _) _ (by omega)) _) ?_ ?_⟩
          · rw [PM_1, su_same, su_ne (by omega), fr _ (by omega), hN]; exact repD_of rζ (fun a h1 h2 => by rw [PM, Mx_ne (by omega), Mx_ne (by omega), su_ne (by omega), su_ne (by omega)])
          · rw [PM_1, su_same, su_ne (by omega), fr _ (by omega), hN]; exact w5
        · have q1 : v = 1 := ((nI_eq (a := 1) (b := v) (by decide) (by omega)).mp hx).symm
          subst q1
          rw [es] at h1 h2
          exfalso
          rcases hbad with hb | hb
          · rw [h1] at hb; exact absurd hb (by decide)
          · omega
      · replace hI := Inv_su (t' := P + 1 + 9) (q' := G.2.2.2 (11 + 1)) hI
        generalize eν : (RM μ (P + 80) s.1 false s.2.2.1 C) = ν
        have fν : ∀ a, (a < P + 80 ∨ P + 83 ≤ a) → ν a = μ a := fun a h => by rw [← eν]; exact RM_out h
        have sν : ν (P + 80 + 1) 1 = nI s.2.2.1 := by rw [← eν]; exact RMs
        have cν : ν (P + 80 + 1 + 1) = C := by rw [← eν]; exact RMc
        refine X_istore_n (lv' := [(0, _), (1, _), (2, _)]) (tk_X9_text.at 18 rfl) (by decide) rfl rfl ?_
        refine X_aload_n (tk_X9_text.at 19 rfl) rfl ?_
        refine X_getR (tk_X9_text.at 20 rfl) fl_x9_12 hI.P0 rfl rfl ?_
        refine X_getR (tk_X9_text.at 21 rfl) fl_x9_197 hI.D.1 rfl rfl ?_
        refine X_cV0v (lv2 := [(0, _)]) (tk_X9_text.at 22 rfl) mv_X6_empty lk_x9_211 np_X6_empty hI.D.2.2.2.2.2.1.1 (by decide) rfl (Nat.le_of_ble_eq_true rfl) (Nat.le_of_ble_eq_true rfl) rfl (c6_empty (n := 0) hI.D.2.2.2.2.2.1 ?_)
        generalize eζ : su ν (P + 1 + 9) 1 0 = ζ
        have fζ : ∀ a, a ≠ P + 1 + 9 → (a < P + 80 ∨ P + 83 ≤ a) → ζ a = μ a := fun a h1 h2 => by rw [← eζ, su_ne h1]; exact fν a h2
        have r0 : repD ν (P + 1) N := repD_of hr (fun a h1 h2 => fν a (by omega))
        have rζ : repD ζ (P + 1) (upd N 5 0) := repD_tape hw r0 (fun a h1 h2 => by rw [← eζ]; exact su_ne h1) (fun a h1 h2 => upd_ne _ _ h1) ⟨by rw [← eζ, su_same, upd_at, upd_at], fun i hi => absurd hi (by rw [upd_at]; exact Nat.not_lt_zero i)⟩
        have w5 : WF (upd N 5 0) := WF_tap hw (fun a h1 h2 => upd_ne _ _ h1) (by rw [upd_at]; exact okN_of (n := 0) (by decide) (by decide)) (fun k hk => absurd hk (by rw [upd_at]; exact Nat.not_lt_zero k))
        refine X_iload_n (tk_X9_text.at 23 rfl) rfl ?_
        refine X_if_lt (tgt := 59) (tk_X9_text.at 24 rfl) (by decide) (fun _ => ?_) (fun h => absurd h (by decide))
        refine X_aload_n (tk_X9_text.at 29 rfl) rfl ?_
        refine X_getR (tk_X9_text.at 30 rfl) fl_x9_12 hI.P0 rfl rfl ?_
        refine X_iload_n (tk_X9_text.at 31 rfl) rfl ?_
        refine X_cV1r (lv2 := [(0, _), (1, _)]) (tk_X9_text.at 32 rfl) mv_X2_textOf lk_x9_190 np_X2_textOf hI.D.1 (by decide) rfl (Nat.le_of_ble_eq_true rfl) (Nat.le_of_ble_eq_true rfl) rfl (c2_textOf (u := 1) hI.D rfl (by decide) ?_)
        refine X_aload_n (tk_X9_text.at 33 rfl) rfl ?_
        refine X_getR (tk_X9_text.at 34 rfl) fl_x9_33 hI.P0 rfl rfl ?_
        refine X_getR (tk_X9_text.at 35 rfl) fl_x9_214 hI.R.1 rfl rfl ?_
        refine X_cV1v (lv2 := [(0, _), (1, _)]) (tk_X9_text.at 36 rfl) mv_X6_copyFrom lk_x9_217 np_X6_copyFrom hI.D.2.2.2.2.2.2.2.2.2.2.1.1 (by decide) rfl (Nat.le_of_ble_eq_true rfl) (Nat.le_of_ble_eq_true rfl) rfl (d_cp6 (R := P + 1 + 18) (Q := P + 80 + 1) (m := s.2.2.1) hI.D.2.2.2.2.2.2.2.2.2.2.1 hI.R.2 (by rw [← eζ, su_ne (by omega)]; exact sν) hc50 hc50 (by decide) (by omega) (fun θ cc => ?_))
        refine X_iconst (tk_X9_text.at 37 rfl) ci_1 ?_
        refine X_ireturn (tk_X9_text.at 38 rfl) rfl rfl ?_
        have fθ : ∀ a, (a < P + 1 ∨ P + 83 ≤ a) → θ a = μ a := fun a h => by rw [cc.1 a (by omega) (by omega)]; exact fζ a (by omega) (by omega)
        have fr : ∀ a, a < P + 1 ∨ P + 85 ≤ a → θ a = μ a := fun a h => fθ a (by omega)
        refine p10_text (N := N) (C6 := C6) hI.M (by rw [fr _ (by omega)]; exact hN) (by rw [fr _ (by omega)]; exact hC6) hw hF (TxB.txt (fun v hv => ⟨(hI.tx v hv).1, (hI.tx v hv).2.1, fun i hi => by have := hI.1.2.2.2.2.1 v hv; rw [fr _ (by omega)]; exact (hI.tx v hv).2.2 i hi⟩) (fun u hu => rfl)) (fun g => absurd (by decide) g) (fun v hv hx hb => ?_) (fun v hv hx h1 h2 => ?_)
        · have q1 : v = 1 := ((nI_eq (a := 1) (b := v) (by decide) (by omega)).mp hx).symm
          subst q1
          rw [es] at hb
          exfalso
          rcases hb with hb | hb
          · rw [hok] at hb; exact absurd hb (by decide)
          · omega
        · have q1 : v = 1 := ((nI_eq (a := 1) (b := v) (by decide) (by omega)).mp hx).symm
          subst q1
          have okt : okT s.2.2.2 s.2.2.1 := by have z := rdr_ok hw (u := 1) (C := C6) h1; rw [es] at z; exact z
          rw [es]
          have T5 : txN N 1 s.2.2.1 s.2.2.1 s.2.2.2 5 = 0 := if_pos rfl
          have Tn : txN N 1 s.2.2.1 s.2.2.1 s.2.2.2 262 = nI s.2.2.1 := by unfold txN; rw [if_neg (by decide), if_pos rfl]
          have Tk : ∀ k, k < s.2.2.1 → txN N 1 s.2.2.1 s.2.2.1 s.2.2.2 (263 + k) = s.2.2.2 k := fun k hk => by unfold txN; rw [if_neg (by omega), if_neg (by omega), if_pos (by omega)]; exact congrArg _ (by omega)
          have To : ∀ a, a ≠ 5 → (a < 262 ∨ 313 ≤ a) → txN N 1 s.2.2.1 s.2.2.1 s.2.2.2 a = N a := fun a h1 h2 => by unfold txN; rw [if_neg h1, if_neg (by omega), if_neg (by omega)]
          have rθ : repD θ (P + 1) (txN N 1 s.2.2.1 s.2.2.1 s.2.2.2) := repD_txt1 w5 rζ (fun a h1 h2 => cc.1 a h1 h2) (fun a h1 h2 => by by_cases e : a = 5; subst e; rw [T5, upd_at]; rw [upd_ne _ _ e]; exact To a e (by omega)) ⟨by rw [Tn]; exact cc.2.1, fun i hi => by rw [Tn, nv_nI (by omega)] at hi; show θ (P + 1 + 18 + 1) i = tr (txN N 1 s.2.2.1 s.2.2.1 s.2.2.2 (263 + i)); rw [Tk i hi, cc.2.2 i hi, ← eζ, su_ne (by omega), cν]; exact hC i hi⟩
          have wθ : WF (txN N 1 s.2.2.1 s.2.2.1 s.2.2.2) := WF_txt hw (u := 1) (by decide) hc50 okt (fun a h1 h2 => To a h1 (by omega)) T5 Tn Tk
          refine ⟨rfl, fin_n hI ⟨fr, by rw [cc.1 _ (by omega) (by omega), fζ _ (by omega) (by omega)]; exact hI.nb⟩ (Sq_PM (Sq.mx (sq9 _ _ _) _ (by omega)) _) ?_ ?_⟩
          · rw [PM_1, Mx_same]; exact repD_of rθ (fun a h1 h2 => by rw [PM, Mx_ne (by omega), Mx_ne (by omega), Mx_ne (by omega), su_ne (by omega)])
          · rw [PM_1, Mx_same]; exact wθ
  · refine X_if_ne (tgt := 14) (tk_X9_text.at 2 rfl) (by decide) (fun h => absurd h (by decide)) (fun _ => ?_)
    refine X_aload_n (tk_X9_text.at 3 rfl) rfl ?_
    refine X_ldc (tk_X9_text.at 4 rfl) kn_x9_76 ?_
    refine X_cV1i (lv2 := [(0, _), (1, _)]) (tk_X9_text.at 5 rfl) mv_X9_fail lk_x9_77 np_X9_fail hI.P0 (by decide) rfl (Nat.le_of_ble_eq_true rfl) (Nat.le_of_ble_eq_true rfl) rfl (c9_fail (k := 1) hI.P0 hI.E (by decide) (by decide) ?_)
    refine X_ireturn (tk_X9_text.at 6 rfl) rfl rfl ?_
    refine p10_text (N := N) (C6 := C6) hI.M (by rw [su_ne (by omega)]; exact hN) (by rw [su_ne (by omega)]; exact hC6) hw hF (TxB.txt (fun v hv => ⟨(hI.tx v hv).1, (hI.tx v hv).2.1, fun i hi => by have := hI.1.2.2.2.2.1 v hv; rw [su_ne (by omega)]; exact (hI.tx v hv).2.2 i hi⟩) (fun u hu => rfl)) (fun _ => ⟨rfl, fin_e hI (Fs.rf hI) (Sq.rf _ _) rfl⟩) (fun u hu hx _ => absurd (rng hx (show u ≤ 1 by omega) (by decide)) hno) (fun u hu hx _ _ => absurd (rng hx (show u ≤ 1 by omega) (by decide)) hno)
