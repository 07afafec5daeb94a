theorem Inv_i {G : Gl} {S V : Sh} {P o t q im k : Nat} {kp : Option Nat} {μ ξ : Mu} (h : Inv G S P o kp t q im μ) (f : Xt 9 S V) (vP : V.2 P = some (kO 9 (rP P (some k)))) (vk : DS G V k) (hk : o + 18 ≤ k) (fr : ∀ a, a ≠ P → a ≠ o → a ≠ o + 2 → a < k → ξ a = μ a) (x8 : ξ P 8 = nI (im + 1)) (x3 : ξ o 3 = nI (im + 1)) (x5 : ξ o 5 = μ o 5) (x22 : ξ o 22 = μ o 22) (rk : repD ξ k (ξ (o + 2))) (wk : WF (ξ (o + 2))) : Nx G P o im V ξ := by
  have lo := h.lo
  have s1 := h.1.2.2.2.1
  have s2 := h.1.2.2.2.2.1
  have e1 : ξ (o + 1) = μ (o + 1) := fr _ (by omega) (by omega) (by omega) (by omega)
  refine ⟨some k, t, q, im + 1, Nat.le_refl _, ⟨⟨vP, h.D.x f (by decide) (by decide), h.C.x f (by decide) (by decide), h.H.x f (by decide) (by decide) (by decide), ⟨f _ _ h.R.1 (kO_ne (by decide)), h.R.2.x f (by decide)⟩, h.V.x f (by decide) (by decide), f _ _ h.sh kR_ne, f _ _ h.E kI_ne, fun i hi => (h.hs hi).x f (by decide)⟩, h.M.x f (by decide), h.lo, s1, s2, (fun k' e => by cases e; exact ⟨vk, hk⟩)⟩, ?_, ?_, ?_⟩
  · obtain ⟨hIS, ⟨⟨a1, a2⟩, b, ⟨c1, c2, c3, c4⟩, ⟨tc, d1, d2, d3, d4⟩, e, g1, g2⟩, r1, r2⟩ := h
    refine ⟨⟨fun j hj => ⟨f _ _ (a1 j hj).1 kC_ne, fun i hi => ?_⟩, fun v hv => ⟨f _ _ (a2 v hv).1 kT_ne, f _ _ (a2 v hv).2.1 kB_ne, fun i hi => ?_⟩⟩, fun j h1 h2 => ?_, ⟨x8, x3, (fun e => by cases e), (fun k' e => by cases e; exact ⟨by omega, rk, wk⟩)⟩, ⟨tc, d1, ?_, ?_, fun i hi => ?_⟩, fun s hs => ?_, ?_, ?_⟩
    · have := s1 j hj
      rw [fr _ (by omega) (by omega) (by omega) (by omega)]; exact (a1 j hj).2 i hi
    · have := s2 v hv
      rw [fr _ (by omega) (by omega) (by omega) (by omega)]; exact (a2 v hv).2.2 i hi
    · rw [fr _ (by omega) (by omega) (by omega) (by omega), fr (o + 4) (by omega) (by omega) (by omega) (by omega)]; exact b j h1 h2
    · rw [fr _ (by omega) (by omega) (by omega) (by omega)]; exact d2
    · rw [x22]; exact d3
    · rw [fr _ (by omega) (by omega) (by omega) (by omega), fr (o + 13) (by omega) (by omega) (by omega) (by omega)]; exact d4 i hi
    · have z := e s hs
      rw [fr (o + 14) (by omega) (by omega) (by omega) (by omega), fr (o + 15) (by omega) (by omega) (by omega) (by omega), fr (o + 16) (by omega) (by omega) (by omega) (by omega), fr (P + 90 + 2 * s) (by omega) (by omega) (by omega) (by omega), fr (P + 90 + 2 * s + 1) (by omega) (by omega) (by omega) (by omega)]
      exact z
    · rw [fr _ (by omega) (by omega) (by omega) (by omega)]; exact g1
    · rw [x5]; exact g2
  · rw [e1]; exact repD_of h.rep (fun a h1 h2 => fr a (by omega) (by omega) (by omega) (by omega))
  · rw [e1]; exact h.wf
set_option maxHeartbeats 2000000 in
theorem t_image {G : Gl} {d : Nat} {S : Sh} {μ : Mu} {P o t q im : Nat} {kp : Option Nat} (hI : Inv G S P o kp t q im μ) : X G mi_X9_image (d + 60) 32 0 [(0, .ref P)] [] S μ (qi (fun an S1 μ1 => X G mi_X10_image (d + 60) 0 0 [(0, .ref o)] [] S1 μ1 (qi (Eq2 G P o im an)))) := by
  obtain ⟨N, hN⟩ : ∃ N, μ (o + 1) = N := ⟨_, rfl⟩
  have hw : WF N := hN ▸ hI.wf
  have hr : repD μ (P + 1) N := hN ▸ hI.rep
  have lo := hI.lo
  have b1 := hw.n1.2
  have b2 := hw.n2.2
  have b3 := hw.n3.2
  have b4 := hw.n4.2
  have b5 := hw.n5.2
  have b6 := hw.n6.2
  have hi8 := hI.2.1.2.2.1.1
  have hi3 := hI.2.1.2.2.1.2.1
  have tail : ∀ (V : Sh) (ν : Mu) (k : Nat), V.2 P = some (kO 9 (rP P (some k))) → Xt 9 S V → DS G V k → o + 18 ≤ k → (∀ a, a < k → ν a = μ a) → ν (k + 14) 1 = 0 → X G mi_X9_image (d + 60) 0 18 [(0, .ref P)] [] V ν (qi (fun an S1 μ1 => X G mi_X10_image (d + 60) 0 0 [(0, .ref o)] [] S1 μ1 (qi (Eq2 G P o im an)))) := by
    intro V ν k vP f vk hk fν hnob
    have vD : DS G V (P + 1) := hI.D.x f (by decide) (by decide)
    refine X_aload_n (tk_X9_image.at 8 rfl) rfl ?_
    refine X_getR (tk_X9_image.at 9 rfl) fl_x9_54 vP rfl rfl ?_
    refine X_aload_n (tk_X9_image.at 10 rfl) rfl ?_
    refine X_getR (tk_X9_image.at 11 rfl) fl_x9_12 vP rfl rfl ?_
    refine X_cV1v (lv2 := [(0, _), (1, _)]) (tk_X9_image.at 12 rfl) mv_X2_copyFrom lk_x9_318 np_X2_copyFrom vk.1 (by decide) rfl (Nat.le_of_ble_eq_true rfl) (Nat.le_of_ble_eq_true rfl) rfl (c2_copyFrom (D := k) (Q := P + 1) (N := N) vk vD hw (repD_of hr (fun a h1 h2 => fν a (by omega))) hnob (Or.inl (by omega)) (fun ξ fξ rξ => ?_))
    refine X_aload_n (tk_X9_image.at 13 rfl) rfl ?_
    refine X_dup (tk_X9_image.at 14 rfl) rfl ?_
    refine X_getI (tk_X9_image.at 15 rfl) fl_x9_57 vP rfl ?_
    refine X_iconst (tk_X9_image.at 16 rfl) ci_1 ?_
    refine X_iadd (tk_X9_image.at 17 rfl) ?_
    refine X_putI (tk_X9_image.at 18 rfl) fl_x9_57 vP rfl rfl ⟨rfl, rfl⟩ ?_
    refine X_aload_n (tk_X9_image.at 19 rfl) rfl ?_
    refine X_getI (tk_X9_image.at 20 rfl) fl_x9_57 vP rfl ?_
    refine X_ireturn (tk_X9_image.at 21 rfl) rfl rfl ?_
    have e8 : ξ P 8 = nI im := by rw [fξ P (by omega), fν P (by omega)]; exact hi8
    rw [su_same, upd_at, e8, nI_1 im]
    generalize eζ : su ξ P 8 (nI (im + 1)) = ζ
    have fζ : ∀ a, a ≠ P → ζ a = ξ a := fun a h => by rw [← eζ]; exact su_ne h
    have z8 : ζ P 8 = nI (im + 1) := by rw [← eζ, su_same, upd_at]
    have all : ∀ a, a ≠ P → a < k → ζ a = μ a := fun a h1 h2 => by rw [fζ a h1, fξ a (Or.inl h2), fν a h2]
    refine n10_image (N := N) (hI.M.x f (by decide)) (by rw [all _ (by omega) (by omega)]; exact hN) ?_
    have e3 : ζ o 3 = nI im := by rw [all o (by omega) (by omega)]; exact hi3
    rw [e3, nI_1 im]
    refine ⟨rfl, Inv_i hI f vP vk hk (fun a h1 h2 h3 h4 => by rw [su_ne h2, Mx_ne h3]; exact all a h1 h4) (by rw [su_ne (by omega), Mx_ne (by omega)]; exact z8) (by rw [su_same, upd_at]) (by rw [su_same, upd_ne _ _ (by decide), Mx_ne (by omega), all o (by omega) (by omega)]) (by rw [su_same, upd_ne _ _ (by decide), Mx_ne (by omega), all o (by omega) (by omega)]) ?_ ?_⟩
    · rw [su_ne (by omega), Mx_same]; exact repD_of rξ (fun a h1 h2 => by rw [su_ne (by omega), Mx_ne (by omega)]; exact fζ a (by omega))
    · rw [su_ne (by omega), Mx_same]; exact hw
  refine X_bd (fun hbd => ?_)
  have hlt : ∀ a k', S.2 a = some k' → a < S.1 := fun a k' e => Nat.lt_of_not_le (fun g => by rw [hbd a g] at e; cases e)
  rcases kp with _ | k
  · refine X_aload_n (tk_X9_image.at 0 rfl) rfl ?_
    refine X_getN (tk_X9_image.at 1 rfl) fl_x9_54 hI.P0 rfl rfl ?_
    refine X_ifnonnullN (tgt := 18) (tk_X9_image.at 2 rfl) (by decide) ?_
    refine X_aload_n (tk_X9_image.at 3 rfl) rfl ?_
    generalize eA : S.1 = k at hlt
    have ho := hlt (o + 17) _ hI.M.2.2.2.2.2.2.2.2.2.2.2.2.2.2.2.2.2
    refine X_mk (ci := 2) (kc := 31) (tk_X9_image.at 4 rfl) (by decide) cl_x9_9 io_2 in_2 df_2 eA (fun T τ e1 e2 e3 e4 e5 => ?_)
    refine X_dup (tk_X9_image.at 5 rfl) rfl ?_
    refine X_callI (As := []) (rest := [.ref k, .ref P]) (Q' := qv (fun S' μ' => Nw T S' τ μ' k 31 ∧ DS G S' k ∧ repD μ' k N0)) (kd := 31) (n := 0) (tk_X9_image.at 6 rfl) mn_X2_init lk_x9_11 np_X2_init rfl (Nat.le_of_ble_eq_true rfl) (Nat.le_of_ble_eq_true rfl) rfl (i2 (d := d + 57) e1 e2 (fun j hj => ?_) (fun S' μ' a b c => ⟨a, b, c⟩)) (fun v S' μ' hq => ?_)
    · have z := (hI.st j (by omega)).1
      rw [show stL j = 4 from by unfold stL; rw [if_neg (by omega), if_neg (by omega)]] at z
      have zl := hlt _ _ z
      exact ⟨zl, (e3 _ zl).trans z⟩
    · obtain ⟨rfl, hN1, q1, q2⟩ := hq
      have s9 : ∀ a k', S.2 a = some k' → S'.2 a = some k' := fun a k' e => by have := hlt a k' e; rw [hN1.2.1 a this, e3 a this]; exact e
      refine X_putR (tk_X9_image.at 7 rfl) fl_x9_54 (s9 _ _ hI.P0) rfl rfl ⟨rfl, rfl⟩ ?_
      rw [show (va_up (rP P none) 7 (some k)) = rP P (some k) from funext (fun j => by rcases j with _ | _ | _ | _ | _ | _ | _ | _ | j <;> rfl)]
      have lo2 := hI.lo
      refine tail _ μ' k Su_at (fun a k' e hne => ?_) ?_ (by omega) (fun a ha => ?_) (rD_nob q2)
      · have hP : a ≠ P := fun h => by subst h; exact absurd (Option.some.inj (e.symm.trans hI.P0)) (hne _)
        rw [Su_ne hP]; exact s9 a k' e
      · refine q1.x (c := 9) (fun a k' e hne => ?_) (by decide) (by decide)
        have hP : a ≠ P := fun h => by subst h; exact absurd (Option.some.inj (e.symm.trans (s9 _ _ hI.P0))) (hne _)
        rw [Su_ne hP]; exact e
      · exact (hN1.2.2 a ha).trans (e4 a ha)
  · refine X_aload_n (tk_X9_image.at 0 rfl) rfl ?_
    refine X_getR (tk_X9_image.at 1 rfl) fl_x9_54 hI.P0 rfl rfl ?_
    refine X_ifnonnull (tgt := 18) (tk_X9_image.at 2 rfl) (by decide) ?_
    refine X_kc (Nat.zero_le _) ?_
    have hk := hI.1.2.2.2.2.2 k rfl
    have ik := hI.2.1.2.2.1.2.2.2 k rfl
    exact tail S μ k hI.P0 (fun a k' e _ => e) hk.1 hk.2 (fun a _ => rfl) (rD_nob ik.2.1)
