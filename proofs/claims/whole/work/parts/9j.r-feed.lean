theorem by_b (x : BitVec 64) (s : Nat) (hs : s ≤ 56) : ((x >>> s).signExtend 32 &&& 255#32) = ((x.sshiftRight s &&& 255#64).signExtend 32) := by
  have a1 : ∀ i, i < 32 → (255#32).getLsbD i = decide (i < 8) := by decide
  have a2 : ∀ i, i < 32 → (255#64).getLsbD i = decide (i < 8) := by decide
  apply BitVec.eq_of_getLsbD_eq
  intro i hi
  have h64 : i < 64 := by omega
  rw [BitVec.getLsbD_and, BitVec.getLsbD_signExtend, BitVec.getLsbD_signExtend, if_pos h64, if_pos h64, BitVec.getLsbD_and, a1 i hi, a2 i hi, BitVec.getLsbD_ushiftRight, BitVec.getLsbD_sshiftRight]
  by_cases h8 : i < 8
  · have h1 : s + i < 64 := by omega
    have h2 : ¬ 64 ≤ i := by omega
    simp [hi, h8, h1, h2]
  · simp [h8]
theorem by_eq (w : Int64) : ∀ k, k < 8 → ((((w.toUInt64 >>> ((8 * nI k).toInt64.toUInt64 &&& Int64.toUInt64 63)).toInt64)).toInt32 &&& 255) = byR w k := by
  intro k hk
  apply Int32.toBitVec_inj.mp
  rcases (show k = 0 ∨ k = 1 ∨ k = 2 ∨ k = 3 ∨ k = 4 ∨ k = 5 ∨ k = 6 ∨ k = 7 by omega) with rfl | rfl | rfl | rfl | rfl | rfl | rfl | rfl
  · exact by_b w.toBitVec 0 (by decide)
  · exact by_b w.toBitVec 8 (by decide)
  · exact by_b w.toBitVec 16 (by decide)
  · exact by_b w.toBitVec 24 (by decide)
  · exact by_b w.toBitVec 32 (by decide)
  · exact by_b w.toBitVec 40 (by decide)
  · exact by_b w.toBitVec 48 (by decide)
  · exact by_b w.toBitVec 56 (by decide)
theorem and_255 (x : Int32) : okN (x &&& 255) 255 := by
  have h : (x &&& 255).toBitVec.toNat ≤ 255 := by
    have e : (x &&& 255).toBitVec = x.toBitVec &&& 255#32 := rfl
    rw [e, BitVec.toNat_and]
    exact Nat.and_le_right
  have e2 : x &&& 255 = nI (x &&& 255).toBitVec.toNat := by
    apply Int32.toBitVec_inj.mp
    show _ = BitVec.ofNat 32 _
    rw [BitVec.ofNat_toNat, BitVec.setWidth_eq]
  rw [e2]
  exact okN_of h (by decide)
theorem byR_ok (w : Int64) {k : Nat} (hk : k < 8) : okN (byR w k) 255 := by rw [← by_eq w k hk]; exact and_255 _
theorem fdN_out {N : Nat → Int32} {w : Int64} {a : Nat} (h1 : a ≠ 5) (h2 : a < 140 ∨ 190 ≤ a) : ∀ k, nv (N 5) + k ≤ 50 → fdN N w k a = N a
  | 0, _ => rfl
  | k + 1, h => by rw [fdN, upd_ne _ _ h1, upd_ne _ _ (by omega)]; exact fdN_out h1 h2 k (by omega)
theorem fdN_in {N : Nat → Int32} {w : Int64} {i : Nat} : ∀ k, i < nv (N 5) + k → nv (N 5) + k ≤ 50 → fdN N w k (140 + i) = if i < nv (N 5) then N (140 + i) else byR w (i - nv (N 5))
  | 0, h, _ => by rw [if_pos (by omega)]; rfl
  | k + 1, h, hb => by
    rw [fdN, upd_ne _ _ (by omega)]
    by_cases e : i = nv (N 5) + k
    · subst e; rw [upd_at, if_neg (by omega), Nat.add_sub_cancel_left]
    · rw [upd_ne _ _ (by omega)]; exact fdN_in k (by omega) (by omega)
set_option maxHeartbeats 1000000 in
theorem WF_tap {N M : Nat → Int32} (hw : WF N) (out : ∀ a, a ≠ 5 → (a < 140 ∨ 190 ≤ a) → M a = N a) (h5 : okN (M 5) 50) (ht : ∀ k, k < nv (M 5) → okN (M (140 + k)) 255) : WF M := by
  have k1 := hw.n1.2
  have k2 := hw.n2.2
  have k3 := hw.n3.2
  have k4 := hw.n4.2
  have k5 := hw.n5.2
  have k6 := hw.n6.2
  have on : ∀ {r i p : Nat}, On M r i p → On N r i p := by
    intro r i p g
    have h3 : r < nv (N 3) := by rw [← out 3 (by omega) (by omega)]; exact g.1
    have gm := (hw.ro h3).2.2.2.1.2
    have hi : i < nv (N (83 + 9 * r)) := by rw [← out (83 + 9 * r) (by omega) (by omega)]; exact g.2.1
    exact ⟨h3, hi, by rw [← out (84 + 9 * r + i) (by omega) (by omega)]; exact g.2.2⟩
  refine ⟨⟨?_, ?_, ?_, ?_, ?_, ?_, ?_⟩, ?_, ?_, ?_, ?_, ?_, ?_, ?_, ?_⟩
  · rw [out (0) (by omega) (by omega)]; exact hw.n0
  · rw [out (1) (by omega) (by omega)]; exact hw.n1
  · rw [out (2) (by omega) (by omega)]; exact hw.n2
  · rw [out (3) (by omega) (by omega)]; exact hw.n3
  · rw [out (4) (by omega) (by omega)]; exact hw.n4
  · exact h5
  · rw [out (6) (by omega) (by omega)]; exact hw.n6
  · intro p hp
    rw [out (1) (by omega) (by omega)] at hp
    have g := hw.pe hp
    unfold WFp at g ⊢
    rw [out (8 + 4 * p) (by omega) (by omega), out (9 + 4 * p) (by omega) (by omega), out (10 + 4 * p) (by omega) (by omega), out (11 + 4 * p) (by omega) (by omega)]
    exact g
  · intro p hp
    rw [out (2) (by omega) (by omega)] at hp
    have g := hw.pc hp
    unfold WFc at g ⊢
    rw [out (48 + 4 * p) (by omega) (by omega), out (49 + 4 * p) (by omega) (by omega), out (50 + 4 * p) (by omega) (by omega), out (51 + 4 * p) (by omega) (by omega)]
    exact g
  · intro r hr
    rw [out (3) (by omega) (by omega)] at hr
    have g := hw.ro hr
    have gm := g.2.2.2.1.2
    unfold WFr at g ⊢
    rw [out (80 + 9 * r) (by omega) (by omega), out (81 + 9 * r) (by omega) (by omega), out (82 + 9 * r) (by omega) (by omega), out (83 + 9 * r) (by omega) (by omega), out (1) (by omega) (by omega)]
    refine ⟨g.1, g.2.1, g.2.2.1, g.2.2.2.1, fun i hi => ?_⟩
    rw [out (84 + 9 * r + i) (by omega) (by omega)]; exact g.2.2.2.2 i hi
  · intro r i r' i' p g g'
    refine hw.un (on g) (on g')
  · intro k hk
    rw [out (4) (by omega) (by omega)] at hk
    rw [out (134 + k) (by omega) (by omega), out (3) (by omega) (by omega)]; exact hw.li hk
  · intro k k' hk hk' e
    rw [out (4) (by omega) (by omega)] at hk hk'
    rw [out (134 + k) (by omega) (by omega), out (134 + k') (by omega) (by omega)] at e; exact hw.lu hk hk' e
  · exact ht
  · intro u hu
    have g := hw.tx hu
    rw [out (210 + 52 * u) (by omega) (by omega), show (fun k => M (211 + 52 * u + k)) = (fun k => N (211 + 52 * u + k)) from funext (fun k => out (211 + 52 * u + k) (by omega) (by omega))]
    exact g
theorem WF_fd {N : Nat → Int32} (hw : WF N) {w : Int64} {k : Nat} (hk : k ≤ 8) (hb : nv (N 5) + k ≤ 50) : WF (fdN N w k) := by
  have e5 := fdN_5 hw.n5.1 w k
  refine WF_tap hw (fun a h1 h2 => fdN_out h1 h2 k hb) (by rw [e5]; exact okN_of hb (by decide)) (fun i hi => ?_)
  rw [e5, nv_nI (by omega)] at hi
  rw [fdN_in k hi hb]
  split
  · exact hw.ta (by assumption)
  · exact byR_ok w (by omega)
set_option maxHeartbeats 1000000 in
theorem t_feed {G : Gl} {d : Nat} {S : Sh} {μ : Mu} {P o t q im : Nat} {kp : Option Nat} {w : Int64} {n : Int32} (hI : Inv G S P o kp t q im μ) : X G mi_X9_feed (d + 60) 0 0 [(0, .ref P), (1, .long w), (3, .int n)] [] S μ (qi (fun an S1 μ1 => X G mi_X10_feed (d + 60) 0 0 [(0, .ref o), (1, .long w), (3, .int n)] [] S1 μ1 (qi (Eq2 G P o im an)))) := by
  obtain ⟨N, hN⟩ : ∃ N, μ (o + 1) = N := ⟨_, rfl⟩
  have hw : WF N := hN ▸ hI.wf
  have hr : repD μ (P + 1) N := hN ▸ hI.rep
  have lo := hI.lo
  have b1 := hw.n1.2
  have b2 := hw.n2.2
  have b3 := hw.n3.2
  have b4 := hw.n4.2
  have b5 := hw.n5.2
  have b6 := hw.n6.2
  have hun : ∀ r i r' i' p, On N r i p → On N r' i' p → r = r' ∧ i = i' := fun _ _ _ _ _ h1 h2 => hw.un h1 h2
  have hlu : ∀ k k', k < nv (N 4) → k' < nv (N 4) → N (134 + k) = N (134 + k') → k = k' := fun _ _ h1 h2 e => hw.lu h1 h2 e
  have hnz : nI 0 = 0 := rfl
  have hli : ∀ k, k < nv (N 4) → N (134 + k) = nI (nv (N (134 + k))) ∧ nv (N (134 + k)) < nv (N 3) := fun k h => hw.li h
  refine X_iload_n (tk_X9_feed.at 0 rfl) rfl ?_
  refine X_iconst (tk_X9_feed.at 1 rfl) ci_1 ?_
  refine X_icmp_lt (tgt := 11) (tk_X9_feed.at 2 rfl) (by decide) (fun c1 => ?_) (fun c1 => ?_)
  · refine X_aload_n (tk_X9_feed.at 6 rfl) rfl ?_
    refine X_ldc (tk_X9_feed.at 7 rfl) kn_x9_76 ?_
    refine X_cV1i (lv2 := [(0, _), (1, _)]) (tk_X9_feed.at 8 rfl) mv_X9_fail lk_x9_77 np_X9_fail hI.P0 (by decide) rfl (Nat.le_of_ble_eq_true rfl) (Nat.le_of_ble_eq_true rfl) rfl (c9_fail (k := 1) hI.P0 hI.E (by decide) (by decide) ?_)
    refine X_ireturn (tk_X9_feed.at 9 rfl) rfl rfl ?_
    have hbad : ¬ (1 ≤ n ∧ n ≤ 8) := by grind
    have rg : ∀ j, 1 ≤ j → j ≤ 8 → 1 ≤ nI j ∧ nI j ≤ 8 := fun j h1 h2 => ⟨(nI_leI (a := 1) (b := j) (by decide) (by omega)).mpr h1, (nI_leI (a := j) (b := 8) (by omega) (by decide)).mpr h2⟩
    refine n10_feed (N := N) hI.M (by rw [su_ne (by omega)]; exact hN) hw (fun _ => ⟨rfl, fin_e hI (Fs.rf hI) (Sq.rf _ _) rfl⟩) (fun j h1 h2 ej h3 => absurd (by rw [ej]; exact rg j h1 h2) hbad) (fun j h1 h2 ej h3 => absurd (by rw [ej]; exact rg j h1 h2) hbad)
  · refine X_iload_n (tk_X9_feed.at 3 rfl) rfl ?_
    refine X_bipush (tk_X9_feed.at 4 rfl) cb_8 ?_
    refine X_icmp_le (tgt := 18) (tk_X9_feed.at 5 rfl) (by decide) (fun c2 => ?_) (fun c2 => ?_)
    · have hcn : 1 ≤ n ∧ n ≤ 8 := by grind
      obtain ⟨f, ef, hf1, hf⟩ : ∃ f, n = nI f ∧ 1 ≤ f ∧ f ≤ 8 := ⟨nv n, le_lits (a := 1) (b := 8) (by decide) hcn.1 hcn.2 (by decide)⟩
      refine X_aload_n (tk_X9_feed.at 10 rfl) rfl ?_
      refine X_getR (tk_X9_feed.at 11 rfl) fl_x9_12 hI.P0 rfl rfl ?_
      refine X_getR (tk_X9_feed.at 12 rfl) fl_x9_197 hI.D.1 rfl rfl ?_
      refine X_cV0i (lv2 := [(0, _)]) (tk_X9_feed.at 13 rfl) mv_X6_size lk_x9_142 np_X6_size hI.D.2.2.2.2.2.1.1 (by decide) rfl (Nat.le_of_ble_eq_true rfl) (Nat.le_of_ble_eq_true rfl) rfl (d_tpsz hI.D hw hr ?_)
      refine X_iload_n (tk_X9_feed.at 14 rfl) rfl ?_
      refine X_iadd (tk_X9_feed.at 15 rfl) ?_
      refine X_bipush (tk_X9_feed.at 16 rfl) cb_50 ?_
      refine X_icmp_leN (tgt := 42) (tk_X9_feed.at 17 rfl) (by decide) (pa (pl (nv (N 5)) rfl) ef) (pl 50 rfl) (by omega) (by omega) (fun c3 => ?_) (fun c3 => ?_)
      · refine X_iconst (tk_X9_feed.at 22 rfl) ci_0 ?_
        refine X_istoreL (lv' := [(0, _), (1, _), (3, _), (4, _)]) (tk_X9_feed.at 23 rfl) (by decide) rfl rfl ?_
        have bnd : nv (N 5) + f ≤ 50 := by omega
        have loop : ∀ (m k : Nat) (ν : Mu), k + m = f → (∀ a, a ≠ P + 1 + 9 → a ≠ P + 1 + 10 → ν a = μ a) → repD ν (P + 1) (fdN N w k) → X G mi_X9_feed (d + 60) 0 45 [(0, .ref P), (1, .long w), (3, .int n), (4, .int (nI k))] [] S ν (qi (fun an S1 μ1 => X G mi_X10_feed (d + 60) 0 0 [(0, .ref o), (1, .long w), (3, .int n)] [] S1 μ1 (qi (Eq2 G P o im an)))) := by
          intro m
          induction m with
          | zero =>
            intro k ν hk fν rν
            have wk := WF_fd hw (w := w) (k := k) (by omega) (by omega)
            have ek : k = f := by omega
            refine X_iload (tk_X9_feed.at 24 rfl) rfl ?_
            refine X_iload_n (tk_X9_feed.at 25 rfl) rfl ?_
            refine X_icmp_geN (tgt := 79) (tk_X9_feed.at 26 rfl) (by decide) (pl k rfl) ef (by omega) (by omega) (fun c1 => ?_) (fun c1 => (by exfalso; omega))
            refine X_aload_n (tk_X9_feed.at 41 rfl) rfl ?_
            refine X_getR (tk_X9_feed.at 42 rfl) fl_x9_12 hI.P0 rfl rfl ?_
            refine X_getR (tk_X9_feed.at 43 rfl) fl_x9_197 hI.D.1 rfl rfl ?_
            refine X_cV0i (lv2 := [(0, _)]) (tk_X9_feed.at 44 rfl) mv_X6_size lk_x9_142 np_X6_size hI.D.2.2.2.2.2.1.1 (by decide) rfl (Nat.le_of_ble_eq_true rfl) (Nat.le_of_ble_eq_true rfl) rfl (d_tpsz hI.D wk rν ?_)
            refine X_ireturn (tk_X9_feed.at 45 rfl) rfl rfl ?_
            subst ek
            rw [fdN_5 hw.n5.1 w k, nv_nI (by omega)]
            have hNν : ν (o + 1) = N := by rw [fν _ (by omega) (by omega)]; exact hN
            refine n10_feed (N := N) hI.M hNν hw (fun g => absurd hcn g) (fun j h1 h2 ej h3 => by have q1 := nI_j ej ef (by omega) (by omega); omega) (fun j h1 h2 ej h3 => ?_)
            have q1 := nI_j ej ef (by omega) (by omega)
            subst q1
            exact ⟨rfl, fin_d hI (Fn_now hI (fun a ha => fν a (by omega) (by omega))) rν wk⟩
          | succ m ih =>
            intro k ν hk fν rν
            have wk := WF_fd hw (w := w) (k := k) (by omega) (by omega)
            have sz : ν (P + 1 + 9) 1 = nI (nv (N 5) + k) := (rD_tape wk rν).trans (by rw [fdN_5 hw.n5.1 w k, nv_nI (by omega)])
            refine X_iload (tk_X9_feed.at 24 rfl) rfl ?_
            refine X_iload_n (tk_X9_feed.at 25 rfl) rfl ?_
            refine X_icmp_geN (tgt := 79) (tk_X9_feed.at 26 rfl) (by decide) (pl k rfl) ef (by omega) (by omega) (fun c1 => (by exfalso; omega)) (fun c1 => ?_)
            refine X_aload_n (tk_X9_feed.at 27 rfl) rfl ?_
            refine X_getR (tk_X9_feed.at 28 rfl) fl_x9_12 hI.P0 rfl rfl ?_
            refine X_getR (tk_X9_feed.at 29 rfl) fl_x9_197 hI.D.1 rfl rfl ?_
            refine X_lload_n (tk_X9_feed.at 30 rfl) rfl ?_
            refine X_bipush (tk_X9_feed.at 31 rfl) cb_8 ?_
            refine X_iload (tk_X9_feed.at 32 rfl) rfl ?_
            refine X_imul (tk_X9_feed.at 33 rfl) ?_
            refine X_lushr (tk_X9_feed.at 34 rfl) ?_
            refine X_l2i (tk_X9_feed.at 35 rfl) ?_
            refine X_sipush (tk_X9_feed.at 36 rfl) cs_255 ?_
            refine X_iand (tk_X9_feed.at 37 rfl) ?_
            rw [by_eq w k (by omega)]
            refine X_cV1v (lv2 := [(0, _), (1, _)]) (tk_X9_feed.at 38 rfl) mv_X6_add lk_x9_139 np_X6_add hI.D.2.2.2.2.2.1.1 (by decide) rfl (Nat.le_of_ble_eq_true rfl) (Nat.le_of_ble_eq_true rfl) rfl (c6_add (n := nv (N 5) + k) hI.D.2.2.2.2.2.1 sz (by omega) (by decide) (fun hlt0 => ?_) (fun g => by exfalso; omega))
            generalize eξ : su (su ν ((P + 1 + 9) + 1) (nv (N 5) + k) (byR w k)) (P + 1 + 9) 1 (nI (nv (N 5) + k + 1)) = ξ
            have fξ : ∀ a, a ≠ (P + 1 + 9) → a ≠ (P + 1 + 9) + 1 → ξ a = ν a := fun a h1 h2 => by rw [← eξ, su_ne h1, su_ne h2]
            have sξ : ξ (P + 1 + 9) 1 = nI (nv (N 5) + k + 1) := by rw [← eξ, su_same]; exact upd_at _ _ _
            have cξ : ξ ((P + 1 + 9) + 1) = upd (ν ((P + 1 + 9) + 1)) (nv (N 5) + k) (byR w k) := by rw [← eξ, su_ne (by omega), su_same]
            refine X_iincL (lv' := [(0, _), (1, _), (3, _), (4, _)]) (tk_X9_feed.at 39 rfl) rfl ci_1 (by decide) rfl rfl ?_
            refine X_goto (tgt := 45) (tk_X9_feed.at 40 rfl) (by decide) ?_
            rw [nI_1 k]
            refine ih (k + 1) ξ (by omega) (fun a h1 h2 => (fξ a h1 h2).trans (fν a h1 h2)) (repD_tape wk rν (fun a h1 h2 => fξ a h1 h2) (fun a h1 h2 => (fdN_out h1 h2 _ (by omega)).trans (fdN_out h1 h2 k (by omega)).symm) ⟨?_, fun i hi => ?_⟩)
            · rw [fdN_5 hw.n5.1]; exact sξ
            · rw [fdN_5 hw.n5.1, nv_nI (by omega)] at hi
              show ξ (P + 1 + 9 + 1) i = fdN N w (k + 1) (140 + i)
              have er : fdN N w (k + 1) (140 + i) = upd (fdN N w k) (140 + (nv (N 5) + k)) (byR w k) (140 + i) := by rw [fdN]; exact upd_ne _ _ (by omega)
              rw [cξ, er]
              by_cases e : i = nv (N 5) + k
              · subst e; rw [upd_at, upd_at]
              · rw [upd_ne _ _ e, upd_ne _ _ (by omega)]; exact rν.2.2.2.2.2.1.2 i (by rw [fdN_5 hw.n5.1, nv_nI (by omega)]; omega)
        exact loop f 0 μ (Nat.zero_add _) (fun _ _ _ => rfl) hr
      · refine X_aload_n (tk_X9_feed.at 18 rfl) rfl ?_
        refine X_ldc (tk_X9_feed.at 19 rfl) kn_x9_138 ?_
        refine X_cV1i (lv2 := [(0, _), (1, _)]) (tk_X9_feed.at 20 rfl) mv_X9_fail lk_x9_77 np_X9_fail hI.P0 (by decide) rfl (Nat.le_of_ble_eq_true rfl) (Nat.le_of_ble_eq_true rfl) rfl (c9_fail (k := 4) hI.P0 hI.E (by decide) (by decide) ?_)
        refine X_ireturn (tk_X9_feed.at 21 rfl) rfl rfl ?_
        refine n10_feed (N := N) hI.M (by rw [su_ne (by omega)]; exact hN) hw (fun g => absurd hcn g) (fun j h1 h2 ej h3 => ⟨rfl, fin_e hI (Fs.rf hI) (Sq.rf _ _) rfl⟩) (fun j h1 h2 ej h3 => by exfalso; have q1 := nI_j ej ef (by omega) (by omega); omega)
    · refine X_aload_n (tk_X9_feed.at 6 rfl) rfl ?_
      refine X_ldc (tk_X9_feed.at 7 rfl) kn_x9_76 ?_
      refine X_cV1i (lv2 := [(0, _), (1, _)]) (tk_X9_feed.at 8 rfl) mv_X9_fail lk_x9_77 np_X9_fail hI.P0 (by decide) rfl (Nat.le_of_ble_eq_true rfl) (Nat.le_of_ble_eq_true rfl) rfl (c9_fail (k := 1) hI.P0 hI.E (by decide) (by decide) ?_)
      refine X_ireturn (tk_X9_feed.at 9 rfl) rfl rfl ?_
      have hbad : ¬ (1 ≤ n ∧ n ≤ 8) := by grind
      have rg : ∀ j, 1 ≤ j → j ≤ 8 → 1 ≤ nI j ∧ nI j ≤ 8 := fun j h1 h2 => ⟨(nI_leI (a := 1) (b := j) (by decide) (by omega)).mpr h1, (nI_leI (a := j) (b := 8) (by omega) (by decide)).mpr h2⟩
      refine n10_feed (N := N) hI.M (by rw [su_ne (by omega)]; exact hN) hw (fun _ => ⟨rfl, fin_e hI (Fs.rf hI) (Sq.rf _ _) rfl⟩) (fun j h1 h2 ej h3 => absurd (by rw [ej]; exact rg j h1 h2) hbad) (fun j h1 h2 ej h3 => absurd (by rw [ej]; exact rg j h1 h2) hbad)
