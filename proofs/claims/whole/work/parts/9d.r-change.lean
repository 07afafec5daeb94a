theorem fin_d {G : Gl} {S : Sh} {P o t q im : Nat} {kp : Option Nat} {μ ν : Mu} {M : Nat → Int32} (h : Inv G S P o kp t q im μ) (f : Fn P μ ν) (rν : repD ν (P + 1) M) (wf : WF M) : Nx G P o im S (Mx ν (o + 1) M) := by
  have lo := h.lo
  refine fin_n h f (Sq.mx (Sq.rf _ _) _ (by omega)) ?_ (by rw [Mx_same]; exact wf)
  rw [Mx_same]
  exact repD_of rν (fun a h1 h2 => Mx_ne (by omega))
theorem fin_u {G : Gl} {S : Sh} {P o t q im : Nat} {kp : Option Nat} {μ ν : Mu} {N : Nat → Int32} {k : Nat} {x : Int32} (h : Inv G S P o kp t q im μ) (f : Fn P μ ν) (hN : ν (o + 1) = N) (rν : repD ν (P + 1) (upd N k x)) (wf : WF (upd N k x)) : Nx G P o im S (su ν (o + 1) k x) := by
  rw [su_eq, hN]
  exact fin_d h f rν wf
theorem Fn_now {G : Gl} {S : Sh} {P o t q im : Nat} {kp : Option Nat} {μ ν : Mu} (h : Inv G S P o kp t q im μ) (f : ∀ a, a < P + 1 ∨ P + 33 ≤ a → ν a = μ a) : Fn P μ ν := ⟨fun a ha => f a (by omega), by rw [f _ (by omega)]; exact h.nb⟩
theorem WF_lin {N M : Nat → Int32} (hw : WF N) {n : Nat} (hn : n ≤ 6) (out : ∀ a, a ≠ 4 → (a < 134 ∨ 140 ≤ a) → M a = N a) (e4 : M 4 = nI n) (hl : ∀ k, k < n → M (134 + k) = nI (nv (M (134 + k))) ∧ nv (M (134 + k)) < nv (N 3)) (hu : ∀ k k', k < n → k' < n → M (134 + k) = M (134 + k') → k = k') : WF M := by
  have k1 := hw.n1.2
  have k2 := hw.n2.2
  have k3 := hw.n3.2
  have k5 := hw.n5.2
  have on : ∀ {r i p : Nat}, On M r i p → On N r i p := by
    intro r i p g
    have h3 : r < nv (N 3) := by rw [← out 3 (by omega) (by omega)]; exact g.1
    have gm := (hw.ro h3).2.2.2.1.2
    have hi : i < nv (N (83 + 9 * r)) := by rw [← out (83 + 9 * r) (by omega) (by omega)]; exact g.2.1
    exact ⟨h3, hi, by rw [← out (84 + 9 * r + i) (by omega) (by omega)]; exact g.2.2⟩
  refine ⟨⟨?_, ?_, ?_, ?_, ?_, ?_, ?_⟩, ?_, ?_, ?_, ?_, ?_, ?_, ?_, ?_⟩
  · rw [out 0 (by omega) (by omega)]; exact hw.n0
  · rw [out 1 (by omega) (by omega)]; exact hw.n1
  · rw [out 2 (by omega) (by omega)]; exact hw.n2
  · rw [out 3 (by omega) (by omega)]; exact hw.n3
  · rw [e4]; exact okN_of hn (by decide)
  · rw [out 5 (by omega) (by omega)]; exact hw.n5
  · rw [out 6 (by omega) (by omega)]; exact hw.n6
  · intro p hp
    rw [out 1 (by omega) (by omega)] at hp
    have g := hw.pe hp
    unfold WFp at g ⊢
    rw [out (8 + 4 * p) (by omega) (by omega), out (9 + 4 * p) (by omega) (by omega), out (10 + 4 * p) (by omega) (by omega), out (11 + 4 * p) (by omega) (by omega)]
    exact g
  · intro p hp
    rw [out 2 (by omega) (by omega)] at hp
    have g := hw.pc hp
    unfold WFc at g ⊢
    rw [out (48 + 4 * p) (by omega) (by omega), out (49 + 4 * p) (by omega) (by omega), out (50 + 4 * p) (by omega) (by omega), out (51 + 4 * p) (by omega) (by omega)]
    exact g
  · intro r hr
    rw [out 3 (by omega) (by omega)] at hr
    have g := hw.ro hr
    have gm := g.2.2.2.1.2
    unfold WFr at g ⊢
    rw [out (80 + 9 * r) (by omega) (by omega), out (81 + 9 * r) (by omega) (by omega), out (82 + 9 * r) (by omega) (by omega), out (83 + 9 * r) (by omega) (by omega), out 1 (by omega) (by omega)]
    refine ⟨g.1, g.2.1, g.2.2.1, g.2.2.2.1, fun i hi => ?_⟩
    rw [out (84 + 9 * r + i) (by omega) (by omega)]; exact g.2.2.2.2 i hi
  · intro r i r' i' p g g'
    exact hw.un (on g) (on g')
  · intro k hk
    rw [e4, nv_nI (by omega)] at hk
    rw [out 3 (by omega) (by omega)]; exact hl k hk
  · intro k k' hk hk' e
    rw [e4, nv_nI (by omega)] at hk hk'
    exact hu k k' hk hk' e
  · intro k hk
    rw [out 5 (by omega) (by omega)] at hk
    rw [out (140 + k) (by omega) (by omega)]; exact hw.ta hk
  · intro u hu
    have g := hw.tx hu
    rw [out (210 + 52 * u) (by omega) (by omega), show (fun k => M (211 + 52 * u + k)) = (fun k => N (211 + 52 * u + k)) from funext (fun k => out (211 + 52 * u + k) (by omega) (by omega))]
    exact g
theorem pig : ∀ (m n : Nat) (f : Nat → Nat), (∀ i, i < n → f i < m) → (∀ i j, i < n → j < n → f i = f j → i = j) → n ≤ m
  | 0, n, f, h, _ => by
    rcases Nat.eq_zero_or_pos n with e | e
    · omega
    · exact absurd (h 0 e) (Nat.not_lt_zero _)
  | m + 1, n, f, h, hi => by
    by_cases c : ∃ i, i < n ∧ f i = m
    · obtain ⟨i0, h0, e0⟩ := c
      have z := pig m (n - 1) (fun i => if i < i0 then f i else f (i + 1)) (fun i hlt => by
        show (if i < i0 then f i else f (i + 1)) < m
        split
        · have := h i (by omega)
          have : f i ≠ m := fun e => absurd (hi i i0 (by omega) h0 (e.trans e0.symm)) (by omega)
          omega
        · have := h (i + 1) (by omega)
          have : f (i + 1) ≠ m := fun e => absurd (hi (i + 1) i0 (by omega) h0 (e.trans e0.symm)) (by omega)
          omega) (fun i j h1 h2 e => by
        split at e <;> split at e
        · exact hi i j (by omega) (by omega) e
        · exact absurd (hi i (j + 1) (by omega) (by omega) e) (by omega)
        · exact absurd (hi (i + 1) j (by omega) (by omega) e) (by omega)
        · have := hi (i + 1) (j + 1) (by omega) (by omega) e; omega)
      omega
    · have z := pig m n f (fun i hlt => by have := h i hlt; have : f i ≠ m := fun e => c ⟨i, hlt, e⟩; omega) hi
      omega
theorem line_lt {N : Nat → Int32} (hw : WF N) {j : Nat} (hj : j < nv (N 3)) (hno : ∀ k, k < nv (N 4) → ¬ N (134 + k) = nI j) : nv (N 4) < 6 := by
  have b3 := hw.n3.2
  have z := pig (nv (N 3)) (nv (N 4) + 1) (fun i => if i < nv (N 4) then lnA N i else j) (fun i hi => by
    show (if i < nv (N 4) then lnA N i else j) < _
    split
    · exact hw.lb (by assumption)
    · exact hj) (fun i k h1 h2 e => by
    split at e <;> split at e
    · exact lin_inj hw i k (by assumption) (by assumption) e
    · exact absurd (by rw [(hw.li (by assumption)).1]; exact congrArg nI e) (hno i (by assumption))
    · exact absurd (by rw [(hw.li (by assumption)).1]; exact congrArg nI e.symm) (hno k (by assumption))
    · omega)
  omega
set_option maxHeartbeats 1000000 in
theorem t_start {G : Gl} {d : Nat} {S : Sh} {μ : Mu} {P o t q im : Nat} {kp : Option Nat} {x : Int32} (hI : Inv G S P o kp t q im μ) : X G mi_X9_start (d + 60) 0 0 [(0, .ref P), (1, .int x)] [] S μ (qi (fun an S1 μ1 => X G mi_X10_start (d + 60) 0 0 [(0, .ref o), (1, .int x)] [] S1 μ1 (qi (Eq2 G P o im an)))) := by
  obtain ⟨N, hN⟩ : ∃ N, μ (o + 1) = N := ⟨_, rfl⟩
  have hw : WF N := hN ▸ hI.wf
  have hr : repD μ (P + 1) N := hN ▸ hI.rep
  have lo := hI.lo
  have b1 := hw.n1.2
  have b2 := hw.n2.2
  have b3 := hw.n3.2
  have b4 := hw.n4.2
  have b5 := hw.n5.2
  have b6 := hw.n6.2
  have hun : ∀ r i r' i' p, On N r i p → On N r' i' p → r = r' ∧ i = i' := fun _ _ _ _ _ h1 h2 => hw.un h1 h2
  have hlu : ∀ k k', k < nv (N 4) → k' < nv (N 4) → N (134 + k) = N (134 + k') → k = k' := fun _ _ h1 h2 e => hw.lu h1 h2 e
  have hnz : nI 0 = 0 := rfl
  have hli : ∀ k, k < nv (N 4) → N (134 + k) = nI (nv (N (134 + k))) ∧ nv (N (134 + k)) < nv (N 3) := fun k h => hw.li h
  refine X_iload_n (tk_X9_start.at 0 rfl) rfl ?_
  refine X_cS1i (lv2 := [(0, _)]) (tk_X9_start.at 1 rfl) ms_X9_isMinute lk_x9_121 np_X9_isMinute (Nat.le_of_ble_eq_true rfl) (Nat.le_of_ble_eq_true rfl) rfl (c9_isMinute (fun h1 g1 => ?_) (fun h1 => ?_))
  · refine X_if_ne (tgt := 14) (tk_X9_start.at 2 rfl) (by decide) (fun _ => ?_) (fun h => absurd h (by decide))
    refine X_aload_n (tk_X9_start.at 7 rfl) rfl ?_
    refine X_getR (tk_X9_start.at 8 rfl) fl_x9_12 hI.P0 rfl rfl ?_
    refine X_getI (tk_X9_start.at 9 rfl) fl_x9_124 hI.D.1 rfl ?_
    refine X_istore_n (lv' := [(0, _), (1, _), (2, _)]) (tk_X9_start.at 10 rfl) (by decide) rfl rfl ?_
    refine X_aload_n (tk_X9_start.at 11 rfl) rfl ?_
    refine X_getR (tk_X9_start.at 12 rfl) fl_x9_12 hI.P0 rfl rfl ?_
    refine X_iload_n (tk_X9_start.at 13 rfl) rfl ?_
    refine X_putI (tk_X9_start.at 14 rfl) fl_x9_124 hI.D.1 rfl rfl ⟨rfl, rfl⟩ ?_
    refine X_iload_n (tk_X9_start.at 15 rfl) rfl ?_
    refine X_ireturn (tk_X9_start.at 16 rfl) rfl rfl ?_
    have hN2 : su μ (P + 1) 10 x (o + 1) = N := by rw [su_ne (by omega)]; exact hN
    refine c10_start hI.M (fun g => absurd ⟨h1, g1⟩ g) (fun _ _ => ⟨by rw [hN2]; exact hr.1.1.symm, ?_⟩)
    exact fin_u hI (Fn_now hI (fun a ha => su_ne (by omega))) hN2 (repD_start hw hr (fun a ha => su_ne ha) su_same (fun a ha => upd_ne _ _ ha) (upd_at _ _ _)) (WF_u0 hw (by have z := le_lits (a := 0) (b := 1439) (by decide) h1 g1 (by decide); exact ⟨z.1, z.2.2⟩))
  · refine X_if_ne (tgt := 14) (tk_X9_start.at 2 rfl) (by decide) (fun h => absurd h (by decide)) (fun _ => ?_)
    refine X_aload_n (tk_X9_start.at 3 rfl) rfl ?_
    refine X_ldc (tk_X9_start.at 4 rfl) kn_x9_76 ?_
    refine X_cV1i (lv2 := [(0, _), (1, _)]) (tk_X9_start.at 5 rfl) mv_X9_fail lk_x9_77 np_X9_fail hI.P0 (by decide) rfl (Nat.le_of_ble_eq_true rfl) (Nat.le_of_ble_eq_true rfl) rfl (c9_fail (k := 1) hI.P0 hI.E (by decide) (by decide) ?_)
    refine X_ireturn (tk_X9_start.at 6 rfl) rfl rfl ?_
    refine c10_start hI.M (fun _ => ⟨rfl, fin_e hI (Fs.rf hI) (Sq.rf _ _) rfl⟩) (fun g1 g2 => absurd ⟨g1, g2⟩ h1)
set_option maxHeartbeats 1000000 in
theorem t_seed {G : Gl} {d : Nat} {S : Sh} {μ : Mu} {P o t q im : Nat} {kp : Option Nat} {x : Int32} (hI : Inv G S P o kp t q im μ) : X G mi_X9_seed (d + 60) 0 0 [(0, .ref P), (1, .int x)] [] S μ (qi (fun an S1 μ1 => X G mi_X10_seed (d + 60) 0 0 [(0, .ref o), (1, .int x)] [] S1 μ1 (qi (Eq2 G P o im an)))) := by
  obtain ⟨N, hN⟩ : ∃ N, μ (o + 1) = N := ⟨_, rfl⟩
  have hw : WF N := hN ▸ hI.wf
  have hr : repD μ (P + 1) N := hN ▸ hI.rep
  have lo := hI.lo
  have b1 := hw.n1.2
  have b2 := hw.n2.2
  have b3 := hw.n3.2
  have b4 := hw.n4.2
  have b5 := hw.n5.2
  have b6 := hw.n6.2
  have hun : ∀ r i r' i' p, On N r i p → On N r' i' p → r = r' ∧ i = i' := fun _ _ _ _ _ h1 h2 => hw.un h1 h2
  have hlu : ∀ k k', k < nv (N 4) → k' < nv (N 4) → N (134 + k) = N (134 + k') → k = k' := fun _ _ h1 h2 e => hw.lu h1 h2 e
  have hnz : nI 0 = 0 := rfl
  have hli : ∀ k, k < nv (N 4) → N (134 + k) = nI (nv (N (134 + k))) ∧ nv (N (134 + k)) < nv (N 3) := fun k h => hw.li h
  refine X_aload_n (tk_X9_seed.at 0 rfl) rfl ?_
  refine X_getR (tk_X9_seed.at 1 rfl) fl_x9_12 hI.P0 rfl rfl ?_
  refine X_getI (tk_X9_seed.at 2 rfl) fl_x9_293 hI.D.1 rfl ?_
  refine X_istore_n (lv' := [(0, _), (1, _), (2, _)]) (tk_X9_seed.at 3 rfl) (by decide) rfl rfl ?_
  refine X_aload_n (tk_X9_seed.at 4 rfl) rfl ?_
  refine X_getR (tk_X9_seed.at 5 rfl) fl_x9_12 hI.P0 rfl rfl ?_
  refine X_iload_n (tk_X9_seed.at 6 rfl) rfl ?_
  refine X_putI (tk_X9_seed.at 7 rfl) fl_x9_293 hI.D.1 rfl rfl ⟨rfl, rfl⟩ ?_
  refine X_iload_n (tk_X9_seed.at 8 rfl) rfl ?_
  refine X_ireturn (tk_X9_seed.at 9 rfl) rfl rfl ?_
  have hN2 : su μ (P + 1) 11 x (o + 1) = N := by rw [su_ne (by omega)]; exact hN
  refine c10_seed hI.M ⟨by rw [hN2]; exact hr.1.2.symm, ?_⟩
  exact fin_u hI (Fn_now hI (fun a ha => su_ne (by omega))) hN2 (repD_z hw hr (fun a ha => su_ne ha) su_same (fun a ha => upd_ne _ _ ha) (upd_at _ _ _)) (WF_u7 hw x)
set_option maxHeartbeats 1000000 in
theorem t_clear {G : Gl} {d : Nat} {S : Sh} {μ : Mu} {P o t q im : Nat} {kp : Option Nat} (hI : Inv G S P o kp t q im μ) : X G mi_X9_clear (d + 60) 0 0 [(0, .ref P)] [] S μ (qi (fun an S1 μ1 => X G mi_X10_clear (d + 60) 0 0 [(0, .ref o)] [] S1 μ1 (qi (Eq2 G P o im an)))) := by
  obtain ⟨N, hN⟩ : ∃ N, μ (o + 1) = N := ⟨_, rfl⟩
  have hw : WF N := hN ▸ hI.wf
  have hr : repD μ (P + 1) N := hN ▸ hI.rep
  have lo := hI.lo
  have b1 := hw.n1.2
  have b2 := hw.n2.2
  have b3 := hw.n3.2
  have b4 := hw.n4.2
  have b5 := hw.n5.2
  have b6 := hw.n6.2
  have hun : ∀ r i r' i' p, On N r i p → On N r' i' p → r = r' ∧ i = i' := fun _ _ _ _ _ h1 h2 => hw.un h1 h2
  have hlu : ∀ k k', k < nv (N 4) → k' < nv (N 4) → N (134 + k) = N (134 + k') → k = k' := fun _ _ h1 h2 e => hw.lu h1 h2 e
  have hnz : nI 0 = 0 := rfl
  have hli : ∀ k, k < nv (N 4) → N (134 + k) = nI (nv (N (134 + k))) ∧ nv (N (134 + k)) < nv (N 3) := fun k h => hw.li h
  refine X_aload_n (tk_X9_clear.at 0 rfl) rfl ?_
  refine X_getR (tk_X9_clear.at 1 rfl) fl_x9_12 hI.P0 rfl rfl ?_
  refine X_getR (tk_X9_clear.at 2 rfl) fl_x9_146 hI.D.1 rfl rfl ?_
  refine X_cV0i (lv2 := [(0, _)]) (tk_X9_clear.at 3 rfl) mv_X6_size lk_x9_142 np_X6_size hI.D.2.2.2.2.1.1 (by decide) rfl (Nat.le_of_ble_eq_true rfl) (Nat.le_of_ble_eq_true rfl) rfl (d_lsz hI.D hw hr ?_)
  refine X_istore_n (lv' := [(0, _), (1, _)]) (tk_X9_clear.at 4 rfl) (by decide) rfl rfl ?_
  refine X_aload_n (tk_X9_clear.at 5 rfl) rfl ?_
  refine X_getR (tk_X9_clear.at 6 rfl) fl_x9_12 hI.P0 rfl rfl ?_
  refine X_getR (tk_X9_clear.at 7 rfl) fl_x9_146 hI.D.1 rfl rfl ?_
  refine X_cV0v (lv2 := [(0, _)]) (tk_X9_clear.at 8 rfl) mv_X6_empty lk_x9_211 np_X6_empty hI.D.2.2.2.2.1.1 (by decide) rfl (Nat.le_of_ble_eq_true rfl) (Nat.le_of_ble_eq_true rfl) rfl (c6_empty (n := 0) hI.D.2.2.2.2.1 ?_)
  refine X_iload_n (tk_X9_clear.at 9 rfl) rfl ?_
  refine X_ireturn (tk_X9_clear.at 10 rfl) rfl rfl ?_
  have hN2 : su μ (P + 1 + 7) 1 0 (o + 1) = N := by rw [su_ne (by omega)]; exact hN
  refine c10_clear hI.M ⟨by rw [hN2]; exact hw.n4.1, ?_⟩
  exact fin_u hI (Fn_now hI (fun a ha => su_ne (by omega))) hN2 (repD_line hw hr (fun a h1 h2 => su_ne h1) (fun a h1 h2 => upd_ne _ _ h1) ⟨by rw [su_same, upd_at, upd_at], fun i hi => absurd hi (by rw [upd_at]; exact Nat.not_lt_zero i)⟩) (WF_lin hw (n := 0) (by decide) (fun a h1 h2 => upd_ne _ _ h1) (upd_at _ _ _) (fun k hk => absurd hk (Nat.not_lt_zero k)) (fun k k' hk => absurd hk (Nat.not_lt_zero k)))
set_option maxHeartbeats 1000000 in
theorem t_join {G : Gl} {d : Nat} {S : Sh} {μ : Mu} {P o t q im : Nat} {kp : Option Nat} {r : Int32} (hI : Inv G S P o kp t q im μ) : X G mi_X9_join (d + 60) 0 0 [(0, .ref P), (1, .int r)] [] S μ (qi (fun an S1 μ1 => X G mi_X10_join (d + 60) 0 0 [(0, .ref o), (1, .int r)] [] S1 μ1 (qi (Eq2 G P o im an)))) := by
  obtain ⟨N, hN⟩ : ∃ N, μ (o + 1) = N := ⟨_, rfl⟩
  have hw : WF N := hN ▸ hI.wf
  have hr : repD μ (P + 1) N := hN ▸ hI.rep
  have lo := hI.lo
  have b1 := hw.n1.2
  have b2 := hw.n2.2
  have b3 := hw.n3.2
  have b4 := hw.n4.2
  have b5 := hw.n5.2
  have b6 := hw.n6.2
  have hun : ∀ r i r' i' p, On N r i p → On N r' i' p → r = r' ∧ i = i' := fun _ _ _ _ _ h1 h2 => hw.un h1 h2
  have hlu : ∀ k k', k < nv (N 4) → k' < nv (N 4) → N (134 + k) = N (134 + k') → k = k' := fun _ _ h1 h2 e => hw.lu h1 h2 e
  have hnz : nI 0 = 0 := rfl
  have hli : ∀ k, k < nv (N 4) → N (134 + k) = nI (nv (N (134 + k))) ∧ nv (N (134 + k)) < nv (N 3) := fun k h => hw.li h
  refine X_aload_n (tk_X9_join.at 0 rfl) rfl ?_
  refine X_getR (tk_X9_join.at 1 rfl) fl_x9_12 hI.P0 rfl rfl ?_
  refine X_getR (tk_X9_join.at 2 rfl) fl_x9_127 hI.D.1 rfl rfl ?_
  refine X_iload_n (tk_X9_join.at 3 rfl) rfl ?_
  refine X_cV1i (lv2 := [(0, _), (1, _)]) (tk_X9_join.at 4 rfl) mv_X3_has lk_x9_70 np_X3_has hI.D.2.2.2.1.1 (by decide) rfl (Nat.le_of_ble_eq_true rfl) (Nat.le_of_ble_eq_true rfl) rfl (d_ohas hI.D hw hr (fun j8 hj8 ej8 => ?_) (fun hj8 => ?_))
  · refine X_if_ne (tgt := 21) (tk_X9_join.at 5 rfl) (by decide) (fun _ => ?_) (fun h => absurd h (by decide))
    refine X_aload_n (tk_X9_join.at 10 rfl) rfl ?_
    refine X_getR (tk_X9_join.at 11 rfl) fl_x9_12 hI.P0 rfl rfl ?_
    refine X_iload_n (tk_X9_join.at 12 rfl) rfl ?_
    refine X_cV1i (lv2 := [(0, _), (1, _)]) (tk_X9_join.at 13 rfl) mv_X2_isInLine lk_x9_221 np_X2_isInLine hI.D.1 (by decide) rfl (Nat.le_of_ble_eq_true rfl) (Nat.le_of_ble_eq_true rfl) rfl (c2_isInLine hI.D hw hr (fun k26 hk26 h26 => ?_) (fun h26 => ?_))
    · refine X_if_eq (tgt := 39) (tk_X9_join.at 14 rfl) (by decide) (fun h => absurd h (by decide)) (fun _ => ?_)
      refine X_aload_n (tk_X9_join.at 15 rfl) rfl ?_
      refine X_ldc (tk_X9_join.at 16 rfl) kn_x9_130 ?_
      refine X_cV1i (lv2 := [(0, _), (1, _)]) (tk_X9_join.at 17 rfl) mv_X9_fail lk_x9_77 np_X9_fail hI.P0 (by decide) rfl (Nat.le_of_ble_eq_true rfl) (Nat.le_of_ble_eq_true rfl) rfl (c9_fail (k := 3) hI.P0 hI.E (by decide) (by decide) ?_)
      refine X_ireturn (tk_X9_join.at 18 rfl) rfl rfl ?_
      refine n10_join (N := N) hI.M (by rw [su_ne (by omega)]; exact hN) hw (by intros; first | (exfalso; grind [In, On, nI_eq]) | exact ⟨by grind [In, On, nI_eq], fin_e hI (Fs.rf hI) (Sq.rf _ _) rfl⟩) (by intros; first | (exfalso; grind [In, On, nI_eq]) | exact ⟨by grind [In, On, nI_eq], fin_e hI (Fs.rf hI) (Sq.rf _ _) rfl⟩) (by intros; first | (exfalso; grind [In, On, nI_eq]) | exact ⟨by grind [In, On, nI_eq], fin_e hI (Fs.rf hI) (Sq.rf _ _) rfl⟩)
    · refine X_if_eq (tgt := 39) (tk_X9_join.at 14 rfl) (by decide) (fun _ => ?_) (fun h => absurd h (by decide))
      refine X_aload_n (tk_X9_join.at 19 rfl) rfl ?_
      refine X_getR (tk_X9_join.at 20 rfl) fl_x9_12 hI.P0 rfl rfl ?_
      refine X_getR (tk_X9_join.at 21 rfl) fl_x9_146 hI.D.1 rfl rfl ?_
      refine X_iload_n (tk_X9_join.at 22 rfl) rfl ?_
      refine X_cV1v (lv2 := [(0, _), (1, _)]) (tk_X9_join.at 23 rfl) mv_X6_add lk_x9_139 np_X6_add hI.D.2.2.2.2.1.1 (by decide) rfl (Nat.le_of_ble_eq_true rfl) (Nat.le_of_ble_eq_true rfl) rfl (c6_add hI.D.2.2.2.2.1 (rD_line hw hr) (by omega) (by decide) (fun hlt0 => ?_) (fun g => absurd g (by have := line_lt hw hj8 (fun k hk e => h26 k hk (e.trans ej8.symm)); omega)))
      generalize eν : su (su μ ((P + 1 + 7) + 1) (nv (N 4)) r) (P + 1 + 7) 1 (nI ((nv (N 4)) + 1)) = ν
      have fν : ∀ a, a ≠ (P + 1 + 7) → a ≠ (P + 1 + 7) + 1 → ν a = μ a := fun a h1 h2 => by rw [← eν, su_ne h1, su_ne h2]
      have sν : ν (P + 1 + 7) 1 = nI ((nv (N 4)) + 1) := by rw [← eν, su_same]; exact upd_at _ _ _
      have cν : ν ((P + 1 + 7) + 1) = upd (μ ((P + 1 + 7) + 1)) (nv (N 4)) r := by rw [← eν, su_ne (by omega), su_same]
      have hNν : ν (o + 1) = N := by rw [fν _ (by omega) (by omega)]; exact hN
      refine X_aload_n (tk_X9_join.at 24 rfl) rfl ?_
      refine X_getR (tk_X9_join.at 25 rfl) fl_x9_12 hI.P0 rfl rfl ?_
      refine X_getR (tk_X9_join.at 26 rfl) fl_x9_146 hI.D.1 rfl rfl ?_
      refine X_cV0i (lv2 := [(0, _)]) (tk_X9_join.at 27 rfl) mv_X6_size lk_x9_142 np_X6_size hI.D.2.2.2.2.1.1 (by decide) rfl (Nat.le_of_ble_eq_true rfl) (Nat.le_of_ble_eq_true rfl) rfl (c6_size (n := nv (N 4) + 1) hI.D.2.2.2.2.1 sν (by omega) (by decide) ?_)
      refine X_iconst (tk_X9_join.at 28 rfl) ci_1 ?_
      refine X_isub (tk_X9_join.at 29 rfl) ?_
      refine X_ireturn (tk_X9_join.at 30 rfl) rfl rfl ?_
      rw [show nI (nv (N 4) + 1) - 1 = nI (nv (N 4)) from nI_pred _]
      refine n10_join (N := N) hI.M hNν hw (by intros; first | (exfalso; grind [In, On, nI_eq]) | exact ⟨by grind [In, On, nI_eq], fin_s hI hFs (by first | exact Tst_sy.sx | assumption | exact Sq.rf _ _) (by first | exact Tst1 _ _ _ _ _ _ _ | rfl | grind)⟩) (by intros; first | (exfalso; grind [In, On, nI_eq]) | exact ⟨by grind [In, On, nI_eq], fin_s hI hFs (by first | exact Tst_sy.sx | assumption | exact Sq.rf _ _) (by first | exact Tst1 _ _ _ _ _ _ _ | rfl | grind)⟩) (fun a ha ea hno => ⟨rfl, ?_⟩)
      have ou : ∀ a, a ≠ 4 → (a < 134 ∨ 140 ≤ a) → (upd (upd N (134 + nv (N 4)) r) 4 (nI (nv (N 4) + 1))) a = N a := fun a h1 h2 => by rw [upd_ne _ _ h1, upd_ne _ _ (by omega)]
      have e4 : (upd (upd N (134 + nv (N 4)) r) 4 (nI (nv (N 4) + 1))) 4 = nI (nv (N 4) + 1) := upd_at _ _ _
      have ln : ∀ k, k < nv (N 4) + 1 → (upd (upd N (134 + nv (N 4)) r) 4 (nI (nv (N 4) + 1))) (134 + k) = if k = nv (N 4) then r else N (134 + k) := fun k hk => by rw [upd_ne _ _ (by omega)]; by_cases e : k = nv (N 4); rw [e, upd_at, if_pos rfl]; rw [upd_ne _ _ (by omega), if_neg e]
      refine fin_d hI (Fn_now hI (fun a ha => fν a (by omega) (by omega))) (repD_line hw hr (fun a h1 h2 => fν a h1 h2) ou ⟨sν.trans e4.symm, fun i hi => ?_⟩) (WF_lin hw (n := nv (N 4) + 1) (by omega) ou e4 (fun k hk => ?_) (fun k k' hk hk' e => ?_))
      · rw [e4, nv_nI (by omega)] at hi
        dsimp only
        rw [show P + 1 + 7 + 1 = P + 1 + 7 + 1 from rfl, cν, ln i hi]
        by_cases e : i = nv (N 4)
        · rw [e, upd_at, if_pos rfl]
        · rw [upd_ne _ _ e, if_neg e]; exact hr.2.2.2.2.1.2 i (by omega)
      · rw [ln k hk]
        by_cases e : k = nv (N 4)
        · rw [if_pos e, ej8, nv_nI (by omega)]; exact ⟨rfl, hj8⟩
        · rw [if_neg e]; exact hw.li (by omega)
      · rw [ln k hk, ln k' hk'] at e
        by_cases e1 : k = nv (N 4)
        · by_cases e2 : k' = nv (N 4)
          · omega
          · rw [if_pos e1, if_neg e2, ej8] at e; exact absurd e.symm (h26 k' (by omega) |> fun z g => z (g.trans ej8.symm))
        · by_cases e2 : k' = nv (N 4)
          · rw [if_neg e1, if_pos e2] at e; exact absurd e (h26 k (by omega))
          · rw [if_neg e1, if_neg e2] at e; exact hw.lu (by omega) (by omega) e
  · refine X_if_ne (tgt := 21) (tk_X9_join.at 5 rfl) (by decide) (fun h => absurd h (by decide)) (fun _ => ?_)
    refine X_aload_n (tk_X9_join.at 6 rfl) rfl ?_
    refine X_ldc (tk_X9_join.at 7 rfl) kn_x9_76 ?_
    refine X_cV1i (lv2 := [(0, _), (1, _)]) (tk_X9_join.at 8 rfl) mv_X9_fail lk_x9_77 np_X9_fail hI.P0 (by decide) rfl (Nat.le_of_ble_eq_true rfl) (Nat.le_of_ble_eq_true rfl) rfl (c9_fail (k := 1) hI.P0 hI.E (by decide) (by decide) ?_)
    refine X_ireturn (tk_X9_join.at 9 rfl) rfl rfl ?_
    refine n10_join (N := N) hI.M (by rw [su_ne (by omega)]; exact hN) hw (by intros; first | (exfalso; grind [In, On, nI_eq]) | exact ⟨by grind [In, On, nI_eq], fin_e hI (Fs.rf hI) (Sq.rf _ _) rfl⟩) (by intros; first | (exfalso; grind [In, On, nI_eq]) | exact ⟨by grind [In, On, nI_eq], fin_e hI (Fs.rf hI) (Sq.rf _ _) rfl⟩) (by intros; first | (exfalso; grind [In, On, nI_eq]) | exact ⟨by grind [In, On, nI_eq], fin_e hI (Fs.rf hI) (Sq.rf _ _) rfl⟩)
set_option maxHeartbeats 1000000 in
theorem t_tell {G : Gl} {d : Nat} {S : Sh} {μ : Mu} {P o t q im : Nat} {kp : Option Nat} {v : Int32} (hI : Inv G S P o kp t q im μ) : X G mi_X9_tell (d + 60) 0 0 [(0, .ref P), (1, .int v)] [] S μ (qi (fun an S1 μ1 => X G mi_X10_tell (d + 60) 0 0 [(0, .ref o), (1, .int v)] [] S1 μ1 (qi (Eq2 G P o im an)))) := by
  obtain ⟨N, hN⟩ : ∃ N, μ (o + 1) = N := ⟨_, rfl⟩
  have hw : WF N := hN ▸ hI.wf
  have hr : repD μ (P + 1) N := hN ▸ hI.rep
  have lo := hI.lo
  have b1 := hw.n1.2
  have b2 := hw.n2.2
  have b3 := hw.n3.2
  have b4 := hw.n4.2
  have b5 := hw.n5.2
  have b6 := hw.n6.2
  have hun : ∀ r i r' i' p, On N r i p → On N r' i' p → r = r' ∧ i = i' := fun _ _ _ _ _ h1 h2 => hw.un h1 h2
  have hlu : ∀ k k', k < nv (N 4) → k' < nv (N 4) → N (134 + k) = N (134 + k') → k = k' := fun _ _ h1 h2 e => hw.lu h1 h2 e
  have hnz : nI 0 = 0 := rfl
  have hli : ∀ k, k < nv (N 4) → N (134 + k) = nI (nv (N (134 + k))) ∧ nv (N (134 + k)) < nv (N 3) := fun k h => hw.li h
  refine X_aload_n (tk_X9_tell.at 0 rfl) rfl ?_
  refine X_getR (tk_X9_tell.at 1 rfl) fl_x9_12 hI.P0 rfl rfl ?_
  refine X_getR (tk_X9_tell.at 2 rfl) fl_x9_320 hI.D.1 rfl rfl ?_
  refine X_cV0i (lv2 := [(0, _)]) (tk_X9_tell.at 3 rfl) mv_X6_isFull lk_x9_135 np_X6_isFull hI.D.2.2.2.2.2.2.1.1 (by decide) rfl (Nat.le_of_ble_eq_true rfl) (Nat.le_of_ble_eq_true rfl) rfl (c6_isFull hI.D.2.2.2.2.2.2.1 (rD_wait hw hr) (by omega) (by decide) (fun hfull => ?_) (fun hfull => ?_))
  · refine X_if_eq (tgt := 20) (tk_X9_tell.at 4 rfl) (by decide) (fun h => absurd h (by decide)) (fun _ => ?_)
    refine X_aload_n (tk_X9_tell.at 5 rfl) rfl ?_
    refine X_ldc (tk_X9_tell.at 6 rfl) kn_x9_138 ?_
    refine X_cV1i (lv2 := [(0, _), (1, _)]) (tk_X9_tell.at 7 rfl) mv_X9_fail lk_x9_77 np_X9_fail hI.P0 (by decide) rfl (Nat.le_of_ble_eq_true rfl) (Nat.le_of_ble_eq_true rfl) rfl (c9_fail (k := 4) hI.P0 hI.E (by decide) (by decide) ?_)
    refine X_ireturn (tk_X9_tell.at 8 rfl) rfl rfl ?_
    refine n10_tell (N := N) hI.M (by rw [su_ne (by omega)]; exact hN) hw (by intros; first | (exfalso; grind [In, On, nI_eq]) | exact ⟨by grind [In, On, nI_eq], fin_e hI (Fs.rf hI) (Sq.rf _ _) rfl⟩) (by intros; first | (exfalso; grind [In, On, nI_eq]) | exact ⟨by grind [In, On, nI_eq], fin_e hI (Fs.rf hI) (Sq.rf _ _) rfl⟩)
  · refine X_if_eq (tgt := 20) (tk_X9_tell.at 4 rfl) (by decide) (fun _ => ?_) (fun h => absurd h (by decide))
    refine X_aload_n (tk_X9_tell.at 9 rfl) rfl ?_
    refine X_getR (tk_X9_tell.at 10 rfl) fl_x9_12 hI.P0 rfl rfl ?_
    refine X_getR (tk_X9_tell.at 11 rfl) fl_x9_320 hI.D.1 rfl rfl ?_
    refine X_iload_n (tk_X9_tell.at 12 rfl) rfl ?_
    refine X_cV1v (lv2 := [(0, _), (1, _)]) (tk_X9_tell.at 13 rfl) mv_X6_add lk_x9_139 np_X6_add hI.D.2.2.2.2.2.2.1.1 (by decide) rfl (Nat.le_of_ble_eq_true rfl) (Nat.le_of_ble_eq_true rfl) rfl (c6_add hI.D.2.2.2.2.2.2.1 (rD_wait hw hr) (by omega) (by decide) (fun hlt0 => ?_) (fun g => absurd g (by omega)))
    generalize eν : su (su μ ((P + 1 + 11) + 1) (nv (N 6)) v) (P + 1 + 11) 1 (nI ((nv (N 6)) + 1)) = ν
    have fν : ∀ a, a ≠ (P + 1 + 11) → a ≠ (P + 1 + 11) + 1 → ν a = μ a := fun a h1 h2 => by rw [← eν, su_ne h1, su_ne h2]
    have sν : ν (P + 1 + 11) 1 = nI ((nv (N 6)) + 1) := by rw [← eν, su_same]; exact upd_at _ _ _
    have cν : ν ((P + 1 + 11) + 1) = upd (μ ((P + 1 + 11) + 1)) (nv (N 6)) v := by rw [← eν, su_ne (by omega), su_same]
    have hNν : ν (o + 1) = N := by rw [fν _ (by omega) (by omega)]; exact hN
    refine X_aload_n (tk_X9_tell.at 14 rfl) rfl ?_
    refine X_getR (tk_X9_tell.at 15 rfl) fl_x9_12 hI.P0 rfl rfl ?_
    refine X_getR (tk_X9_tell.at 16 rfl) fl_x9_320 hI.D.1 rfl rfl ?_
    refine X_cV0i (lv2 := [(0, _)]) (tk_X9_tell.at 17 rfl) mv_X6_size lk_x9_142 np_X6_size hI.D.2.2.2.2.2.2.1.1 (by decide) rfl (Nat.le_of_ble_eq_true rfl) (Nat.le_of_ble_eq_true rfl) rfl (c6_size (n := nv (N 6) + 1) hI.D.2.2.2.2.2.2.1 sν (by omega) (by decide) ?_)
    refine X_ireturn (tk_X9_tell.at 18 rfl) rfl rfl ?_
    refine n10_tell (N := N) hI.M hNν hw (fun g => absurd g (by omega)) (fun _ => ⟨rfl, ?_⟩)
    have ou : ∀ a, a ≠ 6 → (a < 190 ∨ 210 ≤ a) → (upd (upd N (190 + nv (N 6)) v) 6 (nI (nv (N 6) + 1))) a = N a := fun a h1 h2 => by rw [upd_ne _ _ h1, upd_ne _ _ (by omega)]
    have e6 : (upd (upd N (190 + nv (N 6)) v) 6 (nI (nv (N 6) + 1))) 6 = nI (nv (N 6) + 1) := upd_at _ _ _
    refine fin_d hI (Fn_now hI (fun a ha => fν a (by omega) (by omega))) (repD_wait hw hr (fun a h1 h2 => fν a h1 h2) ou ⟨sν.trans e6.symm, fun i hi => ?_⟩) (WF_ext (fun a ha => ou a (by omega) (by omega)) (by rw [ou 0 (by omega) (by omega)]; exact hw.n0) (by rw [e6]; exact okN_of (by omega) (by decide)) hw)
    rw [e6, nv_nI (by omega)] at hi
    dsimp only
    rw [cν]
    by_cases e : i = nv (N 6)
    · rw [e, upd_at, upd_ne _ _ (by omega), upd_at]
    · rw [upd_ne _ _ e, upd_ne _ _ (by omega), upd_ne _ _ (by omega)]; exact hr.2.2.2.2.2.2.1.2 i (by omega)
