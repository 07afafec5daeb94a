theorem N0_at (k : Nat) (h0 : k ≠ 0) (h7 : k ≠ 7) : N0 k = 0 := by
  unfold N0; rw [if_neg h0, if_neg h7]
theorem nv_N0 (k : Nat) (h0 : k ≠ 0) (h7 : k ≠ 7) : nv (N0 k) = 0 := by
  rw [N0_at k h0 h7]; rfl
theorem okN_0 (b : Nat) : okN 0 b := ⟨rfl, Nat.zero_le _⟩
theorem okN_N0 (k b : Nat) (h0 : k ≠ 0) (h7 : k ≠ 7) : okN (N0 k) b := by
  rw [N0_at k h0 h7]; exact okN_0 b
theorem no_N0 {k i : Nat} (h0 : k ≠ 0) (h7 : k ≠ 7) {A : Prop} (h : i < nv (N0 k)) : A := by
  rw [nv_N0 k h0 h7] at h; exact absurd h (Nat.not_lt_zero i)
theorem WF_N0 : WF N0 := by
  refine ⟨⟨okN_of (n := 60) (by decide) (by decide), okN_N0 1 _ (by decide) (by decide), okN_N0 2 _ (by decide) (by decide), okN_N0 3 _ (by decide) (by decide), okN_N0 4 _ (by decide) (by decide), okN_N0 5 _ (by decide) (by decide), okN_N0 6 _ (by decide) (by decide)⟩, fun p h => no_N0 (by decide) (by decide) h, fun p h => no_N0 (by decide) (by decide) h, fun p h => no_N0 (by decide) (by decide) h, fun r i r' i' p h _ => no_N0 (by decide) (by decide) h.1, fun k h => no_N0 (by decide) (by decide) h, fun k k' h _ _ => no_N0 (by decide) (by decide) h, fun k h => no_N0 (by decide) (by decide) h, fun u hu => ⟨okN_N0 _ _ (by omega) (by omega), ⟨fun k h => no_N0 (by omega) (by omega) h, fun h => no_N0 (by omega) (by omega) h⟩⟩⟩
theorem stL_4 {j : Nat} (h : j < 6) : stL j = 4 := by
  unfold stL; rw [if_neg (by omega), if_neg (by omega)]
set_option maxHeartbeats 1000000 in
theorem Inv_0 {G : Gl} {P : Nat} {S S1 S2 : Sh} {μ μ1 μ2 : Mu} (hSt : Sta G S μ) (hTx : TxB G S μ) (h1 : ∀ j, j < 8 → G.2.2.2 j < P) (h2 : ∀ v, v < 2 → G.2.2.2 (11 + v) < P ∧ G.2.2.2 (11 + v + 20) < P) (f1 : ∀ a, a < P → S1.2 a = S.2 a) (g1 : ∀ a, a < P → μ1 a = μ a) (pPS : PS G S1 P none (P + 80 + 3) (G.2.2.2 10)) (pR : repD μ1 (P + 1) N0) (p8 : μ1 P 8 = 0) (pN : μ1 (P + 39 + 3 + 14) 1 = 0) (pV : μ1 (P + 85 + 1) 1 = 0) (pE : ∀ i, μ1 (P + 89) i = 0) (pH : ∀ s, s < 4 → μ1 (P + 90 + 2 * s) 1 = 0 ∧ μ1 (P + 90 + 2 * s) 2 = 0 ∧ ∀ j, μ1 (P + 90 + 2 * s + 1) j = 0) (fS : ∀ a, a < P + 98 → S2.2 a = S1.2 a) (fM : ∀ a, a < P + 98 → μ2 a = μ1 a) (m1 : MS S2 (P + 98) (fun u => G.2.2.2 (11 + u))) (m2 : μ2 (P + 98 + 1) = N0) (m3 : ∀ k, μ2 (P + 98) k = 0) (m4 : ∀ i, μ2 (P + 98 + 4) i = 0) (m5 : ∀ i, μ2 (P + 98 + 14) i = 0) (m6 : ∀ i, μ2 (P + 98 + 15) i = 0) (m7 : ∀ i, μ2 (P + 98 + 16) i = 0) : Inv G S2 P (P + 98) none (P + 80 + 3) (G.2.2.2 10) 0 μ2 := by
  obtain ⟨a0, aD, aX, aO, aR, aV, a88, a89, aH⟩ := pPS
  have es : ∀ j, j < 6 → S2.2 (G.2.2.2 j) = S1.2 (G.2.2.2 j) := fun j hj => fS _ (by have := h1 j (by omega); omega)
  have pps : PS G S2 P none (P + 80 + 3) (G.2.2.2 10) := ⟨(fS P (by omega)).trans a0, aD.fr (fun a _ _ => fS a (by omega)) es, aX.fr (fun a _ _ => fS a (by omega)), aO.fr (fun a _ _ => fS a (by omega)) es, ⟨(fS _ (by omega)).trans aR.1, aR.2.fr (fS _ (by omega)) (fS _ (by omega))⟩, ⟨(fS _ (by omega)).trans aV.1, aV.2.fr (fS _ (by omega)) (fS _ (by omega))⟩, (fS _ (by omega)).trans a88, (fS _ (by omega)).trans a89, fun i hi => ⟨(fS _ (by omega)).trans (aH i hi).1, (fS _ (by omega)).trans (aH i hi).2⟩⟩
  refine ⟨⟨pps, m1, Nat.le_refl _, h1, h2, fun k hk => by cases hk⟩, ⟨⟨fun j hj => ⟨?_, fun i hi => ?_⟩, fun u hu => ⟨?_, ?_, fun i hi => ?_⟩⟩, fun k _ _ => ?_, ⟨?_, m3 3, fun _ => rfl, fun k hk => by cases hk⟩, ⟨0, Nat.zero_le _, ?_, m3 22, fun i hi => absurd hi (Nat.not_lt_zero i)⟩, fun s hs => ⟨?_, ?_, ?_, ?_, fun i hi => ?_⟩, ?_, m3 5⟩, ?_, ?_⟩
  · have z := h1 j hj
    rw [fS _ (by omega), f1 _ z]; exact (hSt j hj).1
  · have z := h1 j hj
    rw [fM _ (by omega), g1 _ z]; exact (hSt j hj).2 i hi
  · have z := h2 u hu
    rw [fS _ (by omega), f1 _ z.1]; exact (hTx u hu).1
  · have z := h2 u hu
    rw [fS _ (by omega), f1 _ z.2]; exact (hTx u hu).2.1
  · have z := h2 u hu
    rw [fM _ (by omega), g1 _ z.2]; exact (hTx u hu).2.2 i hi
  · rw [fM _ (by omega), pE k, m4 k]
  · rw [fM _ (by omega)]; exact p8
  · rw [fM _ (by omega)]; exact pV
  · exact Or.inl (m5 s)
  · rw [fM _ (by omega), m5 s]; exact (pH s hs).1
  · rw [m6 s]; exact okN_0 40
  · rw [fM _ (by omega), m6 s]; exact (pH s hs).2.1
  · rw [fM _ (by omega), m7]; exact (pH s hs).2.2 i
  · rw [fM _ (by omega)]; exact pN
  · rw [m2]; exact repD_of pR (fun a _ _ => fM a (by omega))
  · rw [m2]; exact WF_N0
set_option maxHeartbeats 1000000 in
theorem L_all {G : Gl} {d b L fm : Nat} {S : Sh} {μ : Mu} {xs : Nat → Int32} (hs : Scr G b L xs) (hL : L ≤ 384) (hF : Fmt G fm) (hSt : Sta G S μ) (hTx : TxB G S μ) (h1 : ∀ j, j < 8 → G.2.2.2 j < S.1) (h2 : ∀ v, v < 2 → G.2.2.2 (11 + v) < S.1 ∧ G.2.2.2 (11 + v + 20) < S.1) : X G mi_L (d + 61) 2164 0 [(0, .ref b)] [] S μ (qi (fun r _ _ => r = 1)) := by
  obtain ⟨P, hP⟩ : ∃ P, S.1 = P := ⟨_, rfl⟩
  rw [hP] at h1 h2
  refine X_sub (rest := []) (kc := 2066) (d := d + 60) (ci := 9) (n := 97) (A := P) (F := fun S' μ' => PS G S' P none (P + 80 + 3) (G.2.2.2 10) ∧ repD μ' (P + 1) N0 ∧ μ' P 8 = 0 ∧ μ' (P + 39 + 3 + 14) 1 = 0 ∧ μ' (P + 85 + 1) 1 = 0 ∧ (∀ i, μ' (P + 89) i = 0) ∧ ∀ s, s < 4 → μ' (P + 90 + 2 * s) 1 = 0 ∧ μ' (P + 90 + 2 * s) 2 = 0 ∧ ∀ j, μ' (P + 90 + 2 * s + 1) j = 0) (tk_L.at 0 rfl) (tk_L.at 1 rfl) (by decide) cl_l_7 io_9 in_9 df_9 (tk_L.at 2 rfl) mn_X9_init lk_l_9 np_X9_init (Nat.le_of_ble_eq_true rfl) (Nat.le_of_ble_eq_true rfl) hP (fun T τ e1 e2 e3 e4 => i9 (d := d + 54) e1 e2 (fun j hj => ⟨h1 j (by omega), by rw [e3 _ (h1 j (by omega)), (hSt j (by omega)).1, stL_4 hj]⟩) (fun S' μ' a b c e f g h k => ⟨a, b, c, e, f, g, h, k⟩)) (fun S1 μ1 n1 f1 g1 q1 => ?_)
  obtain ⟨pPS, pR, p8, pN, pV, pE, pH⟩ := q1
  refine X_astore_n (lv' := [(0, _), (1, _)]) (tk_L.at 3 rfl) (by decide) rfl rfl ?_
  refine X_mk (kc := 2065) (ci := 10) (A := P + 98) (tk_L.at 4 rfl) (by decide) cl_l_10 io_10 in_10 df_10 (by rw [n1]) (fun T τ e1 e2 e3 e4 e5 => ?_)
  refine X_dup (tk_L.at 5 rfl) rfl ?_
  refine X_callI (As := []) (rest := [.ref (P + 98)]) (Q' := qv (fun S' μ' => Nw T S' τ μ' (P + 98) 17 ∧ MS S' (P + 98) (fun u => G.2.2.2 (11 + u)) ∧ μ' (P + 98 + 1) = N0 ∧ (∀ k, μ' (P + 98) k = 0) ∧ (∀ i, μ' (P + 98 + 4) i = 0) ∧ (∀ i, μ' (P + 98 + 14) i = 0) ∧ (∀ i, μ' (P + 98 + 15) i = 0) ∧ ∀ i, μ' (P + 98 + 16) i = 0)) (kd := 17) (n := 2048) (tk_L.at 6 rfl) mn_X10_init lk_l_12 np_X10_init rfl (Nat.le_of_ble_eq_true rfl) (Nat.le_of_ble_eq_true rfl) rfl (i10 (d := d + 59) e1 e2 e5 (fun u hu => ⟨by have := (h2 u hu).1; omega, by rw [e3 _ (by have := (h2 u hu).1; omega), f1 _ (h2 u hu).1]; exact (hTx u hu).1⟩) (fun S' μ' a b c e f g h k => ⟨a, b, c, e, f, g, h, k⟩)) (fun v S2 μ2 hq => ?_)
  obtain ⟨rfl, hN, m1, m2, m3, m4, m5, m6, m7⟩ := hq
  refine X_astore_n (lv' := [(0, _), (1, _), (2, _)]) (tk_L.at 7 rfl) (by decide) rfl rfl ?_
  refine X_iconst (tk_L.at 8 rfl) ci_0 ?_
  refine X_istore_n (lv' := lvL b P (P + 98) 0) (tk_L.at 9 rfl) (by decide) rfl rfl ?_
  exact L_loop hs hL hF 64 0 0 S2 μ2 (by decide) (by omega) (by decide) ⟨none, P + 80 + 3, G.2.2.2 10, Inv_0 hSt hTx h1 h2 f1 g1 pPS pR p8 pN pV pE pH (fun a h => (hN.2.1 a h).trans (e3 a h)) (fun a h => (hN.2.2 a h).trans (e4 a h)) m1 m2 m3 m4 m5 m6 m7⟩
