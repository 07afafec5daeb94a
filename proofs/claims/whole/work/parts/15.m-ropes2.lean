set_option maxHeartbeats 1000000 in
theorem c10_tie {G : Gl} {d : Nat} {S : Sh} {μ : Mu} {o : Nat} {q : Nat → Nat} {r p : Int32} {K : Int32 → Sh → Mu → Prop} (hM : MS S o q) (hw : WF (μ (o + 1))) (k1 : ¬ (In r (nv (μ (o + 1) 3)) ∧ In p (nv (μ (o + 1) 1))) → K (-1000000001) S (er μ o 1)) (k2 : ∀ a b, a < nv (μ (o + 1) 3) → b < nv (μ (o + 1) 1) → r = nI a → p = nI b → (∃ r i, On (μ (o + 1)) r i b) → K (-1000000003) S (er μ o 3)) (k3 : ∀ a b, a < nv (μ (o + 1) 3) → b < nv (μ (o + 1) 1) → r = nI a → p = nI b → (∀ r i, ¬ On (μ (o + 1)) r i b) → nv (μ (o + 1) (83 + 9 * a)) = 5 → K (-1000000004) S (er μ o 4))
  (k4 : ∀ a b, a < nv (μ (o + 1) 3) → b < nv (μ (o + 1) 1) → r = nI a → p = nI b → (∀ r i, ¬ On (μ (o + 1)) r i b) → nv (μ (o + 1) (83 + 9 * a)) < 5 → K (nI (nv (μ (o + 1) (83 + 9 * a)))) S (Mx μ (o + 1) (insN (μ (o + 1)) a (nv (μ (o + 1) (83 + 9 * a))) (nv (μ (o + 1) (83 + 9 * a))) p))) : X G mi_X10_tie (d + 3) 0 0 [(0, .ref o), (1, .int r), (2, .int p)] [] S μ (qi K) := by
  have w0 := hw.n0
  have w1 := hw.n1
  have w2 := hw.n2
  have w3 := hw.n3
  have w4 := hw.n4
  have w5 := hw.n5
  have w6 := hw.n6
  have b1 := w1.2
  have b2 := w2.2
  have b3 := w3.2
  have b4 := w4.2
  have b5 := w5.2
  have b6 := w6.2
  have b0 := w0.2
  refine X_aload_n (tk_X10_tie.at 0 rfl) rfl ?_
  refine X_iload_n (tk_X10_tie.at 1 rfl) rfl ?_
  refine X_iconst (tk_X10_tie.at 2 rfl) ci_3 ?_
  refine X_cV2i (lv2 := [(0, _), (1, _), (2, _)]) (tk_X10_tie.at 3 rfl) mv_X10_is lk_x10_90 np_X10_is hM.f0 (by decide) rfl (Nat.le_of_ble_eq_true rfl) (Nat.le_of_ble_eq_true rfl) rfl (c10_is hM (pl 3 rfl) (by decide) w3.1 (by omega) (fun j3 hj3 ej3 => ?_) (fun hj3 => ?_))
  · refine X_if_eq (tgt := 18) (tk_X10_tie.at 4 rfl) (by decide) (fun h => absurd h (by decide)) (fun _ => ?_)
    refine X_aload_n (tk_X10_tie.at 5 rfl) rfl ?_
    refine X_iload_n (tk_X10_tie.at 6 rfl) rfl ?_
    refine X_iconst (tk_X10_tie.at 7 rfl) ci_1 ?_
    refine X_cV2i (lv2 := [(0, _), (1, _), (2, _)]) (tk_X10_tie.at 8 rfl) mv_X10_is lk_x10_90 np_X10_is hM.f0 (by decide) rfl (Nat.le_of_ble_eq_true rfl) (Nat.le_of_ble_eq_true rfl) rfl (c10_is hM (pl 1 rfl) (by decide) w1.1 (by omega) (fun j12 hj12 ej12 => ?_) (fun hj12 => ?_))
    · refine X_if_ne (tgt := 25) (tk_X10_tie.at 9 rfl) (by decide) (fun _ => ?_) (fun h => absurd h (by decide))
      refine X_aload_n (tk_X10_tie.at 14 rfl) rfl ?_
      refine X_iload_n (tk_X10_tie.at 15 rfl) rfl ?_
      refine X_cV1i (lv2 := [(0, _), (1, _)]) (tk_X10_tie.at 16 rfl) mv_X10_ropeOf lk_x10_98 np_X10_ropeOf hM.f0 (by decide) rfl (Nat.le_of_ble_eq_true rfl) (Nat.le_of_ble_eq_true rfl) rfl (c10_ropeOf hM hw ej12 (fun r27 i27 h27 => ?_) (fun h27 => ?_))
      · have g27 := h27.1
        refine X_if_ltN (tgt := 40) (tk_X10_tie.at 17 rfl) (by decide) (pl r27 rfl) (by omega) ?_
        refine X_aload_n (tk_X10_tie.at 18 rfl) rfl ?_
        refine X_ldc (tk_X10_tie.at 19 rfl) kn_x10_131 ?_
        refine X_cV1i (lv2 := [(0, _), (1, _)]) (tk_X10_tie.at 20 rfl) mv_X10_finding lk_x10_82 np_X10_finding hM.f0 (by decide) rfl (Nat.le_of_ble_eq_true rfl) (Nat.le_of_ble_eq_true rfl) rfl (c10_finding (k := 3) hM (by decide) (by decide) ?_)
        refine X_ireturn (tk_X10_tie.at 21 rfl) rfl rfl ?_
        exact k2 j3 j12 hj3 hj12 ej3 ej12 ⟨r27, i27, h27⟩
      · refine X_if_lt (tgt := 40) (tk_X10_tie.at 17 rfl) (by decide) (fun _ => ?_) (fun h => absurd h (by decide))
        have wm := (hw.ro (p := j3) hj3).2.2.2.1
        have bm := wm.2
        refine X_aload_n (tk_X10_tie.at 22 rfl) rfl ?_
        refine X_iload_n (tk_X10_tie.at 23 rfl) rfl ?_
        refine X_cV1i (lv2 := [(0, _), (1, _)]) (tk_X10_tie.at 24 rfl) mv_X10_many lk_x10_118 np_X10_many hM.f0 (by decide) rfl (Nat.le_of_ble_eq_true rfl) (Nat.le_of_ble_eq_true rfl) rfl (c10_many hM ej3 (by omega) ?_)
        refine X_iconst (tk_X10_tie.at 25 rfl) ci_5 ?_
        refine X_icmp_neN (tgt := 56) (tk_X10_tie.at 26 rfl) (by decide) wm.1 (pl 5 rfl) (by omega) (by omega) (fun c5 => ?_) (fun c5 => ?_)
        · refine X_aload_n (tk_X10_tie.at 31 rfl) rfl ?_
          refine X_iload_n (tk_X10_tie.at 32 rfl) rfl ?_
          refine X_aload_n (tk_X10_tie.at 33 rfl) rfl ?_
          refine X_iload_n (tk_X10_tie.at 34 rfl) rfl ?_
          refine X_cV1i (lv2 := [(0, _), (1, _)]) (tk_X10_tie.at 35 rfl) mv_X10_many lk_x10_118 np_X10_many hM.f0 (by decide) rfl (Nat.le_of_ble_eq_true rfl) (Nat.le_of_ble_eq_true rfl) rfl (c10_many hM ej3 (by omega) ?_)
          refine X_iload_n (tk_X10_tie.at 36 rfl) rfl ?_
          refine X_cV3v (lv2 := [(0, _), (1, _), (2, _), (3, _)]) (tk_X10_tie.at 37 rfl) mv_X10_ties lk_x10_132 np_X10_ties hM.f0 (by decide) rfl (Nat.le_of_ble_eq_true rfl) (Nat.le_of_ble_eq_true rfl) rfl (c10_ties hM ej3 (by omega) wm.1 (by omega) wm.1 (Nat.le_refl _) ?_)
          refine X_aload_n (tk_X10_tie.at 38 rfl) rfl ?_
          refine X_iload_n (tk_X10_tie.at 39 rfl) rfl ?_
          refine X_cV1i (lv2 := [(0, _), (1, _)]) (tk_X10_tie.at 40 rfl) mv_X10_many lk_x10_118 np_X10_many hM.f0 (by decide) rfl (Nat.le_of_ble_eq_true rfl) (Nat.le_of_ble_eq_true rfl) rfl (c10_many hM ej3 (by omega) ?_)
          refine X_iconst (tk_X10_tie.at 41 rfl) ci_1 ?_
          refine X_isub (tk_X10_tie.at 42 rfl) ?_
          refine X_ireturn (tk_X10_tie.at 43 rfl) rfl rfl ?_
          have e : Mx μ (o + 1) (insN (μ (o + 1)) j3 (nv (μ (o + 1) (83 + 9 * j3))) (nv (μ (o + 1) (83 + 9 * j3))) p) (o + 1) (83 + 9 * j3) - 1 = nI (nv (μ (o + 1) (83 + 9 * j3))) := by rw [Mx_same, insN, upd_at]; exact nI_pred _
          rw [e]
          exact k4 j3 j12 hj3 hj12 ej3 ej12 h27 (by omega)
        · refine X_aload_n (tk_X10_tie.at 27 rfl) rfl ?_
          refine X_ldc (tk_X10_tie.at 28 rfl) kn_x10_86 ?_
          refine X_cV1i (lv2 := [(0, _), (1, _)]) (tk_X10_tie.at 29 rfl) mv_X10_finding lk_x10_82 np_X10_finding hM.f0 (by decide) rfl (Nat.le_of_ble_eq_true rfl) (Nat.le_of_ble_eq_true rfl) rfl (c10_finding (k := 4) hM (by decide) (by decide) ?_)
          refine X_ireturn (tk_X10_tie.at 30 rfl) rfl rfl ?_
          exact k3 j3 j12 hj3 hj12 ej3 ej12 h27 c5
    · refine X_if_ne (tgt := 25) (tk_X10_tie.at 9 rfl) (by decide) (fun h => absurd h (by decide)) (fun _ => ?_)
      refine X_aload_n (tk_X10_tie.at 10 rfl) rfl ?_
      refine X_ldc (tk_X10_tie.at 11 rfl) kn_x10_81 ?_
      refine X_cV1i (lv2 := [(0, _), (1, _)]) (tk_X10_tie.at 12 rfl) mv_X10_finding lk_x10_82 np_X10_finding hM.f0 (by decide) rfl (Nat.le_of_ble_eq_true rfl) (Nat.le_of_ble_eq_true rfl) rfl (c10_finding (k := 1) hM (by decide) (by decide) ?_)
      refine X_ireturn (tk_X10_tie.at 13 rfl) rfl rfl ?_
      exact k1 (fun g => by first | exact In_no (by omega) hj12 g.2 | exact In_no (by omega) hj3 g.1)
  · refine X_if_eq (tgt := 18) (tk_X10_tie.at 4 rfl) (by decide) (fun _ => ?_) (fun h => absurd h (by decide))
    refine X_aload_n (tk_X10_tie.at 10 rfl) rfl ?_
    refine X_ldc (tk_X10_tie.at 11 rfl) kn_x10_81 ?_
    refine X_cV1i (lv2 := [(0, _), (1, _)]) (tk_X10_tie.at 12 rfl) mv_X10_finding lk_x10_82 np_X10_finding hM.f0 (by decide) rfl (Nat.le_of_ble_eq_true rfl) (Nat.le_of_ble_eq_true rfl) rfl (c10_finding (k := 1) hM (by decide) (by decide) ?_)
    refine X_ireturn (tk_X10_tie.at 13 rfl) rfl rfl ?_
    exact k1 (fun g => by first | exact In_no (by omega) hj12 g.2 | exact In_no (by omega) hj3 g.1)
set_option maxHeartbeats 1000000 in
theorem c10_untie {G : Gl} {d : Nat} {S : Sh} {μ : Mu} {o : Nat} {q : Nat → Nat} {p : Int32} {K : Int32 → Sh → Mu → Prop} (hM : MS S o q) (hw : WF (μ (o + 1))) (k1 : ¬ In p (nv (μ (o + 1) 1)) → K (-1000000001) S (er μ o 1)) (k2 : ∀ b, b < nv (μ (o + 1) 1) → p = nI b → (∀ r i, ¬ On (μ (o + 1)) r i b) → K (-1000000002) S (er μ o 2)) (k3 : ∀ b r i, b < nv (μ (o + 1) 1) → p = nI b → On (μ (o + 1)) r i b → K (nI r) S (Mx μ (o + 1) (delN (μ (o + 1)) r (nv (μ (o + 1) (83 + 9 * r))) i))) : X G mi_X10_untie (d + 5) 0 0 [(0, .ref o), (1, .int p)] [] S μ (qi K) := by
  have w0 := hw.n0
  have w1 := hw.n1
  have w2 := hw.n2
  have w3 := hw.n3
  have w4 := hw.n4
  have w5 := hw.n5
  have w6 := hw.n6
  have b1 := w1.2
  have b2 := w2.2
  have b3 := w3.2
  have b4 := w4.2
  have b5 := w5.2
  have b6 := w6.2
  have b0 := w0.2
  refine X_aload_n (tk_X10_untie.at 0 rfl) rfl ?_
  refine X_iload_n (tk_X10_untie.at 1 rfl) rfl ?_
  refine X_iconst (tk_X10_untie.at 2 rfl) ci_1 ?_
  refine X_cV2i (lv2 := [(0, _), (1, _), (2, _)]) (tk_X10_untie.at 3 rfl) mv_X10_is lk_x10_90 np_X10_is hM.f0 (by decide) rfl (Nat.le_of_ble_eq_true rfl) (Nat.le_of_ble_eq_true rfl) rfl (c10_is hM (pl 1 rfl) (by decide) w1.1 (by omega) (fun j3 hj3 ej3 => ?_) (fun hj3 => ?_))
  · refine X_if_ne (tgt := 16) (tk_X10_untie.at 4 rfl) (by decide) (fun _ => ?_) (fun h => absurd h (by decide))
    refine X_aload_n (tk_X10_untie.at 9 rfl) rfl ?_
    refine X_iload_n (tk_X10_untie.at 10 rfl) rfl ?_
    refine X_cV1i (lv2 := [(0, _), (1, _)]) (tk_X10_untie.at 11 rfl) mv_X10_ropeOf lk_x10_98 np_X10_ropeOf hM.f0 (by decide) rfl (Nat.le_of_ble_eq_true rfl) (Nat.le_of_ble_eq_true rfl) rfl (c10_ropeOf hM hw ej3 (fun r18 i18 h18 => ?_) (fun h18 => ?_))
    · have g18 := h18.1
      refine X_istore_n (lv' := [(0, _), (1, _), (2, _)]) (tk_X10_untie.at 12 rfl) (by decide) rfl rfl ?_
      refine X_iload_n (tk_X10_untie.at 13 rfl) rfl ?_
      refine X_if_geN (tgt := 33) (tk_X10_untie.at 14 rfl) (by decide) (pl r18 rfl) (by omega) ?_
      refine X_aload_n (tk_X10_untie.at 19 rfl) rfl ?_
      refine X_iload_n (tk_X10_untie.at 20 rfl) rfl ?_
      refine X_cV1v (lv2 := [(0, _), (1, _)]) (tk_X10_untie.at 21 rfl) mv_X10_unties lk_x10_135 np_X10_unties hM.f0 (by decide) rfl (Nat.le_of_ble_eq_true rfl) (Nat.le_of_ble_eq_true rfl) rfl (c10_unties hM hw ej3 h18 (fun r35 i35 h35 => ?_))
      refine X_iload_n (tk_X10_untie.at 22 rfl) rfl ?_
      refine X_ireturn (tk_X10_untie.at 23 rfl) rfl rfl ?_
      obtain ⟨rfl, rfl⟩ := hw.un h35 h18
      exact k3 j3 r35 i35 hj3 ej3 h35
    · refine X_istore_n (lv' := [(0, _), (1, _), (2, _)]) (tk_X10_untie.at 12 rfl) (by decide) rfl rfl ?_
      refine X_iload_n (tk_X10_untie.at 13 rfl) rfl ?_
      refine X_if_ge (tgt := 33) (tk_X10_untie.at 14 rfl) (by decide) (fun h => absurd h (by decide)) (fun _ => ?_)
      refine X_aload_n (tk_X10_untie.at 15 rfl) rfl ?_
      refine X_ldc (tk_X10_untie.at 16 rfl) kn_x10_108 ?_
      refine X_cV1i (lv2 := [(0, _), (1, _)]) (tk_X10_untie.at 17 rfl) mv_X10_finding lk_x10_82 np_X10_finding hM.f0 (by decide) rfl (Nat.le_of_ble_eq_true rfl) (Nat.le_of_ble_eq_true rfl) rfl (c10_finding (k := 2) hM (by decide) (by decide) ?_)
      refine X_ireturn (tk_X10_untie.at 18 rfl) rfl rfl ?_
      exact k2 j3 hj3 ej3 h18
  · refine X_if_ne (tgt := 16) (tk_X10_untie.at 4 rfl) (by decide) (fun h => absurd h (by decide)) (fun _ => ?_)
    refine X_aload_n (tk_X10_untie.at 5 rfl) rfl ?_
    refine X_ldc (tk_X10_untie.at 6 rfl) kn_x10_81 ?_
    refine X_cV1i (lv2 := [(0, _), (1, _)]) (tk_X10_untie.at 7 rfl) mv_X10_finding lk_x10_82 np_X10_finding hM.f0 (by decide) rfl (Nat.le_of_ble_eq_true rfl) (Nat.le_of_ble_eq_true rfl) rfl (c10_finding (k := 1) hM (by decide) (by decide) ?_)
    refine X_ireturn (tk_X10_untie.at 8 rfl) rfl rfl ?_
    exact k1 (In_no (by omega) hj3)
set_option maxHeartbeats 1000000 in
theorem c10_ofRope {G : Gl} {d : Nat} {S : Sh} {μ : Mu} {o : Nat} {q : Nat → Nat} {r w : Int32} {K : Int32 → Sh → Mu → Prop} (hM : MS S o q) (hw : WF (μ (o + 1))) (k1 : ¬ (In r (nv (μ (o + 1) 3)) ∧ (0 ≤ w ∧ w ≤ 9)) → K (-1000000001) S (er μ o 1)) (k2 : ∀ a f, a < nv (μ (o + 1) 3) → f < 4 → r = nI a → w = nI f → K (μ (o + 1) (80 + 9 * a + f)) S μ) (k3 : ∀ a k, a < nv (μ (o + 1) 3) → k < nv (μ (o + 1) 4) → r = nI a → w = nI 4 → μ (o + 1) (134 + k) = nI a → K (nI k) S μ) (k4 : ∀ a, a < nv (μ (o + 1) 3) → r = nI a → w = nI 4 → (∀ k, k < nv (μ (o + 1) 4) → ¬ μ (o + 1) (134 + k) = nI a) → K (-1) S μ)
  (k5 : ∀ a i, a < nv (μ (o + 1) 3) → i < 5 → r = nI a → w = nI (5 + i) → i < nv (μ (o + 1) (83 + 9 * a)) → K (μ (o + 1) (84 + 9 * a + i)) S μ) (k6 : ∀ a i, a < nv (μ (o + 1) 3) → i < 5 → r = nI a → w = nI (5 + i) → nv (μ (o + 1) (83 + 9 * a)) ≤ i → K (-1) S μ) : X G mi_X10_ofRope (d + 2) 0 0 [(0, .ref o), (1, .int r), (2, .int w)] [] S μ (qi K) := by
  have w0 := hw.n0
  have w1 := hw.n1
  have w2 := hw.n2
  have w3 := hw.n3
  have w4 := hw.n4
  have w5 := hw.n5
  have w6 := hw.n6
  have b1 := w1.2
  have b2 := w2.2
  have b3 := w3.2
  have b4 := w4.2
  have b5 := w5.2
  have b6 := w6.2
  have b0 := w0.2
  refine X_aload_n (tk_X10_ofRope.at 0 rfl) rfl ?_
  refine X_iload_n (tk_X10_ofRope.at 1 rfl) rfl ?_
  refine X_iconst (tk_X10_ofRope.at 2 rfl) ci_3 ?_
  refine X_cV2i (lv2 := [(0, _), (1, _), (2, _)]) (tk_X10_ofRope.at 3 rfl) mv_X10_is lk_x10_90 np_X10_is hM.f0 (by decide) rfl (Nat.le_of_ble_eq_true rfl) (Nat.le_of_ble_eq_true rfl) rfl (c10_is hM (pl 3 rfl) (by decide) w3.1 (by omega) (fun j3 hj3 ej3 => ?_) (fun hj3 => ?_))
  · refine X_if_eq (tgt := 19) (tk_X10_ofRope.at 4 rfl) (by decide) (fun h => absurd h (by decide)) (fun _ => ?_)
    refine X_iload_n (tk_X10_ofRope.at 5 rfl) rfl ?_
    refine X_iconst (tk_X10_ofRope.at 6 rfl) ci_0 ?_
    refine X_bipush (tk_X10_ofRope.at 7 rfl) cb_9 ?_
    refine X_cS3i (lv2 := [(0, _), (1, _), (2, _)]) (tk_X10_ofRope.at 8 rfl) ms_X10_within lk_x10_69 np_X10_within (Nat.le_of_ble_eq_true rfl) (Nat.le_of_ble_eq_true rfl) rfl (c10_within (fun h13 h1013 => ?_) (fun h13 => ?_))
    · obtain ⟨ew13, lw13, bw13⟩ := le_lits (a := 0) (b := 9) (by decide) h13 h1013 (by decide)
      refine X_if_ne (tgt := 26) (tk_X10_ofRope.at 9 rfl) (by decide) (fun _ => ?_) (fun h => absurd h (by decide))
      refine X_iload_n (tk_X10_ofRope.at 14 rfl) rfl ?_
      refine X_iconst (tk_X10_ofRope.at 15 rfl) ci_4 ?_
      refine X_icmp_geN (tgt := 38) (tk_X10_ofRope.at 16 rfl) (by decide) ew13 (pl 4 rfl) (by omega) (by omega) (fun c3 => ?_) (fun c3 => ?_)
      · refine X_iload_n (tk_X10_ofRope.at 22 rfl) rfl ?_
        refine X_iconst (tk_X10_ofRope.at 23 rfl) ci_4 ?_
        refine X_icmp_neN (tgt := 51) (tk_X10_ofRope.at 24 rfl) (by decide) ew13 (pl 4 rfl) (by omega) (by omega) (fun c4 => ?_) (fun c4 => ?_)
        · have wm := (hw.ro (p := j3) hj3).2.2.2.1
          have bm := wm.2
          refine X_iload_n (tk_X10_ofRope.at 29 rfl) rfl ?_
          refine X_iconst (tk_X10_ofRope.at 30 rfl) ci_5 ?_
          refine X_isub (tk_X10_ofRope.at 31 rfl) ?_
          refine X_aload_n (tk_X10_ofRope.at 32 rfl) rfl ?_
          refine X_iload_n (tk_X10_ofRope.at 33 rfl) rfl ?_
          refine X_cV1i (lv2 := [(0, _), (1, _)]) (tk_X10_ofRope.at 34 rfl) mv_X10_many lk_x10_118 np_X10_many hM.f0 (by decide) rfl (Nat.le_of_ble_eq_true rfl) (Nat.le_of_ble_eq_true rfl) rfl (c10_many hM ej3 (by omega) ?_)
          refine X_icmp_geN (tgt := 73) (tk_X10_ofRope.at 35 rfl) (by decide) (ps ew13 (pl 5 rfl) (by omega)) wm.1 (by omega) (by omega) (fun c5 => ?_) (fun c5 => ?_)
          · refine X_iconst (tk_X10_ofRope.at 43 rfl) ci_m1 ?_
            refine X_ireturn (tk_X10_ofRope.at 44 rfl) rfl rfl ?_
            exact k6 j3 (nv w - 5) hj3 (by omega) ej3 (pz ew13 (by omega)) (by omega)
          · refine X_aload_n (tk_X10_ofRope.at 36 rfl) rfl ?_
            refine X_iload_n (tk_X10_ofRope.at 37 rfl) rfl ?_
            refine X_iload_n (tk_X10_ofRope.at 38 rfl) rfl ?_
            refine X_iconst (tk_X10_ofRope.at 39 rfl) ci_5 ?_
            refine X_isub (tk_X10_ofRope.at 40 rfl) ?_
            refine X_cV2i (lv2 := [(0, _), (1, _), (2, _)]) (tk_X10_ofRope.at 41 rfl) mv_X10_who lk_x10_121 np_X10_who hM.f0 (by decide) rfl (Nat.le_of_ble_eq_true rfl) (Nat.le_of_ble_eq_true rfl) rfl (c10_who hM ej3 (ps ew13 (pl 5 rfl) (by omega)) (by omega) (by omega) ?_)
            refine X_goto (tgt := 74) (tk_X10_ofRope.at 42 rfl) (by decide) ?_
            refine X_ireturn (tk_X10_ofRope.at 44 rfl) rfl rfl ?_
            exact k5 j3 (nv w - 5) hj3 (by omega) ej3 (pz ew13 (by omega)) (by omega)
        · refine X_aload_n (tk_X10_ofRope.at 25 rfl) rfl ?_
          refine X_iload_n (tk_X10_ofRope.at 26 rfl) rfl ?_
          refine X_cV1i (lv2 := [(0, _), (1, _)]) (tk_X10_ofRope.at 27 rfl) mv_X10_inLine lk_x10_139 np_X10_inLine hM.f0 (by decide) rfl (Nat.le_of_ble_eq_true rfl) (Nat.le_of_ble_eq_true rfl) rfl (c10_inLine hM hw (fun k45 hk45 h45 => ?_) (fun h45 => ?_))
          · refine X_goto (tgt := 74) (tk_X10_ofRope.at 28 rfl) (by decide) ?_
            refine X_ireturn (tk_X10_ofRope.at 44 rfl) rfl rfl ?_
            exact k3 j3 k45 hj3 hk45 ej3 (pz ew13 c4) (by rw [← ej3]; exact h45)
          · refine X_goto (tgt := 74) (tk_X10_ofRope.at 28 rfl) (by decide) ?_
            refine X_ireturn (tk_X10_ofRope.at 44 rfl) rfl rfl ?_
            exact k4 j3 hj3 ej3 (pz ew13 c4) (fun k hk z => h45 k hk (by rw [ej3]; exact z))
      · refine X_aload_n (tk_X10_ofRope.at 17 rfl) rfl ?_
        refine X_iload_n (tk_X10_ofRope.at 18 rfl) rfl ?_
        refine X_iload_n (tk_X10_ofRope.at 19 rfl) rfl ?_
        refine X_cV2i (lv2 := [(0, _), (1, _), (2, _)]) (tk_X10_ofRope.at 20 rfl) mv_X10_rope lk_x10_115 np_X10_rope hM.f0 (by decide) rfl (Nat.le_of_ble_eq_true rfl) (Nat.le_of_ble_eq_true rfl) rfl (c10_rope (k := 80 + 9 * j3 + (nv w)) hM ej3 ew13 (by omega) (by omega) (by omega) ?_)
        refine X_ireturn (tk_X10_ofRope.at 21 rfl) rfl rfl ?_
        exact k2 j3 (nv w) hj3 (by omega) ej3 ew13
    · refine X_if_ne (tgt := 26) (tk_X10_ofRope.at 9 rfl) (by decide) (fun h => absurd h (by decide)) (fun _ => ?_)
      refine X_aload_n (tk_X10_ofRope.at 10 rfl) rfl ?_
      refine X_ldc (tk_X10_ofRope.at 11 rfl) kn_x10_81 ?_
      refine X_cV1i (lv2 := [(0, _), (1, _)]) (tk_X10_ofRope.at 12 rfl) mv_X10_finding lk_x10_82 np_X10_finding hM.f0 (by decide) rfl (Nat.le_of_ble_eq_true rfl) (Nat.le_of_ble_eq_true rfl) rfl (c10_finding (k := 1) hM (by decide) (by decide) ?_)
      refine X_ireturn (tk_X10_ofRope.at 13 rfl) rfl rfl ?_
      exact k1 (fun g => by first | exact h13 g.2 | exact In_no (by omega) hj3 g.1)
  · refine X_if_eq (tgt := 19) (tk_X10_ofRope.at 4 rfl) (by decide) (fun _ => ?_) (fun h => absurd h (by decide))
    refine X_aload_n (tk_X10_ofRope.at 10 rfl) rfl ?_
    refine X_ldc (tk_X10_ofRope.at 11 rfl) kn_x10_81 ?_
    refine X_cV1i (lv2 := [(0, _), (1, _)]) (tk_X10_ofRope.at 12 rfl) mv_X10_finding lk_x10_82 np_X10_finding hM.f0 (by decide) rfl (Nat.le_of_ble_eq_true rfl) (Nat.le_of_ble_eq_true rfl) rfl (c10_finding (k := 1) hM (by decide) (by decide) ?_)
    refine X_ireturn (tk_X10_ofRope.at 13 rfl) rfl rfl ?_
    exact k1 (fun g => by first | exact h13 g.2 | exact In_no (by omega) hj3 g.1)
set_option maxHeartbeats 1000000 in
theorem c10_ofPerson {G : Gl} {d : Nat} {S : Sh} {μ : Mu} {o : Nat} {q : Nat → Nat} {p w : Int32} {K : Int32 → Sh → Mu → Prop} (hM : MS S o q) (hw : WF (μ (o + 1))) (k1 : ¬ (In p (nv (μ (o + 1) 1)) ∧ (0 ≤ w ∧ w ≤ 5)) → K (-1000000001) S (er μ o 1)) (k2 : ∀ a f, a < nv (μ (o + 1) 1) → f < 4 → p = nI a → w = nI f → K (μ (o + 1) (8 + 4 * a + f)) S μ) (k3 : ∀ a r i, a < nv (μ (o + 1) 1) → p = nI a → w = nI 4 → On (μ (o + 1)) r i a → K (nI r) S μ) (k4 : ∀ a, a < nv (μ (o + 1) 1) → p = nI a → w = nI 4 → (∀ r i, ¬ On (μ (o + 1)) r i a) → K (-1) S μ)
  (k5 : ∀ a r i, a < nv (μ (o + 1) 1) → p = nI a → w = nI 5 → On (μ (o + 1)) r i a → K (nI i) S μ) (k6 : ∀ a, a < nv (μ (o + 1) 1) → p = nI a → w = nI 5 → (∀ r i, ¬ On (μ (o + 1)) r i a) → K (-1) S μ) : X G mi_X10_ofPerson (d + 4) 0 0 [(0, .ref o), (1, .int p), (2, .int w)] [] S μ (qi K) := by
  have w0 := hw.n0
  have w1 := hw.n1
  have w2 := hw.n2
  have w3 := hw.n3
  have w4 := hw.n4
  have w5 := hw.n5
  have w6 := hw.n6
  have b1 := w1.2
  have b2 := w2.2
  have b3 := w3.2
  have b4 := w4.2
  have b5 := w5.2
  have b6 := w6.2
  have b0 := w0.2
  refine X_aload_n (tk_X10_ofPerson.at 0 rfl) rfl ?_
  refine X_iload_n (tk_X10_ofPerson.at 1 rfl) rfl ?_
  refine X_iconst (tk_X10_ofPerson.at 2 rfl) ci_1 ?_
  refine X_cV2i (lv2 := [(0, _), (1, _), (2, _)]) (tk_X10_ofPerson.at 3 rfl) mv_X10_is lk_x10_90 np_X10_is hM.f0 (by decide) rfl (Nat.le_of_ble_eq_true rfl) (Nat.le_of_ble_eq_true rfl) rfl (c10_is hM (pl 1 rfl) (by decide) w1.1 (by omega) (fun j3 hj3 ej3 => ?_) (fun hj3 => ?_))
  · refine X_if_eq (tgt := 18) (tk_X10_ofPerson.at 4 rfl) (by decide) (fun h => absurd h (by decide)) (fun _ => ?_)
    refine X_iload_n (tk_X10_ofPerson.at 5 rfl) rfl ?_
    refine X_iconst (tk_X10_ofPerson.at 6 rfl) ci_0 ?_
    refine X_iconst (tk_X10_ofPerson.at 7 rfl) ci_5 ?_
    refine X_cS3i (lv2 := [(0, _), (1, _), (2, _)]) (tk_X10_ofPerson.at 8 rfl) ms_X10_within lk_x10_69 np_X10_within (Nat.le_of_ble_eq_true rfl) (Nat.le_of_ble_eq_true rfl) rfl (c10_within (fun h12 h1012 => ?_) (fun h12 => ?_))
    · obtain ⟨ew12, lw12, bw12⟩ := le_lits (a := 0) (b := 5) (by decide) h12 h1012 (by decide)
      refine X_if_ne (tgt := 25) (tk_X10_ofPerson.at 9 rfl) (by decide) (fun _ => ?_) (fun h => absurd h (by decide))
      refine X_iload_n (tk_X10_ofPerson.at 14 rfl) rfl ?_
      refine X_iconst (tk_X10_ofPerson.at 15 rfl) ci_4 ?_
      refine X_icmp_geN (tgt := 39) (tk_X10_ofPerson.at 16 rfl) (by decide) ew12 (pl 4 rfl) (by omega) (by omega) (fun c3 => ?_) (fun c3 => ?_)
      · refine X_iload_n (tk_X10_ofPerson.at 22 rfl) rfl ?_
        refine X_iconst (tk_X10_ofPerson.at 23 rfl) ci_4 ?_
        refine X_icmp_neN (tgt := 52) (tk_X10_ofPerson.at 24 rfl) (by decide) ew12 (pl 4 rfl) (by omega) (by omega) (fun c4 => ?_) (fun c4 => ?_)
        · refine X_aload_n (tk_X10_ofPerson.at 29 rfl) rfl ?_
          refine X_iload_n (tk_X10_ofPerson.at 30 rfl) rfl ?_
          refine X_cV1i (lv2 := [(0, _), (1, _)]) (tk_X10_ofPerson.at 31 rfl) mv_X10_placeOf lk_x10_101 np_X10_placeOf hM.f0 (by decide) rfl (Nat.le_of_ble_eq_true rfl) (Nat.le_of_ble_eq_true rfl) rfl (c10_placeOf hM hw ej3 (fun r54 i54 h54 => ?_) (fun h54 => ?_))
          · refine X_ireturn (tk_X10_ofPerson.at 32 rfl) rfl rfl ?_
            exact k5 j3 r54 i54 hj3 ej3 (pz ew12 (by omega)) h54
          · refine X_ireturn (tk_X10_ofPerson.at 32 rfl) rfl rfl ?_
            exact k6 j3 hj3 ej3 (pz ew12 (by omega)) h54
        · refine X_aload_n (tk_X10_ofPerson.at 25 rfl) rfl ?_
          refine X_iload_n (tk_X10_ofPerson.at 26 rfl) rfl ?_
          refine X_cV1i (lv2 := [(0, _), (1, _)]) (tk_X10_ofPerson.at 27 rfl) mv_X10_ropeOf lk_x10_98 np_X10_ropeOf hM.f0 (by decide) rfl (Nat.le_of_ble_eq_true rfl) (Nat.le_of_ble_eq_true rfl) rfl (c10_ropeOf hM hw ej3 (fun r46 i46 h46 => ?_) (fun h46 => ?_))
          · have g46 := h46.1
            refine X_goto (tgt := 57) (tk_X10_ofPerson.at 28 rfl) (by decide) ?_
            refine X_ireturn (tk_X10_ofPerson.at 32 rfl) rfl rfl ?_
            exact k3 j3 r46 i46 hj3 ej3 (pz ew12 c4) h46
          · refine X_goto (tgt := 57) (tk_X10_ofPerson.at 28 rfl) (by decide) ?_
            refine X_ireturn (tk_X10_ofPerson.at 32 rfl) rfl rfl ?_
            exact k4 j3 hj3 ej3 (pz ew12 c4) h46
      · refine X_aload_n (tk_X10_ofPerson.at 17 rfl) rfl ?_
        refine X_iload_n (tk_X10_ofPerson.at 18 rfl) rfl ?_
        refine X_iload_n (tk_X10_ofPerson.at 19 rfl) rfl ?_
        refine X_cV2i (lv2 := [(0, _), (1, _), (2, _)]) (tk_X10_ofPerson.at 20 rfl) mv_X10_of lk_x10_94 np_X10_of hM.f0 (by decide) rfl (Nat.le_of_ble_eq_true rfl) (Nat.le_of_ble_eq_true rfl) rfl (c10_of (k := 8 + 4 * j3 + (nv w)) hM ej3 ew12 (by omega) (by omega) (by omega) ?_)
        refine X_goto (tgt := 57) (tk_X10_ofPerson.at 21 rfl) (by decide) ?_
        refine X_ireturn (tk_X10_ofPerson.at 32 rfl) rfl rfl ?_
        exact k2 j3 (nv w) hj3 (by omega) ej3 ew12
    · refine X_if_ne (tgt := 25) (tk_X10_ofPerson.at 9 rfl) (by decide) (fun h => absurd h (by decide)) (fun _ => ?_)
      refine X_aload_n (tk_X10_ofPerson.at 10 rfl) rfl ?_
      refine X_ldc (tk_X10_ofPerson.at 11 rfl) kn_x10_81 ?_
      refine X_cV1i (lv2 := [(0, _), (1, _)]) (tk_X10_ofPerson.at 12 rfl) mv_X10_finding lk_x10_82 np_X10_finding hM.f0 (by decide) rfl (Nat.le_of_ble_eq_true rfl) (Nat.le_of_ble_eq_true rfl) rfl (c10_finding (k := 1) hM (by decide) (by decide) ?_)
      refine X_ireturn (tk_X10_ofPerson.at 13 rfl) rfl rfl ?_
      exact k1 (fun g => by first | exact h12 g.2 | exact In_no (by omega) hj3 g.1)
  · refine X_if_eq (tgt := 18) (tk_X10_ofPerson.at 4 rfl) (by decide) (fun _ => ?_) (fun h => absurd h (by decide))
    refine X_aload_n (tk_X10_ofPerson.at 10 rfl) rfl ?_
    refine X_ldc (tk_X10_ofPerson.at 11 rfl) kn_x10_81 ?_
    refine X_cV1i (lv2 := [(0, _), (1, _)]) (tk_X10_ofPerson.at 12 rfl) mv_X10_finding lk_x10_82 np_X10_finding hM.f0 (by decide) rfl (Nat.le_of_ble_eq_true rfl) (Nat.le_of_ble_eq_true rfl) rfl (c10_finding (k := 1) hM (by decide) (by decide) ?_)
    refine X_ireturn (tk_X10_ofPerson.at 13 rfl) rfl rfl ?_
    exact k1 (fun g => by first | exact h12 g.2 | exact In_no (by omega) hj3 g.1)
set_option maxHeartbeats 1000000 in
theorem c10_swap {G : Gl} {d : Nat} {S : Sh} {μ : Mu} {o : Nat} {q : Nat → Nat} {a b : Int32} {K : Int32 → Sh → Mu → Prop} (hM : MS S o q) (hw : WF (μ (o + 1))) (k1 : ¬ (In a (nv (μ (o + 1) 1)) ∧ In b (nv (μ (o + 1) 1)) ∧ ¬ a = b) → K (-1000000001) S (er μ o 1)) (k2 : ∀ x y, x < nv (μ (o + 1) 1) → y < nv (μ (o + 1) 1) → a = nI x → b = nI y → ¬ x = y → ((∀ r i, ¬ On (μ (o + 1)) r i x) ∨ (∀ r i, ¬ On (μ (o + 1)) r i y)) → K (-1000000002) S (er μ o 2))
  (k3 : ∀ x y r i r' i', x < nv (μ (o + 1) 1) → y < nv (μ (o + 1) 1) → a = nI x → b = nI y → ¬ x = y → On (μ (o + 1)) r i x → On (μ (o + 1)) r' i' y → K 1 S (Mx μ (o + 1) (upd (upd (μ (o + 1)) (84 + 9 * r + i) b) (84 + 9 * r' + i') a))) : X G mi_X10_swap (d + 4) 0 0 [(0, .ref o), (1, .int a), (2, .int b)] [] S μ (qi K) := by
  have w0 := hw.n0
  have w1 := hw.n1
  have w2 := hw.n2
  have w3 := hw.n3
  have w4 := hw.n4
  have w5 := hw.n5
  have w6 := hw.n6
  have b1 := w1.2
  have b2 := w2.2
  have b3 := w3.2
  have b4 := w4.2
  have b5 := w5.2
  have b6 := w6.2
  have b0 := w0.2
  refine X_aload_n (tk_X10_swap.at 0 rfl) rfl ?_
  refine X_iload_n (tk_X10_swap.at 1 rfl) rfl ?_
  refine X_iconst (tk_X10_swap.at 2 rfl) ci_1 ?_
  refine X_cV2i (lv2 := [(0, _), (1, _), (2, _)]) (tk_X10_swap.at 3 rfl) mv_X10_is lk_x10_90 np_X10_is hM.f0 (by decide) rfl (Nat.le_of_ble_eq_true rfl) (Nat.le_of_ble_eq_true rfl) rfl (c10_is hM (pl 1 rfl) (by decide) w1.1 (by omega) (fun j3 hj3 ej3 => ?_) (fun hj3 => ?_))
  · refine X_if_eq (tgt := 23) (tk_X10_swap.at 4 rfl) (by decide) (fun h => absurd h (by decide)) (fun _ => ?_)
    refine X_aload_n (tk_X10_swap.at 5 rfl) rfl ?_
    refine X_iload_n (tk_X10_swap.at 6 rfl) rfl ?_
    refine X_iconst (tk_X10_swap.at 7 rfl) ci_1 ?_
    refine X_cV2i (lv2 := [(0, _), (1, _), (2, _)]) (tk_X10_swap.at 8 rfl) mv_X10_is lk_x10_90 np_X10_is hM.f0 (by decide) rfl (Nat.le_of_ble_eq_true rfl) (Nat.le_of_ble_eq_true rfl) rfl (c10_is hM (pl 1 rfl) (by decide) w1.1 (by omega) (fun j12 hj12 ej12 => ?_) (fun hj12 => ?_))
    · refine X_if_eq (tgt := 23) (tk_X10_swap.at 9 rfl) (by decide) (fun h => absurd h (by decide)) (fun _ => ?_)
      refine X_iload_n (tk_X10_swap.at 10 rfl) rfl ?_
      refine X_iload_n (tk_X10_swap.at 11 rfl) rfl ?_
      refine X_icmp_neN (tgt := 30) (tk_X10_swap.at 12 rfl) (by decide) ej3 ej12 (by omega) (by omega) (fun c3 => ?_) (fun c3 => ?_)
      · refine X_aload_n (tk_X10_swap.at 17 rfl) rfl ?_
        refine X_iload_n (tk_X10_swap.at 18 rfl) rfl ?_
        refine X_cV1i (lv2 := [(0, _), (1, _)]) (tk_X10_swap.at 19 rfl) mv_X10_ropeOf lk_x10_98 np_X10_ropeOf hM.f0 (by decide) rfl (Nat.le_of_ble_eq_true rfl) (Nat.le_of_ble_eq_true rfl) rfl (c10_ropeOf hM hw ej3 (fun r32 i32 h32 => ?_) (fun h32 => ?_))
        · have g32 := h32.1
          refine X_istore_n (lv' := [(0, _), (1, _), (2, _), (3, _)]) (tk_X10_swap.at 20 rfl) (by decide) rfl rfl ?_
          refine X_aload_n (tk_X10_swap.at 21 rfl) rfl ?_
          refine X_iload_n (tk_X10_swap.at 22 rfl) rfl ?_
          refine X_cV1i (lv2 := [(0, _), (1, _)]) (tk_X10_swap.at 23 rfl) mv_X10_ropeOf lk_x10_98 np_X10_ropeOf hM.f0 (by decide) rfl (Nat.le_of_ble_eq_true rfl) (Nat.le_of_ble_eq_true rfl) rfl (c10_ropeOf hM hw ej12 (fun r38 i38 h38 => ?_) (fun h38 => ?_))
          · have g38 := h38.1
            refine X_istore (lv' := [(0, _), (1, _), (2, _), (3, _), (4, _)]) (tk_X10_swap.at 24 rfl) (by decide) rfl rfl ?_
            refine X_iload_n (tk_X10_swap.at 25 rfl) rfl ?_
            refine X_if_ltN (tgt := 52) (tk_X10_swap.at 26 rfl) (by decide) (pl r32 rfl) (by omega) ?_
            refine X_iload (tk_X10_swap.at 27 rfl) rfl ?_
            refine X_if_geN (tgt := 59) (tk_X10_swap.at 28 rfl) (by decide) (pl r38 rfl) (by omega) ?_
            refine X_aload_n (tk_X10_swap.at 33 rfl) rfl ?_
            refine X_iload_n (tk_X10_swap.at 34 rfl) rfl ?_
            refine X_cV1i (lv2 := [(0, _), (1, _)]) (tk_X10_swap.at 35 rfl) mv_X10_placeOf lk_x10_101 np_X10_placeOf hM.f0 (by decide) rfl (Nat.le_of_ble_eq_true rfl) (Nat.le_of_ble_eq_true rfl) rfl (c10_placeOf hM hw ej3 (fun r61 i61 h61 => ?_) (fun h61 => absurd h32 (h61 _ _)))
            refine X_istore (lv' := [(0, _), (1, _), (2, _), (3, _), (4, _), (5, _)]) (tk_X10_swap.at 36 rfl) (by decide) rfl rfl ?_
            refine X_aload_n (tk_X10_swap.at 37 rfl) rfl ?_
            refine X_iload_n (tk_X10_swap.at 38 rfl) rfl ?_
            refine X_cV1i (lv2 := [(0, _), (1, _)]) (tk_X10_swap.at 39 rfl) mv_X10_placeOf lk_x10_101 np_X10_placeOf hM.f0 (by decide) rfl (Nat.le_of_ble_eq_true rfl) (Nat.le_of_ble_eq_true rfl) rfl (c10_placeOf hM hw ej12 (fun r68 i68 h68 => ?_) (fun h68 => absurd h38 (h68 _ _)))
            refine X_istore (lv' := [(0, _), (1, _), (2, _), (3, _), (4, _), (5, _), (6, _)]) (tk_X10_swap.at 40 rfl) (by decide) rfl rfl ?_
            have g3 := hw.ro (p := r32) h32.1
            have g4 := hw.ro (p := r38) h38.1
            have b7 := g3.2.2.2.1.2
            have b8 := g4.2.2.2.1.2
            have b9 := h61.2.1
            have bb := h68.2.1
            have e61 := (hw.un h61 h32).1
            have e68 := (hw.un h68 h38).1
            rw [e61] at b9
            rw [e68] at bb
            refine X_aload_n (tk_X10_swap.at 41 rfl) rfl ?_
            refine X_iload_n (tk_X10_swap.at 42 rfl) rfl ?_
            refine X_iload (tk_X10_swap.at 43 rfl) rfl ?_
            refine X_iload_n (tk_X10_swap.at 44 rfl) rfl ?_
            refine X_cV3v (lv2 := [(0, _), (1, _), (2, _), (3, _)]) (tk_X10_swap.at 45 rfl) mv_X10_seats lk_x10_127 np_X10_seats hM.f0 (by decide) rfl (Nat.le_of_ble_eq_true rfl) (Nat.le_of_ble_eq_true rfl) rfl (c10_seats hM (pl r32 rfl) (pl i61 rfl) (by omega) (by omega) ?_)
            refine X_aload_n (tk_X10_swap.at 46 rfl) rfl ?_
            refine X_iload (tk_X10_swap.at 47 rfl) rfl ?_
            refine X_iload (tk_X10_swap.at 48 rfl) rfl ?_
            refine X_iload_n (tk_X10_swap.at 49 rfl) rfl ?_
            refine X_cV3v (lv2 := [(0, _), (1, _), (2, _), (3, _)]) (tk_X10_swap.at 50 rfl) mv_X10_seats lk_x10_127 np_X10_seats hM.f0 (by decide) rfl (Nat.le_of_ble_eq_true rfl) (Nat.le_of_ble_eq_true rfl) rfl (c10_seats hM (pl r38 rfl) (pl i68 rfl) (by omega) (by omega) ?_)
            refine X_iconst (tk_X10_swap.at 51 rfl) ci_1 ?_
            refine X_ireturn (tk_X10_swap.at 52 rfl) rfl rfl ?_
            obtain ⟨rfl, rfl⟩ := hw.un h61 h32
            obtain ⟨rfl, rfl⟩ := hw.un h68 h38
            simp only [su_eq, Mx_same, Mx_Mx]
            exact k3 j3 j12 r61 i61 r68 i68 hj3 hj12 ej3 ej12 c3 h61 h68
          · refine X_istore (lv' := [(0, _), (1, _), (2, _), (3, _), (4, _)]) (tk_X10_swap.at 24 rfl) (by decide) rfl rfl ?_
            refine X_iload_n (tk_X10_swap.at 25 rfl) rfl ?_
            refine X_if_ltN (tgt := 52) (tk_X10_swap.at 26 rfl) (by decide) (pl r32 rfl) (by omega) ?_
            refine X_iload (tk_X10_swap.at 27 rfl) rfl ?_
            refine X_if_ge (tgt := 59) (tk_X10_swap.at 28 rfl) (by decide) (fun h => absurd h (by decide)) (fun _ => ?_)
            refine X_aload_n (tk_X10_swap.at 29 rfl) rfl ?_
            refine X_ldc (tk_X10_swap.at 30 rfl) kn_x10_108 ?_
            refine X_cV1i (lv2 := [(0, _), (1, _)]) (tk_X10_swap.at 31 rfl) mv_X10_finding lk_x10_82 np_X10_finding hM.f0 (by decide) rfl (Nat.le_of_ble_eq_true rfl) (Nat.le_of_ble_eq_true rfl) rfl (c10_finding (k := 2) hM (by decide) (by decide) ?_)
            refine X_ireturn (tk_X10_swap.at 32 rfl) rfl rfl ?_
            exact k2 j3 j12 hj3 hj12 ej3 ej12 c3 (by first | exact Or.inl h32 | exact Or.inr h38)
        · refine X_istore_n (lv' := [(0, _), (1, _), (2, _), (3, _)]) (tk_X10_swap.at 20 rfl) (by decide) rfl rfl ?_
          refine X_aload_n (tk_X10_swap.at 21 rfl) rfl ?_
          refine X_iload_n (tk_X10_swap.at 22 rfl) rfl ?_
          refine X_cV1i (lv2 := [(0, _), (1, _)]) (tk_X10_swap.at 23 rfl) mv_X10_ropeOf lk_x10_98 np_X10_ropeOf hM.f0 (by decide) rfl (Nat.le_of_ble_eq_true rfl) (Nat.le_of_ble_eq_true rfl) rfl (c10_ropeOf hM hw ej12 (fun r38 i38 h38 => ?_) (fun h38 => ?_))
          · have g38 := h38.1
            refine X_istore (lv' := [(0, _), (1, _), (2, _), (3, _), (4, _)]) (tk_X10_swap.at 24 rfl) (by decide) rfl rfl ?_
            refine X_iload_n (tk_X10_swap.at 25 rfl) rfl ?_
            refine X_if_lt (tgt := 52) (tk_X10_swap.at 26 rfl) (by decide) (fun _ => ?_) (fun h => absurd h (by decide))
            refine X_aload_n (tk_X10_swap.at 29 rfl) rfl ?_
            refine X_ldc (tk_X10_swap.at 30 rfl) kn_x10_108 ?_
            refine X_cV1i (lv2 := [(0, _), (1, _)]) (tk_X10_swap.at 31 rfl) mv_X10_finding lk_x10_82 np_X10_finding hM.f0 (by decide) rfl (Nat.le_of_ble_eq_true rfl) (Nat.le_of_ble_eq_true rfl) rfl (c10_finding (k := 2) hM (by decide) (by decide) ?_)
            refine X_ireturn (tk_X10_swap.at 32 rfl) rfl rfl ?_
            exact k2 j3 j12 hj3 hj12 ej3 ej12 c3 (by first | exact Or.inl h32 | exact Or.inr h38)
          · refine X_istore (lv' := [(0, _), (1, _), (2, _), (3, _), (4, _)]) (tk_X10_swap.at 24 rfl) (by decide) rfl rfl ?_
            refine X_iload_n (tk_X10_swap.at 25 rfl) rfl ?_
            refine X_if_lt (tgt := 52) (tk_X10_swap.at 26 rfl) (by decide) (fun _ => ?_) (fun h => absurd h (by decide))
            refine X_aload_n (tk_X10_swap.at 29 rfl) rfl ?_
            refine X_ldc (tk_X10_swap.at 30 rfl) kn_x10_108 ?_
            refine X_cV1i (lv2 := [(0, _), (1, _)]) (tk_X10_swap.at 31 rfl) mv_X10_finding lk_x10_82 np_X10_finding hM.f0 (by decide) rfl (Nat.le_of_ble_eq_true rfl) (Nat.le_of_ble_eq_true rfl) rfl (c10_finding (k := 2) hM (by decide) (by decide) ?_)
            refine X_ireturn (tk_X10_swap.at 32 rfl) rfl rfl ?_
            exact k2 j3 j12 hj3 hj12 ej3 ej12 c3 (by first | exact Or.inl h32 | exact Or.inr h38)
      · refine X_aload_n (tk_X10_swap.at 13 rfl) rfl ?_
        refine X_ldc (tk_X10_swap.at 14 rfl) kn_x10_81 ?_
        refine X_cV1i (lv2 := [(0, _), (1, _)]) (tk_X10_swap.at 15 rfl) mv_X10_finding lk_x10_82 np_X10_finding hM.f0 (by decide) rfl (Nat.le_of_ble_eq_true rfl) (Nat.le_of_ble_eq_true rfl) rfl (c10_finding (k := 1) hM (by decide) (by decide) ?_)
        refine X_ireturn (tk_X10_swap.at 16 rfl) rfl rfl ?_
        exact k1 (fun g => by first | exact g.2.2 (by rw [ej3, ej12, c3]) | exact In_no (by omega) hj12 g.2.1 | exact In_no (by omega) hj3 g.1)
    · refine X_if_eq (tgt := 23) (tk_X10_swap.at 9 rfl) (by decide) (fun _ => ?_) (fun h => absurd h (by decide))
      refine X_aload_n (tk_X10_swap.at 13 rfl) rfl ?_
      refine X_ldc (tk_X10_swap.at 14 rfl) kn_x10_81 ?_
      refine X_cV1i (lv2 := [(0, _), (1, _)]) (tk_X10_swap.at 15 rfl) mv_X10_finding lk_x10_82 np_X10_finding hM.f0 (by decide) rfl (Nat.le_of_ble_eq_true rfl) (Nat.le_of_ble_eq_true rfl) rfl (c10_finding (k := 1) hM (by decide) (by decide) ?_)
      refine X_ireturn (tk_X10_swap.at 16 rfl) rfl rfl ?_
      exact k1 (fun g => by first | exact g.2.2 (by rw [ej3, ej12, h0]) | exact In_no (by omega) hj12 g.2.1 | exact In_no (by omega) hj3 g.1)
  · refine X_if_eq (tgt := 23) (tk_X10_swap.at 4 rfl) (by decide) (fun _ => ?_) (fun h => absurd h (by decide))
    refine X_aload_n (tk_X10_swap.at 13 rfl) rfl ?_
    refine X_ldc (tk_X10_swap.at 14 rfl) kn_x10_81 ?_
    refine X_cV1i (lv2 := [(0, _), (1, _)]) (tk_X10_swap.at 15 rfl) mv_X10_finding lk_x10_82 np_X10_finding hM.f0 (by decide) rfl (Nat.le_of_ble_eq_true rfl) (Nat.le_of_ble_eq_true rfl) rfl (c10_finding (k := 1) hM (by decide) (by decide) ?_)
    refine X_ireturn (tk_X10_swap.at 16 rfl) rfl rfl ?_
    exact k1 (fun g => by first | exact g.2.2 (by rw [ej3, ej12, h0]) | exact In_no (by omega) hj12 g.2.1 | exact In_no (by omega) hj3 g.1)
