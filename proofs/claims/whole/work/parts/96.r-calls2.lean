theorem rng {f n : Nat} {w : Int32} (e : w = nI f) (h : f ≤ n) (hn : n < 2 ^ 31) : 0 ≤ w ∧ w ≤ nI n := by
  subst e
  exact ⟨nI_pos' (by omega), (nI_leI (by omega) hn).mpr h⟩
set_option maxHeartbeats 1000000 in
theorem t_ofPerson {G : Gl} {d : Nat} {S : Sh} {μ : Mu} {P o t q im : Nat} {kp : Option Nat} {p x : Int32} (hI : Inv G S P o kp t q im μ) : X G mi_X9_ofPerson (d + 60) 0 0 [(0, .ref P), (1, .int p), (2, .int x)] [] S μ (qi (fun an S1 μ1 => X G mi_X10_ofPerson (d + 60) 0 0 [(0, .ref o), (1, .int p), (2, .int x)] [] S1 μ1 (qi (Eq2 G P o im an)))) := by
  obtain ⟨N, hN⟩ : ∃ N, μ (o + 1) = N := ⟨_, rfl⟩
  have hw : WF N := hN ▸ hI.wf
  have hr : repD μ (P + 1) N := hN ▸ hI.rep
  have lo := hI.lo
  have b1 := hw.n1.2
  have b2 := hw.n2.2
  have b3 := hw.n3.2
  have b4 := hw.n4.2
  have b5 := hw.n5.2
  have b6 := hw.n6.2
  have hun : ∀ r i r' i' p, On N r i p → On N r' i' p → r = r' ∧ i = i' := fun _ _ _ _ _ h1 h2 => hw.un h1 h2
  have hlu : ∀ k k', k < nv (N 4) → k' < nv (N 4) → N (134 + k) = N (134 + k') → k = k' := fun _ _ h1 h2 e => hw.lu h1 h2 e
  have hnz : nI 0 = 0 := rfl
  refine X_aload_n (tk_X9_ofPerson.at 0 rfl) rfl ?_
  refine X_getR (tk_X9_ofPerson.at 1 rfl) fl_x9_12 hI.P0 rfl rfl ?_
  refine X_getR (tk_X9_ofPerson.at 2 rfl) fl_x9_62 hI.D.1 rfl rfl ?_
  refine X_iload_n (tk_X9_ofPerson.at 3 rfl) rfl ?_
  refine X_cV1i (lv2 := [(0, _), (1, _)]) (tk_X9_ofPerson.at 4 rfl) mv_X3_has lk_x9_70 np_X3_has hI.D.2.1.1 (by decide) rfl (Nat.le_of_ble_eq_true rfl) (Nat.le_of_ble_eq_true rfl) rfl (d_phas hI.D hw hr (fun j8 hj8 ej8 => ?_) (fun hj8 => ?_))
  · refine X_if_eq (tgt := 23) (tk_X9_ofPerson.at 5 rfl) (by decide) (fun h => absurd h (by decide)) (fun _ => ?_)
    refine X_iload_n (tk_X9_ofPerson.at 6 rfl) rfl ?_
    refine X_if_lt (tgt := 23) (tk_X9_ofPerson.at 7 rfl) (by decide) (fun c2 => ?_) (fun c2 => ?_)
    · refine X_aload_n (tk_X9_ofPerson.at 11 rfl) rfl ?_
      refine X_ldc (tk_X9_ofPerson.at 12 rfl) kn_x9_76 ?_
      refine X_cV1i (lv2 := [(0, _), (1, _)]) (tk_X9_ofPerson.at 13 rfl) mv_X9_fail lk_x9_77 np_X9_fail hI.P0 (by decide) rfl (Nat.le_of_ble_eq_true rfl) (Nat.le_of_ble_eq_true rfl) rfl (c9_fail (k := 1) hI.P0 hI.E (by decide) (by decide) ?_)
      refine X_ireturn (tk_X9_ofPerson.at 14 rfl) rfl rfl ?_
      have rg5 : ∀ f, f ≤ 5 → 0 ≤ nI f ∧ nI f ≤ 5 := fun f h => rng rfl h (by decide)
      refine n10_ofPerson (N := N) hI.M (by rw [su_ne (by omega)]; exact hN) hw (by intros; first | (exfalso; grind [In, On, nI_eq]) | exact ⟨by grind [In, On, nI_eq], fin_e hI (Fs.rf hI) (Sq.rf _ _) rfl⟩) (by intros; first | (exfalso; grind [In, On, nI_eq]) | exact ⟨by grind [In, On, nI_eq], fin_e hI (Fs.rf hI) (Sq.rf _ _) rfl⟩) (by intros; first | (exfalso; grind [In, On, nI_eq]) | exact ⟨by grind [In, On, nI_eq], fin_e hI (Fs.rf hI) (Sq.rf _ _) rfl⟩) (by intros; first | (exfalso; grind [In, On, nI_eq]) | exact ⟨by grind [In, On, nI_eq], fin_e hI (Fs.rf hI) (Sq.rf _ _) rfl⟩) (by intros; first | (exfalso; grind [In, On, nI_eq]) | exact ⟨by grind [In, On, nI_eq], fin_e hI (Fs.rf hI) (Sq.rf _ _) rfl⟩) (by intros; first | (exfalso; grind [In, On, nI_eq]) | exact ⟨by grind [In, On, nI_eq], fin_e hI (Fs.rf hI) (Sq.rf _ _) rfl⟩)
    · refine X_iload_n (tk_X9_ofPerson.at 8 rfl) rfl ?_
      refine X_iconst (tk_X9_ofPerson.at 9 rfl) ci_5 ?_
      refine X_icmp_le (tgt := 30) (tk_X9_ofPerson.at 10 rfl) (by decide) (fun c3 => ?_) (fun c3 => ?_)
      · have hcf : 0 ≤ x ∧ x ≤ 5 := by grind
        obtain ⟨f, ef, hf⟩ : ∃ f, x = nI f ∧ f ≤ 5 := ⟨nv x, (le_lits (a := 0) (b := 5) (by decide) hcf.1 hcf.2 (by decide)).1, (le_lits (a := 0) (b := 5) (by decide) hcf.1 hcf.2 (by decide)).2.2⟩
        refine X_iload_n (tk_X9_ofPerson.at 15 rfl) rfl ?_
        refine X_iconst (tk_X9_ofPerson.at 16 rfl) ci_4 ?_
        refine X_icmp_geN (tgt := 48) (tk_X9_ofPerson.at 17 rfl) (by decide) ef (pl 4 rfl) (by omega) (by omega) (fun c4 => ?_) (fun c4 => ?_)
        · refine X_iload_n (tk_X9_ofPerson.at 25 rfl) rfl ?_
          refine X_iconst (tk_X9_ofPerson.at 26 rfl) ci_4 ?_
          refine X_icmp_neN (tgt := 64) (tk_X9_ofPerson.at 27 rfl) (by decide) ef (pl 4 rfl) (by omega) (by omega) (fun c5 => ?_) (fun c5 => ?_)
          · refine X_aload_n (tk_X9_ofPerson.at 33 rfl) rfl ?_
            refine X_getR (tk_X9_ofPerson.at 34 rfl) fl_x9_12 hI.P0 rfl rfl ?_
            refine X_iload_n (tk_X9_ofPerson.at 35 rfl) rfl ?_
            refine X_cV1i (lv2 := [(0, _), (1, _)]) (tk_X9_ofPerson.at 36 rfl) mv_X2_placeOf lk_x9_88 np_X2_placeOf hI.D.1 (by decide) rfl (Nat.le_of_ble_eq_true rfl) (Nat.le_of_ble_eq_true rfl) rfl (c2_placeOf (p := j8) hI.D hw hr ej8 (fun r69 i69 h69 => ?_) (fun h69 => ?_))
            · refine X_ireturn (tk_X9_ofPerson.at 37 rfl) rfl rfl ?_
              have rg5 : ∀ f, f ≤ 5 → 0 ≤ nI f ∧ nI f ≤ 5 := fun f h => rng rfl h (by decide)
              refine n10_ofPerson (N := N) hI.M hN hw (by intros; first | (exfalso; grind [In, On, nI_eq]) | exact ⟨by grind [In, On, nI_eq], fin_s hI (Fs.rf hI) (Sq.rf _ _) rfl⟩) (by intros; first | (exfalso; grind [In, On, nI_eq]) | exact ⟨by grind [In, On, nI_eq], fin_s hI (Fs.rf hI) (Sq.rf _ _) rfl⟩) (by intros; first | (exfalso; grind [In, On, nI_eq]) | exact ⟨by grind [In, On, nI_eq], fin_s hI (Fs.rf hI) (Sq.rf _ _) rfl⟩) (by intros; first | (exfalso; grind [In, On, nI_eq]) | exact ⟨by grind [In, On, nI_eq], fin_s hI (Fs.rf hI) (Sq.rf _ _) rfl⟩) (by intros; first | (exfalso; grind [In, On, nI_eq]) | exact ⟨by grind [In, On, nI_eq], fin_s hI (Fs.rf hI) (Sq.rf _ _) rfl⟩) (by intros; first | (exfalso; grind [In, On, nI_eq]) | exact ⟨by grind [In, On, nI_eq], fin_s hI (Fs.rf hI) (Sq.rf _ _) rfl⟩)
            · refine X_ireturn (tk_X9_ofPerson.at 37 rfl) rfl rfl ?_
              have rg5 : ∀ f, f ≤ 5 → 0 ≤ nI f ∧ nI f ≤ 5 := fun f h => rng rfl h (by decide)
              refine n10_ofPerson (N := N) hI.M hN hw (by intros; first | (exfalso; grind [In, On, nI_eq]) | exact ⟨by grind [In, On, nI_eq], fin_s hI (Fs.rf hI) (Sq.rf _ _) rfl⟩) (by intros; first | (exfalso; grind [In, On, nI_eq]) | exact ⟨by grind [In, On, nI_eq], fin_s hI (Fs.rf hI) (Sq.rf _ _) rfl⟩) (by intros; first | (exfalso; grind [In, On, nI_eq]) | exact ⟨by grind [In, On, nI_eq], fin_s hI (Fs.rf hI) (Sq.rf _ _) rfl⟩) (by intros; first | (exfalso; grind [In, On, nI_eq]) | exact ⟨by grind [In, On, nI_eq], fin_s hI (Fs.rf hI) (Sq.rf _ _) rfl⟩) (by intros; first | (exfalso; grind [In, On, nI_eq]) | exact ⟨by grind [In, On, nI_eq], fin_s hI (Fs.rf hI) (Sq.rf _ _) rfl⟩) (by intros; first | (exfalso; grind [In, On, nI_eq]) | exact ⟨by grind [In, On, nI_eq], fin_s hI (Fs.rf hI) (Sq.rf _ _) rfl⟩)
          · refine X_aload_n (tk_X9_ofPerson.at 28 rfl) rfl ?_
            refine X_getR (tk_X9_ofPerson.at 29 rfl) fl_x9_12 hI.P0 rfl rfl ?_
            refine X_iload_n (tk_X9_ofPerson.at 30 rfl) rfl ?_
            refine X_cV1i (lv2 := [(0, _), (1, _)]) (tk_X9_ofPerson.at 31 rfl) mv_X2_ropeOf lk_x9_85 np_X2_ropeOf hI.D.1 (by decide) rfl (Nat.le_of_ble_eq_true rfl) (Nat.le_of_ble_eq_true rfl) rfl (c2_ropeOf (p := j8) hI.D hw hr ej8 (fun r58 i58 h58 => ?_) (fun h58 => ?_))
            · have hr58 := h58.1
              refine X_goto (tgt := 72) (tk_X9_ofPerson.at 32 rfl) (by decide) ?_
              refine X_ireturn (tk_X9_ofPerson.at 37 rfl) rfl rfl ?_
              have rg5 : ∀ f, f ≤ 5 → 0 ≤ nI f ∧ nI f ≤ 5 := fun f h => rng rfl h (by decide)
              refine n10_ofPerson (N := N) hI.M hN hw (by intros; first | (exfalso; grind [In, On, nI_eq]) | exact ⟨by grind [In, On, nI_eq], fin_s hI (Fs.rf hI) (Sq.rf _ _) rfl⟩) (by intros; first | (exfalso; grind [In, On, nI_eq]) | exact ⟨by grind [In, On, nI_eq], fin_s hI (Fs.rf hI) (Sq.rf _ _) rfl⟩) (by intros; first | (exfalso; grind [In, On, nI_eq]) | exact ⟨by grind [In, On, nI_eq], fin_s hI (Fs.rf hI) (Sq.rf _ _) rfl⟩) (by intros; first | (exfalso; grind [In, On, nI_eq]) | exact ⟨by grind [In, On, nI_eq], fin_s hI (Fs.rf hI) (Sq.rf _ _) rfl⟩) (by intros; first | (exfalso; grind [In, On, nI_eq]) | exact ⟨by grind [In, On, nI_eq], fin_s hI (Fs.rf hI) (Sq.rf _ _) rfl⟩) (by intros; first | (exfalso; grind [In, On, nI_eq]) | exact ⟨by grind [In, On, nI_eq], fin_s hI (Fs.rf hI) (Sq.rf _ _) rfl⟩)
            · refine X_goto (tgt := 72) (tk_X9_ofPerson.at 32 rfl) (by decide) ?_
              refine X_ireturn (tk_X9_ofPerson.at 37 rfl) rfl rfl ?_
              have rg5 : ∀ f, f ≤ 5 → 0 ≤ nI f ∧ nI f ≤ 5 := fun f h => rng rfl h (by decide)
              refine n10_ofPerson (N := N) hI.M hN hw (by intros; first | (exfalso; grind [In, On, nI_eq]) | exact ⟨by grind [In, On, nI_eq], fin_s hI (Fs.rf hI) (Sq.rf _ _) rfl⟩) (by intros; first | (exfalso; grind [In, On, nI_eq]) | exact ⟨by grind [In, On, nI_eq], fin_s hI (Fs.rf hI) (Sq.rf _ _) rfl⟩) (by intros; first | (exfalso; grind [In, On, nI_eq]) | exact ⟨by grind [In, On, nI_eq], fin_s hI (Fs.rf hI) (Sq.rf _ _) rfl⟩) (by intros; first | (exfalso; grind [In, On, nI_eq]) | exact ⟨by grind [In, On, nI_eq], fin_s hI (Fs.rf hI) (Sq.rf _ _) rfl⟩) (by intros; first | (exfalso; grind [In, On, nI_eq]) | exact ⟨by grind [In, On, nI_eq], fin_s hI (Fs.rf hI) (Sq.rf _ _) rfl⟩) (by intros; first | (exfalso; grind [In, On, nI_eq]) | exact ⟨by grind [In, On, nI_eq], fin_s hI (Fs.rf hI) (Sq.rf _ _) rfl⟩)
        · refine X_aload_n (tk_X9_ofPerson.at 18 rfl) rfl ?_
          refine X_getR (tk_X9_ofPerson.at 19 rfl) fl_x9_12 hI.P0 rfl rfl ?_
          refine X_getR (tk_X9_ofPerson.at 20 rfl) fl_x9_62 hI.D.1 rfl rfl ?_
          refine X_iload_n (tk_X9_ofPerson.at 21 rfl) rfl ?_
          refine X_iload_n (tk_X9_ofPerson.at 22 rfl) rfl ?_
          refine X_cV2i (lv2 := [(0, _), (1, _), (2, _)]) (tk_X9_ofPerson.at 23 rfl) mv_X3_get lk_x9_81 np_X3_get hI.D.2.1.1 (by decide) rfl (Nat.le_of_ble_eq_true rfl) (Nat.le_of_ble_eq_true rfl) rfl (d_pg (k := 8 + 4 * j8 + f) (p := j8) (c := f) hI.D hw hr ej8 (by omega) ef (by omega) (by omega) ?_)
          refine X_ireturn (tk_X9_ofPerson.at 24 rfl) rfl rfl ?_
          have rg5 : ∀ f, f ≤ 5 → 0 ≤ nI f ∧ nI f ≤ 5 := fun f h => rng rfl h (by decide)
          refine n10_ofPerson (N := N) hI.M hN hw (by intros; first | (exfalso; grind [In, On, nI_eq]) | exact ⟨by grind [In, On, nI_eq], fin_s hI (Fs.rf hI) (Sq.rf _ _) rfl⟩) (by intros; first | (exfalso; grind [In, On, nI_eq]) | exact ⟨by grind [In, On, nI_eq], fin_s hI (Fs.rf hI) (Sq.rf _ _) rfl⟩) (by intros; first | (exfalso; grind [In, On, nI_eq]) | exact ⟨by grind [In, On, nI_eq], fin_s hI (Fs.rf hI) (Sq.rf _ _) rfl⟩) (by intros; first | (exfalso; grind [In, On, nI_eq]) | exact ⟨by grind [In, On, nI_eq], fin_s hI (Fs.rf hI) (Sq.rf _ _) rfl⟩) (by intros; first | (exfalso; grind [In, On, nI_eq]) | exact ⟨by grind [In, On, nI_eq], fin_s hI (Fs.rf hI) (Sq.rf _ _) rfl⟩) (by intros; first | (exfalso; grind [In, On, nI_eq]) | exact ⟨by grind [In, On, nI_eq], fin_s hI (Fs.rf hI) (Sq.rf _ _) rfl⟩)
      · refine X_aload_n (tk_X9_ofPerson.at 11 rfl) rfl ?_
        refine X_ldc (tk_X9_ofPerson.at 12 rfl) kn_x9_76 ?_
        refine X_cV1i (lv2 := [(0, _), (1, _)]) (tk_X9_ofPerson.at 13 rfl) mv_X9_fail lk_x9_77 np_X9_fail hI.P0 (by decide) rfl (Nat.le_of_ble_eq_true rfl) (Nat.le_of_ble_eq_true rfl) rfl (c9_fail (k := 1) hI.P0 hI.E (by decide) (by decide) ?_)
        refine X_ireturn (tk_X9_ofPerson.at 14 rfl) rfl rfl ?_
        have rg5 : ∀ f, f ≤ 5 → 0 ≤ nI f ∧ nI f ≤ 5 := fun f h => rng rfl h (by decide)
        refine n10_ofPerson (N := N) hI.M (by rw [su_ne (by omega)]; exact hN) hw (by intros; first | (exfalso; grind [In, On, nI_eq]) | exact ⟨by grind [In, On, nI_eq], fin_e hI (Fs.rf hI) (Sq.rf _ _) rfl⟩) (by intros; first | (exfalso; grind [In, On, nI_eq]) | exact ⟨by grind [In, On, nI_eq], fin_e hI (Fs.rf hI) (Sq.rf _ _) rfl⟩) (by intros; first | (exfalso; grind [In, On, nI_eq]) | exact ⟨by grind [In, On, nI_eq], fin_e hI (Fs.rf hI) (Sq.rf _ _) rfl⟩) (by intros; first | (exfalso; grind [In, On, nI_eq]) | exact ⟨by grind [In, On, nI_eq], fin_e hI (Fs.rf hI) (Sq.rf _ _) rfl⟩) (by intros; first | (exfalso; grind [In, On, nI_eq]) | exact ⟨by grind [In, On, nI_eq], fin_e hI (Fs.rf hI) (Sq.rf _ _) rfl⟩) (by intros; first | (exfalso; grind [In, On, nI_eq]) | exact ⟨by grind [In, On, nI_eq], fin_e hI (Fs.rf hI) (Sq.rf _ _) rfl⟩)
  · refine X_if_eq (tgt := 23) (tk_X9_ofPerson.at 5 rfl) (by decide) (fun _ => ?_) (fun h => absurd h (by decide))
    refine X_aload_n (tk_X9_ofPerson.at 11 rfl) rfl ?_
    refine X_ldc (tk_X9_ofPerson.at 12 rfl) kn_x9_76 ?_
    refine X_cV1i (lv2 := [(0, _), (1, _)]) (tk_X9_ofPerson.at 13 rfl) mv_X9_fail lk_x9_77 np_X9_fail hI.P0 (by decide) rfl (Nat.le_of_ble_eq_true rfl) (Nat.le_of_ble_eq_true rfl) rfl (c9_fail (k := 1) hI.P0 hI.E (by decide) (by decide) ?_)
    refine X_ireturn (tk_X9_ofPerson.at 14 rfl) rfl rfl ?_
    have rg5 : ∀ f, f ≤ 5 → 0 ≤ nI f ∧ nI f ≤ 5 := fun f h => rng rfl h (by decide)
    refine n10_ofPerson (N := N) hI.M (by rw [su_ne (by omega)]; exact hN) hw (by intros; first | (exfalso; grind [In, On, nI_eq]) | exact ⟨by grind [In, On, nI_eq], fin_e hI (Fs.rf hI) (Sq.rf _ _) rfl⟩) (by intros; first | (exfalso; grind [In, On, nI_eq]) | exact ⟨by grind [In, On, nI_eq], fin_e hI (Fs.rf hI) (Sq.rf _ _) rfl⟩) (by intros; first | (exfalso; grind [In, On, nI_eq]) | exact ⟨by grind [In, On, nI_eq], fin_e hI (Fs.rf hI) (Sq.rf _ _) rfl⟩) (by intros; first | (exfalso; grind [In, On, nI_eq]) | exact ⟨by grind [In, On, nI_eq], fin_e hI (Fs.rf hI) (Sq.rf _ _) rfl⟩) (by intros; first | (exfalso; grind [In, On, nI_eq]) | exact ⟨by grind [In, On, nI_eq], fin_e hI (Fs.rf hI) (Sq.rf _ _) rfl⟩) (by intros; first | (exfalso; grind [In, On, nI_eq]) | exact ⟨by grind [In, On, nI_eq], fin_e hI (Fs.rf hI) (Sq.rf _ _) rfl⟩)
set_option maxHeartbeats 1000000 in
theorem t_ofPiece {G : Gl} {d : Nat} {S : Sh} {μ : Mu} {P o t q im : Nat} {kp : Option Nat} {p x : Int32} (hI : Inv G S P o kp t q im μ) : X G mi_X9_ofPiece (d + 60) 0 0 [(0, .ref P), (1, .int p), (2, .int x)] [] S μ (qi (fun an S1 μ1 => X G mi_X10_ofPiece (d + 60) 0 0 [(0, .ref o), (1, .int p), (2, .int x)] [] S1 μ1 (qi (Eq2 G P o im an)))) := by
  obtain ⟨N, hN⟩ : ∃ N, μ (o + 1) = N := ⟨_, rfl⟩
  have hw : WF N := hN ▸ hI.wf
  have hr : repD μ (P + 1) N := hN ▸ hI.rep
  have lo := hI.lo
  have b1 := hw.n1.2
  have b2 := hw.n2.2
  have b3 := hw.n3.2
  have b4 := hw.n4.2
  have b5 := hw.n5.2
  have b6 := hw.n6.2
  have hun : ∀ r i r' i' p, On N r i p → On N r' i' p → r = r' ∧ i = i' := fun _ _ _ _ _ h1 h2 => hw.un h1 h2
  have hlu : ∀ k k', k < nv (N 4) → k' < nv (N 4) → N (134 + k) = N (134 + k') → k = k' := fun _ _ h1 h2 e => hw.lu h1 h2 e
  have hnz : nI 0 = 0 := rfl
  refine X_aload_n (tk_X9_ofPiece.at 0 rfl) rfl ?_
  refine X_getR (tk_X9_ofPiece.at 1 rfl) fl_x9_12 hI.P0 rfl rfl ?_
  refine X_getR (tk_X9_ofPiece.at 2 rfl) fl_x9_118 hI.D.1 rfl rfl ?_
  refine X_iload_n (tk_X9_ofPiece.at 3 rfl) rfl ?_
  refine X_cV1i (lv2 := [(0, _), (1, _)]) (tk_X9_ofPiece.at 4 rfl) mv_X3_has lk_x9_70 np_X3_has hI.D.2.2.1.1 (by decide) rfl (Nat.le_of_ble_eq_true rfl) (Nat.le_of_ble_eq_true rfl) rfl (d_chas hI.D hw hr (fun j8 hj8 ej8 => ?_) (fun hj8 => ?_))
  · refine X_if_eq (tgt := 23) (tk_X9_ofPiece.at 5 rfl) (by decide) (fun h => absurd h (by decide)) (fun _ => ?_)
    refine X_iload_n (tk_X9_ofPiece.at 6 rfl) rfl ?_
    refine X_if_lt (tgt := 23) (tk_X9_ofPiece.at 7 rfl) (by decide) (fun c2 => ?_) (fun c2 => ?_)
    · refine X_aload_n (tk_X9_ofPiece.at 11 rfl) rfl ?_
      refine X_ldc (tk_X9_ofPiece.at 12 rfl) kn_x9_76 ?_
      refine X_cV1i (lv2 := [(0, _), (1, _)]) (tk_X9_ofPiece.at 13 rfl) mv_X9_fail lk_x9_77 np_X9_fail hI.P0 (by decide) rfl (Nat.le_of_ble_eq_true rfl) (Nat.le_of_ble_eq_true rfl) rfl (c9_fail (k := 1) hI.P0 hI.E (by decide) (by decide) ?_)
      refine X_ireturn (tk_X9_ofPiece.at 14 rfl) rfl rfl ?_
      have rg3 : ∀ f, f ≤ 3 → 0 ≤ nI f ∧ nI f ≤ 3 := fun f h => rng rfl h (by decide)
      refine n10_ofPiece (N := N) hI.M (by rw [su_ne (by omega)]; exact hN) (n := nv (N 2)) hw.n2.1 (by omega) (by intros; first | (exfalso; grind [In, On, nI_eq]) | exact ⟨by grind [In, On, nI_eq], fin_e hI (Fs.rf hI) (Sq.rf _ _) rfl⟩) (by intros; first | (exfalso; grind [In, On, nI_eq]) | exact ⟨by grind [In, On, nI_eq], fin_e hI (Fs.rf hI) (Sq.rf _ _) rfl⟩)
    · refine X_iload_n (tk_X9_ofPiece.at 8 rfl) rfl ?_
      refine X_iconst (tk_X9_ofPiece.at 9 rfl) ci_4 ?_
      refine X_icmp_lt (tgt := 30) (tk_X9_ofPiece.at 10 rfl) (by decide) (fun c3 => ?_) (fun c3 => ?_)
      · have hcf : 0 ≤ x ∧ x ≤ 3 := by grind
        obtain ⟨f, ef, hf⟩ : ∃ f, x = nI f ∧ f ≤ 3 := ⟨nv x, (le_lits (a := 0) (b := 3) (by decide) hcf.1 hcf.2 (by decide)).1, (le_lits (a := 0) (b := 3) (by decide) hcf.1 hcf.2 (by decide)).2.2⟩
        refine X_aload_n (tk_X9_ofPiece.at 15 rfl) rfl ?_
        refine X_getR (tk_X9_ofPiece.at 16 rfl) fl_x9_12 hI.P0 rfl rfl ?_
        refine X_getR (tk_X9_ofPiece.at 17 rfl) fl_x9_118 hI.D.1 rfl rfl ?_
        refine X_iload_n (tk_X9_ofPiece.at 18 rfl) rfl ?_
        refine X_iload_n (tk_X9_ofPiece.at 19 rfl) rfl ?_
        refine X_cV2i (lv2 := [(0, _), (1, _), (2, _)]) (tk_X9_ofPiece.at 20 rfl) mv_X3_get lk_x9_81 np_X3_get hI.D.2.2.1.1 (by decide) rfl (Nat.le_of_ble_eq_true rfl) (Nat.le_of_ble_eq_true rfl) rfl (d_cg (k := 48 + 4 * j8 + f) (p := j8) (c := f) hI.D hw hr ej8 (by omega) ef (by omega) (by omega) ?_)
        refine X_ireturn (tk_X9_ofPiece.at 21 rfl) rfl rfl ?_
        have rg3 : ∀ f, f ≤ 3 → 0 ≤ nI f ∧ nI f ≤ 3 := fun f h => rng rfl h (by decide)
        refine n10_ofPiece (N := N) hI.M hN (n := nv (N 2)) hw.n2.1 (by omega) (by intros; first | (exfalso; grind [In, On, nI_eq]) | exact ⟨by grind [In, On, nI_eq], fin_s hI (Fs.rf hI) (Sq.rf _ _) rfl⟩) (by intros; first | (exfalso; grind [In, On, nI_eq]) | exact ⟨by grind [In, On, nI_eq], fin_s hI (Fs.rf hI) (Sq.rf _ _) rfl⟩)
      · refine X_aload_n (tk_X9_ofPiece.at 11 rfl) rfl ?_
        refine X_ldc (tk_X9_ofPiece.at 12 rfl) kn_x9_76 ?_
        refine X_cV1i (lv2 := [(0, _), (1, _)]) (tk_X9_ofPiece.at 13 rfl) mv_X9_fail lk_x9_77 np_X9_fail hI.P0 (by decide) rfl (Nat.le_of_ble_eq_true rfl) (Nat.le_of_ble_eq_true rfl) rfl (c9_fail (k := 1) hI.P0 hI.E (by decide) (by decide) ?_)
        refine X_ireturn (tk_X9_ofPiece.at 14 rfl) rfl rfl ?_
        have rg3 : ∀ f, f ≤ 3 → 0 ≤ nI f ∧ nI f ≤ 3 := fun f h => rng rfl h (by decide)
        refine n10_ofPiece (N := N) hI.M (by rw [su_ne (by omega)]; exact hN) (n := nv (N 2)) hw.n2.1 (by omega) (by intros; first | (exfalso; grind [In, On, nI_eq]) | exact ⟨by grind [In, On, nI_eq], fin_e hI (Fs.rf hI) (Sq.rf _ _) rfl⟩) (by intros; first | (exfalso; grind [In, On, nI_eq]) | exact ⟨by grind [In, On, nI_eq], fin_e hI (Fs.rf hI) (Sq.rf _ _) rfl⟩)
  · refine X_if_eq (tgt := 23) (tk_X9_ofPiece.at 5 rfl) (by decide) (fun _ => ?_) (fun h => absurd h (by decide))
    refine X_aload_n (tk_X9_ofPiece.at 11 rfl) rfl ?_
    refine X_ldc (tk_X9_ofPiece.at 12 rfl) kn_x9_76 ?_
    refine X_cV1i (lv2 := [(0, _), (1, _)]) (tk_X9_ofPiece.at 13 rfl) mv_X9_fail lk_x9_77 np_X9_fail hI.P0 (by decide) rfl (Nat.le_of_ble_eq_true rfl) (Nat.le_of_ble_eq_true rfl) rfl (c9_fail (k := 1) hI.P0 hI.E (by decide) (by decide) ?_)
    refine X_ireturn (tk_X9_ofPiece.at 14 rfl) rfl rfl ?_
    have rg3 : ∀ f, f ≤ 3 → 0 ≤ nI f ∧ nI f ≤ 3 := fun f h => rng rfl h (by decide)
    refine n10_ofPiece (N := N) hI.M (by rw [su_ne (by omega)]; exact hN) (n := nv (N 2)) hw.n2.1 (by omega) (by intros; first | (exfalso; grind [In, On, nI_eq]) | exact ⟨by grind [In, On, nI_eq], fin_e hI (Fs.rf hI) (Sq.rf _ _) rfl⟩) (by intros; first | (exfalso; grind [In, On, nI_eq]) | exact ⟨by grind [In, On, nI_eq], fin_e hI (Fs.rf hI) (Sq.rf _ _) rfl⟩)
set_option maxHeartbeats 1000000 in
theorem t_hold {G : Gl} {d : Nat} {S : Sh} {μ : Mu} {P o t q im : Nat} {kp : Option Nat} {p : Int32} (hI : Inv G S P o kp t q im μ) : X G mi_X9_hold (d + 60) 0 0 [(0, .ref P), (1, .int p)] [] S μ (qi (fun an S1 μ1 => X G mi_X10_hold (d + 60) 0 0 [(0, .ref o), (1, .int p)] [] S1 μ1 (qi (Eq2 G P o im an)))) := by
  obtain ⟨N, hN⟩ : ∃ N, μ (o + 1) = N := ⟨_, rfl⟩
  have hw : WF N := hN ▸ hI.wf
  have hr : repD μ (P + 1) N := hN ▸ hI.rep
  have lo := hI.lo
  have b1 := hw.n1.2
  have b2 := hw.n2.2
  have b3 := hw.n3.2
  have b4 := hw.n4.2
  have b5 := hw.n5.2
  have b6 := hw.n6.2
  have hun : ∀ r i r' i' p, On N r i p → On N r' i' p → r = r' ∧ i = i' := fun _ _ _ _ _ h1 h2 => hw.un h1 h2
  have hlu : ∀ k k', k < nv (N 4) → k' < nv (N 4) → N (134 + k) = N (134 + k') → k = k' := fun _ _ h1 h2 e => hw.lu h1 h2 e
  have hnz : nI 0 = 0 := rfl
  refine X_aload_n (tk_X9_hold.at 0 rfl) rfl ?_
  refine X_getR (tk_X9_hold.at 1 rfl) fl_x9_12 hI.P0 rfl rfl ?_
  refine X_getR (tk_X9_hold.at 2 rfl) fl_x9_62 hI.D.1 rfl rfl ?_
  refine X_iload_n (tk_X9_hold.at 3 rfl) rfl ?_
  refine X_cV1i (lv2 := [(0, _), (1, _)]) (tk_X9_hold.at 4 rfl) mv_X3_has lk_x9_70 np_X3_has hI.D.2.1.1 (by decide) rfl (Nat.le_of_ble_eq_true rfl) (Nat.le_of_ble_eq_true rfl) rfl (d_phas hI.D hw hr (fun j8 hj8 ej8 => ?_) (fun hj8 => ?_))
  · refine X_if_ne (tgt := 21) (tk_X9_hold.at 5 rfl) (by decide) (fun _ => ?_) (fun h => absurd h (by decide))
    refine X_aload_n (tk_X9_hold.at 10 rfl) rfl ?_
    refine X_getR (tk_X9_hold.at 11 rfl) fl_x9_12 hI.P0 rfl rfl ?_
    refine X_iload_n (tk_X9_hold.at 12 rfl) rfl ?_
    refine X_cV1i (lv2 := [(0, _), (1, _)]) (tk_X9_hold.at 13 rfl) mv_X2_ropeOf lk_x9_85 np_X2_ropeOf hI.D.1 (by decide) rfl (Nat.le_of_ble_eq_true rfl) (Nat.le_of_ble_eq_true rfl) rfl (c2_ropeOf (p := j8) hI.D hw hr ej8 (fun r26 i26 h26 => ?_) (fun h26 => ?_))
    · have hr26 := h26.1
      refine X_istore_n (lv' := [(0, _), (1, _), (2, _)]) (tk_X9_hold.at 14 rfl) (by decide) rfl rfl ?_
      refine X_iload_n (tk_X9_hold.at 15 rfl) rfl ?_
      refine X_if_geN (tgt := 41) (tk_X9_hold.at 16 rfl) (by decide) (pl r26 rfl) (by omega) ?_
      refine X_aload_n (tk_X9_hold.at 21 rfl) rfl ?_
      refine X_getR (tk_X9_hold.at 22 rfl) fl_x9_12 hI.P0 rfl rfl ?_
      refine X_iload_n (tk_X9_hold.at 23 rfl) rfl ?_
      refine X_aload_n (tk_X9_hold.at 24 rfl) rfl ?_
      refine X_getR (tk_X9_hold.at 25 rfl) fl_x9_12 hI.P0 rfl rfl ?_
      refine X_iload_n (tk_X9_hold.at 26 rfl) rfl ?_
      refine X_cV1i (lv2 := [(0, _), (1, _)]) (tk_X9_hold.at 27 rfl) mv_X2_placeOf lk_x9_88 np_X2_placeOf hI.D.1 (by decide) rfl (Nat.le_of_ble_eq_true rfl) (Nat.le_of_ble_eq_true rfl) rfl (c2_placeOf (p := j8) hI.D hw hr ej8 (fun r51 i51 h51 => ?_) (fun h51 => absurd h26 (h51 r26 i26)))
      rw [show i51 = i26 from (hw.un h51 h26).2]
      have hi26 : i26 < mny N r26 := h26.2.1
      refine X_cV2i (lv2 := [(0, _), (1, _), (2, _)]) (tk_X9_hold.at 28 rfl) mv_X2_holdAt lk_x9_167 np_X2_holdAt hI.D.1 (by decide) rfl (Nat.le_of_ble_eq_true rfl) (Nat.le_of_ble_eq_true rfl) rfl (c2_holdAt (rn := r26) (f := i26) hI.D hw hr (pz (pl r26 rfl) (by omega)) (by omega) (pz (pl i26 rfl) (by omega)) (by omega) ?_)
      refine X_ireturn (tk_X9_hold.at 29 rfl) rfl rfl ?_
      refine n10_hold (N := N) hI.M hN hw (by first | exact hI.l0 | (rw [su_ne (by omega)]; exact hI.l0)) (by intros; first | (exfalso; grind [In, On, nI_eq]) | exact ⟨by grind [In, On, nI_eq], fin_s hI (Fs.rf hI) (Sq.rf _ _) rfl⟩) (by intros; first | (exfalso; grind [In, On, nI_eq]) | exact ⟨by grind [In, On, nI_eq], fin_s hI (Fs.rf hI) (Sq.rf _ _) rfl⟩) (by intros; first | (exfalso; grind [In, On, nI_eq]) | exact ⟨by grind [In, On, nI_eq], fin_s hI (Fs.rf hI) (Sq.rf _ _) rfl⟩)
    · refine X_istore_n (lv' := [(0, _), (1, _), (2, _)]) (tk_X9_hold.at 14 rfl) (by decide) rfl rfl ?_
      refine X_iload_n (tk_X9_hold.at 15 rfl) rfl ?_
      refine X_if_ge (tgt := 41) (tk_X9_hold.at 16 rfl) (by decide) (fun h => absurd h (by decide)) (fun _ => ?_)
      refine X_aload_n (tk_X9_hold.at 17 rfl) rfl ?_
      refine X_ldc (tk_X9_hold.at 18 rfl) kn_x9_99 ?_
      refine X_cV1i (lv2 := [(0, _), (1, _)]) (tk_X9_hold.at 19 rfl) mv_X9_fail lk_x9_77 np_X9_fail hI.P0 (by decide) rfl (Nat.le_of_ble_eq_true rfl) (Nat.le_of_ble_eq_true rfl) rfl (c9_fail (k := 2) hI.P0 hI.E (by decide) (by decide) ?_)
      refine X_ireturn (tk_X9_hold.at 20 rfl) rfl rfl ?_
      refine n10_hold (N := N) hI.M (by rw [su_ne (by omega)]; exact hN) hw (by first | exact hI.l0 | (rw [su_ne (by omega)]; exact hI.l0)) (by intros; first | (exfalso; grind [In, On, nI_eq]) | exact ⟨by grind [In, On, nI_eq], fin_e hI (Fs.rf hI) (Sq.rf _ _) rfl⟩) (by intros; first | (exfalso; grind [In, On, nI_eq]) | exact ⟨by grind [In, On, nI_eq], fin_e hI (Fs.rf hI) (Sq.rf _ _) rfl⟩) (by intros; first | (exfalso; grind [In, On, nI_eq]) | exact ⟨by grind [In, On, nI_eq], fin_e hI (Fs.rf hI) (Sq.rf _ _) rfl⟩)
  · refine X_if_ne (tgt := 21) (tk_X9_hold.at 5 rfl) (by decide) (fun h => absurd h (by decide)) (fun _ => ?_)
    refine X_aload_n (tk_X9_hold.at 6 rfl) rfl ?_
    refine X_ldc (tk_X9_hold.at 7 rfl) kn_x9_76 ?_
    refine X_cV1i (lv2 := [(0, _), (1, _)]) (tk_X9_hold.at 8 rfl) mv_X9_fail lk_x9_77 np_X9_fail hI.P0 (by decide) rfl (Nat.le_of_ble_eq_true rfl) (Nat.le_of_ble_eq_true rfl) rfl (c9_fail (k := 1) hI.P0 hI.E (by decide) (by decide) ?_)
    refine X_ireturn (tk_X9_hold.at 9 rfl) rfl rfl ?_
    refine n10_hold (N := N) hI.M (by rw [su_ne (by omega)]; exact hN) hw (by first | exact hI.l0 | (rw [su_ne (by omega)]; exact hI.l0)) (by intros; first | (exfalso; grind [In, On, nI_eq]) | exact ⟨by grind [In, On, nI_eq], fin_e hI (Fs.rf hI) (Sq.rf _ _) rfl⟩) (by intros; first | (exfalso; grind [In, On, nI_eq]) | exact ⟨by grind [In, On, nI_eq], fin_e hI (Fs.rf hI) (Sq.rf _ _) rfl⟩) (by intros; first | (exfalso; grind [In, On, nI_eq]) | exact ⟨by grind [In, On, nI_eq], fin_e hI (Fs.rf hI) (Sq.rf _ _) rfl⟩)
