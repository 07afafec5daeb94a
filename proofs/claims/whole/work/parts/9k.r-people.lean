theorem c7_atN {G : Gl} {d : Nat} {S : Sh} {μ : Mu} {H n : Nat} {x v : Int32} {j : Nat} {K : Int32 → Sh → Mu → Prop} (hH : HS S H) (hn : μ H 2 = nI n) (hb : n ≤ 40) (hx : x = nI j) (hj : j < n) (he : μ (H + 1) j = v) (hK : K v S μ) : X G mi_X7_at d 0 0 [(0, .ref H), (1, .int x)] [] S μ (qi K) := c7_at hH hn hb hx hj (by rw [he]; exact hK)
theorem ppl_stop {f : Nat → Int32} {z b m n : Nat} {N : Nat → Int32} (h : ¬ pplc f z b n N) : ppl f z b (m + 1) n N = (n, N) := by rw [ppl]; exact if_neg h
theorem ppl_go {f : Nat → Int32} {z b m n : Nat} {N : Nat → Int32} (h : pplc f z b n N) : ppl f z b (m + 1) n N = ppl f z b m (n + 1) (pplN f b n N) := by rw [ppl]; exact if_pos h
set_option maxHeartbeats 1000000 in
theorem t_people {G : Gl} {d : Nat} {S : Sh} {μ : Mu} {P o t q im : Nat} {kp : Option Nat} {s : Int32} (hI : Inv G S P o kp t q im μ) : X G mi_X9_people (d + 60) 0 0 [(0, .ref P), (1, .int s)] [] S μ (qi (fun an S1 μ1 => X G mi_X10_people (d + 60) 0 0 [(0, .ref o), (1, .int s)] [] S1 μ1 (qi (Eq2 G P o im an)))) := by
  obtain ⟨N, hN⟩ : ∃ N, μ (o + 1) = N := ⟨_, rfl⟩
  have hw : WF N := hN ▸ hI.wf
  have hr : repD μ (P + 1) N := hN ▸ hI.rep
  have lo := hI.lo
  have b1 := hw.n1.2
  have b2 := hw.n2.2
  have b3 := hw.n3.2
  have b4 := hw.n4.2
  have b5 := hw.n5.2
  have b6 := hw.n6.2
  have hun : ∀ r i r' i' p, On N r i p → On N r' i' p → r = r' ∧ i = i' := fun _ _ _ _ _ h1 h2 => hw.un h1 h2
  have hlu : ∀ k k', k < nv (N 4) → k' < nv (N 4) → N (134 + k) = N (134 + k') → k = k' := fun _ _ h1 h2 e => hw.lu h1 h2 e
  have hnz : nI 0 = 0 := rfl
  have hli : ∀ k, k < nv (N 4) → N (134 + k) = nI (nv (N (134 + k))) ∧ nv (N (134 + k)) < nv (N 3) := fun k h => hw.li h
  obtain ⟨A, hA⟩ : ∃ N, μ (o + 14) = N := ⟨_, rfl⟩
  obtain ⟨B, hB⟩ : ∃ N, μ (o + 15) = N := ⟨_, rfl⟩
  obtain ⟨C, hC⟩ : ∃ N, μ (o + 16) = N := ⟨_, rfl⟩
  have hsh : ∀ s, s < 4 → okB (A s) ∧ μ (P + 90 + 2 * s) 1 = A s ∧ okN (B s) 40 ∧ μ (P + 90 + 2 * s) 2 = B s ∧ ∀ i, i < 40 → μ (P + 90 + 2 * s + 1) i = C (40 * s + i) := fun s hs => by have z := hI.sheet hs; rw [hA, hB, hC] at z; exact z
  have hz : ∀ x, x < 4 → okN (B x) 40 := fun x hx => (hsh x hx).2.2.1
  have rg3 : ∀ f, f < 4 → 0 ≤ nI f ∧ nI f ≤ 3 := fun f h => rng rfl (show f ≤ 3 by omega) (by decide)
  refine X_aload_n (tk_X9_people.at 0 rfl) rfl ?_
  refine X_iload_n (tk_X9_people.at 1 rfl) rfl ?_
  refine X_cV1r (lv2 := [(0, _), (1, _)]) (tk_X9_people.at 2 rfl) mv_X9_sheetOf lk_x9_91 np_X9_sheetOf hI.P0 (by decide) rfl (Nat.le_of_ble_eq_true rfl) (Nat.le_of_ble_eq_true rfl) rfl (c9_sheetOf hI (fun j hj ej => ?_) (fun hj => ?_))
  · have shj := hsh j hj
    refine X_astore_n (lv' := [(0, _), (1, _), (2, _)]) (tk_X9_people.at 3 rfl) (by decide) rfl rfl ?_
    refine X_aload_n (tk_X9_people.at 4 rfl) rfl ?_
    refine X_ifnonnull (tgt := 17) (tk_X9_people.at 5 rfl) (by decide) ?_
    refine X_aload_n (tk_X9_people.at 10 rfl) rfl ?_
    refine X_cV0i (lv2 := [(0, _)]) (tk_X9_people.at 11 rfl) mv_X7_isMissing lk_x9_95 np_X7_isMissing (hI.hs (i := j) (by omega)).1 (by decide) rfl (Nat.le_of_ble_eq_true rfl) (Nat.le_of_ble_eq_true rfl) rfl (c7_isMissing (hI.hs (i := j) (by omega)) (fun mj => ?_) (fun mj => ?_))
    · rw [shj.2.1] at mj
      refine X_if_eq (tgt := 31) (tk_X9_people.at 12 rfl) (by decide) (fun h => absurd h (by decide)) (fun _ => ?_)
      refine X_aload_n (tk_X9_people.at 13 rfl) rfl ?_
      refine X_ldc (tk_X9_people.at 14 rfl) kn_x9_99 ?_
      refine X_cV1i (lv2 := [(0, _), (1, _)]) (tk_X9_people.at 15 rfl) mv_X9_fail lk_x9_77 np_X9_fail hI.P0 (by decide) rfl (Nat.le_of_ble_eq_true rfl) (Nat.le_of_ble_eq_true rfl) rfl (c9_fail (k := 2) hI.P0 hI.E (by decide) (by decide) ?_)
      refine X_ireturn (tk_X9_people.at 16 rfl) rfl rfl ?_
      refine p10_people (N := N) (A := A) (B := B) (C := C) hI.M (by rw [su_ne (by omega)]; exact hN) (by rw [su_ne (by omega)]; exact hA) (by rw [su_ne (by omega)]; exact hB) (by rw [su_ne (by omega)]; exact hC) hw hz (by intros; first | (exfalso; grind [In, nI_eq]) | exact ⟨by grind [In, nI_eq], fin_e hI (Fs.rf hI) (Sq.rf _ _) rfl⟩) (by intros; first | (exfalso; grind [In, nI_eq]) | exact ⟨by grind [In, nI_eq], fin_e hI (Fs.rf hI) (Sq.rf _ _) rfl⟩) (by intros; first | (exfalso; grind [In, nI_eq]) | exact ⟨by grind [In, nI_eq], fin_e hI (Fs.rf hI) (Sq.rf _ _) rfl⟩)
    · rw [shj.2.1] at mj
      refine X_if_eq (tgt := 31) (tk_X9_people.at 12 rfl) (by decide) (fun _ => ?_) (fun h => absurd h (by decide))
      refine X_iconst (tk_X9_people.at 17 rfl) ci_0 ?_
      refine X_istore_n (lv' := [(0, _), (1, _), (2, _), (3, _)]) (tk_X9_people.at 18 rfl) (by decide) rfl rfl ?_
      refine X_iconst (tk_X9_people.at 19 rfl) ci_0 ?_
      refine X_istore (lv' := [(0, _), (1, _), (2, _), (3, _), (4, _)]) (tk_X9_people.at 20 rfl) (by decide) rfl rfl ?_
      have loop : ∀ (m n : Nat) (M : Nat → Int32) (ν : Mu) (rest : List (Nat × Value)), n + m = 11 → 4 * n ≤ nv (B j) → (∀ a, a ≠ (P + 1 + 1) → a ≠ (P + 1 + 1) + 1 → ν a = μ a) → repD ν (P + 1) M → WF M → ppl C (nv (B j)) (40 * j) m n M = ppl C (nv (B j)) (40 * j) 11 0 N → X G mi_X9_people (d + 60) 0 36 ([(0, .ref P), (1, .int s), (2, .ref (P + 90 + 2 * j)), (3, .int (nI n)), (4, .int (nI (4 * n)))] ++ rest) [] S ν (qi (fun an S1 μ1 => X G mi_X10_people (d + 60) 0 0 [(0, .ref o), (1, .int s)] [] S1 μ1 (qi (Eq2 G P o im an)))) := by
        intro m
        induction m with
        | zero => intro n M ν rest h1 h2; exfalso; have := shj.2.2.1.2; omega
        | succ m ih =>
          intro n M ν rest hnm hz4 fν rν wk hpp
          refine X_lvp [0, 1, 2, 3, 4] (lv' := [(0, _), (1, _), (2, _), (3, _), (4, _)]) rfl ?_
          have b40 := shj.2.2.1.2
          have hsz : ν (P + 90 + 2 * j) 2 = nI (nv (B j)) := by rw [fν _ (by omega) (by omega)]; exact shj.2.2.2.1.trans shj.2.2.1.1
          have hNν : ν (o + 1) = N := by rw [fν _ (by omega) (by omega)]; exact hN
          have hst : Sta G S ν := fun i hi => ⟨(hI.st i hi).1, fun k hk => by have := hI.1.2.2.2.1 i hi; rw [fν _ (by omega) (by omega)]; exact (hI.st i hi).2 k hk⟩
          refine X_iload (tk_X9_people.at 21 rfl) rfl ?_
          refine X_iconst (tk_X9_people.at 22 rfl) ci_4 ?_
          refine X_iadd (tk_X9_people.at 23 rfl) ?_
          refine X_aload_n (tk_X9_people.at 24 rfl) rfl ?_
          refine X_cV0i (lv2 := [(0, _)]) (tk_X9_people.at 25 rfl) mv_X7_size lk_x9_100 np_X7_size (hI.hs (i := j) (by omega)).1 (by decide) rfl (Nat.le_of_ble_eq_true rfl) (Nat.le_of_ble_eq_true rfl) rfl (c7_size (hI.hs (i := j) (by omega)) hsz shj.2.2.1.2 ?_)
          refine X_icmp_gtN (tgt := 149) (tk_X9_people.at 26 rfl) (by decide) (pa (pl (4 * n) rfl) (pl 4 rfl)) (pl (nv (B j)) rfl) (by omega) (by omega) (fun c1 => ?_) (fun c1 => ?_)
          · refine X_iload_n (tk_X9_people.at 75 rfl) rfl ?_
            refine X_ireturn (tk_X9_people.at 76 rfl) rfl rfl ?_
            have hstop : ¬ pplc C (nv (B j)) (40 * j) n M := fun g => by first | (have g1 := g.1; have g2 := g.2.1; exfalso; omega) | exact hfit ((fit_p hst).mpr g.2.2)
            have hres := hpp.symm.trans (ppl_stop hstop)
            refine p10_people (N := N) (A := A) (B := B) (C := C) hI.M (by rw [fν _ (by omega) (by omega)]; exact hN) (by rw [fν _ (by omega) (by omega)]; exact hA) (by rw [fν _ (by omega) (by omega)]; exact hB) (by rw [fν _ (by omega) (by omega)]; exact hC) hw hz (fun g => absurd ⟨j, hj, ej⟩ g) (fun x hx ex e0 => absurd (nI_j ex ej (by omega) (by omega) ▸ e0) mj) (fun x hx ex e0 => ?_)
            have q1 := nI_j ex ej (by omega) (by omega)
            subst q1
            rw [hres]
            exact ⟨rfl, fin_d hI (Fn_now hI (fun a ha => fν a (by omega) (by omega))) rν wk⟩
          · refine X_aload_n (tk_X9_people.at 27 rfl) rfl ?_
            refine X_iload (tk_X9_people.at 28 rfl) rfl ?_
            refine X_cV1i (lv2 := [(0, _), (1, _)]) (tk_X9_people.at 29 rfl) mv_X7_at lk_x9_104 np_X7_at (hI.hs (i := j) (by omega)).1 (by decide) rfl (Nat.le_of_ble_eq_true rfl) (Nat.le_of_ble_eq_true rfl) rfl (c7_atN (n := nv (B j)) (j := 4 * n + 0) (v := (C (40 * j + 4 * n))) (hI.hs (i := j) (by omega)) hsz shj.2.2.1.2 (pl (4 * n) rfl) (by omega) (by rw [fν _ (by omega) (by omega), shj.2.2.2.2 _ (by omega)]; exact congrArg C (by omega)) ?_)
            refine X_istore (lv' := [(0, _), (1, _), (2, _), (3, _), (4, _), (5, _)]) (tk_X9_people.at 30 rfl) (by decide) rfl rfl ?_
            refine X_aload_n (tk_X9_people.at 31 rfl) rfl ?_
            refine X_iload (tk_X9_people.at 32 rfl) rfl ?_
            refine X_iconst (tk_X9_people.at 33 rfl) ci_1 ?_
            refine X_iadd (tk_X9_people.at 34 rfl) ?_
            refine X_cV1i (lv2 := [(0, _), (1, _)]) (tk_X9_people.at 35 rfl) mv_X7_at lk_x9_104 np_X7_at (hI.hs (i := j) (by omega)).1 (by decide) rfl (Nat.le_of_ble_eq_true rfl) (Nat.le_of_ble_eq_true rfl) rfl (c7_atN (n := nv (B j)) (j := 4 * n + 1) (v := (C (1 + 40 * j + 4 * n))) (hI.hs (i := j) (by omega)) hsz shj.2.2.1.2 (pa (pl (4 * n) rfl) (pl 1 rfl)) (by omega) (by rw [fν _ (by omega) (by omega), shj.2.2.2.2 _ (by omega)]; exact congrArg C (by omega)) ?_)
            refine X_istore (lv' := [(0, _), (1, _), (2, _), (3, _), (4, _), (5, _), (6, _)]) (tk_X9_people.at 36 rfl) (by decide) rfl rfl ?_
            refine X_aload_n (tk_X9_people.at 37 rfl) rfl ?_
            refine X_iload (tk_X9_people.at 38 rfl) rfl ?_
            refine X_iconst (tk_X9_people.at 39 rfl) ci_2 ?_
            refine X_iadd (tk_X9_people.at 40 rfl) ?_
            refine X_cV1i (lv2 := [(0, _), (1, _)]) (tk_X9_people.at 41 rfl) mv_X7_at lk_x9_104 np_X7_at (hI.hs (i := j) (by omega)).1 (by decide) rfl (Nat.le_of_ble_eq_true rfl) (Nat.le_of_ble_eq_true rfl) rfl (c7_atN (n := nv (B j)) (j := 4 * n + 2) (v := (C (2 + 40 * j + 4 * n))) (hI.hs (i := j) (by omega)) hsz shj.2.2.1.2 (pa (pl (4 * n) rfl) (pl 2 rfl)) (by omega) (by rw [fν _ (by omega) (by omega), shj.2.2.2.2 _ (by omega)]; exact congrArg C (by omega)) ?_)
            refine X_istore (lv' := [(0, _), (1, _), (2, _), (3, _), (4, _), (5, _), (6, _), (7, _)]) (tk_X9_people.at 42 rfl) (by decide) rfl rfl ?_
            refine X_aload_n (tk_X9_people.at 43 rfl) rfl ?_
            refine X_iload (tk_X9_people.at 44 rfl) rfl ?_
            refine X_iconst (tk_X9_people.at 45 rfl) ci_3 ?_
            refine X_iadd (tk_X9_people.at 46 rfl) ?_
            refine X_cV1i (lv2 := [(0, _), (1, _)]) (tk_X9_people.at 47 rfl) mv_X7_at lk_x9_104 np_X7_at (hI.hs (i := j) (by omega)).1 (by decide) rfl (Nat.le_of_ble_eq_true rfl) (Nat.le_of_ble_eq_true rfl) rfl (c7_atN (n := nv (B j)) (j := 4 * n + 3) (v := (C (3 + 40 * j + 4 * n))) (hI.hs (i := j) (by omega)) hsz shj.2.2.1.2 (pa (pl (4 * n) rfl) (pl 3 rfl)) (by omega) (by rw [fν _ (by omega) (by omega), shj.2.2.2.2 _ (by omega)]; exact congrArg C (by omega)) ?_)
            refine X_istore (lv' := [(0, _), (1, _), (2, _), (3, _), (4, _), (5, _), (6, _), (7, _), (8, _)]) (tk_X9_people.at 48 rfl) (by decide) rfl rfl ?_
            refine X_aload_n (tk_X9_people.at 49 rfl) rfl ?_
            refine X_getR (tk_X9_people.at 50 rfl) fl_x9_12 hI.P0 rfl rfl ?_
            refine X_getR (tk_X9_people.at 51 rfl) fl_x9_62 hI.D.1 rfl rfl ?_
            refine X_cV0i (lv2 := [(0, _)]) (tk_X9_people.at 52 rfl) mv_X3_isFull lk_x9_107 np_X3_isFull hI.D.2.1.1 (by decide) rfl (Nat.le_of_ble_eq_true rfl) (Nat.le_of_ble_eq_true rfl) rfl (c3_isFull hI.D.2.1 (rD_people wk rν) (by have := wk.n1.2; omega) (by decide) (fun hfull => ?_) (fun hfull => ?_))
            · refine X_if_ne (tgt := 149) (tk_X9_people.at 53 rfl) (by decide) (fun _ => ?_) (fun h => absurd h (by decide))
              refine X_iload_n (tk_X9_people.at 75 rfl) rfl ?_
              refine X_ireturn (tk_X9_people.at 76 rfl) rfl rfl ?_
              have hstop : ¬ pplc C (nv (B j)) (40 * j) n M := fun g => by first | (have g1 := g.1; have g2 := g.2.1; exfalso; omega) | exact hfit ((fit_p hst).mpr g.2.2)
              have hres := hpp.symm.trans (ppl_stop hstop)
              refine p10_people (N := N) (A := A) (B := B) (C := C) hI.M (by rw [fν _ (by omega) (by omega)]; exact hN) (by rw [fν _ (by omega) (by omega)]; exact hA) (by rw [fν _ (by omega) (by omega)]; exact hB) (by rw [fν _ (by omega) (by omega)]; exact hC) hw hz (fun g => absurd ⟨j, hj, ej⟩ g) (fun x hx ex e0 => absurd (nI_j ex ej (by omega) (by omega) ▸ e0) mj) (fun x hx ex e0 => ?_)
              have q1 := nI_j ex ej (by omega) (by omega)
              subst q1
              rw [hres]
              exact ⟨rfl, fin_d hI (Fn_now hI (fun a ha => fν a (by omega) (by omega))) rν wk⟩
            · refine X_if_ne (tgt := 149) (tk_X9_people.at 53 rfl) (by decide) (fun h => absurd h (by decide)) (fun _ => ?_)
              refine X_aload_n (tk_X9_people.at 54 rfl) rfl ?_
              refine X_getR (tk_X9_people.at 55 rfl) fl_x9_12 hI.P0 rfl rfl ?_
              refine X_getR (tk_X9_people.at 56 rfl) fl_x9_62 hI.D.1 rfl rfl ?_
              refine X_iload (tk_X9_people.at 57 rfl) rfl ?_
              refine X_iload (tk_X9_people.at 58 rfl) rfl ?_
              refine X_iload (tk_X9_people.at 59 rfl) rfl ?_
              refine X_iload (tk_X9_people.at 60 rfl) rfl ?_
              refine X_cV4i (lv2 := [(0, _), (1, _), (2, _), (3, _), (4, _)]) (tk_X9_people.at 61 rfl) mv_X3_fits lk_x9_110 np_X3_fits hI.D.2.1.1 (by decide) rfl (Nat.le_of_ble_eq_true rfl) (Nat.le_of_ble_eq_true rfl) rfl (c3_fits hI.D.2.1 (fun hfit => ?_) (fun hfit => ?_))
              · refine X_if_ne (tgt := 122) (tk_X9_people.at 62 rfl) (by decide) (fun _ => ?_) (fun h => absurd h (by decide))
                refine X_aload_n (tk_X9_people.at 64 rfl) rfl ?_
                refine X_getR (tk_X9_people.at 65 rfl) fl_x9_12 hI.P0 rfl rfl ?_
                refine X_getR (tk_X9_people.at 66 rfl) fl_x9_62 hI.D.1 rfl rfl ?_
                refine X_iload (tk_X9_people.at 67 rfl) rfl ?_
                refine X_iload (tk_X9_people.at 68 rfl) rfl ?_
                refine X_iload (tk_X9_people.at 69 rfl) rfl ?_
                refine X_iload (tk_X9_people.at 70 rfl) rfl ?_
                refine X_cV4v (lv2 := [(0, _), (1, _), (2, _), (3, _), (4, _)]) (tk_X9_people.at 71 rfl) mv_X3_add lk_x9_114 np_X3_add hI.D.2.1.1 (by decide) rfl (Nat.le_of_ble_eq_true rfl) (Nat.le_of_ble_eq_true rfl) rfl (c3_add hI.D.2.1 (rD_people wk rν) (by have := wk.n1.2; omega) (by decide) hfull ?_)
                generalize eξ : (Mx (su ν (P + 1 + 1) 3 (nI (nv (M 1) + 1))) ((P + 1 + 1) + 1) (upd (upd (upd (upd (ν ((P + 1 + 1) + 1)) (4 * nv (M 1) + 0) (C (40 * j + 4 * n))) (4 * nv (M 1) + 1) (C (1 + 40 * j + 4 * n))) (4 * nv (M 1) + 2) (C (2 + 40 * j + 4 * n))) (4 * nv (M 1) + 3) (C (3 + 40 * j + 4 * n)))) = ξ
                have fξ : ∀ a, a ≠ (P + 1 + 1) → a ≠ (P + 1 + 1) + 1 → ξ a = ν a := fun a h1 h2 => by rw [← eξ, Mx_ne h2, su_ne h1]
                refine X_iinc (lv' := [(0, _), (1, _), (2, _), (3, _), (4, _), (5, _), (6, _), (7, _), (8, _)]) (tk_X9_people.at 72 rfl) rfl ci_1 (by decide) rfl rfl ?_
                refine X_iinc (lv' := [(0, _), (1, _), (2, _), (3, _), (4, _), (5, _), (6, _), (7, _), (8, _)]) (tk_X9_people.at 73 rfl) rfl ci_4 (by decide) rfl rfl ?_
                refine X_goto (tgt := 36) (tk_X9_people.at 74 rfl) (by decide) ?_
                have htt : Told (C (40 * j + 4 * n)) (C (1 + 40 * j + 4 * n)) (C (2 + 40 * j + 4 * n)) (C (3 + 40 * j + 4 * n)) := (fit_p hst).mp hfit
                have hgo : pplc C (nv (B j)) (40 * j) n M := ⟨by omega, by omega, htt⟩
                have ou : ∀ a, a ≠ 1 → (a < 8 + 4 * nv (M 1) ∨ 12 + 4 * nv (M 1) ≤ a) → (addN M 8 (nv (M 1)) (C (40 * j + 4 * n)) (C (1 + 40 * j + 4 * n)) (C (2 + 40 * j + 4 * n)) (C (3 + 40 * j + 4 * n)) 1) a = M a := fun a h1 h2 => addN_out h1 h2
                have e1 : (addN M 8 (nv (M 1)) (C (40 * j + 4 * n)) (C (1 + 40 * j + 4 * n)) (C (2 + 40 * j + 4 * n)) (C (3 + 40 * j + 4 * n)) 1) 1 = nI (nv (M 1) + 1) := upd_at _ _ _
                have vv : ∀ c, c < 4 → (addN M 8 (nv (M 1)) (C (40 * j + 4 * n)) (C (1 + 40 * j + 4 * n)) (C (2 + 40 * j + 4 * n)) (C (3 + 40 * j + 4 * n)) 1) (8 + 4 * nv (M 1) + c) = f4 (C (40 * j + 4 * n)) (C (1 + 40 * j + 4 * n)) (C (2 + 40 * j + 4 * n)) (C (3 + 40 * j + 4 * n)) c := addN_v (by decide)
                have rξ : repD ξ (P + 1) (addN M 8 (nv (M 1)) (C (40 * j + 4 * n)) (C (1 + 40 * j + 4 * n)) (C (2 + 40 * j + 4 * n)) (C (3 + 40 * j + 4 * n)) 1) := repD_addp wk rν rfl (by omega) (fun a h1 h2 => fξ a h1 h2) ou e1 (by rw [← eξ, Mx_ne (by omega), su_same]; exact upd_at _ _ _) (fun i hi => by rw [← eξ]; exact (congrFun Mx_same i).trans (up4_o hi)) (fun c hc => by rw [vv c hc, ← eξ]; exact (congrFun Mx_same _).trans (up4_v c hc))
                have wξ : WF (addN M 8 (nv (M 1)) (C (40 * j + 4 * n)) (C (1 + 40 * j + 4 * n)) (C (2 + 40 * j + 4 * n)) (C (3 + 40 * j + 4 * n)) 1) := WF_addp wk rfl (by omega) htt ou e1 (vv 0 (by decide)) ((congrArg _ (by omega)).trans (vv 1 (by decide))) ((congrArg _ (by omega)).trans (vv 2 (by decide))) ((congrArg _ (by omega)).trans (vv 3 (by decide)))
                rw [nI_1 n, show nI (4 * n) + 4 = nI (4 * (n + 1)) from pa (pl (4 * n) rfl) (pl 4 rfl)]
                exact ih (n + 1) _ ξ [(5, _), (6, _), (7, _), (8, _)] (by omega) (by omega) (fun a h1 h2 => (fξ a h1 h2).trans (fν a h1 h2)) rξ wξ ((ppl_go hgo).symm.trans hpp)
              · refine X_if_ne (tgt := 122) (tk_X9_people.at 62 rfl) (by decide) (fun h => absurd h (by decide)) (fun _ => ?_)
                refine X_goto (tgt := 149) (tk_X9_people.at 63 rfl) (by decide) ?_
                refine X_iload_n (tk_X9_people.at 75 rfl) rfl ?_
                refine X_ireturn (tk_X9_people.at 76 rfl) rfl rfl ?_
                have hstop : ¬ pplc C (nv (B j)) (40 * j) n M := fun g => by first | (have g1 := g.1; have g2 := g.2.1; exfalso; omega) | exact hfit ((fit_p hst).mpr g.2.2)
                have hres := hpp.symm.trans (ppl_stop hstop)
                refine p10_people (N := N) (A := A) (B := B) (C := C) hI.M (by rw [fν _ (by omega) (by omega)]; exact hN) (by rw [fν _ (by omega) (by omega)]; exact hA) (by rw [fν _ (by omega) (by omega)]; exact hB) (by rw [fν _ (by omega) (by omega)]; exact hC) hw hz (fun g => absurd ⟨j, hj, ej⟩ g) (fun x hx ex e0 => absurd (nI_j ex ej (by omega) (by omega) ▸ e0) mj) (fun x hx ex e0 => ?_)
                have q1 := nI_j ex ej (by omega) (by omega)
                subst q1
                rw [hres]
                exact ⟨rfl, fin_d hI (Fn_now hI (fun a ha => fν a (by omega) (by omega))) rν wk⟩
      exact loop 11 0 N μ [] rfl (Nat.zero_le _) (fun _ _ _ => rfl) hr hw rfl
  · refine X_astore_nN (lv' := [(0, _), (1, _), (2, _)]) (tk_X9_people.at 3 rfl) (by decide) rfl rfl ?_
    refine X_aload_nN (tk_X9_people.at 4 rfl) rfl ?_
    refine X_ifnonnullN (tgt := 17) (tk_X9_people.at 5 rfl) (by decide) ?_
    refine X_aload_n (tk_X9_people.at 6 rfl) rfl ?_
    refine X_ldc (tk_X9_people.at 7 rfl) kn_x9_76 ?_
    refine X_cV1i (lv2 := [(0, _), (1, _)]) (tk_X9_people.at 8 rfl) mv_X9_fail lk_x9_77 np_X9_fail hI.P0 (by decide) rfl (Nat.le_of_ble_eq_true rfl) (Nat.le_of_ble_eq_true rfl) rfl (c9_fail (k := 1) hI.P0 hI.E (by decide) (by decide) ?_)
    refine X_ireturn (tk_X9_people.at 9 rfl) rfl rfl ?_
    refine p10_people (N := N) (A := A) (B := B) (C := C) hI.M (by rw [su_ne (by omega)]; exact hN) (by rw [su_ne (by omega)]; exact hA) (by rw [su_ne (by omega)]; exact hB) (by rw [su_ne (by omega)]; exact hC) hw hz (by intros; first | (exfalso; grind [In, nI_eq]) | exact ⟨by grind [In, nI_eq], fin_e hI (Fs.rf hI) (Sq.rf _ _) rfl⟩) (by intros; first | (exfalso; grind [In, nI_eq]) | exact ⟨by grind [In, nI_eq], fin_e hI (Fs.rf hI) (Sq.rf _ _) rfl⟩) (by intros; first | (exfalso; grind [In, nI_eq]) | exact ⟨by grind [In, nI_eq], fin_e hI (Fs.rf hI) (Sq.rf _ _) rfl⟩)
