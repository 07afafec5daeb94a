theorem fin_v {G : Gl} {S : Sh} {P o t q im : Nat} {kp : Option Nat} {μ ξ : Mu} (h : Inv G S P o kp t q im μ) (f : ∀ a, (a < P + 85 ∨ P + 88 ≤ a) → a ≠ o → a ≠ o + 13 → ξ a = μ a) (o3 : ξ o 3 = μ o 3) (o5 : ξ o 5 = μ o 5) (tr : ∃ tc, tc ≤ 40 ∧ ξ (P + 85 + 1) 1 = nI tc ∧ ξ o 22 = nI tc ∧ ∀ i, i < tc → ξ (P + 85 + 2) i = ξ (o + 13) i) : Nx G P o im S ξ := by
  have lo := h.lo
  have s1 := h.1.2.2.2.1
  have s2 := h.1.2.2.2.2.1
  have s3 := h.1.2.2.2.2.2
  have e1 : ξ (o + 1) = μ (o + 1) := f _ (by omega) (by omega) (by omega)
  obtain ⟨hIS, ⟨⟨a1, a2⟩, b, ⟨c1, c2, c3, c4⟩, _, e, g1, g2⟩, r1, r2⟩ := h
  refine ⟨kp, t, q, im, Nat.le_succ _, hIS, ⟨⟨fun j hj => ⟨(a1 j hj).1, fun i hi => ?_⟩, fun v hv => ⟨(a2 v hv).1, (a2 v hv).2.1, fun i hi => ?_⟩⟩, fun k h1 h2 => ?_, ⟨?_, ?_, c3, fun k hk => ⟨(c4 k hk).1, ?_, ?_⟩⟩, tr, fun s hs => ?_, ?_, ?_⟩, ?_, ?_⟩
  · have := s1 j hj
    rw [f _ (by omega) (by omega) (by omega)]; exact (a1 j hj).2 i hi
  · have := s2 v hv
    rw [f _ (by omega) (by omega) (by omega)]; exact (a2 v hv).2.2 i hi
  · rw [f _ (by omega) (by omega) (by omega), f (o + 4) (by omega) (by omega) (by omega)]; exact b k h1 h2
  · rw [f _ (by omega) (by omega) (by omega)]; exact c1
  · rw [o3]; exact c2
  · have := (s3 k hk).2
    rw [f (o + 2) (by omega) (by omega) (by omega)]
    exact repD_of (c4 k hk).2.1 (fun a h1 h2 => f a (by omega) (by omega) (by omega))
  · rw [f (o + 2) (by omega) (by omega) (by omega)]; exact (c4 k hk).2.2
  · have z := e s hs
    rw [f (o + 14) (by omega) (by omega) (by omega), f (o + 15) (by omega) (by omega) (by omega), f (o + 16) (by omega) (by omega) (by omega), f (P + 90 + 2 * s) (by omega) (by omega) (by omega), f (P + 90 + 2 * s + 1) (by omega) (by omega) (by omega)]
    exact z
  · rw [f _ (by omega) (by omega) (by omega)]; exact g1
  · rw [o5]; exact g2
  · rw [e1]; exact repD_of r1 (fun a h1 h2 => f a (by omega) (by omega) (by omega))
  · rw [e1]; exact r2
theorem ck_u6 {N : Nat → Int32} {x : Int32} {W : Nat} : ∀ (f k i n : Nat), ck (upd N 6 x) W f k i n = ck N W f k i n
  | 0, _, _, _ => rfl
  | f + 1, k, i, n => by
    have l : lnA (upd N 6 x) k = lnA N k := by unfold lnA; rw [upd_ne _ _ (by omega)]
    have m : mny (upd N 6 x) (lnA N k) = mny N (lnA N k) := by unfold mny; rw [upd_ne _ _ (by omega)]
    have e4 : upd N 6 x 4 = N 4 := upd_ne _ _ (by omega)
    have e9 : upd N 6 x (190 + n) = N (190 + n) := upd_ne _ _ (by omega)
    have e8 : upd N 6 x (84 + 9 * lnA N k + i) = N (84 + 9 * lnA N k + i) := upd_ne _ _ (by omega)
    rw [ck, ck, l, m, e4, e9, e8, ck_u6 f, ck_u6 f]
set_option maxHeartbeats 1000000 in
theorem t_voice {G : Gl} {d : Nat} {S : Sh} {μ : Mu} {P o t q im : Nat} {kp : Option Nat} {r a x : Int32} (hI : Inv G S P o kp t q im μ) : X G mi_X9_voice (d + 60) 0 0 [(0, .ref P), (1, .int r), (2, .int a), (3, .int x)] [] S μ (qi (fun an S1 μ1 => X G mi_X10_voice (d + 60) 0 0 [(0, .ref o), (1, .int r), (2, .int a), (3, .int x)] [] S1 μ1 (qi (Eq2 G P o im an)))) := by
  obtain ⟨N, hN⟩ : ∃ N, μ (o + 1) = N := ⟨_, rfl⟩
  have hw : WF N := hN ▸ hI.wf
  have hr : repD μ (P + 1) N := hN ▸ hI.rep
  have lo := hI.lo
  have b1 := hw.n1.2
  have b2 := hw.n2.2
  have b3 := hw.n3.2
  have b4 := hw.n4.2
  have b5 := hw.n5.2
  have b6 := hw.n6.2
  have hun : ∀ r i r' i' p, On N r i p → On N r' i' p → r = r' ∧ i = i' := fun _ _ _ _ _ h1 h2 => hw.un h1 h2
  have hlu : ∀ k k', k < nv (N 4) → k' < nv (N 4) → N (134 + k) = N (134 + k') → k = k' := fun _ _ h1 h2 e => hw.lu h1 h2 e
  have hnz : nI 0 = 0 := rfl
  have hli : ∀ k, k < nv (N 4) → N (134 + k) = nI (nv (N (134 + k))) ∧ nv (N (134 + k)) < nv (N 3) := fun k h => hw.li h
  refine X_aload_n (tk_X9_voice.at 0 rfl) rfl ?_
  refine X_getR (tk_X9_voice.at 1 rfl) fl_x9_12 hI.P0 rfl rfl ?_
  refine X_getR (tk_X9_voice.at 2 rfl) fl_x9_127 hI.D.1 rfl rfl ?_
  refine X_iload_n (tk_X9_voice.at 3 rfl) rfl ?_
  refine X_cV1i (lv2 := [(0, _), (1, _)]) (tk_X9_voice.at 4 rfl) mv_X3_has lk_x9_70 np_X3_has hI.D.2.2.2.1.1 (by decide) rfl (Nat.le_of_ble_eq_true rfl) (Nat.le_of_ble_eq_true rfl) rfl (d_ohas hI.D hw hr (fun j8 hj8 ej8 => ?_) (fun hj8 => ?_))
  · refine X_if_eq (tgt := 23) (tk_X9_voice.at 5 rfl) (by decide) (fun h => absurd h (by decide)) (fun _ => ?_)
    refine X_iload_n (tk_X9_voice.at 6 rfl) rfl ?_
    refine X_if_lt (tgt := 23) (tk_X9_voice.at 7 rfl) (by decide) (fun c2 => ?_) (fun c2 => ?_)
    · refine X_aload_n (tk_X9_voice.at 11 rfl) rfl ?_
      refine X_ldc (tk_X9_voice.at 12 rfl) kn_x9_76 ?_
      refine X_cV1i (lv2 := [(0, _), (1, _)]) (tk_X9_voice.at 13 rfl) mv_X9_fail lk_x9_77 np_X9_fail hI.P0 (by decide) rfl (Nat.le_of_ble_eq_true rfl) (Nat.le_of_ble_eq_true rfl) rfl (c9_fail (k := 1) hI.P0 hI.E (by decide) (by decide) ?_)
      refine X_ireturn (tk_X9_voice.at 14 rfl) rfl rfl ?_
      refine n10_voice (N := N) hI.M (by rw [su_ne (by omega)]; exact hN) hw (fun _ => ⟨rfl, fin_e hI (Fs.rf hI) (Sq.rf _ _) rfl⟩) (fun j b hj hb ej eb => absurd (show In r (nv (N 3)) ∧ (0 ≤ a ∧ a ≤ 3) from ⟨⟨j, hj, ej⟩, rng eb (show b ≤ 3 by omega) (by decide)⟩) (fun g => by obtain ⟨⟨j0, hj0, ej0⟩, g1, g2⟩ := g; grind [In]))
    · refine X_iload_n (tk_X9_voice.at 8 rfl) rfl ?_
      refine X_iconst (tk_X9_voice.at 9 rfl) ci_4 ?_
      refine X_icmp_lt (tgt := 30) (tk_X9_voice.at 10 rfl) (by decide) (fun c3 => ?_) (fun c3 => ?_)
      · have hcf : 0 ≤ a ∧ a ≤ 3 := by grind
        obtain ⟨f, ef, hf⟩ : ∃ f, a = nI f ∧ f ≤ 3 := ⟨nv a, (le_lits (a := 0) (b := 3) (by decide) hcf.1 hcf.2 (by decide)).1, (le_lits (a := 0) (b := 3) (by decide) hcf.1 hcf.2 (by decide)).2.2⟩
        refine X_aload_n (tk_X9_voice.at 15 rfl) rfl ?_
        refine X_getR (tk_X9_voice.at 16 rfl) fl_x9_40 hI.P0 rfl rfl ?_
        refine X_aload_n (tk_X9_voice.at 17 rfl) rfl ?_
        refine X_getR (tk_X9_voice.at 18 rfl) fl_x9_12 hI.P0 rfl rfl ?_
        refine X_getR (tk_X9_voice.at 19 rfl) fl_x9_127 hI.D.1 rfl rfl ?_
        refine X_iload_n (tk_X9_voice.at 20 rfl) rfl ?_
        refine X_iload_n (tk_X9_voice.at 21 rfl) rfl ?_
        refine X_iload_n (tk_X9_voice.at 22 rfl) rfl ?_
        refine X_cV4i (lv2 := [(0, _), (1, _), (2, _), (3, _), (4, _)]) (tk_X9_voice.at 23 rfl) mv_X8_speak lk_x9_296 np_X8_speak hI.V.1 (by decide) rfl (Nat.le_of_ble_eq_true rfl) (Nat.le_of_ble_eq_true rfl) rfl (c8_speak (V := P + 85) (D := P + 1) (b := f) hI.V hI.st (fun q hq => by have := hI.1.2.2.2.1 q hq; omega) hI.D hw hr (by omega) ej8 hj8 ef (by omega) ?_)
        refine X_ireturn (tk_X9_voice.at 24 rfl) rfl rfl ?_
        generalize eν : (VW (su (su (su μ (P + 85) 1 (N (80 + 9 * j8))) (P + 85) 2 r) (P + 85) 3 (N (82 + 9 * j8))) (P + 85) (vo (nv (N (80 + 9 * j8))) r (N (82 + 9 * j8)) 9 (nv (N (80 + 9 * j8))) f x (0, μ (P + 85 + 2))).2) = ν
        have fν : ∀ b, (b < P + 85 ∨ P + 88 ≤ b) → ν b = μ b := fun b hb => by rw [← eν, VW_ne (by omega) (by omega), su_ne (by omega), su_ne (by omega), su_ne (by omega)]
        refine n10_voice (N := N) hI.M (by rw [fν _ (by omega)]; exact hN) hw (fun g => absurd ⟨⟨j8, hj8, ej8⟩, hcf⟩ g) (fun j b hj hb ej eb => ?_)
        have q1 := nI_j ej ej8 (by omega) (by omega)
        have q2 := nI_j eb ef (by omega) (by omega)
        subst q1 q2
        have ve := vo_E (Kd := nv (N (80 + 9 * j))) (sp := r) (kn := N (82 + 9 * j)) 9 (nv (N (80 + 9 * j))) b x (0, ν (o + 13)) (0, μ (P + 85 + 2)) ⟨rfl, fun i hi => absurd hi (Nat.not_lt_zero i)⟩
        have vl := vo_le (Kd := nv (N (80 + 9 * j))) (sp := r) (kn := N (82 + 9 * j)) 9 (nv (N (80 + 9 * j))) b x (0, ν (o + 13)) (Nat.zero_le _)
        have v1 : ν (P + 85 + 1) 1 = nI (vo (nv (N (80 + 9 * j))) r (N (82 + 9 * j)) 9 (nv (N (80 + 9 * j))) b x (0, μ (P + 85 + 2))).2.1 := by rw [← eν]; exact VW1
        have v2 : ν (P + 85 + 2) = (vo (nv (N (80 + 9 * j))) r (N (82 + 9 * j)) 9 (nv (N (80 + 9 * j))) b x (0, μ (P + 85 + 2))).2.2 := by rw [← eν]; exact Mx_same
        refine ⟨ve.1, fin_v hI (fun c h1 h2 h3 => by unfold VM; rw [su_ne h2, Mx_ne h3, su_ne h2]; exact fν c h1) ?_ ?_ ⟨_, vl, ?_, VM22, fun i hi => ?_⟩⟩
        · unfold VM; rw [su_same, upd_ne _ _ (by decide), Mx_ne (by omega), su_same, upd_ne _ _ (by decide), fν _ (by omega)]
        · unfold VM; rw [su_same, upd_ne _ _ (by decide), Mx_ne (by omega), su_same, upd_ne _ _ (by decide), fν _ (by omega)]
        · unfold VM; rw [su_ne (by omega), Mx_ne (by omega), su_ne (by omega), v1, ve.2.1]
        · unfold VM; rw [su_ne (by omega), Mx_ne (by omega), su_ne (by omega), v2, su_ne (by omega), Mx_same]; exact (ve.2.2 i hi).symm
      · refine X_aload_n (tk_X9_voice.at 11 rfl) rfl ?_
        refine X_ldc (tk_X9_voice.at 12 rfl) kn_x9_76 ?_
        refine X_cV1i (lv2 := [(0, _), (1, _)]) (tk_X9_voice.at 13 rfl) mv_X9_fail lk_x9_77 np_X9_fail hI.P0 (by decide) rfl (Nat.le_of_ble_eq_true rfl) (Nat.le_of_ble_eq_true rfl) rfl (c9_fail (k := 1) hI.P0 hI.E (by decide) (by decide) ?_)
        refine X_ireturn (tk_X9_voice.at 14 rfl) rfl rfl ?_
        refine n10_voice (N := N) hI.M (by rw [su_ne (by omega)]; exact hN) hw (fun _ => ⟨rfl, fin_e hI (Fs.rf hI) (Sq.rf _ _) rfl⟩) (fun j b hj hb ej eb => absurd (show In r (nv (N 3)) ∧ (0 ≤ a ∧ a ≤ 3) from ⟨⟨j, hj, ej⟩, rng eb (show b ≤ 3 by omega) (by decide)⟩) (fun g => by obtain ⟨⟨j0, hj0, ej0⟩, g1, g2⟩ := g; grind [In]))
  · refine X_if_eq (tgt := 23) (tk_X9_voice.at 5 rfl) (by decide) (fun _ => ?_) (fun h => absurd h (by decide))
    refine X_aload_n (tk_X9_voice.at 11 rfl) rfl ?_
    refine X_ldc (tk_X9_voice.at 12 rfl) kn_x9_76 ?_
    refine X_cV1i (lv2 := [(0, _), (1, _)]) (tk_X9_voice.at 13 rfl) mv_X9_fail lk_x9_77 np_X9_fail hI.P0 (by decide) rfl (Nat.le_of_ble_eq_true rfl) (Nat.le_of_ble_eq_true rfl) rfl (c9_fail (k := 1) hI.P0 hI.E (by decide) (by decide) ?_)
    refine X_ireturn (tk_X9_voice.at 14 rfl) rfl rfl ?_
    refine n10_voice (N := N) hI.M (by rw [su_ne (by omega)]; exact hN) hw (fun _ => ⟨rfl, fin_e hI (Fs.rf hI) (Sq.rf _ _) rfl⟩) (fun j b hj hb ej eb => absurd (show In r (nv (N 3)) ∧ (0 ≤ a ∧ a ≤ 3) from ⟨⟨j, hj, ej⟩, rng eb (show b ≤ 3 by omega) (by decide)⟩) (fun g => by obtain ⟨⟨j0, hj0, ej0⟩, g1, g2⟩ := g; grind [In]))
set_option maxHeartbeats 1000000 in
theorem c9_placeOfWrong {G : Gl} {d : Nat} {S : Sh} {μ : Mu} {P o t q im : Nat} {kp : Option Nat} {N : Nat → Int32} {K : Int32 → Sh → Mu → Prop} (hI : Inv G S P o kp t q im μ) (hw : WF N) (hr : repD μ (P + 1) N) (hK : ∀ v, v + 1 = nI (ck N (nv (N 6)) 42 0 0 0) → K v S μ) : X G mi_X9_placeOfWrong (d + 2) 0 0 [(0, .ref P)] [] S μ (qi K) := by
  have b3 := hw.n3.2
  have b4 := hw.n4.2
  have b6 := hw.n6.2
  have both : ∀ f, (∀ (k i n : Nat), k < nv (N 4) → i ≤ 5 → n ≤ 20 → 6 * (nv (N 4) - k) + (5 - i) < f → (∀ v, v + 1 = nI (ck N (nv (N 6)) f k i n) → K v S μ) → X G mi_X9_placeOfWrong (d + 2) 0 40 [(0, .ref P), (1, .int (nI n)), (2, .int (nI k)), (3, .ref (P + 1 + 20 + 2 * ((lnA N k)))), (4, .int (nI i))] [] S μ (qi K)) ∧ (∀ (k n : Nat) (rest : List (Nat × Value)), k ≤ nv (N 4) → n ≤ 20 → 6 * (nv (N 4) - k) + 5 < f → (∀ v, v + 1 = nI (ck N (nv (N 6)) f k 0 n) → K v S μ) → X G mi_X9_placeOfWrong (d + 2) 0 4 ([(0, .ref P), (1, .int (nI n)), (2, .int (nI k))] ++ rest) [] S μ (qi K)) := by
    intro f
    induction f with
    | zero => exact ⟨fun k i n _ _ _ h => absurd h (Nat.not_lt_zero _), fun k n rest _ _ h => absurd h (Nat.not_lt_zero _)⟩
    | succ f ih =>
      have in40 : ∀ (k i n : Nat), k < nv (N 4) → i ≤ 5 → n ≤ 20 → 6 * (nv (N 4) - k) + (5 - i) < f + 1 → (∀ v, v + 1 = nI (ck N (nv (N 6)) (f + 1) k i n) → K v S μ) → X G mi_X9_placeOfWrong (d + 2) 0 40 [(0, .ref P), (1, .int (nI n)), (2, .int (nI k)), (3, .ref (P + 1 + 20 + 2 * ((lnA N k)))), (4, .int (nI i))] [] S μ (qi K) := by
        intro k i n hk hi hn hf hq
        have bl := hw.lb hk
        have bm := hw.mb bl
        refine X_iload (tk_X9_placeOfWrong.at 21 rfl) rfl ?_
        refine X_aload_n (tk_X9_placeOfWrong.at 22 rfl) rfl ?_
        refine X_cV0i (lv2 := [(0, _)]) (tk_X9_placeOfWrong.at 23 rfl) mv_X6_size lk_x9_142 np_X6_size (hI.D.2.2.2.2.2.2.2.2.2.2.2 ((lnA N k)) (by omega)).1 (by decide) rfl (Nat.le_of_ble_eq_true rfl) (Nat.le_of_ble_eq_true rfl) rfl (d_rsz hI.D hw hr (by omega) ?_)
        refine X_icmp_geN (tgt := 94) (tk_X9_placeOfWrong.at 24 rfl) (by decide) (pl i rfl) (pl (mny N ((lnA N k))) rfl) (by omega) (by omega) (fun c1 => ?_) (fun c1 => ?_)
        · refine X_iinc (lv' := [(0, _), (1, _), (2, _), (3, _), (4, _)]) (tk_X9_placeOfWrong.at 45 rfl) rfl ci_1 (by decide) rfl rfl ?_
          rw [nI_1 k]
          refine X_goto (tgt := 4) (tk_X9_placeOfWrong.at 46 rfl) (by decide) ?_
          exact ih.2 (k + 1) n [(3, _), (4, _)] (by omega) hn (by omega) (fun v e => hq v (by rw [ck_row hk (by omega)]; exact e))
        · refine X_iload_n (tk_X9_placeOfWrong.at 25 rfl) rfl ?_
          refine X_aload_n (tk_X9_placeOfWrong.at 26 rfl) rfl ?_
          refine X_getR (tk_X9_placeOfWrong.at 27 rfl) fl_x9_12 hI.P0 rfl rfl ?_
          refine X_getR (tk_X9_placeOfWrong.at 28 rfl) fl_x9_320 hI.D.1 rfl rfl ?_
          refine X_cV0i (lv2 := [(0, _)]) (tk_X9_placeOfWrong.at 29 rfl) mv_X6_size lk_x9_142 np_X6_size hI.D.2.2.2.2.2.2.1.1 (by decide) rfl (Nat.le_of_ble_eq_true rfl) (Nat.le_of_ble_eq_true rfl) rfl (d_wtsz hI.D hw hr ?_)
          refine X_icmp_geN (tgt := 83) (tk_X9_placeOfWrong.at 30 rfl) (by decide) (pl n rfl) (pl (nv (N 6)) rfl) (by omega) (by omega) (fun c2 => ?_) (fun c2 => ?_)
          · refine X_iload_n (tk_X9_placeOfWrong.at 40 rfl) rfl ?_
            refine X_ireturn (tk_X9_placeOfWrong.at 41 rfl) rfl rfl ?_
            exact hq _ (by rw [ck_bad hk (by omega) (by first | exact Or.inr c2 | exact Or.inl (by omega)), Nat.add_comm 1 n]; exact pa (pl n rfl) (pl 1 rfl))
          · refine X_aload_n (tk_X9_placeOfWrong.at 31 rfl) rfl ?_
            refine X_getR (tk_X9_placeOfWrong.at 32 rfl) fl_x9_12 hI.P0 rfl rfl ?_
            refine X_getR (tk_X9_placeOfWrong.at 33 rfl) fl_x9_320 hI.D.1 rfl rfl ?_
            refine X_iload_n (tk_X9_placeOfWrong.at 34 rfl) rfl ?_
            refine X_cV1i (lv2 := [(0, _), (1, _)]) (tk_X9_placeOfWrong.at 35 rfl) mv_X6_at lk_x9_151 np_X6_at hI.D.2.2.2.2.2.2.1.1 (by decide) rfl (Nat.le_of_ble_eq_true rfl) (Nat.le_of_ble_eq_true rfl) rfl (c6_atN (j := n) (v := N (190 + n)) hI.D.2.2.2.2.2.2.1 (rD_wait hw hr) b6 (by decide) (pl n rfl) (by omega) (hr.2.2.2.2.2.2.1.2 n (by omega)) ?_)
            refine X_aload_n (tk_X9_placeOfWrong.at 36 rfl) rfl ?_
            refine X_iload (tk_X9_placeOfWrong.at 37 rfl) rfl ?_
            refine X_cV1i (lv2 := [(0, _), (1, _)]) (tk_X9_placeOfWrong.at 38 rfl) mv_X6_at lk_x9_151 np_X6_at (hI.D.2.2.2.2.2.2.2.2.2.2.2 ((lnA N k)) (by omega)).1 (by decide) rfl (Nat.le_of_ble_eq_true rfl) (Nat.le_of_ble_eq_true rfl) rfl (d_rat (k := 84 + 9 * (lnA N k) + i) (i := i) hI.D hw hr (by omega) (pz (pl i rfl) (by omega)) (by omega) (by omega) ?_)
            refine X_icmp_eq (tgt := 85) (tk_X9_placeOfWrong.at 39 rfl) (by decide) (fun c3 => ?_) (fun c3 => ?_)
            · refine X_iinc (lv' := [(0, _), (1, _), (2, _), (3, _), (4, _)]) (tk_X9_placeOfWrong.at 42 rfl) rfl ci_1 (by decide) rfl rfl ?_
              rw [nI_1 n]
              refine X_iinc (lv' := [(0, _), (1, _), (2, _), (3, _), (4, _)]) (tk_X9_placeOfWrong.at 43 rfl) rfl ci_1 (by decide) rfl rfl ?_
              rw [nI_1 i]
              refine X_goto (tgt := 40) (tk_X9_placeOfWrong.at 44 rfl) (by decide) ?_
              exact ih.1 k (i + 1) (n + 1) hk (by omega) (by omega) (by omega) (fun v e => hq v (by rw [ck_go hk (by omega) (fun g => by rcases g with g | g; omega; exact g c3)]; exact e))
            · refine X_iload_n (tk_X9_placeOfWrong.at 40 rfl) rfl ?_
              refine X_ireturn (tk_X9_placeOfWrong.at 41 rfl) rfl rfl ?_
              exact hq _ (by rw [ck_bad hk (by omega) (by first | exact Or.inr c3 | exact Or.inl (by omega)), Nat.add_comm 1 n]; exact pa (pl n rfl) (pl 1 rfl))
      refine ⟨in40, fun k n rest hk hn hf hq => ?_⟩
      refine X_lvp [0, 1, 2] (lv' := [(0, _), (1, _), (2, _)]) rfl ?_
      refine X_iload_n (tk_X9_placeOfWrong.at 4 rfl) rfl ?_
      refine X_aload_n (tk_X9_placeOfWrong.at 5 rfl) rfl ?_
      refine X_getR (tk_X9_placeOfWrong.at 6 rfl) fl_x9_12 hI.P0 rfl rfl ?_
      refine X_getR (tk_X9_placeOfWrong.at 7 rfl) fl_x9_146 hI.D.1 rfl rfl ?_
      refine X_cV0i (lv2 := [(0, _)]) (tk_X9_placeOfWrong.at 8 rfl) mv_X6_size lk_x9_142 np_X6_size hI.D.2.2.2.2.1.1 (by decide) rfl (Nat.le_of_ble_eq_true rfl) (Nat.le_of_ble_eq_true rfl) rfl (d_lsz hI.D hw hr ?_)
      refine X_icmp_geN (tgt := 100) (tk_X9_placeOfWrong.at 9 rfl) (by decide) (pl k rfl) (pl (nv (N 4)) rfl) (by omega) (by omega) (fun c1 => ?_) (fun c1 => ?_)
      · refine X_iload_n (tk_X9_placeOfWrong.at 47 rfl) rfl ?_
        refine X_aload_n (tk_X9_placeOfWrong.at 48 rfl) rfl ?_
        refine X_getR (tk_X9_placeOfWrong.at 49 rfl) fl_x9_12 hI.P0 rfl rfl ?_
        refine X_getR (tk_X9_placeOfWrong.at 50 rfl) fl_x9_320 hI.D.1 rfl rfl ?_
        refine X_cV0i (lv2 := [(0, _)]) (tk_X9_placeOfWrong.at 51 rfl) mv_X6_size lk_x9_142 np_X6_size hI.D.2.2.2.2.2.2.1.1 (by decide) rfl (Nat.le_of_ble_eq_true rfl) (Nat.le_of_ble_eq_true rfl) rfl (d_wtsz hI.D hw hr ?_)
        refine X_icmp_geN (tgt := 118) (tk_X9_placeOfWrong.at 52 rfl) (by decide) (pl n rfl) (pl (nv (N 6)) rfl) (by omega) (by omega) (fun c2 => ?_) (fun c2 => ?_)
        · refine X_iconst (tk_X9_placeOfWrong.at 55 rfl) ci_m1 ?_
          refine X_ireturn (tk_X9_placeOfWrong.at 56 rfl) rfl rfl ?_
          exact hq _ (by rw [ck_end (by omega), if_neg (by omega)]; rfl)
        · refine X_iload_n (tk_X9_placeOfWrong.at 53 rfl) rfl ?_
          refine X_goto (tgt := 119) (tk_X9_placeOfWrong.at 54 rfl) (by decide) ?_
          refine X_ireturn (tk_X9_placeOfWrong.at 56 rfl) rfl rfl ?_
          exact hq _ (by rw [ck_end (by omega), if_pos (by omega), Nat.add_comm 1 n]; exact pa (pl n rfl) (pl 1 rfl))
      · have bl := hw.lb (show k < nv (N 4) by omega)
        refine X_aload_n (tk_X9_placeOfWrong.at 10 rfl) rfl ?_
        refine X_getR (tk_X9_placeOfWrong.at 11 rfl) fl_x9_12 hI.P0 rfl rfl ?_
        refine X_aload_n (tk_X9_placeOfWrong.at 12 rfl) rfl ?_
        refine X_getR (tk_X9_placeOfWrong.at 13 rfl) fl_x9_12 hI.P0 rfl rfl ?_
        refine X_getR (tk_X9_placeOfWrong.at 14 rfl) fl_x9_146 hI.D.1 rfl rfl ?_
        refine X_iload_n (tk_X9_placeOfWrong.at 15 rfl) rfl ?_
        refine X_cV1i (lv2 := [(0, _), (1, _)]) (tk_X9_placeOfWrong.at 16 rfl) mv_X6_at lk_x9_151 np_X6_at hI.D.2.2.2.2.1.1 (by decide) rfl (Nat.le_of_ble_eq_true rfl) (Nat.le_of_ble_eq_true rfl) rfl (d_lat (i := k) hI.D hw hr (pz (pl k rfl) (by omega)) (by omega) ?_)
        refine X_cV1r (lv2 := [(0, _), (1, _)]) (tk_X9_placeOfWrong.at 17 rfl) mv_X2_rowOf lk_x9_131 np_X2_rowOf hI.D.1 (by decide) rfl (Nat.le_of_ble_eq_true rfl) (Nat.le_of_ble_eq_true rfl) rfl (d_rowOf (r := (lnA N k)) hI.D hw hr (pz (pl (lnA N k) rfl) (by omega)) (by omega) ?_)
        refine X_astore_n (lv' := [(0, _), (1, _), (2, _), (3, _)]) (tk_X9_placeOfWrong.at 18 rfl) (by decide) rfl rfl ?_
        refine X_iconst (tk_X9_placeOfWrong.at 19 rfl) ci_0 ?_
        refine X_istore (lv' := [(0, _), (1, _), (2, _), (3, _), (4, _)]) (tk_X9_placeOfWrong.at 20 rfl) (by decide) rfl rfl ?_
        exact in40 k 0 n (by omega) (by omega) hn (by omega) hq
  refine X_iconst (tk_X9_placeOfWrong.at 0 rfl) ci_0 ?_
  refine X_istore_n (lv' := [(0, _), (1, _)]) (tk_X9_placeOfWrong.at 1 rfl) (by decide) rfl rfl ?_
  refine X_iconst (tk_X9_placeOfWrong.at 2 rfl) ci_0 ?_
  refine X_istore_n (lv' := [(0, _), (1, _), (2, _)]) (tk_X9_placeOfWrong.at 3 rfl) (by decide) rfl rfl ?_
  exact (both 42).2 0 0 [] (Nat.zero_le _) (by decide) (by omega) hK
set_option maxHeartbeats 1000000 in
theorem t_check {G : Gl} {d : Nat} {S : Sh} {μ : Mu} {P o t q im : Nat} {kp : Option Nat} (hI : Inv G S P o kp t q im μ) : X G mi_X9_check (d + 60) 0 0 [(0, .ref P)] [] S μ (qi (fun an S1 μ1 => X G mi_X10_check (d + 60) 0 0 [(0, .ref o)] [] S1 μ1 (qi (Eq2 G P o im an)))) := by
  obtain ⟨N, hN⟩ : ∃ N, μ (o + 1) = N := ⟨_, rfl⟩
  have hw : WF N := hN ▸ hI.wf
  have hr : repD μ (P + 1) N := hN ▸ hI.rep
  have lo := hI.lo
  have b1 := hw.n1.2
  have b2 := hw.n2.2
  have b3 := hw.n3.2
  have b4 := hw.n4.2
  have b5 := hw.n5.2
  have b6 := hw.n6.2
  have hun : ∀ r i r' i' p, On N r i p → On N r' i' p → r = r' ∧ i = i' := fun _ _ _ _ _ h1 h2 => hw.un h1 h2
  have hlu : ∀ k k', k < nv (N 4) → k' < nv (N 4) → N (134 + k) = N (134 + k') → k = k' := fun _ _ h1 h2 e => hw.lu h1 h2 e
  have hnz : nI 0 = 0 := rfl
  have hli : ∀ k, k < nv (N 4) → N (134 + k) = nI (nv (N (134 + k))) ∧ nv (N (134 + k)) < nv (N 3) := fun k h => hw.li h
  refine X_aload_n (tk_X9_check.at 0 rfl) rfl ?_
  refine X_cV0i (lv2 := [(0, _)]) (tk_X9_check.at 1 rfl) mv_X9_placeOfWrong lk_x9_323 np_X9_placeOfWrong hI.P0 (by decide) rfl (Nat.le_of_ble_eq_true rfl) (Nat.le_of_ble_eq_true rfl) rfl (c9_placeOfWrong hI hw hr (fun wv ew => ?_))
  refine X_istore_n (lv' := [(0, _), (1, _)]) (tk_X9_check.at 2 rfl) (by decide) rfl rfl ?_
  refine X_aload_n (tk_X9_check.at 3 rfl) rfl ?_
  refine X_getR (tk_X9_check.at 4 rfl) fl_x9_12 hI.P0 rfl rfl ?_
  refine X_getR (tk_X9_check.at 5 rfl) fl_x9_320 hI.D.1 rfl rfl ?_
  refine X_cV0v (lv2 := [(0, _)]) (tk_X9_check.at 6 rfl) mv_X6_empty lk_x9_211 np_X6_empty hI.D.2.2.2.2.2.2.1.1 (by decide) rfl (Nat.le_of_ble_eq_true rfl) (Nat.le_of_ble_eq_true rfl) rfl (c6_empty (n := 0) hI.D.2.2.2.2.2.2.1 ?_)
  refine X_iload_n (tk_X9_check.at 7 rfl) rfl ?_
  refine X_iconst (tk_X9_check.at 8 rfl) ci_1 ?_
  refine X_iadd (tk_X9_check.at 9 rfl) ?_
  refine X_ireturn (tk_X9_check.at 10 rfl) rfl rfl ?_
  have hN2 : su μ (P + 1 + 11) 1 0 (o + 1) = N := by rw [su_ne (by omega)]; exact hN
  refine n10_check (N := N) hI.M hN2 hw ⟨by rw [ck_u6]; exact ew.symm, ?_⟩
  exact fin_u hI (Fn_now hI (fun a ha => su_ne (by omega))) hN2 (repD_wait hw hr (fun a h1 h2 => su_ne h1) (fun a h1 h2 => upd_ne _ _ h1) ⟨by rw [su_same, upd_at, upd_at], fun i hi => absurd hi (by rw [upd_at]; exact Nat.not_lt_zero i)⟩) (WF_u6 hw (okN_of (n := 0) (by decide) (by decide)))
set_option maxHeartbeats 1000000 in
theorem t_restore {G : Gl} {d : Nat} {S : Sh} {μ : Mu} {P o t q im : Nat} {kp : Option Nat} (him : im < 2 ^ 30) (hI : Inv G S P o kp t q im μ) : X G mi_X9_restore (d + 60) 0 0 [(0, .ref P)] [] S μ (qi (fun an S1 μ1 => X G mi_X10_restore (d + 60) 0 0 [(0, .ref o)] [] S1 μ1 (qi (Eq2 G P o im an)))) := by
  obtain ⟨N, hN⟩ : ∃ N, μ (o + 1) = N := ⟨_, rfl⟩
  have hw : WF N := hN ▸ hI.wf
  have hr : repD μ (P + 1) N := hN ▸ hI.rep
  have lo := hI.lo
  have b1 := hw.n1.2
  have b2 := hw.n2.2
  have b3 := hw.n3.2
  have b4 := hw.n4.2
  have b5 := hw.n5.2
  have b6 := hw.n6.2
  rcases kp with _ | k
  · refine X_aload_n (tk_X9_restore.at 0 rfl) rfl ?_
    refine X_getN (tk_X9_restore.at 1 rfl) fl_x9_54 hI.P0 rfl rfl ?_
    refine X_ifnonnullN (tgt := 14) (tk_X9_restore.at 2 rfl) (by decide) ?_
    refine X_aload_n (tk_X9_restore.at 3 rfl) rfl ?_
    refine X_ldc (tk_X9_restore.at 4 rfl) kn_x9_99 ?_
    refine X_cV1i (lv2 := [(0, _), (1, _)]) (tk_X9_restore.at 5 rfl) mv_X9_fail lk_x9_77 np_X9_fail hI.P0 (by decide) rfl (Nat.le_of_ble_eq_true rfl) (Nat.le_of_ble_eq_true rfl) rfl (c9_fail (k := 2) hI.P0 hI.E (by decide) (by decide) ?_)
    refine X_ireturn (tk_X9_restore.at 6 rfl) rfl rfl ?_
    have i0 : im = 0 := hI.2.1.2.2.1.2.2.1 rfl
    refine n10_restore (N := N) hI.M (by rw [su_ne (by omega)]; exact hN) (fun _ => ⟨rfl, fin_e hI (Fs.rf hI) (Sq.rf _ _) rfl⟩) (fun g => absurd (show su μ (P + 89) 2 (μ (P + 89) 2 + 1) o 3 = 0 from by rw [su_ne (by omega), hI.2.1.2.2.1.2.1, i0]; rfl) g)
  · refine X_aload_n (tk_X9_restore.at 0 rfl) rfl ?_
    refine X_getR (tk_X9_restore.at 1 rfl) fl_x9_54 hI.P0 rfl rfl ?_
    refine X_ifnonnull (tgt := 14) (tk_X9_restore.at 2 rfl) (by decide) ?_
    refine X_aload_n (tk_X9_restore.at 7 rfl) rfl ?_
    refine X_getR (tk_X9_restore.at 8 rfl) fl_x9_12 hI.P0 rfl rfl ?_
    refine X_aload_n (tk_X9_restore.at 9 rfl) rfl ?_
    refine X_getR (tk_X9_restore.at 10 rfl) fl_x9_54 hI.P0 rfl rfl ?_
    have hk := hI.1.2.2.2.2.2 k rfl
    have ik := hI.2.1.2.2.1.2.2.2 k rfl
    have kl := hk.2
    refine X_cV1v (lv2 := [(0, _), (1, _)]) (tk_X9_restore.at 11 rfl) mv_X2_copyFrom lk_x9_318 np_X2_copyFrom hI.D.1 (by decide) rfl (Nat.le_of_ble_eq_true rfl) (Nat.le_of_ble_eq_true rfl) rfl (c2_copyFrom (N := μ (o + 2)) hI.D hk.1 ik.2.2 ik.2.1 (rD_nob hr) (by omega) (fun ν fν rν => ?_))
    refine X_aload_n (tk_X9_restore.at 12 rfl) rfl ?_
    refine X_getR (tk_X9_restore.at 13 rfl) fl_x9_12 hI.P0 rfl rfl ?_
    refine X_getI (tk_X9_restore.at 14 rfl) fl_x9_124 hI.D.1 rfl ?_
    refine X_ireturn (tk_X9_restore.at 15 rfl) rfl rfl ?_
    refine n10_restore (N := N) hI.M (by rw [fν _ (by omega)]; exact hN) (fun g => ?_) (fun _ => ⟨?_, ?_⟩)
    · rw [fν _ (by omega), hI.2.1.2.2.1.2.1] at g; exact absurd ((nI_eq (a := im) (b := 0) (by omega) (by decide)).mp g) (by have := ik.1; omega)
    · rw [fν (o + 2) (by omega)]; exact rν.1.1.symm
    · rw [fν (o + 2) (by omega)]; exact fin_d hI (Fn_now hI (fun a ha => fν a (by omega))) rν ik.2.2
