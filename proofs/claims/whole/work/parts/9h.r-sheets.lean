/-- the end of a call that changes the sheets alone -/
theorem fin_h {G : Gl} {S : Sh} {P o t q im : Nat} {kp : Option Nat} {μ ξ : Mu} (h : Inv G S P o kp t q im μ) (f : ∀ a, (a < P + 90 ∨ P + 98 ≤ a) → (a < o + 14 ∨ o + 18 ≤ a) → ξ a = μ a) (e' : ∀ s, s < 4 → okB (ξ (o + 14) s) ∧ ξ (P + 90 + 2 * s) 1 = ξ (o + 14) s ∧ okN (ξ (o + 15) s) 40 ∧ ξ (P + 90 + 2 * s) 2 = ξ (o + 15) s ∧ ∀ i, i < 40 → ξ (P + 90 + 2 * s + 1) i = ξ (o + 16) (40 * s + i)) : Nx G P o im S ξ := by
  have lo := h.lo
  have s1 := h.1.2.2.2.1
  have s2 := h.1.2.2.2.2.1
  have s3 := h.1.2.2.2.2.2
  have e1 : ξ (o + 1) = μ (o + 1) := f _ (by omega) (by omega)
  obtain ⟨hIS, ⟨⟨a1, a2⟩, b, ⟨c1, c2, c3, c4⟩, ⟨tc, d1, d2, d3, d4⟩, e, g1, g2⟩, r1, r2⟩ := h
  refine ⟨kp, t, q, im, Nat.le_succ _, hIS, ⟨⟨fun j hj => ⟨(a1 j hj).1, fun i hi => ?_⟩, fun v hv => ⟨(a2 v hv).1, (a2 v hv).2.1, fun i hi => ?_⟩⟩, fun k h1 h2 => ?_, ⟨?_, ?_, c3, fun k hk => ⟨(c4 k hk).1, ?_, ?_⟩⟩, ⟨tc, d1, ?_, ?_, fun i hi => ?_⟩, e', ?_, ?_⟩, ?_, ?_⟩
  · have := s1 j hj
    rw [f _ (by omega) (by omega)]; exact (a1 j hj).2 i hi
  · have := s2 v hv
    rw [f _ (by omega) (by omega)]; exact (a2 v hv).2.2 i hi
  · rw [f _ (by omega) (by omega), f (o + 4) (by omega) (by omega)]; exact b k h1 h2
  · rw [f _ (by omega) (by omega)]; exact c1
  · rw [f o (by omega) (by omega)]; exact c2
  · have := (s3 k hk).2
    rw [f (o + 2) (by omega) (by omega)]
    exact repD_of (c4 k hk).2.1 (fun a h1 h2 => f a (by omega) (by omega))
  · rw [f (o + 2) (by omega) (by omega)]; exact (c4 k hk).2.2
  · rw [f _ (by omega) (by omega)]; exact d2
  · rw [f o (by omega) (by omega)]; exact d3
  · rw [f _ (by omega) (by omega), f (o + 13) (by omega) (by omega)]; exact d4 i hi
  · rw [f _ (by omega) (by omega)]; exact g1
  · rw [f o (by omega) (by omega)]; exact g2
  · rw [e1]; exact repD_of r1 (fun a h1 h2 => f a (by omega) (by omega))
  · rw [e1]; exact r2
theorem p10_sheet {G : Gl} {d : Nat} {S : Sh} {μ : Mu} {o : Nat} {q : Nat → Nat} {s b n : Int32} {K : Int32 → Sh → Mu → Prop} {A B C N : Nat → Int32} (hM : MS S o q) (hN : μ (o + 1) = N) (hA : μ (o + 14) = A) (hB : μ (o + 15) = B) (hC : μ (o + 16) = C) (k1 : ¬ (In s 4 ∧ okB b) → K (-1000000001) S (er μ o 1)) (k2 : ∀ j, j < 4 → s = nI j → okB b → ¬ b = 0 → n < 0 → K (-1000000003) S (er μ o 3)) (k3 : ∀ j, j < 4 → s = nI j → okB b → ¬ b = 0 → 0 ≤ n → 40 < n → K (-1000000001) S (er μ o 1)) (k4 : ∀ j, j < 4 → s = nI j → okB b → (b ≠ 0 → 0 ≤ n ∧ n ≤ 40) → K 1 S (Mx (su (su μ (o + 14) j b) (o + 15) j (if b = 0 then 0 else n)) (o + 16) (clrN (C) j))) : X G mi_X10_sheet (d + 2) 0 0 [(0, .ref o), (1, .int s), (2, .int b), (3, .int n)] [] S μ (qi K) := by
  subst hN hA hB hC
  exact c10_sheet hM k1 k2 k3 k4
theorem p10_put {G : Gl} {d : Nat} {S : Sh} {μ : Mu} {o : Nat} {q : Nat → Nat} {s i v : Int32} {K : Int32 → Sh → Mu → Prop} {A B C N : Nat → Int32} (hM : MS S o q) (hN : μ (o + 1) = N) (hA : μ (o + 14) = A) (hB : μ (o + 15) = B) (hC : μ (o + 16) = C) (hz : ∀ j, j < 4 → okN (B j) 40) (k1 : ¬ In s 4 → K (-1000000001) S (er μ o 1)) (k2 : ∀ a, a < 4 → s = nI a → A a = 0 → K (-1000000002) S (er μ o 2)) (k3 : ∀ a, a < 4 → s = nI a → ¬ A a = 0 → ¬ In i (nv (B a)) → K (-1000000001) S (er μ o 1)) (k4 : ∀ a j, a < 4 → j < nv (B a) → s = nI a → i = nI j → ¬ A a = 0 → K 1 S (su μ (o + 16) (40 * a + j) (nar (A a) v))) : X G mi_X10_put (d + 2) 0 0 [(0, .ref o), (1, .int s), (2, .int i), (3, .int v)] [] S μ (qi K) := by
  subst hN hA hB hC
  exact c10_put hM hz k1 k2 k3 k4
theorem p10_move {G : Gl} {d : Nat} {S : Sh} {μ : Mu} {o : Nat} {q : Nat → Nat} {s i t j n : Int32} {K : Int32 → Sh → Mu → Prop} {A B C N : Nat → Int32} (hM : MS S o q) (hN : μ (o + 1) = N) (hA : μ (o + 14) = A) (hB : μ (o + 15) = B) (hC : μ (o + 16) = C) (hz : (∀ x, x < 4 → okN (B x) 40)) (k1 : ¬ (In s 4 ∧ In t 4) → K (-1000000001) S (er μ o 1)) (k2 : ∀ x y, x < 4 → y < 4 → s = nI x → t = nI y → (A x = 0 ∨ A y = 0) → K (-1000000002) S (er μ o 2)) (k3 : ∀ x y, x < 4 → y < 4 → s = nI x → t = nI y → ¬ A x = 0 → ¬ A y = 0 → ¬ A x = A y → K (-1000000005) S (er μ o 5)) (k4 : ∀ x y, x < 4 → y < 4 → s = nI x → t = nI y → ¬ A x = 0 → ¬ A y = 0 → A x = A y → ¬ mvOk i j n (nv (B x)) (nv (B y)) → K (-1000000001) S (er μ o 1)) (k5 : ∀ x y a b c, x < 4 → y < 4 → s = nI x → t = nI y → i = nI a → j = nI b → n = nI c → ¬ A x = 0 → ¬ A y = 0 → A x = A y → a + c ≤ nv (B x) → b + c ≤ nv (B y) → ∀ F, K (nI c) S (Mx (Mx μ (o + 17) F) (o + 16) (mvN (C) x a y b c))) : X G mi_X10_move (d + 2) 0 0 [(0, .ref o), (1, .int s), (2, .int i), (3, .int t), (4, .int j), (5, .int n)] [] S μ (qi K) := by
  subst hN hA hB hC
  exact c10_move hM hz k1 k2 k3 k4 k5
theorem p10_people {G : Gl} {d : Nat} {S : Sh} {μ : Mu} {o : Nat} {q : Nat → Nat} {s : Int32} {K : Int32 → Sh → Mu → Prop} {A B C N : Nat → Int32} (hM : MS S o q) (hN : μ (o + 1) = N) (hA : μ (o + 14) = A) (hB : μ (o + 15) = B) (hC : μ (o + 16) = C) (hw : WF (N)) (hz : ∀ j, j < 4 → okN (B j) 40) (k1 : ¬ In s 4 → K (-1000000001) S (er μ o 1)) (k2 : ∀ a, a < 4 → s = nI a → A a = 0 → K (-1000000002) S (er μ o 2)) (k3 : ∀ a, a < 4 → s = nI a → ¬ A a = 0 → K (nI (ppl (C) (nv (B a)) (40 * a) 11 0 (N)).1) S (Mx μ (o + 1) (ppl (C) (nv (B a)) (40 * a) 11 0 (N)).2)) : X G mi_X10_people (d + 2) 0 0 [(0, .ref o), (1, .int s)] [] S μ (qi K) := by
  subst hN hA hB hC
  exact c10_people hM hw hz k1 k2 k3
set_option maxHeartbeats 1000000 in
theorem c9_sheetOf {G : Gl} {d : Nat} {S : Sh} {μ : Mu} {P o t q im : Nat} {kp : Option Nat} {s : Int32} {K : Option Nat → Sh → Mu → Prop} {ν : Mu} (hI : Inv G S P o kp t q im μ) (kt : ∀ j, j < 4 → s = nI j → K (some (P + 90 + 2 * j)) S ν) (kf : ¬ In s 4 → K none S ν) : X G mi_X9_sheetOf d 0 0 [(0, .ref P), (1, .int s)] [] S ν (qr K) := by
  refine X_iload_n (tk_X9_sheetOf.at 0 rfl) rfl ?_
  refine X_if_lt (tgt := 22) (tk_X9_sheetOf.at 1 rfl) (by decide) (fun c1 => ?_) (fun c1 => ?_)
  · refine X_null (tk_X9_sheetOf.at 12 rfl) ?_
    refine X_areturnN (tk_X9_sheetOf.at 13 rfl) rfl (Or.inl ⟨_, rfl⟩) ?_
    exact kf (fun h => by obtain ⟨j, hj, ej⟩ := h; have z := rng ej (n := 3) (by omega) (by decide); have n4 : nI 4 = 4 := rfl; have n3 : nI 3 = 3 := rfl; grind)
  · refine X_iload_n (tk_X9_sheetOf.at 2 rfl) rfl ?_
    refine X_aload_n (tk_X9_sheetOf.at 3 rfl) rfl ?_
    refine X_getR (tk_X9_sheetOf.at 4 rfl) fl_x9_46 hI.P0 rfl rfl ?_
    refine X_alenR (tk_X9_sheetOf.at 5 rfl) hI.sh ?_
    refine X_icmp_ge (tgt := 22) (tk_X9_sheetOf.at 6 rfl) (by decide) (fun c2 => ?_) (fun c2 => ?_)
    · refine X_null (tk_X9_sheetOf.at 12 rfl) ?_
      refine X_areturnN (tk_X9_sheetOf.at 13 rfl) rfl (Or.inl ⟨_, rfl⟩) ?_
      exact kf (fun h => by obtain ⟨j, hj, ej⟩ := h; have z := rng ej (n := 3) (by omega) (by decide); have n4 : nI 4 = 4 := rfl; have n3 : nI 3 = 3 := rfl; grind)
    · have n4 : nI 4 = 4 := rfl
      have hcf : 0 ≤ s ∧ s ≤ 3 := by grind
      obtain ⟨f, ef, hf⟩ : ∃ f, s = nI f ∧ f ≤ 3 := ⟨nv s, (le_lits (a := 0) (b := 3) (by decide) hcf.1 hcf.2 (by decide)).1, (le_lits (a := 0) (b := 3) (by decide) hcf.1 hcf.2 (by decide)).2.2⟩
      refine X_aload_n (tk_X9_sheetOf.at 7 rfl) rfl ?_
      refine X_getR (tk_X9_sheetOf.at 8 rfl) fl_x9_46 hI.P0 rfl rfl ?_
      refine X_iload_n (tk_X9_sheetOf.at 9 rfl) rfl ?_
      refine X_aaldN (k := f) (tk_X9_sheetOf.at 10 rfl) hI.sh ef (by omega) (by decide) rfl ?_
      refine X_goto (tgt := 23) (tk_X9_sheetOf.at 11 rfl) (by decide) ?_
      refine X_areturn (tk_X9_sheetOf.at 13 rfl) rfl (Or.inl ⟨_, rfl⟩) ?_
      exact kt f (by omega) ef
set_option maxHeartbeats 1000000 in
theorem t_put {G : Gl} {d : Nat} {S : Sh} {μ : Mu} {P o t q im : Nat} {kp : Option Nat} {s i v : Int32} (hI : Inv G S P o kp t q im μ) : X G mi_X9_put (d + 60) 0 0 [(0, .ref P), (1, .int s), (2, .int i), (3, .int v)] [] S μ (qi (fun an S1 μ1 => X G mi_X10_put (d + 60) 0 0 [(0, .ref o), (1, .int s), (2, .int i), (3, .int v)] [] S1 μ1 (qi (Eq2 G P o im an)))) := by
  obtain ⟨N, hN⟩ : ∃ N, μ (o + 1) = N := ⟨_, rfl⟩
  have hw : WF N := hN ▸ hI.wf
  have hr : repD μ (P + 1) N := hN ▸ hI.rep
  have lo := hI.lo
  have b1 := hw.n1.2
  have b2 := hw.n2.2
  have b3 := hw.n3.2
  have b4 := hw.n4.2
  have b5 := hw.n5.2
  have b6 := hw.n6.2
  have hun : ∀ r i r' i' p, On N r i p → On N r' i' p → r = r' ∧ i = i' := fun _ _ _ _ _ h1 h2 => hw.un h1 h2
  have hlu : ∀ k k', k < nv (N 4) → k' < nv (N 4) → N (134 + k) = N (134 + k') → k = k' := fun _ _ h1 h2 e => hw.lu h1 h2 e
  have hnz : nI 0 = 0 := rfl
  have hli : ∀ k, k < nv (N 4) → N (134 + k) = nI (nv (N (134 + k))) ∧ nv (N (134 + k)) < nv (N 3) := fun k h => hw.li h
  obtain ⟨A, hA⟩ : ∃ N, μ (o + 14) = N := ⟨_, rfl⟩
  obtain ⟨B, hB⟩ : ∃ N, μ (o + 15) = N := ⟨_, rfl⟩
  obtain ⟨C, hC⟩ : ∃ N, μ (o + 16) = N := ⟨_, rfl⟩
  have hsh : ∀ s, s < 4 → okB (A s) ∧ μ (P + 90 + 2 * s) 1 = A s ∧ okN (B s) 40 ∧ μ (P + 90 + 2 * s) 2 = B s ∧ ∀ i, i < 40 → μ (P + 90 + 2 * s + 1) i = C (40 * s + i) := fun s hs => by have z := hI.sheet hs; rw [hA, hB, hC] at z; exact z
  have hz : ∀ x, x < 4 → okN (B x) 40 := fun x hx => (hsh x hx).2.2.1
  have rg3 : ∀ f, f < 4 → 0 ≤ nI f ∧ nI f ≤ 3 := fun f h => rng rfl (show f ≤ 3 by omega) (by decide)
  refine X_aload_n (tk_X9_put.at 0 rfl) rfl ?_
  refine X_iload_n (tk_X9_put.at 1 rfl) rfl ?_
  refine X_cV1r (lv2 := [(0, _), (1, _)]) (tk_X9_put.at 2 rfl) mv_X9_sheetOf lk_x9_91 np_X9_sheetOf hI.P0 (by decide) rfl (Nat.le_of_ble_eq_true rfl) (Nat.le_of_ble_eq_true rfl) rfl (c9_sheetOf hI (fun j hj ej => ?_) (fun hj => ?_))
  · have shj := hsh j hj
    refine X_astore (lv' := [(0, _), (1, _), (2, _), (3, _), (4, _)]) (tk_X9_put.at 3 rfl) (by decide) rfl rfl ?_
    refine X_aload (tk_X9_put.at 4 rfl) rfl ?_
    refine X_ifnonnull (tgt := 19) (tk_X9_put.at 5 rfl) (by decide) ?_
    refine X_aload (tk_X9_put.at 10 rfl) rfl ?_
    refine X_cV0i (lv2 := [(0, _)]) (tk_X9_put.at 11 rfl) mv_X7_isMissing lk_x9_95 np_X7_isMissing (hI.hs (i := j) (by omega)).1 (by decide) rfl (Nat.le_of_ble_eq_true rfl) (Nat.le_of_ble_eq_true rfl) rfl (c7_isMissing (hI.hs (i := j) (by omega)) (fun mj => ?_) (fun mj => ?_))
    · rw [shj.2.1] at mj
      refine X_if_eq (tgt := 34) (tk_X9_put.at 12 rfl) (by decide) (fun h => absurd h (by decide)) (fun _ => ?_)
      refine X_aload_n (tk_X9_put.at 13 rfl) rfl ?_
      refine X_ldc (tk_X9_put.at 14 rfl) kn_x9_99 ?_
      refine X_cV1i (lv2 := [(0, _), (1, _)]) (tk_X9_put.at 15 rfl) mv_X9_fail lk_x9_77 np_X9_fail hI.P0 (by decide) rfl (Nat.le_of_ble_eq_true rfl) (Nat.le_of_ble_eq_true rfl) rfl (c9_fail (k := 2) hI.P0 hI.E (by decide) (by decide) ?_)
      refine X_ireturn (tk_X9_put.at 16 rfl) rfl rfl ?_
      have stn : ∀ k m, k < m → m ≤ 40 → Stn (nI k) 1 m := fun k m h1 h2 => ⟨k, 1, rfl, rfl, by omega⟩
      have hz2 : ∀ x, x < 4 → nv (B x) ≤ 40 := fun x hx => (hz x hx).2
      refine p10_put (N := N) (A := A) (B := B) (C := C) hI.M (by rw [su_ne (by omega)]; exact hN) (by rw [su_ne (by omega)]; exact hA) (by rw [su_ne (by omega)]; exact hB) (by rw [su_ne (by omega)]; exact hC) hz (by intros; first | (exfalso; grind [In, nI_eq]) | exact ⟨by grind [In, nI_eq], fin_e hI (Fs.rf hI) (Sq.rf _ _) rfl⟩) (by intros; first | (exfalso; grind [In, nI_eq]) | exact ⟨by grind [In, nI_eq], fin_e hI (Fs.rf hI) (Sq.rf _ _) rfl⟩) (by intros; first | (exfalso; grind [In, nI_eq]) | exact ⟨by grind [In, nI_eq], fin_e hI (Fs.rf hI) (Sq.rf _ _) rfl⟩) (by intros; first | (exfalso; grind [In, nI_eq]) | exact ⟨by grind [In, nI_eq], fin_e hI (Fs.rf hI) (Sq.rf _ _) rfl⟩)
    · rw [shj.2.1] at mj
      refine X_if_eq (tgt := 34) (tk_X9_put.at 12 rfl) (by decide) (fun _ => ?_) (fun h => absurd h (by decide))
      refine X_aload (tk_X9_put.at 17 rfl) rfl ?_
      refine X_iload_n (tk_X9_put.at 18 rfl) rfl ?_
      refine X_iconst (tk_X9_put.at 19 rfl) ci_1 ?_
      refine X_cV2i (lv2 := [(0, _), (1, _), (2, _)]) (tk_X9_put.at 20 rfl) mv_X7_stands lk_x9_306 np_X7_stands (hI.hs (i := j) (by omega)).1 (by decide) rfl (Nat.le_of_ble_eq_true rfl) (Nat.le_of_ble_eq_true rfl) rfl (c7_stands (n := nv (B j)) (hI.hs (i := j) (by omega)) (shj.2.2.2.1.trans shj.2.2.1.1) shj.2.2.1.2 (fun hst => ?_) (fun hst => ?_))
      · refine X_if_ne (tgt := 51) (tk_X9_put.at 21 rfl) (by decide) (fun _ => ?_) (fun h => absurd h (by decide))
        refine X_aload (tk_X9_put.at 26 rfl) rfl ?_
        refine X_iload_n (tk_X9_put.at 27 rfl) rfl ?_
        refine X_iload_n (tk_X9_put.at 28 rfl) rfl ?_
        obtain ⟨a, c, ea, ec, hac⟩ := hst
        have hc1 : c ≤ 40 := by have := shj.2.2.1.2; omega
        have ec1 : c = 1 := ((nI_eq (by have := shj.2.2.1.2; omega) (by decide)).mp (show nI c = nI 1 from ec.symm))
        refine X_cV2v (lv2 := [(0, _), (1, _), (2, _)]) (tk_X9_put.at 29 rfl) mv_X7_write lk_x9_309 np_X7_write (hI.hs (i := j) (by omega)).1 (by decide) rfl (Nat.le_of_ble_eq_true rfl) (Nat.le_of_ble_eq_true rfl) rfl (c7_write (n := nv (B j)) (j := a) (hI.hs (i := j) (by omega)) (shj.2.2.2.1.trans shj.2.2.1.1) shj.2.2.1.2 ea (by omega) ?_)
        refine X_iconst (tk_X9_put.at 30 rfl) ci_1 ?_
        refine X_ireturn (tk_X9_put.at 31 rfl) rfl rfl ?_
        have bz := shj.2.2.1.2
        have ha40 : a < 40 := by omega
        generalize eν : (su μ (P + 90 + 2 * j + 1) a (nar (μ (P + 90 + 2 * j) 1) v)) = ν
        have fν : ∀ b, b ≠ P + 90 + 2 * j + 1 → ν b = μ b := fun b hb => by rw [← eν]; exact su_ne hb
        have cν : ν (P + 90 + 2 * j + 1) = upd (μ (P + 90 + 2 * j + 1)) a (nar (μ (P + 90 + 2 * j) 1) v) := by rw [← eν]; exact su_same
        refine p10_put (N := N) (A := A) (B := B) (C := C) hI.M (by rw [fν _ (by omega)]; exact hN) (by rw [fν _ (by omega)]; exact hA) (by rw [fν _ (by omega)]; exact hB) (by rw [fν _ (by omega)]; exact hC) hz (fun g => absurd ⟨j, hj, ej⟩ g) (fun x hx ex e0 => absurd (nI_j ex ej (by omega) (by omega) ▸ e0) mj) (fun x hx ex e0 hno => absurd ⟨a, by rw [nI_j ex ej (by omega) (by omega)]; omega, ea⟩ hno) (fun x y hx hy ex ey e0 => ⟨rfl, ?_⟩)
        have q1 := nI_j ex ej (by omega) (by omega)
        subst q1
        have q2 := nI_j ey ea (by omega) (by omega)
        subst q2
        refine fin_h hI (fun b h1 h2 => by rw [su_ne (by omega), fν _ (by omega)]) (fun s1 hs1 => ?_)
        have z := hsh s1 hs1
        rw [su_ne (show o + 14 ≠ o + 16 by omega), su_ne (show o + 15 ≠ o + 16 by omega), su_same, su_ne (show P + 90 + 2 * s1 ≠ o + 16 by omega), su_ne (show P + 90 + 2 * s1 + 1 ≠ o + 16 by omega), fν (o + 14) (by omega), fν (o + 15) (by omega), fν (o + 16) (by omega), fν (P + 90 + 2 * s1) (by omega), hA, hB, hC]
        refine ⟨z.1, z.2.1, z.2.2.1, z.2.2.2.1, fun i1 hi1 => ?_⟩
        by_cases c1 : s1 = x
        · subst c1
          rw [cν]
          by_cases c2 : i1 = y
          · subst c2; rw [upd_at, upd_at, z.2.1]
          · rw [upd_ne _ _ c2, upd_ne _ _ (by omega)]; exact z.2.2.2.2 i1 hi1
        · rw [fν _ (by omega), upd_ne _ _ (by omega)]; exact z.2.2.2.2 i1 hi1
      · refine X_if_ne (tgt := 51) (tk_X9_put.at 21 rfl) (by decide) (fun h => absurd h (by decide)) (fun _ => ?_)
        refine X_aload_n (tk_X9_put.at 22 rfl) rfl ?_
        refine X_ldc (tk_X9_put.at 23 rfl) kn_x9_76 ?_
        refine X_cV1i (lv2 := [(0, _), (1, _)]) (tk_X9_put.at 24 rfl) mv_X9_fail lk_x9_77 np_X9_fail hI.P0 (by decide) rfl (Nat.le_of_ble_eq_true rfl) (Nat.le_of_ble_eq_true rfl) rfl (c9_fail (k := 1) hI.P0 hI.E (by decide) (by decide) ?_)
        refine X_ireturn (tk_X9_put.at 25 rfl) rfl rfl ?_
        have stn : ∀ k m, k < m → m ≤ 40 → Stn (nI k) 1 m := fun k m h1 h2 => ⟨k, 1, rfl, rfl, by omega⟩
        have hz2 : ∀ x, x < 4 → nv (B x) ≤ 40 := fun x hx => (hz x hx).2
        refine p10_put (N := N) (A := A) (B := B) (C := C) hI.M (by rw [su_ne (by omega)]; exact hN) (by rw [su_ne (by omega)]; exact hA) (by rw [su_ne (by omega)]; exact hB) (by rw [su_ne (by omega)]; exact hC) hz (by intros; first | (exfalso; grind [In, nI_eq]) | exact ⟨by grind [In, nI_eq], fin_e hI (Fs.rf hI) (Sq.rf _ _) rfl⟩) (by intros; first | (exfalso; grind [In, nI_eq]) | exact ⟨by grind [In, nI_eq], fin_e hI (Fs.rf hI) (Sq.rf _ _) rfl⟩) (by intros; first | (exfalso; grind [In, nI_eq]) | exact ⟨by grind [In, nI_eq], fin_e hI (Fs.rf hI) (Sq.rf _ _) rfl⟩) (by intros; first | (exfalso; grind [In, nI_eq]) | exact ⟨by grind [In, nI_eq], fin_e hI (Fs.rf hI) (Sq.rf _ _) rfl⟩)
  · refine X_astoreN (lv' := [(0, _), (1, _), (2, _), (3, _), (4, _)]) (tk_X9_put.at 3 rfl) (by decide) rfl rfl ?_
    refine X_aloadN (tk_X9_put.at 4 rfl) rfl ?_
    refine X_ifnonnullN (tgt := 19) (tk_X9_put.at 5 rfl) (by decide) ?_
    refine X_aload_n (tk_X9_put.at 6 rfl) rfl ?_
    refine X_ldc (tk_X9_put.at 7 rfl) kn_x9_76 ?_
    refine X_cV1i (lv2 := [(0, _), (1, _)]) (tk_X9_put.at 8 rfl) mv_X9_fail lk_x9_77 np_X9_fail hI.P0 (by decide) rfl (Nat.le_of_ble_eq_true rfl) (Nat.le_of_ble_eq_true rfl) rfl (c9_fail (k := 1) hI.P0 hI.E (by decide) (by decide) ?_)
    refine X_ireturn (tk_X9_put.at 9 rfl) rfl rfl ?_
    have stn : ∀ k m, k < m → m ≤ 40 → Stn (nI k) 1 m := fun k m h1 h2 => ⟨k, 1, rfl, rfl, by omega⟩
    have hz2 : ∀ x, x < 4 → nv (B x) ≤ 40 := fun x hx => (hz x hx).2
    refine p10_put (N := N) (A := A) (B := B) (C := C) hI.M (by rw [su_ne (by omega)]; exact hN) (by rw [su_ne (by omega)]; exact hA) (by rw [su_ne (by omega)]; exact hB) (by rw [su_ne (by omega)]; exact hC) hz (by intros; first | (exfalso; grind [In, nI_eq]) | exact ⟨by grind [In, nI_eq], fin_e hI (Fs.rf hI) (Sq.rf _ _) rfl⟩) (by intros; first | (exfalso; grind [In, nI_eq]) | exact ⟨by grind [In, nI_eq], fin_e hI (Fs.rf hI) (Sq.rf _ _) rfl⟩) (by intros; first | (exfalso; grind [In, nI_eq]) | exact ⟨by grind [In, nI_eq], fin_e hI (Fs.rf hI) (Sq.rf _ _) rfl⟩) (by intros; first | (exfalso; grind [In, nI_eq]) | exact ⟨by grind [In, nI_eq], fin_e hI (Fs.rf hI) (Sq.rf _ _) rfl⟩)
set_option maxHeartbeats 1000000 in
theorem t_move {G : Gl} {d : Nat} {S : Sh} {μ : Mu} {P o t q im : Nat} {kp : Option Nat} {s i t1 j n : Int32} (hI : Inv G S P o kp t q im μ) : X G mi_X9_move (d + 60) 0 0 [(0, .ref P), (1, .int s), (2, .int i), (3, .int t1), (4, .int j), (5, .int n)] [] S μ (qi (fun an S1 μ1 => X G mi_X10_move (d + 60) 0 0 [(0, .ref o), (1, .int s), (2, .int i), (3, .int t1), (4, .int j), (5, .int n)] [] S1 μ1 (qi (Eq2 G P o im an)))) := by
  obtain ⟨N, hN⟩ : ∃ N, μ (o + 1) = N := ⟨_, rfl⟩
  have hw : WF N := hN ▸ hI.wf
  have hr : repD μ (P + 1) N := hN ▸ hI.rep
  have lo := hI.lo
  have b1 := hw.n1.2
  have b2 := hw.n2.2
  have b3 := hw.n3.2
  have b4 := hw.n4.2
  have b5 := hw.n5.2
  have b6 := hw.n6.2
  have hun : ∀ r i r' i' p, On N r i p → On N r' i' p → r = r' ∧ i = i' := fun _ _ _ _ _ h1 h2 => hw.un h1 h2
  have hlu : ∀ k k', k < nv (N 4) → k' < nv (N 4) → N (134 + k) = N (134 + k') → k = k' := fun _ _ h1 h2 e => hw.lu h1 h2 e
  have hnz : nI 0 = 0 := rfl
  have hli : ∀ k, k < nv (N 4) → N (134 + k) = nI (nv (N (134 + k))) ∧ nv (N (134 + k)) < nv (N 3) := fun k h => hw.li h
  obtain ⟨A, hA⟩ : ∃ N, μ (o + 14) = N := ⟨_, rfl⟩
  obtain ⟨B, hB⟩ : ∃ N, μ (o + 15) = N := ⟨_, rfl⟩
  obtain ⟨C, hC⟩ : ∃ N, μ (o + 16) = N := ⟨_, rfl⟩
  have hsh : ∀ s, s < 4 → okB (A s) ∧ μ (P + 90 + 2 * s) 1 = A s ∧ okN (B s) 40 ∧ μ (P + 90 + 2 * s) 2 = B s ∧ ∀ i, i < 40 → μ (P + 90 + 2 * s + 1) i = C (40 * s + i) := fun s hs => by have z := hI.sheet hs; rw [hA, hB, hC] at z; exact z
  have hz : ∀ x, x < 4 → okN (B x) 40 := fun x hx => (hsh x hx).2.2.1
  have rg3 : ∀ f, f < 4 → 0 ≤ nI f ∧ nI f ≤ 3 := fun f h => rng rfl (show f ≤ 3 by omega) (by decide)
  refine X_aload_n (tk_X9_move.at 0 rfl) rfl ?_
  refine X_iload_n (tk_X9_move.at 1 rfl) rfl ?_
  refine X_cV1r (lv2 := [(0, _), (1, _)]) (tk_X9_move.at 2 rfl) mv_X9_sheetOf lk_x9_91 np_X9_sheetOf hI.P0 (by decide) rfl (Nat.le_of_ble_eq_true rfl) (Nat.le_of_ble_eq_true rfl) rfl (c9_sheetOf hI (fun x0 hx0 ex0 => ?_) (fun hx0 => ?_))
  · have shx0 := hsh x0 hx0
    refine X_astore (lv' := [(0, _), (1, _), (2, _), (3, _), (4, _), (5, _), (6, _)]) (tk_X9_move.at 3 rfl) (by decide) rfl rfl ?_
    refine X_aload_n (tk_X9_move.at 4 rfl) rfl ?_
    refine X_iload_n (tk_X9_move.at 5 rfl) rfl ?_
    refine X_cV1r (lv2 := [(0, _), (1, _)]) (tk_X9_move.at 6 rfl) mv_X9_sheetOf lk_x9_91 np_X9_sheetOf hI.P0 (by decide) rfl (Nat.le_of_ble_eq_true rfl) (Nat.le_of_ble_eq_true rfl) rfl (c9_sheetOf hI (fun y0 hy0 ey0 => ?_) (fun hy0 => ?_))
    · have shy0 := hsh y0 hy0
      refine X_astore (lv' := [(0, _), (1, _), (2, _), (3, _), (4, _), (5, _), (6, _), (7, _)]) (tk_X9_move.at 7 rfl) (by decide) rfl rfl ?_
      refine X_aload (tk_X9_move.at 8 rfl) rfl ?_
      refine X_ifnull (tgt := 24) (tk_X9_move.at 9 rfl) (by decide) ?_
      refine X_aload (tk_X9_move.at 10 rfl) rfl ?_
      refine X_ifnonnull (tgt := 31) (tk_X9_move.at 11 rfl) (by decide) ?_
      refine X_aload (tk_X9_move.at 16 rfl) rfl ?_
      refine X_cV0i (lv2 := [(0, _)]) (tk_X9_move.at 17 rfl) mv_X7_isMissing lk_x9_95 np_X7_isMissing (hI.hs (i := x0) (by omega)).1 (by decide) rfl (Nat.le_of_ble_eq_true rfl) (Nat.le_of_ble_eq_true rfl) rfl (c7_isMissing (hI.hs (i := x0) (by omega)) (fun mx0 => ?_) (fun mx0 => ?_))
      · rw [shx0.2.1] at mx0
        refine X_if_ne (tgt := 47) (tk_X9_move.at 18 rfl) (by decide) (fun _ => ?_) (fun h => absurd h (by decide))
        refine X_aload_n (tk_X9_move.at 22 rfl) rfl ?_
        refine X_ldc (tk_X9_move.at 23 rfl) kn_x9_99 ?_
        refine X_cV1i (lv2 := [(0, _), (1, _)]) (tk_X9_move.at 24 rfl) mv_X9_fail lk_x9_77 np_X9_fail hI.P0 (by decide) rfl (Nat.le_of_ble_eq_true rfl) (Nat.le_of_ble_eq_true rfl) rfl (c9_fail (k := 2) hI.P0 hI.E (by decide) (by decide) ?_)
        refine X_ireturn (tk_X9_move.at 25 rfl) rfl rfl ?_
        have mvo : ∀ x1 y1, mvOk i j n x1 y1 → Stn i n x1 ∧ Stn j n y1 := fun x1 y1 h => by obtain ⟨a, b, c, h1, h2, h3, h4, h5⟩ := h; exact ⟨⟨a, c, h1, h3, h4⟩, ⟨b, c, h2, h3, h5⟩⟩
        have mvp : ∀ x1 y1 a b c, i = nI a → j = nI b → n = nI c → a + c ≤ x1 → b + c ≤ y1 → Stn i n x1 ∧ Stn j n y1 := fun x1 y1 a b c h1 h2 h3 h4 h5 => ⟨⟨a, c, h1, h3, h4⟩, ⟨b, c, h2, h3, h5⟩⟩
        have mvq : ∀ x1 y1, x1 ≤ 40 → y1 ≤ 40 → Stn i n x1 → Stn j n y1 → mvOk i j n x1 y1 := fun x1 y1 k1 k2 h g => by obtain ⟨a, c, h1, h2, h3⟩ := h; obtain ⟨b, c2, g1, g2, g3⟩ := g; have e := nI_j h2 g2 (by omega) (by omega); subst e; exact ⟨a, b, c, h1, g1, h2, h3, g3⟩
        have hz2 : ∀ x, x < 4 → nv (B x) ≤ 40 := fun x hx => (hz x hx).2
        refine p10_move (N := N) (A := A) (B := B) (C := C) hI.M (by rw [su_ne (by omega)]; exact hN) (by rw [su_ne (by omega)]; exact hA) (by rw [su_ne (by omega)]; exact hB) (by rw [su_ne (by omega)]; exact hC) hz (by intros; first | (exfalso; grind [In, nI_eq]) | exact ⟨by grind [In, nI_eq], fin_e hI (Fs.rf hI) (Sq.rf _ _) rfl⟩) (by intros; first | (exfalso; grind [In, nI_eq]) | exact ⟨by grind [In, nI_eq], fin_e hI (Fs.rf hI) (Sq.rf _ _) rfl⟩) (by intros; first | (exfalso; grind [In, nI_eq]) | exact ⟨by grind [In, nI_eq], fin_e hI (Fs.rf hI) (Sq.rf _ _) rfl⟩) (by intros; first | (exfalso; grind [In, nI_eq]) | exact ⟨by grind [In, nI_eq], fin_e hI (Fs.rf hI) (Sq.rf _ _) rfl⟩) (by intros; first | (exfalso; grind [In, nI_eq]) | exact ⟨by grind [In, nI_eq], fin_e hI (Fs.rf hI) (Sq.rf _ _) rfl⟩)
      · rw [shx0.2.1] at mx0
        refine X_if_ne (tgt := 47) (tk_X9_move.at 18 rfl) (by decide) (fun h => absurd h (by decide)) (fun _ => ?_)
        refine X_aload (tk_X9_move.at 19 rfl) rfl ?_
        refine X_cV0i (lv2 := [(0, _)]) (tk_X9_move.at 20 rfl) mv_X7_isMissing lk_x9_95 np_X7_isMissing (hI.hs (i := y0) (by omega)).1 (by decide) rfl (Nat.le_of_ble_eq_true rfl) (Nat.le_of_ble_eq_true rfl) rfl (c7_isMissing (hI.hs (i := y0) (by omega)) (fun my0 => ?_) (fun my0 => ?_))
        · rw [shy0.2.1] at my0
          refine X_if_eq (tgt := 54) (tk_X9_move.at 21 rfl) (by decide) (fun h => absurd h (by decide)) (fun _ => ?_)
          refine X_aload_n (tk_X9_move.at 22 rfl) rfl ?_
          refine X_ldc (tk_X9_move.at 23 rfl) kn_x9_99 ?_
          refine X_cV1i (lv2 := [(0, _), (1, _)]) (tk_X9_move.at 24 rfl) mv_X9_fail lk_x9_77 np_X9_fail hI.P0 (by decide) rfl (Nat.le_of_ble_eq_true rfl) (Nat.le_of_ble_eq_true rfl) rfl (c9_fail (k := 2) hI.P0 hI.E (by decide) (by decide) ?_)
          refine X_ireturn (tk_X9_move.at 25 rfl) rfl rfl ?_
          have mvo : ∀ x1 y1, mvOk i j n x1 y1 → Stn i n x1 ∧ Stn j n y1 := fun x1 y1 h => by obtain ⟨a, b, c, h1, h2, h3, h4, h5⟩ := h; exact ⟨⟨a, c, h1, h3, h4⟩, ⟨b, c, h2, h3, h5⟩⟩
          have mvp : ∀ x1 y1 a b c, i = nI a → j = nI b → n = nI c → a + c ≤ x1 → b + c ≤ y1 → Stn i n x1 ∧ Stn j n y1 := fun x1 y1 a b c h1 h2 h3 h4 h5 => ⟨⟨a, c, h1, h3, h4⟩, ⟨b, c, h2, h3, h5⟩⟩
          have mvq : ∀ x1 y1, x1 ≤ 40 → y1 ≤ 40 → Stn i n x1 → Stn j n y1 → mvOk i j n x1 y1 := fun x1 y1 k1 k2 h g => by obtain ⟨a, c, h1, h2, h3⟩ := h; obtain ⟨b, c2, g1, g2, g3⟩ := g; have e := nI_j h2 g2 (by omega) (by omega); subst e; exact ⟨a, b, c, h1, g1, h2, h3, g3⟩
          have hz2 : ∀ x, x < 4 → nv (B x) ≤ 40 := fun x hx => (hz x hx).2
          refine p10_move (N := N) (A := A) (B := B) (C := C) hI.M (by rw [su_ne (by omega)]; exact hN) (by rw [su_ne (by omega)]; exact hA) (by rw [su_ne (by omega)]; exact hB) (by rw [su_ne (by omega)]; exact hC) hz (by intros; first | (exfalso; grind [In, nI_eq]) | exact ⟨by grind [In, nI_eq], fin_e hI (Fs.rf hI) (Sq.rf _ _) rfl⟩) (by intros; first | (exfalso; grind [In, nI_eq]) | exact ⟨by grind [In, nI_eq], fin_e hI (Fs.rf hI) (Sq.rf _ _) rfl⟩) (by intros; first | (exfalso; grind [In, nI_eq]) | exact ⟨by grind [In, nI_eq], fin_e hI (Fs.rf hI) (Sq.rf _ _) rfl⟩) (by intros; first | (exfalso; grind [In, nI_eq]) | exact ⟨by grind [In, nI_eq], fin_e hI (Fs.rf hI) (Sq.rf _ _) rfl⟩) (by intros; first | (exfalso; grind [In, nI_eq]) | exact ⟨by grind [In, nI_eq], fin_e hI (Fs.rf hI) (Sq.rf _ _) rfl⟩)
        · rw [shy0.2.1] at my0
          refine X_if_eq (tgt := 54) (tk_X9_move.at 21 rfl) (by decide) (fun _ => ?_) (fun h => absurd h (by decide))
          refine X_aload (tk_X9_move.at 26 rfl) rfl ?_
          refine X_getI (tk_X9_move.at 27 rfl) fl_x9_312 (hI.hs (i := x0) (by omega)).1 rfl ?_
          refine X_aload (tk_X9_move.at 28 rfl) rfl ?_
          refine X_getI (tk_X9_move.at 29 rfl) fl_x9_312 (hI.hs (i := y0) (by omega)).1 rfl ?_
          refine X_icmp_eq (tgt := 74) (tk_X9_move.at 30 rfl) (by decide) (fun c5 => ?_) (fun c5 => ?_)
          · have hkind : A x0 = A y0 := by rw [← shx0.2.1, ← shy0.2.1]; exact c5
            refine X_aload (tk_X9_move.at 35 rfl) rfl ?_
            refine X_iload_n (tk_X9_move.at 36 rfl) rfl ?_
            refine X_iload (tk_X9_move.at 37 rfl) rfl ?_
            refine X_cV2i (lv2 := [(0, _), (1, _), (2, _)]) (tk_X9_move.at 38 rfl) mv_X7_stands lk_x9_306 np_X7_stands (hI.hs (i := x0) (by omega)).1 (by decide) rfl (Nat.le_of_ble_eq_true rfl) (Nat.le_of_ble_eq_true rfl) rfl (c7_stands (n := nv (B x0)) (hI.hs (i := x0) (by omega)) (shx0.2.2.2.1.trans shx0.2.2.1.1) shx0.2.2.1.2 (fun hsx => ?_) (fun hsx => ?_))
            · refine X_if_eq (tgt := 97) (tk_X9_move.at 39 rfl) (by decide) (fun h => absurd h (by decide)) (fun _ => ?_)
              refine X_aload (tk_X9_move.at 40 rfl) rfl ?_
              refine X_iload (tk_X9_move.at 41 rfl) rfl ?_
              refine X_iload (tk_X9_move.at 42 rfl) rfl ?_
              refine X_cV2i (lv2 := [(0, _), (1, _), (2, _)]) (tk_X9_move.at 43 rfl) mv_X7_stands lk_x9_306 np_X7_stands (hI.hs (i := y0) (by omega)).1 (by decide) rfl (Nat.le_of_ble_eq_true rfl) (Nat.le_of_ble_eq_true rfl) rfl (c7_stands (n := nv (B y0)) (hI.hs (i := y0) (by omega)) (shy0.2.2.2.1.trans shy0.2.2.1.1) shy0.2.2.1.2 (fun hsy => ?_) (fun hsy => ?_))
              · refine X_if_ne (tgt := 104) (tk_X9_move.at 44 rfl) (by decide) (fun _ => ?_) (fun h => absurd h (by decide))
                refine X_aload (tk_X9_move.at 49 rfl) rfl ?_
                refine X_iload (tk_X9_move.at 50 rfl) rfl ?_
                refine X_aload (tk_X9_move.at 51 rfl) rfl ?_
                refine X_iload_n (tk_X9_move.at 52 rfl) rfl ?_
                refine X_iload (tk_X9_move.at 53 rfl) rfl ?_
                obtain ⟨a, c, ea, ec, hac⟩ := hsx
                obtain ⟨b, c2, eb, ec2, hbc⟩ := hsy
                have bx := shx0.2.2.1.2
                have by_ := shy0.2.2.1.2
                have q0 : c2 = c := nI_j ec2 ec (by omega) (by omega)
                subst q0
                refine X_cV4v (lv2 := [(0, _), (1, _), (2, _), (3, _), (4, _)]) (tk_X9_move.at 54 rfl) mv_X7_copyFrom lk_x9_315 np_X7_copyFrom (hI.hs (i := y0) (by omega)).1 (by decide) rfl (Nat.le_of_ble_eq_true rfl) (Nat.le_of_ble_eq_true rfl) rfl (c7_copyFrom (n := nv (B y0)) (m := nv (B x0)) (hI.hs (i := y0) (by omega)) (hI.hs (i := x0) (by omega)) (shy0.2.2.2.1.trans shy0.2.2.1.1) by_ (shx0.2.2.2.1.trans shx0.2.2.1.1) bx eb ea ec hbc hac ?_)
                refine X_iload (tk_X9_move.at 55 rfl) rfl ?_
                refine X_ireturn (tk_X9_move.at 56 rfl) rfl rfl ?_
                generalize eν : (Mx μ (P + 90 + 2 * y0 + 1) (va_cpy (μ (P + 90 + 2 * x0 + 1)) (μ (P + 90 + 2 * y0 + 1)) a b c2)) = ν
                have fν : ∀ d1, d1 ≠ P + 90 + 2 * y0 + 1 → ν d1 = μ d1 := fun d1 hb => by rw [← eν]; exact Mx_ne hb
                have cν : ν (P + 90 + 2 * y0 + 1) = va_cpy (μ (P + 90 + 2 * x0 + 1)) (μ (P + 90 + 2 * y0 + 1)) a b c2 := by rw [← eν]; exact Mx_same
                refine p10_move (N := N) (A := A) (B := B) (C := C) hI.M (by rw [fν _ (by omega)]; exact hN) (by rw [fν _ (by omega)]; exact hA) (by rw [fν _ (by omega)]; exact hB) (by rw [fν _ (by omega)]; exact hC) hz (fun g => absurd ⟨⟨x0, hx0, ex0⟩, ⟨y0, hy0, ey0⟩⟩ g) (fun x y hx hy ex ey e0 => ?_) (fun x y hx hy ex ey m1 m2 e0 => ?_) (fun x y hx hy ex ey m1 m2 e0 hno => ?_) (fun x y a3 b3 c3 hx hy ex ey ea3 eb3 ec3 m1 m2 e0 l1 l2 F => ?_)
                · have q1 := nI_j ex ex0 (by omega) (by omega)
                  have q2 := nI_j ey ey0 (by omega) (by omega)
                  subst q1 q2
                  exfalso
                  rcases e0 with e0 | e0
                  · exact mx0 e0
                  · exact my0 e0
                · have q1 := nI_j ex ex0 (by omega) (by omega)
                  have q2 := nI_j ey ey0 (by omega) (by omega)
                  subst q1 q2
                  exact absurd hkind e0
                · have q1 := nI_j ex ex0 (by omega) (by omega)
                  have q2 := nI_j ey ey0 (by omega) (by omega)
                  subst q1 q2
                  exact absurd ⟨a, b, c2, ea, eb, ec, hac, hbc⟩ hno
                · have q1 := nI_j ex ex0 (by omega) (by omega)
                  have q2 := nI_j ey ey0 (by omega) (by omega)
                  subst q1 q2
                  have q3 := nI_j ea3 ea (by omega) (by omega)
                  have q4 := nI_j eb3 eb (by omega) (by omega)
                  have q5 := nI_j ec3 ec (by omega) (by omega)
                  subst q3 q4 q5
                  refine ⟨ec3.symm, ?_⟩
                  refine fin_h hI (fun d1 h1 h2 => by rw [Mx_ne (by omega), Mx_ne (by omega), fν _ (by omega)]) (fun s1 hs1 => ?_)
                  have z := hsh s1 hs1
                  rw [Mx_ne (show o + 14 ≠ o + 16 by omega), Mx_ne (show o + 14 ≠ o + 17 by omega), Mx_ne (show o + 15 ≠ o + 16 by omega), Mx_ne (show o + 15 ≠ o + 17 by omega), Mx_same, Mx_ne (show P + 90 + 2 * s1 ≠ o + 16 by omega), Mx_ne (show P + 90 + 2 * s1 ≠ o + 17 by omega), Mx_ne (show P + 90 + 2 * s1 + 1 ≠ o + 16 by omega), Mx_ne (show P + 90 + 2 * s1 + 1 ≠ o + 17 by omega), fν (o + 14) (by omega), fν (o + 15) (by omega), fν (P + 90 + 2 * s1) (by omega), hA, hB]
                  refine ⟨z.1, z.2.1, z.2.2.1, z.2.2.2.1, fun i1 hi1 => ?_⟩
                  unfold mvN
                  by_cases c1 : s1 = y
                  · subst c1
                    rw [cν, va_cpy]
                    by_cases c4 : b3 ≤ i1 ∧ i1 < b3 + c3
                    · rw [if_pos c4, if_pos (by omega), (hsh x hx).2.2.2.2 _ (by omega)]; exact congrArg C (by omega)
                    · rw [if_neg c4, if_neg (by omega)]; exact z.2.2.2.2 i1 hi1
                  · rw [fν _ (by omega), if_neg (by omega)]; exact z.2.2.2.2 i1 hi1
              · refine X_if_ne (tgt := 104) (tk_X9_move.at 44 rfl) (by decide) (fun h => absurd h (by decide)) (fun _ => ?_)
                refine X_aload_n (tk_X9_move.at 45 rfl) rfl ?_
                refine X_ldc (tk_X9_move.at 46 rfl) kn_x9_76 ?_
                refine X_cV1i (lv2 := [(0, _), (1, _)]) (tk_X9_move.at 47 rfl) mv_X9_fail lk_x9_77 np_X9_fail hI.P0 (by decide) rfl (Nat.le_of_ble_eq_true rfl) (Nat.le_of_ble_eq_true rfl) rfl (c9_fail (k := 1) hI.P0 hI.E (by decide) (by decide) ?_)
                refine X_ireturn (tk_X9_move.at 48 rfl) rfl rfl ?_
                have mvo : ∀ x1 y1, mvOk i j n x1 y1 → Stn i n x1 ∧ Stn j n y1 := fun x1 y1 h => by obtain ⟨a, b, c, h1, h2, h3, h4, h5⟩ := h; exact ⟨⟨a, c, h1, h3, h4⟩, ⟨b, c, h2, h3, h5⟩⟩
                have mvp : ∀ x1 y1 a b c, i = nI a → j = nI b → n = nI c → a + c ≤ x1 → b + c ≤ y1 → Stn i n x1 ∧ Stn j n y1 := fun x1 y1 a b c h1 h2 h3 h4 h5 => ⟨⟨a, c, h1, h3, h4⟩, ⟨b, c, h2, h3, h5⟩⟩
                have mvq : ∀ x1 y1, x1 ≤ 40 → y1 ≤ 40 → Stn i n x1 → Stn j n y1 → mvOk i j n x1 y1 := fun x1 y1 k1 k2 h g => by obtain ⟨a, c, h1, h2, h3⟩ := h; obtain ⟨b, c2, g1, g2, g3⟩ := g; have e := nI_j h2 g2 (by omega) (by omega); subst e; exact ⟨a, b, c, h1, g1, h2, h3, g3⟩
                have hz2 : ∀ x, x < 4 → nv (B x) ≤ 40 := fun x hx => (hz x hx).2
                refine p10_move (N := N) (A := A) (B := B) (C := C) hI.M (by rw [su_ne (by omega)]; exact hN) (by rw [su_ne (by omega)]; exact hA) (by rw [su_ne (by omega)]; exact hB) (by rw [su_ne (by omega)]; exact hC) hz (by intros; first | (exfalso; grind [In, nI_eq]) | exact ⟨by grind [In, nI_eq], fin_e hI (Fs.rf hI) (Sq.rf _ _) rfl⟩) (by intros; first | (exfalso; grind [In, nI_eq]) | exact ⟨by grind [In, nI_eq], fin_e hI (Fs.rf hI) (Sq.rf _ _) rfl⟩) (by intros; first | (exfalso; grind [In, nI_eq]) | exact ⟨by grind [In, nI_eq], fin_e hI (Fs.rf hI) (Sq.rf _ _) rfl⟩) (by intros; first | (exfalso; grind [In, nI_eq]) | exact ⟨by grind [In, nI_eq], fin_e hI (Fs.rf hI) (Sq.rf _ _) rfl⟩) (by intros; first | (exfalso; grind [In, nI_eq]) | exact ⟨by grind [In, nI_eq], fin_e hI (Fs.rf hI) (Sq.rf _ _) rfl⟩)
            · refine X_if_eq (tgt := 97) (tk_X9_move.at 39 rfl) (by decide) (fun _ => ?_) (fun h => absurd h (by decide))
              refine X_aload_n (tk_X9_move.at 45 rfl) rfl ?_
              refine X_ldc (tk_X9_move.at 46 rfl) kn_x9_76 ?_
              refine X_cV1i (lv2 := [(0, _), (1, _)]) (tk_X9_move.at 47 rfl) mv_X9_fail lk_x9_77 np_X9_fail hI.P0 (by decide) rfl (Nat.le_of_ble_eq_true rfl) (Nat.le_of_ble_eq_true rfl) rfl (c9_fail (k := 1) hI.P0 hI.E (by decide) (by decide) ?_)
              refine X_ireturn (tk_X9_move.at 48 rfl) rfl rfl ?_
              have mvo : ∀ x1 y1, mvOk i j n x1 y1 → Stn i n x1 ∧ Stn j n y1 := fun x1 y1 h => by obtain ⟨a, b, c, h1, h2, h3, h4, h5⟩ := h; exact ⟨⟨a, c, h1, h3, h4⟩, ⟨b, c, h2, h3, h5⟩⟩
              have mvp : ∀ x1 y1 a b c, i = nI a → j = nI b → n = nI c → a + c ≤ x1 → b + c ≤ y1 → Stn i n x1 ∧ Stn j n y1 := fun x1 y1 a b c h1 h2 h3 h4 h5 => ⟨⟨a, c, h1, h3, h4⟩, ⟨b, c, h2, h3, h5⟩⟩
              have mvq : ∀ x1 y1, x1 ≤ 40 → y1 ≤ 40 → Stn i n x1 → Stn j n y1 → mvOk i j n x1 y1 := fun x1 y1 k1 k2 h g => by obtain ⟨a, c, h1, h2, h3⟩ := h; obtain ⟨b, c2, g1, g2, g3⟩ := g; have e := nI_j h2 g2 (by omega) (by omega); subst e; exact ⟨a, b, c, h1, g1, h2, h3, g3⟩
              have hz2 : ∀ x, x < 4 → nv (B x) ≤ 40 := fun x hx => (hz x hx).2
              refine p10_move (N := N) (A := A) (B := B) (C := C) hI.M (by rw [su_ne (by omega)]; exact hN) (by rw [su_ne (by omega)]; exact hA) (by rw [su_ne (by omega)]; exact hB) (by rw [su_ne (by omega)]; exact hC) hz (by intros; first | (exfalso; grind [In, nI_eq]) | exact ⟨by grind [In, nI_eq], fin_e hI (Fs.rf hI) (Sq.rf _ _) rfl⟩) (by intros; first | (exfalso; grind [In, nI_eq]) | exact ⟨by grind [In, nI_eq], fin_e hI (Fs.rf hI) (Sq.rf _ _) rfl⟩) (by intros; first | (exfalso; grind [In, nI_eq]) | exact ⟨by grind [In, nI_eq], fin_e hI (Fs.rf hI) (Sq.rf _ _) rfl⟩) (by intros; first | (exfalso; grind [In, nI_eq]) | exact ⟨by grind [In, nI_eq], fin_e hI (Fs.rf hI) (Sq.rf _ _) rfl⟩) (by intros; first | (exfalso; grind [In, nI_eq]) | exact ⟨by grind [In, nI_eq], fin_e hI (Fs.rf hI) (Sq.rf _ _) rfl⟩)
          · have hkind : ¬ A x0 = A y0 := by rw [← shx0.2.1, ← shy0.2.1]; exact c5
            refine X_aload_n (tk_X9_move.at 31 rfl) rfl ?_
            refine X_ldc (tk_X9_move.at 32 rfl) kn_x9_156 ?_
            refine X_cV1i (lv2 := [(0, _), (1, _)]) (tk_X9_move.at 33 rfl) mv_X9_fail lk_x9_77 np_X9_fail hI.P0 (by decide) rfl (Nat.le_of_ble_eq_true rfl) (Nat.le_of_ble_eq_true rfl) rfl (c9_fail (k := 5) hI.P0 hI.E (by decide) (by decide) ?_)
            refine X_ireturn (tk_X9_move.at 34 rfl) rfl rfl ?_
            have mvo : ∀ x1 y1, mvOk i j n x1 y1 → Stn i n x1 ∧ Stn j n y1 := fun x1 y1 h => by obtain ⟨a, b, c, h1, h2, h3, h4, h5⟩ := h; exact ⟨⟨a, c, h1, h3, h4⟩, ⟨b, c, h2, h3, h5⟩⟩
            have mvp : ∀ x1 y1 a b c, i = nI a → j = nI b → n = nI c → a + c ≤ x1 → b + c ≤ y1 → Stn i n x1 ∧ Stn j n y1 := fun x1 y1 a b c h1 h2 h3 h4 h5 => ⟨⟨a, c, h1, h3, h4⟩, ⟨b, c, h2, h3, h5⟩⟩
            have mvq : ∀ x1 y1, x1 ≤ 40 → y1 ≤ 40 → Stn i n x1 → Stn j n y1 → mvOk i j n x1 y1 := fun x1 y1 k1 k2 h g => by obtain ⟨a, c, h1, h2, h3⟩ := h; obtain ⟨b, c2, g1, g2, g3⟩ := g; have e := nI_j h2 g2 (by omega) (by omega); subst e; exact ⟨a, b, c, h1, g1, h2, h3, g3⟩
            have hz2 : ∀ x, x < 4 → nv (B x) ≤ 40 := fun x hx => (hz x hx).2
            refine p10_move (N := N) (A := A) (B := B) (C := C) hI.M (by rw [su_ne (by omega)]; exact hN) (by rw [su_ne (by omega)]; exact hA) (by rw [su_ne (by omega)]; exact hB) (by rw [su_ne (by omega)]; exact hC) hz (by intros; first | (exfalso; grind [In, nI_eq]) | exact ⟨by grind [In, nI_eq], fin_e hI (Fs.rf hI) (Sq.rf _ _) rfl⟩) (by intros; first | (exfalso; grind [In, nI_eq]) | exact ⟨by grind [In, nI_eq], fin_e hI (Fs.rf hI) (Sq.rf _ _) rfl⟩) (by intros; first | (exfalso; grind [In, nI_eq]) | exact ⟨by grind [In, nI_eq], fin_e hI (Fs.rf hI) (Sq.rf _ _) rfl⟩) (by intros; first | (exfalso; grind [In, nI_eq]) | exact ⟨by grind [In, nI_eq], fin_e hI (Fs.rf hI) (Sq.rf _ _) rfl⟩) (by intros; first | (exfalso; grind [In, nI_eq]) | exact ⟨by grind [In, nI_eq], fin_e hI (Fs.rf hI) (Sq.rf _ _) rfl⟩)
    · refine X_astoreN (lv' := [(0, _), (1, _), (2, _), (3, _), (4, _), (5, _), (6, _), (7, _)]) (tk_X9_move.at 7 rfl) (by decide) rfl rfl ?_
      refine X_aload (tk_X9_move.at 8 rfl) rfl ?_
      refine X_ifnull (tgt := 24) (tk_X9_move.at 9 rfl) (by decide) ?_
      refine X_aloadN (tk_X9_move.at 10 rfl) rfl ?_
      refine X_ifnonnullN (tgt := 31) (tk_X9_move.at 11 rfl) (by decide) ?_
      refine X_aload_n (tk_X9_move.at 12 rfl) rfl ?_
      refine X_ldc (tk_X9_move.at 13 rfl) kn_x9_76 ?_
      refine X_cV1i (lv2 := [(0, _), (1, _)]) (tk_X9_move.at 14 rfl) mv_X9_fail lk_x9_77 np_X9_fail hI.P0 (by decide) rfl (Nat.le_of_ble_eq_true rfl) (Nat.le_of_ble_eq_true rfl) rfl (c9_fail (k := 1) hI.P0 hI.E (by decide) (by decide) ?_)
      refine X_ireturn (tk_X9_move.at 15 rfl) rfl rfl ?_
      have mvo : ∀ x1 y1, mvOk i j n x1 y1 → Stn i n x1 ∧ Stn j n y1 := fun x1 y1 h => by obtain ⟨a, b, c, h1, h2, h3, h4, h5⟩ := h; exact ⟨⟨a, c, h1, h3, h4⟩, ⟨b, c, h2, h3, h5⟩⟩
      have mvp : ∀ x1 y1 a b c, i = nI a → j = nI b → n = nI c → a + c ≤ x1 → b + c ≤ y1 → Stn i n x1 ∧ Stn j n y1 := fun x1 y1 a b c h1 h2 h3 h4 h5 => ⟨⟨a, c, h1, h3, h4⟩, ⟨b, c, h2, h3, h5⟩⟩
      have mvq : ∀ x1 y1, x1 ≤ 40 → y1 ≤ 40 → Stn i n x1 → Stn j n y1 → mvOk i j n x1 y1 := fun x1 y1 k1 k2 h g => by obtain ⟨a, c, h1, h2, h3⟩ := h; obtain ⟨b, c2, g1, g2, g3⟩ := g; have e := nI_j h2 g2 (by omega) (by omega); subst e; exact ⟨a, b, c, h1, g1, h2, h3, g3⟩
      have hz2 : ∀ x, x < 4 → nv (B x) ≤ 40 := fun x hx => (hz x hx).2
      refine p10_move (N := N) (A := A) (B := B) (C := C) hI.M (by rw [su_ne (by omega)]; exact hN) (by rw [su_ne (by omega)]; exact hA) (by rw [su_ne (by omega)]; exact hB) (by rw [su_ne (by omega)]; exact hC) hz (by intros; first | (exfalso; grind [In, nI_eq]) | exact ⟨by grind [In, nI_eq], fin_e hI (Fs.rf hI) (Sq.rf _ _) rfl⟩) (by intros; first | (exfalso; grind [In, nI_eq]) | exact ⟨by grind [In, nI_eq], fin_e hI (Fs.rf hI) (Sq.rf _ _) rfl⟩) (by intros; first | (exfalso; grind [In, nI_eq]) | exact ⟨by grind [In, nI_eq], fin_e hI (Fs.rf hI) (Sq.rf _ _) rfl⟩) (by intros; first | (exfalso; grind [In, nI_eq]) | exact ⟨by grind [In, nI_eq], fin_e hI (Fs.rf hI) (Sq.rf _ _) rfl⟩) (by intros; first | (exfalso; grind [In, nI_eq]) | exact ⟨by grind [In, nI_eq], fin_e hI (Fs.rf hI) (Sq.rf _ _) rfl⟩)
  · refine X_astoreN (lv' := [(0, _), (1, _), (2, _), (3, _), (4, _), (5, _), (6, _)]) (tk_X9_move.at 3 rfl) (by decide) rfl rfl ?_
    refine X_aload_n (tk_X9_move.at 4 rfl) rfl ?_
    refine X_iload_n (tk_X9_move.at 5 rfl) rfl ?_
    refine X_cV1r (lv2 := [(0, _), (1, _)]) (tk_X9_move.at 6 rfl) mv_X9_sheetOf lk_x9_91 np_X9_sheetOf hI.P0 (by decide) rfl (Nat.le_of_ble_eq_true rfl) (Nat.le_of_ble_eq_true rfl) rfl (c9_sheetOf hI (fun y0 hy0 ey0 => ?_) (fun hy0 => ?_))
    · have shy0 := hsh y0 hy0
      refine X_astore (lv' := [(0, _), (1, _), (2, _), (3, _), (4, _), (5, _), (6, _), (7, _)]) (tk_X9_move.at 7 rfl) (by decide) rfl rfl ?_
      refine X_aloadN (tk_X9_move.at 8 rfl) rfl ?_
      refine X_ifnullN (tgt := 24) (tk_X9_move.at 9 rfl) (by decide) ?_
      refine X_aload_n (tk_X9_move.at 12 rfl) rfl ?_
      refine X_ldc (tk_X9_move.at 13 rfl) kn_x9_76 ?_
      refine X_cV1i (lv2 := [(0, _), (1, _)]) (tk_X9_move.at 14 rfl) mv_X9_fail lk_x9_77 np_X9_fail hI.P0 (by decide) rfl (Nat.le_of_ble_eq_true rfl) (Nat.le_of_ble_eq_true rfl) rfl (c9_fail (k := 1) hI.P0 hI.E (by decide) (by decide) ?_)
      refine X_ireturn (tk_X9_move.at 15 rfl) rfl rfl ?_
      have mvo : ∀ x1 y1, mvOk i j n x1 y1 → Stn i n x1 ∧ Stn j n y1 := fun x1 y1 h => by obtain ⟨a, b, c, h1, h2, h3, h4, h5⟩ := h; exact ⟨⟨a, c, h1, h3, h4⟩, ⟨b, c, h2, h3, h5⟩⟩
      have mvp : ∀ x1 y1 a b c, i = nI a → j = nI b → n = nI c → a + c ≤ x1 → b + c ≤ y1 → Stn i n x1 ∧ Stn j n y1 := fun x1 y1 a b c h1 h2 h3 h4 h5 => ⟨⟨a, c, h1, h3, h4⟩, ⟨b, c, h2, h3, h5⟩⟩
      have mvq : ∀ x1 y1, x1 ≤ 40 → y1 ≤ 40 → Stn i n x1 → Stn j n y1 → mvOk i j n x1 y1 := fun x1 y1 k1 k2 h g => by obtain ⟨a, c, h1, h2, h3⟩ := h; obtain ⟨b, c2, g1, g2, g3⟩ := g; have e := nI_j h2 g2 (by omega) (by omega); subst e; exact ⟨a, b, c, h1, g1, h2, h3, g3⟩
      have hz2 : ∀ x, x < 4 → nv (B x) ≤ 40 := fun x hx => (hz x hx).2
      refine p10_move (N := N) (A := A) (B := B) (C := C) hI.M (by rw [su_ne (by omega)]; exact hN) (by rw [su_ne (by omega)]; exact hA) (by rw [su_ne (by omega)]; exact hB) (by rw [su_ne (by omega)]; exact hC) hz (by intros; first | (exfalso; grind [In, nI_eq]) | exact ⟨by grind [In, nI_eq], fin_e hI (Fs.rf hI) (Sq.rf _ _) rfl⟩) (by intros; first | (exfalso; grind [In, nI_eq]) | exact ⟨by grind [In, nI_eq], fin_e hI (Fs.rf hI) (Sq.rf _ _) rfl⟩) (by intros; first | (exfalso; grind [In, nI_eq]) | exact ⟨by grind [In, nI_eq], fin_e hI (Fs.rf hI) (Sq.rf _ _) rfl⟩) (by intros; first | (exfalso; grind [In, nI_eq]) | exact ⟨by grind [In, nI_eq], fin_e hI (Fs.rf hI) (Sq.rf _ _) rfl⟩) (by intros; first | (exfalso; grind [In, nI_eq]) | exact ⟨by grind [In, nI_eq], fin_e hI (Fs.rf hI) (Sq.rf _ _) rfl⟩)
    · refine X_astoreN (lv' := [(0, _), (1, _), (2, _), (3, _), (4, _), (5, _), (6, _), (7, _)]) (tk_X9_move.at 7 rfl) (by decide) rfl rfl ?_
      refine X_aloadN (tk_X9_move.at 8 rfl) rfl ?_
      refine X_ifnullN (tgt := 24) (tk_X9_move.at 9 rfl) (by decide) ?_
      refine X_aload_n (tk_X9_move.at 12 rfl) rfl ?_
      refine X_ldc (tk_X9_move.at 13 rfl) kn_x9_76 ?_
      refine X_cV1i (lv2 := [(0, _), (1, _)]) (tk_X9_move.at 14 rfl) mv_X9_fail lk_x9_77 np_X9_fail hI.P0 (by decide) rfl (Nat.le_of_ble_eq_true rfl) (Nat.le_of_ble_eq_true rfl) rfl (c9_fail (k := 1) hI.P0 hI.E (by decide) (by decide) ?_)
      refine X_ireturn (tk_X9_move.at 15 rfl) rfl rfl ?_
      have mvo : ∀ x1 y1, mvOk i j n x1 y1 → Stn i n x1 ∧ Stn j n y1 := fun x1 y1 h => by obtain ⟨a, b, c, h1, h2, h3, h4, h5⟩ := h; exact ⟨⟨a, c, h1, h3, h4⟩, ⟨b, c, h2, h3, h5⟩⟩
      have mvp : ∀ x1 y1 a b c, i = nI a → j = nI b → n = nI c → a + c ≤ x1 → b + c ≤ y1 → Stn i n x1 ∧ Stn j n y1 := fun x1 y1 a b c h1 h2 h3 h4 h5 => ⟨⟨a, c, h1, h3, h4⟩, ⟨b, c, h2, h3, h5⟩⟩
      have mvq : ∀ x1 y1, x1 ≤ 40 → y1 ≤ 40 → Stn i n x1 → Stn j n y1 → mvOk i j n x1 y1 := fun x1 y1 k1 k2 h g => by obtain ⟨a, c, h1, h2, h3⟩ := h; obtain ⟨b, c2, g1, g2, g3⟩ := g; have e := nI_j h2 g2 (by omega) (by omega); subst e; exact ⟨a, b, c, h1, g1, h2, h3, g3⟩
      have hz2 : ∀ x, x < 4 → nv (B x) ≤ 40 := fun x hx => (hz x hx).2
      refine p10_move (N := N) (A := A) (B := B) (C := C) hI.M (by rw [su_ne (by omega)]; exact hN) (by rw [su_ne (by omega)]; exact hA) (by rw [su_ne (by omega)]; exact hB) (by rw [su_ne (by omega)]; exact hC) hz (by intros; first | (exfalso; grind [In, nI_eq]) | exact ⟨by grind [In, nI_eq], fin_e hI (Fs.rf hI) (Sq.rf _ _) rfl⟩) (by intros; first | (exfalso; grind [In, nI_eq]) | exact ⟨by grind [In, nI_eq], fin_e hI (Fs.rf hI) (Sq.rf _ _) rfl⟩) (by intros; first | (exfalso; grind [In, nI_eq]) | exact ⟨by grind [In, nI_eq], fin_e hI (Fs.rf hI) (Sq.rf _ _) rfl⟩) (by intros; first | (exfalso; grind [In, nI_eq]) | exact ⟨by grind [In, nI_eq], fin_e hI (Fs.rf hI) (Sq.rf _ _) rfl⟩) (by intros; first | (exfalso; grind [In, nI_eq]) | exact ⟨by grind [In, nI_eq], fin_e hI (Fs.rf hI) (Sq.rf _ _) rfl⟩)
set_option maxHeartbeats 1000000 in
theorem t_sheet {G : Gl} {d : Nat} {S : Sh} {μ : Mu} {P o t q im : Nat} {kp : Option Nat} {s b n : Int32} (hI : Inv G S P o kp t q im μ) : X G mi_X9_sheet (d + 60) 0 0 [(0, .ref P), (1, .int s), (2, .int b), (3, .int n)] [] S μ (qi (fun an S1 μ1 => X G mi_X10_sheet (d + 60) 0 0 [(0, .ref o), (1, .int s), (2, .int b), (3, .int n)] [] S1 μ1 (qi (Eq2 G P o im an)))) := by
  obtain ⟨N, hN⟩ : ∃ N, μ (o + 1) = N := ⟨_, rfl⟩
  have hw : WF N := hN ▸ hI.wf
  have hr : repD μ (P + 1) N := hN ▸ hI.rep
  have lo := hI.lo
  have b1 := hw.n1.2
  have b2 := hw.n2.2
  have b3 := hw.n3.2
  have b4 := hw.n4.2
  have b5 := hw.n5.2
  have b6 := hw.n6.2
  have hun : ∀ r i r' i' p, On N r i p → On N r' i' p → r = r' ∧ i = i' := fun _ _ _ _ _ h1 h2 => hw.un h1 h2
  have hlu : ∀ k k', k < nv (N 4) → k' < nv (N 4) → N (134 + k) = N (134 + k') → k = k' := fun _ _ h1 h2 e => hw.lu h1 h2 e
  have hnz : nI 0 = 0 := rfl
  have hli : ∀ k, k < nv (N 4) → N (134 + k) = nI (nv (N (134 + k))) ∧ nv (N (134 + k)) < nv (N 3) := fun k h => hw.li h
  obtain ⟨A, hA⟩ : ∃ N, μ (o + 14) = N := ⟨_, rfl⟩
  obtain ⟨B, hB⟩ : ∃ N, μ (o + 15) = N := ⟨_, rfl⟩
  obtain ⟨C, hC⟩ : ∃ N, μ (o + 16) = N := ⟨_, rfl⟩
  have hsh : ∀ s, s < 4 → okB (A s) ∧ μ (P + 90 + 2 * s) 1 = A s ∧ okN (B s) 40 ∧ μ (P + 90 + 2 * s) 2 = B s ∧ ∀ i, i < 40 → μ (P + 90 + 2 * s + 1) i = C (40 * s + i) := fun s hs => by have z := hI.sheet hs; rw [hA, hB, hC] at z; exact z
  have hz : ∀ x, x < 4 → okN (B x) 40 := fun x hx => (hsh x hx).2.2.1
  have rg3 : ∀ f, f < 4 → 0 ≤ nI f ∧ nI f ≤ 3 := fun f h => rng rfl (show f ≤ 3 by omega) (by decide)
  refine X_aload_n (tk_X9_sheet.at 0 rfl) rfl ?_
  refine X_iload_n (tk_X9_sheet.at 1 rfl) rfl ?_
  refine X_cV1r (lv2 := [(0, _), (1, _)]) (tk_X9_sheet.at 2 rfl) mv_X9_sheetOf lk_x9_91 np_X9_sheetOf hI.P0 (by decide) rfl (Nat.le_of_ble_eq_true rfl) (Nat.le_of_ble_eq_true rfl) rfl (c9_sheetOf hI (fun j hj ej => ?_) (fun hj => ?_))
  · have shj := hsh j hj
    refine X_astore (lv' := [(0, _), (1, _), (2, _), (3, _), (4, _)]) (tk_X9_sheet.at 3 rfl) (by decide) rfl rfl ?_
    refine X_aload (tk_X9_sheet.at 4 rfl) rfl ?_
    refine X_ifnull (tgt := 34) (tk_X9_sheet.at 5 rfl) (by decide) ?_
    refine X_iload_n (tk_X9_sheet.at 6 rfl) rfl ?_
    refine X_if_eq (tgt := 41) (tk_X9_sheet.at 7 rfl) (by decide) (fun c1 => ?_) (fun c1 => ?_)
    · refine X_iload_n (tk_X9_sheet.at 21 rfl) rfl ?_
      refine X_if_eq (tgt := 56) (tk_X9_sheet.at 22 rfl) (by decide) (fun c2 => ?_) (fun c2 => ?_)
      · refine X_iload_n (tk_X9_sheet.at 29 rfl) rfl ?_
        refine X_if_eq (tgt := 73) (tk_X9_sheet.at 30 rfl) (by decide) (fun c3 => ?_) (fun c3 => ?_)
        · refine X_aload (tk_X9_sheet.at 38 rfl) rfl ?_
          refine X_iload_n (tk_X9_sheet.at 39 rfl) rfl ?_
          refine X_iload_n (tk_X9_sheet.at 40 rfl) rfl ?_
          refine X_if_ne (tgt := 84) (tk_X9_sheet.at 41 rfl) (by decide) (fun c4 => ?_) (fun c4 => ?_)
          · refine X_iload_n (tk_X9_sheet.at 44 rfl) rfl ?_
            have hb0 : ¬ b = 0 := by first | assumption | grind
            have hn0 : 0 ≤ n ∧ n ≤ 40 := by grind
            obtain ⟨m, em, hm⟩ : ∃ f, n = nI f ∧ f ≤ 40 := ⟨nv n, (le_lits (a := 0) (b := 40) (by decide) hn0.1 hn0.2 (by decide)).1, (le_lits (a := 0) (b := 40) (by decide) hn0.1 hn0.2 (by decide)).2.2⟩
            refine X_cV2v (lv2 := [(0, _), (1, _), (2, _)]) (tk_X9_sheet.at 45 rfl) mv_X7_become lk_x9_303 np_X7_become (hI.hs (i := j) (by omega)).1 (by decide) rfl (Nat.le_of_ble_eq_true rfl) (Nat.le_of_ble_eq_true rfl) rfl (c7_become (m := m) (hI.hs (i := j) (by omega)) em (by omega) (fun B0 hB0 => ?_))
            refine X_iconst (tk_X9_sheet.at 46 rfl) ci_1 ?_
            refine X_ireturn (tk_X9_sheet.at 47 rfl) rfl rfl ?_
            generalize eν : (Mx (su (su μ (P + 90 + 2 * j) 1 b) (P + 90 + 2 * j) 2 (nI m)) (P + 90 + 2 * j + 1) B0) = ν
            have fν : ∀ d1, d1 ≠ P + 90 + 2 * j → d1 ≠ P + 90 + 2 * j + 1 → ν d1 = μ d1 := fun d1 h1 h2 => by rw [← eν, Mx_ne h2, su_ne h1, su_ne h1]
            have v1 : ν (P + 90 + 2 * j) 1 = b := by rw [← eν, Mx_ne (by omega), su_same, upd_ne _ _ (by decide), su_same, upd_at]
            have v2 : ν (P + 90 + 2 * j) 2 = nI m := by rw [← eν, Mx_ne (by omega), su_same, upd_at]
            have cν : ν (P + 90 + 2 * j + 1) = B0 := by rw [← eν]; exact Mx_same
            have hok : okB b := by unfold okB; grind
            have hnn : (if b = 0 then 0 else n) = nI m := by rw [if_neg hb0]; exact em
            refine p10_sheet (N := N) (A := A) (B := B) (C := C) hI.M (by rw [fν _ (by omega) (by omega)]; exact hN) (by rw [fν _ (by omega) (by omega)]; exact hA) (by rw [fν _ (by omega) (by omega)]; exact hB) (by rw [fν _ (by omega) (by omega)]; exact hC) (fun g => absurd ⟨⟨j, hj, ej⟩, hok⟩ g) (by intros; exfalso; grind) (by intros; exfalso; grind) (fun x hx ex _ _ => ⟨rfl, ?_⟩)
            have q1 := nI_j ex ej (by omega) (by omega)
            subst q1
            rw [hnn]
            refine fin_h hI (fun d1 h1 h2 => by rw [Mx_ne (by omega), su_ne (by omega), su_ne (by omega), fν _ (by omega) (by omega)]) (fun s1 hs1 => ?_)
            have z := hsh s1 hs1
            rw [Mx_ne (show o + 14 ≠ o + 16 by omega), su_ne (show o + 14 ≠ o + 15 by omega), su_same, Mx_ne (show o + 15 ≠ o + 16 by omega), su_same, su_ne (show o + 15 ≠ o + 14 by omega), Mx_same, Mx_ne (show P + 90 + 2 * s1 ≠ o + 16 by omega), su_ne (show P + 90 + 2 * s1 ≠ o + 15 by omega), su_ne (show P + 90 + 2 * s1 ≠ o + 14 by omega), Mx_ne (show P + 90 + 2 * s1 + 1 ≠ o + 16 by omega), su_ne (show P + 90 + 2 * s1 + 1 ≠ o + 15 by omega), su_ne (show P + 90 + 2 * s1 + 1 ≠ o + 14 by omega), fν (o + 14) (by omega) (by omega), fν (o + 15) (by omega) (by omega), hA, hB]
            by_cases c9 : s1 = x
            · subst c9
              rw [upd_at, upd_at, cν, v1, v2]
              refine ⟨hok, rfl, okN_of (by omega) (by decide), rfl, fun i1 hi1 => ?_⟩
              rw [hB0 i1 hi1]; unfold clrN; rw [if_pos (by omega)]
            · rw [upd_ne _ _ c9, upd_ne _ _ c9, fν _ (by omega) (by omega), fν _ (by omega) (by omega)]
              refine ⟨z.1, z.2.1, z.2.2.1, z.2.2.2.1, fun i1 hi1 => ?_⟩
              unfold clrN; rw [if_neg (by omega)]; exact z.2.2.2.2 i1 hi1
          · refine X_iconst (tk_X9_sheet.at 42 rfl) ci_0 ?_
            refine X_goto (tgt := 85) (tk_X9_sheet.at 43 rfl) (by decide) ?_
            refine X_cV2v (lv2 := [(0, _), (1, _), (2, _)]) (tk_X9_sheet.at 45 rfl) mv_X7_become lk_x9_303 np_X7_become (hI.hs (i := j) (by omega)).1 (by decide) rfl (Nat.le_of_ble_eq_true rfl) (Nat.le_of_ble_eq_true rfl) rfl (c7_become (m := 0) (hI.hs (i := j) (by omega)) rfl (by omega) (fun B0 hB0 => ?_))
            refine X_iconst (tk_X9_sheet.at 46 rfl) ci_1 ?_
            refine X_ireturn (tk_X9_sheet.at 47 rfl) rfl rfl ?_
            generalize eν : (Mx (su (su μ (P + 90 + 2 * j) 1 b) (P + 90 + 2 * j) 2 (nI 0)) (P + 90 + 2 * j + 1) B0) = ν
            have fν : ∀ d1, d1 ≠ P + 90 + 2 * j → d1 ≠ P + 90 + 2 * j + 1 → ν d1 = μ d1 := fun d1 h1 h2 => by rw [← eν, Mx_ne h2, su_ne h1, su_ne h1]
            have v1 : ν (P + 90 + 2 * j) 1 = b := by rw [← eν, Mx_ne (by omega), su_same, upd_ne _ _ (by decide), su_same, upd_at]
            have v2 : ν (P + 90 + 2 * j) 2 = nI 0 := by rw [← eν, Mx_ne (by omega), su_same, upd_at]
            have cν : ν (P + 90 + 2 * j + 1) = B0 := by rw [← eν]; exact Mx_same
            have hok : okB b := by unfold okB; grind
            have hnn : (if b = 0 then 0 else n) = nI 0 := by rw [if_pos (by first | assumption | grind)]; rfl
            refine p10_sheet (N := N) (A := A) (B := B) (C := C) hI.M (by rw [fν _ (by omega) (by omega)]; exact hN) (by rw [fν _ (by omega) (by omega)]; exact hA) (by rw [fν _ (by omega) (by omega)]; exact hB) (by rw [fν _ (by omega) (by omega)]; exact hC) (fun g => absurd ⟨⟨j, hj, ej⟩, hok⟩ g) (by intros; exfalso; grind) (by intros; exfalso; grind) (fun x hx ex _ _ => ⟨rfl, ?_⟩)
            have q1 := nI_j ex ej (by omega) (by omega)
            subst q1
            rw [hnn]
            refine fin_h hI (fun d1 h1 h2 => by rw [Mx_ne (by omega), su_ne (by omega), su_ne (by omega), fν _ (by omega) (by omega)]) (fun s1 hs1 => ?_)
            have z := hsh s1 hs1
            rw [Mx_ne (show o + 14 ≠ o + 16 by omega), su_ne (show o + 14 ≠ o + 15 by omega), su_same, Mx_ne (show o + 15 ≠ o + 16 by omega), su_same, su_ne (show o + 15 ≠ o + 14 by omega), Mx_same, Mx_ne (show P + 90 + 2 * s1 ≠ o + 16 by omega), su_ne (show P + 90 + 2 * s1 ≠ o + 15 by omega), su_ne (show P + 90 + 2 * s1 ≠ o + 14 by omega), Mx_ne (show P + 90 + 2 * s1 + 1 ≠ o + 16 by omega), su_ne (show P + 90 + 2 * s1 + 1 ≠ o + 15 by omega), su_ne (show P + 90 + 2 * s1 + 1 ≠ o + 14 by omega), fν (o + 14) (by omega) (by omega), fν (o + 15) (by omega) (by omega), hA, hB]
            by_cases c9 : s1 = x
            · subst c9
              rw [upd_at, upd_at, cν, v1, v2]
              refine ⟨hok, rfl, okN_of (by omega) (by decide), rfl, fun i1 hi1 => ?_⟩
              rw [hB0 i1 hi1]; unfold clrN; rw [if_pos (by omega)]
            · rw [upd_ne _ _ c9, upd_ne _ _ c9, fν _ (by omega) (by omega), fν _ (by omega) (by omega)]
              refine ⟨z.1, z.2.1, z.2.2.1, z.2.2.2.1, fun i1 hi1 => ?_⟩
              unfold clrN; rw [if_neg (by omega)]; exact z.2.2.2.2 i1 hi1
        · refine X_iload_n (tk_X9_sheet.at 31 rfl) rfl ?_
          refine X_bipush (tk_X9_sheet.at 32 rfl) cb_40 ?_
          refine X_icmp_le (tgt := 73) (tk_X9_sheet.at 33 rfl) (by decide) (fun c5 => ?_) (fun c5 => ?_)
          · refine X_aload (tk_X9_sheet.at 38 rfl) rfl ?_
            refine X_iload_n (tk_X9_sheet.at 39 rfl) rfl ?_
            refine X_iload_n (tk_X9_sheet.at 40 rfl) rfl ?_
            refine X_if_ne (tgt := 84) (tk_X9_sheet.at 41 rfl) (by decide) (fun c6 => ?_) (fun c6 => ?_)
            · refine X_iload_n (tk_X9_sheet.at 44 rfl) rfl ?_
              have hb0 : ¬ b = 0 := by first | assumption | grind
              have hn0 : 0 ≤ n ∧ n ≤ 40 := by grind
              obtain ⟨m, em, hm⟩ : ∃ f, n = nI f ∧ f ≤ 40 := ⟨nv n, (le_lits (a := 0) (b := 40) (by decide) hn0.1 hn0.2 (by decide)).1, (le_lits (a := 0) (b := 40) (by decide) hn0.1 hn0.2 (by decide)).2.2⟩
              refine X_cV2v (lv2 := [(0, _), (1, _), (2, _)]) (tk_X9_sheet.at 45 rfl) mv_X7_become lk_x9_303 np_X7_become (hI.hs (i := j) (by omega)).1 (by decide) rfl (Nat.le_of_ble_eq_true rfl) (Nat.le_of_ble_eq_true rfl) rfl (c7_become (m := m) (hI.hs (i := j) (by omega)) em (by omega) (fun B0 hB0 => ?_))
              refine X_iconst (tk_X9_sheet.at 46 rfl) ci_1 ?_
              refine X_ireturn (tk_X9_sheet.at 47 rfl) rfl rfl ?_
              generalize eν : (Mx (su (su μ (P + 90 + 2 * j) 1 b) (P + 90 + 2 * j) 2 (nI m)) (P + 90 + 2 * j + 1) B0) = ν
              have fν : ∀ d1, d1 ≠ P + 90 + 2 * j → d1 ≠ P + 90 + 2 * j + 1 → ν d1 = μ d1 := fun d1 h1 h2 => by rw [← eν, Mx_ne h2, su_ne h1, su_ne h1]
              have v1 : ν (P + 90 + 2 * j) 1 = b := by rw [← eν, Mx_ne (by omega), su_same, upd_ne _ _ (by decide), su_same, upd_at]
              have v2 : ν (P + 90 + 2 * j) 2 = nI m := by rw [← eν, Mx_ne (by omega), su_same, upd_at]
              have cν : ν (P + 90 + 2 * j + 1) = B0 := by rw [← eν]; exact Mx_same
              have hok : okB b := by unfold okB; grind
              have hnn : (if b = 0 then 0 else n) = nI m := by rw [if_neg hb0]; exact em
              refine p10_sheet (N := N) (A := A) (B := B) (C := C) hI.M (by rw [fν _ (by omega) (by omega)]; exact hN) (by rw [fν _ (by omega) (by omega)]; exact hA) (by rw [fν _ (by omega) (by omega)]; exact hB) (by rw [fν _ (by omega) (by omega)]; exact hC) (fun g => absurd ⟨⟨j, hj, ej⟩, hok⟩ g) (by intros; exfalso; grind) (by intros; exfalso; grind) (fun x hx ex _ _ => ⟨rfl, ?_⟩)
              have q1 := nI_j ex ej (by omega) (by omega)
              subst q1
              rw [hnn]
              refine fin_h hI (fun d1 h1 h2 => by rw [Mx_ne (by omega), su_ne (by omega), su_ne (by omega), fν _ (by omega) (by omega)]) (fun s1 hs1 => ?_)
              have z := hsh s1 hs1
              rw [Mx_ne (show o + 14 ≠ o + 16 by omega), su_ne (show o + 14 ≠ o + 15 by omega), su_same, Mx_ne (show o + 15 ≠ o + 16 by omega), su_same, su_ne (show o + 15 ≠ o + 14 by omega), Mx_same, Mx_ne (show P + 90 + 2 * s1 ≠ o + 16 by omega), su_ne (show P + 90 + 2 * s1 ≠ o + 15 by omega), su_ne (show P + 90 + 2 * s1 ≠ o + 14 by omega), Mx_ne (show P + 90 + 2 * s1 + 1 ≠ o + 16 by omega), su_ne (show P + 90 + 2 * s1 + 1 ≠ o + 15 by omega), su_ne (show P + 90 + 2 * s1 + 1 ≠ o + 14 by omega), fν (o + 14) (by omega) (by omega), fν (o + 15) (by omega) (by omega), hA, hB]
              by_cases c9 : s1 = x
              · subst c9
                rw [upd_at, upd_at, cν, v1, v2]
                refine ⟨hok, rfl, okN_of (by omega) (by decide), rfl, fun i1 hi1 => ?_⟩
                rw [hB0 i1 hi1]; unfold clrN; rw [if_pos (by omega)]
              · rw [upd_ne _ _ c9, upd_ne _ _ c9, fν _ (by omega) (by omega), fν _ (by omega) (by omega)]
                refine ⟨z.1, z.2.1, z.2.2.1, z.2.2.2.1, fun i1 hi1 => ?_⟩
                unfold clrN; rw [if_neg (by omega)]; exact z.2.2.2.2 i1 hi1
            · refine X_iconst (tk_X9_sheet.at 42 rfl) ci_0 ?_
              refine X_goto (tgt := 85) (tk_X9_sheet.at 43 rfl) (by decide) ?_
              refine X_cV2v (lv2 := [(0, _), (1, _), (2, _)]) (tk_X9_sheet.at 45 rfl) mv_X7_become lk_x9_303 np_X7_become (hI.hs (i := j) (by omega)).1 (by decide) rfl (Nat.le_of_ble_eq_true rfl) (Nat.le_of_ble_eq_true rfl) rfl (c7_become (m := 0) (hI.hs (i := j) (by omega)) rfl (by omega) (fun B0 hB0 => ?_))
              refine X_iconst (tk_X9_sheet.at 46 rfl) ci_1 ?_
              refine X_ireturn (tk_X9_sheet.at 47 rfl) rfl rfl ?_
              generalize eν : (Mx (su (su μ (P + 90 + 2 * j) 1 b) (P + 90 + 2 * j) 2 (nI 0)) (P + 90 + 2 * j + 1) B0) = ν
              have fν : ∀ d1, d1 ≠ P + 90 + 2 * j → d1 ≠ P + 90 + 2 * j + 1 → ν d1 = μ d1 := fun d1 h1 h2 => by rw [← eν, Mx_ne h2, su_ne h1, su_ne h1]
              have v1 : ν (P + 90 + 2 * j) 1 = b := by rw [← eν, Mx_ne (by omega), su_same, upd_ne _ _ (by decide), su_same, upd_at]
              have v2 : ν (P + 90 + 2 * j) 2 = nI 0 := by rw [← eν, Mx_ne (by omega), su_same, upd_at]
              have cν : ν (P + 90 + 2 * j + 1) = B0 := by rw [← eν]; exact Mx_same
              have hok : okB b := by unfold okB; grind
              have hnn : (if b = 0 then 0 else n) = nI 0 := by rw [if_pos (by first | assumption | grind)]; rfl
              refine p10_sheet (N := N) (A := A) (B := B) (C := C) hI.M (by rw [fν _ (by omega) (by omega)]; exact hN) (by rw [fν _ (by omega) (by omega)]; exact hA) (by rw [fν _ (by omega) (by omega)]; exact hB) (by rw [fν _ (by omega) (by omega)]; exact hC) (fun g => absurd ⟨⟨j, hj, ej⟩, hok⟩ g) (by intros; exfalso; grind) (by intros; exfalso; grind) (fun x hx ex _ _ => ⟨rfl, ?_⟩)
              have q1 := nI_j ex ej (by omega) (by omega)
              subst q1
              rw [hnn]
              refine fin_h hI (fun d1 h1 h2 => by rw [Mx_ne (by omega), su_ne (by omega), su_ne (by omega), fν _ (by omega) (by omega)]) (fun s1 hs1 => ?_)
              have z := hsh s1 hs1
              rw [Mx_ne (show o + 14 ≠ o + 16 by omega), su_ne (show o + 14 ≠ o + 15 by omega), su_same, Mx_ne (show o + 15 ≠ o + 16 by omega), su_same, su_ne (show o + 15 ≠ o + 14 by omega), Mx_same, Mx_ne (show P + 90 + 2 * s1 ≠ o + 16 by omega), su_ne (show P + 90 + 2 * s1 ≠ o + 15 by omega), su_ne (show P + 90 + 2 * s1 ≠ o + 14 by omega), Mx_ne (show P + 90 + 2 * s1 + 1 ≠ o + 16 by omega), su_ne (show P + 90 + 2 * s1 + 1 ≠ o + 15 by omega), su_ne (show P + 90 + 2 * s1 + 1 ≠ o + 14 by omega), fν (o + 14) (by omega) (by omega), fν (o + 15) (by omega) (by omega), hA, hB]
              by_cases c9 : s1 = x
              · subst c9
                rw [upd_at, upd_at, cν, v1, v2]
                refine ⟨hok, rfl, okN_of (by omega) (by decide), rfl, fun i1 hi1 => ?_⟩
                rw [hB0 i1 hi1]; unfold clrN; rw [if_pos (by omega)]
              · rw [upd_ne _ _ c9, upd_ne _ _ c9, fν _ (by omega) (by omega), fν _ (by omega) (by omega)]
                refine ⟨z.1, z.2.1, z.2.2.1, z.2.2.2.1, fun i1 hi1 => ?_⟩
                unfold clrN; rw [if_neg (by omega)]; exact z.2.2.2.2 i1 hi1
          · refine X_aload_n (tk_X9_sheet.at 34 rfl) rfl ?_
            refine X_ldc (tk_X9_sheet.at 35 rfl) kn_x9_76 ?_
            refine X_cV1i (lv2 := [(0, _), (1, _)]) (tk_X9_sheet.at 36 rfl) mv_X9_fail lk_x9_77 np_X9_fail hI.P0 (by decide) rfl (Nat.le_of_ble_eq_true rfl) (Nat.le_of_ble_eq_true rfl) rfl (c9_fail (k := 1) hI.P0 hI.E (by decide) (by decide) ?_)
            refine X_ireturn (tk_X9_sheet.at 37 rfl) rfl rfl ?_
            refine p10_sheet (N := N) (A := A) (B := B) (C := C) hI.M (by rw [su_ne (by omega)]; exact hN) (by rw [su_ne (by omega)]; exact hA) (by rw [su_ne (by omega)]; exact hB) (by rw [su_ne (by omega)]; exact hC) (by intros; first | (exfalso; grind [In, nI_eq, okB]) | exact ⟨by grind [In, nI_eq, okB], fin_e hI (Fs.rf hI) (Sq.rf _ _) rfl⟩) (by intros; first | (exfalso; grind [In, nI_eq, okB]) | exact ⟨by grind [In, nI_eq, okB], fin_e hI (Fs.rf hI) (Sq.rf _ _) rfl⟩) (by intros; first | (exfalso; grind [In, nI_eq, okB]) | exact ⟨by grind [In, nI_eq, okB], fin_e hI (Fs.rf hI) (Sq.rf _ _) rfl⟩) (by intros; first | (exfalso; grind [In, nI_eq, okB]) | exact ⟨by grind [In, nI_eq, okB], fin_e hI (Fs.rf hI) (Sq.rf _ _) rfl⟩)
      · refine X_iload_n (tk_X9_sheet.at 23 rfl) rfl ?_
        refine X_if_ge (tgt := 56) (tk_X9_sheet.at 24 rfl) (by decide) (fun c7 => ?_) (fun c7 => ?_)
        · refine X_iload_n (tk_X9_sheet.at 29 rfl) rfl ?_
          refine X_if_eq (tgt := 73) (tk_X9_sheet.at 30 rfl) (by decide) (fun c8 => ?_) (fun c8 => ?_)
          · refine X_aload (tk_X9_sheet.at 38 rfl) rfl ?_
            refine X_iload_n (tk_X9_sheet.at 39 rfl) rfl ?_
            refine X_iload_n (tk_X9_sheet.at 40 rfl) rfl ?_
            refine X_if_ne (tgt := 84) (tk_X9_sheet.at 41 rfl) (by decide) (fun c9 => ?_) (fun c9 => ?_)
            · refine X_iload_n (tk_X9_sheet.at 44 rfl) rfl ?_
              have hb0 : ¬ b = 0 := by first | assumption | grind
              have hn0 : 0 ≤ n ∧ n ≤ 40 := by grind
              obtain ⟨m, em, hm⟩ : ∃ f, n = nI f ∧ f ≤ 40 := ⟨nv n, (le_lits (a := 0) (b := 40) (by decide) hn0.1 hn0.2 (by decide)).1, (le_lits (a := 0) (b := 40) (by decide) hn0.1 hn0.2 (by decide)).2.2⟩
              refine X_cV2v (lv2 := [(0, _), (1, _), (2, _)]) (tk_X9_sheet.at 45 rfl) mv_X7_become lk_x9_303 np_X7_become (hI.hs (i := j) (by omega)).1 (by decide) rfl (Nat.le_of_ble_eq_true rfl) (Nat.le_of_ble_eq_true rfl) rfl (c7_become (m := m) (hI.hs (i := j) (by omega)) em (by omega) (fun B0 hB0 => ?_))
              refine X_iconst (tk_X9_sheet.at 46 rfl) ci_1 ?_
              refine X_ireturn (tk_X9_sheet.at 47 rfl) rfl rfl ?_
              generalize eν : (Mx (su (su μ (P + 90 + 2 * j) 1 b) (P + 90 + 2 * j) 2 (nI m)) (P + 90 + 2 * j + 1) B0) = ν
              have fν : ∀ d1, d1 ≠ P + 90 + 2 * j → d1 ≠ P + 90 + 2 * j + 1 → ν d1 = μ d1 := fun d1 h1 h2 => by rw [← eν, Mx_ne h2, su_ne h1, su_ne h1]
              have v1 : ν (P + 90 + 2 * j) 1 = b := by rw [← eν, Mx_ne (by omega), su_same, upd_ne _ _ (by decide), su_same, upd_at]
              have v2 : ν (P + 90 + 2 * j) 2 = nI m := by rw [← eν, Mx_ne (by omega), su_same, upd_at]
              have cν : ν (P + 90 + 2 * j + 1) = B0 := by rw [← eν]; exact Mx_same
              have hok : okB b := by unfold okB; grind
              have hnn : (if b = 0 then 0 else n) = nI m := by rw [if_neg hb0]; exact em
              refine p10_sheet (N := N) (A := A) (B := B) (C := C) hI.M (by rw [fν _ (by omega) (by omega)]; exact hN) (by rw [fν _ (by omega) (by omega)]; exact hA) (by rw [fν _ (by omega) (by omega)]; exact hB) (by rw [fν _ (by omega) (by omega)]; exact hC) (fun g => absurd ⟨⟨j, hj, ej⟩, hok⟩ g) (by intros; exfalso; grind) (by intros; exfalso; grind) (fun x hx ex _ _ => ⟨rfl, ?_⟩)
              have q1 := nI_j ex ej (by omega) (by omega)
              subst q1
              rw [hnn]
              refine fin_h hI (fun d1 h1 h2 => by rw [Mx_ne (by omega), su_ne (by omega), su_ne (by omega), fν _ (by omega) (by omega)]) (fun s1 hs1 => ?_)
              have z := hsh s1 hs1
              rw [Mx_ne (show o + 14 ≠ o + 16 by omega), su_ne (show o + 14 ≠ o + 15 by omega), su_same, Mx_ne (show o + 15 ≠ o + 16 by omega), su_same, su_ne (show o + 15 ≠ o + 14 by omega), Mx_same, Mx_ne (show P + 90 + 2 * s1 ≠ o + 16 by omega), su_ne (show P + 90 + 2 * s1 ≠ o + 15 by omega), su_ne (show P + 90 + 2 * s1 ≠ o + 14 by omega), Mx_ne (show P + 90 + 2 * s1 + 1 ≠ o + 16 by omega), su_ne (show P + 90 + 2 * s1 + 1 ≠ o + 15 by omega), su_ne (show P + 90 + 2 * s1 + 1 ≠ o + 14 by omega), fν (o + 14) (by omega) (by omega), fν (o + 15) (by omega) (by omega), hA, hB]
              by_cases c9 : s1 = x
              · subst c9
                rw [upd_at, upd_at, cν, v1, v2]
                refine ⟨hok, rfl, okN_of (by omega) (by decide), rfl, fun i1 hi1 => ?_⟩
                rw [hB0 i1 hi1]; unfold clrN; rw [if_pos (by omega)]
              · rw [upd_ne _ _ c9, upd_ne _ _ c9, fν _ (by omega) (by omega), fν _ (by omega) (by omega)]
                refine ⟨z.1, z.2.1, z.2.2.1, z.2.2.2.1, fun i1 hi1 => ?_⟩
                unfold clrN; rw [if_neg (by omega)]; exact z.2.2.2.2 i1 hi1
            · refine X_iconst (tk_X9_sheet.at 42 rfl) ci_0 ?_
              refine X_goto (tgt := 85) (tk_X9_sheet.at 43 rfl) (by decide) ?_
              refine X_cV2v (lv2 := [(0, _), (1, _), (2, _)]) (tk_X9_sheet.at 45 rfl) mv_X7_become lk_x9_303 np_X7_become (hI.hs (i := j) (by omega)).1 (by decide) rfl (Nat.le_of_ble_eq_true rfl) (Nat.le_of_ble_eq_true rfl) rfl (c7_become (m := 0) (hI.hs (i := j) (by omega)) rfl (by omega) (fun B0 hB0 => ?_))
              refine X_iconst (tk_X9_sheet.at 46 rfl) ci_1 ?_
              refine X_ireturn (tk_X9_sheet.at 47 rfl) rfl rfl ?_
              generalize eν : (Mx (su (su μ (P + 90 + 2 * j) 1 b) (P + 90 + 2 * j) 2 (nI 0)) (P + 90 + 2 * j + 1) B0) = ν
              have fν : ∀ d1, d1 ≠ P + 90 + 2 * j → d1 ≠ P + 90 + 2 * j + 1 → ν d1 = μ d1 := fun d1 h1 h2 => by rw [← eν, Mx_ne h2, su_ne h1, su_ne h1]
              have v1 : ν (P + 90 + 2 * j) 1 = b := by rw [← eν, Mx_ne (by omega), su_same, upd_ne _ _ (by decide), su_same, upd_at]
              have v2 : ν (P + 90 + 2 * j) 2 = nI 0 := by rw [← eν, Mx_ne (by omega), su_same, upd_at]
              have cν : ν (P + 90 + 2 * j + 1) = B0 := by rw [← eν]; exact Mx_same
              have hok : okB b := by unfold okB; grind
              have hnn : (if b = 0 then 0 else n) = nI 0 := by rw [if_pos (by first | assumption | grind)]; rfl
              refine p10_sheet (N := N) (A := A) (B := B) (C := C) hI.M (by rw [fν _ (by omega) (by omega)]; exact hN) (by rw [fν _ (by omega) (by omega)]; exact hA) (by rw [fν _ (by omega) (by omega)]; exact hB) (by rw [fν _ (by omega) (by omega)]; exact hC) (fun g => absurd ⟨⟨j, hj, ej⟩, hok⟩ g) (by intros; exfalso; grind) (by intros; exfalso; grind) (fun x hx ex _ _ => ⟨rfl, ?_⟩)
              have q1 := nI_j ex ej (by omega) (by omega)
              subst q1
              rw [hnn]
              refine fin_h hI (fun d1 h1 h2 => by rw [Mx_ne (by omega), su_ne (by omega), su_ne (by omega), fν _ (by omega) (by omega)]) (fun s1 hs1 => ?_)
              have z := hsh s1 hs1
              rw [Mx_ne (show o + 14 ≠ o + 16 by omega), su_ne (show o + 14 ≠ o + 15 by omega), su_same, Mx_ne (show o + 15 ≠ o + 16 by omega), su_same, su_ne (show o + 15 ≠ o + 14 by omega), Mx_same, Mx_ne (show P + 90 + 2 * s1 ≠ o + 16 by omega), su_ne (show P + 90 + 2 * s1 ≠ o + 15 by omega), su_ne (show P + 90 + 2 * s1 ≠ o + 14 by omega), Mx_ne (show P + 90 + 2 * s1 + 1 ≠ o + 16 by omega), su_ne (show P + 90 + 2 * s1 + 1 ≠ o + 15 by omega), su_ne (show P + 90 + 2 * s1 + 1 ≠ o + 14 by omega), fν (o + 14) (by omega) (by omega), fν (o + 15) (by omega) (by omega), hA, hB]
              by_cases c9 : s1 = x
              · subst c9
                rw [upd_at, upd_at, cν, v1, v2]
                refine ⟨hok, rfl, okN_of (by omega) (by decide), rfl, fun i1 hi1 => ?_⟩
                rw [hB0 i1 hi1]; unfold clrN; rw [if_pos (by omega)]
              · rw [upd_ne _ _ c9, upd_ne _ _ c9, fν _ (by omega) (by omega), fν _ (by omega) (by omega)]
                refine ⟨z.1, z.2.1, z.2.2.1, z.2.2.2.1, fun i1 hi1 => ?_⟩
                unfold clrN; rw [if_neg (by omega)]; exact z.2.2.2.2 i1 hi1
          · refine X_iload_n (tk_X9_sheet.at 31 rfl) rfl ?_
            refine X_bipush (tk_X9_sheet.at 32 rfl) cb_40 ?_
            refine X_icmp_le (tgt := 73) (tk_X9_sheet.at 33 rfl) (by decide) (fun c10 => ?_) (fun c10 => ?_)
            · refine X_aload (tk_X9_sheet.at 38 rfl) rfl ?_
              refine X_iload_n (tk_X9_sheet.at 39 rfl) rfl ?_
              refine X_iload_n (tk_X9_sheet.at 40 rfl) rfl ?_
              refine X_if_ne (tgt := 84) (tk_X9_sheet.at 41 rfl) (by decide) (fun c11 => ?_) (fun c11 => ?_)
              · refine X_iload_n (tk_X9_sheet.at 44 rfl) rfl ?_
                have hb0 : ¬ b = 0 := by first | assumption | grind
                have hn0 : 0 ≤ n ∧ n ≤ 40 := by grind
                obtain ⟨m, em, hm⟩ : ∃ f, n = nI f ∧ f ≤ 40 := ⟨nv n, (le_lits (a := 0) (b := 40) (by decide) hn0.1 hn0.2 (by decide)).1, (le_lits (a := 0) (b := 40) (by decide) hn0.1 hn0.2 (by decide)).2.2⟩
                refine X_cV2v (lv2 := [(0, _), (1, _), (2, _)]) (tk_X9_sheet.at 45 rfl) mv_X7_become lk_x9_303 np_X7_become (hI.hs (i := j) (by omega)).1 (by decide) rfl (Nat.le_of_ble_eq_true rfl) (Nat.le_of_ble_eq_true rfl) rfl (c7_become (m := m) (hI.hs (i := j) (by omega)) em (by omega) (fun B0 hB0 => ?_))
                refine X_iconst (tk_X9_sheet.at 46 rfl) ci_1 ?_
                refine X_ireturn (tk_X9_sheet.at 47 rfl) rfl rfl ?_
                generalize eν : (Mx (su (su μ (P + 90 + 2 * j) 1 b) (P + 90 + 2 * j) 2 (nI m)) (P + 90 + 2 * j + 1) B0) = ν
                have fν : ∀ d1, d1 ≠ P + 90 + 2 * j → d1 ≠ P + 90 + 2 * j + 1 → ν d1 = μ d1 := fun d1 h1 h2 => by rw [← eν, Mx_ne h2, su_ne h1, su_ne h1]
                have v1 : ν (P + 90 + 2 * j) 1 = b := by rw [← eν, Mx_ne (by omega), su_same, upd_ne _ _ (by decide), su_same, upd_at]
                have v2 : ν (P + 90 + 2 * j) 2 = nI m := by rw [← eν, Mx_ne (by omega), su_same, upd_at]
                have cν : ν (P + 90 + 2 * j + 1) = B0 := by rw [← eν]; exact Mx_same
                have hok : okB b := by unfold okB; grind
                have hnn : (if b = 0 then 0 else n) = nI m := by rw [if_neg hb0]; exact em
                refine p10_sheet (N := N) (A := A) (B := B) (C := C) hI.M (by rw [fν _ (by omega) (by omega)]; exact hN) (by rw [fν _ (by omega) (by omega)]; exact hA) (by rw [fν _ (by omega) (by omega)]; exact hB) (by rw [fν _ (by omega) (by omega)]; exact hC) (fun g => absurd ⟨⟨j, hj, ej⟩, hok⟩ g) (by intros; exfalso; grind) (by intros; exfalso; grind) (fun x hx ex _ _ => ⟨rfl, ?_⟩)
                have q1 := nI_j ex ej (by omega) (by omega)
                subst q1
                rw [hnn]
                refine fin_h hI (fun d1 h1 h2 => by rw [Mx_ne (by omega), su_ne (by omega), su_ne (by omega), fν _ (by omega) (by omega)]) (fun s1 hs1 => ?_)
                have z := hsh s1 hs1
                rw [Mx_ne (show o + 14 ≠ o + 16 by omega), su_ne (show o + 14 ≠ o + 15 by omega), su_same, Mx_ne (show o + 15 ≠ o + 16 by omega), su_same, su_ne (show o + 15 ≠ o + 14 by omega), Mx_same, Mx_ne (show P + 90 + 2 * s1 ≠ o + 16 by omega), su_ne (show P + 90 + 2 * s1 ≠ o + 15 by omega), su_ne (show P + 90 + 2 * s1 ≠ o + 14 by omega), Mx_ne (show P + 90 + 2 * s1 + 1 ≠ o + 16 by omega), su_ne (show P + 90 + 2 * s1 + 1 ≠ o + 15 by omega), su_ne (show P + 90 + 2 * s1 + 1 ≠ o + 14 by omega), fν (o + 14) (by omega) (by omega), fν (o + 15) (by omega) (by omega), hA, hB]
                by_cases c9 : s1 = x
                · subst c9
                  rw [upd_at, upd_at, cν, v1, v2]
                  refine ⟨hok, rfl, okN_of (by omega) (by decide), rfl, fun i1 hi1 => ?_⟩
                  rw [hB0 i1 hi1]; unfold clrN; rw [if_pos (by omega)]
                · rw [upd_ne _ _ c9, upd_ne _ _ c9, fν _ (by omega) (by omega), fν _ (by omega) (by omega)]
                  refine ⟨z.1, z.2.1, z.2.2.1, z.2.2.2.1, fun i1 hi1 => ?_⟩
                  unfold clrN; rw [if_neg (by omega)]; exact z.2.2.2.2 i1 hi1
              · refine X_iconst (tk_X9_sheet.at 42 rfl) ci_0 ?_
                refine X_goto (tgt := 85) (tk_X9_sheet.at 43 rfl) (by decide) ?_
                refine X_cV2v (lv2 := [(0, _), (1, _), (2, _)]) (tk_X9_sheet.at 45 rfl) mv_X7_become lk_x9_303 np_X7_become (hI.hs (i := j) (by omega)).1 (by decide) rfl (Nat.le_of_ble_eq_true rfl) (Nat.le_of_ble_eq_true rfl) rfl (c7_become (m := 0) (hI.hs (i := j) (by omega)) rfl (by omega) (fun B0 hB0 => ?_))
                refine X_iconst (tk_X9_sheet.at 46 rfl) ci_1 ?_
                refine X_ireturn (tk_X9_sheet.at 47 rfl) rfl rfl ?_
                generalize eν : (Mx (su (su μ (P + 90 + 2 * j) 1 b) (P + 90 + 2 * j) 2 (nI 0)) (P + 90 + 2 * j + 1) B0) = ν
                have fν : ∀ d1, d1 ≠ P + 90 + 2 * j → d1 ≠ P + 90 + 2 * j + 1 → ν d1 = μ d1 := fun d1 h1 h2 => by rw [← eν, Mx_ne h2, su_ne h1, su_ne h1]
                have v1 : ν (P + 90 + 2 * j) 1 = b := by rw [← eν, Mx_ne (by omega), su_same, upd_ne _ _ (by decide), su_same, upd_at]
                have v2 : ν (P + 90 + 2 * j) 2 = nI 0 := by rw [← eν, Mx_ne (by omega), su_same, upd_at]
                have cν : ν (P + 90 + 2 * j + 1) = B0 := by rw [← eν]; exact Mx_same
                have hok : okB b := by unfold okB; grind
                have hnn : (if b = 0 then 0 else n) = nI 0 := by rw [if_pos (by first | assumption | grind)]; rfl
                refine p10_sheet (N := N) (A := A) (B := B) (C := C) hI.M (by rw [fν _ (by omega) (by omega)]; exact hN) (by rw [fν _ (by omega) (by omega)]; exact hA) (by rw [fν _ (by omega) (by omega)]; exact hB) (by rw [fν _ (by omega) (by omega)]; exact hC) (fun g => absurd ⟨⟨j, hj, ej⟩, hok⟩ g) (by intros; exfalso; grind) (by intros; exfalso; grind) (fun x hx ex _ _ => ⟨rfl, ?_⟩)
                have q1 := nI_j ex ej (by omega) (by omega)
                subst q1
                rw [hnn]
                refine fin_h hI (fun d1 h1 h2 => by rw [Mx_ne (by omega), su_ne (by omega), su_ne (by omega), fν _ (by omega) (by omega)]) (fun s1 hs1 => ?_)
                have z := hsh s1 hs1
                rw [Mx_ne (show o + 14 ≠ o + 16 by omega), su_ne (show o + 14 ≠ o + 15 by omega), su_same, Mx_ne (show o + 15 ≠ o + 16 by omega), su_same, su_ne (show o + 15 ≠ o + 14 by omega), Mx_same, Mx_ne (show P + 90 + 2 * s1 ≠ o + 16 by omega), su_ne (show P + 90 + 2 * s1 ≠ o + 15 by omega), su_ne (show P + 90 + 2 * s1 ≠ o + 14 by omega), Mx_ne (show P + 90 + 2 * s1 + 1 ≠ o + 16 by omega), su_ne (show P + 90 + 2 * s1 + 1 ≠ o + 15 by omega), su_ne (show P + 90 + 2 * s1 + 1 ≠ o + 14 by omega), fν (o + 14) (by omega) (by omega), fν (o + 15) (by omega) (by omega), hA, hB]
                by_cases c9 : s1 = x
                · subst c9
                  rw [upd_at, upd_at, cν, v1, v2]
                  refine ⟨hok, rfl, okN_of (by omega) (by decide), rfl, fun i1 hi1 => ?_⟩
                  rw [hB0 i1 hi1]; unfold clrN; rw [if_pos (by omega)]
                · rw [upd_ne _ _ c9, upd_ne _ _ c9, fν _ (by omega) (by omega), fν _ (by omega) (by omega)]
                  refine ⟨z.1, z.2.1, z.2.2.1, z.2.2.2.1, fun i1 hi1 => ?_⟩
                  unfold clrN; rw [if_neg (by omega)]; exact z.2.2.2.2 i1 hi1
            · refine X_aload_n (tk_X9_sheet.at 34 rfl) rfl ?_
              refine X_ldc (tk_X9_sheet.at 35 rfl) kn_x9_76 ?_
              refine X_cV1i (lv2 := [(0, _), (1, _)]) (tk_X9_sheet.at 36 rfl) mv_X9_fail lk_x9_77 np_X9_fail hI.P0 (by decide) rfl (Nat.le_of_ble_eq_true rfl) (Nat.le_of_ble_eq_true rfl) rfl (c9_fail (k := 1) hI.P0 hI.E (by decide) (by decide) ?_)
              refine X_ireturn (tk_X9_sheet.at 37 rfl) rfl rfl ?_
              refine p10_sheet (N := N) (A := A) (B := B) (C := C) hI.M (by rw [su_ne (by omega)]; exact hN) (by rw [su_ne (by omega)]; exact hA) (by rw [su_ne (by omega)]; exact hB) (by rw [su_ne (by omega)]; exact hC) (by intros; first | (exfalso; grind [In, nI_eq, okB]) | exact ⟨by grind [In, nI_eq, okB], fin_e hI (Fs.rf hI) (Sq.rf _ _) rfl⟩) (by intros; first | (exfalso; grind [In, nI_eq, okB]) | exact ⟨by grind [In, nI_eq, okB], fin_e hI (Fs.rf hI) (Sq.rf _ _) rfl⟩) (by intros; first | (exfalso; grind [In, nI_eq, okB]) | exact ⟨by grind [In, nI_eq, okB], fin_e hI (Fs.rf hI) (Sq.rf _ _) rfl⟩) (by intros; first | (exfalso; grind [In, nI_eq, okB]) | exact ⟨by grind [In, nI_eq, okB], fin_e hI (Fs.rf hI) (Sq.rf _ _) rfl⟩)
        · refine X_aload_n (tk_X9_sheet.at 25 rfl) rfl ?_
          refine X_ldc (tk_X9_sheet.at 26 rfl) kn_x9_130 ?_
          refine X_cV1i (lv2 := [(0, _), (1, _)]) (tk_X9_sheet.at 27 rfl) mv_X9_fail lk_x9_77 np_X9_fail hI.P0 (by decide) rfl (Nat.le_of_ble_eq_true rfl) (Nat.le_of_ble_eq_true rfl) rfl (c9_fail (k := 3) hI.P0 hI.E (by decide) (by decide) ?_)
          refine X_ireturn (tk_X9_sheet.at 28 rfl) rfl rfl ?_
          refine p10_sheet (N := N) (A := A) (B := B) (C := C) hI.M (by rw [su_ne (by omega)]; exact hN) (by rw [su_ne (by omega)]; exact hA) (by rw [su_ne (by omega)]; exact hB) (by rw [su_ne (by omega)]; exact hC) (by intros; first | (exfalso; grind [In, nI_eq, okB]) | exact ⟨by grind [In, nI_eq, okB], fin_e hI (Fs.rf hI) (Sq.rf _ _) rfl⟩) (by intros; first | (exfalso; grind [In, nI_eq, okB]) | exact ⟨by grind [In, nI_eq, okB], fin_e hI (Fs.rf hI) (Sq.rf _ _) rfl⟩) (by intros; first | (exfalso; grind [In, nI_eq, okB]) | exact ⟨by grind [In, nI_eq, okB], fin_e hI (Fs.rf hI) (Sq.rf _ _) rfl⟩) (by intros; first | (exfalso; grind [In, nI_eq, okB]) | exact ⟨by grind [In, nI_eq, okB], fin_e hI (Fs.rf hI) (Sq.rf _ _) rfl⟩)
    · refine X_iload_n (tk_X9_sheet.at 8 rfl) rfl ?_
      refine X_bipush (tk_X9_sheet.at 9 rfl) cb_8 ?_
      refine X_icmp_eq (tgt := 41) (tk_X9_sheet.at 10 rfl) (by decide) (fun c12 => ?_) (fun c12 => ?_)
      · refine X_iload_n (tk_X9_sheet.at 21 rfl) rfl ?_
        refine X_if_eq (tgt := 56) (tk_X9_sheet.at 22 rfl) (by decide) (fun c13 => ?_) (fun c13 => ?_)
        · refine X_iload_n (tk_X9_sheet.at 29 rfl) rfl ?_
          refine X_if_eq (tgt := 73) (tk_X9_sheet.at 30 rfl) (by decide) (fun c14 => ?_) (fun c14 => ?_)
          · refine X_aload (tk_X9_sheet.at 38 rfl) rfl ?_
            refine X_iload_n (tk_X9_sheet.at 39 rfl) rfl ?_
            refine X_iload_n (tk_X9_sheet.at 40 rfl) rfl ?_
            refine X_if_ne (tgt := 84) (tk_X9_sheet.at 41 rfl) (by decide) (fun c15 => ?_) (fun c15 => ?_)
            · refine X_iload_n (tk_X9_sheet.at 44 rfl) rfl ?_
              have hb0 : ¬ b = 0 := by first | assumption | grind
              have hn0 : 0 ≤ n ∧ n ≤ 40 := by grind
              obtain ⟨m, em, hm⟩ : ∃ f, n = nI f ∧ f ≤ 40 := ⟨nv n, (le_lits (a := 0) (b := 40) (by decide) hn0.1 hn0.2 (by decide)).1, (le_lits (a := 0) (b := 40) (by decide) hn0.1 hn0.2 (by decide)).2.2⟩
              refine X_cV2v (lv2 := [(0, _), (1, _), (2, _)]) (tk_X9_sheet.at 45 rfl) mv_X7_become lk_x9_303 np_X7_become (hI.hs (i := j) (by omega)).1 (by decide) rfl (Nat.le_of_ble_eq_true rfl) (Nat.le_of_ble_eq_true rfl) rfl (c7_become (m := m) (hI.hs (i := j) (by omega)) em (by omega) (fun B0 hB0 => ?_))
              refine X_iconst (tk_X9_sheet.at 46 rfl) ci_1 ?_
              refine X_ireturn (tk_X9_sheet.at 47 rfl) rfl rfl ?_
              generalize eν : (Mx (su (su μ (P + 90 + 2 * j) 1 b) (P + 90 + 2 * j) 2 (nI m)) (P + 90 + 2 * j + 1) B0) = ν
              have fν : ∀ d1, d1 ≠ P + 90 + 2 * j → d1 ≠ P + 90 + 2 * j + 1 → ν d1 = μ d1 := fun d1 h1 h2 => by rw [← eν, Mx_ne h2, su_ne h1, su_ne h1]
              have v1 : ν (P + 90 + 2 * j) 1 = b := by rw [← eν, Mx_ne (by omega), su_same, upd_ne _ _ (by decide), su_same, upd_at]
              have v2 : ν (P + 90 + 2 * j) 2 = nI m := by rw [← eν, Mx_ne (by omega), su_same, upd_at]
              have cν : ν (P + 90 + 2 * j + 1) = B0 := by rw [← eν]; exact Mx_same
              have hok : okB b := by unfold okB; grind
              have hnn : (if b = 0 then 0 else n) = nI m := by rw [if_neg hb0]; exact em
              refine p10_sheet (N := N) (A := A) (B := B) (C := C) hI.M (by rw [fν _ (by omega) (by omega)]; exact hN) (by rw [fν _ (by omega) (by omega)]; exact hA) (by rw [fν _ (by omega) (by omega)]; exact hB) (by rw [fν _ (by omega) (by omega)]; exact hC) (fun g => absurd ⟨⟨j, hj, ej⟩, hok⟩ g) (by intros; exfalso; grind) (by intros; exfalso; grind) (fun x hx ex _ _ => ⟨rfl, ?_⟩)
              have q1 := nI_j ex ej (by omega) (by omega)
              subst q1
              rw [hnn]
              refine fin_h hI (fun d1 h1 h2 => by rw [Mx_ne (by omega), su_ne (by omega), su_ne (by omega), fν _ (by omega) (by omega)]) (fun s1 hs1 => ?_)
              have z := hsh s1 hs1
              rw [Mx_ne (show o + 14 ≠ o + 16 by omega), su_ne (show o + 14 ≠ o + 15 by omega), su_same, Mx_ne (show o + 15 ≠ o + 16 by omega), su_same, su_ne (show o + 15 ≠ o + 14 by omega), Mx_same, Mx_ne (show P + 90 + 2 * s1 ≠ o + 16 by omega), su_ne (show P + 90 + 2 * s1 ≠ o + 15 by omega), su_ne (show P + 90 + 2 * s1 ≠ o + 14 by omega), Mx_ne (show P + 90 + 2 * s1 + 1 ≠ o + 16 by omega), su_ne (show P + 90 + 2 * s1 + 1 ≠ o + 15 by omega), su_ne (show P + 90 + 2 * s1 + 1 ≠ o + 14 by omega), fν (o + 14) (by omega) (by omega), fν (o + 15) (by omega) (by omega), hA, hB]
              by_cases c9 : s1 = x
              · subst c9
                rw [upd_at, upd_at, cν, v1, v2]
                refine ⟨hok, rfl, okN_of (by omega) (by decide), rfl, fun i1 hi1 => ?_⟩
                rw [hB0 i1 hi1]; unfold clrN; rw [if_pos (by omega)]
              · rw [upd_ne _ _ c9, upd_ne _ _ c9, fν _ (by omega) (by omega), fν _ (by omega) (by omega)]
                refine ⟨z.1, z.2.1, z.2.2.1, z.2.2.2.1, fun i1 hi1 => ?_⟩
                unfold clrN; rw [if_neg (by omega)]; exact z.2.2.2.2 i1 hi1
            · refine X_iconst (tk_X9_sheet.at 42 rfl) ci_0 ?_
              refine X_goto (tgt := 85) (tk_X9_sheet.at 43 rfl) (by decide) ?_
              refine X_cV2v (lv2 := [(0, _), (1, _), (2, _)]) (tk_X9_sheet.at 45 rfl) mv_X7_become lk_x9_303 np_X7_become (hI.hs (i := j) (by omega)).1 (by decide) rfl (Nat.le_of_ble_eq_true rfl) (Nat.le_of_ble_eq_true rfl) rfl (c7_become (m := 0) (hI.hs (i := j) (by omega)) rfl (by omega) (fun B0 hB0 => ?_))
              refine X_iconst (tk_X9_sheet.at 46 rfl) ci_1 ?_
              refine X_ireturn (tk_X9_sheet.at 47 rfl) rfl rfl ?_
              generalize eν : (Mx (su (su μ (P + 90 + 2 * j) 1 b) (P + 90 + 2 * j) 2 (nI 0)) (P + 90 + 2 * j + 1) B0) = ν
              have fν : ∀ d1, d1 ≠ P + 90 + 2 * j → d1 ≠ P + 90 + 2 * j + 1 → ν d1 = μ d1 := fun d1 h1 h2 => by rw [← eν, Mx_ne h2, su_ne h1, su_ne h1]
              have v1 : ν (P + 90 + 2 * j) 1 = b := by rw [← eν, Mx_ne (by omega), su_same, upd_ne _ _ (by decide), su_same, upd_at]
              have v2 : ν (P + 90 + 2 * j) 2 = nI 0 := by rw [← eν, Mx_ne (by omega), su_same, upd_at]
              have cν : ν (P + 90 + 2 * j + 1) = B0 := by rw [← eν]; exact Mx_same
              have hok : okB b := by unfold okB; grind
              have hnn : (if b = 0 then 0 else n) = nI 0 := by rw [if_pos (by first | assumption | grind)]; rfl
              refine p10_sheet (N := N) (A := A) (B := B) (C := C) hI.M (by rw [fν _ (by omega) (by omega)]; exact hN) (by rw [fν _ (by omega) (by omega)]; exact hA) (by rw [fν _ (by omega) (by omega)]; exact hB) (by rw [fν _ (by omega) (by omega)]; exact hC) (fun g => absurd ⟨⟨j, hj, ej⟩, hok⟩ g) (by intros; exfalso; grind) (by intros; exfalso; grind) (fun x hx ex _ _ => ⟨rfl, ?_⟩)
              have q1 := nI_j ex ej (by omega) (by omega)
              subst q1
              rw [hnn]
              refine fin_h hI (fun d1 h1 h2 => by rw [Mx_ne (by omega), su_ne (by omega), su_ne (by omega), fν _ (by omega) (by omega)]) (fun s1 hs1 => ?_)
              have z := hsh s1 hs1
              rw [Mx_ne (show o + 14 ≠ o + 16 by omega), su_ne (show o + 14 ≠ o + 15 by omega), su_same, Mx_ne (show o + 15 ≠ o + 16 by omega), su_same, su_ne (show o + 15 ≠ o + 14 by omega), Mx_same, Mx_ne (show P + 90 + 2 * s1 ≠ o + 16 by omega), su_ne (show P + 90 + 2 * s1 ≠ o + 15 by omega), su_ne (show P + 90 + 2 * s1 ≠ o + 14 by omega), Mx_ne (show P + 90 + 2 * s1 + 1 ≠ o + 16 by omega), su_ne (show P + 90 + 2 * s1 + 1 ≠ o + 15 by omega), su_ne (show P + 90 + 2 * s1 + 1 ≠ o + 14 by omega), fν (o + 14) (by omega) (by omega), fν (o + 15) (by omega) (by omega), hA, hB]
              by_cases c9 : s1 = x
              · subst c9
                rw [upd_at, upd_at, cν, v1, v2]
                refine ⟨hok, rfl, okN_of (by omega) (by decide), rfl, fun i1 hi1 => ?_⟩
                rw [hB0 i1 hi1]; unfold clrN; rw [if_pos (by omega)]
              · rw [upd_ne _ _ c9, upd_ne _ _ c9, fν _ (by omega) (by omega), fν _ (by omega) (by omega)]
                refine ⟨z.1, z.2.1, z.2.2.1, z.2.2.2.1, fun i1 hi1 => ?_⟩
                unfold clrN; rw [if_neg (by omega)]; exact z.2.2.2.2 i1 hi1
          · refine X_iload_n (tk_X9_sheet.at 31 rfl) rfl ?_
            refine X_bipush (tk_X9_sheet.at 32 rfl) cb_40 ?_
            refine X_icmp_le (tgt := 73) (tk_X9_sheet.at 33 rfl) (by decide) (fun c16 => ?_) (fun c16 => ?_)
            · refine X_aload (tk_X9_sheet.at 38 rfl) rfl ?_
              refine X_iload_n (tk_X9_sheet.at 39 rfl) rfl ?_
              refine X_iload_n (tk_X9_sheet.at 40 rfl) rfl ?_
              refine X_if_ne (tgt := 84) (tk_X9_sheet.at 41 rfl) (by decide) (fun c17 => ?_) (fun c17 => ?_)
              · refine X_iload_n (tk_X9_sheet.at 44 rfl) rfl ?_
                have hb0 : ¬ b = 0 := by first | assumption | grind
                have hn0 : 0 ≤ n ∧ n ≤ 40 := by grind
                obtain ⟨m, em, hm⟩ : ∃ f, n = nI f ∧ f ≤ 40 := ⟨nv n, (le_lits (a := 0) (b := 40) (by decide) hn0.1 hn0.2 (by decide)).1, (le_lits (a := 0) (b := 40) (by decide) hn0.1 hn0.2 (by decide)).2.2⟩
                refine X_cV2v (lv2 := [(0, _), (1, _), (2, _)]) (tk_X9_sheet.at 45 rfl) mv_X7_become lk_x9_303 np_X7_become (hI.hs (i := j) (by omega)).1 (by decide) rfl (Nat.le_of_ble_eq_true rfl) (Nat.le_of_ble_eq_true rfl) rfl (c7_become (m := m) (hI.hs (i := j) (by omega)) em (by omega) (fun B0 hB0 => ?_))
                refine X_iconst (tk_X9_sheet.at 46 rfl) ci_1 ?_
                refine X_ireturn (tk_X9_sheet.at 47 rfl) rfl rfl ?_
                generalize eν : (Mx (su (su μ (P + 90 + 2 * j) 1 b) (P + 90 + 2 * j) 2 (nI m)) (P + 90 + 2 * j + 1) B0) = ν
                have fν : ∀ d1, d1 ≠ P + 90 + 2 * j → d1 ≠ P + 90 + 2 * j + 1 → ν d1 = μ d1 := fun d1 h1 h2 => by rw [← eν, Mx_ne h2, su_ne h1, su_ne h1]
                have v1 : ν (P + 90 + 2 * j) 1 = b := by rw [← eν, Mx_ne (by omega), su_same, upd_ne _ _ (by decide), su_same, upd_at]
                have v2 : ν (P + 90 + 2 * j) 2 = nI m := by rw [← eν, Mx_ne (by omega), su_same, upd_at]
                have cν : ν (P + 90 + 2 * j + 1) = B0 := by rw [← eν]; exact Mx_same
                have hok : okB b := by unfold okB; grind
                have hnn : (if b = 0 then 0 else n) = nI m := by rw [if_neg hb0]; exact em
                refine p10_sheet (N := N) (A := A) (B := B) (C := C) hI.M (by rw [fν _ (by omega) (by omega)]; exact hN) (by rw [fν _ (by omega) (by omega)]; exact hA) (by rw [fν _ (by omega) (by omega)]; exact hB) (by rw [fν _ (by omega) (by omega)]; exact hC) (fun g => absurd ⟨⟨j, hj, ej⟩, hok⟩ g) (by intros; exfalso; grind) (by intros; exfalso; grind) (fun x hx ex _ _ => ⟨rfl, ?_⟩)
                have q1 := nI_j ex ej (by omega) (by omega)
                subst q1
                rw [hnn]
                refine fin_h hI (fun d1 h1 h2 => by rw [Mx_ne (by omega), su_ne (by omega), su_ne (by omega), fν _ (by omega) (by omega)]) (fun s1 hs1 => ?_)
                have z := hsh s1 hs1
                rw [Mx_ne (show o + 14 ≠ o + 16 by omega), su_ne (show o + 14 ≠ o + 15 by omega), su_same, Mx_ne (show o + 15 ≠ o + 16 by omega), su_same, su_ne (show o + 15 ≠ o + 14 by omega), Mx_same, Mx_ne (show P + 90 + 2 * s1 ≠ o + 16 by omega), su_ne (show P + 90 + 2 * s1 ≠ o + 15 by omega), su_ne (show P + 90 + 2 * s1 ≠ o + 14 by omega), Mx_ne (show P + 90 + 2 * s1 + 1 ≠ o + 16 by omega), su_ne (show P + 90 + 2 * s1 + 1 ≠ o + 15 by omega), su_ne (show P + 90 + 2 * s1 + 1 ≠ o + 14 by omega), fν (o + 14) (by omega) (by omega), fν (o + 15) (by omega) (by omega), hA, hB]
                by_cases c9 : s1 = x
                · subst c9
                  rw [upd_at, upd_at, cν, v1, v2]
                  refine ⟨hok, rfl, okN_of (by omega) (by decide), rfl, fun i1 hi1 => ?_⟩
                  rw [hB0 i1 hi1]; unfold clrN; rw [if_pos (by omega)]
                · rw [upd_ne _ _ c9, upd_ne _ _ c9, fν _ (by omega) (by omega), fν _ (by omega) (by omega)]
                  refine ⟨z.1, z.2.1, z.2.2.1, z.2.2.2.1, fun i1 hi1 => ?_⟩
                  unfold clrN; rw [if_neg (by omega)]; exact z.2.2.2.2 i1 hi1
              · refine X_iconst (tk_X9_sheet.at 42 rfl) ci_0 ?_
                refine X_goto (tgt := 85) (tk_X9_sheet.at 43 rfl) (by decide) ?_
                refine X_cV2v (lv2 := [(0, _), (1, _), (2, _)]) (tk_X9_sheet.at 45 rfl) mv_X7_become lk_x9_303 np_X7_become (hI.hs (i := j) (by omega)).1 (by decide) rfl (Nat.le_of_ble_eq_true rfl) (Nat.le_of_ble_eq_true rfl) rfl (c7_become (m := 0) (hI.hs (i := j) (by omega)) rfl (by omega) (fun B0 hB0 => ?_))
                refine X_iconst (tk_X9_sheet.at 46 rfl) ci_1 ?_
                refine X_ireturn (tk_X9_sheet.at 47 rfl) rfl rfl ?_
                generalize eν : (Mx (su (su μ (P + 90 + 2 * j) 1 b) (P + 90 + 2 * j) 2 (nI 0)) (P + 90 + 2 * j + 1) B0) = ν
                have fν : ∀ d1, d1 ≠ P + 90 + 2 * j → d1 ≠ P + 90 + 2 * j + 1 → ν d1 = μ d1 := fun d1 h1 h2 => by rw [← eν, Mx_ne h2, su_ne h1, su_ne h1]
                have v1 : ν (P + 90 + 2 * j) 1 = b := by rw [← eν, Mx_ne (by omega), su_same, upd_ne _ _ (by decide), su_same, upd_at]
                have v2 : ν (P + 90 + 2 * j) 2 = nI 0 := by rw [← eν, Mx_ne (by omega), su_same, upd_at]
                have cν : ν (P + 90 + 2 * j + 1) = B0 := by rw [← eν]; exact Mx_same
                have hok : okB b := by unfold okB; grind
                have hnn : (if b = 0 then 0 else n) = nI 0 := by rw [if_pos (by first | assumption | grind)]; rfl
                refine p10_sheet (N := N) (A := A) (B := B) (C := C) hI.M (by rw [fν _ (by omega) (by omega)]; exact hN) (by rw [fν _ (by omega) (by omega)]; exact hA) (by rw [fν _ (by omega) (by omega)]; exact hB) (by rw [fν _ (by omega) (by omega)]; exact hC) (fun g => absurd ⟨⟨j, hj, ej⟩, hok⟩ g) (by intros; exfalso; grind) (by intros; exfalso; grind) (fun x hx ex _ _ => ⟨rfl, ?_⟩)
                have q1 := nI_j ex ej (by omega) (by omega)
                subst q1
                rw [hnn]
                refine fin_h hI (fun d1 h1 h2 => by rw [Mx_ne (by omega), su_ne (by omega), su_ne (by omega), fν _ (by omega) (by omega)]) (fun s1 hs1 => ?_)
                have z := hsh s1 hs1
                rw [Mx_ne (show o + 14 ≠ o + 16 by omega), su_ne (show o + 14 ≠ o + 15 by omega), su_same, Mx_ne (show o + 15 ≠ o + 16 by omega), su_same, su_ne (show o + 15 ≠ o + 14 by omega), Mx_same, Mx_ne (show P + 90 + 2 * s1 ≠ o + 16 by omega), su_ne (show P + 90 + 2 * s1 ≠ o + 15 by omega), su_ne (show P + 90 + 2 * s1 ≠ o + 14 by omega), Mx_ne (show P + 90 + 2 * s1 + 1 ≠ o + 16 by omega), su_ne (show P + 90 + 2 * s1 + 1 ≠ o + 15 by omega), su_ne (show P + 90 + 2 * s1 + 1 ≠ o + 14 by omega), fν (o + 14) (by omega) (by omega), fν (o + 15) (by omega) (by omega), hA, hB]
                by_cases c9 : s1 = x
                · subst c9
                  rw [upd_at, upd_at, cν, v1, v2]
                  refine ⟨hok, rfl, okN_of (by omega) (by decide), rfl, fun i1 hi1 => ?_⟩
                  rw [hB0 i1 hi1]; unfold clrN; rw [if_pos (by omega)]
                · rw [upd_ne _ _ c9, upd_ne _ _ c9, fν _ (by omega) (by omega), fν _ (by omega) (by omega)]
                  refine ⟨z.1, z.2.1, z.2.2.1, z.2.2.2.1, fun i1 hi1 => ?_⟩
                  unfold clrN; rw [if_neg (by omega)]; exact z.2.2.2.2 i1 hi1
            · refine X_aload_n (tk_X9_sheet.at 34 rfl) rfl ?_
              refine X_ldc (tk_X9_sheet.at 35 rfl) kn_x9_76 ?_
              refine X_cV1i (lv2 := [(0, _), (1, _)]) (tk_X9_sheet.at 36 rfl) mv_X9_fail lk_x9_77 np_X9_fail hI.P0 (by decide) rfl (Nat.le_of_ble_eq_true rfl) (Nat.le_of_ble_eq_true rfl) rfl (c9_fail (k := 1) hI.P0 hI.E (by decide) (by decide) ?_)
              refine X_ireturn (tk_X9_sheet.at 37 rfl) rfl rfl ?_
              refine p10_sheet (N := N) (A := A) (B := B) (C := C) hI.M (by rw [su_ne (by omega)]; exact hN) (by rw [su_ne (by omega)]; exact hA) (by rw [su_ne (by omega)]; exact hB) (by rw [su_ne (by omega)]; exact hC) (by intros; first | (exfalso; grind [In, nI_eq, okB]) | exact ⟨by grind [In, nI_eq, okB], fin_e hI (Fs.rf hI) (Sq.rf _ _) rfl⟩) (by intros; first | (exfalso; grind [In, nI_eq, okB]) | exact ⟨by grind [In, nI_eq, okB], fin_e hI (Fs.rf hI) (Sq.rf _ _) rfl⟩) (by intros; first | (exfalso; grind [In, nI_eq, okB]) | exact ⟨by grind [In, nI_eq, okB], fin_e hI (Fs.rf hI) (Sq.rf _ _) rfl⟩) (by intros; first | (exfalso; grind [In, nI_eq, okB]) | exact ⟨by grind [In, nI_eq, okB], fin_e hI (Fs.rf hI) (Sq.rf _ _) rfl⟩)
        · refine X_iload_n (tk_X9_sheet.at 23 rfl) rfl ?_
          refine X_if_ge (tgt := 56) (tk_X9_sheet.at 24 rfl) (by decide) (fun c18 => ?_) (fun c18 => ?_)
          · refine X_iload_n (tk_X9_sheet.at 29 rfl) rfl ?_
            refine X_if_eq (tgt := 73) (tk_X9_sheet.at 30 rfl) (by decide) (fun c19 => ?_) (fun c19 => ?_)
            · refine X_aload (tk_X9_sheet.at 38 rfl) rfl ?_
              refine X_iload_n (tk_X9_sheet.at 39 rfl) rfl ?_
              refine X_iload_n (tk_X9_sheet.at 40 rfl) rfl ?_
              refine X_if_ne (tgt := 84) (tk_X9_sheet.at 41 rfl) (by decide) (fun c20 => ?_) (fun c20 => ?_)
              · refine X_iload_n (tk_X9_sheet.at 44 rfl) rfl ?_
                have hb0 : ¬ b = 0 := by first | assumption | grind
                have hn0 : 0 ≤ n ∧ n ≤ 40 := by grind
                obtain ⟨m, em, hm⟩ : ∃ f, n = nI f ∧ f ≤ 40 := ⟨nv n, (le_lits (a := 0) (b := 40) (by decide) hn0.1 hn0.2 (by decide)).1, (le_lits (a := 0) (b := 40) (by decide) hn0.1 hn0.2 (by decide)).2.2⟩
                refine X_cV2v (lv2 := [(0, _), (1, _), (2, _)]) (tk_X9_sheet.at 45 rfl) mv_X7_become lk_x9_303 np_X7_become (hI.hs (i := j) (by omega)).1 (by decide) rfl (Nat.le_of_ble_eq_true rfl) (Nat.le_of_ble_eq_true rfl) rfl (c7_become (m := m) (hI.hs (i := j) (by omega)) em (by omega) (fun B0 hB0 => ?_))
                refine X_iconst (tk_X9_sheet.at 46 rfl) ci_1 ?_
                refine X_ireturn (tk_X9_sheet.at 47 rfl) rfl rfl ?_
                generalize eν : (Mx (su (su μ (P + 90 + 2 * j) 1 b) (P + 90 + 2 * j) 2 (nI m)) (P + 90 + 2 * j + 1) B0) = ν
                have fν : ∀ d1, d1 ≠ P + 90 + 2 * j → d1 ≠ P + 90 + 2 * j + 1 → ν d1 = μ d1 := fun d1 h1 h2 => by rw [← eν, Mx_ne h2, su_ne h1, su_ne h1]
                have v1 : ν (P + 90 + 2 * j) 1 = b := by rw [← eν, Mx_ne (by omega), su_same, upd_ne _ _ (by decide), su_same, upd_at]
                have v2 : ν (P + 90 + 2 * j) 2 = nI m := by rw [← eν, Mx_ne (by omega), su_same, upd_at]
                have cν : ν (P + 90 + 2 * j + 1) = B0 := by rw [← eν]; exact Mx_same
                have hok : okB b := by unfold okB; grind
                have hnn : (if b = 0 then 0 else n) = nI m := by rw [if_neg hb0]; exact em
                refine p10_sheet (N := N) (A := A) (B := B) (C := C) hI.M (by rw [fν _ (by omega) (by omega)]; exact hN) (by rw [fν _ (by omega) (by omega)]; exact hA) (by rw [fν _ (by omega) (by omega)]; exact hB) (by rw [fν _ (by omega) (by omega)]; exact hC) (fun g => absurd ⟨⟨j, hj, ej⟩, hok⟩ g) (by intros; exfalso; grind) (by intros; exfalso; grind) (fun x hx ex _ _ => ⟨rfl, ?_⟩)
                have q1 := nI_j ex ej (by omega) (by omega)
                subst q1
                rw [hnn]
                refine fin_h hI (fun d1 h1 h2 => by rw [Mx_ne (by omega), su_ne (by omega), su_ne (by omega), fν _ (by omega) (by omega)]) (fun s1 hs1 => ?_)
                have z := hsh s1 hs1
                rw [Mx_ne (show o + 14 ≠ o + 16 by omega), su_ne (show o + 14 ≠ o + 15 by omega), su_same, Mx_ne (show o + 15 ≠ o + 16 by omega), su_same, su_ne (show o + 15 ≠ o + 14 by omega), Mx_same, Mx_ne (show P + 90 + 2 * s1 ≠ o + 16 by omega), su_ne (show P + 90 + 2 * s1 ≠ o + 15 by omega), su_ne (show P + 90 + 2 * s1 ≠ o + 14 by omega), Mx_ne (show P + 90 + 2 * s1 + 1 ≠ o + 16 by omega), su_ne (show P + 90 + 2 * s1 + 1 ≠ o + 15 by omega), su_ne (show P + 90 + 2 * s1 + 1 ≠ o + 14 by omega), fν (o + 14) (by omega) (by omega), fν (o + 15) (by omega) (by omega), hA, hB]
                by_cases c9 : s1 = x
                · subst c9
                  rw [upd_at, upd_at, cν, v1, v2]
                  refine ⟨hok, rfl, okN_of (by omega) (by decide), rfl, fun i1 hi1 => ?_⟩
                  rw [hB0 i1 hi1]; unfold clrN; rw [if_pos (by omega)]
                · rw [upd_ne _ _ c9, upd_ne _ _ c9, fν _ (by omega) (by omega), fν _ (by omega) (by omega)]
                  refine ⟨z.1, z.2.1, z.2.2.1, z.2.2.2.1, fun i1 hi1 => ?_⟩
                  unfold clrN; rw [if_neg (by omega)]; exact z.2.2.2.2 i1 hi1
              · refine X_iconst (tk_X9_sheet.at 42 rfl) ci_0 ?_
                refine X_goto (tgt := 85) (tk_X9_sheet.at 43 rfl) (by decide) ?_
                refine X_cV2v (lv2 := [(0, _), (1, _), (2, _)]) (tk_X9_sheet.at 45 rfl) mv_X7_become lk_x9_303 np_X7_become (hI.hs (i := j) (by omega)).1 (by decide) rfl (Nat.le_of_ble_eq_true rfl) (Nat.le_of_ble_eq_true rfl) rfl (c7_become (m := 0) (hI.hs (i := j) (by omega)) rfl (by omega) (fun B0 hB0 => ?_))
                refine X_iconst (tk_X9_sheet.at 46 rfl) ci_1 ?_
                refine X_ireturn (tk_X9_sheet.at 47 rfl) rfl rfl ?_
                generalize eν : (Mx (su (su μ (P + 90 + 2 * j) 1 b) (P + 90 + 2 * j) 2 (nI 0)) (P + 90 + 2 * j + 1) B0) = ν
                have fν : ∀ d1, d1 ≠ P + 90 + 2 * j → d1 ≠ P + 90 + 2 * j + 1 → ν d1 = μ d1 := fun d1 h1 h2 => by rw [← eν, Mx_ne h2, su_ne h1, su_ne h1]
                have v1 : ν (P + 90 + 2 * j) 1 = b := by rw [← eν, Mx_ne (by omega), su_same, upd_ne _ _ (by decide), su_same, upd_at]
                have v2 : ν (P + 90 + 2 * j) 2 = nI 0 := by rw [← eν, Mx_ne (by omega), su_same, upd_at]
                have cν : ν (P + 90 + 2 * j + 1) = B0 := by rw [← eν]; exact Mx_same
                have hok : okB b := by unfold okB; grind
                have hnn : (if b = 0 then 0 else n) = nI 0 := by rw [if_pos (by first | assumption | grind)]; rfl
                refine p10_sheet (N := N) (A := A) (B := B) (C := C) hI.M (by rw [fν _ (by omega) (by omega)]; exact hN) (by rw [fν _ (by omega) (by omega)]; exact hA) (by rw [fν _ (by omega) (by omega)]; exact hB) (by rw [fν _ (by omega) (by omega)]; exact hC) (fun g => absurd ⟨⟨j, hj, ej⟩, hok⟩ g) (by intros; exfalso; grind) (by intros; exfalso; grind) (fun x hx ex _ _ => ⟨rfl, ?_⟩)
                have q1 := nI_j ex ej (by omega) (by omega)
                subst q1
                rw [hnn]
                refine fin_h hI (fun d1 h1 h2 => by rw [Mx_ne (by omega), su_ne (by omega), su_ne (by omega), fν _ (by omega) (by omega)]) (fun s1 hs1 => ?_)
                have z := hsh s1 hs1
                rw [Mx_ne (show o + 14 ≠ o + 16 by omega), su_ne (show o + 14 ≠ o + 15 by omega), su_same, Mx_ne (show o + 15 ≠ o + 16 by omega), su_same, su_ne (show o + 15 ≠ o + 14 by omega), Mx_same, Mx_ne (show P + 90 + 2 * s1 ≠ o + 16 by omega), su_ne (show P + 90 + 2 * s1 ≠ o + 15 by omega), su_ne (show P + 90 + 2 * s1 ≠ o + 14 by omega), Mx_ne (show P + 90 + 2 * s1 + 1 ≠ o + 16 by omega), su_ne (show P + 90 + 2 * s1 + 1 ≠ o + 15 by omega), su_ne (show P + 90 + 2 * s1 + 1 ≠ o + 14 by omega), fν (o + 14) (by omega) (by omega), fν (o + 15) (by omega) (by omega), hA, hB]
                by_cases c9 : s1 = x
                · subst c9
                  rw [upd_at, upd_at, cν, v1, v2]
                  refine ⟨hok, rfl, okN_of (by omega) (by decide), rfl, fun i1 hi1 => ?_⟩
                  rw [hB0 i1 hi1]; unfold clrN; rw [if_pos (by omega)]
                · rw [upd_ne _ _ c9, upd_ne _ _ c9, fν _ (by omega) (by omega), fν _ (by omega) (by omega)]
                  refine ⟨z.1, z.2.1, z.2.2.1, z.2.2.2.1, fun i1 hi1 => ?_⟩
                  unfold clrN; rw [if_neg (by omega)]; exact z.2.2.2.2 i1 hi1
            · refine X_iload_n (tk_X9_sheet.at 31 rfl) rfl ?_
              refine X_bipush (tk_X9_sheet.at 32 rfl) cb_40 ?_
              refine X_icmp_le (tgt := 73) (tk_X9_sheet.at 33 rfl) (by decide) (fun c21 => ?_) (fun c21 => ?_)
              · refine X_aload (tk_X9_sheet.at 38 rfl) rfl ?_
                refine X_iload_n (tk_X9_sheet.at 39 rfl) rfl ?_
                refine X_iload_n (tk_X9_sheet.at 40 rfl) rfl ?_
                refine X_if_ne (tgt := 84) (tk_X9_sheet.at 41 rfl) (by decide) (fun c22 => ?_) (fun c22 => ?_)
                · refine X_iload_n (tk_X9_sheet.at 44 rfl) rfl ?_
                  have hb0 : ¬ b = 0 := by first | assumption | grind
                  have hn0 : 0 ≤ n ∧ n ≤ 40 := by grind
                  obtain ⟨m, em, hm⟩ : ∃ f, n = nI f ∧ f ≤ 40 := ⟨nv n, (le_lits (a := 0) (b := 40) (by decide) hn0.1 hn0.2 (by decide)).1, (le_lits (a := 0) (b := 40) (by decide) hn0.1 hn0.2 (by decide)).2.2⟩
                  refine X_cV2v (lv2 := [(0, _), (1, _), (2, _)]) (tk_X9_sheet.at 45 rfl) mv_X7_become lk_x9_303 np_X7_become (hI.hs (i := j) (by omega)).1 (by decide) rfl (Nat.le_of_ble_eq_true rfl) (Nat.le_of_ble_eq_true rfl) rfl (c7_become (m := m) (hI.hs (i := j) (by omega)) em (by omega) (fun B0 hB0 => ?_))
                  refine X_iconst (tk_X9_sheet.at 46 rfl) ci_1 ?_
                  refine X_ireturn (tk_X9_sheet.at 47 rfl) rfl rfl ?_
                  generalize eν : (Mx (su (su μ (P + 90 + 2 * j) 1 b) (P + 90 + 2 * j) 2 (nI m)) (P + 90 + 2 * j + 1) B0) = ν
                  have fν : ∀ d1, d1 ≠ P + 90 + 2 * j → d1 ≠ P + 90 + 2 * j + 1 → ν d1 = μ d1 := fun d1 h1 h2 => by rw [← eν, Mx_ne h2, su_ne h1, su_ne h1]
                  have v1 : ν (P + 90 + 2 * j) 1 = b := by rw [← eν, Mx_ne (by omega), su_same, upd_ne _ _ (by decide), su_same, upd_at]
                  have v2 : ν (P + 90 + 2 * j) 2 = nI m := by rw [← eν, Mx_ne (by omega), su_same, upd_at]
                  have cν : ν (P + 90 + 2 * j + 1) = B0 := by rw [← eν]; exact Mx_same
                  have hok : okB b := by unfold okB; grind
                  have hnn : (if b = 0 then 0 else n) = nI m := by rw [if_neg hb0]; exact em
                  refine p10_sheet (N := N) (A := A) (B := B) (C := C) hI.M (by rw [fν _ (by omega) (by omega)]; exact hN) (by rw [fν _ (by omega) (by omega)]; exact hA) (by rw [fν _ (by omega) (by omega)]; exact hB) (by rw [fν _ (by omega) (by omega)]; exact hC) (fun g => absurd ⟨⟨j, hj, ej⟩, hok⟩ g) (by intros; exfalso; grind) (by intros; exfalso; grind) (fun x hx ex _ _ => ⟨rfl, ?_⟩)
                  have q1 := nI_j ex ej (by omega) (by omega)
                  subst q1
                  rw [hnn]
                  refine fin_h hI (fun d1 h1 h2 => by rw [Mx_ne (by omega), su_ne (by omega), su_ne (by omega), fν _ (by omega) (by omega)]) (fun s1 hs1 => ?_)
                  have z := hsh s1 hs1
                  rw [Mx_ne (show o + 14 ≠ o + 16 by omega), su_ne (show o + 14 ≠ o + 15 by omega), su_same, Mx_ne (show o + 15 ≠ o + 16 by omega), su_same, su_ne (show o + 15 ≠ o + 14 by omega), Mx_same, Mx_ne (show P + 90 + 2 * s1 ≠ o + 16 by omega), su_ne (show P + 90 + 2 * s1 ≠ o + 15 by omega), su_ne (show P + 90 + 2 * s1 ≠ o + 14 by omega), Mx_ne (show P + 90 + 2 * s1 + 1 ≠ o + 16 by omega), su_ne (show P + 90 + 2 * s1 + 1 ≠ o + 15 by omega), su_ne (show P + 90 + 2 * s1 + 1 ≠ o + 14 by omega), fν (o + 14) (by omega) (by omega), fν (o + 15) (by omega) (by omega), hA, hB]
                  by_cases c9 : s1 = x
                  · subst c9
                    rw [upd_at, upd_at, cν, v1, v2]
                    refine ⟨hok, rfl, okN_of (by omega) (by decide), rfl, fun i1 hi1 => ?_⟩
                    rw [hB0 i1 hi1]; unfold clrN; rw [if_pos (by omega)]
                  · rw [upd_ne _ _ c9, upd_ne _ _ c9, fν _ (by omega) (by omega), fν _ (by omega) (by omega)]
                    refine ⟨z.1, z.2.1, z.2.2.1, z.2.2.2.1, fun i1 hi1 => ?_⟩
                    unfold clrN; rw [if_neg (by omega)]; exact z.2.2.2.2 i1 hi1
                · refine X_iconst (tk_X9_sheet.at 42 rfl) ci_0 ?_
                  refine X_goto (tgt := 85) (tk_X9_sheet.at 43 rfl) (by decide) ?_
                  refine X_cV2v (lv2 := [(0, _), (1, _), (2, _)]) (tk_X9_sheet.at 45 rfl) mv_X7_become lk_x9_303 np_X7_become (hI.hs (i := j) (by omega)).1 (by decide) rfl (Nat.le_of_ble_eq_true rfl) (Nat.le_of_ble_eq_true rfl) rfl (c7_become (m := 0) (hI.hs (i := j) (by omega)) rfl (by omega) (fun B0 hB0 => ?_))
                  refine X_iconst (tk_X9_sheet.at 46 rfl) ci_1 ?_
                  refine X_ireturn (tk_X9_sheet.at 47 rfl) rfl rfl ?_
                  generalize eν : (Mx (su (su μ (P + 90 + 2 * j) 1 b) (P + 90 + 2 * j) 2 (nI 0)) (P + 90 + 2 * j + 1) B0) = ν
                  have fν : ∀ d1, d1 ≠ P + 90 + 2 * j → d1 ≠ P + 90 + 2 * j + 1 → ν d1 = μ d1 := fun d1 h1 h2 => by rw [← eν, Mx_ne h2, su_ne h1, su_ne h1]
                  have v1 : ν (P + 90 + 2 * j) 1 = b := by rw [← eν, Mx_ne (by omega), su_same, upd_ne _ _ (by decide), su_same, upd_at]
                  have v2 : ν (P + 90 + 2 * j) 2 = nI 0 := by rw [← eν, Mx_ne (by omega), su_same, upd_at]
                  have cν : ν (P + 90 + 2 * j + 1) = B0 := by rw [← eν]; exact Mx_same
                  have hok : okB b := by unfold okB; grind
                  have hnn : (if b = 0 then 0 else n) = nI 0 := by rw [if_pos (by first | assumption | grind)]; rfl
                  refine p10_sheet (N := N) (A := A) (B := B) (C := C) hI.M (by rw [fν _ (by omega) (by omega)]; exact hN) (by rw [fν _ (by omega) (by omega)]; exact hA) (by rw [fν _ (by omega) (by omega)]; exact hB) (by rw [fν _ (by omega) (by omega)]; exact hC) (fun g => absurd ⟨⟨j, hj, ej⟩, hok⟩ g) (by intros; exfalso; grind) (by intros; exfalso; grind) (fun x hx ex _ _ => ⟨rfl, ?_⟩)
                  have q1 := nI_j ex ej (by omega) (by omega)
                  subst q1
                  rw [hnn]
                  refine fin_h hI (fun d1 h1 h2 => by rw [Mx_ne (by omega), su_ne (by omega), su_ne (by omega), fν _ (by omega) (by omega)]) (fun s1 hs1 => ?_)
                  have z := hsh s1 hs1
                  rw [Mx_ne (show o + 14 ≠ o + 16 by omega), su_ne (show o + 14 ≠ o + 15 by omega), su_same, Mx_ne (show o + 15 ≠ o + 16 by omega), su_same, su_ne (show o + 15 ≠ o + 14 by omega), Mx_same, Mx_ne (show P + 90 + 2 * s1 ≠ o + 16 by omega), su_ne (show P + 90 + 2 * s1 ≠ o + 15 by omega), su_ne (show P + 90 + 2 * s1 ≠ o + 14 by omega), Mx_ne (show P + 90 + 2 * s1 + 1 ≠ o + 16 by omega), su_ne (show P + 90 + 2 * s1 + 1 ≠ o + 15 by omega), su_ne (show P + 90 + 2 * s1 + 1 ≠ o + 14 by omega), fν (o + 14) (by omega) (by omega), fν (o + 15) (by omega) (by omega), hA, hB]
                  by_cases c9 : s1 = x
                  · subst c9
                    rw [upd_at, upd_at, cν, v1, v2]
                    refine ⟨hok, rfl, okN_of (by omega) (by decide), rfl, fun i1 hi1 => ?_⟩
                    rw [hB0 i1 hi1]; unfold clrN; rw [if_pos (by omega)]
                  · rw [upd_ne _ _ c9, upd_ne _ _ c9, fν _ (by omega) (by omega), fν _ (by omega) (by omega)]
                    refine ⟨z.1, z.2.1, z.2.2.1, z.2.2.2.1, fun i1 hi1 => ?_⟩
                    unfold clrN; rw [if_neg (by omega)]; exact z.2.2.2.2 i1 hi1
              · refine X_aload_n (tk_X9_sheet.at 34 rfl) rfl ?_
                refine X_ldc (tk_X9_sheet.at 35 rfl) kn_x9_76 ?_
                refine X_cV1i (lv2 := [(0, _), (1, _)]) (tk_X9_sheet.at 36 rfl) mv_X9_fail lk_x9_77 np_X9_fail hI.P0 (by decide) rfl (Nat.le_of_ble_eq_true rfl) (Nat.le_of_ble_eq_true rfl) rfl (c9_fail (k := 1) hI.P0 hI.E (by decide) (by decide) ?_)
                refine X_ireturn (tk_X9_sheet.at 37 rfl) rfl rfl ?_
                refine p10_sheet (N := N) (A := A) (B := B) (C := C) hI.M (by rw [su_ne (by omega)]; exact hN) (by rw [su_ne (by omega)]; exact hA) (by rw [su_ne (by omega)]; exact hB) (by rw [su_ne (by omega)]; exact hC) (by intros; first | (exfalso; grind [In, nI_eq, okB]) | exact ⟨by grind [In, nI_eq, okB], fin_e hI (Fs.rf hI) (Sq.rf _ _) rfl⟩) (by intros; first | (exfalso; grind [In, nI_eq, okB]) | exact ⟨by grind [In, nI_eq, okB], fin_e hI (Fs.rf hI) (Sq.rf _ _) rfl⟩) (by intros; first | (exfalso; grind [In, nI_eq, okB]) | exact ⟨by grind [In, nI_eq, okB], fin_e hI (Fs.rf hI) (Sq.rf _ _) rfl⟩) (by intros; first | (exfalso; grind [In, nI_eq, okB]) | exact ⟨by grind [In, nI_eq, okB], fin_e hI (Fs.rf hI) (Sq.rf _ _) rfl⟩)
          · refine X_aload_n (tk_X9_sheet.at 25 rfl) rfl ?_
            refine X_ldc (tk_X9_sheet.at 26 rfl) kn_x9_130 ?_
            refine X_cV1i (lv2 := [(0, _), (1, _)]) (tk_X9_sheet.at 27 rfl) mv_X9_fail lk_x9_77 np_X9_fail hI.P0 (by decide) rfl (Nat.le_of_ble_eq_true rfl) (Nat.le_of_ble_eq_true rfl) rfl (c9_fail (k := 3) hI.P0 hI.E (by decide) (by decide) ?_)
            refine X_ireturn (tk_X9_sheet.at 28 rfl) rfl rfl ?_
            refine p10_sheet (N := N) (A := A) (B := B) (C := C) hI.M (by rw [su_ne (by omega)]; exact hN) (by rw [su_ne (by omega)]; exact hA) (by rw [su_ne (by omega)]; exact hB) (by rw [su_ne (by omega)]; exact hC) (by intros; first | (exfalso; grind [In, nI_eq, okB]) | exact ⟨by grind [In, nI_eq, okB], fin_e hI (Fs.rf hI) (Sq.rf _ _) rfl⟩) (by intros; first | (exfalso; grind [In, nI_eq, okB]) | exact ⟨by grind [In, nI_eq, okB], fin_e hI (Fs.rf hI) (Sq.rf _ _) rfl⟩) (by intros; first | (exfalso; grind [In, nI_eq, okB]) | exact ⟨by grind [In, nI_eq, okB], fin_e hI (Fs.rf hI) (Sq.rf _ _) rfl⟩) (by intros; first | (exfalso; grind [In, nI_eq, okB]) | exact ⟨by grind [In, nI_eq, okB], fin_e hI (Fs.rf hI) (Sq.rf _ _) rfl⟩)
      · refine X_iload_n (tk_X9_sheet.at 11 rfl) rfl ?_
        refine X_bipush (tk_X9_sheet.at 12 rfl) cb_16 ?_
        refine X_icmp_eq (tgt := 41) (tk_X9_sheet.at 13 rfl) (by decide) (fun c23 => ?_) (fun c23 => ?_)
        · refine X_iload_n (tk_X9_sheet.at 21 rfl) rfl ?_
          refine X_if_eq (tgt := 56) (tk_X9_sheet.at 22 rfl) (by decide) (fun c24 => ?_) (fun c24 => ?_)
          · refine X_iload_n (tk_X9_sheet.at 29 rfl) rfl ?_
            refine X_if_eq (tgt := 73) (tk_X9_sheet.at 30 rfl) (by decide) (fun c25 => ?_) (fun c25 => ?_)
            · refine X_aload (tk_X9_sheet.at 38 rfl) rfl ?_
              refine X_iload_n (tk_X9_sheet.at 39 rfl) rfl ?_
              refine X_iload_n (tk_X9_sheet.at 40 rfl) rfl ?_
              refine X_if_ne (tgt := 84) (tk_X9_sheet.at 41 rfl) (by decide) (fun c26 => ?_) (fun c26 => ?_)
              · refine X_iload_n (tk_X9_sheet.at 44 rfl) rfl ?_
                have hb0 : ¬ b = 0 := by first | assumption | grind
                have hn0 : 0 ≤ n ∧ n ≤ 40 := by grind
                obtain ⟨m, em, hm⟩ : ∃ f, n = nI f ∧ f ≤ 40 := ⟨nv n, (le_lits (a := 0) (b := 40) (by decide) hn0.1 hn0.2 (by decide)).1, (le_lits (a := 0) (b := 40) (by decide) hn0.1 hn0.2 (by decide)).2.2⟩
                refine X_cV2v (lv2 := [(0, _), (1, _), (2, _)]) (tk_X9_sheet.at 45 rfl) mv_X7_become lk_x9_303 np_X7_become (hI.hs (i := j) (by omega)).1 (by decide) rfl (Nat.le_of_ble_eq_true rfl) (Nat.le_of_ble_eq_true rfl) rfl (c7_become (m := m) (hI.hs (i := j) (by omega)) em (by omega) (fun B0 hB0 => ?_))
                refine X_iconst (tk_X9_sheet.at 46 rfl) ci_1 ?_
                refine X_ireturn (tk_X9_sheet.at 47 rfl) rfl rfl ?_
                generalize eν : (Mx (su (su μ (P + 90 + 2 * j) 1 b) (P + 90 + 2 * j) 2 (nI m)) (P + 90 + 2 * j + 1) B0) = ν
                have fν : ∀ d1, d1 ≠ P + 90 + 2 * j → d1 ≠ P + 90 + 2 * j + 1 → ν d1 = μ d1 := fun d1 h1 h2 => by rw [← eν, Mx_ne h2, su_ne h1, su_ne h1]
                have v1 : ν (P + 90 + 2 * j) 1 = b := by rw [← eν, Mx_ne (by omega), su_same, upd_ne _ _ (by decide), su_same, upd_at]
                have v2 : ν (P + 90 + 2 * j) 2 = nI m := by rw [← eν, Mx_ne (by omega), su_same, upd_at]
                have cν : ν (P + 90 + 2 * j + 1) = B0 := by rw [← eν]; exact Mx_same
                have hok : okB b := by unfold okB; grind
                have hnn : (if b = 0 then 0 else n) = nI m := by rw [if_neg hb0]; exact em
                refine p10_sheet (N := N) (A := A) (B := B) (C := C) hI.M (by rw [fν _ (by omega) (by omega)]; exact hN) (by rw [fν _ (by omega) (by omega)]; exact hA) (by rw [fν _ (by omega) (by omega)]; exact hB) (by rw [fν _ (by omega) (by omega)]; exact hC) (fun g => absurd ⟨⟨j, hj, ej⟩, hok⟩ g) (by intros; exfalso; grind) (by intros; exfalso; grind) (fun x hx ex _ _ => ⟨rfl, ?_⟩)
                have q1 := nI_j ex ej (by omega) (by omega)
                subst q1
                rw [hnn]
                refine fin_h hI (fun d1 h1 h2 => by rw [Mx_ne (by omega), su_ne (by omega), su_ne (by omega), fν _ (by omega) (by omega)]) (fun s1 hs1 => ?_)
                have z := hsh s1 hs1
                rw [Mx_ne (show o + 14 ≠ o + 16 by omega), su_ne (show o + 14 ≠ o + 15 by omega), su_same, Mx_ne (show o + 15 ≠ o + 16 by omega), su_same, su_ne (show o + 15 ≠ o + 14 by omega), Mx_same, Mx_ne (show P + 90 + 2 * s1 ≠ o + 16 by omega), su_ne (show P + 90 + 2 * s1 ≠ o + 15 by omega), su_ne (show P + 90 + 2 * s1 ≠ o + 14 by omega), Mx_ne (show P + 90 + 2 * s1 + 1 ≠ o + 16 by omega), su_ne (show P + 90 + 2 * s1 + 1 ≠ o + 15 by omega), su_ne (show P + 90 + 2 * s1 + 1 ≠ o + 14 by omega), fν (o + 14) (by omega) (by omega), fν (o + 15) (by omega) (by omega), hA, hB]
                by_cases c9 : s1 = x
                · subst c9
                  rw [upd_at, upd_at, cν, v1, v2]
                  refine ⟨hok, rfl, okN_of (by omega) (by decide), rfl, fun i1 hi1 => ?_⟩
                  rw [hB0 i1 hi1]; unfold clrN; rw [if_pos (by omega)]
                · rw [upd_ne _ _ c9, upd_ne _ _ c9, fν _ (by omega) (by omega), fν _ (by omega) (by omega)]
                  refine ⟨z.1, z.2.1, z.2.2.1, z.2.2.2.1, fun i1 hi1 => ?_⟩
                  unfold clrN; rw [if_neg (by omega)]; exact z.2.2.2.2 i1 hi1
              · refine X_iconst (tk_X9_sheet.at 42 rfl) ci_0 ?_
                refine X_goto (tgt := 85) (tk_X9_sheet.at 43 rfl) (by decide) ?_
                refine X_cV2v (lv2 := [(0, _), (1, _), (2, _)]) (tk_X9_sheet.at 45 rfl) mv_X7_become lk_x9_303 np_X7_become (hI.hs (i := j) (by omega)).1 (by decide) rfl (Nat.le_of_ble_eq_true rfl) (Nat.le_of_ble_eq_true rfl) rfl (c7_become (m := 0) (hI.hs (i := j) (by omega)) rfl (by omega) (fun B0 hB0 => ?_))
                refine X_iconst (tk_X9_sheet.at 46 rfl) ci_1 ?_
                refine X_ireturn (tk_X9_sheet.at 47 rfl) rfl rfl ?_
                generalize eν : (Mx (su (su μ (P + 90 + 2 * j) 1 b) (P + 90 + 2 * j) 2 (nI 0)) (P + 90 + 2 * j + 1) B0) = ν
                have fν : ∀ d1, d1 ≠ P + 90 + 2 * j → d1 ≠ P + 90 + 2 * j + 1 → ν d1 = μ d1 := fun d1 h1 h2 => by rw [← eν, Mx_ne h2, su_ne h1, su_ne h1]
                have v1 : ν (P + 90 + 2 * j) 1 = b := by rw [← eν, Mx_ne (by omega), su_same, upd_ne _ _ (by decide), su_same, upd_at]
                have v2 : ν (P + 90 + 2 * j) 2 = nI 0 := by rw [← eν, Mx_ne (by omega), su_same, upd_at]
                have cν : ν (P + 90 + 2 * j + 1) = B0 := by rw [← eν]; exact Mx_same
                have hok : okB b := by unfold okB; grind
                have hnn : (if b = 0 then 0 else n) = nI 0 := by rw [if_pos (by first | assumption | grind)]; rfl
                refine p10_sheet (N := N) (A := A) (B := B) (C := C) hI.M (by rw [fν _ (by omega) (by omega)]; exact hN) (by rw [fν _ (by omega) (by omega)]; exact hA) (by rw [fν _ (by omega) (by omega)]; exact hB) (by rw [fν _ (by omega) (by omega)]; exact hC) (fun g => absurd ⟨⟨j, hj, ej⟩, hok⟩ g) (by intros; exfalso; grind) (by intros; exfalso; grind) (fun x hx ex _ _ => ⟨rfl, ?_⟩)
                have q1 := nI_j ex ej (by omega) (by omega)
                subst q1
                rw [hnn]
                refine fin_h hI (fun d1 h1 h2 => by rw [Mx_ne (by omega), su_ne (by omega), su_ne (by omega), fν _ (by omega) (by omega)]) (fun s1 hs1 => ?_)
                have z := hsh s1 hs1
                rw [Mx_ne (show o + 14 ≠ o + 16 by omega), su_ne (show o + 14 ≠ o + 15 by omega), su_same, Mx_ne (show o + 15 ≠ o + 16 by omega), su_same, su_ne (show o + 15 ≠ o + 14 by omega), Mx_same, Mx_ne (show P + 90 + 2 * s1 ≠ o + 16 by omega), su_ne (show P + 90 + 2 * s1 ≠ o + 15 by omega), su_ne (show P + 90 + 2 * s1 ≠ o + 14 by omega), Mx_ne (show P + 90 + 2 * s1 + 1 ≠ o + 16 by omega), su_ne (show P + 90 + 2 * s1 + 1 ≠ o + 15 by omega), su_ne (show P + 90 + 2 * s1 + 1 ≠ o + 14 by omega), fν (o + 14) (by omega) (by omega), fν (o + 15) (by omega) (by omega), hA, hB]
                by_cases c9 : s1 = x
                · subst c9
                  rw [upd_at, upd_at, cν, v1, v2]
                  refine ⟨hok, rfl, okN_of (by omega) (by decide), rfl, fun i1 hi1 => ?_⟩
                  rw [hB0 i1 hi1]; unfold clrN; rw [if_pos (by omega)]
                · rw [upd_ne _ _ c9, upd_ne _ _ c9, fν _ (by omega) (by omega), fν _ (by omega) (by omega)]
                  refine ⟨z.1, z.2.1, z.2.2.1, z.2.2.2.1, fun i1 hi1 => ?_⟩
                  unfold clrN; rw [if_neg (by omega)]; exact z.2.2.2.2 i1 hi1
            · refine X_iload_n (tk_X9_sheet.at 31 rfl) rfl ?_
              refine X_bipush (tk_X9_sheet.at 32 rfl) cb_40 ?_
              refine X_icmp_le (tgt := 73) (tk_X9_sheet.at 33 rfl) (by decide) (fun c27 => ?_) (fun c27 => ?_)
              · refine X_aload (tk_X9_sheet.at 38 rfl) rfl ?_
                refine X_iload_n (tk_X9_sheet.at 39 rfl) rfl ?_
                refine X_iload_n (tk_X9_sheet.at 40 rfl) rfl ?_
                refine X_if_ne (tgt := 84) (tk_X9_sheet.at 41 rfl) (by decide) (fun c28 => ?_) (fun c28 => ?_)
                · refine X_iload_n (tk_X9_sheet.at 44 rfl) rfl ?_
                  have hb0 : ¬ b = 0 := by first | assumption | grind
                  have hn0 : 0 ≤ n ∧ n ≤ 40 := by grind
                  obtain ⟨m, em, hm⟩ : ∃ f, n = nI f ∧ f ≤ 40 := ⟨nv n, (le_lits (a := 0) (b := 40) (by decide) hn0.1 hn0.2 (by decide)).1, (le_lits (a := 0) (b := 40) (by decide) hn0.1 hn0.2 (by decide)).2.2⟩
                  refine X_cV2v (lv2 := [(0, _), (1, _), (2, _)]) (tk_X9_sheet.at 45 rfl) mv_X7_become lk_x9_303 np_X7_become (hI.hs (i := j) (by omega)).1 (by decide) rfl (Nat.le_of_ble_eq_true rfl) (Nat.le_of_ble_eq_true rfl) rfl (c7_become (m := m) (hI.hs (i := j) (by omega)) em (by omega) (fun B0 hB0 => ?_))
                  refine X_iconst (tk_X9_sheet.at 46 rfl) ci_1 ?_
                  refine X_ireturn (tk_X9_sheet.at 47 rfl) rfl rfl ?_
                  generalize eν : (Mx (su (su μ (P + 90 + 2 * j) 1 b) (P + 90 + 2 * j) 2 (nI m)) (P + 90 + 2 * j + 1) B0) = ν
                  have fν : ∀ d1, d1 ≠ P + 90 + 2 * j → d1 ≠ P + 90 + 2 * j + 1 → ν d1 = μ d1 := fun d1 h1 h2 => by rw [← eν, Mx_ne h2, su_ne h1, su_ne h1]
                  have v1 : ν (P + 90 + 2 * j) 1 = b := by rw [← eν, Mx_ne (by omega), su_same, upd_ne _ _ (by decide), su_same, upd_at]
                  have v2 : ν (P + 90 + 2 * j) 2 = nI m := by rw [← eν, Mx_ne (by omega), su_same, upd_at]
                  have cν : ν (P + 90 + 2 * j + 1) = B0 := by rw [← eν]; exact Mx_same
                  have hok : okB b := by unfold okB; grind
                  have hnn : (if b = 0 then 0 else n) = nI m := by rw [if_neg hb0]; exact em
                  refine p10_sheet (N := N) (A := A) (B := B) (C := C) hI.M (by rw [fν _ (by omega) (by omega)]; exact hN) (by rw [fν _ (by omega) (by omega)]; exact hA) (by rw [fν _ (by omega) (by omega)]; exact hB) (by rw [fν _ (by omega) (by omega)]; exact hC) (fun g => absurd ⟨⟨j, hj, ej⟩, hok⟩ g) (by intros; exfalso; grind) (by intros; exfalso; grind) (fun x hx ex _ _ => ⟨rfl, ?_⟩)
                  have q1 := nI_j ex ej (by omega) (by omega)
                  subst q1
                  rw [hnn]
                  refine fin_h hI (fun d1 h1 h2 => by rw [Mx_ne (by omega), su_ne (by omega), su_ne (by omega), fν _ (by omega) (by omega)]) (fun s1 hs1 => ?_)
                  have z := hsh s1 hs1
                  rw [Mx_ne (show o + 14 ≠ o + 16 by omega), su_ne (show o + 14 ≠ o + 15 by omega), su_same, Mx_ne (show o + 15 ≠ o + 16 by omega), su_same, su_ne (show o + 15 ≠ o + 14 by omega), Mx_same, Mx_ne (show P + 90 + 2 * s1 ≠ o + 16 by omega), su_ne (show P + 90 + 2 * s1 ≠ o + 15 by omega), su_ne (show P + 90 + 2 * s1 ≠ o + 14 by omega), Mx_ne (show P + 90 + 2 * s1 + 1 ≠ o + 16 by omega), su_ne (show P + 90 + 2 * s1 + 1 ≠ o + 15 by omega), su_ne (show P + 90 + 2 * s1 + 1 ≠ o + 14 by omega), fν (o + 14) (by omega) (by omega), fν (o + 15) (by omega) (by omega), hA, hB]
                  by_cases c9 : s1 = x
                  · subst c9
                    rw [upd_at, upd_at, cν, v1, v2]
                    refine ⟨hok, rfl, okN_of (by omega) (by decide), rfl, fun i1 hi1 => ?_⟩
                    rw [hB0 i1 hi1]; unfold clrN; rw [if_pos (by omega)]
                  · rw [upd_ne _ _ c9, upd_ne _ _ c9, fν _ (by omega) (by omega), fν _ (by omega) (by omega)]
                    refine ⟨z.1, z.2.1, z.2.2.1, z.2.2.2.1, fun i1 hi1 => ?_⟩
                    unfold clrN; rw [if_neg (by omega)]; exact z.2.2.2.2 i1 hi1
                · refine X_iconst (tk_X9_sheet.at 42 rfl) ci_0 ?_
                  refine X_goto (tgt := 85) (tk_X9_sheet.at 43 rfl) (by decide) ?_
                  refine X_cV2v (lv2 := [(0, _), (1, _), (2, _)]) (tk_X9_sheet.at 45 rfl) mv_X7_become lk_x9_303 np_X7_become (hI.hs (i := j) (by omega)).1 (by decide) rfl (Nat.le_of_ble_eq_true rfl) (Nat.le_of_ble_eq_true rfl) rfl (c7_become (m := 0) (hI.hs (i := j) (by omega)) rfl (by omega) (fun B0 hB0 => ?_))
                  refine X_iconst (tk_X9_sheet.at 46 rfl) ci_1 ?_
                  refine X_ireturn (tk_X9_sheet.at 47 rfl) rfl rfl ?_
                  generalize eν : (Mx (su (su μ (P + 90 + 2 * j) 1 b) (P + 90 + 2 * j) 2 (nI 0)) (P + 90 + 2 * j + 1) B0) = ν
                  have fν : ∀ d1, d1 ≠ P + 90 + 2 * j → d1 ≠ P + 90 + 2 * j + 1 → ν d1 = μ d1 := fun d1 h1 h2 => by rw [← eν, Mx_ne h2, su_ne h1, su_ne h1]
                  have v1 : ν (P + 90 + 2 * j) 1 = b := by rw [← eν, Mx_ne (by omega), su_same, upd_ne _ _ (by decide), su_same, upd_at]
                  have v2 : ν (P + 90 + 2 * j) 2 = nI 0 := by rw [← eν, Mx_ne (by omega), su_same, upd_at]
                  have cν : ν (P + 90 + 2 * j + 1) = B0 := by rw [← eν]; exact Mx_same
                  have hok : okB b := by unfold okB; grind
                  have hnn : (if b = 0 then 0 else n) = nI 0 := by rw [if_pos (by first | assumption | grind)]; rfl
                  refine p10_sheet (N := N) (A := A) (B := B) (C := C) hI.M (by rw [fν _ (by omega) (by omega)]; exact hN) (by rw [fν _ (by omega) (by omega)]; exact hA) (by rw [fν _ (by omega) (by omega)]; exact hB) (by rw [fν _ (by omega) (by omega)]; exact hC) (fun g => absurd ⟨⟨j, hj, ej⟩, hok⟩ g) (by intros; exfalso; grind) (by intros; exfalso; grind) (fun x hx ex _ _ => ⟨rfl, ?_⟩)
                  have q1 := nI_j ex ej (by omega) (by omega)
                  subst q1
                  rw [hnn]
                  refine fin_h hI (fun d1 h1 h2 => by rw [Mx_ne (by omega), su_ne (by omega), su_ne (by omega), fν _ (by omega) (by omega)]) (fun s1 hs1 => ?_)
                  have z := hsh s1 hs1
                  rw [Mx_ne (show o + 14 ≠ o + 16 by omega), su_ne (show o + 14 ≠ o + 15 by omega), su_same, Mx_ne (show o + 15 ≠ o + 16 by omega), su_same, su_ne (show o + 15 ≠ o + 14 by omega), Mx_same, Mx_ne (show P + 90 + 2 * s1 ≠ o + 16 by omega), su_ne (show P + 90 + 2 * s1 ≠ o + 15 by omega), su_ne (show P + 90 + 2 * s1 ≠ o + 14 by omega), Mx_ne (show P + 90 + 2 * s1 + 1 ≠ o + 16 by omega), su_ne (show P + 90 + 2 * s1 + 1 ≠ o + 15 by omega), su_ne (show P + 90 + 2 * s1 + 1 ≠ o + 14 by omega), fν (o + 14) (by omega) (by omega), fν (o + 15) (by omega) (by omega), hA, hB]
                  by_cases c9 : s1 = x
                  · subst c9
                    rw [upd_at, upd_at, cν, v1, v2]
                    refine ⟨hok, rfl, okN_of (by omega) (by decide), rfl, fun i1 hi1 => ?_⟩
                    rw [hB0 i1 hi1]; unfold clrN; rw [if_pos (by omega)]
                  · rw [upd_ne _ _ c9, upd_ne _ _ c9, fν _ (by omega) (by omega), fν _ (by omega) (by omega)]
                    refine ⟨z.1, z.2.1, z.2.2.1, z.2.2.2.1, fun i1 hi1 => ?_⟩
                    unfold clrN; rw [if_neg (by omega)]; exact z.2.2.2.2 i1 hi1
              · refine X_aload_n (tk_X9_sheet.at 34 rfl) rfl ?_
                refine X_ldc (tk_X9_sheet.at 35 rfl) kn_x9_76 ?_
                refine X_cV1i (lv2 := [(0, _), (1, _)]) (tk_X9_sheet.at 36 rfl) mv_X9_fail lk_x9_77 np_X9_fail hI.P0 (by decide) rfl (Nat.le_of_ble_eq_true rfl) (Nat.le_of_ble_eq_true rfl) rfl (c9_fail (k := 1) hI.P0 hI.E (by decide) (by decide) ?_)
                refine X_ireturn (tk_X9_sheet.at 37 rfl) rfl rfl ?_
                refine p10_sheet (N := N) (A := A) (B := B) (C := C) hI.M (by rw [su_ne (by omega)]; exact hN) (by rw [su_ne (by omega)]; exact hA) (by rw [su_ne (by omega)]; exact hB) (by rw [su_ne (by omega)]; exact hC) (by intros; first | (exfalso; grind [In, nI_eq, okB]) | exact ⟨by grind [In, nI_eq, okB], fin_e hI (Fs.rf hI) (Sq.rf _ _) rfl⟩) (by intros; first | (exfalso; grind [In, nI_eq, okB]) | exact ⟨by grind [In, nI_eq, okB], fin_e hI (Fs.rf hI) (Sq.rf _ _) rfl⟩) (by intros; first | (exfalso; grind [In, nI_eq, okB]) | exact ⟨by grind [In, nI_eq, okB], fin_e hI (Fs.rf hI) (Sq.rf _ _) rfl⟩) (by intros; first | (exfalso; grind [In, nI_eq, okB]) | exact ⟨by grind [In, nI_eq, okB], fin_e hI (Fs.rf hI) (Sq.rf _ _) rfl⟩)
          · refine X_iload_n (tk_X9_sheet.at 23 rfl) rfl ?_
            refine X_if_ge (tgt := 56) (tk_X9_sheet.at 24 rfl) (by decide) (fun c29 => ?_) (fun c29 => ?_)
            · refine X_iload_n (tk_X9_sheet.at 29 rfl) rfl ?_
              refine X_if_eq (tgt := 73) (tk_X9_sheet.at 30 rfl) (by decide) (fun c30 => ?_) (fun c30 => ?_)
              · refine X_aload (tk_X9_sheet.at 38 rfl) rfl ?_
                refine X_iload_n (tk_X9_sheet.at 39 rfl) rfl ?_
                refine X_iload_n (tk_X9_sheet.at 40 rfl) rfl ?_
                refine X_if_ne (tgt := 84) (tk_X9_sheet.at 41 rfl) (by decide) (fun c31 => ?_) (fun c31 => ?_)
                · refine X_iload_n (tk_X9_sheet.at 44 rfl) rfl ?_
                  have hb0 : ¬ b = 0 := by first | assumption | grind
                  have hn0 : 0 ≤ n ∧ n ≤ 40 := by grind
                  obtain ⟨m, em, hm⟩ : ∃ f, n = nI f ∧ f ≤ 40 := ⟨nv n, (le_lits (a := 0) (b := 40) (by decide) hn0.1 hn0.2 (by decide)).1, (le_lits (a := 0) (b := 40) (by decide) hn0.1 hn0.2 (by decide)).2.2⟩
                  refine X_cV2v (lv2 := [(0, _), (1, _), (2, _)]) (tk_X9_sheet.at 45 rfl) mv_X7_become lk_x9_303 np_X7_become (hI.hs (i := j) (by omega)).1 (by decide) rfl (Nat.le_of_ble_eq_true rfl) (Nat.le_of_ble_eq_true rfl) rfl (c7_become (m := m) (hI.hs (i := j) (by omega)) em (by omega) (fun B0 hB0 => ?_))
                  refine X_iconst (tk_X9_sheet.at 46 rfl) ci_1 ?_
                  refine X_ireturn (tk_X9_sheet.at 47 rfl) rfl rfl ?_
                  generalize eν : (Mx (su (su μ (P + 90 + 2 * j) 1 b) (P + 90 + 2 * j) 2 (nI m)) (P + 90 + 2 * j + 1) B0) = ν
                  have fν : ∀ d1, d1 ≠ P + 90 + 2 * j → d1 ≠ P + 90 + 2 * j + 1 → ν d1 = μ d1 := fun d1 h1 h2 => by rw [← eν, Mx_ne h2, su_ne h1, su_ne h1]
                  have v1 : ν (P + 90 + 2 * j) 1 = b := by rw [← eν, Mx_ne (by omega), su_same, upd_ne _ _ (by decide), su_same, upd_at]
                  have v2 : ν (P + 90 + 2 * j) 2 = nI m := by rw [← eν, Mx_ne (by omega), su_same, upd_at]
                  have cν : ν (P + 90 + 2 * j + 1) = B0 := by rw [← eν]; exact Mx_same
                  have hok : okB b := by unfold okB; grind
                  have hnn : (if b = 0 then 0 else n) = nI m := by rw [if_neg hb0]; exact em
                  refine p10_sheet (N := N) (A := A) (B := B) (C := C) hI.M (by rw [fν _ (by omega) (by omega)]; exact hN) (by rw [fν _ (by omega) (by omega)]; exact hA) (by rw [fν _ (by omega) (by omega)]; exact hB) (by rw [fν _ (by omega) (by omega)]; exact hC) (fun g => absurd ⟨⟨j, hj, ej⟩, hok⟩ g) (by intros; exfalso; grind) (by intros; exfalso; grind) (fun x hx ex _ _ => ⟨rfl, ?_⟩)
                  have q1 := nI_j ex ej (by omega) (by omega)
                  subst q1
                  rw [hnn]
                  refine fin_h hI (fun d1 h1 h2 => by rw [Mx_ne (by omega), su_ne (by omega), su_ne (by omega), fν _ (by omega) (by omega)]) (fun s1 hs1 => ?_)
                  have z := hsh s1 hs1
                  rw [Mx_ne (show o + 14 ≠ o + 16 by omega), su_ne (show o + 14 ≠ o + 15 by omega), su_same, Mx_ne (show o + 15 ≠ o + 16 by omega), su_same, su_ne (show o + 15 ≠ o + 14 by omega), Mx_same, Mx_ne (show P + 90 + 2 * s1 ≠ o + 16 by omega), su_ne (show P + 90 + 2 * s1 ≠ o + 15 by omega), su_ne (show P + 90 + 2 * s1 ≠ o + 14 by omega), Mx_ne (show P + 90 + 2 * s1 + 1 ≠ o + 16 by omega), su_ne (show P + 90 + 2 * s1 + 1 ≠ o + 15 by omega), su_ne (show P + 90 + 2 * s1 + 1 ≠ o + 14 by omega), fν (o + 14) (by omega) (by omega), fν (o + 15) (by omega) (by omega), hA, hB]
                  by_cases c9 : s1 = x
                  · subst c9
                    rw [upd_at, upd_at, cν, v1, v2]
                    refine ⟨hok, rfl, okN_of (by omega) (by decide), rfl, fun i1 hi1 => ?_⟩
                    rw [hB0 i1 hi1]; unfold clrN; rw [if_pos (by omega)]
                  · rw [upd_ne _ _ c9, upd_ne _ _ c9, fν _ (by omega) (by omega), fν _ (by omega) (by omega)]
                    refine ⟨z.1, z.2.1, z.2.2.1, z.2.2.2.1, fun i1 hi1 => ?_⟩
                    unfold clrN; rw [if_neg (by omega)]; exact z.2.2.2.2 i1 hi1
                · refine X_iconst (tk_X9_sheet.at 42 rfl) ci_0 ?_
                  refine X_goto (tgt := 85) (tk_X9_sheet.at 43 rfl) (by decide) ?_
                  refine X_cV2v (lv2 := [(0, _), (1, _), (2, _)]) (tk_X9_sheet.at 45 rfl) mv_X7_become lk_x9_303 np_X7_become (hI.hs (i := j) (by omega)).1 (by decide) rfl (Nat.le_of_ble_eq_true rfl) (Nat.le_of_ble_eq_true rfl) rfl (c7_become (m := 0) (hI.hs (i := j) (by omega)) rfl (by omega) (fun B0 hB0 => ?_))
                  refine X_iconst (tk_X9_sheet.at 46 rfl) ci_1 ?_
                  refine X_ireturn (tk_X9_sheet.at 47 rfl) rfl rfl ?_
                  generalize eν : (Mx (su (su μ (P + 90 + 2 * j) 1 b) (P + 90 + 2 * j) 2 (nI 0)) (P + 90 + 2 * j + 1) B0) = ν
                  have fν : ∀ d1, d1 ≠ P + 90 + 2 * j → d1 ≠ P + 90 + 2 * j + 1 → ν d1 = μ d1 := fun d1 h1 h2 => by rw [← eν, Mx_ne h2, su_ne h1, su_ne h1]
                  have v1 : ν (P + 90 + 2 * j) 1 = b := by rw [← eν, Mx_ne (by omega), su_same, upd_ne _ _ (by decide), su_same, upd_at]
                  have v2 : ν (P + 90 + 2 * j) 2 = nI 0 := by rw [← eν, Mx_ne (by omega), su_same, upd_at]
                  have cν : ν (P + 90 + 2 * j + 1) = B0 := by rw [← eν]; exact Mx_same
                  have hok : okB b := by unfold okB; grind
                  have hnn : (if b = 0 then 0 else n) = nI 0 := by rw [if_pos (by first | assumption | grind)]; rfl
                  refine p10_sheet (N := N) (A := A) (B := B) (C := C) hI.M (by rw [fν _ (by omega) (by omega)]; exact hN) (by rw [fν _ (by omega) (by omega)]; exact hA) (by rw [fν _ (by omega) (by omega)]; exact hB) (by rw [fν _ (by omega) (by omega)]; exact hC) (fun g => absurd ⟨⟨j, hj, ej⟩, hok⟩ g) (by intros; exfalso; grind) (by intros; exfalso; grind) (fun x hx ex _ _ => ⟨rfl, ?_⟩)
                  have q1 := nI_j ex ej (by omega) (by omega)
                  subst q1
                  rw [hnn]
                  refine fin_h hI (fun d1 h1 h2 => by rw [Mx_ne (by omega), su_ne (by omega), su_ne (by omega), fν _ (by omega) (by omega)]) (fun s1 hs1 => ?_)
                  have z := hsh s1 hs1
                  rw [Mx_ne (show o + 14 ≠ o + 16 by omega), su_ne (show o + 14 ≠ o + 15 by omega), su_same, Mx_ne (show o + 15 ≠ o + 16 by omega), su_same, su_ne (show o + 15 ≠ o + 14 by omega), Mx_same, Mx_ne (show P + 90 + 2 * s1 ≠ o + 16 by omega), su_ne (show P + 90 + 2 * s1 ≠ o + 15 by omega), su_ne (show P + 90 + 2 * s1 ≠ o + 14 by omega), Mx_ne (show P + 90 + 2 * s1 + 1 ≠ o + 16 by omega), su_ne (show P + 90 + 2 * s1 + 1 ≠ o + 15 by omega), su_ne (show P + 90 + 2 * s1 + 1 ≠ o + 14 by omega), fν (o + 14) (by omega) (by omega), fν (o + 15) (by omega) (by omega), hA, hB]
                  by_cases c9 : s1 = x
                  · subst c9
                    rw [upd_at, upd_at, cν, v1, v2]
                    refine ⟨hok, rfl, okN_of (by omega) (by decide), rfl, fun i1 hi1 => ?_⟩
                    rw [hB0 i1 hi1]; unfold clrN; rw [if_pos (by omega)]
                  · rw [upd_ne _ _ c9, upd_ne _ _ c9, fν _ (by omega) (by omega), fν _ (by omega) (by omega)]
                    refine ⟨z.1, z.2.1, z.2.2.1, z.2.2.2.1, fun i1 hi1 => ?_⟩
                    unfold clrN; rw [if_neg (by omega)]; exact z.2.2.2.2 i1 hi1
              · refine X_iload_n (tk_X9_sheet.at 31 rfl) rfl ?_
                refine X_bipush (tk_X9_sheet.at 32 rfl) cb_40 ?_
                refine X_icmp_le (tgt := 73) (tk_X9_sheet.at 33 rfl) (by decide) (fun c32 => ?_) (fun c32 => ?_)
                · refine X_aload (tk_X9_sheet.at 38 rfl) rfl ?_
                  refine X_iload_n (tk_X9_sheet.at 39 rfl) rfl ?_
                  refine X_iload_n (tk_X9_sheet.at 40 rfl) rfl ?_
                  refine X_if_ne (tgt := 84) (tk_X9_sheet.at 41 rfl) (by decide) (fun c33 => ?_) (fun c33 => ?_)
                  · refine X_iload_n (tk_X9_sheet.at 44 rfl) rfl ?_
                    have hb0 : ¬ b = 0 := by first | assumption | grind
                    have hn0 : 0 ≤ n ∧ n ≤ 40 := by grind
                    obtain ⟨m, em, hm⟩ : ∃ f, n = nI f ∧ f ≤ 40 := ⟨nv n, (le_lits (a := 0) (b := 40) (by decide) hn0.1 hn0.2 (by decide)).1, (le_lits (a := 0) (b := 40) (by decide) hn0.1 hn0.2 (by decide)).2.2⟩
                    refine X_cV2v (lv2 := [(0, _), (1, _), (2, _)]) (tk_X9_sheet.at 45 rfl) mv_X7_become lk_x9_303 np_X7_become (hI.hs (i := j) (by omega)).1 (by decide) rfl (Nat.le_of_ble_eq_true rfl) (Nat.le_of_ble_eq_true rfl) rfl (c7_become (m := m) (hI.hs (i := j) (by omega)) em (by omega) (fun B0 hB0 => ?_))
                    refine X_iconst (tk_X9_sheet.at 46 rfl) ci_1 ?_
                    refine X_ireturn (tk_X9_sheet.at 47 rfl) rfl rfl ?_
                    generalize eν : (Mx (su (su μ (P + 90 + 2 * j) 1 b) (P + 90 + 2 * j) 2 (nI m)) (P + 90 + 2 * j + 1) B0) = ν
                    have fν : ∀ d1, d1 ≠ P + 90 + 2 * j → d1 ≠ P + 90 + 2 * j + 1 → ν d1 = μ d1 := fun d1 h1 h2 => by rw [← eν, Mx_ne h2, su_ne h1, su_ne h1]
                    have v1 : ν (P + 90 + 2 * j) 1 = b := by rw [← eν, Mx_ne (by omega), su_same, upd_ne _ _ (by decide), su_same, upd_at]
                    have v2 : ν (P + 90 + 2 * j) 2 = nI m := by rw [← eν, Mx_ne (by omega), su_same, upd_at]
                    have cν : ν (P + 90 + 2 * j + 1) = B0 := by rw [← eν]; exact Mx_same
                    have hok : okB b := by unfold okB; grind
                    have hnn : (if b = 0 then 0 else n) = nI m := by rw [if_neg hb0]; exact em
                    refine p10_sheet (N := N) (A := A) (B := B) (C := C) hI.M (by rw [fν _ (by omega) (by omega)]; exact hN) (by rw [fν _ (by omega) (by omega)]; exact hA) (by rw [fν _ (by omega) (by omega)]; exact hB) (by rw [fν _ (by omega) (by omega)]; exact hC) (fun g => absurd ⟨⟨j, hj, ej⟩, hok⟩ g) (by intros; exfalso; grind) (by intros; exfalso; grind) (fun x hx ex _ _ => ⟨rfl, ?_⟩)
                    have q1 := nI_j ex ej (by omega) (by omega)
                    subst q1
                    rw [hnn]
                    refine fin_h hI (fun d1 h1 h2 => by rw [Mx_ne (by omega), su_ne (by omega), su_ne (by omega), fν _ (by omega) (by omega)]) (fun s1 hs1 => ?_)
                    have z := hsh s1 hs1
                    rw [Mx_ne (show o + 14 ≠ o + 16 by omega), su_ne (show o + 14 ≠ o + 15 by omega), su_same, Mx_ne (show o + 15 ≠ o + 16 by omega), su_same, su_ne (show o + 15 ≠ o + 14 by omega), Mx_same, Mx_ne (show P + 90 + 2 * s1 ≠ o + 16 by omega), su_ne (show P + 90 + 2 * s1 ≠ o + 15 by omega), su_ne (show P + 90 + 2 * s1 ≠ o + 14 by omega), Mx_ne (show P + 90 + 2 * s1 + 1 ≠ o + 16 by omega), su_ne (show P + 90 + 2 * s1 + 1 ≠ o + 15 by omega), su_ne (show P + 90 + 2 * s1 + 1 ≠ o + 14 by omega), fν (o + 14) (by omega) (by omega), fν (o + 15) (by omega) (by omega), hA, hB]
                    by_cases c9 : s1 = x
                    · subst c9
                      rw [upd_at, upd_at, cν, v1, v2]
                      refine ⟨hok, rfl, okN_of (by omega) (by decide), rfl, fun i1 hi1 => ?_⟩
                      rw [hB0 i1 hi1]; unfold clrN; rw [if_pos (by omega)]
                    · rw [upd_ne _ _ c9, upd_ne _ _ c9, fν _ (by omega) (by omega), fν _ (by omega) (by omega)]
                      refine ⟨z.1, z.2.1, z.2.2.1, z.2.2.2.1, fun i1 hi1 => ?_⟩
                      unfold clrN; rw [if_neg (by omega)]; exact z.2.2.2.2 i1 hi1
                  · refine X_iconst (tk_X9_sheet.at 42 rfl) ci_0 ?_
                    refine X_goto (tgt := 85) (tk_X9_sheet.at 43 rfl) (by decide) ?_
                    refine X_cV2v (lv2 := [(0, _), (1, _), (2, _)]) (tk_X9_sheet.at 45 rfl) mv_X7_become lk_x9_303 np_X7_become (hI.hs (i := j) (by omega)).1 (by decide) rfl (Nat.le_of_ble_eq_true rfl) (Nat.le_of_ble_eq_true rfl) rfl (c7_become (m := 0) (hI.hs (i := j) (by omega)) rfl (by omega) (fun B0 hB0 => ?_))
                    refine X_iconst (tk_X9_sheet.at 46 rfl) ci_1 ?_
                    refine X_ireturn (tk_X9_sheet.at 47 rfl) rfl rfl ?_
                    generalize eν : (Mx (su (su μ (P + 90 + 2 * j) 1 b) (P + 90 + 2 * j) 2 (nI 0)) (P + 90 + 2 * j + 1) B0) = ν
                    have fν : ∀ d1, d1 ≠ P + 90 + 2 * j → d1 ≠ P + 90 + 2 * j + 1 → ν d1 = μ d1 := fun d1 h1 h2 => by rw [← eν, Mx_ne h2, su_ne h1, su_ne h1]
                    have v1 : ν (P + 90 + 2 * j) 1 = b := by rw [← eν, Mx_ne (by omega), su_same, upd_ne _ _ (by decide), su_same, upd_at]
                    have v2 : ν (P + 90 + 2 * j) 2 = nI 0 := by rw [← eν, Mx_ne (by omega), su_same, upd_at]
                    have cν : ν (P + 90 + 2 * j + 1) = B0 := by rw [← eν]; exact Mx_same
                    have hok : okB b := by unfold okB; grind
                    have hnn : (if b = 0 then 0 else n) = nI 0 := by rw [if_pos (by first | assumption | grind)]; rfl
                    refine p10_sheet (N := N) (A := A) (B := B) (C := C) hI.M (by rw [fν _ (by omega) (by omega)]; exact hN) (by rw [fν _ (by omega) (by omega)]; exact hA) (by rw [fν _ (by omega) (by omega)]; exact hB) (by rw [fν _ (by omega) (by omega)]; exact hC) (fun g => absurd ⟨⟨j, hj, ej⟩, hok⟩ g) (by intros; exfalso; grind) (by intros; exfalso; grind) (fun x hx ex _ _ => ⟨rfl, ?_⟩)
                    have q1 := nI_j ex ej (by omega) (by omega)
                    subst q1
                    rw [hnn]
                    refine fin_h hI (fun d1 h1 h2 => by rw [Mx_ne (by omega), su_ne (by omega), su_ne (by omega), fν _ (by omega) (by omega)]) (fun s1 hs1 => ?_)
                    have z := hsh s1 hs1
                    rw [Mx_ne (show o + 14 ≠ o + 16 by omega), su_ne (show o + 14 ≠ o + 15 by omega), su_same, Mx_ne (show o + 15 ≠ o + 16 by omega), su_same, su_ne (show o + 15 ≠ o + 14 by omega), Mx_same, Mx_ne (show P + 90 + 2 * s1 ≠ o + 16 by omega), su_ne (show P + 90 + 2 * s1 ≠ o + 15 by omega), su_ne (show P + 90 + 2 * s1 ≠ o + 14 by omega), Mx_ne (show P + 90 + 2 * s1 + 1 ≠ o + 16 by omega), su_ne (show P + 90 + 2 * s1 + 1 ≠ o + 15 by omega), su_ne (show P + 90 + 2 * s1 + 1 ≠ o + 14 by omega), fν (o + 14) (by omega) (by omega), fν (o + 15) (by omega) (by omega), hA, hB]
                    by_cases c9 : s1 = x
                    · subst c9
                      rw [upd_at, upd_at, cν, v1, v2]
                      refine ⟨hok, rfl, okN_of (by omega) (by decide), rfl, fun i1 hi1 => ?_⟩
                      rw [hB0 i1 hi1]; unfold clrN; rw [if_pos (by omega)]
                    · rw [upd_ne _ _ c9, upd_ne _ _ c9, fν _ (by omega) (by omega), fν _ (by omega) (by omega)]
                      refine ⟨z.1, z.2.1, z.2.2.1, z.2.2.2.1, fun i1 hi1 => ?_⟩
                      unfold clrN; rw [if_neg (by omega)]; exact z.2.2.2.2 i1 hi1
                · refine X_aload_n (tk_X9_sheet.at 34 rfl) rfl ?_
                  refine X_ldc (tk_X9_sheet.at 35 rfl) kn_x9_76 ?_
                  refine X_cV1i (lv2 := [(0, _), (1, _)]) (tk_X9_sheet.at 36 rfl) mv_X9_fail lk_x9_77 np_X9_fail hI.P0 (by decide) rfl (Nat.le_of_ble_eq_true rfl) (Nat.le_of_ble_eq_true rfl) rfl (c9_fail (k := 1) hI.P0 hI.E (by decide) (by decide) ?_)
                  refine X_ireturn (tk_X9_sheet.at 37 rfl) rfl rfl ?_
                  refine p10_sheet (N := N) (A := A) (B := B) (C := C) hI.M (by rw [su_ne (by omega)]; exact hN) (by rw [su_ne (by omega)]; exact hA) (by rw [su_ne (by omega)]; exact hB) (by rw [su_ne (by omega)]; exact hC) (by intros; first | (exfalso; grind [In, nI_eq, okB]) | exact ⟨by grind [In, nI_eq, okB], fin_e hI (Fs.rf hI) (Sq.rf _ _) rfl⟩) (by intros; first | (exfalso; grind [In, nI_eq, okB]) | exact ⟨by grind [In, nI_eq, okB], fin_e hI (Fs.rf hI) (Sq.rf _ _) rfl⟩) (by intros; first | (exfalso; grind [In, nI_eq, okB]) | exact ⟨by grind [In, nI_eq, okB], fin_e hI (Fs.rf hI) (Sq.rf _ _) rfl⟩) (by intros; first | (exfalso; grind [In, nI_eq, okB]) | exact ⟨by grind [In, nI_eq, okB], fin_e hI (Fs.rf hI) (Sq.rf _ _) rfl⟩)
            · refine X_aload_n (tk_X9_sheet.at 25 rfl) rfl ?_
              refine X_ldc (tk_X9_sheet.at 26 rfl) kn_x9_130 ?_
              refine X_cV1i (lv2 := [(0, _), (1, _)]) (tk_X9_sheet.at 27 rfl) mv_X9_fail lk_x9_77 np_X9_fail hI.P0 (by decide) rfl (Nat.le_of_ble_eq_true rfl) (Nat.le_of_ble_eq_true rfl) rfl (c9_fail (k := 3) hI.P0 hI.E (by decide) (by decide) ?_)
              refine X_ireturn (tk_X9_sheet.at 28 rfl) rfl rfl ?_
              refine p10_sheet (N := N) (A := A) (B := B) (C := C) hI.M (by rw [su_ne (by omega)]; exact hN) (by rw [su_ne (by omega)]; exact hA) (by rw [su_ne (by omega)]; exact hB) (by rw [su_ne (by omega)]; exact hC) (by intros; first | (exfalso; grind [In, nI_eq, okB]) | exact ⟨by grind [In, nI_eq, okB], fin_e hI (Fs.rf hI) (Sq.rf _ _) rfl⟩) (by intros; first | (exfalso; grind [In, nI_eq, okB]) | exact ⟨by grind [In, nI_eq, okB], fin_e hI (Fs.rf hI) (Sq.rf _ _) rfl⟩) (by intros; first | (exfalso; grind [In, nI_eq, okB]) | exact ⟨by grind [In, nI_eq, okB], fin_e hI (Fs.rf hI) (Sq.rf _ _) rfl⟩) (by intros; first | (exfalso; grind [In, nI_eq, okB]) | exact ⟨by grind [In, nI_eq, okB], fin_e hI (Fs.rf hI) (Sq.rf _ _) rfl⟩)
        · refine X_iload_n (tk_X9_sheet.at 14 rfl) rfl ?_
          refine X_bipush (tk_X9_sheet.at 15 rfl) cb_32 ?_
          refine X_icmp_eq (tgt := 41) (tk_X9_sheet.at 16 rfl) (by decide) (fun c34 => ?_) (fun c34 => ?_)
          · refine X_iload_n (tk_X9_sheet.at 21 rfl) rfl ?_
            refine X_if_eq (tgt := 56) (tk_X9_sheet.at 22 rfl) (by decide) (fun c35 => ?_) (fun c35 => ?_)
            · refine X_iload_n (tk_X9_sheet.at 29 rfl) rfl ?_
              refine X_if_eq (tgt := 73) (tk_X9_sheet.at 30 rfl) (by decide) (fun c36 => ?_) (fun c36 => ?_)
              · refine X_aload (tk_X9_sheet.at 38 rfl) rfl ?_
                refine X_iload_n (tk_X9_sheet.at 39 rfl) rfl ?_
                refine X_iload_n (tk_X9_sheet.at 40 rfl) rfl ?_
                refine X_if_ne (tgt := 84) (tk_X9_sheet.at 41 rfl) (by decide) (fun c37 => ?_) (fun c37 => ?_)
                · refine X_iload_n (tk_X9_sheet.at 44 rfl) rfl ?_
                  have hb0 : ¬ b = 0 := by first | assumption | grind
                  have hn0 : 0 ≤ n ∧ n ≤ 40 := by grind
                  obtain ⟨m, em, hm⟩ : ∃ f, n = nI f ∧ f ≤ 40 := ⟨nv n, (le_lits (a := 0) (b := 40) (by decide) hn0.1 hn0.2 (by decide)).1, (le_lits (a := 0) (b := 40) (by decide) hn0.1 hn0.2 (by decide)).2.2⟩
                  refine X_cV2v (lv2 := [(0, _), (1, _), (2, _)]) (tk_X9_sheet.at 45 rfl) mv_X7_become lk_x9_303 np_X7_become (hI.hs (i := j) (by omega)).1 (by decide) rfl (Nat.le_of_ble_eq_true rfl) (Nat.le_of_ble_eq_true rfl) rfl (c7_become (m := m) (hI.hs (i := j) (by omega)) em (by omega) (fun B0 hB0 => ?_))
                  refine X_iconst (tk_X9_sheet.at 46 rfl) ci_1 ?_
                  refine X_ireturn (tk_X9_sheet.at 47 rfl) rfl rfl ?_
                  generalize eν : (Mx (su (su μ (P + 90 + 2 * j) 1 b) (P + 90 + 2 * j) 2 (nI m)) (P + 90 + 2 * j + 1) B0) = ν
                  have fν : ∀ d1, d1 ≠ P + 90 + 2 * j → d1 ≠ P + 90 + 2 * j + 1 → ν d1 = μ d1 := fun d1 h1 h2 => by rw [← eν, Mx_ne h2, su_ne h1, su_ne h1]
                  have v1 : ν (P + 90 + 2 * j) 1 = b := by rw [← eν, Mx_ne (by omega), su_same, upd_ne _ _ (by decide), su_same, upd_at]
                  have v2 : ν (P + 90 + 2 * j) 2 = nI m := by rw [← eν, Mx_ne (by omega), su_same, upd_at]
                  have cν : ν (P + 90 + 2 * j + 1) = B0 := by rw [← eν]; exact Mx_same
                  have hok : okB b := by unfold okB; grind
                  have hnn : (if b = 0 then 0 else n) = nI m := by rw [if_neg hb0]; exact em
                  refine p10_sheet (N := N) (A := A) (B := B) (C := C) hI.M (by rw [fν _ (by omega) (by omega)]; exact hN) (by rw [fν _ (by omega) (by omega)]; exact hA) (by rw [fν _ (by omega) (by omega)]; exact hB) (by rw [fν _ (by omega) (by omega)]; exact hC) (fun g => absurd ⟨⟨j, hj, ej⟩, hok⟩ g) (by intros; exfalso; grind) (by intros; exfalso; grind) (fun x hx ex _ _ => ⟨rfl, ?_⟩)
                  have q1 := nI_j ex ej (by omega) (by omega)
                  subst q1
                  rw [hnn]
                  refine fin_h hI (fun d1 h1 h2 => by rw [Mx_ne (by omega), su_ne (by omega), su_ne (by omega), fν _ (by omega) (by omega)]) (fun s1 hs1 => ?_)
                  have z := hsh s1 hs1
                  rw [Mx_ne (show o + 14 ≠ o + 16 by omega), su_ne (show o + 14 ≠ o + 15 by omega), su_same, Mx_ne (show o + 15 ≠ o + 16 by omega), su_same, su_ne (show o + 15 ≠ o + 14 by omega), Mx_same, Mx_ne (show P + 90 + 2 * s1 ≠ o + 16 by omega), su_ne (show P + 90 + 2 * s1 ≠ o + 15 by omega), su_ne (show P + 90 + 2 * s1 ≠ o + 14 by omega), Mx_ne (show P + 90 + 2 * s1 + 1 ≠ o + 16 by omega), su_ne (show P + 90 + 2 * s1 + 1 ≠ o + 15 by omega), su_ne (show P + 90 + 2 * s1 + 1 ≠ o + 14 by omega), fν (o + 14) (by omega) (by omega), fν (o + 15) (by omega) (by omega), hA, hB]
                  by_cases c9 : s1 = x
                  · subst c9
                    rw [upd_at, upd_at, cν, v1, v2]
                    refine ⟨hok, rfl, okN_of (by omega) (by decide), rfl, fun i1 hi1 => ?_⟩
                    rw [hB0 i1 hi1]; unfold clrN; rw [if_pos (by omega)]
                  · rw [upd_ne _ _ c9, upd_ne _ _ c9, fν _ (by omega) (by omega), fν _ (by omega) (by omega)]
                    refine ⟨z.1, z.2.1, z.2.2.1, z.2.2.2.1, fun i1 hi1 => ?_⟩
                    unfold clrN; rw [if_neg (by omega)]; exact z.2.2.2.2 i1 hi1
                · refine X_iconst (tk_X9_sheet.at 42 rfl) ci_0 ?_
                  refine X_goto (tgt := 85) (tk_X9_sheet.at 43 rfl) (by decide) ?_
                  refine X_cV2v (lv2 := [(0, _), (1, _), (2, _)]) (tk_X9_sheet.at 45 rfl) mv_X7_become lk_x9_303 np_X7_become (hI.hs (i := j) (by omega)).1 (by decide) rfl (Nat.le_of_ble_eq_true rfl) (Nat.le_of_ble_eq_true rfl) rfl (c7_become (m := 0) (hI.hs (i := j) (by omega)) rfl (by omega) (fun B0 hB0 => ?_))
                  refine X_iconst (tk_X9_sheet.at 46 rfl) ci_1 ?_
                  refine X_ireturn (tk_X9_sheet.at 47 rfl) rfl rfl ?_
                  generalize eν : (Mx (su (su μ (P + 90 + 2 * j) 1 b) (P + 90 + 2 * j) 2 (nI 0)) (P + 90 + 2 * j + 1) B0) = ν
                  have fν : ∀ d1, d1 ≠ P + 90 + 2 * j → d1 ≠ P + 90 + 2 * j + 1 → ν d1 = μ d1 := fun d1 h1 h2 => by rw [← eν, Mx_ne h2, su_ne h1, su_ne h1]
                  have v1 : ν (P + 90 + 2 * j) 1 = b := by rw [← eν, Mx_ne (by omega), su_same, upd_ne _ _ (by decide), su_same, upd_at]
                  have v2 : ν (P + 90 + 2 * j) 2 = nI 0 := by rw [← eν, Mx_ne (by omega), su_same, upd_at]
                  have cν : ν (P + 90 + 2 * j + 1) = B0 := by rw [← eν]; exact Mx_same
                  have hok : okB b := by unfold okB; grind
                  have hnn : (if b = 0 then 0 else n) = nI 0 := by rw [if_pos (by first | assumption | grind)]; rfl
                  refine p10_sheet (N := N) (A := A) (B := B) (C := C) hI.M (by rw [fν _ (by omega) (by omega)]; exact hN) (by rw [fν _ (by omega) (by omega)]; exact hA) (by rw [fν _ (by omega) (by omega)]; exact hB) (by rw [fν _ (by omega) (by omega)]; exact hC) (fun g => absurd ⟨⟨j, hj, ej⟩, hok⟩ g) (by intros; exfalso; grind) (by intros; exfalso; grind) (fun x hx ex _ _ => ⟨rfl, ?_⟩)
                  have q1 := nI_j ex ej (by omega) (by omega)
                  subst q1
                  rw [hnn]
                  refine fin_h hI (fun d1 h1 h2 => by rw [Mx_ne (by omega), su_ne (by omega), su_ne (by omega), fν _ (by omega) (by omega)]) (fun s1 hs1 => ?_)
                  have z := hsh s1 hs1
                  rw [Mx_ne (show o + 14 ≠ o + 16 by omega), su_ne (show o + 14 ≠ o + 15 by omega), su_same, Mx_ne (show o + 15 ≠ o + 16 by omega), su_same, su_ne (show o + 15 ≠ o + 14 by omega), Mx_same, Mx_ne (show P + 90 + 2 * s1 ≠ o + 16 by omega), su_ne (show P + 90 + 2 * s1 ≠ o + 15 by omega), su_ne (show P + 90 + 2 * s1 ≠ o + 14 by omega), Mx_ne (show P + 90 + 2 * s1 + 1 ≠ o + 16 by omega), su_ne (show P + 90 + 2 * s1 + 1 ≠ o + 15 by omega), su_ne (show P + 90 + 2 * s1 + 1 ≠ o + 14 by omega), fν (o + 14) (by omega) (by omega), fν (o + 15) (by omega) (by omega), hA, hB]
                  by_cases c9 : s1 = x
                  · subst c9
                    rw [upd_at, upd_at, cν, v1, v2]
                    refine ⟨hok, rfl, okN_of (by omega) (by decide), rfl, fun i1 hi1 => ?_⟩
                    rw [hB0 i1 hi1]; unfold clrN; rw [if_pos (by omega)]
                  · rw [upd_ne _ _ c9, upd_ne _ _ c9, fν _ (by omega) (by omega), fν _ (by omega) (by omega)]
                    refine ⟨z.1, z.2.1, z.2.2.1, z.2.2.2.1, fun i1 hi1 => ?_⟩
                    unfold clrN; rw [if_neg (by omega)]; exact z.2.2.2.2 i1 hi1
              · refine X_iload_n (tk_X9_sheet.at 31 rfl) rfl ?_
                refine X_bipush (tk_X9_sheet.at 32 rfl) cb_40 ?_
                refine X_icmp_le (tgt := 73) (tk_X9_sheet.at 33 rfl) (by decide) (fun c38 => ?_) (fun c38 => ?_)
                · refine X_aload (tk_X9_sheet.at 38 rfl) rfl ?_
                  refine X_iload_n (tk_X9_sheet.at 39 rfl) rfl ?_
                  refine X_iload_n (tk_X9_sheet.at 40 rfl) rfl ?_
                  refine X_if_ne (tgt := 84) (tk_X9_sheet.at 41 rfl) (by decide) (fun c39 => ?_) (fun c39 => ?_)
                  · refine X_iload_n (tk_X9_sheet.at 44 rfl) rfl ?_
                    have hb0 : ¬ b = 0 := by first | assumption | grind
                    have hn0 : 0 ≤ n ∧ n ≤ 40 := by grind
                    obtain ⟨m, em, hm⟩ : ∃ f, n = nI f ∧ f ≤ 40 := ⟨nv n, (le_lits (a := 0) (b := 40) (by decide) hn0.1 hn0.2 (by decide)).1, (le_lits (a := 0) (b := 40) (by decide) hn0.1 hn0.2 (by decide)).2.2⟩
                    refine X_cV2v (lv2 := [(0, _), (1, _), (2, _)]) (tk_X9_sheet.at 45 rfl) mv_X7_become lk_x9_303 np_X7_become (hI.hs (i := j) (by omega)).1 (by decide) rfl (Nat.le_of_ble_eq_true rfl) (Nat.le_of_ble_eq_true rfl) rfl (c7_become (m := m) (hI.hs (i := j) (by omega)) em (by omega) (fun B0 hB0 => ?_))
                    refine X_iconst (tk_X9_sheet.at 46 rfl) ci_1 ?_
                    refine X_ireturn (tk_X9_sheet.at 47 rfl) rfl rfl ?_
                    generalize eν : (Mx (su (su μ (P + 90 + 2 * j) 1 b) (P + 90 + 2 * j) 2 (nI m)) (P + 90 + 2 * j + 1) B0) = ν
                    have fν : ∀ d1, d1 ≠ P + 90 + 2 * j → d1 ≠ P + 90 + 2 * j + 1 → ν d1 = μ d1 := fun d1 h1 h2 => by rw [← eν, Mx_ne h2, su_ne h1, su_ne h1]
                    have v1 : ν (P + 90 + 2 * j) 1 = b := by rw [← eν, Mx_ne (by omega), su_same, upd_ne _ _ (by decide), su_same, upd_at]
                    have v2 : ν (P + 90 + 2 * j) 2 = nI m := by rw [← eν, Mx_ne (by omega), su_same, upd_at]
                    have cν : ν (P + 90 + 2 * j + 1) = B0 := by rw [← eν]; exact Mx_same
                    have hok : okB b := by unfold okB; grind
                    have hnn : (if b = 0 then 0 else n) = nI m := by rw [if_neg hb0]; exact em
                    refine p10_sheet (N := N) (A := A) (B := B) (C := C) hI.M (by rw [fν _ (by omega) (by omega)]; exact hN) (by rw [fν _ (by omega) (by omega)]; exact hA) (by rw [fν _ (by omega) (by omega)]; exact hB) (by rw [fν _ (by omega) (by omega)]; exact hC) (fun g => absurd ⟨⟨j, hj, ej⟩, hok⟩ g) (by intros; exfalso; grind) (by intros; exfalso; grind) (fun x hx ex _ _ => ⟨rfl, ?_⟩)
                    have q1 := nI_j ex ej (by omega) (by omega)
                    subst q1
                    rw [hnn]
                    refine fin_h hI (fun d1 h1 h2 => by rw [Mx_ne (by omega), su_ne (by omega), su_ne (by omega), fν _ (by omega) (by omega)]) (fun s1 hs1 => ?_)
                    have z := hsh s1 hs1
                    rw [Mx_ne (show o + 14 ≠ o + 16 by omega), su_ne (show o + 14 ≠ o + 15 by omega), su_same, Mx_ne (show o + 15 ≠ o + 16 by omega), su_same, su_ne (show o + 15 ≠ o + 14 by omega), Mx_same, Mx_ne (show P + 90 + 2 * s1 ≠ o + 16 by omega), su_ne (show P + 90 + 2 * s1 ≠ o + 15 by omega), su_ne (show P + 90 + 2 * s1 ≠ o + 14 by omega), Mx_ne (show P + 90 + 2 * s1 + 1 ≠ o + 16 by omega), su_ne (show P + 90 + 2 * s1 + 1 ≠ o + 15 by omega), su_ne (show P + 90 + 2 * s1 + 1 ≠ o + 14 by omega), fν (o + 14) (by omega) (by omega), fν (o + 15) (by omega) (by omega), hA, hB]
                    by_cases c9 : s1 = x
                    · subst c9
                      rw [upd_at, upd_at, cν, v1, v2]
                      refine ⟨hok, rfl, okN_of (by omega) (by decide), rfl, fun i1 hi1 => ?_⟩
                      rw [hB0 i1 hi1]; unfold clrN; rw [if_pos (by omega)]
                    · rw [upd_ne _ _ c9, upd_ne _ _ c9, fν _ (by omega) (by omega), fν _ (by omega) (by omega)]
                      refine ⟨z.1, z.2.1, z.2.2.1, z.2.2.2.1, fun i1 hi1 => ?_⟩
                      unfold clrN; rw [if_neg (by omega)]; exact z.2.2.2.2 i1 hi1
                  · refine X_iconst (tk_X9_sheet.at 42 rfl) ci_0 ?_
                    refine X_goto (tgt := 85) (tk_X9_sheet.at 43 rfl) (by decide) ?_
                    refine X_cV2v (lv2 := [(0, _), (1, _), (2, _)]) (tk_X9_sheet.at 45 rfl) mv_X7_become lk_x9_303 np_X7_become (hI.hs (i := j) (by omega)).1 (by decide) rfl (Nat.le_of_ble_eq_true rfl) (Nat.le_of_ble_eq_true rfl) rfl (c7_become (m := 0) (hI.hs (i := j) (by omega)) rfl (by omega) (fun B0 hB0 => ?_))
                    refine X_iconst (tk_X9_sheet.at 46 rfl) ci_1 ?_
                    refine X_ireturn (tk_X9_sheet.at 47 rfl) rfl rfl ?_
                    generalize eν : (Mx (su (su μ (P + 90 + 2 * j) 1 b) (P + 90 + 2 * j) 2 (nI 0)) (P + 90 + 2 * j + 1) B0) = ν
                    have fν : ∀ d1, d1 ≠ P + 90 + 2 * j → d1 ≠ P + 90 + 2 * j + 1 → ν d1 = μ d1 := fun d1 h1 h2 => by rw [← eν, Mx_ne h2, su_ne h1, su_ne h1]
                    have v1 : ν (P + 90 + 2 * j) 1 = b := by rw [← eν, Mx_ne (by omega), su_same, upd_ne _ _ (by decide), su_same, upd_at]
                    have v2 : ν (P + 90 + 2 * j) 2 = nI 0 := by rw [← eν, Mx_ne (by omega), su_same, upd_at]
                    have cν : ν (P + 90 + 2 * j + 1) = B0 := by rw [← eν]; exact Mx_same
                    have hok : okB b := by unfold okB; grind
                    have hnn : (if b = 0 then 0 else n) = nI 0 := by rw [if_pos (by first | assumption | grind)]; rfl
                    refine p10_sheet (N := N) (A := A) (B := B) (C := C) hI.M (by rw [fν _ (by omega) (by omega)]; exact hN) (by rw [fν _ (by omega) (by omega)]; exact hA) (by rw [fν _ (by omega) (by omega)]; exact hB) (by rw [fν _ (by omega) (by omega)]; exact hC) (fun g => absurd ⟨⟨j, hj, ej⟩, hok⟩ g) (by intros; exfalso; grind) (by intros; exfalso; grind) (fun x hx ex _ _ => ⟨rfl, ?_⟩)
                    have q1 := nI_j ex ej (by omega) (by omega)
                    subst q1
                    rw [hnn]
                    refine fin_h hI (fun d1 h1 h2 => by rw [Mx_ne (by omega), su_ne (by omega), su_ne (by omega), fν _ (by omega) (by omega)]) (fun s1 hs1 => ?_)
                    have z := hsh s1 hs1
                    rw [Mx_ne (show o + 14 ≠ o + 16 by omega), su_ne (show o + 14 ≠ o + 15 by omega), su_same, Mx_ne (show o + 15 ≠ o + 16 by omega), su_same, su_ne (show o + 15 ≠ o + 14 by omega), Mx_same, Mx_ne (show P + 90 + 2 * s1 ≠ o + 16 by omega), su_ne (show P + 90 + 2 * s1 ≠ o + 15 by omega), su_ne (show P + 90 + 2 * s1 ≠ o + 14 by omega), Mx_ne (show P + 90 + 2 * s1 + 1 ≠ o + 16 by omega), su_ne (show P + 90 + 2 * s1 + 1 ≠ o + 15 by omega), su_ne (show P + 90 + 2 * s1 + 1 ≠ o + 14 by omega), fν (o + 14) (by omega) (by omega), fν (o + 15) (by omega) (by omega), hA, hB]
                    by_cases c9 : s1 = x
                    · subst c9
                      rw [upd_at, upd_at, cν, v1, v2]
                      refine ⟨hok, rfl, okN_of (by omega) (by decide), rfl, fun i1 hi1 => ?_⟩
                      rw [hB0 i1 hi1]; unfold clrN; rw [if_pos (by omega)]
                    · rw [upd_ne _ _ c9, upd_ne _ _ c9, fν _ (by omega) (by omega), fν _ (by omega) (by omega)]
                      refine ⟨z.1, z.2.1, z.2.2.1, z.2.2.2.1, fun i1 hi1 => ?_⟩
                      unfold clrN; rw [if_neg (by omega)]; exact z.2.2.2.2 i1 hi1
                · refine X_aload_n (tk_X9_sheet.at 34 rfl) rfl ?_
                  refine X_ldc (tk_X9_sheet.at 35 rfl) kn_x9_76 ?_
                  refine X_cV1i (lv2 := [(0, _), (1, _)]) (tk_X9_sheet.at 36 rfl) mv_X9_fail lk_x9_77 np_X9_fail hI.P0 (by decide) rfl (Nat.le_of_ble_eq_true rfl) (Nat.le_of_ble_eq_true rfl) rfl (c9_fail (k := 1) hI.P0 hI.E (by decide) (by decide) ?_)
                  refine X_ireturn (tk_X9_sheet.at 37 rfl) rfl rfl ?_
                  refine p10_sheet (N := N) (A := A) (B := B) (C := C) hI.M (by rw [su_ne (by omega)]; exact hN) (by rw [su_ne (by omega)]; exact hA) (by rw [su_ne (by omega)]; exact hB) (by rw [su_ne (by omega)]; exact hC) (by intros; first | (exfalso; grind [In, nI_eq, okB]) | exact ⟨by grind [In, nI_eq, okB], fin_e hI (Fs.rf hI) (Sq.rf _ _) rfl⟩) (by intros; first | (exfalso; grind [In, nI_eq, okB]) | exact ⟨by grind [In, nI_eq, okB], fin_e hI (Fs.rf hI) (Sq.rf _ _) rfl⟩) (by intros; first | (exfalso; grind [In, nI_eq, okB]) | exact ⟨by grind [In, nI_eq, okB], fin_e hI (Fs.rf hI) (Sq.rf _ _) rfl⟩) (by intros; first | (exfalso; grind [In, nI_eq, okB]) | exact ⟨by grind [In, nI_eq, okB], fin_e hI (Fs.rf hI) (Sq.rf _ _) rfl⟩)
            · refine X_iload_n (tk_X9_sheet.at 23 rfl) rfl ?_
              refine X_if_ge (tgt := 56) (tk_X9_sheet.at 24 rfl) (by decide) (fun c40 => ?_) (fun c40 => ?_)
              · refine X_iload_n (tk_X9_sheet.at 29 rfl) rfl ?_
                refine X_if_eq (tgt := 73) (tk_X9_sheet.at 30 rfl) (by decide) (fun c41 => ?_) (fun c41 => ?_)
                · refine X_aload (tk_X9_sheet.at 38 rfl) rfl ?_
                  refine X_iload_n (tk_X9_sheet.at 39 rfl) rfl ?_
                  refine X_iload_n (tk_X9_sheet.at 40 rfl) rfl ?_
                  refine X_if_ne (tgt := 84) (tk_X9_sheet.at 41 rfl) (by decide) (fun c42 => ?_) (fun c42 => ?_)
                  · refine X_iload_n (tk_X9_sheet.at 44 rfl) rfl ?_
                    have hb0 : ¬ b = 0 := by first | assumption | grind
                    have hn0 : 0 ≤ n ∧ n ≤ 40 := by grind
                    obtain ⟨m, em, hm⟩ : ∃ f, n = nI f ∧ f ≤ 40 := ⟨nv n, (le_lits (a := 0) (b := 40) (by decide) hn0.1 hn0.2 (by decide)).1, (le_lits (a := 0) (b := 40) (by decide) hn0.1 hn0.2 (by decide)).2.2⟩
                    refine X_cV2v (lv2 := [(0, _), (1, _), (2, _)]) (tk_X9_sheet.at 45 rfl) mv_X7_become lk_x9_303 np_X7_become (hI.hs (i := j) (by omega)).1 (by decide) rfl (Nat.le_of_ble_eq_true rfl) (Nat.le_of_ble_eq_true rfl) rfl (c7_become (m := m) (hI.hs (i := j) (by omega)) em (by omega) (fun B0 hB0 => ?_))
                    refine X_iconst (tk_X9_sheet.at 46 rfl) ci_1 ?_
                    refine X_ireturn (tk_X9_sheet.at 47 rfl) rfl rfl ?_
                    generalize eν : (Mx (su (su μ (P + 90 + 2 * j) 1 b) (P + 90 + 2 * j) 2 (nI m)) (P + 90 + 2 * j + 1) B0) = ν
                    have fν : ∀ d1, d1 ≠ P + 90 + 2 * j → d1 ≠ P + 90 + 2 * j + 1 → ν d1 = μ d1 := fun d1 h1 h2 => by rw [← eν, Mx_ne h2, su_ne h1, su_ne h1]
                    have v1 : ν (P + 90 + 2 * j) 1 = b := by rw [← eν, Mx_ne (by omega), su_same, upd_ne _ _ (by decide), su_same, upd_at]
                    have v2 : ν (P + 90 + 2 * j) 2 = nI m := by rw [← eν, Mx_ne (by omega), su_same, upd_at]
                    have cν : ν (P + 90 + 2 * j + 1) = B0 := by rw [← eν]; exact Mx_same
                    have hok : okB b := by unfold okB; grind
                    have hnn : (if b = 0 then 0 else n) = nI m := by rw [if_neg hb0]; exact em
                    refine p10_sheet (N := N) (A := A) (B := B) (C := C) hI.M (by rw [fν _ (by omega) (by omega)]; exact hN) (by rw [fν _ (by omega) (by omega)]; exact hA) (by rw [fν _ (by omega) (by omega)]; exact hB) (by rw [fν _ (by omega) (by omega)]; exact hC) (fun g => absurd ⟨⟨j, hj, ej⟩, hok⟩ g) (by intros; exfalso; grind) (by intros; exfalso; grind) (fun x hx ex _ _ => ⟨rfl, ?_⟩)
                    have q1 := nI_j ex ej (by omega) (by omega)
                    subst q1
                    rw [hnn]
                    refine fin_h hI (fun d1 h1 h2 => by rw [Mx_ne (by omega), su_ne (by omega), su_ne (by omega), fν _ (by omega) (by omega)]) (fun s1 hs1 => ?_)
                    have z := hsh s1 hs1
                    rw [Mx_ne (show o + 14 ≠ o + 16 by omega), su_ne (show o + 14 ≠ o + 15 by omega), su_same, Mx_ne (show o + 15 ≠ o + 16 by omega), su_same, su_ne (show o + 15 ≠ o + 14 by omega), Mx_same, Mx_ne (show P + 90 + 2 * s1 ≠ o + 16 by omega), su_ne (show P + 90 + 2 * s1 ≠ o + 15 by omega), su_ne (show P + 90 + 2 * s1 ≠ o + 14 by omega), Mx_ne (show P + 90 + 2 * s1 + 1 ≠ o + 16 by omega), su_ne (show P + 90 + 2 * s1 + 1 ≠ o + 15 by omega), su_ne (show P + 90 + 2 * s1 + 1 ≠ o + 14 by omega), fν (o + 14) (by omega) (by omega), fν (o + 15) (by omega) (by omega), hA, hB]
                    by_cases c9 : s1 = x
                    · subst c9
                      rw [upd_at, upd_at, cν, v1, v2]
                      refine ⟨hok, rfl, okN_of (by omega) (by decide), rfl, fun i1 hi1 => ?_⟩
                      rw [hB0 i1 hi1]; unfold clrN; rw [if_pos (by omega)]
                    · rw [upd_ne _ _ c9, upd_ne _ _ c9, fν _ (by omega) (by omega), fν _ (by omega) (by omega)]
                      refine ⟨z.1, z.2.1, z.2.2.1, z.2.2.2.1, fun i1 hi1 => ?_⟩
                      unfold clrN; rw [if_neg (by omega)]; exact z.2.2.2.2 i1 hi1
                  · refine X_iconst (tk_X9_sheet.at 42 rfl) ci_0 ?_
                    refine X_goto (tgt := 85) (tk_X9_sheet.at 43 rfl) (by decide) ?_
                    refine X_cV2v (lv2 := [(0, _), (1, _), (2, _)]) (tk_X9_sheet.at 45 rfl) mv_X7_become lk_x9_303 np_X7_become (hI.hs (i := j) (by omega)).1 (by decide) rfl (Nat.le_of_ble_eq_true rfl) (Nat.le_of_ble_eq_true rfl) rfl (c7_become (m := 0) (hI.hs (i := j) (by omega)) rfl (by omega) (fun B0 hB0 => ?_))
                    refine X_iconst (tk_X9_sheet.at 46 rfl) ci_1 ?_
                    refine X_ireturn (tk_X9_sheet.at 47 rfl) rfl rfl ?_
                    generalize eν : (Mx (su (su μ (P + 90 + 2 * j) 1 b) (P + 90 + 2 * j) 2 (nI 0)) (P + 90 + 2 * j + 1) B0) = ν
                    have fν : ∀ d1, d1 ≠ P + 90 + 2 * j → d1 ≠ P + 90 + 2 * j + 1 → ν d1 = μ d1 := fun d1 h1 h2 => by rw [← eν, Mx_ne h2, su_ne h1, su_ne h1]
                    have v1 : ν (P + 90 + 2 * j) 1 = b := by rw [← eν, Mx_ne (by omega), su_same, upd_ne _ _ (by decide), su_same, upd_at]
                    have v2 : ν (P + 90 + 2 * j) 2 = nI 0 := by rw [← eν, Mx_ne (by omega), su_same, upd_at]
                    have cν : ν (P + 90 + 2 * j + 1) = B0 := by rw [← eν]; exact Mx_same
                    have hok : okB b := by unfold okB; grind
                    have hnn : (if b = 0 then 0 else n) = nI 0 := by rw [if_pos (by first | assumption | grind)]; rfl
                    refine p10_sheet (N := N) (A := A) (B := B) (C := C) hI.M (by rw [fν _ (by omega) (by omega)]; exact hN) (by rw [fν _ (by omega) (by omega)]; exact hA) (by rw [fν _ (by omega) (by omega)]; exact hB) (by rw [fν _ (by omega) (by omega)]; exact hC) (fun g => absurd ⟨⟨j, hj, ej⟩, hok⟩ g) (by intros; exfalso; grind) (by intros; exfalso; grind) (fun x hx ex _ _ => ⟨rfl, ?_⟩)
                    have q1 := nI_j ex ej (by omega) (by omega)
                    subst q1
                    rw [hnn]
                    refine fin_h hI (fun d1 h1 h2 => by rw [Mx_ne (by omega), su_ne (by omega), su_ne (by omega), fν _ (by omega) (by omega)]) (fun s1 hs1 => ?_)
                    have z := hsh s1 hs1
                    rw [Mx_ne (show o + 14 ≠ o + 16 by omega), su_ne (show o + 14 ≠ o + 15 by omega), su_same, Mx_ne (show o + 15 ≠ o + 16 by omega), su_same, su_ne (show o + 15 ≠ o + 14 by omega), Mx_same, Mx_ne (show P + 90 + 2 * s1 ≠ o + 16 by omega), su_ne (show P + 90 + 2 * s1 ≠ o + 15 by omega), su_ne (show P + 90 + 2 * s1 ≠ o + 14 by omega), Mx_ne (show P + 90 + 2 * s1 + 1 ≠ o + 16 by omega), su_ne (show P + 90 + 2 * s1 + 1 ≠ o + 15 by omega), su_ne (show P + 90 + 2 * s1 + 1 ≠ o + 14 by omega), fν (o + 14) (by omega) (by omega), fν (o + 15) (by omega) (by omega), hA, hB]
                    by_cases c9 : s1 = x
                    · subst c9
                      rw [upd_at, upd_at, cν, v1, v2]
                      refine ⟨hok, rfl, okN_of (by omega) (by decide), rfl, fun i1 hi1 => ?_⟩
                      rw [hB0 i1 hi1]; unfold clrN; rw [if_pos (by omega)]
                    · rw [upd_ne _ _ c9, upd_ne _ _ c9, fν _ (by omega) (by omega), fν _ (by omega) (by omega)]
                      refine ⟨z.1, z.2.1, z.2.2.1, z.2.2.2.1, fun i1 hi1 => ?_⟩
                      unfold clrN; rw [if_neg (by omega)]; exact z.2.2.2.2 i1 hi1
                · refine X_iload_n (tk_X9_sheet.at 31 rfl) rfl ?_
                  refine X_bipush (tk_X9_sheet.at 32 rfl) cb_40 ?_
                  refine X_icmp_le (tgt := 73) (tk_X9_sheet.at 33 rfl) (by decide) (fun c43 => ?_) (fun c43 => ?_)
                  · refine X_aload (tk_X9_sheet.at 38 rfl) rfl ?_
                    refine X_iload_n (tk_X9_sheet.at 39 rfl) rfl ?_
                    refine X_iload_n (tk_X9_sheet.at 40 rfl) rfl ?_
                    refine X_if_ne (tgt := 84) (tk_X9_sheet.at 41 rfl) (by decide) (fun c44 => ?_) (fun c44 => ?_)
                    · refine X_iload_n (tk_X9_sheet.at 44 rfl) rfl ?_
                      have hb0 : ¬ b = 0 := by first | assumption | grind
                      have hn0 : 0 ≤ n ∧ n ≤ 40 := by grind
                      obtain ⟨m, em, hm⟩ : ∃ f, n = nI f ∧ f ≤ 40 := ⟨nv n, (le_lits (a := 0) (b := 40) (by decide) hn0.1 hn0.2 (by decide)).1, (le_lits (a := 0) (b := 40) (by decide) hn0.1 hn0.2 (by decide)).2.2⟩
                      refine X_cV2v (lv2 := [(0, _), (1, _), (2, _)]) (tk_X9_sheet.at 45 rfl) mv_X7_become lk_x9_303 np_X7_become (hI.hs (i := j) (by omega)).1 (by decide) rfl (Nat.le_of_ble_eq_true rfl) (Nat.le_of_ble_eq_true rfl) rfl (c7_become (m := m) (hI.hs (i := j) (by omega)) em (by omega) (fun B0 hB0 => ?_))
                      refine X_iconst (tk_X9_sheet.at 46 rfl) ci_1 ?_
                      refine X_ireturn (tk_X9_sheet.at 47 rfl) rfl rfl ?_
                      generalize eν : (Mx (su (su μ (P + 90 + 2 * j) 1 b) (P + 90 + 2 * j) 2 (nI m)) (P + 90 + 2 * j + 1) B0) = ν
                      have fν : ∀ d1, d1 ≠ P + 90 + 2 * j → d1 ≠ P + 90 + 2 * j + 1 → ν d1 = μ d1 := fun d1 h1 h2 => by rw [← eν, Mx_ne h2, su_ne h1, su_ne h1]
                      have v1 : ν (P + 90 + 2 * j) 1 = b := by rw [← eν, Mx_ne (by omega), su_same, upd_ne _ _ (by decide), su_same, upd_at]
                      have v2 : ν (P + 90 + 2 * j) 2 = nI m := by rw [← eν, Mx_ne (by omega), su_same, upd_at]
                      have cν : ν (P + 90 + 2 * j + 1) = B0 := by rw [← eν]; exact Mx_same
                      have hok : okB b := by unfold okB; grind
                      have hnn : (if b = 0 then 0 else n) = nI m := by rw [if_neg hb0]; exact em
                      refine p10_sheet (N := N) (A := A) (B := B) (C := C) hI.M (by rw [fν _ (by omega) (by omega)]; exact hN) (by rw [fν _ (by omega) (by omega)]; exact hA) (by rw [fν _ (by omega) (by omega)]; exact hB) (by rw [fν _ (by omega) (by omega)]; exact hC) (fun g => absurd ⟨⟨j, hj, ej⟩, hok⟩ g) (by intros; exfalso; grind) (by intros; exfalso; grind) (fun x hx ex _ _ => ⟨rfl, ?_⟩)
                      have q1 := nI_j ex ej (by omega) (by omega)
                      subst q1
                      rw [hnn]
                      refine fin_h hI (fun d1 h1 h2 => by rw [Mx_ne (by omega), su_ne (by omega), su_ne (by omega), fν _ (by omega) (by omega)]) (fun s1 hs1 => ?_)
                      have z := hsh s1 hs1
                      rw [Mx_ne (show o + 14 ≠ o + 16 by omega), su_ne (show o + 14 ≠ o + 15 by omega), su_same, Mx_ne (show o + 15 ≠ o + 16 by omega), su_same, su_ne (show o + 15 ≠ o + 14 by omega), Mx_same, Mx_ne (show P + 90 + 2 * s1 ≠ o + 16 by omega), su_ne (show P + 90 + 2 * s1 ≠ o + 15 by omega), su_ne (show P + 90 + 2 * s1 ≠ o + 14 by omega), Mx_ne (show P + 90 + 2 * s1 + 1 ≠ o + 16 by omega), su_ne (show P + 90 + 2 * s1 + 1 ≠ o + 15 by omega), su_ne (show P + 90 + 2 * s1 + 1 ≠ o + 14 by omega), fν (o + 14) (by omega) (by omega), fν (o + 15) (by omega) (by omega), hA, hB]
                      by_cases c9 : s1 = x
                      · subst c9
                        rw [upd_at, upd_at, cν, v1, v2]
                        refine ⟨hok, rfl, okN_of (by omega) (by decide), rfl, fun i1 hi1 => ?_⟩
                        rw [hB0 i1 hi1]; unfold clrN; rw [if_pos (by omega)]
                      · rw [upd_ne _ _ c9, upd_ne _ _ c9, fν _ (by omega) (by omega), fν _ (by omega) (by omega)]
                        refine ⟨z.1, z.2.1, z.2.2.1, z.2.2.2.1, fun i1 hi1 => ?_⟩
                        unfold clrN; rw [if_neg (by omega)]; exact z.2.2.2.2 i1 hi1
                    · refine X_iconst (tk_X9_sheet.at 42 rfl) ci_0 ?_
                      refine X_goto (tgt := 85) (tk_X9_sheet.at 43 rfl) (by decide) ?_
                      refine X_cV2v (lv2 := [(0, _), (1, _), (2, _)]) (tk_X9_sheet.at 45 rfl) mv_X7_become lk_x9_303 np_X7_become (hI.hs (i := j) (by omega)).1 (by decide) rfl (Nat.le_of_ble_eq_true rfl) (Nat.le_of_ble_eq_true rfl) rfl (c7_become (m := 0) (hI.hs (i := j) (by omega)) rfl (by omega) (fun B0 hB0 => ?_))
                      refine X_iconst (tk_X9_sheet.at 46 rfl) ci_1 ?_
                      refine X_ireturn (tk_X9_sheet.at 47 rfl) rfl rfl ?_
                      generalize eν : (Mx (su (su μ (P + 90 + 2 * j) 1 b) (P + 90 + 2 * j) 2 (nI 0)) (P + 90 + 2 * j + 1) B0) = ν
                      have fν : ∀ d1, d1 ≠ P + 90 + 2 * j → d1 ≠ P + 90 + 2 * j + 1 → ν d1 = μ d1 := fun d1 h1 h2 => by rw [← eν, Mx_ne h2, su_ne h1, su_ne h1]
                      have v1 : ν (P + 90 + 2 * j) 1 = b := by rw [← eν, Mx_ne (by omega), su_same, upd_ne _ _ (by decide), su_same, upd_at]
                      have v2 : ν (P + 90 + 2 * j) 2 = nI 0 := by rw [← eν, Mx_ne (by omega), su_same, upd_at]
                      have cν : ν (P + 90 + 2 * j + 1) = B0 := by rw [← eν]; exact Mx_same
                      have hok : okB b := by unfold okB; grind
                      have hnn : (if b = 0 then 0 else n) = nI 0 := by rw [if_pos (by first | assumption | grind)]; rfl
                      refine p10_sheet (N := N) (A := A) (B := B) (C := C) hI.M (by rw [fν _ (by omega) (by omega)]; exact hN) (by rw [fν _ (by omega) (by omega)]; exact hA) (by rw [fν _ (by omega) (by omega)]; exact hB) (by rw [fν _ (by omega) (by omega)]; exact hC) (fun g => absurd ⟨⟨j, hj, ej⟩, hok⟩ g) (by intros; exfalso; grind) (by intros; exfalso; grind) (fun x hx ex _ _ => ⟨rfl, ?_⟩)
                      have q1 := nI_j ex ej (by omega) (by omega)
                      subst q1
                      rw [hnn]
                      refine fin_h hI (fun d1 h1 h2 => by rw [Mx_ne (by omega), su_ne (by omega), su_ne (by omega), fν _ (by omega) (by omega)]) (fun s1 hs1 => ?_)
                      have z := hsh s1 hs1
                      rw [Mx_ne (show o + 14 ≠ o + 16 by omega), su_ne (show o + 14 ≠ o + 15 by omega), su_same, Mx_ne (show o + 15 ≠ o + 16 by omega), su_same, su_ne (show o + 15 ≠ o + 14 by omega), Mx_same, Mx_ne (show P + 90 + 2 * s1 ≠ o + 16 by omega), su_ne (show P + 90 + 2 * s1 ≠ o + 15 by omega), su_ne (show P + 90 + 2 * s1 ≠ o + 14 by omega), Mx_ne (show P + 90 + 2 * s1 + 1 ≠ o + 16 by omega), su_ne (show P + 90 + 2 * s1 + 1 ≠ o + 15 by omega), su_ne (show P + 90 + 2 * s1 + 1 ≠ o + 14 by omega), fν (o + 14) (by omega) (by omega), fν (o + 15) (by omega) (by omega), hA, hB]
                      by_cases c9 : s1 = x
                      · subst c9
                        rw [upd_at, upd_at, cν, v1, v2]
                        refine ⟨hok, rfl, okN_of (by omega) (by decide), rfl, fun i1 hi1 => ?_⟩
                        rw [hB0 i1 hi1]; unfold clrN; rw [if_pos (by omega)]
                      · rw [upd_ne _ _ c9, upd_ne _ _ c9, fν _ (by omega) (by omega), fν _ (by omega) (by omega)]
                        refine ⟨z.1, z.2.1, z.2.2.1, z.2.2.2.1, fun i1 hi1 => ?_⟩
                        unfold clrN; rw [if_neg (by omega)]; exact z.2.2.2.2 i1 hi1
                  · refine X_aload_n (tk_X9_sheet.at 34 rfl) rfl ?_
                    refine X_ldc (tk_X9_sheet.at 35 rfl) kn_x9_76 ?_
                    refine X_cV1i (lv2 := [(0, _), (1, _)]) (tk_X9_sheet.at 36 rfl) mv_X9_fail lk_x9_77 np_X9_fail hI.P0 (by decide) rfl (Nat.le_of_ble_eq_true rfl) (Nat.le_of_ble_eq_true rfl) rfl (c9_fail (k := 1) hI.P0 hI.E (by decide) (by decide) ?_)
                    refine X_ireturn (tk_X9_sheet.at 37 rfl) rfl rfl ?_
                    refine p10_sheet (N := N) (A := A) (B := B) (C := C) hI.M (by rw [su_ne (by omega)]; exact hN) (by rw [su_ne (by omega)]; exact hA) (by rw [su_ne (by omega)]; exact hB) (by rw [su_ne (by omega)]; exact hC) (by intros; first | (exfalso; grind [In, nI_eq, okB]) | exact ⟨by grind [In, nI_eq, okB], fin_e hI (Fs.rf hI) (Sq.rf _ _) rfl⟩) (by intros; first | (exfalso; grind [In, nI_eq, okB]) | exact ⟨by grind [In, nI_eq, okB], fin_e hI (Fs.rf hI) (Sq.rf _ _) rfl⟩) (by intros; first | (exfalso; grind [In, nI_eq, okB]) | exact ⟨by grind [In, nI_eq, okB], fin_e hI (Fs.rf hI) (Sq.rf _ _) rfl⟩) (by intros; first | (exfalso; grind [In, nI_eq, okB]) | exact ⟨by grind [In, nI_eq, okB], fin_e hI (Fs.rf hI) (Sq.rf _ _) rfl⟩)
              · refine X_aload_n (tk_X9_sheet.at 25 rfl) rfl ?_
                refine X_ldc (tk_X9_sheet.at 26 rfl) kn_x9_130 ?_
                refine X_cV1i (lv2 := [(0, _), (1, _)]) (tk_X9_sheet.at 27 rfl) mv_X9_fail lk_x9_77 np_X9_fail hI.P0 (by decide) rfl (Nat.le_of_ble_eq_true rfl) (Nat.le_of_ble_eq_true rfl) rfl (c9_fail (k := 3) hI.P0 hI.E (by decide) (by decide) ?_)
                refine X_ireturn (tk_X9_sheet.at 28 rfl) rfl rfl ?_
                refine p10_sheet (N := N) (A := A) (B := B) (C := C) hI.M (by rw [su_ne (by omega)]; exact hN) (by rw [su_ne (by omega)]; exact hA) (by rw [su_ne (by omega)]; exact hB) (by rw [su_ne (by omega)]; exact hC) (by intros; first | (exfalso; grind [In, nI_eq, okB]) | exact ⟨by grind [In, nI_eq, okB], fin_e hI (Fs.rf hI) (Sq.rf _ _) rfl⟩) (by intros; first | (exfalso; grind [In, nI_eq, okB]) | exact ⟨by grind [In, nI_eq, okB], fin_e hI (Fs.rf hI) (Sq.rf _ _) rfl⟩) (by intros; first | (exfalso; grind [In, nI_eq, okB]) | exact ⟨by grind [In, nI_eq, okB], fin_e hI (Fs.rf hI) (Sq.rf _ _) rfl⟩) (by intros; first | (exfalso; grind [In, nI_eq, okB]) | exact ⟨by grind [In, nI_eq, okB], fin_e hI (Fs.rf hI) (Sq.rf _ _) rfl⟩)
          · refine X_aload_n (tk_X9_sheet.at 17 rfl) rfl ?_
            refine X_ldc (tk_X9_sheet.at 18 rfl) kn_x9_76 ?_
            refine X_cV1i (lv2 := [(0, _), (1, _)]) (tk_X9_sheet.at 19 rfl) mv_X9_fail lk_x9_77 np_X9_fail hI.P0 (by decide) rfl (Nat.le_of_ble_eq_true rfl) (Nat.le_of_ble_eq_true rfl) rfl (c9_fail (k := 1) hI.P0 hI.E (by decide) (by decide) ?_)
            refine X_ireturn (tk_X9_sheet.at 20 rfl) rfl rfl ?_
            refine p10_sheet (N := N) (A := A) (B := B) (C := C) hI.M (by rw [su_ne (by omega)]; exact hN) (by rw [su_ne (by omega)]; exact hA) (by rw [su_ne (by omega)]; exact hB) (by rw [su_ne (by omega)]; exact hC) (by intros; first | (exfalso; grind [In, nI_eq, okB]) | exact ⟨by grind [In, nI_eq, okB], fin_e hI (Fs.rf hI) (Sq.rf _ _) rfl⟩) (by intros; first | (exfalso; grind [In, nI_eq, okB]) | exact ⟨by grind [In, nI_eq, okB], fin_e hI (Fs.rf hI) (Sq.rf _ _) rfl⟩) (by intros; first | (exfalso; grind [In, nI_eq, okB]) | exact ⟨by grind [In, nI_eq, okB], fin_e hI (Fs.rf hI) (Sq.rf _ _) rfl⟩) (by intros; first | (exfalso; grind [In, nI_eq, okB]) | exact ⟨by grind [In, nI_eq, okB], fin_e hI (Fs.rf hI) (Sq.rf _ _) rfl⟩)
  · refine X_astoreN (lv' := [(0, _), (1, _), (2, _), (3, _), (4, _)]) (tk_X9_sheet.at 3 rfl) (by decide) rfl rfl ?_
    refine X_aloadN (tk_X9_sheet.at 4 rfl) rfl ?_
    refine X_ifnullN (tgt := 34) (tk_X9_sheet.at 5 rfl) (by decide) ?_
    refine X_aload_n (tk_X9_sheet.at 17 rfl) rfl ?_
    refine X_ldc (tk_X9_sheet.at 18 rfl) kn_x9_76 ?_
    refine X_cV1i (lv2 := [(0, _), (1, _)]) (tk_X9_sheet.at 19 rfl) mv_X9_fail lk_x9_77 np_X9_fail hI.P0 (by decide) rfl (Nat.le_of_ble_eq_true rfl) (Nat.le_of_ble_eq_true rfl) rfl (c9_fail (k := 1) hI.P0 hI.E (by decide) (by decide) ?_)
    refine X_ireturn (tk_X9_sheet.at 20 rfl) rfl rfl ?_
    refine p10_sheet (N := N) (A := A) (B := B) (C := C) hI.M (by rw [su_ne (by omega)]; exact hN) (by rw [su_ne (by omega)]; exact hA) (by rw [su_ne (by omega)]; exact hB) (by rw [su_ne (by omega)]; exact hC) (by intros; first | (exfalso; grind [In, nI_eq, okB]) | exact ⟨by grind [In, nI_eq, okB], fin_e hI (Fs.rf hI) (Sq.rf _ _) rfl⟩) (by intros; first | (exfalso; grind [In, nI_eq, okB]) | exact ⟨by grind [In, nI_eq, okB], fin_e hI (Fs.rf hI) (Sq.rf _ _) rfl⟩) (by intros; first | (exfalso; grind [In, nI_eq, okB]) | exact ⟨by grind [In, nI_eq, okB], fin_e hI (Fs.rf hI) (Sq.rf _ _) rfl⟩) (by intros; first | (exfalso; grind [In, nI_eq, okB]) | exact ⟨by grind [In, nI_eq, okB], fin_e hI (Fs.rf hI) (Sq.rf _ _) rfl⟩)
