theorem fit_p {G : Gl} {S : Sh} {μ : Mu} (h : Sta G S μ) {a b c e : Int32} : (((μ (G.2.2.2 0) 0 ≤ a ∧ a ≤ μ (G.2.2.2 1) 0) ∧ (μ (G.2.2.2 0) 1 ≤ b ∧ b ≤ μ (G.2.2.2 1) 1)) ∧ ((μ (G.2.2.2 0) 2 ≤ c ∧ c ≤ μ (G.2.2.2 1) 2) ∧ (μ (G.2.2.2 0) 3 ≤ e ∧ e ≤ μ (G.2.2.2 1) 3))) ↔ Told a b c e := by
  have z := (h 0 (by decide)).2
  have y := (h 1 (by decide)).2
  rw [z 0 (by decide), z 1 (by decide), z 2 (by decide), z 3 (by decide), y 0 (by decide), y 1 (by decide), y 2 (by decide), y 3 (by decide)]
  exact Iff.rfl
theorem fit_c {G : Gl} {S : Sh} {μ : Mu} (h : Sta G S μ) {a b c e : Int32} : (((μ (G.2.2.2 2) 0 ≤ a ∧ a ≤ μ (G.2.2.2 3) 0) ∧ (μ (G.2.2.2 2) 1 ≤ b ∧ b ≤ μ (G.2.2.2 3) 1)) ∧ ((μ (G.2.2.2 2) 2 ≤ c ∧ c ≤ μ (G.2.2.2 3) 2) ∧ (μ (G.2.2.2 2) 3 ≤ e ∧ e ≤ μ (G.2.2.2 3) 3))) ↔ ToldC a b c e := by
  have z := (h 2 (by decide)).2
  have y := (h 3 (by decide)).2
  rw [z 0 (by decide), z 1 (by decide), z 2 (by decide), z 3 (by decide), y 0 (by decide), y 1 (by decide), y 2 (by decide), y 3 (by decide)]
  exact Iff.rfl
theorem fit_r {G : Gl} {S : Sh} {μ : Mu} (h : Sta G S μ) {a b c : Int32} : (((μ (G.2.2.2 4) 0 ≤ a ∧ a ≤ μ (G.2.2.2 5) 0) ∧ (μ (G.2.2.2 4) 1 ≤ b ∧ b ≤ μ (G.2.2.2 5) 1)) ∧ ((μ (G.2.2.2 4) 2 ≤ c ∧ c ≤ μ (G.2.2.2 5) 2) ∧ (μ (G.2.2.2 4) 3 ≤ 0 ∧ 0 ≤ μ (G.2.2.2 5) 3))) ↔ ToldR a b c := by
  have z := (h 4 (by decide)).2
  have y := (h 5 (by decide)).2
  rw [z 0 (by decide), z 1 (by decide), z 2 (by decide), z 3 (by decide), y 0 (by decide), y 1 (by decide), y 2 (by decide), y 3 (by decide)]
  exact ⟨fun q => ⟨q.1.1, q.1.2, q.2.1⟩, fun q => ⟨⟨q.1, q.2.1⟩, q.2.2, by decide, by decide⟩⟩
set_option maxHeartbeats 1000000 in
theorem c9_newFour {G : Gl} {d : Nat} {S : Sh} {μ : Mu} {P F la ma n len : Nat} {kp : Option Nat} {a b c e : Int32} {K : Int32 → Sh → Mu → Prop} (hP : S.2 P = some (kO 9 (rP P kp))) (hE : S.2 (P + 89) = some (kI 6)) (hF3 : FS S F la ma len) (hn : μ F 3 = nI n) (hb : 4 * n ≤ len) (hl : len ≤ 60) (k1 : ¬ (((μ la 0 ≤ a ∧ a ≤ μ ma 0) ∧ (μ la 1 ≤ b ∧ b ≤ μ ma 1)) ∧ ((μ la 2 ≤ c ∧ c ≤ μ ma 2) ∧ (μ la 3 ≤ e ∧ e ≤ μ ma 3))) → K (-1000000001) S (su μ (P + 89) 1 (μ (P + 89) 1 + 1))) (k2 : (((μ la 0 ≤ a ∧ a ≤ μ ma 0) ∧ (μ la 1 ≤ b ∧ b ≤ μ ma 1)) ∧ ((μ la 2 ≤ c ∧ c ≤ μ ma 2) ∧ (μ la 3 ≤ e ∧ e ≤ μ ma 3))) → len < 4 * (n + 1) → K (-1000000004) S (su μ (P + 89) 4 (μ (P + 89) 4 + 1))) (k3 : (((μ la 0 ≤ a ∧ a ≤ μ ma 0) ∧ (μ la 1 ≤ b ∧ b ≤ μ ma 1)) ∧ ((μ la 2 ≤ c ∧ c ≤ μ ma 2) ∧ (μ la 3 ≤ e ∧ e ≤ μ ma 3))) → 4 * (n + 1) ≤ len → K (nI n) S (Mx (su μ F 3 (nI (n + 1))) (F + 1) (upd (upd (upd (upd (μ (F + 1)) (4 * n + 0) a) (4 * n + 1) b) (4 * n + 2) c) (4 * n + 3) e))) : X G mi_X9_newFour (d + 3) 0 0 [(0, .ref P), (1, .ref F), (2, .int a), (3, .int b), (4, .int c), (5, .int e)] [] S μ (qi K) := by
  refine X_aload_n (tk_X9_newFour.at 0 rfl) rfl ?_
  refine X_iload_n (tk_X9_newFour.at 1 rfl) rfl ?_
  refine X_iload_n (tk_X9_newFour.at 2 rfl) rfl ?_
  refine X_iload (tk_X9_newFour.at 3 rfl) rfl ?_
  refine X_iload (tk_X9_newFour.at 4 rfl) rfl ?_
  refine X_cV4i (lv2 := [(0, _), (1, _), (2, _), (3, _), (4, _)]) (tk_X9_newFour.at 5 rfl) mv_X3_fits lk_x9_110 np_X3_fits hF3.1 (by decide) rfl (Nat.le_of_ble_eq_true rfl) (Nat.le_of_ble_eq_true rfl) rfl (c3_fits hF3 (fun hfit => ?_) (fun hfit => ?_))
  · refine X_if_ne (tgt := 20) (tk_X9_newFour.at 6 rfl) (by decide) (fun _ => ?_) (fun h => absurd h (by decide))
    refine X_aload_n (tk_X9_newFour.at 11 rfl) rfl ?_
    refine X_cV0i (lv2 := [(0, _)]) (tk_X9_newFour.at 12 rfl) mv_X3_isFull lk_x9_107 np_X3_isFull hF3.1 (by decide) rfl (Nat.le_of_ble_eq_true rfl) (Nat.le_of_ble_eq_true rfl) rfl (c3_isFull hF3 hn hb hl (fun hfull => ?_) (fun hfull => ?_))
    · refine X_if_eq (tgt := 34) (tk_X9_newFour.at 13 rfl) (by decide) (fun h => absurd h (by decide)) (fun _ => ?_)
      refine X_aload_n (tk_X9_newFour.at 14 rfl) rfl ?_
      refine X_ldc (tk_X9_newFour.at 15 rfl) kn_x9_138 ?_
      refine X_cV1i (lv2 := [(0, _), (1, _)]) (tk_X9_newFour.at 16 rfl) mv_X9_fail lk_x9_77 np_X9_fail hP (by decide) rfl (Nat.le_of_ble_eq_true rfl) (Nat.le_of_ble_eq_true rfl) rfl (c9_fail (k := 4) hP hE (by decide) (by decide) ?_)
      refine X_ireturn (tk_X9_newFour.at 17 rfl) rfl rfl ?_
      exact k2 hfit hfull
    · refine X_if_eq (tgt := 34) (tk_X9_newFour.at 13 rfl) (by decide) (fun _ => ?_) (fun h => absurd h (by decide))
      refine X_aload_n (tk_X9_newFour.at 18 rfl) rfl ?_
      refine X_iload_n (tk_X9_newFour.at 19 rfl) rfl ?_
      refine X_iload_n (tk_X9_newFour.at 20 rfl) rfl ?_
      refine X_iload (tk_X9_newFour.at 21 rfl) rfl ?_
      refine X_iload (tk_X9_newFour.at 22 rfl) rfl ?_
      refine X_cV4v (lv2 := [(0, _), (1, _), (2, _), (3, _), (4, _)]) (tk_X9_newFour.at 23 rfl) mv_X3_add lk_x9_114 np_X3_add hF3.1 (by decide) rfl (Nat.le_of_ble_eq_true rfl) (Nat.le_of_ble_eq_true rfl) rfl (c3_add hF3 hn hb hl hfull ?_)
      refine X_aload_n (tk_X9_newFour.at 24 rfl) rfl ?_
      refine X_cV0i (lv2 := [(0, _)]) (tk_X9_newFour.at 25 rfl) mv_X3_size lk_x9_326 np_X3_size hF3.1 (by decide) rfl (Nat.le_of_ble_eq_true rfl) (Nat.le_of_ble_eq_true rfl) rfl (c3_size (n := n + 1) hF3 (by rw [Mx_ne (by omega), su_same]; exact upd_at _ _ _) (by omega) hl ?_)
      refine X_iconst (tk_X9_newFour.at 26 rfl) ci_1 ?_
      refine X_isub (tk_X9_newFour.at 27 rfl) ?_
      refine X_ireturn (tk_X9_newFour.at 28 rfl) rfl rfl ?_
      rw [show nI (n + 1) - 1 = nI n from nI_pred n]
      exact k3 hfit hfull
  · refine X_if_ne (tgt := 20) (tk_X9_newFour.at 6 rfl) (by decide) (fun h => absurd h (by decide)) (fun _ => ?_)
    refine X_aload_n (tk_X9_newFour.at 7 rfl) rfl ?_
    refine X_ldc (tk_X9_newFour.at 8 rfl) kn_x9_76 ?_
    refine X_cV1i (lv2 := [(0, _), (1, _)]) (tk_X9_newFour.at 9 rfl) mv_X9_fail lk_x9_77 np_X9_fail hP (by decide) rfl (Nat.le_of_ble_eq_true rfl) (Nat.le_of_ble_eq_true rfl) rfl (c9_fail (k := 1) hP hE (by decide) (by decide) ?_)
    refine X_ireturn (tk_X9_newFour.at 10 rfl) rfl rfl ?_
    exact k1 hfit
def f4 (a b c e : Int32) (j : Nat) : Int32 := if j = 0 then a else if j = 1 then b else if j = 2 then c else e
theorem addN_out {N : Nat → Int32} {b n c a : Nat} {w s p g : Int32} (h : a ≠ c) (h2 : a < b + 4 * n ∨ b + 4 + 4 * n ≤ a) : addN N b n w s p g c a = N a := by
  unfold addN
  rw [upd_ne _ _ h, upd_ne _ _ (by omega), upd_ne _ _ (by omega), upd_ne _ _ (by omega), upd_ne _ _ (by omega)]
theorem addN_v {N : Nat → Int32} {b n c : Nat} {w s p g : Int32} (h : c < b) : ∀ j, j < 4 → addN N b n w s p g c (b + 4 * n + j) = f4 w s p g j := by
  intro j hj
  unfold addN
  rcases (show j = 0 ∨ j = 1 ∨ j = 2 ∨ j = 3 by omega) with rfl | rfl | rfl | rfl
  · rw [upd_ne _ _ (by omega), upd_ne _ _ (by omega), upd_ne _ _ (by omega), upd_ne _ _ (by omega)]; exact upd_at _ _ _
  · rw [upd_ne _ _ (by omega), upd_ne _ _ (by omega), upd_ne _ _ (by omega), show b + 4 * n + 1 = b + 1 + 4 * n by omega]; exact upd_at _ _ _
  · rw [upd_ne _ _ (by omega), upd_ne _ _ (by omega), show b + 4 * n + 2 = b + 2 + 4 * n by omega]; exact upd_at _ _ _
  · rw [upd_ne _ _ (by omega), show b + 4 * n + 3 = b + 3 + 4 * n by omega]; exact upd_at _ _ _
theorem up4_o {f : Nat → Int32} {n i : Nat} {a b c e : Int32} (h : i < 4 * n) : upd (upd (upd (upd f (4 * n + 0) a) (4 * n + 1) b) (4 * n + 2) c) (4 * n + 3) e i = f i := by
  rw [upd_ne _ _ (by omega), upd_ne _ _ (by omega), upd_ne _ _ (by omega), upd_ne _ _ (by omega)]
theorem up4_v {f : Nat → Int32} {n : Nat} {a b c e : Int32} : ∀ j, j < 4 → upd (upd (upd (upd f (4 * n + 0) a) (4 * n + 1) b) (4 * n + 2) c) (4 * n + 3) e (4 * n + j) = f4 a b c e j := by
  intro j hj
  rcases (show j = 0 ∨ j = 1 ∨ j = 2 ∨ j = 3 by omega) with rfl | rfl | rfl | rfl
  · rw [upd_ne _ _ (by omega), upd_ne _ _ (by omega), upd_ne _ _ (by omega)]; exact upd_at _ _ _
  · rw [upd_ne _ _ (by omega), upd_ne _ _ (by omega)]; exact upd_at _ _ _
  · rw [upd_ne _ _ (by omega)]; exact upd_at _ _ _
  · exact upd_at _ _ _
set_option maxHeartbeats 1000000 in
theorem t_person {G : Gl} {d : Nat} {S : Sh} {μ : Mu} {P o t q im : Nat} {kp : Option Nat} {w s p g : Int32} (hI : Inv G S P o kp t q im μ) : X G mi_X9_person (d + 60) 0 0 [(0, .ref P), (1, .int w), (2, .int s), (3, .int p), (4, .int g)] [] S μ (qi (fun a S1 μ1 => X G mi_X10_person (d + 60) 0 0 [(0, .ref o), (1, .int w), (2, .int s), (3, .int p), (4, .int g)] [] S1 μ1 (qi (Eq2 G P o im a)))) := by
  obtain ⟨N, hN⟩ : ∃ N, μ (o + 1) = N := ⟨_, rfl⟩
  have hw : WF N := hN ▸ hI.wf
  have hr : repD μ (P + 1) N := hN ▸ hI.rep
  have lo := hI.lo
  have b1 := hw.n1.2
  have b2 := hw.n2.2
  have b3 := hw.n3.2
  have b4 := hw.n4.2
  have b5 := hw.n5.2
  have b6 := hw.n6.2
  refine X_aload_n (tk_X9_person.at 0 rfl) rfl ?_
  refine X_aload_n (tk_X9_person.at 1 rfl) rfl ?_
  refine X_getR (tk_X9_person.at 2 rfl) fl_x9_12 hI.P0 rfl rfl ?_
  refine X_getR (tk_X9_person.at 3 rfl) fl_x9_62 hI.D.1 rfl rfl ?_
  refine X_iload_n (tk_X9_person.at 4 rfl) rfl ?_
  refine X_iload_n (tk_X9_person.at 5 rfl) rfl ?_
  refine X_iload_n (tk_X9_person.at 6 rfl) rfl ?_
  refine X_iload (tk_X9_person.at 7 rfl) rfl ?_
  refine X_cV5i (lv2 := [(0, _), (1, _), (2, _), (3, _), (4, _), (5, _)]) (tk_X9_person.at 8 rfl) mv_X9_newFour lk_x9_66 np_X9_newFour hI.P0 (by decide) rfl (Nat.le_of_ble_eq_true rfl) (Nat.le_of_ble_eq_true rfl) rfl (c9_newFour (F := (P + 1 + 1)) (n := (nv (N 1))) hI.P0 hI.E hI.D.2.1 (rD_people hw hr) (by omega) (by decide) (fun hf => ?_) (fun hf hfull => ?_) (fun hf hfull => ?_))
  · refine X_ireturn (tk_X9_person.at 9 rfl) rfl rfl ?_
    have hnt : ¬ (Told w s p g) := fun g => hf ((fit_p hI.st).mpr g)
    refine c10_person (n := (nv (N 1))) hI.M (by rw [su_ne (by omega), hN]; exact hw.n1.1) (by omega) (fun _ => ⟨rfl, fin_e hI (Fs.rf hI) (Sq.rf _ _) rfl⟩) (fun g => absurd g hnt) (fun g => absurd g hnt)
  · refine X_ireturn (tk_X9_person.at 9 rfl) rfl rfl ?_
    have htt : (Told w s p g) := (fit_p hI.st).mp hf
    refine c10_person (n := (nv (N 1))) hI.M (by rw [su_ne (by omega), hN]; exact hw.n1.1) (by omega) (fun g => absurd htt g) (fun _ _ => ⟨rfl, fin_e hI (Fs.rf hI) (Sq.rf _ _) rfl⟩) (fun _ g => absurd g (by omega))
  · refine X_ireturn (tk_X9_person.at 9 rfl) rfl rfl ?_
    have htt : (Told w s p g) := (fit_p hI.st).mp hf
    generalize eν : (Mx (su μ (P + 1 + 1) 3 (nI ((nv (N 1)) + 1))) ((P + 1 + 1) + 1) (upd (upd (upd (upd (μ ((P + 1 + 1) + 1)) (4 * (nv (N 1)) + 0) w) (4 * (nv (N 1)) + 1) s) (4 * (nv (N 1)) + 2) p) (4 * (nv (N 1)) + 3) g)) = ν
    have fν : ∀ a, a ≠ (P + 1 + 1) → a ≠ (P + 1 + 1) + 1 → ν a = μ a := fun a h1 h2 => by rw [← eν, Mx_ne h2, su_ne h1]
    have hNν : ν (o + 1) = N := by rw [fν _ (by omega) (by omega)]; exact hN
    refine c10_person (n := (nv (N 1))) hI.M (by rw [hNν]; exact hw.n1.1) (by omega) (fun g => absurd htt g) (fun _ g => absurd g (by omega)) (fun _ _ => ?_)
    rw [hNν]
    have fin := fin_n (ξ := Mx ν (o + 1) (addN N 8 (nv (N 1)) w s p g 1)) hI ⟨fun a ha => fν a (by omega) (by omega), by rw [fν _ (by omega) (by omega)]; exact hI.nb⟩ (Sq.mx (Sq.rf _ _) _ (by omega))
    have ou : ∀ a, a ≠ 1 → (a < 8 + 4 * (nv (N 1)) ∨ 12 + 4 * (nv (N 1)) ≤ a) → (addN N 8 (nv (N 1)) w s p g 1) a = N a := fun a h1 h2 => addN_out h1 h2
    have e1 : (addN N 8 (nv (N 1)) w s p g 1) 1 = nI ((nv (N 1)) + 1) := upd_at _ _ _
    have vv : ∀ j, j < 4 → (addN N 8 (nv (N 1)) w s p g 1) (8 + 4 * (nv (N 1)) + j) = f4 w s p g j := addN_v (by decide)
    have rν : repD ν (P + 1) (addN N 8 (nv (N 1)) w s p g 1) := repD_addp hw hr rfl (by omega) (fun a h1 h2 => fν a h1 h2) ou e1 (by rw [← eν, Mx_ne (by omega), su_same]; exact upd_at _ _ _) (fun i hi => by rw [← eν]; exact (congrFun Mx_same i).trans (up4_o hi)) (fun c hc => by rw [vv c hc, ← eν]; exact (congrFun Mx_same _).trans (up4_v c hc))
    have wν : WF (addN N 8 (nv (N 1)) w s p g 1) := WF_addp hw rfl (by omega) htt ou e1 (vv 0 (by decide)) ((congrArg _ (by omega)).trans (vv 1 (by decide))) ((congrArg _ (by omega)).trans (vv 2 (by decide))) ((congrArg _ (by omega)).trans (vv 3 (by decide)))
    refine ⟨rfl, fin ?_ ?_⟩
    · rw [Mx_same]; exact repD_of rν (fun a h1 h2 => Mx_ne (by omega))
    · rw [Mx_same]; exact wν
set_option maxHeartbeats 1000000 in
theorem t_piece {G : Gl} {d : Nat} {S : Sh} {μ : Mu} {P o t q im : Nat} {kp : Option Nat} {w s p g : Int32} (hI : Inv G S P o kp t q im μ) : X G mi_X9_piece (d + 60) 0 0 [(0, .ref P), (1, .int w), (2, .int s), (3, .int p), (4, .int g)] [] S μ (qi (fun a S1 μ1 => X G mi_X10_piece (d + 60) 0 0 [(0, .ref o), (1, .int w), (2, .int s), (3, .int p), (4, .int g)] [] S1 μ1 (qi (Eq2 G P o im a)))) := by
  obtain ⟨N, hN⟩ : ∃ N, μ (o + 1) = N := ⟨_, rfl⟩
  have hw : WF N := hN ▸ hI.wf
  have hr : repD μ (P + 1) N := hN ▸ hI.rep
  have lo := hI.lo
  have b1 := hw.n1.2
  have b2 := hw.n2.2
  have b3 := hw.n3.2
  have b4 := hw.n4.2
  have b5 := hw.n5.2
  have b6 := hw.n6.2
  refine X_aload_n (tk_X9_piece.at 0 rfl) rfl ?_
  refine X_aload_n (tk_X9_piece.at 1 rfl) rfl ?_
  refine X_getR (tk_X9_piece.at 2 rfl) fl_x9_12 hI.P0 rfl rfl ?_
  refine X_getR (tk_X9_piece.at 3 rfl) fl_x9_118 hI.D.1 rfl rfl ?_
  refine X_iload_n (tk_X9_piece.at 4 rfl) rfl ?_
  refine X_iload_n (tk_X9_piece.at 5 rfl) rfl ?_
  refine X_iload_n (tk_X9_piece.at 6 rfl) rfl ?_
  refine X_iload (tk_X9_piece.at 7 rfl) rfl ?_
  refine X_cV5i (lv2 := [(0, _), (1, _), (2, _), (3, _), (4, _), (5, _)]) (tk_X9_piece.at 8 rfl) mv_X9_newFour lk_x9_66 np_X9_newFour hI.P0 (by decide) rfl (Nat.le_of_ble_eq_true rfl) (Nat.le_of_ble_eq_true rfl) rfl (c9_newFour (F := (P + 1 + 3)) (n := (nv (N 2))) hI.P0 hI.E hI.D.2.2.1 (rD_pieces hw hr) (by omega) (by decide) (fun hf => ?_) (fun hf hfull => ?_) (fun hf hfull => ?_))
  · refine X_ireturn (tk_X9_piece.at 9 rfl) rfl rfl ?_
    have hnt : ¬ (ToldC w s p g) := fun g => hf ((fit_c hI.st).mpr g)
    refine c10_piece (n := (nv (N 2))) hI.M (by rw [su_ne (by omega), hN]; exact hw.n2.1) (by omega) (fun _ => ⟨rfl, fin_e hI (Fs.rf hI) (Sq.rf _ _) rfl⟩) (fun g => absurd g hnt) (fun g => absurd g hnt)
  · refine X_ireturn (tk_X9_piece.at 9 rfl) rfl rfl ?_
    have htt : (ToldC w s p g) := (fit_c hI.st).mp hf
    refine c10_piece (n := (nv (N 2))) hI.M (by rw [su_ne (by omega), hN]; exact hw.n2.1) (by omega) (fun g => absurd htt g) (fun _ _ => ⟨rfl, fin_e hI (Fs.rf hI) (Sq.rf _ _) rfl⟩) (fun _ g => absurd g (by omega))
  · refine X_ireturn (tk_X9_piece.at 9 rfl) rfl rfl ?_
    have htt : (ToldC w s p g) := (fit_c hI.st).mp hf
    generalize eν : (Mx (su μ (P + 1 + 3) 3 (nI ((nv (N 2)) + 1))) ((P + 1 + 3) + 1) (upd (upd (upd (upd (μ ((P + 1 + 3) + 1)) (4 * (nv (N 2)) + 0) w) (4 * (nv (N 2)) + 1) s) (4 * (nv (N 2)) + 2) p) (4 * (nv (N 2)) + 3) g)) = ν
    have fν : ∀ a, a ≠ (P + 1 + 3) → a ≠ (P + 1 + 3) + 1 → ν a = μ a := fun a h1 h2 => by rw [← eν, Mx_ne h2, su_ne h1]
    have hNν : ν (o + 1) = N := by rw [fν _ (by omega) (by omega)]; exact hN
    refine c10_piece (n := (nv (N 2))) hI.M (by rw [hNν]; exact hw.n2.1) (by omega) (fun g => absurd htt g) (fun _ g => absurd g (by omega)) (fun _ _ => ?_)
    rw [hNν]
    have fin := fin_n (ξ := Mx ν (o + 1) (addN N 48 (nv (N 2)) w s p g 2)) hI ⟨fun a ha => fν a (by omega) (by omega), by rw [fν _ (by omega) (by omega)]; exact hI.nb⟩ (Sq.mx (Sq.rf _ _) _ (by omega))
    have ou : ∀ a, a ≠ 2 → (a < 48 + 4 * (nv (N 2)) ∨ 52 + 4 * (nv (N 2)) ≤ a) → (addN N 48 (nv (N 2)) w s p g 2) a = N a := fun a h1 h2 => addN_out h1 h2
    have e1 : (addN N 48 (nv (N 2)) w s p g 2) 2 = nI ((nv (N 2)) + 1) := upd_at _ _ _
    have vv : ∀ j, j < 4 → (addN N 48 (nv (N 2)) w s p g 2) (48 + 4 * (nv (N 2)) + j) = f4 w s p g j := addN_v (by decide)
    have rν : repD ν (P + 1) (addN N 48 (nv (N 2)) w s p g 2) := repD_addc hw hr rfl (by omega) (fun a h1 h2 => fν a h1 h2) ou e1 (by rw [← eν, Mx_ne (by omega), su_same]; exact upd_at _ _ _) (fun i hi => by rw [← eν]; exact (congrFun Mx_same i).trans (up4_o hi)) (fun c hc => by rw [vv c hc, ← eν]; exact (congrFun Mx_same _).trans (up4_v c hc))
    have wν : WF (addN N 48 (nv (N 2)) w s p g 2) := WF_addc hw rfl (by omega) htt ou e1 (vv 0 (by decide)) ((congrArg _ (by omega)).trans (vv 1 (by decide))) ((congrArg _ (by omega)).trans (vv 2 (by decide))) ((congrArg _ (by omega)).trans (vv 3 (by decide)))
    refine ⟨rfl, fin ?_ ?_⟩
    · rw [Mx_same]; exact repD_of rν (fun a h1 h2 => Mx_ne (by omega))
    · rw [Mx_same]; exact wν
set_option maxHeartbeats 1000000 in
theorem t_rope {G : Gl} {d : Nat} {S : Sh} {μ : Mu} {P o t q im : Nat} {kp : Option Nat} {w s p : Int32} (hI : Inv G S P o kp t q im μ) : X G mi_X9_rope (d + 60) 0 0 [(0, .ref P), (1, .int w), (2, .int s), (3, .int p)] [] S μ (qi (fun a S1 μ1 => X G mi_X10_rope_ (d + 60) 0 0 [(0, .ref o), (1, .int w), (2, .int s), (3, .int p)] [] S1 μ1 (qi (Eq2 G P o im a)))) := by
  obtain ⟨N, hN⟩ : ∃ N, μ (o + 1) = N := ⟨_, rfl⟩
  have hw : WF N := hN ▸ hI.wf
  have hr : repD μ (P + 1) N := hN ▸ hI.rep
  have lo := hI.lo
  have b1 := hw.n1.2
  have b2 := hw.n2.2
  have b3 := hw.n3.2
  have b4 := hw.n4.2
  have b5 := hw.n5.2
  have b6 := hw.n6.2
  refine X_aload_n (tk_X9_rope.at 0 rfl) rfl ?_
  refine X_aload_n (tk_X9_rope.at 1 rfl) rfl ?_
  refine X_getR (tk_X9_rope.at 2 rfl) fl_x9_12 hI.P0 rfl rfl ?_
  refine X_getR (tk_X9_rope.at 3 rfl) fl_x9_127 hI.D.1 rfl rfl ?_
  refine X_iload_n (tk_X9_rope.at 4 rfl) rfl ?_
  refine X_iload_n (tk_X9_rope.at 5 rfl) rfl ?_
  refine X_iload_n (tk_X9_rope.at 6 rfl) rfl ?_
  refine X_iconst (tk_X9_rope.at 7 rfl) ci_0 ?_
  refine X_cV5i (lv2 := [(0, _), (1, _), (2, _), (3, _), (4, _), (5, _)]) (tk_X9_rope.at 8 rfl) mv_X9_newFour lk_x9_66 np_X9_newFour hI.P0 (by decide) rfl (Nat.le_of_ble_eq_true rfl) (Nat.le_of_ble_eq_true rfl) rfl (c9_newFour (F := (P + 1 + 5)) (n := (nv (N 3))) hI.P0 hI.E hI.D.2.2.2.1 (rD_ropes hw hr) (by omega) (by decide) (fun hf => ?_) (fun hf hfull => ?_) (fun hf hfull => ?_))
  · refine X_ireturn (tk_X9_rope.at 9 rfl) rfl rfl ?_
    have hnt : ¬ (ToldR w s p) := fun g => hf ((fit_r hI.st).mpr g)
    refine c10_ropeP (n := (nv (N 3))) hI.M (by rw [su_ne (by omega), hN]; exact hw.n3.1) (by omega) (fun _ => ⟨rfl, fin_e hI (Fs.rf hI) (Sq.rf _ _) rfl⟩) (fun g => absurd g hnt) (fun g => absurd g hnt)
  · refine X_ireturn (tk_X9_rope.at 9 rfl) rfl rfl ?_
    have htt : (ToldR w s p) := (fit_r hI.st).mp hf
    refine c10_ropeP (n := (nv (N 3))) hI.M (by rw [su_ne (by omega), hN]; exact hw.n3.1) (by omega) (fun g => absurd htt g) (fun _ _ => ⟨rfl, fin_e hI (Fs.rf hI) (Sq.rf _ _) rfl⟩) (fun _ g => absurd g (by omega))
  · refine X_ireturn (tk_X9_rope.at 9 rfl) rfl rfl ?_
    have htt : (ToldR w s p) := (fit_r hI.st).mp hf
    generalize eν : (Mx (su μ (P + 1 + 5) 3 (nI ((nv (N 3)) + 1))) ((P + 1 + 5) + 1) (upd (upd (upd (upd (μ ((P + 1 + 5) + 1)) (4 * (nv (N 3)) + 0) w) (4 * (nv (N 3)) + 1) s) (4 * (nv (N 3)) + 2) p) (4 * (nv (N 3)) + 3) 0)) = ν
    have fν : ∀ a, a ≠ (P + 1 + 5) → a ≠ (P + 1 + 5) + 1 → ν a = μ a := fun a h1 h2 => by rw [← eν, Mx_ne h2, su_ne h1]
    have hNν : ν (o + 1) = N := by rw [fν _ (by omega) (by omega)]; exact hN
    refine c10_ropeP (n := (nv (N 3))) hI.M (by rw [hNν]; exact hw.n3.1) (by omega) (fun g => absurd htt g) (fun _ g => absurd g (by omega)) (fun _ _ => ?_)
    rw [hNν]
    have fin := fin_n (ξ := Mx ν (o + 1) (addR N (nv (N 3)) w s p)) hI ⟨fun a ha => fν a (by omega) (by omega), by rw [fν _ (by omega) (by omega)]; exact hI.nb⟩ (Sq.mx (Sq.rf _ _) _ (by omega))
    have ou : ∀ a, a ≠ 3 → (a < 80 + 9 * (nv (N 3)) ∨ 84 + 9 * (nv (N 3)) ≤ a) → (addR N (nv (N 3)) w s p) a = N a := fun a h1 h2 => by unfold addR; rw [upd_ne _ _ h1, upd_ne _ _ (by omega), upd_ne _ _ (by omega), upd_ne _ _ (by omega), upd_ne _ _ (by omega)]
    have e1 : (addR N (nv (N 3)) w s p) 3 = nI ((nv (N 3)) + 1) := upd_at _ _ _
    have v3 : (addR N (nv (N 3)) w s p) (83 + 9 * (nv (N 3))) = 0 := by unfold addR; rw [upd_ne _ _ (by omega), upd_at]
    have v2 : (addR N (nv (N 3)) w s p) (82 + 9 * (nv (N 3))) = p := by unfold addR; rw [upd_ne _ _ (by omega), upd_ne _ _ (by omega), upd_at]
    have v1 : (addR N (nv (N 3)) w s p) (81 + 9 * (nv (N 3))) = s := by unfold addR; rw [upd_ne _ _ (by omega), upd_ne _ _ (by omega), upd_ne _ _ (by omega), upd_at]
    have v0 : (addR N (nv (N 3)) w s p) (80 + 9 * (nv (N 3))) = w := by unfold addR; rw [upd_ne _ _ (by omega), upd_ne _ _ (by omega), upd_ne _ _ (by omega), upd_ne _ _ (by omega), upd_at]
    have rν : repD ν (P + 1) (addR N (nv (N 3)) w s p) := repD_addr hw hr rfl (by omega) (fun a h1 h2 => fν a h1 h2) ou e1 v3 (by rw [← eν, Mx_ne (by omega), su_same]; exact upd_at _ _ _) (fun i hi => by rw [← eν]; exact (congrFun Mx_same i).trans (up4_o hi)) (fun c hc => by rw [← eν]; refine (congrFun Mx_same _).trans ((up4_v c (by omega)).trans ?_); rcases (show c = 0 ∨ c = 1 ∨ c = 2 by omega) with rfl | rfl | rfl; exact v0.symm; exact v1.symm.trans (congrArg _ (by omega)); exact v2.symm.trans (congrArg _ (by omega)))
    have wν : WF (addR N (nv (N 3)) w s p) := WF_addr hw rfl (by omega) htt ou e1 v0 v1 v2 v3
    refine ⟨rfl, fin ?_ ?_⟩
    · rw [Mx_same]; exact repD_of rν (fun a h1 h2 => Mx_ne (by omega))
    · rw [Mx_same]; exact wν
