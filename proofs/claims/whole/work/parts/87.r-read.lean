def rRq (R t q k : Nat) : Option Nat := match k with
  | 0 => some (R + 1)
  | 1 => some t
  | 2 => some q
  | _ => none
/-- a reader of the class at R that reads the row at t by the names at q -/
def RdS (S : Sh) (R t q : Nat) : Prop := S.2 R = some (kO 4 (rRq R t q)) ∧ RS S (R + 1) 50
def RM (μ : Mu) (R p : Nat) (w : Bool) (c : Nat) (C : Nat → Int32) : Mu := fun a => if a = R then upd (upd (μ R) 3 (nI p)) 4 (nI (bN w)) else if a = R + 1 then upd (μ (R + 1)) 1 (nI c) else if a = R + 2 then C else μ a
section
variable {μ : Mu} {R p c : Nat} {w : Bool} {C : Nat → Int32}
theorem RM_R : RM μ R p w c C R = upd (upd (μ R) 3 (nI p)) 4 (nI (bN w)) := if_pos rfl
theorem RM3 : RM μ R p w c C R 3 = nI p := by rw [RM_R, upd_ne _ _ (by decide), upd_at]
theorem RM4 : RM μ R p w c C R 4 = nI (bN w) := by rw [RM_R, upd_at]
theorem RMs : RM μ R p w c C (R + 1) 1 = nI c := by unfold RM; rw [if_neg (by omega), if_pos rfl, upd_at]
theorem RMc : RM μ R p w c C (R + 2) = C := by unfold RM; rw [if_neg (by omega), if_neg (by omega), if_pos rfl]
theorem RM_out {a : Nat} (h : a < R ∨ R + 3 ≤ a) : RM μ R p w c C a = μ a := by unfold RM; rw [if_neg (by omega), if_neg (by omega), if_neg (by omega)]
theorem RM_p {p' : Nat} : su (RM μ R p w c C) R 3 (nI p') = RM μ R p' w c C := by
  funext a
  by_cases e : a = R
  · subst e
    rw [su_same, RM_R, RM_R]
    funext k
    unfold upd
    by_cases h3 : k = 3
    · subst h3; rfl
    · by_cases h4 : k = 4 <;> simp [h3, h4]
  · rw [su_ne e]; unfold RM; rw [if_neg e, if_neg e]
theorem RM_w {w' : Bool} {v : Int32} (hv : v = nI (bN w')) : su (RM μ R p w c C) R 4 v = RM μ R p w' c C := by
  subst hv
  funext a
  by_cases e : a = R
  · subst e
    rw [su_same, RM_R, RM_R, upd_upd]
  · rw [su_ne e]; unfold RM; rw [if_neg e, if_neg e]
theorem RM_add {v : Int32} : su (su (RM μ R p w c C) (R + 1 + 1) c v) (R + 1) 1 (nI (c + 1)) = RM μ R p w (c + 1) (upd C c v) := by
  funext a
  by_cases e1 : a = R + 1
  · subst e1
    rw [su_same, su_ne (by omega)]
    unfold RM
    rw [if_neg (by omega), if_pos rfl, if_neg (by omega), if_pos rfl, upd_upd]
  · rw [su_ne e1]
    by_cases e2 : a = R + 2
    · subst e2
      rw [show R + 1 + 1 = R + 2 from rfl, su_same, RMc, RMc]
    · rw [su_ne (by omega)]
      unfold RM
      by_cases e : a = R
      · rw [if_pos e, if_pos e]
      · rw [if_neg e, if_neg e, if_neg e1, if_neg e1, if_neg e2, if_neg e2]
end
/-- what a read rests on -/
def RdC (G : Gl) (S : Sh) (μ : Mu) (R t n u : Nat) (T : Nat → Int32) : Prop := (RdS S R t (G.2.2.2 (11 + u)) ∧ u < 2 ∧ RS S t 50 ∧ n ≤ 50) ∧ (∀ p w c C, TxB G S (RM μ R p w c C)) ∧ (∀ p w c C, RM μ R p w c C t 1 = nI n) ∧ (∀ p w c C i, i < n → RM μ R p w c C (t + 1) i = T i) ∧ ∀ i, i < n → okN (T i) 255
/-- what the class keeps of a reader's state -/
def RelS (s : Ps) (w : Bool) (c : Nat) (C : Nat → Int32) : Prop := w = s.2.1 ∧ c ≤ 50 ∧ (s.2.1 = false → c = s.2.2.1 ∧ ∀ i, i < c → C i = tr (s.2.2.2 i))
theorem hr_or {T : Nat → Int32} {n : Nat} {s : Ps} (h : ∀ i, i < n → okN (T i) 255) : hr T n s = -1 ∨ ∃ m, m < 256 ∧ hr T n s = nI m := by
  unfold hr
  split
  · exact Or.inl rfl
  · split
    · next c => exact Or.inr ⟨nv (T s.1), by have := (h s.1 c).2; omega, (h s.1 c).1⟩
    · exact Or.inl rfl
theorem rd_at {G : Gl} {d : Nat} {S : Sh} {μ : Mu} {R t n u c : Nat} {T C : Nat → Int32} {w : Bool} {s : Ps} {x : Int32} {K : Int32 → Sh → Mu → Prop} (hC : RdC G S μ R t n u T) (hs : s.2.1 = false) (hp : s.1 ≤ n) (hx : x = nI s.1) (hK : K (hr T n s) S (RM μ R s.1 w c C)) : X G mi_X6_at d 0 0 [(0, .ref t), (1, .int x)] [] S (RM μ R s.1 w c C) (qi K) := by
  have h5 := hC.1.2.2.2
  refine c6_at hC.1.2.2.1 (hC.2.2.1 _ _ _ _) hC.1.2.2.2 (by decide) (fun j hj ej => ?_) (fun h => ?_)
  · have e : j = s.1 := (nI_eq (by omega) (by omega)).mp (ej.symm.trans hx)
    rw [hC.2.2.2.1 _ _ _ _ j hj, e, ← hr_v (T := T) (n := n) hs (by omega)]
    exact hK
  · have e : n ≤ s.1 := Nat.not_lt.mp (fun g => h ⟨s.1, g, hx⟩)
    rw [hr_e e] at hK
    exact hK
theorem rd_add {G : Gl} {d : Nat} {S : Sh} {μ : Mu} {R t q p c : Nat} {C : Nat → Int32} {w : Bool} {v : Int32} {K : Sh → Mu → Prop} (hR : RdS S R t q) (hc : c ≤ 50) (k1 : c < 50 → K S (RM μ R p w (c + 1) (upd C c v))) (k2 : c = 50 → K S (RM μ R p w c C)) : X G mi_X6_add d 0 0 [(0, .ref (R + 1)), (1, .int v)] [] S (RM μ R p w c C) (qv K) :=
  c6_add hR.2 RMs hc (by decide) (fun h => by rw [RM_add]; exact k1 h) k2
/-- a code more, whether wrong or not -/
theorem rd_em {G : Gl} {d : Nat} {S : Sh} {μ : Mu} {R t q c : Nat} {C : Nat → Int32} {w : Bool} {v v' : Int32} {s : Ps} {K : Sh → Mu → Prop} (hR : RdS S R t q) (hs : RelS s w c C) (hc : s.2.1 = false → s.2.2.1 < 50) (hv : v = tr v') (hK : ∀ w' c' C', RelS (em s v') w' c' C' → K S (RM μ R (em s v').1 w' c' C')) : X G mi_X6_add d 0 0 [(0, .ref (R + 1)), (1, .int v)] [] S (RM μ R s.1 w c C) (qv K) := by
  refine rd_add hR hs.2.1 (fun h => ?_) (fun h => ?_)
  · cases e : s.2.1 with
    | false =>
      have z := hs.2.2 e
      have k := hK w (c + 1) (upd C c v) (by
        rw [em_v e]
        refine ⟨hs.1.trans e, by omega, fun _ => ⟨by show c + 1 = s.2.2.1 + 1; rw [z.1], fun i hi => ?_⟩⟩
        show upd C c v i = tr (upd s.2.2.2 s.2.2.1 v' i)
        rw [← z.1]
        by_cases ei : i = c
        · rw [ei, upd_at, upd_at, hv]
        · rw [upd_ne _ _ ei, upd_ne _ _ ei]; exact z.2 i (by omega))
      rw [em_1] at k
      exact k
    | true =>
      have k := hK w (c + 1) (upd C c v) (by
        rw [em_w e]
        exact ⟨hs.1, by omega, fun g => by rw [e] at g; cases g⟩)
      rw [em_1] at k
      exact k
  · cases e : s.2.1 with
    | false =>
      have z := hs.2.2 e
      have := hc e
      omega
    | true =>
      have k := hK w c C (by
        rw [em_w e]
        exact hs)
      rw [em_1] at k
      exact k
def lvI (l : Nat) : Int32 := if l = 9 then -1 else nI l
theorem lv6 : ∀ m, m < 256 → (lvl (nI m) = 0 ∨ lvl (nI m) = 1 ∨ lvl (nI m) = 2 ∨ lvl (nI m) = 3 ∨ lvl (nI m) = 4 ∨ lvl (nI m) = 9) := by decide +kernel
theorem lvl_5 (b : Int32) : lvl b = 0 ∨ lvl b = 1 ∨ lvl b = 2 ∨ lvl b = 3 ∨ lvl b = 4 ∨ lvl b = 9 := by
  unfold lvl
  repeat' split
  all_goals omega
theorem lvI_eq {k l : Nat} (hk : k = 0 ∨ k = 1 ∨ k = 2 ∨ k = 3 ∨ k = 4 ∨ k = 9) (hl : l ≤ 4) : lvI k = nI l ↔ k = l := by
  rcases (show l = 0 ∨ l = 1 ∨ l = 2 ∨ l = 3 ∨ l = 4 by omega) with rfl | rfl | rfl | rfl | rfl <;> rcases hk with rfl | rfl | rfl | rfl | rfl | rfl <;> decide
theorem lvo_0 : ∀ m, m < 256 → lvl (nI m) = 0 → Op.lookupswitch.offset [((37 : Int), (99 : Int)), ((38 : Int), (93 : Int)), ((42 : Int), (99 : Int)), ((43 : Int), (97 : Int)), ((45 : Int), (97 : Int)), ((47 : Int), (99 : Int)), ((60 : Int), (95 : Int)), ((61 : Int), (95 : Int)), ((62 : Int), (95 : Int)), ((124 : Int), (91 : Int))] 101 ((m : Nat) : Int) = 91 := by decide +kernel
theorem lvo_1 : ∀ m, m < 256 → lvl (nI m) = 1 → Op.lookupswitch.offset [((37 : Int), (99 : Int)), ((38 : Int), (93 : Int)), ((42 : Int), (99 : Int)), ((43 : Int), (97 : Int)), ((45 : Int), (97 : Int)), ((47 : Int), (99 : Int)), ((60 : Int), (95 : Int)), ((61 : Int), (95 : Int)), ((62 : Int), (95 : Int)), ((124 : Int), (91 : Int))] 101 ((m : Nat) : Int) = 93 := by decide +kernel
theorem lvo_2 : ∀ m, m < 256 → lvl (nI m) = 2 → Op.lookupswitch.offset [((37 : Int), (99 : Int)), ((38 : Int), (93 : Int)), ((42 : Int), (99 : Int)), ((43 : Int), (97 : Int)), ((45 : Int), (97 : Int)), ((47 : Int), (99 : Int)), ((60 : Int), (95 : Int)), ((61 : Int), (95 : Int)), ((62 : Int), (95 : Int)), ((124 : Int), (91 : Int))] 101 ((m : Nat) : Int) = 95 := by decide +kernel
theorem lvo_3 : ∀ m, m < 256 → lvl (nI m) = 3 → Op.lookupswitch.offset [((37 : Int), (99 : Int)), ((38 : Int), (93 : Int)), ((42 : Int), (99 : Int)), ((43 : Int), (97 : Int)), ((45 : Int), (97 : Int)), ((47 : Int), (99 : Int)), ((60 : Int), (95 : Int)), ((61 : Int), (95 : Int)), ((62 : Int), (95 : Int)), ((124 : Int), (91 : Int))] 101 ((m : Nat) : Int) = 97 := by decide +kernel
theorem lvo_4 : ∀ m, m < 256 → lvl (nI m) = 4 → Op.lookupswitch.offset [((37 : Int), (99 : Int)), ((38 : Int), (93 : Int)), ((42 : Int), (99 : Int)), ((43 : Int), (97 : Int)), ((45 : Int), (97 : Int)), ((47 : Int), (99 : Int)), ((60 : Int), (95 : Int)), ((61 : Int), (95 : Int)), ((62 : Int), (95 : Int)), ((124 : Int), (91 : Int))] 101 ((m : Nat) : Int) = 99 := by decide +kernel
theorem lvo_9 : ∀ m, m < 256 → lvl (nI m) = 9 → Op.lookupswitch.offset [((37 : Int), (99 : Int)), ((38 : Int), (93 : Int)), ((42 : Int), (99 : Int)), ((43 : Int), (97 : Int)), ((45 : Int), (97 : Int)), ((47 : Int), (99 : Int)), ((60 : Int), (95 : Int)), ((61 : Int), (95 : Int)), ((62 : Int), (95 : Int)), ((124 : Int), (91 : Int))] 101 ((m : Nat) : Int) = 101 := by decide +kernel
set_option maxHeartbeats 1000000 in
theorem c4_levelOf {G : Gl} {d : Nat} {S : Sh} {μ : Mu} {x : Int32} {m : Nat} {K : Int32 → Sh → Mu → Prop} (hx : x = nI m) (hm : m < 256) (hK : K (lvI (lvl (nI m))) S μ) : X G mi_X4_levelOf d 0 0 [(0, .int x)] [] S μ (qi K) := by
  refine X_iload_n (tk_X4_levelOf.at 0 rfl) rfl ?_
  rcases lv6 m hm with e | e | e | e | e | e
  · refine X_lookupN (n := m) (tgt := 92) (tk_X4_levelOf.at 1 rfl) hx (by omega) (by decide) (lvo_0 m hm e) (by decide) ?_
    refine X_iconst (tk_X4_levelOf.at 2 rfl) ci_0 ?_
    refine X_ireturn (tk_X4_levelOf.at 3 rfl) rfl rfl ?_
    rw [e] at hK
    exact hK
  · refine X_lookupN (n := m) (tgt := 94) (tk_X4_levelOf.at 1 rfl) hx (by omega) (by decide) (lvo_1 m hm e) (by decide) ?_
    refine X_iconst (tk_X4_levelOf.at 4 rfl) ci_1 ?_
    refine X_ireturn (tk_X4_levelOf.at 5 rfl) rfl rfl ?_
    rw [e] at hK
    exact hK
  · refine X_lookupN (n := m) (tgt := 96) (tk_X4_levelOf.at 1 rfl) hx (by omega) (by decide) (lvo_2 m hm e) (by decide) ?_
    refine X_iconst (tk_X4_levelOf.at 6 rfl) ci_2 ?_
    refine X_ireturn (tk_X4_levelOf.at 7 rfl) rfl rfl ?_
    rw [e] at hK
    exact hK
  · refine X_lookupN (n := m) (tgt := 98) (tk_X4_levelOf.at 1 rfl) hx (by omega) (by decide) (lvo_3 m hm e) (by decide) ?_
    refine X_iconst (tk_X4_levelOf.at 8 rfl) ci_3 ?_
    refine X_ireturn (tk_X4_levelOf.at 9 rfl) rfl rfl ?_
    rw [e] at hK
    exact hK
  · refine X_lookupN (n := m) (tgt := 100) (tk_X4_levelOf.at 1 rfl) hx (by omega) (by decide) (lvo_4 m hm e) (by decide) ?_
    refine X_iconst (tk_X4_levelOf.at 10 rfl) ci_4 ?_
    refine X_ireturn (tk_X4_levelOf.at 11 rfl) rfl rfl ?_
    rw [e] at hK
    exact hK
  · refine X_lookupN (n := m) (tgt := 102) (tk_X4_levelOf.at 1 rfl) hx (by omega) (by decide) (lvo_9 m hm e) (by decide) ?_
    refine X_iconst (tk_X4_levelOf.at 12 rfl) ci_m1 ?_
    refine X_ireturn (tk_X4_levelOf.at 13 rfl) rfl rfl ?_
    rw [e] at hK
    exact hK
set_option maxHeartbeats 1000000 in
theorem c4_levelN {G : Gl} {d : Nat} {S : Sh} {μ : Mu} {K : Int32 → Sh → Mu → Prop} (hK : K (-1) S μ) : X G mi_X4_levelOf d 0 0 [(0, .int (-1))] [] S μ (qi K) := by
  refine X_iload_n (tk_X4_levelOf.at 0 rfl) rfl ?_
  refine X_lookup (off := 101) (tgt := 102) (tk_X4_levelOf.at 1 rfl) (by decide) (by decide) (by decide) ?_
  refine X_iconst (tk_X4_levelOf.at 12 rfl) ci_m1 ?_
  refine X_ireturn (tk_X4_levelOf.at 13 rfl) rfl rfl ?_
  exact hK
theorem c4_level {G : Gl} {d : Nat} {S : Sh} {μ : Mu} {b : Int32} {K : Int32 → Sh → Mu → Prop} (hb : b = -1 ∨ ∃ m, m < 256 ∧ b = nI m) (hK : K (lvI (lvl b)) S μ) : X G mi_X4_levelOf d 0 0 [(0, .int b)] [] S μ (qi K) := by
  rcases hb with e | ⟨m, hm, e⟩
  · subst e; exact c4_levelN hK
  · exact c4_levelOf e hm (by rw [← e]; exact hK)
set_option maxHeartbeats 1000000 in
theorem c4_isDigit {G : Gl} {d : Nat} {S : Sh} {μ : Mu} {x : Int32} {K : Int32 → Sh → Mu → Prop} (kt : 48 ≤ x → x ≤ 57 → K 1 S μ) (kf : ¬ (48 ≤ x ∧ x ≤ 57) → K 0 S μ) : X G mi_X4_isDigit d 0 0 [(0, .int x)] [] S μ (qi K) := by
  refine X_iload_n (tk_X4_isDigit.at 0 rfl) rfl ?_
  refine X_bipush (tk_X4_isDigit.at 1 rfl) cb_48 ?_
  refine X_icmp_lt (tgt := 16) (tk_X4_isDigit.at 2 rfl) (by decide) (fun c1 => ?_) (fun c1 => ?_)
  · refine X_iconst (tk_X4_isDigit.at 8 rfl) ci_0 ?_
    refine X_ireturn (tk_X4_isDigit.at 9 rfl) rfl rfl ?_
    exact kf (fun h => absurd c1 (Int32.not_lt.mpr h.1))
  · refine X_iload_n (tk_X4_isDigit.at 3 rfl) rfl ?_
    refine X_bipush (tk_X4_isDigit.at 4 rfl) cb_57 ?_
    refine X_icmp_gt (tgt := 16) (tk_X4_isDigit.at 5 rfl) (by decide) (fun c2 => ?_) (fun c2 => ?_)
    · refine X_iconst (tk_X4_isDigit.at 8 rfl) ci_0 ?_
      refine X_ireturn (tk_X4_isDigit.at 9 rfl) rfl rfl ?_
      exact kf (fun h => absurd c2 (Int32.not_lt.mpr h.2))
    · refine X_iconst (tk_X4_isDigit.at 6 rfl) ci_1 ?_
      refine X_goto (tgt := 17) (tk_X4_isDigit.at 7 rfl) (by decide) ?_
      refine X_ireturn (tk_X4_isDigit.at 9 rfl) rfl rfl ?_
      exact kt (Int32.not_lt.mp c1) (Int32.not_lt.mp c2)
set_option maxHeartbeats 1000000 in
theorem c4_readNumber {G : Gl} {d : Nat} {S : Sh} {μ : Mu} {R t n u c : Nat} {T C : Nat → Int32} {s : Ps} {K : Sh → Mu → Prop} (hC : RdC G S μ R t n u T) (hs : s.2.1 = false) (hp : s.1 ≤ n) (hc : c < 50) (hK : K S (RM μ R (num T n 4 s 0).1.1 false (c + 1) (upd C c (num T n 4 s 0).2))) : X G mi_X4_readNumber (d + 1) 0 0 [(0, .ref R)] [] S (RM μ R s.1 false c C) (qv K) := by
  have loop : ∀ (m i : Nat) (s : Ps) (v : Int32), i + m = 4 → s.2.1 = false → s.1 ≤ n → (∀ s' v', num T n m s v = (s', v') → K S (RM μ R s'.1 false (c + 1) (upd C c v'))) → X G mi_X4_readNumber (d + 1) 0 4 [(0, .ref R), (1, .int v), (2, .int (nI i))] [] S (RM μ R s.1 false c C) (qv K) := by
    intro m
    induction m with
    | zero =>
      intro i s v hi hs hp hX
      refine X_iload_n (tk_X4_readNumber.at 4 rfl) rfl ?_
      refine X_iconst (tk_X4_readNumber.at 5 rfl) ci_4 ?_
      refine X_icmp_geN (tgt := 62) (tk_X4_readNumber.at 6 rfl) (by decide) (pl i rfl) (pl 4 rfl) (by omega) (by omega) (fun c1 => ?_) (fun c1 => (by exfalso; omega))
      refine X_aload_n (tk_X4_readNumber.at 34 rfl) rfl ?_
      refine X_getR (tk_X4_readNumber.at 35 rfl) fl_x4_14 hC.1.1.1 rfl rfl ?_
      refine X_iload_n (tk_X4_readNumber.at 36 rfl) rfl ?_
      refine X_cV1v (lv2 := [(0, _), (1, _)]) (tk_X4_readNumber.at 37 rfl) mv_X6_add lk_x4_58 np_X6_add hC.1.1.2.1 (by decide) rfl (Nat.le_of_ble_eq_true rfl) (Nat.le_of_ble_eq_true rfl) rfl (rd_add hC.1.1 (by omega) (fun _ => ?_) (fun h => absurd h (by omega)))
      refine X_return (tk_X4_readNumber.at 38 rfl) rfl ?_
      exact hX s v rfl
    | succ m ih =>
      intro i s v hi hs hp hX
      refine X_iload_n (tk_X4_readNumber.at 4 rfl) rfl ?_
      refine X_iconst (tk_X4_readNumber.at 5 rfl) ci_4 ?_
      refine X_icmp_geN (tgt := 62) (tk_X4_readNumber.at 6 rfl) (by decide) (pl i rfl) (pl 4 rfl) (by omega) (by omega) (fun c1 => (by exfalso; omega)) (fun c1 => ?_)
      refine X_aload_n (tk_X4_readNumber.at 7 rfl) rfl ?_
      refine X_getR (tk_X4_readNumber.at 8 rfl) fl_x4_20 hC.1.1.1 rfl rfl ?_
      refine X_aload_n (tk_X4_readNumber.at 9 rfl) rfl ?_
      refine X_getI (tk_X4_readNumber.at 10 rfl) fl_x4_29 hC.1.1.1 rfl ?_
      refine X_cV1i (lv2 := [(0, _), (1, _)]) (tk_X4_readNumber.at 11 rfl) mv_X6_at lk_x4_51 np_X6_at hC.1.2.2.1.1 (by decide) rfl (Nat.le_of_ble_eq_true rfl) (Nat.le_of_ble_eq_true rfl) rfl (rd_at (s := s) hC hs hp RM3 ?_)
      refine X_cS1i (lv2 := [(0, _)]) (tk_X4_readNumber.at 12 rfl) ms_X4_isDigit lk_x4_61 np_X4_isDigit (Nat.le_of_ble_eq_true rfl) (Nat.le_of_ble_eq_true rfl) rfl (c4_isDigit (fun hd1 hd2 => ?_) (fun hd => ?_))
      · refine X_if_eq (tgt := 62) (tk_X4_readNumber.at 13 rfl) (by decide) (fun h => absurd h (by decide)) (fun _ => ?_)
        refine X_iload_n (tk_X4_readNumber.at 14 rfl) rfl ?_
        refine X_bipush (tk_X4_readNumber.at 15 rfl) cb_10 ?_
        refine X_imul (tk_X4_readNumber.at 16 rfl) ?_
        refine X_aload_n (tk_X4_readNumber.at 17 rfl) rfl ?_
        refine X_getR (tk_X4_readNumber.at 18 rfl) fl_x4_20 hC.1.1.1 rfl rfl ?_
        refine X_aload_n (tk_X4_readNumber.at 19 rfl) rfl ?_
        refine X_getI (tk_X4_readNumber.at 20 rfl) fl_x4_29 hC.1.1.1 rfl ?_
        refine X_cV1i (lv2 := [(0, _), (1, _)]) (tk_X4_readNumber.at 21 rfl) mv_X6_at lk_x4_51 np_X6_at hC.1.2.2.1.1 (by decide) rfl (Nat.le_of_ble_eq_true rfl) (Nat.le_of_ble_eq_true rfl) rfl (rd_at (s := s) hC hs hp RM3 ?_)
        refine X_iadd (tk_X4_readNumber.at 22 rfl) ?_
        refine X_bipush (tk_X4_readNumber.at 23 rfl) cb_48 ?_
        refine X_isub (tk_X4_readNumber.at 24 rfl) ?_
        refine X_istore_n (lv' := [(0, _), (1, _), (2, _)]) (tk_X4_readNumber.at 25 rfl) (by decide) rfl rfl ?_
        refine X_aload_n (tk_X4_readNumber.at 26 rfl) rfl ?_
        refine X_dup (tk_X4_readNumber.at 27 rfl) rfl ?_
        refine X_getI (tk_X4_readNumber.at 28 rfl) fl_x4_29 hC.1.1.1 rfl ?_
        refine X_iconst (tk_X4_readNumber.at 29 rfl) ci_1 ?_
        refine X_iadd (tk_X4_readNumber.at 30 rfl) ?_
        refine X_putI (tk_X4_readNumber.at 31 rfl) fl_x4_29 hC.1.1.1 rfl rfl ⟨rfl, rfl⟩ ?_
        rw [RM3, nI_1, RM_p]
        refine X_iinc (lv' := [(0, _), (1, _), (2, _)]) (tk_X4_readNumber.at 32 rfl) rfl ci_1 (by decide) rfl rfl ?_
        refine X_goto (tgt := 4) (tk_X4_readNumber.at 33 rfl) (by decide) ?_
        rw [nI_1 i, Int32.mul_comm v 10]
        refine ih (i + 1) (ad s) _ (by omega) hs (hr_in (T := T) (n := n) (s := s) (fun e => by rw [e] at hd1; exact absurd hd1 (by decide))).2 (fun s' v' e => ?_)
        refine hX s' v' ?_
        rw [num, if_pos ⟨hd1, hd2⟩]
        exact e
      · refine X_if_eq (tgt := 62) (tk_X4_readNumber.at 13 rfl) (by decide) (fun _ => ?_) (fun h => absurd h (by decide))
        refine X_aload_n (tk_X4_readNumber.at 34 rfl) rfl ?_
        refine X_getR (tk_X4_readNumber.at 35 rfl) fl_x4_14 hC.1.1.1 rfl rfl ?_
        refine X_iload_n (tk_X4_readNumber.at 36 rfl) rfl ?_
        refine X_cV1v (lv2 := [(0, _), (1, _)]) (tk_X4_readNumber.at 37 rfl) mv_X6_add lk_x4_58 np_X6_add hC.1.1.2.1 (by decide) rfl (Nat.le_of_ble_eq_true rfl) (Nat.le_of_ble_eq_true rfl) rfl (rd_add hC.1.1 (by omega) (fun _ => ?_) (fun h => absurd h (by omega)))
        refine X_return (tk_X4_readNumber.at 38 rfl) rfl ?_
        exact hX s v (by rw [num, if_neg hd])
  refine X_iconst (tk_X4_readNumber.at 0 rfl) ci_0 ?_
  refine X_istore_n (lv' := [(0, _), (1, _)]) (tk_X4_readNumber.at 1 rfl) (by decide) rfl rfl ?_
  refine X_iconst (tk_X4_readNumber.at 2 rfl) ci_0 ?_
  refine X_istore_n (lv' := [(0, _), (1, _), (2, _)]) (tk_X4_readNumber.at 3 rfl) (by decide) rfl rfl ?_
  exact loop 4 0 s 0 rfl hs hp (fun s' v' e => by rw [e] at hK; exact hK)
