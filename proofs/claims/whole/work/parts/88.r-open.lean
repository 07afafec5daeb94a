def RFY (G : Gl) (S : Sh) (μ : Mu) (R n u : Nat) (T : Nat → Int32) (f : Nat) : Prop := ∀ (op : Nat) (s : Ps) (c : Nat) (C : Nat → Int32) (D : Nat) (K : Sh → Mu → Prop), op ≤ 5 → s.1 ≤ n → s.2.2.1 ≤ s.1 → s.2.1 = false → RelS s false c C → 20 * (n - s.1) + 2 < f → 8 * (5 - op) + 8 ≤ D → (∀ w' c' C', RelS (pF T n (nmU u) f 0 5 op s) w' c' C' → K S (RM μ R (pF T n (nmU u) f 0 5 op s).1 w' c' C')) → X G mi_X4_readFactor D 0 0 [(0, .ref R), (1, .int (nI op))] [] S (RM μ R s.1 false c C) (qv K)
def RLY (G : Gl) (S : Sh) (μ : Mu) (R n u : Nat) (T : Nat → Int32) (f : Nat) : Prop := ∀ (l : Nat) (op : Nat) (s : Ps) (c : Nat) (C : Nat → Int32) (D : Nat) (K : Sh → Mu → Prop), l ≤ 5 → op ≤ 5 → s.1 ≤ n → s.2.2.1 ≤ s.1 → s.2.1 = false → RelS s false c C → 20 * (n - s.1) + 2 * (6 - l) < f → 8 * (5 - op) + (5 - l) + 9 ≤ D → (∀ w' c' C', RelS (pF T n (nmU u) f 0 l op s) w' c' C' → K S (RM μ R (pF T n (nmU u) f 0 l op s).1 w' c' C')) → X G mi_X4_readLevel D 0 0 [(0, .ref R), (1, .int (nI l)), (2, .int (nI op))] [] S (RM μ R s.1 false c C) (qv K)
def RRY (G : Gl) (S : Sh) (μ : Mu) (R n u : Nat) (T : Nat → Int32) (f : Nat) : Prop := ∀ (l e : Nat) (op : Nat) (s : Ps) (w : Bool) (c : Nat) (C : Nat → Int32) (D : Nat) (K : Sh → Mu → Prop) (rest : List (Nat × Value)), l ≤ 4 → e ≤ s.1 → (l = 2 → e = 0) → op ≤ 5 → s.1 ≤ n → s.2.2.1 ≤ s.1 → RelS s w c C → 20 * (n - s.1) + 1 < f → 8 * (5 - op) + (5 - l) + 9 ≤ D → (∀ w' c' C', RelS (pF T n (nmU u) f 1 l op s) w' c' C' → K S (RM μ R (pF T n (nmU u) f 1 l op s).1 w' c' C')) → X G mi_X4_readLevel D 0 34 ([(0, .ref R), (1, .int (nI l)), (2, .int (nI op)), (3, .int (nI (if l = 2 then 1 else 50))), (4, .int (nI e))] ++ rest) [] S (RM μ R s.1 w c C) (qv K)
theorem RelS.bad {s : Ps} {c : Nat} {C : Nat → Int32} (h : c ≤ 50) : RelS (bad s) true c C := ⟨rfl, h, fun g => by cases g⟩
theorem RelS.ad {s : Ps} {w : Bool} {c : Nat} {C : Nat → Int32} (h : RelS s w c C) : RelS (ad s) w c C := h
theorem op_tr : ∀ m, m < 256 → ¬ lvl (nI m) = 9 → tr (opc (nI m)) = 20000 + nI m := by decide +kernel
theorem nm_tr : ∀ u, u < 2 → ∀ m, m < 256 → ¬ nmU u (nI m) < 0 → tr (10000 + nmU u (nI m)) = 10000 + nmU u (nI m) ∧ ¬ (nI m = 33 ∨ nI m = 40) := by decide +kernel
theorem nm_op : ∀ u, u < 2 → nmU u 33 < 0 ∧ nmU u 40 < 0 := by decide
theorem num_lo {T : Nat → Int32} {n : Nat} : ∀ (k : Nat) (s : Ps) (v a : Nat), v + 1 ≤ a → a * 10 ^ k ≤ 10000 → ∃ m, (num T n k s (nI v)).2 = nI m ∧ m < 10000
  | 0, s, v, a, h, h2 => ⟨v, rfl, by simp at h2; omega⟩
  | k + 1, s, v, a, h, h2 => by
    rw [num]
    by_cases c : 48 ≤ hr T n s ∧ hr T n s ≤ 57
    · rw [if_pos c]
      have z := le_lits (a := 48) (b := 57) (by decide) c.1 c.2 (by decide)
      obtain ⟨q, eq, q1, q2⟩ : ∃ q, hr T n s = nI q ∧ 48 ≤ q ∧ q ≤ 57 := ⟨_, z.1, z.2.1, z.2.2⟩
      rw [eq]
      have e : 10 * nI v + nI q - 48 = nI (10 * v + (q - 48)) := by
        rw [show (10 : Int32) = nI 10 from rfl, pk_mul, nI_add, show (48 : Int32) = nI 48 from rfl, pk_sub (by omega)]
        congr 1
        omega
      rw [e]
      exact num_lo k (ad s) _ (a * 10) (by omega) (by rw [Nat.mul_assoc, ← Nat.pow_succ']; exact h2)
    · rw [if_neg c]
      refine ⟨v, rfl, ?_⟩
      have : a ≤ a * 10 ^ (k + 1) := Nat.le_mul_of_pos_right a (Nat.pow_pos (by decide))
      omega
theorem num_tr {T : Nat → Int32} {n : Nat} {s : Ps} : tr (num T n 4 s 0).2 = (num T n 4 s 0).2 := by
  obtain ⟨m, e, h⟩ := num_lo (T := T) (n := n) 4 s 0 1 (by decide) (by decide)
  rw [show (0 : Int32) = nI 0 from rfl, e]
  exact tr_lo (by rw [show (20000 : Int32) = nI 20000 from rfl]; exact nI_lt (by omega) (by decide))
set_option maxHeartbeats 1000000 in
theorem c4_opNot {G : Gl} {S : Sh} {μ : Mu} {R t n u f : Nat} {T : Nat → Int32} (hC : RdC G S μ R t n u T) {op c D : Nat} {s : Ps} {C : Nat → Int32} {K : Sh → Mu → Prop} (hop : op ≤ 5) (hp : s.1 ≤ n) (hcs : s.2.2.1 ≤ s.1) (hs : s.2.1 = false) (hrel : RelS s false c C) (ihF : RFY G S μ R n u T f) (h1 : 1 ≤ s.1) (hcs2 : s.2.2.1 + 1 ≤ s.1) (hf : 20 * (n - s.1) + 2 < f) (hD : 8 * (5 - op) + 9 ≤ D) (hK : ∀ w' c' C', RelS (em (pF T n (nmU u) f 0 5 op s) 20010) w' c' C' → K S (RM μ R (em (pF T n (nmU u) f 0 5 op s) 20010).1 w' c' C')) : X G mi_X4_readOpened D 0 0 [(0, .ref R), (1, .int 33), (2, .int (nI op))] [] S (RM μ R s.1 false c C) (qv K) := by
  obtain ⟨D, rfl⟩ : ∃ D', D = D' + 1 := ⟨D - 1, by omega⟩
  refine X_iload_n (tk_X4_readOpened.at 0 rfl) rfl ?_
  refine X_bipush (tk_X4_readOpened.at 1 rfl) cb_33 ?_
  refine X_icmp_ne (tgt := 24) (tk_X4_readOpened.at 2 rfl) (by decide) (fun h => absurd h (by decide)) (fun _ => ?_)
  refine X_aload_n (tk_X4_readOpened.at 3 rfl) rfl ?_
  refine X_iload_n (tk_X4_readOpened.at 4 rfl) rfl ?_
  refine X_cV1v (lv2 := [(0, _), (1, _)]) (tk_X4_readOpened.at 5 rfl) mv_X4_readFactor lk_x4_48 np_X4_readFactor hC.1.1.1 (by decide) rfl (Nat.le_of_ble_eq_true rfl) (Nat.le_of_ble_eq_true rfl) rfl (ihF op s c C _ _ hop hp hcs hs hrel (by omega) (by omega) (fun w' c' C' hr' => ?_))
  have hg := pF_g (T := T) (nm := nmU u) f 0 5 op s hp (by decide)
  refine X_aload_n (tk_X4_readOpened.at 6 rfl) rfl ?_
  refine X_getR (tk_X4_readOpened.at 7 rfl) fl_x4_14 hC.1.1.1 rfl rfl ?_
  refine X_sipush (tk_X4_readOpened.at 8 rfl) cs_20000 ?_
  refine X_iload_n (tk_X4_readOpened.at 9 rfl) rfl ?_
  refine X_iadd (tk_X4_readOpened.at 10 rfl) ?_
  refine X_cV1v (lv2 := [(0, _), (1, _)]) (tk_X4_readOpened.at 11 rfl) mv_X6_add lk_x4_58 np_X6_add hC.1.1.2.1 (by decide) rfl (Nat.le_of_ble_eq_true rfl) (Nat.le_of_ble_eq_true rfl) rfl (rd_em (s := (pF T n (nmU u) f 0 5 op s)) (v' := 20010) hC.1.1 hr' (fun _ => by have := hg.2.2; have := hg.2.1; have := hC.1.2.2.2; omega) rfl (fun w2 c2 C2 hr2 => ?_))
  refine X_return (tk_X4_readOpened.at 12 rfl) rfl ?_
  exact hK w2 c2 C2 hr2
set_option maxHeartbeats 1000000 in
theorem c4_opOpn {G : Gl} {S : Sh} {μ : Mu} {R t n u f : Nat} {T : Nat → Int32} (hC : RdC G S μ R t n u T) {op c D : Nat} {s : Ps} {C : Nat → Int32} {K : Sh → Mu → Prop} (hop : op ≤ 5) (hp : s.1 ≤ n) (hcs : s.2.2.1 ≤ s.1) (hs : s.2.1 = false) (hrel : RelS s false c C) (ihL : RLY G S μ R n u T f) (hf : 20 * (n - s.1) + 12 < f) (hD : 8 * (5 - op) + 15 ≤ D) (hK : ∀ w' c' C', RelS (cl T n (pF T n (nmU u) f 0 0 op s)) w' c' C' → K S (RM μ R (cl T n (pF T n (nmU u) f 0 0 op s)).1 w' c' C')) : X G mi_X4_readOpened D 0 0 [(0, .ref R), (1, .int 40), (2, .int (nI op))] [] S (RM μ R s.1 false c C) (qv K) := by
  obtain ⟨D, rfl⟩ : ∃ D', D = D' + 1 := ⟨D - 1, by omega⟩
  refine X_iload_n (tk_X4_readOpened.at 0 rfl) rfl ?_
  refine X_bipush (tk_X4_readOpened.at 1 rfl) cb_33 ?_
  refine X_icmp_ne (tgt := 24) (tk_X4_readOpened.at 2 rfl) (by decide) (fun _ => ?_) (fun h => absurd h (by decide))
  refine X_aload_n (tk_X4_readOpened.at 13 rfl) rfl ?_
  refine X_iconst (tk_X4_readOpened.at 14 rfl) ci_0 ?_
  refine X_iload_n (tk_X4_readOpened.at 15 rfl) rfl ?_
  refine X_cV2v (lv2 := [(0, _), (1, _), (2, _)]) (tk_X4_readOpened.at 16 rfl) mv_X4_readLevel lk_x4_40 np_X4_readLevel hC.1.1.1 (by decide) rfl (Nat.le_of_ble_eq_true rfl) (Nat.le_of_ble_eq_true rfl) rfl (ihL 0 op s c C _ _ (by decide) hop hp hcs hs hrel (by omega) (by omega) (fun w' c' C' hr' => ?_))
  have hg := pF_g (T := T) (nm := nmU u) f 0 0 op s hp (by decide)
  cases ew : (pF T n (nmU u) f 0 0 op s).2.1 with
  | true =>
    obtain rfl : w' = true := hr'.1.trans ew
    refine X_aload_n (tk_X4_readOpened.at 17 rfl) rfl ?_
    refine X_getI (tk_X4_readOpened.at 18 rfl) fl_x4_33 hC.1.1.1 rfl ?_
    rw [RM4, bN_t]
    change X _ _ _ _ _ _ (.int 1 :: _) _ _ _
    refine X_if_eq (tgt := 38) (tk_X4_readOpened.at 19 rfl) (by decide) (fun h => absurd h (by decide)) (fun _ => ?_)
    refine X_return (tk_X4_readOpened.at 20 rfl) rfl ?_
    have z := hK true c' C' (by rw [cl, if_neg (by rw [hr_w ew]; decide), bad_w ew]; exact hr')
    rw [cl, if_neg (by rw [hr_w ew]; decide), bad_w ew] at z
    exact z
  | false =>
    obtain rfl : w' = false := hr'.1.trans ew
    refine X_aload_n (tk_X4_readOpened.at 17 rfl) rfl ?_
    refine X_getI (tk_X4_readOpened.at 18 rfl) fl_x4_33 hC.1.1.1 rfl ?_
    rw [RM4, bN_f]
    change X _ _ _ _ _ _ (.int 0 :: _) _ _ _
    refine X_if_eq (tgt := 38) (tk_X4_readOpened.at 19 rfl) (by decide) (fun _ => ?_) (fun h => absurd h (by decide))
    refine X_aload_n (tk_X4_readOpened.at 21 rfl) rfl ?_
    refine X_getR (tk_X4_readOpened.at 22 rfl) fl_x4_20 hC.1.1.1 rfl rfl ?_
    refine X_aload_n (tk_X4_readOpened.at 23 rfl) rfl ?_
    refine X_getI (tk_X4_readOpened.at 24 rfl) fl_x4_29 hC.1.1.1 rfl ?_
    refine X_cV1i (lv2 := [(0, _), (1, _)]) (tk_X4_readOpened.at 25 rfl) mv_X6_at lk_x4_51 np_X6_at hC.1.2.2.1.1 (by decide) rfl (Nat.le_of_ble_eq_true rfl) (Nat.le_of_ble_eq_true rfl) rfl (rd_at (s := (pF T n (nmU u) f 0 0 op s)) hC ew hg.2.1 RM3 ?_)
    refine X_bipush (tk_X4_readOpened.at 26 rfl) cb_41 ?_
    refine X_icmp_ne (tgt := 67) (tk_X4_readOpened.at 27 rfl) (by decide) (fun c2 => ?_) (fun c2 => ?_)
    · refine X_aload_n (tk_X4_readOpened.at 35 rfl) rfl ?_
      refine X_iconst (tk_X4_readOpened.at 36 rfl) ci_1 ?_
      refine X_putI (tk_X4_readOpened.at 37 rfl) fl_x4_33 hC.1.1.1 rfl rfl ⟨rfl, rfl⟩ ?_
      refine X_return (tk_X4_readOpened.at 38 rfl) rfl ?_
      rw [RM_w (w' := true) (v := 1) rfl]
      have z := hK true c' C' (by rw [cl, if_neg c2]; exact RelS.bad hr'.2.1)
      rw [cl, if_neg c2] at z
      exact z
    · refine X_aload_n (tk_X4_readOpened.at 28 rfl) rfl ?_
      refine X_dup (tk_X4_readOpened.at 29 rfl) rfl ?_
      refine X_getI (tk_X4_readOpened.at 30 rfl) fl_x4_29 hC.1.1.1 rfl ?_
      refine X_iconst (tk_X4_readOpened.at 31 rfl) ci_1 ?_
      refine X_iadd (tk_X4_readOpened.at 32 rfl) ?_
      refine X_putI (tk_X4_readOpened.at 33 rfl) fl_x4_29 hC.1.1.1 rfl rfl ⟨rfl, rfl⟩ ?_
      rw [RM3, nI_1, RM_p]
      refine X_goto (tgt := 72) (tk_X4_readOpened.at 34 rfl) (by decide) ?_
      refine X_return (tk_X4_readOpened.at 38 rfl) rfl ?_
      have z := hK false c' C' (by rw [cl, if_pos c2]; exact hr')
      rw [cl, if_pos c2] at z
      exact z
