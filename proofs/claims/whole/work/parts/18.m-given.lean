/-- the reference's scratch for crossings: over, comes, before, named, pile -/
def Tst (μ : Mu) (o : Nat) (ov : Int32) (cm bf f P : Nat → Int32) : Mu := fun a => if a = o then upd (μ o) 17 ov else if a = o + 7 then f else if a = o + 8 then P else if a = o + 9 then cm else if a = o + 10 then bf else μ a
section
variable (μ : Mu) (o : Nat) (ov : Int32) (cm bf f P : Nat → Int32)
theorem Tst1 : Tst μ o ov cm bf f P (o + 1) = μ (o + 1) := by unfold Tst; rw [if_neg (by omega), if_neg (by omega), if_neg (by omega), if_neg (by omega), if_neg (by omega)]
theorem Tst9 : Tst μ o ov cm bf f P (o + 9) = cm := by unfold Tst; rw [if_neg (by omega), if_neg (by omega), if_neg (by omega), if_pos rfl]
theorem Tst10 : Tst μ o ov cm bf f P (o + 10) = bf := by unfold Tst; rw [if_neg (by omega), if_neg (by omega), if_neg (by omega), if_neg (by omega), if_pos rfl]
theorem Tst7 : Tst μ o ov cm bf f P (o + 7) = f := by unfold Tst; rw [if_neg (by omega), if_pos rfl]
theorem Tst8 : Tst μ o ov cm bf f P (o + 8) = P := by unfold Tst; rw [if_neg (by omega), if_neg (by omega), if_pos rfl]
theorem Tsto : Tst μ o ov cm bf f P o = upd (μ o) 17 ov := by unfold Tst; rw [if_pos rfl]
theorem Tst5 : Tst μ o ov cm bf f P o 5 = μ o 5 := by rw [Tsto, upd_ne _ _ (by decide)]
theorem Tst17 : Tst μ o ov cm bf f P o 17 = ov := by rw [Tsto, upd_at]
theorem Tst_out {a : Nat} (h : a ≠ o ∧ a ≠ o + 7 ∧ a ≠ o + 8 ∧ a ≠ o + 9 ∧ a ≠ o + 10) : Tst μ o ov cm bf f P a = μ a := by
  unfold Tst
  rw [if_neg h.1, if_neg h.2.1, if_neg h.2.2.1, if_neg h.2.2.2.1, if_neg h.2.2.2.2]
theorem Tst_Tst (ov' : Int32) (cm' bf' f' P' : Nat → Int32) : Tst (Tst μ o ov cm bf f P) o ov' cm' bf' f' P' = Tst μ o ov' cm' bf' f' P' := by
  funext a
  by_cases h : a = o
  · subst h
    rw [Tsto, Tsto, Tsto, upd_upd]
  · unfold Tst
    simp only [h, if_false]
    split
    · rfl
    · split
      · rfl
      · split
        · rfl
        · split
          · rfl
          · rfl
theorem Tst_self : Tst μ o (μ o 17) (μ (o + 9)) (μ (o + 10)) (μ (o + 7)) (μ (o + 8)) = μ := by
  funext a
  unfold Tst
  by_cases h : a = o
  · subst h
    rw [if_pos rfl]
    funext i
    unfold upd
    by_cases e : i = 17
    · rw [if_pos e, e]
    · rw [if_neg e]
  · rw [if_neg h]
    split
    · next e => rw [e]
    · split
      · next e => rw [e]
      · split
        · next e => rw [e]
        · split
          · next e => rw [e]
          · rfl
theorem Tst_f (g : Nat → Int32) : Mx (Tst μ o ov cm bf f P) (o + 7) g = Tst μ o ov cm bf g P := by
  funext a
  unfold Mx
  by_cases h : a = o + 7
  · rw [if_pos h, h, Tst7]
  · rw [if_neg h]
    unfold Tst
    rw [if_neg h, if_neg h]
theorem Tst_P (g : Nat → Int32) : Mx (Tst μ o ov cm bf f P) (o + 8) g = Tst μ o ov cm bf f g := by
  funext a
  unfold Mx
  by_cases h : a = o + 8
  · rw [if_pos h, h, Tst8]
  · rw [if_neg h]
    unfold Tst
    rw [if_neg h, if_neg h]
theorem Tst_cm (g : Nat → Int32) : Mx (Tst μ o ov cm bf f P) (o + 9) g = Tst μ o ov g bf f P := by
  funext a
  unfold Mx
  by_cases h : a = o + 9
  · rw [if_pos h, h, Tst9]
  · rw [if_neg h]
    unfold Tst
    rw [if_neg h, if_neg h]
theorem Tst_bf (g : Nat → Int32) : Mx (Tst μ o ov cm bf f P) (o + 10) g = Tst μ o ov cm g f P := by
  funext a
  unfold Mx
  by_cases h : a = o + 10
  · rw [if_pos h, h, Tst10]
  · rw [if_neg h]
    unfold Tst
    rw [if_neg h, if_neg h]
theorem Tst_ov (x : Int32) : su (Tst μ o ov cm bf f P) o 17 x = Tst μ o x cm bf f P := by
  rw [su_eq, Tsto, upd_upd]
  funext a
  unfold Mx
  by_cases h : a = o
  · rw [if_pos h, h, Tsto]
  · rw [if_neg h]
    unfold Tst
    rw [if_neg h, if_neg h]
end
def nm5 (a b c d e : Int32) : Nat → Int32 := upd (upd (upd (upd (upd (fun _ => 0) 0 a) 1 b) 2 c) 3 d) 4 e
theorem evf_congr {C nm nm' : Nat → Int32} {n : Nat} (hok : ∀ k, k < n → (C k < 20000 ∧ 0 ≤ C k ∧ C k < 10005) ∨ (C k = 20010 ∧ 1 ≤ dpt C k) ∨ (¬ C k < 20000 ∧ C k < 20010 ∧ 2 ≤ dpt C k)) (h : ∀ i, i < 5 → nm i = nm' i) : ∀ k, k ≤ n → evf C nm k = evf C nm' k
  | 0, _ => rfl
  | k + 1, hk => by
    have ih := evf_congr hok h k (by omega)
    have hok' := hok k (by omega)
    unfold evf
    rw [ih]
    split
    · next h1 =>
      congr 1
      split
      · rfl
      · next h2 =>
        apply h
        rcases hok' with ⟨g1, g2, g3⟩ | ⟨g1, -⟩ | ⟨g1, -⟩
        · obtain ⟨j, hj, e⟩ := nI_of (Int32.not_lt.mpr g2)
          rw [e] at g3 h2 ⊢
          rw [nv_nI hj]
          have := (nI_ltI (b := 10005) hj (by decide)).mp g3
          omega
        · rw [g1] at h1; exact absurd h1 (by decide)
        · exact absurd h1 g1
    · rfl
def gvV (N : Nat → Int32) (u : Nat) (a b c d e : Int32) : Int32 := if 0 < nv (N (210 + 52 * u)) then evf (fun k => N (211 + 52 * u + k)) (nm5 a b c d e) (nv (N (210 + 52 * u))) 0 else if u = 0 then a + e * b + 10 * c - d else dn 20008 (a * b) (c + 1) + 5
def cap (u : Nat) : Int32 := if u = 0 then 1000 else 999
def gv (N : Nat → Int32) (u : Nat) (a b c d e : Int32) : Int32 := mx0 (if gvV N u a b c d e < cap u then gvV N u a b c d e else cap u)
theorem gv_ok (N : Nat → Int32) (u : Nat) (a b c d e : Int32) : okN (gv N u a b c d e) 1000 := by
  have h2 : (if gvV N u a b c d e < cap u then gvV N u a b c d e else cap u) ≤ nI 1000 := by
    have h3 : cap u ≤ nI 1000 := by unfold cap; split <;> decide
    split
    · next h => exact Int32.le_trans (Int32.le_of_lt h) h3
    · exact h3
  unfold gv mx0
  generalize (if gvV N u a b c d e < cap u then gvV N u a b c d e else cap u) = x at h2
  split
  · next h =>
    have h4 := le_lits (a := 0) (b := 1000) (by decide) (show nI 0 ≤ x from Int32.le_of_lt h) h2 (by decide)
    exact ⟨h4.1, h4.2.2⟩
  · exact okN_of (n := 0) (by decide) (by decide)
set_option maxHeartbeats 1000000 in
theorem c10_given {G : Gl} {d : Nat} {S : Sh} {μ : Mu} {o : Nat} {q : Nat → Nat} {x a b c e f : Int32} {u : Nat} {K : Int32 → Sh → Mu → Prop} (hM : MS S o q) (hw : WF (μ (o + 1))) (hu : u < 2) (hx : x = nI u) (hK : ∀ h P, K (gv (μ (o + 1)) u a b c e f) S (Tst μ o (μ o 17) (μ (o + 9)) (μ (o + 10)) h P)) : X G mi_X10_given (d + 2) 0 0 [(0, .ref o), (1, .int x), (2, .int a), (3, .int b), (4, .int c), (5, .int e), (6, .int f)] [] S μ (qi K) := by
  obtain ⟨hlo, hok, hfin⟩ := hw.tx hu
  have hln := hlo.1
  have bln := hlo.2
  have e7 : su (su (su (su (su μ (o + 7) 0 a) (o + 7) 1 b) (o + 7) 2 c) (o + 7) 3 e) (o + 7) 4 f = Mx μ (o + 7) (upd (upd (upd (upd (upd (μ (o + 7)) 0 a) 1 b) 2 c) 3 e) 4 f) := by simp only [su_eq, Mx_same, Mx_Mx]
  have tail : ∀ (V : Int32) (P : Nat → Int32), gvV (μ (o + 1)) u a b c e f = V → X G mi_X10_given (d + 2) 0 112 [(0, .ref o), (1, .int x), (2, .int a), (3, .int b), (4, .int c), (5, .int e), (6, .int f), (7, .int (nI (211 + 52 * u))), (8, .int V)] [] S (Tst μ o (μ o 17) (μ (o + 9)) (μ (o + 10)) (upd (upd (upd (upd (upd (μ (o + 7)) 0 a) 1 b) 2 c) 3 e) 4 f) P) (qi K) := by
    intro V P hV
    have z := hK (upd (upd (upd (upd (upd (μ (o + 7)) 0 a) 1 b) 2 c) 3 e) 4 f) P
    unfold gv at z
    rw [hV] at z
    refine X_iconst (tk_X10_given.at 70 rfl) ci_0 ?_
    refine X_iload_n (tk_X10_given.at 71 rfl) rfl ?_
    refine X_if_neN (tgt := 123) (tk_X10_given.at 72 rfl) (by decide) hx (by omega) (fun c1 => ?_) (fun c1 => ?_)
    · refine X_sipush (tk_X10_given.at 75 rfl) cs_999 ?_
      refine X_iload (tk_X10_given.at 76 rfl) rfl ?_
      refine X_min (tk_X10_given.at 77 rfl) lk_x10_246 (Nat.le_of_ble_eq_true rfl) ?_
      refine X_max (tk_X10_given.at 78 rfl) lk_x10_164 (Nat.le_of_ble_eq_true rfl) ?_
      refine X_ireturn (tk_X10_given.at 79 rfl) rfl rfl ?_
      rw [show cap u = 999 from if_neg c1] at z
      exact z
    · refine X_sipush (tk_X10_given.at 73 rfl) cs_1000 ?_
      refine X_goto (tgt := 126) (tk_X10_given.at 74 rfl) (by decide) ?_
      refine X_iload (tk_X10_given.at 76 rfl) rfl ?_
      refine X_min (tk_X10_given.at 77 rfl) lk_x10_246 (Nat.le_of_ble_eq_true rfl) ?_
      refine X_max (tk_X10_given.at 78 rfl) lk_x10_164 (Nat.le_of_ble_eq_true rfl) ?_
      refine X_ireturn (tk_X10_given.at 79 rfl) rfl rfl ?_
      rw [show cap u = 1000 from if_pos c1] at z
      exact z
  refine X_aload_n (tk_X10_given.at 0 rfl) rfl ?_
  refine X_getR (tk_X10_given.at 1 rfl) fl_x10_35 hM.f0 rfl rfl ?_
  refine X_iconst (tk_X10_given.at 2 rfl) ci_0 ?_
  refine X_iload_n (tk_X10_given.at 3 rfl) rfl ?_
  refine X_iastN (k := 0) (tk_X10_given.at 4 rfl) hM.f7 (pz (pl 0 rfl) (by omega)) (by omega) (by decide) ?_
  refine X_aload_n (tk_X10_given.at 5 rfl) rfl ?_
  refine X_getR (tk_X10_given.at 6 rfl) fl_x10_35 hM.f0 rfl rfl ?_
  refine X_iconst (tk_X10_given.at 7 rfl) ci_1 ?_
  refine X_iload_n (tk_X10_given.at 8 rfl) rfl ?_
  refine X_iastN (k := 1) (tk_X10_given.at 9 rfl) hM.f7 (pz (pl 1 rfl) (by omega)) (by omega) (by decide) ?_
  refine X_aload_n (tk_X10_given.at 10 rfl) rfl ?_
  refine X_getR (tk_X10_given.at 11 rfl) fl_x10_35 hM.f0 rfl rfl ?_
  refine X_iconst (tk_X10_given.at 12 rfl) ci_2 ?_
  refine X_iload (tk_X10_given.at 13 rfl) rfl ?_
  refine X_iastN (k := 2) (tk_X10_given.at 14 rfl) hM.f7 (pz (pl 2 rfl) (by omega)) (by omega) (by decide) ?_
  refine X_aload_n (tk_X10_given.at 15 rfl) rfl ?_
  refine X_getR (tk_X10_given.at 16 rfl) fl_x10_35 hM.f0 rfl rfl ?_
  refine X_iconst (tk_X10_given.at 17 rfl) ci_3 ?_
  refine X_iload (tk_X10_given.at 18 rfl) rfl ?_
  refine X_iastN (k := 3) (tk_X10_given.at 19 rfl) hM.f7 (pz (pl 3 rfl) (by omega)) (by omega) (by decide) ?_
  refine X_aload_n (tk_X10_given.at 20 rfl) rfl ?_
  refine X_getR (tk_X10_given.at 21 rfl) fl_x10_35 hM.f0 rfl rfl ?_
  refine X_iconst (tk_X10_given.at 22 rfl) ci_4 ?_
  refine X_iload (tk_X10_given.at 23 rfl) rfl ?_
  refine X_iastN (k := 4) (tk_X10_given.at 24 rfl) hM.f7 (pz (pl 4 rfl) (by omega)) (by omega) (by decide) ?_
  rw [e7]
  refine X_sipush (tk_X10_given.at 25 rfl) cs_210 ?_
  refine X_bipush (tk_X10_given.at 26 rfl) cb_52 ?_
  refine X_iload_n (tk_X10_given.at 27 rfl) rfl ?_
  refine X_imul (tk_X10_given.at 28 rfl) ?_
  refine X_iadd (tk_X10_given.at 29 rfl) ?_
  refine X_iconst (tk_X10_given.at 30 rfl) ci_1 ?_
  refine X_iadd (tk_X10_given.at 31 rfl) ?_
  refine X_istore (lv' := [(0, _), (1, _), (2, _), (3, _), (4, _), (5, _), (6, _), (7, _)]) (tk_X10_given.at 32 rfl) (by decide) rfl rfl ?_
  rw [show ((210 : Int32) + 52 * x + 1) = nI (211 + 52 * u) from pz (pa (pa (pl 210 rfl) (pm (pl 52 rfl) hx)) (pl 1 rfl)) (by omega)]
  refine X_aload_n (tk_X10_given.at 33 rfl) rfl ?_
  refine X_getR (tk_X10_given.at 34 rfl) fl_x10_9 hM.f0 rfl rfl ?_
  refine X_iload (tk_X10_given.at 35 rfl) rfl ?_
  refine X_iconst (tk_X10_given.at 36 rfl) ci_1 ?_
  refine X_isub (tk_X10_given.at 37 rfl) ?_
  refine X_ialdN (k := 210 + 52 * u) (tk_X10_given.at 38 rfl) hM.f1 (pz (ps (pl (211 + 52 * u) rfl) (pl 1 rfl) (by omega)) (by omega)) (by omega) (by decide) ?_
  rw [Mx_ne (show o + 1 ≠ o + 7 by omega)]
  refine X_if_leN (tgt := 73) (tk_X10_given.at 39 rfl) (by decide) hln (by omega) (fun c1 => ?_) (fun c1 => ?_)
  · refine X_iload_n (tk_X10_given.at 45 rfl) rfl ?_
    refine X_if_neN (tgt := 95) (tk_X10_given.at 46 rfl) (by decide) hx (by omega) (fun c2 => ?_) (fun c2 => ?_)
    · refine X_sipush (tk_X10_given.at 59 rfl) cs_20008 ?_
      refine X_iload_n (tk_X10_given.at 60 rfl) rfl ?_
      refine X_iload_n (tk_X10_given.at 61 rfl) rfl ?_
      refine X_imul (tk_X10_given.at 62 rfl) ?_
      refine X_iload (tk_X10_given.at 63 rfl) rfl ?_
      refine X_iconst (tk_X10_given.at 64 rfl) ci_1 ?_
      refine X_iadd (tk_X10_given.at 65 rfl) ?_
      refine X_cS3i (lv2 := [(0, _), (1, _), (2, _)]) (tk_X10_given.at 66 rfl) ms_X10_done lk_x10_240 np_X10_done (Nat.le_of_ble_eq_true rfl) (Nat.le_of_ble_eq_true rfl) rfl (c10_done (pl 20008 rfl) (by omega) (by omega) ?_)
      refine X_iconst (tk_X10_given.at 67 rfl) ci_5 ?_
      refine X_iadd (tk_X10_given.at 68 rfl) ?_
      refine X_istore (lv' := [(0, _), (1, _), (2, _), (3, _), (4, _), (5, _), (6, _), (7, _), (8, _)]) (tk_X10_given.at 69 rfl) (by decide) rfl rfl ?_
      have z := tail _ (μ (o + 8)) (show gvV (μ (o + 1)) u a b c e f = ((dn 20008 (a * b) (c + 1)) + 5) from ?_)
      · rw [show Tst μ o (μ o 17) (μ (o + 9)) (μ (o + 10)) (upd (upd (upd (upd (upd (μ (o + 7)) 0 a) 1 b) 2 c) 3 e) 4 f) (μ (o + 8)) = Mx μ (o + 7) (upd (upd (upd (upd (upd (μ (o + 7)) 0 a) 1 b) 2 c) 3 e) 4 f) from by rw [← Tst_f, Tst_self]] at z
        exact z
      · unfold gvV
        rw [if_neg (by omega)]
        exact if_neg c2
    · refine X_iload_n (tk_X10_given.at 47 rfl) rfl ?_
      refine X_iload (tk_X10_given.at 48 rfl) rfl ?_
      refine X_iload_n (tk_X10_given.at 49 rfl) rfl ?_
      refine X_imul (tk_X10_given.at 50 rfl) ?_
      refine X_iadd (tk_X10_given.at 51 rfl) ?_
      refine X_bipush (tk_X10_given.at 52 rfl) cb_10 ?_
      refine X_iload (tk_X10_given.at 53 rfl) rfl ?_
      refine X_imul (tk_X10_given.at 54 rfl) ?_
      refine X_iadd (tk_X10_given.at 55 rfl) ?_
      refine X_iload (tk_X10_given.at 56 rfl) rfl ?_
      refine X_isub (tk_X10_given.at 57 rfl) ?_
      refine X_goto (tgt := 110) (tk_X10_given.at 58 rfl) (by decide) ?_
      refine X_istore (lv' := [(0, _), (1, _), (2, _), (3, _), (4, _), (5, _), (6, _), (7, _), (8, _)]) (tk_X10_given.at 69 rfl) (by decide) rfl rfl ?_
      have z := tail _ (μ (o + 8)) (show gvV (μ (o + 1)) u a b c e f = (((a + (f * b)) + (10 * c)) - e) from ?_)
      · rw [show Tst μ o (μ o 17) (μ (o + 9)) (μ (o + 10)) (upd (upd (upd (upd (upd (μ (o + 7)) 0 a) 1 b) 2 c) 3 e) 4 f) (μ (o + 8)) = Mx μ (o + 7) (upd (upd (upd (upd (upd (μ (o + 7)) 0 a) 1 b) 2 c) 3 e) 4 f) from by rw [← Tst_f, Tst_self]] at z
        exact z
      · unfold gvV
        rw [if_neg (by omega)]
        exact if_pos c2
  · refine X_aload_n (tk_X10_given.at 40 rfl) rfl ?_
    refine X_iload (tk_X10_given.at 41 rfl) rfl ?_
    refine X_cV1i (lv2 := [(0, _), (1, _)]) (tk_X10_given.at 42 rfl) mv_X10_worked lk_x10_243 np_X10_worked hM.f0 (by decide) rfl (Nat.le_of_ble_eq_true rfl) (Nat.le_of_ble_eq_true rfl) rfl (c10_worked (μ := (Mx μ (o + 7) (upd (upd (upd (upd (upd (μ (o + 7)) 0 a) 1 b) 2 c) 3 e) 4 f))) hM (by rw [Mx_ne (by omega)]; exact hw) hu rfl (by rw [Mx_ne (by omega)]; omega) (fun P => ?_))
    rw [Mx_ne (show o + 1 ≠ o + 7 by omega), Mx_same]
    rw [show Mx (Mx μ (o + 7) (upd (upd (upd (upd (upd (μ (o + 7)) 0 a) 1 b) 2 c) 3 e) 4 f)) (o + 8) P = Tst μ o (μ o 17) (μ (o + 9)) (μ (o + 10)) (upd (upd (upd (upd (upd (μ (o + 7)) 0 a) 1 b) 2 c) 3 e) 4 f) P from by rw [← Tst_P, ← Tst_f, Tst_self]]
    refine X_istore (lv' := [(0, _), (1, _), (2, _), (3, _), (4, _), (5, _), (6, _), (7, _), (8, _)]) (tk_X10_given.at 43 rfl) (by decide) rfl rfl ?_
    refine X_goto (tgt := 112) (tk_X10_given.at 44 rfl) (by decide) ?_
    have z := tail _ P (show gvV (μ (o + 1)) u a b c e f = evf (fun k => μ (o + 1) (211 + 52 * u + k)) (upd (upd (upd (upd (upd (μ (o + 7)) 0 a) 1 b) 2 c) 3 e) 4 f) (nv (μ (o + 1) (210 + 52 * u))) 0 from ?_)
    · exact z
    · unfold gvV
      rw [if_pos c1]
      exact congrFun (evf_congr hok (fun i hi => by rcases (show i = 0 ∨ i = 1 ∨ i = 2 ∨ i = 3 ∨ i = 4 by omega) with rfl | rfl | rfl | rfl | rfl <;> rfl) _ (Nat.le_refl _)) 0
