theorem bg_le {s : Tr} {b : Int32} (h : s.1 ≤ 40) : (bg s b).1 ≤ 40 := by
  unfold bg
  split
  · show s.1 + 1 ≤ 40; omega
  · exact h
theorem vo_le {Kd : Nat} {sp kn : Int32} : ∀ (f k a : Nat) (x : Int32) (s : Tr), s.1 ≤ 40 → (vo Kd sp kn f k a x s).2.1 ≤ 40
  | 0, _, _, _, s, h => h
  | f + 1, k, a, x, s, h => by
    rw [vo]
    split
    all_goals first | exact bg_le h | exact vo_le f _ _ _ _ (bg_le h) | exact vo_le f _ _ _ _ (vo_le f _ _ _ _ (bg_le h))
theorem own_n : ∀ b, b < 7 → ∀ a, a < 4 → own b a = true → (4 * b + a = 0 ∨ 4 * b + a = 1 ∨ 4 * b + a = 2 ∨ 4 * b + a = 3 ∨ 4 * b + a = 5 ∨ 4 * b + a = 8 ∨ 4 * b + a = 12 ∨ 4 * b + a = 14 ∨ 4 * b + a = 19 ∨ 4 * b + a = 20 ∨ 4 * b + a = 23 ∨ 4 * b + a = 25 ∨ 4 * b + a = 26) := by
  intro b hb a ha h
  rcases (show b = 0 ∨ b = 1 ∨ b = 2 ∨ b = 3 ∨ b = 4 ∨ b = 5 ∨ b = 6 by omega) with rfl | rfl | rfl | rfl | rfl | rfl | rfl <;> simp [own] at h <;> omega
theorem vo_0 {Kd f k a : Nat} {sp kn x : Int32} {s : Tr} (h : 4 * bear k a + a = 0) : vo Kd sp kn (f + 1) k a x s = ((x + sp), (bg s 10)) := by rw [vo, h]; rfl
theorem vo_1 {Kd f k a : Nat} {sp kn x : Int32} {s : Tr} (h : 4 * bear k a + a = 1) : vo Kd sp kn (f + 1) k a x s = (((vo Kd sp kn f Kd 0 x (bg s 11)).1 * 2), (vo Kd sp kn f Kd 0 x (bg s 11)).2) := by rw [vo, h]; rfl
theorem trm_1 {Kd f k a : Nat} (h : 4 * bear k a + a = 1) (g : trm Kd (f + 1) k a = true) : trm Kd f Kd 0 = true := by
  rw [trm, h] at g
  simpa using g
theorem vo_2 {Kd f k a : Nat} {sp kn x : Int32} {s : Tr} (h : 4 * bear k a + a = 2) : vo Kd sp kn (f + 1) k a x s = ((x - kn), (bg s 12)) := by rw [vo, h]; rfl
theorem vo_3 {Kd f k a : Nat} {sp kn x : Int32} {s : Tr} (h : 4 * bear k a + a = 3) : vo Kd sp kn (f + 1) k a x s = (((vo Kd sp kn f Kd 1 x (bg s 13)).1 ^^^ (vo Kd sp kn f Kd 2 x (vo Kd sp kn f Kd 1 x (bg s 13)).2).1), (vo Kd sp kn f Kd 2 x (vo Kd sp kn f Kd 1 x (bg s 13)).2).2) := by rw [vo, h]; rfl
theorem trm_3 {Kd f k a : Nat} (h : 4 * bear k a + a = 3) (g : trm Kd (f + 1) k a = true) : trm Kd f Kd 1 = true ∧ trm Kd f Kd 2 = true := by
  rw [trm, h] at g
  simpa using g
theorem vo_5 {Kd f k a : Nat} {sp kn x : Int32} {s : Tr} (h : 4 * bear k a + a = 5) : vo Kd sp kn (f + 1) k a x s = (((vo Kd sp kn f 0 1 x (bg s 20)).1 - (vo Kd sp kn f Kd 2 1 (vo Kd sp kn f 0 1 x (bg s 20)).2).1), (vo Kd sp kn f Kd 2 1 (vo Kd sp kn f 0 1 x (bg s 20)).2).2) := by rw [vo, h]; rfl
theorem trm_5 {Kd f k a : Nat} (h : 4 * bear k a + a = 5) (g : trm Kd (f + 1) k a = true) : trm Kd f 0 1 = true ∧ trm Kd f Kd 2 = true := by
  rw [trm, h] at g
  simpa using g
theorem vo_8 {Kd f k a : Nat} {sp kn x : Int32} {s : Tr} (h : 4 * bear k a + a = 8) : vo Kd sp kn (f + 1) k a x s = (((vo Kd sp kn f 0 0 x (bg s 30)).1 * 3), (vo Kd sp kn f 0 0 x (bg s 30)).2) := by rw [vo, h]; rfl
theorem trm_8 {Kd f k a : Nat} (h : 4 * bear k a + a = 8) (g : trm Kd (f + 1) k a = true) : trm Kd f 0 0 = true := by
  rw [trm, h] at g
  simpa using g
theorem vo_12 {Kd f k a : Nat} {sp kn x : Int32} {s : Tr} (h : 4 * bear k a + a = 12) : vo Kd sp kn (f + 1) k a x s = ((vo Kd sp kn f 2 0 (x + 1) (bg s 41)).1, (vo Kd sp kn f 2 0 (x + 1) (bg s 41)).2) := by rw [vo, h]; rfl
theorem trm_12 {Kd f k a : Nat} (h : 4 * bear k a + a = 12) (g : trm Kd (f + 1) k a = true) : trm Kd f 2 0 = true := by
  rw [trm, h] at g
  simpa using g
theorem vo_14 {Kd f k a : Nat} {sp kn x : Int32} {s : Tr} (h : 4 * bear k a + a = 14) : vo Kd sp kn (f + 1) k a x s = ((0 - (vo Kd sp kn f 2 2 x (bg s 40)).1), (vo Kd sp kn f 2 2 x (bg s 40)).2) := by rw [vo, h]; rfl
theorem trm_14 {Kd f k a : Nat} (h : 4 * bear k a + a = 14) (g : trm Kd (f + 1) k a = true) : trm Kd f 2 2 = true := by
  rw [trm, h] at g
  simpa using g
theorem vo_19 {Kd f k a : Nat} {sp kn x : Int32} {s : Tr} (h : 4 * bear k a + a = 19) : vo Kd sp kn (f + 1) k a x s = (((vo Kd sp kn f 0 3 x (bg s 50)).1 - (vo Kd sp kn f Kd 0 2 (vo Kd sp kn f 0 3 x (bg s 50)).2).1), (vo Kd sp kn f Kd 0 2 (vo Kd sp kn f 0 3 x (bg s 50)).2).2) := by rw [vo, h]; rfl
theorem trm_19 {Kd f k a : Nat} (h : 4 * bear k a + a = 19) (g : trm Kd (f + 1) k a = true) : trm Kd f 0 3 = true ∧ trm Kd f Kd 0 = true := by
  rw [trm, h] at g
  simpa using g
theorem vo_20 {Kd f k a : Nat} {sp kn x : Int32} {s : Tr} (h : 4 * bear k a + a = 20) : vo Kd sp kn (f + 1) k a x s = (((vo Kd sp kn f 4 0 x (bg s 60)).1 ^^^ sp), (vo Kd sp kn f 4 0 x (bg s 60)).2) := by rw [vo, h]; rfl
theorem trm_20 {Kd f k a : Nat} (h : 4 * bear k a + a = 20) (g : trm Kd (f + 1) k a = true) : trm Kd f 4 0 = true := by
  rw [trm, h] at g
  simpa using g
theorem vo_23 {Kd f k a : Nat} {sp kn x : Int32} {s : Tr} (h : 4 * bear k a + a = 23) : vo Kd sp kn (f + 1) k a x s = (((vo Kd sp kn f 4 3 x (bg s 61)).1 * 5), (vo Kd sp kn f 4 3 x (bg s 61)).2) := by rw [vo, h]; rfl
theorem trm_23 {Kd f k a : Nat} (h : 4 * bear k a + a = 23) (g : trm Kd (f + 1) k a = true) : trm Kd f 4 3 = true := by
  rw [trm, h] at g
  simpa using g
theorem vo_25 {Kd f k a : Nat} {sp kn x : Int32} {s : Tr} (h : 4 * bear k a + a = 25) : vo Kd sp kn (f + 1) k a x s = (0, (bg s 70)) := by rw [vo, h]; rfl
theorem vo_26 {Kd f k a : Nat} {sp kn x : Int32} {s : Tr} (h : 4 * bear k a + a = 26) : vo Kd sp kn (f + 1) k a x s = (((vo Kd sp kn f 0 2 x (bg s 71)).1 + sp), (vo Kd sp kn f 0 2 x (bg s 71)).2) := by rw [vo, h]; rfl
theorem trm_26 {Kd f k a : Nat} (h : 4 * bear k a + a = 26) (g : trm Kd (f + 1) k a = true) : trm Kd f 0 2 = true := by
  rw [trm, h] at g
  simpa using g
def VM (μ : Mu) (o : Nat) (s : Tr) : Mu := su (Mx μ (o + 13) s.2) o 22 (nI s.1)
section
variable {μ : Mu} {o : Nat} {s : Tr}
theorem VM22 : VM μ o s o 22 = nI s.1 := by unfold VM; rw [su_same]; exact upd_at _ _ _
theorem VM23 : VM μ o s o 23 = μ o 23 := by unfold VM; rw [su_same, upd_ne _ _ (by decide), Mx_ne (by omega)]
theorem VM1 : VM μ o s (o + 1) = μ (o + 1) := by unfold VM; rw [su_ne (by omega), Mx_ne (by omega)]
theorem VM_bg {b : Int32} (h : s.1 < 40) : su (su (VM μ o s) (o + 13) s.1 b) o 22 (nI (s.1 + 1)) = VM μ o (bg s b) := by
  unfold bg
  rw [if_pos h]
  unfold VM
  rw [su_eq, su_eq (su _ _ _ _), su_ne (show o + 13 ≠ o by omega), Mx_same, Mx_ne (show o ≠ o + 13 by omega), su_same, su_eq, Mx_ne (show o ≠ o + 13 by omega), upd_upd, Mx_comm _ (show o ≠ o + 13 by omega), Mx_Mx, Mx_Mx, su_eq, Mx_ne (show o ≠ o + 13 by omega)]
theorem VM_st {x : Int32} : su (su μ o 22 0) o 23 x = VM (su μ o 23 x) o (0, μ (o + 13)) := by
  unfold VM
  rw [show Mx (su μ o 23 x) (o + 13) (μ (o + 13)) = su μ o 23 x from by rw [show μ (o + 13) = su μ o 23 x (o + 13) from (by rw [su_ne (by omega)]), Mx_self]]
  simp only [su_eq, Mx_same, Mx_Mx]
  congr 1
  funext k
  unfold upd
  by_cases h : k = 22
  · subst h; rfl
  · by_cases h2 : k = 23
    · subst h2; simp
    · simp [h, h2]
end
set_option maxHeartbeats 1000000 in
theorem c10_began {G : Gl} {d : Nat} {S : Sh} {μ : Mu} {o : Nat} {q : Nat → Nat} {s : Tr} {b : Int32} {K : Sh → Mu → Prop} (hM : MS S o q) (hs : s.1 ≤ 40) (hK : K S (VM μ o (bg s b))) : X G mi_X10_began d 0 0 [(0, .ref o), (1, .int b)] [] S (VM μ o s) (qv K) := by
  refine X_aload_n (tk_X10_began.at 0 rfl) rfl ?_
  refine X_getI (tk_X10_began.at 1 rfl) fl_x10_308 hM.f0 rfl ?_
  refine X_bipush (tk_X10_began.at 2 rfl) cb_40 ?_
  refine X_icmp_geN (tgt := 29) (tk_X10_began.at 3 rfl) (by decide) VM22 (pl 40 rfl) (by omega) (by omega) (fun c1 => ?_) (fun c1 => ?_)
  · refine X_return (tk_X10_began.at 16 rfl) rfl ?_
    rw [show bg s b = s from if_neg (by omega)] at hK
    exact hK
  · refine X_aload_n (tk_X10_began.at 4 rfl) rfl ?_
    refine X_getR (tk_X10_began.at 5 rfl) fl_x10_53 hM.f0 rfl rfl ?_
    refine X_aload_n (tk_X10_began.at 6 rfl) rfl ?_
    refine X_getI (tk_X10_began.at 7 rfl) fl_x10_308 hM.f0 rfl ?_
    refine X_iload_n (tk_X10_began.at 8 rfl) rfl ?_
    refine X_iastN (k := s.1) (tk_X10_began.at 9 rfl) hM.f13 VM22 (by omega) (by decide) ?_
    refine X_aload_n (tk_X10_began.at 10 rfl) rfl ?_
    refine X_dup (tk_X10_began.at 11 rfl) rfl ?_
    refine X_getI (tk_X10_began.at 12 rfl) fl_x10_308 hM.f0 rfl ?_
    refine X_iconst (tk_X10_began.at 13 rfl) ci_1 ?_
    refine X_iadd (tk_X10_began.at 14 rfl) ?_
    refine X_putI (tk_X10_began.at 15 rfl) fl_x10_308 hM.f0 rfl rfl ⟨rfl, rfl⟩ ?_
    refine X_return (tk_X10_began.at 16 rfl) rfl ?_
    rw [show (su (VM μ o s) (o + 13) s.1 b) o 22 = VM μ o s o 22 from by rw [su_ne (by omega)], VM22, nI_1, VM_bg c1]
    exact hK
set_option maxHeartbeats 1000000 in
theorem c10_hasOwn {G : Gl} {d : Nat} {S : Sh} {μ : Mu} {x y : Int32} {k a : Nat} {K : Int32 → Sh → Mu → Prop} (hx : x = nI k) (hk : k < 7) (hy : y = nI a) (ha : a < 4) (kt : own k a = true → K 1 S μ) (kf : own k a = false → K 0 S μ) : X G mi_X10_hasOwn d 0 0 [(0, .int x), (1, .int y)] [] S μ (qi K) := by
  refine X_iload_n (tk_X10_hasOwn.at 0 rfl) rfl ?_
  rcases (show k = 0 ∨ k = 1 ∨ k = 2 ∨ k = 3 ∨ k = 4 ∨ k = 5 ∨ k = 6 from by omega) with e1 | e1 | e1 | e1 | e1 | e1 | e1
  · refine X_tableInN (n := 0) (tgt := 40) (tk_X10_hasOwn.at 1 rfl) (pz hx e1) (by decide) (by decide) (by decide) rfl (by decide) ?_
    refine X_iconst (tk_X10_hasOwn.at 2 rfl) ci_1 ?_
    refine X_ireturn (tk_X10_hasOwn.at 3 rfl) rfl rfl ?_
    exact kt (by unfold own; subst e1; simp)
  · refine X_tableInN (n := 1) (tgt := 42) (tk_X10_hasOwn.at 1 rfl) (pz hx e1) (by decide) (by decide) (by decide) rfl (by decide) ?_
    refine X_iload_n (tk_X10_hasOwn.at 4 rfl) rfl ?_
    refine X_iconst (tk_X10_hasOwn.at 5 rfl) ci_1 ?_
    refine X_icmp_neN (tgt := 51) (tk_X10_hasOwn.at 6 rfl) (by decide) hy (pl 1 rfl) (by omega) (by omega) (fun c1 => ?_) (fun c1 => ?_)
    · refine X_iconst (tk_X10_hasOwn.at 9 rfl) ci_0 ?_
      refine X_ireturn (tk_X10_hasOwn.at 10 rfl) rfl rfl ?_
      exact kf (by unfold own; subst e1; simp [c1])
    · refine X_iconst (tk_X10_hasOwn.at 7 rfl) ci_1 ?_
      refine X_goto (tgt := 52) (tk_X10_hasOwn.at 8 rfl) (by decide) ?_
      refine X_ireturn (tk_X10_hasOwn.at 10 rfl) rfl rfl ?_
      exact kt (by unfold own; subst e1; simp [c1])
  · refine X_tableInN (n := 2) (tgt := 53) (tk_X10_hasOwn.at 1 rfl) (pz hx e1) (by decide) (by decide) (by decide) rfl (by decide) ?_
    refine X_iload_n (tk_X10_hasOwn.at 11 rfl) rfl ?_
    refine X_if_neN (tgt := 61) (tk_X10_hasOwn.at 12 rfl) (by decide) hy (by omega) (fun c2 => ?_) (fun c2 => ?_)
    · refine X_iconst (tk_X10_hasOwn.at 15 rfl) ci_0 ?_
      refine X_ireturn (tk_X10_hasOwn.at 16 rfl) rfl rfl ?_
      exact kf (by unfold own; subst e1; simp [c2])
    · refine X_iconst (tk_X10_hasOwn.at 13 rfl) ci_1 ?_
      refine X_goto (tgt := 62) (tk_X10_hasOwn.at 14 rfl) (by decide) ?_
      refine X_ireturn (tk_X10_hasOwn.at 16 rfl) rfl rfl ?_
      exact kt (by unfold own; subst e1; simp [c2])
  · refine X_tableInN (n := 3) (tgt := 63) (tk_X10_hasOwn.at 1 rfl) (pz hx e1) (by decide) (by decide) (by decide) rfl (by decide) ?_
    refine X_iload_n (tk_X10_hasOwn.at 17 rfl) rfl ?_
    refine X_if_eqN (tgt := 72) (tk_X10_hasOwn.at 18 rfl) (by decide) hy (by omega) (fun c3 => ?_) (fun c3 => ?_)
    · refine X_iconst (tk_X10_hasOwn.at 22 rfl) ci_1 ?_
      refine X_goto (tgt := 77) (tk_X10_hasOwn.at 23 rfl) (by decide) ?_
      refine X_ireturn (tk_X10_hasOwn.at 25 rfl) rfl rfl ?_
      exact kt (by unfold own; subst e1; simp [c3])
    · refine X_iload_n (tk_X10_hasOwn.at 19 rfl) rfl ?_
      refine X_iconst (tk_X10_hasOwn.at 20 rfl) ci_2 ?_
      refine X_icmp_neN (tgt := 76) (tk_X10_hasOwn.at 21 rfl) (by decide) hy (pl 2 rfl) (by omega) (by omega) (fun c4 => ?_) (fun c4 => ?_)
      · refine X_iconst (tk_X10_hasOwn.at 24 rfl) ci_0 ?_
        refine X_ireturn (tk_X10_hasOwn.at 25 rfl) rfl rfl ?_
        exact kf (by unfold own; subst e1; simp [c3, c4])
      · refine X_iconst (tk_X10_hasOwn.at 22 rfl) ci_1 ?_
        refine X_goto (tgt := 77) (tk_X10_hasOwn.at 23 rfl) (by decide) ?_
        refine X_ireturn (tk_X10_hasOwn.at 25 rfl) rfl rfl ?_
        exact kt (by unfold own; subst e1; simp [c3, c4])
  · refine X_tableInN (n := 4) (tgt := 78) (tk_X10_hasOwn.at 1 rfl) (pz hx e1) (by decide) (by decide) (by decide) rfl (by decide) ?_
    refine X_iload_n (tk_X10_hasOwn.at 26 rfl) rfl ?_
    refine X_iconst (tk_X10_hasOwn.at 27 rfl) ci_3 ?_
    refine X_icmp_neN (tgt := 87) (tk_X10_hasOwn.at 28 rfl) (by decide) hy (pl 3 rfl) (by omega) (by omega) (fun c5 => ?_) (fun c5 => ?_)
    · refine X_iconst (tk_X10_hasOwn.at 31 rfl) ci_0 ?_
      refine X_ireturn (tk_X10_hasOwn.at 32 rfl) rfl rfl ?_
      exact kf (by unfold own; subst e1; simp [c5])
    · refine X_iconst (tk_X10_hasOwn.at 29 rfl) ci_1 ?_
      refine X_goto (tgt := 88) (tk_X10_hasOwn.at 30 rfl) (by decide) ?_
      refine X_ireturn (tk_X10_hasOwn.at 32 rfl) rfl rfl ?_
      exact kt (by unfold own; subst e1; simp [c5])
  · refine X_tableInN (n := 5) (tgt := 89) (tk_X10_hasOwn.at 1 rfl) (pz hx e1) (by decide) (by decide) (by decide) rfl (by decide) ?_
    refine X_iload_n (tk_X10_hasOwn.at 33 rfl) rfl ?_
    refine X_if_eqN (tgt := 98) (tk_X10_hasOwn.at 34 rfl) (by decide) hy (by omega) (fun c6 => ?_) (fun c6 => ?_)
    · refine X_iconst (tk_X10_hasOwn.at 38 rfl) ci_1 ?_
      refine X_goto (tgt := 103) (tk_X10_hasOwn.at 39 rfl) (by decide) ?_
      refine X_ireturn (tk_X10_hasOwn.at 41 rfl) rfl rfl ?_
      exact kt (by unfold own; subst e1; simp [c6])
    · refine X_iload_n (tk_X10_hasOwn.at 35 rfl) rfl ?_
      refine X_iconst (tk_X10_hasOwn.at 36 rfl) ci_3 ?_
      refine X_icmp_neN (tgt := 102) (tk_X10_hasOwn.at 37 rfl) (by decide) hy (pl 3 rfl) (by omega) (by omega) (fun c7 => ?_) (fun c7 => ?_)
      · refine X_iconst (tk_X10_hasOwn.at 40 rfl) ci_0 ?_
        refine X_ireturn (tk_X10_hasOwn.at 41 rfl) rfl rfl ?_
        exact kf (by unfold own; subst e1; simp [c6, c7])
      · refine X_iconst (tk_X10_hasOwn.at 38 rfl) ci_1 ?_
        refine X_goto (tgt := 103) (tk_X10_hasOwn.at 39 rfl) (by decide) ?_
        refine X_ireturn (tk_X10_hasOwn.at 41 rfl) rfl rfl ?_
        exact kt (by unfold own; subst e1; simp [c6, c7])
  · refine X_tableOutN (n := 6) (tgt := 104) (tk_X10_hasOwn.at 1 rfl) (pz hx e1) (by decide) (by decide) (by decide) ?_
    refine X_iload_n (tk_X10_hasOwn.at 42 rfl) rfl ?_
    refine X_iconst (tk_X10_hasOwn.at 43 rfl) ci_1 ?_
    refine X_icmp_eqN (tgt := 114) (tk_X10_hasOwn.at 44 rfl) (by decide) hy (pl 1 rfl) (by omega) (by omega) (fun c8 => ?_) (fun c8 => ?_)
    · refine X_iconst (tk_X10_hasOwn.at 48 rfl) ci_1 ?_
      refine X_goto (tgt := 119) (tk_X10_hasOwn.at 49 rfl) (by decide) ?_
      refine X_ireturn (tk_X10_hasOwn.at 51 rfl) rfl rfl ?_
      exact kt (by unfold own; subst e1; simp [c8])
    · refine X_iload_n (tk_X10_hasOwn.at 45 rfl) rfl ?_
      refine X_iconst (tk_X10_hasOwn.at 46 rfl) ci_2 ?_
      refine X_icmp_neN (tgt := 118) (tk_X10_hasOwn.at 47 rfl) (by decide) hy (pl 2 rfl) (by omega) (by omega) (fun c9 => ?_) (fun c9 => ?_)
      · refine X_iconst (tk_X10_hasOwn.at 50 rfl) ci_0 ?_
        refine X_ireturn (tk_X10_hasOwn.at 51 rfl) rfl rfl ?_
        exact kf (by unfold own; subst e1; simp [c8, c9])
      · refine X_iconst (tk_X10_hasOwn.at 48 rfl) ci_1 ?_
        refine X_goto (tgt := 119) (tk_X10_hasOwn.at 49 rfl) (by decide) ?_
        refine X_ireturn (tk_X10_hasOwn.at 51 rfl) rfl rfl ?_
        exact kt (by unfold own; subst e1; simp [c8, c9])
