def nmU (u : Nat) (c : Int32) : Int32 := if u = 0 then (if 115 = c then 4 else if 108 = c then 3 else if 98 = c then 2 else if 104 = c then 1 else if 119 = c then 0 else -1) else (if 110 = c then 3 else if 112 = c then 2 else if 100 = c then 1 else if 119 = c then 0 else -1)
/-- the two texts of names -/
def Txt (G : Gl) (S : Sh) (μ : Mu) (q : Nat → Nat) : Prop := ∀ u, u < 2 → S.2 (q u) = some (kT (11 + u)) ∧ S.2 (G.2.2.2 (11 + u + 20)) = some (kB (5 - u)) ∧ ∀ c, nmf (μ (G.2.2.2 (11 + u + 20))) c (5 - u) = nmU u c
def rdr (N : Nat → Int32) (u : Nat) (C : Nat → Int32) : Ps := pF (fun k => N (140 + k)) (nv (N 5)) (nmU u) 1013 0 0 0 (0, false, 0, C)
def txN (N : Nat → Int32) (u c k : Nat) (C : Nat → Int32) : Nat → Int32 := fun a => if a = 5 then 0 else if a = 210 + 52 * u then nI c else if 211 + 52 * u ≤ a ∧ a < 211 + 52 * u + k then C (a - (211 + 52 * u)) else N a
theorem txN_st (N : Nat → Int32) {u c k : Nat} (C : Nat → Int32) : upd (txN N u c k C) (211 + 52 * u + k) (C k) = txN N u c (k + 1) C := by
  funext a
  unfold upd txN
  by_cases e : a = 211 + 52 * u + k
  · rw [if_pos e, if_neg (by omega), if_neg (by omega), if_pos (by omega), e]
    congr 1
    omega
  · rw [if_neg e]
    by_cases e5 : a = 5
    · rw [if_pos e5, if_pos e5]
    · rw [if_neg e5, if_neg e5]
      by_cases e6 : a = 210 + 52 * u
      · rw [if_pos e6, if_pos e6]
      · rw [if_neg e6, if_neg e6]
        by_cases e7 : 211 + 52 * u ≤ a ∧ a < 211 + 52 * u + k
        · rw [if_pos e7, if_pos (by omega)]
        · rw [if_neg e7, if_neg (by omega)]
theorem txN_0 (N : Nat → Int32) {u c : Nat} (C : Nat → Int32) : upd (upd N 5 0) (210 + 52 * u) (nI c) = txN N u c 0 C := by
  funext a
  unfold upd txN
  by_cases e5 : a = 5
  · rw [if_neg (by omega), if_pos e5, if_pos e5]
  · rw [if_neg e5, if_neg e5]
    by_cases e6 : a = 210 + 52 * u
    · rw [if_pos e6, if_pos e6]
    · rw [if_neg e6, if_neg e6, if_neg (by omega)]
theorem PM_st {μ : Mu} {o : Nat} {x : Int32} : su (su (su (su (su μ o 9 x) o 7 0) o 8 0) o 10 0) o 12 0 = PM (su μ o 9 x) o 0 (0, false, 0, μ (o + 6)) := by
  unfold PM
  have e6 : (su μ o 9 x) (o + 6) = μ (o + 6) := by rw [su_ne (by omega)]
  have e0 : Mx (su μ o 9 x) (o + 6) (μ (o + 6)) = su μ o 9 x := by rw [← e6, Mx_self]
  show _ = Mx (Mx (su μ o 9 x) (o + 6) (μ (o + 6))) o _
  rw [e0]
  simp only [su_eq, Mx_same, Mx_Mx]
  congr 1
  funext k
  unfold upd pmf
  by_cases h7 : k = 7
  · subst h7; rfl
  · by_cases h8 : k = 8
    · subst h8; rfl
    · by_cases h10 : k = 10
      · subst h10; rfl
      · by_cases h12 : k = 12
        · subst h12; rfl
        · simp [h7, h8, h10, h12]
theorem PM_u1 {μ : Mu} {o op k : Nat} {s : Ps} {x : Int32} : su (PM μ o op s) (o + 1) k x = PM (su μ (o + 1) k x) o op s := by
  unfold PM
  rw [su_eq, Mx_ne (show o + 1 ≠ o by omega), Mx_ne (show o + 1 ≠ o + 6 by omega), su_eq, Mx_ne (show o ≠ o + 1 by omega), Mx_comm _ (show o ≠ o + 1 by omega), Mx_comm _ (show o + 6 ≠ o + 1 by omega)]
theorem PM_Mx1 {μ : Mu} {o op : Nat} {s : Ps} {f : Nat → Int32} : Mx (PM μ o op s) (o + 1) f = PM (Mx μ (o + 1) f) o op s := by
  unfold PM
  rw [Mx_ne (show o ≠ o + 1 by omega), Mx_comm _ (show o ≠ o + 1 by omega), Mx_comm _ (show o + 6 ≠ o + 1 by omega)]
theorem rdr_g {N : Nat → Int32} {u : Nat} {C : Nat → Int32} : (rdr N u C).1 ≤ nv (N 5) ∧ (rdr N u C).2.2.1 ≤ (rdr N u C).1 := by
  unfold rdr
  have h := pF_g (T := fun k => N (140 + k)) (n := nv (N 5)) (nm := nmU u) 1013 0 0 0 (0, false, 0, C) (Nat.zero_le _) (by decide)
  generalize pF (fun k => N (140 + k)) (nv (N 5)) (nmU u) 1013 0 0 0 (0, false, 0, C) = s at h ⊢
  exact ⟨h.2.1, by have := h.2.2; exact this⟩
set_option maxHeartbeats 1000000 in
theorem c10_text {G : Gl} {d : Nat} {S : Sh} {μ : Mu} {o : Nat} {q : Nat → Nat} {fm : Nat} {x : Int32} {K : Int32 → Sh → Mu → Prop} (hM : MS S o q) (hw : WF (μ (o + 1))) (hF : Fmt G fm) (hT : Txt G S μ q) (k1 : ¬ (0 ≤ x ∧ x ≤ 1) → K (-1000000001) S (er μ o 1)) (k2 : ∀ u, u < 2 → x = nI u → ((rdr (μ (o + 1)) u (μ (o + 6))).2.1 = true ∨ (rdr (μ (o + 1)) u (μ (o + 6))).1 < nv (μ (o + 1) 5)) → K (-10 - nI (rdr (μ (o + 1)) u (μ (o + 6))).1) S (PM (su (su μ o 9 (nI u)) (o + 1) 5 0) o 0 (bad (rdr (μ (o + 1)) u (μ (o + 6)))))) (k3 : ∀ u, u < 2 → x = nI u → (rdr (μ (o + 1)) u (μ (o + 6))).2.1 = false → nv (μ (o + 1) 5) ≤ (rdr (μ (o + 1)) u (μ (o + 6))).1 → K 1 S (PM (Mx (su μ o 9 (nI u)) (o + 1) (txN (μ (o + 1)) u (rdr (μ (o + 1)) u (μ (o + 6))).2.2.1 (rdr (μ (o + 1)) u (μ (o + 6))).2.2.1 (rdr (μ (o + 1)) u (μ (o + 6))).2.2.2)) o 0 (rdr (μ (o + 1)) u (μ (o + 6))))) : X G mi_X10_text (d + 44) 0 0 [(0, .ref o), (1, .int x)] [] S μ (qi K) := by
  have w0 := hw.n0
  have w1 := hw.n1
  have w2 := hw.n2
  have w3 := hw.n3
  have w4 := hw.n4
  have w5 := hw.n5
  have w6 := hw.n6
  have b1 := w1.2
  have b2 := w2.2
  have b3 := w3.2
  have b4 := w4.2
  have b5 := w5.2
  have b6 := w6.2
  have b0 := w0.2
  refine X_iload_n (tk_X10_text.at 0 rfl) rfl ?_
  refine X_iconst (tk_X10_text.at 1 rfl) ci_0 ?_
  refine X_iconst (tk_X10_text.at 2 rfl) ci_1 ?_
  refine X_cS3i (lv2 := [(0, _), (1, _), (2, _)]) (tk_X10_text.at 3 rfl) ms_X10_within lk_x10_69 np_X10_within (Nat.le_of_ble_eq_true rfl) (Nat.le_of_ble_eq_true rfl) rfl (c10_within (fun h3 h1003 => ?_) (fun h3 => ?_))
  · obtain ⟨ew3, lw3, bw3⟩ := le_lits (a := 0) (b := 1) (by decide) h3 h1003 (by decide)
    refine X_if_ne (tgt := 16) (tk_X10_text.at 4 rfl) (by decide) (fun _ => ?_) (fun h => absurd h (by decide))
    have hu2 : nv x < 2 := by omega
    have eu := ew3
    generalize nv x = u at hu2 eu
    obtain ⟨tx1, tx2, tx3⟩ := hT u hu2
    have na1 : G.2.2.2 (11 + u + 20) ≠ o := fun e => by rw [e, hM.f0] at tx2; cases tx2
    have e1 : (su μ o 9 (nI u)) (o + 1) = μ (o + 1) := by rw [su_ne (by omega)]
    have e9 : (su μ o 9 (nI u)) o 9 = nI u := by rw [su_same]; exact upd_at _ _ _
    obtain ⟨sg1, sg2⟩ := rdr_g (N := μ (o + 1)) (u := u) (C := μ (o + 6))
    refine X_aload_n (tk_X10_text.at 9 rfl) rfl ?_
    refine X_iload_n (tk_X10_text.at 10 rfl) rfl ?_
    refine X_putI (tk_X10_text.at 11 rfl) fl_x10_221 hM.f0 rfl rfl ⟨rfl, rfl⟩ ?_
    refine X_aload_n (tk_X10_text.at 12 rfl) rfl ?_
    refine X_iconst (tk_X10_text.at 13 rfl) ci_0 ?_
    refine X_putI (tk_X10_text.at 14 rfl) fl_x10_190 hM.f0 rfl rfl ⟨rfl, rfl⟩ ?_
    refine X_aload_n (tk_X10_text.at 15 rfl) rfl ?_
    refine X_iconst (tk_X10_text.at 16 rfl) ci_0 ?_
    refine X_putI (tk_X10_text.at 17 rfl) fl_x10_231 hM.f0 rfl rfl ⟨rfl, rfl⟩ ?_
    refine X_aload_n (tk_X10_text.at 18 rfl) rfl ?_
    refine X_iconst (tk_X10_text.at 19 rfl) ci_0 ?_
    refine X_putI (tk_X10_text.at 20 rfl) fl_x10_186 hM.f0 rfl rfl ⟨rfl, rfl⟩ ?_
    refine X_aload_n (tk_X10_text.at 21 rfl) rfl ?_
    refine X_iconst (tk_X10_text.at 22 rfl) ci_0 ?_
    refine X_putI (tk_X10_text.at 23 rfl) fl_x10_197 hM.f0 rfl rfl ⟨rfl, rfl⟩ ?_
    refine X_aload_n (tk_X10_text.at 24 rfl) rfl ?_
    rw [show (su (su (su (su (su μ o 9 x) o 7 0) o 8 0) o 10 0) o 12 0) = su (su (su (su (su μ o 9 (nI u)) o 7 0) o 8 0) o 10 0) o 12 0 from by rw [eu], PM_st]
    refine X_cV0v (lv2 := [(0, _)]) (tk_X10_text.at 25 rfl) mv_X10_either lk_x10_234 np_X10_either hM.f0 (by decide) rfl (Nat.le_of_ble_eq_true rfl) (Nat.le_of_ble_eq_true rfl) rfl ((rd_ok (μ := su μ o 9 (nI u)) (n := nv (μ (o + 1) 5)) (nm := nmU u) hM (by rw [e1]; exact w5.1) b5 hF (by rw [su_same]; exact upd_at _ _ _) hu2 tx1 tx2 (by omega) (fun c => by rw [su_ne na1]; exact tx3 c) 1013).1 0 0 (0, false, 0, μ (o + 6)) _ _ (by decide) (by decide) (Nat.zero_le _) (Nat.le_refl _) (by show 20 * (_ - 0) + _ < _; omega) (by omega) ?_)
    simp only [e1]
    rw [show pF (fun k => μ (o + 1) (140 + k)) (nv (μ (o + 1) 5)) (nmU u) 1013 0 0 0 (0, false, 0, μ (o + 6)) = (rdr (μ (o + 1)) u (μ (o + 6))) from rfl]
    have k2 := k2 u hu2 eu
    have k3 := k3 u hu2 eu
    generalize (rdr (μ (o + 1)) u (μ (o + 6))) = sF at k2 k3 sg1 sg2 ⊢
    have sbl := bN_le sF.2.1
    refine X_aload_n (tk_X10_text.at 26 rfl) rfl ?_
    refine X_aload_n (tk_X10_text.at 27 rfl) rfl ?_
    refine X_getI (tk_X10_text.at 28 rfl) fl_x10_186 hM.f0 rfl ?_
    refine X_if_neN (tgt := 66) (tk_X10_text.at 29 rfl) (by decide) PM10 (by omega) (fun c2 => ?_) (fun c2 => ?_)
    · refine X_iconst (tk_X10_text.at 37 rfl) ci_1 ?_
      refine X_goto (tgt := 71) (tk_X10_text.at 38 rfl) (by decide) ?_
      refine X_putI (tk_X10_text.at 40 rfl) fl_x10_186 hM.f0 rfl rfl ⟨rfl, rfl⟩ ?_
      rw [show su (PM (su μ o 9 (nI u)) o 0 sF) o 10 1 = PM (su μ o 9 (nI u)) o 0 (sF.1, true, sF.2.2) from PM_10 (b := true)]
      refine X_aload_n (tk_X10_text.at 41 rfl) rfl ?_
      refine X_getR (tk_X10_text.at 42 rfl) fl_x10_9 hM.f0 rfl rfl ?_
      refine X_iconst (tk_X10_text.at 43 rfl) ci_5 ?_
      refine X_iconst (tk_X10_text.at 44 rfl) ci_0 ?_
      refine X_iastN (k := 5) (tk_X10_text.at 45 rfl) hM.f1 (pz (pl 5 rfl) (by omega)) (by omega) (by decide) ?_
      rw [PM_u1]
      refine X_aload_n (tk_X10_text.at 46 rfl) rfl ?_
      refine X_getI (tk_X10_text.at 47 rfl) fl_x10_186 hM.f0 rfl ?_
      refine X_if_eqN (tgt := 96) (tk_X10_text.at 48 rfl) (by decide) (pl 1 PM10) (by omega) (fun c1 => (by exfalso; omega)) (fun c1 => ?_)
      refine X_bipush (tk_X10_text.at 49 rfl) cb_m10 ?_
      refine X_aload_n (tk_X10_text.at 50 rfl) rfl ?_
      refine X_getI (tk_X10_text.at 51 rfl) fl_x10_190 hM.f0 rfl ?_
      refine X_isub (tk_X10_text.at 52 rfl) ?_
      refine X_ireturn (tk_X10_text.at 53 rfl) rfl rfl ?_
      rw [show (PM (su (su μ o 9 (nI u)) (o + 1) 5 0) o 0 (sF.1, true, sF.2.2)) o 7 = nI sF.1 from PM7]
      exact k2 (by first | exact Or.inr c2 | exact Or.inl (bN_1 c2))
    · refine X_aload_n (tk_X10_text.at 30 rfl) rfl ?_
      refine X_getI (tk_X10_text.at 31 rfl) fl_x10_190 hM.f0 rfl ?_
      refine X_aload_n (tk_X10_text.at 32 rfl) rfl ?_
      refine X_getR (tk_X10_text.at 33 rfl) fl_x10_9 hM.f0 rfl rfl ?_
      refine X_iconst (tk_X10_text.at 34 rfl) ci_5 ?_
      refine X_ialdN (k := 5) (tk_X10_text.at 35 rfl) hM.f1 (pz (pl 5 rfl) (by omega)) (by omega) (by decide) ?_
      refine X_icmp_geN (tgt := 70) (tk_X10_text.at 36 rfl) (by decide) PM7 (show (PM (su μ o 9 (nI u)) o 0 sF) (o + 1) 5 = _ by rw [PM1, e1]; exact w5.1) (by omega) (by omega) (fun c3 => ?_) (fun c3 => ?_)
      · refine X_iconst (tk_X10_text.at 39 rfl) ci_0 ?_
        refine X_putI (tk_X10_text.at 40 rfl) fl_x10_186 hM.f0 rfl rfl ⟨rfl, rfl⟩ ?_
        have hf : sF.2.1 = false := bN_0 c2
        rw [show su (PM (su μ o 9 (nI u)) o 0 sF) o 10 0 = PM (su μ o 9 (nI u)) o 0 sF from by rw [show (0 : Int32) = nI (bN false) from rfl, PM_10]; rw [← hf]]
        refine X_aload_n (tk_X10_text.at 41 rfl) rfl ?_
        refine X_getR (tk_X10_text.at 42 rfl) fl_x10_9 hM.f0 rfl rfl ?_
        refine X_iconst (tk_X10_text.at 43 rfl) ci_5 ?_
        refine X_iconst (tk_X10_text.at 44 rfl) ci_0 ?_
        refine X_iastN (k := 5) (tk_X10_text.at 45 rfl) hM.f1 (pz (pl 5 rfl) (by omega)) (by omega) (by decide) ?_
        rw [PM_u1]
        refine X_aload_n (tk_X10_text.at 46 rfl) rfl ?_
        refine X_getI (tk_X10_text.at 47 rfl) fl_x10_186 hM.f0 rfl ?_
        refine X_if_eqN (tgt := 96) (tk_X10_text.at 48 rfl) (by decide) PM10 (by omega) (fun c1 => ?_) (fun c1 => (by exfalso; omega))
        refine X_aload_n (tk_X10_text.at 54 rfl) rfl ?_
        refine X_getR (tk_X10_text.at 55 rfl) fl_x10_9 hM.f0 rfl rfl ?_
        refine X_sipush (tk_X10_text.at 56 rfl) cs_210 ?_
        refine X_bipush (tk_X10_text.at 57 rfl) cb_52 ?_
        refine X_aload_n (tk_X10_text.at 58 rfl) rfl ?_
        refine X_getI (tk_X10_text.at 59 rfl) fl_x10_221 hM.f0 rfl ?_
        refine X_imul (tk_X10_text.at 60 rfl) ?_
        refine X_iadd (tk_X10_text.at 61 rfl) ?_
        refine X_aload_n (tk_X10_text.at 62 rfl) rfl ?_
        refine X_getI (tk_X10_text.at 63 rfl) fl_x10_197 hM.f0 rfl ?_
        refine X_iastN (k := 210 + 52 * u) (tk_X10_text.at 64 rfl) hM.f1 (pz (pa (pl 210 rfl) (pm (pl 52 rfl) (show (PM (su (su μ o 9 (nI u)) (o + 1) 5 0) o 0 sF) o 9 = nI u by rw [PM9]; rw [su_ne (show o ≠ o + 1 by omega)]; exact e9))) (by omega)) (by omega) (by decide) ?_
        refine X_iconst (tk_X10_text.at 65 rfl) ci_0 ?_
        refine X_istore_n (lv' := [(0, _), (1, _), (2, _)]) (tk_X10_text.at 66 rfl) (by decide) rfl rfl ?_
        have e1c : (su (PM (su (su μ o 9 (nI u)) (o + 1) 5 0) o 0 sF) (o + 1) (210 + 52 * u) ((PM (su (su μ o 9 (nI u)) (o + 1) 5 0) o 0 sF) o 12)) = (PM (Mx (su μ o 9 (nI u)) (o + 1) (txN (μ (o + 1)) u sF.2.2.1 0 sF.2.2.2)) o 0 sF) := by
          rw [PM12, PM_u1]
          congr 1
          rw [← txN_0 (μ (o + 1)) sF.2.2.2, su_eq, su_same, su_eq, e1, Mx_Mx]
        rw [e1c]
        have loop : ∀ (m k : Nat), k + m = sF.2.2.1 → X G mi_X10_text (d + 44) 0 118 [(0, .ref o), (1, .int x), (2, .int (nI k))] [] S (PM (Mx (su μ o 9 (nI u)) (o + 1) (txN (μ (o + 1)) u sF.2.2.1 k sF.2.2.2)) o 0 sF) (qi K) := by
          intro m
          induction m with
          | zero =>
            intro k hk
            have ek : k = sF.2.2.1 := by omega
            refine X_iload_n (tk_X10_text.at 67 rfl) rfl ?_
            refine X_aload_n (tk_X10_text.at 68 rfl) rfl ?_
            refine X_getI (tk_X10_text.at 69 rfl) fl_x10_197 hM.f0 rfl ?_
            refine X_icmp_geN (tgt := 158) (tk_X10_text.at 70 rfl) (by decide) (pl k rfl) PM12 (by omega) (by omega) (fun c1 => ?_) (fun c1 => (by exfalso; omega))
            refine X_iconst (tk_X10_text.at 90 rfl) ci_1 ?_
            refine X_ireturn (tk_X10_text.at 91 rfl) rfl rfl ?_
            rw [ek]
            exact k3 hf (by omega)
          | succ m ihm =>
            intro k hk
            refine X_iload_n (tk_X10_text.at 67 rfl) rfl ?_
            refine X_aload_n (tk_X10_text.at 68 rfl) rfl ?_
            refine X_getI (tk_X10_text.at 69 rfl) fl_x10_197 hM.f0 rfl ?_
            refine X_icmp_geN (tgt := 158) (tk_X10_text.at 70 rfl) (by decide) (pl k rfl) PM12 (by omega) (by omega) (fun c1 => (by exfalso; omega)) (fun c1 => ?_)
            refine X_aload_n (tk_X10_text.at 71 rfl) rfl ?_
            refine X_getR (tk_X10_text.at 72 rfl) fl_x10_9 hM.f0 rfl rfl ?_
            refine X_sipush (tk_X10_text.at 73 rfl) cs_210 ?_
            refine X_bipush (tk_X10_text.at 74 rfl) cb_52 ?_
            refine X_aload_n (tk_X10_text.at 75 rfl) rfl ?_
            refine X_getI (tk_X10_text.at 76 rfl) fl_x10_221 hM.f0 rfl ?_
            refine X_imul (tk_X10_text.at 77 rfl) ?_
            refine X_iadd (tk_X10_text.at 78 rfl) ?_
            refine X_iconst (tk_X10_text.at 79 rfl) ci_1 ?_
            refine X_iadd (tk_X10_text.at 80 rfl) ?_
            refine X_iload_n (tk_X10_text.at 81 rfl) rfl ?_
            refine X_iadd (tk_X10_text.at 82 rfl) ?_
            refine X_aload_n (tk_X10_text.at 83 rfl) rfl ?_
            refine X_getR (tk_X10_text.at 84 rfl) fl_x10_32 hM.f0 rfl rfl ?_
            refine X_iload_n (tk_X10_text.at 85 rfl) rfl ?_
            refine X_ialdN (k := k) (tk_X10_text.at 86 rfl) hM.f6 (pz (pl k rfl) (by omega)) (by omega) (by decide) ?_
            refine X_iastN (k := 211 + 52 * u + k) (tk_X10_text.at 87 rfl) hM.f1 (pz (pa (pa (pa (pl 210 rfl) (pm (pl 52 rfl) (show (PM (Mx (su μ o 9 (nI u)) (o + 1) (txN (μ (o + 1)) u sF.2.2.1 k sF.2.2.2)) o 0 sF) o 9 = nI u by rw [PM9, Mx_ne (by omega)]; exact e9))) (pl 1 rfl)) (pl k rfl)) (by omega)) (by omega) (by decide) ?_
            refine X_iinc (lv' := [(0, _), (1, _), (2, _)]) (tk_X10_text.at 88 rfl) rfl ci_1 (by decide) rfl rfl ?_
            refine X_goto (tgt := 118) (tk_X10_text.at 89 rfl) (by decide) ?_
            have z := ihm (k + 1) (by omega)
            rw [← txN_st] at z
            rw [nI_1 k, PM6, PM_u1, su_Mx]
            exact z
        exact loop _ 0 (Nat.zero_add _)
      · refine X_iconst (tk_X10_text.at 37 rfl) ci_1 ?_
        refine X_goto (tgt := 71) (tk_X10_text.at 38 rfl) (by decide) ?_
        refine X_putI (tk_X10_text.at 40 rfl) fl_x10_186 hM.f0 rfl rfl ⟨rfl, rfl⟩ ?_
        rw [show su (PM (su μ o 9 (nI u)) o 0 sF) o 10 1 = PM (su μ o 9 (nI u)) o 0 (sF.1, true, sF.2.2) from PM_10 (b := true)]
        refine X_aload_n (tk_X10_text.at 41 rfl) rfl ?_
        refine X_getR (tk_X10_text.at 42 rfl) fl_x10_9 hM.f0 rfl rfl ?_
        refine X_iconst (tk_X10_text.at 43 rfl) ci_5 ?_
        refine X_iconst (tk_X10_text.at 44 rfl) ci_0 ?_
        refine X_iastN (k := 5) (tk_X10_text.at 45 rfl) hM.f1 (pz (pl 5 rfl) (by omega)) (by omega) (by decide) ?_
        rw [PM_u1]
        refine X_aload_n (tk_X10_text.at 46 rfl) rfl ?_
        refine X_getI (tk_X10_text.at 47 rfl) fl_x10_186 hM.f0 rfl ?_
        refine X_if_eqN (tgt := 96) (tk_X10_text.at 48 rfl) (by decide) (pl 1 PM10) (by omega) (fun c1 => (by exfalso; omega)) (fun c1 => ?_)
        refine X_bipush (tk_X10_text.at 49 rfl) cb_m10 ?_
        refine X_aload_n (tk_X10_text.at 50 rfl) rfl ?_
        refine X_getI (tk_X10_text.at 51 rfl) fl_x10_190 hM.f0 rfl ?_
        refine X_isub (tk_X10_text.at 52 rfl) ?_
        refine X_ireturn (tk_X10_text.at 53 rfl) rfl rfl ?_
        rw [show (PM (su (su μ o 9 (nI u)) (o + 1) 5 0) o 0 (sF.1, true, sF.2.2)) o 7 = nI sF.1 from PM7]
        exact k2 (by first | exact Or.inr c3 | exact Or.inl (bN_1 c2))
  · refine X_if_ne (tgt := 16) (tk_X10_text.at 4 rfl) (by decide) (fun h => absurd h (by decide)) (fun _ => ?_)
    refine X_aload_n (tk_X10_text.at 5 rfl) rfl ?_
    refine X_ldc (tk_X10_text.at 6 rfl) kn_x10_81 ?_
    refine X_cV1i (lv2 := [(0, _), (1, _)]) (tk_X10_text.at 7 rfl) mv_X10_finding lk_x10_82 np_X10_finding hM.f0 (by decide) rfl (Nat.le_of_ble_eq_true rfl) (Nat.le_of_ble_eq_true rfl) rfl (c10_finding (k := 1) hM (by decide) (by decide) ?_)
    refine X_ireturn (tk_X10_text.at 8 rfl) rfl rfl ?_
    exact k1 h3
