def dn (op a b : Int32) : Int32 := if op = 20000 then (if ¬ a = 0 ∨ ¬ b = 0 then 1 else 0) else if op = 20001 then (if ¬ a = 0 ∧ ¬ b = 0 then 1 else 0) else if op = 20002 then (if a < b then 1 else 0) else if op = 20003 then (if a = b then 1 else 0) else if op = 20004 then (if b < a then 1 else 0) else if op = 20005 then a + b else if op = 20006 then a - b else if op = 20007 then a * b else if op = 20008 then (if b = 0 then 0 else a / b) else (if b = 0 then 0 else a - a / b * b)
/-- the pile behind the first k codes -/
def evf (C nm : Nat → Int32) : Nat → Nat → Int32
  | 0 => fun _ => 0
  | k + 1 => if C k < 20000 then upd (evf C nm k) (dpt C k) (if C k < 10000 then C k else nm (nv (C k) - 10000)) else if C k = 20010 then upd (evf C nm k) (dpt C k - 1) (if evf C nm k (dpt C k - 1) = 0 then 1 else 0) else upd (evf C nm k) (dpt C k - 2) (dn (C k) (evf C nm k (dpt C k - 2)) (evf C nm k (dpt C k - 1)))
theorem dpt_le (C : Nat → Int32) : ∀ k, dpt C k ≤ k
  | 0 => Nat.le_refl 0
  | k + 1 => by
    have h := dpt_le C k
    unfold dpt
    split
    · omega
    · split <;> omega
theorem lt_nI {n m : Nat} (h : n < m) (hm : m < 2 ^ 31) : nI n < nI m := nI_lt h hm
set_option maxHeartbeats 1000000 in
theorem c10_done {G : Gl} {d : Nat} {S : Sh} {μ : Mu} {op a b : Int32} {n : Nat} {K : Int32 → Sh → Mu → Prop} (hop : op = nI n) (h1 : 20000 ≤ n) (h2 : n ≤ 20009) (hK : K (dn op a b) S μ) : X G mi_X10_done d 0 0 [(0, .int op), (1, .int a), (2, .int b)] [] S μ (qi K) := by
  refine X_iload_n (tk_X10_done.at 0 rfl) rfl ?_
  rcases (show n = 20000 ∨ n = 20001 ∨ n = 20002 ∨ n = 20003 ∨ n = 20004 ∨ n = 20005 ∨ n = 20006 ∨ n = 20007 ∨ n = 20008 ∨ n = 20009 from by omega) with e1 | e1 | e1 | e1 | e1 | e1 | e1 | e1 | e1 | e1
  · refine X_tableInN (n := 20000) (tgt := 52) (tk_X10_done.at 1 rfl) (pz hop e1) (by decide) (by decide) (by decide) rfl (by decide) ?_
    refine X_iload_n (tk_X10_done.at 2 rfl) rfl ?_
    refine X_if_ne (tgt := 60) (tk_X10_done.at 3 rfl) (by decide) (fun c1 => ?_) (fun c1 => ?_)
    · refine X_iconst (tk_X10_done.at 6 rfl) ci_1 ?_
      refine X_goto (tgt := 65) (tk_X10_done.at 7 rfl) (by decide) ?_
      refine X_ireturn (tk_X10_done.at 9 rfl) rfl rfl ?_
      have hk1 : op = 20000 := by rw [hop, e1]; rfl
      refine Eq.mp (congrArg (fun z => K z S μ) ?_) hK
      subst hk1
      simp [dn, c1]
    · refine X_iload_n (tk_X10_done.at 4 rfl) rfl ?_
      refine X_if_eq (tgt := 64) (tk_X10_done.at 5 rfl) (by decide) (fun c2 => ?_) (fun c2 => ?_)
      · refine X_iconst (tk_X10_done.at 8 rfl) ci_0 ?_
        refine X_ireturn (tk_X10_done.at 9 rfl) rfl rfl ?_
        have hk1 : op = 20000 := by rw [hop, e1]; rfl
        refine Eq.mp (congrArg (fun z => K z S μ) ?_) hK
        subst hk1
        simp [dn, c1, c2]
      · refine X_iconst (tk_X10_done.at 6 rfl) ci_1 ?_
        refine X_goto (tgt := 65) (tk_X10_done.at 7 rfl) (by decide) ?_
        refine X_ireturn (tk_X10_done.at 9 rfl) rfl rfl ?_
        have hk1 : op = 20000 := by rw [hop, e1]; rfl
        refine Eq.mp (congrArg (fun z => K z S μ) ?_) hK
        subst hk1
        simp [dn, c1, c2]
  · refine X_tableInN (n := 20001) (tgt := 66) (tk_X10_done.at 1 rfl) (pz hop e1) (by decide) (by decide) (by decide) rfl (by decide) ?_
    refine X_iload_n (tk_X10_done.at 10 rfl) rfl ?_
    refine X_if_eq (tgt := 78) (tk_X10_done.at 11 rfl) (by decide) (fun c3 => ?_) (fun c3 => ?_)
    · refine X_iconst (tk_X10_done.at 16 rfl) ci_0 ?_
      refine X_ireturn (tk_X10_done.at 17 rfl) rfl rfl ?_
      have hk1 : op = 20001 := by rw [hop, e1]; rfl
      refine Eq.mp (congrArg (fun z => K z S μ) ?_) hK
      subst hk1
      simp [dn, c3]
    · refine X_iload_n (tk_X10_done.at 12 rfl) rfl ?_
      refine X_if_eq (tgt := 78) (tk_X10_done.at 13 rfl) (by decide) (fun c4 => ?_) (fun c4 => ?_)
      · refine X_iconst (tk_X10_done.at 16 rfl) ci_0 ?_
        refine X_ireturn (tk_X10_done.at 17 rfl) rfl rfl ?_
        have hk1 : op = 20001 := by rw [hop, e1]; rfl
        refine Eq.mp (congrArg (fun z => K z S μ) ?_) hK
        subst hk1
        simp [dn, c3, c4]
      · refine X_iconst (tk_X10_done.at 14 rfl) ci_1 ?_
        refine X_goto (tgt := 79) (tk_X10_done.at 15 rfl) (by decide) ?_
        refine X_ireturn (tk_X10_done.at 17 rfl) rfl rfl ?_
        have hk1 : op = 20001 := by rw [hop, e1]; rfl
        refine Eq.mp (congrArg (fun z => K z S μ) ?_) hK
        subst hk1
        simp [dn, c3, c4]
  · refine X_tableInN (n := 20002) (tgt := 80) (tk_X10_done.at 1 rfl) (pz hop e1) (by decide) (by decide) (by decide) rfl (by decide) ?_
    refine X_iload_n (tk_X10_done.at 18 rfl) rfl ?_
    refine X_iload_n (tk_X10_done.at 19 rfl) rfl ?_
    refine X_icmp_ge (tgt := 89) (tk_X10_done.at 20 rfl) (by decide) (fun c5 => ?_) (fun c5 => ?_)
    · refine X_iconst (tk_X10_done.at 23 rfl) ci_0 ?_
      refine X_ireturn (tk_X10_done.at 24 rfl) rfl rfl ?_
      have hk1 : op = 20002 := by rw [hop, e1]; rfl
      refine Eq.mp (congrArg (fun z => K z S μ) ?_) hK
      subst hk1
      simp [dn, Int32.not_lt.mpr c5]
    · refine X_iconst (tk_X10_done.at 21 rfl) ci_1 ?_
      refine X_goto (tgt := 90) (tk_X10_done.at 22 rfl) (by decide) ?_
      refine X_ireturn (tk_X10_done.at 24 rfl) rfl rfl ?_
      have hk1 : op = 20002 := by rw [hop, e1]; rfl
      refine Eq.mp (congrArg (fun z => K z S μ) ?_) hK
      subst hk1
      simp [dn, Int32.not_le.mp c5]
  · refine X_tableInN (n := 20003) (tgt := 91) (tk_X10_done.at 1 rfl) (pz hop e1) (by decide) (by decide) (by decide) rfl (by decide) ?_
    refine X_iload_n (tk_X10_done.at 25 rfl) rfl ?_
    refine X_iload_n (tk_X10_done.at 26 rfl) rfl ?_
    refine X_icmp_ne (tgt := 100) (tk_X10_done.at 27 rfl) (by decide) (fun c6 => ?_) (fun c6 => ?_)
    · refine X_iconst (tk_X10_done.at 30 rfl) ci_0 ?_
      refine X_ireturn (tk_X10_done.at 31 rfl) rfl rfl ?_
      have hk1 : op = 20003 := by rw [hop, e1]; rfl
      refine Eq.mp (congrArg (fun z => K z S μ) ?_) hK
      subst hk1
      simp [dn, c6]
    · refine X_iconst (tk_X10_done.at 28 rfl) ci_1 ?_
      refine X_goto (tgt := 101) (tk_X10_done.at 29 rfl) (by decide) ?_
      refine X_ireturn (tk_X10_done.at 31 rfl) rfl rfl ?_
      have hk1 : op = 20003 := by rw [hop, e1]; rfl
      refine Eq.mp (congrArg (fun z => K z S μ) ?_) hK
      subst hk1
      simp [dn, c6]
  · refine X_tableInN (n := 20004) (tgt := 102) (tk_X10_done.at 1 rfl) (pz hop e1) (by decide) (by decide) (by decide) rfl (by decide) ?_
    refine X_iload_n (tk_X10_done.at 32 rfl) rfl ?_
    refine X_iload_n (tk_X10_done.at 33 rfl) rfl ?_
    refine X_icmp_le (tgt := 111) (tk_X10_done.at 34 rfl) (by decide) (fun c7 => ?_) (fun c7 => ?_)
    · refine X_iconst (tk_X10_done.at 37 rfl) ci_0 ?_
      refine X_ireturn (tk_X10_done.at 38 rfl) rfl rfl ?_
      have hk1 : op = 20004 := by rw [hop, e1]; rfl
      refine Eq.mp (congrArg (fun z => K z S μ) ?_) hK
      subst hk1
      simp [dn, Int32.not_lt.mpr c7]
    · refine X_iconst (tk_X10_done.at 35 rfl) ci_1 ?_
      refine X_goto (tgt := 112) (tk_X10_done.at 36 rfl) (by decide) ?_
      refine X_ireturn (tk_X10_done.at 38 rfl) rfl rfl ?_
      have hk1 : op = 20004 := by rw [hop, e1]; rfl
      refine Eq.mp (congrArg (fun z => K z S μ) ?_) hK
      subst hk1
      simp [dn, Int32.not_le.mp c7]
  · refine X_tableInN (n := 20005) (tgt := 113) (tk_X10_done.at 1 rfl) (pz hop e1) (by decide) (by decide) (by decide) rfl (by decide) ?_
    refine X_iload_n (tk_X10_done.at 39 rfl) rfl ?_
    refine X_iload_n (tk_X10_done.at 40 rfl) rfl ?_
    refine X_iadd (tk_X10_done.at 41 rfl) ?_
    refine X_ireturn (tk_X10_done.at 42 rfl) rfl rfl ?_
    have hk1 : op = 20005 := by rw [hop, e1]; rfl
    refine Eq.mp (congrArg (fun z => K z S μ) ?_) hK
    subst hk1
    simp [dn]
  · refine X_tableInN (n := 20006) (tgt := 117) (tk_X10_done.at 1 rfl) (pz hop e1) (by decide) (by decide) (by decide) rfl (by decide) ?_
    refine X_iload_n (tk_X10_done.at 43 rfl) rfl ?_
    refine X_iload_n (tk_X10_done.at 44 rfl) rfl ?_
    refine X_isub (tk_X10_done.at 45 rfl) ?_
    refine X_ireturn (tk_X10_done.at 46 rfl) rfl rfl ?_
    have hk1 : op = 20006 := by rw [hop, e1]; rfl
    refine Eq.mp (congrArg (fun z => K z S μ) ?_) hK
    subst hk1
    simp [dn]
  · refine X_tableInN (n := 20007) (tgt := 121) (tk_X10_done.at 1 rfl) (pz hop e1) (by decide) (by decide) (by decide) rfl (by decide) ?_
    refine X_iload_n (tk_X10_done.at 47 rfl) rfl ?_
    refine X_iload_n (tk_X10_done.at 48 rfl) rfl ?_
    refine X_imul (tk_X10_done.at 49 rfl) ?_
    refine X_ireturn (tk_X10_done.at 50 rfl) rfl rfl ?_
    have hk1 : op = 20007 := by rw [hop, e1]; rfl
    refine Eq.mp (congrArg (fun z => K z S μ) ?_) hK
    subst hk1
    simp [dn]
  · refine X_tableInN (n := 20008) (tgt := 125) (tk_X10_done.at 1 rfl) (pz hop e1) (by decide) (by decide) (by decide) rfl (by decide) ?_
    refine X_iload_n (tk_X10_done.at 51 rfl) rfl ?_
    refine X_if_ne (tgt := 133) (tk_X10_done.at 52 rfl) (by decide) (fun c8 => ?_) (fun c8 => ?_)
    · refine X_iload_n (tk_X10_done.at 55 rfl) rfl ?_
      refine X_iload_n (tk_X10_done.at 56 rfl) rfl ?_
      refine X_idiv (tk_X10_done.at 57 rfl) c8 ?_
      refine X_ireturn (tk_X10_done.at 58 rfl) rfl rfl ?_
      have hk1 : op = 20008 := by rw [hop, e1]; rfl
      refine Eq.mp (congrArg (fun z => K z S μ) ?_) hK
      subst hk1
      simp [dn, c8]
    · refine X_iconst (tk_X10_done.at 53 rfl) ci_0 ?_
      refine X_goto (tgt := 136) (tk_X10_done.at 54 rfl) (by decide) ?_
      refine X_ireturn (tk_X10_done.at 58 rfl) rfl rfl ?_
      have hk1 : op = 20008 := by rw [hop, e1]; rfl
      refine Eq.mp (congrArg (fun z => K z S μ) ?_) hK
      subst hk1
      simp [dn, c8]
  · refine X_tableOutN (n := 20009) (tgt := 137) (tk_X10_done.at 1 rfl) (pz hop e1) (by decide) (by decide) (by decide) ?_
    refine X_iload_n (tk_X10_done.at 59 rfl) rfl ?_
    refine X_if_ne (tgt := 145) (tk_X10_done.at 60 rfl) (by decide) (fun c9 => ?_) (fun c9 => ?_)
    · refine X_iload_n (tk_X10_done.at 63 rfl) rfl ?_
      refine X_iload_n (tk_X10_done.at 64 rfl) rfl ?_
      refine X_irem (tk_X10_done.at 65 rfl) c9 ?_
      refine X_ireturn (tk_X10_done.at 66 rfl) rfl rfl ?_
      have hk1 : op = 20009 := by rw [hop, e1]; rfl
      refine Eq.mp (congrArg (fun z => K z S μ) ?_) hK
      subst hk1
      simp [dn, c9]
    · refine X_iconst (tk_X10_done.at 61 rfl) ci_0 ?_
      refine X_goto (tgt := 148) (tk_X10_done.at 62 rfl) (by decide) ?_
      refine X_ireturn (tk_X10_done.at 66 rfl) rfl rfl ?_
      have hk1 : op = 20009 := by rw [hop, e1]; rfl
      refine Eq.mp (congrArg (fun z => K z S μ) ?_) hK
      subst hk1
      simp [dn, c9]
set_option maxHeartbeats 1000000 in
theorem c10_worked {G : Gl} {d : Nat} {S : Sh} {μ : Mu} {o : Nat} {q : Nat → Nat} {x : Int32} {u : Nat} {K : Int32 → Sh → Mu → Prop} (hM : MS S o q) (hw : WF (μ (o + 1))) (hu : u < 2) (hx : x = nI (211 + 52 * u)) (hn : 0 < (nv (μ (o + 1) (210 + 52 * u)))) (hK : ∀ P, K (evf (fun k => μ (o + 1) (211 + 52 * u + k)) (μ (o + 7)) (nv (μ (o + 1) (210 + 52 * u))) 0) S (Mx μ (o + 8) P)) : X G mi_X10_worked (d + 1) 0 0 [(0, .ref o), (1, .int x)] [] S μ (qi K) := by
  obtain ⟨hlo, hok, hfin⟩ := hw.tx hu
  have hln := hlo.1
  have bln := hlo.2
  generalize hC : (fun k => μ (o + 1) (211 + 52 * u + k)) = C at hok hfin hK
  have hCk : ∀ k, μ (o + 1) (211 + 52 * u + k) = C k := fun k => by rw [← hC]
  have loop : ∀ (m k : Nat) (P : Nat → Int32), k + m = (nv (μ (o + 1) (210 + 52 * u))) → (∀ i, i < (dpt C k) → P i = (evf C (μ (o + 7)) k) i) → ∀ rest, X G mi_X10_worked (d + 1) 0 4 ([(0, .ref o), (1, .int x), (2, .int (nI (dpt C k))), (3, .int (nI (211 + 52 * u + k)))] ++ rest) [] S (Mx μ (o + 8) P) (qi K) := by
    intro m
    induction m with
    | zero =>
      intro k P hk hP rest
      refine X_lvp [0, 1, 2, 3] (lv' := [(0, _), (1, _), (2, _), (3, _)]) rfl ?_
      have hkk : k = (nv (μ (o + 1) (210 + 52 * u))) := by omega
      refine X_iload_n (tk_X10_worked.at 4 rfl) rfl ?_
      refine X_iload_n (tk_X10_worked.at 5 rfl) rfl ?_
      refine X_aload_n (tk_X10_worked.at 6 rfl) rfl ?_
      refine X_getR (tk_X10_worked.at 7 rfl) fl_x10_9 hM.f0 rfl rfl ?_
      refine X_iload_n (tk_X10_worked.at 8 rfl) rfl ?_
      refine X_iconst (tk_X10_worked.at 9 rfl) ci_1 ?_
      refine X_isub (tk_X10_worked.at 10 rfl) ?_
      refine X_ialdN (k := 210 + 52 * u) (tk_X10_worked.at 11 rfl) hM.f1 (pz (ps hx (pl 1 rfl) (by omega)) (by omega)) (by omega) (by decide) ?_
      rw [show Mx μ (o + 8) P (o + 1) = μ (o + 1) from Mx_ne (by omega)]
      refine X_iadd (tk_X10_worked.at 12 rfl) ?_
      refine X_icmp_geN (tgt := 141) (tk_X10_worked.at 13 rfl) (by decide) (pl (211 + 52 * u + k) rfl) (pa hx hln) (by omega) (by omega) (fun c1 => ?_) (fun c1 => (by exfalso; omega))
      refine X_aload_n (tk_X10_worked.at 80 rfl) rfl ?_
      refine X_getR (tk_X10_worked.at 81 rfl) fl_x10_38 hM.f0 rfl rfl ?_
      refine X_iconst (tk_X10_worked.at 82 rfl) ci_0 ?_
      refine X_ialdN (k := 0) (tk_X10_worked.at 83 rfl) hM.f8 (pz (pl 0 rfl) (by omega)) (by omega) (by decide) ?_
      refine X_ireturn (tk_X10_worked.at 84 rfl) rfl rfl ?_
      rw [Mx_same, hP 0 (by rw [hkk]; exact hfin (by omega)), hkk]
      exact hK P
    | succ m ih =>
      intro k P hk hP rest
      refine X_lvp [0, 1, 2, 3] (lv' := [(0, _), (1, _), (2, _), (3, _)]) rfl ?_
      have hd5 := dpt_le C k
      have z := fun P h => ih (k + 1) P (by omega) h
      rcases hok k (by omega) with ⟨h1, h2, h3⟩ | ⟨h1, h2⟩ | ⟨h1, h2, h3⟩
      · obtain ⟨iv, hiv, eiv⟩ := nI_of (Int32.not_lt.mpr h2)
        have hiv2 : iv < 10005 := by rw [eiv] at h3; exact (nI_ltI hiv (by decide)).mp h3
        have e1 : dpt C (k + 1) = dpt C k + 1 := if_pos h1
        rw [e1] at z
        refine X_iload_n (tk_X10_worked.at 4 rfl) rfl ?_
        refine X_iload_n (tk_X10_worked.at 5 rfl) rfl ?_
        refine X_aload_n (tk_X10_worked.at 6 rfl) rfl ?_
        refine X_getR (tk_X10_worked.at 7 rfl) fl_x10_9 hM.f0 rfl rfl ?_
        refine X_iload_n (tk_X10_worked.at 8 rfl) rfl ?_
        refine X_iconst (tk_X10_worked.at 9 rfl) ci_1 ?_
        refine X_isub (tk_X10_worked.at 10 rfl) ?_
        refine X_ialdN (k := 210 + 52 * u) (tk_X10_worked.at 11 rfl) hM.f1 (pz (ps hx (pl 1 rfl) (by omega)) (by omega)) (by omega) (by decide) ?_
        rw [show Mx μ (o + 8) P (o + 1) = μ (o + 1) from Mx_ne (by omega)]
        refine X_iadd (tk_X10_worked.at 12 rfl) ?_
        refine X_icmp_geN (tgt := 141) (tk_X10_worked.at 13 rfl) (by decide) (pl (211 + 52 * u + k) rfl) (pa hx hln) (by omega) (by omega) (fun c1 => (by exfalso; omega)) (fun c1 => ?_)
        refine X_aload_n (tk_X10_worked.at 14 rfl) rfl ?_
        refine X_getR (tk_X10_worked.at 15 rfl) fl_x10_9 hM.f0 rfl rfl ?_
        refine X_iload_n (tk_X10_worked.at 16 rfl) rfl ?_
        refine X_ialdN (k := 211 + 52 * u + k) (tk_X10_worked.at 17 rfl) hM.f1 (pz (pl (211 + 52 * u + k) rfl) (by omega)) (by omega) (by decide) ?_
        rw [show Mx μ (o + 8) P (o + 1) = μ (o + 1) from Mx_ne (by omega), hCk]
        refine X_istore (lv' := [(0, _), (1, _), (2, _), (3, _), (4, _)]) (tk_X10_worked.at 18 rfl) (by decide) rfl rfl ?_
        refine X_iload (tk_X10_worked.at 19 rfl) rfl ?_
        refine X_sipush (tk_X10_worked.at 20 rfl) cs_20000 ?_
        refine X_icmp_geN (tgt := 70) (tk_X10_worked.at 21 rfl) (by decide) eiv (pl 20000 rfl) (by omega) (by omega) (fun c2 => (by exfalso; omega)) (fun c2 => ?_)
        refine X_aload_n (tk_X10_worked.at 22 rfl) rfl ?_
        refine X_getR (tk_X10_worked.at 23 rfl) fl_x10_38 hM.f0 rfl rfl ?_
        refine X_iload_n (tk_X10_worked.at 24 rfl) rfl ?_
        refine X_iload (tk_X10_worked.at 25 rfl) rfl ?_
        refine X_sipush (tk_X10_worked.at 26 rfl) cs_10000 ?_
        refine X_icmp_geN (tgt := 52) (tk_X10_worked.at 27 rfl) (by decide) eiv (pl 10000 rfl) (by omega) (by omega) (fun c3 => ?_) (fun c3 => ?_)
        · refine X_aload_n (tk_X10_worked.at 30 rfl) rfl ?_
          refine X_getR (tk_X10_worked.at 31 rfl) fl_x10_35 hM.f0 rfl rfl ?_
          refine X_iload (tk_X10_worked.at 32 rfl) rfl ?_
          refine X_sipush (tk_X10_worked.at 33 rfl) cs_10000 ?_
          refine X_isub (tk_X10_worked.at 34 rfl) ?_
          refine X_ialdN (k := (iv) - (10000)) (tk_X10_worked.at 35 rfl) hM.f7 (pz (ps eiv (pl 10000 rfl) (by omega)) (by omega)) (by omega) (by decide) ?_
          refine X_iastN (k := (dpt C k)) (tk_X10_worked.at 36 rfl) hM.f8 (pz (pl (dpt C k) rfl) (by omega)) (by omega) (by decide) ?_
          refine X_iinc (lv' := [(0, _), (1, _), (2, _), (3, _), (4, _)]) (tk_X10_worked.at 37 rfl) rfl ci_1 (by decide) rfl rfl ?_
          refine X_goto (tgt := 135) (tk_X10_worked.at 38 rfl) (by decide) ?_
          refine X_iinc (lv' := [(0, _), (1, _), (2, _), (3, _), (4, _)]) (tk_X10_worked.at 78 rfl) rfl ci_1 (by decide) rfl rfl ?_
          refine X_goto (tgt := 4) (tk_X10_worked.at 79 rfl) (by decide) ?_
          rw [su_Mx, nI_1, show nI (211 + 52 * u + k) + 1 = nI (211 + 52 * u + (k + 1)) from nI_1 _]
          refine z _ (fun i hi => ?_) [(4, _)]
          have e2 : evf C (μ (o + 7)) (k + 1) = upd (evf C (μ (o + 7)) k) (dpt C k) (if C k < 10000 then C k else μ (o + 7) (nv (C k) - 10000)) := if_pos h1
          have e3 : C k < 10000 ↔ iv < 10000 := by rw [eiv]; exact nI_ltI hiv (by decide)
          have e4 : nv (C k) = iv := by rw [eiv]; exact nv_nI hiv
          rw [e2, e4]
          by_cases hd : i = (dpt C k)
          · rw [hd, upd_at, upd_at]
            simp only [e3]
            first | rw [if_pos (by omega)] | (rw [if_neg (by omega), Mx_ne (by omega)])
          · rw [upd_ne _ _ hd, upd_ne _ _ hd]; exact hP i (by omega)
        · refine X_iload (tk_X10_worked.at 28 rfl) rfl ?_
          refine X_goto (tgt := 63) (tk_X10_worked.at 29 rfl) (by decide) ?_
          refine X_iastN (k := (dpt C k)) (tk_X10_worked.at 36 rfl) hM.f8 (pz (pl (dpt C k) rfl) (by omega)) (by omega) (by decide) ?_
          refine X_iinc (lv' := [(0, _), (1, _), (2, _), (3, _), (4, _)]) (tk_X10_worked.at 37 rfl) rfl ci_1 (by decide) rfl rfl ?_
          refine X_goto (tgt := 135) (tk_X10_worked.at 38 rfl) (by decide) ?_
          refine X_iinc (lv' := [(0, _), (1, _), (2, _), (3, _), (4, _)]) (tk_X10_worked.at 78 rfl) rfl ci_1 (by decide) rfl rfl ?_
          refine X_goto (tgt := 4) (tk_X10_worked.at 79 rfl) (by decide) ?_
          rw [su_Mx, nI_1, show nI (211 + 52 * u + k) + 1 = nI (211 + 52 * u + (k + 1)) from nI_1 _]
          refine z _ (fun i hi => ?_) [(4, _)]
          have e2 : evf C (μ (o + 7)) (k + 1) = upd (evf C (μ (o + 7)) k) (dpt C k) (if C k < 10000 then C k else μ (o + 7) (nv (C k) - 10000)) := if_pos h1
          have e3 : C k < 10000 ↔ iv < 10000 := by rw [eiv]; exact nI_ltI hiv (by decide)
          have e4 : nv (C k) = iv := by rw [eiv]; exact nv_nI hiv
          rw [e2, e4]
          by_cases hd : i = (dpt C k)
          · rw [hd, upd_at, upd_at]
            simp only [e3]
            first | rw [if_pos (by omega)] | (rw [if_neg (by omega), Mx_ne (by omega)])
          · rw [upd_ne _ _ hd, upd_ne _ _ hd]; exact hP i (by omega)
      · have n1 : ¬ C k < 20000 := by rw [h1]; decide
        have e1 : dpt C (k + 1) = dpt C k := by show (if _ then _ else if _ then _ else _) = _; rw [if_neg n1, if_pos h1]
        rw [e1] at z
        have e2 : evf C (μ (o + 7)) (k + 1) = upd (evf C (μ (o + 7)) k) (dpt C k - 1) (if evf C (μ (o + 7)) k (dpt C k - 1) = 0 then 1 else 0) := by show (if _ then _ else if _ then _ else _) = _; rw [if_neg n1, if_pos h1]
        have e4 := hP (dpt C k - 1) (by omega)
        refine X_iload_n (tk_X10_worked.at 4 rfl) rfl ?_
        refine X_iload_n (tk_X10_worked.at 5 rfl) rfl ?_
        refine X_aload_n (tk_X10_worked.at 6 rfl) rfl ?_
        refine X_getR (tk_X10_worked.at 7 rfl) fl_x10_9 hM.f0 rfl rfl ?_
        refine X_iload_n (tk_X10_worked.at 8 rfl) rfl ?_
        refine X_iconst (tk_X10_worked.at 9 rfl) ci_1 ?_
        refine X_isub (tk_X10_worked.at 10 rfl) ?_
        refine X_ialdN (k := 210 + 52 * u) (tk_X10_worked.at 11 rfl) hM.f1 (pz (ps hx (pl 1 rfl) (by omega)) (by omega)) (by omega) (by decide) ?_
        rw [show Mx μ (o + 8) P (o + 1) = μ (o + 1) from Mx_ne (by omega)]
        refine X_iadd (tk_X10_worked.at 12 rfl) ?_
        refine X_icmp_geN (tgt := 141) (tk_X10_worked.at 13 rfl) (by decide) (pl (211 + 52 * u + k) rfl) (pa hx hln) (by omega) (by omega) (fun c1 => (by exfalso; omega)) (fun c1 => ?_)
        refine X_aload_n (tk_X10_worked.at 14 rfl) rfl ?_
        refine X_getR (tk_X10_worked.at 15 rfl) fl_x10_9 hM.f0 rfl rfl ?_
        refine X_iload_n (tk_X10_worked.at 16 rfl) rfl ?_
        refine X_ialdN (k := 211 + 52 * u + k) (tk_X10_worked.at 17 rfl) hM.f1 (pz (pl (211 + 52 * u + k) rfl) (by omega)) (by omega) (by decide) ?_
        rw [show Mx μ (o + 8) P (o + 1) = μ (o + 1) from Mx_ne (by omega), hCk]
        refine X_istore (lv' := [(0, _), (1, _), (2, _), (3, _), (4, _)]) (tk_X10_worked.at 18 rfl) (by decide) rfl rfl ?_
        refine X_iload (tk_X10_worked.at 19 rfl) rfl ?_
        refine X_sipush (tk_X10_worked.at 20 rfl) cs_20000 ?_
        refine X_icmp_geN (tgt := 70) (tk_X10_worked.at 21 rfl) (by decide) (pl 20010 h1) (pl 20000 rfl) (by omega) (by omega) (fun c2 => ?_) (fun c2 => (by exfalso; omega))
        refine X_iload (tk_X10_worked.at 39 rfl) rfl ?_
        refine X_sipush (tk_X10_worked.at 40 rfl) cs_20010 ?_
        refine X_icmp_neN (tgt := 105) (tk_X10_worked.at 41 rfl) (by decide) (pl 20010 h1) (pl 20010 rfl) (by omega) (by omega) (fun c3 => (by exfalso; omega)) (fun c3 => ?_)
        refine X_aload_n (tk_X10_worked.at 42 rfl) rfl ?_
        refine X_getR (tk_X10_worked.at 43 rfl) fl_x10_38 hM.f0 rfl rfl ?_
        refine X_iload_n (tk_X10_worked.at 44 rfl) rfl ?_
        refine X_iconst (tk_X10_worked.at 45 rfl) ci_1 ?_
        refine X_isub (tk_X10_worked.at 46 rfl) ?_
        refine X_aload_n (tk_X10_worked.at 47 rfl) rfl ?_
        refine X_getR (tk_X10_worked.at 48 rfl) fl_x10_38 hM.f0 rfl rfl ?_
        refine X_iload_n (tk_X10_worked.at 49 rfl) rfl ?_
        refine X_iconst (tk_X10_worked.at 50 rfl) ci_1 ?_
        refine X_isub (tk_X10_worked.at 51 rfl) ?_
        refine X_ialdN (k := ((dpt C k)) - (1)) (tk_X10_worked.at 52 rfl) hM.f8 (pz (ps (pl (dpt C k) rfl) (pl 1 rfl) (by omega)) (by omega)) (by omega) (by decide) ?_
        refine X_if_ne (tgt := 100) (tk_X10_worked.at 53 rfl) (by decide) (fun c4 => ?_) (fun c4 => ?_)
        · refine X_iconst (tk_X10_worked.at 56 rfl) ci_0 ?_
          refine X_iastN (k := ((dpt C k)) - (1)) (tk_X10_worked.at 57 rfl) hM.f8 (pz (ps (pl (dpt C k) rfl) (pl 1 rfl) (by omega)) (by omega)) (by omega) (by decide) ?_
          refine X_goto (tgt := 135) (tk_X10_worked.at 58 rfl) (by decide) ?_
          refine X_iinc (lv' := [(0, _), (1, _), (2, _), (3, _), (4, _)]) (tk_X10_worked.at 78 rfl) rfl ci_1 (by decide) rfl rfl ?_
          refine X_goto (tgt := 4) (tk_X10_worked.at 79 rfl) (by decide) ?_
          rw [su_Mx, show nI (211 + 52 * u + k) + 1 = nI (211 + 52 * u + (k + 1)) from nI_1 _]
          refine z _ (fun i hi => ?_) [(4, _)]
          rw [e2]
          by_cases hd : i = (dpt C k) - 1
          · rw [hd, upd_at, upd_at, ← e4]
            rw [Mx_same] at c4
            simp [c4]
          · rw [upd_ne _ _ hd, upd_ne _ _ hd]; exact hP i (by omega)
        · refine X_iconst (tk_X10_worked.at 54 rfl) ci_1 ?_
          refine X_goto (tgt := 101) (tk_X10_worked.at 55 rfl) (by decide) ?_
          refine X_iastN (k := ((dpt C k)) - (1)) (tk_X10_worked.at 57 rfl) hM.f8 (pz (ps (pl (dpt C k) rfl) (pl 1 rfl) (by omega)) (by omega)) (by omega) (by decide) ?_
          refine X_goto (tgt := 135) (tk_X10_worked.at 58 rfl) (by decide) ?_
          refine X_iinc (lv' := [(0, _), (1, _), (2, _), (3, _), (4, _)]) (tk_X10_worked.at 78 rfl) rfl ci_1 (by decide) rfl rfl ?_
          refine X_goto (tgt := 4) (tk_X10_worked.at 79 rfl) (by decide) ?_
          rw [su_Mx, show nI (211 + 52 * u + k) + 1 = nI (211 + 52 * u + (k + 1)) from nI_1 _]
          refine z _ (fun i hi => ?_) [(4, _)]
          rw [e2]
          by_cases hd : i = (dpt C k) - 1
          · rw [hd, upd_at, upd_at, ← e4]
            rw [Mx_same] at c4
            simp [c4]
          · rw [upd_ne _ _ hd, upd_ne _ _ hd]; exact hP i (by omega)
      · obtain ⟨iv, hiv, eiv⟩ := nI_of (x := C k) (fun zz => h1 (Int32.lt_trans zz (by decide)))
        have g1 : 20000 ≤ iv := by
          rcases Nat.lt_or_ge iv 20000 with y | y
          · exact absurd (by rw [eiv]; exact lt_nI y (by decide)) h1
          · exact y
        have g2 : iv < 20010 := by rw [eiv] at h2; exact (nI_ltI hiv (by decide)).mp h2
        have n2 : ¬ C k = 20010 := by rw [eiv]; exact fun y => absurd ((nI_eq (b := 20010) hiv (by decide)).mp y) (by omega)
        have e1 : dpt C (k + 1) = dpt C k - 1 := by show (if _ then _ else if _ then _ else _) = _; rw [if_neg h1, if_neg n2]
        rw [e1] at z
        have e2 : evf C (μ (o + 7)) (k + 1) = upd (evf C (μ (o + 7)) k) (dpt C k - 2) (dn (C k) (evf C (μ (o + 7)) k (dpt C k - 2)) (evf C (μ (o + 7)) k (dpt C k - 1))) := by show (if _ then _ else if _ then _ else _) = _; rw [if_neg h1, if_neg n2]
        have e4 := hP (dpt C k - 1) (by omega)
        have e5 := hP (dpt C k - 2) (by omega)
        have e6 : dpt C k - 1 - 1 = dpt C k - 2 := by omega
        refine X_iload_n (tk_X10_worked.at 4 rfl) rfl ?_
        refine X_iload_n (tk_X10_worked.at 5 rfl) rfl ?_
        refine X_aload_n (tk_X10_worked.at 6 rfl) rfl ?_
        refine X_getR (tk_X10_worked.at 7 rfl) fl_x10_9 hM.f0 rfl rfl ?_
        refine X_iload_n (tk_X10_worked.at 8 rfl) rfl ?_
        refine X_iconst (tk_X10_worked.at 9 rfl) ci_1 ?_
        refine X_isub (tk_X10_worked.at 10 rfl) ?_
        refine X_ialdN (k := 210 + 52 * u) (tk_X10_worked.at 11 rfl) hM.f1 (pz (ps hx (pl 1 rfl) (by omega)) (by omega)) (by omega) (by decide) ?_
        rw [show Mx μ (o + 8) P (o + 1) = μ (o + 1) from Mx_ne (by omega)]
        refine X_iadd (tk_X10_worked.at 12 rfl) ?_
        refine X_icmp_geN (tgt := 141) (tk_X10_worked.at 13 rfl) (by decide) (pl (211 + 52 * u + k) rfl) (pa hx hln) (by omega) (by omega) (fun c1 => (by exfalso; omega)) (fun c1 => ?_)
        refine X_aload_n (tk_X10_worked.at 14 rfl) rfl ?_
        refine X_getR (tk_X10_worked.at 15 rfl) fl_x10_9 hM.f0 rfl rfl ?_
        refine X_iload_n (tk_X10_worked.at 16 rfl) rfl ?_
        refine X_ialdN (k := 211 + 52 * u + k) (tk_X10_worked.at 17 rfl) hM.f1 (pz (pl (211 + 52 * u + k) rfl) (by omega)) (by omega) (by decide) ?_
        rw [show Mx μ (o + 8) P (o + 1) = μ (o + 1) from Mx_ne (by omega), hCk]
        refine X_istore (lv' := [(0, _), (1, _), (2, _), (3, _), (4, _)]) (tk_X10_worked.at 18 rfl) (by decide) rfl rfl ?_
        refine X_iload (tk_X10_worked.at 19 rfl) rfl ?_
        refine X_sipush (tk_X10_worked.at 20 rfl) cs_20000 ?_
        refine X_icmp_geN (tgt := 70) (tk_X10_worked.at 21 rfl) (by decide) eiv (pl 20000 rfl) (by omega) (by omega) (fun c2 => ?_) (fun c2 => (by exfalso; omega))
        refine X_iload (tk_X10_worked.at 39 rfl) rfl ?_
        refine X_sipush (tk_X10_worked.at 40 rfl) cs_20010 ?_
        refine X_icmp_neN (tgt := 105) (tk_X10_worked.at 41 rfl) (by decide) eiv (pl 20010 rfl) (by omega) (by omega) (fun c3 => ?_) (fun c3 => (by exfalso; omega))
        refine X_iinc (lv' := [(0, _), (1, _), (2, _), (3, _), (4, _)]) (tk_X10_worked.at 59 rfl) rfl ci_m1 (by decide) rfl rfl ?_
        refine X_aload_n (tk_X10_worked.at 60 rfl) rfl ?_
        refine X_getR (tk_X10_worked.at 61 rfl) fl_x10_38 hM.f0 rfl rfl ?_
        refine X_iload_n (tk_X10_worked.at 62 rfl) rfl ?_
        refine X_iconst (tk_X10_worked.at 63 rfl) ci_1 ?_
        refine X_isub (tk_X10_worked.at 64 rfl) ?_
        refine X_iload (tk_X10_worked.at 65 rfl) rfl ?_
        refine X_aload_n (tk_X10_worked.at 66 rfl) rfl ?_
        refine X_getR (tk_X10_worked.at 67 rfl) fl_x10_38 hM.f0 rfl rfl ?_
        refine X_iload_n (tk_X10_worked.at 68 rfl) rfl ?_
        refine X_iconst (tk_X10_worked.at 69 rfl) ci_1 ?_
        refine X_isub (tk_X10_worked.at 70 rfl) ?_
        refine X_ialdN (k := ((((dpt C k)) - 1)) - (1)) (tk_X10_worked.at 71 rfl) hM.f8 (pz (ps (pm1 (pl (dpt C k) rfl) (by omega)) (pl 1 rfl) (by omega)) (by omega)) (by omega) (by decide) ?_
        refine X_aload_n (tk_X10_worked.at 72 rfl) rfl ?_
        refine X_getR (tk_X10_worked.at 73 rfl) fl_x10_38 hM.f0 rfl rfl ?_
        refine X_iload_n (tk_X10_worked.at 74 rfl) rfl ?_
        refine X_ialdN (k := (((dpt C k)) - 1)) (tk_X10_worked.at 75 rfl) hM.f8 (pz (pm1 (pl (dpt C k) rfl) (by omega)) (by omega)) (by omega) (by decide) ?_
        refine X_cS3i (lv2 := [(0, _), (1, _), (2, _)]) (tk_X10_worked.at 76 rfl) ms_X10_done lk_x10_240 np_X10_done (Nat.le_of_ble_eq_true rfl) (Nat.le_of_ble_eq_true rfl) rfl (c10_done eiv (by omega) (by omega) ?_)
        refine X_iastN (k := ((((dpt C k)) - 1)) - (1)) (tk_X10_worked.at 77 rfl) hM.f8 (pz (ps (pm1 (pl (dpt C k) rfl) (by omega)) (pl 1 rfl) (by omega)) (by omega)) (by omega) (by decide) ?_
        refine X_iinc (lv' := [(0, _), (1, _), (2, _), (3, _), (4, _)]) (tk_X10_worked.at 78 rfl) rfl ci_1 (by decide) rfl rfl ?_
        refine X_goto (tgt := 4) (tk_X10_worked.at 79 rfl) (by decide) ?_
        rw [su_Mx, show nI (211 + 52 * u + k) + 1 = nI (211 + 52 * u + (k + 1)) from nI_1 _, Mx_same, e6, pm1 (pl (dpt C k) rfl) (by omega)]
        refine z _ (fun i hi => ?_) [(4, _)]
        rw [e2]
        by_cases hd : i = (dpt C k) - 2
        · rw [hd, upd_at, upd_at, e4, e5]
        · rw [upd_ne _ _ hd, upd_ne _ _ hd]; exact hP i (by omega)
  refine X_iconst (tk_X10_worked.at 0 rfl) ci_0 ?_
  refine X_istore_n (lv' := [(0, _), (1, _), (2, _)]) (tk_X10_worked.at 1 rfl) (by decide) rfl rfl ?_
  refine X_iload_n (tk_X10_worked.at 2 rfl) rfl ?_
  refine X_istore_n (lv' := [(0, _), (1, _), (2, _), (3, _)]) (tk_X10_worked.at 3 rfl) (by decide) rfl rfl ?_
  have z := loop _ 0 (μ (o + 8)) (Nat.zero_add _) (fun i hi => absurd hi (Nat.not_lt_zero i)) []
  rw [Mx_self] at z
  subst hx
  exact z
