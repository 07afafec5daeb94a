def rE (E k : Nat) : Option Nat := match k with
  | 0 => some (E + 1)
  | 1 => some (E + 2)
  | _ => none
/-- a reckoner of the class at E: names, pile -/
def ES (S : Sh) (E : Nat) : Prop := S.2 E = some (kO 5 (rE E)) ∧ S.2 (E + 1) = some (kI 5) ∧ S.2 (E + 2) = some (kI 50)
def sg (n : Nat) : Nat := if n = 20000 then 124 else if n = 20001 then 38 else if n = 20002 then 60 else if n = 20003 then 61 else if n = 20004 then 62 else if n = 20005 then 43 else if n = 20006 then 45 else if n = 20007 then 42 else if n = 20008 then 47 else 37
theorem op10 {n : Nat} (h1 : 20000 ≤ n) (h2 : n < 20010) : n = 20000 ∨ n = 20001 ∨ n = 20002 ∨ n = 20003 ∨ n = 20004 ∨ n = 20005 ∨ n = 20006 ∨ n = 20007 ∨ n = 20008 ∨ n = 20009 := by omega
theorem tr_op {n : Nat} (h1 : 20000 ≤ n) (h2 : n < 20010) : tr (nI n) = nI (20000 + sg n) ∧ 34 ≤ sg n ∧ sg n ≤ 124 := by
  rcases op10 h1 h2 with e | e | e | e | e | e | e | e | e | e <;> subst e <;> exact ⟨rfl, by decide, by decide⟩
theorem tr_lo {c : Int32} (h : c < 20000) : tr c = c := if_pos h
theorem tr_not : tr 20010 = 20033 := by decide
theorem c6_atN {G : Gl} {d : Nat} {S : Sh} {μ : Mu} {R n len j : Nat} {x v : Int32} {K : Int32 → Sh → Mu → Prop} (hR : RS S R len) (hn : μ R 1 = nI n) (hb : n ≤ len) (hl : len ≤ 60) (hx : x = nI j) (hj : j < n) (he : μ (R + 1) j = v) (hK : K v S μ) : X G mi_X6_at d 0 0 [(0, .ref R), (1, .int x)] [] S μ (qi K) :=
  c6_at hR hn hb hl (fun i hi ei => by
    have e : i = j := (nI_eq (by omega) (by omega)).mp (ei.symm.trans hx)
    subst e
    rw [he]; exact hK) (fun h => absurd ⟨j, hj, hx⟩ h)
set_option maxHeartbeats 1000000 in
theorem c5_name {G : Gl} {d : Nat} {S : Sh} {μ : Mu} {E : Nat} {a b c e f : Int32} {K : Sh → Mu → Prop} (hE : ES S E) (hK : K S (Mx μ (E + 1) (upd (upd (upd (upd (upd (μ (E + 1)) 0 a) 1 b) 2 c) 3 e) 4 f))) : X G mi_X5_name d 0 0 [(0, .ref E), (1, .int a), (2, .int b), (3, .int c), (4, .int e), (5, .int f)] [] S μ (qv K) := by
  refine X_aload_n (tk_X5_name.at 0 rfl) rfl ?_
  refine X_getR (tk_X5_name.at 1 rfl) fl_x5_9 hE.1 rfl rfl ?_
  refine X_iconst (tk_X5_name.at 2 rfl) ci_0 ?_
  refine X_iload_n (tk_X5_name.at 3 rfl) rfl ?_
  refine X_iastN (k := 0) (tk_X5_name.at 4 rfl) hE.2.1 (pz (pl 0 rfl) (by omega)) (by omega) (by decide) ?_
  refine X_aload_n (tk_X5_name.at 5 rfl) rfl ?_
  refine X_getR (tk_X5_name.at 6 rfl) fl_x5_9 hE.1 rfl rfl ?_
  refine X_iconst (tk_X5_name.at 7 rfl) ci_1 ?_
  refine X_iload_n (tk_X5_name.at 8 rfl) rfl ?_
  refine X_iastN (k := 1) (tk_X5_name.at 9 rfl) hE.2.1 (pz (pl 1 rfl) (by omega)) (by omega) (by decide) ?_
  refine X_aload_n (tk_X5_name.at 10 rfl) rfl ?_
  refine X_getR (tk_X5_name.at 11 rfl) fl_x5_9 hE.1 rfl rfl ?_
  refine X_iconst (tk_X5_name.at 12 rfl) ci_2 ?_
  refine X_iload_n (tk_X5_name.at 13 rfl) rfl ?_
  refine X_iastN (k := 2) (tk_X5_name.at 14 rfl) hE.2.1 (pz (pl 2 rfl) (by omega)) (by omega) (by decide) ?_
  refine X_aload_n (tk_X5_name.at 15 rfl) rfl ?_
  refine X_getR (tk_X5_name.at 16 rfl) fl_x5_9 hE.1 rfl rfl ?_
  refine X_iconst (tk_X5_name.at 17 rfl) ci_3 ?_
  refine X_iload (tk_X5_name.at 18 rfl) rfl ?_
  refine X_iastN (k := 3) (tk_X5_name.at 19 rfl) hE.2.1 (pz (pl 3 rfl) (by omega)) (by omega) (by decide) ?_
  refine X_aload_n (tk_X5_name.at 20 rfl) rfl ?_
  refine X_getR (tk_X5_name.at 21 rfl) fl_x5_9 hE.1 rfl rfl ?_
  refine X_iconst (tk_X5_name.at 22 rfl) ci_4 ?_
  refine X_iload (tk_X5_name.at 23 rfl) rfl ?_
  refine X_iastN (k := 4) (tk_X5_name.at 24 rfl) hE.2.1 (pz (pl 4 rfl) (by omega)) (by omega) (by decide) ?_
  refine X_return (tk_X5_name.at 25 rfl) rfl ?_
  simp only [su_eq, Mx_same, Mx_Mx]
  exact hK
set_option maxHeartbeats 1000000 in
theorem c5_applied {G : Gl} {d : Nat} {S : Sh} {μ : Mu} {op x a b : Int32} {n : Nat} {K : Int32 → Sh → Mu → Prop} (hop : op = nI n) (h1 : 20000 ≤ n) (h2 : n < 20010) (hx : x = nI (sg n)) (hK : K (dn op a b) S μ) : X G mi_X5_applied d 0 0 [(0, .int x), (1, .int a), (2, .int b)] [] S μ (qi K) := by
  refine X_iload_n (tk_X5_applied.at 0 rfl) rfl ?_
  rcases op10 h1 h2 with e1 | e1 | e1 | e1 | e1 | e1 | e1 | e1 | e1 | e1
  · subst e1
    refine X_lookupN (n := 124) (tgt := 92) (tk_X5_applied.at 1 rfl) hx (by decide) (by decide) rfl (by decide) ?_
    refine X_iload_n (tk_X5_applied.at 2 rfl) rfl ?_
    refine X_if_ne (tgt := 100) (tk_X5_applied.at 3 rfl) (by decide) (fun c1 => ?_) (fun c1 => ?_)
    · refine X_iconst (tk_X5_applied.at 6 rfl) ci_1 ?_
      refine X_goto (tgt := 105) (tk_X5_applied.at 7 rfl) (by decide) ?_
      refine X_ireturn (tk_X5_applied.at 9 rfl) rfl rfl ?_
      refine Eq.mp (congrArg (fun z => K z S μ) ?_) hK
      rw [show op = 20000 from hop]
      simp [dn, c1]
    · refine X_iload_n (tk_X5_applied.at 4 rfl) rfl ?_
      refine X_if_eq (tgt := 104) (tk_X5_applied.at 5 rfl) (by decide) (fun c2 => ?_) (fun c2 => ?_)
      · refine X_iconst (tk_X5_applied.at 8 rfl) ci_0 ?_
        refine X_ireturn (tk_X5_applied.at 9 rfl) rfl rfl ?_
        refine Eq.mp (congrArg (fun z => K z S μ) ?_) hK
        rw [show op = 20000 from hop]
        simp [dn, c1, c2]
      · refine X_iconst (tk_X5_applied.at 6 rfl) ci_1 ?_
        refine X_goto (tgt := 105) (tk_X5_applied.at 7 rfl) (by decide) ?_
        refine X_ireturn (tk_X5_applied.at 9 rfl) rfl rfl ?_
        refine Eq.mp (congrArg (fun z => K z S μ) ?_) hK
        rw [show op = 20000 from hop]
        simp [dn, c1, c2]
  · subst e1
    refine X_lookupN (n := 38) (tgt := 106) (tk_X5_applied.at 1 rfl) hx (by decide) (by decide) rfl (by decide) ?_
    refine X_iload_n (tk_X5_applied.at 10 rfl) rfl ?_
    refine X_if_eq (tgt := 118) (tk_X5_applied.at 11 rfl) (by decide) (fun c3 => ?_) (fun c3 => ?_)
    · refine X_iconst (tk_X5_applied.at 16 rfl) ci_0 ?_
      refine X_ireturn (tk_X5_applied.at 17 rfl) rfl rfl ?_
      refine Eq.mp (congrArg (fun z => K z S μ) ?_) hK
      rw [show op = 20001 from hop]
      simp [dn, c3]
    · refine X_iload_n (tk_X5_applied.at 12 rfl) rfl ?_
      refine X_if_eq (tgt := 118) (tk_X5_applied.at 13 rfl) (by decide) (fun c4 => ?_) (fun c4 => ?_)
      · refine X_iconst (tk_X5_applied.at 16 rfl) ci_0 ?_
        refine X_ireturn (tk_X5_applied.at 17 rfl) rfl rfl ?_
        refine Eq.mp (congrArg (fun z => K z S μ) ?_) hK
        rw [show op = 20001 from hop]
        simp [dn, c3, c4]
      · refine X_iconst (tk_X5_applied.at 14 rfl) ci_1 ?_
        refine X_goto (tgt := 119) (tk_X5_applied.at 15 rfl) (by decide) ?_
        refine X_ireturn (tk_X5_applied.at 17 rfl) rfl rfl ?_
        refine Eq.mp (congrArg (fun z => K z S μ) ?_) hK
        rw [show op = 20001 from hop]
        simp [dn, c3, c4]
  · subst e1
    refine X_lookupN (n := 60) (tgt := 120) (tk_X5_applied.at 1 rfl) hx (by decide) (by decide) rfl (by decide) ?_
    refine X_iload_n (tk_X5_applied.at 18 rfl) rfl ?_
    refine X_iload_n (tk_X5_applied.at 19 rfl) rfl ?_
    refine X_icmp_ge (tgt := 129) (tk_X5_applied.at 20 rfl) (by decide) (fun c5 => ?_) (fun c5 => ?_)
    · refine X_iconst (tk_X5_applied.at 23 rfl) ci_0 ?_
      refine X_ireturn (tk_X5_applied.at 24 rfl) rfl rfl ?_
      refine Eq.mp (congrArg (fun z => K z S μ) ?_) hK
      rw [show op = 20002 from hop]
      simp [dn, Int32.not_lt.mpr c5]
    · refine X_iconst (tk_X5_applied.at 21 rfl) ci_1 ?_
      refine X_goto (tgt := 130) (tk_X5_applied.at 22 rfl) (by decide) ?_
      refine X_ireturn (tk_X5_applied.at 24 rfl) rfl rfl ?_
      refine Eq.mp (congrArg (fun z => K z S μ) ?_) hK
      rw [show op = 20002 from hop]
      simp [dn, Int32.not_le.mp c5]
  · subst e1
    refine X_lookupN (n := 61) (tgt := 131) (tk_X5_applied.at 1 rfl) hx (by decide) (by decide) rfl (by decide) ?_
    refine X_iload_n (tk_X5_applied.at 25 rfl) rfl ?_
    refine X_iload_n (tk_X5_applied.at 26 rfl) rfl ?_
    refine X_icmp_ne (tgt := 140) (tk_X5_applied.at 27 rfl) (by decide) (fun c6 => ?_) (fun c6 => ?_)
    · refine X_iconst (tk_X5_applied.at 30 rfl) ci_0 ?_
      refine X_ireturn (tk_X5_applied.at 31 rfl) rfl rfl ?_
      refine Eq.mp (congrArg (fun z => K z S μ) ?_) hK
      rw [show op = 20003 from hop]
      simp [dn, c6]
    · refine X_iconst (tk_X5_applied.at 28 rfl) ci_1 ?_
      refine X_goto (tgt := 141) (tk_X5_applied.at 29 rfl) (by decide) ?_
      refine X_ireturn (tk_X5_applied.at 31 rfl) rfl rfl ?_
      refine Eq.mp (congrArg (fun z => K z S μ) ?_) hK
      rw [show op = 20003 from hop]
      simp [dn, c6]
  · subst e1
    refine X_lookupN (n := 62) (tgt := 142) (tk_X5_applied.at 1 rfl) hx (by decide) (by decide) rfl (by decide) ?_
    refine X_iload_n (tk_X5_applied.at 32 rfl) rfl ?_
    refine X_iload_n (tk_X5_applied.at 33 rfl) rfl ?_
    refine X_icmp_le (tgt := 151) (tk_X5_applied.at 34 rfl) (by decide) (fun c7 => ?_) (fun c7 => ?_)
    · refine X_iconst (tk_X5_applied.at 37 rfl) ci_0 ?_
      refine X_ireturn (tk_X5_applied.at 38 rfl) rfl rfl ?_
      refine Eq.mp (congrArg (fun z => K z S μ) ?_) hK
      rw [show op = 20004 from hop]
      simp [dn, Int32.not_lt.mpr c7]
    · refine X_iconst (tk_X5_applied.at 35 rfl) ci_1 ?_
      refine X_goto (tgt := 152) (tk_X5_applied.at 36 rfl) (by decide) ?_
      refine X_ireturn (tk_X5_applied.at 38 rfl) rfl rfl ?_
      refine Eq.mp (congrArg (fun z => K z S μ) ?_) hK
      rw [show op = 20004 from hop]
      simp [dn, Int32.not_le.mp c7]
  · subst e1
    refine X_lookupN (n := 43) (tgt := 153) (tk_X5_applied.at 1 rfl) hx (by decide) (by decide) rfl (by decide) ?_
    refine X_iload_n (tk_X5_applied.at 39 rfl) rfl ?_
    refine X_iload_n (tk_X5_applied.at 40 rfl) rfl ?_
    refine X_iadd (tk_X5_applied.at 41 rfl) ?_
    refine X_ireturn (tk_X5_applied.at 42 rfl) rfl rfl ?_
    refine Eq.mp (congrArg (fun z => K z S μ) ?_) hK
    rw [show op = 20005 from hop]
    simp [dn]
  · subst e1
    refine X_lookupN (n := 45) (tgt := 157) (tk_X5_applied.at 1 rfl) hx (by decide) (by decide) rfl (by decide) ?_
    refine X_iload_n (tk_X5_applied.at 43 rfl) rfl ?_
    refine X_iload_n (tk_X5_applied.at 44 rfl) rfl ?_
    refine X_isub (tk_X5_applied.at 45 rfl) ?_
    refine X_ireturn (tk_X5_applied.at 46 rfl) rfl rfl ?_
    refine Eq.mp (congrArg (fun z => K z S μ) ?_) hK
    rw [show op = 20006 from hop]
    simp [dn]
  · subst e1
    refine X_lookupN (n := 42) (tgt := 161) (tk_X5_applied.at 1 rfl) hx (by decide) (by decide) rfl (by decide) ?_
    refine X_iload_n (tk_X5_applied.at 47 rfl) rfl ?_
    refine X_iload_n (tk_X5_applied.at 48 rfl) rfl ?_
    refine X_imul (tk_X5_applied.at 49 rfl) ?_
    refine X_ireturn (tk_X5_applied.at 50 rfl) rfl rfl ?_
    refine Eq.mp (congrArg (fun z => K z S μ) ?_) hK
    rw [show op = 20007 from hop]
    simp [dn]
  · subst e1
    refine X_lookupN (n := 47) (tgt := 165) (tk_X5_applied.at 1 rfl) hx (by decide) (by decide) rfl (by decide) ?_
    refine X_iload_n (tk_X5_applied.at 51 rfl) rfl ?_
    refine X_if_ne (tgt := 173) (tk_X5_applied.at 52 rfl) (by decide) (fun c8 => ?_) (fun c8 => ?_)
    · refine X_iload_n (tk_X5_applied.at 55 rfl) rfl ?_
      refine X_iload_n (tk_X5_applied.at 56 rfl) rfl ?_
      refine X_idiv (tk_X5_applied.at 57 rfl) c8 ?_
      refine X_ireturn (tk_X5_applied.at 58 rfl) rfl rfl ?_
      refine Eq.mp (congrArg (fun z => K z S μ) ?_) hK
      rw [show op = 20008 from hop]
      simp [dn, c8]
    · refine X_iconst (tk_X5_applied.at 53 rfl) ci_0 ?_
      refine X_goto (tgt := 176) (tk_X5_applied.at 54 rfl) (by decide) ?_
      refine X_ireturn (tk_X5_applied.at 58 rfl) rfl rfl ?_
      refine Eq.mp (congrArg (fun z => K z S μ) ?_) hK
      rw [show op = 20008 from hop]
      simp [dn, c8]
  · subst e1
    refine X_lookupN (n := 37) (tgt := 177) (tk_X5_applied.at 1 rfl) hx (by decide) (by decide) rfl (by decide) ?_
    refine X_iload_n (tk_X5_applied.at 59 rfl) rfl ?_
    refine X_if_ne (tgt := 185) (tk_X5_applied.at 60 rfl) (by decide) (fun c9 => ?_) (fun c9 => ?_)
    · refine X_iload_n (tk_X5_applied.at 63 rfl) rfl ?_
      refine X_iload_n (tk_X5_applied.at 64 rfl) rfl ?_
      refine X_irem (tk_X5_applied.at 65 rfl) c9 ?_
      refine X_ireturn (tk_X5_applied.at 66 rfl) rfl rfl ?_
      refine Eq.mp (congrArg (fun z => K z S μ) ?_) hK
      rw [show op = 20009 from hop]
      simp [dn, c9]
    · refine X_iconst (tk_X5_applied.at 61 rfl) ci_0 ?_
      refine X_goto (tgt := 188) (tk_X5_applied.at 62 rfl) (by decide) ?_
      refine X_ireturn (tk_X5_applied.at 66 rfl) rfl rfl ?_
      refine Eq.mp (congrArg (fun z => K z S μ) ?_) hK
      rw [show op = 20009 from hop]
      simp [dn, c9]
set_option maxHeartbeats 1000000 in
theorem c5_valueOf {G : Gl} {d : Nat} {S : Sh} {μ : Mu} {E : Nat} {R n len : Nat} {C : Nat → Int32} {K : Int32 → Sh → Mu → Prop} (hE : ES S E) (hR : RS S R len) (hn : μ R 1 = nI n) (hb : n ≤ len) (hl : len ≤ 60) (hn5 : n ≤ 50) (hcell : ∀ k, k < n → μ (R + 1) k = tr (C k)) (hok : (∀ k, k < n → (C k < 20000 ∧ 0 ≤ C k ∧ C k < 10005) ∨ (C k = 20010 ∧ 1 ≤ dpt C k) ∨ (¬ C k < 20000 ∧ C k < 20010 ∧ 2 ≤ dpt C k))) (hfin : 1 ≤ dpt C n) (hd2 : R ≠ E + 2) (hd3 : R + 1 ≠ E + 2) (hK : ∀ P, K (evf C (μ (E + 1)) n 0) S (Mx μ (E + 2) P)) : X G mi_X5_valueOf (d + 1) 0 0 [(0, .ref E), (1, .ref R)] [] S μ (qi K) := by
  have hn2 : ∀ P, (Mx μ (E + 2) P) R 1 = nI n := fun P => by rw [Mx_ne hd2]; exact hn
  have loop : ∀ (m k : Nat) (P : Nat → Int32), k + m = n → (∀ i, i < dpt C k → P i = evf C (μ (E + 1)) k i) → ∀ rest, X G mi_X5_valueOf (d + 1) 0 4 ([(0, .ref E), (1, .ref R), (2, .int (nI (dpt C k))), (3, .int (nI k))] ++ rest) [] S (Mx μ (E + 2) P) (qi K) := by
    intro m
    induction m with
    | zero =>
      intro k P hk hP rest
      refine X_lvp [0, 1, 2, 3] (lv' := [(0, _), (1, _), (2, _), (3, _)]) rfl ?_
      have hkk : k = n := by omega
      refine X_iload_n (tk_X5_valueOf.at 4 rfl) rfl ?_
      refine X_aload_n (tk_X5_valueOf.at 5 rfl) rfl ?_
      refine X_cV0i (lv2 := [(0, _)]) (tk_X5_valueOf.at 6 rfl) mv_X6_size lk_x5_18 np_X6_size hR.1 (by decide) rfl (Nat.le_of_ble_eq_true rfl) (Nat.le_of_ble_eq_true rfl) rfl (c6_size hR (hn2 P) hb hl ?_)
      refine X_icmp_geN (tgt := 188) (tk_X5_valueOf.at 7 rfl) (by decide) (pl k rfl) (pl n rfl) (by omega) (by omega) (fun c1 => ?_) (fun c1 => (by exfalso; omega))
      refine X_aload_n (tk_X5_valueOf.at 105 rfl) rfl ?_
      refine X_getR (tk_X5_valueOf.at 106 rfl) fl_x5_15 hE.1 rfl rfl ?_
      refine X_iconst (tk_X5_valueOf.at 107 rfl) ci_0 ?_
      refine X_ialdN (k := 0) (tk_X5_valueOf.at 108 rfl) hE.2.2 (pz (pl 0 rfl) (by omega)) (by omega) (by decide) ?_
      refine X_ireturn (tk_X5_valueOf.at 109 rfl) rfl rfl ?_
      rw [Mx_same, hP 0 (by rw [hkk]; exact hfin), hkk]
      exact hK P
    | succ m ih =>
      intro k P hk hP rest
      refine X_lvp [0, 1, 2, 3] (lv' := [(0, _), (1, _), (2, _), (3, _)]) rfl ?_
      have hd5 := dpt_le C k
      have z := fun P h => ih (k + 1) P (by omega) h
      rcases hok k (by omega) with ⟨h1, h2, h3⟩ | ⟨h1, h2⟩ | ⟨h1, h2, h3⟩
      · obtain ⟨iv, hiv, eiv⟩ := nI_of (Int32.not_lt.mpr h2)
        have hiv2 : iv < 10005 := by rw [eiv] at h3; exact (nI_ltI hiv (by decide)).mp h3
        have e1 : dpt C (k + 1) = dpt C k + 1 := if_pos h1
        rw [e1] at z
        have etr : tr (C k) = nI iv := (tr_lo h1).trans eiv
        have hneg : nI iv - 20000 < 0 := pk_sneg (b := 20000) (by decide) (by omega)
        have e2 : evf C (μ (E + 1)) (k + 1) = upd (evf C (μ (E + 1)) k) (dpt C k) (if C k < 10000 then C k else μ (E + 1) (nv (C k) - 10000)) := if_pos h1
        have e3 : C k < 10000 ↔ iv < 10000 := by rw [eiv]; exact nI_ltI hiv (by decide)
        have e4 : nv (C k) = iv := by rw [eiv]; exact nv_nI hiv
        rcases Nat.lt_or_ge iv 10000 with hi1 | hi1
        · have hng : nI iv - 10000 < 0 := pk_sneg (b := 10000) (by decide) hi1
          refine X_iload_n (tk_X5_valueOf.at 4 rfl) rfl ?_
          refine X_aload_n (tk_X5_valueOf.at 5 rfl) rfl ?_
          refine X_cV0i (lv2 := [(0, _)]) (tk_X5_valueOf.at 6 rfl) mv_X6_size lk_x5_18 np_X6_size hR.1 (by decide) rfl (Nat.le_of_ble_eq_true rfl) (Nat.le_of_ble_eq_true rfl) rfl (c6_size hR (hn2 P) hb hl ?_)
          refine X_icmp_geN (tgt := 188) (tk_X5_valueOf.at 7 rfl) (by decide) (pl k rfl) (pl n rfl) (by omega) (by omega) (fun c1 => (by exfalso; omega)) (fun c1 => ?_)
          refine X_aload_n (tk_X5_valueOf.at 8 rfl) rfl ?_
          refine X_iload_n (tk_X5_valueOf.at 9 rfl) rfl ?_
          refine X_cV1i (lv2 := [(0, _), (1, _)]) (tk_X5_valueOf.at 10 rfl) mv_X6_at lk_x5_41 np_X6_at hR.1 (by decide) rfl (Nat.le_of_ble_eq_true rfl) (Nat.le_of_ble_eq_true rfl) rfl (c6_atN (v := (nI iv)) hR (hn2 P) hb hl (pl k rfl) (by omega) (by rw [Mx_ne hd3, hcell k (by omega)]; exact etr) ?_)
          refine X_istore (lv' := [(0, _), (1, _), (2, _), (3, _), (4, _)]) (tk_X5_valueOf.at 11 rfl) (by decide) rfl rfl ?_
          refine X_iload (tk_X5_valueOf.at 12 rfl) rfl ?_
          refine X_sipush (tk_X5_valueOf.at 13 rfl) cs_20000 ?_
          refine X_isub (tk_X5_valueOf.at 14 rfl) ?_
          refine X_istore (lv' := [(0, _), (1, _), (2, _), (3, _), (4, _), (5, _)]) (tk_X5_valueOf.at 15 rfl) (by decide) rfl rfl ?_
          refine X_iload (tk_X5_valueOf.at 16 rfl) rfl ?_
          refine X_bipush (tk_X5_valueOf.at 17 rfl) cb_33 ?_
          refine X_icmp_ne (tgt := 75) (tk_X5_valueOf.at 18 rfl) (by decide) (fun c2 => ?_) (fun c2 => (by rw [c2] at hneg; exact absurd hneg (by decide)))
          refine X_iload (tk_X5_valueOf.at 44 rfl) rfl ?_
          refine X_if_lt (tgt := 129) (tk_X5_valueOf.at 45 rfl) (by decide) (fun c3 => ?_) (fun c3 => (absurd hneg c3))
          refine X_iload_n (tk_X5_valueOf.at 76 rfl) rfl ?_
          refine X_aload_n (tk_X5_valueOf.at 77 rfl) rfl ?_
          refine X_getR (tk_X5_valueOf.at 78 rfl) fl_x5_15 hE.1 rfl rfl ?_
          refine X_alen (tk_X5_valueOf.at 79 rfl) hE.2.2 ?_
          refine X_icmp_geN (tgt := 182) (tk_X5_valueOf.at 80 rfl) (by decide) (pl (dpt C k) rfl) rfl (by omega) (by omega) (fun c4 => (by exfalso; omega)) (fun c4 => ?_)
          refine X_iload (tk_X5_valueOf.at 81 rfl) rfl ?_
          refine X_sipush (tk_X5_valueOf.at 82 rfl) cs_10000 ?_
          refine X_isub (tk_X5_valueOf.at 83 rfl) ?_
          refine X_istore (lv' := [(0, _), (1, _), (2, _), (3, _), (4, _), (5, _), (6, _)]) (tk_X5_valueOf.at 84 rfl) (by decide) rfl rfl ?_
          refine X_aload_n (tk_X5_valueOf.at 85 rfl) rfl ?_
          refine X_getR (tk_X5_valueOf.at 86 rfl) fl_x5_15 hE.1 rfl rfl ?_
          refine X_iload_n (tk_X5_valueOf.at 87 rfl) rfl ?_
          refine X_iload (tk_X5_valueOf.at 88 rfl) rfl ?_
          refine X_if_lt (tgt := 176) (tk_X5_valueOf.at 89 rfl) (by decide) (fun c5 => ?_) (fun c5 => (absurd hng c5))
          refine X_iload (tk_X5_valueOf.at 100 rfl) rfl ?_
          refine X_iastN (k := (dpt C k)) (tk_X5_valueOf.at 101 rfl) hE.2.2 (pz (pl (dpt C k) rfl) (by omega)) (by omega) (by decide) ?_
          refine X_iinc (lv' := [(0, _), (1, _), (2, _), (3, _), (4, _), (5, _), (6, _)]) (tk_X5_valueOf.at 102 rfl) rfl ci_1 (by decide) rfl rfl ?_
          refine X_iinc (lv' := [(0, _), (1, _), (2, _), (3, _), (4, _), (5, _), (6, _)]) (tk_X5_valueOf.at 103 rfl) rfl ci_1 (by decide) rfl rfl ?_
          refine X_goto (tgt := 4) (tk_X5_valueOf.at 104 rfl) (by decide) ?_
          rw [su_Mx, nI_1, nI_1]
          refine z _ (fun i hi => ?_) _
          rw [e2, e4]
          by_cases hd : i = dpt C k
          · rw [hd, upd_at, upd_at]
            rw [if_pos (e3.mpr hi1)]; exact eiv.symm
          · rw [upd_ne _ _ hd, upd_ne _ _ hd]; exact hP i (by omega)
        · refine X_iload_n (tk_X5_valueOf.at 4 rfl) rfl ?_
          refine X_aload_n (tk_X5_valueOf.at 5 rfl) rfl ?_
          refine X_cV0i (lv2 := [(0, _)]) (tk_X5_valueOf.at 6 rfl) mv_X6_size lk_x5_18 np_X6_size hR.1 (by decide) rfl (Nat.le_of_ble_eq_true rfl) (Nat.le_of_ble_eq_true rfl) rfl (c6_size hR (hn2 P) hb hl ?_)
          refine X_icmp_geN (tgt := 188) (tk_X5_valueOf.at 7 rfl) (by decide) (pl k rfl) (pl n rfl) (by omega) (by omega) (fun c1 => (by exfalso; omega)) (fun c1 => ?_)
          refine X_aload_n (tk_X5_valueOf.at 8 rfl) rfl ?_
          refine X_iload_n (tk_X5_valueOf.at 9 rfl) rfl ?_
          refine X_cV1i (lv2 := [(0, _), (1, _)]) (tk_X5_valueOf.at 10 rfl) mv_X6_at lk_x5_41 np_X6_at hR.1 (by decide) rfl (Nat.le_of_ble_eq_true rfl) (Nat.le_of_ble_eq_true rfl) rfl (c6_atN (v := (nI iv)) hR (hn2 P) hb hl (pl k rfl) (by omega) (by rw [Mx_ne hd3, hcell k (by omega)]; exact etr) ?_)
          refine X_istore (lv' := [(0, _), (1, _), (2, _), (3, _), (4, _)]) (tk_X5_valueOf.at 11 rfl) (by decide) rfl rfl ?_
          refine X_iload (tk_X5_valueOf.at 12 rfl) rfl ?_
          refine X_sipush (tk_X5_valueOf.at 13 rfl) cs_20000 ?_
          refine X_isub (tk_X5_valueOf.at 14 rfl) ?_
          refine X_istore (lv' := [(0, _), (1, _), (2, _), (3, _), (4, _), (5, _)]) (tk_X5_valueOf.at 15 rfl) (by decide) rfl rfl ?_
          refine X_iload (tk_X5_valueOf.at 16 rfl) rfl ?_
          refine X_bipush (tk_X5_valueOf.at 17 rfl) cb_33 ?_
          refine X_icmp_ne (tgt := 75) (tk_X5_valueOf.at 18 rfl) (by decide) (fun c2 => ?_) (fun c2 => (by rw [c2] at hneg; exact absurd hneg (by decide)))
          refine X_iload (tk_X5_valueOf.at 44 rfl) rfl ?_
          refine X_if_lt (tgt := 129) (tk_X5_valueOf.at 45 rfl) (by decide) (fun c3 => ?_) (fun c3 => (absurd hneg c3))
          refine X_iload_n (tk_X5_valueOf.at 76 rfl) rfl ?_
          refine X_aload_n (tk_X5_valueOf.at 77 rfl) rfl ?_
          refine X_getR (tk_X5_valueOf.at 78 rfl) fl_x5_15 hE.1 rfl rfl ?_
          refine X_alen (tk_X5_valueOf.at 79 rfl) hE.2.2 ?_
          refine X_icmp_geN (tgt := 182) (tk_X5_valueOf.at 80 rfl) (by decide) (pl (dpt C k) rfl) rfl (by omega) (by omega) (fun c4 => (by exfalso; omega)) (fun c4 => ?_)
          refine X_iload (tk_X5_valueOf.at 81 rfl) rfl ?_
          refine X_sipush (tk_X5_valueOf.at 82 rfl) cs_10000 ?_
          refine X_isub (tk_X5_valueOf.at 83 rfl) ?_
          refine X_istore (lv' := [(0, _), (1, _), (2, _), (3, _), (4, _), (5, _), (6, _)]) (tk_X5_valueOf.at 84 rfl) (by decide) rfl rfl ?_
          refine X_aload_n (tk_X5_valueOf.at 85 rfl) rfl ?_
          refine X_getR (tk_X5_valueOf.at 86 rfl) fl_x5_15 hE.1 rfl rfl ?_
          refine X_iload_n (tk_X5_valueOf.at 87 rfl) rfl ?_
          refine X_iload (tk_X5_valueOf.at 88 rfl) rfl ?_
          refine X_if_ltN (tgt := 176) (tk_X5_valueOf.at 89 rfl) (by decide) (ps (pl iv rfl) (pl 10000 rfl) (by omega)) (by omega) ?_
          refine X_iload (tk_X5_valueOf.at 90 rfl) rfl ?_
          refine X_aload_n (tk_X5_valueOf.at 91 rfl) rfl ?_
          refine X_getR (tk_X5_valueOf.at 92 rfl) fl_x5_9 hE.1 rfl rfl ?_
          refine X_alen (tk_X5_valueOf.at 93 rfl) hE.2.1 ?_
          refine X_icmp_geN (tgt := 176) (tk_X5_valueOf.at 94 rfl) (by decide) (ps (pl iv rfl) (pl 10000 rfl) (by omega)) rfl (by omega) (by omega) (fun c6 => (by exfalso; omega)) (fun c6 => ?_)
          refine X_aload_n (tk_X5_valueOf.at 95 rfl) rfl ?_
          refine X_getR (tk_X5_valueOf.at 96 rfl) fl_x5_9 hE.1 rfl rfl ?_
          refine X_iload (tk_X5_valueOf.at 97 rfl) rfl ?_
          refine X_ialdN (k := (iv) - (10000)) (tk_X5_valueOf.at 98 rfl) hE.2.1 (pz (ps (pl iv rfl) (pl 10000 rfl) (by omega)) (by omega)) (by omega) (by decide) ?_
          refine X_goto (tgt := 178) (tk_X5_valueOf.at 99 rfl) (by decide) ?_
          refine X_iastN (k := (dpt C k)) (tk_X5_valueOf.at 101 rfl) hE.2.2 (pz (pl (dpt C k) rfl) (by omega)) (by omega) (by decide) ?_
          refine X_iinc (lv' := [(0, _), (1, _), (2, _), (3, _), (4, _), (5, _), (6, _)]) (tk_X5_valueOf.at 102 rfl) rfl ci_1 (by decide) rfl rfl ?_
          refine X_iinc (lv' := [(0, _), (1, _), (2, _), (3, _), (4, _), (5, _), (6, _)]) (tk_X5_valueOf.at 103 rfl) rfl ci_1 (by decide) rfl rfl ?_
          refine X_goto (tgt := 4) (tk_X5_valueOf.at 104 rfl) (by decide) ?_
          rw [su_Mx, nI_1, nI_1]
          refine z _ (fun i hi => ?_) _
          rw [e2, e4]
          by_cases hd : i = dpt C k
          · rw [hd, upd_at, upd_at]
            rw [if_neg (fun y => absurd (e3.mp y) (by omega)), Mx_ne (by omega)]
          · rw [upd_ne _ _ hd, upd_ne _ _ hd]; exact hP i (by omega)
      · have n1 : ¬ C k < 20000 := by rw [h1]; decide
        have e1 : dpt C (k + 1) = dpt C k := by show (if _ then _ else if _ then _ else _) = _; rw [if_neg n1, if_pos h1]
        rw [e1] at z
        have etr : tr (C k) = 20033 := by rw [h1]; exact tr_not
        have e2 : evf C (μ (E + 1)) (k + 1) = upd (evf C (μ (E + 1)) k) (dpt C k - 1) (if evf C (μ (E + 1)) k (dpt C k - 1) = 0 then 1 else 0) := by show (if _ then _ else if _ then _ else _) = _; rw [if_neg n1, if_pos h1]
        have e4 := hP (dpt C k - 1) (by omega)
        refine X_iload_n (tk_X5_valueOf.at 4 rfl) rfl ?_
        refine X_aload_n (tk_X5_valueOf.at 5 rfl) rfl ?_
        refine X_cV0i (lv2 := [(0, _)]) (tk_X5_valueOf.at 6 rfl) mv_X6_size lk_x5_18 np_X6_size hR.1 (by decide) rfl (Nat.le_of_ble_eq_true rfl) (Nat.le_of_ble_eq_true rfl) rfl (c6_size hR (hn2 P) hb hl ?_)
        refine X_icmp_geN (tgt := 188) (tk_X5_valueOf.at 7 rfl) (by decide) (pl k rfl) (pl n rfl) (by omega) (by omega) (fun c1 => (by exfalso; omega)) (fun c1 => ?_)
        refine X_aload_n (tk_X5_valueOf.at 8 rfl) rfl ?_
        refine X_iload_n (tk_X5_valueOf.at 9 rfl) rfl ?_
        refine X_cV1i (lv2 := [(0, _), (1, _)]) (tk_X5_valueOf.at 10 rfl) mv_X6_at lk_x5_41 np_X6_at hR.1 (by decide) rfl (Nat.le_of_ble_eq_true rfl) (Nat.le_of_ble_eq_true rfl) rfl (c6_atN (v := 20033) hR (hn2 P) hb hl (pl k rfl) (by omega) (by rw [Mx_ne hd3, hcell k (by omega)]; exact etr) ?_)
        refine X_istore (lv' := [(0, _), (1, _), (2, _), (3, _), (4, _)]) (tk_X5_valueOf.at 11 rfl) (by decide) rfl rfl ?_
        refine X_iload (tk_X5_valueOf.at 12 rfl) rfl ?_
        refine X_sipush (tk_X5_valueOf.at 13 rfl) cs_20000 ?_
        refine X_isub (tk_X5_valueOf.at 14 rfl) ?_
        refine X_istore (lv' := [(0, _), (1, _), (2, _), (3, _), (4, _), (5, _)]) (tk_X5_valueOf.at 15 rfl) (by decide) rfl rfl ?_
        refine X_iload (tk_X5_valueOf.at 16 rfl) rfl ?_
        refine X_bipush (tk_X5_valueOf.at 17 rfl) cb_33 ?_
        refine X_icmp_neN (tgt := 75) (tk_X5_valueOf.at 18 rfl) (by decide) (ps (pl 20033 rfl) (pl 20000 rfl) (by omega)) (pl 33 rfl) (by omega) (by omega) (fun c2 => (by exfalso; omega)) (fun c2 => ?_)
        refine X_iload_n (tk_X5_valueOf.at 19 rfl) rfl ?_
        refine X_iconst (tk_X5_valueOf.at 20 rfl) ci_1 ?_
        refine X_icmp_ltN (tgt := 182) (tk_X5_valueOf.at 21 rfl) (by decide) (pl (dpt C k) rfl) (pl 1 rfl) (by omega) (by omega) (fun c3 => (by exfalso; omega)) (fun c3 => ?_)
        refine X_iload_n (tk_X5_valueOf.at 22 rfl) rfl ?_
        refine X_aload_n (tk_X5_valueOf.at 23 rfl) rfl ?_
        refine X_getR (tk_X5_valueOf.at 24 rfl) fl_x5_15 hE.1 rfl rfl ?_
        refine X_alen (tk_X5_valueOf.at 25 rfl) hE.2.2 ?_
        refine X_icmp_gtN (tgt := 182) (tk_X5_valueOf.at 26 rfl) (by decide) (pl (dpt C k) rfl) rfl (by omega) (by omega) (fun c4 => (by exfalso; omega)) (fun c4 => ?_)
        refine X_aload_n (tk_X5_valueOf.at 27 rfl) rfl ?_
        refine X_getR (tk_X5_valueOf.at 28 rfl) fl_x5_15 hE.1 rfl rfl ?_
        refine X_iload_n (tk_X5_valueOf.at 29 rfl) rfl ?_
        refine X_iconst (tk_X5_valueOf.at 30 rfl) ci_1 ?_
        refine X_isub (tk_X5_valueOf.at 31 rfl) ?_
        refine X_aload_n (tk_X5_valueOf.at 32 rfl) rfl ?_
        refine X_getR (tk_X5_valueOf.at 33 rfl) fl_x5_15 hE.1 rfl rfl ?_
        refine X_iload_n (tk_X5_valueOf.at 34 rfl) rfl ?_
        refine X_iconst (tk_X5_valueOf.at 35 rfl) ci_1 ?_
        refine X_isub (tk_X5_valueOf.at 36 rfl) ?_
        refine X_ialdN (k := ((dpt C k)) - (1)) (tk_X5_valueOf.at 37 rfl) hE.2.2 (pz (ps (pl (dpt C k) rfl) (pl 1 rfl) (by omega)) (by omega)) (by omega) (by decide) ?_
        refine X_if_ne (tgt := 70) (tk_X5_valueOf.at 38 rfl) (by decide) (fun c5 => ?_) (fun c5 => ?_)
        · refine X_iconst (tk_X5_valueOf.at 41 rfl) ci_0 ?_
          refine X_iastN (k := ((dpt C k)) - (1)) (tk_X5_valueOf.at 42 rfl) hE.2.2 (pz (ps (pl (dpt C k) rfl) (pl 1 rfl) (by omega)) (by omega)) (by omega) (by decide) ?_
          refine X_goto (tgt := 182) (tk_X5_valueOf.at 43 rfl) (by decide) ?_
          refine X_iinc (lv' := [(0, _), (1, _), (2, _), (3, _), (4, _), (5, _)]) (tk_X5_valueOf.at 103 rfl) rfl ci_1 (by decide) rfl rfl ?_
          refine X_goto (tgt := 4) (tk_X5_valueOf.at 104 rfl) (by decide) ?_
          rw [su_Mx, nI_1]
          refine z _ (fun i hi => ?_) _
          rw [e2]
          by_cases hd : i = dpt C k - 1
          · rw [hd, upd_at, upd_at, ← e4]
            rw [Mx_same] at c5
            simp [c5]
          · rw [upd_ne _ _ hd, upd_ne _ _ hd]; exact hP i (by omega)
        · refine X_iconst (tk_X5_valueOf.at 39 rfl) ci_1 ?_
          refine X_goto (tgt := 71) (tk_X5_valueOf.at 40 rfl) (by decide) ?_
          refine X_iastN (k := ((dpt C k)) - (1)) (tk_X5_valueOf.at 42 rfl) hE.2.2 (pz (ps (pl (dpt C k) rfl) (pl 1 rfl) (by omega)) (by omega)) (by omega) (by decide) ?_
          refine X_goto (tgt := 182) (tk_X5_valueOf.at 43 rfl) (by decide) ?_
          refine X_iinc (lv' := [(0, _), (1, _), (2, _), (3, _), (4, _), (5, _)]) (tk_X5_valueOf.at 103 rfl) rfl ci_1 (by decide) rfl rfl ?_
          refine X_goto (tgt := 4) (tk_X5_valueOf.at 104 rfl) (by decide) ?_
          rw [su_Mx, nI_1]
          refine z _ (fun i hi => ?_) _
          rw [e2]
          by_cases hd : i = dpt C k - 1
          · rw [hd, upd_at, upd_at, ← e4]
            rw [Mx_same] at c5
            simp [c5]
          · rw [upd_ne _ _ hd, upd_ne _ _ hd]; exact hP i (by omega)
      · obtain ⟨iv, hiv, eiv⟩ := nI_of (x := C k) (fun zz => h1 (Int32.lt_trans zz (by decide)))
        have g1 : 20000 ≤ iv := by
          rcases Nat.lt_or_ge iv 20000 with y | y
          · exact absurd (by rw [eiv]; exact lt_nI y (by decide)) h1
          · exact y
        have g2 : iv < 20010 := by rw [eiv] at h2; exact (nI_ltI hiv (by decide)).mp h2
        have n2 : ¬ C k = 20010 := by rw [eiv]; exact fun y => absurd ((nI_eq (b := 20010) hiv (by decide)).mp y) (by omega)
        have e1 : dpt C (k + 1) = dpt C k - 1 := by show (if _ then _ else if _ then _ else _) = _; rw [if_neg h1, if_neg n2]
        rw [e1] at z
        have e2 : evf C (μ (E + 1)) (k + 1) = upd (evf C (μ (E + 1)) k) (dpt C k - 2) (dn (C k) (evf C (μ (E + 1)) k (dpt C k - 2)) (evf C (μ (E + 1)) k (dpt C k - 1))) := by show (if _ then _ else if _ then _ else _) = _; rw [if_neg h1, if_neg n2]
        have e4 := hP (dpt C k - 1) (by omega)
        have e5 := hP (dpt C k - 2) (by omega)
        have hto := tr_op g1 g2
        have etr : tr (C k) = nI (20000 + sg iv) := by rw [eiv]; exact hto.1
        have hs1 := hto.2.1
        have hs2 := hto.2.2
        refine X_iload_n (tk_X5_valueOf.at 4 rfl) rfl ?_
        refine X_aload_n (tk_X5_valueOf.at 5 rfl) rfl ?_
        refine X_cV0i (lv2 := [(0, _)]) (tk_X5_valueOf.at 6 rfl) mv_X6_size lk_x5_18 np_X6_size hR.1 (by decide) rfl (Nat.le_of_ble_eq_true rfl) (Nat.le_of_ble_eq_true rfl) rfl (c6_size hR (hn2 P) hb hl ?_)
        refine X_icmp_geN (tgt := 188) (tk_X5_valueOf.at 7 rfl) (by decide) (pl k rfl) (pl n rfl) (by omega) (by omega) (fun c1 => (by exfalso; omega)) (fun c1 => ?_)
        refine X_aload_n (tk_X5_valueOf.at 8 rfl) rfl ?_
        refine X_iload_n (tk_X5_valueOf.at 9 rfl) rfl ?_
        refine X_cV1i (lv2 := [(0, _), (1, _)]) (tk_X5_valueOf.at 10 rfl) mv_X6_at lk_x5_41 np_X6_at hR.1 (by decide) rfl (Nat.le_of_ble_eq_true rfl) (Nat.le_of_ble_eq_true rfl) rfl (c6_atN (v := (nI (20000 + sg iv))) hR (hn2 P) hb hl (pl k rfl) (by omega) (by rw [Mx_ne hd3, hcell k (by omega)]; exact etr) ?_)
        refine X_istore (lv' := [(0, _), (1, _), (2, _), (3, _), (4, _)]) (tk_X5_valueOf.at 11 rfl) (by decide) rfl rfl ?_
        refine X_iload (tk_X5_valueOf.at 12 rfl) rfl ?_
        refine X_sipush (tk_X5_valueOf.at 13 rfl) cs_20000 ?_
        refine X_isub (tk_X5_valueOf.at 14 rfl) ?_
        refine X_istore (lv' := [(0, _), (1, _), (2, _), (3, _), (4, _), (5, _)]) (tk_X5_valueOf.at 15 rfl) (by decide) rfl rfl ?_
        refine X_iload (tk_X5_valueOf.at 16 rfl) rfl ?_
        refine X_bipush (tk_X5_valueOf.at 17 rfl) cb_33 ?_
        refine X_icmp_neN (tgt := 75) (tk_X5_valueOf.at 18 rfl) (by decide) (ps (pl (20000 + sg iv) rfl) (pl 20000 rfl) (by omega)) (pl 33 rfl) (by omega) (by omega) (fun c2 => ?_) (fun c2 => (by exfalso; omega))
        refine X_iload (tk_X5_valueOf.at 44 rfl) rfl ?_
        refine X_if_ltN (tgt := 129) (tk_X5_valueOf.at 45 rfl) (by decide) (ps (pl (20000 + sg iv) rfl) (pl 20000 rfl) (by omega)) (by omega) ?_
        refine X_iload_n (tk_X5_valueOf.at 46 rfl) rfl ?_
        refine X_iconst (tk_X5_valueOf.at 47 rfl) ci_2 ?_
        refine X_icmp_ltN (tgt := 182) (tk_X5_valueOf.at 48 rfl) (by decide) (pl (dpt C k) rfl) (pl 2 rfl) (by omega) (by omega) (fun c4 => (by exfalso; omega)) (fun c4 => ?_)
        refine X_iload_n (tk_X5_valueOf.at 49 rfl) rfl ?_
        refine X_aload_n (tk_X5_valueOf.at 50 rfl) rfl ?_
        refine X_getR (tk_X5_valueOf.at 51 rfl) fl_x5_15 hE.1 rfl rfl ?_
        refine X_alen (tk_X5_valueOf.at 52 rfl) hE.2.2 ?_
        refine X_icmp_gtN (tgt := 182) (tk_X5_valueOf.at 53 rfl) (by decide) (pl (dpt C k) rfl) rfl (by omega) (by omega) (fun c5 => (by exfalso; omega)) (fun c5 => ?_)
        refine X_aload_n (tk_X5_valueOf.at 54 rfl) rfl ?_
        refine X_getR (tk_X5_valueOf.at 55 rfl) fl_x5_15 hE.1 rfl rfl ?_
        refine X_iload_n (tk_X5_valueOf.at 56 rfl) rfl ?_
        refine X_iconst (tk_X5_valueOf.at 57 rfl) ci_2 ?_
        refine X_isub (tk_X5_valueOf.at 58 rfl) ?_
        refine X_iload (tk_X5_valueOf.at 59 rfl) rfl ?_
        refine X_aload_n (tk_X5_valueOf.at 60 rfl) rfl ?_
        refine X_getR (tk_X5_valueOf.at 61 rfl) fl_x5_15 hE.1 rfl rfl ?_
        refine X_iload_n (tk_X5_valueOf.at 62 rfl) rfl ?_
        refine X_iconst (tk_X5_valueOf.at 63 rfl) ci_2 ?_
        refine X_isub (tk_X5_valueOf.at 64 rfl) ?_
        refine X_ialdN (k := ((dpt C k)) - (2)) (tk_X5_valueOf.at 65 rfl) hE.2.2 (pz (ps (pl (dpt C k) rfl) (pl 2 rfl) (by omega)) (by omega)) (by omega) (by decide) ?_
        refine X_aload_n (tk_X5_valueOf.at 66 rfl) rfl ?_
        refine X_getR (tk_X5_valueOf.at 67 rfl) fl_x5_15 hE.1 rfl rfl ?_
        refine X_iload_n (tk_X5_valueOf.at 68 rfl) rfl ?_
        refine X_iconst (tk_X5_valueOf.at 69 rfl) ci_1 ?_
        refine X_isub (tk_X5_valueOf.at 70 rfl) ?_
        refine X_ialdN (k := ((dpt C k)) - (1)) (tk_X5_valueOf.at 71 rfl) hE.2.2 (pz (ps (pl (dpt C k) rfl) (pl 1 rfl) (by omega)) (by omega)) (by omega) (by decide) ?_
        refine X_cS3i (lv2 := [(0, _), (1, _), (2, _)]) (tk_X5_valueOf.at 72 rfl) ms_X5_applied lk_x5_28 np_X5_applied (Nat.le_of_ble_eq_true rfl) (Nat.le_of_ble_eq_true rfl) rfl (c5_applied eiv g1 g2 (pz (ps (pl (20000 + sg iv) rfl) (pl 20000 rfl) (by omega)) (by omega)) ?_)
        refine X_iastN (k := ((dpt C k)) - (2)) (tk_X5_valueOf.at 73 rfl) hE.2.2 (pz (ps (pl (dpt C k) rfl) (pl 2 rfl) (by omega)) (by omega)) (by omega) (by decide) ?_
        refine X_iinc (lv' := [(0, _), (1, _), (2, _), (3, _), (4, _), (5, _)]) (tk_X5_valueOf.at 74 rfl) rfl ci_m1 (by decide) rfl rfl ?_
        refine X_goto (tgt := 182) (tk_X5_valueOf.at 75 rfl) (by decide) ?_
        refine X_iinc (lv' := [(0, _), (1, _), (2, _), (3, _), (4, _), (5, _)]) (tk_X5_valueOf.at 103 rfl) rfl ci_1 (by decide) rfl rfl ?_
        refine X_goto (tgt := 4) (tk_X5_valueOf.at 104 rfl) (by decide) ?_
        rw [su_Mx, nI_1, Mx_same, pm1 (pl (dpt C k) rfl) (by omega)]
        refine z _ (fun i hi => ?_) _
        rw [e2]
        by_cases hd : i = dpt C k - 2
        · rw [hd, upd_at, upd_at, e4, e5]
        · rw [upd_ne _ _ hd, upd_ne _ _ hd]; exact hP i (by omega)
  refine X_iconst (tk_X5_valueOf.at 0 rfl) ci_0 ?_
  refine X_istore_n (lv' := [(0, _), (1, _), (2, _)]) (tk_X5_valueOf.at 1 rfl) (by decide) rfl rfl ?_
  refine X_iconst (tk_X5_valueOf.at 2 rfl) ci_0 ?_
  refine X_istore_n (lv' := [(0, _), (1, _), (2, _), (3, _)]) (tk_X5_valueOf.at 3 rfl) (by decide) rfl rfl ?_
  have z := loop n 0 (μ (E + 2)) (Nat.zero_add n) (fun i hi => absurd hi (Nat.not_lt_zero i)) []
  rw [Mx_self] at z
  exact z
