theorem gn_x2_11 : Cond.fieldLinkNest "RopesAtDawn$Dawn" 11 "RopesAtDawn" "PERSON_LEAST" "[I" "RopesAtDawn" ∈ gN := List.mem_filter.mpr ⟨wk 37 (by decide +kernel), rfl⟩
theorem gn_x2_15 : Cond.fieldLinkNest "RopesAtDawn$Dawn" 15 "RopesAtDawn" "PERSON_MOST" "[I" "RopesAtDawn" ∈ gN := List.mem_filter.mpr ⟨wk 39 (by decide +kernel), rfl⟩
theorem gn_x2_27 : Cond.fieldLinkNest "RopesAtDawn$Dawn" 27 "RopesAtDawn" "PIECE_LEAST" "[I" "RopesAtDawn" ∈ gN := List.mem_filter.mpr ⟨wk 62 (by decide +kernel), rfl⟩
theorem gn_x2_30 : Cond.fieldLinkNest "RopesAtDawn$Dawn" 30 "RopesAtDawn" "PIECE_MOST" "[I" "RopesAtDawn" ∈ gN := List.mem_filter.mpr ⟨wk 64 (by decide +kernel), rfl⟩
theorem gn_x2_36 : Cond.fieldLinkNest "RopesAtDawn$Dawn" 36 "RopesAtDawn" "ROPE_LEAST" "[I" "RopesAtDawn" ∈ gN := List.mem_filter.mpr ⟨wk 66 (by decide +kernel), rfl⟩
theorem gn_x2_39 : Cond.fieldLinkNest "RopesAtDawn$Dawn" 39 "RopesAtDawn" "ROPE_MOST" "[I" "RopesAtDawn" ∈ gN := List.mem_filter.mpr ⟨wk 68 (by decide +kernel), rfl⟩
theorem gn_x8_50 : Cond.fieldLinkNest "RopesAtDawn$Voices" 50 "RopesAtDawn" "BODIES" "[I" "RopesAtDawn" ∈ gN := List.mem_filter.mpr ⟨wk 941 (by decide +kernel), rfl⟩
theorem gn_x8_46 : Cond.fieldLinkNest "RopesAtDawn$Voices" 46 "RopesAtDawn" "KIND_ABOVE" "[I" "RopesAtDawn" ∈ gN := List.mem_filter.mpr ⟨wk 943 (by decide +kernel), rfl⟩
theorem gl_x9_328 : Cond.fieldLink "RopesAtDawn" 328 "RopesAtDawn" "KIND_ABOVE" "[I" ∈ lw_gd := gd (wk 451 (by decide +kernel)) rfl
/-- the class's static rows -/
def stL (j : Nat) : Nat := if j = 6 then 7 else if j = 7 then 28 else 4
def bdy (i : Nat) : Nat := ([10, 11, 12, 13, 0, 20, 0, 0, 30, 0, 0, 0, 41, 0, 40, 0, 0, 0, 0, 50, 60, 0, 0, 61, 0, 70, 71, 0] : List Nat).getD i 0
def stV (j i : Nat) : Int32 := if j = 7 then nI (bdy i) else if j = 6 then abv i else (if j = 0 then [30, 0, 1, 0] else if j = 1 then [300, 999, 60, 1] else if j = 2 then [-5, 0, 0, 1] else if j = 3 then [5, 999, 99, 40] else if j = 4 then [0, 1, 0, 0] else ([6, 20, 9, 0] : List Int32)).getD i 0
def Sta (G : Gl) (S : Sh) (μ : Mu) : Prop := ∀ j, j < 8 → S.2 (G.2.2.2 j) = some (kC (stL j)) ∧ ∀ i, i < stL j → μ (G.2.2.2 j) i = stV j i
theorem Sta.s6 {G : Gl} {S : Sh} {μ : Mu} (h : Sta G S μ) : S.2 (G.2.2.2 6) = some (kC 7) := (h 6 (by decide)).1
theorem Sta.s7 {G : Gl} {S : Sh} {μ : Mu} (h : Sta G S μ) : S.2 (G.2.2.2 7) = some (kC 28) := (h 7 (by decide)).1
theorem Sta.v6 {G : Gl} {S : Sh} {μ : Mu} (h : Sta G S μ) {i : Nat} (hi : i < 7) : μ (G.2.2.2 6) i = abv i := (h 6 (by decide)).2 i hi
theorem Sta.v7 {G : Gl} {S : Sh} {μ : Mu} (h : Sta G S μ) {i : Nat} (hi : i < 28) : μ (G.2.2.2 7) i = nI (bdy i) := (h 7 (by decide)).2 i hi
theorem own_b : ∀ k, k < 7 → ∀ a, a < 4 → (own k a = true ↔ bdy (4 * k + a) ≠ 0) := by decide
theorem bdy_le : ∀ i, i < 28 → bdy i ≤ 71 := by decide
theorem abv0 : abv 0 = -1 := rfl
theorem abv_ab1 : ∀ k, k < 7 → k ≠ 0 → abv k = nI (ab k) ∧ ab k < 7 ∧ rkk (ab k) < rkk k := by decide
def rV (V k : Nat) : Option Nat := match k with
  | 0 => some (V + 1)
  | _ => none
/-- the voices of the class at V -/
def VS (S : Sh) (V : Nat) : Prop := S.2 V = some (kO 8 (rV V)) ∧ RS S (V + 1) 40
def VW (μ : Mu) (V : Nat) (s : Tr) : Mu := Mx (su μ (V + 1) 1 (nI s.1)) (V + 2) s.2
section
variable {μ : Mu} {V : Nat} {s : Tr}
theorem VW1 : VW μ V s (V + 1) 1 = nI s.1 := by unfold VW; rw [Mx_ne (by omega), su_same]; exact upd_at _ _ _
theorem VW_ne {a : Nat} (h1 : a ≠ V + 1) (h2 : a ≠ V + 2) : VW μ V s a = μ a := by unfold VW; rw [Mx_ne h2, su_ne h1]
theorem VW_bg {b : Int32} (h : s.1 < 40) : su (su (VW μ V s) (V + 1 + 1) s.1 b) (V + 1) 1 (nI (s.1 + 1)) = VW μ V (bg s b) := by
  unfold bg
  rw [if_pos h]
  unfold VW
  rw [show V + 1 + 1 = V + 2 from rfl, su_Mx, su_eq, Mx_ne (show V + 1 ≠ V + 2 by omega), su_same, upd_upd, Mx_comm _ (show V + 2 ≠ V + 1 by omega), su_eq, Mx_Mx, su_eq]
theorem VW_st : su μ (V + 1) 1 0 = VW μ V (0, μ (V + 2)) := by
  unfold VW
  rw [show μ (V + 2) = su μ (V + 1) 1 (nI 0) (V + 2) from by rw [su_ne (by omega)], Mx_self]
  rfl
end
set_option maxHeartbeats 1000000 in
theorem c8_bodyOf {G : Gl} {d : Nat} {S : Sh} {μ : Mu} {x y : Int32} {k a : Nat} {K : Int32 → Sh → Mu → Prop} (hst : Sta G S μ) (hx : x = nI k) (hk : k < 7) (hy : y = nI a) (ha : a < 4) (hK : K (nI (bdy (4 * k + a))) S μ) : X G mi_X8_bodyOf d 0 0 [(0, .int x), (1, .int y)] [] S μ (qi K) := by
  refine X_iload_n (tk_X8_bodyOf.at 0 rfl) rfl ?_
  refine X_iconst (tk_X8_bodyOf.at 1 rfl) ci_4 ?_
  refine X_imul (tk_X8_bodyOf.at 2 rfl) ?_
  refine X_iload_n (tk_X8_bodyOf.at 3 rfl) rfl ?_
  refine X_iadd (tk_X8_bodyOf.at 4 rfl) ?_
  refine X_istore_n (lv' := [(0, _), (1, _), (2, _)]) (tk_X8_bodyOf.at 5 rfl) (by decide) rfl rfl ?_
  refine X_iload_n (tk_X8_bodyOf.at 6 rfl) rfl ?_
  refine X_if_ltN (tgt := 35) (tk_X8_bodyOf.at 7 rfl) (by decide) hx (by omega) ?_
  refine X_iload_n (tk_X8_bodyOf.at 8 rfl) rfl ?_
  refine X_if_ltN (tgt := 35) (tk_X8_bodyOf.at 9 rfl) (by decide) hy (by omega) ?_
  refine X_iload_n (tk_X8_bodyOf.at 10 rfl) rfl ?_
  refine X_iconst (tk_X8_bodyOf.at 11 rfl) ci_4 ?_
  refine X_icmp_geN (tgt := 35) (tk_X8_bodyOf.at 12 rfl) (by decide) hy (pl 4 rfl) (by omega) (by omega) (fun c3 => (by exfalso; omega)) (fun c3 => ?_)
  refine X_iload_n (tk_X8_bodyOf.at 13 rfl) rfl ?_
  refine X_getsN (j := 7) (tk_X8_bodyOf.at 14 rfl) (by decide) gn_x8_50 ?_
  refine X_alenC (tk_X8_bodyOf.at 15 rfl) hst.s7 ?_
  refine X_icmp_geN (tgt := 35) (tk_X8_bodyOf.at 16 rfl) (by decide) (pa (pm hx (pl 4 rfl)) hy) rfl (by omega) (by omega) (fun c4 => (by exfalso; omega)) (fun c4 => ?_)
  refine X_getsN (j := 7) (tk_X8_bodyOf.at 17 rfl) (by decide) gn_x8_50 ?_
  refine X_iload_n (tk_X8_bodyOf.at 18 rfl) rfl ?_
  refine X_ialdCN (k := 4 * k + a) (tk_X8_bodyOf.at 19 rfl) hst.s7 (pz (pa (pm hx (pl 4 rfl)) hy) (by omega)) (by omega) (by decide) ?_
  rw [hst.v7 (by omega)]
  refine X_goto (tgt := 36) (tk_X8_bodyOf.at 20 rfl) (by decide) ?_
  refine X_ireturn (tk_X8_bodyOf.at 22 rfl) rfl rfl ?_
  exact hK
set_option maxHeartbeats 1000000 in
theorem c8_bearerOf {G : Gl} {d : Nat} {S : Sh} {μ : Mu} {x y : Int32} {k a : Nat} {K : Int32 → Sh → Mu → Prop} (hst : Sta G S μ) (hx : x = nI k) (hk : k < 7) (hy : y = nI a) (ha : a < 4) (hK : K (nI (bear k a)) S μ) : X G mi_X8_bearerOf (d + 1) 0 0 [(0, .int x), (1, .int y)] [] S μ (qi K) := by
  have loop : ∀ (m j u : Nat), j < 7 → rkk j < m → u + m ≤ 3 → bear j a = bear k a → X G mi_X8_bearerOf (d + 1) 0 4 [(0, .int x), (1, .int y), (2, .int (nI j)), (3, .int (nI u))] [] S μ (qi K) := by
    intro m
    induction m with
    | zero => intro j u _ h; exact absurd h (Nat.not_lt_zero _)
    | succ m ih =>
      intro j u hj hm hu hb
      have hob := own_b j hj a ha
      have bl := bdy_le (4 * j + a) (by omega)
      refine X_iload_n (tk_X8_bearerOf.at 4 rfl) rfl ?_
      refine X_bipush (tk_X8_bearerOf.at 5 rfl) cb_7 ?_
      refine X_icmp_geN (tgt := 46) (tk_X8_bearerOf.at 6 rfl) (by decide) (pl u rfl) (pl 7 rfl) (by omega) (by omega) (fun c1 => (by exfalso; omega)) (fun c1 => ?_)
      refine X_iload_n (tk_X8_bearerOf.at 7 rfl) rfl ?_
      refine X_iload_n (tk_X8_bearerOf.at 8 rfl) rfl ?_
      refine X_cS2i (lv2 := [(0, _), (1, _)]) (tk_X8_bearerOf.at 9 rfl) ms_X8_bodyOf lk_x8_43 np_X8_bodyOf (Nat.le_of_ble_eq_true rfl) (Nat.le_of_ble_eq_true rfl) rfl (c8_bodyOf (k := j) (a := a) hst rfl hj hy ha ?_)
      refine X_if_neN (tgt := 46) (tk_X8_bearerOf.at 10 rfl) (by decide) (pl (bdy (4 * j + a)) rfl) (by omega) (fun c2 => ?_) (fun c2 => ?_)
      · refine X_iload_n (tk_X8_bearerOf.at 25 rfl) rfl ?_
        refine X_ireturn (tk_X8_bearerOf.at 26 rfl) rfl rfl ?_
        rw [← hb, bear_t (hob.mpr c2)] at hK
        exact hK
      · have hof : own j a = false := by cases ho : own j a with
          | true => exact absurd c2 (hob.mp ho)
          | false => rfl
        obtain ⟨z0, z1⟩ := bear_u j hj a ha hof
        obtain ⟨q1, q2, q3⟩ := abv_ab1 j hj z0
        refine X_iload_n (tk_X8_bearerOf.at 11 rfl) rfl ?_
        refine X_if_ltN (tgt := 38) (tk_X8_bearerOf.at 12 rfl) (by decide) (pl j rfl) (by omega) ?_
        refine X_iload_n (tk_X8_bearerOf.at 13 rfl) rfl ?_
        refine X_getsN (j := 6) (tk_X8_bearerOf.at 14 rfl) (by decide) gn_x8_46 ?_
        refine X_alenC (tk_X8_bearerOf.at 15 rfl) hst.s6 ?_
        refine X_icmp_geN (tgt := 38) (tk_X8_bearerOf.at 16 rfl) (by decide) (pl j rfl) rfl (by omega) (by omega) (fun c4 => (by exfalso; omega)) (fun c4 => ?_)
        refine X_getsN (j := 6) (tk_X8_bearerOf.at 17 rfl) (by decide) gn_x8_46 ?_
        refine X_iload_n (tk_X8_bearerOf.at 18 rfl) rfl ?_
        refine X_ialdCN (k := j) (tk_X8_bearerOf.at 19 rfl) hst.s6 (pz (pl j rfl) (by omega)) (by omega) (by decide) ?_
        rw [hst.v6 hj, q1]
        refine X_goto (tgt := 39) (tk_X8_bearerOf.at 20 rfl) (by decide) ?_
        refine X_istore_n (lv' := [(0, _), (1, _), (2, _), (3, _)]) (tk_X8_bearerOf.at 22 rfl) (by decide) rfl rfl ?_
        refine X_iinc (lv' := [(0, _), (1, _), (2, _), (3, _)]) (tk_X8_bearerOf.at 23 rfl) rfl ci_1 (by decide) rfl rfl ?_
        refine X_goto (tgt := 4) (tk_X8_bearerOf.at 24 rfl) (by decide) ?_
        rw [nI_1 u]
        exact ih (ab j) (u + 1) q2 (by omega) (by omega) (z1.symm.trans hb)
  refine X_iload_n (tk_X8_bearerOf.at 0 rfl) rfl ?_
  refine X_istore_n (lv' := [(0, _), (1, _), (2, _)]) (tk_X8_bearerOf.at 1 rfl) (by decide) rfl rfl ?_
  refine X_iconst (tk_X8_bearerOf.at 2 rfl) ci_0 ?_
  refine X_istore_n (lv' := [(0, _), (1, _), (2, _), (3, _)]) (tk_X8_bearerOf.at 3 rfl) (by decide) rfl rfl ?_
  have r3 : ∀ k, k < 7 → rkk k < 3 := by decide
  subst hx
  exact loop 3 k 0 hk (r3 k hk) (by decide) rfl
def VY (G : Gl) (S : Sh) (μ : Mu) (V Kd : Nat) (sp kn : Int32) (f : Nat) : Prop := ∀ (k a : Nat) (x : Int32) (s : Tr) (e D : Nat) (K : Int32 → Sh → Mu → Prop), k < 7 → a < 4 → s.1 ≤ 40 → trm Kd f k a = true → e + f ≤ 30 → f + 2 ≤ D → K (vo Kd sp kn f k a x s).1 S (VW μ V (vo Kd sp kn f k a x s).2) → X G mi_X8_say D 0 0 [(0, .ref V), (1, .int (nI k)), (2, .int (nI a)), (3, .int x), (4, .int (nI e))] [] S (VW μ V s) (qi K)
theorem Sta_VW {G : Gl} {S : Sh} {μ : Mu} {V : Nat} {s : Tr} (hst : Sta G S μ) (hout : ∀ j, j < 8 → G.2.2.2 j ≠ V + 1 ∧ G.2.2.2 j ≠ V + 2) : Sta G S (VW μ V s) := fun j hj => ⟨(hst j hj).1, fun i hi => by rw [VW_ne (hout j hj).1 (hout j hj).2]; exact (hst j hj).2 i hi⟩
theorem va_add {G : Gl} {d : Nat} {S : Sh} {μ : Mu} {V : Nat} {s : Tr} {b : Int32} {K : Sh → Mu → Prop} (hV : VS S V) (hs : s.1 ≤ 40) (hK : K S (VW μ V (bg s b))) : X G mi_X6_add d 0 0 [(0, .ref (V + 1)), (1, .int b)] [] S (VW μ V s) (qv K) :=
  c6_add hV.2 VW1 hs (by decide) (fun h => by rw [VW_bg h]; exact hK) (fun h => by rw [show bg s b = s from if_neg (by omega)] at hK; exact hK)
set_option maxHeartbeats 1000000 in
theorem c8_sayS {G : Gl} {S : Sh} {μ : Mu} {V Kd : Nat} {sp kn : Int32} {f : Nat} (hV : VS S V) (hst : Sta G S μ) (hout : ∀ j, j < 8 → G.2.2.2 j ≠ V + 1 ∧ G.2.2.2 j ≠ V + 2) (hkd : μ V 1 = nI Kd) (hsp : μ V 2 = sp) (hkn : μ V 3 = kn) (hK7 : Kd < 7) (ih : VY G S μ V Kd sp kn f) (k a : Nat) (x : Int32) (s : Tr) (e D : Nat) (K : Int32 → Sh → Mu → Prop) (hk : k < 7) (ha : a < 4) (hs : s.1 ≤ 40) (ht : trm Kd (f + 1) k a = true) (he : e + (f + 1) ≤ 30) (hD : (f + 1) + 2 ≤ D) (hK : K (vo Kd sp kn (f + 1) k a x s).1 S (VW μ V (vo Kd sp kn (f + 1) k a x s).2)) : X G mi_X8_say D 0 0 [(0, .ref V), (1, .int (nI k)), (2, .int (nI a)), (3, .int x), (4, .int (nI e))] [] S (VW μ V s) (qi K) := by
  obtain ⟨D, rfl⟩ : ∃ D', D = D' + 1 := ⟨D - 1, by omega⟩
  obtain ⟨D, rfl⟩ : ∃ D', D = D' + 1 := ⟨D - 1, by omega⟩
  have hst2 : Sta G S (VW μ V s) := Sta_VW hst hout
  have hbb := bear_ok k hk a ha
  have hns := own_n _ hbb.1 a ha hbb.2
  refine X_iload (tk_X8_say.at 0 rfl) rfl ?_
  refine X_bipush (tk_X8_say.at 1 rfl) cb_30 ?_
  refine X_icmp_leN (tgt := 9) (tk_X8_say.at 2 rfl) (by decide) (pl e rfl) (pl 30 rfl) (by omega) (by omega) (fun c1 => ?_) (fun c1 => (by exfalso; omega))
  refine X_iload_n (tk_X8_say.at 5 rfl) rfl ?_
  refine X_iload_n (tk_X8_say.at 6 rfl) rfl ?_
  refine X_cS2i (lv2 := [(0, _), (1, _)]) (tk_X8_say.at 7 rfl) ms_X8_bearerOf lk_x8_53 np_X8_bearerOf (Nat.le_of_ble_eq_true rfl) (Nat.le_of_ble_eq_true rfl) rfl (c8_bearerOf (k := k) (a := a) hst2 rfl hk rfl ha ?_)
  refine X_istore (lv' := [(0, _), (1, _), (2, _), (3, _), (4, _), (5, _)]) (tk_X8_say.at 8 rfl) (by decide) rfl rfl ?_
  refine X_iload (tk_X8_say.at 9 rfl) rfl ?_
  refine X_iload_n (tk_X8_say.at 10 rfl) rfl ?_
  refine X_cS2i (lv2 := [(0, _), (1, _)]) (tk_X8_say.at 11 rfl) ms_X8_bodyOf lk_x8_43 np_X8_bodyOf (Nat.le_of_ble_eq_true rfl) (Nat.le_of_ble_eq_true rfl) rfl (c8_bodyOf (k := bear k a) (a := a) hst2 rfl hbb.1 rfl ha ?_)
  rcases hns with en | en | en | en | en | en | en | en | en | en | en | en | en
  · have eb : bear k a = 0 := by omega
    have ea : a = 0 := by omega
    rw [show nI (bdy (4 * bear k a + a)) = 10 from by rw [en]; rfl]
    refine X_istore (lv' := [(0, _), (1, _), (2, _), (3, _), (4, _), (5, _), (6, _)]) (tk_X8_say.at 12 rfl) (by decide) rfl rfl ?_
    refine X_iload (tk_X8_say.at 13 rfl) rfl ?_
    refine X_if_ltN (tgt := 47) (tk_X8_say.at 14 rfl) (by decide) (pl (bear k a) rfl) (by omega) ?_
    refine X_iload (tk_X8_say.at 15 rfl) rfl ?_
    refine X_getsN (j := 6) (tk_X8_say.at 16 rfl) (by decide) gn_x8_46 ?_
    refine X_alenC (tk_X8_say.at 17 rfl) hst2.s6 ?_
    refine X_icmp_geN (tgt := 47) (tk_X8_say.at 18 rfl) (by decide) (pl (bear k a) rfl) rfl (by omega) (by omega) (fun c52 => (by exfalso; omega)) (fun c52 => ?_)
    refine X_getsN (j := 6) (tk_X8_say.at 19 rfl) (by decide) gn_x8_46 ?_
    refine X_iload (tk_X8_say.at 20 rfl) rfl ?_
    refine X_ialdCN (k := (bear k a)) (tk_X8_say.at 21 rfl) hst2.s6 (pz (pl (bear k a) rfl) (by omega)) (by omega) (by decide) ?_
    rw [hst2.v6 hbb.1, show abv (bear k a) = -1 from by rw [eb]; rfl]
    refine X_goto (tgt := 48) (tk_X8_say.at 22 rfl) (by decide) ?_
    refine X_istore (lv' := [(0, _), (1, _), (2, _), (3, _), (4, _), (5, _), (6, _), (7, _)]) (tk_X8_say.at 24 rfl) (by decide) rfl rfl ?_
    refine X_iload (tk_X8_say.at 25 rfl) rfl ?_
    refine X_iconst (tk_X8_say.at 26 rfl) ci_1 ?_
    refine X_iadd (tk_X8_say.at 27 rfl) ?_
    rw [nI_1 e]
    refine X_istore (lv' := [(0, _), (1, _), (2, _), (3, _), (4, _), (5, _), (6, _), (7, _), (8, _)]) (tk_X8_say.at 28 rfl) (by decide) rfl rfl ?_
    refine X_aload_n (tk_X8_say.at 29 rfl) rfl ?_
    refine X_getR (tk_X8_say.at 30 rfl) fl_x8_14 hV.1 rfl rfl ?_
    refine X_iload (tk_X8_say.at 31 rfl) rfl ?_
    have hs1 := bg_le (b := 10) hs
    refine X_cV1v (lv2 := [(0, _), (1, _)]) (tk_X8_say.at 32 rfl) mv_X6_add lk_x8_56 np_X6_add hV.2.1 (by decide) rfl (Nat.le_of_ble_eq_true rfl) (Nat.le_of_ble_eq_true rfl) rfl (va_add hV hs ?_)
    refine X_iload (tk_X8_say.at 33 rfl) rfl ?_
    refine X_lookupN (n := 10) (tgt := 172) (tk_X8_say.at 34 rfl) rfl (by decide) (by decide) rfl (by decide) ?_
    refine X_iload_n (tk_X8_say.at 35 rfl) rfl ?_
    refine X_aload_n (tk_X8_say.at 36 rfl) rfl ?_
    refine X_getI (tk_X8_say.at 37 rfl) fl_x8_24 hV.1 rfl ?_
    rw [VW_ne (by omega) (by omega), hsp]
    refine X_iadd (tk_X8_say.at 38 rfl) ?_
    refine X_ireturn (tk_X8_say.at 39 rfl) rfl rfl ?_
    rw [vo_0 en] at hK
    exact hK
  · have eb : bear k a = 0 := by omega
    have ea : a = 1 := by omega
    rw [show nI (bdy (4 * bear k a + a)) = 11 from by rw [en]; rfl]
    refine X_istore (lv' := [(0, _), (1, _), (2, _), (3, _), (4, _), (5, _), (6, _)]) (tk_X8_say.at 12 rfl) (by decide) rfl rfl ?_
    refine X_iload (tk_X8_say.at 13 rfl) rfl ?_
    refine X_if_ltN (tgt := 47) (tk_X8_say.at 14 rfl) (by decide) (pl (bear k a) rfl) (by omega) ?_
    refine X_iload (tk_X8_say.at 15 rfl) rfl ?_
    refine X_getsN (j := 6) (tk_X8_say.at 16 rfl) (by decide) gn_x8_46 ?_
    refine X_alenC (tk_X8_say.at 17 rfl) hst2.s6 ?_
    refine X_icmp_geN (tgt := 47) (tk_X8_say.at 18 rfl) (by decide) (pl (bear k a) rfl) rfl (by omega) (by omega) (fun c52 => (by exfalso; omega)) (fun c52 => ?_)
    refine X_getsN (j := 6) (tk_X8_say.at 19 rfl) (by decide) gn_x8_46 ?_
    refine X_iload (tk_X8_say.at 20 rfl) rfl ?_
    refine X_ialdCN (k := (bear k a)) (tk_X8_say.at 21 rfl) hst2.s6 (pz (pl (bear k a) rfl) (by omega)) (by omega) (by decide) ?_
    rw [hst2.v6 hbb.1, show abv (bear k a) = -1 from by rw [eb]; rfl]
    refine X_goto (tgt := 48) (tk_X8_say.at 22 rfl) (by decide) ?_
    refine X_istore (lv' := [(0, _), (1, _), (2, _), (3, _), (4, _), (5, _), (6, _), (7, _)]) (tk_X8_say.at 24 rfl) (by decide) rfl rfl ?_
    refine X_iload (tk_X8_say.at 25 rfl) rfl ?_
    refine X_iconst (tk_X8_say.at 26 rfl) ci_1 ?_
    refine X_iadd (tk_X8_say.at 27 rfl) ?_
    rw [nI_1 e]
    refine X_istore (lv' := [(0, _), (1, _), (2, _), (3, _), (4, _), (5, _), (6, _), (7, _), (8, _)]) (tk_X8_say.at 28 rfl) (by decide) rfl rfl ?_
    refine X_aload_n (tk_X8_say.at 29 rfl) rfl ?_
    refine X_getR (tk_X8_say.at 30 rfl) fl_x8_14 hV.1 rfl rfl ?_
    refine X_iload (tk_X8_say.at 31 rfl) rfl ?_
    have hs1 := bg_le (b := 11) hs
    refine X_cV1v (lv2 := [(0, _), (1, _)]) (tk_X8_say.at 32 rfl) mv_X6_add lk_x8_56 np_X6_add hV.2.1 (by decide) rfl (Nat.le_of_ble_eq_true rfl) (Nat.le_of_ble_eq_true rfl) rfl (va_add hV hs ?_)
    refine X_iload (tk_X8_say.at 33 rfl) rfl ?_
    refine X_lookupN (n := 11) (tgt := 179) (tk_X8_say.at 34 rfl) rfl (by decide) (by decide) rfl (by decide) ?_
    refine X_aload_n (tk_X8_say.at 40 rfl) rfl ?_
    refine X_aload_n (tk_X8_say.at 41 rfl) rfl ?_
    refine X_getI (tk_X8_say.at 42 rfl) fl_x8_20 hV.1 rfl ?_
    rw [VW_ne (by omega) (by omega), hkd]
    refine X_iconst (tk_X8_say.at 43 rfl) ci_0 ?_
    refine X_iload_n (tk_X8_say.at 44 rfl) rfl ?_
    refine X_iload (tk_X8_say.at 45 rfl) rfl ?_
    refine X_cV4i (lv2 := [(0, _), (1, _), (2, _), (3, _), (4, _)]) (tk_X8_say.at 46 rfl) mv_X8_say lk_x8_39 np_X8_say hV.1 (by decide) rfl (Nat.le_of_ble_eq_true rfl) (Nat.le_of_ble_eq_true rfl) rfl (ih Kd 0 x (bg s 11) (e + 1) _ _ hK7 (by decide) hs1 (trm_1 en ht) (by omega) (by omega) ?_)
    refine X_iconst (tk_X8_say.at 47 rfl) ci_2 ?_
    refine X_imul (tk_X8_say.at 48 rfl) ?_
    refine X_ireturn (tk_X8_say.at 49 rfl) rfl rfl ?_
    rw [vo_1 en] at hK
    exact hK
  · have eb : bear k a = 0 := by omega
    have ea : a = 2 := by omega
    rw [show nI (bdy (4 * bear k a + a)) = 12 from by rw [en]; rfl]
    refine X_istore (lv' := [(0, _), (1, _), (2, _), (3, _), (4, _), (5, _), (6, _)]) (tk_X8_say.at 12 rfl) (by decide) rfl rfl ?_
    refine X_iload (tk_X8_say.at 13 rfl) rfl ?_
    refine X_if_ltN (tgt := 47) (tk_X8_say.at 14 rfl) (by decide) (pl (bear k a) rfl) (by omega) ?_
    refine X_iload (tk_X8_say.at 15 rfl) rfl ?_
    refine X_getsN (j := 6) (tk_X8_say.at 16 rfl) (by decide) gn_x8_46 ?_
    refine X_alenC (tk_X8_say.at 17 rfl) hst2.s6 ?_
    refine X_icmp_geN (tgt := 47) (tk_X8_say.at 18 rfl) (by decide) (pl (bear k a) rfl) rfl (by omega) (by omega) (fun c52 => (by exfalso; omega)) (fun c52 => ?_)
    refine X_getsN (j := 6) (tk_X8_say.at 19 rfl) (by decide) gn_x8_46 ?_
    refine X_iload (tk_X8_say.at 20 rfl) rfl ?_
    refine X_ialdCN (k := (bear k a)) (tk_X8_say.at 21 rfl) hst2.s6 (pz (pl (bear k a) rfl) (by omega)) (by omega) (by decide) ?_
    rw [hst2.v6 hbb.1, show abv (bear k a) = -1 from by rw [eb]; rfl]
    refine X_goto (tgt := 48) (tk_X8_say.at 22 rfl) (by decide) ?_
    refine X_istore (lv' := [(0, _), (1, _), (2, _), (3, _), (4, _), (5, _), (6, _), (7, _)]) (tk_X8_say.at 24 rfl) (by decide) rfl rfl ?_
    refine X_iload (tk_X8_say.at 25 rfl) rfl ?_
    refine X_iconst (tk_X8_say.at 26 rfl) ci_1 ?_
    refine X_iadd (tk_X8_say.at 27 rfl) ?_
    rw [nI_1 e]
    refine X_istore (lv' := [(0, _), (1, _), (2, _), (3, _), (4, _), (5, _), (6, _), (7, _), (8, _)]) (tk_X8_say.at 28 rfl) (by decide) rfl rfl ?_
    refine X_aload_n (tk_X8_say.at 29 rfl) rfl ?_
    refine X_getR (tk_X8_say.at 30 rfl) fl_x8_14 hV.1 rfl rfl ?_
    refine X_iload (tk_X8_say.at 31 rfl) rfl ?_
    have hs1 := bg_le (b := 12) hs
    refine X_cV1v (lv2 := [(0, _), (1, _)]) (tk_X8_say.at 32 rfl) mv_X6_add lk_x8_56 np_X6_add hV.2.1 (by decide) rfl (Nat.le_of_ble_eq_true rfl) (Nat.le_of_ble_eq_true rfl) rfl (va_add hV hs ?_)
    refine X_iload (tk_X8_say.at 33 rfl) rfl ?_
    refine X_lookupN (n := 12) (tgt := 194) (tk_X8_say.at 34 rfl) rfl (by decide) (by decide) rfl (by decide) ?_
    refine X_iload_n (tk_X8_say.at 50 rfl) rfl ?_
    refine X_aload_n (tk_X8_say.at 51 rfl) rfl ?_
    refine X_getI (tk_X8_say.at 52 rfl) fl_x8_27 hV.1 rfl ?_
    rw [VW_ne (by omega) (by omega), hkn]
    refine X_isub (tk_X8_say.at 53 rfl) ?_
    refine X_ireturn (tk_X8_say.at 54 rfl) rfl rfl ?_
    rw [vo_2 en] at hK
    exact hK
  · have eb : bear k a = 0 := by omega
    have ea : a = 3 := by omega
    rw [show nI (bdy (4 * bear k a + a)) = 13 from by rw [en]; rfl]
    refine X_istore (lv' := [(0, _), (1, _), (2, _), (3, _), (4, _), (5, _), (6, _)]) (tk_X8_say.at 12 rfl) (by decide) rfl rfl ?_
    refine X_iload (tk_X8_say.at 13 rfl) rfl ?_
    refine X_if_ltN (tgt := 47) (tk_X8_say.at 14 rfl) (by decide) (pl (bear k a) rfl) (by omega) ?_
    refine X_iload (tk_X8_say.at 15 rfl) rfl ?_
    refine X_getsN (j := 6) (tk_X8_say.at 16 rfl) (by decide) gn_x8_46 ?_
    refine X_alenC (tk_X8_say.at 17 rfl) hst2.s6 ?_
    refine X_icmp_geN (tgt := 47) (tk_X8_say.at 18 rfl) (by decide) (pl (bear k a) rfl) rfl (by omega) (by omega) (fun c52 => (by exfalso; omega)) (fun c52 => ?_)
    refine X_getsN (j := 6) (tk_X8_say.at 19 rfl) (by decide) gn_x8_46 ?_
    refine X_iload (tk_X8_say.at 20 rfl) rfl ?_
    refine X_ialdCN (k := (bear k a)) (tk_X8_say.at 21 rfl) hst2.s6 (pz (pl (bear k a) rfl) (by omega)) (by omega) (by decide) ?_
    rw [hst2.v6 hbb.1, show abv (bear k a) = -1 from by rw [eb]; rfl]
    refine X_goto (tgt := 48) (tk_X8_say.at 22 rfl) (by decide) ?_
    refine X_istore (lv' := [(0, _), (1, _), (2, _), (3, _), (4, _), (5, _), (6, _), (7, _)]) (tk_X8_say.at 24 rfl) (by decide) rfl rfl ?_
    refine X_iload (tk_X8_say.at 25 rfl) rfl ?_
    refine X_iconst (tk_X8_say.at 26 rfl) ci_1 ?_
    refine X_iadd (tk_X8_say.at 27 rfl) ?_
    rw [nI_1 e]
    refine X_istore (lv' := [(0, _), (1, _), (2, _), (3, _), (4, _), (5, _), (6, _), (7, _), (8, _)]) (tk_X8_say.at 28 rfl) (by decide) rfl rfl ?_
    refine X_aload_n (tk_X8_say.at 29 rfl) rfl ?_
    refine X_getR (tk_X8_say.at 30 rfl) fl_x8_14 hV.1 rfl rfl ?_
    refine X_iload (tk_X8_say.at 31 rfl) rfl ?_
    have hs1 := bg_le (b := 13) hs
    refine X_cV1v (lv2 := [(0, _), (1, _)]) (tk_X8_say.at 32 rfl) mv_X6_add lk_x8_56 np_X6_add hV.2.1 (by decide) rfl (Nat.le_of_ble_eq_true rfl) (Nat.le_of_ble_eq_true rfl) rfl (va_add hV hs ?_)
    refine X_iload (tk_X8_say.at 33 rfl) rfl ?_
    refine X_lookupN (n := 13) (tgt := 201) (tk_X8_say.at 34 rfl) rfl (by decide) (by decide) rfl (by decide) ?_
    refine X_aload_n (tk_X8_say.at 55 rfl) rfl ?_
    refine X_aload_n (tk_X8_say.at 56 rfl) rfl ?_
    refine X_getI (tk_X8_say.at 57 rfl) fl_x8_20 hV.1 rfl ?_
    rw [VW_ne (by omega) (by omega), hkd]
    refine X_iconst (tk_X8_say.at 58 rfl) ci_1 ?_
    refine X_iload_n (tk_X8_say.at 59 rfl) rfl ?_
    refine X_iload (tk_X8_say.at 60 rfl) rfl ?_
    refine X_cV4i (lv2 := [(0, _), (1, _), (2, _), (3, _), (4, _)]) (tk_X8_say.at 61 rfl) mv_X8_say lk_x8_39 np_X8_say hV.1 (by decide) rfl (Nat.le_of_ble_eq_true rfl) (Nat.le_of_ble_eq_true rfl) rfl (ih Kd 1 x (bg s 13) (e + 1) _ _ hK7 (by decide) hs1 (trm_3 en ht).1 (by omega) (by omega) ?_)
    refine X_aload_n (tk_X8_say.at 62 rfl) rfl ?_
    refine X_aload_n (tk_X8_say.at 63 rfl) rfl ?_
    refine X_getI (tk_X8_say.at 64 rfl) fl_x8_20 hV.1 rfl ?_
    rw [VW_ne (by omega) (by omega), hkd]
    refine X_iconst (tk_X8_say.at 65 rfl) ci_2 ?_
    refine X_iload_n (tk_X8_say.at 66 rfl) rfl ?_
    refine X_iload (tk_X8_say.at 67 rfl) rfl ?_
    refine X_cV4i (lv2 := [(0, _), (1, _), (2, _), (3, _), (4, _)]) (tk_X8_say.at 68 rfl) mv_X8_say lk_x8_39 np_X8_say hV.1 (by decide) rfl (Nat.le_of_ble_eq_true rfl) (Nat.le_of_ble_eq_true rfl) rfl (ih Kd 2 x (vo Kd sp kn f Kd 1 x (bg s 13)).2 (e + 1) _ _ hK7 (by decide) (vo_le f _ _ _ _ hs1) (trm_3 en ht).2 (by omega) (by omega) ?_)
    refine X_ixor (tk_X8_say.at 69 rfl) ?_
    refine X_ireturn (tk_X8_say.at 70 rfl) rfl rfl ?_
    rw [vo_3 en] at hK
    exact hK
  · have eb : bear k a = 1 := by omega
    have ea : a = 1 := by omega
    rw [show nI (bdy (4 * bear k a + a)) = 20 from by rw [en]; rfl]
    refine X_istore (lv' := [(0, _), (1, _), (2, _), (3, _), (4, _), (5, _), (6, _)]) (tk_X8_say.at 12 rfl) (by decide) rfl rfl ?_
    refine X_iload (tk_X8_say.at 13 rfl) rfl ?_
    refine X_if_ltN (tgt := 47) (tk_X8_say.at 14 rfl) (by decide) (pl (bear k a) rfl) (by omega) ?_
    refine X_iload (tk_X8_say.at 15 rfl) rfl ?_
    refine X_getsN (j := 6) (tk_X8_say.at 16 rfl) (by decide) gn_x8_46 ?_
    refine X_alenC (tk_X8_say.at 17 rfl) hst2.s6 ?_
    refine X_icmp_geN (tgt := 47) (tk_X8_say.at 18 rfl) (by decide) (pl (bear k a) rfl) rfl (by omega) (by omega) (fun c52 => (by exfalso; omega)) (fun c52 => ?_)
    refine X_getsN (j := 6) (tk_X8_say.at 19 rfl) (by decide) gn_x8_46 ?_
    refine X_iload (tk_X8_say.at 20 rfl) rfl ?_
    refine X_ialdCN (k := (bear k a)) (tk_X8_say.at 21 rfl) hst2.s6 (pz (pl (bear k a) rfl) (by omega)) (by omega) (by decide) ?_
    rw [hst2.v6 hbb.1, show abv (bear k a) = 0 from by rw [eb]; rfl]
    refine X_goto (tgt := 48) (tk_X8_say.at 22 rfl) (by decide) ?_
    refine X_istore (lv' := [(0, _), (1, _), (2, _), (3, _), (4, _), (5, _), (6, _), (7, _)]) (tk_X8_say.at 24 rfl) (by decide) rfl rfl ?_
    refine X_iload (tk_X8_say.at 25 rfl) rfl ?_
    refine X_iconst (tk_X8_say.at 26 rfl) ci_1 ?_
    refine X_iadd (tk_X8_say.at 27 rfl) ?_
    rw [nI_1 e]
    refine X_istore (lv' := [(0, _), (1, _), (2, _), (3, _), (4, _), (5, _), (6, _), (7, _), (8, _)]) (tk_X8_say.at 28 rfl) (by decide) rfl rfl ?_
    refine X_aload_n (tk_X8_say.at 29 rfl) rfl ?_
    refine X_getR (tk_X8_say.at 30 rfl) fl_x8_14 hV.1 rfl rfl ?_
    refine X_iload (tk_X8_say.at 31 rfl) rfl ?_
    have hs1 := bg_le (b := 20) hs
    refine X_cV1v (lv2 := [(0, _), (1, _)]) (tk_X8_say.at 32 rfl) mv_X6_add lk_x8_56 np_X6_add hV.2.1 (by decide) rfl (Nat.le_of_ble_eq_true rfl) (Nat.le_of_ble_eq_true rfl) rfl (va_add hV hs ?_)
    refine X_iload (tk_X8_say.at 33 rfl) rfl ?_
    refine X_lookupN (n := 20) (tgt := 227) (tk_X8_say.at 34 rfl) rfl (by decide) (by decide) rfl (by decide) ?_
    refine X_aload_n (tk_X8_say.at 71 rfl) rfl ?_
    refine X_iload (tk_X8_say.at 72 rfl) rfl ?_
    refine X_iconst (tk_X8_say.at 73 rfl) ci_1 ?_
    refine X_iload_n (tk_X8_say.at 74 rfl) rfl ?_
    refine X_iload (tk_X8_say.at 75 rfl) rfl ?_
    refine X_cV4i (lv2 := [(0, _), (1, _), (2, _), (3, _), (4, _)]) (tk_X8_say.at 76 rfl) mv_X8_say lk_x8_39 np_X8_say hV.1 (by decide) rfl (Nat.le_of_ble_eq_true rfl) (Nat.le_of_ble_eq_true rfl) rfl (ih 0 1 x (bg s 20) (e + 1) _ _ (by decide) (by decide) hs1 (trm_5 en ht).1 (by omega) (by omega) ?_)
    refine X_aload_n (tk_X8_say.at 77 rfl) rfl ?_
    refine X_aload_n (tk_X8_say.at 78 rfl) rfl ?_
    refine X_getI (tk_X8_say.at 79 rfl) fl_x8_20 hV.1 rfl ?_
    rw [VW_ne (by omega) (by omega), hkd]
    refine X_iconst (tk_X8_say.at 80 rfl) ci_2 ?_
    refine X_iconst (tk_X8_say.at 81 rfl) ci_1 ?_
    refine X_iload (tk_X8_say.at 82 rfl) rfl ?_
    refine X_cV4i (lv2 := [(0, _), (1, _), (2, _), (3, _), (4, _)]) (tk_X8_say.at 83 rfl) mv_X8_say lk_x8_39 np_X8_say hV.1 (by decide) rfl (Nat.le_of_ble_eq_true rfl) (Nat.le_of_ble_eq_true rfl) rfl (ih Kd 2 1 (vo Kd sp kn f 0 1 x (bg s 20)).2 (e + 1) _ _ hK7 (by decide) (vo_le f _ _ _ _ hs1) (trm_5 en ht).2 (by omega) (by omega) ?_)
    refine X_isub (tk_X8_say.at 84 rfl) ?_
    refine X_ireturn (tk_X8_say.at 85 rfl) rfl rfl ?_
    rw [vo_5 en] at hK
    exact hK
  · have eb : bear k a = 2 := by omega
    have ea : a = 0 := by omega
    rw [show nI (bdy (4 * bear k a + a)) = 30 from by rw [en]; rfl]
    refine X_istore (lv' := [(0, _), (1, _), (2, _), (3, _), (4, _), (5, _), (6, _)]) (tk_X8_say.at 12 rfl) (by decide) rfl rfl ?_
    refine X_iload (tk_X8_say.at 13 rfl) rfl ?_
    refine X_if_ltN (tgt := 47) (tk_X8_say.at 14 rfl) (by decide) (pl (bear k a) rfl) (by omega) ?_
    refine X_iload (tk_X8_say.at 15 rfl) rfl ?_
    refine X_getsN (j := 6) (tk_X8_say.at 16 rfl) (by decide) gn_x8_46 ?_
    refine X_alenC (tk_X8_say.at 17 rfl) hst2.s6 ?_
    refine X_icmp_geN (tgt := 47) (tk_X8_say.at 18 rfl) (by decide) (pl (bear k a) rfl) rfl (by omega) (by omega) (fun c52 => (by exfalso; omega)) (fun c52 => ?_)
    refine X_getsN (j := 6) (tk_X8_say.at 19 rfl) (by decide) gn_x8_46 ?_
    refine X_iload (tk_X8_say.at 20 rfl) rfl ?_
    refine X_ialdCN (k := (bear k a)) (tk_X8_say.at 21 rfl) hst2.s6 (pz (pl (bear k a) rfl) (by omega)) (by omega) (by decide) ?_
    rw [hst2.v6 hbb.1, show abv (bear k a) = 0 from by rw [eb]; rfl]
    refine X_goto (tgt := 48) (tk_X8_say.at 22 rfl) (by decide) ?_
    refine X_istore (lv' := [(0, _), (1, _), (2, _), (3, _), (4, _), (5, _), (6, _), (7, _)]) (tk_X8_say.at 24 rfl) (by decide) rfl rfl ?_
    refine X_iload (tk_X8_say.at 25 rfl) rfl ?_
    refine X_iconst (tk_X8_say.at 26 rfl) ci_1 ?_
    refine X_iadd (tk_X8_say.at 27 rfl) ?_
    rw [nI_1 e]
    refine X_istore (lv' := [(0, _), (1, _), (2, _), (3, _), (4, _), (5, _), (6, _), (7, _), (8, _)]) (tk_X8_say.at 28 rfl) (by decide) rfl rfl ?_
    refine X_aload_n (tk_X8_say.at 29 rfl) rfl ?_
    refine X_getR (tk_X8_say.at 30 rfl) fl_x8_14 hV.1 rfl rfl ?_
    refine X_iload (tk_X8_say.at 31 rfl) rfl ?_
    have hs1 := bg_le (b := 30) hs
    refine X_cV1v (lv2 := [(0, _), (1, _)]) (tk_X8_say.at 32 rfl) mv_X6_add lk_x8_56 np_X6_add hV.2.1 (by decide) rfl (Nat.le_of_ble_eq_true rfl) (Nat.le_of_ble_eq_true rfl) rfl (va_add hV hs ?_)
    refine X_iload (tk_X8_say.at 33 rfl) rfl ?_
    refine X_lookupN (n := 30) (tgt := 251) (tk_X8_say.at 34 rfl) rfl (by decide) (by decide) rfl (by decide) ?_
    refine X_aload_n (tk_X8_say.at 86 rfl) rfl ?_
    refine X_iload (tk_X8_say.at 87 rfl) rfl ?_
    refine X_iconst (tk_X8_say.at 88 rfl) ci_0 ?_
    refine X_iload_n (tk_X8_say.at 89 rfl) rfl ?_
    refine X_iload (tk_X8_say.at 90 rfl) rfl ?_
    refine X_cV4i (lv2 := [(0, _), (1, _), (2, _), (3, _), (4, _)]) (tk_X8_say.at 91 rfl) mv_X8_say lk_x8_39 np_X8_say hV.1 (by decide) rfl (Nat.le_of_ble_eq_true rfl) (Nat.le_of_ble_eq_true rfl) rfl (ih 0 0 x (bg s 30) (e + 1) _ _ (by decide) (by decide) hs1 (trm_8 en ht) (by omega) (by omega) ?_)
    refine X_iconst (tk_X8_say.at 92 rfl) ci_3 ?_
    refine X_imul (tk_X8_say.at 93 rfl) ?_
    refine X_ireturn (tk_X8_say.at 94 rfl) rfl rfl ?_
    rw [vo_8 en] at hK
    exact hK
  · have eb : bear k a = 3 := by omega
    have ea : a = 0 := by omega
    rw [show nI (bdy (4 * bear k a + a)) = 41 from by rw [en]; rfl]
    refine X_istore (lv' := [(0, _), (1, _), (2, _), (3, _), (4, _), (5, _), (6, _)]) (tk_X8_say.at 12 rfl) (by decide) rfl rfl ?_
    refine X_iload (tk_X8_say.at 13 rfl) rfl ?_
    refine X_if_ltN (tgt := 47) (tk_X8_say.at 14 rfl) (by decide) (pl (bear k a) rfl) (by omega) ?_
    refine X_iload (tk_X8_say.at 15 rfl) rfl ?_
    refine X_getsN (j := 6) (tk_X8_say.at 16 rfl) (by decide) gn_x8_46 ?_
    refine X_alenC (tk_X8_say.at 17 rfl) hst2.s6 ?_
    refine X_icmp_geN (tgt := 47) (tk_X8_say.at 18 rfl) (by decide) (pl (bear k a) rfl) rfl (by omega) (by omega) (fun c52 => (by exfalso; omega)) (fun c52 => ?_)
    refine X_getsN (j := 6) (tk_X8_say.at 19 rfl) (by decide) gn_x8_46 ?_
    refine X_iload (tk_X8_say.at 20 rfl) rfl ?_
    refine X_ialdCN (k := (bear k a)) (tk_X8_say.at 21 rfl) hst2.s6 (pz (pl (bear k a) rfl) (by omega)) (by omega) (by decide) ?_
    rw [hst2.v6 hbb.1, show abv (bear k a) = 2 from by rw [eb]; rfl]
    refine X_goto (tgt := 48) (tk_X8_say.at 22 rfl) (by decide) ?_
    refine X_istore (lv' := [(0, _), (1, _), (2, _), (3, _), (4, _), (5, _), (6, _), (7, _)]) (tk_X8_say.at 24 rfl) (by decide) rfl rfl ?_
    refine X_iload (tk_X8_say.at 25 rfl) rfl ?_
    refine X_iconst (tk_X8_say.at 26 rfl) ci_1 ?_
    refine X_iadd (tk_X8_say.at 27 rfl) ?_
    rw [nI_1 e]
    refine X_istore (lv' := [(0, _), (1, _), (2, _), (3, _), (4, _), (5, _), (6, _), (7, _), (8, _)]) (tk_X8_say.at 28 rfl) (by decide) rfl rfl ?_
    refine X_aload_n (tk_X8_say.at 29 rfl) rfl ?_
    refine X_getR (tk_X8_say.at 30 rfl) fl_x8_14 hV.1 rfl rfl ?_
    refine X_iload (tk_X8_say.at 31 rfl) rfl ?_
    have hs1 := bg_le (b := 41) hs
    refine X_cV1v (lv2 := [(0, _), (1, _)]) (tk_X8_say.at 32 rfl) mv_X6_add lk_x8_56 np_X6_add hV.2.1 (by decide) rfl (Nat.le_of_ble_eq_true rfl) (Nat.le_of_ble_eq_true rfl) rfl (va_add hV hs ?_)
    refine X_iload (tk_X8_say.at 33 rfl) rfl ?_
    refine X_lookupN (n := 41) (tgt := 276) (tk_X8_say.at 34 rfl) rfl (by decide) (by decide) rfl (by decide) ?_
    refine X_aload_n (tk_X8_say.at 103 rfl) rfl ?_
    refine X_iload (tk_X8_say.at 104 rfl) rfl ?_
    refine X_iconst (tk_X8_say.at 105 rfl) ci_0 ?_
    refine X_iload_n (tk_X8_say.at 106 rfl) rfl ?_
    refine X_iconst (tk_X8_say.at 107 rfl) ci_1 ?_
    refine X_iadd (tk_X8_say.at 108 rfl) ?_
    refine X_iload (tk_X8_say.at 109 rfl) rfl ?_
    refine X_cV4i (lv2 := [(0, _), (1, _), (2, _), (3, _), (4, _)]) (tk_X8_say.at 110 rfl) mv_X8_say lk_x8_39 np_X8_say hV.1 (by decide) rfl (Nat.le_of_ble_eq_true rfl) (Nat.le_of_ble_eq_true rfl) rfl (ih 2 0 (x + 1) (bg s 41) (e + 1) _ _ (by decide) (by decide) hs1 (trm_12 en ht) (by omega) (by omega) ?_)
    refine X_ireturn (tk_X8_say.at 111 rfl) rfl rfl ?_
    rw [vo_12 en] at hK
    exact hK
  · have eb : bear k a = 3 := by omega
    have ea : a = 2 := by omega
    rw [show nI (bdy (4 * bear k a + a)) = 40 from by rw [en]; rfl]
    refine X_istore (lv' := [(0, _), (1, _), (2, _), (3, _), (4, _), (5, _), (6, _)]) (tk_X8_say.at 12 rfl) (by decide) rfl rfl ?_
    refine X_iload (tk_X8_say.at 13 rfl) rfl ?_
    refine X_if_ltN (tgt := 47) (tk_X8_say.at 14 rfl) (by decide) (pl (bear k a) rfl) (by omega) ?_
    refine X_iload (tk_X8_say.at 15 rfl) rfl ?_
    refine X_getsN (j := 6) (tk_X8_say.at 16 rfl) (by decide) gn_x8_46 ?_
    refine X_alenC (tk_X8_say.at 17 rfl) hst2.s6 ?_
    refine X_icmp_geN (tgt := 47) (tk_X8_say.at 18 rfl) (by decide) (pl (bear k a) rfl) rfl (by omega) (by omega) (fun c52 => (by exfalso; omega)) (fun c52 => ?_)
    refine X_getsN (j := 6) (tk_X8_say.at 19 rfl) (by decide) gn_x8_46 ?_
    refine X_iload (tk_X8_say.at 20 rfl) rfl ?_
    refine X_ialdCN (k := (bear k a)) (tk_X8_say.at 21 rfl) hst2.s6 (pz (pl (bear k a) rfl) (by omega)) (by omega) (by decide) ?_
    rw [hst2.v6 hbb.1, show abv (bear k a) = 2 from by rw [eb]; rfl]
    refine X_goto (tgt := 48) (tk_X8_say.at 22 rfl) (by decide) ?_
    refine X_istore (lv' := [(0, _), (1, _), (2, _), (3, _), (4, _), (5, _), (6, _), (7, _)]) (tk_X8_say.at 24 rfl) (by decide) rfl rfl ?_
    refine X_iload (tk_X8_say.at 25 rfl) rfl ?_
    refine X_iconst (tk_X8_say.at 26 rfl) ci_1 ?_
    refine X_iadd (tk_X8_say.at 27 rfl) ?_
    rw [nI_1 e]
    refine X_istore (lv' := [(0, _), (1, _), (2, _), (3, _), (4, _), (5, _), (6, _), (7, _), (8, _)]) (tk_X8_say.at 28 rfl) (by decide) rfl rfl ?_
    refine X_aload_n (tk_X8_say.at 29 rfl) rfl ?_
    refine X_getR (tk_X8_say.at 30 rfl) fl_x8_14 hV.1 rfl rfl ?_
    refine X_iload (tk_X8_say.at 31 rfl) rfl ?_
    have hs1 := bg_le (b := 40) hs
    refine X_cV1v (lv2 := [(0, _), (1, _)]) (tk_X8_say.at 32 rfl) mv_X6_add lk_x8_56 np_X6_add hV.2.1 (by decide) rfl (Nat.le_of_ble_eq_true rfl) (Nat.le_of_ble_eq_true rfl) rfl (va_add hV hs ?_)
    refine X_iload (tk_X8_say.at 33 rfl) rfl ?_
    refine X_lookupN (n := 40) (tgt := 264) (tk_X8_say.at 34 rfl) rfl (by decide) (by decide) rfl (by decide) ?_
    refine X_aload_n (tk_X8_say.at 95 rfl) rfl ?_
    refine X_iload (tk_X8_say.at 96 rfl) rfl ?_
    refine X_iconst (tk_X8_say.at 97 rfl) ci_2 ?_
    refine X_iload_n (tk_X8_say.at 98 rfl) rfl ?_
    refine X_iload (tk_X8_say.at 99 rfl) rfl ?_
    refine X_cV4i (lv2 := [(0, _), (1, _), (2, _), (3, _), (4, _)]) (tk_X8_say.at 100 rfl) mv_X8_say lk_x8_39 np_X8_say hV.1 (by decide) rfl (Nat.le_of_ble_eq_true rfl) (Nat.le_of_ble_eq_true rfl) rfl (ih 2 2 x (bg s 40) (e + 1) _ _ (by decide) (by decide) hs1 (trm_14 en ht) (by omega) (by omega) ?_)
    refine X_ineg (tk_X8_say.at 101 rfl) ?_
    refine X_ireturn (tk_X8_say.at 102 rfl) rfl rfl ?_
    rw [vo_14 en] at hK
    exact hK
  · have eb : bear k a = 4 := by omega
    have ea : a = 3 := by omega
    rw [show nI (bdy (4 * bear k a + a)) = 50 from by rw [en]; rfl]
    refine X_istore (lv' := [(0, _), (1, _), (2, _), (3, _), (4, _), (5, _), (6, _)]) (tk_X8_say.at 12 rfl) (by decide) rfl rfl ?_
    refine X_iload (tk_X8_say.at 13 rfl) rfl ?_
    refine X_if_ltN (tgt := 47) (tk_X8_say.at 14 rfl) (by decide) (pl (bear k a) rfl) (by omega) ?_
    refine X_iload (tk_X8_say.at 15 rfl) rfl ?_
    refine X_getsN (j := 6) (tk_X8_say.at 16 rfl) (by decide) gn_x8_46 ?_
    refine X_alenC (tk_X8_say.at 17 rfl) hst2.s6 ?_
    refine X_icmp_geN (tgt := 47) (tk_X8_say.at 18 rfl) (by decide) (pl (bear k a) rfl) rfl (by omega) (by omega) (fun c52 => (by exfalso; omega)) (fun c52 => ?_)
    refine X_getsN (j := 6) (tk_X8_say.at 19 rfl) (by decide) gn_x8_46 ?_
    refine X_iload (tk_X8_say.at 20 rfl) rfl ?_
    refine X_ialdCN (k := (bear k a)) (tk_X8_say.at 21 rfl) hst2.s6 (pz (pl (bear k a) rfl) (by omega)) (by omega) (by decide) ?_
    rw [hst2.v6 hbb.1, show abv (bear k a) = 0 from by rw [eb]; rfl]
    refine X_goto (tgt := 48) (tk_X8_say.at 22 rfl) (by decide) ?_
    refine X_istore (lv' := [(0, _), (1, _), (2, _), (3, _), (4, _), (5, _), (6, _), (7, _)]) (tk_X8_say.at 24 rfl) (by decide) rfl rfl ?_
    refine X_iload (tk_X8_say.at 25 rfl) rfl ?_
    refine X_iconst (tk_X8_say.at 26 rfl) ci_1 ?_
    refine X_iadd (tk_X8_say.at 27 rfl) ?_
    rw [nI_1 e]
    refine X_istore (lv' := [(0, _), (1, _), (2, _), (3, _), (4, _), (5, _), (6, _), (7, _), (8, _)]) (tk_X8_say.at 28 rfl) (by decide) rfl rfl ?_
    refine X_aload_n (tk_X8_say.at 29 rfl) rfl ?_
    refine X_getR (tk_X8_say.at 30 rfl) fl_x8_14 hV.1 rfl rfl ?_
    refine X_iload (tk_X8_say.at 31 rfl) rfl ?_
    have hs1 := bg_le (b := 50) hs
    refine X_cV1v (lv2 := [(0, _), (1, _)]) (tk_X8_say.at 32 rfl) mv_X6_add lk_x8_56 np_X6_add hV.2.1 (by decide) rfl (Nat.le_of_ble_eq_true rfl) (Nat.le_of_ble_eq_true rfl) rfl (va_add hV hs ?_)
    refine X_iload (tk_X8_say.at 33 rfl) rfl ?_
    refine X_lookupN (n := 50) (tgt := 289) (tk_X8_say.at 34 rfl) rfl (by decide) (by decide) rfl (by decide) ?_
    refine X_aload_n (tk_X8_say.at 112 rfl) rfl ?_
    refine X_iload (tk_X8_say.at 113 rfl) rfl ?_
    refine X_iconst (tk_X8_say.at 114 rfl) ci_3 ?_
    refine X_iload_n (tk_X8_say.at 115 rfl) rfl ?_
    refine X_iload (tk_X8_say.at 116 rfl) rfl ?_
    refine X_cV4i (lv2 := [(0, _), (1, _), (2, _), (3, _), (4, _)]) (tk_X8_say.at 117 rfl) mv_X8_say lk_x8_39 np_X8_say hV.1 (by decide) rfl (Nat.le_of_ble_eq_true rfl) (Nat.le_of_ble_eq_true rfl) rfl (ih 0 3 x (bg s 50) (e + 1) _ _ (by decide) (by decide) hs1 (trm_19 en ht).1 (by omega) (by omega) ?_)
    refine X_aload_n (tk_X8_say.at 118 rfl) rfl ?_
    refine X_aload_n (tk_X8_say.at 119 rfl) rfl ?_
    refine X_getI (tk_X8_say.at 120 rfl) fl_x8_20 hV.1 rfl ?_
    rw [VW_ne (by omega) (by omega), hkd]
    refine X_iconst (tk_X8_say.at 121 rfl) ci_0 ?_
    refine X_iconst (tk_X8_say.at 122 rfl) ci_2 ?_
    refine X_iload (tk_X8_say.at 123 rfl) rfl ?_
    refine X_cV4i (lv2 := [(0, _), (1, _), (2, _), (3, _), (4, _)]) (tk_X8_say.at 124 rfl) mv_X8_say lk_x8_39 np_X8_say hV.1 (by decide) rfl (Nat.le_of_ble_eq_true rfl) (Nat.le_of_ble_eq_true rfl) rfl (ih Kd 0 2 (vo Kd sp kn f 0 3 x (bg s 50)).2 (e + 1) _ _ hK7 (by decide) (vo_le f _ _ _ _ hs1) (trm_19 en ht).2 (by omega) (by omega) ?_)
    refine X_isub (tk_X8_say.at 125 rfl) ?_
    refine X_ireturn (tk_X8_say.at 126 rfl) rfl rfl ?_
    rw [vo_19 en] at hK
    exact hK
  · have eb : bear k a = 5 := by omega
    have ea : a = 0 := by omega
    rw [show nI (bdy (4 * bear k a + a)) = 60 from by rw [en]; rfl]
    refine X_istore (lv' := [(0, _), (1, _), (2, _), (3, _), (4, _), (5, _), (6, _)]) (tk_X8_say.at 12 rfl) (by decide) rfl rfl ?_
    refine X_iload (tk_X8_say.at 13 rfl) rfl ?_
    refine X_if_ltN (tgt := 47) (tk_X8_say.at 14 rfl) (by decide) (pl (bear k a) rfl) (by omega) ?_
    refine X_iload (tk_X8_say.at 15 rfl) rfl ?_
    refine X_getsN (j := 6) (tk_X8_say.at 16 rfl) (by decide) gn_x8_46 ?_
    refine X_alenC (tk_X8_say.at 17 rfl) hst2.s6 ?_
    refine X_icmp_geN (tgt := 47) (tk_X8_say.at 18 rfl) (by decide) (pl (bear k a) rfl) rfl (by omega) (by omega) (fun c52 => (by exfalso; omega)) (fun c52 => ?_)
    refine X_getsN (j := 6) (tk_X8_say.at 19 rfl) (by decide) gn_x8_46 ?_
    refine X_iload (tk_X8_say.at 20 rfl) rfl ?_
    refine X_ialdCN (k := (bear k a)) (tk_X8_say.at 21 rfl) hst2.s6 (pz (pl (bear k a) rfl) (by omega)) (by omega) (by decide) ?_
    rw [hst2.v6 hbb.1, show abv (bear k a) = 4 from by rw [eb]; rfl]
    refine X_goto (tgt := 48) (tk_X8_say.at 22 rfl) (by decide) ?_
    refine X_istore (lv' := [(0, _), (1, _), (2, _), (3, _), (4, _), (5, _), (6, _), (7, _)]) (tk_X8_say.at 24 rfl) (by decide) rfl rfl ?_
    refine X_iload (tk_X8_say.at 25 rfl) rfl ?_
    refine X_iconst (tk_X8_say.at 26 rfl) ci_1 ?_
    refine X_iadd (tk_X8_say.at 27 rfl) ?_
    rw [nI_1 e]
    refine X_istore (lv' := [(0, _), (1, _), (2, _), (3, _), (4, _), (5, _), (6, _), (7, _), (8, _)]) (tk_X8_say.at 28 rfl) (by decide) rfl rfl ?_
    refine X_aload_n (tk_X8_say.at 29 rfl) rfl ?_
    refine X_getR (tk_X8_say.at 30 rfl) fl_x8_14 hV.1 rfl rfl ?_
    refine X_iload (tk_X8_say.at 31 rfl) rfl ?_
    have hs1 := bg_le (b := 60) hs
    refine X_cV1v (lv2 := [(0, _), (1, _)]) (tk_X8_say.at 32 rfl) mv_X6_add lk_x8_56 np_X6_add hV.2.1 (by decide) rfl (Nat.le_of_ble_eq_true rfl) (Nat.le_of_ble_eq_true rfl) rfl (va_add hV hs ?_)
    refine X_iload (tk_X8_say.at 33 rfl) rfl ?_
    refine X_lookupN (n := 60) (tgt := 313) (tk_X8_say.at 34 rfl) rfl (by decide) (by decide) rfl (by decide) ?_
    refine X_aload_n (tk_X8_say.at 127 rfl) rfl ?_
    refine X_iload (tk_X8_say.at 128 rfl) rfl ?_
    refine X_iconst (tk_X8_say.at 129 rfl) ci_0 ?_
    refine X_iload_n (tk_X8_say.at 130 rfl) rfl ?_
    refine X_iload (tk_X8_say.at 131 rfl) rfl ?_
    refine X_cV4i (lv2 := [(0, _), (1, _), (2, _), (3, _), (4, _)]) (tk_X8_say.at 132 rfl) mv_X8_say lk_x8_39 np_X8_say hV.1 (by decide) rfl (Nat.le_of_ble_eq_true rfl) (Nat.le_of_ble_eq_true rfl) rfl (ih 4 0 x (bg s 60) (e + 1) _ _ (by decide) (by decide) hs1 (trm_20 en ht) (by omega) (by omega) ?_)
    refine X_aload_n (tk_X8_say.at 133 rfl) rfl ?_
    refine X_getI (tk_X8_say.at 134 rfl) fl_x8_24 hV.1 rfl ?_
    rw [VW_ne (by omega) (by omega), hsp]
    refine X_ixor (tk_X8_say.at 135 rfl) ?_
    refine X_ireturn (tk_X8_say.at 136 rfl) rfl rfl ?_
    rw [vo_20 en] at hK
    exact hK
  · have eb : bear k a = 5 := by omega
    have ea : a = 3 := by omega
    rw [show nI (bdy (4 * bear k a + a)) = 61 from by rw [en]; rfl]
    refine X_istore (lv' := [(0, _), (1, _), (2, _), (3, _), (4, _), (5, _), (6, _)]) (tk_X8_say.at 12 rfl) (by decide) rfl rfl ?_
    refine X_iload (tk_X8_say.at 13 rfl) rfl ?_
    refine X_if_ltN (tgt := 47) (tk_X8_say.at 14 rfl) (by decide) (pl (bear k a) rfl) (by omega) ?_
    refine X_iload (tk_X8_say.at 15 rfl) rfl ?_
    refine X_getsN (j := 6) (tk_X8_say.at 16 rfl) (by decide) gn_x8_46 ?_
    refine X_alenC (tk_X8_say.at 17 rfl) hst2.s6 ?_
    refine X_icmp_geN (tgt := 47) (tk_X8_say.at 18 rfl) (by decide) (pl (bear k a) rfl) rfl (by omega) (by omega) (fun c52 => (by exfalso; omega)) (fun c52 => ?_)
    refine X_getsN (j := 6) (tk_X8_say.at 19 rfl) (by decide) gn_x8_46 ?_
    refine X_iload (tk_X8_say.at 20 rfl) rfl ?_
    refine X_ialdCN (k := (bear k a)) (tk_X8_say.at 21 rfl) hst2.s6 (pz (pl (bear k a) rfl) (by omega)) (by omega) (by decide) ?_
    rw [hst2.v6 hbb.1, show abv (bear k a) = 4 from by rw [eb]; rfl]
    refine X_goto (tgt := 48) (tk_X8_say.at 22 rfl) (by decide) ?_
    refine X_istore (lv' := [(0, _), (1, _), (2, _), (3, _), (4, _), (5, _), (6, _), (7, _)]) (tk_X8_say.at 24 rfl) (by decide) rfl rfl ?_
    refine X_iload (tk_X8_say.at 25 rfl) rfl ?_
    refine X_iconst (tk_X8_say.at 26 rfl) ci_1 ?_
    refine X_iadd (tk_X8_say.at 27 rfl) ?_
    rw [nI_1 e]
    refine X_istore (lv' := [(0, _), (1, _), (2, _), (3, _), (4, _), (5, _), (6, _), (7, _), (8, _)]) (tk_X8_say.at 28 rfl) (by decide) rfl rfl ?_
    refine X_aload_n (tk_X8_say.at 29 rfl) rfl ?_
    refine X_getR (tk_X8_say.at 30 rfl) fl_x8_14 hV.1 rfl rfl ?_
    refine X_iload (tk_X8_say.at 31 rfl) rfl ?_
    have hs1 := bg_le (b := 61) hs
    refine X_cV1v (lv2 := [(0, _), (1, _)]) (tk_X8_say.at 32 rfl) mv_X6_add lk_x8_56 np_X6_add hV.2.1 (by decide) rfl (Nat.le_of_ble_eq_true rfl) (Nat.le_of_ble_eq_true rfl) rfl (va_add hV hs ?_)
    refine X_iload (tk_X8_say.at 33 rfl) rfl ?_
    refine X_lookupN (n := 61) (tgt := 329) (tk_X8_say.at 34 rfl) rfl (by decide) (by decide) rfl (by decide) ?_
    refine X_aload_n (tk_X8_say.at 137 rfl) rfl ?_
    refine X_iload (tk_X8_say.at 138 rfl) rfl ?_
    refine X_iconst (tk_X8_say.at 139 rfl) ci_3 ?_
    refine X_iload_n (tk_X8_say.at 140 rfl) rfl ?_
    refine X_iload (tk_X8_say.at 141 rfl) rfl ?_
    refine X_cV4i (lv2 := [(0, _), (1, _), (2, _), (3, _), (4, _)]) (tk_X8_say.at 142 rfl) mv_X8_say lk_x8_39 np_X8_say hV.1 (by decide) rfl (Nat.le_of_ble_eq_true rfl) (Nat.le_of_ble_eq_true rfl) rfl (ih 4 3 x (bg s 61) (e + 1) _ _ (by decide) (by decide) hs1 (trm_23 en ht) (by omega) (by omega) ?_)
    refine X_iconst (tk_X8_say.at 143 rfl) ci_5 ?_
    refine X_imul (tk_X8_say.at 144 rfl) ?_
    refine X_ireturn (tk_X8_say.at 145 rfl) rfl rfl ?_
    rw [vo_23 en] at hK
    exact hK
  · have eb : bear k a = 6 := by omega
    have ea : a = 1 := by omega
    rw [show nI (bdy (4 * bear k a + a)) = 70 from by rw [en]; rfl]
    refine X_istore (lv' := [(0, _), (1, _), (2, _), (3, _), (4, _), (5, _), (6, _)]) (tk_X8_say.at 12 rfl) (by decide) rfl rfl ?_
    refine X_iload (tk_X8_say.at 13 rfl) rfl ?_
    refine X_if_ltN (tgt := 47) (tk_X8_say.at 14 rfl) (by decide) (pl (bear k a) rfl) (by omega) ?_
    refine X_iload (tk_X8_say.at 15 rfl) rfl ?_
    refine X_getsN (j := 6) (tk_X8_say.at 16 rfl) (by decide) gn_x8_46 ?_
    refine X_alenC (tk_X8_say.at 17 rfl) hst2.s6 ?_
    refine X_icmp_geN (tgt := 47) (tk_X8_say.at 18 rfl) (by decide) (pl (bear k a) rfl) rfl (by omega) (by omega) (fun c52 => (by exfalso; omega)) (fun c52 => ?_)
    refine X_getsN (j := 6) (tk_X8_say.at 19 rfl) (by decide) gn_x8_46 ?_
    refine X_iload (tk_X8_say.at 20 rfl) rfl ?_
    refine X_ialdCN (k := (bear k a)) (tk_X8_say.at 21 rfl) hst2.s6 (pz (pl (bear k a) rfl) (by omega)) (by omega) (by decide) ?_
    rw [hst2.v6 hbb.1, show abv (bear k a) = 0 from by rw [eb]; rfl]
    refine X_goto (tgt := 48) (tk_X8_say.at 22 rfl) (by decide) ?_
    refine X_istore (lv' := [(0, _), (1, _), (2, _), (3, _), (4, _), (5, _), (6, _), (7, _)]) (tk_X8_say.at 24 rfl) (by decide) rfl rfl ?_
    refine X_iload (tk_X8_say.at 25 rfl) rfl ?_
    refine X_iconst (tk_X8_say.at 26 rfl) ci_1 ?_
    refine X_iadd (tk_X8_say.at 27 rfl) ?_
    rw [nI_1 e]
    refine X_istore (lv' := [(0, _), (1, _), (2, _), (3, _), (4, _), (5, _), (6, _), (7, _), (8, _)]) (tk_X8_say.at 28 rfl) (by decide) rfl rfl ?_
    refine X_aload_n (tk_X8_say.at 29 rfl) rfl ?_
    refine X_getR (tk_X8_say.at 30 rfl) fl_x8_14 hV.1 rfl rfl ?_
    refine X_iload (tk_X8_say.at 31 rfl) rfl ?_
    have hs1 := bg_le (b := 70) hs
    refine X_cV1v (lv2 := [(0, _), (1, _)]) (tk_X8_say.at 32 rfl) mv_X6_add lk_x8_56 np_X6_add hV.2.1 (by decide) rfl (Nat.le_of_ble_eq_true rfl) (Nat.le_of_ble_eq_true rfl) rfl (va_add hV hs ?_)
    refine X_iload (tk_X8_say.at 33 rfl) rfl ?_
    refine X_lookupN (n := 70) (tgt := 358) (tk_X8_say.at 34 rfl) rfl (by decide) (by decide) rfl (by decide) ?_
    refine X_iconst (tk_X8_say.at 156 rfl) ci_0 ?_
    refine X_ireturn (tk_X8_say.at 157 rfl) rfl rfl ?_
    rw [vo_25 en] at hK
    exact hK
  · have eb : bear k a = 6 := by omega
    have ea : a = 2 := by omega
    rw [show nI (bdy (4 * bear k a + a)) = 71 from by rw [en]; rfl]
    refine X_istore (lv' := [(0, _), (1, _), (2, _), (3, _), (4, _), (5, _), (6, _)]) (tk_X8_say.at 12 rfl) (by decide) rfl rfl ?_
    refine X_iload (tk_X8_say.at 13 rfl) rfl ?_
    refine X_if_ltN (tgt := 47) (tk_X8_say.at 14 rfl) (by decide) (pl (bear k a) rfl) (by omega) ?_
    refine X_iload (tk_X8_say.at 15 rfl) rfl ?_
    refine X_getsN (j := 6) (tk_X8_say.at 16 rfl) (by decide) gn_x8_46 ?_
    refine X_alenC (tk_X8_say.at 17 rfl) hst2.s6 ?_
    refine X_icmp_geN (tgt := 47) (tk_X8_say.at 18 rfl) (by decide) (pl (bear k a) rfl) rfl (by omega) (by omega) (fun c52 => (by exfalso; omega)) (fun c52 => ?_)
    refine X_getsN (j := 6) (tk_X8_say.at 19 rfl) (by decide) gn_x8_46 ?_
    refine X_iload (tk_X8_say.at 20 rfl) rfl ?_
    refine X_ialdCN (k := (bear k a)) (tk_X8_say.at 21 rfl) hst2.s6 (pz (pl (bear k a) rfl) (by omega)) (by omega) (by decide) ?_
    rw [hst2.v6 hbb.1, show abv (bear k a) = 0 from by rw [eb]; rfl]
    refine X_goto (tgt := 48) (tk_X8_say.at 22 rfl) (by decide) ?_
    refine X_istore (lv' := [(0, _), (1, _), (2, _), (3, _), (4, _), (5, _), (6, _), (7, _)]) (tk_X8_say.at 24 rfl) (by decide) rfl rfl ?_
    refine X_iload (tk_X8_say.at 25 rfl) rfl ?_
    refine X_iconst (tk_X8_say.at 26 rfl) ci_1 ?_
    refine X_iadd (tk_X8_say.at 27 rfl) ?_
    rw [nI_1 e]
    refine X_istore (lv' := [(0, _), (1, _), (2, _), (3, _), (4, _), (5, _), (6, _), (7, _), (8, _)]) (tk_X8_say.at 28 rfl) (by decide) rfl rfl ?_
    refine X_aload_n (tk_X8_say.at 29 rfl) rfl ?_
    refine X_getR (tk_X8_say.at 30 rfl) fl_x8_14 hV.1 rfl rfl ?_
    refine X_iload (tk_X8_say.at 31 rfl) rfl ?_
    have hs1 := bg_le (b := 71) hs
    refine X_cV1v (lv2 := [(0, _), (1, _)]) (tk_X8_say.at 32 rfl) mv_X6_add lk_x8_56 np_X6_add hV.2.1 (by decide) rfl (Nat.le_of_ble_eq_true rfl) (Nat.le_of_ble_eq_true rfl) rfl (va_add hV hs ?_)
    refine X_iload (tk_X8_say.at 33 rfl) rfl ?_
    refine X_lookupN (n := 71) (tgt := 342) (tk_X8_say.at 34 rfl) rfl (by decide) (by decide) rfl (by decide) ?_
    refine X_aload_n (tk_X8_say.at 146 rfl) rfl ?_
    refine X_iload (tk_X8_say.at 147 rfl) rfl ?_
    refine X_iconst (tk_X8_say.at 148 rfl) ci_2 ?_
    refine X_iload_n (tk_X8_say.at 149 rfl) rfl ?_
    refine X_iload (tk_X8_say.at 150 rfl) rfl ?_
    refine X_cV4i (lv2 := [(0, _), (1, _), (2, _), (3, _), (4, _)]) (tk_X8_say.at 151 rfl) mv_X8_say lk_x8_39 np_X8_say hV.1 (by decide) rfl (Nat.le_of_ble_eq_true rfl) (Nat.le_of_ble_eq_true rfl) rfl (ih 0 2 x (bg s 71) (e + 1) _ _ (by decide) (by decide) hs1 (trm_26 en ht) (by omega) (by omega) ?_)
    refine X_aload_n (tk_X8_say.at 152 rfl) rfl ?_
    refine X_getI (tk_X8_say.at 153 rfl) fl_x8_24 hV.1 rfl ?_
    rw [VW_ne (by omega) (by omega), hsp]
    refine X_iadd (tk_X8_say.at 154 rfl) ?_
    refine X_ireturn (tk_X8_say.at 155 rfl) rfl rfl ?_
    rw [vo_26 en] at hK
    exact hK
theorem vy_all {G : Gl} {S : Sh} {μ : Mu} {V Kd : Nat} {sp kn : Int32} (hV : VS S V) (hst : Sta G S μ) (hout : ∀ j, j < 8 → G.2.2.2 j ≠ V + 1 ∧ G.2.2.2 j ≠ V + 2) (hkd : μ V 1 = nI Kd) (hsp : μ V 2 = sp) (hkn : μ V 3 = kn) (hK7 : Kd < 7) : ∀ f, VY G S μ V Kd sp kn f
  | 0 => fun k a x s e D K _ _ _ ht => by cases ht
  | f + 1 => fun k a x s e D K hk ha hs ht he hD hK => c8_sayS hV hst hout hkd hsp hkn hK7 (vy_all hV hst hout hkd hsp hkn hK7 f) k a x s e D K hk ha hs ht he hD hK
