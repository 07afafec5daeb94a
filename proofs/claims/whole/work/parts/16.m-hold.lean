section
variable {G : Gl} {mi : MI} {d kc pc nx : Nat} {lv lv' : List (Nat × Value)} {rest : List Value} {S : Sh} {μ : Mu} {Q : Option Value → Sh → Mu → Prop}
theorem X_tableInN {dflt lo hi : Int} {offs : Array Int} {len n : Nat} {x : Int32} {off : Int} {tgt : Nat} (hd : Dc mi.2.1 pc (.tableswitch dflt lo hi offs) len nx) (hx : x = nI n) (hn : n < 2 ^ 31) (h1 : ¬ (n : Int) < lo) (h2 : ¬ hi < (n : Int)) (ho : offs[((n : Int) - lo).toNat]? = some off) (ht : (pc : Int) + off = (tgt : Int)) (k : X G mi d kc tgt lv rest S μ Q) : X G mi d kc pc lv (.int x :: rest) S μ Q := by
  have e : x.toInt = (n : Int) := by rw [hx]; exact nI_toInt hn
  exact X_tableIn hd (by rw [e]; exact h1) (by rw [e]; exact h2) (by rw [e]; exact ho) ht k
theorem X_tableOutN {dflt lo hi : Int} {offs : Array Int} {len n : Nat} {x : Int32} {tgt : Nat} (hd : Dc mi.2.1 pc (.tableswitch dflt lo hi offs) len nx) (hx : x = nI n) (hn : n < 2 ^ 31) (h : (n : Int) < lo ∨ hi < (n : Int)) (ht : (pc : Int) + dflt = (tgt : Int)) (k : X G mi d kc tgt lv rest S μ Q) : X G mi d kc pc lv (.int x :: rest) S μ Q := by
  have e : x.toInt = (n : Int) := by rw [hx]; exact nI_toInt hn
  exact X_tableOut hd (by rw [e]; exact h) ht k
theorem X_lookupN {dflt : Int} {ps : Array (Int × Int)} {len n : Nat} {x : Int32} {off : Int} {tgt : Nat} (hd : Dc mi.2.1 pc (.lookupswitch dflt ps) len nx) (hx : x = nI n) (hn : n < 2 ^ 31) (hp : (ps.toList.zip (ps.toList.drop 1)).all (fun (a, next) => a.1 < next.1) = true) (ho : Op.lookupswitch.offset ps.toList dflt (n : Int) = off) (ht : (pc : Int) + off = (tgt : Int)) (k : X G mi d kc tgt lv rest S μ Q) : X G mi d kc pc lv (.int x :: rest) S μ Q := by
  have e : x.toInt = (n : Int) := by rw [hx]; exact nI_toInt hn
  exact X_lookup hd hp (by rw [e]; exact ho) ht k
end
abbrev lb (L x : Int32) : Prop := (L >>> (x &&& 31)) &&& 1 = 1
/-- how many before a place aren't lost -/
def pcnt (N : Nat → Int32) (L : Int32) (r : Nat) : Nat → Nat
  | 0 => 0
  | i + 1 => pcnt N L r i + (if lb L (N (84 + 9 * r + i)) then 0 else 1)
theorem pcnt_le (N : Nat → Int32) (L : Int32) (r : Nat) : ∀ i, pcnt N L r i ≤ i
  | 0 => Nat.le_refl 0
  | i + 1 => by
    have h := pcnt_le N L r i
    unfold pcnt
    split <;> omega
theorem pcnt_mono (N : Nat → Int32) (L : Int32) (r i : Nat) : ∀ n, pcnt N L r i ≤ pcnt N L r (i + n)
  | 0 => Nat.le_refl _
  | n + 1 => by
    have h := pcnt_mono N L r i n
    have e : pcnt N L r (i + (n + 1)) = pcnt N L r (i + n) + (if lb L (N (84 + 9 * r + (i + n))) then 0 else 1) := rfl
    omega
theorem pcnt_lt {N : Nat → Int32} {L : Int32} {r i j : Nat} (h : i < j) (hi : ¬ lb L (N (84 + 9 * r + i))) : pcnt N L r i < pcnt N L r j := by
  obtain ⟨n, rfl⟩ : ∃ n, j = (i + 1) + n := ⟨j - (i + 1), by omega⟩
  have h1 := pcnt_mono N L r (i + 1) n
  have h2 : pcnt N L r (i + 1) = pcnt N L r i + 1 := by
    show pcnt N L r i + (if lb L (N (84 + 9 * r + i)) then 0 else 1) = _
    rw [if_neg hi]
  omega
abbrev lastp (N : Nat → Int32) (L : Int32) (r i : Nat) : Prop := ∀ k, k < nv (N (83 + 9 * r)) → (i < k → lb L (N (84 + 9 * r + k)))
def adf (a b : Nat) : Nat := if a ≤ b then b - a else a - b
theorem abs_nI {a b : Nat} (ha : a < 2 ^ 30) (hb : b < 2 ^ 30) : (if 0 ≤ nI a - nI b then nI a - nI b else 0 - (nI a - nI b)) = nI (adf a b) := by
  unfold adf
  by_cases h : a ≤ b
  · rw [if_pos h]
    by_cases e : a = b
    · subst e
      rw [pk_sub (Nat.le_refl a), Nat.sub_self]
      decide
    · rw [if_neg (Int32.not_le.mpr (pk_sneg hb (by omega)))]
      have e1 : nI b - nI a = nI (b - a) := pk_sub h
      rw [← e1]
      apply Int32.toBitVec_inj.mp
      simp only [Int32.toBitVec_sub]
      generalize (nI a).toBitVec = x
      generalize (nI b).toBitVec = y
      show (0 : Int32).toBitVec - (x - y) = y - x
      have e0 : (0 : Int32).toBitVec = 0#32 := by decide
      rw [e0]
      simp [BitVec.neg_sub]
      rw [BitVec.sub_eq_add_neg y x, BitVec.add_comm]
  · rw [if_neg h, pk_sub (by omega), if_pos (nI_pos' (by omega))]
def lastb (N : Nat → Int32) (L : Int32) (r i : Nat) : Bool := decide (lastp N L r i)
def gk (k pl sp kn st : Int32) (g : Prop) [Decidable g] (la : Bool) : Int32 :=
  if k = 1 then pl + 5 * sp else if k = 2 then pl + 10 * kn else if k = 3 then pl + (10 * kn - 2 * sp) else if k = 4 then pl + (if g then pl else 0) else if k = 5 then pl + (if g then pl else 0) + (if g ∧ la = true then st else 0) else if k = 6 then 0 else pl
def mx0 (x : Int32) : Int32 := if 0 < x then x else 0
def grp (N : Nat → Int32) (r p j : Nat) (la : Bool) : Int32 := mx0 (gk (N (80 + 9 * r)) (N (9 + 4 * p) / nI j) (N (81 + 9 * r)) (N (82 + 9 * r)) (N (9 + 4 * p)) (N (11 + 4 * p) = 1) la)
/-- who holds, up to a place; those lost don't -/
def hs (N : Nat → Int32) (L : Int32) (r f : Nat) : Nat → Int32
  | 0 => 0
  | i + 1 => hs N L r f i + (if i = f ∨ lb L (N (84 + 9 * r + i)) then 0 else grp N r (nv (N (84 + 9 * r + i))) (adf (pcnt N L r i) (pcnt N L r f)) (lastb N L r i))
theorem hs_s (N : Nat → Int32) (L : Int32) (r f i : Nat) : hs N L r f (i + 1) = hs N L r f i + (if i = f ∨ lb L (N (84 + 9 * r + i)) then 0 else grp N r (nv (N (84 + 9 * r + i))) (adf (pcnt N L r i) (pcnt N L r f)) (lastb N L r i)) := rfl
def pull (N : Nat → Int32) (p c : Nat) : Int32 := N (8 + 4 * p) * (10 + N (48 + 4 * c)) / 10
set_option maxHeartbeats 1000000 in
theorem c10_place {G : Gl} {d : Nat} {S : Sh} {μ : Mu} {o : Nat} {q : Nat → Nat} {r x : Int32} {rn j : Nat} {K : Int32 → Sh → Mu → Prop} (hM : MS S o q) (hr : r = nI rn) (hb : rn < 6) (hx : x = nI j) (hj : j ≤ 5) (hK : K (nI (pcnt (μ (o + 1)) (μ o 5) rn j)) S μ) : X G mi_X10_place (d + 2) 0 0 [(0, .ref o), (1, .int r), (2, .int x)] [] S μ (qi K) := by
  have loop : ∀ (n i : Nat), i + n = j → X G mi_X10_place (d + 2) 0 5 [(0, .ref o), (1, .int r), (2, .int x), (3, .int (nI (pcnt (μ (o + 1)) (μ o 5) rn i))), (4, .int (nI i))] [] S μ (qi K) := by
    intro n
    induction n with
    | zero =>
      intro i hi
      have e : i = j := by omega
      subst e
      refine X_iload (tk_X10_place.at 4 rfl) rfl ?_
      refine X_iload_n (tk_X10_place.at 5 rfl) rfl ?_
      refine X_icmp_geN (tgt := 42) (tk_X10_place.at 6 rfl) (by decide) (pl i rfl) hx (by omega) (by omega) (fun c1 => ?_) (fun c1 => (by exfalso; omega))
      refine X_iload_n (tk_X10_place.at 23 rfl) rfl ?_
      refine X_ireturn (tk_X10_place.at 24 rfl) rfl rfl ?_
      exact hK
    | succ n ih =>
      intro i hi
      have z := ih (i + 1) (by omega)
      refine X_iload (tk_X10_place.at 4 rfl) rfl ?_
      refine X_iload_n (tk_X10_place.at 5 rfl) rfl ?_
      refine X_icmp_geN (tgt := 42) (tk_X10_place.at 6 rfl) (by decide) (pl i rfl) hx (by omega) (by omega) (fun c1 => (by exfalso; omega)) (fun c1 => ?_)
      refine X_iload_n (tk_X10_place.at 7 rfl) rfl ?_
      refine X_aload_n (tk_X10_place.at 8 rfl) rfl ?_
      refine X_getI (tk_X10_place.at 9 rfl) fl_x10_146 hM.f0 rfl ?_
      refine X_aload_n (tk_X10_place.at 10 rfl) rfl ?_
      refine X_iload_n (tk_X10_place.at 11 rfl) rfl ?_
      refine X_iload (tk_X10_place.at 12 rfl) rfl ?_
      refine X_cV2i (lv2 := [(0, _), (1, _), (2, _)]) (tk_X10_place.at 13 rfl) mv_X10_who lk_x10_121 np_X10_who hM.f0 (by decide) rfl (Nat.le_of_ble_eq_true rfl) (Nat.le_of_ble_eq_true rfl) rfl (c10_who hM hr (pl i rfl) (by omega) (by omega) ?_)
      refine X_cS2i (lv2 := [(0, _), (1, _)]) (tk_X10_place.at 14 rfl) ms_X10_has lk_x10_150 np_X10_has (Nat.le_of_ble_eq_true rfl) (Nat.le_of_ble_eq_true rfl) rfl (c10_has (fun h23 => ?_) (fun h23 => ?_))
      · refine X_if_eq (tgt := 33) (tk_X10_place.at 15 rfl) (by decide) (fun h => absurd h (by decide)) (fun _ => ?_)
        refine X_iconst (tk_X10_place.at 16 rfl) ci_0 ?_
        refine X_goto (tgt := 34) (tk_X10_place.at 17 rfl) (by decide) ?_
        refine X_iadd (tk_X10_place.at 19 rfl) ?_
        refine X_istore_n (lv' := [(0, _), (1, _), (2, _), (3, _), (4, _)]) (tk_X10_place.at 20 rfl) (by decide) rfl rfl ?_
        refine X_iinc (lv' := [(0, _), (1, _), (2, _), (3, _), (4, _)]) (tk_X10_place.at 21 rfl) rfl ci_1 (by decide) rfl rfl ?_
        refine X_goto (tgt := 5) (tk_X10_place.at 22 rfl) (by decide) ?_
        have e : pcnt (μ (o + 1)) (μ o 5) rn (i + 1) = pcnt (μ (o + 1)) (μ o 5) rn i + 0 := by show _ + (if _ then 0 else 1) = _; rw [if_pos h23]
        rw [e] at z
        rw [nI_1 i]
        rw [show nI (pcnt (μ (o + 1)) (μ o 5) rn i) + 0 = nI (pcnt (μ (o + 1)) (μ o 5) rn i + 0) from nI_add _ 0]
        exact z
      · refine X_if_eq (tgt := 33) (tk_X10_place.at 15 rfl) (by decide) (fun _ => ?_) (fun h => absurd h (by decide))
        refine X_iconst (tk_X10_place.at 18 rfl) ci_1 ?_
        refine X_iadd (tk_X10_place.at 19 rfl) ?_
        refine X_istore_n (lv' := [(0, _), (1, _), (2, _), (3, _), (4, _)]) (tk_X10_place.at 20 rfl) (by decide) rfl rfl ?_
        refine X_iinc (lv' := [(0, _), (1, _), (2, _), (3, _), (4, _)]) (tk_X10_place.at 21 rfl) rfl ci_1 (by decide) rfl rfl ?_
        refine X_goto (tgt := 5) (tk_X10_place.at 22 rfl) (by decide) ?_
        have e : pcnt (μ (o + 1)) (μ o 5) rn (i + 1) = pcnt (μ (o + 1)) (μ o 5) rn i + 1 := by show _ + (if _ then 0 else 1) = _; rw [if_neg h23]
        rw [e] at z
        rw [nI_1 i, nI_1]
        exact z
  refine X_iconst (tk_X10_place.at 0 rfl) ci_0 ?_
  refine X_istore_n (lv' := [(0, _), (1, _), (2, _), (3, _)]) (tk_X10_place.at 1 rfl) (by decide) rfl rfl ?_
  refine X_iconst (tk_X10_place.at 2 rfl) ci_0 ?_
  refine X_istore (lv' := [(0, _), (1, _), (2, _), (3, _), (4, _)]) (tk_X10_place.at 3 rfl) (by decide) rfl rfl ?_
  exact loop j 0 (Nat.zero_add j)
set_option maxHeartbeats 1000000 in
theorem c10_isLast {G : Gl} {d : Nat} {S : Sh} {μ : Mu} {o : Nat} {q : Nat → Nat} {r x : Int32} {rn i : Nat} {K : Int32 → Sh → Mu → Prop} (hM : MS S o q) (hr : r = nI rn) (hb : rn < 6) (hx : x = nI i) (hi : i < 5) (hm : μ (o + 1) (83 + 9 * rn) = nI (nv (μ (o + 1) (83 + 9 * rn)))) (bm : (nv (μ (o + 1) (83 + 9 * rn))) ≤ 5) (kt : lastb (μ (o + 1)) (μ o 5) rn i = true → K 1 S μ) (kf : lastb (μ (o + 1)) (μ o 5) rn i = false → K 0 S μ) : X G mi_X10_isLast (d + 2) 0 0 [(0, .ref o), (1, .int r), (2, .int x)] [] S μ (qi K) := by
  have loop : ∀ (n k : Nat) (la : Int32), k + n = 6 → i < k → ((la = 1 ∧ ∀ z, z < k → i < z → z < (nv (μ (o + 1) (83 + 9 * rn))) → lb (μ o 5) (μ (o + 1) (84 + 9 * rn + z))) ∨ (la = 0 ∧ ¬ lastp (μ (o + 1)) (μ o 5) rn i)) → X G mi_X10_isLast (d + 2) 0 7 [(0, .ref o), (1, .int r), (2, .int x), (3, .int la), (4, .int (nI k))] [] S μ (qi K) := by
    intro n
    induction n with
    | zero =>
      intro k la hk hik hla
      refine X_iload (tk_X10_isLast.at 6 rfl) rfl ?_
      refine X_aload_n (tk_X10_isLast.at 7 rfl) rfl ?_
      refine X_iload_n (tk_X10_isLast.at 8 rfl) rfl ?_
      refine X_cV1i (lv2 := [(0, _), (1, _)]) (tk_X10_isLast.at 9 rfl) mv_X10_many lk_x10_118 np_X10_many hM.f0 (by decide) rfl (Nat.le_of_ble_eq_true rfl) (Nat.le_of_ble_eq_true rfl) rfl (c10_many hM hr (by omega) ?_)
      refine X_icmp_geN (tgt := 50) (tk_X10_isLast.at 10 rfl) (by decide) (pl k rfl) hm (by omega) (by omega) (fun c1 => ?_) (fun c1 => (by exfalso; omega))
      refine X_iload_n (tk_X10_isLast.at 27 rfl) rfl ?_
      rcases hla with ⟨e, h⟩ | ⟨e, h⟩
      · subst e
        refine X_ireturn (tk_X10_isLast.at 28 rfl) rfl rfl ?_
        exact kt (decide_eq_true (fun z hz hiz => h z (by omega) hiz hz))
      · subst e
        refine X_ireturn (tk_X10_isLast.at 28 rfl) rfl rfl ?_
        exact kf (decide_eq_false h)
    | succ n ih =>
      intro k la hk hik hla
      refine X_iload (tk_X10_isLast.at 6 rfl) rfl ?_
      refine X_aload_n (tk_X10_isLast.at 7 rfl) rfl ?_
      refine X_iload_n (tk_X10_isLast.at 8 rfl) rfl ?_
      refine X_cV1i (lv2 := [(0, _), (1, _)]) (tk_X10_isLast.at 9 rfl) mv_X10_many lk_x10_118 np_X10_many hM.f0 (by decide) rfl (Nat.le_of_ble_eq_true rfl) (Nat.le_of_ble_eq_true rfl) rfl (c10_many hM hr (by omega) ?_)
      refine X_icmp_geN (tgt := 50) (tk_X10_isLast.at 10 rfl) (by decide) (pl k rfl) hm (by omega) (by omega) (fun c1 => ?_) (fun c1 => ?_)
      · refine X_iload_n (tk_X10_isLast.at 27 rfl) rfl ?_
        rcases hla with ⟨e, h⟩ | ⟨e, h⟩
        · subst e
          refine X_ireturn (tk_X10_isLast.at 28 rfl) rfl rfl ?_
          exact kt (decide_eq_true (fun z hz hiz => h z (by omega) hiz hz))
        · subst e
          refine X_ireturn (tk_X10_isLast.at 28 rfl) rfl rfl ?_
          exact kf (decide_eq_false h)
      · refine X_iload_n (tk_X10_isLast.at 11 rfl) rfl ?_
        refine X_if_eq (tgt := 42) (tk_X10_isLast.at 12 rfl) (by decide) (fun c2 => ?_) (fun c2 => ?_)
        · refine X_iconst (tk_X10_isLast.at 23 rfl) ci_0 ?_
          refine X_istore_n (lv' := [(0, _), (1, _), (2, _), (3, _), (4, _)]) (tk_X10_isLast.at 24 rfl) (by decide) rfl rfl ?_
          refine X_iinc (lv' := [(0, _), (1, _), (2, _), (3, _), (4, _)]) (tk_X10_isLast.at 25 rfl) rfl ci_1 (by decide) rfl rfl ?_
          refine X_goto (tgt := 7) (tk_X10_isLast.at 26 rfl) (by decide) ?_
          rw [nI_1 k]
          refine ih (k + 1) 0 (by omega) (by omega) ?_
          rcases hla with ⟨e, h⟩ | ⟨e, h⟩
          · rw [c2] at e; exact absurd e (by decide)
          · exact Or.inr ⟨rfl, h⟩
        · refine X_aload_n (tk_X10_isLast.at 13 rfl) rfl ?_
          refine X_getI (tk_X10_isLast.at 14 rfl) fl_x10_146 hM.f0 rfl ?_
          refine X_aload_n (tk_X10_isLast.at 15 rfl) rfl ?_
          refine X_iload_n (tk_X10_isLast.at 16 rfl) rfl ?_
          refine X_iload (tk_X10_isLast.at 17 rfl) rfl ?_
          refine X_cV2i (lv2 := [(0, _), (1, _), (2, _)]) (tk_X10_isLast.at 18 rfl) mv_X10_who lk_x10_121 np_X10_who hM.f0 (by decide) rfl (Nat.le_of_ble_eq_true rfl) (Nat.le_of_ble_eq_true rfl) rfl (c10_who hM hr (pl k rfl) (by omega) (by omega) ?_)
          refine X_cS2i (lv2 := [(0, _), (1, _)]) (tk_X10_isLast.at 19 rfl) ms_X10_has lk_x10_150 np_X10_has (Nat.le_of_ble_eq_true rfl) (Nat.le_of_ble_eq_true rfl) rfl (c10_has (fun h32 => ?_) (fun h32 => ?_))
          · refine X_if_eq (tgt := 42) (tk_X10_isLast.at 20 rfl) (by decide) (fun h => absurd h (by decide)) (fun _ => ?_)
            refine X_iconst (tk_X10_isLast.at 21 rfl) ci_1 ?_
            refine X_goto (tgt := 43) (tk_X10_isLast.at 22 rfl) (by decide) ?_
            refine X_istore_n (lv' := [(0, _), (1, _), (2, _), (3, _), (4, _)]) (tk_X10_isLast.at 24 rfl) (by decide) rfl rfl ?_
            refine X_iinc (lv' := [(0, _), (1, _), (2, _), (3, _), (4, _)]) (tk_X10_isLast.at 25 rfl) rfl ci_1 (by decide) rfl rfl ?_
            refine X_goto (tgt := 7) (tk_X10_isLast.at 26 rfl) (by decide) ?_
            rw [nI_1 k]
            refine ih (k + 1) 1 (by omega) (by omega) ?_
            rcases hla with ⟨e, h⟩ | ⟨e, h⟩
            · refine Or.inl ⟨rfl, fun z hz hiz hzm => ?_⟩
              rcases Nat.lt_or_ge z k with y | y
              · exact h z y hiz hzm
              · have e2 : z = k := by omega
                subst e2
                exact h32
            · rw [e] at c2; exact absurd rfl c2
          · refine X_if_eq (tgt := 42) (tk_X10_isLast.at 20 rfl) (by decide) (fun _ => ?_) (fun h => absurd h (by decide))
            refine X_iconst (tk_X10_isLast.at 23 rfl) ci_0 ?_
            refine X_istore_n (lv' := [(0, _), (1, _), (2, _), (3, _), (4, _)]) (tk_X10_isLast.at 24 rfl) (by decide) rfl rfl ?_
            refine X_iinc (lv' := [(0, _), (1, _), (2, _), (3, _), (4, _)]) (tk_X10_isLast.at 25 rfl) rfl ci_1 (by decide) rfl rfl ?_
            refine X_goto (tgt := 7) (tk_X10_isLast.at 26 rfl) (by decide) ?_
            rw [nI_1 k]
            refine ih (k + 1) 0 (by omega) (by omega) ?_
            refine Or.inr ⟨rfl, fun h => ?_⟩
            exact h32 (h k (by omega) hik)
  refine X_iconst (tk_X10_isLast.at 0 rfl) ci_1 ?_
  refine X_istore_n (lv' := [(0, _), (1, _), (2, _), (3, _)]) (tk_X10_isLast.at 1 rfl) (by decide) rfl rfl ?_
  refine X_iload_n (tk_X10_isLast.at 2 rfl) rfl ?_
  refine X_iconst (tk_X10_isLast.at 3 rfl) ci_1 ?_
  refine X_iadd (tk_X10_isLast.at 4 rfl) ?_
  refine X_istore (lv' := [(0, _), (1, _), (2, _), (3, _), (4, _)]) (tk_X10_isLast.at 5 rfl) (by decide) rfl rfl ?_
  rw [show x + 1 = nI (i + 1) from by rw [hx]; exact nI_1 i]
  exact loop (5 - i) (i + 1) 1 (by omega) (by omega) (Or.inl ⟨rfl, fun z hz hiz _ => by omega⟩)
set_option maxHeartbeats 1000000 in
theorem c10_gripOf {G : Gl} {d : Nat} {S : Sh} {μ : Mu} {o : Nat} {q : Nat → Nat} {r x y : Int32} {rn a f : Nat} {K : Int32 → Sh → Mu → Prop} (hM : MS S o q) (hw : WF (μ (o + 1))) (hr : r = nI rn) (hrn : rn < nv (μ (o + 1) 3)) (hx : x = nI a) (hy : y = nI f) (ha : a < nv (μ (o + 1) (83 + 9 * rn))) (hf : f < nv (μ (o + 1) (83 + 9 * rn))) (haf : a ≠ f) (nla : ¬ lb (μ o 5) (μ (o + 1) (84 + 9 * rn + a))) (nlf : ¬ lb (μ o 5) (μ (o + 1) (84 + 9 * rn + f))) (hK : K (grp (μ (o + 1)) rn (nv (μ (o + 1) (84 + 9 * rn + a))) (adf (pcnt (μ (o + 1)) (μ o 5) rn a) (pcnt (μ (o + 1)) (μ o 5) rn f)) (lastb (μ (o + 1)) (μ o 5) rn a)) S μ) : X G mi_X10_gripOf (d + 3) 0 0 [(0, .ref o), (1, .int r), (2, .int x), (3, .int y)] [] S μ (qi K) := by
  have w0 := hw.n0
  have w1 := hw.n1
  have w2 := hw.n2
  have w3 := hw.n3
  have w4 := hw.n4
  have w5 := hw.n5
  have w6 := hw.n6
  have b1 := w1.2
  have b2 := w2.2
  have b3 := w3.2
  have b4 := w4.2
  have b5 := w5.2
  have b6 := w6.2
  have b0 := w0.2
  have wr := hw.ro (p := rn) hrn
  have wk := wr.1
  have bk := wk.2
  have hm := wr.2.2.2.1.1
  have bm := wr.2.2.2.1.2
  have wp := wr.2.2.2.2 a ha
  have bp := wp.2
  have pa1 := pcnt_le (μ (o + 1)) (μ o 5) rn a
  have pa2 := pcnt_le (μ (o + 1)) (μ o 5) rn f
  have hadf : 0 < adf (pcnt (μ (o + 1)) (μ o 5) rn a) (pcnt (μ (o + 1)) (μ o 5) rn f) := by
    unfold adf
    rcases Nat.lt_or_gt_of_ne haf with z | z
    · have := pcnt_lt (N := μ (o + 1)) (L := μ o 5) (r := rn) z nla
      split <;> omega
    · have := pcnt_lt (N := μ (o + 1)) (L := μ o 5) (r := rn) z nlf
      split <;> omega
  have hadf2 : adf (pcnt (μ (o + 1)) (μ o 5) rn a) (pcnt (μ (o + 1)) (μ o 5) rn f) ≤ 5 := by unfold adf; split <;> omega
  refine X_aload_n (tk_X10_gripOf.at 0 rfl) rfl ?_
  refine X_iload_n (tk_X10_gripOf.at 1 rfl) rfl ?_
  refine X_iload_n (tk_X10_gripOf.at 2 rfl) rfl ?_
  refine X_cV2i (lv2 := [(0, _), (1, _), (2, _)]) (tk_X10_gripOf.at 3 rfl) mv_X10_who lk_x10_121 np_X10_who hM.f0 (by decide) rfl (Nat.le_of_ble_eq_true rfl) (Nat.le_of_ble_eq_true rfl) rfl (c10_who hM hr hx (by omega) (by omega) ?_)
  refine X_istore (lv' := [(0, _), (1, _), (2, _), (3, _), (4, _)]) (tk_X10_gripOf.at 4 rfl) (by decide) rfl rfl ?_
  refine X_aload_n (tk_X10_gripOf.at 5 rfl) rfl ?_
  refine X_iload_n (tk_X10_gripOf.at 6 rfl) rfl ?_
  refine X_iload_n (tk_X10_gripOf.at 7 rfl) rfl ?_
  refine X_cV2i (lv2 := [(0, _), (1, _), (2, _)]) (tk_X10_gripOf.at 8 rfl) mv_X10_place lk_x10_153 np_X10_place hM.f0 (by decide) rfl (Nat.le_of_ble_eq_true rfl) (Nat.le_of_ble_eq_true rfl) rfl (c10_place hM hr (by omega) hx (by omega) ?_)
  refine X_aload_n (tk_X10_gripOf.at 9 rfl) rfl ?_
  refine X_iload_n (tk_X10_gripOf.at 10 rfl) rfl ?_
  refine X_iload_n (tk_X10_gripOf.at 11 rfl) rfl ?_
  refine X_cV2i (lv2 := [(0, _), (1, _), (2, _)]) (tk_X10_gripOf.at 12 rfl) mv_X10_place lk_x10_153 np_X10_place hM.f0 (by decide) rfl (Nat.le_of_ble_eq_true rfl) (Nat.le_of_ble_eq_true rfl) rfl (c10_place hM hr (by omega) hy (by omega) ?_)
  refine X_isub (tk_X10_gripOf.at 13 rfl) ?_
  refine X_abs (tk_X10_gripOf.at 14 rfl) lk_x10_156 (Nat.le_of_ble_eq_true rfl) ?_
  rw [abs_nI (a := (pcnt (μ (o + 1)) (μ o 5) rn a)) (b := (pcnt (μ (o + 1)) (μ o 5) rn f)) (by omega) (by omega)]
  refine X_istore (lv' := [(0, _), (1, _), (2, _), (3, _), (4, _), (5, _)]) (tk_X10_gripOf.at 15 rfl) (by decide) rfl rfl ?_
  refine X_aload_n (tk_X10_gripOf.at 16 rfl) rfl ?_
  refine X_iload (tk_X10_gripOf.at 17 rfl) rfl ?_
  refine X_iconst (tk_X10_gripOf.at 18 rfl) ci_1 ?_
  refine X_cV2i (lv2 := [(0, _), (1, _), (2, _)]) (tk_X10_gripOf.at 19 rfl) mv_X10_of lk_x10_94 np_X10_of hM.f0 (by decide) rfl (Nat.le_of_ble_eq_true rfl) (Nat.le_of_ble_eq_true rfl) rfl (c10_of (k := 9 + 4 * (nv (μ (o + 1) (84 + 9 * rn + a)))) hM wp.1 (pl 1 rfl) (by omega) (by omega) (by omega) ?_)
  refine X_iload (tk_X10_gripOf.at 20 rfl) rfl ?_
  refine X_idiv (tk_X10_gripOf.at 21 rfl) (nI_ne0 hadf (by omega)) ?_
  refine X_istore (lv' := [(0, _), (1, _), (2, _), (3, _), (4, _), (5, _), (6, _)]) (tk_X10_gripOf.at 22 rfl) (by decide) rfl rfl ?_
  refine X_aload_n (tk_X10_gripOf.at 23 rfl) rfl ?_
  refine X_iload (tk_X10_gripOf.at 24 rfl) rfl ?_
  refine X_iconst (tk_X10_gripOf.at 25 rfl) ci_3 ?_
  refine X_cV2i (lv2 := [(0, _), (1, _), (2, _)]) (tk_X10_gripOf.at 26 rfl) mv_X10_of lk_x10_94 np_X10_of hM.f0 (by decide) rfl (Nat.le_of_ble_eq_true rfl) (Nat.le_of_ble_eq_true rfl) rfl (c10_of (k := 11 + 4 * (nv (μ (o + 1) (84 + 9 * rn + a)))) hM wp.1 (pl 3 rfl) (by omega) (by omega) (by omega) ?_)
  refine X_iconst (tk_X10_gripOf.at 27 rfl) ci_1 ?_
  refine X_icmp_ne (tgt := 53) (tk_X10_gripOf.at 28 rfl) (by decide) (fun c1 => ?_) (fun c1 => ?_)
  · refine X_iconst (tk_X10_gripOf.at 31 rfl) ci_0 ?_
    refine X_istore (lv' := [(0, _), (1, _), (2, _), (3, _), (4, _), (5, _), (6, _), (7, _)]) (tk_X10_gripOf.at 32 rfl) (by decide) rfl rfl ?_
    refine X_iload (tk_X10_gripOf.at 33 rfl) rfl ?_
    refine X_istore (lv' := [(0, _), (1, _), (2, _), (3, _), (4, _), (5, _), (6, _), (7, _), (8, _)]) (tk_X10_gripOf.at 34 rfl) (by decide) rfl rfl ?_
    refine X_aload_n (tk_X10_gripOf.at 35 rfl) rfl ?_
    refine X_iload_n (tk_X10_gripOf.at 36 rfl) rfl ?_
    refine X_iconst (tk_X10_gripOf.at 37 rfl) ci_0 ?_
    refine X_cV2i (lv2 := [(0, _), (1, _), (2, _)]) (tk_X10_gripOf.at 38 rfl) mv_X10_rope lk_x10_115 np_X10_rope hM.f0 (by decide) rfl (Nat.le_of_ble_eq_true rfl) (Nat.le_of_ble_eq_true rfl) rfl (c10_rope (k := 80 + 9 * rn) hM hr (pl 0 rfl) (by omega) (by omega) (by omega) ?_)
    rcases (show nv (μ (o + 1) (80 + 9 * rn)) = 0 ∨ nv (μ (o + 1) (80 + 9 * rn)) = 1 ∨ nv (μ (o + 1) (80 + 9 * rn)) = 2 ∨ nv (μ (o + 1) (80 + 9 * rn)) = 3 ∨ nv (μ (o + 1) (80 + 9 * rn)) = 4 ∨ nv (μ (o + 1) (80 + 9 * rn)) = 5 ∨ nv (μ (o + 1) (80 + 9 * rn)) = 6 from by omega) with e66 | e66 | e66 | e66 | e66 | e66 | e66
    · refine X_tableOutN (n := 0) (tgt := 237) (tk_X10_gripOf.at 39 rfl) (pz wk.1 e66) (by decide) (by decide) (by decide) ?_
      refine X_iconst (tk_X10_gripOf.at 114 rfl) ci_0 ?_
      refine X_iload (tk_X10_gripOf.at 115 rfl) rfl ?_
      refine X_max (tk_X10_gripOf.at 116 rfl) lk_x10_164 (Nat.le_of_ble_eq_true rfl) ?_
      refine X_ireturn (tk_X10_gripOf.at 117 rfl) rfl rfl ?_
      have hk1 : μ (o + 1) (80 + 9 * rn) = 0 := by rw [wk.1, e66]; rfl
      refine Eq.mp (congrArg (fun z => K z S μ) ?_) hK
      simp [grp, gk, mx0, hk1, c1]
    · refine X_tableInN (n := 1) (tgt := 104) (tk_X10_gripOf.at 39 rfl) (pz wk.1 e66) (by decide) (by decide) (by decide) rfl (by decide) ?_
      refine X_iload (tk_X10_gripOf.at 40 rfl) rfl ?_
      refine X_iconst (tk_X10_gripOf.at 41 rfl) ci_5 ?_
      refine X_aload_n (tk_X10_gripOf.at 42 rfl) rfl ?_
      refine X_iload_n (tk_X10_gripOf.at 43 rfl) rfl ?_
      refine X_iconst (tk_X10_gripOf.at 44 rfl) ci_1 ?_
      refine X_cV2i (lv2 := [(0, _), (1, _), (2, _)]) (tk_X10_gripOf.at 45 rfl) mv_X10_rope lk_x10_115 np_X10_rope hM.f0 (by decide) rfl (Nat.le_of_ble_eq_true rfl) (Nat.le_of_ble_eq_true rfl) rfl (c10_rope (k := 81 + 9 * rn) hM hr (pl 1 rfl) (by omega) (by omega) (by omega) ?_)
      refine X_imul (tk_X10_gripOf.at 46 rfl) ?_
      refine X_iadd (tk_X10_gripOf.at 47 rfl) ?_
      refine X_istore (lv' := [(0, _), (1, _), (2, _), (3, _), (4, _), (5, _), (6, _), (7, _), (8, _)]) (tk_X10_gripOf.at 48 rfl) (by decide) rfl rfl ?_
      refine X_goto (tgt := 237) (tk_X10_gripOf.at 49 rfl) (by decide) ?_
      refine X_iconst (tk_X10_gripOf.at 114 rfl) ci_0 ?_
      refine X_iload (tk_X10_gripOf.at 115 rfl) rfl ?_
      refine X_max (tk_X10_gripOf.at 116 rfl) lk_x10_164 (Nat.le_of_ble_eq_true rfl) ?_
      refine X_ireturn (tk_X10_gripOf.at 117 rfl) rfl rfl ?_
      have hk1 : μ (o + 1) (80 + 9 * rn) = 1 := by rw [wk.1, e66]; rfl
      refine Eq.mp (congrArg (fun z => K z S μ) ?_) hK
      simp [grp, gk, mx0, hk1, c1]
    · refine X_tableInN (n := 2) (tgt := 120) (tk_X10_gripOf.at 39 rfl) (pz wk.1 e66) (by decide) (by decide) (by decide) rfl (by decide) ?_
      refine X_iload (tk_X10_gripOf.at 50 rfl) rfl ?_
      refine X_bipush (tk_X10_gripOf.at 51 rfl) cb_10 ?_
      refine X_aload_n (tk_X10_gripOf.at 52 rfl) rfl ?_
      refine X_iload_n (tk_X10_gripOf.at 53 rfl) rfl ?_
      refine X_iconst (tk_X10_gripOf.at 54 rfl) ci_2 ?_
      refine X_cV2i (lv2 := [(0, _), (1, _), (2, _)]) (tk_X10_gripOf.at 55 rfl) mv_X10_rope lk_x10_115 np_X10_rope hM.f0 (by decide) rfl (Nat.le_of_ble_eq_true rfl) (Nat.le_of_ble_eq_true rfl) rfl (c10_rope (k := 82 + 9 * rn) hM hr (pl 2 rfl) (by omega) (by omega) (by omega) ?_)
      refine X_imul (tk_X10_gripOf.at 56 rfl) ?_
      refine X_iadd (tk_X10_gripOf.at 57 rfl) ?_
      refine X_istore (lv' := [(0, _), (1, _), (2, _), (3, _), (4, _), (5, _), (6, _), (7, _), (8, _)]) (tk_X10_gripOf.at 58 rfl) (by decide) rfl rfl ?_
      refine X_goto (tgt := 237) (tk_X10_gripOf.at 59 rfl) (by decide) ?_
      refine X_iconst (tk_X10_gripOf.at 114 rfl) ci_0 ?_
      refine X_iload (tk_X10_gripOf.at 115 rfl) rfl ?_
      refine X_max (tk_X10_gripOf.at 116 rfl) lk_x10_164 (Nat.le_of_ble_eq_true rfl) ?_
      refine X_ireturn (tk_X10_gripOf.at 117 rfl) rfl rfl ?_
      have hk1 : μ (o + 1) (80 + 9 * rn) = 2 := by rw [wk.1, e66]; rfl
      refine Eq.mp (congrArg (fun z => K z S μ) ?_) hK
      simp [grp, gk, mx0, hk1, c1]
    · refine X_tableInN (n := 3) (tgt := 137) (tk_X10_gripOf.at 39 rfl) (pz wk.1 e66) (by decide) (by decide) (by decide) rfl (by decide) ?_
      refine X_iload (tk_X10_gripOf.at 60 rfl) rfl ?_
      refine X_bipush (tk_X10_gripOf.at 61 rfl) cb_10 ?_
      refine X_aload_n (tk_X10_gripOf.at 62 rfl) rfl ?_
      refine X_iload_n (tk_X10_gripOf.at 63 rfl) rfl ?_
      refine X_iconst (tk_X10_gripOf.at 64 rfl) ci_2 ?_
      refine X_cV2i (lv2 := [(0, _), (1, _), (2, _)]) (tk_X10_gripOf.at 65 rfl) mv_X10_rope lk_x10_115 np_X10_rope hM.f0 (by decide) rfl (Nat.le_of_ble_eq_true rfl) (Nat.le_of_ble_eq_true rfl) rfl (c10_rope (k := 82 + 9 * rn) hM hr (pl 2 rfl) (by omega) (by omega) (by omega) ?_)
      refine X_imul (tk_X10_gripOf.at 66 rfl) ?_
      refine X_iconst (tk_X10_gripOf.at 67 rfl) ci_2 ?_
      refine X_aload_n (tk_X10_gripOf.at 68 rfl) rfl ?_
      refine X_iload_n (tk_X10_gripOf.at 69 rfl) rfl ?_
      refine X_iconst (tk_X10_gripOf.at 70 rfl) ci_1 ?_
      refine X_cV2i (lv2 := [(0, _), (1, _), (2, _)]) (tk_X10_gripOf.at 71 rfl) mv_X10_rope lk_x10_115 np_X10_rope hM.f0 (by decide) rfl (Nat.le_of_ble_eq_true rfl) (Nat.le_of_ble_eq_true rfl) rfl (c10_rope (k := 81 + 9 * rn) hM hr (pl 1 rfl) (by omega) (by omega) (by omega) ?_)
      refine X_imul (tk_X10_gripOf.at 72 rfl) ?_
      refine X_isub (tk_X10_gripOf.at 73 rfl) ?_
      refine X_iadd (tk_X10_gripOf.at 74 rfl) ?_
      refine X_istore (lv' := [(0, _), (1, _), (2, _), (3, _), (4, _), (5, _), (6, _), (7, _), (8, _)]) (tk_X10_gripOf.at 75 rfl) (by decide) rfl rfl ?_
      refine X_goto (tgt := 237) (tk_X10_gripOf.at 76 rfl) (by decide) ?_
      refine X_iconst (tk_X10_gripOf.at 114 rfl) ci_0 ?_
      refine X_iload (tk_X10_gripOf.at 115 rfl) rfl ?_
      refine X_max (tk_X10_gripOf.at 116 rfl) lk_x10_164 (Nat.le_of_ble_eq_true rfl) ?_
      refine X_ireturn (tk_X10_gripOf.at 117 rfl) rfl rfl ?_
      have hk1 : μ (o + 1) (80 + 9 * rn) = 3 := by rw [wk.1, e66]; rfl
      refine Eq.mp (congrArg (fun z => K z S μ) ?_) hK
      simp [grp, gk, mx0, hk1, c1]
    · refine X_tableInN (n := 4) (tgt := 163) (tk_X10_gripOf.at 39 rfl) (pz wk.1 e66) (by decide) (by decide) (by decide) rfl (by decide) ?_
      refine X_iload (tk_X10_gripOf.at 77 rfl) rfl ?_
      refine X_iload (tk_X10_gripOf.at 78 rfl) rfl ?_
      refine X_if_eq (tgt := 175) (tk_X10_gripOf.at 79 rfl) (by decide) (fun _ => ?_) (fun h => absurd h (by decide))
      refine X_iconst (tk_X10_gripOf.at 82 rfl) ci_0 ?_
      refine X_iadd (tk_X10_gripOf.at 83 rfl) ?_
      refine X_istore (lv' := [(0, _), (1, _), (2, _), (3, _), (4, _), (5, _), (6, _), (7, _), (8, _)]) (tk_X10_gripOf.at 84 rfl) (by decide) rfl rfl ?_
      refine X_goto (tgt := 237) (tk_X10_gripOf.at 85 rfl) (by decide) ?_
      refine X_iconst (tk_X10_gripOf.at 114 rfl) ci_0 ?_
      refine X_iload (tk_X10_gripOf.at 115 rfl) rfl ?_
      refine X_max (tk_X10_gripOf.at 116 rfl) lk_x10_164 (Nat.le_of_ble_eq_true rfl) ?_
      refine X_ireturn (tk_X10_gripOf.at 117 rfl) rfl rfl ?_
      have hk1 : μ (o + 1) (80 + 9 * rn) = 4 := by rw [wk.1, e66]; rfl
      refine Eq.mp (congrArg (fun z => K z S μ) ?_) hK
      simp [grp, gk, mx0, hk1, c1]
    · refine X_tableInN (n := 5) (tgt := 182) (tk_X10_gripOf.at 39 rfl) (pz wk.1 e66) (by decide) (by decide) (by decide) rfl (by decide) ?_
      refine X_iload (tk_X10_gripOf.at 86 rfl) rfl ?_
      refine X_iload (tk_X10_gripOf.at 87 rfl) rfl ?_
      refine X_if_eq (tgt := 194) (tk_X10_gripOf.at 88 rfl) (by decide) (fun _ => ?_) (fun h => absurd h (by decide))
      refine X_iconst (tk_X10_gripOf.at 91 rfl) ci_0 ?_
      refine X_iadd (tk_X10_gripOf.at 92 rfl) ?_
      refine X_istore (lv' := [(0, _), (1, _), (2, _), (3, _), (4, _), (5, _), (6, _), (7, _), (8, _)]) (tk_X10_gripOf.at 93 rfl) (by decide) rfl rfl ?_
      refine X_iload (tk_X10_gripOf.at 94 rfl) rfl ?_
      refine X_iload (tk_X10_gripOf.at 95 rfl) rfl ?_
      refine X_if_eq (tgt := 224) (tk_X10_gripOf.at 96 rfl) (by decide) (fun _ => ?_) (fun h => absurd h (by decide))
      refine X_iconst (tk_X10_gripOf.at 107 rfl) ci_0 ?_
      refine X_iadd (tk_X10_gripOf.at 108 rfl) ?_
      refine X_istore (lv' := [(0, _), (1, _), (2, _), (3, _), (4, _), (5, _), (6, _), (7, _), (8, _)]) (tk_X10_gripOf.at 109 rfl) (by decide) rfl rfl ?_
      refine X_goto (tgt := 237) (tk_X10_gripOf.at 110 rfl) (by decide) ?_
      refine X_iconst (tk_X10_gripOf.at 114 rfl) ci_0 ?_
      refine X_iload (tk_X10_gripOf.at 115 rfl) rfl ?_
      refine X_max (tk_X10_gripOf.at 116 rfl) lk_x10_164 (Nat.le_of_ble_eq_true rfl) ?_
      refine X_ireturn (tk_X10_gripOf.at 117 rfl) rfl rfl ?_
      have hk1 : μ (o + 1) (80 + 9 * rn) = 5 := by rw [wk.1, e66]; rfl
      refine Eq.mp (congrArg (fun z => K z S μ) ?_) hK
      simp [grp, gk, mx0, hk1, c1]
    · refine X_tableInN (n := 6) (tgt := 231) (tk_X10_gripOf.at 39 rfl) (pz wk.1 e66) (by decide) (by decide) (by decide) rfl (by decide) ?_
      refine X_iconst (tk_X10_gripOf.at 111 rfl) ci_0 ?_
      refine X_istore (lv' := [(0, _), (1, _), (2, _), (3, _), (4, _), (5, _), (6, _), (7, _), (8, _)]) (tk_X10_gripOf.at 112 rfl) (by decide) rfl rfl ?_
      refine X_goto (tgt := 237) (tk_X10_gripOf.at 113 rfl) (by decide) ?_
      refine X_iconst (tk_X10_gripOf.at 114 rfl) ci_0 ?_
      refine X_iload (tk_X10_gripOf.at 115 rfl) rfl ?_
      refine X_max (tk_X10_gripOf.at 116 rfl) lk_x10_164 (Nat.le_of_ble_eq_true rfl) ?_
      refine X_ireturn (tk_X10_gripOf.at 117 rfl) rfl rfl ?_
      have hk1 : μ (o + 1) (80 + 9 * rn) = 6 := by rw [wk.1, e66]; rfl
      refine Eq.mp (congrArg (fun z => K z S μ) ?_) hK
      simp [grp, gk, mx0, hk1, c1]
  · refine X_iconst (tk_X10_gripOf.at 29 rfl) ci_1 ?_
    refine X_goto (tgt := 54) (tk_X10_gripOf.at 30 rfl) (by decide) ?_
    refine X_istore (lv' := [(0, _), (1, _), (2, _), (3, _), (4, _), (5, _), (6, _), (7, _)]) (tk_X10_gripOf.at 32 rfl) (by decide) rfl rfl ?_
    refine X_iload (tk_X10_gripOf.at 33 rfl) rfl ?_
    refine X_istore (lv' := [(0, _), (1, _), (2, _), (3, _), (4, _), (5, _), (6, _), (7, _), (8, _)]) (tk_X10_gripOf.at 34 rfl) (by decide) rfl rfl ?_
    refine X_aload_n (tk_X10_gripOf.at 35 rfl) rfl ?_
    refine X_iload_n (tk_X10_gripOf.at 36 rfl) rfl ?_
    refine X_iconst (tk_X10_gripOf.at 37 rfl) ci_0 ?_
    refine X_cV2i (lv2 := [(0, _), (1, _), (2, _)]) (tk_X10_gripOf.at 38 rfl) mv_X10_rope lk_x10_115 np_X10_rope hM.f0 (by decide) rfl (Nat.le_of_ble_eq_true rfl) (Nat.le_of_ble_eq_true rfl) rfl (c10_rope (k := 80 + 9 * rn) hM hr (pl 0 rfl) (by omega) (by omega) (by omega) ?_)
    rcases (show nv (μ (o + 1) (80 + 9 * rn)) = 0 ∨ nv (μ (o + 1) (80 + 9 * rn)) = 1 ∨ nv (μ (o + 1) (80 + 9 * rn)) = 2 ∨ nv (μ (o + 1) (80 + 9 * rn)) = 3 ∨ nv (μ (o + 1) (80 + 9 * rn)) = 4 ∨ nv (μ (o + 1) (80 + 9 * rn)) = 5 ∨ nv (μ (o + 1) (80 + 9 * rn)) = 6 from by omega) with e66 | e66 | e66 | e66 | e66 | e66 | e66
    · refine X_tableOutN (n := 0) (tgt := 237) (tk_X10_gripOf.at 39 rfl) (pz wk.1 e66) (by decide) (by decide) (by decide) ?_
      refine X_iconst (tk_X10_gripOf.at 114 rfl) ci_0 ?_
      refine X_iload (tk_X10_gripOf.at 115 rfl) rfl ?_
      refine X_max (tk_X10_gripOf.at 116 rfl) lk_x10_164 (Nat.le_of_ble_eq_true rfl) ?_
      refine X_ireturn (tk_X10_gripOf.at 117 rfl) rfl rfl ?_
      have hk1 : μ (o + 1) (80 + 9 * rn) = 0 := by rw [wk.1, e66]; rfl
      refine Eq.mp (congrArg (fun z => K z S μ) ?_) hK
      simp [grp, gk, mx0, hk1, c1]
    · refine X_tableInN (n := 1) (tgt := 104) (tk_X10_gripOf.at 39 rfl) (pz wk.1 e66) (by decide) (by decide) (by decide) rfl (by decide) ?_
      refine X_iload (tk_X10_gripOf.at 40 rfl) rfl ?_
      refine X_iconst (tk_X10_gripOf.at 41 rfl) ci_5 ?_
      refine X_aload_n (tk_X10_gripOf.at 42 rfl) rfl ?_
      refine X_iload_n (tk_X10_gripOf.at 43 rfl) rfl ?_
      refine X_iconst (tk_X10_gripOf.at 44 rfl) ci_1 ?_
      refine X_cV2i (lv2 := [(0, _), (1, _), (2, _)]) (tk_X10_gripOf.at 45 rfl) mv_X10_rope lk_x10_115 np_X10_rope hM.f0 (by decide) rfl (Nat.le_of_ble_eq_true rfl) (Nat.le_of_ble_eq_true rfl) rfl (c10_rope (k := 81 + 9 * rn) hM hr (pl 1 rfl) (by omega) (by omega) (by omega) ?_)
      refine X_imul (tk_X10_gripOf.at 46 rfl) ?_
      refine X_iadd (tk_X10_gripOf.at 47 rfl) ?_
      refine X_istore (lv' := [(0, _), (1, _), (2, _), (3, _), (4, _), (5, _), (6, _), (7, _), (8, _)]) (tk_X10_gripOf.at 48 rfl) (by decide) rfl rfl ?_
      refine X_goto (tgt := 237) (tk_X10_gripOf.at 49 rfl) (by decide) ?_
      refine X_iconst (tk_X10_gripOf.at 114 rfl) ci_0 ?_
      refine X_iload (tk_X10_gripOf.at 115 rfl) rfl ?_
      refine X_max (tk_X10_gripOf.at 116 rfl) lk_x10_164 (Nat.le_of_ble_eq_true rfl) ?_
      refine X_ireturn (tk_X10_gripOf.at 117 rfl) rfl rfl ?_
      have hk1 : μ (o + 1) (80 + 9 * rn) = 1 := by rw [wk.1, e66]; rfl
      refine Eq.mp (congrArg (fun z => K z S μ) ?_) hK
      simp [grp, gk, mx0, hk1, c1]
    · refine X_tableInN (n := 2) (tgt := 120) (tk_X10_gripOf.at 39 rfl) (pz wk.1 e66) (by decide) (by decide) (by decide) rfl (by decide) ?_
      refine X_iload (tk_X10_gripOf.at 50 rfl) rfl ?_
      refine X_bipush (tk_X10_gripOf.at 51 rfl) cb_10 ?_
      refine X_aload_n (tk_X10_gripOf.at 52 rfl) rfl ?_
      refine X_iload_n (tk_X10_gripOf.at 53 rfl) rfl ?_
      refine X_iconst (tk_X10_gripOf.at 54 rfl) ci_2 ?_
      refine X_cV2i (lv2 := [(0, _), (1, _), (2, _)]) (tk_X10_gripOf.at 55 rfl) mv_X10_rope lk_x10_115 np_X10_rope hM.f0 (by decide) rfl (Nat.le_of_ble_eq_true rfl) (Nat.le_of_ble_eq_true rfl) rfl (c10_rope (k := 82 + 9 * rn) hM hr (pl 2 rfl) (by omega) (by omega) (by omega) ?_)
      refine X_imul (tk_X10_gripOf.at 56 rfl) ?_
      refine X_iadd (tk_X10_gripOf.at 57 rfl) ?_
      refine X_istore (lv' := [(0, _), (1, _), (2, _), (3, _), (4, _), (5, _), (6, _), (7, _), (8, _)]) (tk_X10_gripOf.at 58 rfl) (by decide) rfl rfl ?_
      refine X_goto (tgt := 237) (tk_X10_gripOf.at 59 rfl) (by decide) ?_
      refine X_iconst (tk_X10_gripOf.at 114 rfl) ci_0 ?_
      refine X_iload (tk_X10_gripOf.at 115 rfl) rfl ?_
      refine X_max (tk_X10_gripOf.at 116 rfl) lk_x10_164 (Nat.le_of_ble_eq_true rfl) ?_
      refine X_ireturn (tk_X10_gripOf.at 117 rfl) rfl rfl ?_
      have hk1 : μ (o + 1) (80 + 9 * rn) = 2 := by rw [wk.1, e66]; rfl
      refine Eq.mp (congrArg (fun z => K z S μ) ?_) hK
      simp [grp, gk, mx0, hk1, c1]
    · refine X_tableInN (n := 3) (tgt := 137) (tk_X10_gripOf.at 39 rfl) (pz wk.1 e66) (by decide) (by decide) (by decide) rfl (by decide) ?_
      refine X_iload (tk_X10_gripOf.at 60 rfl) rfl ?_
      refine X_bipush (tk_X10_gripOf.at 61 rfl) cb_10 ?_
      refine X_aload_n (tk_X10_gripOf.at 62 rfl) rfl ?_
      refine X_iload_n (tk_X10_gripOf.at 63 rfl) rfl ?_
      refine X_iconst (tk_X10_gripOf.at 64 rfl) ci_2 ?_
      refine X_cV2i (lv2 := [(0, _), (1, _), (2, _)]) (tk_X10_gripOf.at 65 rfl) mv_X10_rope lk_x10_115 np_X10_rope hM.f0 (by decide) rfl (Nat.le_of_ble_eq_true rfl) (Nat.le_of_ble_eq_true rfl) rfl (c10_rope (k := 82 + 9 * rn) hM hr (pl 2 rfl) (by omega) (by omega) (by omega) ?_)
      refine X_imul (tk_X10_gripOf.at 66 rfl) ?_
      refine X_iconst (tk_X10_gripOf.at 67 rfl) ci_2 ?_
      refine X_aload_n (tk_X10_gripOf.at 68 rfl) rfl ?_
      refine X_iload_n (tk_X10_gripOf.at 69 rfl) rfl ?_
      refine X_iconst (tk_X10_gripOf.at 70 rfl) ci_1 ?_
      refine X_cV2i (lv2 := [(0, _), (1, _), (2, _)]) (tk_X10_gripOf.at 71 rfl) mv_X10_rope lk_x10_115 np_X10_rope hM.f0 (by decide) rfl (Nat.le_of_ble_eq_true rfl) (Nat.le_of_ble_eq_true rfl) rfl (c10_rope (k := 81 + 9 * rn) hM hr (pl 1 rfl) (by omega) (by omega) (by omega) ?_)
      refine X_imul (tk_X10_gripOf.at 72 rfl) ?_
      refine X_isub (tk_X10_gripOf.at 73 rfl) ?_
      refine X_iadd (tk_X10_gripOf.at 74 rfl) ?_
      refine X_istore (lv' := [(0, _), (1, _), (2, _), (3, _), (4, _), (5, _), (6, _), (7, _), (8, _)]) (tk_X10_gripOf.at 75 rfl) (by decide) rfl rfl ?_
      refine X_goto (tgt := 237) (tk_X10_gripOf.at 76 rfl) (by decide) ?_
      refine X_iconst (tk_X10_gripOf.at 114 rfl) ci_0 ?_
      refine X_iload (tk_X10_gripOf.at 115 rfl) rfl ?_
      refine X_max (tk_X10_gripOf.at 116 rfl) lk_x10_164 (Nat.le_of_ble_eq_true rfl) ?_
      refine X_ireturn (tk_X10_gripOf.at 117 rfl) rfl rfl ?_
      have hk1 : μ (o + 1) (80 + 9 * rn) = 3 := by rw [wk.1, e66]; rfl
      refine Eq.mp (congrArg (fun z => K z S μ) ?_) hK
      simp [grp, gk, mx0, hk1, c1]
    · refine X_tableInN (n := 4) (tgt := 163) (tk_X10_gripOf.at 39 rfl) (pz wk.1 e66) (by decide) (by decide) (by decide) rfl (by decide) ?_
      refine X_iload (tk_X10_gripOf.at 77 rfl) rfl ?_
      refine X_iload (tk_X10_gripOf.at 78 rfl) rfl ?_
      refine X_if_eq (tgt := 175) (tk_X10_gripOf.at 79 rfl) (by decide) (fun h => absurd h (by decide)) (fun _ => ?_)
      refine X_iload (tk_X10_gripOf.at 80 rfl) rfl ?_
      refine X_goto (tgt := 176) (tk_X10_gripOf.at 81 rfl) (by decide) ?_
      refine X_iadd (tk_X10_gripOf.at 83 rfl) ?_
      refine X_istore (lv' := [(0, _), (1, _), (2, _), (3, _), (4, _), (5, _), (6, _), (7, _), (8, _)]) (tk_X10_gripOf.at 84 rfl) (by decide) rfl rfl ?_
      refine X_goto (tgt := 237) (tk_X10_gripOf.at 85 rfl) (by decide) ?_
      refine X_iconst (tk_X10_gripOf.at 114 rfl) ci_0 ?_
      refine X_iload (tk_X10_gripOf.at 115 rfl) rfl ?_
      refine X_max (tk_X10_gripOf.at 116 rfl) lk_x10_164 (Nat.le_of_ble_eq_true rfl) ?_
      refine X_ireturn (tk_X10_gripOf.at 117 rfl) rfl rfl ?_
      have hk1 : μ (o + 1) (80 + 9 * rn) = 4 := by rw [wk.1, e66]; rfl
      refine Eq.mp (congrArg (fun z => K z S μ) ?_) hK
      simp [grp, gk, mx0, hk1, c1]
    · refine X_tableInN (n := 5) (tgt := 182) (tk_X10_gripOf.at 39 rfl) (pz wk.1 e66) (by decide) (by decide) (by decide) rfl (by decide) ?_
      refine X_iload (tk_X10_gripOf.at 86 rfl) rfl ?_
      refine X_iload (tk_X10_gripOf.at 87 rfl) rfl ?_
      refine X_if_eq (tgt := 194) (tk_X10_gripOf.at 88 rfl) (by decide) (fun h => absurd h (by decide)) (fun _ => ?_)
      refine X_iload (tk_X10_gripOf.at 89 rfl) rfl ?_
      refine X_goto (tgt := 195) (tk_X10_gripOf.at 90 rfl) (by decide) ?_
      refine X_iadd (tk_X10_gripOf.at 92 rfl) ?_
      refine X_istore (lv' := [(0, _), (1, _), (2, _), (3, _), (4, _), (5, _), (6, _), (7, _), (8, _)]) (tk_X10_gripOf.at 93 rfl) (by decide) rfl rfl ?_
      refine X_iload (tk_X10_gripOf.at 94 rfl) rfl ?_
      refine X_iload (tk_X10_gripOf.at 95 rfl) rfl ?_
      refine X_if_eq (tgt := 224) (tk_X10_gripOf.at 96 rfl) (by decide) (fun h => absurd h (by decide)) (fun _ => ?_)
      refine X_aload_n (tk_X10_gripOf.at 97 rfl) rfl ?_
      refine X_iload_n (tk_X10_gripOf.at 98 rfl) rfl ?_
      refine X_iload_n (tk_X10_gripOf.at 99 rfl) rfl ?_
      refine X_cV2i (lv2 := [(0, _), (1, _), (2, _)]) (tk_X10_gripOf.at 100 rfl) mv_X10_isLast lk_x10_161 np_X10_isLast hM.f0 (by decide) rfl (Nat.le_of_ble_eq_true rfl) (Nat.le_of_ble_eq_true rfl) rfl (c10_isLast hM hr (by omega) hx (by omega) hm bm (fun h208 => ?_) (fun h208 => ?_))
      · refine X_if_eq (tgt := 224) (tk_X10_gripOf.at 101 rfl) (by decide) (fun h => absurd h (by decide)) (fun _ => ?_)
        refine X_aload_n (tk_X10_gripOf.at 102 rfl) rfl ?_
        refine X_iload (tk_X10_gripOf.at 103 rfl) rfl ?_
        refine X_iconst (tk_X10_gripOf.at 104 rfl) ci_1 ?_
        refine X_cV2i (lv2 := [(0, _), (1, _), (2, _)]) (tk_X10_gripOf.at 105 rfl) mv_X10_of lk_x10_94 np_X10_of hM.f0 (by decide) rfl (Nat.le_of_ble_eq_true rfl) (Nat.le_of_ble_eq_true rfl) rfl (c10_of (k := 9 + 4 * (nv (μ (o + 1) (84 + 9 * rn + a)))) hM wp.1 (pl 1 rfl) (by omega) (by omega) (by omega) ?_)
        refine X_goto (tgt := 225) (tk_X10_gripOf.at 106 rfl) (by decide) ?_
        refine X_iadd (tk_X10_gripOf.at 108 rfl) ?_
        refine X_istore (lv' := [(0, _), (1, _), (2, _), (3, _), (4, _), (5, _), (6, _), (7, _), (8, _)]) (tk_X10_gripOf.at 109 rfl) (by decide) rfl rfl ?_
        refine X_goto (tgt := 237) (tk_X10_gripOf.at 110 rfl) (by decide) ?_
        refine X_iconst (tk_X10_gripOf.at 114 rfl) ci_0 ?_
        refine X_iload (tk_X10_gripOf.at 115 rfl) rfl ?_
        refine X_max (tk_X10_gripOf.at 116 rfl) lk_x10_164 (Nat.le_of_ble_eq_true rfl) ?_
        refine X_ireturn (tk_X10_gripOf.at 117 rfl) rfl rfl ?_
        have hk1 : μ (o + 1) (80 + 9 * rn) = 5 := by rw [wk.1, e66]; rfl
        refine Eq.mp (congrArg (fun z => K z S μ) ?_) hK
        simp [grp, gk, mx0, hk1, c1, h208]
      · refine X_if_eq (tgt := 224) (tk_X10_gripOf.at 101 rfl) (by decide) (fun _ => ?_) (fun h => absurd h (by decide))
        refine X_iconst (tk_X10_gripOf.at 107 rfl) ci_0 ?_
        refine X_iadd (tk_X10_gripOf.at 108 rfl) ?_
        refine X_istore (lv' := [(0, _), (1, _), (2, _), (3, _), (4, _), (5, _), (6, _), (7, _), (8, _)]) (tk_X10_gripOf.at 109 rfl) (by decide) rfl rfl ?_
        refine X_goto (tgt := 237) (tk_X10_gripOf.at 110 rfl) (by decide) ?_
        refine X_iconst (tk_X10_gripOf.at 114 rfl) ci_0 ?_
        refine X_iload (tk_X10_gripOf.at 115 rfl) rfl ?_
        refine X_max (tk_X10_gripOf.at 116 rfl) lk_x10_164 (Nat.le_of_ble_eq_true rfl) ?_
        refine X_ireturn (tk_X10_gripOf.at 117 rfl) rfl rfl ?_
        have hk1 : μ (o + 1) (80 + 9 * rn) = 5 := by rw [wk.1, e66]; rfl
        refine Eq.mp (congrArg (fun z => K z S μ) ?_) hK
        simp [grp, gk, mx0, hk1, c1, h208]
    · refine X_tableInN (n := 6) (tgt := 231) (tk_X10_gripOf.at 39 rfl) (pz wk.1 e66) (by decide) (by decide) (by decide) rfl (by decide) ?_
      refine X_iconst (tk_X10_gripOf.at 111 rfl) ci_0 ?_
      refine X_istore (lv' := [(0, _), (1, _), (2, _), (3, _), (4, _), (5, _), (6, _), (7, _), (8, _)]) (tk_X10_gripOf.at 112 rfl) (by decide) rfl rfl ?_
      refine X_goto (tgt := 237) (tk_X10_gripOf.at 113 rfl) (by decide) ?_
      refine X_iconst (tk_X10_gripOf.at 114 rfl) ci_0 ?_
      refine X_iload (tk_X10_gripOf.at 115 rfl) rfl ?_
      refine X_max (tk_X10_gripOf.at 116 rfl) lk_x10_164 (Nat.le_of_ble_eq_true rfl) ?_
      refine X_ireturn (tk_X10_gripOf.at 117 rfl) rfl rfl ?_
      have hk1 : μ (o + 1) (80 + 9 * rn) = 6 := by rw [wk.1, e66]; rfl
      refine Eq.mp (congrArg (fun z => K z S μ) ?_) hK
      simp [grp, gk, mx0, hk1, c1]
set_option maxHeartbeats 1000000 in
theorem c10_holdOf {G : Gl} {d : Nat} {S : Sh} {μ : Mu} {o : Nat} {q : Nat → Nat} {r y : Int32} {rn f : Nat} {K : Int32 → Sh → Mu → Prop} (hM : MS S o q) (hw : WF (μ (o + 1))) (hr : r = nI rn) (hrn : rn < nv (μ (o + 1) 3)) (hy : y = nI f) (hf : f < nv (μ (o + 1) (83 + 9 * rn))) (nlf : ¬ lb (μ o 5) (μ (o + 1) (84 + 9 * rn + f))) (hK : K (hs (μ (o + 1)) (μ o 5) rn f (nv (μ (o + 1) (83 + 9 * rn)))) S μ) : X G mi_X10_holdOf (d + 4) 0 0 [(0, .ref o), (1, .int r), (2, .int y)] [] S μ (qi K) := by
  have w0 := hw.n0
  have w1 := hw.n1
  have w2 := hw.n2
  have w3 := hw.n3
  have w4 := hw.n4
  have w5 := hw.n5
  have w6 := hw.n6
  have b1 := w1.2
  have b2 := w2.2
  have b3 := w3.2
  have b4 := w4.2
  have b5 := w5.2
  have b6 := w6.2
  have b0 := w0.2
  have wr := hw.ro (p := rn) hrn
  have hm := wr.2.2.2.1.1
  have bm := wr.2.2.2.1.2
  have loop : ∀ (n i : Nat), i + n = (nv (μ (o + 1) (83 + 9 * rn))) → X G mi_X10_holdOf (d + 4) 0 5 [(0, .ref o), (1, .int r), (2, .int y), (3, .int (hs (μ (o + 1)) (μ o 5) rn f i)), (4, .int (nI i))] [] S μ (qi K) := by
    intro n
    induction n with
    | zero =>
      intro i hi
      have e : i = (nv (μ (o + 1) (83 + 9 * rn))) := by omega
      refine X_iload (tk_X10_holdOf.at 4 rfl) rfl ?_
      refine X_aload_n (tk_X10_holdOf.at 5 rfl) rfl ?_
      refine X_iload_n (tk_X10_holdOf.at 6 rfl) rfl ?_
      refine X_cV1i (lv2 := [(0, _), (1, _)]) (tk_X10_holdOf.at 7 rfl) mv_X10_many lk_x10_118 np_X10_many hM.f0 (by decide) rfl (Nat.le_of_ble_eq_true rfl) (Nat.le_of_ble_eq_true rfl) rfl (c10_many hM hr (by omega) ?_)
      refine X_icmp_geN (tgt := 59) (tk_X10_holdOf.at 8 rfl) (by decide) (pl i rfl) hm (by omega) (by omega) (fun c1 => ?_) (fun c1 => (by exfalso; omega))
      refine X_iload_n (tk_X10_holdOf.at 32 rfl) rfl ?_
      refine X_ireturn (tk_X10_holdOf.at 33 rfl) rfl rfl ?_
      rw [e]
      exact hK
    | succ n ih =>
      intro i hi
      have z := ih (i + 1) (by omega)
      refine X_iload (tk_X10_holdOf.at 4 rfl) rfl ?_
      refine X_aload_n (tk_X10_holdOf.at 5 rfl) rfl ?_
      refine X_iload_n (tk_X10_holdOf.at 6 rfl) rfl ?_
      refine X_cV1i (lv2 := [(0, _), (1, _)]) (tk_X10_holdOf.at 7 rfl) mv_X10_many lk_x10_118 np_X10_many hM.f0 (by decide) rfl (Nat.le_of_ble_eq_true rfl) (Nat.le_of_ble_eq_true rfl) rfl (c10_many hM hr (by omega) ?_)
      refine X_icmp_geN (tgt := 59) (tk_X10_holdOf.at 8 rfl) (by decide) (pl i rfl) hm (by omega) (by omega) (fun c1 => (by exfalso; omega)) (fun c1 => ?_)
      refine X_iload_n (tk_X10_holdOf.at 9 rfl) rfl ?_
      refine X_iload (tk_X10_holdOf.at 10 rfl) rfl ?_
      refine X_iload_n (tk_X10_holdOf.at 11 rfl) rfl ?_
      refine X_icmp_eqN (tgt := 39) (tk_X10_holdOf.at 12 rfl) (by decide) (pl i rfl) hy (by omega) (by omega) (fun c2 => ?_) (fun c2 => ?_)
      · refine X_iconst (tk_X10_holdOf.at 21 rfl) ci_0 ?_
        refine X_goto (tgt := 51) (tk_X10_holdOf.at 22 rfl) (by decide) ?_
        refine X_iadd (tk_X10_holdOf.at 28 rfl) ?_
        refine X_istore_n (lv' := [(0, _), (1, _), (2, _), (3, _), (4, _)]) (tk_X10_holdOf.at 29 rfl) (by decide) rfl rfl ?_
        refine X_iinc (lv' := [(0, _), (1, _), (2, _), (3, _), (4, _)]) (tk_X10_holdOf.at 30 rfl) rfl ci_1 (by decide) rfl rfl ?_
        refine X_goto (tgt := 5) (tk_X10_holdOf.at 31 rfl) (by decide) ?_
        rw [hs_s, if_pos (Or.inl c2)] at z
        rw [nI_1 i]
        exact z
      · refine X_aload_n (tk_X10_holdOf.at 13 rfl) rfl ?_
        refine X_getI (tk_X10_holdOf.at 14 rfl) fl_x10_146 hM.f0 rfl ?_
        refine X_aload_n (tk_X10_holdOf.at 15 rfl) rfl ?_
        refine X_iload_n (tk_X10_holdOf.at 16 rfl) rfl ?_
        refine X_iload (tk_X10_holdOf.at 17 rfl) rfl ?_
        refine X_cV2i (lv2 := [(0, _), (1, _), (2, _)]) (tk_X10_holdOf.at 18 rfl) mv_X10_who lk_x10_121 np_X10_who hM.f0 (by decide) rfl (Nat.le_of_ble_eq_true rfl) (Nat.le_of_ble_eq_true rfl) rfl (c10_who hM hr (pl i rfl) (by omega) (by omega) ?_)
        refine X_cS2i (lv2 := [(0, _), (1, _)]) (tk_X10_holdOf.at 19 rfl) ms_X10_has lk_x10_150 np_X10_has (Nat.le_of_ble_eq_true rfl) (Nat.le_of_ble_eq_true rfl) rfl (c10_has (fun h33 => ?_) (fun h33 => ?_))
        · refine X_if_eq (tgt := 43) (tk_X10_holdOf.at 20 rfl) (by decide) (fun h => absurd h (by decide)) (fun _ => ?_)
          refine X_iconst (tk_X10_holdOf.at 21 rfl) ci_0 ?_
          refine X_goto (tgt := 51) (tk_X10_holdOf.at 22 rfl) (by decide) ?_
          refine X_iadd (tk_X10_holdOf.at 28 rfl) ?_
          refine X_istore_n (lv' := [(0, _), (1, _), (2, _), (3, _), (4, _)]) (tk_X10_holdOf.at 29 rfl) (by decide) rfl rfl ?_
          refine X_iinc (lv' := [(0, _), (1, _), (2, _), (3, _), (4, _)]) (tk_X10_holdOf.at 30 rfl) rfl ci_1 (by decide) rfl rfl ?_
          refine X_goto (tgt := 5) (tk_X10_holdOf.at 31 rfl) (by decide) ?_
          rw [hs_s, if_pos (Or.inr h33)] at z
          rw [nI_1 i]
          exact z
        · refine X_if_eq (tgt := 43) (tk_X10_holdOf.at 20 rfl) (by decide) (fun _ => ?_) (fun h => absurd h (by decide))
          refine X_aload_n (tk_X10_holdOf.at 23 rfl) rfl ?_
          refine X_iload_n (tk_X10_holdOf.at 24 rfl) rfl ?_
          refine X_iload (tk_X10_holdOf.at 25 rfl) rfl ?_
          refine X_iload_n (tk_X10_holdOf.at 26 rfl) rfl ?_
          refine X_cV3i (lv2 := [(0, _), (1, _), (2, _), (3, _)]) (tk_X10_holdOf.at 27 rfl) mv_X10_gripOf lk_x10_167 np_X10_gripOf hM.f0 (by decide) rfl (Nat.le_of_ble_eq_true rfl) (Nat.le_of_ble_eq_true rfl) rfl (c10_gripOf hM hw hr hrn (pl i rfl) hy (by omega) hf c2 h33 nlf ?_)
          refine X_iadd (tk_X10_holdOf.at 28 rfl) ?_
          refine X_istore_n (lv' := [(0, _), (1, _), (2, _), (3, _), (4, _)]) (tk_X10_holdOf.at 29 rfl) (by decide) rfl rfl ?_
          refine X_iinc (lv' := [(0, _), (1, _), (2, _), (3, _), (4, _)]) (tk_X10_holdOf.at 30 rfl) rfl ci_1 (by decide) rfl rfl ?_
          refine X_goto (tgt := 5) (tk_X10_holdOf.at 31 rfl) (by decide) ?_
          rw [hs_s, if_neg (fun g => g.elim c2 h33)] at z
          rw [nI_1 i]
          exact z
  refine X_iconst (tk_X10_holdOf.at 0 rfl) ci_0 ?_
  refine X_istore_n (lv' := [(0, _), (1, _), (2, _), (3, _)]) (tk_X10_holdOf.at 1 rfl) (by decide) rfl rfl ?_
  refine X_iconst (tk_X10_holdOf.at 2 rfl) ci_0 ?_
  refine X_istore (lv' := [(0, _), (1, _), (2, _), (3, _), (4, _)]) (tk_X10_holdOf.at 3 rfl) (by decide) rfl rfl ?_
  exact loop _ 0 (Nat.zero_add _)
