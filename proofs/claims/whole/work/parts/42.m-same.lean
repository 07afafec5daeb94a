/-- two rows that differ at most in seats that are empty -/
def Eqv (N M : Nat → Int32) : Prop := (∀ a, (a < 80 ∧ a ≠ 7) ∨ 134 ≤ a → M a = N a) ∧ ∀ r, r < nv (N 3) → M (80 + 9 * r) = N (80 + 9 * r) ∧ M (81 + 9 * r) = N (81 + 9 * r) ∧ M (82 + 9 * r) = N (82 + 9 * r) ∧ M (83 + 9 * r) = N (83 + 9 * r) ∧ ∀ i, i < nv (N (83 + 9 * r)) → M (84 + 9 * r + i) = N (84 + 9 * r + i)
theorem pcnt_e {N M : Nat → Int32} (hw : WF N) (he : Eqv N M) {L : Int32} {r : Nat} (hr : r < nv (N 3)) : ∀ i, i ≤ mny N r → pcnt M L r i = pcnt N L r i
  | 0, _ => rfl
  | i + 1, h => by
    have ih := pcnt_e hw he hr (L := L) i (by omega)
    have e := (he.2 r hr).2.2.2.2 i (by have : i + 1 ≤ nv (N (83 + 9 * r)) := h; omega)
    rw [pcnt, pcnt, ih, e]
theorem lastb_e {N M : Nat → Int32} (hw : WF N) (he : Eqv N M) {L : Int32} {r i : Nat} (hr : r < nv (N 3)) : lastb M L r i = lastb N L r i := by
  unfold lastb
  apply decide_eq_decide.mpr
  have e3 := (he.2 r hr).2.2.2.1
  constructor
  · intro h k hk hik
    rw [← (he.2 r hr).2.2.2.2 k hk]
    exact h k (by rw [e3]; exact hk) hik
  · intro h k hk hik
    rw [e3] at hk
    rw [(he.2 r hr).2.2.2.2 k hk]
    exact h k hk hik
theorem grp_e {N M : Nat → Int32} (hw : WF N) (he : Eqv N M) {r p j : Nat} {la : Bool} (hr : r < nv (N 3)) (hp : p < 10) : grp M r p j la = grp N r p j la := by
  unfold grp
  obtain ⟨a0, a1, a2, a3, a4⟩ := he.2 r hr
  rw [a0, a1, a2, he.1 (9 + 4 * p) (by omega)]
  have e : M (11 + 4 * p) = N (11 + 4 * p) := he.1 _ (by omega)
  unfold gk
  simp only [e]
theorem hs_e {N M : Nat → Int32} (hw : WF N) (he : Eqv N M) {L : Int32} {r f : Nat} (hr : r < nv (N 3)) (hf : f ≤ mny N r) : ∀ i, i ≤ mny N r → hs M L r f i = hs N L r f i
  | 0, _ => rfl
  | i + 1, h => by
    have b3 := hw.n3.2
    have b1 := hw.n1.2
    have hi : i < nv (N (83 + 9 * r)) := h
    have ih := hs_e hw he (L := L) hr hf i (by omega)
    have e := (he.2 r hr).2.2.2.2 i hi
    have hp := ((hw.ro hr).2.2.2.2 i hi).2
    rw [hs_s, hs_s, ih, e, grp_e hw he hr (by omega), pcnt_e hw he hr i (by omega), pcnt_e hw he hr f hf, lastb_e hw he hr]
theorem cst_e {N M : Nat → Int32} (hw : WF N) (he : Eqv N M) {L : Int32} {r f c : Nat} (hr : r < nv (N 3)) (hf : f < mny N r) (hc : c < 8) : cst M L r f c = cst N L r f c := by
  have b3 := hw.n3.2
  have b1 := hw.n1.2
  have hp := ((hw.ro hr).2.2.2.2 f hf).2
  obtain ⟨a0, a1, a2, a3, a4⟩ := he.2 r hr
  unfold cst
  rw [a4 f hf, a3, a0, hs_e hw he hr (Nat.le_of_lt hf) _ (Nat.le_refl _)]
  unfold pull
  rw [he.1 (8 + 4 * nv (N (84 + 9 * r + f))) (by omega), he.1 (48 + 4 * c) (by omega)]
theorem pcn_e {N M : Nat → Int32} (hw : WF N) (he : Eqv N M) {r : Nat} (hr : r < nv (N 3)) : ∀ i, i ≤ mny N r → pcn M r i = pcn N r i
  | 0, _ => rfl
  | i + 1, h => by
    have b3 := hw.n3.2
    have b1 := hw.n1.2
    have hi : i < nv (N (83 + 9 * r)) := h
    have ih := pcn_e hw he hr i (by omega)
    have e := (he.2 r hr).2.2.2.2 i hi
    have hp := ((hw.ro hr).2.2.2.2 i hi).2
    rw [pcn, pcn, ih, e, he.1 (10 + 4 * nv (N (84 + 9 * r + i))) (by omega)]
theorem pac_e {N M : Nat → Int32} (hw : WF N) (he : Eqv N M) {r : Nat} (hr : r < nv (N 3)) : pac M r = pac N r := by
  have b3 := hw.n3.2
  show pcn M r (nv (M (83 + 9 * r))) = _
  rw [(he.2 r hr).2.2.2.1]
  exact pcn_e hw he hr _ (Nat.le_refl _)
theorem lnA_e {N M : Nat → Int32} (hw : WF N) (he : Eqv N M) {k : Nat} : lnA M k = lnA N k := congrArg nv (he.1 _ (by omega))
theorem mny_e {N M : Nat → Int32} (hw : WF N) (he : Eqv N M) {r : Nat} (hr : r < nv (N 3)) : mny M r = mny N r := by
  have b3 := hw.n3.2
  exact congrArg nv (he.2 r hr).2.2.2.1
theorem bef_e {N M : Nat → Int32} (hw : WF N) (he : Eqv N M) : ∀ k, k ≤ nv (N 4) → bef M k = bef N k
  | 0, _ => rfl
  | k + 1, h => by
    have ih := bef_e hw he k (by omega)
    have hl := (hw.li (k := k) (by omega)).2
    rw [bef, bef, ih]
    have e := lnA_e hw he (k := k)
    show _ + mny M (lnA M k) = _ + mny N (lnA N k)
    rw [e, mny_e hw he hl]
theorem fre_e {N M : Nat → Int32} (hw : WF N) (he : Eqv N M) : ∀ k, k ≤ nv (N 4) → fre M k = fre N k
  | 0, _ => rfl
  | k + 1, h => by
    have ih := fre_e hw he k (by omega)
    have hl := (hw.li (k := k) (by omega)).2
    have e := lnA_e hw he (k := k)
    have e0 : M 0 = N 0 := he.1 0 (by omega)
    rw [fre, fre, ih, e, mny_e hw he hl, pac_e hw he hl, e0]
theorem arv_e {N M : Nat → Int32} (hw : WF N) (he : Eqv N M) {k c : Nat} (hk : k < nv (N 4)) : arv M k c = arv N k c := by
  have hl := (hw.li hk).2
  have e := lnA_e hw he (k := k)
  have e0 : M 0 = N 0 := he.1 0 (by omega)
  unfold arv
  show mxn (offs (fre M k) (nv (M 0)) (pac M (lnA M k)) c) (fre M k c) = _
  rw [fre_e hw he k (by omega), e, pac_e hw he hl, e0]
theorem ovr_e {N M : Nat → Int32} (hw : WF N) (he : Eqv N M) : ∀ k, k ≤ nv (N 4) → ovr M k = ovr N k
  | 0, _ => by show nv (M 0) = nv (N 0); rw [he.1 0 (by omega)]
  | k + 1, h => by
    have ih := ovr_e hw he k (by omega)
    have hl := (hw.li (k := k) (by omega)).2
    have e := lnA_e hw he (k := k)
    have e0 : M 0 = N 0 := he.1 0 (by omega)
    have e2 : M 2 = N 2 := he.1 2 (by omega)
    rw [ovr, ovr, ih, e, mny_e hw he hl, e2]
    show (if _ then _ else offs (fre M k) (nv (M 0)) (pac M (lnA M k)) _) = _
    rw [fre_e hw he k (by omega), e, pac_e hw he hl, e0]
theorem gv_e {N M : Nat → Int32} (hw : WF N) (he : Eqv N M) {u : Nat} {a b c d e : Int32} : gv M u a b c d e = gv N u a b c d e := by
  have h1 : M (210 + 52 * u) = N (210 + 52 * u) := he.1 _ (by omega)
  have h2 : (fun k => M (211 + 52 * u + k)) = (fun k => N (211 + 52 * u + k)) := funext (fun k => he.1 _ (by omega))
  unfold gv gvV
  rw [h1, h2]
theorem rkc_e {N M : Nat → Int32} (hw : WF N) (he : Eqv N M) {k i c : Nat} (hk : k < nv (N 4)) (hi : i < mny N (lnA N k)) (hc : c < 8) : rkc M k i c = rkc N k i c := by
  have b1 := hw.n1.2
  have b3 := hw.n3.2
  have hl := (hw.li hk).2
  have e := lnA_e hw he (k := k)
  have hp : nv (N (84 + 9 * lnA N k + i)) < nv (N 1) := ((hw.ro hl).2.2.2.2 i hi).2
  have hl2 : lnA N k < nv (N 3) := hl
  have e5 : M (84 + 9 * lnA N k + i) = N (84 + 9 * lnA N k + i) := (he.2 (lnA N k) hl2).2.2.2.2 i hi
  unfold rkc
  rw [e, e5, he.1 (8 + 4 * nv (N (84 + 9 * lnA N k + i))) (by omega), arv_e hw he hk, bef_e hw he k (by omega), he.1 (49 + 4 * c) (by omega), he.1 (50 + 4 * c) (by omega), gv_e hw he]
theorem t3_e {N M : Nat → Int32} (hw : WF N) (he : Eqv N M) {k i : Nat} (hk : k < nv (N 4)) (hi : i < mny N (lnA N k)) : ∀ c, c ≤ 8 → t3 M k i c = t3 N k i c
  | 0, _ => rfl
  | c + 1, h => by
    have ih := t3_e hw he hk hi c (by omega)
    have hl := (hw.li hk).2
    have e := lnA_e hw he (k := k)
    rw [t3, t3, ih, e, cst_e hw he hl hi (by omega), rkc_e hw he hk hi (by omega)]
theorem t2_e {N M : Nat → Int32} (hw : WF N) (he : Eqv N M) {k : Nat} (hk : k < nv (N 4)) : ∀ i, i ≤ mny N (lnA N k) → t2 M k i = t2 N k i
  | 0, _ => rfl
  | i + 1, h => by
    have ih := t2_e hw he hk i (by omega)
    have e2 : M 2 = N 2 := he.1 2 (by omega)
    rw [t2, t2, ih, e2, t3_e hw he hk (by omega) _ hw.n2.2]
theorem t1_e {N M : Nat → Int32} (hw : WF N) (he : Eqv N M) : ∀ k, k ≤ nv (N 4) → t1 M k = t1 N k
  | 0, _ => rfl
  | k + 1, h => by
    have ih := t1_e hw he k (by omega)
    have hl := (hw.li (k := k) (by omega)).2
    have e := lnA_e hw he (k := k)
    rw [t1, t1, ih, e, mny_e hw he hl, t2_e hw he (by omega) _ (Nat.le_refl _)]
theorem toll_e {N M : Nat → Int32} (hw : WF N) (he : Eqv N M) : toll M = toll N := by
  unfold toll
  rw [he.1 4 (by omega)]
  exact t1_e hw he _ (Nat.le_refl _)
