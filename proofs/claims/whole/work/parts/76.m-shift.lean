/-! How a crossing goes with its start. -/
section
variable {N : Nat → Int32} {x y : Int32}
theorem u0 (N : Nat → Int32) (x : Int32) {a : Nat} (h : a ≠ 0) : upd N 0 x a = N a := upd_ne _ _ h
theorem u0_lnA (k : Nat) : lnA (upd N 0 x) k = lnA N k := congrArg nv (u0 N x (by omega))
theorem u0_mny (r : Nat) : mny (upd N 0 x) r = mny N r := congrArg nv (u0 N x (by omega))
theorem u0_pcn (r : Nat) : ∀ i, pcn (upd N 0 x) r i = pcn N r i
  | 0 => rfl
  | i + 1 => by
    unfold pcn
    rw [u0_pcn r i, u0 N x (a := 84 + 9 * r + i) (by omega), u0 N x (a := 10 + 4 * nv (N (84 + 9 * r + i))) (by omega)]
theorem u0_pac (r : Nat) : pac (upd N 0 x) r = pac N r := by
  show pcn (upd N 0 x) r (nv (upd N 0 x (83 + 9 * r))) = _
  rw [u0 N x (a := 83 + 9 * r) (by omega), u0_pcn]
theorem u0_bef : ∀ k, bef (upd N 0 x) k = bef N k
  | 0 => rfl
  | k + 1 => by
    show bef (upd N 0 x) k + mny (upd N 0 x) (lnA (upd N 0 x) k) = bef N k + mny N (lnA N k)
    rw [u0_bef k, u0_lnA, u0_mny]
theorem u0_pull (p c : Nat) : pull (upd N 0 x) p c = pull N p c := by
  unfold pull
  rw [u0 N x (a := 8 + 4 * p) (by omega), u0 N x (a := 48 + 4 * c) (by omega)]
theorem u0_grp (r p j : Nat) (la : Bool) : grp (upd N 0 x) r p j la = grp N r p j la := by
  unfold grp
  rw [u0 N x (a := 80 + 9 * r) (by omega), u0 N x (a := 9 + 4 * p) (by omega), u0 N x (a := 81 + 9 * r) (by omega), u0 N x (a := 82 + 9 * r) (by omega)]
  simp only [u0 N x (a := 11 + 4 * p) (by omega)]
theorem u0_hs (r f : Nat) : ∀ i, i ≤ mny N r → hs (upd N 0 x) 0 r f i = hs N 0 r f i
  | 0, _ => rfl
  | i + 1, h => by
    rw [hs_s, hs_s, u0_hs r f i (by omega), u0 N x (a := 84 + 9 * r + i) (by omega), u0_grp, pcnt0, pcnt0, pcnt0, pcnt0, lastb0 (N := N) (show i < mny N r by omega), lastb0 (N := upd N 0 x) (by rw [u0_mny]; omega), u0_mny]
theorem u0_cst (r f c : Nat) : cst (upd N 0 x) 0 r f c = cst N 0 r f c := by
  unfold cst
  rw [u0 N x (a := 84 + 9 * r + f) (by omega), u0_pull, u0 N x (a := 83 + 9 * r) (by omega), u0_hs _ _ _ (Nat.le_refl _), u0 N x (a := 80 + 9 * r) (by omega)]
theorem u0_gv (u : Nat) (a b c d e : Int32) : gv (upd N 0 x) u a b c d e = gv N u a b c d e := by
  unfold gv gvV
  rw [u0 N x (a := 210 + 52 * u) (by omega), show (fun k => upd N 0 x (211 + 52 * u + k)) = (fun k => N (211 + 52 * u + k)) from funext (fun k => u0 N x (by omega))]
theorem offs_sh {f g : Nat → Nat} {a D P : Nat} (h : (∀ c, f c = 0 ∧ g c = 0) ∨ (∀ c, g c = f c + D)) : ∀ c, offs g (a + D) P c = offs f a P c + D
  | 0 => rfl
  | c + 1 => by
    have ih := offs_sh h (a := a) (P := P) c
    show mxn (offs g (a + D) P c) (g c) + P = mxn (offs f a P c) (f c) + P + D
    rw [ih]
    unfold mxn
    rcases h with h | h
    · rw [(h c).1, (h c).2, if_neg (by omega), if_neg (by omega)]; omega
    · rw [h c]
      split
      · rw [if_pos (by omega)]; omega
      · rw [if_neg (by omega)]; omega
theorem fre_sh {a D : Nat} (hb : a + D < 2 ^ 31) : ∀ k, (∀ c, fre (upd N 0 (nI a)) k c = 0 ∧ fre (upd N 0 (nI (a + D))) k c = 0) ∨ (∀ c, fre (upd N 0 (nI (a + D))) k c = fre (upd N 0 (nI a)) k c + D)
  | 0 => Or.inl (fun _ => ⟨rfl, rfl⟩)
  | k + 1 => by
    have ih := fre_sh hb k
    unfold fre
    rw [u0_lnA, u0_lnA, u0_mny, u0_mny, u0_pac, u0_pac, upd_at, upd_at, nv_nI hb, nv_nI (show a < 2 ^ 31 by omega)]
    by_cases e : mny N (lnA N k) = 0
    · rw [if_pos e, if_pos e]; exact ih
    · rw [if_neg e, if_neg e]
      exact Or.inr (fun c => offs_sh ih (c + 1))
theorem ofk_sh {a D : Nat} (hb : a + D < 2 ^ 31) (k c : Nat) : ofk (upd N 0 (nI (a + D))) k c = ofk (upd N 0 (nI a)) k c + D := by
  show offs _ (nv (upd N 0 _ 0)) _ c = offs _ (nv (upd N 0 _ 0)) _ c + D
  rw [u0_lnA, u0_lnA, u0_pac, u0_pac, upd_at, upd_at, nv_nI hb, nv_nI (show a < 2 ^ 31 by omega)]
  exact offs_sh (fre_sh hb k) c
theorem arv_sh {a D : Nat} (hb : a + D < 2 ^ 31) (k c : Nat) : arv (upd N 0 (nI (a + D))) k c = arv (upd N 0 (nI a)) k c + D := by
  unfold arv
  rw [ofk_sh hb k c]
  unfold mxn
  rcases fre_sh (N := N) hb k with h | h
  · rw [(h c).1, (h c).2, if_neg (by omega), if_neg (by omega)]
  · rw [h c]
    split
    · rw [if_pos (by omega)]
    · rw [if_neg (by omega)]
theorem ovr_sh {a D : Nat} (hb : a + D < 2 ^ 31) : ∀ k, ovr (upd N 0 (nI (a + D))) k = ovr (upd N 0 (nI a)) k + D
  | 0 => by
    show nv (upd N 0 _ 0) = nv (upd N 0 _ 0) + D
    rw [upd_at, upd_at, nv_nI hb, nv_nI (show a < 2 ^ 31 by omega)]
  | k + 1 => by
    have ih := ovr_sh hb k
    unfold ovr
    rw [u0_lnA, u0_lnA, u0_mny, u0_mny, ofk_sh hb, u0 N _ (a := 2) (by decide), u0 N _ (a := 2) (by decide)]
    split
    · exact ih
    · rfl
theorem t3_sh {a k i : Nat} (hb : a + 1 < 2 ^ 31) (h : ∀ c, c < nv (N 2) → ¬ arv (upd N 0 (nI (a + 1))) k c % 60 = 0) : ∀ c, c ≤ nv (N 2) → t3 (upd N 0 (nI (a + 1))) k i c = t3 (upd N 0 (nI a)) k i c
  | 0, _ => rfl
  | c + 1, hc => by
    have ih := t3_sh hb h (i := i) c (by omega)
    show t3 _ k i c + cst _ 0 (lnA _ k) i c * rkc _ k i c = t3 _ k i c + cst _ 0 (lnA _ k) i c * rkc _ k i c
    rw [ih, u0_lnA, u0_lnA, u0_cst, u0_cst]
    have e : rkc (upd N 0 (nI (a + 1))) k i c = rkc (upd N 0 (nI a)) k i c := by
      unfold rkc
      have h1 := h c (by omega)
      have e1 : arv (upd N 0 (nI (a + 1))) k c / 60 = arv (upd N 0 (nI a)) k c / 60 := by
        rw [arv_sh hb] at h1 ⊢
        omega
      rw [e1, u0_gv, u0_gv, u0_bef, u0_bef, u0_lnA, u0_lnA, u0 N _ (a := 84 + 9 * lnA N k + i) (by omega), u0 N _ (a := 84 + 9 * lnA N k + i) (by omega), u0 N _ (a := 49 + 4 * c) (by omega), u0 N _ (a := 49 + 4 * c) (by omega), u0 N _ (a := 50 + 4 * c) (by omega), u0 N _ (a := 50 + 4 * c) (by omega), u0 N _ (a := 8 + 4 * nv (N (84 + 9 * lnA N k + i))) (by omega), u0 N _ (a := 8 + 4 * nv (N (84 + 9 * lnA N k + i))) (by omega)]
    rw [e]
theorem t2_sh {a k : Nat} (hb : a + 1 < 2 ^ 31) (h : ∀ c, c < nv (N 2) → ¬ arv (upd N 0 (nI (a + 1))) k c % 60 = 0) : ∀ i, t2 (upd N 0 (nI (a + 1))) k i = t2 (upd N 0 (nI a)) k i
  | 0 => rfl
  | i + 1 => by
    show t2 _ k i + t3 _ k i (nv (upd N 0 _ 2)) = t2 _ k i + t3 _ k i (nv (upd N 0 _ 2))
    rw [t2_sh hb h i, u0 N _ (a := 2) (by decide), u0 N _ (a := 2) (by decide), t3_sh hb h _ (Nat.le_refl _)]
theorem t1_sh {a : Nat} (hb : a + 1 < 2 ^ 31) (h : ¬ trn (upd N 0 (nI (a + 1)))) : ∀ k, k ≤ nv (N 4) → t1 (upd N 0 (nI (a + 1))) k = t1 (upd N 0 (nI a)) k
  | 0, _ => rfl
  | k + 1, hk => by
    show t1 _ k + t2 _ k (mny _ (lnA _ k)) = t1 _ k + t2 _ k (mny _ (lnA _ k))
    rw [t1_sh hb h k (by omega), u0_lnA, u0_lnA, u0_mny, u0_mny]
    rcases Nat.eq_zero_or_pos (mny N (lnA N k)) with e | e
    · rw [e]; rfl
    · rw [t2_sh hb (fun c hc g => h ⟨k, c, by rw [u0 N _ (a := 4) (by decide)]; omega, by rw [u0_lnA, u0_mny]; exact e, by rw [u0 N _ (a := 2) (by decide)]; exact hc, g⟩)]
theorem tlM_sh {a : Nat} (hb : a + 1 < 2 ^ 31) (h : ¬ trn (upd N 0 (nI (a + 1)))) : tlM N (a + 1) = tlM N a := by
  unfold tlM toll
  rw [u0 N _ (a := 4) (by decide), u0 N _ (a := 4) (by decide)]
  exact t1_sh hb h _ (Nat.le_refl _)
end
theorem bw_min {ok : Nat → Prop} {tl : Nat → Nat} {a : Nat} : ∀ {k j : Nat}, j < k → ok (a + j) → ∃ t c, bw ok tl a k = some (t, c) ∧ t ≤ tl (a + j)
  | 0, _, h, _ => absurd h (Nat.not_lt_zero _)
  | k + 1, j, h, hj => by
    by_cases g : ok (a + k) ∧ btr (bw ok tl a k) (tl (a + k))
    · rw [bw_t g.1 g.2]
      refine ⟨_, _, rfl, ?_⟩
      by_cases e : j = k
      · rw [e]; exact Nat.le_refl _
      · obtain ⟨t, c, h1, h2⟩ := bw_min (tl := tl) (show j < k by omega) hj
        have g2 := g.2
        rw [h1] at g2
        exact Nat.le_trans (Nat.le_of_lt g2) h2
    · have e2 : bw ok tl a (k + 1) = bw ok tl a k := if_neg g
      rw [e2]
      by_cases e : j = k
      · subst e
        cases hb : bw ok tl a j with
        | none => exact absurd ⟨hj, by rw [hb]; trivial⟩ g
        | some p =>
          obtain ⟨t, c⟩ := p
          refine ⟨t, c, rfl, ?_⟩
          rcases Nat.lt_or_ge (tl (a + j)) t with q | q
          · exact absurd ⟨hj, by rw [hb]; exact q⟩ g
          · exact q
      · exact bw_min (show j < k by omega) hj
theorem bw_same {tl : Nat → Nat} {a k : Nat} (h : tl (a + (k + 1)) = tl (a + k)) : bw (fun _ => True) tl a (k + 2) = bw (fun _ => True) tl a (k + 1) := by
  obtain ⟨t, c, h1, h2⟩ := bw_min (ok := fun _ => True) (tl := tl) (a := a) (k := k + 1) (j := k) (by omega) trivial
  refine bw_f ?_
  rw [h1, h]
  exact Nat.not_lt.mpr h2
