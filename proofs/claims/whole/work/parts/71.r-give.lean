theorem mn_sw (c V : Int32) : (if c < V then c else V) = (if V < c then V else c) := by
  by_cases h : c < V
  · rw [if_pos h, if_neg (Int32.not_lt.mpr (Int32.le_of_lt h))]
  · rw [if_neg h]
    by_cases g : V < c
    · rw [if_pos g]
    · rw [if_neg g]; exact Int32.le_antisymm (Int32.not_lt.mp h) (Int32.not_lt.mp g)
set_option maxHeartbeats 1000000 in
theorem c5_give {G : Gl} {d : Nat} {S : Sh} {μ : Mu} {E : Nat} {R u : Nat} {N : Nat → Int32} {x a b c e f : Int32} {K : Int32 → Sh → Mu → Prop} (hE : ES S E) (hw : WF N) (hu : u < 2) (hR : RS S R 50) (hn : μ R 1 = nI (nv (N (210 + 52 * u)))) (hcell : ∀ k, k < (nv (N (210 + 52 * u))) → μ (R + 1) k = tr (N (211 + 52 * u + k))) (hd2 : R ≠ E + 2) (hd3 : R + 1 ≠ E + 2) (hx : x = nI u) (hnm : ∀ i, i < 5 → μ (E + 1) i = nm5 a b c e f i) (hK : ∀ P, K (gv N u a b c e f) S (Mx μ (E + 2) P)) : X G mi_X5_give (d + 2) 0 0 [(0, .ref E), (1, .int x), (2, .ref R)] [] S μ (qi K) := by
  obtain ⟨hlo, hok, hfin⟩ := hw.tx hu
  have hln := hlo.1
  have bln := hlo.2
  have tail : ∀ (V : Int32) (P : Nat → Int32), (gvV N u a b c e f) = V → X G mi_X5_give (d + 2) 0 90 [(0, .ref E), (1, .int x), (2, .ref R), (3, .int V)] [] S (Mx μ (E + 2) P) (qi K) := by
    intro V P hV
    have z := hK P
    unfold gv at z
    rw [hV] at z
    refine X_iconst (tk_X5_give.at 58 rfl) ci_0 ?_
    refine X_iload_n (tk_X5_give.at 59 rfl) rfl ?_
    refine X_iload_n (tk_X5_give.at 60 rfl) rfl ?_
    refine X_if_neN (tgt := 102) (tk_X5_give.at 61 rfl) (by decide) hx (by omega) (fun c1 => ?_) (fun c1 => ?_)
    · refine X_sipush (tk_X5_give.at 64 rfl) cs_999 ?_
      refine X_min (tk_X5_give.at 65 rfl) lk_x5_32 (Nat.le_of_ble_eq_true rfl) ?_
      refine X_max (tk_X5_give.at 66 rfl) lk_x5_38 (Nat.le_of_ble_eq_true rfl) ?_
      refine X_ireturn (tk_X5_give.at 67 rfl) rfl rfl ?_
      rw [show cap u = 999 from if_neg c1, ← mn_sw] at z
      exact z
    · refine X_sipush (tk_X5_give.at 62 rfl) cs_1000 ?_
      refine X_goto (tgt := 105) (tk_X5_give.at 63 rfl) (by decide) ?_
      refine X_min (tk_X5_give.at 65 rfl) lk_x5_32 (Nat.le_of_ble_eq_true rfl) ?_
      refine X_max (tk_X5_give.at 66 rfl) lk_x5_38 (Nat.le_of_ble_eq_true rfl) ?_
      refine X_ireturn (tk_X5_give.at 67 rfl) rfl rfl ?_
      rw [show cap u = 1000 from if_pos c1, ← mn_sw] at z
      exact z
  refine X_aload_n (tk_X5_give.at 0 rfl) rfl ?_
  refine X_cV0i (lv2 := [(0, _)]) (tk_X5_give.at 1 rfl) mv_X6_size lk_x5_18 np_X6_size hR.1 (by decide) rfl (Nat.le_of_ble_eq_true rfl) (Nat.le_of_ble_eq_true rfl) rfl (c6_size hR hn bln (by decide) ?_)
  refine X_if_leN (tgt := 16) (tk_X5_give.at 2 rfl) (by decide) (pl (nv (N (210 + 52 * u))) rfl) (by omega) (fun c1 => ?_) (fun c1 => ?_)
  · refine X_iload_n (tk_X5_give.at 8 rfl) rfl ?_
    refine X_if_neN (tgt := 61) (tk_X5_give.at 9 rfl) (by decide) hx (by omega) (fun c2 => ?_) (fun c2 => ?_)
    · refine X_bipush (tk_X5_give.at 38 rfl) cb_47 ?_
      refine X_aload_n (tk_X5_give.at 39 rfl) rfl ?_
      refine X_getR (tk_X5_give.at 40 rfl) fl_x5_9 hE.1 rfl rfl ?_
      refine X_iconst (tk_X5_give.at 41 rfl) ci_0 ?_
      refine X_ialdN (k := 0) (tk_X5_give.at 42 rfl) hE.2.1 (pz (pl 0 rfl) (by omega)) (by omega) (by decide) ?_
      refine X_aload_n (tk_X5_give.at 43 rfl) rfl ?_
      refine X_getR (tk_X5_give.at 44 rfl) fl_x5_9 hE.1 rfl rfl ?_
      refine X_iconst (tk_X5_give.at 45 rfl) ci_1 ?_
      refine X_ialdN (k := 1) (tk_X5_give.at 46 rfl) hE.2.1 (pz (pl 1 rfl) (by omega)) (by omega) (by decide) ?_
      refine X_imul (tk_X5_give.at 47 rfl) ?_
      refine X_aload_n (tk_X5_give.at 48 rfl) rfl ?_
      refine X_getR (tk_X5_give.at 49 rfl) fl_x5_9 hE.1 rfl rfl ?_
      refine X_iconst (tk_X5_give.at 50 rfl) ci_2 ?_
      refine X_ialdN (k := 2) (tk_X5_give.at 51 rfl) hE.2.1 (pz (pl 2 rfl) (by omega)) (by omega) (by decide) ?_
      refine X_iconst (tk_X5_give.at 52 rfl) ci_1 ?_
      refine X_iadd (tk_X5_give.at 53 rfl) ?_
      refine X_cS3i (lv2 := [(0, _), (1, _), (2, _)]) (tk_X5_give.at 54 rfl) ms_X5_applied lk_x5_28 np_X5_applied (Nat.le_of_ble_eq_true rfl) (Nat.le_of_ble_eq_true rfl) rfl (c5_applied (op := 20008) (n := 20008) rfl (by decide) (by decide) rfl ?_)
      refine X_iconst (tk_X5_give.at 55 rfl) ci_5 ?_
      refine X_iadd (tk_X5_give.at 56 rfl) ?_
      refine X_istore_n (lv' := [(0, _), (1, _), (2, _), (3, _)]) (tk_X5_give.at 57 rfl) (by decide) rfl rfl ?_
      have z := tail ((dn 20008 ((μ (E + 1) 0) * (μ (E + 1) 1)) ((μ (E + 1) 2) + 1)) + 5) (μ (E + 2)) ?_
      · rw [Mx_self] at z; exact z
      · unfold gvV
        rw [if_neg (by omega), if_neg c2, hnm 0 (by decide), hnm 1 (by decide), hnm 2 (by decide)]
        rfl
    · refine X_aload_n (tk_X5_give.at 10 rfl) rfl ?_
      refine X_getR (tk_X5_give.at 11 rfl) fl_x5_9 hE.1 rfl rfl ?_
      refine X_iconst (tk_X5_give.at 12 rfl) ci_0 ?_
      refine X_ialdN (k := 0) (tk_X5_give.at 13 rfl) hE.2.1 (pz (pl 0 rfl) (by omega)) (by omega) (by decide) ?_
      refine X_aload_n (tk_X5_give.at 14 rfl) rfl ?_
      refine X_getR (tk_X5_give.at 15 rfl) fl_x5_9 hE.1 rfl rfl ?_
      refine X_iconst (tk_X5_give.at 16 rfl) ci_4 ?_
      refine X_ialdN (k := 4) (tk_X5_give.at 17 rfl) hE.2.1 (pz (pl 4 rfl) (by omega)) (by omega) (by decide) ?_
      refine X_aload_n (tk_X5_give.at 18 rfl) rfl ?_
      refine X_getR (tk_X5_give.at 19 rfl) fl_x5_9 hE.1 rfl rfl ?_
      refine X_iconst (tk_X5_give.at 20 rfl) ci_1 ?_
      refine X_ialdN (k := 1) (tk_X5_give.at 21 rfl) hE.2.1 (pz (pl 1 rfl) (by omega)) (by omega) (by decide) ?_
      refine X_imul (tk_X5_give.at 22 rfl) ?_
      refine X_iadd (tk_X5_give.at 23 rfl) ?_
      refine X_bipush (tk_X5_give.at 24 rfl) cb_10 ?_
      refine X_aload_n (tk_X5_give.at 25 rfl) rfl ?_
      refine X_getR (tk_X5_give.at 26 rfl) fl_x5_9 hE.1 rfl rfl ?_
      refine X_iconst (tk_X5_give.at 27 rfl) ci_2 ?_
      refine X_ialdN (k := 2) (tk_X5_give.at 28 rfl) hE.2.1 (pz (pl 2 rfl) (by omega)) (by omega) (by decide) ?_
      refine X_imul (tk_X5_give.at 29 rfl) ?_
      refine X_iadd (tk_X5_give.at 30 rfl) ?_
      refine X_aload_n (tk_X5_give.at 31 rfl) rfl ?_
      refine X_getR (tk_X5_give.at 32 rfl) fl_x5_9 hE.1 rfl rfl ?_
      refine X_iconst (tk_X5_give.at 33 rfl) ci_3 ?_
      refine X_ialdN (k := 3) (tk_X5_give.at 34 rfl) hE.2.1 (pz (pl 3 rfl) (by omega)) (by omega) (by decide) ?_
      refine X_isub (tk_X5_give.at 35 rfl) ?_
      refine X_istore_n (lv' := [(0, _), (1, _), (2, _), (3, _)]) (tk_X5_give.at 36 rfl) (by decide) rfl rfl ?_
      refine X_goto (tgt := 90) (tk_X5_give.at 37 rfl) (by decide) ?_
      have z := tail ((((μ (E + 1) 0) + ((μ (E + 1) 4) * (μ (E + 1) 1))) + (10 * (μ (E + 1) 2))) - (μ (E + 1) 3)) (μ (E + 2)) ?_
      · rw [Mx_self] at z; exact z
      · unfold gvV
        rw [if_neg (by omega), if_pos c2, hnm 0 (by decide), hnm 1 (by decide), hnm 2 (by decide), hnm 3 (by decide), hnm 4 (by decide)]
        rfl
  · refine X_aload_n (tk_X5_give.at 3 rfl) rfl ?_
    refine X_aload_n (tk_X5_give.at 4 rfl) rfl ?_
    refine X_cV1i (lv2 := [(0, _), (1, _)]) (tk_X5_give.at 5 rfl) mv_X5_valueOf lk_x5_24 np_X5_valueOf hE.1 (by decide) rfl (Nat.le_of_ble_eq_true rfl) (Nat.le_of_ble_eq_true rfl) rfl (c5_valueOf (C := fun k => N (211 + 52 * u + k)) hE hR hn bln (by decide) bln hcell hok (hfin c1) hd2 hd3 (fun P => ?_))
    refine X_istore_n (lv' := [(0, _), (1, _), (2, _), (3, _)]) (tk_X5_give.at 6 rfl) (by decide) rfl rfl ?_
    refine X_goto (tgt := 90) (tk_X5_give.at 7 rfl) (by decide) ?_
    refine tail _ P ?_
    unfold gvV
    rw [if_pos c1]
    exact congrFun (evf_congr hok (fun i hi => (hnm i hi).symm) _ (Nat.le_refl _)) 0
theorem rD_tsz {μ : Mu} {D : Nat} {N : Nat → Int32} (hw : WF N) (h : repD μ D N) {u : Nat} (hu : u < 2) : μ (D + 16 + 2 * u) 1 = nI (nv (N (210 + 52 * u))) := by
  rcases (show u = 0 ∨ u = 1 by omega) with e | e
  · subst e; exact h.2.2.2.2.2.2.2.2.2.1.1.trans (tx0 hw).1
  · subst e; exact h.2.2.2.2.2.2.2.2.2.2.1.trans (tx1 hw).1
theorem rD_tat {μ : Mu} {D : Nat} {N : Nat → Int32} (h : repD μ D N) {u : Nat} (hu : u < 2) (k : Nat) (hk : k < nv (N (210 + 52 * u))) : μ (D + 16 + 2 * u + 1) k = tr (N (211 + 52 * u + k)) := by
  rcases (show u = 0 ∨ u = 1 by omega) with e | e
  · subst e; exact h.2.2.2.2.2.2.2.2.2.1.2 k hk
  · subst e; exact h.2.2.2.2.2.2.2.2.2.2.2 k hk
theorem rD_tRS {G : Gl} {S : Sh} {D : Nat} (h : DS G S D) {u : Nat} (hu : u < 2) : RS S (D + 16 + 2 * u) 50 := by
  rcases (show u = 0 ∨ u = 1 by omega) with e | e
  · subst e; exact h.2.2.2.2.2.2.2.2.2.1
  · subst e; exact h.2.2.2.2.2.2.2.2.2.2.1
/-- what isn't of a dawn may change -/
theorem repD_of {μ ν : Mu} {D : Nat} {N : Nat → Int32} (h : repD μ D N) (hf : ∀ a, D ≤ a → a < D + 32 → ν a = μ a) : repD ν D N := by
  have e : ∀ k, k < 32 → ν (D + k) = μ (D + k) := fun k hk => hf _ (by omega) (by omega)
  have e0 : ν D = μ D := hf D (Nat.le_refl D) (by omega)
  have rw_ : ∀ (k : Nat) (x : Int32) (f : Nat → Int32), k + 1 < 32 → RwI μ (D + k) x f → RwI ν (D + k) x f := fun k x f hk z => ⟨by rw [e k (by omega)]; exact z.1, fun i hi => by rw [show D + k + 1 = D + (k + 1) from rfl, e (k + 1) hk]; exact z.2 i hi⟩
  obtain ⟨⟨a1, a2⟩, ⟨b1, b2⟩, ⟨c1, c2⟩, ⟨d1, d2⟩, l, t, w, r, n, x, y⟩ := h
  refine ⟨⟨by rw [e0]; exact a1, by rw [e0]; exact a2⟩, ⟨by rw [e 1 (by decide)]; exact b1, by rw [e 2 (by decide)]; exact b2⟩, ⟨by rw [e 3 (by decide)]; exact c1, by rw [e 4 (by decide)]; exact c2⟩, ⟨by rw [e 5 (by decide)]; exact d1, by rw [e 6 (by decide)]; exact d2⟩, rw_ 7 _ _ (by decide) l, rw_ 9 _ _ (by decide) t, rw_ 11 _ _ (by decide) w, fun q hq => ?_, by rw [e 14 (by decide)]; exact n, rw_ 16 _ _ (by decide) x, rw_ 18 _ _ (by decide) y⟩
  have z := rw_ (20 + 2 * q) _ _ (by omega) (show RwI μ (D + (20 + 2 * q)) _ _ from by rw [← Nat.add_assoc]; exact r q hq)
  rw [← Nat.add_assoc] at z
  exact z
theorem nm5_i {g : Nat → Int32} {a b c e f : Int32} : ∀ i, i < 5 → (upd (upd (upd (upd (upd g 0 a) 1 b) 2 c) 3 e) 4 f) i = nm5 a b c e f i := by
  intro i hi
  rcases (show i = 0 ∨ i = 1 ∨ i = 2 ∨ i = 3 ∨ i = 4 by omega) with rfl | rfl | rfl | rfl | rfl <;> rfl
theorem d_give {G : Gl} {d : Nat} {S : Sh} {μ : Mu} {E : Nat} {D u : Nat} {N : Nat → Int32} {x a b c e f : Int32} {K : Int32 → Sh → Mu → Prop} (hE : ES S E) (hD : DS G S D) (hw : WF N) (hr : repD μ D N) (hdis : D + 32 ≤ E ∨ E + 3 ≤ D) (hu : u < 2) (hx : x = nI u) (hnm : ∀ i, i < 5 → μ (E + 1) i = nm5 a b c e f i) (hK : ∀ P, K (gv N u a b c e f) S (Mx μ (E + 2) P)) : X G mi_X5_give (d + 2) 0 0 [(0, .ref E), (1, .int x), (2, .ref (D + 16 + 2 * u))] [] S μ (qi K) :=
  c5_give hE hw hu (rD_tRS hD hu) (rD_tsz hw hr hu) (rD_tat hr hu) (by omega) (by omega) hx hnm hK
