theorem RM_init {μ : Mu} {R : Nat} : su (su (su μ R 3 0) R 4 0) (R + 1) 1 0 = RM μ R 0 false 0 (μ (R + 2)) := by
  funext a
  unfold RM
  by_cases e1 : a = R + 1
  · subst e1
    rw [su_same, su_ne (by omega), su_ne (by omega), if_neg (by omega), if_pos rfl]
    rfl
  · rw [su_ne e1]
    by_cases e : a = R
    · subst e
      rw [su_same, su_same, if_pos rfl]
      rfl
    · rw [su_ne e, su_ne e, if_neg e, if_neg e1]
      split
      · next c => rw [c]
      · rfl
theorem Su_2 (S : Sh) (R t0 q0 t q : Nat) : Su (Su S R (kO 4 (va_up (rRq R t0 q0) 1 (some t)))) R (kO 4 (va_up (va_up (rRq R t0 q0) 1 (some t)) 2 (some q))) = Su S R (kO 4 (rRq R t q)) := by
  unfold Su
  congr 1
  funext a
  by_cases e : a = R
  · rw [if_pos e, if_pos e]
    congr 3
    funext k
    unfold va_up rRq
    rcases k with _ | _ | _ | k <;> simp
  · rw [if_neg e, if_neg e]; exact if_neg e
theorem Su_ne {S : Sh} {R a : Nat} {k : Kd} (h : a ≠ R) : (Su S R k).2 a = S.2 a := if_neg h
theorem Su_at {S : Sh} {R : Nat} {k : Kd} : (Su S R k).2 R = some k := if_pos rfl
set_option maxHeartbeats 1000000 in
theorem c4_read {G : Gl} {d : Nat} {S : Sh} {μ : Mu} {R t n u t0 q0 : Nat} {T C0 : Nat → Int32} {K : Int32 → Sh → Mu → Prop} (hR : RdS S R t0 q0) (hT : TxB G S μ) (hlo : ∀ v, v < 2 → G.2.2.2 (11 + v) < R ∧ G.2.2.2 (11 + v + 20) < R) (hu : u < 2) (ht : RS S t 50) (htn : μ t 1 = nI n) (hn : n ≤ 50) (htc : ∀ i, i < n → μ (t + 1) i = T i) (hTb : ∀ i, i < n → okN (T i) 255) (hdis : t + 2 ≤ R ∨ R + 3 ≤ t) (k1 : ((pF T n (nmU u) 1013 0 0 0 (0, false, 0, C0)).2.1 = true ∨ (pF T n (nmU u) 1013 0 0 0 (0, false, 0, C0)).1 < n) → ∀ w c C, K (nI (pF T n (nmU u) 1013 0 0 0 (0, false, 0, C0)).1) (Su S R (kO 4 (rRq R t (G.2.2.2 (11 + u))))) (RM μ R (pF T n (nmU u) 1013 0 0 0 (0, false, 0, C0)).1 w c C)) (k2 : (pF T n (nmU u) 1013 0 0 0 (0, false, 0, C0)).2.1 = false → n ≤ (pF T n (nmU u) 1013 0 0 0 (0, false, 0, C0)).1 → ∀ C, (∀ i, i < (pF T n (nmU u) 1013 0 0 0 (0, false, 0, C0)).2.2.1 → C i = tr ((pF T n (nmU u) 1013 0 0 0 (0, false, 0, C0)).2.2.2 i)) → (pF T n (nmU u) 1013 0 0 0 (0, false, 0, C0)).2.2.1 ≤ 50 → K (-1) (Su S R (kO 4 (rRq R t (G.2.2.2 (11 + u))))) (RM μ R (pF T n (nmU u) 1013 0 0 0 (0, false, 0, C0)).1 false (pF T n (nmU u) 1013 0 0 0 (0, false, 0, C0)).2.2.1 C)) : X G mi_X4_read (d + 56) 0 0 [(0, .ref R), (1, .ref t), (2, .ref (G.2.2.2 (11 + u)))] [] S μ (qi K) := by
  have hR1 : RS (Su S R (kO 4 (rRq R t (G.2.2.2 (11 + u))))) (R + 1) 50 := ⟨by rw [Su_ne (by omega)]; exact hR.2.1, by rw [Su_ne (by omega)]; exact hR.2.2⟩
  have ht1 : RS (Su S R (kO 4 (rRq R t (G.2.2.2 (11 + u))))) t 50 := ⟨by rw [Su_ne (by omega)]; exact ht.1, by rw [Su_ne (by omega)]; exact ht.2⟩
  have hC : RdC G (Su S R (kO 4 (rRq R t (G.2.2.2 (11 + u))))) μ R t n u T := ⟨⟨⟨Su_at, hR1⟩, hu, ht1, hn⟩, fun p w c C v hv => ⟨by rw [Su_ne (by have := hlo v hv; omega)]; exact (hT v hv).1, by rw [Su_ne (by have := hlo v hv; omega)]; exact (hT v hv).2.1, fun i hi => by rw [RM_out (by have := hlo v hv; omega)]; exact (hT v hv).2.2 i hi⟩, fun p w c C => by rw [RM_out (by omega)]; exact htn, fun p w c C i hi => by rw [RM_out (by omega)]; exact htc i hi, hTb⟩
  refine X_aload_n (tk_X4_read.at 0 rfl) rfl ?_
  refine X_aload_n (tk_X4_read.at 1 rfl) rfl ?_
  refine X_putR (tk_X4_read.at 2 rfl) fl_x4_20 hR.1 rfl rfl ⟨rfl, rfl⟩ ?_
  refine X_aload_n (tk_X4_read.at 3 rfl) rfl ?_
  refine X_aload_n (tk_X4_read.at 4 rfl) rfl ?_
  refine X_putR (tk_X4_read.at 5 rfl) fl_x4_25 Su_at rfl rfl ⟨rfl, rfl⟩ ?_
  rw [Su_2]
  refine X_aload_n (tk_X4_read.at 6 rfl) rfl ?_
  refine X_iconst (tk_X4_read.at 7 rfl) ci_0 ?_
  refine X_putI (tk_X4_read.at 8 rfl) fl_x4_29 Su_at rfl rfl ⟨rfl, rfl⟩ ?_
  refine X_aload_n (tk_X4_read.at 9 rfl) rfl ?_
  refine X_iconst (tk_X4_read.at 10 rfl) ci_0 ?_
  refine X_putI (tk_X4_read.at 11 rfl) fl_x4_33 Su_at rfl rfl ⟨rfl, rfl⟩ ?_
  refine X_aload_n (tk_X4_read.at 12 rfl) rfl ?_
  refine X_getR (tk_X4_read.at 13 rfl) fl_x4_14 Su_at rfl rfl ?_
  refine X_cV0v (lv2 := [(0, _)]) (tk_X4_read.at 14 rfl) mv_X6_empty lk_x4_37 np_X6_empty hR1.1 (by decide) rfl (Nat.le_of_ble_eq_true rfl) (Nat.le_of_ble_eq_true rfl) rfl (c6_empty (n := 0) hR1 ?_)
  rw [RM_init]
  refine X_aload_n (tk_X4_read.at 15 rfl) rfl ?_
  refine X_iconst (tk_X4_read.at 16 rfl) ci_0 ?_
  refine X_iconst (tk_X4_read.at 17 rfl) ci_0 ?_
  refine X_cV2v (lv2 := [(0, _), (1, _), (2, _)]) (tk_X4_read.at 18 rfl) mv_X4_readLevel lk_x4_40 np_X4_readLevel Su_at (by decide) rfl (Nat.le_of_ble_eq_true rfl) (Nat.le_of_ble_eq_true rfl) rfl ((rd_all hC 1013).2.1 0 0 (0, false, 0, C0) 0 (μ (R + 2)) _ _ (by decide) (by decide) (Nat.zero_le _) (Nat.le_refl _) rfl ⟨rfl, by decide, fun _ => ⟨rfl, fun i hi => absurd hi (Nat.not_lt_zero i)⟩⟩ (by show 20 * (n - 0) + 12 < 1013; omega) (by omega) (fun w c C hrel => ?_))
  have hg := pF_g (T := T) (nm := nmU u) 1013 0 0 0 (0, false, 0, C0) (Nat.zero_le n) (by decide)
  generalize hps : (pF T n (nmU u) 1013 0 0 0 (0, false, 0, C0)) = ps at k1 k2 hrel hg ⊢
  have hg1 := hg.2.1
  cases ew : ps.2.1 with
  | true =>
    obtain rfl : w = true := hrel.1.trans ew
    refine X_aload_n (tk_X4_read.at 19 rfl) rfl ?_
    refine X_getI (tk_X4_read.at 20 rfl) fl_x4_33 Su_at rfl ?_
    rw [RM4, bN_t]
    change X _ _ _ _ _ _ (.int 1 :: _) _ _ _
    refine X_if_ne (tgt := 54) (tk_X4_read.at 21 rfl) (by decide) (fun _ => ?_) (fun h => absurd h (by decide))
    refine X_aload_n (tk_X4_read.at 28 rfl) rfl ?_
    refine X_getI (tk_X4_read.at 29 rfl) fl_x4_29 Su_at rfl ?_
    refine X_ireturn (tk_X4_read.at 30 rfl) rfl rfl ?_
    rw [RM3]
    exact k1 (Or.inl ew) _ _ _
  | false =>
    obtain rfl : w = false := hrel.1.trans ew
    have hc := hrel.2.2 ew
    refine X_aload_n (tk_X4_read.at 19 rfl) rfl ?_
    refine X_getI (tk_X4_read.at 20 rfl) fl_x4_33 Su_at rfl ?_
    rw [RM4, bN_f]
    change X _ _ _ _ _ _ (.int 0 :: _) _ _ _
    refine X_if_ne (tgt := 54) (tk_X4_read.at 21 rfl) (by decide) (fun h => absurd h (by decide)) (fun _ => ?_)
    refine X_aload_n (tk_X4_read.at 22 rfl) rfl ?_
    refine X_getI (tk_X4_read.at 23 rfl) fl_x4_29 Su_at rfl ?_
    refine X_aload_n (tk_X4_read.at 24 rfl) rfl ?_
    refine X_getR (tk_X4_read.at 25 rfl) fl_x4_20 Su_at rfl rfl ?_
    refine X_cV0i (lv2 := [(0, _)]) (tk_X4_read.at 26 rfl) mv_X6_size lk_x4_44 np_X6_size ht1.1 (by decide) rfl (Nat.le_of_ble_eq_true rfl) (Nat.le_of_ble_eq_true rfl) rfl (c6_size ht1 (hC.2.2.1 _ _ _ _) hn (by decide) ?_)
    refine X_icmp_geN (tgt := 59) (tk_X4_read.at 27 rfl) (by decide) RM3 (pl n rfl) (by omega) (by omega) (fun c2 => ?_) (fun c2 => ?_)
    · refine X_iconst (tk_X4_read.at 31 rfl) ci_m1 ?_
      refine X_ireturn (tk_X4_read.at 32 rfl) rfl rfl ?_
      obtain ⟨hc1, hc2⟩ := hc
      have hl := hrel.2.1
      subst hc1
      exact k2 ew (by omega) C hc2 hl
    · refine X_aload_n (tk_X4_read.at 28 rfl) rfl ?_
      refine X_getI (tk_X4_read.at 29 rfl) fl_x4_29 Su_at rfl ?_
      refine X_ireturn (tk_X4_read.at 30 rfl) rfl rfl ?_
      rw [RM3]
      exact k1 (Or.inr (by omega)) _ _ _
