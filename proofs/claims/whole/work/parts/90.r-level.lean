set_option maxHeartbeats 1000000 in
theorem c4_rest {G : Gl} {S : Sh} {μ : Mu} {R t n u f : Nat} {T : Nat → Int32} (hC : RdC G S μ R t n u T) {l e op c D : Nat} {s : Ps} {w : Bool} {C : Nat → Int32} {K : Sh → Mu → Prop} {rest : List (Nat × Value)} (hl : l ≤ 4) (he : e ≤ s.1) (he2 : l = 2 → e = 0) (hop : op ≤ 5) (hp : s.1 ≤ n) (hcs : s.2.2.1 ≤ s.1) (hrel : RelS s w c C) (ihL : RLY G S μ R n u T f) (ihR : RRY G S μ R n u T f) (hf : 20 * (n - s.1) + 1 < f + 1) (hD : 8 * (5 - op) + (5 - l) + 9 ≤ D) (hK : ∀ w' c' C', RelS (pF T n (nmU u) (f + 1) 1 l op s) w' c' C' → K S (RM μ R (pF T n (nmU u) (f + 1) 1 l op s).1 w' c' C')) : X G mi_X4_readLevel D 0 34 ([(0, .ref R), (1, .int (nI l)), (2, .int (nI op)), (3, .int (nI (if l = 2 then 1 else 50))), (4, .int (nI e))] ++ rest) [] S (RM μ R s.1 w c C) (qv K) := by
  obtain ⟨D, rfl⟩ : ∃ D', D = D' + 1 := ⟨D - 1, by omega⟩
  refine X_lvp [0, 1, 2, 3, 4] (lv' := [(0, _), (1, _), (2, _), (3, _), (4, _)]) rfl ?_
  have hn50 := hC.1.2.2.2
  obtain ⟨mo, hmo, hmo2⟩ : ∃ mo, (if l = 2 then 1 else 50) = mo ∧ ((l = 2 ∧ mo = 1) ∨ (l ≠ 2 ∧ mo = 50)) := ⟨_, rfl, by by_cases c : l = 2; exact Or.inl ⟨c, if_pos c⟩; exact Or.inr ⟨c, if_neg c⟩⟩
  rw [hmo]
  cases ew : s.2.1 with
  | true =>
    obtain rfl : w = true := hrel.1.trans ew
    refine X_iload (tk_X4_readLevel.at 22 rfl) rfl ?_
    refine X_iload_n (tk_X4_readLevel.at 23 rfl) rfl ?_
    refine X_icmp_geN (tgt := 115) (tk_X4_readLevel.at 24 rfl) (by decide) (pl e rfl) (pl mo rfl) (by omega) (by omega) (fun c1 => ?_) (fun c1 => ?_)
    · refine X_return (tk_X4_readLevel.at 62 rfl) rfl ?_
      have hend : ¬ lvl (hr T n s) = l := by rw [hr_w ew, lvl_m1]; omega
      have z := hK _ _ _ (by rw [pF_end hend]; exact hrel)
      rw [pF_end hend] at z
      exact z
    · refine X_aload_n (tk_X4_readLevel.at 25 rfl) rfl ?_
      refine X_getI (tk_X4_readLevel.at 26 rfl) fl_x4_33 hC.1.1.1 rfl ?_
      rw [RM4, bN_t]
      change X _ _ _ _ _ _ (.int 1 :: _) _ _ _
      refine X_if_ne (tgt := 115) (tk_X4_readLevel.at 27 rfl) (by decide) (fun _ => ?_) (fun h => absurd h (by decide))
      refine X_return (tk_X4_readLevel.at 62 rfl) rfl ?_
      have hend : ¬ lvl (hr T n s) = l := by rw [hr_w ew, lvl_m1]; omega
      have z := hK _ _ _ (by rw [pF_end hend]; exact hrel)
      rw [pF_end hend] at z
      exact z
  | false =>
    obtain rfl : w = false := hrel.1.trans ew
    refine X_iload (tk_X4_readLevel.at 22 rfl) rfl ?_
    refine X_iload_n (tk_X4_readLevel.at 23 rfl) rfl ?_
    refine X_icmp_geN (tgt := 115) (tk_X4_readLevel.at 24 rfl) (by decide) (pl e rfl) (pl mo rfl) (by omega) (by omega) (fun c1 => ?_) (fun c1 => ?_)
    · refine X_return (tk_X4_readLevel.at 62 rfl) rfl ?_
      have hend : ¬ lvl (hr T n s) = l := by rw [hr_e (by omega), lvl_m1]; omega
      have z := hK _ _ _ (by rw [pF_end hend]; exact hrel)
      rw [pF_end hend] at z
      exact z
    · refine X_aload_n (tk_X4_readLevel.at 25 rfl) rfl ?_
      refine X_getI (tk_X4_readLevel.at 26 rfl) fl_x4_33 hC.1.1.1 rfl ?_
      rw [RM4, bN_f]
      change X _ _ _ _ _ _ (.int 0 :: _) _ _ _
      refine X_if_ne (tgt := 115) (tk_X4_readLevel.at 27 rfl) (by decide) (fun h => absurd h (by decide)) (fun _ => ?_)
      refine X_aload_n (tk_X4_readLevel.at 28 rfl) rfl ?_
      refine X_getR (tk_X4_readLevel.at 29 rfl) fl_x4_20 hC.1.1.1 rfl rfl ?_
      refine X_aload_n (tk_X4_readLevel.at 30 rfl) rfl ?_
      refine X_getI (tk_X4_readLevel.at 31 rfl) fl_x4_29 hC.1.1.1 rfl ?_
      refine X_cV1i (lv2 := [(0, _), (1, _)]) (tk_X4_readLevel.at 32 rfl) mv_X6_at lk_x4_51 np_X6_at hC.1.2.2.1.1 (by decide) rfl (Nat.le_of_ble_eq_true rfl) (Nat.le_of_ble_eq_true rfl) rfl (rd_at (s := s) hC ew hp RM3 ?_)
      refine X_cS1i (lv2 := [(0, _)]) (tk_X4_readLevel.at 33 rfl) ms_X4_levelOf lk_x4_55 np_X4_levelOf (Nat.le_of_ble_eq_true rfl) (Nat.le_of_ble_eq_true rfl) rfl (c4_level (hr_or hC.2.2.2.2) ?_)
      refine X_iload_n (tk_X4_readLevel.at 34 rfl) rfl ?_
      refine X_icmp_ne (tgt := 115) (tk_X4_readLevel.at 35 rfl) (by decide) (fun c3 => ?_) (fun c3 => ?_)
      · refine X_return (tk_X4_readLevel.at 62 rfl) rfl ?_
        have hend : ¬ lvl (hr T n s) = l := fun g => c3 ((lvI_eq (lvl_5 _) hl).mpr g)
        have z := hK _ _ _ (by rw [pF_end hend]; exact hrel)
        rw [pF_end hend] at z
        exact z
      · have hlv : lvl (hr T n s) = l := (lvI_eq (lvl_5 _) hl).mp c3
        have hin := lvl_in (T := T) (n := n) (s := s) hlv (by omega)
        have hin2 := hin.2
        obtain ⟨m, hm, em_⟩ : ∃ m, m < 256 ∧ hr T n s = nI m := (hr_or hC.2.2.2.2).elim (fun g => by rw [g, lvl_m1] at hlv; omega) id
        refine X_aload_n (tk_X4_readLevel.at 36 rfl) rfl ?_
        refine X_getR (tk_X4_readLevel.at 37 rfl) fl_x4_20 hC.1.1.1 rfl rfl ?_
        refine X_aload_n (tk_X4_readLevel.at 38 rfl) rfl ?_
        refine X_getI (tk_X4_readLevel.at 39 rfl) fl_x4_29 hC.1.1.1 rfl ?_
        refine X_cV1i (lv2 := [(0, _), (1, _)]) (tk_X4_readLevel.at 40 rfl) mv_X6_at lk_x4_51 np_X6_at hC.1.2.2.1.1 (by decide) rfl (Nat.le_of_ble_eq_true rfl) (Nat.le_of_ble_eq_true rfl) rfl (rd_at (s := s) hC ew hp RM3 ?_)
        refine X_istore (lv' := [(0, _), (1, _), (2, _), (3, _), (4, _), (5, _)]) (tk_X4_readLevel.at 41 rfl) (by decide) rfl rfl ?_
        refine X_aload_n (tk_X4_readLevel.at 42 rfl) rfl ?_
        refine X_dup (tk_X4_readLevel.at 43 rfl) rfl ?_
        refine X_getI (tk_X4_readLevel.at 44 rfl) fl_x4_29 hC.1.1.1 rfl ?_
        refine X_iconst (tk_X4_readLevel.at 45 rfl) ci_1 ?_
        refine X_iadd (tk_X4_readLevel.at 46 rfl) ?_
        refine X_putI (tk_X4_readLevel.at 47 rfl) fl_x4_29 hC.1.1.1 rfl rfl ⟨rfl, rfl⟩ ?_
        rw [RM3, nI_1, RM_p]
        refine X_aload_n (tk_X4_readLevel.at 48 rfl) rfl ?_
        refine X_iload_n (tk_X4_readLevel.at 49 rfl) rfl ?_
        refine X_iconst (tk_X4_readLevel.at 50 rfl) ci_1 ?_
        refine X_iadd (tk_X4_readLevel.at 51 rfl) ?_
        refine X_iload_n (tk_X4_readLevel.at 52 rfl) rfl ?_
        rw [nI_1 l]
        refine X_cV2v (lv2 := [(0, _), (1, _), (2, _)]) (tk_X4_readLevel.at 53 rfl) mv_X4_readLevel lk_x4_40 np_X4_readLevel hC.1.1.1 (by decide) rfl (Nat.le_of_ble_eq_true rfl) (Nat.le_of_ble_eq_true rfl) rfl (ihL (l + 1) op (ad s) c C _ _ (by omega) hop hin2 (by show s.2.2.1 ≤ s.1 + 1; omega) ew hrel (by show 20 * (n - (s.1 + 1)) + 2 * (6 - (l + 1)) < f; omega) (by omega) (fun w' c' C' hr' => ?_))
        have hg := pF_g (T := T) (nm := nmU u) f 0 (l + 1) op (ad s) hin2 (by omega)
        have ha1 : (ad s).1 = s.1 + 1 := rfl
        have ha2 : (ad s).2.2.1 = s.2.2.1 := rfl
        have hg1 := hg.1
        have hg2 := hg.2.1
        have hg3 := hg.2.2
        refine X_aload_n (tk_X4_readLevel.at 54 rfl) rfl ?_
        refine X_getR (tk_X4_readLevel.at 55 rfl) fl_x4_14 hC.1.1.1 rfl rfl ?_
        refine X_sipush (tk_X4_readLevel.at 56 rfl) cs_20000 ?_
        refine X_iload (tk_X4_readLevel.at 57 rfl) rfl ?_
        refine X_iadd (tk_X4_readLevel.at 58 rfl) ?_
        refine X_cV1v (lv2 := [(0, _), (1, _)]) (tk_X4_readLevel.at 59 rfl) mv_X6_add lk_x4_58 np_X6_add hC.1.1.2.1 (by decide) rfl (Nat.le_of_ble_eq_true rfl) (Nat.le_of_ble_eq_true rfl) rfl (rd_em (s := (pF T n (nmU u) f 0 (l + 1) op (ad s))) (v' := opc (hr T n s)) hC.1.1 hr' (fun _ => by have := hC.1.2.2.2; omega) (by rw [em_]; exact (op_tr m hm (by rw [← em_, hlv]; omega)).symm) (fun w2 c2 C2 hr2 => ?_))
        refine X_iinc (lv' := [(0, _), (1, _), (2, _), (3, _), (4, _), (5, _)]) (tk_X4_readLevel.at 60 rfl) rfl ci_1 (by decide) rfl rfl ?_
        refine X_goto (tgt := 34) (tk_X4_readLevel.at 61 rfl) (by decide) ?_
        rw [nI_1 e]
        by_cases h2 : l = 2
        · refine X_lvp [0, 1, 2, 3, 4] (lv' := [(0, _), (1, _), (2, _), (3, _), (4, _)]) rfl ?_
          refine X_iload (tk_X4_readLevel.at 22 rfl) rfl ?_
          refine X_iload_n (tk_X4_readLevel.at 23 rfl) rfl ?_
          refine X_icmp_geN (tgt := 115) (tk_X4_readLevel.at 24 rfl) (by decide) (pl (e + 1) rfl) (pl mo rfl) (by omega) (by omega) (fun c31 => ?_) (fun c31 => (by exfalso; omega))
          refine X_return (tk_X4_readLevel.at 62 rfl) rfl ?_
          subst h2
          have z := hK w2 c2 C2 (by rw [pF_cmp hlv]; exact hr2)
          rw [pF_cmp hlv] at z
          exact z
        · have e1 := em_1 (s := (pF T n (nmU u) f 0 (l + 1) op (ad s))) (v := opc (hr T n s))
          have e2 := em_c (s := (pF T n (nmU u) f 0 (l + 1) op (ad s))) (v := opc (hr T n s))
          rw [pF_more hlv h2] at hK
          have z := ihR l (e + 1) op _ w2 c2 C2 _ K [(5, .int (hr T n s))] hl (by omega) (fun g => absurd g h2) hop (by omega) (by omega) hr2 (by omega) hD hK
          rw [show (if l = 2 then 1 else 50) = mo from by rw [if_neg h2]; omega] at z
          exact z
set_option maxHeartbeats 1000000 in
theorem c4_lev {G : Gl} {S : Sh} {μ : Mu} {R t n u f : Nat} {T : Nat → Int32} (hC : RdC G S μ R t n u T) {l : Nat} {op c D : Nat} {s : Ps} {C : Nat → Int32} {K : Sh → Mu → Prop} (hop : op ≤ 5) (hp : s.1 ≤ n) (hcs : s.2.2.1 ≤ s.1) (hs : s.2.1 = false) (hrel : RelS s false c C) (hl : l ≤ 5) (hF : RFY G S μ R n u T (f + 1)) (ihL : RLY G S μ R n u T f) (ihR : RRY G S μ R n u T f) (hf : 20 * (n - s.1) + 2 * (6 - l) < f + 1) (hD : 8 * (5 - op) + (5 - l) + 9 ≤ D) (hK : ∀ w' c' C', RelS (pF T n (nmU u) (f + 1) 0 l op s) w' c' C' → K S (RM μ R (pF T n (nmU u) (f + 1) 0 l op s).1 w' c' C')) : X G mi_X4_readLevel D 0 0 [(0, .ref R), (1, .int (nI l)), (2, .int (nI op))] [] S (RM μ R s.1 false c C) (qv K) := by
  obtain ⟨D, rfl⟩ : ∃ D', D = D' + 1 := ⟨D - 1, by omega⟩
  refine X_iload_n (tk_X4_readLevel.at 0 rfl) rfl ?_
  refine X_iconst (tk_X4_readLevel.at 1 rfl) ci_5 ?_
  refine X_icmp_ltN (tgt := 11) (tk_X4_readLevel.at 2 rfl) (by decide) (pl l rfl) (pl 5 rfl) (by omega) (by omega) (fun c1 => ?_) (fun c1 => ?_)
  · refine X_aload_n (tk_X4_readLevel.at 7 rfl) rfl ?_
    refine X_iload_n (tk_X4_readLevel.at 8 rfl) rfl ?_
    refine X_iconst (tk_X4_readLevel.at 9 rfl) ci_1 ?_
    refine X_iadd (tk_X4_readLevel.at 10 rfl) ?_
    refine X_iload_n (tk_X4_readLevel.at 11 rfl) rfl ?_
    rw [nI_1 l]
    refine X_cV2v (lv2 := [(0, _), (1, _), (2, _)]) (tk_X4_readLevel.at 12 rfl) mv_X4_readLevel lk_x4_40 np_X4_readLevel hC.1.1.1 (by decide) rfl (Nat.le_of_ble_eq_true rfl) (Nat.le_of_ble_eq_true rfl) rfl (ihL (l + 1) op s c C _ _ (by omega) hop hp hcs hs hrel (by omega) (by omega) (fun w' c' C' hr' => ?_))
    have hg := pF_g (T := T) (nm := nmU u) f 0 (l + 1) op s hp (by omega)
    have hg1 := hg.1
    have hg2 := hg.2.1
    have hg3 := hg.2.2
    refine X_iload_n (tk_X4_readLevel.at 13 rfl) rfl ?_
    refine X_iconst (tk_X4_readLevel.at 14 rfl) ci_2 ?_
    refine X_icmp_neN (tgt := 28) (tk_X4_readLevel.at 15 rfl) (by decide) (pl l rfl) (pl 2 rfl) (by omega) (by omega) (fun c2 => ?_) (fun c2 => ?_)
    · refine X_bipush (tk_X4_readLevel.at 18 rfl) cb_50 ?_
      refine X_istore_n (lv' := [(0, _), (1, _), (2, _), (3, _)]) (tk_X4_readLevel.at 19 rfl) (by decide) rfl rfl ?_
      refine X_iconst (tk_X4_readLevel.at 20 rfl) ci_0 ?_
      refine X_istore (lv' := [(0, _), (1, _), (2, _), (3, _), (4, _)]) (tk_X4_readLevel.at 21 rfl) (by decide) rfl rfl ?_
      rw [pF_lev (by omega)] at hK
      have z := ihR l 0 op (pF T n (nmU u) f 0 (l + 1) op s) w' c' C' _ K [] (by omega) (Nat.zero_le _) (fun _ => rfl) hop (by omega) (by omega) hr' (by omega) hD hK
      rw [if_neg c2] at z
      exact z
    · refine X_iconst (tk_X4_readLevel.at 16 rfl) ci_1 ?_
      refine X_goto (tgt := 30) (tk_X4_readLevel.at 17 rfl) (by decide) ?_
      refine X_istore_n (lv' := [(0, _), (1, _), (2, _), (3, _)]) (tk_X4_readLevel.at 19 rfl) (by decide) rfl rfl ?_
      refine X_iconst (tk_X4_readLevel.at 20 rfl) ci_0 ?_
      refine X_istore (lv' := [(0, _), (1, _), (2, _), (3, _), (4, _)]) (tk_X4_readLevel.at 21 rfl) (by decide) rfl rfl ?_
      rw [pF_lev (by omega)] at hK
      have z := ihR l 0 op (pF T n (nmU u) f 0 (l + 1) op s) w' c' C' _ K [] (by omega) (Nat.zero_le _) (fun _ => rfl) hop (by omega) (by omega) hr' (by omega) hD hK
      rw [if_pos c2] at z
      exact z
  · refine X_aload_n (tk_X4_readLevel.at 3 rfl) rfl ?_
    refine X_iload_n (tk_X4_readLevel.at 4 rfl) rfl ?_
    obtain rfl : l = 5 := by omega
    refine X_cV1v (lv2 := [(0, _), (1, _)]) (tk_X4_readLevel.at 5 rfl) mv_X4_readFactor lk_x4_48 np_X4_readFactor hC.1.1.1 (by decide) rfl (Nat.le_of_ble_eq_true rfl) (Nat.le_of_ble_eq_true rfl) rfl (hF op s c C _ _ hop hp hcs hs hrel (by omega) (by omega) (fun w' c' C' hr' => ?_))
    refine X_return (tk_X4_readLevel.at 6 rfl) rfl ?_
    exact hK w' c' C' hr'
theorem rd_all {G : Gl} {S : Sh} {μ : Mu} {R t n u : Nat} {T : Nat → Int32} (hC : RdC G S μ R t n u T) : ∀ f, RFY G S μ R n u T f ∧ RLY G S μ R n u T f ∧ RRY G S μ R n u T f
  | 0 => ⟨fun _ _ _ _ _ _ _ _ _ _ _ h => absurd h (Nat.not_lt_zero _), fun _ _ _ _ _ _ _ _ _ _ _ _ _ h => absurd h (Nat.not_lt_zero _), fun _ _ _ _ _ _ _ _ _ _ _ _ _ _ _ _ _ h => absurd h (Nat.not_lt_zero _)⟩
  | f + 1 => by
    obtain ⟨hF, hL, hR⟩ := rd_all hC f
    have hF1 : RFY G S μ R n u T (f + 1) := fun op s c C D K h1 h2 h3 h4 h5 h6 h7 h8 => c4_factor hC h1 h2 h3 h4 h5 hF hL h6 h7 h8
    exact ⟨hF1, fun l op s c C D K hl h1 h2 h3 h4 h5 h6 h7 h8 => c4_lev hC h1 h2 h3 h4 h5 hl hF1 hL hR h6 h7 h8, fun l e op s w c C D K rest hl he he2 h1 h2 h3 h5 h6 h7 h8 => c4_rest hC hl he he2 h1 h2 h3 h5 hL hR h6 h7 h8⟩
