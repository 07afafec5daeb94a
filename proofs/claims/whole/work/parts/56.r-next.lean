set_option maxHeartbeats 1000000 in
theorem c6_next {G : Gl} {d : Nat} {S : Sh} {μ : Mu} {R n len : Nat} {f : Nat → Nat} {K : Int32 → Sh → Mu → Prop} (hR : RS S R len) (hn : μ R 1 = nI n) (hb : n ≤ len) (hl : len ≤ 60) (hA : Rw (μ (R + 1)) n f) (hinj : ∀ i j, i < n → j < n → f i = f j → i = j) (k1 : lstA f (n - 1) = none → K 0 S μ) (k2 : ∀ k, lstA f (n - 1) = some k → ∀ B, Rw B n (nxv n f k (gtJ f k (n - 1))) → K 1 S (Mx μ (R + 1) B)) : X G mi_X6_next (d + 1) 0 0 [(0, .ref R)] [] S μ (qi K) := by
  by_cases c0 : n = 0
  · subst c0
    have e1 : lstA f (0 - 1) = none := rfl
    refine X_aload_n (tk_X6_next.at 0 rfl) rfl ?_
    refine X_getI (tk_X6_next.at 1 rfl) fl_x6_9 hR.1 rfl ?_
    refine X_iconst (tk_X6_next.at 2 rfl) ci_2 ?_
    refine X_isub (tk_X6_next.at 3 rfl) ?_
    refine X_istore_n (lv' := [(0, _), (1, _)]) (tk_X6_next.at 4 rfl) (by decide) rfl rfl ?_
    rw [hn, show nI 0 - 2 = -2 from by decide]
    refine X_iload_n (tk_X6_next.at 5 rfl) rfl ?_
    refine X_if_lt (tgt := 34) (tk_X6_next.at 6 rfl) (by decide) (fun _ => ?_) (fun h => absurd h (by decide))
    refine X_iload_n (tk_X6_next.at 20 rfl) rfl ?_
    refine X_if_ge (tgt := 40) (tk_X6_next.at 21 rfl) (by decide) (fun h => absurd h (by decide)) (fun _ => ?_)
    refine X_iconst (tk_X6_next.at 22 rfl) ci_0 ?_
    refine X_ireturn (tk_X6_next.at 23 rfl) rfl rfl ?_
    exact k1 e1
  have loop : ∀ (m : Nat), m < n → lstA f m = lstA f (n - 1) → X G mi_X6_next (d + 1) 0 7 [(0, .ref R), (1, .int (nI m - 1))] [] S μ (qi K) := by
    intro m
    induction m with
    | zero =>
      intro hm e
      rw [nI_m0]
      refine X_iload_n (tk_X6_next.at 5 rfl) rfl ?_
      refine X_if_lt (tgt := 34) (tk_X6_next.at 6 rfl) (by decide) (fun _ => ?_) (fun h => absurd h (by decide))
      refine X_iload_n (tk_X6_next.at 20 rfl) rfl ?_
      refine X_if_ge (tgt := 40) (tk_X6_next.at 21 rfl) (by decide) (fun h => absurd h (by decide)) (fun _ => ?_)
      refine X_iconst (tk_X6_next.at 22 rfl) ci_0 ?_
      refine X_ireturn (tk_X6_next.at 23 rfl) rfl rfl ?_
      exact k1 e.symm
    | succ m ih =>
      intro hm e
      rw [nI_pred]
      have hkey : lstA f (m + 1) = if f (1 + m) < f m then lstA f m else some m := by rw [Nat.add_comm 1 m]; rfl
      have fm1 := (hA m (by omega)).2
      have fm2 := (hA (1 + m) (by omega)).2
      have fne : f (1 + m) ≠ f m := fun z => by have := hinj _ _ (by omega) (by omega) z; omega
      refine X_iload_n (tk_X6_next.at 5 rfl) rfl ?_
      refine X_if_ltN (tgt := 34) (tk_X6_next.at 6 rfl) (by decide) (pl m rfl) (by omega) ?_
      refine X_aload_n (tk_X6_next.at 7 rfl) rfl ?_
      refine X_getR (tk_X6_next.at 8 rfl) fl_x6_21 hR.1 rfl rfl ?_
      refine X_iload_n (tk_X6_next.at 9 rfl) rfl ?_
      refine X_ialdN (k := m) (tk_X6_next.at 10 rfl) hR.2 (pz (pl m rfl) (by omega)) (by omega) (by omega) ?_
      refine X_aload_n (tk_X6_next.at 11 rfl) rfl ?_
      refine X_getR (tk_X6_next.at 12 rfl) fl_x6_21 hR.1 rfl rfl ?_
      refine X_iload_n (tk_X6_next.at 13 rfl) rfl ?_
      refine X_iconst (tk_X6_next.at 14 rfl) ci_1 ?_
      refine X_iadd (tk_X6_next.at 15 rfl) ?_
      refine X_ialdN (k := 1 + m) (tk_X6_next.at 16 rfl) hR.2 (pz (pa (pl m rfl) (pl 1 rfl)) (by omega)) (by omega) (by omega) ?_
      refine X_icmp_ltN (tgt := 34) (tk_X6_next.at 17 rfl) (by decide) (hA m (by omega)).1 (hA (1 + m) (by omega)).1 (by omega) (by omega) (fun c2 => ?_) (fun c2 => ?_)
      · refine X_iload_n (tk_X6_next.at 20 rfl) rfl ?_
        refine X_if_geN (tgt := 40) (tk_X6_next.at 21 rfl) (by decide) (pl m rfl) (by omega) ?_
        refine X_aload_n (tk_X6_next.at 24 rfl) rfl ?_
        refine X_getI (tk_X6_next.at 25 rfl) fl_x6_9 hR.1 rfl ?_
        refine X_iconst (tk_X6_next.at 26 rfl) ci_1 ?_
        refine X_isub (tk_X6_next.at 27 rfl) ?_
        refine X_istore_n (lv' := [(0, _), (1, _), (2, _)]) (tk_X6_next.at 28 rfl) (by decide) rfl rfl ?_
        rw [if_neg (by omega)] at hkey
        have e : lstA f (n - 1) = some m := by rw [← e]; exact hkey
        clear ih
        generalize m = k at *
        have hkk := lstA_lt e
        have hk1 : f k < f (k + 1) := by
          rcases Nat.lt_or_ge (f k) (f (k + 1)) with z | z
          · exact z
          · exact absurd (hinj k (k + 1) (by omega) (by omega) (by omega)) (by omega)
        have down : ∀ (j : Nat), k < j → j < n → gtJ f k j = gtJ f k (n - 1) → X G mi_X6_next (d + 1) 0 47 [(0, .ref R), (1, .int (nI k)), (2, .int (nI j))] [] S μ (qi K) := by
          intro j
          induction j with
          | zero => intro h; omega
          | succ j0 ihj =>
            intro h1 h2 h3
            have hkey : gtJ f k (j0 + 1) = if f (j0 + 1) < f k then gtJ f k j0 else j0 + 1 := rfl
            have fm1 := (hA k (by omega)).2
            have fm2 := (hA (j0 + 1) (by omega)).2
            have fne : f (j0 + 1) ≠ f k := fun z => by have := hinj _ _ (by omega) (by omega) z; omega
            refine X_iload_n (tk_X6_next.at 29 rfl) rfl ?_
            refine X_iload_n (tk_X6_next.at 30 rfl) rfl ?_
            refine X_icmp_leN (tgt := 73) (tk_X6_next.at 31 rfl) (by decide) (pl (j0 + 1) rfl) (pl k rfl) (by omega) (by omega) (fun c1 => (by exfalso; omega)) (fun c1 => ?_)
            refine X_aload_n (tk_X6_next.at 32 rfl) rfl ?_
            refine X_getR (tk_X6_next.at 33 rfl) fl_x6_21 hR.1 rfl rfl ?_
            refine X_iload_n (tk_X6_next.at 34 rfl) rfl ?_
            refine X_ialdN (k := (j0 + 1)) (tk_X6_next.at 35 rfl) hR.2 (pz (pl (j0 + 1) rfl) (by omega)) (by omega) (by omega) ?_
            refine X_aload_n (tk_X6_next.at 36 rfl) rfl ?_
            refine X_getR (tk_X6_next.at 37 rfl) fl_x6_21 hR.1 rfl rfl ?_
            refine X_iload_n (tk_X6_next.at 38 rfl) rfl ?_
            refine X_ialdN (k := k) (tk_X6_next.at 39 rfl) hR.2 (pz (pl k rfl) (by omega)) (by omega) (by omega) ?_
            refine X_icmp_gtN (tgt := 73) (tk_X6_next.at 40 rfl) (by decide) (hA ((j0 + 1)) (by omega)).1 (hA k (by omega)).1 (by omega) (by omega) (fun c2 => ?_) (fun c2 => ?_)
            · refine X_aload_n (tk_X6_next.at 43 rfl) rfl ?_
              refine X_iload_n (tk_X6_next.at 44 rfl) rfl ?_
              refine X_iload_n (tk_X6_next.at 45 rfl) rfl ?_
              refine X_cV2v (lv2 := [(0, _), (1, _), (2, _)]) (tk_X6_next.at 46 rfl) mv_X6_exchange lk_x6_41 np_X6_exchange hR.1 (by decide) rfl (Nat.le_of_ble_eq_true rfl) (Nat.le_of_ble_eq_true rfl) rfl (c6_exchange (i := k) (j := (j0 + 1)) hR hn hb hl (pl k rfl) (pl (j0 + 1) rfl) (by omega) (fun _ => ?_) (fun h => absurd h (by omega)) (by omega))
              refine X_iload_n (tk_X6_next.at 47 rfl) rfl ?_
              refine X_iconst (tk_X6_next.at 48 rfl) ci_1 ?_
              refine X_iadd (tk_X6_next.at 49 rfl) ?_
              refine X_istore_n (lv' := [(0, _), (1, _), (2, _), (3, _)]) (tk_X6_next.at 50 rfl) (by decide) rfl rfl ?_
              refine X_aload_n (tk_X6_next.at 51 rfl) rfl ?_
              refine X_getI (tk_X6_next.at 52 rfl) fl_x6_9 hR.1 rfl ?_
              refine X_iconst (tk_X6_next.at 53 rfl) ci_1 ?_
              refine X_isub (tk_X6_next.at 54 rfl) ?_
              refine X_istore (lv' := [(0, _), (1, _), (2, _), (3, _), (4, _)]) (tk_X6_next.at 55 rfl) (by decide) rfl rfl ?_
              rw [if_neg (by omega)] at hkey
              have hj : j0 + 1 = gtJ f k (n - 1) := by rw [← hkey]; exact h3
              generalize j0 + 1 = j at hj h1 h2 ⊢
              have swp : Rw (upd (upd (μ (R + 1)) k (μ (R + 1) j)) j (μ (R + 1) k)) n (sw f k (gtJ f k (n - 1))) := by rw [← hj]; exact Rw_sw hA (by omega) (by omega)
              have hn2 : ∀ B, (Mx μ (R + 1) B) R 1 = nI n := fun B => by rw [Mx_ne (by omega)]; exact hn
              rw [hn2]
              generalize (upd (upd (μ (R + 1)) k (μ (R + 1) j)) j (μ (R + 1) k)) = B at swp ⊢
              have rev : ∀ (m t : Nat) (B : Nat → Int32), m + (k + 1 + t) + t = n → t ≤ n → Rw B n (fun x => if (k < x ∧ x < k + 1 + t) ∨ (n ≤ x + t ∧ x < n) then (sw f k (gtJ f k (n - 1))) (k + n - x) else (sw f k (gtJ f k (n - 1))) x) → X G mi_X6_next (d + 1) 0 91 [(0, .ref R), (1, .int (nI k)), (2, .int (nI j)), (3, .int (nI (k + 1 + t))), (4, .int (nI (n - 1 - t)))] [] S (Mx μ (R + 1) B) (qi K) := by
                intro m
                induction m using Nat.strongRecOn with
                | ind m ihm =>
                  intro t B hm ht hB
                  refine X_iload_n (tk_X6_next.at 56 rfl) rfl ?_
                  refine X_iload (tk_X6_next.at 57 rfl) rfl ?_
                  refine X_icmp_geN (tgt := 113) (tk_X6_next.at 58 rfl) (by decide) (pl (k + 1 + t) rfl) (pl (n - 1 - t) rfl) (by omega) (by omega) (fun c1 => ?_) (fun c1 => ?_)
                  · refine X_iconst (tk_X6_next.at 66 rfl) ci_1 ?_
                    refine X_ireturn (tk_X6_next.at 67 rfl) rfl rfl ?_
                    refine k2 k e B (fun x hx => ?_)
                    have z := hB x hx
                    dsimp only at z
                    have z2 : nxv n f k (gtJ f k (n - 1)) x = (if (k < x ∧ x < k + 1 + t) ∨ (n ≤ x + t ∧ x < n) then (sw f k (gtJ f k (n - 1))) (k + n - x) else (sw f k (gtJ f k (n - 1))) x) := by
                      unfold nxv
                      by_cases c : (k < x ∧ x < k + 1 + t) ∨ (n ≤ x + t ∧ x < n)
                      · rw [if_pos c]
                        by_cases c2 : k < x ∧ x < n
                        · rw [if_pos c2]
                        · omega
                      · rw [if_neg c]
                        by_cases c2 : k < x ∧ x < n
                        · rw [if_pos c2]
                          have : k + n - x = x := by omega
                          rw [this]
                        · rw [if_neg c2]
                    rw [z2]
                    exact z
                  · refine X_aload_n (tk_X6_next.at 59 rfl) rfl ?_
                    refine X_iload_n (tk_X6_next.at 60 rfl) rfl ?_
                    refine X_iload (tk_X6_next.at 61 rfl) rfl ?_
                    refine X_cV2v (lv2 := [(0, _), (1, _), (2, _)]) (tk_X6_next.at 62 rfl) mv_X6_exchange lk_x6_41 np_X6_exchange hR.1 (by decide) rfl (Nat.le_of_ble_eq_true rfl) (Nat.le_of_ble_eq_true rfl) rfl (c6_exchange (i := k + 1 + t) (j := n - 1 - t) hR (hn2 B) hb hl (pl (k + 1 + t) rfl) (pl (n - 1 - t) rfl) (by omega) (fun _ => ?_) (fun h => absurd h (by omega)) (by omega))
                    refine X_iinc (lv' := [(0, _), (1, _), (2, _), (3, _), (4, _)]) (tk_X6_next.at 63 rfl) rfl ci_1 (by decide) rfl rfl ?_
                    refine X_iinc (lv' := [(0, _), (1, _), (2, _), (3, _), (4, _)]) (tk_X6_next.at 64 rfl) rfl ci_m1 (by decide) rfl rfl ?_
                    refine X_goto (tgt := 91) (tk_X6_next.at 65 rfl) (by decide) ?_
                    rw [show nI (k + 1 + t) + 1 = nI (k + 1 + (t + 1)) from nI_1 (k + 1 + t), show nI (n - 1 - t) + -1 = nI (n - 1 - (t + 1)) from pm1 (a := n - 1 - t) rfl (by omega), Mx_same, Mx_Mx]
                    refine ihm (m - 2) (by omega) (t + 1) _ (by omega) (by omega) (fun x hx => ?_)
                    have zi := hB (k + 1 + t) (by omega)
                    have zj := hB (n - 1 - t) (by omega)
                    have zx := hB x hx
                    dsimp only at zi zj zx
                    dsimp only
                    rw [if_neg (by omega)] at zi zj
                    by_cases c1 : x = n - 1 - t
                    · subst c1
                      rw [upd_at, if_pos (by omega), show k + n - (n - 1 - t) = k + 1 + t by omega]
                      exact zi
                    · rw [upd_ne _ _ c1]
                      by_cases c2 : x = k + 1 + t
                      · subst c2
                        rw [upd_at, if_pos (by omega), show k + n - (k + 1 + t) = n - 1 - t by omega]
                        exact zj
                      · rw [upd_ne _ _ c2]
                        by_cases c3 : (k < x ∧ x < k + 1 + t) ∨ (n ≤ x + t ∧ x < n)
                        · rw [if_pos c3] at zx
                          rw [if_pos (by omega)]
                          exact zx
                        · rw [if_neg c3] at zx
                          rw [if_neg (by omega)]
                          exact zx
              rw [show nI k + 1 = nI (k + 1 + 0) from nI_1 k, show nI n - 1 = nI (n - 1 - 0) from nI_m1 (by omega)]
              refine rev (n - (k + 1)) 0 B (by omega) (by omega) (fun x hx => ?_)
              dsimp only
              rw [if_neg (by omega)]
              exact swp x hx
            · refine X_iinc (lv' := [(0, _), (1, _), (2, _)]) (tk_X6_next.at 41 rfl) rfl ci_m1 (by decide) rfl rfl ?_
              refine X_goto (tgt := 47) (tk_X6_next.at 42 rfl) (by decide) ?_
              rw [if_pos (by omega)] at hkey
              have hj0 : k < j0 := by
                rcases Nat.lt_or_ge k j0 with z | z
                · exact z
                · exfalso
                  have : j0 = k := by omega
                  subst this
                  omega
              rw [show nI (j0 + 1) + -1 = nI j0 from by rw [nI_dec]; exact nI_pred j0]
              exact ihj hj0 (by omega) (by rw [← hkey]; exact h3)
        rw [hn, show nI n - 1 = nI (n - 1) from nI_m1 (by omega)]
        exact down (n - 1) (by omega) (by omega) rfl
      · refine X_iinc (lv' := [(0, _), (1, _)]) (tk_X6_next.at 18 rfl) rfl ci_m1 (by decide) rfl rfl ?_
        refine X_goto (tgt := 7) (tk_X6_next.at 19 rfl) (by decide) ?_
        rw [if_pos (by omega)] at hkey
        rw [nI_dec]
        exact ih (by omega) (by rw [← hkey]; exact e)
  refine X_aload_n (tk_X6_next.at 0 rfl) rfl ?_
  refine X_getI (tk_X6_next.at 1 rfl) fl_x6_9 hR.1 rfl ?_
  refine X_iconst (tk_X6_next.at 2 rfl) ci_2 ?_
  refine X_isub (tk_X6_next.at 3 rfl) ?_
  refine X_istore_n (lv' := [(0, _), (1, _)]) (tk_X6_next.at 4 rfl) (by decide) rfl rfl ?_
  rw [hn, show nI n - 2 = nI (n - 1) - 1 from by
    obtain ⟨z, rfl⟩ : ∃ z, n = z + 1 := ⟨n - 1, by omega⟩
    rw [show z + 1 - 1 = z from rfl, ← nI_1, p12]]
  exact loop (n - 1) (by omega) rfl
