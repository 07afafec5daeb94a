set_option maxHeartbeats 1000000 in
theorem c6_sort {G : Gl} {d : Nat} {S : Sh} {μ : Mu} {R n len : Nat} {f : Nat → Nat} {K : Sh → Mu → Prop} (hR : RS S R len) (hn : μ R 1 = nI n) (hb : n ≤ len) (hl : len ≤ 60) (hA : Rw (μ (R + 1)) n f) (hinj : ∀ i j, i < n → j < n → f i = f j → i = j) (hK : ∀ g B, Pm n g f → (∀ x y, x < y → y < n → g x < g y) → Rw B n g → K S (Mx μ (R + 1) B)) : X G mi_X6_sort (d + 1) 0 0 [(0, .ref R)] [] S μ (qv K) := by
  have hn2 : ∀ B, (Mx μ (R + 1) B) R 1 = nI n := fun B => by rw [Mx_ne (by omega)]; exact hn
  have outer : ∀ (m i : Nat) (g : Nat → Nat) (B : Nat → Int32) (rest : List (Nat × Value)), i + m = n + 1 → 1 ≤ i → Pm n g f → Rw B n g → (∀ x y, x < y → y < i → y < n → g x < g y) → X G mi_X6_sort (d + 1) 0 2 ([(0, .ref R), (1, .int (nI i))] ++ rest) [] S (Mx μ (R + 1) B) (qv K) := by
    intro m
    induction m with
    | zero =>
      intro i g B rest hi h1 hp hB hs
      refine X_lvp [0, 1] (lv' := [(0, _), (1, _)]) rfl ?_
      refine X_iload_n (tk_X6_sort.at 2 rfl) rfl ?_
      refine X_aload_n (tk_X6_sort.at 3 rfl) rfl ?_
      refine X_getI (tk_X6_sort.at 4 rfl) fl_x6_9 hR.1 rfl ?_
      refine X_icmp_geN (tgt := 53) (tk_X6_sort.at 5 rfl) (by decide) (pl i rfl) (hn2 B) (by omega) (by omega) (fun c1 => ?_) (fun c1 => (by exfalso; omega))
      refine X_return (tk_X6_sort.at 31 rfl) rfl ?_
      exact hK g B hp (fun x y a b => hs x y a (by omega) b) hB
    | succ m ih =>
      intro i g B rest hi h1 hp hB hs
      refine X_lvp [0, 1] (lv' := [(0, _), (1, _)]) rfl ?_
      by_cases hin : n ≤ i
      · refine X_iload_n (tk_X6_sort.at 2 rfl) rfl ?_
        refine X_aload_n (tk_X6_sort.at 3 rfl) rfl ?_
        refine X_getI (tk_X6_sort.at 4 rfl) fl_x6_9 hR.1 rfl ?_
        refine X_icmp_geN (tgt := 53) (tk_X6_sort.at 5 rfl) (by decide) (pl i rfl) (hn2 B) (by omega) (by omega) (fun c1 => ?_) (fun c1 => (by exfalso; omega))
        refine X_return (tk_X6_sort.at 31 rfl) rfl ?_
        exact hK g B hp (fun x y a b => hs x y a (by omega) b) hB
      · have inner : ∀ (j : Nat) (g : Nat → Nat) (B : Nat → Int32), j ≤ i → Pm n g f → Rw B n g → (∀ x y, x < y → y ≤ i → x ≠ j → y ≠ j → g x < g y) → (∀ y, j < y → y ≤ i → g j < g y) → X G mi_X6_sort (d + 1) 0 12 [(0, .ref R), (1, .int (nI i)), (2, .int (nI j))] [] S (Mx μ (R + 1) B) (qv K) := by
          intro j
          induction j with
          | zero =>
            intro g B hji hp hB hs hq
            refine X_iload_n (tk_X6_sort.at 8 rfl) rfl ?_
            refine X_if_leN (tgt := 47) (tk_X6_sort.at 9 rfl) (by decide) (pl 0 rfl) (by omega) (fun c1 => ?_) (fun c1 => (by exfalso; omega))
            refine X_iinc (lv' := [(0, _), (1, _), (2, _)]) (tk_X6_sort.at 29 rfl) rfl ci_1 (by decide) rfl rfl ?_
            refine X_goto (tgt := 2) (tk_X6_sort.at 30 rfl) (by decide) ?_
            rw [nI_1 i]
            refine ih (i + 1) g B [(2, _)] (by omega) (by omega) hp hB (fun x y a b _ => ?_)
            by_cases c : x = 0
            · subst c; exact hq y a (by omega)
            · exact hs x y a (by omega) c (by omega)
          | succ j ihj =>
            intro g B hji hp hB hs hq
            have g1 := (hB j (by omega)).2
            have g2 := (hB (j + 1) (by omega)).2
            have g12 : g (1 + j) = g (j + 1) := by rw [Nat.add_comm]
            have gne : g (j + 1) ≠ g j := fun z => by have := hp.2.2 _ _ (by omega) (by omega) z; omega
            refine X_iload_n (tk_X6_sort.at 8 rfl) rfl ?_
            refine X_if_leN (tgt := 47) (tk_X6_sort.at 9 rfl) (by decide) (pl (j + 1) rfl) (by omega) (fun c1 => (by exfalso; omega)) (fun c1 => ?_)
            refine X_aload_n (tk_X6_sort.at 10 rfl) rfl ?_
            refine X_getR (tk_X6_sort.at 11 rfl) fl_x6_21 hR.1 rfl rfl ?_
            refine X_iload_n (tk_X6_sort.at 12 rfl) rfl ?_
            refine X_ialdN (k := 1 + j) (tk_X6_sort.at 13 rfl) hR.2 (pz (pl (j + 1) rfl) (by omega)) (by omega) (by omega) ?_
            refine X_aload_n (tk_X6_sort.at 14 rfl) rfl ?_
            refine X_getR (tk_X6_sort.at 15 rfl) fl_x6_21 hR.1 rfl rfl ?_
            refine X_iload_n (tk_X6_sort.at 16 rfl) rfl ?_
            refine X_iconst (tk_X6_sort.at 17 rfl) ci_1 ?_
            refine X_isub (tk_X6_sort.at 18 rfl) ?_
            refine X_ialdN (k := j) (tk_X6_sort.at 19 rfl) hR.2 (pz (ps (pl (j + 1) rfl) (pl 1 rfl) (by omega)) (by omega)) (by omega) (by omega) ?_
            refine X_icmp_geN (tgt := 47) (tk_X6_sort.at 20 rfl) (by decide) (show (Mx μ (R + 1) B) (R + 1) (1 + j) = _ by rw [Mx_same]; exact (hB (1 + j) (by omega)).1) (show (Mx μ (R + 1) B) (R + 1) j = _ by rw [Mx_same]; exact (hB j (by omega)).1) (by omega) (by omega) (fun c2 => ?_) (fun c2 => ?_)
            · refine X_iinc (lv' := [(0, _), (1, _), (2, _)]) (tk_X6_sort.at 29 rfl) rfl ci_1 (by decide) rfl rfl ?_
              refine X_goto (tgt := 2) (tk_X6_sort.at 30 rfl) (by decide) ?_
              rw [nI_1 i]
              refine ih (i + 1) g B [(2, _)] (by omega) (by omega) hp hB (fun x y a b _ => ?_)
              by_cases c : x = j + 1
              · subst c; exact hq y a (by omega)
              · by_cases c2 : y = j + 1
                · subst c2
                  by_cases c3 : x = j
                  · subst c3; omega
                  · have := hs x j (by omega) (by omega) c (by omega)
                    omega
                · exact hs x y a (by omega) c c2
            · refine X_aload_n (tk_X6_sort.at 21 rfl) rfl ?_
              refine X_iload_n (tk_X6_sort.at 22 rfl) rfl ?_
              refine X_iload_n (tk_X6_sort.at 23 rfl) rfl ?_
              refine X_iconst (tk_X6_sort.at 24 rfl) ci_1 ?_
              refine X_isub (tk_X6_sort.at 25 rfl) ?_
              refine X_cV2v (lv2 := [(0, _), (1, _), (2, _)]) (tk_X6_sort.at 26 rfl) mv_X6_exchange lk_x6_41 np_X6_exchange hR.1 (by decide) rfl (Nat.le_of_ble_eq_true rfl) (Nat.le_of_ble_eq_true rfl) rfl (c6_exchange (i := j + 1) (j := j) hR (hn2 B) hb hl (pl (j + 1) rfl) (nI_pred j) (by omega) (fun _ => ?_) (fun h => absurd h (by omega)) (by omega))
              rw [Mx_same, Mx_Mx]
              refine X_iinc (lv' := [(0, _), (1, _), (2, _)]) (tk_X6_sort.at 27 rfl) rfl ci_m1 (by decide) rfl rfl ?_
              refine X_goto (tgt := 12) (tk_X6_sort.at 28 rfl) (by decide) ?_
              rw [show nI (j + 1) + -1 = nI j from by rw [nI_dec]; exact nI_pred j]
              have hsw := Pm_sw hp.2.2 (i := j + 1) (j := j) (by omega) (by omega)
              refine ihj (sw g (j + 1) j) _ (by omega) (hsw.tr hp) (Rw_sw hB (by omega) (by omega)) (fun x y a b c e => ?_) (fun y a b => ?_)
              · unfold sw
                by_cases x1 : x = j + 1
                · rw [if_pos x1, if_neg (show ¬ y = j + 1 by omega), if_neg e]; exact hs j y (by omega) b (by omega) (by omega)
                · rw [if_neg x1, if_neg c]
                  by_cases y1 : y = j + 1
                  · rw [if_pos y1]; exact hs x j (by omega) (by omega) (by omega) (by omega)
                  · rw [if_neg y1, if_neg e]; exact hs x y a b x1 y1
              · unfold sw
                rw [if_neg (show ¬ j = j + 1 by omega), if_pos rfl]
                by_cases y1 : y = j + 1
                · rw [if_pos y1]; omega
                · rw [if_neg y1, if_neg (show ¬ y = j by omega)]; exact hq y (by omega) b
        refine X_iload_n (tk_X6_sort.at 2 rfl) rfl ?_
        refine X_aload_n (tk_X6_sort.at 3 rfl) rfl ?_
        refine X_getI (tk_X6_sort.at 4 rfl) fl_x6_9 hR.1 rfl ?_
        refine X_icmp_geN (tgt := 53) (tk_X6_sort.at 5 rfl) (by decide) (pl i rfl) (hn2 B) (by omega) (by omega) (fun c1 => (by exfalso; omega)) (fun c1 => ?_)
        refine X_iload_n (tk_X6_sort.at 6 rfl) rfl ?_
        refine X_istore_n (lv' := [(0, _), (1, _), (2, _)]) (tk_X6_sort.at 7 rfl) (by decide) rfl rfl ?_
        exact inner i g B (Nat.le_refl i) hp hB (fun x y a b c e => hs x y a (by omega) (by omega)) (fun y a b => by omega)
  refine X_iconst (tk_X6_sort.at 0 rfl) ci_1 ?_
  refine X_istore_n (lv' := [(0, _), (1, _)]) (tk_X6_sort.at 1 rfl) (by decide) rfl rfl ?_
  have z := outer n 1 f (μ (R + 1)) [] (by omega) (by omega) (Pm.rf hinj) hA (fun x y a b c => by omega)
  rw [Mx_self] at z
  exact z
