theorem lgc_gt {x y : Int64} : 0 < lg_cmp x y ↔ y < x := by
  unfold lg_cmp
  by_cases h1 : y < x
  · simp [h1]
  · by_cases h2 : x = y
    · subst h2; simp
    · simp [h1, h2]
theorem lsum {a b z : Nat} (ha : a < 2 ^ 31) (hb : b < 2 ^ 31) (hz : z < 2 ^ 31) : 0 < lg_cmp ((nI a).toInt64 + (nI b).toInt64) ((nI z).toInt64) ↔ z < a + b := by
  rw [lgc_gt, nI_l ha, nI_l hb, nI_l hz, lN_add]
  exact pk_lLT (by omega) (by omega)
def mvN (f : Nat → Int32) (s a t b k : Nat) : Nat → Int32 := fun x => if 40 * t + b ≤ x ∧ x < 40 * t + b + k then f (40 * s + a + (x - (40 * t + b))) else f x
theorem mvN_0 (f : Nat → Int32) (s a t b : Nat) : mvN f s a t b 0 = f := by funext x; exact if_neg (by omega)
theorem mvN_st (f : Nat → Int32) (s a t b k : Nat) : upd (mvN f s a t b k) (40 * t + b + k) (f (40 * s + a + k)) = mvN f s a t b (k + 1) := by
  funext x
  unfold upd mvN
  by_cases e : x = 40 * t + b + k
  · rw [if_pos e, if_pos (by omega), e]
    congr 1
    omega
  · rw [if_neg e]
    by_cases e2 : 40 * t + b ≤ x ∧ x < 40 * t + b + k
    · rw [if_pos e2, if_pos (by omega)]
    · rw [if_neg e2, if_neg (by omega)]
def mvOk (i j n : Int32) (zs zt : Nat) : Prop := ∃ a b c : Nat, i = nI a ∧ j = nI b ∧ n = nI c ∧ a + c ≤ zs ∧ b + c ≤ zt
set_option maxHeartbeats 1000000 in
theorem c10_move {G : Gl} {d : Nat} {S : Sh} {μ : Mu} {o : Nat} {q : Nat → Nat} {s i t j n : Int32} {K : Int32 → Sh → Mu → Prop} (hM : MS S o q) (hz : (∀ x, x < 4 → okN (μ (o + 15) x) 40)) (k1 : ¬ (In s 4 ∧ In t 4) → K (-1000000001) S (er μ o 1)) (k2 : ∀ x y, x < 4 → y < 4 → s = nI x → t = nI y → (μ (o + 14) x = 0 ∨ μ (o + 14) y = 0) → K (-1000000002) S (er μ o 2)) (k3 : ∀ x y, x < 4 → y < 4 → s = nI x → t = nI y → ¬ μ (o + 14) x = 0 → ¬ μ (o + 14) y = 0 → ¬ μ (o + 14) x = μ (o + 14) y → K (-1000000005) S (er μ o 5)) (k4 : ∀ x y, x < 4 → y < 4 → s = nI x → t = nI y → ¬ μ (o + 14) x = 0 → ¬ μ (o + 14) y = 0 → μ (o + 14) x = μ (o + 14) y → ¬ mvOk i j n (nv (μ (o + 15) x)) (nv (μ (o + 15) y)) → K (-1000000001) S (er μ o 1)) (k5 : ∀ x y a b c, x < 4 → y < 4 → s = nI x → t = nI y → i = nI a → j = nI b → n = nI c → ¬ μ (o + 14) x = 0 → ¬ μ (o + 14) y = 0 → μ (o + 14) x = μ (o + 14) y → a + c ≤ nv (μ (o + 15) x) → b + c ≤ nv (μ (o + 15) y) → ∀ F, K (nI c) S (Mx (Mx μ (o + 17) F) (o + 16) (mvN (μ (o + 16)) x a y b c))) : X G mi_X10_move (d + 2) 0 0 [(0, .ref o), (1, .int s), (2, .int i), (3, .int t), (4, .int j), (5, .int n)] [] S μ (qi K) := by
  refine X_iload_n (tk_X10_move.at 0 rfl) rfl ?_
  refine X_cS1i (lv2 := [(0, _)]) (tk_X10_move.at 1 rfl) ms_X10_isSheet lk_x10_104 np_X10_isSheet (Nat.le_of_ble_eq_true rfl) (Nat.le_of_ble_eq_true rfl) rfl (c10_isSheet (fun s1 hs1 es1 => ?_) (fun hs1 => ?_))
  · refine X_if_eq (tgt := 14) (tk_X10_move.at 2 rfl) (by decide) (fun h => absurd h (by decide)) (fun _ => ?_)
    refine X_iload_n (tk_X10_move.at 3 rfl) rfl ?_
    refine X_cS1i (lv2 := [(0, _)]) (tk_X10_move.at 4 rfl) ms_X10_isSheet lk_x10_104 np_X10_isSheet (Nat.le_of_ble_eq_true rfl) (Nat.le_of_ble_eq_true rfl) rfl (c10_isSheet (fun s8 hs8 es8 => ?_) (fun hs8 => ?_))
    · refine X_if_ne (tgt := 21) (tk_X10_move.at 5 rfl) (by decide) (fun _ => ?_) (fun h => absurd h (by decide))
      have hz1 := (hz s1 hs1).1
      have bz1 := (hz s1 hs1).2
      have hz8 := (hz s8 hs8).1
      have bz8 := (hz s8 hs8).2
      refine X_aload_n (tk_X10_move.at 10 rfl) rfl ?_
      refine X_getR (tk_X10_move.at 11 rfl) fl_x10_56 hM.f0 rfl rfl ?_
      refine X_iload_n (tk_X10_move.at 12 rfl) rfl ?_
      refine X_ialdN (k := s1) (tk_X10_move.at 13 rfl) hM.f14 es1 (by omega) (by decide) ?_
      refine X_if_eq (tgt := 39) (tk_X10_move.at 14 rfl) (by decide) (fun c3 => ?_) (fun c3 => ?_)
      · refine X_aload_n (tk_X10_move.at 20 rfl) rfl ?_
        refine X_ldc (tk_X10_move.at 21 rfl) kn_x10_108 ?_
        refine X_cV1i (lv2 := [(0, _), (1, _)]) (tk_X10_move.at 22 rfl) mv_X10_finding lk_x10_82 np_X10_finding hM.f0 (by decide) rfl (Nat.le_of_ble_eq_true rfl) (Nat.le_of_ble_eq_true rfl) rfl (c10_finding (k := 2) hM (by decide) (by decide) ?_)
        refine X_ireturn (tk_X10_move.at 23 rfl) rfl rfl ?_
        exact k2 s1 s8 hs1 hs8 es1 es8 (by first | exact Or.inl c3 | exact Or.inr c3)
      · refine X_aload_n (tk_X10_move.at 15 rfl) rfl ?_
        refine X_getR (tk_X10_move.at 16 rfl) fl_x10_56 hM.f0 rfl rfl ?_
        refine X_iload_n (tk_X10_move.at 17 rfl) rfl ?_
        refine X_ialdN (k := s8) (tk_X10_move.at 18 rfl) hM.f14 es8 (by omega) (by decide) ?_
        refine X_if_ne (tgt := 46) (tk_X10_move.at 19 rfl) (by decide) (fun c4 => ?_) (fun c4 => ?_)
        · refine X_aload_n (tk_X10_move.at 24 rfl) rfl ?_
          refine X_getR (tk_X10_move.at 25 rfl) fl_x10_56 hM.f0 rfl rfl ?_
          refine X_iload_n (tk_X10_move.at 26 rfl) rfl ?_
          refine X_ialdN (k := s1) (tk_X10_move.at 27 rfl) hM.f14 es1 (by omega) (by decide) ?_
          refine X_aload_n (tk_X10_move.at 28 rfl) rfl ?_
          refine X_getR (tk_X10_move.at 29 rfl) fl_x10_56 hM.f0 rfl rfl ?_
          refine X_iload_n (tk_X10_move.at 30 rfl) rfl ?_
          refine X_ialdN (k := s8) (tk_X10_move.at 31 rfl) hM.f14 es8 (by omega) (by decide) ?_
          refine X_icmp_eq (tgt := 68) (tk_X10_move.at 32 rfl) (by decide) (fun c5 => ?_) (fun c5 => ?_)
          · refine X_iload (tk_X10_move.at 37 rfl) rfl ?_
            refine X_if_lt (tgt := 117) (tk_X10_move.at 38 rfl) (by decide) (fun c6 => ?_) (fun c6 => ?_)
            · refine X_aload_n (tk_X10_move.at 67 rfl) rfl ?_
              refine X_ldc (tk_X10_move.at 68 rfl) kn_x10_81 ?_
              refine X_cV1i (lv2 := [(0, _), (1, _)]) (tk_X10_move.at 69 rfl) mv_X10_finding lk_x10_82 np_X10_finding hM.f0 (by decide) rfl (Nat.le_of_ble_eq_true rfl) (Nat.le_of_ble_eq_true rfl) rfl (c10_finding (k := 1) hM (by decide) (by decide) ?_)
              refine X_ireturn (tk_X10_move.at 70 rfl) rfl rfl ?_
              refine k4 s1 s8 hs1 hs8 es1 es8 c3 c4 c5 (fun g => ?_)
              obtain ⟨a', b', c', q1, q2, q3, q4, q5⟩ := g
              rw [q3] at c6
              exact absurd c6 (nI_pos (by omega))
            · obtain ⟨c, hc, ec⟩ := nI_of c6
              refine X_iload_n (tk_X10_move.at 39 rfl) rfl ?_
              refine X_if_lt (tgt := 117) (tk_X10_move.at 40 rfl) (by decide) (fun c7 => ?_) (fun c7 => ?_)
              · refine X_aload_n (tk_X10_move.at 67 rfl) rfl ?_
                refine X_ldc (tk_X10_move.at 68 rfl) kn_x10_81 ?_
                refine X_cV1i (lv2 := [(0, _), (1, _)]) (tk_X10_move.at 69 rfl) mv_X10_finding lk_x10_82 np_X10_finding hM.f0 (by decide) rfl (Nat.le_of_ble_eq_true rfl) (Nat.le_of_ble_eq_true rfl) rfl (c10_finding (k := 1) hM (by decide) (by decide) ?_)
                refine X_ireturn (tk_X10_move.at 70 rfl) rfl rfl ?_
                refine k4 s1 s8 hs1 hs8 es1 es8 c3 c4 c5 (fun g => ?_)
                obtain ⟨a', b', c', q1, q2, q3, q4, q5⟩ := g
                rw [q1] at c7
                exact absurd c7 (nI_pos (by omega))
              · obtain ⟨a, ha, ea⟩ := nI_of c7
                refine X_iload (tk_X10_move.at 41 rfl) rfl ?_
                refine X_if_lt (tgt := 117) (tk_X10_move.at 42 rfl) (by decide) (fun c8 => ?_) (fun c8 => ?_)
                · refine X_aload_n (tk_X10_move.at 67 rfl) rfl ?_
                  refine X_ldc (tk_X10_move.at 68 rfl) kn_x10_81 ?_
                  refine X_cV1i (lv2 := [(0, _), (1, _)]) (tk_X10_move.at 69 rfl) mv_X10_finding lk_x10_82 np_X10_finding hM.f0 (by decide) rfl (Nat.le_of_ble_eq_true rfl) (Nat.le_of_ble_eq_true rfl) rfl (c10_finding (k := 1) hM (by decide) (by decide) ?_)
                  refine X_ireturn (tk_X10_move.at 70 rfl) rfl rfl ?_
                  refine k4 s1 s8 hs1 hs8 es1 es8 c3 c4 c5 (fun g => ?_)
                  obtain ⟨a', b', c', q1, q2, q3, q4, q5⟩ := g
                  rw [q2] at c8
                  exact absurd c8 (nI_pos (by omega))
                · obtain ⟨b, hb, eb⟩ := nI_of c8
                  refine X_iload_n (tk_X10_move.at 43 rfl) rfl ?_
                  refine X_i2l (tk_X10_move.at 44 rfl) ?_
                  refine X_iload (tk_X10_move.at 45 rfl) rfl ?_
                  refine X_i2l (tk_X10_move.at 46 rfl) ?_
                  refine X_ladd (tk_X10_move.at 47 rfl) ?_
                  refine X_aload_n (tk_X10_move.at 48 rfl) rfl ?_
                  refine X_getR (tk_X10_move.at 49 rfl) fl_x10_59 hM.f0 rfl rfl ?_
                  refine X_iload_n (tk_X10_move.at 50 rfl) rfl ?_
                  refine X_ialdN (k := s1) (tk_X10_move.at 51 rfl) hM.f15 es1 (by omega) (by decide) ?_
                  refine X_i2l (tk_X10_move.at 52 rfl) ?_
                  refine X_lcmp (tk_X10_move.at 53 rfl) ?_
                  refine X_if_gt (tgt := 117) (tk_X10_move.at 54 rfl) (by decide) (fun c9 => ?_) (fun c9 => ?_)
                  · refine X_aload_n (tk_X10_move.at 67 rfl) rfl ?_
                    refine X_ldc (tk_X10_move.at 68 rfl) kn_x10_81 ?_
                    refine X_cV1i (lv2 := [(0, _), (1, _)]) (tk_X10_move.at 69 rfl) mv_X10_finding lk_x10_82 np_X10_finding hM.f0 (by decide) rfl (Nat.le_of_ble_eq_true rfl) (Nat.le_of_ble_eq_true rfl) rfl (c10_finding (k := 1) hM (by decide) (by decide) ?_)
                    refine X_ireturn (tk_X10_move.at 70 rfl) rfl rfl ?_
                    refine k4 s1 s8 hs1 hs8 es1 es8 c3 c4 c5 (fun g => ?_)
                    obtain ⟨a', b', c', q1, q2, q3, q4, q5⟩ := g
                    rw [q1, q3, hz1, lsum (by omega) (by omega) (by omega)] at c9
                    omega
                  · refine X_iload (tk_X10_move.at 55 rfl) rfl ?_
                    refine X_i2l (tk_X10_move.at 56 rfl) ?_
                    refine X_iload (tk_X10_move.at 57 rfl) rfl ?_
                    refine X_i2l (tk_X10_move.at 58 rfl) ?_
                    refine X_ladd (tk_X10_move.at 59 rfl) ?_
                    refine X_aload_n (tk_X10_move.at 60 rfl) rfl ?_
                    refine X_getR (tk_X10_move.at 61 rfl) fl_x10_59 hM.f0 rfl rfl ?_
                    refine X_iload_n (tk_X10_move.at 62 rfl) rfl ?_
                    refine X_ialdN (k := s8) (tk_X10_move.at 63 rfl) hM.f15 es8 (by omega) (by decide) ?_
                    refine X_i2l (tk_X10_move.at 64 rfl) ?_
                    refine X_lcmp (tk_X10_move.at 65 rfl) ?_
                    refine X_if_le (tgt := 124) (tk_X10_move.at 66 rfl) (by decide) (fun c10 => ?_) (fun c10 => ?_)
                    · rw [ea, ec, hz1] at c9
                      rw [eb, ec, hz8] at c10
                      rw [lsum (by omega) (by omega) (by omega)] at c9
                      have f1 : a + c ≤ (nv (μ (o + 15) s1)) := by omega
                      have f2 : b + c ≤ (nv (μ (o + 15) s8)) := by
                        rcases Nat.lt_or_ge (nv (μ (o + 15) s8)) (b + c) with y | y
                        · exact absurd ((lsum (by omega) (by omega) (by omega)).mpr y) (Int32.not_lt.mpr c10)
                        · exact y
                      have g1 := c3
                      have g2 := c4
                      have g3 := c5
                      have loop2 : ∀ (m k : Nat) (F : Nat → Int32), k + m = c → (∀ e, e < c → F e = μ (o + 16) (40 * s1 + a + e)) → X G mi_X10_move (d + 2) 0 164 [(0, .ref o), (1, .int s), (2, .int i), (3, .int t), (4, .int j), (5, .int n), (6, .int (nI k))] [] S (Mx (Mx μ (o + 17) F) (o + 16) (mvN (μ (o + 16)) s1 a s8 b k)) (qi K) := by
                        intro m
                        induction m with
                        | zero =>
                          intro k F hk hF
                          have e : k = c := by omega
                          subst e
                          refine X_iload (tk_X10_move.at 94 rfl) rfl ?_
                          refine X_iload (tk_X10_move.at 95 rfl) rfl ?_
                          refine X_icmp_geN (tgt := 199) (tk_X10_move.at 96 rfl) (by decide) (pl k rfl) ec (by omega) (by omega) (fun c1 => ?_) (fun c1 => (by exfalso; omega))
                          refine X_iload (tk_X10_move.at 113 rfl) rfl ?_
                          refine X_ireturn (tk_X10_move.at 114 rfl) rfl rfl ?_
                          rw [ec]
                          exact k5 s1 s8 a b k hs1 hs8 es1 es8 ea eb ec g1 g2 g3 f1 f2 F
                        | succ m ih =>
                          intro k F hk hF
                          refine X_iload (tk_X10_move.at 94 rfl) rfl ?_
                          refine X_iload (tk_X10_move.at 95 rfl) rfl ?_
                          refine X_icmp_geN (tgt := 199) (tk_X10_move.at 96 rfl) (by decide) (pl k rfl) ec (by omega) (by omega) (fun c1 => (by exfalso; omega)) (fun c1 => ?_)
                          refine X_aload_n (tk_X10_move.at 97 rfl) rfl ?_
                          refine X_getR (tk_X10_move.at 98 rfl) fl_x10_62 hM.f0 rfl rfl ?_
                          refine X_bipush (tk_X10_move.at 99 rfl) cb_40 ?_
                          refine X_iload_n (tk_X10_move.at 100 rfl) rfl ?_
                          refine X_imul (tk_X10_move.at 101 rfl) ?_
                          refine X_iload (tk_X10_move.at 102 rfl) rfl ?_
                          refine X_iadd (tk_X10_move.at 103 rfl) ?_
                          refine X_iload (tk_X10_move.at 104 rfl) rfl ?_
                          refine X_iadd (tk_X10_move.at 105 rfl) ?_
                          refine X_aload_n (tk_X10_move.at 106 rfl) rfl ?_
                          refine X_getR (tk_X10_move.at 107 rfl) fl_x10_65 hM.f0 rfl rfl ?_
                          refine X_iload (tk_X10_move.at 108 rfl) rfl ?_
                          refine X_ialdN (k := k) (tk_X10_move.at 109 rfl) hM.f17 (pz (pl k rfl) (by omega)) (by omega) (by decide) ?_
                          refine X_iastN (k := 40 * s8 + b + k) (tk_X10_move.at 110 rfl) hM.f16 (pz (pa (pa (pm (pl 40 rfl) es8) eb) (pl k rfl)) (by omega)) (by omega) (by decide) ?_
                          refine X_iinc (lv' := [(0, _), (1, _), (2, _), (3, _), (4, _), (5, _), (6, _)]) (tk_X10_move.at 111 rfl) rfl ci_1 (by decide) rfl rfl ?_
                          refine X_goto (tgt := 164) (tk_X10_move.at 112 rfl) (by decide) ?_
                          rw [nI_1 k, su_Mx, Mx_ne (show o + 17 ≠ o + 16 by omega), Mx_same, hF k (by omega), mvN_st]
                          exact ih (k + 1) F (by omega) hF
                      have loop1 : ∀ (m k : Nat) (F : Nat → Int32), k + m = c → (∀ e, e < k → F e = μ (o + 16) (40 * s1 + a + e)) → X G mi_X10_move (d + 2) 0 127 [(0, .ref o), (1, .int s), (2, .int i), (3, .int t), (4, .int j), (5, .int n), (6, .int (nI k))] [] S (Mx μ (o + 17) F) (qi K) := by
                        intro m
                        induction m with
                        | zero =>
                          intro k F hk hF
                          refine X_iload (tk_X10_move.at 73 rfl) rfl ?_
                          refine X_iload (tk_X10_move.at 74 rfl) rfl ?_
                          refine X_icmp_geN (tgt := 161) (tk_X10_move.at 75 rfl) (by decide) (pl k rfl) ec (by omega) (by omega) (fun c1 => ?_) (fun c1 => (by exfalso; omega))
                          refine X_iconst (tk_X10_move.at 92 rfl) ci_0 ?_
                          refine X_istore (lv' := [(0, _), (1, _), (2, _), (3, _), (4, _), (5, _), (6, _)]) (tk_X10_move.at 93 rfl) (by decide) rfl rfl ?_
                          have z := loop2 c 0 F (Nat.zero_add c) (fun e he => hF e (by omega))
                          rw [mvN_0, show Mx (Mx μ (o + 17) F) (o + 16) (μ (o + 16)) = Mx μ (o + 17) F from by rw [Mx_comm _ (by omega), Mx_self]] at z
                          exact z
                        | succ m ih =>
                          intro k F hk hF
                          refine X_iload (tk_X10_move.at 73 rfl) rfl ?_
                          refine X_iload (tk_X10_move.at 74 rfl) rfl ?_
                          refine X_icmp_geN (tgt := 161) (tk_X10_move.at 75 rfl) (by decide) (pl k rfl) ec (by omega) (by omega) (fun c1 => (by exfalso; omega)) (fun c1 => ?_)
                          refine X_aload_n (tk_X10_move.at 76 rfl) rfl ?_
                          refine X_getR (tk_X10_move.at 77 rfl) fl_x10_65 hM.f0 rfl rfl ?_
                          refine X_iload (tk_X10_move.at 78 rfl) rfl ?_
                          refine X_aload_n (tk_X10_move.at 79 rfl) rfl ?_
                          refine X_getR (tk_X10_move.at 80 rfl) fl_x10_62 hM.f0 rfl rfl ?_
                          refine X_bipush (tk_X10_move.at 81 rfl) cb_40 ?_
                          refine X_iload_n (tk_X10_move.at 82 rfl) rfl ?_
                          refine X_imul (tk_X10_move.at 83 rfl) ?_
                          refine X_iload_n (tk_X10_move.at 84 rfl) rfl ?_
                          refine X_iadd (tk_X10_move.at 85 rfl) ?_
                          refine X_iload (tk_X10_move.at 86 rfl) rfl ?_
                          refine X_iadd (tk_X10_move.at 87 rfl) ?_
                          refine X_ialdN (k := 40 * s1 + a + k) (tk_X10_move.at 88 rfl) hM.f16 (pz (pa (pa (pm (pl 40 rfl) es1) ea) (pl k rfl)) (by omega)) (by omega) (by decide) ?_
                          refine X_iastN (k := k) (tk_X10_move.at 89 rfl) hM.f17 (pz (pl k rfl) (by omega)) (by omega) (by decide) ?_
                          refine X_iinc (lv' := [(0, _), (1, _), (2, _), (3, _), (4, _), (5, _), (6, _)]) (tk_X10_move.at 90 rfl) rfl ci_1 (by decide) rfl rfl ?_
                          refine X_goto (tgt := 127) (tk_X10_move.at 91 rfl) (by decide) ?_
                          rw [nI_1 k, su_Mx, Mx_ne (show o + 16 ≠ o + 17 by omega)]
                          refine ih (k + 1) _ (by omega) (fun e he => ?_)
                          by_cases e2 : e = k
                          · rw [e2]; exact upd_at _ _ _
                          · rw [upd_ne _ _ e2]; exact hF e (by omega)
                      refine X_iconst (tk_X10_move.at 71 rfl) ci_0 ?_
                      refine X_istore (lv' := [(0, _), (1, _), (2, _), (3, _), (4, _), (5, _), (6, _)]) (tk_X10_move.at 72 rfl) (by decide) rfl rfl ?_
                      have z := loop1 c 0 (μ (o + 17)) (Nat.zero_add c) (fun e he => absurd he (Nat.not_lt_zero e))
                      rw [Mx_self] at z
                      exact z
                    · refine X_aload_n (tk_X10_move.at 67 rfl) rfl ?_
                      refine X_ldc (tk_X10_move.at 68 rfl) kn_x10_81 ?_
                      refine X_cV1i (lv2 := [(0, _), (1, _)]) (tk_X10_move.at 69 rfl) mv_X10_finding lk_x10_82 np_X10_finding hM.f0 (by decide) rfl (Nat.le_of_ble_eq_true rfl) (Nat.le_of_ble_eq_true rfl) rfl (c10_finding (k := 1) hM (by decide) (by decide) ?_)
                      refine X_ireturn (tk_X10_move.at 70 rfl) rfl rfl ?_
                      refine k4 s1 s8 hs1 hs8 es1 es8 c3 c4 c5 (fun g => ?_)
                      obtain ⟨a', b', c', q1, q2, q3, q4, q5⟩ := g
                      have y := (lsum (a := b') (b := c') (z := (nv (μ (o + 15) s8))) (by omega) (by omega) (by omega)).mp (by rw [← q2, ← q3, ← hz8]; exact Int32.not_le.mp c10)
                      omega
          · refine X_aload_n (tk_X10_move.at 33 rfl) rfl ?_
            refine X_ldc (tk_X10_move.at 34 rfl) kn_x10_145 ?_
            refine X_cV1i (lv2 := [(0, _), (1, _)]) (tk_X10_move.at 35 rfl) mv_X10_finding lk_x10_82 np_X10_finding hM.f0 (by decide) rfl (Nat.le_of_ble_eq_true rfl) (Nat.le_of_ble_eq_true rfl) rfl (c10_finding (k := 5) hM (by decide) (by decide) ?_)
            refine X_ireturn (tk_X10_move.at 36 rfl) rfl rfl ?_
            exact k3 s1 s8 hs1 hs8 es1 es8 c3 c4 c5
        · refine X_aload_n (tk_X10_move.at 20 rfl) rfl ?_
          refine X_ldc (tk_X10_move.at 21 rfl) kn_x10_108 ?_
          refine X_cV1i (lv2 := [(0, _), (1, _)]) (tk_X10_move.at 22 rfl) mv_X10_finding lk_x10_82 np_X10_finding hM.f0 (by decide) rfl (Nat.le_of_ble_eq_true rfl) (Nat.le_of_ble_eq_true rfl) rfl (c10_finding (k := 2) hM (by decide) (by decide) ?_)
          refine X_ireturn (tk_X10_move.at 23 rfl) rfl rfl ?_
          exact k2 s1 s8 hs1 hs8 es1 es8 (by first | exact Or.inl c3 | exact Or.inr c4)
    · refine X_if_ne (tgt := 21) (tk_X10_move.at 5 rfl) (by decide) (fun h => absurd h (by decide)) (fun _ => ?_)
      refine X_aload_n (tk_X10_move.at 6 rfl) rfl ?_
      refine X_ldc (tk_X10_move.at 7 rfl) kn_x10_81 ?_
      refine X_cV1i (lv2 := [(0, _), (1, _)]) (tk_X10_move.at 8 rfl) mv_X10_finding lk_x10_82 np_X10_finding hM.f0 (by decide) rfl (Nat.le_of_ble_eq_true rfl) (Nat.le_of_ble_eq_true rfl) rfl (c10_finding (k := 1) hM (by decide) (by decide) ?_)
      refine X_ireturn (tk_X10_move.at 9 rfl) rfl rfl ?_
      exact k1 (fun g => by first | exact hs8 g.2 | exact hs1 g.1)
  · refine X_if_eq (tgt := 14) (tk_X10_move.at 2 rfl) (by decide) (fun _ => ?_) (fun h => absurd h (by decide))
    refine X_aload_n (tk_X10_move.at 6 rfl) rfl ?_
    refine X_ldc (tk_X10_move.at 7 rfl) kn_x10_81 ?_
    refine X_cV1i (lv2 := [(0, _), (1, _)]) (tk_X10_move.at 8 rfl) mv_X10_finding lk_x10_82 np_X10_finding hM.f0 (by decide) rfl (Nat.le_of_ble_eq_true rfl) (Nat.le_of_ble_eq_true rfl) rfl (c10_finding (k := 1) hM (by decide) (by decide) ?_)
    refine X_ireturn (tk_X10_move.at 9 rfl) rfl rfl ?_
    exact k1 (fun g => by first | exact hs8 g.2 | exact hs1 g.1)
