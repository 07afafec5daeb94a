/-- a rope's row as those of a set -/
def Prt (N M : Nat → Int32) (r : Nat) (L : Int32) : Prop := (∀ a, a < 83 + 9 * r ∨ 89 + 9 * r ≤ a → M a = N a) ∧ M (83 + 9 * r) = nI (slc L 10) ∧ ∀ i, i < slc L 10 → M (84 + 9 * r + i) = nI (slf L 10 i)
def mn5 (c b : Nat) : Nat := if c < b then c else b
theorem mn5_le (c b : Nat) : mn5 c b ≤ b ∧ mn5 c b ≤ c := by unfold mn5; split <;> omega
theorem mn5_or (c b : Nat) : (c < b ∧ mn5 c b = c) ∨ (b ≤ c ∧ mn5 c b = b) := by
  unfold mn5
  split
  · exact Or.inl ⟨by assumption, rfl⟩
  · exact Or.inr ⟨by omega, rfl⟩
theorem min5 {c : Nat} (h : c ≤ 6) : (if (5 : Int32) < nI c then 5 else nI c) = nI (mn5 c 5) := by
  have : ∀ c, c ≤ 6 → (if (5 : Int32) < nI c then 5 else nI c) = nI (mn5 c 5) := by decide
  exact this c h
set_option maxHeartbeats 1000000 in
theorem c10_parted {G : Gl} {d : Nat} {S : Sh} {μ : Mu} {o : Nat} {q : Nat → Nat} {r L : Int32} {rn : Nat} {N : Nat → Int32} {K : Int32 → Sh → Mu → Prop} (hM : MS S o q) (hN : μ (o + 1) = N) (hr : r = nI rn) (hrn : rn < 6) (k1 : ∀ M, slc L 10 ≤ 5 → Prt N M rn L → K 1 S (Mx μ (o + 1) M)) (k2 : ∀ M, 5 < slc L 10 → (∀ a, a < 83 + 9 * rn ∨ 89 + 9 * rn ≤ a → M a = N a) → K 0 S (Mx μ (o + 1) M)) : X G mi_X10_parted (d + 1) 0 0 [(0, .ref o), (1, .int r), (2, .int L)] [] S μ (qi K) := by
  refine X_iconst (tk_X10_parted.at 0 rfl) ci_0 ?_
  refine X_istore_n (lv' := [(0, _), (1, _), (2, _), (3, _)]) (tk_X10_parted.at 1 rfl) (by decide) rfl rfl ?_
  refine X_iconst (tk_X10_parted.at 2 rfl) ci_0 ?_
  refine X_istore (lv' := [(0, _), (1, _), (2, _), (3, _), (4, _)]) (tk_X10_parted.at 3 rfl) (by decide) rfl rfl ?_
  have loop : ∀ (m k : Nat) (M : Nat → Int32), k + m = 10 → (∀ a, a < 83 + 9 * rn ∨ 89 + 9 * rn ≤ a → M a = N a) → (∀ i, i < slc L k → i < 5 → M (84 + 9 * rn + i) = nI (slf L k i)) → X G mi_X10_parted (d + 1) 0 5 [(0, .ref o), (1, .int r), (2, .int L), (3, .int (nI (mn5 (slc L k) 6))), (4, .int (nI k))] [] S (Mx μ (o + 1) M) (qi K) := by
    intro m
    induction m with
    | zero =>
      intro k M hk hM1 hM2
      have ek : k = 10 := by omega
      subst ek
      have c6 := mn5_le (slc L 10) 6
      refine X_iload (tk_X10_parted.at 4 rfl) rfl ?_
      refine X_bipush (tk_X10_parted.at 5 rfl) cb_10 ?_
      refine X_icmp_geN (tgt := 49) (tk_X10_parted.at 6 rfl) (by decide) (pl 10 rfl) (pl 10 rfl) (by omega) (by omega) (fun c1 => ?_) (fun c1 => (by exfalso; omega))
      refine X_aload_n (tk_X10_parted.at 25 rfl) rfl ?_
      refine X_getR (tk_X10_parted.at 26 rfl) fl_x10_9 hM.f0 rfl rfl ?_
      refine X_bipush (tk_X10_parted.at 27 rfl) cb_80 ?_
      refine X_bipush (tk_X10_parted.at 28 rfl) cb_9 ?_
      refine X_iload_n (tk_X10_parted.at 29 rfl) rfl ?_
      refine X_imul (tk_X10_parted.at 30 rfl) ?_
      refine X_iadd (tk_X10_parted.at 31 rfl) ?_
      refine X_iconst (tk_X10_parted.at 32 rfl) ci_3 ?_
      refine X_iadd (tk_X10_parted.at 33 rfl) ?_
      refine X_iload_n (tk_X10_parted.at 34 rfl) rfl ?_
      refine X_iconst (tk_X10_parted.at 35 rfl) ci_5 ?_
      refine X_min (tk_X10_parted.at 36 rfl) lk_x10_246 (Nat.le_of_ble_eq_true rfl) ?_
      refine X_iastN (k := 83 + 9 * rn) (tk_X10_parted.at 37 rfl) hM.f1 (pz (pa (pa (pl 80 rfl) (pm (pl 9 rfl) hr)) (pl 3 rfl)) (by omega)) (by omega) (by decide) ?_
      refine X_iload_n (tk_X10_parted.at 38 rfl) rfl ?_
      refine X_iconst (tk_X10_parted.at 39 rfl) ci_5 ?_
      refine X_icmp_gtN (tgt := 77) (tk_X10_parted.at 40 rfl) (by decide) (pl (mn5 (slc L 10) 6) rfl) (pl 5 rfl) (by omega) (by omega) (fun c2 => ?_) (fun c2 => ?_)
      · refine X_iconst (tk_X10_parted.at 43 rfl) ci_0 ?_
        refine X_ireturn (tk_X10_parted.at 44 rfl) rfl rfl ?_
        have c5 : 5 < slc L 10 := by unfold mn5 at c2; split at c2 <;> omega
        rw [min5 (by omega), su_Mx]
        refine k2 _ c5 (fun a ha => ?_)
        rw [upd_ne _ _ (by omega)]
        exact hM1 a ha
      · refine X_iconst (tk_X10_parted.at 41 rfl) ci_1 ?_
        refine X_goto (tgt := 78) (tk_X10_parted.at 42 rfl) (by decide) ?_
        refine X_ireturn (tk_X10_parted.at 44 rfl) rfl rfl ?_
        have c5 : slc L 10 ≤ 5 := by unfold mn5 at c2; split at c2 <;> omega
        rw [min5 (by omega), su_Mx]
        refine k1 _ c5 ⟨fun a ha => ?_, ?_, fun i hi => ?_⟩
        · rw [upd_ne _ _ (by omega)]; exact hM1 a ha
        · rw [upd_at]; congr 1; unfold mn5; split <;> split <;> omega
        · rw [upd_ne _ _ (by omega)]; exact hM2 i hi (by omega)
    | succ m ih =>
      intro k M hk hM1 hM2
      have c6 := mn5_le (slc L k) 6
      refine X_iload (tk_X10_parted.at 4 rfl) rfl ?_
      refine X_bipush (tk_X10_parted.at 5 rfl) cb_10 ?_
      refine X_icmp_geN (tgt := 49) (tk_X10_parted.at 6 rfl) (by decide) (pl k rfl) (pl 10 rfl) (by omega) (by omega) (fun c1 => (by exfalso; omega)) (fun c1 => ?_)
      refine X_iload_n (tk_X10_parted.at 7 rfl) rfl ?_
      refine X_iload (tk_X10_parted.at 8 rfl) rfl ?_
      refine X_cS2i (lv2 := [(0, _), (1, _)]) (tk_X10_parted.at 9 rfl) ms_X10_has lk_x10_150 np_X10_has (Nat.le_of_ble_eq_true rfl) (Nat.le_of_ble_eq_true rfl) rfl (c10_has (fun h15 => ?_) (fun h15 => ?_))
      · refine X_if_eq (tgt := 43) (tk_X10_parted.at 10 rfl) (by decide) (fun h => absurd h (by decide)) (fun _ => ?_)
        refine X_iload_n (tk_X10_parted.at 11 rfl) rfl ?_
        refine X_bipush (tk_X10_parted.at 12 rfl) cb_6 ?_
        refine X_icmp_geN (tgt := 43) (tk_X10_parted.at 13 rfl) (by decide) (pl (mn5 (slc L k) 6) rfl) (pl 6 rfl) (by omega) (by omega) (fun c3 => ?_) (fun c3 => ?_)
        · refine X_iinc (lv' := [(0, _), (1, _), (2, _), (3, _), (4, _)]) (tk_X10_parted.at 23 rfl) rfl ci_1 (by decide) rfl rfl ?_
          refine X_goto (tgt := 5) (tk_X10_parted.at 24 rfl) (by decide) ?_
          have ck : 6 ≤ slc L k := by have mo := mn5_or (slc L k) 6; omega
          have z := ih (k + 1) M (by omega) hM1 (fun i hi h5 => ?_)
          · rw [slc_t h15, show mn5 (slc L k + 1) 6 = mn5 (slc L k) 6 from by unfold mn5; rw [if_neg (by omega), if_neg (by omega)]] at z
            rw [nI_1 k]
            exact z
          · rw [slf_t h15]
            dsimp only
            rw [if_neg (by omega)]
            exact hM2 i (by omega) h5
        · refine X_iload_n (tk_X10_parted.at 14 rfl) rfl ?_
          refine X_iconst (tk_X10_parted.at 15 rfl) ci_5 ?_
          refine X_icmp_geN (tgt := 40) (tk_X10_parted.at 16 rfl) (by decide) (pl (mn5 (slc L k) 6) rfl) (pl 5 rfl) (by omega) (by omega) (fun c4 => ?_) (fun c4 => ?_)
          · refine X_iinc (lv' := [(0, _), (1, _), (2, _), (3, _), (4, _)]) (tk_X10_parted.at 22 rfl) rfl ci_1 (by decide) rfl rfl ?_
            refine X_iinc (lv' := [(0, _), (1, _), (2, _), (3, _), (4, _)]) (tk_X10_parted.at 23 rfl) rfl ci_1 (by decide) rfl rfl ?_
            refine X_goto (tgt := 5) (tk_X10_parted.at 24 rfl) (by decide) ?_
            have ck : slc L k = 5 := by have mo := mn5_or (slc L k) 6; omega
            have z := ih (k + 1) M (by omega) hM1 (fun i hi h5 => ?_)
            · rw [slc_t h15, ck] at z
              rw [nI_1 k, ck]
              exact z
            · rw [slc_t h15] at hi
              rw [slf_t h15]
              dsimp only
              rw [if_neg (by omega)]
              exact hM2 i (by omega) h5
          · refine X_aload_n (tk_X10_parted.at 17 rfl) rfl ?_
            refine X_iload_n (tk_X10_parted.at 18 rfl) rfl ?_
            refine X_iload_n (tk_X10_parted.at 19 rfl) rfl ?_
            refine X_iload (tk_X10_parted.at 20 rfl) rfl ?_
            refine X_cV3v (lv2 := [(0, _), (1, _), (2, _), (3, _)]) (tk_X10_parted.at 21 rfl) mv_X10_seats lk_x10_127 np_X10_seats hM.f0 (by decide) rfl (Nat.le_of_ble_eq_true rfl) (Nat.le_of_ble_eq_true rfl) rfl (c10_seats hM hr (pl (mn5 (slc L k) 6) rfl) (by omega) (by omega) ?_)
            refine X_iinc (lv' := [(0, _), (1, _), (2, _), (3, _), (4, _)]) (tk_X10_parted.at 22 rfl) rfl ci_1 (by decide) rfl rfl ?_
            refine X_iinc (lv' := [(0, _), (1, _), (2, _), (3, _), (4, _)]) (tk_X10_parted.at 23 rfl) rfl ci_1 (by decide) rfl rfl ?_
            refine X_goto (tgt := 5) (tk_X10_parted.at 24 rfl) (by decide) ?_
            have ck : mn5 (slc L k) 6 = slc L k := by have mo := mn5_or (slc L k) 6; omega
            have ck2 : slc L k < 5 := by omega
            rw [nI_1 k, nI_1, ck, su_Mx]
            have z := ih (k + 1) (upd M (84 + 9 * rn + slc L k) (nI k)) (by omega) (fun a ha => by rw [upd_ne _ _ (by omega)]; exact hM1 a ha) (fun i hi h5 => ?_)
            · rw [slc_t h15, show mn5 (slc L k + 1) 6 = slc L k + 1 from by unfold mn5; rw [if_pos (by omega)]] at z
              exact z
            · rw [slc_t h15] at hi
              rw [slf_t h15]
              dsimp only
              by_cases e : i = slc L k
              · rw [e, upd_at, if_pos rfl]
              · rw [upd_ne _ _ (by omega), if_neg e]; exact hM2 i (by omega) h5
      · refine X_if_eq (tgt := 43) (tk_X10_parted.at 10 rfl) (by decide) (fun _ => ?_) (fun h => absurd h (by decide))
        refine X_iinc (lv' := [(0, _), (1, _), (2, _), (3, _), (4, _)]) (tk_X10_parted.at 23 rfl) rfl ci_1 (by decide) rfl rfl ?_
        refine X_goto (tgt := 5) (tk_X10_parted.at 24 rfl) (by decide) ?_
        have z := ih (k + 1) M (by omega) hM1 (by rw [slc_f h15, slf_f h15]; exact hM2)
        rw [slc_f h15] at z
        rw [nI_1 k]
        exact z
  have z := loop 10 0 N rfl (fun _ _ => rfl) (fun i hi => absurd hi (Nat.not_lt_zero i))
  rw [← hN, Mx_self] at z
  exact z
