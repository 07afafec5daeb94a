set_option maxHeartbeats 1000000 in
theorem c6_copyFrom {G : Gl} {d : Nat} {S : Sh} {μ : Mu} {R Q m len l2 : Nat} {K : Sh → Mu → Prop} (hR : RS S R len) (hQ : RS S Q l2) (hm : μ Q 1 = nI m) (h1 : m ≤ len) (h2 : m ≤ l2) (hl : len ≤ 60) (hQR : Q + 1 ≠ R) (hK : ∀ B, (∀ i, i < m → B i = μ (Q + 1) i) → K S (Mx (su μ R 1 (nI m)) (R + 1) B)) : X G mi_X6_copyFrom (d + 1) 0 0 [(0, .ref R), (1, .ref Q)] [] S μ (qv K) := by
  refine X_aload_n (tk_X6_copyFrom.at 0 rfl) rfl ?_
  refine X_aload_n (tk_X6_copyFrom.at 1 rfl) rfl ?_
  refine X_getI (tk_X6_copyFrom.at 2 rfl) fl_x6_9 hQ.1 rfl ?_
  refine X_aload_n (tk_X6_copyFrom.at 3 rfl) rfl ?_
  refine X_getR (tk_X6_copyFrom.at 4 rfl) fl_x6_21 hR.1 rfl rfl ?_
  refine X_alen (tk_X6_copyFrom.at 5 rfl) hR.2 ?_
  refine X_min (tk_X6_copyFrom.at 6 rfl) lk_x6_25 (Nat.le_of_ble_eq_true rfl) ?_
  rw [hm, show (if nI len < nI m then nI len else nI m) = nI m from if_neg (nI_nlt (by omega) (by omega))]
  refine X_putI (tk_X6_copyFrom.at 7 rfl) fl_x6_9 hR.1 rfl rfl ⟨rfl, rfl⟩ ?_
  refine X_aload_n (tk_X6_copyFrom.at 8 rfl) rfl ?_
  refine X_getR (tk_X6_copyFrom.at 9 rfl) fl_x6_21 hQ.1 rfl rfl ?_
  refine X_iconst (tk_X6_copyFrom.at 10 rfl) ci_0 ?_
  refine X_aload_n (tk_X6_copyFrom.at 11 rfl) rfl ?_
  refine X_getR (tk_X6_copyFrom.at 12 rfl) fl_x6_21 hR.1 rfl rfl ?_
  refine X_iconst (tk_X6_copyFrom.at 13 rfl) ci_0 ?_
  refine X_aload_n (tk_X6_copyFrom.at 14 rfl) rfl ?_
  refine X_getI (tk_X6_copyFrom.at 15 rfl) fl_x6_9 hR.1 rfl ?_
  have e1 : su μ R 1 (nI m) R 1 = nI m := by rw [su_same]; exact upd_at _ _ _
  rw [e1]
  refine X_copy (tk_X6_copyFrom.at 16 rfl) lk_x6_28 hQ.2 hR.2 (by decide) (by decide) (nI_pos (by omega)) ?_ ?_ (Nat.le_of_ble_eq_true rfl) ?_
  · rw [nI_clamp (by omega)]; show 0 + m ≤ _; omega
  · rw [nI_clamp (by omega)]; show 0 + m ≤ _; omega
  rw [nI_clamp (by omega)]
  refine X_return (tk_X6_copyFrom.at 17 rfl) rfl ?_
  refine hK _ (fun i hi => ?_)
  rw [show (0 : Int32).toNatClampNeg = 0 from rfl, sb_cpy0 hi, su_ne hQR]
theorem and01 (y : Int32) : ¬ y &&& 1 = 0 ↔ y &&& 1 = 1 := by
  rw [← Int32.toBitVec_inj, ← Int32.toBitVec_inj, Int32.toBitVec_and]
  show ¬ y.toBitVec &&& 1#32 = 0#32 ↔ y.toBitVec &&& 1#32 = 1#32
  rw [bv_and1]
  constructor
  · intro h
    cases e : y.toBitVec.getLsbD 0 with
    | true => rfl
    | false =>
      exfalso
      apply h
      apply BitVec.eq_of_getLsbD_eq
      intro i hi
      rw [BitVec.getLsbD_and, BitVec.getLsbD_one]
      by_cases c : i = 0
      · subst c; rw [e]; rfl
      · simp [c]
  · intro h g
    have := congrArg (fun z => z.getLsbD 0) g
    rw [BitVec.getLsbD_and, h] at this
    exact absurd this (by decide)
theorem slc_mono {L : Int32} {a b : Nat} (h : a ≤ b) : slc L a ≤ slc L b := by
  induction b with
  | zero => rw [show a = 0 by omega]; exact Nat.le_refl _
  | succ b ih =>
    rcases Nat.lt_or_ge a (b + 1) with g | g
    · have := ih (by omega)
      rw [slc]
      split <;> omega
    · rw [show a = b + 1 by omega]; exact Nat.le_refl _
set_option maxHeartbeats 1000000 in
theorem c6_becomeBits {G : Gl} {d : Nat} {S : Sh} {μ : Mu} {R len : Nat} {b : Int32} {K : Sh → Mu → Prop} (hR : RS S R len) (hl : len ≤ 60) (hc : slc b 10 ≤ len) (hK : ∀ B, (∀ i, i < slc b 10 → B i = nI (slf b 10 i)) → K S (Mx (su μ R 1 (nI (slc b 10))) (R + 1) B)) : X G mi_X6_becomeBits (d + 1) 0 0 [(0, .ref R), (1, .int b)] [] S μ (qv K) := by
  refine X_aload_n (tk_X6_becomeBits.at 0 rfl) rfl ?_
  refine X_cV0v (lv2 := [(0, _)]) (tk_X6_becomeBits.at 1 rfl) mv_X6_empty lk_x6_34 np_X6_empty hR.1 (by decide) rfl (Nat.le_of_ble_eq_true rfl) (Nat.le_of_ble_eq_true rfl) rfl (c6_empty (n := 0) hR ?_)
  refine X_iconst (tk_X6_becomeBits.at 2 rfl) ci_0 ?_
  refine X_istore_n (lv' := [(0, _), (1, _), (2, _)]) (tk_X6_becomeBits.at 3 rfl) (by decide) rfl rfl ?_
  have loop : ∀ (m k : Nat) (B : Nat → Int32), k + m = 10 → (∀ i, i < slc b k → B i = nI (slf b k i)) → X G mi_X6_becomeBits (d + 1) 0 6 [(0, .ref R), (1, .int b), (2, .int (nI k))] [] S (Mx (su μ R 1 (nI (slc b k))) (R + 1) B) (qv K) := by
    intro m
    induction m with
    | zero =>
      intro k B hk hB
      have e10 : k = 10 := by omega
      subst e10
      refine X_iload_n (tk_X6_becomeBits.at 4 rfl) rfl ?_
      refine X_bipush (tk_X6_becomeBits.at 5 rfl) cb_10 ?_
      refine X_icmp_geN (tgt := 31) (tk_X6_becomeBits.at 6 rfl) (by decide) (pl 10 rfl) (pl 10 rfl) (by omega) (by omega) (fun c1 => ?_) (fun c1 => (by exfalso; omega))
      refine X_return (tk_X6_becomeBits.at 18 rfl) rfl ?_
      exact hK B hB
    | succ m ih =>
      intro k B hk hB
      have hcl : slc b (k + 1) ≤ slc b 10 := slc_mono (by omega)
      refine X_iload_n (tk_X6_becomeBits.at 4 rfl) rfl ?_
      refine X_bipush (tk_X6_becomeBits.at 5 rfl) cb_10 ?_
      refine X_icmp_geN (tgt := 31) (tk_X6_becomeBits.at 6 rfl) (by decide) (pl k rfl) (pl 10 rfl) (by omega) (by omega) (fun c1 => (by exfalso; omega)) (fun c1 => ?_)
      refine X_iload_n (tk_X6_becomeBits.at 7 rfl) rfl ?_
      refine X_iload_n (tk_X6_becomeBits.at 8 rfl) rfl ?_
      refine X_ishr (tk_X6_becomeBits.at 9 rfl) ?_
      refine X_iconst (tk_X6_becomeBits.at 10 rfl) ci_1 ?_
      refine X_iand (tk_X6_becomeBits.at 11 rfl) ?_
      refine X_if_eq (tgt := 25) (tk_X6_becomeBits.at 12 rfl) (by decide) (fun c2 => ?_) (fun c2 => ?_)
      · refine X_iinc (lv' := [(0, _), (1, _), (2, _)]) (tk_X6_becomeBits.at 16 rfl) rfl ci_1 (by decide) rfl rfl ?_
        refine X_goto (tgt := 6) (tk_X6_becomeBits.at 17 rfl) (by decide) ?_
        have hlb : ¬ lb b (nI k) := fun g => (and01 _).mpr g c2
        have z := ih (k + 1) B (by omega) (by rw [slc_f hlb, slf_f hlb]; exact hB)
        rw [slc_f hlb] at z
        rw [nI_1 k]
        exact z
      · refine X_aload_n (tk_X6_becomeBits.at 13 rfl) rfl ?_
        refine X_iload_n (tk_X6_becomeBits.at 14 rfl) rfl ?_
        have hlb : lb b (nI k) := (and01 _).mp c2
        have esz : (Mx (su μ R 1 (nI (slc b k))) (R + 1) B) R 1 = nI (slc b k) := by rw [Mx_ne (by omega), su_same]; exact upd_at _ _ _
        rw [slc_t hlb] at hcl
        refine X_cV1v (lv2 := [(0, _), (1, _)]) (tk_X6_becomeBits.at 15 rfl) mv_X6_add lk_x6_37 np_X6_add hR.1 (by decide) rfl (Nat.le_of_ble_eq_true rfl) (Nat.le_of_ble_eq_true rfl) rfl (c6_add hR esz (by omega) hl (fun _ => ?_) (fun h => absurd h (by omega)))
        rw [show su (su (Mx (su μ R 1 (nI (slc b k))) (R + 1) B) (R + 1) (slc b k) (nI k)) R 1 (nI (slc b k + 1)) = Mx (su μ R 1 (nI (slc b k + 1))) (R + 1) (upd B (slc b k) (nI k)) from by rw [su_Mx, su_eq, Mx_ne (show R ≠ R + 1 by omega), su_same, upd_upd, Mx_comm _ (show R + 1 ≠ R by omega), su_eq, Mx_Mx, su_eq]]
        refine X_iinc (lv' := [(0, _), (1, _), (2, _)]) (tk_X6_becomeBits.at 16 rfl) rfl ci_1 (by decide) rfl rfl ?_
        refine X_goto (tgt := 6) (tk_X6_becomeBits.at 17 rfl) (by decide) ?_
        have z := ih (k + 1) (upd B (slc b k) (nI k)) (by omega) (fun i hi => ?_)
        · rw [slc_t hlb] at z; rw [nI_1 k]; exact z
        · rw [slc_t hlb] at hi
          rw [slf_t hlb]
          dsimp only
          by_cases e : i = slc b k
          · rw [e, upd_at, if_pos rfl]
          · rw [upd_ne _ _ e, if_neg e]; exact hB i (by omega)
  have z := loop 10 0 (μ (R + 1)) rfl (fun i hi => absurd hi (Nat.not_lt_zero i))
  rw [show μ (R + 1) = su μ R 1 (nI (slc b 0)) (R + 1) from by rw [su_ne (by omega)], Mx_self] at z
  exact z
