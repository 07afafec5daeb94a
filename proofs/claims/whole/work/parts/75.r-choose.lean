def rO (H k : Nat) : Option Nat := match k with
  | 0 => some (H + 1)
  | 3 => some (H + 3)
  | 4 => some (H + 35)
  | _ => none
/-- a chooser of the class at H: its row, its dawn, its crossing -/
def OS (G : Gl) (S : Sh) (H : Nat) : Prop := S.2 H = some (kO 0 (rO H)) ∧ RS S (H + 1) 6 ∧ DS G S (H + 3) ∧ XS S (H + 35)
def BW (H : Nat) (ν : Mu) (b : Option (Nat × Nat)) : Prop := match b with
  | none => ν H 1 = -1 ∧ ν H 2 = 2147483647
  | some (t, c) => ν H 1 = nI c ∧ ν H 2 = nI t ∧ t ≤ 1200000
def Fh (H : Nat) (μ ν : Mu) : Prop := ∀ a, a < H ∨ H + 41 ≤ a → ν a = μ a
theorem Fh.tr {H : Nat} {μ ν ξ : Mu} (h : Fh H μ ν) (g : ∀ a, a < H ∨ H + 41 ≤ a → ξ a = ν a) : Fh H μ ξ := fun a ha => (g a ha).trans (h a ha)
noncomputable def wg (b : Option (Nat × Nat)) (t c : Nat) : Option (Nat × Nat) := @ite _ (btr b t) (Classical.propDecidable _) (some (t, c)) b
theorem bw_wg {ok : Nat → Prop} {tl : Nat → Nat} {a k : Nat} (h : ok (a + k)) : bw ok tl a (k + 1) = wg (bw ok tl a k) (tl (a + k)) (a + k) := by
  unfold wg
  by_cases c : btr (bw ok tl a k) (tl (a + k))
  · rw [if_pos c, bw_t h c]
  · rw [if_neg c, bw_f c]
theorem BW_eq {H : Nat} {μ ν : Mu} {b : Option (Nat × Nat)} (h : BW H μ b) (e : ν H = μ H) : BW H ν b := by
  unfold BW at h ⊢
  rw [e]; exact h
set_option maxHeartbeats 1000000 in
theorem c0_begin {G : Gl} {d : Nat} {S : Sh} {μ : Mu} {H D : Nat} {N : Nat → Int32} {K : Sh → Mu → Prop} (hH : OS G S H) (hD : DS G S D) (hw : WF N) (hr : repD μ D N) (hnb : μ (H + 3 + 14) 1 = 0) (hdis : D + 32 ≤ H ∨ H + 41 ≤ D) (hK : ∀ ν, Fh H μ ν → repD ν (H + 3) N → BW H ν none → K S ν) : X G mi_X0_begin (d + 3) 0 0 [(0, .ref H), (1, .ref D)] [] S μ (qv K) := by
  refine X_aload_n (tk_X0_begin.at 0 rfl) rfl ?_
  refine X_getR (tk_X0_begin.at 1 rfl) fl_x0_30 hH.1 rfl rfl ?_
  refine X_aload_n (tk_X0_begin.at 2 rfl) rfl ?_
  refine X_cV1v (lv2 := [(0, _), (1, _)]) (tk_X0_begin.at 3 rfl) mv_X2_copyFrom lk_x0_41 np_X2_copyFrom hH.2.2.1.1 (by decide) rfl (Nat.le_of_ble_eq_true rfl) (Nat.le_of_ble_eq_true rfl) rfl (c2_copyFrom hH.2.2.1 hD hw hr hnb (by omega) (fun ν hf hT => ?_))
  refine X_aload_n (tk_X0_begin.at 4 rfl) rfl ?_
  refine X_iconst (tk_X0_begin.at 5 rfl) ci_m1 ?_
  refine X_putI (tk_X0_begin.at 6 rfl) fl_x0_20 hH.1 rfl rfl ⟨rfl, rfl⟩ ?_
  refine X_aload_n (tk_X0_begin.at 7 rfl) rfl ?_
  refine X_ldc (tk_X0_begin.at 8 rfl) kn_x0_45 ?_
  refine X_putI (tk_X0_begin.at 9 rfl) fl_x0_24 hH.1 rfl rfl ⟨rfl, rfl⟩ ?_
  refine X_return (tk_X0_begin.at 10 rfl) rfl ?_
  refine hK _ (fun a ha => ?_) (repD_of hT (fun a h1 h2 => ?_)) ⟨?_, ?_⟩
  · rw [su_ne (by omega), su_ne (by omega)]; exact hf a (by omega)
  · rw [su_ne (by omega), su_ne (by omega)]
  · rw [su_same, upd_ne _ _ (by decide), su_same]; exact upd_at _ _ _
  · rw [su_same]; exact upd_at _ _ _
set_option maxHeartbeats 1000000 in
theorem c0_weigh {G : Gl} {d : Nat} {S : Sh} {μ : Mu} {H tn c : Nat} {x t : Int32} {b : Option (Nat × Nat)} {K : Sh → Mu → Prop} (hH : OS G S H) (hb : BW H μ b) (ht : t = nI tn) (htn : tn ≤ 1200000) (hx : x = nI c) (hK : ∀ ν, (∀ a, a ≠ H → ν a = μ a) → BW H ν (wg b tn c) → K S ν) : X G mi_X0_weigh d 0 0 [(0, .ref H), (1, .int x), (2, .int t)] [] S μ (qv K) := by
  have hcase : ∃ y, μ H 2 = nI y ∧ y ≤ 2147483647 ∧ (tn < y ↔ btr b tn) := by
    cases b with
    | none => exact ⟨2147483647, hb.2, Nat.le_refl _, iff_of_true (by omega) trivial⟩
    | some p => obtain ⟨t', c'⟩ := p; exact ⟨t', hb.2.1, by have := hb.2.2; omega, Iff.rfl⟩
  obtain ⟨y, ey, by1, hlt⟩ := hcase
  refine X_iload_n (tk_X0_weigh.at 0 rfl) rfl ?_
  refine X_aload_n (tk_X0_weigh.at 1 rfl) rfl ?_
  refine X_getI (tk_X0_weigh.at 2 rfl) fl_x0_24 hH.1 rfl ?_
  refine X_icmp_geN (tgt := 18) (tk_X0_weigh.at 3 rfl) (by decide) ht ey (by omega) (by omega) (fun c1 => ?_) (fun c1 => ?_)
  · refine X_return (tk_X0_weigh.at 10 rfl) rfl ?_
    have hb2 : ¬ btr b tn := fun g => absurd (hlt.mpr g) (by omega)
    refine hK μ (fun a _ => rfl) ?_
    rw [show wg b tn c = b from if_neg hb2]
    exact hb
  · refine X_aload_n (tk_X0_weigh.at 4 rfl) rfl ?_
    refine X_iload_n (tk_X0_weigh.at 5 rfl) rfl ?_
    refine X_putI (tk_X0_weigh.at 6 rfl) fl_x0_24 hH.1 rfl rfl ⟨rfl, rfl⟩ ?_
    refine X_aload_n (tk_X0_weigh.at 7 rfl) rfl ?_
    refine X_iload_n (tk_X0_weigh.at 8 rfl) rfl ?_
    refine X_putI (tk_X0_weigh.at 9 rfl) fl_x0_20 hH.1 rfl rfl ⟨rfl, rfl⟩ ?_
    refine X_return (tk_X0_weigh.at 10 rfl) rfl ?_
    have hb2 : btr b tn := hlt.mp (by omega)
    refine hK _ (fun a ha => ?_) ?_
    · rw [su_ne ha, su_ne ha]
    · rw [show wg b tn c = some (tn, c) from if_pos hb2]
      refine ⟨?_, ?_, by omega⟩
      · rw [su_same, upd_at]; exact hx
      · rw [su_same, upd_ne _ _ (by decide), su_same, upd_at]; exact ht
theorem c0_toll {G : Gl} {d : Nat} {S : Sh} {μ : Mu} {H : Nat} {M : Nat → Int32} {K : Int32 → Sh → Mu → Prop} (hH : OS G S H) (hw : WF M) (hr : repD μ (H + 3) M) (hK : ∀ ν, (∀ a, a < H + 35 ∨ H + 41 ≤ a → ν a = μ a) → repD ν (H + 3) M → ν (H + 35) 3 = nI (ovr M (nv (M 4))) → K (nI (toll M)) S ν) : X G mi_X1_tollOf (d + 5) 0 0 [(0, .ref (H + 35)), (1, .ref (H + 3))] [] S μ (qi K) :=
  c1_tollOf hH.2.2.2 hH.2.2.1 hw hr (Or.inl (by omega)) (fun cm of h P _ => hK _ (fun a ha => Tc_out (by omega)) (rTc (Or.inl (by omega)) hr) TcC)
set_option maxHeartbeats 1000000 in
theorem c0_chooseSpace {G : Gl} {d : Nat} {S : Sh} {μ : Mu} {H D : Nat} {N : Nat → Int32} {x : Int32} {rn : Nat} {K : Sh → Mu → Prop} (hH : OS G S H) (hD : DS G S D) (hw : WF N) (hr : repD μ D N) (hnb : μ (H + 3 + 14) 1 = 0) (hdis : D + 32 ≤ H ∨ H + 41 ≤ D) (hx : x = nI rn) (h3 : rn < nv (N 3)) (hK : ∀ ν M, Fh H μ ν → repD ν (H + 3) M → BW H ν (bw (fun _ => True) (tlS N rn) 1 20) → K S ν) : X G mi_X0_chooseSpace (d + 6) 0 0 [(0, .ref H), (1, .ref D), (2, .int x)] [] S μ (qv K) := by
  have b3 := hw.n3.2
  refine X_aload_n (tk_X0_chooseSpace.at 0 rfl) rfl ?_
  refine X_aload_n (tk_X0_chooseSpace.at 1 rfl) rfl ?_
  refine X_cV1v (lv2 := [(0, _), (1, _)]) (tk_X0_chooseSpace.at 2 rfl) mv_X0_begin lk_x0_46 np_X0_begin hH.1 (by decide) rfl (Nat.le_of_ble_eq_true rfl) (Nat.le_of_ble_eq_true rfl) rfl (c0_begin hH hD hw hr hnb hdis (fun ν hF hT hB => ?_))
  refine X_iconst (tk_X0_chooseSpace.at 3 rfl) ci_1 ?_
  refine X_istore_n (lv' := [(0, _), (1, _), (2, _), (3, _)]) (tk_X0_chooseSpace.at 4 rfl) (by decide) rfl rfl ?_
  have loop : ∀ (m k : Nat) (ν : Mu) (M : Nat → Int32) (rest : List (Nat × Value)), k + m = 20 → Fh H μ ν → WF M → repD ν (H + 3) M → (∀ a, a ≠ 81 + 9 * rn → M a = N a) → BW H ν (bw (fun _ => True) (tlS N rn) 1 k) → X G mi_X0_chooseSpace (d + 6) 0 7 ([(0, .ref H), (1, .ref D), (2, .int x), (3, .int (nI (1 + k)))] ++ rest) [] S ν (qv K) := by
    intro m
    induction m with
    | zero =>
      intro k ν M rest hk hF hwM hT hM hB
      refine X_lvp [0, 1, 2, 3] (lv' := [(0, _), (1, _), (2, _), (3, _)]) rfl ?_
      have e : k = 20 := by omega
      subst e
      refine X_iload_n (tk_X0_chooseSpace.at 5 rfl) rfl ?_
      refine X_bipush (tk_X0_chooseSpace.at 6 rfl) cb_20 ?_
      refine X_icmp_gtN (tgt := 48) (tk_X0_chooseSpace.at 7 rfl) (by decide) (pl (1 + 20) rfl) (pl 20 rfl) (by omega) (by omega) (fun c1 => ?_) (fun c1 => (by exfalso; omega))
      refine X_return (tk_X0_chooseSpace.at 25 rfl) rfl ?_
      exact hK ν M hF hT hB
    | succ m ih =>
      intro k ν M rest hk hF hwM hT hM hB
      refine X_lvp [0, 1, 2, 3] (lv' := [(0, _), (1, _), (2, _), (3, _)]) rfl ?_
      refine X_iload_n (tk_X0_chooseSpace.at 5 rfl) rfl ?_
      refine X_bipush (tk_X0_chooseSpace.at 6 rfl) cb_20 ?_
      refine X_icmp_gtN (tgt := 48) (tk_X0_chooseSpace.at 7 rfl) (by decide) (pl (1 + k) rfl) (pl 20 rfl) (by omega) (by omega) (fun c1 => (by exfalso; omega)) (fun c1 => ?_)
      refine X_aload_n (tk_X0_chooseSpace.at 8 rfl) rfl ?_
      refine X_getR (tk_X0_chooseSpace.at 9 rfl) fl_x0_30 hH.1 rfl rfl ?_
      refine X_getR (tk_X0_chooseSpace.at 10 rfl) fl_x0_73 hH.2.2.1.1 rfl rfl ?_
      refine X_iload_n (tk_X0_chooseSpace.at 11 rfl) rfl ?_
      refine X_iconst (tk_X0_chooseSpace.at 12 rfl) ci_1 ?_
      refine X_iload_n (tk_X0_chooseSpace.at 13 rfl) rfl ?_
      have eM3 : M 3 = N 3 := hM 3 (by omega)
      have h3M : rn < nv (M 3) := by rw [eM3]; exact h3
      refine X_cV3v (lv2 := [(0, _), (1, _), (2, _), (3, _)]) (tk_X0_chooseSpace.at 14 rfl) mv_X3_change lk_x0_77 np_X3_change hH.2.2.1.2.2.2.1.1 (by decide) rfl (Nat.le_of_ble_eq_true rfl) (Nat.le_of_ble_eq_true rfl) rfl (c3_change (n := nv (M 3)) (r := rn) (c := 1) hH.2.2.1.2.2.2.1 (rD_ropes hwM hT) (by have := hwM.n3.2; omega) (by decide) hx h3M (pl 1 rfl) (by decide) ?_)
      generalize eζ : su ν (H + 3 + 5 + 1) (4 * rn + 1) (nI (1 + k)) = ζ
      have wf := WF_rf hw h3 (f := 0) (x := nI (1 + k)) (by decide) (fun _ => ⟨okN_of (by omega) (by decide), by rw [nv_nI (by omega)]; omega⟩) (fun h => absurd h (by decide))
      have fζ : ∀ a, a ≠ H + 3 + 6 → ζ a = ν a := fun a ha => by rw [← eζ, su_ne ha]
      have hT2 : repD ζ (H + 3) (upd N (81 + 9 * rn) (nI (1 + k))) := repD_rop (r0 := rn) (f := 1) (v := nI (1 + k)) hwM hT h3M (by decide) fζ (by rw [← eζ]; exact su_same) (fun a ha => by rw [upd_ne _ _ (by omega)]; exact (hM a (by omega)).symm) (by rw [show 80 + 9 * rn + 1 = 81 + 9 * rn by omega]; exact upd_at _ _ _)
      refine X_aload_n (tk_X0_chooseSpace.at 15 rfl) rfl ?_
      refine X_iload_n (tk_X0_chooseSpace.at 16 rfl) rfl ?_
      refine X_aload_n (tk_X0_chooseSpace.at 17 rfl) rfl ?_
      refine X_getR (tk_X0_chooseSpace.at 18 rfl) fl_x0_37 hH.1 rfl rfl ?_
      refine X_aload_n (tk_X0_chooseSpace.at 19 rfl) rfl ?_
      refine X_getR (tk_X0_chooseSpace.at 20 rfl) fl_x0_30 hH.1 rfl rfl ?_
      refine X_cV1i (lv2 := [(0, _), (1, _)]) (tk_X0_chooseSpace.at 21 rfl) mv_X1_tollOf lk_x0_56 np_X1_tollOf hH.2.2.2.1 (by decide) rfl (Nat.le_of_ble_eq_true rfl) (Nat.le_of_ble_eq_true rfl) rfl (c0_toll hH wf hT2 (fun ξ hf1 hT1 ho1 => ?_))
      refine X_cV2v (lv2 := [(0, _), (1, _), (2, _)]) (tk_X0_chooseSpace.at 22 rfl) mv_X0_weigh lk_x0_83 np_X0_weigh hH.1 (by decide) rfl (Nat.le_of_ble_eq_true rfl) (Nat.le_of_ble_eq_true rfl) rfl (c0_weigh (tn := (toll (upd N (81 + 9 * rn) (nI (1 + k))))) (c := 1 + k) hH (BW_eq (BW_eq hB (fζ H (by omega))) (hf1 H (by omega))) (pl (toll (upd N (81 + 9 * rn) (nI (1 + k)))) rfl) (toll_le wf) (pz (pl (1 + k) rfl) (by omega)) (fun η hf2 hB2 => ?_))
      refine X_iinc (lv' := [(0, _), (1, _), (2, _), (3, _)]) (tk_X0_chooseSpace.at 23 rfl) rfl ci_1 (by decide) rfl rfl ?_
      refine X_goto (tgt := 7) (tk_X0_chooseSpace.at 24 rfl) (by decide) ?_
      rw [nI_1 (1 + k)]
      refine ih (k + 1) η _ _ (by omega) ?_ wf (repD_of hT1 (fun a h1 h2 => hf2 a (by omega))) (fun a ha => upd_ne _ _ (by omega)) (by rw [bw_wg trivial]; exact hB2)
      intro a ha
      rw [hf2 a (by omega), hf1 a (by omega), fζ a (by omega)]
      exact hF a ha
  exact loop 20 0 ν N [] rfl hF hw hT (fun a _ => rfl) hB
