def sgm (x y p : Nat) : Nat := if p = x then y else if p = y then x else p
set_option maxHeartbeats 1000000 in
theorem WF_swp {N M : Nat → Int32} (hw : WF N) {r i r' i' x y : Nat} (hx : On N r i x) (hy : On N r' i' y) (hxy : x ≠ y) (bx : x < nv (N 1)) (by_ : y < nv (N 1)) (out : ∀ a, a ≠ 84 + 9 * r + i → a ≠ 84 + 9 * r' + i' → M a = N a) (vA : M (84 + 9 * r + i) = nI y) (vB : M (84 + 9 * r' + i') = nI x) : WF M := by
  have k1 := hw.n1.2
  have k2 := hw.n2.2
  have k3 := hw.n3.2
  have k4 := hw.n4.2
  have k5 := hw.n5.2
  have k6 := hw.n6.2
  have hm1 := (hw.ro hx.1).2.2.2.1.2
  have hm2 := (hw.ro hy.1).2.2.2.1.2
  have hi1 := hx.2.1
  have hi2 := hy.2.1
  have h31 := hx.1
  have h32 := hy.1
  have seat : ∀ r1 k, r1 < nv (N 3) → k < nv (N (83 + 9 * r1)) → M (84 + 9 * r1 + k) = nI (nv (M (84 + 9 * r1 + k))) ∧ nv (M (84 + 9 * r1 + k)) < nv (N 1) := by
    intro r1 k h3 hk
    by_cases e1 : 84 + 9 * r1 + k = 84 + 9 * r + i
    · rw [e1, vA, nv_nI (by omega)]; exact ⟨rfl, by_⟩
    by_cases e2 : 84 + 9 * r1 + k = 84 + 9 * r' + i'
    · rw [e2, vB, nv_nI (by omega)]; exact ⟨rfl, bx⟩
    rw [out (84 + 9 * r1 + k) e1 e2]; exact (hw.ro h3).2.2.2.2 k hk
  have on : ∀ {r1 i1 p : Nat}, p < 2 ^ 31 → On M r1 i1 p → On N r1 i1 (sgm x y p) := by
    intro r1 i1 p hp31 g
    have h3 : r1 < nv (N 3) := by rw [← out 3 (by omega) (by omega)]; exact g.1
    have gm := (hw.ro h3).2.2.2.1.2
    have hi : i1 < nv (N (83 + 9 * r1)) := by rw [← out (83 + 9 * r1) (by omega) (by omega)]; exact g.2.1
    by_cases e1 : 84 + 9 * r1 + i1 = 84 + 9 * r + i
    · have er : r1 = r := by omega
      have ei : i1 = i := by omega
      subst er ei
      have ep : nI y = nI p := vA.symm.trans g.2.2
      have ep2 : p = y := ((nI_eq (by omega) hp31).mp ep).symm
      rw [ep2]; unfold sgm; rw [if_neg (fun e => hxy e.symm), if_pos rfl]; exact hx
    by_cases e2 : 84 + 9 * r1 + i1 = 84 + 9 * r' + i'
    · have er : r1 = r' := by omega
      have ei : i1 = i' := by omega
      subst er ei
      have ep : nI x = nI p := vB.symm.trans g.2.2
      have ep2 : p = x := ((nI_eq (by omega) hp31).mp ep).symm
      rw [ep2]; unfold sgm; rw [if_pos rfl]; exact hy
    have hv : N (84 + 9 * r1 + i1) = nI p := by rw [← out (84 + 9 * r1 + i1) e1 e2]; exact g.2.2
    have hp : On N r1 i1 p := ⟨h3, hi, hv⟩
    have n1 : p ≠ x := fun e => by rw [e] at hp; have z := hw.un hp hx; omega
    have n2 : p ≠ y := fun e => by rw [e] at hp; have z := hw.un hp hy; omega
    unfold sgm; rw [if_neg n1, if_neg n2]; exact hp
  refine ⟨⟨?_, ?_, ?_, ?_, ?_, ?_, ?_⟩, ?_, ?_, ?_, ?_, ?_, ?_, ?_, ?_⟩
  · rw [out (0) (by omega) (by omega)]; exact hw.n0
  · rw [out (1) (by omega) (by omega)]; exact hw.n1
  · rw [out (2) (by omega) (by omega)]; exact hw.n2
  · rw [out (3) (by omega) (by omega)]; exact hw.n3
  · rw [out (4) (by omega) (by omega)]; exact hw.n4
  · rw [out (5) (by omega) (by omega)]; exact hw.n5
  · rw [out (6) (by omega) (by omega)]; exact hw.n6
  · intro p hp
    rw [out (1) (by omega) (by omega)] at hp
    have g := hw.pe hp
    unfold WFp at g ⊢
    rw [out (8 + 4 * p) (by omega) (by omega), out (9 + 4 * p) (by omega) (by omega), out (10 + 4 * p) (by omega) (by omega), out (11 + 4 * p) (by omega) (by omega)]
    exact g
  · intro p hp
    rw [out (2) (by omega) (by omega)] at hp
    have g := hw.pc hp
    unfold WFc at g ⊢
    rw [out (48 + 4 * p) (by omega) (by omega), out (49 + 4 * p) (by omega) (by omega), out (50 + 4 * p) (by omega) (by omega), out (51 + 4 * p) (by omega) (by omega)]
    exact g
  · intro r1 hr1
    rw [out 3 (by omega) (by omega)] at hr1
    have g := hw.ro hr1
    have gm := g.2.2.2.1.2
    unfold WFr at g ⊢
    rw [out (80 + 9 * r1) (by omega) (by omega), out (81 + 9 * r1) (by omega) (by omega), out (82 + 9 * r1) (by omega) (by omega), out (83 + 9 * r1) (by omega) (by omega), out 1 (by omega) (by omega)]
    exact ⟨g.1, g.2.1, g.2.2.1, g.2.2.2.1, fun k hk => seat r1 k hr1 hk⟩
  · intro r1 i1 r2 i2 p g g'
    have h3 : r1 < nv (N 3) := by rw [← out 3 (by omega) (by omega)]; exact g.1
    have hi : i1 < nv (N (83 + 9 * r1)) := by rw [← out (83 + 9 * r1) (by omega) (by omega)]; exact g.2.1
    have z := seat r1 i1 h3 hi
    have e : nI p = nI (nv (nI p)) := by rw [← g.2.2]; exact z.1
    have hlt : nv (nI p) < 2 ^ 31 := by rw [← g.2.2]; omega
    exact hw.un (on hlt ⟨g.1, g.2.1, g.2.2.trans e⟩) (on hlt ⟨g'.1, g'.2.1, g'.2.2.trans e⟩)
  · intro k hk
    rw [out (4) (by omega) (by omega)] at hk
    rw [out (134 + k) (by omega) (by omega), out (3) (by omega) (by omega)]; exact hw.li hk
  · intro k k' hk hk' e
    rw [out (4) (by omega) (by omega)] at hk hk'
    rw [out (134 + k) (by omega) (by omega), out (134 + k') (by omega) (by omega)] at e; exact hw.lu hk hk' e
  · intro k hk
    rw [out (5) (by omega) (by omega)] at hk
    rw [out (140 + k) (by omega) (by omega)]; exact hw.ta hk
  · intro u hu
    have g := hw.tx hu
    rw [out (210 + 52 * u) (by omega) (by omega), show (fun k => M (211 + 52 * u + k)) = (fun k => N (211 + 52 * u + k)) from funext (fun k => out (211 + 52 * u + k) (by omega) (by omega))]
    exact g
set_option maxHeartbeats 1000000 in
theorem t_swap {G : Gl} {d : Nat} {S : Sh} {μ : Mu} {P o t q im : Nat} {kp : Option Nat} {a b : Int32} (hI : Inv G S P o kp t q im μ) : X G mi_X9_swap (d + 60) 0 0 [(0, .ref P), (1, .int a), (2, .int b)] [] S μ (qi (fun an S1 μ1 => X G mi_X10_swap (d + 60) 0 0 [(0, .ref o), (1, .int a), (2, .int b)] [] S1 μ1 (qi (Eq2 G P o im an)))) := by
  obtain ⟨N, hN⟩ : ∃ N, μ (o + 1) = N := ⟨_, rfl⟩
  have hw : WF N := hN ▸ hI.wf
  have hr : repD μ (P + 1) N := hN ▸ hI.rep
  have lo := hI.lo
  have b1 := hw.n1.2
  have b2 := hw.n2.2
  have b3 := hw.n3.2
  have b4 := hw.n4.2
  have b5 := hw.n5.2
  have b6 := hw.n6.2
  have hun : ∀ r i r' i' p, On N r i p → On N r' i' p → r = r' ∧ i = i' := fun _ _ _ _ _ h1 h2 => hw.un h1 h2
  have hlu : ∀ k k', k < nv (N 4) → k' < nv (N 4) → N (134 + k) = N (134 + k') → k = k' := fun _ _ h1 h2 e => hw.lu h1 h2 e
  have hnz : nI 0 = 0 := rfl
  have hli : ∀ k, k < nv (N 4) → N (134 + k) = nI (nv (N (134 + k))) ∧ nv (N (134 + k)) < nv (N 3) := fun k h => hw.li h
  refine X_aload_n (tk_X9_swap.at 0 rfl) rfl ?_
  refine X_getR (tk_X9_swap.at 1 rfl) fl_x9_12 hI.P0 rfl rfl ?_
  refine X_getR (tk_X9_swap.at 2 rfl) fl_x9_62 hI.D.1 rfl rfl ?_
  refine X_iload_n (tk_X9_swap.at 3 rfl) rfl ?_
  refine X_cV1i (lv2 := [(0, _), (1, _)]) (tk_X9_swap.at 4 rfl) mv_X3_has lk_x9_70 np_X3_has hI.D.2.1.1 (by decide) rfl (Nat.le_of_ble_eq_true rfl) (Nat.le_of_ble_eq_true rfl) rfl (d_phas hI.D hw hr (fun j8 hj8 ej8 => ?_) (fun hj8 => ?_))
  · refine X_if_eq (tgt := 33) (tk_X9_swap.at 5 rfl) (by decide) (fun h => absurd h (by decide)) (fun _ => ?_)
    refine X_aload_n (tk_X9_swap.at 6 rfl) rfl ?_
    refine X_getR (tk_X9_swap.at 7 rfl) fl_x9_12 hI.P0 rfl rfl ?_
    refine X_getR (tk_X9_swap.at 8 rfl) fl_x9_62 hI.D.1 rfl rfl ?_
    refine X_iload_n (tk_X9_swap.at 9 rfl) rfl ?_
    refine X_cV1i (lv2 := [(0, _), (1, _)]) (tk_X9_swap.at 10 rfl) mv_X3_has lk_x9_70 np_X3_has hI.D.2.1.1 (by decide) rfl (Nat.le_of_ble_eq_true rfl) (Nat.le_of_ble_eq_true rfl) rfl (d_phas hI.D hw hr (fun j22 hj22 ej22 => ?_) (fun hj22 => ?_))
    · refine X_if_eq (tgt := 33) (tk_X9_swap.at 11 rfl) (by decide) (fun h => absurd h (by decide)) (fun _ => ?_)
      refine X_iload_n (tk_X9_swap.at 12 rfl) rfl ?_
      refine X_iload_n (tk_X9_swap.at 13 rfl) rfl ?_
      refine X_icmp_neN (tgt := 40) (tk_X9_swap.at 14 rfl) (by decide) ej8 ej22 (by omega) (by omega) (fun c3 => ?_) (fun c3 => ?_)
      · refine X_aload_n (tk_X9_swap.at 19 rfl) rfl ?_
        refine X_getR (tk_X9_swap.at 20 rfl) fl_x9_12 hI.P0 rfl rfl ?_
        refine X_iload_n (tk_X9_swap.at 21 rfl) rfl ?_
        refine X_cV1i (lv2 := [(0, _), (1, _)]) (tk_X9_swap.at 22 rfl) mv_X2_ropeOf lk_x9_85 np_X2_ropeOf hI.D.1 (by decide) rfl (Nat.le_of_ble_eq_true rfl) (Nat.le_of_ble_eq_true rfl) rfl (c2_ropeOf (p := j8) hI.D hw hr ej8 (fun r45 i45 h45 => ?_) (fun h45 => ?_))
        · have hr45 := h45.1
          refine X_istore_n (lv' := [(0, _), (1, _), (2, _), (3, _)]) (tk_X9_swap.at 23 rfl) (by decide) rfl rfl ?_
          refine X_aload_n (tk_X9_swap.at 24 rfl) rfl ?_
          refine X_getR (tk_X9_swap.at 25 rfl) fl_x9_12 hI.P0 rfl rfl ?_
          refine X_iload_n (tk_X9_swap.at 26 rfl) rfl ?_
          refine X_cV1i (lv2 := [(0, _), (1, _)]) (tk_X9_swap.at 27 rfl) mv_X2_ropeOf lk_x9_85 np_X2_ropeOf hI.D.1 (by decide) rfl (Nat.le_of_ble_eq_true rfl) (Nat.le_of_ble_eq_true rfl) rfl (c2_ropeOf (p := j22) hI.D hw hr ej22 (fun r54 i54 h54 => ?_) (fun h54 => ?_))
          · have hr54 := h54.1
            refine X_istore (lv' := [(0, _), (1, _), (2, _), (3, _), (4, _)]) (tk_X9_swap.at 28 rfl) (by decide) rfl rfl ?_
            refine X_iload_n (tk_X9_swap.at 29 rfl) rfl ?_
            refine X_if_ltN (tgt := 68) (tk_X9_swap.at 30 rfl) (by decide) (pl r45 rfl) (by omega) ?_
            refine X_iload (tk_X9_swap.at 31 rfl) rfl ?_
            refine X_if_geN (tgt := 75) (tk_X9_swap.at 32 rfl) (by decide) (pl r54 rfl) (by omega) ?_
            refine X_aload_n (tk_X9_swap.at 37 rfl) rfl ?_
            refine X_getR (tk_X9_swap.at 38 rfl) fl_x9_12 hI.P0 rfl rfl ?_
            refine X_iload_n (tk_X9_swap.at 39 rfl) rfl ?_
            refine X_cV1i (lv2 := [(0, _), (1, _)]) (tk_X9_swap.at 40 rfl) mv_X2_placeOf lk_x9_88 np_X2_placeOf hI.D.1 (by decide) rfl (Nat.le_of_ble_eq_true rfl) (Nat.le_of_ble_eq_true rfl) rfl (c2_placeOf (p := j8) hI.D hw hr ej8 (fun r' i' g => ?_) (fun g => absurd h45 (g r45 i45)))
            rw [show i' = i45 from (hw.un g h45).2]
            refine X_istore (lv' := [(0, _), (1, _), (2, _), (3, _), (4, _), (5, _)]) (tk_X9_swap.at 41 rfl) (by decide) rfl rfl ?_
            refine X_aload_n (tk_X9_swap.at 42 rfl) rfl ?_
            refine X_getR (tk_X9_swap.at 43 rfl) fl_x9_12 hI.P0 rfl rfl ?_
            refine X_iload_n (tk_X9_swap.at 44 rfl) rfl ?_
            refine X_cV1i (lv2 := [(0, _), (1, _)]) (tk_X9_swap.at 45 rfl) mv_X2_placeOf lk_x9_88 np_X2_placeOf hI.D.1 (by decide) rfl (Nat.le_of_ble_eq_true rfl) (Nat.le_of_ble_eq_true rfl) rfl (c2_placeOf (p := j22) hI.D hw hr ej22 (fun r' i' g => ?_) (fun g => absurd h54 (g r54 i54)))
            rw [show i' = i54 from (hw.un g h54).2]
            refine X_istore (lv' := [(0, _), (1, _), (2, _), (3, _), (4, _), (5, _), (6, _)]) (tk_X9_swap.at 46 rfl) (by decide) rfl rfl ?_
            refine X_aload_n (tk_X9_swap.at 47 rfl) rfl ?_
            refine X_getR (tk_X9_swap.at 48 rfl) fl_x9_12 hI.P0 rfl rfl ?_
            refine X_iload_n (tk_X9_swap.at 49 rfl) rfl ?_
            have h3r45 := h45.1
            refine X_cV1r (lv2 := [(0, _), (1, _)]) (tk_X9_swap.at 50 rfl) mv_X2_rowOf lk_x9_131 np_X2_rowOf hI.D.1 (by decide) rfl (Nat.le_of_ble_eq_true rfl) (Nat.le_of_ble_eq_true rfl) rfl (c2_rowOf (r := r45) hI.D rfl (by omega) ?_)
            refine X_iload (tk_X9_swap.at 51 rfl) rfl ?_
            refine X_iload_n (tk_X9_swap.at 52 rfl) rfl ?_
            have hi45 : i45 < mny N r45 := h45.2.1
            have hi54 : i54 < mny N r54 := h54.2.1
            have bm45 := hw.mb h45.1
            have bm54 := hw.mb h54.1
            have h3a := h45.1
            have h3b := h54.1
            refine X_cV2v (lv2 := [(0, _), (1, _), (2, _)]) (tk_X9_swap.at 53 rfl) mv_X6_change lk_x9_164 np_X6_change (DS_r hI.D (r := r45) (by omega)).1 (by decide) rfl (Nat.le_of_ble_eq_true rfl) (Nat.le_of_ble_eq_true rfl) rfl (c6_change (DS_r hI.D (r := r45) (by omega)) (rD_rs1 hw hr h45.1) bm45 (by decide) (fun j hj ej => ?_) (fun hno => absurd ⟨i45, hi45, rfl⟩ hno))
            rw [show j = i45 from ((nI_eq (by omega) (by omega)).mp ej).symm]
            generalize eζ : su μ (P + 1 + 20 + 2 * r45 + 1) i45 b = ζ
            refine X_aload_n (tk_X9_swap.at 54 rfl) rfl ?_
            refine X_getR (tk_X9_swap.at 55 rfl) fl_x9_12 hI.P0 rfl rfl ?_
            refine X_iload (tk_X9_swap.at 56 rfl) rfl ?_
            have h3r54 := h54.1
            refine X_cV1r (lv2 := [(0, _), (1, _)]) (tk_X9_swap.at 57 rfl) mv_X2_rowOf lk_x9_131 np_X2_rowOf hI.D.1 (by decide) rfl (Nat.le_of_ble_eq_true rfl) (Nat.le_of_ble_eq_true rfl) rfl (c2_rowOf (r := r54) hI.D rfl (by omega) ?_)
            refine X_iload (tk_X9_swap.at 58 rfl) rfl ?_
            refine X_iload_n (tk_X9_swap.at 59 rfl) rfl ?_
            refine X_cV2v (lv2 := [(0, _), (1, _), (2, _)]) (tk_X9_swap.at 60 rfl) mv_X6_change lk_x9_164 np_X6_change (DS_r hI.D (r := r54) (by omega)).1 (by decide) rfl (Nat.le_of_ble_eq_true rfl) (Nat.le_of_ble_eq_true rfl) rfl (c6_change (DS_r hI.D (r := r54) (by omega)) (show ζ (P + 1 + 20 + 2 * r54) 1 = nI (mny N r54) from by rw [← eζ, su_ne (by omega)]; exact rD_rs1 hw hr h54.1) bm54 (by decide) (fun j hj ej => ?_) (fun hno => absurd ⟨i54, hi54, rfl⟩ hno))
            rw [show j = i54 from ((nI_eq (by omega) (by omega)).mp ej).symm]
            generalize eν : su ζ (P + 1 + 20 + 2 * r54 + 1) i54 a = ν
            have fν : ∀ q, q ≠ P + 1 + 20 + 2 * r45 + 1 → q ≠ P + 1 + 20 + 2 * r54 + 1 → ν q = μ q := fun q h1 h2 => by rw [← eν, su_ne h2, ← eζ, su_ne h1]
            have hNν : ν (o + 1) = N := by rw [fν _ (by omega) (by omega)]; exact hN
            refine X_iconst (tk_X9_swap.at 61 rfl) ci_1 ?_
            refine X_ireturn (tk_X9_swap.at 62 rfl) rfl rfl ?_
            have hxy : j8 ≠ j22 := by grind [nI_eq]
            refine n10_swap (N := N) hI.M hNν hw (by intros; first | (exfalso; grind [In, On, nI_eq]) | exact ⟨by grind [In, On, nI_eq], fin_s hI hFs (by first | exact Tst_sy.sx | assumption | exact Sq.rf _ _) (by first | exact Tst1 _ _ _ _ _ _ _ | rfl | grind)⟩) (by intros; first | (exfalso; grind [In, On, nI_eq]) | exact ⟨by grind [In, On, nI_eq], fin_s hI hFs (by first | exact Tst_sy.sx | assumption | exact Sq.rf _ _) (by first | exact Tst1 _ _ _ _ _ _ _ | rfl | grind)⟩) (fun x y r i r' i' hx hy ea eb hne ho1 ho2 => ?_)
            have e1 := nI_j ea ej8 (by omega) (by omega)
            have e2 := nI_j eb ej22 (by omega) (by omega)
            subst e1 e2
            obtain ⟨q1, q2⟩ := hw.un ho1 h45
            obtain ⟨q3, q4⟩ := hw.un ho2 h54
            subst q1 q2 q3 q4
            have hne2 : 84 + 9 * r + i ≠ 84 + 9 * r' + i' := fun e => hxy ((nI_eq (by omega) (by omega)).mp (h45.2.2.symm.trans ((congrArg N e).trans h54.2.2)))
            have M_ : ∀ q, (upd (upd N (84 + 9 * r + i) b) (84 + 9 * r' + i') a) q = if q = 84 + 9 * r' + i' then a else if q = 84 + 9 * r + i then b else N q := fun q => rfl
            have cell : ∀ (R : Nat) (k : Nat), R < nv (N 3) → k < mny N R → ν (P + 1 + 20 + 2 * R + 1) k = (upd (upd N (84 + 9 * r + i) b) (84 + 9 * r' + i') a) (84 + 9 * R + k) := by
              intro R k hR hk
              have hb5 := hw.mb hR
              rw [M_]
              by_cases c2 : 84 + 9 * R + k = 84 + 9 * r' + i'
              · have eR : R = r' := by omega
                have eK : k = i' := by omega
                subst eR eK
                rw [if_pos rfl, ← eν, su_same, upd_at]
              · rw [if_neg c2]
                have s1 : ν (P + 1 + 20 + 2 * R + 1) k = ζ (P + 1 + 20 + 2 * R + 1) k := by
                  rw [← eν]
                  by_cases eR : R = r'
                  · subst eR; rw [su_same, upd_ne _ _ (by omega)]
                  · rw [su_ne (by omega)]
                rw [s1, ← eζ]
                by_cases c1 : 84 + 9 * R + k = 84 + 9 * r + i
                · have eR : R = r := by omega
                  have eK : k = i := by omega
                  subst eR eK
                  rw [if_pos rfl, su_same, upd_at]
                · rw [if_neg c1]
                  by_cases eR : R = r
                  · subst eR; rw [su_same, upd_ne _ _ (by omega)]; exact rD_ra1 hw hr hR hk
                  · rw [su_ne (by omega)]; exact rD_ra1 hw hr hR hk
            have ou : ∀ q, q ≠ 84 + 9 * r + i → q ≠ 84 + 9 * r' + i' → (upd (upd N (84 + 9 * r + i) b) (84 + 9 * r' + i') a) q = N q := fun q h1 h2 => by rw [upd_ne _ _ h2, upd_ne _ _ h1]
            refine ⟨rfl, fin_d hI (Fn_now hI (fun q hq => fν q (by omega) (by omega))) (repD_row2 (r0 := r) (r1 := r') hw hr h3a h3b (fun q h1 h2 h3 h4 => fν q h2 h4) (fun q h1 h2 => ou q (by omega) (by omega)) ⟨?_, fun k hk => ?_⟩ ⟨?_, fun k hk => ?_⟩) (WF_swp hw h45 h54 hxy hj8 hj22 ou (by rw [upd_ne _ _ hne2, upd_at]; exact ej22) (by rw [upd_at]; exact ej8))⟩
            · rw [fν _ (by omega) (by omega), ou _ (by omega) (by omega)]; exact (rD_rs1 hw hr h3a).trans (hw.ro h3a).2.2.2.1.1.symm
            · rw [ou _ (by omega) (by omega)] at hk; exact cell r k h3a hk
            · rw [fν _ (by omega) (by omega), ou _ (by omega) (by omega)]; exact (rD_rs1 hw hr h3b).trans (hw.ro h3b).2.2.2.1.1.symm
            · rw [ou _ (by omega) (by omega)] at hk; exact cell r' k h3b hk
          · refine X_istore (lv' := [(0, _), (1, _), (2, _), (3, _), (4, _)]) (tk_X9_swap.at 28 rfl) (by decide) rfl rfl ?_
            refine X_iload_n (tk_X9_swap.at 29 rfl) rfl ?_
            refine X_if_ltN (tgt := 68) (tk_X9_swap.at 30 rfl) (by decide) (pl r45 rfl) (by omega) ?_
            refine X_iload (tk_X9_swap.at 31 rfl) rfl ?_
            refine X_if_ge (tgt := 75) (tk_X9_swap.at 32 rfl) (by decide) (fun h => absurd h (by decide)) (fun _ => ?_)
            refine X_aload_n (tk_X9_swap.at 33 rfl) rfl ?_
            refine X_ldc (tk_X9_swap.at 34 rfl) kn_x9_99 ?_
            refine X_cV1i (lv2 := [(0, _), (1, _)]) (tk_X9_swap.at 35 rfl) mv_X9_fail lk_x9_77 np_X9_fail hI.P0 (by decide) rfl (Nat.le_of_ble_eq_true rfl) (Nat.le_of_ble_eq_true rfl) rfl (c9_fail (k := 2) hI.P0 hI.E (by decide) (by decide) ?_)
            refine X_ireturn (tk_X9_swap.at 36 rfl) rfl rfl ?_
            refine n10_swap (N := N) hI.M (by rw [su_ne (by omega)]; exact hN) hw (by intros; first | (exfalso; grind [In, On, nI_eq]) | exact ⟨by grind [In, On, nI_eq], fin_e hI (Fs.rf hI) (Sq.rf _ _) rfl⟩) (by intros; first | (exfalso; grind [In, On, nI_eq]) | exact ⟨by grind [In, On, nI_eq], fin_e hI (Fs.rf hI) (Sq.rf _ _) rfl⟩) (by intros; first | (exfalso; grind [In, On, nI_eq]) | exact ⟨by grind [In, On, nI_eq], fin_e hI (Fs.rf hI) (Sq.rf _ _) rfl⟩)
        · refine X_istore_n (lv' := [(0, _), (1, _), (2, _), (3, _)]) (tk_X9_swap.at 23 rfl) (by decide) rfl rfl ?_
          refine X_aload_n (tk_X9_swap.at 24 rfl) rfl ?_
          refine X_getR (tk_X9_swap.at 25 rfl) fl_x9_12 hI.P0 rfl rfl ?_
          refine X_iload_n (tk_X9_swap.at 26 rfl) rfl ?_
          refine X_cV1i (lv2 := [(0, _), (1, _)]) (tk_X9_swap.at 27 rfl) mv_X2_ropeOf lk_x9_85 np_X2_ropeOf hI.D.1 (by decide) rfl (Nat.le_of_ble_eq_true rfl) (Nat.le_of_ble_eq_true rfl) rfl (c2_ropeOf (p := j22) hI.D hw hr ej22 (fun r54 i54 h54 => ?_) (fun h54 => ?_))
          · have hr54 := h54.1
            refine X_istore (lv' := [(0, _), (1, _), (2, _), (3, _), (4, _)]) (tk_X9_swap.at 28 rfl) (by decide) rfl rfl ?_
            refine X_iload_n (tk_X9_swap.at 29 rfl) rfl ?_
            refine X_if_lt (tgt := 68) (tk_X9_swap.at 30 rfl) (by decide) (fun _ => ?_) (fun h => absurd h (by decide))
            refine X_aload_n (tk_X9_swap.at 33 rfl) rfl ?_
            refine X_ldc (tk_X9_swap.at 34 rfl) kn_x9_99 ?_
            refine X_cV1i (lv2 := [(0, _), (1, _)]) (tk_X9_swap.at 35 rfl) mv_X9_fail lk_x9_77 np_X9_fail hI.P0 (by decide) rfl (Nat.le_of_ble_eq_true rfl) (Nat.le_of_ble_eq_true rfl) rfl (c9_fail (k := 2) hI.P0 hI.E (by decide) (by decide) ?_)
            refine X_ireturn (tk_X9_swap.at 36 rfl) rfl rfl ?_
            refine n10_swap (N := N) hI.M (by rw [su_ne (by omega)]; exact hN) hw (by intros; first | (exfalso; grind [In, On, nI_eq]) | exact ⟨by grind [In, On, nI_eq], fin_e hI (Fs.rf hI) (Sq.rf _ _) rfl⟩) (by intros; first | (exfalso; grind [In, On, nI_eq]) | exact ⟨by grind [In, On, nI_eq], fin_e hI (Fs.rf hI) (Sq.rf _ _) rfl⟩) (by intros; first | (exfalso; grind [In, On, nI_eq]) | exact ⟨by grind [In, On, nI_eq], fin_e hI (Fs.rf hI) (Sq.rf _ _) rfl⟩)
          · refine X_istore (lv' := [(0, _), (1, _), (2, _), (3, _), (4, _)]) (tk_X9_swap.at 28 rfl) (by decide) rfl rfl ?_
            refine X_iload_n (tk_X9_swap.at 29 rfl) rfl ?_
            refine X_if_lt (tgt := 68) (tk_X9_swap.at 30 rfl) (by decide) (fun _ => ?_) (fun h => absurd h (by decide))
            refine X_aload_n (tk_X9_swap.at 33 rfl) rfl ?_
            refine X_ldc (tk_X9_swap.at 34 rfl) kn_x9_99 ?_
            refine X_cV1i (lv2 := [(0, _), (1, _)]) (tk_X9_swap.at 35 rfl) mv_X9_fail lk_x9_77 np_X9_fail hI.P0 (by decide) rfl (Nat.le_of_ble_eq_true rfl) (Nat.le_of_ble_eq_true rfl) rfl (c9_fail (k := 2) hI.P0 hI.E (by decide) (by decide) ?_)
            refine X_ireturn (tk_X9_swap.at 36 rfl) rfl rfl ?_
            refine n10_swap (N := N) hI.M (by rw [su_ne (by omega)]; exact hN) hw (by intros; first | (exfalso; grind [In, On, nI_eq]) | exact ⟨by grind [In, On, nI_eq], fin_e hI (Fs.rf hI) (Sq.rf _ _) rfl⟩) (by intros; first | (exfalso; grind [In, On, nI_eq]) | exact ⟨by grind [In, On, nI_eq], fin_e hI (Fs.rf hI) (Sq.rf _ _) rfl⟩) (by intros; first | (exfalso; grind [In, On, nI_eq]) | exact ⟨by grind [In, On, nI_eq], fin_e hI (Fs.rf hI) (Sq.rf _ _) rfl⟩)
      · refine X_aload_n (tk_X9_swap.at 15 rfl) rfl ?_
        refine X_ldc (tk_X9_swap.at 16 rfl) kn_x9_76 ?_
        refine X_cV1i (lv2 := [(0, _), (1, _)]) (tk_X9_swap.at 17 rfl) mv_X9_fail lk_x9_77 np_X9_fail hI.P0 (by decide) rfl (Nat.le_of_ble_eq_true rfl) (Nat.le_of_ble_eq_true rfl) rfl (c9_fail (k := 1) hI.P0 hI.E (by decide) (by decide) ?_)
        refine X_ireturn (tk_X9_swap.at 18 rfl) rfl rfl ?_
        refine n10_swap (N := N) hI.M (by rw [su_ne (by omega)]; exact hN) hw (by intros; first | (exfalso; grind [In, On, nI_eq]) | exact ⟨by grind [In, On, nI_eq], fin_e hI (Fs.rf hI) (Sq.rf _ _) rfl⟩) (by intros; first | (exfalso; grind [In, On, nI_eq]) | exact ⟨by grind [In, On, nI_eq], fin_e hI (Fs.rf hI) (Sq.rf _ _) rfl⟩) (by intros; first | (exfalso; grind [In, On, nI_eq]) | exact ⟨by grind [In, On, nI_eq], fin_e hI (Fs.rf hI) (Sq.rf _ _) rfl⟩)
    · refine X_if_eq (tgt := 33) (tk_X9_swap.at 11 rfl) (by decide) (fun _ => ?_) (fun h => absurd h (by decide))
      refine X_aload_n (tk_X9_swap.at 15 rfl) rfl ?_
      refine X_ldc (tk_X9_swap.at 16 rfl) kn_x9_76 ?_
      refine X_cV1i (lv2 := [(0, _), (1, _)]) (tk_X9_swap.at 17 rfl) mv_X9_fail lk_x9_77 np_X9_fail hI.P0 (by decide) rfl (Nat.le_of_ble_eq_true rfl) (Nat.le_of_ble_eq_true rfl) rfl (c9_fail (k := 1) hI.P0 hI.E (by decide) (by decide) ?_)
      refine X_ireturn (tk_X9_swap.at 18 rfl) rfl rfl ?_
      refine n10_swap (N := N) hI.M (by rw [su_ne (by omega)]; exact hN) hw (by intros; first | (exfalso; grind [In, On, nI_eq]) | exact ⟨by grind [In, On, nI_eq], fin_e hI (Fs.rf hI) (Sq.rf _ _) rfl⟩) (by intros; first | (exfalso; grind [In, On, nI_eq]) | exact ⟨by grind [In, On, nI_eq], fin_e hI (Fs.rf hI) (Sq.rf _ _) rfl⟩) (by intros; first | (exfalso; grind [In, On, nI_eq]) | exact ⟨by grind [In, On, nI_eq], fin_e hI (Fs.rf hI) (Sq.rf _ _) rfl⟩)
  · refine X_if_eq (tgt := 33) (tk_X9_swap.at 5 rfl) (by decide) (fun _ => ?_) (fun h => absurd h (by decide))
    refine X_aload_n (tk_X9_swap.at 15 rfl) rfl ?_
    refine X_ldc (tk_X9_swap.at 16 rfl) kn_x9_76 ?_
    refine X_cV1i (lv2 := [(0, _), (1, _)]) (tk_X9_swap.at 17 rfl) mv_X9_fail lk_x9_77 np_X9_fail hI.P0 (by decide) rfl (Nat.le_of_ble_eq_true rfl) (Nat.le_of_ble_eq_true rfl) rfl (c9_fail (k := 1) hI.P0 hI.E (by decide) (by decide) ?_)
    refine X_ireturn (tk_X9_swap.at 18 rfl) rfl rfl ?_
    refine n10_swap (N := N) hI.M (by rw [su_ne (by omega)]; exact hN) hw (by intros; first | (exfalso; grind [In, On, nI_eq]) | exact ⟨by grind [In, On, nI_eq], fin_e hI (Fs.rf hI) (Sq.rf _ _) rfl⟩) (by intros; first | (exfalso; grind [In, On, nI_eq]) | exact ⟨by grind [In, On, nI_eq], fin_e hI (Fs.rf hI) (Sq.rf _ _) rfl⟩) (by intros; first | (exfalso; grind [In, On, nI_eq]) | exact ⟨by grind [In, On, nI_eq], fin_e hI (Fs.rf hI) (Sq.rf _ _) rfl⟩)
