set_option maxHeartbeats 1000000 in
theorem c10_take {G : Gl} {d : Nat} {S : Sh} {μ : Mu} {o : Nat} {q : Nat → Nat} {x r : Int32} {N : Nat → Int32} {K : Int32 → Sh → Mu → Prop} (hM : MS S o q) (hN : μ (o + 1) = N) (hl0 : μ o 5 = 0) (hw : WF N) (k1 : ¬ ((0 ≤ x ∧ x ≤ 2) ∧ In r (nv (N 3))) → K (-1000000001) S (er μ o 1)) (k2 : ∀ a, a < nv (N 3) → r = nI a → nv x < 2 → x = nI (nv x) → (∀ k, k < nv (N 4) → ¬ N (134 + k) = nI a) → K (-1000000003) S (er μ o 3)) (k3 : ∀ ν a k t c, a < nv (N 3) → k < nv (N 4) → r = nI a → x = nI 1 → N (134 + k) = nI a → bw (fun _ => True) (tlS N a) 1 20 = some (t, c) → Sq o μ ν → ν (o + 1) = upd N (81 + 9 * a) (nI c) → K (nI (toll (upd N (81 + 9 * a) (nI c)))) S ν) (k4 : ∀ ν a k t g, a < nv (N 3) → k < nv (N 4) → r = nI a → x = nI 0 → N (134 + k) = nI a → OrdR N a t g → Pm (nv (N (83 + 9 * a))) g (rowN N a) → (∀ k, k < nv (N (83 + 9 * a)) → g k < 1000) → Sq o μ ν → ν (o + 1) = stN N a (nv (N (83 + 9 * a))) g → K (nI (toll (stN N a (nv (N (83 + 9 * a))) g))) S ν) (k5 : ∀ ν a t g, a < nv (N 3) → r = nI a → x = nI 2 → LinR N t g → Pm (nv (N 4)) g (linN N) → (∀ k, k < nv (N 4) → g k < 1000) → Sq o μ ν → ν (o + 1) = lnN N (nv (N 4)) g → K (nI (toll (lnN N (nv (N 4)) g))) S ν) : X G mi_X10_take (d + 9) 0 0 [(0, .ref o), (1, .int x), (2, .int r)] [] S μ (qi K) := by
  have b3 := hw.n3.2
  have b4 := hw.n4.2
  have w3 : μ (o + 1) 3 = nI (nv (N 3)) := by rw [hN]; exact hw.n3.1
  have b4m : nv (μ (o + 1) 4) ≤ 6 := by rw [hN]; exact b4
  refine X_iload_n (tk_X10_take.at 0 rfl) rfl ?_
  refine X_iconst (tk_X10_take.at 1 rfl) ci_0 ?_
  refine X_iconst (tk_X10_take.at 2 rfl) ci_2 ?_
  refine X_cS3i (lv2 := [(0, _), (1, _), (2, _)]) (tk_X10_take.at 3 rfl) ms_X10_within lk_x10_69 np_X10_within (Nat.le_of_ble_eq_true rfl) (Nat.le_of_ble_eq_true rfl) rfl (c10_within (fun h3 h1003 => ?_) (fun h3 => ?_))
  · obtain ⟨ew3, lw3, bw3⟩ := le_lits (a := 0) (b := 2) (by decide) h3 h1003 (by decide)
    refine X_if_eq (tgt := 18) (tk_X10_take.at 4 rfl) (by decide) (fun h => absurd h (by decide)) (fun _ => ?_)
    refine X_aload_n (tk_X10_take.at 5 rfl) rfl ?_
    refine X_iload_n (tk_X10_take.at 6 rfl) rfl ?_
    refine X_iconst (tk_X10_take.at 7 rfl) ci_3 ?_
    refine X_cV2i (lv2 := [(0, _), (1, _), (2, _)]) (tk_X10_take.at 8 rfl) mv_X10_is lk_x10_90 np_X10_is hM.f0 (by decide) rfl (Nat.le_of_ble_eq_true rfl) (Nat.le_of_ble_eq_true rfl) rfl (c10_is hM (pl 3 rfl) (by decide) w3 (by omega) (fun j12 hj12 ej12 => ?_) (fun hj12 => ?_))
    · refine X_if_ne (tgt := 25) (tk_X10_take.at 9 rfl) (by decide) (fun _ => ?_) (fun h => absurd h (by decide))
      refine X_iload_n (tk_X10_take.at 14 rfl) rfl ?_
      refine X_iconst (tk_X10_take.at 15 rfl) ci_2 ?_
      refine X_icmp_geN (tgt := 45) (tk_X10_take.at 16 rfl) (by decide) ew3 (pl 2 rfl) (by omega) (by omega) (fun c3 => ?_) (fun c3 => ?_)
      · have hlt : nv x ≥ 2 := by omega
        have hm : N (83 + 9 * j12) = nI (nv (N (83 + 9 * j12))) := (hw.ro hj12).2.2.2.1.1
        have bm : nv (N (83 + 9 * j12)) ≤ 5 := (hw.ro hj12).2.2.2.1.2
        refine X_iload_n (tk_X10_take.at 25 rfl) rfl ?_
        refine X_iconst (tk_X10_take.at 26 rfl) ci_1 ?_
        refine X_icmp_neN (tgt := 72) (tk_X10_take.at 27 rfl) (by decide) ew3 (pl 1 rfl) (by omega) (by omega) (fun c1 => ?_) (fun c1 => (by exfalso; omega))
        refine X_iload_n (tk_X10_take.at 42 rfl) rfl ?_
        refine X_if_neN (tgt := 113) (tk_X10_take.at 43 rfl) (by decide) ew3 (by omega) (fun c2 => ?_) (fun c2 => (by exfalso; omega))
        refine X_aload_n (tk_X10_take.at 65 rfl) rfl ?_
        refine X_cV0v (lv2 := [(0, _)]) (tk_X10_take.at 66 rfl) mv_X10_findLine lk_x10_291 np_X10_findLine hM.f0 (by decide) rfl (Nat.le_of_ble_eq_true rfl) (Nat.le_of_ble_eq_true rfl) rfl (c10_findLine hM hN hl0 hw (fun ν g0 t t2 g hsq h1 hp0 hr0 hfn h20 hrw hpg => ?_))
        have hres : LinR N t g := ⟨g0, t2, hp0, hr0, hfn⟩
        refine X_iconst (tk_X10_take.at 67 rfl) ci_0 ?_
        refine X_istore_n (lv' := [(0, _), (1, _), (2, _), (3, _)]) (tk_X10_take.at 68 rfl) (by decide) rfl rfl ?_
        have ecn : ∀ i, i ≤ (nv (N 4)) → (Mx ν (o + 1) (lnN N i g)) (o + 1) 4 = nI (nv (N 4)) := fun i hi => by rw [Mx_same, lnN_out N g (by omega)]; exact hw.n4.1
        have loop : ∀ (m i : Nat), i + m = (nv (N 4)) → X G mi_X10_take (d + 9) 0 119 [(0, .ref o), (1, .int x), (2, .int r), (3, .int (nI i))] [] S (Mx ν (o + 1) (lnN N i g)) (qi K) := by
          intro m
          induction m with
          | zero =>
            intro i hi
            have ei : i = (nv (N 4)) := by omega
            have ecx := ecn i (by omega)
            subst ei
            refine X_iload_n (tk_X10_take.at 69 rfl) rfl ?_
            refine X_aload_n (tk_X10_take.at 70 rfl) rfl ?_
            refine X_getR (tk_X10_take.at 71 rfl) fl_x10_9 hM.f0 rfl rfl ?_
            refine X_iconst (tk_X10_take.at 72 rfl) ci_4 ?_
            refine X_ialdN (k := 4) (tk_X10_take.at 73 rfl) hM.f1 (pz (pl 4 rfl) (by omega)) (by omega) (by decide) ?_
            refine X_icmp_geN (tgt := 151) (tk_X10_take.at 74 rfl) (by decide) (pl (nv (N 4)) rfl) ecx (by omega) (by omega) (fun c1 => ?_) (fun c1 => (by exfalso; omega))
            refine X_aload_n (tk_X10_take.at 87 rfl) rfl ?_
            have wft : WF (lnN N (nv (N 4)) g) := WF_ln hw hpg
            refine X_cV0i (lv2 := [(0, _)]) (tk_X10_take.at 88 rfl) mv_X10_tollOf lk_x10_264 np_X10_tollOf hM.f0 (by decide) rfl (Nat.le_of_ble_eq_true rfl) (Nat.le_of_ble_eq_true rfl) rfl (c10_tollY hM Mx_same (by rw [Mx_ne (by omega)]; exact hsq.2.2.1.trans hl0) wft (fun ξ hsy hov => ?_))
            have x1 : ξ (o + 1) = (lnN N (nv (N 4)) g) := by rw [hsy.1 _ (by omega) (by omega) (by omega) (by omega) (by omega), Mx_same]
            have xsq : Sq o μ ξ := (hsq.mx _ (by omega)).tr hsy.sx
            refine X_ireturn (tk_X10_take.at 89 rfl) rfl rfl ?_
            exact k5 ξ j12 t g hj12 ej12 (pz ew3 (by omega)) hres hpg (fun k hk => (hrw k hk).2) xsq x1
          | succ m ih =>
            intro i hi
            have ecx := ecn i (by omega)
            refine X_iload_n (tk_X10_take.at 69 rfl) rfl ?_
            refine X_aload_n (tk_X10_take.at 70 rfl) rfl ?_
            refine X_getR (tk_X10_take.at 71 rfl) fl_x10_9 hM.f0 rfl rfl ?_
            refine X_iconst (tk_X10_take.at 72 rfl) ci_4 ?_
            refine X_ialdN (k := 4) (tk_X10_take.at 73 rfl) hM.f1 (pz (pl 4 rfl) (by omega)) (by omega) (by decide) ?_
            refine X_icmp_geN (tgt := 151) (tk_X10_take.at 74 rfl) (by decide) (pl i rfl) ecx (by omega) (by omega) (fun c1 => (by exfalso; omega)) (fun c1 => ?_)
            refine X_aload_n (tk_X10_take.at 75 rfl) rfl ?_
            refine X_getR (tk_X10_take.at 76 rfl) fl_x10_9 hM.f0 rfl rfl ?_
            refine X_sipush (tk_X10_take.at 77 rfl) cs_134 ?_
            refine X_iload_n (tk_X10_take.at 78 rfl) rfl ?_
            refine X_iadd (tk_X10_take.at 79 rfl) ?_
            refine X_aload_n (tk_X10_take.at 80 rfl) rfl ?_
            refine X_getR (tk_X10_take.at 81 rfl) fl_x10_50 hM.f0 rfl rfl ?_
            refine X_iload_n (tk_X10_take.at 82 rfl) rfl ?_
            refine X_ialdN (k := i) (tk_X10_take.at 83 rfl) hM.f12 (pz (pl i rfl) (by omega)) (by omega) (by decide) ?_
            refine X_iastN (k := 134 + i) (tk_X10_take.at 84 rfl) hM.f1 (pz (pa (pl 134 rfl) (pl i rfl)) (by omega)) (by omega) (by decide) ?_
            refine X_iinc (lv' := [(0, _), (1, _), (2, _), (3, _)]) (tk_X10_take.at 85 rfl) rfl ci_1 (by decide) rfl rfl ?_
            refine X_goto (tgt := 119) (tk_X10_take.at 86 rfl) (by decide) ?_
            rw [Mx_ne (show o + 12 ≠ o + 1 by omega), (hrw i (by omega)).1, nI_1 i, su_Mx, lnN_st]
            exact ih (i + 1) (by omega)
        have z := loop (nv (N 4)) 0 (Nat.zero_add _)
        rw [lnN_0, ← h1, Mx_self] at z
        exact z
      · refine X_aload_n (tk_X10_take.at 17 rfl) rfl ?_
        refine X_iload_n (tk_X10_take.at 18 rfl) rfl ?_
        refine X_cV1i (lv2 := [(0, _), (1, _)]) (tk_X10_take.at 19 rfl) mv_X10_inLine lk_x10_139 np_X10_inLine hM.f0 (by decide) rfl (Nat.le_of_ble_eq_true rfl) (Nat.le_of_ble_eq_true rfl) rfl (c10_inLine hM (by rw [hN]; exact hw) (fun k32 hk32 h32 => ?_) (fun h32 => ?_))
        · refine X_if_geN (tgt := 45) (tk_X10_take.at 20 rfl) (by decide) (pl k32 rfl) (by omega) ?_
          have hlt : nv x < 2 := by omega
          have hm : N (83 + 9 * j12) = nI (nv (N (83 + 9 * j12))) := (hw.ro hj12).2.2.2.1.1
          have bm : nv (N (83 + 9 * j12)) ≤ 5 := (hw.ro hj12).2.2.2.1.2
          rw [hN] at hk32 h32
          refine X_iload_n (tk_X10_take.at 25 rfl) rfl ?_
          refine X_iconst (tk_X10_take.at 26 rfl) ci_1 ?_
          refine X_icmp_neN (tgt := 72) (tk_X10_take.at 27 rfl) (by decide) ew3 (pl 1 rfl) (by omega) (by omega) (fun c1 => ?_) (fun c1 => ?_)
          · refine X_iload_n (tk_X10_take.at 42 rfl) rfl ?_
            refine X_if_neN (tgt := 113) (tk_X10_take.at 43 rfl) (by decide) ew3 (by omega) (fun c2 => (by exfalso; omega)) (fun c2 => ?_)
            refine X_aload_n (tk_X10_take.at 44 rfl) rfl ?_
            refine X_iload_n (tk_X10_take.at 45 rfl) rfl ?_
            refine X_cV1v (lv2 := [(0, _), (1, _)]) (tk_X10_take.at 46 rfl) mv_X10_findOrder lk_x10_282 np_X10_findOrder hM.f0 (by decide) rfl (Nat.le_of_ble_eq_true rfl) (Nat.le_of_ble_eq_true rfl) rfl (c10_findOrder hM hN hl0 hw ej12 hj12 (fun ν g0 t t2 g hsq h1 hp0 hr0 hfn h20 hrw hpg => ?_))
            have hres : OrdR N j12 t g := ⟨g0, t2, hp0, hr0, hfn⟩
            refine X_iconst (tk_X10_take.at 47 rfl) ci_0 ?_
            refine X_istore_n (lv' := [(0, _), (1, _), (2, _), (3, _)]) (tk_X10_take.at 48 rfl) (by decide) rfl rfl ?_
            have ecn : ∀ i, i ≤ (nv (N (83 + 9 * j12))) → (Mx ν (o + 1) (stN N j12 i g)) (o + 1) (83 + 9 * j12) = nI (nv (N (83 + 9 * j12))) := fun i hi => by rw [Mx_same, stN_out N g (by omega)]; exact hm
            have loop : ∀ (m i : Nat), i + m = (nv (N (83 + 9 * j12))) → X G mi_X10_take (d + 9) 0 83 [(0, .ref o), (1, .int x), (2, .int r), (3, .int (nI i))] [] S (Mx ν (o + 1) (stN N j12 i g)) (qi K) := by
              intro m
              induction m with
              | zero =>
                intro i hi
                have ei : i = (nv (N (83 + 9 * j12))) := by omega
                have ecx := ecn i (by omega)
                subst ei
                refine X_iload_n (tk_X10_take.at 49 rfl) rfl ?_
                refine X_aload_n (tk_X10_take.at 50 rfl) rfl ?_
                refine X_iload_n (tk_X10_take.at 51 rfl) rfl ?_
                refine X_cV1i (lv2 := [(0, _), (1, _)]) (tk_X10_take.at 52 rfl) mv_X10_many lk_x10_118 np_X10_many hM.f0 (by decide) rfl (Nat.le_of_ble_eq_true rfl) (Nat.le_of_ble_eq_true rfl) rfl (c10_many hM ej12 (by omega) ?_)
                refine X_icmp_geN (tgt := 110) (tk_X10_take.at 53 rfl) (by decide) (pl (nv (N (83 + 9 * j12))) rfl) ecx (by omega) (by omega) (fun c1 => ?_) (fun c1 => (by exfalso; omega))
                refine X_goto (tgt := 151) (tk_X10_take.at 64 rfl) (by decide) ?_
                refine X_aload_n (tk_X10_take.at 87 rfl) rfl ?_
                have wft : WF (stN N j12 (nv (N (83 + 9 * j12))) g) := WF_st hw hj12 hpg
                refine X_cV0i (lv2 := [(0, _)]) (tk_X10_take.at 88 rfl) mv_X10_tollOf lk_x10_264 np_X10_tollOf hM.f0 (by decide) rfl (Nat.le_of_ble_eq_true rfl) (Nat.le_of_ble_eq_true rfl) rfl (c10_tollY hM Mx_same (by rw [Mx_ne (by omega)]; exact hsq.2.2.1.trans hl0) wft (fun ξ hsy hov => ?_))
                have x1 : ξ (o + 1) = (stN N j12 (nv (N (83 + 9 * j12))) g) := by rw [hsy.1 _ (by omega) (by omega) (by omega) (by omega) (by omega), Mx_same]
                have xsq : Sq o μ ξ := (hsq.mx _ (by omega)).tr hsy.sx
                refine X_ireturn (tk_X10_take.at 89 rfl) rfl rfl ?_
                exact k4 ξ j12 k32 t g hj12 hk32 ej12 (pz ew3 (by omega)) (by rw [← ej12]; exact h32) hres hpg (fun k hk => (hrw k hk).2) xsq x1
              | succ m ih =>
                intro i hi
                have ecx := ecn i (by omega)
                refine X_iload_n (tk_X10_take.at 49 rfl) rfl ?_
                refine X_aload_n (tk_X10_take.at 50 rfl) rfl ?_
                refine X_iload_n (tk_X10_take.at 51 rfl) rfl ?_
                refine X_cV1i (lv2 := [(0, _), (1, _)]) (tk_X10_take.at 52 rfl) mv_X10_many lk_x10_118 np_X10_many hM.f0 (by decide) rfl (Nat.le_of_ble_eq_true rfl) (Nat.le_of_ble_eq_true rfl) rfl (c10_many hM ej12 (by omega) ?_)
                refine X_icmp_geN (tgt := 110) (tk_X10_take.at 53 rfl) (by decide) (pl i rfl) ecx (by omega) (by omega) (fun c1 => (by exfalso; omega)) (fun c1 => ?_)
                refine X_aload_n (tk_X10_take.at 54 rfl) rfl ?_
                refine X_iload_n (tk_X10_take.at 55 rfl) rfl ?_
                refine X_iload_n (tk_X10_take.at 56 rfl) rfl ?_
                refine X_aload_n (tk_X10_take.at 57 rfl) rfl ?_
                refine X_getR (tk_X10_take.at 58 rfl) fl_x10_50 hM.f0 rfl rfl ?_
                refine X_iload_n (tk_X10_take.at 59 rfl) rfl ?_
                refine X_ialdN (k := i) (tk_X10_take.at 60 rfl) hM.f12 (pz (pl i rfl) (by omega)) (by omega) (by decide) ?_
                refine X_cV3v (lv2 := [(0, _), (1, _), (2, _), (3, _)]) (tk_X10_take.at 61 rfl) mv_X10_seats lk_x10_127 np_X10_seats hM.f0 (by decide) rfl (Nat.le_of_ble_eq_true rfl) (Nat.le_of_ble_eq_true rfl) rfl (c10_seats hM ej12 (pl i rfl) (by omega) (by omega) ?_)
                refine X_iinc (lv' := [(0, _), (1, _), (2, _), (3, _)]) (tk_X10_take.at 62 rfl) rfl ci_1 (by decide) rfl rfl ?_
                refine X_goto (tgt := 83) (tk_X10_take.at 63 rfl) (by decide) ?_
                rw [Mx_ne (show o + 12 ≠ o + 1 by omega), (hrw i (by omega)).1, nI_1 i, su_Mx, stN_st]
                exact ih (i + 1) (by omega)
            have z := loop (nv (N (83 + 9 * j12))) 0 (Nat.zero_add _)
            rw [stN_0, ← h1, Mx_self] at z
            exact z
          · refine X_aload_n (tk_X10_take.at 28 rfl) rfl ?_
            refine X_getR (tk_X10_take.at 29 rfl) fl_x10_9 hM.f0 rfl rfl ?_
            refine X_bipush (tk_X10_take.at 30 rfl) cb_80 ?_
            refine X_bipush (tk_X10_take.at 31 rfl) cb_9 ?_
            refine X_iload_n (tk_X10_take.at 32 rfl) rfl ?_
            refine X_imul (tk_X10_take.at 33 rfl) ?_
            refine X_iadd (tk_X10_take.at 34 rfl) ?_
            refine X_iconst (tk_X10_take.at 35 rfl) ci_1 ?_
            refine X_iadd (tk_X10_take.at 36 rfl) ?_
            refine X_aload_n (tk_X10_take.at 37 rfl) rfl ?_
            refine X_iload_n (tk_X10_take.at 38 rfl) rfl ?_
            refine X_cV1i (lv2 := [(0, _), (1, _)]) (tk_X10_take.at 39 rfl) mv_X10_spaceOf lk_x10_288 np_X10_spaceOf hM.f0 (by decide) rfl (Nat.le_of_ble_eq_true rfl) (Nat.le_of_ble_eq_true rfl) rfl (c10_spaceOf hM hN hl0 hw ej12 hj12 (fun ν t c hsq h1 hbw => ?_))
            obtain ⟨q1, q2, q3, q4⟩ := bw_in hbw
            refine X_iastN (k := 81 + 9 * j12) (tk_X10_take.at 40 rfl) hM.f1 (pz (pa (pa (pl 80 rfl) (pm (pl 9 rfl) ej12)) (pl 1 rfl)) (by omega)) (by omega) (by decide) ?_
            rw [su_eq, h1]
            refine X_goto (tgt := 151) (tk_X10_take.at 41 rfl) (by decide) ?_
            refine X_aload_n (tk_X10_take.at 87 rfl) rfl ?_
            have wft : WF (upd N (81 + 9 * j12) (nI c)) := WF_rf (f := 0) hw hj12 (by decide) (fun _ => ⟨okN_of (by omega) (by decide), by rw [nv_nI (by omega)]; omega⟩) (fun h => by omega)
            refine X_cV0i (lv2 := [(0, _)]) (tk_X10_take.at 88 rfl) mv_X10_tollOf lk_x10_264 np_X10_tollOf hM.f0 (by decide) rfl (Nat.le_of_ble_eq_true rfl) (Nat.le_of_ble_eq_true rfl) rfl (c10_tollY hM Mx_same (by rw [Mx_ne (by omega)]; exact hsq.2.2.1.trans hl0) wft (fun ξ hsy hov => ?_))
            have x1 : ξ (o + 1) = (upd N (81 + 9 * j12) (nI c)) := by rw [hsy.1 _ (by omega) (by omega) (by omega) (by omega) (by omega), Mx_same]
            have xsq : Sq o μ ξ := (hsq.mx _ (by omega)).tr hsy.sx
            refine X_ireturn (tk_X10_take.at 89 rfl) rfl rfl ?_
            exact k3 ξ j12 k32 t c hj12 hk32 ej12 (pz ew3 (by omega)) (by rw [← ej12]; exact h32) hbw xsq x1
        · refine X_if_ge (tgt := 45) (tk_X10_take.at 20 rfl) (by decide) (fun h => absurd h (by decide)) (fun _ => ?_)
          refine X_aload_n (tk_X10_take.at 21 rfl) rfl ?_
          refine X_ldc (tk_X10_take.at 22 rfl) kn_x10_131 ?_
          refine X_cV1i (lv2 := [(0, _), (1, _)]) (tk_X10_take.at 23 rfl) mv_X10_finding lk_x10_82 np_X10_finding hM.f0 (by decide) rfl (Nat.le_of_ble_eq_true rfl) (Nat.le_of_ble_eq_true rfl) rfl (c10_finding (k := 3) hM (by decide) (by decide) ?_)
          refine X_ireturn (tk_X10_take.at 24 rfl) rfl rfl ?_
          exact k2 j12 (by rw [← hN]; first | exact hj12 | (rw [hN]; exact hj12)) ej12 (show nv x < 2 by omega) ew3 (fun k hk z => h32 k (by rw [hN]; exact hk) (by rw [hN, ej12]; exact z))
    · refine X_if_ne (tgt := 25) (tk_X10_take.at 9 rfl) (by decide) (fun h => absurd h (by decide)) (fun _ => ?_)
      refine X_aload_n (tk_X10_take.at 10 rfl) rfl ?_
      refine X_ldc (tk_X10_take.at 11 rfl) kn_x10_81 ?_
      refine X_cV1i (lv2 := [(0, _), (1, _)]) (tk_X10_take.at 12 rfl) mv_X10_finding lk_x10_82 np_X10_finding hM.f0 (by decide) rfl (Nat.le_of_ble_eq_true rfl) (Nat.le_of_ble_eq_true rfl) rfl (c10_finding (k := 1) hM (by decide) (by decide) ?_)
      refine X_ireturn (tk_X10_take.at 13 rfl) rfl rfl ?_
      exact k1 (fun g => by first | exact In_no (by omega) hj12 g.2 | exact h3 g.1)
  · refine X_if_eq (tgt := 18) (tk_X10_take.at 4 rfl) (by decide) (fun _ => ?_) (fun h => absurd h (by decide))
    refine X_aload_n (tk_X10_take.at 10 rfl) rfl ?_
    refine X_ldc (tk_X10_take.at 11 rfl) kn_x10_81 ?_
    refine X_cV1i (lv2 := [(0, _), (1, _)]) (tk_X10_take.at 12 rfl) mv_X10_finding lk_x10_82 np_X10_finding hM.f0 (by decide) rfl (Nat.le_of_ble_eq_true rfl) (Nat.le_of_ble_eq_true rfl) rfl (c10_finding (k := 1) hM (by decide) (by decide) ?_)
    refine X_ireturn (tk_X10_take.at 13 rfl) rfl rfl ?_
    exact k1 (fun g => by first | exact In_no (by omega) hj12 g.2 | exact h3 g.1)
