set_option maxHeartbeats 1000000 in
theorem t_take {G : Gl} {d : Nat} {S : Sh} {μ : Mu} {P o t q im : Nat} {kp : Option Nat} {x r : Int32} (hI : Inv G S P o kp t q im μ) : X G mi_X9_take (d + 60) 0 0 [(0, .ref P), (1, .int x), (2, .int r)] [] S μ (qi (fun an S1 μ1 => X G mi_X10_take (d + 60) 0 0 [(0, .ref o), (1, .int x), (2, .int r)] [] S1 μ1 (qi (Eq2 G P o im an)))) := by
  obtain ⟨N, hN⟩ : ∃ N, μ (o + 1) = N := ⟨_, rfl⟩
  have hw : WF N := hN ▸ hI.wf
  have hr : repD μ (P + 1) N := hN ▸ hI.rep
  have lo := hI.lo
  have b1 := hw.n1.2
  have b2 := hw.n2.2
  have b3 := hw.n3.2
  have b4 := hw.n4.2
  have b5 := hw.n5.2
  have b6 := hw.n6.2
  have hun : ∀ r i r' i' p, On N r i p → On N r' i' p → r = r' ∧ i = i' := fun _ _ _ _ _ h1 h2 => hw.un h1 h2
  have hlu : ∀ k k', k < nv (N 4) → k' < nv (N 4) → N (134 + k) = N (134 + k') → k = k' := fun _ _ h1 h2 e => hw.lu h1 h2 e
  have hnz : nI 0 = 0 := rfl
  have hli : ∀ k, k < nv (N 4) → N (134 + k) = nI (nv (N (134 + k))) ∧ nv (N (134 + k)) < nv (N 3) := fun k h => hw.li h
  refine X_iload_n (tk_X9_take.at 0 rfl) rfl ?_
  refine X_if_lt (tgt := 23) (tk_X9_take.at 1 rfl) (by decide) (fun c1 => ?_) (fun c1 => ?_)
  · refine X_aload_n (tk_X9_take.at 11 rfl) rfl ?_
    refine X_ldc (tk_X9_take.at 12 rfl) kn_x9_76 ?_
    refine X_cV1i (lv2 := [(0, _), (1, _)]) (tk_X9_take.at 13 rfl) mv_X9_fail lk_x9_77 np_X9_fail hI.P0 (by decide) rfl (Nat.le_of_ble_eq_true rfl) (Nat.le_of_ble_eq_true rfl) rfl (c9_fail (k := 1) hI.P0 hI.E (by decide) (by decide) ?_)
    refine X_ireturn (tk_X9_take.at 14 rfl) rfl rfl ?_
    have rg2 : ∀ f, f ≤ 2 → 0 ≤ nI f ∧ nI f ≤ 2 := fun f h => rng rfl h (by decide)
    have hbad : ¬ ((0 ≤ x ∧ x ≤ 2) ∧ In r (nv (N 3))) := fun hb => by first | exact hj17 hb.2 | (have hb1 := hb.1; grind)
    have one1 : 0 ≤ nI 1 ∧ nI 1 ≤ 2 := rg2 1 (by decide)
    refine c10_take (N := N) hI.M (by rw [su_ne (by omega)]; exact hN) (by rw [su_ne (by omega)]; exact hI.l0) hw (fun _ => ⟨rfl, fin_e hI (Fs.rf hI) (Sq.rf _ _) rfl⟩) (fun a ha ea h2 ex hno => absurd ⟨(by rw [ex]; exact rg2 _ (by omega)), ⟨a, ha, ea⟩⟩ hbad) (fun ξ a k t c ha hk ea ex el hbw hsq hn1 => absurd ⟨(by rw [ex]; exact rg2 _ (by decide)), ⟨a, ha, ea⟩⟩ hbad) (fun ξ a k t g ha hk ea ex el hor hpm hlt hsq hn1 => absurd ⟨(by rw [ex]; exact rg2 _ (by decide)), ⟨a, ha, ea⟩⟩ hbad) (fun ξ a t g ha ea ex hor hpm hlt hsq hn1 => absurd ⟨(by rw [ex]; exact rg2 _ (by decide)), ⟨a, ha, ea⟩⟩ hbad)
  · refine X_iload_n (tk_X9_take.at 2 rfl) rfl ?_
    refine X_iconst (tk_X9_take.at 3 rfl) ci_2 ?_
    refine X_icmp_gt (tgt := 23) (tk_X9_take.at 4 rfl) (by decide) (fun c2 => ?_) (fun c2 => ?_)
    · refine X_aload_n (tk_X9_take.at 11 rfl) rfl ?_
      refine X_ldc (tk_X9_take.at 12 rfl) kn_x9_76 ?_
      refine X_cV1i (lv2 := [(0, _), (1, _)]) (tk_X9_take.at 13 rfl) mv_X9_fail lk_x9_77 np_X9_fail hI.P0 (by decide) rfl (Nat.le_of_ble_eq_true rfl) (Nat.le_of_ble_eq_true rfl) rfl (c9_fail (k := 1) hI.P0 hI.E (by decide) (by decide) ?_)
      refine X_ireturn (tk_X9_take.at 14 rfl) rfl rfl ?_
      have rg2 : ∀ f, f ≤ 2 → 0 ≤ nI f ∧ nI f ≤ 2 := fun f h => rng rfl h (by decide)
      have hbad : ¬ ((0 ≤ x ∧ x ≤ 2) ∧ In r (nv (N 3))) := fun hb => by first | exact hj17 hb.2 | (have hb1 := hb.1; grind)
      have one1 : 0 ≤ nI 1 ∧ nI 1 ≤ 2 := rg2 1 (by decide)
      refine c10_take (N := N) hI.M (by rw [su_ne (by omega)]; exact hN) (by rw [su_ne (by omega)]; exact hI.l0) hw (fun _ => ⟨rfl, fin_e hI (Fs.rf hI) (Sq.rf _ _) rfl⟩) (fun a ha ea h2 ex hno => absurd ⟨(by rw [ex]; exact rg2 _ (by omega)), ⟨a, ha, ea⟩⟩ hbad) (fun ξ a k t c ha hk ea ex el hbw hsq hn1 => absurd ⟨(by rw [ex]; exact rg2 _ (by decide)), ⟨a, ha, ea⟩⟩ hbad) (fun ξ a k t g ha hk ea ex el hor hpm hlt hsq hn1 => absurd ⟨(by rw [ex]; exact rg2 _ (by decide)), ⟨a, ha, ea⟩⟩ hbad) (fun ξ a t g ha ea ex hor hpm hlt hsq hn1 => absurd ⟨(by rw [ex]; exact rg2 _ (by decide)), ⟨a, ha, ea⟩⟩ hbad)
    · refine X_aload_n (tk_X9_take.at 5 rfl) rfl ?_
      refine X_getR (tk_X9_take.at 6 rfl) fl_x9_12 hI.P0 rfl rfl ?_
      refine X_getR (tk_X9_take.at 7 rfl) fl_x9_127 hI.D.1 rfl rfl ?_
      refine X_iload_n (tk_X9_take.at 8 rfl) rfl ?_
      refine X_cV1i (lv2 := [(0, _), (1, _)]) (tk_X9_take.at 9 rfl) mv_X3_has lk_x9_70 np_X3_has hI.D.2.2.2.1.1 (by decide) rfl (Nat.le_of_ble_eq_true rfl) (Nat.le_of_ble_eq_true rfl) rfl (d_ohas hI.D hw hr (fun j17 hj17 ej17 => ?_) (fun hj17 => ?_))
      · refine X_if_ne (tgt := 30) (tk_X9_take.at 10 rfl) (by decide) (fun _ => ?_) (fun h => absurd h (by decide))
        have hcf : 0 ≤ x ∧ x ≤ 2 := by grind
        obtain ⟨f, ef, hf⟩ : ∃ f, x = nI f ∧ f ≤ 2 := ⟨nv x, (le_lits (a := 0) (b := 2) (by decide) hcf.1 hcf.2 (by decide)).1, (le_lits (a := 0) (b := 2) (by decide) hcf.1 hcf.2 (by decide)).2.2⟩
        refine X_iload_n (tk_X9_take.at 15 rfl) rfl ?_
        refine X_iconst (tk_X9_take.at 16 rfl) ci_2 ?_
        refine X_icmp_geN (tgt := 53) (tk_X9_take.at 17 rfl) (by decide) ef (pl 2 rfl) (by omega) (by omega) (fun c4 => ?_) (fun c4 => ?_)
        · refine X_iload_n (tk_X9_take.at 27 rfl) rfl ?_
          refine X_if_neN (tgt := 90) (tk_X9_take.at 28 rfl) (by decide) ef (by omega) (fun c5 => ?_) (fun c5 => (by exfalso; omega))
          refine X_iload_n (tk_X9_take.at 44 rfl) rfl ?_
          refine X_iconst (tk_X9_take.at 45 rfl) ci_1 ?_
          refine X_icmp_neN (tgt := 129) (tk_X9_take.at 46 rfl) (by decide) ef (pl 1 rfl) (by omega) (by omega) (fun c6 => ?_) (fun c6 => (by exfalso; omega))
          have hxf : x = nI 2 := by rw [ef]; exact congrArg nI (by omega)
          refine X_aload_n (tk_X9_take.at 63 rfl) rfl ?_
          refine X_getR (tk_X9_take.at 64 rfl) fl_x9_26 hI.P0 rfl rfl ?_
          refine X_aload_n (tk_X9_take.at 65 rfl) rfl ?_
          refine X_getR (tk_X9_take.at 66 rfl) fl_x9_12 hI.P0 rfl rfl ?_
          refine X_cV1v (lv2 := [(0, _), (1, _)]) (tk_X9_take.at 67 rfl) mv_X0_chooseLine lk_x9_264 np_X0_chooseLine hI.H.1 (by decide) rfl (Nat.le_of_ble_eq_true rfl) (Nat.le_of_ble_eq_true rfl) rfl (c0_chooseLine hI.H hI.D hw hr hI.nb (Or.inl (by omega))  (fun ν M t0 g0 hFh hTr hOr hlt hsz0 hRw => ?_))
          have hFs : Fs P μ ν := Fs_Fh hI hFh hTr
          have hNν : ν (o + 1) = N := by rw [hFh _ (by omega)]; exact hN
          have hl0ν : ν o 5 = 0 := by rw [hFh _ (by omega)]; exact hI.l0
          refine X_aload_n (tk_X9_take.at 68 rfl) rfl ?_
          refine X_getR (tk_X9_take.at 69 rfl) fl_x9_12 hI.P0 rfl rfl ?_
          refine X_getR (tk_X9_take.at 70 rfl) fl_x9_146 hI.D.1 rfl rfl ?_
          refine X_aload_n (tk_X9_take.at 71 rfl) rfl ?_
          refine X_getR (tk_X9_take.at 72 rfl) fl_x9_26 hI.P0 rfl rfl ?_
          refine X_getR (tk_X9_take.at 73 rfl) fl_x9_255 hI.H.1 rfl rfl ?_
          refine X_cV1v (lv2 := [(0, _), (1, _)]) (tk_X9_take.at 74 rfl) mv_X6_copyFrom lk_x9_217 np_X6_copyFrom hI.D.2.2.2.2.1.1 (by decide) rfl (Nat.le_of_ble_eq_true rfl) (Nat.le_of_ble_eq_true rfl) rfl (d_cp6 (m := nv (N 4)) hI.D.2.2.2.2.1 hI.H.2.1 hsz0 b4 b4 (by decide) (by omega) (fun ζ cc => ?_))
          have hle : ζ (P + 39) 2 = nI t0 := by rw [cc.1 _ (by omega) (by omega)]; exact hlt
          have e4l : ∀ g, lnN N (nv (N 4)) g 4 = N 4 := fun g => lnN_out _ _ (by omega)
          have rζ : repD ζ (P + 1) (lnN N (nv (N 4)) g0) := repD_line hw (hFs.rep hr) (fun q h1 h2 => cc.1 q h1 h2) (fun q h1 h2 => lnN_out _ _ (by omega)) ⟨by rw [e4l]; exact cc.2.1.trans hw.n4.1.symm, fun i hi => by rw [e4l] at hi; dsimp only; rw [lnN_in _ _ hi, cc.2.2 i hi]; exact (hRw i hi).1⟩
          have fn : Fn P μ ζ := ⟨fun q hq => by rw [cc.1 q (by omega) (by omega)]; exact hFs.1 q (by omega), by rw [cc.1 _ (by omega) (by omega)]; exact hFs.2⟩
          have hNζ : ζ (o + 1) = N := by rw [cc.1 _ (by omega) (by omega)]; exact hNν
          have hl0ζ : ζ o 5 = 0 := by rw [cc.1 _ (by omega) (by omega)]; exact hl0ν
          refine X_aload_n (tk_X9_take.at 75 rfl) rfl ?_
          refine X_getR (tk_X9_take.at 76 rfl) fl_x9_26 hI.P0 rfl rfl ?_
          refine X_getI (tk_X9_take.at 77 rfl) fl_x9_252 hI.H.1 rfl ?_
          rw [hle]
          refine X_ireturn (tk_X9_take.at 78 rfl) rfl rfl ?_
          refine c10_take (N := N) hI.M hNζ hl0ζ hw (fun g => by exfalso; apply g; exact ⟨hcf, ⟨j17, hj17, ej17⟩⟩) (fun a ha ea h2 ex hno => by exfalso; rw [hxf, nv_nI (by decide)] at h2; omega) (fun ξ a k t c ha hk ea ex el hbw hsq hn1 => by exfalso; exact absurd (nI_j ex hxf (by decide) (by decide)) (by decide)) (fun ξ a k t g ha hk ea ex el hor hpm hlt hsq hn1 => by exfalso; exact absurd (nI_j ex hxf (by decide) (by decide)) (by decide)) (fun ξ a t g ha ea ex hor hpm hlt3 hsq hn1 => ?_)
          have hd := LinR_det hor hOr
          have hst : lnN N (nv (N 4)) g = lnN N (nv (N 4)) g0 := lnN_c hd.2
          refine ⟨by rw [← LinR_t hor, hd.1], fin_n hI fn hsq (by rw [hn1]; exact repD_of (by rw [hst]; exact rζ) (fun q h1 h2 => hsq.1 q (by omega))) (by rw [hn1]; exact WF_ln hw hpm)⟩
        · refine X_aload_n (tk_X9_take.at 18 rfl) rfl ?_
          refine X_getR (tk_X9_take.at 19 rfl) fl_x9_12 hI.P0 rfl rfl ?_
          refine X_iload_n (tk_X9_take.at 20 rfl) rfl ?_
          refine X_cV1i (lv2 := [(0, _), (1, _)]) (tk_X9_take.at 21 rfl) mv_X2_isInLine lk_x9_221 np_X2_isInLine hI.D.1 (by decide) rfl (Nat.le_of_ble_eq_true rfl) (Nat.le_of_ble_eq_true rfl) rfl (c2_isInLine hI.D hw hr (fun k40 hk40 h40 => ?_) (fun h40 => ?_))
          · refine X_if_ne (tgt := 53) (tk_X9_take.at 22 rfl) (by decide) (fun _ => ?_) (fun h => absurd h (by decide))
            refine X_iload_n (tk_X9_take.at 27 rfl) rfl ?_
            refine X_if_neN (tgt := 90) (tk_X9_take.at 28 rfl) (by decide) ef (by omega) (fun c8 => ?_) (fun c8 => ?_)
            · refine X_iload_n (tk_X9_take.at 44 rfl) rfl ?_
              refine X_iconst (tk_X9_take.at 45 rfl) ci_1 ?_
              refine X_icmp_neN (tgt := 129) (tk_X9_take.at 46 rfl) (by decide) ef (pl 1 rfl) (by omega) (by omega) (fun c9 => (by exfalso; omega)) (fun c9 => ?_)
              have hxf : x = nI 1 := by rw [ef]; exact congrArg nI (by omega)
              refine X_aload_n (tk_X9_take.at 47 rfl) rfl ?_
              refine X_getR (tk_X9_take.at 48 rfl) fl_x9_26 hI.P0 rfl rfl ?_
              refine X_aload_n (tk_X9_take.at 49 rfl) rfl ?_
              refine X_getR (tk_X9_take.at 50 rfl) fl_x9_12 hI.P0 rfl rfl ?_
              refine X_iload_n (tk_X9_take.at 51 rfl) rfl ?_
              refine X_cV2v (lv2 := [(0, _), (1, _), (2, _)]) (tk_X9_take.at 52 rfl) mv_X0_chooseSpace lk_x9_258 np_X0_chooseSpace hI.H.1 (by decide) rfl (Nat.le_of_ble_eq_true rfl) (Nat.le_of_ble_eq_true rfl) rfl (c0_chooseSpace hI.H hI.D hw hr hI.nb (Or.inl (by omega)) ej17 hj17 (fun ν M hFh hTr hB => ?_))
              have hFs : Fs P μ ν := Fs_Fh hI hFh hTr
              have hNν : ν (o + 1) = N := by rw [hFh _ (by omega)]; exact hN
              have hl0ν : ν o 5 = 0 := by rw [hFh _ (by omega)]; exact hI.l0
              refine X_aload_n (tk_X9_take.at 53 rfl) rfl ?_
              refine X_getR (tk_X9_take.at 54 rfl) fl_x9_12 hI.P0 rfl rfl ?_
              refine X_getR (tk_X9_take.at 55 rfl) fl_x9_127 hI.D.1 rfl rfl ?_
              refine X_iload_n (tk_X9_take.at 56 rfl) rfl ?_
              refine X_iconst (tk_X9_take.at 57 rfl) ci_1 ?_
              refine X_aload_n (tk_X9_take.at 58 rfl) rfl ?_
              refine X_getR (tk_X9_take.at 59 rfl) fl_x9_26 hI.P0 rfl rfl ?_
              refine X_getI (tk_X9_take.at 60 rfl) fl_x9_261 hI.H.1 rfl ?_
              obtain ⟨⟨t0, c0⟩, hbw0⟩ := bw_some (ok := fun _ => True) (tl := tlS N j17) (a := 1) trivial 20 (by decide)
              have hB2 := hB
              rw [hbw0] at hB2
              have hbi := bw_in hbw0
              have rν := hFs.rep hr
              refine X_cV3v (lv2 := [(0, _), (1, _), (2, _), (3, _)]) (tk_X9_take.at 61 rfl) mv_X3_change lk_x9_160 np_X3_change hI.D.2.2.2.1.1 (by decide) rfl (Nat.le_of_ble_eq_true rfl) (Nat.le_of_ble_eq_true rfl) rfl (c3_change (n := nv (N 3)) (r := j17) (c := 1) hI.D.2.2.2.1 (rD_ropes hw rν) (by omega) (by decide) ej17 hj17 (pl 1 rfl) (by decide) ?_)
              rw [hB2.1]
              generalize eζ : su ν (P + 1 + 5 + 1) (4 * j17 + 1) (nI c0) = ζ
              have cc : ∀ q, q ≠ P + 1 + 6 → ζ q = ν q := fun q h1 => by rw [← eζ, su_ne h1]
              have cν : ζ (P + 1 + 6) = upd (ν (P + 1 + 6)) (4 * j17 + 1) (nI c0) := by rw [← eζ]; exact su_same
              have hle : ζ (P + 39) 2 = nI t0 := by rw [cc _ (by omega)]; exact hB2.2.1
              have rζ : repD ζ (P + 1) (upd N (81 + 9 * j17) (nI c0)) := repD_rop (r0 := j17) (f := 1) (v := nI c0) hw rν hj17 (by decide) cc cν (fun q hq => upd_ne _ _ (by omega)) (by rw [show 80 + 9 * j17 + 1 = 81 + 9 * j17 by omega]; exact upd_at _ _ _)
              have fn : Fn P μ ζ := ⟨fun q hq => by rw [cc q (by omega)]; exact hFs.1 q (by omega), by rw [cc _ (by omega)]; exact hFs.2⟩
              have hNζ : ζ (o + 1) = N := by rw [cc _ (by omega)]; exact hNν
              have hl0ζ : ζ o 5 = 0 := by rw [cc _ (by omega)]; exact hl0ν
              refine X_goto (tgt := 157) (tk_X9_take.at 62 rfl) (by decide) ?_
              refine X_aload_n (tk_X9_take.at 75 rfl) rfl ?_
              refine X_getR (tk_X9_take.at 76 rfl) fl_x9_26 hI.P0 rfl rfl ?_
              refine X_getI (tk_X9_take.at 77 rfl) fl_x9_252 hI.H.1 rfl ?_
              rw [hle]
              refine X_ireturn (tk_X9_take.at 78 rfl) rfl rfl ?_
              refine c10_take (N := N) hI.M hNζ hl0ζ hw (fun g => by exfalso; apply g; exact ⟨hcf, ⟨j17, hj17, ej17⟩⟩) (fun a ha ea h2 ex hno => by exfalso; exact hno k40 hk40 (h40.trans ea)) (fun ξ a k t c ha hk ea ex el hbw hsq hn1 => ?_) (fun ξ a k t g ha hk ea ex el hor hpm hlt hsq hn1 => by exfalso; exact absurd (nI_j ex hxf (by decide) (by decide)) (by decide)) (fun ξ a t g ha ea ex hor hpm hlt hsq hn1 => by exfalso; exact absurd (nI_j ex hxf (by decide) (by decide)) (by decide))
              have e1 := nI_j ea ej17 (by omega) (by omega)
              subst e1
              rw [hbw0] at hbw
              obtain ⟨rfl, rfl⟩ : t0 = t ∧ c0 = c := by have z := Option.some.inj hbw; exact ⟨congrArg Prod.fst z, congrArg Prod.snd z⟩
              refine ⟨by rw [hbi.2.2.2]; rfl, fin_n hI fn hsq (by rw [hn1]; exact repD_of rζ (fun q h1 h2 => hsq.1 q (by omega))) (by rw [hn1]; exact WF_rf hw hj17 (f := 0) (by decide) (fun _ => ⟨okN_of (by omega) (by decide), by rw [nv_nI (by omega)]; omega⟩) (fun h => absurd h (by decide)))⟩
            · have hxf : x = nI 0 := by rw [ef]; exact congrArg nI (by omega)
              refine X_aload_n (tk_X9_take.at 29 rfl) rfl ?_
              refine X_getR (tk_X9_take.at 30 rfl) fl_x9_26 hI.P0 rfl rfl ?_
              refine X_aload_n (tk_X9_take.at 31 rfl) rfl ?_
              refine X_getR (tk_X9_take.at 32 rfl) fl_x9_12 hI.P0 rfl rfl ?_
              refine X_iload_n (tk_X9_take.at 33 rfl) rfl ?_
              refine X_cV2v (lv2 := [(0, _), (1, _), (2, _)]) (tk_X9_take.at 34 rfl) mv_X0_chooseOrder lk_x9_248 np_X0_chooseOrder hI.H.1 (by decide) rfl (Nat.le_of_ble_eq_true rfl) (Nat.le_of_ble_eq_true rfl) rfl (c0_chooseOrder hI.H hI.D hw hr hI.nb (Or.inl (by omega)) ej17 hj17 (fun ν M t0 g0 hFh hTr hOr hlt hsz0 hRw => ?_))
              have hFs : Fs P μ ν := Fs_Fh hI hFh hTr
              have hNν : ν (o + 1) = N := by rw [hFh _ (by omega)]; exact hN
              have hl0ν : ν o 5 = 0 := by rw [hFh _ (by omega)]; exact hI.l0
              refine X_aload_n (tk_X9_take.at 35 rfl) rfl ?_
              refine X_getR (tk_X9_take.at 36 rfl) fl_x9_12 hI.P0 rfl rfl ?_
              refine X_iload_n (tk_X9_take.at 37 rfl) rfl ?_
              refine X_cV1r (lv2 := [(0, _), (1, _)]) (tk_X9_take.at 38 rfl) mv_X2_rowOf lk_x9_131 np_X2_rowOf hI.D.1 (by decide) rfl (Nat.le_of_ble_eq_true rfl) (Nat.le_of_ble_eq_true rfl) rfl (c2_rowOf (r := j17) hI.D ej17 (by omega) ?_)
              refine X_aload_n (tk_X9_take.at 39 rfl) rfl ?_
              refine X_getR (tk_X9_take.at 40 rfl) fl_x9_26 hI.P0 rfl rfl ?_
              refine X_getR (tk_X9_take.at 41 rfl) fl_x9_255 hI.H.1 rfl rfl ?_
              have bm17 := hw.mb hj17
              refine X_cV1v (lv2 := [(0, _), (1, _)]) (tk_X9_take.at 42 rfl) mv_X6_copyFrom lk_x9_217 np_X6_copyFrom (DS_r hI.D (r := j17) (by omega)).1 (by decide) rfl (Nat.le_of_ble_eq_true rfl) (Nat.le_of_ble_eq_true rfl) rfl (d_cp6 (m := mny N j17) (DS_r hI.D (r := j17) (by omega)) hI.H.2.1 hsz0 bm17 (by omega) (by decide) (by omega) (fun ζ cc => ?_))
              have hle : ζ (P + 39) 2 = nI t0 := by rw [cc.1 _ (by omega) (by omega)]; exact hlt
              have rζ : repD ζ (P + 1) (stN N j17 (mny N j17) g0) := repD_rw hw (hFs.rep hr) hj17 (fun q h1 h2 => cc.1 q h1 h2) (fun q hq => stN_out _ _ (by omega)) bm17 cc.2.1 (by rw [stN_out _ _ (by omega)]; exact (hw.ro hj17).2.2.2.1.1) (fun i hi => by rw [stN_in _ _ hi, cc.2.2 i hi]; exact (hRw i hi).1)
              have fn : Fn P μ ζ := ⟨fun q hq => by rw [cc.1 q (by omega) (by omega)]; exact hFs.1 q (by omega), by rw [cc.1 _ (by omega) (by omega)]; exact hFs.2⟩
              have hNζ : ζ (o + 1) = N := by rw [cc.1 _ (by omega) (by omega)]; exact hNν
              have hl0ζ : ζ o 5 = 0 := by rw [cc.1 _ (by omega) (by omega)]; exact hl0ν
              refine X_goto (tgt := 157) (tk_X9_take.at 43 rfl) (by decide) ?_
              refine X_aload_n (tk_X9_take.at 75 rfl) rfl ?_
              refine X_getR (tk_X9_take.at 76 rfl) fl_x9_26 hI.P0 rfl rfl ?_
              refine X_getI (tk_X9_take.at 77 rfl) fl_x9_252 hI.H.1 rfl ?_
              rw [hle]
              refine X_ireturn (tk_X9_take.at 78 rfl) rfl rfl ?_
              refine c10_take (N := N) hI.M hNζ hl0ζ hw (fun g => by exfalso; apply g; exact ⟨hcf, ⟨j17, hj17, ej17⟩⟩) (fun a ha ea h2 ex hno => by exfalso; exact hno k40 hk40 (h40.trans ea)) (fun ξ a k t c ha hk ea ex el hbw hsq hn1 => by exfalso; exact absurd (nI_j ex hxf (by decide) (by decide)) (by decide)) (fun ξ a k t g ha hk ea ex el hor hpm hlt3 hsq hn1 => ?_) (fun ξ a t g ha ea ex hor hpm hlt hsq hn1 => by exfalso; exact absurd (nI_j ex hxf (by decide) (by decide)) (by decide))
              have e1 := nI_j ea ej17 (by omega) (by omega)
              subst e1
              have hd := OrdR_det hor hOr
              have hst : stN N a (nv (N (83 + 9 * a))) g = stN N a (mny N a) g0 := stN_c hd.2
              refine ⟨by rw [← OrdR_t hor, hd.1], fin_n hI fn hsq (by rw [hn1]; exact repD_of (by rw [hst]; exact rζ) (fun q h1 h2 => hsq.1 q (by omega))) (by rw [hn1]; exact WF_st hw hj17 hpm)⟩
          · refine X_if_ne (tgt := 53) (tk_X9_take.at 22 rfl) (by decide) (fun h => absurd h (by decide)) (fun _ => ?_)
            refine X_aload_n (tk_X9_take.at 23 rfl) rfl ?_
            refine X_ldc (tk_X9_take.at 24 rfl) kn_x9_130 ?_
            refine X_cV1i (lv2 := [(0, _), (1, _)]) (tk_X9_take.at 25 rfl) mv_X9_fail lk_x9_77 np_X9_fail hI.P0 (by decide) rfl (Nat.le_of_ble_eq_true rfl) (Nat.le_of_ble_eq_true rfl) rfl (c9_fail (k := 3) hI.P0 hI.E (by decide) (by decide) ?_)
            refine X_ireturn (tk_X9_take.at 26 rfl) rfl rfl ?_
            refine c10_take (N := N) hI.M (by rw [su_ne (by omega)]; exact hN) (by rw [su_ne (by omega)]; exact hI.l0) hw (fun g => by exfalso; apply g; exact ⟨hcf, ⟨j17, hj17, ej17⟩⟩) (fun a ha ea h2 ex hno => ⟨rfl, fin_e hI (Fs.rf hI) (Sq.rf _ _) rfl⟩) (fun ξ a k t c ha hk ea ex el hbw hsq hn1 => absurd (el.trans ea.symm) (h40 k hk)) (fun ξ a k t g ha hk ea ex el hor hpm hlt hsq hn1 => absurd (el.trans ea.symm) (h40 k hk)) (fun ξ a t g ha ea ex hor hpm hlt hsq hn1 => by exfalso; have z := nI_j ex ef (by decide) (by omega); omega)
      · refine X_if_ne (tgt := 30) (tk_X9_take.at 10 rfl) (by decide) (fun h => absurd h (by decide)) (fun _ => ?_)
        refine X_aload_n (tk_X9_take.at 11 rfl) rfl ?_
        refine X_ldc (tk_X9_take.at 12 rfl) kn_x9_76 ?_
        refine X_cV1i (lv2 := [(0, _), (1, _)]) (tk_X9_take.at 13 rfl) mv_X9_fail lk_x9_77 np_X9_fail hI.P0 (by decide) rfl (Nat.le_of_ble_eq_true rfl) (Nat.le_of_ble_eq_true rfl) rfl (c9_fail (k := 1) hI.P0 hI.E (by decide) (by decide) ?_)
        refine X_ireturn (tk_X9_take.at 14 rfl) rfl rfl ?_
        have rg2 : ∀ f, f ≤ 2 → 0 ≤ nI f ∧ nI f ≤ 2 := fun f h => rng rfl h (by decide)
        have hbad : ¬ ((0 ≤ x ∧ x ≤ 2) ∧ In r (nv (N 3))) := fun hb => by first | exact hj17 hb.2 | (have hb1 := hb.1; grind)
        have one1 : 0 ≤ nI 1 ∧ nI 1 ≤ 2 := rg2 1 (by decide)
        refine c10_take (N := N) hI.M (by rw [su_ne (by omega)]; exact hN) (by rw [su_ne (by omega)]; exact hI.l0) hw (fun _ => ⟨rfl, fin_e hI (Fs.rf hI) (Sq.rf _ _) rfl⟩) (fun a ha ea h2 ex hno => absurd ⟨(by rw [ex]; exact rg2 _ (by omega)), ⟨a, ha, ea⟩⟩ hbad) (fun ξ a k t c ha hk ea ex el hbw hsq hn1 => absurd ⟨(by rw [ex]; exact rg2 _ (by decide)), ⟨a, ha, ea⟩⟩ hbad) (fun ξ a k t g ha hk ea ex el hor hpm hlt hsq hn1 => absurd ⟨(by rw [ex]; exact rg2 _ (by decide)), ⟨a, ha, ea⟩⟩ hbad) (fun ξ a t g ha ea ex hor hpm hlt hsq hn1 => absurd ⟨(by rw [ex]; exact rg2 _ (by decide)), ⟨a, ha, ea⟩⟩ hbad)
