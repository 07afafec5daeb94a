theorem and63 (x : Int32) : ∃ k, k < 64 ∧ x &&& 63 = nI k := by
  refine ⟨(x &&& 63).toBitVec.toNat, ?_, ?_⟩
  · have e : (x &&& 63).toBitVec = x.toBitVec &&& 63#32 := rfl
    rw [e, BitVec.toNat_and]
    exact Nat.lt_succ_of_le Nat.and_le_right
  · apply Int32.toBitVec_inj.mp
    show _ = BitVec.ofNat 32 _
    rw [BitVec.ofNat_toNat, BitVec.setWidth_eq]
set_option maxHeartbeats 2000000 in
theorem L_sw {G : Gl} {d n : Nat} {S : Sh} {μ : Mu} {P o t q im b L i fm : Nat} {kp : Option Nat} {xs : Nat → Int32} {Q : Option Value → Sh → Mu → Prop} (hs : Scr G b L xs) (hL : L ≤ 384) (hi : i + 6 ≤ L) (him : im < 2 ^ 30) (hF : Fmt G fm) (hI : Inv G S P o kp t q im μ) (hk : ∀ S μ, Nx G P o im S μ → X G mi_L (d + 61) n 1741 (lvL b P o i) [] S μ Q) {x : Int32} (k : Nat) (hk64 : k < 64) (hx : x = nI k) : X G mi_L (d + 61) (32 + n) 33 (lvL b P o i) [.int x] S μ Q := by
  subst hx
  match k, hk64 with
  | 0, _ => exact X_tableIn (tgt := 244) (tk_L.at 21 rfl) (by decide +kernel) (by decide +kernel) (off := 211) (by decide +kernel) (by decide) (L_0 hs hL hi him hF hI hk)
  | 1, _ => exact X_tableIn (tgt := 297) (tk_L.at 21 rfl) (by decide +kernel) (by decide +kernel) (off := 264) (by decide +kernel) (by decide) (L_1 hs hL hi him hF hI hk)
  | 2, _ => exact X_tableIn (tgt := 330) (tk_L.at 21 rfl) (by decide +kernel) (by decide +kernel) (off := 297) (by decide +kernel) (by decide) (L_2 hs hL hi him hF hI hk)
  | 3, _ => exact X_tableIn (tgt := 353) (tk_L.at 21 rfl) (by decide +kernel) (by decide +kernel) (off := 320) (by decide +kernel) (by decide) (L_3 hs hL hi him hF hI hk)
  | 4, _ => exact X_tableIn (tgt := 406) (tk_L.at 21 rfl) (by decide +kernel) (by decide +kernel) (off := 373) (by decide +kernel) (by decide) (L_4 hs hL hi him hF hI hk)
  | 5, _ => exact X_tableIn (tgt := 439) (tk_L.at 21 rfl) (by decide +kernel) (by decide +kernel) (off := 406) (by decide +kernel) (by decide) (L_5 hs hL hi him hF hI hk)
  | 6, _ => exact X_tableIn (tgt := 462) (tk_L.at 21 rfl) (by decide +kernel) (by decide +kernel) (off := 429) (by decide +kernel) (by decide) (L_6 hs hL hi him hF hI hk)
  | 7, _ => exact X_tableIn (tgt := 505) (tk_L.at 21 rfl) (by decide +kernel) (by decide +kernel) (off := 472) (by decide +kernel) (by decide) (L_7 hs hL hi him hF hI hk)
  | 8, _ => exact X_tableIn (tgt := 538) (tk_L.at 21 rfl) (by decide +kernel) (by decide +kernel) (off := 505) (by decide +kernel) (by decide) (L_8 hs hL hi him hF hI hk)
  | 9, _ => exact X_tableIn (tgt := 561) (tk_L.at 21 rfl) (by decide +kernel) (by decide +kernel) (off := 528) (by decide +kernel) (by decide) (L_9 hs hL hi him hF hI hk)
  | 10, _ => exact X_tableIn (tgt := 594) (tk_L.at 21 rfl) (by decide +kernel) (by decide +kernel) (off := 561) (by decide +kernel) (by decide) (L_10 hs hL hi him hF hI hk)
  | 11, _ => exact X_tableIn (tgt := 627) (tk_L.at 21 rfl) (by decide +kernel) (by decide +kernel) (off := 594) (by decide +kernel) (by decide) (L_11 hs hL hi him hF hI hk)
  | 12, _ => exact X_tableIn (tgt := 670) (tk_L.at 21 rfl) (by decide +kernel) (by decide +kernel) (off := 637) (by decide +kernel) (by decide) (L_12 hs hL hi him hF hI hk)
  | 13, _ => exact X_tableIn (tgt := 703) (tk_L.at 21 rfl) (by decide +kernel) (by decide +kernel) (off := 670) (by decide +kernel) (by decide) (L_13 hs hL hi him hF hI hk)
  | 14, _ => exact X_tableIn (tgt := 726) (tk_L.at 21 rfl) (by decide +kernel) (by decide +kernel) (off := 693) (by decide +kernel) (by decide) (L_14 hs hL hi him hF hI hk)
  | 15, _ => exact X_tableIn (tgt := 759) (tk_L.at 21 rfl) (by decide +kernel) (by decide +kernel) (off := 726) (by decide +kernel) (by decide) (L_15 hs hL hi him hF hI hk)
  | 16, _ => exact X_tableIn (tgt := 792) (tk_L.at 21 rfl) (by decide +kernel) (by decide +kernel) (off := 759) (by decide +kernel) (by decide) (L_16 hs hL hi him hF hI hk)
  | 17, _ => exact X_tableIn (tgt := 825) (tk_L.at 21 rfl) (by decide +kernel) (by decide +kernel) (off := 792) (by decide +kernel) (by decide) (L_17 hs hL hi him hF hI hk)
  | 18, _ => exact X_tableIn (tgt := 888) (tk_L.at 21 rfl) (by decide +kernel) (by decide +kernel) (off := 855) (by decide +kernel) (by decide) (L_18 hs hL hi him hF hI hk)
  | 19, _ => exact X_tableIn (tgt := 911) (tk_L.at 21 rfl) (by decide +kernel) (by decide +kernel) (off := 878) (by decide +kernel) (by decide) (L_19 hs hL hi him hF hI hk)
  | 20, _ => exact X_tableIn (tgt := 974) (tk_L.at 21 rfl) (by decide +kernel) (by decide +kernel) (off := 941) (by decide +kernel) (by decide) (L_20 hs hL hi him hF hI hk)
  | 21, _ => exact X_tableIn (tgt := 997) (tk_L.at 21 rfl) (by decide +kernel) (by decide +kernel) (off := 964) (by decide +kernel) (by decide) (L_21 hs hL hi him hF hI hk)
  | 22, _ => exact X_tableIn (tgt := 1010) (tk_L.at 21 rfl) (by decide +kernel) (by decide +kernel) (off := 977) (by decide +kernel) (by decide) (L_22 hs hL hi him hF hI hk)
  | 23, _ => exact X_tableIn (tgt := 1053) (tk_L.at 21 rfl) (by decide +kernel) (by decide +kernel) (off := 1020) (by decide +kernel) (by decide) (L_23 hs hL hi him hF hI hk)
  | 24, _ => exact X_tableIn (tgt := 1086) (tk_L.at 21 rfl) (by decide +kernel) (by decide +kernel) (off := 1053) (by decide +kernel) (by decide) (L_24 hs hL hi him hF hI hk)
  | 25, _ => exact X_tableIn (tgt := 1099) (tk_L.at 21 rfl) (by decide +kernel) (by decide +kernel) (off := 1066) (by decide +kernel) (by decide) (L_25 hs hL hi him hF hI hk)
  | 26, _ => exact X_tableIn (tgt := 1112) (tk_L.at 21 rfl) (by decide +kernel) (by decide +kernel) (off := 1079) (by decide +kernel) (by decide) (L_26 hs hL hi him hF hI hk)
  | 27, _ => exact X_tableIn (tgt := 1145) (tk_L.at 21 rfl) (by decide +kernel) (by decide +kernel) (off := 1112) (by decide +kernel) (by decide) (L_27 hs hL hi him hF hI hk)
  | 28, _ => exact X_tableIn (tgt := 1168) (tk_L.at 21 rfl) (by decide +kernel) (by decide +kernel) (off := 1135) (by decide +kernel) (by decide) (L_28 hs hL hi him hF hI hk)
  | 29, _ => exact X_tableIn (tgt := 1191) (tk_L.at 21 rfl) (by decide +kernel) (by decide +kernel) (off := 1158) (by decide +kernel) (by decide) (L_29 hs hL hi him hF hI hk)
  | 30, _ => exact X_tableIn (tgt := 1224) (tk_L.at 21 rfl) (by decide +kernel) (by decide +kernel) (off := 1191) (by decide +kernel) (by decide) (L_30 hs hL hi him hF hI hk)
  | 31, _ => exact X_tableIn (tgt := 1247) (tk_L.at 21 rfl) (by decide +kernel) (by decide +kernel) (off := 1214) (by decide +kernel) (by decide) (L_31 hs hL hi him hF hI hk)
  | 32, _ => exact X_tableIn (tgt := 1280) (tk_L.at 21 rfl) (by decide +kernel) (by decide +kernel) (off := 1247) (by decide +kernel) (by decide) (L_32 hs hL hi him hF hI hk)
  | 33, _ => exact X_tableIn (tgt := 1293) (tk_L.at 21 rfl) (by decide +kernel) (by decide +kernel) (off := 1260) (by decide +kernel) (by decide) (L_33 hs hL hi him hF hI hk)
  | 34, _ => exact X_tableIn (tgt := 1316) (tk_L.at 21 rfl) (by decide +kernel) (by decide +kernel) (off := 1283) (by decide +kernel) (by decide) (L_34 hs hL hi him hF hI hk)
  | 35, _ => exact X_tableIn (tgt := 1349) (tk_L.at 21 rfl) (by decide +kernel) (by decide +kernel) (off := 1316) (by decide +kernel) (by decide) (L_35 hs hL hi him hF hI hk)
  | 36, _ => exact X_tableIn (tgt := 1362) (tk_L.at 21 rfl) (by decide +kernel) (by decide +kernel) (off := 1329) (by decide +kernel) (by decide) (L_36 hs hL hi him hF hI hk)
  | 37, _ => exact X_tableIn (tgt := 1395) (tk_L.at 21 rfl) (by decide +kernel) (by decide +kernel) (off := 1362) (by decide +kernel) (by decide) (L_37 hs hL hi him hF hI hk)
  | 38, _ => exact X_tableIn (tgt := 1418) (tk_L.at 21 rfl) (by decide +kernel) (by decide +kernel) (off := 1385) (by decide +kernel) (by decide) (L_38 hs hL hi him hF hI hk)
  | 39, _ => exact X_tableIn (tgt := 1461) (tk_L.at 21 rfl) (by decide +kernel) (by decide +kernel) (off := 1428) (by decide +kernel) (by decide) (L_39 hs hL hi him hF hI hk)
  | 40, _ => exact X_tableIn (tgt := 1484) (tk_L.at 21 rfl) (by decide +kernel) (by decide +kernel) (off := 1451) (by decide +kernel) (by decide) (L_40 hs hL hi him hF hI hk)
  | 41, _ => exact X_tableIn (tgt := 1527) (tk_L.at 21 rfl) (by decide +kernel) (by decide +kernel) (off := 1494) (by decide +kernel) (by decide) (L_41 hs hL hi him hF hI hk)
  | 42, _ => exact X_tableIn (tgt := 1570) (tk_L.at 21 rfl) (by decide +kernel) (by decide +kernel) (off := 1537) (by decide +kernel) (by decide) (L_42 hs hL hi him hF hI hk)
  | 43, _ => exact X_tableIn (tgt := 1633) (tk_L.at 21 rfl) (by decide +kernel) (by decide +kernel) (off := 1600) (by decide +kernel) (by decide) (L_43 hs hL hi him hF hI hk)
  | 44, _ => exact X_tableIn (tgt := 1646) (tk_L.at 21 rfl) (by decide +kernel) (by decide +kernel) (off := 1613) (by decide +kernel) (by decide) (L_44 hs hL hi him hF hI hk)
  | 45, _ => exact X_tableIn (tgt := 1659) (tk_L.at 21 rfl) (by decide +kernel) (by decide +kernel) (off := 1626) (by decide +kernel) (by decide) (L_45 hs hL hi him hF hI hk)
  | 46, _ => exact X_tableIn (tgt := 1682) (tk_L.at 21 rfl) (by decide +kernel) (by decide +kernel) (off := 1649) (by decide +kernel) (by decide) (L_46 hs hL hi him hF hI hk)
  | 47, _ => exact X_tableIn (tgt := 1695) (tk_L.at 21 rfl) (by decide +kernel) (by decide +kernel) (off := 1662) (by decide +kernel) (by decide) (L_47 hs hL hi him hF hI hk)
  | 48, _ => exact X_tableIn (tgt := 1718) (tk_L.at 21 rfl) (by decide +kernel) (by decide +kernel) (off := 1685) (by decide +kernel) (by decide) (L_48 hs hL hi him hF hI hk)
  | 49, _ => exact X_tableOut (tgt := 1741) (tk_L.at 21 rfl) (Or.inr (by decide +kernel)) (by decide) (X_kc (by omega) (hk _ _ ⟨kp, t, q, im, Nat.le_succ _, hI⟩))
  | 50, _ => exact X_tableOut (tgt := 1741) (tk_L.at 21 rfl) (Or.inr (by decide +kernel)) (by decide) (X_kc (by omega) (hk _ _ ⟨kp, t, q, im, Nat.le_succ _, hI⟩))
  | 51, _ => exact X_tableOut (tgt := 1741) (tk_L.at 21 rfl) (Or.inr (by decide +kernel)) (by decide) (X_kc (by omega) (hk _ _ ⟨kp, t, q, im, Nat.le_succ _, hI⟩))
  | 52, _ => exact X_tableOut (tgt := 1741) (tk_L.at 21 rfl) (Or.inr (by decide +kernel)) (by decide) (X_kc (by omega) (hk _ _ ⟨kp, t, q, im, Nat.le_succ _, hI⟩))
  | 53, _ => exact X_tableOut (tgt := 1741) (tk_L.at 21 rfl) (Or.inr (by decide +kernel)) (by decide) (X_kc (by omega) (hk _ _ ⟨kp, t, q, im, Nat.le_succ _, hI⟩))
  | 54, _ => exact X_tableOut (tgt := 1741) (tk_L.at 21 rfl) (Or.inr (by decide +kernel)) (by decide) (X_kc (by omega) (hk _ _ ⟨kp, t, q, im, Nat.le_succ _, hI⟩))
  | 55, _ => exact X_tableOut (tgt := 1741) (tk_L.at 21 rfl) (Or.inr (by decide +kernel)) (by decide) (X_kc (by omega) (hk _ _ ⟨kp, t, q, im, Nat.le_succ _, hI⟩))
  | 56, _ => exact X_tableOut (tgt := 1741) (tk_L.at 21 rfl) (Or.inr (by decide +kernel)) (by decide) (X_kc (by omega) (hk _ _ ⟨kp, t, q, im, Nat.le_succ _, hI⟩))
  | 57, _ => exact X_tableOut (tgt := 1741) (tk_L.at 21 rfl) (Or.inr (by decide +kernel)) (by decide) (X_kc (by omega) (hk _ _ ⟨kp, t, q, im, Nat.le_succ _, hI⟩))
  | 58, _ => exact X_tableOut (tgt := 1741) (tk_L.at 21 rfl) (Or.inr (by decide +kernel)) (by decide) (X_kc (by omega) (hk _ _ ⟨kp, t, q, im, Nat.le_succ _, hI⟩))
  | 59, _ => exact X_tableOut (tgt := 1741) (tk_L.at 21 rfl) (Or.inr (by decide +kernel)) (by decide) (X_kc (by omega) (hk _ _ ⟨kp, t, q, im, Nat.le_succ _, hI⟩))
  | 60, _ => exact X_tableOut (tgt := 1741) (tk_L.at 21 rfl) (Or.inr (by decide +kernel)) (by decide) (X_kc (by omega) (hk _ _ ⟨kp, t, q, im, Nat.le_succ _, hI⟩))
  | 61, _ => exact X_tableOut (tgt := 1741) (tk_L.at 21 rfl) (Or.inr (by decide +kernel)) (by decide) (X_kc (by omega) (hk _ _ ⟨kp, t, q, im, Nat.le_succ _, hI⟩))
  | 62, _ => exact X_tableOut (tgt := 1741) (tk_L.at 21 rfl) (Or.inr (by decide +kernel)) (by decide) (X_kc (by omega) (hk _ _ ⟨kp, t, q, im, Nat.le_succ _, hI⟩))
  | 63, _ => exact X_tableOut (tgt := 1741) (tk_L.at 21 rfl) (Or.inr (by decide +kernel)) (by decide) (X_kc (by omega) (hk _ _ ⟨kp, t, q, im, Nat.le_succ _, hI⟩))
  | k + 64, h => exact absurd h (by omega)
theorem L_loop {G : Gl} {d P o b L fm : Nat} {xs : Nat → Int32} (hs : Scr G b L xs) (hL : L ≤ 384) (hF : Fmt G fm) : ∀ (m i im : Nat) (S : Sh) (μ : Mu), im + m < 2 ^ 30 → L < i + 6 * m + 6 → i ≤ 390 → (∃ kp t q, Inv G S P o kp t q im μ) → X G mi_L (d + 61) (32 * m) 18 (lvL b P o i) [] S μ (qi (fun r _ _ => r = 1)) := by
  intro m
  induction m with
  | zero =>
    intro i im S μ h1 h2 h3 h4
    refine X_iload_n (tk_L.at 10 rfl) rfl ?_
    refine X_aload_n (tk_L.at 11 rfl) rfl ?_
    refine X_lenS (tk_L.at 12 rfl) hs ?_
    refine X_bipush (tk_L.at 13 rfl) cb_6 ?_
    refine X_isub (tk_L.at 14 rfl) ?_
    refine X_icmp_gt (tgt := 1747) (tk_L.at 15 rfl) (by decide) (fun _ => ?_) (fun h => ?_)
    · refine X_iconst (tk_L.at 24 rfl) ci_1 ?_
      exact X_ireturn (mi := mi_L) (ty := .boolean) (K := fun r _ _ => r = 1) (tk_L.at 25 rfl) rfl rfl rfl
    · exfalso
      apply h
      rw [Int32.lt_iff_toInt_lt, show (6 : Int32) = nI 6 from rfl, pk_sub_toInt (by omega) (by omega), nI_toInt (by omega)]
      omega
  | succ m ih =>
    intro i im S μ h1 h2 h3 h4
    obtain ⟨kp, t, q, hI⟩ := h4
    refine X_iload_n (tk_L.at 10 rfl) rfl ?_
    refine X_aload_n (tk_L.at 11 rfl) rfl ?_
    refine X_lenS (tk_L.at 12 rfl) hs ?_
    refine X_bipush (tk_L.at 13 rfl) cb_6 ?_
    refine X_isub (tk_L.at 14 rfl) ?_
    refine X_icmp_gt (tgt := 1747) (tk_L.at 15 rfl) (by decide) (fun _ => ?_) (fun h => ?_)
    · refine X_iconst (tk_L.at 24 rfl) ci_1 ?_
      exact X_ireturn (mi := mi_L) (ty := .boolean) (K := fun r _ _ => r = 1) (tk_L.at 25 rfl) rfl rfl rfl
    · have hi : i + 6 ≤ L := by
        rw [Int32.lt_iff_toInt_lt, show (6 : Int32) = nI 6 from rfl, pk_sub_toInt (by omega) (by omega), nI_toInt (by omega)] at h
        omega
      refine X_ofH ?_
      refine XH_aload_n (tk_L.at 16 rfl) rfl ?_
      refine XH_iload_n (tk_L.at 17 rfl) rfl ?_
      refine XH_scr (tk_L.at 18 rfl) hs (pl i rfl) (by omega) hL ?_
      refine XH_of ?_
      refine X_bipush (tk_L.at 19 rfl) cb_63 ?_
      refine X_iand (tk_L.at 20 rfl) ?_
      obtain ⟨k, hk, ek⟩ := and63 (xs i)
      rw [show 32 * (m + 1) = 32 + 32 * m by omega]
      refine L_sw (n := 32 * m) hs hL hi (by omega) hF hI (fun S1 μ1 hN => ?_) k hk ek
      obtain ⟨kp1, t1, q1, im1, him, hI1⟩ := hN
      refine X_iinc (lv' := lvL b P o (i + 6)) (tk_L.at 22 rfl) rfl ci_6 (by decide) rfl (by rw [show lvL b P o (i + 6) = [(0, .ref b), (1, .ref P), (2, .ref o), (3, .int (nI i + 6))] from by rw [show nI i + 6 = nI (i + 6) from nI_add i 6]]; rfl) ?_
      refine X_goto (tgt := 18) (tk_L.at 23 rfl) (by decide) ?_
      exact ih (i + 6) im1 S1 μ1 (by omega) (by omega) (by omega) ⟨kp1, t1, q1, hI1⟩
