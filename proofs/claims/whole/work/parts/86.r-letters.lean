def ltr (u i : Nat) : Nat := if u = 0 then ([119, 104, 98, 108, 115] : List Nat).getD i 0 else ([119, 100, 112, 110] : List Nat).getD i 0
/-- the two texts of names lie as they must -/
def TxB (G : Gl) (S : Sh) (μ : Mu) : Prop := ∀ u, u < 2 → S.2 (G.2.2.2 (11 + u)) = some (kT (11 + u)) ∧ S.2 (G.2.2.2 (11 + u + 20)) = some (kB (5 - u)) ∧ ∀ i, i < 5 - u → μ (G.2.2.2 (11 + u + 20)) i = nI (ltr u i)
theorem byt : ∀ u, u < 2 → ∀ i, i < 5 - u → ∀ m, m < 256 → ((nI (ltr u i) = (nI m).toInt8.toInt32) ↔ m = ltr u i) := by decide +kernel
theorem nmU_at : ∀ u, u < 2 → ∀ i, i < 5 - u → nmU u (nI (ltr u i)) = nI i := by decide
theorem nmU_no : ∀ u, u < 2 → ∀ m, m < 256 → (∀ j, j < 5 - u → m ≠ ltr u j) → nmU u (nI m) = -1 := by decide +kernel
theorem nmf_U {B : Nat → Int32} : ∀ u, u < 2 → (∀ i, i < 5 - u → B i = nI (ltr u i)) → ∀ c, nmf B c (5 - u) = nmU u c := by
  intro u hu h c
  rcases (show u = 0 ∨ u = 1 by omega) with e | e
  · subst e
    show nmf B c 5 = _
    rw [nmf, nmf, nmf, nmf, nmf, nmf, h 0 (by decide), h 1 (by decide), h 2 (by decide), h 3 (by decide), h 4 (by decide)]
    rfl
  · subst e
    show nmf B c 4 = _
    rw [nmf, nmf, nmf, nmf, nmf, h 0 (by decide), h 1 (by decide), h 2 (by decide), h 3 (by decide)]
    rfl
theorem TxB.txt {G : Gl} {S : Sh} {μ : Mu} (h : TxB G S μ) {q : Nat → Nat} (hq : ∀ u, u < 2 → q u = G.2.2.2 (11 + u)) : Txt G S μ q := fun u hu => ⟨by rw [hq u hu]; exact (h u hu).1, (h u hu).2.1, fun c => nmf_U u hu (h u hu).2.2 c⟩
set_option maxHeartbeats 1000000 in
theorem cj_canEnc {G : Gl} {d : Nat} {S : Sh} {μ : Mu} {x : Int32} {m : Nat} {K : Int32 → Sh → Mu → Prop} (hx : x = nI m) (hm : m < 256) (hK : K 1 S μ) : X G mi_J1_canEncode_9a6ad d 0 0 [(0, .int x)] [] S μ (qi K) := by
  refine X_iload_n (tk_J1_canEncode_9a6ad.at 0 rfl) rfl ?_
  refine X_if_ltN (tgt := 15) (tk_J1_canEncode_9a6ad.at 1 rfl) (by decide) hx (by omega) ?_
  refine X_iload_n (tk_J1_canEncode_9a6ad.at 2 rfl) rfl ?_
  refine X_sipush (tk_J1_canEncode_9a6ad.at 3 rfl) cs_255 ?_
  refine X_icmp_gtN (tgt := 15) (tk_J1_canEncode_9a6ad.at 4 rfl) (by decide) hx (pl 255 rfl) (by omega) (by omega) (fun c2 => (by exfalso; omega)) (fun c2 => ?_)
  refine X_iconst (tk_J1_canEncode_9a6ad.at 5 rfl) ci_1 ?_
  refine X_goto (tgt := 16) (tk_J1_canEncode_9a6ad.at 6 rfl) (by decide) ?_
  refine X_ireturn (tk_J1_canEncode_9a6ad.at 8 rfl) rfl rfl ?_
  exact hK
set_option maxHeartbeats 1000000 in
theorem cj_ixChar {G : Gl} {d : Nat} {S : Sh} {μ : Mu} {x : Int32} {u m : Nat} {K : Int32 → Sh → Mu → Prop} (hT : TxB G S μ) (hu : u < 2) (hx : x = nI m) (hm : m < 256) (hK : K (nmU u (nI m)) S μ) : X G mi_J1_indexOfChar_4cfef d 0 0 [(0, .ref (G.2.2.2 (11 + u + 20))), (1, .int x), (2, .int 0), (3, .int (nI (5 - u)))] [] S μ (qi K) := by
  have loop : ∀ (w i : Nat), i + w = 5 - u → (∀ j, j < i → m ≠ ltr u j) → X G mi_J1_indexOfChar_4cfef d 0 7 [(0, .ref (G.2.2.2 (11 + u + 20))), (1, .int x), (2, .int 0), (3, .int (nI (5 - u))), (4, .int (x.toInt8.toInt32)), (5, .int (nI i))] [] S μ (qi K) := by
    intro w
    induction w with
    | zero =>
      intro i hi hj
      refine X_iload (tk_J1_indexOfChar_4cfef.at 5 rfl) rfl ?_
      refine X_iload_n (tk_J1_indexOfChar_4cfef.at 6 rfl) rfl ?_
      refine X_icmp_geN (tgt := 31) (tk_J1_indexOfChar_4cfef.at 7 rfl) (by decide) (pl i rfl) (pl (5 - u) rfl) (by omega) (by omega) (fun c1 => ?_) (fun c1 => (by exfalso; omega))
      refine X_iconst (tk_J1_indexOfChar_4cfef.at 17 rfl) ci_m1 ?_
      refine X_ireturn (tk_J1_indexOfChar_4cfef.at 18 rfl) rfl rfl ?_
      rw [nmU_no u hu m hm (fun j h => hj j (by omega))] at hK
      exact hK
    | succ w ih =>
      intro i hi hj
      have hin : vp_in (nI i) (5 - u) := vp_in_nI (by omega) (by omega)
      have hb := byt u hu i (by omega) m hm
      refine X_iload (tk_J1_indexOfChar_4cfef.at 5 rfl) rfl ?_
      refine X_iload_n (tk_J1_indexOfChar_4cfef.at 6 rfl) rfl ?_
      refine X_icmp_geN (tgt := 31) (tk_J1_indexOfChar_4cfef.at 7 rfl) (by decide) (pl i rfl) (pl (5 - u) rfl) (by omega) (by omega) (fun c1 => (by exfalso; omega)) (fun c1 => ?_)
      refine X_aload_n (tk_J1_indexOfChar_4cfef.at 8 rfl) rfl ?_
      refine X_iload (tk_J1_indexOfChar_4cfef.at 9 rfl) rfl ?_
      refine X_bald (tk_J1_indexOfChar_4cfef.at 10 rfl) (hT u hu).2.1 hin ?_
      rw [show (nI i).toNatClampNeg = i from nv_nI (by omega), (hT u hu).2.2 i (by omega)]
      refine X_iload (tk_J1_indexOfChar_4cfef.at 11 rfl) rfl ?_
      refine X_icmp_ne (tgt := 25) (tk_J1_indexOfChar_4cfef.at 12 rfl) (by decide) (fun c2 => ?_) (fun c2 => ?_)
      · refine X_iinc (lv' := [(0, _), (1, _), (2, _), (3, _), (4, _), (5, _)]) (tk_J1_indexOfChar_4cfef.at 15 rfl) rfl ci_1 (by decide) rfl rfl ?_
        refine X_goto (tgt := 7) (tk_J1_indexOfChar_4cfef.at 16 rfl) (by decide) ?_
        rw [nI_1 i]
        refine ih (i + 1) (by omega) (fun j h => ?_)
        by_cases e : j = i
        · rw [e]; intro g; apply c2; rw [hx]; exact hb.mpr g
        · exact hj j (by omega)
      · refine X_iload (tk_J1_indexOfChar_4cfef.at 13 rfl) rfl ?_
        refine X_ireturn (tk_J1_indexOfChar_4cfef.at 14 rfl) rfl rfl ?_
        have e : m = ltr u i := hb.mp (by rw [← hx]; exact c2)
        rw [e, nmU_at u hu i (by omega)] at hK
        exact hK
  refine X_iload_n (tk_J1_indexOfChar_4cfef.at 0 rfl) rfl ?_
  refine X_i2b (tk_J1_indexOfChar_4cfef.at 1 rfl) ?_
  refine X_istore (lv' := [(0, _), (1, _), (2, _), (3, _), (4, _)]) (tk_J1_indexOfChar_4cfef.at 2 rfl) (by decide) rfl rfl ?_
  refine X_iload_n (tk_J1_indexOfChar_4cfef.at 3 rfl) rfl ?_
  refine X_istore (lv' := [(0, _), (1, _), (2, _), (3, _), (4, _), (5, _)]) (tk_J1_indexOfChar_4cfef.at 4 rfl) (by decide) rfl rfl ?_
  exact loop (5 - u) 0 (Nat.zero_add _) (fun j h => absurd h (Nat.not_lt_zero j))
set_option maxHeartbeats 1000000 in
theorem cj_ixL {G : Gl} {d : Nat} {S : Sh} {μ : Mu} {x : Int32} {u m : Nat} {K : Int32 → Sh → Mu → Prop} (hT : TxB G S μ) (hu : u < 2) (hx : x = nI m) (hm : m < 256) (hK : K (nmU u (nI m)) S μ) : X G mi_J1_indexOf_4cfef (d + 1) 0 0 [(0, .ref (G.2.2.2 (11 + u + 20))), (1, .int x), (2, .int 0), (3, .int (nI (5 - u)))] [] S μ (qi K) := by
  refine X_iload_n (tk_J1_indexOf_4cfef.at 0 rfl) rfl ?_
  refine X_cS1i (lv2 := [(0, _)]) (tk_J1_indexOf_4cfef.at 1 rfl) ms_J1_canEncode_9a6ad lk_rj1_88 np_J1_canEncode_9a6ad (Nat.le_of_ble_eq_true rfl) (Nat.le_of_ble_eq_true rfl) rfl (cj_canEnc hx hm ?_)
  refine X_if_ne (tgt := 9) (tk_J1_indexOf_4cfef.at 2 rfl) (by decide) (fun _ => ?_) (fun h => absurd h (by decide))
  refine X_iload_n (tk_J1_indexOf_4cfef.at 5 rfl) rfl ?_
  refine X_iconst (tk_J1_indexOf_4cfef.at 6 rfl) ci_0 ?_
  refine X_max (tk_J1_indexOf_4cfef.at 7 rfl) lk_rj1_92 (Nat.le_of_ble_eq_true rfl) ?_
  rw [show (if (0 : Int32) < 0 then (0 : Int32) else 0) = 0 from rfl]
  refine X_istore_n (lv' := [(0, _), (1, _), (2, _), (3, _)]) (tk_J1_indexOf_4cfef.at 8 rfl) (by decide) rfl rfl ?_
  refine X_iload_n (tk_J1_indexOf_4cfef.at 9 rfl) rfl ?_
  refine X_aload_n (tk_J1_indexOf_4cfef.at 10 rfl) rfl ?_
  refine X_alenB (tk_J1_indexOf_4cfef.at 11 rfl) (hT u hu).2.1 ?_
  refine X_min (tk_J1_indexOf_4cfef.at 12 rfl) lk_rj1_38 (Nat.le_of_ble_eq_true rfl) ?_
  rw [show (if nI (5 - u) < nI (5 - u) then nI (5 - u) else nI (5 - u)) = nI (5 - u) from ite_self _]
  refine X_istore_n (lv' := [(0, _), (1, _), (2, _), (3, _)]) (tk_J1_indexOf_4cfef.at 13 rfl) (by decide) rfl rfl ?_
  refine X_iload_n (tk_J1_indexOf_4cfef.at 14 rfl) rfl ?_
  refine X_iload_n (tk_J1_indexOf_4cfef.at 15 rfl) rfl ?_
  refine X_icmp_ltN (tgt := 29) (tk_J1_indexOf_4cfef.at 16 rfl) (by decide) (pl 0 rfl) (pl (5 - u) rfl) (by omega) (by omega) (fun c2 => ?_) (fun c2 => (by exfalso; omega))
  refine X_aload_n (tk_J1_indexOf_4cfef.at 19 rfl) rfl ?_
  refine X_iload_n (tk_J1_indexOf_4cfef.at 20 rfl) rfl ?_
  refine X_iload_n (tk_J1_indexOf_4cfef.at 21 rfl) rfl ?_
  refine X_iload_n (tk_J1_indexOf_4cfef.at 22 rfl) rfl ?_
  refine X_cS4i (lv2 := [(0, _), (1, _), (2, _), (3, _)]) (tk_J1_indexOf_4cfef.at 23 rfl) ms_J1_indexOfChar_4cfef lk_rj1_95 np_J1_indexOfChar_4cfef (Nat.le_of_ble_eq_true rfl) (Nat.le_of_ble_eq_true rfl) rfl (cj_ixChar hT hu hx hm ?_)
  refine X_ireturn (tk_J1_indexOf_4cfef.at 24 rfl) rfl rfl ?_
  exact hK
set_option maxHeartbeats 1000000 in
theorem cj_ix2 {G : Gl} {d : Nat} {S : Sh} {μ : Mu} {x : Int32} {u m : Nat} {K : Int32 → Sh → Mu → Prop} (hT : TxB G S μ) (hu : u < 2) (hx : x = nI m) (hm : m < 256) (hK : K (nmU u (nI m)) S μ) : X G mi_J0_indexOf_7cf53 (d + 2) 0 0 [(0, .ref (G.2.2.2 (11 + u))), (1, .int x), (2, .int 0)] [] S μ (qi K) := by
  refine X_aload_n (tk_J0_indexOf_7cf53.at 0 rfl) rfl ?_
  refine X_cT0i (lv2 := [(0, _)]) (tk_J0_indexOf_7cf53.at 1 rfl) mv_J0_isLatin1_aae02 lk_rj0_492 np_J0_isLatin1_aae02 (hT u hu).1 rfl (Nat.le_of_ble_eq_true rfl) (Nat.le_of_ble_eq_true rfl) rfl (cj_isLatin1 (hT u hu).1 ?_)
  refine X_if_eq (tgt := 23) (tk_J0_indexOf_7cf53.at 2 rfl) (by decide) (fun h => absurd h (by decide)) (fun _ => ?_)
  refine X_aload_n (tk_J0_indexOf_7cf53.at 3 rfl) rfl ?_
  refine X_getT (tk_J0_indexOf_7cf53.at 4 rfl) ft_9 (hT u hu).1 ?_
  refine X_iload_n (tk_J0_indexOf_7cf53.at 5 rfl) rfl ?_
  refine X_iload_n (tk_J0_indexOf_7cf53.at 6 rfl) rfl ?_
  refine X_aload_n (tk_J0_indexOf_7cf53.at 7 rfl) rfl ?_
  refine X_cT0i (lv2 := [(0, _)]) (tk_J0_indexOf_7cf53.at 8 rfl) mv_J0_length_8abf5 lk_rj0_505 np_J0_length_8abf5 (hT u hu).1 rfl (Nat.le_of_ble_eq_true rfl) (Nat.le_of_ble_eq_true rfl) rfl (cj_length (hT u hu).1 (hT u hu).2.1 ?_)
  refine X_cS4i (lv2 := [(0, _), (1, _), (2, _), (3, _)]) (tk_J0_indexOf_7cf53.at 9 rfl) ms_J1_indexOf_4cfef lk_rj0_637 np_J1_indexOf_4cfef (Nat.le_of_ble_eq_true rfl) (Nat.le_of_ble_eq_true rfl) rfl (cj_ixL hT hu hx hm ?_)
  refine X_goto (tgt := 36) (tk_J0_indexOf_7cf53.at 10 rfl) (by decide) ?_
  refine X_ireturn (tk_J0_indexOf_7cf53.at 18 rfl) rfl rfl ?_
  exact hK
set_option maxHeartbeats 1000000 in
theorem cj_indexOf {G : Gl} {d : Nat} {S : Sh} {μ : Mu} {x : Int32} {u m : Nat} {K : Int32 → Sh → Mu → Prop} (hT : TxB G S μ) (hu : u < 2) (hx : x = nI m) (hm : m < 256) (hK : K (nmU u (nI m)) S μ) : X G mi_J0_indexOf_0f7a4 (d + 3) 0 0 [(0, .ref (G.2.2.2 (11 + u))), (1, .int x)] [] S μ (qi K) := by
  refine X_aload_n (tk_J0_indexOf_0f7a4.at 0 rfl) rfl ?_
  refine X_iload_n (tk_J0_indexOf_0f7a4.at 1 rfl) rfl ?_
  refine X_iconst (tk_J0_indexOf_0f7a4.at 2 rfl) ci_0 ?_
  refine X_cT2i (lv2 := [(0, _), (1, _), (2, _)]) (tk_J0_indexOf_0f7a4.at 3 rfl) mv_J0_indexOf_7cf53 lk_rj0_633 np_J0_indexOf_7cf53 (hT u hu).1 rfl (Nat.le_of_ble_eq_true rfl) (Nat.le_of_ble_eq_true rfl) rfl (cj_ix2 hT hu hx hm ?_)
  refine X_ireturn (tk_J0_indexOf_0f7a4.at 4 rfl) rfl rfl ?_
  exact hK
