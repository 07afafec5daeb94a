set_option maxHeartbeats 1000000 in
theorem pxl_5 {G : Gl} {S : Sh} {μ : Mu} {o n : Nat} {q : Nat → Nat} {nm : Int32 → Int32} {f : Nat} (hM : MS S o q) (h5 : μ (o + 1) 5 = nI n) (hn : n ≤ 50) {fm u t nb : Nat} (hF : Fmt G fm) (hu : μ o 9 = nI u) (hu2 : u < 2) (ha0 : S.2 (q u) = some (kT t)) (hb0t : S.2 (G.2.2.2 (t + 20)) = some (kB nb)) (hnb : nb < 2 ^ 31) (hnm : ∀ c, nmf (μ (G.2.2.2 (t + 20))) c nb = nm c) (ih : RdOK G S μ o n nm f) (op : Nat) (s : Ps) (D : Nat) (K : Sh → Mu → Prop) (hop : op ≤ 5) (hs : s.1 ≤ n) (hc : s.2.2.1 ≤ s.1) (hm : 20 * (n - s.1) + 2 * (6 - 5) < f + 1) (hD : 6 * (5 - op) + (5 - 5) + 8 ≤ D) (hK : K S (PM μ o op (pF (fun k => μ (o + 1) (140 + k)) n nm (f + 1) 0 5 op s))) : X G mi_X10_one D 0 0 [(0, .ref o)] [] S (PM μ o op s) (qv K) := by
  obtain ⟨D, rfl⟩ : ∃ D', D = D' + 8 := ⟨D - 8, by omega⟩
  have na1 : G.2.2.2 (t + 20) ≠ o := fun e => by rw [e, hM.f0] at hb0t; cases hb0t
  have na2 : G.2.2.2 (t + 20) ≠ o + 6 := fun e => by rw [e, hM.f6] at hb0t; cases hb0t
  have hbl := bN_le s.2.1
  refine X_aload_n (tk_X10_one.at 0 rfl) rfl ?_
  refine X_cV0i (lv2 := [(0, _)]) (tk_X10_one.at 1 rfl) mv_X10_here lk_x10_193 np_X10_here hM.f0 (by decide) rfl (Nat.le_of_ble_eq_true rfl) (Nat.le_of_ble_eq_true rfl) rfl (c10_here hM h5 hn hs ?_)
  refine X_istore_n (lv' := [(0, _), (1, _)]) (tk_X10_one.at 2 rfl) (by decide) rfl rfl ?_
  refine X_iload_n (tk_X10_one.at 3 rfl) rfl ?_
  refine X_bipush (tk_X10_one.at 4 rfl) cb_33 ?_
  refine X_icmp_eq (tgt := 17) (tk_X10_one.at 5 rfl) (by decide) (fun c1 => ?_) (fun c1 => ?_)
  · have hc33 : (hr (fun k => μ (o + 1) (140 + k)) n s) = 33 := c1
    have hi := hr_in (T := (fun k => μ (o + 1) (140 + k))) (n := n) (s := s) (by rw [hc33]; decide)
    have hi2 := hi.2
    have hb0 : bN s.2.1 = 0 := by rw [hi.1]; rfl
    have a1 : (ad s).1 = s.1 + 1 := rfl
    have a2 : (ad s).2.2.1 = s.2.2.1 := rfl
    have ha : (ad s).1 ≤ n := hi2
    have hca : (ad s).2.2.1 ≤ (ad s).1 := by omega
    refine X_aload_n (tk_X10_one.at 9 rfl) rfl ?_
    refine X_aload_n (tk_X10_one.at 10 rfl) rfl ?_
    refine X_getI (tk_X10_one.at 11 rfl) fl_x10_231 hM.f0 rfl ?_
    refine X_iconst (tk_X10_one.at 12 rfl) ci_5 ?_
    refine X_icmp_neN (tgt := 30) (tk_X10_one.at 13 rfl) (by decide) PM8 (pl 5 rfl) (by omega) (by omega) (fun c1 => ?_) (fun c1 => ?_)
    · refine X_iconst (tk_X10_one.at 16 rfl) ci_0 ?_
      refine X_putI (tk_X10_one.at 17 rfl) fl_x10_186 hM.f0 rfl rfl ⟨rfl, rfl⟩ ?_
      rw [show su (PM μ o op s) o 10 0 = PM μ o op s from by rw [show (0 : Int32) = nI (bN false) from rfl, PM_10]; rw [← hi.1]]
      have h5n : ¬ op = 5 := by omega
      have hop1 : op + 1 ≤ 5 := by omega
      refine X_aload_n (tk_X10_one.at 18 rfl) rfl ?_
      refine X_getI (tk_X10_one.at 19 rfl) fl_x10_186 hM.f0 rfl ?_
      refine X_if_neN (tgt := 247) (tk_X10_one.at 20 rfl) (by decide) PM10 (by omega) (fun c1 => (by contradiction)) (fun c1 => ?_)
      refine X_aload_n (tk_X10_one.at 21 rfl) rfl ?_
      refine X_dup (tk_X10_one.at 22 rfl) rfl ?_
      refine X_getI (tk_X10_one.at 23 rfl) fl_x10_231 hM.f0 rfl ?_
      refine X_iconst (tk_X10_one.at 24 rfl) ci_1 ?_
      refine X_iadd (tk_X10_one.at 25 rfl) ?_
      refine X_putI (tk_X10_one.at 26 rfl) fl_x10_231 hM.f0 rfl rfl ⟨rfl, rfl⟩ ?_
      rw [PM8, nI_1, PM_8]
      refine X_aload_n (tk_X10_one.at 27 rfl) rfl ?_
      refine X_dup (tk_X10_one.at 28 rfl) rfl ?_
      refine X_getI (tk_X10_one.at 29 rfl) fl_x10_190 hM.f0 rfl ?_
      refine X_iconst (tk_X10_one.at 30 rfl) ci_1 ?_
      refine X_iadd (tk_X10_one.at 31 rfl) ?_
      refine X_putI (tk_X10_one.at 32 rfl) fl_x10_190 hM.f0 rfl rfl ⟨rfl, rfl⟩ ?_
      rw [PM7, nI_1, PM_7]
      rw [show ((s.1 + 1, s.2) : Ps) = ad s from rfl]
      refine X_iload_n (tk_X10_one.at 33 rfl) rfl ?_
      refine X_bipush (tk_X10_one.at 34 rfl) cb_33 ?_
      refine X_icmp_ne (tgt := 81) (tk_X10_one.at 35 rfl) (by decide) (fun c2 => (by contradiction)) (fun c2 => ?_)
      refine X_aload_n (tk_X10_one.at 36 rfl) rfl ?_
      refine X_cV0v (lv2 := [(0, _)]) (tk_X10_one.at 37 rfl) mv_X10_one lk_x10_218 np_X10_one hM.f0 (by decide) rfl (Nat.le_of_ble_eq_true rfl) (Nat.le_of_ble_eq_true rfl) rfl (ih.1 5 (op + 1) (ad s) _ _ (by decide) hop1 ha hca (by omega) (by omega) ?_)
      have g := pF_g (T := (fun k => μ (o + 1) (140 + k))) (nm := nm) f 0 5 (op + 1) (ad s) ha (by decide)
      obtain ⟨g1, g2, g3⟩ := g
      refine X_aload_n (tk_X10_one.at 38 rfl) rfl ?_
      refine X_sipush (tk_X10_one.at 39 rfl) cs_20010 ?_
      refine X_cV1v (lv2 := [(0, _), (1, _)]) (tk_X10_one.at 40 rfl) mv_X10_codes lk_x10_206 np_X10_codes hM.f0 (by decide) rfl (Nat.le_of_ble_eq_true rfl) (Nat.le_of_ble_eq_true rfl) rfl (c10_codes (n := n) hM (by omega) ?_)
      have e1 := em_1 (s := pF (fun k => μ (o + 1) (140 + k)) n nm f 0 5 (op + 1) (ad s)) (v := 20010)
      have e2 := em_c (s := pF (fun k => μ (o + 1) (140 + k)) n nm f 0 5 (op + 1) (ad s)) (v := 20010)
      refine X_goto (tgt := 103) (tk_X10_one.at 41 rfl) (by decide) ?_
      refine X_aload_n (tk_X10_one.at 53 rfl) rfl ?_
      refine X_dup (tk_X10_one.at 54 rfl) rfl ?_
      refine X_getI (tk_X10_one.at 55 rfl) fl_x10_231 hM.f0 rfl ?_
      refine X_iconst (tk_X10_one.at 56 rfl) ci_1 ?_
      refine X_isub (tk_X10_one.at 57 rfl) ?_
      refine X_putI (tk_X10_one.at 58 rfl) fl_x10_231 hM.f0 rfl rfl ⟨rfl, rfl⟩ ?_
      rw [PM8, nI_pred, PM_8]
      refine X_goto (tgt := 247) (tk_X10_one.at 59 rfl) (by decide) ?_
      refine X_return (tk_X10_one.at 131 rfl) rfl ?_
      rw [pF_not hc33 h5n] at hK
      exact hK
    · refine X_iconst (tk_X10_one.at 14 rfl) ci_1 ?_
      refine X_goto (tgt := 31) (tk_X10_one.at 15 rfl) (by decide) ?_
      refine X_putI (tk_X10_one.at 17 rfl) fl_x10_186 hM.f0 rfl rfl ⟨rfl, rfl⟩ ?_
      rw [show su (PM μ o op s) o 10 1 = PM μ o op (bad s) from PM_10 (b := true)]
      have hb1 : ¬ bN (bad s).2.1 = 0 := by show ¬ bN true = 0; decide
      have hb2 := bN_le (bad s).2.1
      refine X_aload_n (tk_X10_one.at 18 rfl) rfl ?_
      refine X_getI (tk_X10_one.at 19 rfl) fl_x10_186 hM.f0 rfl ?_
      refine X_if_neN (tgt := 247) (tk_X10_one.at 20 rfl) (by decide) PM10 (by omega) (fun c1 => ?_) (fun c1 => (by contradiction))
      refine X_return (tk_X10_one.at 131 rfl) rfl ?_
      rw [pF_full (by first | exact Or.inl hc33 | exact Or.inr hc40) (by omega)] at hK
      exact hK
  · refine X_iload_n (tk_X10_one.at 6 rfl) rfl ?_
    refine X_bipush (tk_X10_one.at 7 rfl) cb_40 ?_
    refine X_icmp_ne (tgt := 116) (tk_X10_one.at 8 rfl) (by decide) (fun c2 => ?_) (fun c2 => ?_)
    · refine X_iload_n (tk_X10_one.at 60 rfl) rfl ?_
      refine X_bipush (tk_X10_one.at 61 rfl) cb_48 ?_
      refine X_bipush (tk_X10_one.at 62 rfl) cb_57 ?_
      refine X_cS3i (lv2 := [(0, _), (1, _), (2, _)]) (tk_X10_one.at 63 rfl) ms_X10_within lk_x10_69 np_X10_within (Nat.le_of_ble_eq_true rfl) (Nat.le_of_ble_eq_true rfl) rfl (c10_within (fun h121 h1121 => ?_) (fun h121 => ?_))
      · obtain ⟨ew121, lw121, bw121⟩ := le_lits (a := 48) (b := 57) (by decide) h121 h1121 (by decide)
        refine X_if_eq (tgt := 187) (tk_X10_one.at 64 rfl) (by decide) (fun h => absurd h (by decide)) (fun _ => ?_)
        refine X_iconst (tk_X10_one.at 65 rfl) ci_0 ?_
        refine X_istore_n (lv' := [(0, _), (1, _), (2, _)]) (tk_X10_one.at 66 rfl) (by decide) rfl rfl ?_
        refine X_iconst (tk_X10_one.at 67 rfl) ci_0 ?_
        refine X_istore_n (lv' := [(0, _), (1, _), (2, _), (3, _)]) (tk_X10_one.at 68 rfl) (by decide) rfl rfl ?_
        have hd : 48 ≤ (hr (fun k => μ (o + 1) (140 + k)) n s) ∧ (hr (fun k => μ (o + 1) (140 + k)) n s) ≤ 57 := ⟨h121, h1121⟩
        rw [pF_num hd] at hK
        clear hd
        have loop : ∀ (m k : Nat) (s2 : Ps) (v : Int32), k + m = 4 → s2.1 ≤ n → s2.2.2.1 < 60 → K S (PM μ o op (em (num (fun k => μ (o + 1) (140 + k)) n m s2 v).1 (num (fun k => μ (o + 1) (140 + k)) n m s2 v).2)) → X G mi_X10_one (D + 8) 0 131 [(0, .ref o), (1, .int (hr (fun k => μ (o + 1) (140 + k)) n s)), (2, .int v), (3, .int (nI k))] [] S (PM μ o op s2) (qv K) := by
          intro m
          induction m with
          | zero =>
            intro k s2 v hk hs2 hc2 hq
            refine X_iload_n (tk_X10_one.at 69 rfl) rfl ?_
            refine X_iconst (tk_X10_one.at 70 rfl) ci_4 ?_
            refine X_icmp_geN (tgt := 179) (tk_X10_one.at 71 rfl) (by decide) (pl k rfl) (pl 4 rfl) (by omega) (by omega) (fun c1 => ?_) (fun c1 => (by exfalso; omega))
            refine X_aload_n (tk_X10_one.at 95 rfl) rfl ?_
            refine X_iload_n (tk_X10_one.at 96 rfl) rfl ?_
            refine X_cV1v (lv2 := [(0, _), (1, _)]) (tk_X10_one.at 97 rfl) mv_X10_codes lk_x10_206 np_X10_codes hM.f0 (by decide) rfl (Nat.le_of_ble_eq_true rfl) (Nat.le_of_ble_eq_true rfl) rfl (c10_codes (n := n) hM (by omega) ?_)
            refine X_goto (tgt := 247) (tk_X10_one.at 98 rfl) (by decide) ?_
            refine X_return (tk_X10_one.at 131 rfl) rfl ?_
            exact hq
          | succ m ihm =>
            intro k s2 v hk hs2 hc2 hq
            rw [num] at hq
            refine X_iload_n (tk_X10_one.at 69 rfl) rfl ?_
            refine X_iconst (tk_X10_one.at 70 rfl) ci_4 ?_
            refine X_icmp_geN (tgt := 179) (tk_X10_one.at 71 rfl) (by decide) (pl k rfl) (pl 4 rfl) (by omega) (by omega) (fun c1 => (by exfalso; omega)) (fun c1 => ?_)
            refine X_aload_n (tk_X10_one.at 72 rfl) rfl ?_
            refine X_cV0i (lv2 := [(0, _)]) (tk_X10_one.at 73 rfl) mv_X10_here lk_x10_193 np_X10_here hM.f0 (by decide) rfl (Nat.le_of_ble_eq_true rfl) (Nat.le_of_ble_eq_true rfl) rfl (c10_here hM h5 hn hs2 ?_)
            refine X_bipush (tk_X10_one.at 74 rfl) cb_48 ?_
            refine X_bipush (tk_X10_one.at 75 rfl) cb_57 ?_
            refine X_cS3i (lv2 := [(0, _), (1, _), (2, _)]) (tk_X10_one.at 76 rfl) ms_X10_within lk_x10_69 np_X10_within (Nat.le_of_ble_eq_true rfl) (Nat.le_of_ble_eq_true rfl) rfl (c10_within (fun h144 h1144 => ?_) (fun h144 => ?_))
            · obtain ⟨ew144, lw144, bw144⟩ := le_lits (a := 48) (b := 57) (by decide) h144 h1144 (by decide)
              refine X_if_eq (tgt := 179) (tk_X10_one.at 77 rfl) (by decide) (fun h => absurd h (by decide)) (fun _ => ?_)
              refine X_bipush (tk_X10_one.at 78 rfl) cb_10 ?_
              refine X_iload_n (tk_X10_one.at 79 rfl) rfl ?_
              refine X_imul (tk_X10_one.at 80 rfl) ?_
              refine X_aload_n (tk_X10_one.at 81 rfl) rfl ?_
              refine X_cV0i (lv2 := [(0, _)]) (tk_X10_one.at 82 rfl) mv_X10_here lk_x10_193 np_X10_here hM.f0 (by decide) rfl (Nat.le_of_ble_eq_true rfl) (Nat.le_of_ble_eq_true rfl) rfl (c10_here hM h5 hn hs2 ?_)
              refine X_iadd (tk_X10_one.at 83 rfl) ?_
              refine X_bipush (tk_X10_one.at 84 rfl) cb_48 ?_
              refine X_isub (tk_X10_one.at 85 rfl) ?_
              refine X_istore_n (lv' := [(0, _), (1, _), (2, _), (3, _)]) (tk_X10_one.at 86 rfl) (by decide) rfl rfl ?_
              refine X_aload_n (tk_X10_one.at 87 rfl) rfl ?_
              refine X_dup (tk_X10_one.at 88 rfl) rfl ?_
              refine X_getI (tk_X10_one.at 89 rfl) fl_x10_190 hM.f0 rfl ?_
              refine X_iconst (tk_X10_one.at 90 rfl) ci_1 ?_
              refine X_iadd (tk_X10_one.at 91 rfl) ?_
              refine X_putI (tk_X10_one.at 92 rfl) fl_x10_190 hM.f0 rfl rfl ⟨rfl, rfl⟩ ?_
              refine X_iinc (lv' := [(0, _), (1, _), (2, _), (3, _)]) (tk_X10_one.at 93 rfl) rfl ci_1 (by decide) rfl rfl ?_
              refine X_goto (tgt := 131) (tk_X10_one.at 94 rfl) (by decide) ?_
              have hi := hr_in (T := (fun k => μ (o + 1) (140 + k))) (n := n) (s := s2) (fun e => by rw [e] at h144; exact absurd h144 (by decide))
              rw [if_pos ⟨h144, h1144⟩] at hq
              rw [nI_1 k, PM7, nI_1 s2.1, PM_7]
              exact ihm (k + 1) (ad s2) _ (by omega) hi.2 hc2 hq
            · refine X_if_eq (tgt := 179) (tk_X10_one.at 77 rfl) (by decide) (fun _ => ?_) (fun h => absurd h (by decide))
              refine X_aload_n (tk_X10_one.at 95 rfl) rfl ?_
              refine X_iload_n (tk_X10_one.at 96 rfl) rfl ?_
              refine X_cV1v (lv2 := [(0, _), (1, _)]) (tk_X10_one.at 97 rfl) mv_X10_codes lk_x10_206 np_X10_codes hM.f0 (by decide) rfl (Nat.le_of_ble_eq_true rfl) (Nat.le_of_ble_eq_true rfl) rfl (c10_codes (n := n) hM (by omega) ?_)
              refine X_goto (tgt := 247) (tk_X10_one.at 98 rfl) (by decide) ?_
              refine X_return (tk_X10_one.at 131 rfl) rfl ?_
              rw [if_neg h144] at hq
              exact hq
        exact loop 4 0 s 0 rfl hs (by omega) hK
      · refine X_if_eq (tgt := 187) (tk_X10_one.at 64 rfl) (by decide) (fun _ => ?_) (fun h => absurd h (by decide))
        have hno : ¬ ((hr (fun k => μ (o + 1) (140 + k)) n s) = 33 ∨ (hr (fun k => μ (o + 1) (140 + k)) n s) = 40) := fun g => by rcases g with g | g; exact c1 g; exact c2 g
        have hnd := h121
        refine X_iload_n (tk_X10_one.at 99 rfl) rfl ?_
        refine X_if_ge (tgt := 195) (tk_X10_one.at 100 rfl) (by decide) (fun c5 => ?_) (fun c5 => ?_)
        · refine X_aload_n (tk_X10_one.at 103 rfl) rfl ?_
          refine X_iload_n (tk_X10_one.at 104 rfl) rfl ?_
          refine X_cV1i (lv2 := [(0, _), (1, _)]) (tk_X10_one.at 105 rfl) mv_X10_nameOf lk_x10_237 np_X10_nameOf hM.f0 (by decide) rfl (Nat.le_of_ble_eq_true rfl) (Nat.le_of_ble_eq_true rfl) rfl (c10_nameOf hM hF (PM9.trans hu) hu2 ha0 hb0t hnb ?_)
          rw [PMa na1 na2, hnm]
          have hi := hr_in (T := (fun k => μ (o + 1) (140 + k))) (n := n) (s := s) (fun e => by rw [e] at c5; exact absurd c5 (by decide))
          have hi2 := hi.2
          have hb0 : bN s.2.1 = 0 := by rw [hi.1]; rfl
          have hpos := c5
          refine X_istore_n (lv' := [(0, _), (1, _), (2, _)]) (tk_X10_one.at 106 rfl) (by decide) rfl rfl ?_
          refine X_aload_n (tk_X10_one.at 107 rfl) rfl ?_
          refine X_aload_n (tk_X10_one.at 108 rfl) rfl ?_
          refine X_getI (tk_X10_one.at 109 rfl) fl_x10_186 hM.f0 rfl ?_
          refine X_if_neN (tgt := 213) (tk_X10_one.at 110 rfl) (by decide) PM10 (by omega) (fun c1 => (by contradiction)) (fun c1 => ?_)
          refine X_iload_n (tk_X10_one.at 111 rfl) rfl ?_
          refine X_if_ge (tgt := 217) (tk_X10_one.at 112 rfl) (by decide) (fun c2 => ?_) (fun c2 => ?_)
          · refine X_iconst (tk_X10_one.at 115 rfl) ci_0 ?_
            refine X_putI (tk_X10_one.at 116 rfl) fl_x10_186 hM.f0 rfl rfl ⟨rfl, rfl⟩ ?_
            rw [show su (PM μ o op s) o 10 0 = PM μ o op s from by rw [show (0 : Int32) = nI (bN false) from rfl, PM_10]; rw [← hi.1]]
            have hok : ¬ ((hr (fun k => μ (o + 1) (140 + k)) n s) < 0 ∨ nm (hr (fun k => μ (o + 1) (140 + k)) n s) < 0) := fun g => by rcases g with g | g; exact absurd hpos (Int32.not_le.mpr g); exact absurd c2 (Int32.not_le.mpr g)
            refine X_aload_n (tk_X10_one.at 117 rfl) rfl ?_
            refine X_getI (tk_X10_one.at 118 rfl) fl_x10_186 hM.f0 rfl ?_
            refine X_if_neN (tgt := 247) (tk_X10_one.at 119 rfl) (by decide) PM10 (by omega) (fun c1 => (by contradiction)) (fun c1 => ?_)
            refine X_aload_n (tk_X10_one.at 120 rfl) rfl ?_
            refine X_sipush (tk_X10_one.at 121 rfl) cs_10000 ?_
            refine X_iload_n (tk_X10_one.at 122 rfl) rfl ?_
            refine X_iadd (tk_X10_one.at 123 rfl) ?_
            refine X_cV1v (lv2 := [(0, _), (1, _)]) (tk_X10_one.at 124 rfl) mv_X10_codes lk_x10_206 np_X10_codes hM.f0 (by decide) rfl (Nat.le_of_ble_eq_true rfl) (Nat.le_of_ble_eq_true rfl) rfl (c10_codes (n := n) hM (by omega) ?_)
            refine X_aload_n (tk_X10_one.at 125 rfl) rfl ?_
            refine X_dup (tk_X10_one.at 126 rfl) rfl ?_
            refine X_getI (tk_X10_one.at 127 rfl) fl_x10_190 hM.f0 rfl ?_
            refine X_iconst (tk_X10_one.at 128 rfl) ci_1 ?_
            refine X_iadd (tk_X10_one.at 129 rfl) ?_
            refine X_putI (tk_X10_one.at 130 rfl) fl_x10_190 hM.f0 rfl rfl ⟨rfl, rfl⟩ ?_
            rw [PM7, nI_1, PM_7]
            refine X_return (tk_X10_one.at 131 rfl) rfl ?_
            rw [pF_nam hno hnd hok] at hK
            exact hK
          · refine X_iconst (tk_X10_one.at 113 rfl) ci_1 ?_
            refine X_goto (tgt := 218) (tk_X10_one.at 114 rfl) (by decide) ?_
            refine X_putI (tk_X10_one.at 116 rfl) fl_x10_186 hM.f0 rfl rfl ⟨rfl, rfl⟩ ?_
            rw [show su (PM μ o op s) o 10 1 = PM μ o op (bad s) from PM_10 (b := true)]
            have hbad : (hr (fun k => μ (o + 1) (140 + k)) n s) < 0 ∨ nm (hr (fun k => μ (o + 1) (140 + k)) n s) < 0 := Or.inr (Int32.not_le.mp c2)
            have hb1 : ¬ bN (bad s).2.1 = 0 := by show ¬ bN true = 0; decide
            have hb2 := bN_le (bad s).2.1
            refine X_aload_n (tk_X10_one.at 117 rfl) rfl ?_
            refine X_getI (tk_X10_one.at 118 rfl) fl_x10_186 hM.f0 rfl ?_
            refine X_if_neN (tgt := 247) (tk_X10_one.at 119 rfl) (by decide) PM10 (by omega) (fun c1 => ?_) (fun c1 => (by contradiction))
            refine X_return (tk_X10_one.at 131 rfl) rfl ?_
            rw [pF_bad hno hnd hbad] at hK
            exact hK
        · refine X_iconst (tk_X10_one.at 101 rfl) ci_m1 ?_
          refine X_goto (tgt := 200) (tk_X10_one.at 102 rfl) (by decide) ?_
          have hneg : (hr (fun k => μ (o + 1) (140 + k)) n s) < 0 := Int32.not_le.mp c5
          refine X_istore_n (lv' := [(0, _), (1, _), (2, _)]) (tk_X10_one.at 106 rfl) (by decide) rfl rfl ?_
          refine X_aload_n (tk_X10_one.at 107 rfl) rfl ?_
          refine X_aload_n (tk_X10_one.at 108 rfl) rfl ?_
          refine X_getI (tk_X10_one.at 109 rfl) fl_x10_186 hM.f0 rfl ?_
          refine X_if_neN (tgt := 213) (tk_X10_one.at 110 rfl) (by decide) PM10 (by omega) (fun c1 => ?_) (fun c1 => ?_)
          · refine X_iconst (tk_X10_one.at 113 rfl) ci_1 ?_
            refine X_goto (tgt := 218) (tk_X10_one.at 114 rfl) (by decide) ?_
            refine X_putI (tk_X10_one.at 116 rfl) fl_x10_186 hM.f0 rfl rfl ⟨rfl, rfl⟩ ?_
            rw [show su (PM μ o op s) o 10 1 = PM μ o op (bad s) from PM_10 (b := true)]
            have hbad : (hr (fun k => μ (o + 1) (140 + k)) n s) < 0 ∨ nm (hr (fun k => μ (o + 1) (140 + k)) n s) < 0 := Or.inl hneg
            have hb1 : ¬ bN (bad s).2.1 = 0 := by show ¬ bN true = 0; decide
            have hb2 := bN_le (bad s).2.1
            refine X_aload_n (tk_X10_one.at 117 rfl) rfl ?_
            refine X_getI (tk_X10_one.at 118 rfl) fl_x10_186 hM.f0 rfl ?_
            refine X_if_neN (tgt := 247) (tk_X10_one.at 119 rfl) (by decide) PM10 (by omega) (fun c1 => ?_) (fun c1 => (by contradiction))
            refine X_return (tk_X10_one.at 131 rfl) rfl ?_
            rw [pF_bad hno hnd hbad] at hK
            exact hK
          · refine X_iload_n (tk_X10_one.at 111 rfl) rfl ?_
            refine X_if_ge (tgt := 217) (tk_X10_one.at 112 rfl) (by decide) (fun h => absurd h (by decide)) (fun _ => ?_)
            refine X_iconst (tk_X10_one.at 113 rfl) ci_1 ?_
            refine X_goto (tgt := 218) (tk_X10_one.at 114 rfl) (by decide) ?_
            refine X_putI (tk_X10_one.at 116 rfl) fl_x10_186 hM.f0 rfl rfl ⟨rfl, rfl⟩ ?_
            rw [show su (PM μ o op s) o 10 1 = PM μ o op (bad s) from PM_10 (b := true)]
            have hbad : (hr (fun k => μ (o + 1) (140 + k)) n s) < 0 ∨ nm (hr (fun k => μ (o + 1) (140 + k)) n s) < 0 := Or.inl hneg
            have hb1 : ¬ bN (bad s).2.1 = 0 := by show ¬ bN true = 0; decide
            have hb2 := bN_le (bad s).2.1
            refine X_aload_n (tk_X10_one.at 117 rfl) rfl ?_
            refine X_getI (tk_X10_one.at 118 rfl) fl_x10_186 hM.f0 rfl ?_
            refine X_if_neN (tgt := 247) (tk_X10_one.at 119 rfl) (by decide) PM10 (by omega) (fun c1 => ?_) (fun c1 => (by contradiction))
            refine X_return (tk_X10_one.at 131 rfl) rfl ?_
            rw [pF_bad hno hnd hbad] at hK
            exact hK
    · have hn33 : ¬ (hr (fun k => μ (o + 1) (140 + k)) n s) = 33 := c1
      have hc40 : (hr (fun k => μ (o + 1) (140 + k)) n s) = 40 := c2
      have hi := hr_in (T := (fun k => μ (o + 1) (140 + k))) (n := n) (s := s) (by rw [hc40]; decide)
      have hi2 := hi.2
      have hb0 : bN s.2.1 = 0 := by rw [hi.1]; rfl
      have a1 : (ad s).1 = s.1 + 1 := rfl
      have a2 : (ad s).2.2.1 = s.2.2.1 := rfl
      have ha : (ad s).1 ≤ n := hi2
      have hca : (ad s).2.2.1 ≤ (ad s).1 := by omega
      refine X_aload_n (tk_X10_one.at 9 rfl) rfl ?_
      refine X_aload_n (tk_X10_one.at 10 rfl) rfl ?_
      refine X_getI (tk_X10_one.at 11 rfl) fl_x10_231 hM.f0 rfl ?_
      refine X_iconst (tk_X10_one.at 12 rfl) ci_5 ?_
      refine X_icmp_neN (tgt := 30) (tk_X10_one.at 13 rfl) (by decide) PM8 (pl 5 rfl) (by omega) (by omega) (fun c1 => ?_) (fun c1 => ?_)
      · refine X_iconst (tk_X10_one.at 16 rfl) ci_0 ?_
        refine X_putI (tk_X10_one.at 17 rfl) fl_x10_186 hM.f0 rfl rfl ⟨rfl, rfl⟩ ?_
        rw [show su (PM μ o op s) o 10 0 = PM μ o op s from by rw [show (0 : Int32) = nI (bN false) from rfl, PM_10]; rw [← hi.1]]
        have h5n : ¬ op = 5 := by omega
        have hop1 : op + 1 ≤ 5 := by omega
        refine X_aload_n (tk_X10_one.at 18 rfl) rfl ?_
        refine X_getI (tk_X10_one.at 19 rfl) fl_x10_186 hM.f0 rfl ?_
        refine X_if_neN (tgt := 247) (tk_X10_one.at 20 rfl) (by decide) PM10 (by omega) (fun c1 => (by contradiction)) (fun c1 => ?_)
        refine X_aload_n (tk_X10_one.at 21 rfl) rfl ?_
        refine X_dup (tk_X10_one.at 22 rfl) rfl ?_
        refine X_getI (tk_X10_one.at 23 rfl) fl_x10_231 hM.f0 rfl ?_
        refine X_iconst (tk_X10_one.at 24 rfl) ci_1 ?_
        refine X_iadd (tk_X10_one.at 25 rfl) ?_
        refine X_putI (tk_X10_one.at 26 rfl) fl_x10_231 hM.f0 rfl rfl ⟨rfl, rfl⟩ ?_
        rw [PM8, nI_1, PM_8]
        refine X_aload_n (tk_X10_one.at 27 rfl) rfl ?_
        refine X_dup (tk_X10_one.at 28 rfl) rfl ?_
        refine X_getI (tk_X10_one.at 29 rfl) fl_x10_190 hM.f0 rfl ?_
        refine X_iconst (tk_X10_one.at 30 rfl) ci_1 ?_
        refine X_iadd (tk_X10_one.at 31 rfl) ?_
        refine X_putI (tk_X10_one.at 32 rfl) fl_x10_190 hM.f0 rfl rfl ⟨rfl, rfl⟩ ?_
        rw [PM7, nI_1, PM_7]
        rw [show ((s.1 + 1, s.2) : Ps) = ad s from rfl]
        refine X_iload_n (tk_X10_one.at 33 rfl) rfl ?_
        refine X_bipush (tk_X10_one.at 34 rfl) cb_33 ?_
        refine X_icmp_ne (tgt := 81) (tk_X10_one.at 35 rfl) (by decide) (fun c2 => ?_) (fun c2 => (by contradiction))
        refine X_aload_n (tk_X10_one.at 42 rfl) rfl ?_
        refine X_cV0v (lv2 := [(0, _)]) (tk_X10_one.at 43 rfl) mv_X10_either lk_x10_234 np_X10_either hM.f0 (by decide) rfl (Nat.le_of_ble_eq_true rfl) (Nat.le_of_ble_eq_true rfl) rfl (ih.1 0 (op + 1) (ad s) _ _ (by decide) hop1 ha hca (by omega) (by omega) ?_)
        have g := pF_g (T := (fun k => μ (o + 1) (140 + k))) (nm := nm) f 0 0 (op + 1) (ad s) ha (by decide)
        obtain ⟨g1, g2, g3⟩ := g
        refine X_aload_n (tk_X10_one.at 44 rfl) rfl ?_
        refine X_aload_n (tk_X10_one.at 45 rfl) rfl ?_
        refine X_bipush (tk_X10_one.at 46 rfl) cb_41 ?_
        refine X_cV1i (lv2 := [(0, _), (1, _)]) (tk_X10_one.at 47 rfl) mv_X10_takes lk_x10_203 np_X10_takes hM.f0 (by decide) rfl (Nat.le_of_ble_eq_true rfl) (Nat.le_of_ble_eq_true rfl) rfl (c10_takes hM h5 hn g2 (fun t89 => ?_) (fun t89 => ?_))
        · refine X_if_ne (tgt := 99) (tk_X10_one.at 48 rfl) (by decide) (fun _ => ?_) (fun h => absurd h (by decide))
          refine X_iconst (tk_X10_one.at 51 rfl) ci_0 ?_
          refine X_putI (tk_X10_one.at 52 rfl) fl_x10_186 hM.f0 rfl rfl ⟨rfl, rfl⟩ ?_
          have hi3 := hr_in (T := (fun k => μ (o + 1) (140 + k))) (n := n) (s := pF (fun k => μ (o + 1) (140 + k)) n nm f 0 0 (op + 1) (ad s)) (by rw [t89]; decide)
          rw [show su (PM μ o (op + 1) (ad (pF (fun k => μ (o + 1) (140 + k)) n nm f 0 0 (op + 1) (ad s)))) o 10 0 = PM μ o (op + 1) (ad (pF (fun k => μ (o + 1) (140 + k)) n nm f 0 0 (op + 1) (ad s))) from by rw [show (0 : Int32) = nI (bN false) from rfl, PM_10]; rw [← hi3.1]; rfl]
          refine X_aload_n (tk_X10_one.at 53 rfl) rfl ?_
          refine X_dup (tk_X10_one.at 54 rfl) rfl ?_
          refine X_getI (tk_X10_one.at 55 rfl) fl_x10_231 hM.f0 rfl ?_
          refine X_iconst (tk_X10_one.at 56 rfl) ci_1 ?_
          refine X_isub (tk_X10_one.at 57 rfl) ?_
          refine X_putI (tk_X10_one.at 58 rfl) fl_x10_231 hM.f0 rfl rfl ⟨rfl, rfl⟩ ?_
          rw [PM8, nI_pred, PM_8]
          refine X_goto (tgt := 247) (tk_X10_one.at 59 rfl) (by decide) ?_
          refine X_return (tk_X10_one.at 131 rfl) rfl ?_
          rw [pF_opn hc40 h5n] at hK
          unfold cl at hK
          rw [if_pos t89] at hK
          exact hK
        · refine X_if_ne (tgt := 99) (tk_X10_one.at 48 rfl) (by decide) (fun h => absurd h (by decide)) (fun _ => ?_)
          refine X_iconst (tk_X10_one.at 49 rfl) ci_1 ?_
          refine X_goto (tgt := 100) (tk_X10_one.at 50 rfl) (by decide) ?_
          refine X_putI (tk_X10_one.at 52 rfl) fl_x10_186 hM.f0 rfl rfl ⟨rfl, rfl⟩ ?_
          rw [show su (PM μ o (op + 1) (pF (fun k => μ (o + 1) (140 + k)) n nm f 0 0 (op + 1) (ad s))) o 10 1 = PM μ o (op + 1) (bad (pF (fun k => μ (o + 1) (140 + k)) n nm f 0 0 (op + 1) (ad s))) from PM_10 (b := true)]
          refine X_aload_n (tk_X10_one.at 53 rfl) rfl ?_
          refine X_dup (tk_X10_one.at 54 rfl) rfl ?_
          refine X_getI (tk_X10_one.at 55 rfl) fl_x10_231 hM.f0 rfl ?_
          refine X_iconst (tk_X10_one.at 56 rfl) ci_1 ?_
          refine X_isub (tk_X10_one.at 57 rfl) ?_
          refine X_putI (tk_X10_one.at 58 rfl) fl_x10_231 hM.f0 rfl rfl ⟨rfl, rfl⟩ ?_
          rw [PM8, nI_pred, PM_8]
          refine X_goto (tgt := 247) (tk_X10_one.at 59 rfl) (by decide) ?_
          refine X_return (tk_X10_one.at 131 rfl) rfl ?_
          rw [pF_opn hc40 h5n] at hK
          unfold cl at hK
          rw [if_neg t89] at hK
          exact hK
      · refine X_iconst (tk_X10_one.at 14 rfl) ci_1 ?_
        refine X_goto (tgt := 31) (tk_X10_one.at 15 rfl) (by decide) ?_
        refine X_putI (tk_X10_one.at 17 rfl) fl_x10_186 hM.f0 rfl rfl ⟨rfl, rfl⟩ ?_
        rw [show su (PM μ o op s) o 10 1 = PM μ o op (bad s) from PM_10 (b := true)]
        have hb1 : ¬ bN (bad s).2.1 = 0 := by show ¬ bN true = 0; decide
        have hb2 := bN_le (bad s).2.1
        refine X_aload_n (tk_X10_one.at 18 rfl) rfl ?_
        refine X_getI (tk_X10_one.at 19 rfl) fl_x10_186 hM.f0 rfl ?_
        refine X_if_neN (tgt := 247) (tk_X10_one.at 20 rfl) (by decide) PM10 (by omega) (fun c1 => ?_) (fun c1 => (by contradiction))
        refine X_return (tk_X10_one.at 131 rfl) rfl ?_
        rw [pF_full (by first | exact Or.inl hc33 | exact Or.inr hc40) (by omega)] at hK
        exact hK
set_option maxHeartbeats 1000000 in
theorem rd_ok {G : Gl} {S : Sh} {μ : Mu} {o n : Nat} {q : Nat → Nat} {nm : Int32 → Int32} (hM : MS S o q) (h5 : μ (o + 1) 5 = nI n) (hn : n ≤ 50) {fm u t nb : Nat} (hF : Fmt G fm) (hu : μ o 9 = nI u) (hu2 : u < 2) (ha0 : S.2 (q u) = some (kT t)) (hb0t : S.2 (G.2.2.2 (t + 20)) = some (kB nb)) (hnb : nb < 2 ^ 31) (hnm : ∀ c, nmf (μ (G.2.2.2 (t + 20))) c nb = nm c) : ∀ f, RdOK G S μ o n nm f
  | 0 => ⟨fun l op s D K _ _ _ _ h => absurd h (Nat.not_lt_zero _), fun op s D K rest _ _ _ h => absurd h (Nat.not_lt_zero _), fun op s D K rest _ _ _ h => absurd h (Nat.not_lt_zero _), fun op s D K rest _ _ _ h => absurd h (Nat.not_lt_zero _), fun op s D K rest _ _ _ h => absurd h (Nat.not_lt_zero _), fun op s D K rest _ _ _ h => absurd h (Nat.not_lt_zero _), fun op s D K rest _ _ _ h => absurd h (Nat.not_lt_zero _), fun op s D K rest _ _ _ h => absurd h (Nat.not_lt_zero _)⟩
  | f + 1 => by
    have ih := rd_ok hM h5 hn hF hu hu2 ha0 hb0t hnb hnm f
    refine ⟨fun l op s D K hl hop hs hc hm hD hK => ?_, fun op s D K rest hop hs hc hm hD hK => rxl_0_4 hM h5 hn ih op s D K rest hop hs hc hm hD hK, fun op s D K rest hop hs hc hm hD hK => rxl_1_4 hM h5 hn ih op s D K rest hop hs hc hm hD hK, fun op s D K rest hop hs hc hm hD hK => rxl_2_4 hM h5 hn ih op s D K rest hop hs hc hm hD hK, fun op s D K rest hop hs hc hm hD hK => rxl_3_4 hM h5 hn ih op s D K rest hop hs hc hm hD hK, fun op s D K rest hop hs hc hm hD hK => rxl_3_49 hM h5 hn ih op s D K rest hop hs hc hm hD hK, fun op s D K rest hop hs hc hm hD hK => rxl_4_4 hM h5 hn ih op s D K rest hop hs hc hm hD hK, fun op s D K rest hop hs hc hm hD hK => rxl_4_64 hM h5 hn ih op s D K rest hop hs hc hm hD hK⟩
    rcases (show l = 0 ∨ l = 1 ∨ l = 2 ∨ l = 3 ∨ l = 4 ∨ l = 5 by omega) with rfl | rfl | rfl | rfl | rfl | rfl
    · exact pxl_0 hM h5 hn ih op s D K hop hs hc hm hD hK
    · exact pxl_1 hM h5 hn ih op s D K hop hs hc hm hD hK
    · exact pxl_2 hM h5 hn ih op s D K hop hs hc hm hD hK
    · exact pxl_3 hM h5 hn ih op s D K hop hs hc hm hD hK
    · exact pxl_4 hM h5 hn ih op s D K hop hs hc hm hD hK
    · exact pxl_5 hM h5 hn hF hu hu2 ha0 hb0t hnb hnm ih op s D K hop hs hc hm hD hK
