set_option maxHeartbeats 1000000 in
theorem c10_here {G : Gl} {d : Nat} {S : Sh} {μ : Mu} {o : Nat} {q : Nat → Nat} {n op : Nat} {s : Ps} {K : Int32 → Sh → Mu → Prop} (hM : MS S o q) (h5 : μ (o + 1) 5 = nI n) (hn : n ≤ 50) (hs : s.1 ≤ n) (hK : K (hr (fun k => μ (o + 1) (140 + k)) n s) S (PM μ o op s)) : X G mi_X10_here d 0 0 [(0, .ref o)] [] S (PM μ o op s) (qi K) := by
  have hb := bN_le s.2.1
  refine X_aload_n (tk_X10_here.at 0 rfl) rfl ?_
  refine X_getI (tk_X10_here.at 1 rfl) fl_x10_186 hM.f0 rfl ?_
  refine X_if_neN (tgt := 36) (tk_X10_here.at 2 rfl) (by decide) PM10 (by omega) (fun c1 => ?_) (fun c1 => ?_)
  · refine X_iconst (tk_X10_here.at 18 rfl) ci_m1 ?_
    refine X_ireturn (tk_X10_here.at 19 rfl) rfl rfl ?_
    rw [hr_w (bN_1 c1)] at hK
    exact hK
  · refine X_aload_n (tk_X10_here.at 3 rfl) rfl ?_
    refine X_getI (tk_X10_here.at 4 rfl) fl_x10_190 hM.f0 rfl ?_
    refine X_aload_n (tk_X10_here.at 5 rfl) rfl ?_
    refine X_getR (tk_X10_here.at 6 rfl) fl_x10_9 hM.f0 rfl rfl ?_
    refine X_iconst (tk_X10_here.at 7 rfl) ci_5 ?_
    refine X_ialdN (k := 5) (tk_X10_here.at 8 rfl) hM.f1 (pz (pl 5 rfl) (by omega)) (by omega) (by decide) ?_
    refine X_icmp_geN (tgt := 36) (tk_X10_here.at 9 rfl) (by decide) PM7 (show (PM μ o op s) (o + 1) 5 = nI n by rw [PM1]; exact h5) (by omega) (by omega) (fun c2 => ?_) (fun c2 => ?_)
    · refine X_iconst (tk_X10_here.at 18 rfl) ci_m1 ?_
      refine X_ireturn (tk_X10_here.at 19 rfl) rfl rfl ?_
      rw [hr_e c2] at hK
      exact hK
    · refine X_aload_n (tk_X10_here.at 10 rfl) rfl ?_
      refine X_getR (tk_X10_here.at 11 rfl) fl_x10_9 hM.f0 rfl rfl ?_
      refine X_sipush (tk_X10_here.at 12 rfl) cs_140 ?_
      refine X_aload_n (tk_X10_here.at 13 rfl) rfl ?_
      refine X_getI (tk_X10_here.at 14 rfl) fl_x10_190 hM.f0 rfl ?_
      refine X_iadd (tk_X10_here.at 15 rfl) ?_
      refine X_ialdN (k := 140 + s.1) (tk_X10_here.at 16 rfl) hM.f1 (pz (pa (pl 140 rfl) PM7) (by omega)) (by omega) (by decide) ?_
      refine X_goto (tgt := 37) (tk_X10_here.at 17 rfl) (by decide) ?_
      refine X_ireturn (tk_X10_here.at 19 rfl) rfl rfl ?_
      rw [hr_v (bN_0 c1) c2] at hK
      rw [PM1]
      exact hK
set_option maxHeartbeats 1000000 in
theorem c10_takes {G : Gl} {d : Nat} {S : Sh} {μ : Mu} {o : Nat} {q : Nat → Nat} {n op : Nat} {s : Ps} {c : Int32} {K : Int32 → Sh → Mu → Prop} (hM : MS S o q) (h5 : μ (o + 1) 5 = nI n) (hn : n ≤ 50) (hs : s.1 ≤ n) (kt : hr (fun k => μ (o + 1) (140 + k)) n s = c → K 1 S (PM μ o op (ad s))) (kf : ¬ hr (fun k => μ (o + 1) (140 + k)) n s = c → K 0 S (PM μ o op s)) : X G mi_X10_takes (d + 1) 0 0 [(0, .ref o), (1, .int c)] [] S (PM μ o op s) (qi K) := by
  refine X_aload_n (tk_X10_takes.at 0 rfl) rfl ?_
  refine X_cV0i (lv2 := [(0, _)]) (tk_X10_takes.at 1 rfl) mv_X10_here lk_x10_193 np_X10_here hM.f0 (by decide) rfl (Nat.le_of_ble_eq_true rfl) (Nat.le_of_ble_eq_true rfl) rfl (c10_here hM h5 hn hs ?_)
  refine X_iload_n (tk_X10_takes.at 2 rfl) rfl ?_
  refine X_icmp_ne (tgt := 12) (tk_X10_takes.at 3 rfl) (by decide) (fun c1 => ?_) (fun c1 => ?_)
  · refine X_iconst (tk_X10_takes.at 6 rfl) ci_0 ?_
    refine X_istore_n (lv' := [(0, _), (1, _), (2, _)]) (tk_X10_takes.at 7 rfl) (by decide) rfl rfl ?_
    refine X_aload_n (tk_X10_takes.at 8 rfl) rfl ?_
    refine X_dup (tk_X10_takes.at 9 rfl) rfl ?_
    refine X_getI (tk_X10_takes.at 10 rfl) fl_x10_190 hM.f0 rfl ?_
    refine X_iload_n (tk_X10_takes.at 11 rfl) rfl ?_
    refine X_if_eq (tgt := 27) (tk_X10_takes.at 12 rfl) (by decide) (fun _ => ?_) (fun h => absurd h (by decide))
    refine X_iconst (tk_X10_takes.at 15 rfl) ci_0 ?_
    refine X_iadd (tk_X10_takes.at 16 rfl) ?_
    refine X_putI (tk_X10_takes.at 17 rfl) fl_x10_190 hM.f0 rfl rfl ⟨rfl, rfl⟩ ?_
    refine X_iload_n (tk_X10_takes.at 18 rfl) rfl ?_
    refine X_ireturn (tk_X10_takes.at 19 rfl) rfl rfl ?_
    rw [PM7, show nI s.1 + 0 = nI s.1 from Int32.add_zero _, PM_7]
    exact kf c1
  · refine X_iconst (tk_X10_takes.at 4 rfl) ci_1 ?_
    refine X_goto (tgt := 13) (tk_X10_takes.at 5 rfl) (by decide) ?_
    refine X_istore_n (lv' := [(0, _), (1, _), (2, _)]) (tk_X10_takes.at 7 rfl) (by decide) rfl rfl ?_
    refine X_aload_n (tk_X10_takes.at 8 rfl) rfl ?_
    refine X_dup (tk_X10_takes.at 9 rfl) rfl ?_
    refine X_getI (tk_X10_takes.at 10 rfl) fl_x10_190 hM.f0 rfl ?_
    refine X_iload_n (tk_X10_takes.at 11 rfl) rfl ?_
    refine X_if_eq (tgt := 27) (tk_X10_takes.at 12 rfl) (by decide) (fun h => absurd h (by decide)) (fun _ => ?_)
    refine X_iconst (tk_X10_takes.at 13 rfl) ci_1 ?_
    refine X_goto (tgt := 28) (tk_X10_takes.at 14 rfl) (by decide) ?_
    refine X_iadd (tk_X10_takes.at 16 rfl) ?_
    refine X_putI (tk_X10_takes.at 17 rfl) fl_x10_190 hM.f0 rfl rfl ⟨rfl, rfl⟩ ?_
    refine X_iload_n (tk_X10_takes.at 18 rfl) rfl ?_
    refine X_ireturn (tk_X10_takes.at 19 rfl) rfl rfl ?_
    rw [PM7, nI_1, PM_7]
    exact kt c1
set_option maxHeartbeats 1000000 in
theorem c10_codes {G : Gl} {d : Nat} {S : Sh} {μ : Mu} {o : Nat} {q : Nat → Nat} {n op : Nat} {s : Ps} {v : Int32} {K : Sh → Mu → Prop} (hM : MS S o q) (hc : s.2.2.1 < 60) (hK : K S (PM μ o op (em s v))) : X G mi_X10_codes d 0 0 [(0, .ref o), (1, .int v)] [] S (PM μ o op s) (qv K) := by
  have hb := bN_le s.2.1
  refine X_aload_n (tk_X10_codes.at 0 rfl) rfl ?_
  refine X_getI (tk_X10_codes.at 1 rfl) fl_x10_186 hM.f0 rfl ?_
  refine X_if_neN (tgt := 27) (tk_X10_codes.at 2 rfl) (by decide) PM10 (by omega) (fun c1 => ?_) (fun c1 => ?_)
  · refine X_return (tk_X10_codes.at 15 rfl) rfl ?_
    rw [em_w (bN_1 c1)] at hK
    exact hK
  · refine X_aload_n (tk_X10_codes.at 3 rfl) rfl ?_
    refine X_getR (tk_X10_codes.at 4 rfl) fl_x10_32 hM.f0 rfl rfl ?_
    refine X_aload_n (tk_X10_codes.at 5 rfl) rfl ?_
    refine X_getI (tk_X10_codes.at 6 rfl) fl_x10_197 hM.f0 rfl ?_
    refine X_iload_n (tk_X10_codes.at 7 rfl) rfl ?_
    refine X_iastN (k := s.2.2.1) (tk_X10_codes.at 8 rfl) hM.f6 PM12 (by omega) (by decide) ?_
    refine X_aload_n (tk_X10_codes.at 9 rfl) rfl ?_
    refine X_dup (tk_X10_codes.at 10 rfl) rfl ?_
    refine X_getI (tk_X10_codes.at 11 rfl) fl_x10_197 hM.f0 rfl ?_
    refine X_iconst (tk_X10_codes.at 12 rfl) ci_1 ?_
    refine X_iadd (tk_X10_codes.at 13 rfl) ?_
    refine X_putI (tk_X10_codes.at 14 rfl) fl_x10_197 hM.f0 rfl rfl ⟨rfl, rfl⟩ ?_
    refine X_return (tk_X10_codes.at 15 rfl) rfl ?_
    rw [show (su (PM μ o op s) (o + 6) s.2.2.1 v) o 12 = PM μ o op s o 12 from by rw [su_ne (by omega)], PM12, nI_1, PM_em (bN_0 c1)]
    exact hK
def lm : Nat → MI
  | 0 => mi_X10_either
  | 1 => mi_X10_both
  | 2 => mi_X10_compared
  | 3 => mi_X10_sum
  | 4 => mi_X10_product
  | _ => mi_X10_one
def PX (G : Gl) (S : Sh) (μ : Mu) (o n : Nat) (nm : Int32 → Int32) (f : Nat) : Prop := ∀ (l op : Nat) (s : Ps) (D : Nat) (K : Sh → Mu → Prop), l ≤ 5 → op ≤ 5 → s.1 ≤ n → s.2.2.1 ≤ s.1 → 20 * (n - s.1) + 2 * (6 - l) < f → 6 * (5 - op) + (5 - l) + 8 ≤ D → K S (PM μ o op (pF (fun k => μ (o + 1) (140 + k)) n nm f 0 l op s)) → X G (lm l) D 0 0 [(0, .ref o)] [] S (PM μ o op s) (qv K)
def RX (G : Gl) (S : Sh) (μ : Mu) (o n : Nat) (nm : Int32 → Int32) (f : Nat) (l pc : Nat) : Prop := ∀ (op : Nat) (s : Ps) (D : Nat) (K : Sh → Mu → Prop) (rest : List (Nat × Value)), op ≤ 5 → s.1 ≤ n → s.2.2.1 ≤ s.1 → 20 * (n - s.1) + 1 < f → 6 * (5 - op) + (5 - l) + 8 ≤ D → K S (PM μ o op (pF (fun k => μ (o + 1) (140 + k)) n nm f 1 l op s)) → X G (lm l) D 0 pc ([(0, .ref o)] ++ rest) [] S (PM μ o op s) (qv K)
def RdOK (G : Gl) (S : Sh) (μ : Mu) (o n : Nat) (nm : Int32 → Int32) (f : Nat) : Prop := PX G S μ o n nm f ∧ RX G S μ o n nm f 0 4 ∧ RX G S μ o n nm f 1 4 ∧ RX G S μ o n nm f 2 4 ∧ RX G S μ o n nm f 3 4 ∧ RX G S μ o n nm f 3 49 ∧ RX G S μ o n nm f 4 4 ∧ RX G S μ o n nm f 4 64
set_option maxHeartbeats 1000000 in
theorem pxl_0 {G : Gl} {S : Sh} {μ : Mu} {o n : Nat} {q : Nat → Nat} {nm : Int32 → Int32} {f : Nat} (hM : MS S o q) (h5 : μ (o + 1) 5 = nI n) (hn : n ≤ 50) (ih : RdOK G S μ o n nm f) (op : Nat) (s : Ps) (D : Nat) (K : Sh → Mu → Prop) (hop : op ≤ 5) (hs : s.1 ≤ n) (hc : s.2.2.1 ≤ s.1) (hm : 20 * (n - s.1) + 2 * (6 - 0) < f + 1) (hD : 6 * (5 - op) + (5 - 0) + 8 ≤ D) (hK : K S (PM μ o op (pF (fun k => μ (o + 1) (140 + k)) n nm (f + 1) 0 0 op s))) : X G mi_X10_either D 0 0 [(0, .ref o)] [] S (PM μ o op s) (qv K) := by
  obtain ⟨D, rfl⟩ : ∃ D', D = D' + 8 := ⟨D - 8, by omega⟩
  refine X_aload_n (tk_X10_either.at 0 rfl) rfl ?_
  refine X_cV0v (lv2 := [(0, _)]) (tk_X10_either.at 1 rfl) mv_X10_both lk_x10_200 np_X10_both hM.f0 (by decide) rfl (Nat.le_of_ble_eq_true rfl) (Nat.le_of_ble_eq_true rfl) rfl (ih.1 1 op s _ _ (by decide) hop hs hc (by omega) (by omega) ?_)
  have g := pF_g (T := (fun k => μ (o + 1) (140 + k))) (nm := nm) f 0 1 op s hs (by decide)
  obtain ⟨g1, g2, g3⟩ := g
  exact ih.2.1 op _ _ K [] hop g2 (by omega) (by omega) (by omega) (by rw [pF_lev (by decide)] at hK; exact hK)
set_option maxHeartbeats 1000000 in
theorem pxl_1 {G : Gl} {S : Sh} {μ : Mu} {o n : Nat} {q : Nat → Nat} {nm : Int32 → Int32} {f : Nat} (hM : MS S o q) (h5 : μ (o + 1) 5 = nI n) (hn : n ≤ 50) (ih : RdOK G S μ o n nm f) (op : Nat) (s : Ps) (D : Nat) (K : Sh → Mu → Prop) (hop : op ≤ 5) (hs : s.1 ≤ n) (hc : s.2.2.1 ≤ s.1) (hm : 20 * (n - s.1) + 2 * (6 - 1) < f + 1) (hD : 6 * (5 - op) + (5 - 1) + 8 ≤ D) (hK : K S (PM μ o op (pF (fun k => μ (o + 1) (140 + k)) n nm (f + 1) 0 1 op s))) : X G mi_X10_both D 0 0 [(0, .ref o)] [] S (PM μ o op s) (qv K) := by
  obtain ⟨D, rfl⟩ : ∃ D', D = D' + 8 := ⟨D - 8, by omega⟩
  refine X_aload_n (tk_X10_both.at 0 rfl) rfl ?_
  refine X_cV0v (lv2 := [(0, _)]) (tk_X10_both.at 1 rfl) mv_X10_compared lk_x10_209 np_X10_compared hM.f0 (by decide) rfl (Nat.le_of_ble_eq_true rfl) (Nat.le_of_ble_eq_true rfl) rfl (ih.1 2 op s _ _ (by decide) hop hs hc (by omega) (by omega) ?_)
  have g := pF_g (T := (fun k => μ (o + 1) (140 + k))) (nm := nm) f 0 2 op s hs (by decide)
  obtain ⟨g1, g2, g3⟩ := g
  exact ih.2.2.1 op _ _ K [] hop g2 (by omega) (by omega) (by omega) (by rw [pF_lev (by decide)] at hK; exact hK)
set_option maxHeartbeats 1000000 in
theorem pxl_2 {G : Gl} {S : Sh} {μ : Mu} {o n : Nat} {q : Nat → Nat} {nm : Int32 → Int32} {f : Nat} (hM : MS S o q) (h5 : μ (o + 1) 5 = nI n) (hn : n ≤ 50) (ih : RdOK G S μ o n nm f) (op : Nat) (s : Ps) (D : Nat) (K : Sh → Mu → Prop) (hop : op ≤ 5) (hs : s.1 ≤ n) (hc : s.2.2.1 ≤ s.1) (hm : 20 * (n - s.1) + 2 * (6 - 2) < f + 1) (hD : 6 * (5 - op) + (5 - 2) + 8 ≤ D) (hK : K S (PM μ o op (pF (fun k => μ (o + 1) (140 + k)) n nm (f + 1) 0 2 op s))) : X G mi_X10_compared D 0 0 [(0, .ref o)] [] S (PM μ o op s) (qv K) := by
  obtain ⟨D, rfl⟩ : ∃ D', D = D' + 8 := ⟨D - 8, by omega⟩
  refine X_aload_n (tk_X10_compared.at 0 rfl) rfl ?_
  refine X_cV0v (lv2 := [(0, _)]) (tk_X10_compared.at 1 rfl) mv_X10_sum lk_x10_212 np_X10_sum hM.f0 (by decide) rfl (Nat.le_of_ble_eq_true rfl) (Nat.le_of_ble_eq_true rfl) rfl (ih.1 3 op s _ _ (by decide) hop hs hc (by omega) (by omega) ?_)
  have g := pF_g (T := (fun k => μ (o + 1) (140 + k))) (nm := nm) f 0 3 op s hs (by decide)
  obtain ⟨g1, g2, g3⟩ := g
  exact ih.2.2.2.1 op _ _ K [] hop g2 (by omega) (by omega) (by omega) (by rw [pF_lev (by decide)] at hK; exact hK)
set_option maxHeartbeats 1000000 in
theorem pxl_3 {G : Gl} {S : Sh} {μ : Mu} {o n : Nat} {q : Nat → Nat} {nm : Int32 → Int32} {f : Nat} (hM : MS S o q) (h5 : μ (o + 1) 5 = nI n) (hn : n ≤ 50) (ih : RdOK G S μ o n nm f) (op : Nat) (s : Ps) (D : Nat) (K : Sh → Mu → Prop) (hop : op ≤ 5) (hs : s.1 ≤ n) (hc : s.2.2.1 ≤ s.1) (hm : 20 * (n - s.1) + 2 * (6 - 3) < f + 1) (hD : 6 * (5 - op) + (5 - 3) + 8 ≤ D) (hK : K S (PM μ o op (pF (fun k => μ (o + 1) (140 + k)) n nm (f + 1) 0 3 op s))) : X G mi_X10_sum D 0 0 [(0, .ref o)] [] S (PM μ o op s) (qv K) := by
  obtain ⟨D, rfl⟩ : ∃ D', D = D' + 8 := ⟨D - 8, by omega⟩
  refine X_aload_n (tk_X10_sum.at 0 rfl) rfl ?_
  refine X_cV0v (lv2 := [(0, _)]) (tk_X10_sum.at 1 rfl) mv_X10_product lk_x10_215 np_X10_product hM.f0 (by decide) rfl (Nat.le_of_ble_eq_true rfl) (Nat.le_of_ble_eq_true rfl) rfl (ih.1 4 op s _ _ (by decide) hop hs hc (by omega) (by omega) ?_)
  have g := pF_g (T := (fun k => μ (o + 1) (140 + k))) (nm := nm) f 0 4 op s hs (by decide)
  obtain ⟨g1, g2, g3⟩ := g
  exact ih.2.2.2.2.1 op _ _ K [] hop g2 (by omega) (by omega) (by omega) (by rw [pF_lev (by decide)] at hK; exact hK)
set_option maxHeartbeats 1000000 in
theorem pxl_4 {G : Gl} {S : Sh} {μ : Mu} {o n : Nat} {q : Nat → Nat} {nm : Int32 → Int32} {f : Nat} (hM : MS S o q) (h5 : μ (o + 1) 5 = nI n) (hn : n ≤ 50) (ih : RdOK G S μ o n nm f) (op : Nat) (s : Ps) (D : Nat) (K : Sh → Mu → Prop) (hop : op ≤ 5) (hs : s.1 ≤ n) (hc : s.2.2.1 ≤ s.1) (hm : 20 * (n - s.1) + 2 * (6 - 4) < f + 1) (hD : 6 * (5 - op) + (5 - 4) + 8 ≤ D) (hK : K S (PM μ o op (pF (fun k => μ (o + 1) (140 + k)) n nm (f + 1) 0 4 op s))) : X G mi_X10_product D 0 0 [(0, .ref o)] [] S (PM μ o op s) (qv K) := by
  obtain ⟨D, rfl⟩ : ∃ D', D = D' + 8 := ⟨D - 8, by omega⟩
  refine X_aload_n (tk_X10_product.at 0 rfl) rfl ?_
  refine X_cV0v (lv2 := [(0, _)]) (tk_X10_product.at 1 rfl) mv_X10_one lk_x10_218 np_X10_one hM.f0 (by decide) rfl (Nat.le_of_ble_eq_true rfl) (Nat.le_of_ble_eq_true rfl) rfl (ih.1 5 op s _ _ (by decide) hop hs hc (by omega) (by omega) ?_)
  have g := pF_g (T := (fun k => μ (o + 1) (140 + k))) (nm := nm) f 0 5 op s hs (by decide)
  obtain ⟨g1, g2, g3⟩ := g
  exact ih.2.2.2.2.2.2.1 op _ _ K [] hop g2 (by omega) (by omega) (by omega) (by rw [pF_lev (by decide)] at hK; exact hK)
theorem lvl_no {b : Int32} : (¬ b = 124 → ¬ lvl b = 0) ∧ (¬ b = 38 → ¬ lvl b = 1) ∧ (¬ b = 60 → ¬ b = 61 → ¬ b = 62 → ¬ lvl b = 2) ∧ (¬ b = 43 → ¬ b = 45 → ¬ lvl b = 3) ∧ (¬ b = 42 → ¬ b = 47 → ¬ b = 37 → ¬ lvl b = 4) := by
  refine ⟨?_, ?_, ?_, ?_, ?_⟩ <;> intros <;> unfold lvl <;> repeat' split
  all_goals first | decide | contradiction
set_option maxHeartbeats 1000000 in
theorem rxl_0_4 {G : Gl} {S : Sh} {μ : Mu} {o n : Nat} {q : Nat → Nat} {nm : Int32 → Int32} {f : Nat} (hM : MS S o q) (h5 : μ (o + 1) 5 = nI n) (hn : n ≤ 50) (ih : RdOK G S μ o n nm f) (op : Nat) (s : Ps) (D : Nat) (K : Sh → Mu → Prop) (rest : List (Nat × Value)) (hop : op ≤ 5) (hs : s.1 ≤ n) (hc : s.2.2.1 ≤ s.1) (hm : 20 * (n - s.1) + 1 < f + 1) (hD : 6 * (5 - op) + (5 - 0) + 8 ≤ D) (hK : K S (PM μ o op (pF (fun k => μ (o + 1) (140 + k)) n nm (f + 1) 1 0 op s))) : X G mi_X10_either D 0 4 ([(0, .ref o)] ++ rest) [] S (PM μ o op s) (qv K) := by
  obtain ⟨D, rfl⟩ : ∃ D', D = D' + 8 := ⟨D - 8, by omega⟩
  refine X_lvp [0] (lv' := [(0, _)]) rfl ?_
  refine X_aload_n (tk_X10_either.at 2 rfl) rfl ?_
  refine X_bipush (tk_X10_either.at 3 rfl) cb_124 ?_
  refine X_cV1i (lv2 := [(0, _), (1, _)]) (tk_X10_either.at 4 rfl) mv_X10_takes lk_x10_203 np_X10_takes hM.f0 (by decide) rfl (Nat.le_of_ble_eq_true rfl) (Nat.le_of_ble_eq_true rfl) rfl (c10_takes hM h5 hn hs (fun t7 => ?_) (fun t7 => ?_))
  · have hi := hr_in (T := (fun k => μ (o + 1) (140 + k))) (n := n) (s := s) (by rw [t7]; decide)
    have hi2 := hi.2
    have el : lvl (hr (fun k => μ (o + 1) (140 + k)) n s) = 0 := by rw [t7]; decide
    have eo : opc (hr (fun k => μ (o + 1) (140 + k)) n s) = 20000 := by rw [t7]; decide
    have a1 : (ad s).1 = s.1 + 1 := rfl
    have a2 : (ad s).2.2.1 = s.2.2.1 := rfl
    have ha : (ad s).1 ≤ n := hi2
    have hca : (ad s).2.2.1 ≤ (ad s).1 := by omega
    refine X_if_eq (tgt := 27) (tk_X10_either.at 5 rfl) (by decide) (fun h => absurd h (by decide)) (fun _ => ?_)
    refine X_aload_n (tk_X10_either.at 6 rfl) rfl ?_
    refine X_cV0v (lv2 := [(0, _)]) (tk_X10_either.at 7 rfl) mv_X10_both lk_x10_200 np_X10_both hM.f0 (by decide) rfl (Nat.le_of_ble_eq_true rfl) (Nat.le_of_ble_eq_true rfl) rfl (ih.1 1 op (ad s) _ _ (by decide) hop ha hca (by omega) (by omega) ?_)
    have g := pF_g (T := (fun k => μ (o + 1) (140 + k))) (nm := nm) f 0 1 op (ad s) ha (by decide)
    obtain ⟨g1, g2, g3⟩ := g
    refine X_aload_n (tk_X10_either.at 8 rfl) rfl ?_
    refine X_sipush (tk_X10_either.at 9 rfl) cs_20000 ?_
    refine X_cV1v (lv2 := [(0, _), (1, _)]) (tk_X10_either.at 10 rfl) mv_X10_codes lk_x10_206 np_X10_codes hM.f0 (by decide) rfl (Nat.le_of_ble_eq_true rfl) (Nat.le_of_ble_eq_true rfl) rfl (c10_codes (n := n) hM (by omega) ?_)
    have e1 := em_1 (s := pF (fun k => μ (o + 1) (140 + k)) n nm f 0 1 op (ad s)) (v := 20000)
    have e2 := em_c (s := pF (fun k => μ (o + 1) (140 + k)) n nm f 0 1 op (ad s)) (v := 20000)
    refine X_goto (tgt := 4) (tk_X10_either.at 11 rfl) (by decide) ?_
    exact ih.2.1 op _ _ K [] hop (by omega) (by omega) (by omega) (by omega) (by rw [pF_more el (by decide), eo] at hK; exact hK)
  · refine X_if_eq (tgt := 27) (tk_X10_either.at 5 rfl) (by decide) (fun _ => ?_) (fun h => absurd h (by decide))
    refine X_return (tk_X10_either.at 12 rfl) rfl ?_
    rw [pF_end (lvl_no.1 t7)] at hK
    exact hK
set_option maxHeartbeats 1000000 in
theorem rxl_1_4 {G : Gl} {S : Sh} {μ : Mu} {o n : Nat} {q : Nat → Nat} {nm : Int32 → Int32} {f : Nat} (hM : MS S o q) (h5 : μ (o + 1) 5 = nI n) (hn : n ≤ 50) (ih : RdOK G S μ o n nm f) (op : Nat) (s : Ps) (D : Nat) (K : Sh → Mu → Prop) (rest : List (Nat × Value)) (hop : op ≤ 5) (hs : s.1 ≤ n) (hc : s.2.2.1 ≤ s.1) (hm : 20 * (n - s.1) + 1 < f + 1) (hD : 6 * (5 - op) + (5 - 1) + 8 ≤ D) (hK : K S (PM μ o op (pF (fun k => μ (o + 1) (140 + k)) n nm (f + 1) 1 1 op s))) : X G mi_X10_both D 0 4 ([(0, .ref o)] ++ rest) [] S (PM μ o op s) (qv K) := by
  obtain ⟨D, rfl⟩ : ∃ D', D = D' + 8 := ⟨D - 8, by omega⟩
  refine X_lvp [0] (lv' := [(0, _)]) rfl ?_
  refine X_aload_n (tk_X10_both.at 2 rfl) rfl ?_
  refine X_bipush (tk_X10_both.at 3 rfl) cb_38 ?_
  refine X_cV1i (lv2 := [(0, _), (1, _)]) (tk_X10_both.at 4 rfl) mv_X10_takes lk_x10_203 np_X10_takes hM.f0 (by decide) rfl (Nat.le_of_ble_eq_true rfl) (Nat.le_of_ble_eq_true rfl) rfl (c10_takes hM h5 hn hs (fun t7 => ?_) (fun t7 => ?_))
  · have hi := hr_in (T := (fun k => μ (o + 1) (140 + k))) (n := n) (s := s) (by rw [t7]; decide)
    have hi2 := hi.2
    have el : lvl (hr (fun k => μ (o + 1) (140 + k)) n s) = 1 := by rw [t7]; decide
    have eo : opc (hr (fun k => μ (o + 1) (140 + k)) n s) = 20001 := by rw [t7]; decide
    have a1 : (ad s).1 = s.1 + 1 := rfl
    have a2 : (ad s).2.2.1 = s.2.2.1 := rfl
    have ha : (ad s).1 ≤ n := hi2
    have hca : (ad s).2.2.1 ≤ (ad s).1 := by omega
    refine X_if_eq (tgt := 27) (tk_X10_both.at 5 rfl) (by decide) (fun h => absurd h (by decide)) (fun _ => ?_)
    refine X_aload_n (tk_X10_both.at 6 rfl) rfl ?_
    refine X_cV0v (lv2 := [(0, _)]) (tk_X10_both.at 7 rfl) mv_X10_compared lk_x10_209 np_X10_compared hM.f0 (by decide) rfl (Nat.le_of_ble_eq_true rfl) (Nat.le_of_ble_eq_true rfl) rfl (ih.1 2 op (ad s) _ _ (by decide) hop ha hca (by omega) (by omega) ?_)
    have g := pF_g (T := (fun k => μ (o + 1) (140 + k))) (nm := nm) f 0 2 op (ad s) ha (by decide)
    obtain ⟨g1, g2, g3⟩ := g
    refine X_aload_n (tk_X10_both.at 8 rfl) rfl ?_
    refine X_sipush (tk_X10_both.at 9 rfl) cs_20001 ?_
    refine X_cV1v (lv2 := [(0, _), (1, _)]) (tk_X10_both.at 10 rfl) mv_X10_codes lk_x10_206 np_X10_codes hM.f0 (by decide) rfl (Nat.le_of_ble_eq_true rfl) (Nat.le_of_ble_eq_true rfl) rfl (c10_codes (n := n) hM (by omega) ?_)
    have e1 := em_1 (s := pF (fun k => μ (o + 1) (140 + k)) n nm f 0 2 op (ad s)) (v := 20001)
    have e2 := em_c (s := pF (fun k => μ (o + 1) (140 + k)) n nm f 0 2 op (ad s)) (v := 20001)
    refine X_goto (tgt := 4) (tk_X10_both.at 11 rfl) (by decide) ?_
    exact ih.2.2.1 op _ _ K [] hop (by omega) (by omega) (by omega) (by omega) (by rw [pF_more el (by decide), eo] at hK; exact hK)
  · refine X_if_eq (tgt := 27) (tk_X10_both.at 5 rfl) (by decide) (fun _ => ?_) (fun h => absurd h (by decide))
    refine X_return (tk_X10_both.at 12 rfl) rfl ?_
    rw [pF_end (lvl_no.2.1 t7)] at hK
    exact hK
set_option maxHeartbeats 1000000 in
theorem rxl_2_4 {G : Gl} {S : Sh} {μ : Mu} {o n : Nat} {q : Nat → Nat} {nm : Int32 → Int32} {f : Nat} (hM : MS S o q) (h5 : μ (o + 1) 5 = nI n) (hn : n ≤ 50) (ih : RdOK G S μ o n nm f) (op : Nat) (s : Ps) (D : Nat) (K : Sh → Mu → Prop) (rest : List (Nat × Value)) (hop : op ≤ 5) (hs : s.1 ≤ n) (hc : s.2.2.1 ≤ s.1) (hm : 20 * (n - s.1) + 1 < f + 1) (hD : 6 * (5 - op) + (5 - 2) + 8 ≤ D) (hK : K S (PM μ o op (pF (fun k => μ (o + 1) (140 + k)) n nm (f + 1) 1 2 op s))) : X G mi_X10_compared D 0 4 ([(0, .ref o)] ++ rest) [] S (PM μ o op s) (qv K) := by
  obtain ⟨D, rfl⟩ : ∃ D', D = D' + 8 := ⟨D - 8, by omega⟩
  refine X_lvp [0] (lv' := [(0, _)]) rfl ?_
  refine X_aload_n (tk_X10_compared.at 2 rfl) rfl ?_
  refine X_bipush (tk_X10_compared.at 3 rfl) cb_60 ?_
  refine X_cV1i (lv2 := [(0, _), (1, _)]) (tk_X10_compared.at 4 rfl) mv_X10_takes lk_x10_203 np_X10_takes hM.f0 (by decide) rfl (Nat.le_of_ble_eq_true rfl) (Nat.le_of_ble_eq_true rfl) rfl (c10_takes hM h5 hn hs (fun t7 => ?_) (fun t7 => ?_))
  · have hi := hr_in (T := (fun k => μ (o + 1) (140 + k))) (n := n) (s := s) (by rw [t7]; decide)
    have hi2 := hi.2
    have el : lvl (hr (fun k => μ (o + 1) (140 + k)) n s) = 2 := by rw [t7]; decide
    have eo : opc (hr (fun k => μ (o + 1) (140 + k)) n s) = 20002 := by rw [t7]; decide
    have a1 : (ad s).1 = s.1 + 1 := rfl
    have a2 : (ad s).2.2.1 = s.2.2.1 := rfl
    have ha : (ad s).1 ≤ n := hi2
    have hca : (ad s).2.2.1 ≤ (ad s).1 := by omega
    refine X_if_eq (tgt := 19) (tk_X10_compared.at 5 rfl) (by decide) (fun h => absurd h (by decide)) (fun _ => ?_)
    refine X_sipush (tk_X10_compared.at 6 rfl) cs_20002 ?_
    refine X_goto (tgt := 50) (tk_X10_compared.at 7 rfl) (by decide) ?_
    refine X_istore_n (lv' := [(0, _), (1, _)]) (tk_X10_compared.at 21 rfl) (by decide) rfl rfl ?_
    refine X_iload_n (tk_X10_compared.at 22 rfl) rfl ?_
    refine X_if_le (tgt := 64) (tk_X10_compared.at 23 rfl) (by decide) (fun h => absurd h (by decide)) (fun _ => ?_)
    refine X_aload_n (tk_X10_compared.at 24 rfl) rfl ?_
    refine X_cV0v (lv2 := [(0, _)]) (tk_X10_compared.at 25 rfl) mv_X10_sum lk_x10_212 np_X10_sum hM.f0 (by decide) rfl (Nat.le_of_ble_eq_true rfl) (Nat.le_of_ble_eq_true rfl) rfl (ih.1 3 op (ad s) _ _ (by decide) hop ha hca (by omega) (by omega) ?_)
    have g := pF_g (T := (fun k => μ (o + 1) (140 + k))) (nm := nm) f 0 3 op (ad s) ha (by decide)
    obtain ⟨g1, g2, g3⟩ := g
    refine X_aload_n (tk_X10_compared.at 26 rfl) rfl ?_
    refine X_iload_n (tk_X10_compared.at 27 rfl) rfl ?_
    refine X_cV1v (lv2 := [(0, _), (1, _)]) (tk_X10_compared.at 28 rfl) mv_X10_codes lk_x10_206 np_X10_codes hM.f0 (by decide) rfl (Nat.le_of_ble_eq_true rfl) (Nat.le_of_ble_eq_true rfl) rfl (c10_codes (n := n) hM (by omega) ?_)
    have e1 := em_1 (s := pF (fun k => μ (o + 1) (140 + k)) n nm f 0 3 op (ad s)) (v := 20002)
    have e2 := em_c (s := pF (fun k => μ (o + 1) (140 + k)) n nm f 0 3 op (ad s)) (v := 20002)
    refine X_return (tk_X10_compared.at 29 rfl) rfl ?_
    rw [pF_cmp el, eo] at hK
    exact hK
  · refine X_if_eq (tgt := 19) (tk_X10_compared.at 5 rfl) (by decide) (fun _ => ?_) (fun h => absurd h (by decide))
    refine X_aload_n (tk_X10_compared.at 8 rfl) rfl ?_
    refine X_bipush (tk_X10_compared.at 9 rfl) cb_61 ?_
    refine X_cV1i (lv2 := [(0, _), (1, _)]) (tk_X10_compared.at 10 rfl) mv_X10_takes lk_x10_203 np_X10_takes hM.f0 (by decide) rfl (Nat.le_of_ble_eq_true rfl) (Nat.le_of_ble_eq_true rfl) rfl (c10_takes hM h5 hn hs (fun t22 => ?_) (fun t22 => ?_))
    · have hi := hr_in (T := (fun k => μ (o + 1) (140 + k))) (n := n) (s := s) (by rw [t22]; decide)
      have hi2 := hi.2
      have el : lvl (hr (fun k => μ (o + 1) (140 + k)) n s) = 2 := by rw [t22]; decide
      have eo : opc (hr (fun k => μ (o + 1) (140 + k)) n s) = 20003 := by rw [t22]; decide
      have a1 : (ad s).1 = s.1 + 1 := rfl
      have a2 : (ad s).2.2.1 = s.2.2.1 := rfl
      have ha : (ad s).1 ≤ n := hi2
      have hca : (ad s).2.2.1 ≤ (ad s).1 := by omega
      refine X_if_eq (tgt := 34) (tk_X10_compared.at 11 rfl) (by decide) (fun h => absurd h (by decide)) (fun _ => ?_)
      refine X_sipush (tk_X10_compared.at 12 rfl) cs_20003 ?_
      refine X_goto (tgt := 50) (tk_X10_compared.at 13 rfl) (by decide) ?_
      refine X_istore_n (lv' := [(0, _), (1, _)]) (tk_X10_compared.at 21 rfl) (by decide) rfl rfl ?_
      refine X_iload_n (tk_X10_compared.at 22 rfl) rfl ?_
      refine X_if_le (tgt := 64) (tk_X10_compared.at 23 rfl) (by decide) (fun h => absurd h (by decide)) (fun _ => ?_)
      refine X_aload_n (tk_X10_compared.at 24 rfl) rfl ?_
      refine X_cV0v (lv2 := [(0, _)]) (tk_X10_compared.at 25 rfl) mv_X10_sum lk_x10_212 np_X10_sum hM.f0 (by decide) rfl (Nat.le_of_ble_eq_true rfl) (Nat.le_of_ble_eq_true rfl) rfl (ih.1 3 op (ad s) _ _ (by decide) hop ha hca (by omega) (by omega) ?_)
      have g := pF_g (T := (fun k => μ (o + 1) (140 + k))) (nm := nm) f 0 3 op (ad s) ha (by decide)
      obtain ⟨g1, g2, g3⟩ := g
      refine X_aload_n (tk_X10_compared.at 26 rfl) rfl ?_
      refine X_iload_n (tk_X10_compared.at 27 rfl) rfl ?_
      refine X_cV1v (lv2 := [(0, _), (1, _)]) (tk_X10_compared.at 28 rfl) mv_X10_codes lk_x10_206 np_X10_codes hM.f0 (by decide) rfl (Nat.le_of_ble_eq_true rfl) (Nat.le_of_ble_eq_true rfl) rfl (c10_codes (n := n) hM (by omega) ?_)
      have e1 := em_1 (s := pF (fun k => μ (o + 1) (140 + k)) n nm f 0 3 op (ad s)) (v := 20003)
      have e2 := em_c (s := pF (fun k => μ (o + 1) (140 + k)) n nm f 0 3 op (ad s)) (v := 20003)
      refine X_return (tk_X10_compared.at 29 rfl) rfl ?_
      rw [pF_cmp el, eo] at hK
      exact hK
    · refine X_if_eq (tgt := 34) (tk_X10_compared.at 11 rfl) (by decide) (fun _ => ?_) (fun h => absurd h (by decide))
      refine X_aload_n (tk_X10_compared.at 14 rfl) rfl ?_
      refine X_bipush (tk_X10_compared.at 15 rfl) cb_62 ?_
      refine X_cV1i (lv2 := [(0, _), (1, _)]) (tk_X10_compared.at 16 rfl) mv_X10_takes lk_x10_203 np_X10_takes hM.f0 (by decide) rfl (Nat.le_of_ble_eq_true rfl) (Nat.le_of_ble_eq_true rfl) rfl (c10_takes hM h5 hn hs (fun t37 => ?_) (fun t37 => ?_))
      · have hi := hr_in (T := (fun k => μ (o + 1) (140 + k))) (n := n) (s := s) (by rw [t37]; decide)
        have hi2 := hi.2
        have el : lvl (hr (fun k => μ (o + 1) (140 + k)) n s) = 2 := by rw [t37]; decide
        have eo : opc (hr (fun k => μ (o + 1) (140 + k)) n s) = 20004 := by rw [t37]; decide
        have a1 : (ad s).1 = s.1 + 1 := rfl
        have a2 : (ad s).2.2.1 = s.2.2.1 := rfl
        have ha : (ad s).1 ≤ n := hi2
        have hca : (ad s).2.2.1 ≤ (ad s).1 := by omega
        refine X_if_eq (tgt := 49) (tk_X10_compared.at 17 rfl) (by decide) (fun h => absurd h (by decide)) (fun _ => ?_)
        refine X_sipush (tk_X10_compared.at 18 rfl) cs_20004 ?_
        refine X_goto (tgt := 50) (tk_X10_compared.at 19 rfl) (by decide) ?_
        refine X_istore_n (lv' := [(0, _), (1, _)]) (tk_X10_compared.at 21 rfl) (by decide) rfl rfl ?_
        refine X_iload_n (tk_X10_compared.at 22 rfl) rfl ?_
        refine X_if_le (tgt := 64) (tk_X10_compared.at 23 rfl) (by decide) (fun h => absurd h (by decide)) (fun _ => ?_)
        refine X_aload_n (tk_X10_compared.at 24 rfl) rfl ?_
        refine X_cV0v (lv2 := [(0, _)]) (tk_X10_compared.at 25 rfl) mv_X10_sum lk_x10_212 np_X10_sum hM.f0 (by decide) rfl (Nat.le_of_ble_eq_true rfl) (Nat.le_of_ble_eq_true rfl) rfl (ih.1 3 op (ad s) _ _ (by decide) hop ha hca (by omega) (by omega) ?_)
        have g := pF_g (T := (fun k => μ (o + 1) (140 + k))) (nm := nm) f 0 3 op (ad s) ha (by decide)
        obtain ⟨g1, g2, g3⟩ := g
        refine X_aload_n (tk_X10_compared.at 26 rfl) rfl ?_
        refine X_iload_n (tk_X10_compared.at 27 rfl) rfl ?_
        refine X_cV1v (lv2 := [(0, _), (1, _)]) (tk_X10_compared.at 28 rfl) mv_X10_codes lk_x10_206 np_X10_codes hM.f0 (by decide) rfl (Nat.le_of_ble_eq_true rfl) (Nat.le_of_ble_eq_true rfl) rfl (c10_codes (n := n) hM (by omega) ?_)
        have e1 := em_1 (s := pF (fun k => μ (o + 1) (140 + k)) n nm f 0 3 op (ad s)) (v := 20004)
        have e2 := em_c (s := pF (fun k => μ (o + 1) (140 + k)) n nm f 0 3 op (ad s)) (v := 20004)
        refine X_return (tk_X10_compared.at 29 rfl) rfl ?_
        rw [pF_cmp el, eo] at hK
        exact hK
      · refine X_if_eq (tgt := 49) (tk_X10_compared.at 17 rfl) (by decide) (fun _ => ?_) (fun h => absurd h (by decide))
        refine X_iconst (tk_X10_compared.at 20 rfl) ci_0 ?_
        refine X_istore_n (lv' := [(0, _), (1, _)]) (tk_X10_compared.at 21 rfl) (by decide) rfl rfl ?_
        refine X_iload_n (tk_X10_compared.at 22 rfl) rfl ?_
        refine X_if_le (tgt := 64) (tk_X10_compared.at 23 rfl) (by decide) (fun _ => ?_) (fun h => absurd h (by decide))
        refine X_return (tk_X10_compared.at 29 rfl) rfl ?_
        rw [pF_end (lvl_no.2.2.1 t7 t22 t37)] at hK
        exact hK
set_option maxHeartbeats 1000000 in
theorem rxl_3_4 {G : Gl} {S : Sh} {μ : Mu} {o n : Nat} {q : Nat → Nat} {nm : Int32 → Int32} {f : Nat} (hM : MS S o q) (h5 : μ (o + 1) 5 = nI n) (hn : n ≤ 50) (ih : RdOK G S μ o n nm f) (op : Nat) (s : Ps) (D : Nat) (K : Sh → Mu → Prop) (rest : List (Nat × Value)) (hop : op ≤ 5) (hs : s.1 ≤ n) (hc : s.2.2.1 ≤ s.1) (hm : 20 * (n - s.1) + 1 < f + 1) (hD : 6 * (5 - op) + (5 - 3) + 8 ≤ D) (hK : K S (PM μ o op (pF (fun k => μ (o + 1) (140 + k)) n nm (f + 1) 1 3 op s))) : X G mi_X10_sum D 0 4 ([(0, .ref o)] ++ rest) [] S (PM μ o op s) (qv K) := by
  obtain ⟨D, rfl⟩ : ∃ D', D = D' + 8 := ⟨D - 8, by omega⟩
  refine X_lvp [0] (lv' := [(0, _)]) rfl ?_
  refine X_aload_n (tk_X10_sum.at 2 rfl) rfl ?_
  refine X_bipush (tk_X10_sum.at 3 rfl) cb_43 ?_
  refine X_cV1i (lv2 := [(0, _), (1, _)]) (tk_X10_sum.at 4 rfl) mv_X10_takes lk_x10_203 np_X10_takes hM.f0 (by decide) rfl (Nat.le_of_ble_eq_true rfl) (Nat.le_of_ble_eq_true rfl) rfl (c10_takes hM h5 hn hs (fun t7 => ?_) (fun t7 => ?_))
  · have hi := hr_in (T := (fun k => μ (o + 1) (140 + k))) (n := n) (s := s) (by rw [t7]; decide)
    have hi2 := hi.2
    have el : lvl (hr (fun k => μ (o + 1) (140 + k)) n s) = 3 := by rw [t7]; decide
    have eo : opc (hr (fun k => μ (o + 1) (140 + k)) n s) = 20005 := by rw [t7]; decide
    have a1 : (ad s).1 = s.1 + 1 := rfl
    have a2 : (ad s).2.2.1 = s.2.2.1 := rfl
    have ha : (ad s).1 ≤ n := hi2
    have hca : (ad s).2.2.1 ≤ (ad s).1 := by omega
    refine X_if_eq (tgt := 19) (tk_X10_sum.at 5 rfl) (by decide) (fun h => absurd h (by decide)) (fun _ => ?_)
    refine X_sipush (tk_X10_sum.at 6 rfl) cs_20005 ?_
    refine X_goto (tgt := 35) (tk_X10_sum.at 7 rfl) (by decide) ?_
    refine X_istore_n (lv' := [(0, _), (1, _)]) (tk_X10_sum.at 15 rfl) (by decide) rfl rfl ?_
    refine X_iload_n (tk_X10_sum.at 16 rfl) rfl ?_
    refine X_if_le (tgt := 84) (tk_X10_sum.at 17 rfl) (by decide) (fun h => absurd h (by decide)) (fun _ => ?_)
    refine X_aload_n (tk_X10_sum.at 18 rfl) rfl ?_
    refine X_cV0v (lv2 := [(0, _)]) (tk_X10_sum.at 19 rfl) mv_X10_product lk_x10_215 np_X10_product hM.f0 (by decide) rfl (Nat.le_of_ble_eq_true rfl) (Nat.le_of_ble_eq_true rfl) rfl (ih.1 4 op (ad s) _ _ (by decide) hop ha hca (by omega) (by omega) ?_)
    have g := pF_g (T := (fun k => μ (o + 1) (140 + k))) (nm := nm) f 0 4 op (ad s) ha (by decide)
    obtain ⟨g1, g2, g3⟩ := g
    refine X_aload_n (tk_X10_sum.at 20 rfl) rfl ?_
    refine X_iload_n (tk_X10_sum.at 21 rfl) rfl ?_
    refine X_cV1v (lv2 := [(0, _), (1, _)]) (tk_X10_sum.at 22 rfl) mv_X10_codes lk_x10_206 np_X10_codes hM.f0 (by decide) rfl (Nat.le_of_ble_eq_true rfl) (Nat.le_of_ble_eq_true rfl) rfl (c10_codes (n := n) hM (by omega) ?_)
    have e1 := em_1 (s := pF (fun k => μ (o + 1) (140 + k)) n nm f 0 4 op (ad s)) (v := 20005)
    have e2 := em_c (s := pF (fun k => μ (o + 1) (140 + k)) n nm f 0 4 op (ad s)) (v := 20005)
    exact ih.2.2.2.2.2.1 op _ _ K [(1, _)] hop (by omega) (by omega) (by omega) (by omega) (by rw [pF_more el (by decide), eo] at hK; exact hK)
  · refine X_if_eq (tgt := 19) (tk_X10_sum.at 5 rfl) (by decide) (fun _ => ?_) (fun h => absurd h (by decide))
    refine X_aload_n (tk_X10_sum.at 8 rfl) rfl ?_
    refine X_bipush (tk_X10_sum.at 9 rfl) cb_45 ?_
    refine X_cV1i (lv2 := [(0, _), (1, _)]) (tk_X10_sum.at 10 rfl) mv_X10_takes lk_x10_203 np_X10_takes hM.f0 (by decide) rfl (Nat.le_of_ble_eq_true rfl) (Nat.le_of_ble_eq_true rfl) rfl (c10_takes hM h5 hn hs (fun t22 => ?_) (fun t22 => ?_))
    · have hi := hr_in (T := (fun k => μ (o + 1) (140 + k))) (n := n) (s := s) (by rw [t22]; decide)
      have hi2 := hi.2
      have el : lvl (hr (fun k => μ (o + 1) (140 + k)) n s) = 3 := by rw [t22]; decide
      have eo : opc (hr (fun k => μ (o + 1) (140 + k)) n s) = 20006 := by rw [t22]; decide
      have a1 : (ad s).1 = s.1 + 1 := rfl
      have a2 : (ad s).2.2.1 = s.2.2.1 := rfl
      have ha : (ad s).1 ≤ n := hi2
      have hca : (ad s).2.2.1 ≤ (ad s).1 := by omega
      refine X_if_eq (tgt := 34) (tk_X10_sum.at 11 rfl) (by decide) (fun h => absurd h (by decide)) (fun _ => ?_)
      refine X_sipush (tk_X10_sum.at 12 rfl) cs_20006 ?_
      refine X_goto (tgt := 35) (tk_X10_sum.at 13 rfl) (by decide) ?_
      refine X_istore_n (lv' := [(0, _), (1, _)]) (tk_X10_sum.at 15 rfl) (by decide) rfl rfl ?_
      refine X_iload_n (tk_X10_sum.at 16 rfl) rfl ?_
      refine X_if_le (tgt := 84) (tk_X10_sum.at 17 rfl) (by decide) (fun h => absurd h (by decide)) (fun _ => ?_)
      refine X_aload_n (tk_X10_sum.at 18 rfl) rfl ?_
      refine X_cV0v (lv2 := [(0, _)]) (tk_X10_sum.at 19 rfl) mv_X10_product lk_x10_215 np_X10_product hM.f0 (by decide) rfl (Nat.le_of_ble_eq_true rfl) (Nat.le_of_ble_eq_true rfl) rfl (ih.1 4 op (ad s) _ _ (by decide) hop ha hca (by omega) (by omega) ?_)
      have g := pF_g (T := (fun k => μ (o + 1) (140 + k))) (nm := nm) f 0 4 op (ad s) ha (by decide)
      obtain ⟨g1, g2, g3⟩ := g
      refine X_aload_n (tk_X10_sum.at 20 rfl) rfl ?_
      refine X_iload_n (tk_X10_sum.at 21 rfl) rfl ?_
      refine X_cV1v (lv2 := [(0, _), (1, _)]) (tk_X10_sum.at 22 rfl) mv_X10_codes lk_x10_206 np_X10_codes hM.f0 (by decide) rfl (Nat.le_of_ble_eq_true rfl) (Nat.le_of_ble_eq_true rfl) rfl (c10_codes (n := n) hM (by omega) ?_)
      have e1 := em_1 (s := pF (fun k => μ (o + 1) (140 + k)) n nm f 0 4 op (ad s)) (v := 20006)
      have e2 := em_c (s := pF (fun k => μ (o + 1) (140 + k)) n nm f 0 4 op (ad s)) (v := 20006)
      exact ih.2.2.2.2.2.1 op _ _ K [(1, _)] hop (by omega) (by omega) (by omega) (by omega) (by rw [pF_more el (by decide), eo] at hK; exact hK)
    · refine X_if_eq (tgt := 34) (tk_X10_sum.at 11 rfl) (by decide) (fun _ => ?_) (fun h => absurd h (by decide))
      refine X_iconst (tk_X10_sum.at 14 rfl) ci_0 ?_
      refine X_istore_n (lv' := [(0, _), (1, _)]) (tk_X10_sum.at 15 rfl) (by decide) rfl rfl ?_
      refine X_iload_n (tk_X10_sum.at 16 rfl) rfl ?_
      refine X_if_le (tgt := 84) (tk_X10_sum.at 17 rfl) (by decide) (fun _ => ?_) (fun h => absurd h (by decide))
      refine X_return (tk_X10_sum.at 38 rfl) rfl ?_
      rw [pF_end (lvl_no.2.2.2.1 t7 t22)] at hK
      exact hK
set_option maxHeartbeats 1000000 in
theorem rxl_3_49 {G : Gl} {S : Sh} {μ : Mu} {o n : Nat} {q : Nat → Nat} {nm : Int32 → Int32} {f : Nat} (hM : MS S o q) (h5 : μ (o + 1) 5 = nI n) (hn : n ≤ 50) (ih : RdOK G S μ o n nm f) (op : Nat) (s : Ps) (D : Nat) (K : Sh → Mu → Prop) (rest : List (Nat × Value)) (hop : op ≤ 5) (hs : s.1 ≤ n) (hc : s.2.2.1 ≤ s.1) (hm : 20 * (n - s.1) + 1 < f + 1) (hD : 6 * (5 - op) + (5 - 3) + 8 ≤ D) (hK : K S (PM μ o op (pF (fun k => μ (o + 1) (140 + k)) n nm (f + 1) 1 3 op s))) : X G mi_X10_sum D 0 49 ([(0, .ref o)] ++ rest) [] S (PM μ o op s) (qv K) := by
  obtain ⟨D, rfl⟩ : ∃ D', D = D' + 8 := ⟨D - 8, by omega⟩
  refine X_lvp [0] (lv' := [(0, _)]) rfl ?_
  refine X_aload_n (tk_X10_sum.at 23 rfl) rfl ?_
  refine X_bipush (tk_X10_sum.at 24 rfl) cb_43 ?_
  refine X_cV1i (lv2 := [(0, _), (1, _)]) (tk_X10_sum.at 25 rfl) mv_X10_takes lk_x10_203 np_X10_takes hM.f0 (by decide) rfl (Nat.le_of_ble_eq_true rfl) (Nat.le_of_ble_eq_true rfl) rfl (c10_takes hM h5 hn hs (fun t52 => ?_) (fun t52 => ?_))
  · have hi := hr_in (T := (fun k => μ (o + 1) (140 + k))) (n := n) (s := s) (by rw [t52]; decide)
    have hi2 := hi.2
    have el : lvl (hr (fun k => μ (o + 1) (140 + k)) n s) = 3 := by rw [t52]; decide
    have eo : opc (hr (fun k => μ (o + 1) (140 + k)) n s) = 20005 := by rw [t52]; decide
    have a1 : (ad s).1 = s.1 + 1 := rfl
    have a2 : (ad s).2.2.1 = s.2.2.1 := rfl
    have ha : (ad s).1 ≤ n := hi2
    have hca : (ad s).2.2.1 ≤ (ad s).1 := by omega
    refine X_if_eq (tgt := 64) (tk_X10_sum.at 26 rfl) (by decide) (fun h => absurd h (by decide)) (fun _ => ?_)
    refine X_sipush (tk_X10_sum.at 27 rfl) cs_20005 ?_
    refine X_goto (tgt := 80) (tk_X10_sum.at 28 rfl) (by decide) ?_
    refine X_istore_n (lv' := [(0, _), (1, _)]) (tk_X10_sum.at 36 rfl) (by decide) rfl rfl ?_
    refine X_goto (tgt := 36) (tk_X10_sum.at 37 rfl) (by decide) ?_
    refine X_iload_n (tk_X10_sum.at 16 rfl) rfl ?_
    refine X_if_le (tgt := 84) (tk_X10_sum.at 17 rfl) (by decide) (fun h => absurd h (by decide)) (fun _ => ?_)
    refine X_aload_n (tk_X10_sum.at 18 rfl) rfl ?_
    refine X_cV0v (lv2 := [(0, _)]) (tk_X10_sum.at 19 rfl) mv_X10_product lk_x10_215 np_X10_product hM.f0 (by decide) rfl (Nat.le_of_ble_eq_true rfl) (Nat.le_of_ble_eq_true rfl) rfl (ih.1 4 op (ad s) _ _ (by decide) hop ha hca (by omega) (by omega) ?_)
    have g := pF_g (T := (fun k => μ (o + 1) (140 + k))) (nm := nm) f 0 4 op (ad s) ha (by decide)
    obtain ⟨g1, g2, g3⟩ := g
    refine X_aload_n (tk_X10_sum.at 20 rfl) rfl ?_
    refine X_iload_n (tk_X10_sum.at 21 rfl) rfl ?_
    refine X_cV1v (lv2 := [(0, _), (1, _)]) (tk_X10_sum.at 22 rfl) mv_X10_codes lk_x10_206 np_X10_codes hM.f0 (by decide) rfl (Nat.le_of_ble_eq_true rfl) (Nat.le_of_ble_eq_true rfl) rfl (c10_codes (n := n) hM (by omega) ?_)
    have e1 := em_1 (s := pF (fun k => μ (o + 1) (140 + k)) n nm f 0 4 op (ad s)) (v := 20005)
    have e2 := em_c (s := pF (fun k => μ (o + 1) (140 + k)) n nm f 0 4 op (ad s)) (v := 20005)
    exact ih.2.2.2.2.2.1 op _ _ K [(1, _)] hop (by omega) (by omega) (by omega) (by omega) (by rw [pF_more el (by decide), eo] at hK; exact hK)
  · refine X_if_eq (tgt := 64) (tk_X10_sum.at 26 rfl) (by decide) (fun _ => ?_) (fun h => absurd h (by decide))
    refine X_aload_n (tk_X10_sum.at 29 rfl) rfl ?_
    refine X_bipush (tk_X10_sum.at 30 rfl) cb_45 ?_
    refine X_cV1i (lv2 := [(0, _), (1, _)]) (tk_X10_sum.at 31 rfl) mv_X10_takes lk_x10_203 np_X10_takes hM.f0 (by decide) rfl (Nat.le_of_ble_eq_true rfl) (Nat.le_of_ble_eq_true rfl) rfl (c10_takes hM h5 hn hs (fun t67 => ?_) (fun t67 => ?_))
    · have hi := hr_in (T := (fun k => μ (o + 1) (140 + k))) (n := n) (s := s) (by rw [t67]; decide)
      have hi2 := hi.2
      have el : lvl (hr (fun k => μ (o + 1) (140 + k)) n s) = 3 := by rw [t67]; decide
      have eo : opc (hr (fun k => μ (o + 1) (140 + k)) n s) = 20006 := by rw [t67]; decide
      have a1 : (ad s).1 = s.1 + 1 := rfl
      have a2 : (ad s).2.2.1 = s.2.2.1 := rfl
      have ha : (ad s).1 ≤ n := hi2
      have hca : (ad s).2.2.1 ≤ (ad s).1 := by omega
      refine X_if_eq (tgt := 79) (tk_X10_sum.at 32 rfl) (by decide) (fun h => absurd h (by decide)) (fun _ => ?_)
      refine X_sipush (tk_X10_sum.at 33 rfl) cs_20006 ?_
      refine X_goto (tgt := 80) (tk_X10_sum.at 34 rfl) (by decide) ?_
      refine X_istore_n (lv' := [(0, _), (1, _)]) (tk_X10_sum.at 36 rfl) (by decide) rfl rfl ?_
      refine X_goto (tgt := 36) (tk_X10_sum.at 37 rfl) (by decide) ?_
      refine X_iload_n (tk_X10_sum.at 16 rfl) rfl ?_
      refine X_if_le (tgt := 84) (tk_X10_sum.at 17 rfl) (by decide) (fun h => absurd h (by decide)) (fun _ => ?_)
      refine X_aload_n (tk_X10_sum.at 18 rfl) rfl ?_
      refine X_cV0v (lv2 := [(0, _)]) (tk_X10_sum.at 19 rfl) mv_X10_product lk_x10_215 np_X10_product hM.f0 (by decide) rfl (Nat.le_of_ble_eq_true rfl) (Nat.le_of_ble_eq_true rfl) rfl (ih.1 4 op (ad s) _ _ (by decide) hop ha hca (by omega) (by omega) ?_)
      have g := pF_g (T := (fun k => μ (o + 1) (140 + k))) (nm := nm) f 0 4 op (ad s) ha (by decide)
      obtain ⟨g1, g2, g3⟩ := g
      refine X_aload_n (tk_X10_sum.at 20 rfl) rfl ?_
      refine X_iload_n (tk_X10_sum.at 21 rfl) rfl ?_
      refine X_cV1v (lv2 := [(0, _), (1, _)]) (tk_X10_sum.at 22 rfl) mv_X10_codes lk_x10_206 np_X10_codes hM.f0 (by decide) rfl (Nat.le_of_ble_eq_true rfl) (Nat.le_of_ble_eq_true rfl) rfl (c10_codes (n := n) hM (by omega) ?_)
      have e1 := em_1 (s := pF (fun k => μ (o + 1) (140 + k)) n nm f 0 4 op (ad s)) (v := 20006)
      have e2 := em_c (s := pF (fun k => μ (o + 1) (140 + k)) n nm f 0 4 op (ad s)) (v := 20006)
      exact ih.2.2.2.2.2.1 op _ _ K [(1, _)] hop (by omega) (by omega) (by omega) (by omega) (by rw [pF_more el (by decide), eo] at hK; exact hK)
    · refine X_if_eq (tgt := 79) (tk_X10_sum.at 32 rfl) (by decide) (fun _ => ?_) (fun h => absurd h (by decide))
      refine X_iconst (tk_X10_sum.at 35 rfl) ci_0 ?_
      refine X_istore_n (lv' := [(0, _), (1, _)]) (tk_X10_sum.at 36 rfl) (by decide) rfl rfl ?_
      refine X_goto (tgt := 36) (tk_X10_sum.at 37 rfl) (by decide) ?_
      refine X_iload_n (tk_X10_sum.at 16 rfl) rfl ?_
      refine X_if_le (tgt := 84) (tk_X10_sum.at 17 rfl) (by decide) (fun _ => ?_) (fun h => absurd h (by decide))
      refine X_return (tk_X10_sum.at 38 rfl) rfl ?_
      rw [pF_end (lvl_no.2.2.2.1 t52 t67)] at hK
      exact hK
set_option maxHeartbeats 1000000 in
theorem rxl_4_4 {G : Gl} {S : Sh} {μ : Mu} {o n : Nat} {q : Nat → Nat} {nm : Int32 → Int32} {f : Nat} (hM : MS S o q) (h5 : μ (o + 1) 5 = nI n) (hn : n ≤ 50) (ih : RdOK G S μ o n nm f) (op : Nat) (s : Ps) (D : Nat) (K : Sh → Mu → Prop) (rest : List (Nat × Value)) (hop : op ≤ 5) (hs : s.1 ≤ n) (hc : s.2.2.1 ≤ s.1) (hm : 20 * (n - s.1) + 1 < f + 1) (hD : 6 * (5 - op) + (5 - 4) + 8 ≤ D) (hK : K S (PM μ o op (pF (fun k => μ (o + 1) (140 + k)) n nm (f + 1) 1 4 op s))) : X G mi_X10_product D 0 4 ([(0, .ref o)] ++ rest) [] S (PM μ o op s) (qv K) := by
  obtain ⟨D, rfl⟩ : ∃ D', D = D' + 8 := ⟨D - 8, by omega⟩
  refine X_lvp [0] (lv' := [(0, _)]) rfl ?_
  refine X_aload_n (tk_X10_product.at 2 rfl) rfl ?_
  refine X_bipush (tk_X10_product.at 3 rfl) cb_42 ?_
  refine X_cV1i (lv2 := [(0, _), (1, _)]) (tk_X10_product.at 4 rfl) mv_X10_takes lk_x10_203 np_X10_takes hM.f0 (by decide) rfl (Nat.le_of_ble_eq_true rfl) (Nat.le_of_ble_eq_true rfl) rfl (c10_takes hM h5 hn hs (fun t7 => ?_) (fun t7 => ?_))
  · have hi := hr_in (T := (fun k => μ (o + 1) (140 + k))) (n := n) (s := s) (by rw [t7]; decide)
    have hi2 := hi.2
    have el : lvl (hr (fun k => μ (o + 1) (140 + k)) n s) = 4 := by rw [t7]; decide
    have eo : opc (hr (fun k => μ (o + 1) (140 + k)) n s) = 20007 := by rw [t7]; decide
    have a1 : (ad s).1 = s.1 + 1 := rfl
    have a2 : (ad s).2.2.1 = s.2.2.1 := rfl
    have ha : (ad s).1 ≤ n := hi2
    have hca : (ad s).2.2.1 ≤ (ad s).1 := by omega
    refine X_if_eq (tgt := 19) (tk_X10_product.at 5 rfl) (by decide) (fun h => absurd h (by decide)) (fun _ => ?_)
    refine X_sipush (tk_X10_product.at 6 rfl) cs_20007 ?_
    refine X_goto (tgt := 50) (tk_X10_product.at 7 rfl) (by decide) ?_
    refine X_istore_n (lv' := [(0, _), (1, _)]) (tk_X10_product.at 21 rfl) (by decide) rfl rfl ?_
    refine X_iload_n (tk_X10_product.at 22 rfl) rfl ?_
    refine X_if_le (tgt := 114) (tk_X10_product.at 23 rfl) (by decide) (fun h => absurd h (by decide)) (fun _ => ?_)
    refine X_aload_n (tk_X10_product.at 24 rfl) rfl ?_
    refine X_cV0v (lv2 := [(0, _)]) (tk_X10_product.at 25 rfl) mv_X10_one lk_x10_218 np_X10_one hM.f0 (by decide) rfl (Nat.le_of_ble_eq_true rfl) (Nat.le_of_ble_eq_true rfl) rfl (ih.1 5 op (ad s) _ _ (by decide) hop ha hca (by omega) (by omega) ?_)
    have g := pF_g (T := (fun k => μ (o + 1) (140 + k))) (nm := nm) f 0 5 op (ad s) ha (by decide)
    obtain ⟨g1, g2, g3⟩ := g
    refine X_aload_n (tk_X10_product.at 26 rfl) rfl ?_
    refine X_iload_n (tk_X10_product.at 27 rfl) rfl ?_
    refine X_cV1v (lv2 := [(0, _), (1, _)]) (tk_X10_product.at 28 rfl) mv_X10_codes lk_x10_206 np_X10_codes hM.f0 (by decide) rfl (Nat.le_of_ble_eq_true rfl) (Nat.le_of_ble_eq_true rfl) rfl (c10_codes (n := n) hM (by omega) ?_)
    have e1 := em_1 (s := pF (fun k => μ (o + 1) (140 + k)) n nm f 0 5 op (ad s)) (v := 20007)
    have e2 := em_c (s := pF (fun k => μ (o + 1) (140 + k)) n nm f 0 5 op (ad s)) (v := 20007)
    exact ih.2.2.2.2.2.2.2 op _ _ K [(1, _)] hop (by omega) (by omega) (by omega) (by omega) (by rw [pF_more el (by decide), eo] at hK; exact hK)
  · refine X_if_eq (tgt := 19) (tk_X10_product.at 5 rfl) (by decide) (fun _ => ?_) (fun h => absurd h (by decide))
    refine X_aload_n (tk_X10_product.at 8 rfl) rfl ?_
    refine X_bipush (tk_X10_product.at 9 rfl) cb_47 ?_
    refine X_cV1i (lv2 := [(0, _), (1, _)]) (tk_X10_product.at 10 rfl) mv_X10_takes lk_x10_203 np_X10_takes hM.f0 (by decide) rfl (Nat.le_of_ble_eq_true rfl) (Nat.le_of_ble_eq_true rfl) rfl (c10_takes hM h5 hn hs (fun t22 => ?_) (fun t22 => ?_))
    · have hi := hr_in (T := (fun k => μ (o + 1) (140 + k))) (n := n) (s := s) (by rw [t22]; decide)
      have hi2 := hi.2
      have el : lvl (hr (fun k => μ (o + 1) (140 + k)) n s) = 4 := by rw [t22]; decide
      have eo : opc (hr (fun k => μ (o + 1) (140 + k)) n s) = 20008 := by rw [t22]; decide
      have a1 : (ad s).1 = s.1 + 1 := rfl
      have a2 : (ad s).2.2.1 = s.2.2.1 := rfl
      have ha : (ad s).1 ≤ n := hi2
      have hca : (ad s).2.2.1 ≤ (ad s).1 := by omega
      refine X_if_eq (tgt := 34) (tk_X10_product.at 11 rfl) (by decide) (fun h => absurd h (by decide)) (fun _ => ?_)
      refine X_sipush (tk_X10_product.at 12 rfl) cs_20008 ?_
      refine X_goto (tgt := 50) (tk_X10_product.at 13 rfl) (by decide) ?_
      refine X_istore_n (lv' := [(0, _), (1, _)]) (tk_X10_product.at 21 rfl) (by decide) rfl rfl ?_
      refine X_iload_n (tk_X10_product.at 22 rfl) rfl ?_
      refine X_if_le (tgt := 114) (tk_X10_product.at 23 rfl) (by decide) (fun h => absurd h (by decide)) (fun _ => ?_)
      refine X_aload_n (tk_X10_product.at 24 rfl) rfl ?_
      refine X_cV0v (lv2 := [(0, _)]) (tk_X10_product.at 25 rfl) mv_X10_one lk_x10_218 np_X10_one hM.f0 (by decide) rfl (Nat.le_of_ble_eq_true rfl) (Nat.le_of_ble_eq_true rfl) rfl (ih.1 5 op (ad s) _ _ (by decide) hop ha hca (by omega) (by omega) ?_)
      have g := pF_g (T := (fun k => μ (o + 1) (140 + k))) (nm := nm) f 0 5 op (ad s) ha (by decide)
      obtain ⟨g1, g2, g3⟩ := g
      refine X_aload_n (tk_X10_product.at 26 rfl) rfl ?_
      refine X_iload_n (tk_X10_product.at 27 rfl) rfl ?_
      refine X_cV1v (lv2 := [(0, _), (1, _)]) (tk_X10_product.at 28 rfl) mv_X10_codes lk_x10_206 np_X10_codes hM.f0 (by decide) rfl (Nat.le_of_ble_eq_true rfl) (Nat.le_of_ble_eq_true rfl) rfl (c10_codes (n := n) hM (by omega) ?_)
      have e1 := em_1 (s := pF (fun k => μ (o + 1) (140 + k)) n nm f 0 5 op (ad s)) (v := 20008)
      have e2 := em_c (s := pF (fun k => μ (o + 1) (140 + k)) n nm f 0 5 op (ad s)) (v := 20008)
      exact ih.2.2.2.2.2.2.2 op _ _ K [(1, _)] hop (by omega) (by omega) (by omega) (by omega) (by rw [pF_more el (by decide), eo] at hK; exact hK)
    · refine X_if_eq (tgt := 34) (tk_X10_product.at 11 rfl) (by decide) (fun _ => ?_) (fun h => absurd h (by decide))
      refine X_aload_n (tk_X10_product.at 14 rfl) rfl ?_
      refine X_bipush (tk_X10_product.at 15 rfl) cb_37 ?_
      refine X_cV1i (lv2 := [(0, _), (1, _)]) (tk_X10_product.at 16 rfl) mv_X10_takes lk_x10_203 np_X10_takes hM.f0 (by decide) rfl (Nat.le_of_ble_eq_true rfl) (Nat.le_of_ble_eq_true rfl) rfl (c10_takes hM h5 hn hs (fun t37 => ?_) (fun t37 => ?_))
      · have hi := hr_in (T := (fun k => μ (o + 1) (140 + k))) (n := n) (s := s) (by rw [t37]; decide)
        have hi2 := hi.2
        have el : lvl (hr (fun k => μ (o + 1) (140 + k)) n s) = 4 := by rw [t37]; decide
        have eo : opc (hr (fun k => μ (o + 1) (140 + k)) n s) = 20009 := by rw [t37]; decide
        have a1 : (ad s).1 = s.1 + 1 := rfl
        have a2 : (ad s).2.2.1 = s.2.2.1 := rfl
        have ha : (ad s).1 ≤ n := hi2
        have hca : (ad s).2.2.1 ≤ (ad s).1 := by omega
        refine X_if_eq (tgt := 49) (tk_X10_product.at 17 rfl) (by decide) (fun h => absurd h (by decide)) (fun _ => ?_)
        refine X_sipush (tk_X10_product.at 18 rfl) cs_20009 ?_
        refine X_goto (tgt := 50) (tk_X10_product.at 19 rfl) (by decide) ?_
        refine X_istore_n (lv' := [(0, _), (1, _)]) (tk_X10_product.at 21 rfl) (by decide) rfl rfl ?_
        refine X_iload_n (tk_X10_product.at 22 rfl) rfl ?_
        refine X_if_le (tgt := 114) (tk_X10_product.at 23 rfl) (by decide) (fun h => absurd h (by decide)) (fun _ => ?_)
        refine X_aload_n (tk_X10_product.at 24 rfl) rfl ?_
        refine X_cV0v (lv2 := [(0, _)]) (tk_X10_product.at 25 rfl) mv_X10_one lk_x10_218 np_X10_one hM.f0 (by decide) rfl (Nat.le_of_ble_eq_true rfl) (Nat.le_of_ble_eq_true rfl) rfl (ih.1 5 op (ad s) _ _ (by decide) hop ha hca (by omega) (by omega) ?_)
        have g := pF_g (T := (fun k => μ (o + 1) (140 + k))) (nm := nm) f 0 5 op (ad s) ha (by decide)
        obtain ⟨g1, g2, g3⟩ := g
        refine X_aload_n (tk_X10_product.at 26 rfl) rfl ?_
        refine X_iload_n (tk_X10_product.at 27 rfl) rfl ?_
        refine X_cV1v (lv2 := [(0, _), (1, _)]) (tk_X10_product.at 28 rfl) mv_X10_codes lk_x10_206 np_X10_codes hM.f0 (by decide) rfl (Nat.le_of_ble_eq_true rfl) (Nat.le_of_ble_eq_true rfl) rfl (c10_codes (n := n) hM (by omega) ?_)
        have e1 := em_1 (s := pF (fun k => μ (o + 1) (140 + k)) n nm f 0 5 op (ad s)) (v := 20009)
        have e2 := em_c (s := pF (fun k => μ (o + 1) (140 + k)) n nm f 0 5 op (ad s)) (v := 20009)
        exact ih.2.2.2.2.2.2.2 op _ _ K [(1, _)] hop (by omega) (by omega) (by omega) (by omega) (by rw [pF_more el (by decide), eo] at hK; exact hK)
      · refine X_if_eq (tgt := 49) (tk_X10_product.at 17 rfl) (by decide) (fun _ => ?_) (fun h => absurd h (by decide))
        refine X_iconst (tk_X10_product.at 20 rfl) ci_0 ?_
        refine X_istore_n (lv' := [(0, _), (1, _)]) (tk_X10_product.at 21 rfl) (by decide) rfl rfl ?_
        refine X_iload_n (tk_X10_product.at 22 rfl) rfl ?_
        refine X_if_le (tgt := 114) (tk_X10_product.at 23 rfl) (by decide) (fun _ => ?_) (fun h => absurd h (by decide))
        refine X_return (tk_X10_product.at 50 rfl) rfl ?_
        rw [pF_end (lvl_no.2.2.2.2 t7 t22 t37)] at hK
        exact hK
set_option maxHeartbeats 1000000 in
theorem rxl_4_64 {G : Gl} {S : Sh} {μ : Mu} {o n : Nat} {q : Nat → Nat} {nm : Int32 → Int32} {f : Nat} (hM : MS S o q) (h5 : μ (o + 1) 5 = nI n) (hn : n ≤ 50) (ih : RdOK G S μ o n nm f) (op : Nat) (s : Ps) (D : Nat) (K : Sh → Mu → Prop) (rest : List (Nat × Value)) (hop : op ≤ 5) (hs : s.1 ≤ n) (hc : s.2.2.1 ≤ s.1) (hm : 20 * (n - s.1) + 1 < f + 1) (hD : 6 * (5 - op) + (5 - 4) + 8 ≤ D) (hK : K S (PM μ o op (pF (fun k => μ (o + 1) (140 + k)) n nm (f + 1) 1 4 op s))) : X G mi_X10_product D 0 64 ([(0, .ref o)] ++ rest) [] S (PM μ o op s) (qv K) := by
  obtain ⟨D, rfl⟩ : ∃ D', D = D' + 8 := ⟨D - 8, by omega⟩
  refine X_lvp [0] (lv' := [(0, _)]) rfl ?_
  refine X_aload_n (tk_X10_product.at 29 rfl) rfl ?_
  refine X_bipush (tk_X10_product.at 30 rfl) cb_42 ?_
  refine X_cV1i (lv2 := [(0, _), (1, _)]) (tk_X10_product.at 31 rfl) mv_X10_takes lk_x10_203 np_X10_takes hM.f0 (by decide) rfl (Nat.le_of_ble_eq_true rfl) (Nat.le_of_ble_eq_true rfl) rfl (c10_takes hM h5 hn hs (fun t67 => ?_) (fun t67 => ?_))
  · have hi := hr_in (T := (fun k => μ (o + 1) (140 + k))) (n := n) (s := s) (by rw [t67]; decide)
    have hi2 := hi.2
    have el : lvl (hr (fun k => μ (o + 1) (140 + k)) n s) = 4 := by rw [t67]; decide
    have eo : opc (hr (fun k => μ (o + 1) (140 + k)) n s) = 20007 := by rw [t67]; decide
    have a1 : (ad s).1 = s.1 + 1 := rfl
    have a2 : (ad s).2.2.1 = s.2.2.1 := rfl
    have ha : (ad s).1 ≤ n := hi2
    have hca : (ad s).2.2.1 ≤ (ad s).1 := by omega
    refine X_if_eq (tgt := 79) (tk_X10_product.at 32 rfl) (by decide) (fun h => absurd h (by decide)) (fun _ => ?_)
    refine X_sipush (tk_X10_product.at 33 rfl) cs_20007 ?_
    refine X_goto (tgt := 110) (tk_X10_product.at 34 rfl) (by decide) ?_
    refine X_istore_n (lv' := [(0, _), (1, _)]) (tk_X10_product.at 48 rfl) (by decide) rfl rfl ?_
    refine X_goto (tgt := 51) (tk_X10_product.at 49 rfl) (by decide) ?_
    refine X_iload_n (tk_X10_product.at 22 rfl) rfl ?_
    refine X_if_le (tgt := 114) (tk_X10_product.at 23 rfl) (by decide) (fun h => absurd h (by decide)) (fun _ => ?_)
    refine X_aload_n (tk_X10_product.at 24 rfl) rfl ?_
    refine X_cV0v (lv2 := [(0, _)]) (tk_X10_product.at 25 rfl) mv_X10_one lk_x10_218 np_X10_one hM.f0 (by decide) rfl (Nat.le_of_ble_eq_true rfl) (Nat.le_of_ble_eq_true rfl) rfl (ih.1 5 op (ad s) _ _ (by decide) hop ha hca (by omega) (by omega) ?_)
    have g := pF_g (T := (fun k => μ (o + 1) (140 + k))) (nm := nm) f 0 5 op (ad s) ha (by decide)
    obtain ⟨g1, g2, g3⟩ := g
    refine X_aload_n (tk_X10_product.at 26 rfl) rfl ?_
    refine X_iload_n (tk_X10_product.at 27 rfl) rfl ?_
    refine X_cV1v (lv2 := [(0, _), (1, _)]) (tk_X10_product.at 28 rfl) mv_X10_codes lk_x10_206 np_X10_codes hM.f0 (by decide) rfl (Nat.le_of_ble_eq_true rfl) (Nat.le_of_ble_eq_true rfl) rfl (c10_codes (n := n) hM (by omega) ?_)
    have e1 := em_1 (s := pF (fun k => μ (o + 1) (140 + k)) n nm f 0 5 op (ad s)) (v := 20007)
    have e2 := em_c (s := pF (fun k => μ (o + 1) (140 + k)) n nm f 0 5 op (ad s)) (v := 20007)
    exact ih.2.2.2.2.2.2.2 op _ _ K [(1, _)] hop (by omega) (by omega) (by omega) (by omega) (by rw [pF_more el (by decide), eo] at hK; exact hK)
  · refine X_if_eq (tgt := 79) (tk_X10_product.at 32 rfl) (by decide) (fun _ => ?_) (fun h => absurd h (by decide))
    refine X_aload_n (tk_X10_product.at 35 rfl) rfl ?_
    refine X_bipush (tk_X10_product.at 36 rfl) cb_47 ?_
    refine X_cV1i (lv2 := [(0, _), (1, _)]) (tk_X10_product.at 37 rfl) mv_X10_takes lk_x10_203 np_X10_takes hM.f0 (by decide) rfl (Nat.le_of_ble_eq_true rfl) (Nat.le_of_ble_eq_true rfl) rfl (c10_takes hM h5 hn hs (fun t82 => ?_) (fun t82 => ?_))
    · have hi := hr_in (T := (fun k => μ (o + 1) (140 + k))) (n := n) (s := s) (by rw [t82]; decide)
      have hi2 := hi.2
      have el : lvl (hr (fun k => μ (o + 1) (140 + k)) n s) = 4 := by rw [t82]; decide
      have eo : opc (hr (fun k => μ (o + 1) (140 + k)) n s) = 20008 := by rw [t82]; decide
      have a1 : (ad s).1 = s.1 + 1 := rfl
      have a2 : (ad s).2.2.1 = s.2.2.1 := rfl
      have ha : (ad s).1 ≤ n := hi2
      have hca : (ad s).2.2.1 ≤ (ad s).1 := by omega
      refine X_if_eq (tgt := 94) (tk_X10_product.at 38 rfl) (by decide) (fun h => absurd h (by decide)) (fun _ => ?_)
      refine X_sipush (tk_X10_product.at 39 rfl) cs_20008 ?_
      refine X_goto (tgt := 110) (tk_X10_product.at 40 rfl) (by decide) ?_
      refine X_istore_n (lv' := [(0, _), (1, _)]) (tk_X10_product.at 48 rfl) (by decide) rfl rfl ?_
      refine X_goto (tgt := 51) (tk_X10_product.at 49 rfl) (by decide) ?_
      refine X_iload_n (tk_X10_product.at 22 rfl) rfl ?_
      refine X_if_le (tgt := 114) (tk_X10_product.at 23 rfl) (by decide) (fun h => absurd h (by decide)) (fun _ => ?_)
      refine X_aload_n (tk_X10_product.at 24 rfl) rfl ?_
      refine X_cV0v (lv2 := [(0, _)]) (tk_X10_product.at 25 rfl) mv_X10_one lk_x10_218 np_X10_one hM.f0 (by decide) rfl (Nat.le_of_ble_eq_true rfl) (Nat.le_of_ble_eq_true rfl) rfl (ih.1 5 op (ad s) _ _ (by decide) hop ha hca (by omega) (by omega) ?_)
      have g := pF_g (T := (fun k => μ (o + 1) (140 + k))) (nm := nm) f 0 5 op (ad s) ha (by decide)
      obtain ⟨g1, g2, g3⟩ := g
      refine X_aload_n (tk_X10_product.at 26 rfl) rfl ?_
      refine X_iload_n (tk_X10_product.at 27 rfl) rfl ?_
      refine X_cV1v (lv2 := [(0, _), (1, _)]) (tk_X10_product.at 28 rfl) mv_X10_codes lk_x10_206 np_X10_codes hM.f0 (by decide) rfl (Nat.le_of_ble_eq_true rfl) (Nat.le_of_ble_eq_true rfl) rfl (c10_codes (n := n) hM (by omega) ?_)
      have e1 := em_1 (s := pF (fun k => μ (o + 1) (140 + k)) n nm f 0 5 op (ad s)) (v := 20008)
      have e2 := em_c (s := pF (fun k => μ (o + 1) (140 + k)) n nm f 0 5 op (ad s)) (v := 20008)
      exact ih.2.2.2.2.2.2.2 op _ _ K [(1, _)] hop (by omega) (by omega) (by omega) (by omega) (by rw [pF_more el (by decide), eo] at hK; exact hK)
    · refine X_if_eq (tgt := 94) (tk_X10_product.at 38 rfl) (by decide) (fun _ => ?_) (fun h => absurd h (by decide))
      refine X_aload_n (tk_X10_product.at 41 rfl) rfl ?_
      refine X_bipush (tk_X10_product.at 42 rfl) cb_37 ?_
      refine X_cV1i (lv2 := [(0, _), (1, _)]) (tk_X10_product.at 43 rfl) mv_X10_takes lk_x10_203 np_X10_takes hM.f0 (by decide) rfl (Nat.le_of_ble_eq_true rfl) (Nat.le_of_ble_eq_true rfl) rfl (c10_takes hM h5 hn hs (fun t97 => ?_) (fun t97 => ?_))
      · have hi := hr_in (T := (fun k => μ (o + 1) (140 + k))) (n := n) (s := s) (by rw [t97]; decide)
        have hi2 := hi.2
        have el : lvl (hr (fun k => μ (o + 1) (140 + k)) n s) = 4 := by rw [t97]; decide
        have eo : opc (hr (fun k => μ (o + 1) (140 + k)) n s) = 20009 := by rw [t97]; decide
        have a1 : (ad s).1 = s.1 + 1 := rfl
        have a2 : (ad s).2.2.1 = s.2.2.1 := rfl
        have ha : (ad s).1 ≤ n := hi2
        have hca : (ad s).2.2.1 ≤ (ad s).1 := by omega
        refine X_if_eq (tgt := 109) (tk_X10_product.at 44 rfl) (by decide) (fun h => absurd h (by decide)) (fun _ => ?_)
        refine X_sipush (tk_X10_product.at 45 rfl) cs_20009 ?_
        refine X_goto (tgt := 110) (tk_X10_product.at 46 rfl) (by decide) ?_
        refine X_istore_n (lv' := [(0, _), (1, _)]) (tk_X10_product.at 48 rfl) (by decide) rfl rfl ?_
        refine X_goto (tgt := 51) (tk_X10_product.at 49 rfl) (by decide) ?_
        refine X_iload_n (tk_X10_product.at 22 rfl) rfl ?_
        refine X_if_le (tgt := 114) (tk_X10_product.at 23 rfl) (by decide) (fun h => absurd h (by decide)) (fun _ => ?_)
        refine X_aload_n (tk_X10_product.at 24 rfl) rfl ?_
        refine X_cV0v (lv2 := [(0, _)]) (tk_X10_product.at 25 rfl) mv_X10_one lk_x10_218 np_X10_one hM.f0 (by decide) rfl (Nat.le_of_ble_eq_true rfl) (Nat.le_of_ble_eq_true rfl) rfl (ih.1 5 op (ad s) _ _ (by decide) hop ha hca (by omega) (by omega) ?_)
        have g := pF_g (T := (fun k => μ (o + 1) (140 + k))) (nm := nm) f 0 5 op (ad s) ha (by decide)
        obtain ⟨g1, g2, g3⟩ := g
        refine X_aload_n (tk_X10_product.at 26 rfl) rfl ?_
        refine X_iload_n (tk_X10_product.at 27 rfl) rfl ?_
        refine X_cV1v (lv2 := [(0, _), (1, _)]) (tk_X10_product.at 28 rfl) mv_X10_codes lk_x10_206 np_X10_codes hM.f0 (by decide) rfl (Nat.le_of_ble_eq_true rfl) (Nat.le_of_ble_eq_true rfl) rfl (c10_codes (n := n) hM (by omega) ?_)
        have e1 := em_1 (s := pF (fun k => μ (o + 1) (140 + k)) n nm f 0 5 op (ad s)) (v := 20009)
        have e2 := em_c (s := pF (fun k => μ (o + 1) (140 + k)) n nm f 0 5 op (ad s)) (v := 20009)
        exact ih.2.2.2.2.2.2.2 op _ _ K [(1, _)] hop (by omega) (by omega) (by omega) (by omega) (by rw [pF_more el (by decide), eo] at hK; exact hK)
      · refine X_if_eq (tgt := 109) (tk_X10_product.at 44 rfl) (by decide) (fun _ => ?_) (fun h => absurd h (by decide))
        refine X_iconst (tk_X10_product.at 47 rfl) ci_0 ?_
        refine X_istore_n (lv' := [(0, _), (1, _)]) (tk_X10_product.at 48 rfl) (by decide) rfl rfl ?_
        refine X_goto (tgt := 51) (tk_X10_product.at 49 rfl) (by decide) ?_
        refine X_iload_n (tk_X10_product.at 22 rfl) rfl ?_
        refine X_if_le (tgt := 114) (tk_X10_product.at 23 rfl) (by decide) (fun _ => ?_) (fun h => absurd h (by decide))
        refine X_return (tk_X10_product.at 50 rfl) rfl ?_
        rw [pF_end (lvl_no.2.2.2.2 t67 t82 t97)] at hK
        exact hK
