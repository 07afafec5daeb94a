def lon2 (lv : List (Nat × Value)) (i : Nat) : Bool := lv.all (fun q => !(q.1 + 1 == i && q.2.category == 2))
theorem lv_setM {ls : Array Slot} {nL : Nat} {lv lv' : List (Nat × Value)} {i : Nat} {v : Value} (h : lv_has ls nL ((i, v) :: lv.filter (fun q => !(q.1 == i) && !(q.1 + 1 == i && q.2.category == 2)))) (h1 : lon2 lv i = true) (hl : lset lv i v = lv') : lv_has ls nL lv' := by
  refine ⟨h.1, h.2.1, fun q hq => ?_⟩
  rw [← hl] at hq
  rcases lset_mem hq with e | ⟨h2, h3⟩
  · rw [e]; exact h.2.2 _ List.mem_cons_self
  · refine h.2.2 q (List.mem_cons_of_mem _ (List.mem_filter.mpr ⟨h2, ?_⟩))
    have hc := List.all_eq_true.mp h1 q h2
    rw [hc, Bool.and_true]
    simp [h3]
section
variable {G : Gl} {mi : MI} {d kc pc nx : Nat} {lv lv' : List (Nat × Value)} {rest : List Value} {S : Sh} {μ : Mu} {Q : Option Value → Sh → Mu → Prop}
theorem X_istoreL {n : Nat} {x : Int32} (hd : Dc mi.2.1 pc (.istore n) 2 nx) (hn : n < mi.2.2.1) (h1 : lon2 lv n = true) (hs : lset lv n (Value.int x) = lv') (k : X G mi d kc nx lv' rest S μ Q) : X G mi d kc pc lv (Value.int x :: rest) S μ Q := by
  intro p l e R s m args below meth c mc Z C hZ H locs cells slots ls hR hk hl
  obtain ⟨hd, rfl⟩ := hd
  exact lv_istore C.1 C.2.1 hd hl hn rfl (fun ls' hl' => k p l e R s m args below meth c mc Z C hZ H locs cells slots ls' hR hk (lv_setM hl' h1 hs))
theorem X_iincL {i : Nat} {n : Int} {x v : Int32} (hd : Dc mi.2.1 pc (.iinc i n) 3 nx) (hv : lget lv i = some (.int x)) (hw : Int32.ofInt n = v) (hn : i < mi.2.2.1) (h1 : lon2 lv i = true) (hs : lset lv i (.int (x + v)) = lv') (k : X G mi d kc nx lv' rest S μ Q) : X G mi d kc pc lv rest S μ Q := by
  intro p l e R s m args below meth c mc Z C hZ H locs cells slots ls hR hk hl
  obtain ⟨hd, rfl⟩ := hd
  obtain ⟨k0, hk0⟩ := List.getElem?_of_mem (lget_mem hv)
  subst hw
  exact lv_iinc C.1 C.2.1 hd hl hk0 rfl hn rfl (fun ls' hl' => k p l e R s m args below meth c mc Z C hZ H locs cells slots ls' hR hk (lv_setM hl' h1 hs))
end
theorem WF_ext {N M : Nat → Int32} (h : ∀ a, ((1 ≤ a ∧ a ≤ 5) ∨ (8 ≤ a ∧ a < 190) ∨ 210 ≤ a) → M a = N a) (h0 : okN (M 0) 1439) (h6 : okN (M 6) 20) (hw : WF N) : WF M := by
  have e1 : M 1 = N 1 := h 1 (by omega)
  have e2 : M 2 = N 2 := h 2 (by omega)
  have e3 : M 3 = N 3 := h 3 (by omega)
  have e4 : M 4 = N 4 := h 4 (by omega)
  have e5 : M 5 = N 5 := h 5 (by omega)
  have eo : ∀ r i p, On M r i p → On N r i p := by
    intro r i p g
    have hr : r < nv (N 3) := by rw [← e3]; exact g.1
    have b3 := hw.n3.2
    have x3 : M (83 + 9 * r) = N (83 + 9 * r) := h _ (by omega)
    have hi : i < nv (N (83 + 9 * r)) := by rw [← x3]; exact g.2.1
    have bm := (hw.ro hr).2.2.2.1.2
    have x4 : M (84 + 9 * r + i) = N (84 + 9 * r + i) := h _ (by omega)
    exact ⟨hr, hi, by rw [← x4]; exact g.2.2⟩
  refine ⟨⟨h0, by rw [e1]; exact hw.n1, by rw [e2]; exact hw.n2, by rw [e3]; exact hw.n3, by rw [e4]; exact hw.n4, by rw [e5]; exact hw.n5, h6⟩, ?_, ?_, ?_, ?_, ?_, ?_, ?_, ?_⟩
  · intro p hp
    rw [e1] at hp
    have b := hw.n1.2
    have g := hw.pe hp
    unfold WFp at g ⊢
    rw [h (8 + 4 * p) (by omega), h (9 + 4 * p) (by omega), h (10 + 4 * p) (by omega), h (11 + 4 * p) (by omega)]
    exact g
  · intro p hp
    rw [e2] at hp
    have b := hw.n2.2
    have g := hw.pc hp
    unfold WFc at g ⊢
    rw [h (48 + 4 * p) (by omega), h (49 + 4 * p) (by omega), h (50 + 4 * p) (by omega), h (51 + 4 * p) (by omega)]
    exact g
  · intro r hr
    rw [e3] at hr
    have b := hw.n3.2
    have g := hw.ro hr
    have bm := g.2.2.2.1.2
    unfold WFr at g ⊢
    rw [h (80 + 9 * r) (by omega), h (81 + 9 * r) (by omega), h (82 + 9 * r) (by omega), h (83 + 9 * r) (by omega), e1]
    refine ⟨g.1, g.2.1, g.2.2.1, g.2.2.2.1, fun i hi => ?_⟩
    rw [h (84 + 9 * r + i) (by omega)]
    exact g.2.2.2.2 i hi
  · intro r i r' i' p g1 g2
    exact hw.un (eo _ _ _ g1) (eo _ _ _ g2)
  · intro k hk
    rw [e4] at hk
    have b := hw.n4.2
    rw [h (134 + k) (by omega), e3]
    exact hw.li hk
  · intro k k' hk hk' e
    rw [e4] at hk hk'
    have b := hw.n4.2
    rw [h (134 + k) (by omega), h (134 + k') (by omega)] at e
    exact hw.lu hk hk' e
  · intro k hk
    rw [e5] at hk
    have b := hw.n5.2
    rw [h (140 + k) (by omega)]
    exact hw.ta hk
  · intro u hu
    have g := hw.tx hu
    rw [h (210 + 52 * u) (by omega), show (fun k => M (211 + 52 * u + k)) = (fun k => N (211 + 52 * u + k)) from funext (fun k => h _ (by omega))]
    exact g
theorem WF_u0 {N : Nat → Int32} (hw : WF N) {x : Int32} (hx : okN x 1439) : WF (upd N 0 x) :=
  WF_ext (fun a h => upd_ne _ _ (by omega)) (by rw [upd_at]; exact hx) (by rw [upd_ne _ _ (by omega)]; exact hw.n6) hw
theorem WF_u6 {N : Nat → Int32} (hw : WF N) {x : Int32} (hx : okN x 20) : WF (upd N 6 x) :=
  WF_ext (fun a h => upd_ne _ _ (by omega)) (by rw [upd_ne _ _ (by omega)]; exact hw.n0) (by rw [upd_at]; exact hx) hw
theorem WF_u7 {N : Nat → Int32} (hw : WF N) (x : Int32) : WF (upd N 7 x) :=
  WF_ext (fun a h => upd_ne _ _ (by omega)) (by rw [upd_ne _ _ (by omega)]; exact hw.n0) (by rw [upd_ne _ _ (by omega)]; exact hw.n6) hw
def ab (k : Nat) : Nat := if k = 3 then 2 else if k = 5 then 4 else 0
def rkk (k : Nat) : Nat := if k = 0 then 0 else if k = 3 ∨ k = 5 then 2 else 1
def und (k a : Nat) : Bool := k == a || (k != 0 && (ab k == a || a == 0))
theorem und_st : ∀ k, k < 7 → ∀ a, a < 7 → k ≠ a → k ≠ 0 → und k a = und (ab k) a := by decide
theorem und_0 : ∀ a, a < 7 → 0 ≠ a → und 0 a = false := by decide
theorem und_eq (k : Nat) : und k k = true := by unfold und; simp
theorem abv_0 : abv 0 = -1 := by decide
theorem abv_ab : ∀ k, k < 7 → k ≠ 0 → abv k = nI (ab k) ∧ ab k < 7 ∧ rkk (ab k) < rkk k := by decide
def pplc (f : Nat → Int32) (z b n : Nat) (N : Nat → Int32) : Prop := 4 * n + 4 ≤ z ∧ nv (N 1) < 10 ∧ Told (f (b + 4 * n)) (f (1 + b + 4 * n)) (f (2 + b + 4 * n)) (f (3 + b + 4 * n))
def pplN (f : Nat → Int32) (b n : Nat) (N : Nat → Int32) : Nat → Int32 := addN N 8 (nv (N 1)) (f (b + 4 * n)) (f (1 + b + 4 * n)) (f (2 + b + 4 * n)) (f (3 + b + 4 * n)) 1
/-- who comes out of a sheet: how many, and the row behind them -/
noncomputable def ppl (f : Nat → Int32) (z b : Nat) : Nat → Nat → (Nat → Int32) → Nat × (Nat → Int32)
  | 0, n, N => (n, N)
  | m + 1, n, N => @ite _ (pplc f z b n N) (Classical.propDecidable _) (ppl f z b m (n + 1) (pplN f b n N)) (n, N)
def byR (w : Int64) (k : Nat) : Int32 := ((w >>> ((nI (8 * k)).toInt64 &&& 63)) &&& 255).toInt32
def fdN (N : Nat → Int32) (w : Int64) : Nat → Nat → Int32
  | 0 => N
  | k + 1 => upd (upd (fdN N w k) (140 + (nv (N 5) + k)) (byR w k)) 5 (nI (nv (N 5) + (k + 1)))
theorem fdN_5 {N : Nat → Int32} (h : N 5 = nI (nv (N 5))) (w : Int64) : ∀ k, fdN N w k 5 = nI (nv (N 5) + k)
  | 0 => h
  | k + 1 => upd_at _ _ _
/-- what a check finds: 0, or 1 and the first place that is wrong -/
def ck (N : Nat → Int32) (W : Nat) : Nat → Nat → Nat → Nat → Nat
  | 0, _, _, _ => 0
  | f + 1, k, i, n => if k < nv (N 4) then (if i < mny N (lnA N k) then (if W ≤ n ∨ ¬ N (190 + n) = N (84 + 9 * lnA N k + i) then 1 + n else ck N W f k (i + 1) (n + 1)) else ck N W f (k + 1) 0 n) else if n < W then 1 + n else 0
theorem ck_end {N : Nat → Int32} {W f k i n : Nat} (h : ¬ k < nv (N 4)) : ck N W (f + 1) k i n = if n < W then 1 + n else 0 := by rw [ck, if_neg h]
theorem ck_bad {N : Nat → Int32} {W f k i n : Nat} (h : k < nv (N 4)) (h1 : i < mny N (lnA N k)) (h2 : W ≤ n ∨ ¬ N (190 + n) = N (84 + 9 * lnA N k + i)) : ck N W (f + 1) k i n = 1 + n := by rw [ck, if_pos h, if_pos h1, if_pos h2]
theorem ck_go {N : Nat → Int32} {W f k i n : Nat} (h : k < nv (N 4)) (h1 : i < mny N (lnA N k)) (h2 : ¬ (W ≤ n ∨ ¬ N (190 + n) = N (84 + 9 * lnA N k + i))) : ck N W (f + 1) k i n = ck N W f k (i + 1) (n + 1) := by rw [ck, if_pos h, if_pos h1, if_neg h2]
theorem ck_row {N : Nat → Int32} {W f k i n : Nat} (h : k < nv (N 4)) (h1 : ¬ i < mny N (lnA N k)) : ck N W (f + 1) k i n = ck N W f (k + 1) 0 n := by rw [ck, if_pos h, if_neg h1]
set_option maxHeartbeats 1000000 in
theorem c10_as {G : Gl} {d : Nat} {S : Sh} {μ : Mu} {o : Nat} {q : Nat → Nat} {r a : Int32} {K : Int32 → Sh → Mu → Prop} (hM : MS S o q) (hw : WF (μ (o + 1))) (k1 : ¬ (In r (nv (μ (o + 1) 3)) ∧ (0 ≤ a ∧ a ≤ 6)) → K (-1000000001) S (er μ o 1)) (k2 : ∀ j x, j < nv (μ (o + 1) 3) → x < 7 → r = nI j → a = nI x → und (nv (μ (o + 1) (80 + 9 * j))) x = false → K (-1000000005) S (er μ o 5)) (k3 : ∀ j x, j < nv (μ (o + 1) 3) → x < 7 → r = nI j → a = nI x → und (nv (μ (o + 1) (80 + 9 * j))) x = true → K (μ (o + 1) (82 + 9 * j)) S μ) : X G mi_X10_as (d + 2) 0 0 [(0, .ref o), (1, .int r), (2, .int a)] [] S μ (qi K) := by
  have w0 := hw.n0
  have w1 := hw.n1
  have w2 := hw.n2
  have w3 := hw.n3
  have w4 := hw.n4
  have w5 := hw.n5
  have w6 := hw.n6
  have b1 := w1.2
  have b2 := w2.2
  have b3 := w3.2
  have b4 := w4.2
  have b5 := w5.2
  have b6 := w6.2
  have b0 := w0.2
  refine X_aload_n (tk_X10_as.at 0 rfl) rfl ?_
  refine X_iload_n (tk_X10_as.at 1 rfl) rfl ?_
  refine X_iconst (tk_X10_as.at 2 rfl) ci_3 ?_
  refine X_cV2i (lv2 := [(0, _), (1, _), (2, _)]) (tk_X10_as.at 3 rfl) mv_X10_is lk_x10_90 np_X10_is hM.f0 (by decide) rfl (Nat.le_of_ble_eq_true rfl) (Nat.le_of_ble_eq_true rfl) rfl (c10_is hM (pl 3 rfl) (by decide) w3.1 (by omega) (fun j3 hj3 ej3 => ?_) (fun hj3 => ?_))
  · refine X_if_eq (tgt := 19) (tk_X10_as.at 4 rfl) (by decide) (fun h => absurd h (by decide)) (fun _ => ?_)
    refine X_iload_n (tk_X10_as.at 5 rfl) rfl ?_
    refine X_iconst (tk_X10_as.at 6 rfl) ci_0 ?_
    refine X_bipush (tk_X10_as.at 7 rfl) cb_6 ?_
    refine X_cS3i (lv2 := [(0, _), (1, _), (2, _)]) (tk_X10_as.at 8 rfl) ms_X10_within lk_x10_69 np_X10_within (Nat.le_of_ble_eq_true rfl) (Nat.le_of_ble_eq_true rfl) rfl (c10_within (fun h13 h1013 => ?_) (fun h13 => ?_))
    · obtain ⟨ew13, lw13, bw13⟩ := le_lits (a := 0) (b := 6) (by decide) h13 h1013 (by decide)
      refine X_if_ne (tgt := 26) (tk_X10_as.at 9 rfl) (by decide) (fun _ => ?_) (fun h => absurd h (by decide))
      refine X_aload_n (tk_X10_as.at 14 rfl) rfl ?_
      refine X_iload_n (tk_X10_as.at 15 rfl) rfl ?_
      refine X_iconst (tk_X10_as.at 16 rfl) ci_0 ?_
      refine X_cV2i (lv2 := [(0, _), (1, _), (2, _)]) (tk_X10_as.at 17 rfl) mv_X10_rope lk_x10_115 np_X10_rope hM.f0 (by decide) rfl (Nat.le_of_ble_eq_true rfl) (Nat.le_of_ble_eq_true rfl) rfl (c10_rope (k := 80 + 9 * j3) hM ej3 (pl 0 rfl) (by omega) (by omega) (by omega) ?_)
      refine X_istore_n (lv' := [(0, _), (1, _), (2, _), (3, _)]) (tk_X10_as.at 18 rfl) (by decide) rfl rfl ?_
      have wr := hw.ro hj3
      have e0 := wr.1.1
      have b0k := wr.1.2
      have neg : (K (-1000000005) S (er μ o 5)) → X G mi_X10_as (d + 2) 0 33 [(0, .ref o), (1, .int r), (2, .int a), (3, .int (-1))] [] S μ (qi K) := by
        intro h2
        refine X_iload_n (tk_X10_as.at 19 rfl) rfl ?_
        refine X_if_lt (tgt := 50) (tk_X10_as.at 20 rfl) (by decide) (fun _ => ?_) (fun h => absurd h (by decide))
        refine X_iload_n (tk_X10_as.at 28 rfl) rfl ?_
        refine X_if_ge (tgt := 63) (tk_X10_as.at 29 rfl) (by decide) (fun h => absurd h (by decide)) (fun _ => ?_)
        refine X_aload_n (tk_X10_as.at 30 rfl) rfl ?_
        refine X_ldc (tk_X10_as.at 31 rfl) kn_x10_145 ?_
        refine X_cV1i (lv2 := [(0, _), (1, _)]) (tk_X10_as.at 32 rfl) mv_X10_finding lk_x10_82 np_X10_finding hM.f0 (by decide) rfl (Nat.le_of_ble_eq_true rfl) (Nat.le_of_ble_eq_true rfl) rfl (c10_finding (k := 5) hM (by decide) (by decide) ?_)
        refine X_goto (tgt := 69) (tk_X10_as.at 33 rfl) (by decide) ?_
        refine X_ireturn (tk_X10_as.at 38 rfl) rfl rfl ?_
        exact h2
      have loop : ∀ (m k : Nat), k < 7 → rkk k < m → (und k (nv a) = true → K (μ (o + 1) (82 + 9 * j3)) S μ) → (und k (nv a) = false → K (-1000000005) S (er μ o 5)) → X G mi_X10_as (d + 2) 0 33 [(0, .ref o), (1, .int r), (2, .int a), (3, .int (nI k))] [] S μ (qi K) := by
        intro m
        induction m with
        | zero => intro k _ h; exact absurd h (Nat.not_lt_zero _)
        | succ m ih =>
          intro k hk hm h1 h2
          refine X_iload_n (tk_X10_as.at 19 rfl) rfl ?_
          refine X_if_ltN (tgt := 50) (tk_X10_as.at 20 rfl) (by decide) (pl k rfl) (by omega) ?_
          refine X_iload_n (tk_X10_as.at 21 rfl) rfl ?_
          refine X_iload_n (tk_X10_as.at 22 rfl) rfl ?_
          refine X_icmp_eqN (tgt := 50) (tk_X10_as.at 23 rfl) (by decide) (pl k rfl) ew13 (by omega) (by omega) (fun c2 => ?_) (fun c2 => ?_)
          · refine X_iload_n (tk_X10_as.at 28 rfl) rfl ?_
            refine X_if_geN (tgt := 63) (tk_X10_as.at 29 rfl) (by decide) (pl k rfl) (by omega) ?_
            refine X_aload_n (tk_X10_as.at 34 rfl) rfl ?_
            refine X_iload_n (tk_X10_as.at 35 rfl) rfl ?_
            refine X_iconst (tk_X10_as.at 36 rfl) ci_2 ?_
            refine X_cV2i (lv2 := [(0, _), (1, _), (2, _)]) (tk_X10_as.at 37 rfl) mv_X10_rope lk_x10_115 np_X10_rope hM.f0 (by decide) rfl (Nat.le_of_ble_eq_true rfl) (Nat.le_of_ble_eq_true rfl) rfl (c10_rope (k := 82 + 9 * j3) hM ej3 (pl 2 rfl) (by omega) (by omega) (by omega) ?_)
            refine X_ireturn (tk_X10_as.at 38 rfl) rfl rfl ?_
            exact h1 (by rw [← c2]; exact und_eq k)
          · refine X_iload_n (tk_X10_as.at 24 rfl) rfl ?_
            refine X_cS1i (lv2 := [(0, _)]) (tk_X10_as.at 25 rfl) ms_X10_above lk_x10_142 np_X10_above (Nat.le_of_ble_eq_true rfl) (Nat.le_of_ble_eq_true rfl) rfl (c10_above (pl k rfl) (by omega) ?_)
            refine X_istore_n (lv' := [(0, _), (1, _), (2, _), (3, _)]) (tk_X10_as.at 26 rfl) (by decide) rfl rfl ?_
            refine X_goto (tgt := 33) (tk_X10_as.at 27 rfl) (by decide) ?_
            by_cases z : k = 0
            · subst z
              rw [abv_0]
              exact neg (h2 (und_0 (nv a) (by omega) (by omega)))
            · obtain ⟨q1, q2, q3⟩ := abv_ab k hk z
              have q4 := und_st k hk (nv a) (by omega) (by omega) z
              rw [q1]
              exact ih (ab k) q2 (by omega) (fun g => h1 (by rw [q4]; exact g)) (fun g => h2 (by rw [q4]; exact g))
      rw [e0]
      have r3 : ∀ k, k < 7 → rkk k < 3 := by decide
      have b7 : nv (μ (o + 1) (80 + 9 * j3)) < 7 := by omega
      exact loop 3 (nv (μ (o + 1) (80 + 9 * j3))) b7 (r3 _ b7) (fun g => k3 j3 (nv a) hj3 (by omega) ej3 ew13 g) (fun g => k2 j3 (nv a) hj3 (by omega) ej3 ew13 g)
    · refine X_if_ne (tgt := 26) (tk_X10_as.at 9 rfl) (by decide) (fun h => absurd h (by decide)) (fun _ => ?_)
      refine X_aload_n (tk_X10_as.at 10 rfl) rfl ?_
      refine X_ldc (tk_X10_as.at 11 rfl) kn_x10_81 ?_
      refine X_cV1i (lv2 := [(0, _), (1, _)]) (tk_X10_as.at 12 rfl) mv_X10_finding lk_x10_82 np_X10_finding hM.f0 (by decide) rfl (Nat.le_of_ble_eq_true rfl) (Nat.le_of_ble_eq_true rfl) rfl (c10_finding (k := 1) hM (by decide) (by decide) ?_)
      refine X_ireturn (tk_X10_as.at 13 rfl) rfl rfl ?_
      exact k1 (fun g => by first | exact h13 g.2 | exact In_no (by omega) hj3 g.1)
  · refine X_if_eq (tgt := 19) (tk_X10_as.at 4 rfl) (by decide) (fun _ => ?_) (fun h => absurd h (by decide))
    refine X_aload_n (tk_X10_as.at 10 rfl) rfl ?_
    refine X_ldc (tk_X10_as.at 11 rfl) kn_x10_81 ?_
    refine X_cV1i (lv2 := [(0, _), (1, _)]) (tk_X10_as.at 12 rfl) mv_X10_finding lk_x10_82 np_X10_finding hM.f0 (by decide) rfl (Nat.le_of_ble_eq_true rfl) (Nat.le_of_ble_eq_true rfl) rfl (c10_finding (k := 1) hM (by decide) (by decide) ?_)
    refine X_ireturn (tk_X10_as.at 13 rfl) rfl rfl ?_
    exact k1 (fun g => by first | exact h13 g.2 | exact In_no (by omega) hj3 g.1)
set_option maxHeartbeats 1000000 in
theorem c10_people {G : Gl} {d : Nat} {S : Sh} {μ : Mu} {o : Nat} {q : Nat → Nat} {s : Int32} {K : Int32 → Sh → Mu → Prop} (hM : MS S o q) (hw : WF (μ (o + 1))) (hz : ∀ j, j < 4 → okN (μ (o + 15) j) 40) (k1 : ¬ In s 4 → K (-1000000001) S (er μ o 1)) (k2 : ∀ a, a < 4 → s = nI a → μ (o + 14) a = 0 → K (-1000000002) S (er μ o 2)) (k3 : ∀ a, a < 4 → s = nI a → ¬ μ (o + 14) a = 0 → K (nI (ppl (μ (o + 16)) (nv (μ (o + 15) a)) (40 * a) 11 0 (μ (o + 1))).1) S (Mx μ (o + 1) (ppl (μ (o + 16)) (nv (μ (o + 15) a)) (40 * a) 11 0 (μ (o + 1))).2)) : X G mi_X10_people (d + 2) 0 0 [(0, .ref o), (1, .int s)] [] S μ (qi K) := by
  refine X_iload_n (tk_X10_people.at 0 rfl) rfl ?_
  refine X_cS1i (lv2 := [(0, _)]) (tk_X10_people.at 1 rfl) ms_X10_isSheet lk_x10_104 np_X10_isSheet (Nat.le_of_ble_eq_true rfl) (Nat.le_of_ble_eq_true rfl) rfl (c10_isSheet (fun s1 hs1 es1 => ?_) (fun hs1 => ?_))
  · refine X_if_ne (tgt := 14) (tk_X10_people.at 2 rfl) (by decide) (fun _ => ?_) (fun h => absurd h (by decide))
    refine X_aload_n (tk_X10_people.at 7 rfl) rfl ?_
    refine X_getR (tk_X10_people.at 8 rfl) fl_x10_56 hM.f0 rfl rfl ?_
    refine X_iload_n (tk_X10_people.at 9 rfl) rfl ?_
    refine X_ialdN (k := s1) (tk_X10_people.at 10 rfl) hM.f14 es1 (by omega) (by decide) ?_
    refine X_if_ne (tgt := 30) (tk_X10_people.at 11 rfl) (by decide) (fun c2 => ?_) (fun c2 => ?_)
    · refine X_iconst (tk_X10_people.at 16 rfl) ci_0 ?_
      refine X_istore_n (lv' := [(0, _), (1, _), (2, _)]) (tk_X10_people.at 17 rfl) (by decide) rfl rfl ?_
      refine X_bipush (tk_X10_people.at 18 rfl) cb_40 ?_
      refine X_iload_n (tk_X10_people.at 19 rfl) rfl ?_
      refine X_imul (tk_X10_people.at 20 rfl) ?_
      refine X_istore_n (lv' := [(0, _), (1, _), (2, _), (3, _)]) (tk_X10_people.at 21 rfl) (by decide) rfl rfl ?_
      have hsz := (hz s1 hs1).1
      have bsz := (hz s1 hs1).2
      have loop : ∀ (m n z : Nat) (ν : Mu), n + m = 11 → n ≤ 10 → z ≤ 40 → ν (o + 15) s1 = nI z → okN (ν (o + 1) 1) 10 → (K (nI (ppl (ν (o + 16)) z (40 * s1) m n (ν (o + 1))).1) S (Mx ν (o + 1) (ppl (ν (o + 16)) z (40 * s1) m n (ν (o + 1))).2)) → X G mi_X10_people (d + 2) 0 37 [(0, .ref o), (1, .int s), (2, .int (nI n)), (3, .int (nI (40 * s1 + 4 * n)))] [] S ν (qi K) := by
        intro m
        induction m with
        | zero => intro n z ν h h2; omega
        | succ m ih =>
          intro n z ν hnm hn10 hz40 hzz h1 hKK
          have b1 := h1.2
          refine X_iconst (tk_X10_people.at 22 rfl) ci_4 ?_
          refine X_iload_n (tk_X10_people.at 23 rfl) rfl ?_
          refine X_imul (tk_X10_people.at 24 rfl) ?_
          refine X_iconst (tk_X10_people.at 25 rfl) ci_4 ?_
          refine X_iadd (tk_X10_people.at 26 rfl) ?_
          refine X_aload_n (tk_X10_people.at 27 rfl) rfl ?_
          refine X_getR (tk_X10_people.at 28 rfl) fl_x10_59 hM.f0 rfl rfl ?_
          refine X_iload_n (tk_X10_people.at 29 rfl) rfl ?_
          refine X_ialdN (k := s1) (tk_X10_people.at 30 rfl) hM.f15 es1 (by omega) (by decide) ?_
          refine X_icmp_gtN (tgt := 143) (tk_X10_people.at 31 rfl) (by decide) (pa (pm (pl 4 rfl) (pl n rfl)) (pl 4 rfl)) hzz (by omega) (by omega) (fun c1 => ?_) (fun c1 => ?_)
          · refine X_iload_n (tk_X10_people.at 91 rfl) rfl ?_
            refine X_ireturn (tk_X10_people.at 92 rfl) rfl rfl ?_
            have e : ¬ pplc (ν (o + 16)) z (40 * s1) n (ν (o + 1)) := fun g => absurd g.1 (by omega)
            rw [ppl, if_neg e] at hKK
            rw [Mx_self] at hKK
            exact hKK
          · refine X_aload_n (tk_X10_people.at 32 rfl) rfl ?_
            refine X_getR (tk_X10_people.at 33 rfl) fl_x10_9 hM.f0 rfl rfl ?_
            refine X_iconst (tk_X10_people.at 34 rfl) ci_1 ?_
            refine X_ialdN (k := 1) (tk_X10_people.at 35 rfl) hM.f1 (pz (pl 1 rfl) (by omega)) (by omega) (by decide) ?_
            refine X_bipush (tk_X10_people.at 36 rfl) cb_10 ?_
            refine X_icmp_geN (tgt := 143) (tk_X10_people.at 37 rfl) (by decide) h1.1 (pl 10 rfl) (by omega) (by omega) (fun c2 => ?_) (fun c2 => ?_)
            · refine X_iload_n (tk_X10_people.at 91 rfl) rfl ?_
              refine X_ireturn (tk_X10_people.at 92 rfl) rfl rfl ?_
              have e : ¬ pplc (ν (o + 16)) z (40 * s1) n (ν (o + 1)) := fun g => absurd g.2.1 (by omega)
              rw [ppl, if_neg e] at hKK
              rw [Mx_self] at hKK
              exact hKK
            · refine X_aload_n (tk_X10_people.at 38 rfl) rfl ?_
              refine X_getR (tk_X10_people.at 39 rfl) fl_x10_62 hM.f0 rfl rfl ?_
              refine X_iload_n (tk_X10_people.at 40 rfl) rfl ?_
              refine X_ialdN (k := 40 * s1 + 4 * n) (tk_X10_people.at 41 rfl) hM.f16 (pz (pl (40 * s1 + 4 * n) rfl) (by omega)) (by omega) (by decide) ?_
              refine X_aload_n (tk_X10_people.at 42 rfl) rfl ?_
              refine X_getR (tk_X10_people.at 43 rfl) fl_x10_62 hM.f0 rfl rfl ?_
              refine X_iload_n (tk_X10_people.at 44 rfl) rfl ?_
              refine X_iconst (tk_X10_people.at 45 rfl) ci_1 ?_
              refine X_iadd (tk_X10_people.at 46 rfl) ?_
              refine X_ialdN (k := 1 + 40 * s1 + 4 * n) (tk_X10_people.at 47 rfl) hM.f16 (pz (pa (pl (40 * s1 + 4 * n) rfl) (pl 1 rfl)) (by omega)) (by omega) (by decide) ?_
              refine X_aload_n (tk_X10_people.at 48 rfl) rfl ?_
              refine X_getR (tk_X10_people.at 49 rfl) fl_x10_62 hM.f0 rfl rfl ?_
              refine X_iload_n (tk_X10_people.at 50 rfl) rfl ?_
              refine X_iconst (tk_X10_people.at 51 rfl) ci_2 ?_
              refine X_iadd (tk_X10_people.at 52 rfl) ?_
              refine X_ialdN (k := 2 + 40 * s1 + 4 * n) (tk_X10_people.at 53 rfl) hM.f16 (pz (pa (pl (40 * s1 + 4 * n) rfl) (pl 2 rfl)) (by omega)) (by omega) (by decide) ?_
              refine X_aload_n (tk_X10_people.at 54 rfl) rfl ?_
              refine X_getR (tk_X10_people.at 55 rfl) fl_x10_62 hM.f0 rfl rfl ?_
              refine X_iload_n (tk_X10_people.at 56 rfl) rfl ?_
              refine X_iconst (tk_X10_people.at 57 rfl) ci_3 ?_
              refine X_iadd (tk_X10_people.at 58 rfl) ?_
              refine X_ialdN (k := 3 + 40 * s1 + 4 * n) (tk_X10_people.at 59 rfl) hM.f16 (pz (pa (pl (40 * s1 + 4 * n) rfl) (pl 3 rfl)) (by omega)) (by omega) (by decide) ?_
              refine X_cS4i (lv2 := [(0, _), (1, _), (2, _), (3, _)]) (tk_X10_people.at 60 rfl) ms_X10_isAsTold lk_x10_77 np_X10_isAsTold (Nat.le_of_ble_eq_true rfl) (Nat.le_of_ble_eq_true rfl) rfl (c10_isAsTold (fun h92 => ?_) (fun h92 => ?_))
              · refine X_if_ne (tgt := 100) (tk_X10_people.at 61 rfl) (by decide) (fun _ => ?_) (fun h => absurd h (by decide))
                refine X_aload_n (tk_X10_people.at 64 rfl) rfl ?_
                refine X_aload_n (tk_X10_people.at 65 rfl) rfl ?_
                refine X_getR (tk_X10_people.at 66 rfl) fl_x10_62 hM.f0 rfl rfl ?_
                refine X_iload_n (tk_X10_people.at 67 rfl) rfl ?_
                refine X_ialdN (k := 40 * s1 + 4 * n) (tk_X10_people.at 68 rfl) hM.f16 (pz (pl (40 * s1 + 4 * n) rfl) (by omega)) (by omega) (by decide) ?_
                refine X_aload_n (tk_X10_people.at 69 rfl) rfl ?_
                refine X_getR (tk_X10_people.at 70 rfl) fl_x10_62 hM.f0 rfl rfl ?_
                refine X_iload_n (tk_X10_people.at 71 rfl) rfl ?_
                refine X_iconst (tk_X10_people.at 72 rfl) ci_1 ?_
                refine X_iadd (tk_X10_people.at 73 rfl) ?_
                refine X_ialdN (k := 1 + 40 * s1 + 4 * n) (tk_X10_people.at 74 rfl) hM.f16 (pz (pa (pl (40 * s1 + 4 * n) rfl) (pl 1 rfl)) (by omega)) (by omega) (by decide) ?_
                refine X_aload_n (tk_X10_people.at 75 rfl) rfl ?_
                refine X_getR (tk_X10_people.at 76 rfl) fl_x10_62 hM.f0 rfl rfl ?_
                refine X_iload_n (tk_X10_people.at 77 rfl) rfl ?_
                refine X_iconst (tk_X10_people.at 78 rfl) ci_2 ?_
                refine X_iadd (tk_X10_people.at 79 rfl) ?_
                refine X_ialdN (k := 2 + 40 * s1 + 4 * n) (tk_X10_people.at 80 rfl) hM.f16 (pz (pa (pl (40 * s1 + 4 * n) rfl) (pl 2 rfl)) (by omega)) (by omega) (by decide) ?_
                refine X_aload_n (tk_X10_people.at 81 rfl) rfl ?_
                refine X_getR (tk_X10_people.at 82 rfl) fl_x10_62 hM.f0 rfl rfl ?_
                refine X_iload_n (tk_X10_people.at 83 rfl) rfl ?_
                refine X_iconst (tk_X10_people.at 84 rfl) ci_3 ?_
                refine X_iadd (tk_X10_people.at 85 rfl) ?_
                refine X_ialdN (k := 3 + 40 * s1 + 4 * n) (tk_X10_people.at 86 rfl) hM.f16 (pz (pa (pl (40 * s1 + 4 * n) rfl) (pl 3 rfl)) (by omega)) (by omega) (by decide) ?_
                refine X_cV4v (lv2 := [(0, _), (1, _), (2, _), (3, _), (4, _)]) (tk_X10_people.at 87 rfl) mv_X10_comes lk_x10_87 np_X10_comes hM.f0 (by decide) rfl (Nat.le_of_ble_eq_true rfl) (Nat.le_of_ble_eq_true rfl) rfl (c10_comes (n := nv (ν (o + 1) 1)) hM h1.1 (by omega) ?_)
                refine X_iinc (lv' := [(0, _), (1, _), (2, _), (3, _)]) (tk_X10_people.at 88 rfl) rfl ci_1 (by decide) rfl rfl ?_
                refine X_iinc (lv' := [(0, _), (1, _), (2, _), (3, _)]) (tk_X10_people.at 89 rfl) rfl ci_4 (by decide) rfl rfl ?_
                refine X_goto (tgt := 37) (tk_X10_people.at 90 rfl) (by decide) ?_
                have e : pplc (ν (o + 16)) z (40 * s1) n (ν (o + 1)) := ⟨by omega, by omega, h92⟩
                rw [ppl, if_pos e] at hKK
                rw [nI_1 n, show nI (40 * s1 + 4 * n) + 4 = nI (40 * s1 + 4 * (n + 1)) from by rw [show (4 : Int32) = nI 4 from rfl, nI_add]; rfl]
                have n1 : (pplN (ν (o + 16)) (40 * s1) n (ν (o + 1))) 1 = nI (nv (ν (o + 1) 1) + 1) := by unfold pplN addN; exact upd_at _ _ _
                refine ih (n + 1) z _ (by omega) (by omega) hz40 (by rw [Mx_ne (by omega)]; exact hzz) ?_ ?_
                · rw [Mx_same]
                  exact (show okN (pplN (ν (o + 16)) (40 * s1) n (ν (o + 1)) 1) 10 by rw [n1]; exact okN_of (by omega) (by decide))
                · rw [Mx_same, Mx_ne (show o + 16 ≠ o + 1 by omega), Mx_Mx]
                  exact hKK
              · refine X_if_ne (tgt := 100) (tk_X10_people.at 61 rfl) (by decide) (fun h => absurd h (by decide)) (fun _ => ?_)
                refine X_iload_n (tk_X10_people.at 62 rfl) rfl ?_
                refine X_ireturn (tk_X10_people.at 63 rfl) rfl rfl ?_
                have e : ¬ pplc (ν (o + 16)) z (40 * s1) n (ν (o + 1)) := fun g => h92 g.2.2
                rw [ppl, if_neg e] at hKK
                rw [Mx_self] at hKK
                exact hKK
      rw [show 40 * s = nI (40 * s1 + 4 * 0) from by rw [es1]; exact pk_mul 40 s1]
      exact loop 11 0 _ μ rfl (by omega) bsz hsz hw.n1 (k3 s1 hs1 es1 c2)
    · refine X_aload_n (tk_X10_people.at 12 rfl) rfl ?_
      refine X_ldc (tk_X10_people.at 13 rfl) kn_x10_108 ?_
      refine X_cV1i (lv2 := [(0, _), (1, _)]) (tk_X10_people.at 14 rfl) mv_X10_finding lk_x10_82 np_X10_finding hM.f0 (by decide) rfl (Nat.le_of_ble_eq_true rfl) (Nat.le_of_ble_eq_true rfl) rfl (c10_finding (k := 2) hM (by decide) (by decide) ?_)
      refine X_ireturn (tk_X10_people.at 15 rfl) rfl rfl ?_
      exact k2 s1 hs1 es1 c2
  · refine X_if_ne (tgt := 14) (tk_X10_people.at 2 rfl) (by decide) (fun h => absurd h (by decide)) (fun _ => ?_)
    refine X_aload_n (tk_X10_people.at 3 rfl) rfl ?_
    refine X_ldc (tk_X10_people.at 4 rfl) kn_x10_81 ?_
    refine X_cV1i (lv2 := [(0, _), (1, _)]) (tk_X10_people.at 5 rfl) mv_X10_finding lk_x10_82 np_X10_finding hM.f0 (by decide) rfl (Nat.le_of_ble_eq_true rfl) (Nat.le_of_ble_eq_true rfl) rfl (c10_finding (k := 1) hM (by decide) (by decide) ?_)
    refine X_ireturn (tk_X10_people.at 6 rfl) rfl rfl ?_
    exact k1 hs1
set_option maxHeartbeats 1000000 in
theorem c10_feed {G : Gl} {d : Nat} {S : Sh} {μ : Mu} {o : Nat} {q : Nat → Nat} {w : Int64} {n : Int32} {K : Int32 → Sh → Mu → Prop} (hM : MS S o q) (hw : WF (μ (o + 1))) (k1 : ¬ (1 ≤ n ∧ n ≤ 8) → K (-1000000001) S (er μ o 1)) (k2 : ∀ j, 1 ≤ j → j ≤ 8 → n = nI j → 50 < nv (μ (o + 1) 5) + j → K (-1000000004) S (er μ o 4)) (k3 : ∀ j, 1 ≤ j → j ≤ 8 → n = nI j → nv (μ (o + 1) 5) + j ≤ 50 → K (nI (nv (μ (o + 1) 5) + j)) S (Mx μ (o + 1) (fdN (μ (o + 1)) w j))) : X G mi_X10_feed (d + 1) 0 0 [(0, .ref o), (1, .long w), (3, .int n)] [] S μ (qi K) := by
  have w0 := hw.n0
  have w1 := hw.n1
  have w2 := hw.n2
  have w3 := hw.n3
  have w4 := hw.n4
  have w5 := hw.n5
  have w6 := hw.n6
  have b1 := w1.2
  have b2 := w2.2
  have b3 := w3.2
  have b4 := w4.2
  have b5 := w5.2
  have b6 := w6.2
  have b0 := w0.2
  refine X_iload_n (tk_X10_feed.at 0 rfl) rfl ?_
  refine X_iconst (tk_X10_feed.at 1 rfl) ci_1 ?_
  refine X_bipush (tk_X10_feed.at 2 rfl) cb_8 ?_
  refine X_cS3i (lv2 := [(0, _), (1, _), (2, _)]) (tk_X10_feed.at 3 rfl) ms_X10_within lk_x10_69 np_X10_within (Nat.le_of_ble_eq_true rfl) (Nat.le_of_ble_eq_true rfl) rfl (c10_within (fun h4 h1004 => ?_) (fun h4 => ?_))
  · obtain ⟨ew4, lw4, bw4⟩ := le_lits (a := 1) (b := 8) (by decide) h4 h1004 (by decide)
    refine X_if_ne (tgt := 17) (tk_X10_feed.at 4 rfl) (by decide) (fun _ => ?_) (fun h => absurd h (by decide))
    refine X_aload_n (tk_X10_feed.at 9 rfl) rfl ?_
    refine X_getR (tk_X10_feed.at 10 rfl) fl_x10_9 hM.f0 rfl rfl ?_
    refine X_iconst (tk_X10_feed.at 11 rfl) ci_5 ?_
    refine X_ialdN (k := 5) (tk_X10_feed.at 12 rfl) hM.f1 (pz (pl 5 rfl) (by omega)) (by omega) (by decide) ?_
    refine X_iload_n (tk_X10_feed.at 13 rfl) rfl ?_
    refine X_iadd (tk_X10_feed.at 14 rfl) ?_
    refine X_bipush (tk_X10_feed.at 15 rfl) cb_50 ?_
    refine X_icmp_leN (tgt := 37) (tk_X10_feed.at 16 rfl) (by decide) (pa w5.1 ew4) (pl 50 rfl) (by omega) (by omega) (fun c2 => ?_) (fun c2 => ?_)
    · refine X_iconst (tk_X10_feed.at 21 rfl) ci_0 ?_
      refine X_istoreL (lv' := [(0, _), (1, _), (3, _), (4, _)]) (tk_X10_feed.at 22 rfl) (by decide) rfl rfl ?_
      have bnd := c2
      have loop : ∀ (m k : Nat), k + m = nv n → X G mi_X10_feed (d + 1) 0 40 [(0, .ref o), (1, .long w), (3, .int n), (4, .int (nI k))] [] S (Mx μ (o + 1) (fdN (μ (o + 1)) w k)) (qi K) := by
        intro m
        induction m with
        | zero =>
          intro k hk
          have e5 : Mx μ (o + 1) (fdN (μ (o + 1)) w k) (o + 1) 5 = nI (nv (μ (o + 1) 5) + k) := by rw [Mx_same]; exact fdN_5 w5.1 w k
          have ek : k = nv n := by omega
          refine X_iload (tk_X10_feed.at 23 rfl) rfl ?_
          refine X_iload_n (tk_X10_feed.at 24 rfl) rfl ?_
          refine X_icmp_geN (tgt := 89) (tk_X10_feed.at 25 rfl) (by decide) (pl k rfl) ew4 (by omega) (by omega) (fun c1 => ?_) (fun c1 => (by exfalso; omega))
          refine X_aload_n (tk_X10_feed.at 53 rfl) rfl ?_
          refine X_getR (tk_X10_feed.at 54 rfl) fl_x10_9 hM.f0 rfl rfl ?_
          refine X_iconst (tk_X10_feed.at 55 rfl) ci_5 ?_
          refine X_ialdN (k := 5) (tk_X10_feed.at 56 rfl) hM.f1 (pz (pl 5 rfl) (by omega)) (by omega) (by decide) ?_
          refine X_ireturn (tk_X10_feed.at 57 rfl) rfl rfl ?_
          rw [e5, ek]
          exact k3 (nv n) (by omega) (by omega) ew4 (by omega)
        | succ m ih =>
          intro k hk
          have e5 : Mx μ (o + 1) (fdN (μ (o + 1)) w k) (o + 1) 5 = nI (nv (μ (o + 1) 5) + k) := by rw [Mx_same]; exact fdN_5 w5.1 w k
          refine X_iload (tk_X10_feed.at 23 rfl) rfl ?_
          refine X_iload_n (tk_X10_feed.at 24 rfl) rfl ?_
          refine X_icmp_geN (tgt := 89) (tk_X10_feed.at 25 rfl) (by decide) (pl k rfl) ew4 (by omega) (by omega) (fun c1 => (by exfalso; omega)) (fun c1 => ?_)
          refine X_aload_n (tk_X10_feed.at 26 rfl) rfl ?_
          refine X_getR (tk_X10_feed.at 27 rfl) fl_x10_9 hM.f0 rfl rfl ?_
          refine X_sipush (tk_X10_feed.at 28 rfl) cs_140 ?_
          refine X_aload_n (tk_X10_feed.at 29 rfl) rfl ?_
          refine X_getR (tk_X10_feed.at 30 rfl) fl_x10_9 hM.f0 rfl rfl ?_
          refine X_iconst (tk_X10_feed.at 31 rfl) ci_5 ?_
          refine X_ialdN (k := 5) (tk_X10_feed.at 32 rfl) hM.f1 (pz (pl 5 rfl) (by omega)) (by omega) (by decide) ?_
          refine X_iadd (tk_X10_feed.at 33 rfl) ?_
          refine X_lload_n (tk_X10_feed.at 34 rfl) rfl ?_
          refine X_bipush (tk_X10_feed.at 35 rfl) cb_8 ?_
          refine X_iload (tk_X10_feed.at 36 rfl) rfl ?_
          refine X_imul (tk_X10_feed.at 37 rfl) ?_
          refine X_lshr (tk_X10_feed.at 38 rfl) ?_
          refine X_ldc2 (tk_X10_feed.at 39 rfl) kn_x10_184 ?_
          refine X_land (tk_X10_feed.at 40 rfl) ?_
          refine X_l2i (tk_X10_feed.at 41 rfl) ?_
          refine X_iastN (k := 140 + (nv (μ (o + 1) 5) + k)) (tk_X10_feed.at 42 rfl) hM.f1 (pz (pa (pl 140 rfl) e5) (by omega)) (by omega) (by decide) ?_
          refine X_aload_n (tk_X10_feed.at 43 rfl) rfl ?_
          refine X_getR (tk_X10_feed.at 44 rfl) fl_x10_9 hM.f0 rfl rfl ?_
          refine X_iconst (tk_X10_feed.at 45 rfl) ci_5 ?_
          refine X_dup2 (tk_X10_feed.at 46 rfl) rfl rfl ?_
          refine X_ialdN (k := 5) (tk_X10_feed.at 47 rfl) hM.f1 (pz (pl 5 rfl) (by omega)) (by omega) (by decide) ?_
          refine X_iconst (tk_X10_feed.at 48 rfl) ci_1 ?_
          refine X_iadd (tk_X10_feed.at 49 rfl) ?_
          refine X_iastN (k := 5) (tk_X10_feed.at 50 rfl) hM.f1 (pz (pl 5 rfl) (by omega)) (by omega) (by decide) ?_
          refine X_iincL (lv' := [(0, _), (1, _), (3, _), (4, _)]) (tk_X10_feed.at 51 rfl) rfl ci_1 (by decide) rfl rfl ?_
          refine X_goto (tgt := 40) (tk_X10_feed.at 52 rfl) (by decide) ?_
          have z := ih (k + 1) (by omega)
          have e6 : (upd (fdN (μ (o + 1)) w k) (140 + (nv (μ (o + 1) 5) + k)) (byR w k)) 5 = nI (nv (μ (o + 1) 5) + k) := by rw [upd_ne _ _ (by omega)]; exact fdN_5 w5.1 w k
          rw [nI_1 k]
          rw [show 8 * nI k = nI (8 * k) from pk_mul 8 k]
          simp only [su_eq, Mx_same, Mx_Mx]
          rw [show (w >>> ((nI (8 * k)).toInt64 &&& 63) &&& 255).toInt32 = byR w k from rfl, e6, nI_1]
          exact z
      have z := loop (nv n) 0 (Nat.zero_add _)
      rw [show fdN (μ (o + 1)) w 0 = μ (o + 1) from rfl, Mx_self] at z
      exact z
    · refine X_aload_n (tk_X10_feed.at 17 rfl) rfl ?_
      refine X_ldc (tk_X10_feed.at 18 rfl) kn_x10_86 ?_
      refine X_cV1i (lv2 := [(0, _), (1, _)]) (tk_X10_feed.at 19 rfl) mv_X10_finding lk_x10_82 np_X10_finding hM.f0 (by decide) rfl (Nat.le_of_ble_eq_true rfl) (Nat.le_of_ble_eq_true rfl) rfl (c10_finding (k := 4) hM (by decide) (by decide) ?_)
      refine X_ireturn (tk_X10_feed.at 20 rfl) rfl rfl ?_
      exact k2 (nv n) (by omega) (by omega) ew4 c2
  · refine X_if_ne (tgt := 17) (tk_X10_feed.at 4 rfl) (by decide) (fun h => absurd h (by decide)) (fun _ => ?_)
    refine X_aload_n (tk_X10_feed.at 5 rfl) rfl ?_
    refine X_ldc (tk_X10_feed.at 6 rfl) kn_x10_81 ?_
    refine X_cV1i (lv2 := [(0, _), (1, _)]) (tk_X10_feed.at 7 rfl) mv_X10_finding lk_x10_82 np_X10_finding hM.f0 (by decide) rfl (Nat.le_of_ble_eq_true rfl) (Nat.le_of_ble_eq_true rfl) rfl (c10_finding (k := 1) hM (by decide) (by decide) ?_)
    refine X_ireturn (tk_X10_feed.at 8 rfl) rfl rfl ?_
    exact k1 h4
set_option maxHeartbeats 1000000 in
theorem c10_check {G : Gl} {d : Nat} {S : Sh} {μ : Mu} {o : Nat} {q : Nat → Nat} {K : Int32 → Sh → Mu → Prop} (hM : MS S o q) (hw : WF (μ (o + 1))) (hK : K (nI (ck (upd (μ (o + 1)) 6 0) (nv (μ (o + 1) 6)) 42 0 0 0)) S (su μ (o + 1) 6 0)) : X G mi_X10_check (d + 2) 0 0 [(0, .ref o)] [] S μ (qi K) := by
  have w0 := hw.n0
  have w1 := hw.n1
  have w2 := hw.n2
  have w3 := hw.n3
  have w4 := hw.n4
  have w5 := hw.n5
  have w6 := hw.n6
  have b1 := w1.2
  have b2 := w2.2
  have b3 := w3.2
  have b4 := w4.2
  have b5 := w5.2
  have b6 := w6.2
  have b0 := w0.2
  refine X_aload_n (tk_X10_check.at 0 rfl) rfl ?_
  refine X_getR (tk_X10_check.at 1 rfl) fl_x10_9 hM.f0 rfl rfl ?_
  refine X_bipush (tk_X10_check.at 2 rfl) cb_6 ?_
  refine X_ialdN (k := 6) (tk_X10_check.at 3 rfl) hM.f1 (pz (pl 6 rfl) (by omega)) (by omega) (by decide) ?_
  refine X_istore_n (lv' := [(0, _), (1, _)]) (tk_X10_check.at 4 rfl) (by decide) rfl rfl ?_
  refine X_aload_n (tk_X10_check.at 5 rfl) rfl ?_
  refine X_getR (tk_X10_check.at 6 rfl) fl_x10_9 hM.f0 rfl rfl ?_
  refine X_bipush (tk_X10_check.at 7 rfl) cb_6 ?_
  refine X_iconst (tk_X10_check.at 8 rfl) ci_0 ?_
  refine X_iastN (k := 6) (tk_X10_check.at 9 rfl) hM.f1 (pz (pl 6 rfl) (by omega)) (by omega) (by decide) ?_
  refine X_iconst (tk_X10_check.at 10 rfl) ci_0 ?_
  refine X_istore_n (lv' := [(0, _), (1, _), (2, _)]) (tk_X10_check.at 11 rfl) (by decide) rfl rfl ?_
  refine X_iconst (tk_X10_check.at 12 rfl) ci_0 ?_
  refine X_istore_n (lv' := [(0, _), (1, _), (2, _), (3, _)]) (tk_X10_check.at 13 rfl) (by decide) rfl rfl ?_
  have hwn : WF (Mx μ (o + 1) (upd (μ (o + 1)) 6 0) (o + 1)) := by rw [Mx_same]; exact WF_u6 hw (okN_of (n := 0) (by decide) (by decide))
  have hW : nv (μ (o + 1) 6) ≤ 20 := hw.n6.2
  have en : nv (μ (o + 1) 4) = nv (Mx μ (o + 1) (upd (μ (o + 1)) 6 0) (o + 1) 4) := by rw [Mx_same, upd_ne _ _ (by decide)]
  have hKK := hK
  rw [show (su μ (o + 1) 6 0) = Mx μ (o + 1) (upd (μ (o + 1)) 6 0) from rfl] at hKK ⊢
  have hKK : K (nI (ck (Mx μ (o + 1) (upd (μ (o + 1)) 6 0) (o + 1)) (nv (μ (o + 1) 6)) 42 0 0 0)) S (Mx μ (o + 1) (upd (μ (o + 1)) 6 0)) := by rw [Mx_same]; exact hKK
  rw [w6.1]
  generalize Mx μ (o + 1) (upd (μ (o + 1)) 6 0) = ν at hwn hKK en ⊢
  generalize nv (μ (o + 1) 6) = W at hW hKK ⊢
  have v4 := hwn.n4
  have v3 := hwn.n3
  have y3 := v3.2
  have y4 := v4.2
  have both : ∀ f, (∀ (k i n : Nat), k < nv (ν (o + 1) 4) → i ≤ 5 → n ≤ 20 → 6 * (nv (ν (o + 1) 4) - k) + (5 - i) < f → K (nI (ck (ν (o + 1)) W f k i n)) S ν → X G mi_X10_check (d + 2) 0 33 [(0, .ref o), (1, .int (nI W)), (2, .int (nI n)), (3, .int (nI k)), (4, .int (nI i))] [] S ν (qi K)) ∧ (∀ (k n : Nat) (rest : List (Nat × Value)), k ≤ nv (ν (o + 1) 4) → n ≤ 20 → 6 * (nv (ν (o + 1) 4) - k) + 5 < f → K (nI (ck (ν (o + 1)) W f k 0 n)) S ν → X G mi_X10_check (d + 2) 0 20 ([(0, .ref o), (1, .int (nI W)), (2, .int (nI n)), (3, .int (nI k))] ++ rest) [] S ν (qi K)) := by
    intro f
    induction f with
    | zero => exact ⟨fun k i n _ _ _ h => absurd h (Nat.not_lt_zero _), fun k n rest _ _ h => absurd h (Nat.not_lt_zero _)⟩
    | succ f ih =>
      have in33 : ∀ (k i n : Nat), k < nv (ν (o + 1) 4) → i ≤ 5 → n ≤ 20 → 6 * (nv (ν (o + 1) 4) - k) + (5 - i) < f + 1 → K (nI (ck (ν (o + 1)) W (f + 1) k i n)) S ν → X G mi_X10_check (d + 2) 0 33 [(0, .ref o), (1, .int (nI W)), (2, .int (nI n)), (3, .int (nI k)), (4, .int (nI i))] [] S ν (qi K) := by
        intro k i n hk hi hn hf hq
        have wl := hwn.li hk
        have bl : lnA (ν (o + 1)) k < nv (ν (o + 1) 3) := wl.2
        have wr := hwn.ro wl.2
        have hm : ν (o + 1) (83 + 9 * (lnA (ν (o + 1)) k)) = nI (mny (ν (o + 1)) (lnA (ν (o + 1)) k)) := wr.2.2.2.1.1
        have bm : (mny (ν (o + 1)) (lnA (ν (o + 1)) k)) ≤ 5 := wr.2.2.2.1.2
        refine X_iload (tk_X10_check.at 22 rfl) rfl ?_
        refine X_aload_n (tk_X10_check.at 23 rfl) rfl ?_
        refine X_aload_n (tk_X10_check.at 24 rfl) rfl ?_
        refine X_getR (tk_X10_check.at 25 rfl) fl_x10_9 hM.f0 rfl rfl ?_
        refine X_sipush (tk_X10_check.at 26 rfl) cs_134 ?_
        refine X_iload_n (tk_X10_check.at 27 rfl) rfl ?_
        refine X_iadd (tk_X10_check.at 28 rfl) ?_
        refine X_ialdN (k := 134 + k) (tk_X10_check.at 29 rfl) hM.f1 (pz (pa (pl 134 rfl) (pl k rfl)) (by omega)) (by omega) (by decide) ?_
        refine X_cV1i (lv2 := [(0, _), (1, _)]) (tk_X10_check.at 30 rfl) mv_X10_many lk_x10_118 np_X10_many hM.f0 (by decide) rfl (Nat.le_of_ble_eq_true rfl) (Nat.le_of_ble_eq_true rfl) rfl (c10_many hM wl.1 (by omega) ?_)
        refine X_icmp_geN (tgt := 99) (tk_X10_check.at 31 rfl) (by decide) (pl i rfl) hm (by omega) (by omega) (fun c1 => ?_) (fun c1 => ?_)
        · refine X_iinc (lv' := [(0, _), (1, _), (2, _), (3, _), (4, _)]) (tk_X10_check.at 58 rfl) rfl ci_1 (by decide) rfl rfl ?_
          refine X_goto (tgt := 20) (tk_X10_check.at 59 rfl) (by decide) ?_
          rw [ck_row hk (by omega)] at hq
          rw [nI_1 k]
          exact ih.2 (k + 1) n [(4, _)] (by omega) hn (by omega) hq
        · refine X_iload_n (tk_X10_check.at 32 rfl) rfl ?_
          refine X_iload_n (tk_X10_check.at 33 rfl) rfl ?_
          refine X_icmp_geN (tgt := 86) (tk_X10_check.at 34 rfl) (by decide) (pl n rfl) (pl W rfl) (by omega) (by omega) (fun c2 => ?_) (fun c2 => ?_)
          · refine X_iconst (tk_X10_check.at 51 rfl) ci_1 ?_
            refine X_iload_n (tk_X10_check.at 52 rfl) rfl ?_
            refine X_iadd (tk_X10_check.at 53 rfl) ?_
            refine X_ireturn (tk_X10_check.at 54 rfl) rfl rfl ?_
            rw [ck_bad hk (by omega) (by first | exact Or.inr c2 | exact Or.inl (by omega))] at hq
            rw [show (1 : Int32) + nI n = nI (1 + n) from pa (pl 1 rfl) (pl n rfl)]
            exact hq
          · refine X_aload_n (tk_X10_check.at 35 rfl) rfl ?_
            refine X_getR (tk_X10_check.at 36 rfl) fl_x10_9 hM.f0 rfl rfl ?_
            refine X_sipush (tk_X10_check.at 37 rfl) cs_190 ?_
            refine X_iload_n (tk_X10_check.at 38 rfl) rfl ?_
            refine X_iadd (tk_X10_check.at 39 rfl) ?_
            refine X_ialdN (k := 190 + n) (tk_X10_check.at 40 rfl) hM.f1 (pz (pa (pl 190 rfl) (pl n rfl)) (by omega)) (by omega) (by decide) ?_
            refine X_aload_n (tk_X10_check.at 41 rfl) rfl ?_
            refine X_aload_n (tk_X10_check.at 42 rfl) rfl ?_
            refine X_getR (tk_X10_check.at 43 rfl) fl_x10_9 hM.f0 rfl rfl ?_
            refine X_sipush (tk_X10_check.at 44 rfl) cs_134 ?_
            refine X_iload_n (tk_X10_check.at 45 rfl) rfl ?_
            refine X_iadd (tk_X10_check.at 46 rfl) ?_
            refine X_ialdN (k := 134 + k) (tk_X10_check.at 47 rfl) hM.f1 (pz (pa (pl 134 rfl) (pl k rfl)) (by omega)) (by omega) (by decide) ?_
            refine X_iload (tk_X10_check.at 48 rfl) rfl ?_
            refine X_cV2i (lv2 := [(0, _), (1, _), (2, _)]) (tk_X10_check.at 49 rfl) mv_X10_who lk_x10_121 np_X10_who hM.f0 (by decide) rfl (Nat.le_of_ble_eq_true rfl) (Nat.le_of_ble_eq_true rfl) rfl (c10_who hM wl.1 (pl i rfl) (by omega) (by omega) ?_)
            refine X_icmp_eq (tgt := 90) (tk_X10_check.at 50 rfl) (by decide) (fun c3 => ?_) (fun c3 => ?_)
            · refine X_iinc (lv' := [(0, _), (1, _), (2, _), (3, _), (4, _)]) (tk_X10_check.at 55 rfl) rfl ci_1 (by decide) rfl rfl ?_
              refine X_iinc (lv' := [(0, _), (1, _), (2, _), (3, _), (4, _)]) (tk_X10_check.at 56 rfl) rfl ci_1 (by decide) rfl rfl ?_
              refine X_goto (tgt := 33) (tk_X10_check.at 57 rfl) (by decide) ?_
              rw [ck_go hk (by omega) (fun g => by rcases g with g | g; omega; exact g c3)] at hq
              rw [nI_1 n, nI_1 i]
              exact ih.1 k (i + 1) (n + 1) hk (by omega) (by omega) (by omega) hq
            · refine X_iconst (tk_X10_check.at 51 rfl) ci_1 ?_
              refine X_iload_n (tk_X10_check.at 52 rfl) rfl ?_
              refine X_iadd (tk_X10_check.at 53 rfl) ?_
              refine X_ireturn (tk_X10_check.at 54 rfl) rfl rfl ?_
              rw [ck_bad hk (by omega) (by first | exact Or.inr c3 | exact Or.inl (by omega))] at hq
              rw [show (1 : Int32) + nI n = nI (1 + n) from pa (pl 1 rfl) (pl n rfl)]
              exact hq
      refine ⟨in33, fun k n rest hk hn hf hq => ?_⟩
      refine X_lvp [0, 1, 2, 3] (lv' := [(0, _), (1, _), (2, _), (3, _)]) rfl ?_
      refine X_iload_n (tk_X10_check.at 14 rfl) rfl ?_
      refine X_aload_n (tk_X10_check.at 15 rfl) rfl ?_
      refine X_getR (tk_X10_check.at 16 rfl) fl_x10_9 hM.f0 rfl rfl ?_
      refine X_iconst (tk_X10_check.at 17 rfl) ci_4 ?_
      refine X_ialdN (k := 4) (tk_X10_check.at 18 rfl) hM.f1 (pz (pl 4 rfl) (by omega)) (by omega) (by decide) ?_
      refine X_icmp_geN (tgt := 105) (tk_X10_check.at 19 rfl) (by decide) (pl k rfl) v4.1 (by omega) (by omega) (fun c1 => ?_) (fun c1 => ?_)
      · refine X_iload_n (tk_X10_check.at 60 rfl) rfl ?_
        refine X_iload_n (tk_X10_check.at 61 rfl) rfl ?_
        refine X_icmp_leN (tgt := 116) (tk_X10_check.at 62 rfl) (by decide) (pl W rfl) (pl n rfl) (by omega) (by omega) (fun c2 => ?_) (fun c2 => ?_)
        · refine X_iconst (tk_X10_check.at 67 rfl) ci_0 ?_
          refine X_ireturn (tk_X10_check.at 68 rfl) rfl rfl ?_
          rw [ck_end (by omega), if_neg (by omega)] at hq
          exact hq
        · refine X_iconst (tk_X10_check.at 63 rfl) ci_1 ?_
          refine X_iload_n (tk_X10_check.at 64 rfl) rfl ?_
          refine X_iadd (tk_X10_check.at 65 rfl) ?_
          refine X_goto (tgt := 117) (tk_X10_check.at 66 rfl) (by decide) ?_
          refine X_ireturn (tk_X10_check.at 68 rfl) rfl rfl ?_
          rw [ck_end (by omega), if_pos (by omega)] at hq
          rw [show (1 : Int32) + nI n = nI (1 + n) from pa (pl 1 rfl) (pl n rfl)]
          exact hq
      · refine X_iconst (tk_X10_check.at 20 rfl) ci_0 ?_
        refine X_istore (lv' := [(0, _), (1, _), (2, _), (3, _), (4, _)]) (tk_X10_check.at 21 rfl) (by decide) rfl rfl ?_
        exact in33 k 0 n (by omega) (by omega) hn (by omega) hq
  exact (both 42).2 0 0 [] (Nat.zero_le _) (by decide) (by omega) hKK
