/-- a sheet of the class at H: its 40 cells lie behind it; 1 bits, 2 size -/
def rH (H k : Nat) : Option Nat := match k with
  | 0 => some (H + 1)
  | _ => none
def HS (S : Sh) (H : Nat) : Prop := S.2 H = some (kO 7 (rH H)) ∧ S.2 (H + 1) = some (kI 40)
set_option maxHeartbeats 1000000 in
theorem c7_isMissing {G : Gl} {d : Nat} {S : Sh} {μ : Mu} {H : Nat} {K : Int32 → Sh → Mu → Prop} (hH : HS S H) (kt : μ H 1 = 0 → K 1 S μ) (kf : ¬ μ H 1 = 0 → K 0 S μ) : X G mi_X7_isMissing d 0 0 [(0, .ref H)] [] S μ (qi K) := by
  refine X_aload_n (tk_X7_isMissing.at 0 rfl) rfl ?_
  refine X_getI (tk_X7_isMissing.at 1 rfl) fl_x7_15 hH.1 rfl ?_
  refine X_if_ne (tgt := 11) (tk_X7_isMissing.at 2 rfl) (by decide) (fun c1 => ?_) (fun c1 => ?_)
  · refine X_iconst (tk_X7_isMissing.at 5 rfl) ci_0 ?_
    refine X_ireturn (tk_X7_isMissing.at 6 rfl) rfl rfl ?_
    exact kf c1
  · refine X_iconst (tk_X7_isMissing.at 3 rfl) ci_1 ?_
    refine X_goto (tgt := 12) (tk_X7_isMissing.at 4 rfl) (by decide) ?_
    refine X_ireturn (tk_X7_isMissing.at 6 rfl) rfl rfl ?_
    exact kt c1
set_option maxHeartbeats 1000000 in
theorem c7_size {G : Gl} {d : Nat} {S : Sh} {μ : Mu} {H n : Nat} {K : Int32 → Sh → Mu → Prop} (hH : HS S H) (hn : μ H 2 = nI n) (hb : n ≤ 40) (hK : K (nI n) S μ) : X G mi_X7_size d 0 0 [(0, .ref H)] [] S μ (qi K) := by
  refine X_aload_n (tk_X7_size.at 0 rfl) rfl ?_
  refine X_getI (tk_X7_size.at 1 rfl) fl_x7_19 hH.1 rfl ?_
  refine X_ireturn (tk_X7_size.at 2 rfl) rfl rfl ?_
  rw [hn]
  exact hK
set_option maxHeartbeats 1000000 in
theorem c7_at {G : Gl} {d : Nat} {S : Sh} {μ : Mu} {H n : Nat} {x : Int32} {j : Nat} {K : Int32 → Sh → Mu → Prop} (hH : HS S H) (hn : μ H 2 = nI n) (hb : n ≤ 40) (hx : x = nI j) (hj : j < n) (hK : K (μ (H + 1) j) S μ) : X G mi_X7_at d 0 0 [(0, .ref H), (1, .int x)] [] S μ (qi K) := by
  refine X_iload_n (tk_X7_at.at 0 rfl) rfl ?_
  refine X_if_ltN (tgt := 21) (tk_X7_at.at 1 rfl) (by decide) hx (by omega) ?_
  refine X_iload_n (tk_X7_at.at 2 rfl) rfl ?_
  refine X_aload_n (tk_X7_at.at 3 rfl) rfl ?_
  refine X_getI (tk_X7_at.at 4 rfl) fl_x7_19 hH.1 rfl ?_
  refine X_icmp_geN (tgt := 21) (tk_X7_at.at 5 rfl) (by decide) hx hn (by omega) (by omega) (fun c2 => (by exfalso; omega)) (fun c2 => ?_)
  refine X_aload_n (tk_X7_at.at 6 rfl) rfl ?_
  refine X_getR (tk_X7_at.at 7 rfl) fl_x7_9 hH.1 rfl rfl ?_
  refine X_iload_n (tk_X7_at.at 8 rfl) rfl ?_
  refine X_ialdN (k := j) (tk_X7_at.at 9 rfl) hH.2 hx (by omega) (by decide) ?_
  refine X_goto (tgt := 22) (tk_X7_at.at 10 rfl) (by decide) ?_
  refine X_ireturn (tk_X7_at.at 12 rfl) rfl rfl ?_
  exact hK
set_option maxHeartbeats 1000000 in
theorem cj_fill {G : Gl} {d : Nat} {S : Sh} {μ : Mu} {a len : Nat} {v : Int32} {K : Sh → Mu → Prop} (ha : S.2 a = some (kI len)) (hl : len < 2 ^ 31) (hK : ∀ B, (∀ i, i < len → B i = v) → K S (Mx μ a B)) : X G mi_J7_fill_53178 d 0 0 [(0, .ref a), (1, .int v)] [] S μ (qv K) := by
  have loop : ∀ (m k : Nat), k + m = len → X G mi_J7_fill_53178 d 0 5 [(0, .ref a), (1, .int v), (2, .int (nI k)), (3, .int (nI len))] [] S (Mx μ a (fun i => if i < k then v else μ a i)) (qv K) := by
    intro m
    induction m with
    | zero =>
      intro k hk
      have ek : k = len := by omega
      refine X_iload_n (tk_J7_fill_53178.at 5 rfl) rfl ?_
      refine X_iload_n (tk_J7_fill_53178.at 6 rfl) rfl ?_
      refine X_icmp_geN (tgt := 20) (tk_J7_fill_53178.at 7 rfl) (by decide) (pl k rfl) (pl len rfl) (by omega) (by omega) (fun c1 => ?_) (fun c1 => (by exfalso; omega))
      refine X_return (tk_J7_fill_53178.at 14 rfl) rfl ?_
      rw [ek]
      exact hK _ (fun i hi => if_pos hi)
    | succ m ih =>
      intro k hk
      refine X_iload_n (tk_J7_fill_53178.at 5 rfl) rfl ?_
      refine X_iload_n (tk_J7_fill_53178.at 6 rfl) rfl ?_
      refine X_icmp_geN (tgt := 20) (tk_J7_fill_53178.at 7 rfl) (by decide) (pl k rfl) (pl len rfl) (by omega) (by omega) (fun c1 => (by exfalso; omega)) (fun c1 => ?_)
      refine X_aload_n (tk_J7_fill_53178.at 8 rfl) rfl ?_
      refine X_iload_n (tk_J7_fill_53178.at 9 rfl) rfl ?_
      refine X_iload_n (tk_J7_fill_53178.at 10 rfl) rfl ?_
      refine X_iastN (k := k) (tk_J7_fill_53178.at 11 rfl) ha (pz (pl k rfl) (by omega)) (by omega) (by omega) ?_
      refine X_iinc (lv' := [(0, _), (1, _), (2, _), (3, _)]) (tk_J7_fill_53178.at 12 rfl) rfl ci_1 (by decide) rfl rfl ?_
      refine X_goto (tgt := 5) (tk_J7_fill_53178.at 13 rfl) (by decide) ?_
      rw [nI_1 k, su_Mx]
      have z := ih (k + 1) (by omega)
      rw [show upd (fun i => if i < k then v else μ a i) k v = (fun i => if i < k + 1 then v else μ a i) from ?_]
      · exact z
      · funext i
        unfold upd
        by_cases e : i = k
        · rw [if_pos e, if_pos (by omega)]
        · rw [if_neg e]
          dsimp only
          by_cases c : i < k
          · rw [if_pos c, if_pos (by omega)]
          · rw [if_neg c, if_neg (by omega)]
  refine X_iconst (tk_J7_fill_53178.at 0 rfl) ci_0 ?_
  refine X_istore_n (lv' := [(0, _), (1, _), (2, _)]) (tk_J7_fill_53178.at 1 rfl) (by decide) rfl rfl ?_
  refine X_aload_n (tk_J7_fill_53178.at 2 rfl) rfl ?_
  refine X_alen (tk_J7_fill_53178.at 3 rfl) ha ?_
  refine X_istore_n (lv' := [(0, _), (1, _), (2, _), (3, _)]) (tk_J7_fill_53178.at 4 rfl) (by decide) rfl rfl ?_
  have z := loop len 0 (Nat.zero_add len)
  rw [show (fun i => if i < 0 then v else μ a i) = μ a from by funext i; exact if_neg (Nat.not_lt_zero i), Mx_self] at z
  exact z
