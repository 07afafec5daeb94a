set_option maxHeartbeats 1000000 in
theorem c10_rope {G : Gl} {d : Nat} {S : Sh} {μ : Mu} {o : Nat} {q : Nat → Nat} {r f : Int32} {rn fn k : Nat} {K : Int32 → Sh → Mu → Prop} (hM : MS S o q) (hr : r = nI rn) (hf : f = nI fn) (hb : rn < 6) (hb2 : fn < 9) (he : 80 + 9 * rn + fn = k) (hK : K (μ (o + 1) k) S μ) : X G mi_X10_rope d 0 0 [(0, .ref o), (1, .int r), (2, .int f)] [] S μ (qi K) := by
  subst he
  refine X_aload_n (tk_X10_rope.at 0 rfl) rfl ?_
  refine X_getR (tk_X10_rope.at 1 rfl) fl_x10_9 hM.f0 rfl rfl ?_
  refine X_bipush (tk_X10_rope.at 2 rfl) cb_80 ?_
  refine X_bipush (tk_X10_rope.at 3 rfl) cb_9 ?_
  refine X_iload_n (tk_X10_rope.at 4 rfl) rfl ?_
  refine X_imul (tk_X10_rope.at 5 rfl) ?_
  refine X_iadd (tk_X10_rope.at 6 rfl) ?_
  refine X_iload_n (tk_X10_rope.at 7 rfl) rfl ?_
  refine X_iadd (tk_X10_rope.at 8 rfl) ?_
  refine X_ialdN (k := 80 + 9 * rn + fn) (tk_X10_rope.at 9 rfl) hM.f1 (pz (pa (pa (pl 80 rfl) (pm (pl 9 rfl) hr)) hf) (by omega)) (by omega) (by decide) ?_
  refine X_ireturn (tk_X10_rope.at 10 rfl) rfl rfl ?_
  exact hK
set_option maxHeartbeats 1000000 in
theorem c10_many {G : Gl} {d : Nat} {S : Sh} {μ : Mu} {o : Nat} {q : Nat → Nat} {r : Int32} {rn : Nat} {K : Int32 → Sh → Mu → Prop} (hM : MS S o q) (hr : r = nI rn) (hb : rn < 6) (hK : K (μ (o + 1) (83 + 9 * rn)) S μ) : X G mi_X10_many (d + 1) 0 0 [(0, .ref o), (1, .int r)] [] S μ (qi K) := by
  refine X_aload_n (tk_X10_many.at 0 rfl) rfl ?_
  refine X_iload_n (tk_X10_many.at 1 rfl) rfl ?_
  refine X_iconst (tk_X10_many.at 2 rfl) ci_3 ?_
  refine X_cV2i (lv2 := [(0, _), (1, _), (2, _)]) (tk_X10_many.at 3 rfl) mv_X10_rope lk_x10_115 np_X10_rope hM.f0 (by decide) rfl (Nat.le_of_ble_eq_true rfl) (Nat.le_of_ble_eq_true rfl) rfl (c10_rope (k := 83 + 9 * rn) hM hr (pl 3 rfl) (by omega) (by omega) (by omega) ?_)
  refine X_ireturn (tk_X10_many.at 4 rfl) rfl rfl ?_
  exact hK
set_option maxHeartbeats 1000000 in
theorem c10_who {G : Gl} {d : Nat} {S : Sh} {μ : Mu} {o : Nat} {q : Nat → Nat} {r i : Int32} {rn j : Nat} {K : Int32 → Sh → Mu → Prop} (hM : MS S o q) (hr : r = nI rn) (hi : i = nI j) (hb : rn < 6) (hb2 : j < 5) (hK : K (μ (o + 1) (84 + 9 * rn + j)) S μ) : X G mi_X10_who (d + 1) 0 0 [(0, .ref o), (1, .int r), (2, .int i)] [] S μ (qi K) := by
  refine X_aload_n (tk_X10_who.at 0 rfl) rfl ?_
  refine X_iload_n (tk_X10_who.at 1 rfl) rfl ?_
  refine X_iconst (tk_X10_who.at 2 rfl) ci_4 ?_
  refine X_iload_n (tk_X10_who.at 3 rfl) rfl ?_
  refine X_iadd (tk_X10_who.at 4 rfl) ?_
  refine X_cV2i (lv2 := [(0, _), (1, _), (2, _)]) (tk_X10_who.at 5 rfl) mv_X10_rope lk_x10_115 np_X10_rope hM.f0 (by decide) rfl (Nat.le_of_ble_eq_true rfl) (Nat.le_of_ble_eq_true rfl) rfl (c10_rope (k := 84 + 9 * rn + j) hM hr (pa (pl 4 rfl) hi) (by omega) (by omega) (by omega) ?_)
  refine X_ireturn (tk_X10_who.at 6 rfl) rfl rfl ?_
  exact hK
set_option maxHeartbeats 1000000 in
theorem c10_seats {G : Gl} {d : Nat} {S : Sh} {μ : Mu} {o : Nat} {q : Nat → Nat} {r i x : Int32} {rn j : Nat} {K : Sh → Mu → Prop} (hM : MS S o q) (hr : r = nI rn) (hi : i = nI j) (hb : rn < 6) (hb2 : j < 5) (hK : K S (su μ (o + 1) (84 + 9 * rn + j) x)) : X G mi_X10_seats d 0 0 [(0, .ref o), (1, .int r), (2, .int i), (3, .int x)] [] S μ (qv K) := by
  refine X_aload_n (tk_X10_seats.at 0 rfl) rfl ?_
  refine X_getR (tk_X10_seats.at 1 rfl) fl_x10_9 hM.f0 rfl rfl ?_
  refine X_bipush (tk_X10_seats.at 2 rfl) cb_80 ?_
  refine X_bipush (tk_X10_seats.at 3 rfl) cb_9 ?_
  refine X_iload_n (tk_X10_seats.at 4 rfl) rfl ?_
  refine X_imul (tk_X10_seats.at 5 rfl) ?_
  refine X_iadd (tk_X10_seats.at 6 rfl) ?_
  refine X_iconst (tk_X10_seats.at 7 rfl) ci_4 ?_
  refine X_iadd (tk_X10_seats.at 8 rfl) ?_
  refine X_iload_n (tk_X10_seats.at 9 rfl) rfl ?_
  refine X_iadd (tk_X10_seats.at 10 rfl) ?_
  refine X_iload_n (tk_X10_seats.at 11 rfl) rfl ?_
  refine X_iastN (k := 84 + 9 * rn + j) (tk_X10_seats.at 12 rfl) hM.f1 (pz (pa (pa (pa (pl 80 rfl) (pm (pl 9 rfl) hr)) (pl 4 rfl)) hi) (by omega)) (by omega) (by decide) ?_
  refine X_return (tk_X10_seats.at 13 rfl) rfl ?_
  exact hK
set_option maxHeartbeats 1000000 in
theorem c10_of {G : Gl} {d : Nat} {S : Sh} {μ : Mu} {o : Nat} {q : Nat → Nat} {p f : Int32} {pn fn k : Nat} {K : Int32 → Sh → Mu → Prop} (hM : MS S o q) (hp : p = nI pn) (hf : f = nI fn) (hb : pn < 10) (hb2 : fn < 4) (he : 8 + 4 * pn + fn = k) (hK : K (μ (o + 1) k) S μ) : X G mi_X10_of d 0 0 [(0, .ref o), (1, .int p), (2, .int f)] [] S μ (qi K) := by
  subst he
  refine X_aload_n (tk_X10_of.at 0 rfl) rfl ?_
  refine X_getR (tk_X10_of.at 1 rfl) fl_x10_9 hM.f0 rfl rfl ?_
  refine X_bipush (tk_X10_of.at 2 rfl) cb_8 ?_
  refine X_iconst (tk_X10_of.at 3 rfl) ci_4 ?_
  refine X_iload_n (tk_X10_of.at 4 rfl) rfl ?_
  refine X_imul (tk_X10_of.at 5 rfl) ?_
  refine X_iadd (tk_X10_of.at 6 rfl) ?_
  refine X_iload_n (tk_X10_of.at 7 rfl) rfl ?_
  refine X_iadd (tk_X10_of.at 8 rfl) ?_
  refine X_ialdN (k := 8 + 4 * pn + fn) (tk_X10_of.at 9 rfl) hM.f1 (pz (pa (pa (pl 8 rfl) (pm (pl 4 rfl) hp)) hf) (by omega)) (by omega) (by decide) ?_
  refine X_ireturn (tk_X10_of.at 10 rfl) rfl rfl ?_
  exact hK
set_option maxHeartbeats 1000000 in
theorem c10_ofPieceAt {G : Gl} {d : Nat} {S : Sh} {μ : Mu} {o : Nat} {q : Nat → Nat} {p f : Int32} {pn fn k : Nat} {K : Int32 → Sh → Mu → Prop} (hM : MS S o q) (hp : p = nI pn) (hf : f = nI fn) (hb : pn < 8) (hb2 : fn < 4) (he : 48 + 4 * pn + fn = k) (hK : K (μ (o + 1) k) S μ) : X G mi_X10_ofPieceAt d 0 0 [(0, .ref o), (1, .int p), (2, .int f)] [] S μ (qi K) := by
  subst he
  refine X_aload_n (tk_X10_ofPieceAt.at 0 rfl) rfl ?_
  refine X_getR (tk_X10_ofPieceAt.at 1 rfl) fl_x10_9 hM.f0 rfl rfl ?_
  refine X_bipush (tk_X10_ofPieceAt.at 2 rfl) cb_48 ?_
  refine X_iconst (tk_X10_ofPieceAt.at 3 rfl) ci_4 ?_
  refine X_iload_n (tk_X10_ofPieceAt.at 4 rfl) rfl ?_
  refine X_imul (tk_X10_ofPieceAt.at 5 rfl) ?_
  refine X_iadd (tk_X10_ofPieceAt.at 6 rfl) ?_
  refine X_iload_n (tk_X10_ofPieceAt.at 7 rfl) rfl ?_
  refine X_iadd (tk_X10_ofPieceAt.at 8 rfl) ?_
  refine X_ialdN (k := 48 + 4 * pn + fn) (tk_X10_ofPieceAt.at 9 rfl) hM.f1 (pz (pa (pa (pl 48 rfl) (pm (pl 4 rfl) hp)) hf) (by omega)) (by omega) (by decide) ?_
  refine X_ireturn (tk_X10_ofPieceAt.at 10 rfl) rfl rfl ?_
  exact hK
set_option maxHeartbeats 1000000 in
theorem c10_become {G : Gl} {d : Nat} {S : Sh} {μ : Mu} {o : Nat} {q : Nat → Nat} {a x : Int32} {k : Nat} {K : Int32 → Sh → Mu → Prop} (hM : MS S o q) (ha : a = nI k) (hb : k < 314) (hK : K (μ (o + 1) k) S (su μ (o + 1) k x)) : X G mi_X10_become d 0 0 [(0, .ref o), (1, .int a), (2, .int x)] [] S μ (qi K) := by
  refine X_aload_n (tk_X10_become.at 0 rfl) rfl ?_
  refine X_getR (tk_X10_become.at 1 rfl) fl_x10_9 hM.f0 rfl rfl ?_
  refine X_iload_n (tk_X10_become.at 2 rfl) rfl ?_
  refine X_ialdN (k := k) (tk_X10_become.at 3 rfl) hM.f1 ha (by omega) (by decide) ?_
  refine X_istore_n (lv' := [(0, _), (1, _), (2, _), (3, _)]) (tk_X10_become.at 4 rfl) (by decide) rfl rfl ?_
  refine X_aload_n (tk_X10_become.at 5 rfl) rfl ?_
  refine X_getR (tk_X10_become.at 6 rfl) fl_x10_9 hM.f0 rfl rfl ?_
  refine X_iload_n (tk_X10_become.at 7 rfl) rfl ?_
  refine X_iload_n (tk_X10_become.at 8 rfl) rfl ?_
  refine X_iastN (k := k) (tk_X10_become.at 9 rfl) hM.f1 ha (by omega) (by decide) ?_
  refine X_iload_n (tk_X10_become.at 10 rfl) rfl ?_
  refine X_ireturn (tk_X10_become.at 11 rfl) rfl rfl ?_
  exact hK
set_option maxHeartbeats 1000000 in
theorem c10_finding {G : Gl} {d : Nat} {S : Sh} {μ : Mu} {o : Nat} {q : Nat → Nat} {w : Int32} {k : Nat} {K : Int32 → Sh → Mu → Prop} (hM : MS S o q) (hw : -1000000000 - w = nI k) (hb : k < 6) (hK : K w S (su μ (o + 4) k (μ (o + 4) k + 1))) : X G mi_X10_finding d 0 0 [(0, .ref o), (1, .int w)] [] S μ (qi K) := by
  refine X_aload_n (tk_X10_finding.at 0 rfl) rfl ?_
  refine X_getR (tk_X10_finding.at 1 rfl) fl_x10_19 hM.f0 rfl rfl ?_
  refine X_ldc (tk_X10_finding.at 2 rfl) kn_x10_68 ?_
  refine X_iload_n (tk_X10_finding.at 3 rfl) rfl ?_
  refine X_isub (tk_X10_finding.at 4 rfl) ?_
  refine X_dup2 (tk_X10_finding.at 5 rfl) rfl rfl ?_
  refine X_ialdN (k := k) (tk_X10_finding.at 6 rfl) hM.f4 hw (by omega) (by decide) ?_
  refine X_iconst (tk_X10_finding.at 7 rfl) ci_1 ?_
  refine X_iadd (tk_X10_finding.at 8 rfl) ?_
  refine X_iastN (k := k) (tk_X10_finding.at 9 rfl) hM.f4 hw (by omega) (by decide) ?_
  refine X_iload_n (tk_X10_finding.at 10 rfl) rfl ?_
  refine X_ireturn (tk_X10_finding.at 11 rfl) rfl rfl ?_
  exact hK
set_option maxHeartbeats 1000000 in
theorem c10_within {G : Gl} {d : Nat} {S : Sh} {μ : Mu} {v a b : Int32} {K : Int32 → Sh → Mu → Prop} (kt : a ≤ v → v ≤ b → K 1 S μ) (kf : ¬ (a ≤ v ∧ v ≤ b) → K 0 S μ) : X G mi_X10_within d 0 0 [(0, .int v), (1, .int a), (2, .int b)] [] S μ (qi K) := by
  refine X_iload_n (tk_X10_within.at 0 rfl) rfl ?_
  refine X_iload_n (tk_X10_within.at 1 rfl) rfl ?_
  refine X_icmp_lt (tgt := 14) (tk_X10_within.at 2 rfl) (by decide) (fun c1 => ?_) (fun c1 => ?_)
  · refine X_iconst (tk_X10_within.at 8 rfl) ci_0 ?_
    refine X_ireturn (tk_X10_within.at 9 rfl) rfl rfl ?_
    exact kf (fun h => absurd h.1 (Int32.not_le.mpr c1))
  · refine X_iload_n (tk_X10_within.at 3 rfl) rfl ?_
    refine X_iload_n (tk_X10_within.at 4 rfl) rfl ?_
    refine X_icmp_gt (tgt := 14) (tk_X10_within.at 5 rfl) (by decide) (fun c2 => ?_) (fun c2 => ?_)
    · refine X_iconst (tk_X10_within.at 8 rfl) ci_0 ?_
      refine X_ireturn (tk_X10_within.at 9 rfl) rfl rfl ?_
      exact kf (fun h => absurd h.2 (Int32.not_le.mpr c2))
    · refine X_iconst (tk_X10_within.at 6 rfl) ci_1 ?_
      refine X_goto (tgt := 15) (tk_X10_within.at 7 rfl) (by decide) ?_
      refine X_ireturn (tk_X10_within.at 9 rfl) rfl rfl ?_
      exact kt (Int32.not_lt.mp c1) (Int32.not_lt.mp c2)
set_option maxHeartbeats 1000000 in
theorem c10_has {G : Gl} {d : Nat} {S : Sh} {μ : Mu} {s k : Int32} {K : Int32 → Sh → Mu → Prop} (kt : (s >>> (k &&& 31)) &&& 1 = 1 → K 1 S μ) (kf : ¬ (s >>> (k &&& 31)) &&& 1 = 1 → K 0 S μ) : X G mi_X10_has d 0 0 [(0, .int s), (1, .int k)] [] S μ (qi K) := by
  refine X_iload_n (tk_X10_has.at 0 rfl) rfl ?_
  refine X_iload_n (tk_X10_has.at 1 rfl) rfl ?_
  refine X_ishr (tk_X10_has.at 2 rfl) ?_
  refine X_iconst (tk_X10_has.at 3 rfl) ci_1 ?_
  refine X_iand (tk_X10_has.at 4 rfl) ?_
  refine X_iconst (tk_X10_has.at 5 rfl) ci_1 ?_
  refine X_icmp_ne (tgt := 13) (tk_X10_has.at 6 rfl) (by decide) (fun c1 => ?_) (fun c1 => ?_)
  · refine X_iconst (tk_X10_has.at 9 rfl) ci_0 ?_
    refine X_ireturn (tk_X10_has.at 10 rfl) rfl rfl ?_
    exact kf c1
  · refine X_iconst (tk_X10_has.at 7 rfl) ci_1 ?_
    refine X_goto (tgt := 14) (tk_X10_has.at 8 rfl) (by decide) ?_
    refine X_ireturn (tk_X10_has.at 10 rfl) rfl rfl ?_
    exact kt c1
