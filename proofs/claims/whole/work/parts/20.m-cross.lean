abbrev lnA (N : Nat → Int32) (k : Nat) : Nat := nv (N (134 + k))
abbrev mny (N : Nat → Int32) (r : Nat) : Nat := nv (N (83 + 9 * r))
abbrev pac (N : Nat → Int32) (r : Nat) : Nat := pcn N r (nv (N (83 + 9 * r)))
def mxn (a b : Nat) : Nat := if a < b then b else a
def bef (N : Nat → Int32) : Nat → Nat
  | 0 => 0
  | k + 1 => bef N k + mny N (lnA N k)
def offs (fr : Nat → Nat) (st P : Nat) : Nat → Nat
  | 0 => st
  | c + 1 => mxn (offs fr st P c) (fr c) + P
/-- when a piece is free behind the first k of the line -/
def fre (N : Nat → Int32) : Nat → Nat → Nat
  | 0 => fun _ => 0
  | k + 1 => if mny N (lnA N k) = 0 then fre N k else fun c => offs (fre N k) (nv (N 0)) (pac N (lnA N k)) (c + 1)
abbrev ofk (N : Nat → Int32) (k c : Nat) : Nat := offs (fre N k) (nv (N 0)) (pac N (lnA N k)) c
/-- when the k-th of the line comes to a piece -/
def arv (N : Nat → Int32) (k c : Nat) : Nat := mxn (ofk N k c) (fre N k c)
def ovr (N : Nat → Int32) : Nat → Nat
  | 0 => nv (N 0)
  | k + 1 => if mny N (lnA N k) = 0 then ovr N k else ofk N k (nv (N 2))
theorem pcn_le {N : Nat → Int32} (hw : WF N) {r : Nat} (hr : r < nv (N 3)) : ∀ i, i ≤ mny N r → pcn N r i ≤ 60
  | 0, _ => Nat.zero_le _
  | i + 1, h => by
    have ih := pcn_le hw hr i (by omega)
    have wp := (hw.ro hr).2.2.2.2 i (Nat.lt_of_succ_le h)
    have wq := (hw.pe wp.2).2.2.1.1.2
    unfold pcn
    split <;> omega
theorem offs_le {fr : Nat → Nat} {st P B : Nat} (hf : ∀ c, c < 8 → fr c ≤ B) (hs : st ≤ B) (hP : P ≤ 60) : ∀ c, c ≤ 8 → offs fr st P c ≤ B + 60 * c
  | 0, _ => by show st ≤ _; omega
  | c + 1, h => by
    have ih := offs_le hf hs hP c (by omega)
    have h1 := hf c (by omega)
    show mxn _ _ + P ≤ _
    unfold mxn
    split <;> omega
theorem fre_le {N : Nat → Int32} (hw : WF N) : ∀ k, k ≤ nv (N 4) → ∀ c, c < 8 → fre N k c ≤ 1439 + 480 * k
  | 0, _, c, _ => Nat.zero_le _
  | k + 1, hk, c, hc => by
    have ih := fre_le hw k (by omega)
    have h0 := hw.n0.2
    have hl := hw.li (k := k) (by omega)
    have hp := pcn_le hw hl.2 _ (Nat.le_refl _)
    unfold fre
    split
    · have := ih c hc; omega
    · have := offs_le (fr := fre N k) (st := nv (N 0)) (P := pac N (lnA N k)) (B := 1439 + 480 * k) ih (by omega) hp (c + 1) (by omega)
      show offs _ _ _ (c + 1) ≤ _
      omega
theorem ofk_le {N : Nat → Int32} (hw : WF N) {k c : Nat} (hk : k < nv (N 4)) (hc : c ≤ 8) : ofk N k c ≤ 1919 + 480 * k := by
  have h0 := hw.n0.2
  have hl := hw.li hk
  have hp := pcn_le hw hl.2 _ (Nat.le_refl _)
  have := offs_le (fr := fre N k) (st := nv (N 0)) (P := pac N (lnA N k)) (B := 1439 + 480 * k) (fre_le hw k (by omega)) (by omega) hp c hc
  show offs _ _ _ c ≤ _
  omega
/-- what a crossing leaves in comes and before, up to the k-th of the line -/
def CrI (N : Nat → Int32) (cm bf : Nat → Int32) (k : Nat) : Prop := (∀ j, j < k → bf (lnA N j) = nI (bef N j)) ∧ ∀ j, j < k → 0 < mny N (lnA N j) → ∀ c, c < nv (N 2) → cm (8 * lnA N j + c) = nI (arv N j c)
def CrL (N : Nat → Int32) (k : Nat) (last : Int32) : Prop := (last = -1 ∧ ∀ c, fre N k c = 0) ∨ ∃ j, j < k ∧ last = nI (lnA N j) ∧ 0 < mny N (lnA N j) ∧ ∀ c, c < nv (N 2) → fre N k c = arv N j c + pac N (lnA N j)
set_option maxHeartbeats 1000000 in
theorem c10_cross {G : Gl} {d : Nat} {S : Sh} {μ : Mu} {o : Nat} {q : Nat → Nat} {N : Nat → Int32} {K : Sh → Mu → Prop} (hM : MS S o q) (hN : μ (o + 1) = N) (hw : WF N) (hK : ∀ cm bf, CrI N cm bf (nv (N 4)) → K S (Tst μ o (nI (ovr N (nv (N 4)))) cm bf (μ (o + 7)) (μ (o + 8)))) : X G mi_X10_cross (d + 3) 0 0 [(0, .ref o)] [] S μ (qv K) := by
  subst hN
  have w0 := hw.n0
  have w1 := hw.n1
  have w2 := hw.n2
  have w3 := hw.n3
  have w4 := hw.n4
  have w5 := hw.n5
  have w6 := hw.n6
  have b1 := w1.2
  have b2 := w2.2
  have b3 := w3.2
  have b4 := w4.2
  have b5 := w5.2
  have b6 := w6.2
  have b0 := w0.2
  have outer : ∀ (n k : Nat) (last : Int32) (cm bf : Nat → Int32), k + n = nv (μ (o + 1) 4) → CrI (μ (o + 1)) cm bf k → CrL (μ (o + 1)) k last → ∀ rest, X G mi_X10_cross (d + 3) 0 16 ([(0, .ref o), (1, .int (nI (bef (μ (o + 1)) k))), (2, .int last), (3, .int (nI k))] ++ rest) [] S (Tst μ o (nI (ovr (μ (o + 1)) k)) cm bf (μ (o + 7)) (μ (o + 8))) (qv K) := by
    intro n
    induction n with
    | zero =>
      intro k last cm bf hk hI hL rest
      refine X_lvp [0, 1, 2, 3] (lv' := [(0, _), (1, _), (2, _), (3, _)]) rfl ?_
      have e : k = nv (μ (o + 1) 4) := by omega
      refine X_iload_n (tk_X10_cross.at 12 rfl) rfl ?_
      refine X_aload_n (tk_X10_cross.at 13 rfl) rfl ?_
      refine X_getR (tk_X10_cross.at 14 rfl) fl_x10_9 hM.f0 rfl rfl ?_
      refine X_iconst (tk_X10_cross.at 15 rfl) ci_4 ?_
      refine X_ialdN (k := 4) (tk_X10_cross.at 16 rfl) hM.f1 (pz (pl 4 rfl) (by omega)) (by omega) (by decide) ?_
      rw [Tst1]
      refine X_icmp_geN (tgt := 186) (tk_X10_cross.at 17 rfl) (by decide) (pl k rfl) w4.1 (by omega) (by omega) (fun c1 => ?_) (fun c1 => (by exfalso; omega))
      refine X_return (tk_X10_cross.at 107 rfl) rfl ?_
      rw [e] at hI ⊢
      exact hK cm bf hI
    | succ n ih =>
      intro k last cm bf hk hI hL rest
      refine X_lvp [0, 1, 2, 3] (lv' := [(0, _), (1, _), (2, _), (3, _)]) rfl ?_
      have wl := hw.li (k := k) (by omega)
      have wr := hw.ro wl.2
      have bl : lnA (μ (o + 1)) k < nv (μ (o + 1) 3) := wl.2
      have hm : μ (o + 1) (83 + 9 * lnA (μ (o + 1)) k) = nI (mny (μ (o + 1)) (lnA (μ (o + 1)) k)) := wr.2.2.2.1.1
      have bm : mny (μ (o + 1)) (lnA (μ (o + 1)) k) ≤ 5 := wr.2.2.2.1.2
      have hp60 : pac (μ (o + 1)) (lnA (μ (o + 1)) k) ≤ 60 := pcn_le hw wl.2 _ (Nat.le_refl _)
      have hne : ∀ j, j < k → lnA (μ (o + 1)) j ≠ lnA (μ (o + 1)) k := by
        intro j hj e
        have := hw.lu (k := j) (k' := k) (by omega) (by omega) (by rw [(hw.li (k := j) (by omega)).1, wl.1]; exact congrArg nI e)
        omega
      have tail : ∀ (cm : Nat → Int32) (v6 : Int32) (rest : List (Nat × Value)), (∀ j, j < k → 0 < mny (μ (o + 1)) (lnA (μ (o + 1)) j) → ∀ c, c < nv (μ (o + 1) 2) → cm (8 * lnA (μ (o + 1)) j + c) = nI (arv (μ (o + 1)) j c)) → (0 < (mny (μ (o + 1)) (lnA (μ (o + 1)) k)) → ∀ c, c < nv (μ (o + 1) 2) → cm (8 * (lnA (μ (o + 1)) k) + c) = nI (arv (μ (o + 1)) k c)) → (0 < (mny (μ (o + 1)) (lnA (μ (o + 1)) k)) → v6 = nI (ofk (μ (o + 1)) k (nv (μ (o + 1) 2)))) → X G mi_X10_cross (d + 3) 0 162 ([(0, .ref o), (1, .int (nI (bef (μ (o + 1)) (k + 1)))), (2, .int last), (3, .int (nI k)), (4, .int (nI (lnA (μ (o + 1)) k))), (5, .int v6)] ++ rest) [] S (Tst μ o (nI (ovr (μ (o + 1)) k)) cm (upd bf (lnA (μ (o + 1)) k) (nI (bef (μ (o + 1)) k))) (μ (o + 7)) (μ (o + 8))) (qv K) := by
        intro cm v6 rest h1 h2 h3
        refine X_lvp [0, 1, 2, 3, 4, 5] (lv' := [(0, _), (1, _), (2, _), (3, _), (4, _), (5, _)]) rfl ?_
        have hI2 : (∀ j, j < k + 1 → (upd bf (lnA (μ (o + 1)) k) (nI (bef (μ (o + 1)) k))) (lnA (μ (o + 1)) j) = nI (bef (μ (o + 1)) j)) := by
          intro j hj
          by_cases e : j = k
          · subst e; exact upd_at _ _ _
          · rw [upd_ne _ _ (hne j (by omega))]; exact hI.1 j (by omega)
        have hI3 : ∀ j, j < k + 1 → 0 < mny (μ (o + 1)) (lnA (μ (o + 1)) j) → ∀ c, c < nv (μ (o + 1) 2) → cm (8 * lnA (μ (o + 1)) j + c) = nI (arv (μ (o + 1)) j c) := by
          intro j hj hp c hc
          by_cases e : j = k
          · subst e; exact h2 hp c hc
          · exact h1 j (by omega) hp c hc
        refine X_aload_n (tk_X10_cross.at 96 rfl) rfl ?_
        refine X_iload (tk_X10_cross.at 97 rfl) rfl ?_
        refine X_cV1i (lv2 := [(0, _), (1, _)]) (tk_X10_cross.at 98 rfl) mv_X10_many lk_x10_118 np_X10_many hM.f0 (by decide) rfl (Nat.le_of_ble_eq_true rfl) (Nat.le_of_ble_eq_true rfl) rfl (c10_many hM (pl (lnA (μ (o + 1)) k) rfl) (by omega) ?_)
        rw [Tst1]
        refine X_if_leN (tgt := 180) (tk_X10_cross.at 99 rfl) (by decide) hm (by omega) (fun c1 => ?_) (fun c1 => ?_)
        · refine X_iinc (lv' := [(0, _), (1, _), (2, _), (3, _), (4, _), (5, _)]) (tk_X10_cross.at 105 rfl) rfl ci_1 (by decide) rfl rfl ?_
          refine X_goto (tgt := 16) (tk_X10_cross.at 106 rfl) (by decide) ?_
          have ef : fre (μ (o + 1)) (k + 1) = fre (μ (o + 1)) k := by show (if _ then _ else _) = _; rw [if_pos c1]
          have eo : ovr (μ (o + 1)) (k + 1) = ovr (μ (o + 1)) k := by show (if _ then _ else _) = _; rw [if_pos c1]
          rw [nI_1 k]
          have z := ih (k + 1) last cm _ (by omega) ⟨hI2, hI3⟩ (by rcases hL with ⟨e, h⟩ | ⟨j, a1, a2, a3, a4⟩; exact Or.inl ⟨e, by rw [ef]; exact h⟩; exact Or.inr ⟨j, by omega, a2, a3, by rw [ef]; exact a4⟩) [(4, .int (nI (lnA (μ (o + 1)) k))), (5, .int v6)]
          rw [eo] at z
          exact z
        · refine X_iload (tk_X10_cross.at 100 rfl) rfl ?_
          refine X_istore_n (lv' := [(0, _), (1, _), (2, _), (3, _), (4, _), (5, _)]) (tk_X10_cross.at 101 rfl) (by decide) rfl rfl ?_
          refine X_aload_n (tk_X10_cross.at 102 rfl) rfl ?_
          refine X_iload (tk_X10_cross.at 103 rfl) rfl ?_
          refine X_putI (tk_X10_cross.at 104 rfl) fl_x10_249 hM.f0 rfl rfl ⟨rfl, rfl⟩ ?_
          refine X_iinc (lv' := [(0, _), (1, _), (2, _), (3, _), (4, _), (5, _)]) (tk_X10_cross.at 105 rfl) rfl ci_1 (by decide) rfl rfl ?_
          refine X_goto (tgt := 16) (tk_X10_cross.at 106 rfl) (by decide) ?_
          have ef : fre (μ (o + 1)) (k + 1) = fun c => ofk (μ (o + 1)) k (c + 1) := by show (if _ then _ else _) = _; rw [if_neg (Nat.ne_of_gt c1)]
          have eo : ovr (μ (o + 1)) (k + 1) = ofk (μ (o + 1)) k (nv (μ (o + 1) 2)) := by show (if _ then _ else _) = _; rw [if_neg (Nat.ne_of_gt c1)]
          rw [h3 (by omega), Tst_ov, nI_1 k]
          have z := ih (k + 1) (nI (lnA (μ (o + 1)) k)) cm _ (by omega) ⟨hI2, hI3⟩ (Or.inr ⟨k, by omega, rfl, by omega, fun c hc => by rw [ef]; rfl⟩) [(4, .int (nI (lnA (μ (o + 1)) k))), (5, .int v6)]
          rw [eo] at z
          rw [h3 (by omega)] at z
          exact z
      have inn : ∀ (m c : Nat) (cm : Nat → Int32), c + m = nv (μ (o + 1) 2) → 0 < (mny (μ (o + 1)) (lnA (μ (o + 1)) k)) → (∀ j, j < k → 0 < mny (μ (o + 1)) (lnA (μ (o + 1)) j) → ∀ c, c < nv (μ (o + 1) 2) → cm (8 * lnA (μ (o + 1)) j + c) = nI (arv (μ (o + 1)) j c)) → (∀ e, e < c → cm (8 * (lnA (μ (o + 1)) k) + e) = nI (arv (μ (o + 1)) k e)) → ∀ rest, X G mi_X10_cross (d + 3) 0 66 ([(0, .ref o), (1, .int (nI (bef (μ (o + 1)) (k + 1)))), (2, .int last), (3, .int (nI k)), (4, .int (nI (lnA (μ (o + 1)) k))), (5, .int (nI (ofk (μ (o + 1)) k c))), (6, .int (nI c))] ++ rest) [] S (Tst μ o (nI (ovr (μ (o + 1)) k)) cm (upd bf (lnA (μ (o + 1)) k) (nI (bef (μ (o + 1)) k))) (μ (o + 7)) (μ (o + 8))) (qv K) := by
        intro m
        induction m with
        | zero =>
          intro c cm hc hpos h1 h2 rest
          refine X_lvp [0, 1, 2, 3, 4, 5, 6] (lv' := [(0, _), (1, _), (2, _), (3, _), (4, _), (5, _), (6, _)]) rfl ?_
          have e : c = nv (μ (o + 1) 2) := by omega
          refine X_iload (tk_X10_cross.at 43 rfl) rfl ?_
          refine X_aload_n (tk_X10_cross.at 44 rfl) rfl ?_
          refine X_getR (tk_X10_cross.at 45 rfl) fl_x10_9 hM.f0 rfl rfl ?_
          refine X_iconst (tk_X10_cross.at 46 rfl) ci_2 ?_
          refine X_ialdN (k := 2) (tk_X10_cross.at 47 rfl) hM.f1 (pz (pl 2 rfl) (by omega)) (by omega) (by decide) ?_
          rw [Tst1]
          refine X_icmp_geN (tgt := 162) (tk_X10_cross.at 48 rfl) (by decide) (pl c rfl) w2.1 (by omega) (by omega) (fun c1 => ?_) (fun c1 => (by exfalso; omega))
          exact tail cm _ [(6, .int (nI c))] h1 (fun _ c2 hc2 => h2 c2 (by omega)) (fun _ => by rw [e])
        | succ m ihm =>
          intro c cm hc hpos h1 h2 rest
          refine X_lvp [0, 1, 2, 3, 4, 5, 6] (lv' := [(0, _), (1, _), (2, _), (3, _), (4, _), (5, _), (6, _)]) rfl ?_
          have bo := ofk_le hw (k := k) (c := c) (by omega) (by omega)
          have bf8 := fre_le hw k (by omega) c (by omega)
          have key : ∀ (fv : Int32), fv = nI (fre (μ (o + 1)) k c) → X G mi_X10_cross (d + 3) 0 112 [(0, .ref o), (1, .int (nI (bef (μ (o + 1)) (k + 1)))), (2, .int last), (3, .int (nI k)), (4, .int (nI (lnA (μ (o + 1)) k))), (5, .int (nI (ofk (μ (o + 1)) k c))), (6, .int (nI c))] [.int fv] S (Tst μ o (nI (ovr (μ (o + 1)) k)) cm (upd bf (lnA (μ (o + 1)) k) (nI (bef (μ (o + 1)) k))) (μ (o + 7)) (μ (o + 8))) (qv K) := by
            intro fv hfv
            subst hfv
            refine X_istore (lv' := [(0, _), (1, _), (2, _), (3, _), (4, _), (5, _), (6, _), (7, _)]) (tk_X10_cross.at 69 rfl) (by decide) rfl rfl ?_
            refine X_aload_n (tk_X10_cross.at 70 rfl) rfl ?_
            refine X_getR (tk_X10_cross.at 71 rfl) fl_x10_41 hM.f0 rfl rfl ?_
            refine X_bipush (tk_X10_cross.at 72 rfl) cb_8 ?_
            refine X_iload (tk_X10_cross.at 73 rfl) rfl ?_
            refine X_imul (tk_X10_cross.at 74 rfl) ?_
            refine X_iload (tk_X10_cross.at 75 rfl) rfl ?_
            refine X_iadd (tk_X10_cross.at 76 rfl) ?_
            refine X_iload (tk_X10_cross.at 77 rfl) rfl ?_
            refine X_iload (tk_X10_cross.at 78 rfl) rfl ?_
            refine X_max (tk_X10_cross.at 79 rfl) lk_x10_164 (Nat.le_of_ble_eq_true rfl) ?_
            rw [mx_nI (by omega) (by omega)]
            change X _ _ _ _ _ _ (.int (nI (arv (μ (o + 1)) k c)) :: _) _ _ _
            refine X_iastN (k := 8 * (lnA (μ (o + 1)) k) + c) (tk_X10_cross.at 80 rfl) hM.f9 (pz (pa (pm (pl 8 rfl) (pl (lnA (μ (o + 1)) k) rfl)) (pl c rfl)) (by omega)) (by omega) (by decide) ?_
            rw [su_eq, Tst9, Tst_cm]
            refine X_aload_n (tk_X10_cross.at 81 rfl) rfl ?_
            refine X_getR (tk_X10_cross.at 82 rfl) fl_x10_41 hM.f0 rfl rfl ?_
            refine X_bipush (tk_X10_cross.at 83 rfl) cb_8 ?_
            refine X_iload (tk_X10_cross.at 84 rfl) rfl ?_
            refine X_imul (tk_X10_cross.at 85 rfl) ?_
            refine X_iload (tk_X10_cross.at 86 rfl) rfl ?_
            refine X_iadd (tk_X10_cross.at 87 rfl) ?_
            refine X_ialdN (k := 8 * (lnA (μ (o + 1)) k) + c) (tk_X10_cross.at 88 rfl) hM.f9 (pz (pa (pm (pl 8 rfl) (pl (lnA (μ (o + 1)) k) rfl)) (pl c rfl)) (by omega)) (by omega) (by decide) ?_
            rw [Tst9, upd_at]
            refine X_aload_n (tk_X10_cross.at 89 rfl) rfl ?_
            refine X_iload (tk_X10_cross.at 90 rfl) rfl ?_
            refine X_cV1i (lv2 := [(0, _), (1, _)]) (tk_X10_cross.at 91 rfl) mv_X10_paceOf lk_x10_252 np_X10_paceOf hM.f0 (by decide) rfl (Nat.le_of_ble_eq_true rfl) (Nat.le_of_ble_eq_true rfl) rfl (c10_paceOf hM (Tst1 _ _ _ _ _ _ _) hw (pl (lnA (μ (o + 1)) k) rfl) wl.2 ?_)
            refine X_iadd (tk_X10_cross.at 92 rfl) ?_
            rw [nI_add]
            change X _ _ _ _ _ _ (.int (nI (ofk (μ (o + 1)) k (c + 1))) :: _) _ _ _
            refine X_istore (lv' := [(0, _), (1, _), (2, _), (3, _), (4, _), (5, _), (6, _), (7, _)]) (tk_X10_cross.at 93 rfl) (by decide) rfl rfl ?_
            refine X_iinc (lv' := [(0, _), (1, _), (2, _), (3, _), (4, _), (5, _), (6, _), (7, _)]) (tk_X10_cross.at 94 rfl) rfl ci_1 (by decide) rfl rfl ?_
            refine X_goto (tgt := 66) (tk_X10_cross.at 95 rfl) (by decide) ?_
            rw [nI_1 c]
            have z := ihm (c + 1) (upd cm (8 * (lnA (μ (o + 1)) k) + c) (nI (arv (μ (o + 1)) k c))) (by omega) hpos ?_ ?_ [(7, .int (nI (fre (μ (o + 1)) k c)))]
            · exact z
            · intro j hj hp c2 hc2
              have := hne j hj
              rw [upd_ne _ _ (by omega)]
              exact h1 j hj hp c2 hc2
            · intro e he
              by_cases ee : e = c
              · rw [ee]; exact upd_at _ _ _
              · rw [upd_ne _ _ (by omega)]; exact h2 e (by omega)
          rcases hL with ⟨el, h⟩ | ⟨j, a1, a2, a3, a4⟩
          · subst el
            refine X_iload (tk_X10_cross.at 43 rfl) rfl ?_
            refine X_aload_n (tk_X10_cross.at 44 rfl) rfl ?_
            refine X_getR (tk_X10_cross.at 45 rfl) fl_x10_9 hM.f0 rfl rfl ?_
            refine X_iconst (tk_X10_cross.at 46 rfl) ci_2 ?_
            refine X_ialdN (k := 2) (tk_X10_cross.at 47 rfl) hM.f1 (pz (pl 2 rfl) (by omega)) (by omega) (by decide) ?_
            rw [Tst1]
            refine X_icmp_geN (tgt := 162) (tk_X10_cross.at 48 rfl) (by decide) (pl c rfl) w2.1 (by omega) (by omega) (fun c1 => (by exfalso; omega)) (fun c1 => ?_)
            refine X_aload_n (tk_X10_cross.at 49 rfl) rfl ?_
            refine X_iload (tk_X10_cross.at 50 rfl) rfl ?_
            refine X_cV1i (lv2 := [(0, _), (1, _)]) (tk_X10_cross.at 51 rfl) mv_X10_many lk_x10_118 np_X10_many hM.f0 (by decide) rfl (Nat.le_of_ble_eq_true rfl) (Nat.le_of_ble_eq_true rfl) rfl (c10_many hM (pl (lnA (μ (o + 1)) k) rfl) (by omega) ?_)
            rw [Tst1]
            refine X_if_leN (tgt := 162) (tk_X10_cross.at 52 rfl) (by decide) hm (by omega) (fun c2 => (by exfalso; omega)) (fun c2 => ?_)
            refine X_iload_n (tk_X10_cross.at 53 rfl) rfl ?_
            refine X_if_ge (tgt := 94) (tk_X10_cross.at 54 rfl) (by decide) (fun h => absurd h (by decide)) (fun _ => ?_)
            refine X_iconst (tk_X10_cross.at 55 rfl) ci_0 ?_
            refine X_goto (tgt := 112) (tk_X10_cross.at 56 rfl) (by decide) ?_
            exact key _ (by rw [h c]; rfl)
          · subst a2
            have wj := hw.li (k := j) (by omega)
            have bj : lnA (μ (o + 1)) j < nv (μ (o + 1) 3) := wj.2
            refine X_iload (tk_X10_cross.at 43 rfl) rfl ?_
            refine X_aload_n (tk_X10_cross.at 44 rfl) rfl ?_
            refine X_getR (tk_X10_cross.at 45 rfl) fl_x10_9 hM.f0 rfl rfl ?_
            refine X_iconst (tk_X10_cross.at 46 rfl) ci_2 ?_
            refine X_ialdN (k := 2) (tk_X10_cross.at 47 rfl) hM.f1 (pz (pl 2 rfl) (by omega)) (by omega) (by decide) ?_
            rw [Tst1]
            refine X_icmp_geN (tgt := 162) (tk_X10_cross.at 48 rfl) (by decide) (pl c rfl) w2.1 (by omega) (by omega) (fun c1 => (by exfalso; omega)) (fun c1 => ?_)
            refine X_aload_n (tk_X10_cross.at 49 rfl) rfl ?_
            refine X_iload (tk_X10_cross.at 50 rfl) rfl ?_
            refine X_cV1i (lv2 := [(0, _), (1, _)]) (tk_X10_cross.at 51 rfl) mv_X10_many lk_x10_118 np_X10_many hM.f0 (by decide) rfl (Nat.le_of_ble_eq_true rfl) (Nat.le_of_ble_eq_true rfl) rfl (c10_many hM (pl (lnA (μ (o + 1)) k) rfl) (by omega) ?_)
            rw [Tst1]
            refine X_if_leN (tgt := 162) (tk_X10_cross.at 52 rfl) (by decide) hm (by omega) (fun c2 => (by exfalso; omega)) (fun c2 => ?_)
            refine X_iload_n (tk_X10_cross.at 53 rfl) rfl ?_
            refine X_if_geN (tgt := 94) (tk_X10_cross.at 54 rfl) (by decide) (pl (lnA (μ (o + 1)) j) rfl) (by omega) ?_
            refine X_aload_n (tk_X10_cross.at 57 rfl) rfl ?_
            refine X_getR (tk_X10_cross.at 58 rfl) fl_x10_41 hM.f0 rfl rfl ?_
            refine X_bipush (tk_X10_cross.at 59 rfl) cb_8 ?_
            refine X_iload_n (tk_X10_cross.at 60 rfl) rfl ?_
            refine X_imul (tk_X10_cross.at 61 rfl) ?_
            refine X_iload (tk_X10_cross.at 62 rfl) rfl ?_
            refine X_iadd (tk_X10_cross.at 63 rfl) ?_
            refine X_ialdN (k := 8 * (lnA (μ (o + 1)) j) + c) (tk_X10_cross.at 64 rfl) hM.f9 (pz (pa (pm (pl 8 rfl) (pl (lnA (μ (o + 1)) j) rfl)) (pl c rfl)) (by omega)) (by omega) (by decide) ?_
            rw [Tst9]
            refine X_aload_n (tk_X10_cross.at 65 rfl) rfl ?_
            refine X_iload_n (tk_X10_cross.at 66 rfl) rfl ?_
            refine X_cV1i (lv2 := [(0, _), (1, _)]) (tk_X10_cross.at 67 rfl) mv_X10_paceOf lk_x10_252 np_X10_paceOf hM.f0 (by decide) rfl (Nat.le_of_ble_eq_true rfl) (Nat.le_of_ble_eq_true rfl) rfl (c10_paceOf hM (Tst1 _ _ _ _ _ _ _) hw (pl (lnA (μ (o + 1)) j) rfl) wj.2 ?_)
            refine X_iadd (tk_X10_cross.at 68 rfl) ?_
            exact key _ (by rw [h1 j a1 a3 c (by omega), nI_add, a4 c (by omega)])
      refine X_iload_n (tk_X10_cross.at 12 rfl) rfl ?_
      refine X_aload_n (tk_X10_cross.at 13 rfl) rfl ?_
      refine X_getR (tk_X10_cross.at 14 rfl) fl_x10_9 hM.f0 rfl rfl ?_
      refine X_iconst (tk_X10_cross.at 15 rfl) ci_4 ?_
      refine X_ialdN (k := 4) (tk_X10_cross.at 16 rfl) hM.f1 (pz (pl 4 rfl) (by omega)) (by omega) (by decide) ?_
      rw [Tst1]
      refine X_icmp_geN (tgt := 186) (tk_X10_cross.at 17 rfl) (by decide) (pl k rfl) w4.1 (by omega) (by omega) (fun c1 => (by exfalso; omega)) (fun c1 => ?_)
      refine X_aload_n (tk_X10_cross.at 18 rfl) rfl ?_
      refine X_getR (tk_X10_cross.at 19 rfl) fl_x10_9 hM.f0 rfl rfl ?_
      refine X_sipush (tk_X10_cross.at 20 rfl) cs_134 ?_
      refine X_iload_n (tk_X10_cross.at 21 rfl) rfl ?_
      refine X_iadd (tk_X10_cross.at 22 rfl) ?_
      refine X_ialdN (k := 134 + k) (tk_X10_cross.at 23 rfl) hM.f1 (pz (pa (pl 134 rfl) (pl k rfl)) (by omega)) (by omega) (by decide) ?_
      rw [Tst1, wl.1]
      refine X_istore (lv' := [(0, _), (1, _), (2, _), (3, _), (4, _)]) (tk_X10_cross.at 24 rfl) (by decide) rfl rfl ?_
      refine X_aload_n (tk_X10_cross.at 25 rfl) rfl ?_
      refine X_getR (tk_X10_cross.at 26 rfl) fl_x10_44 hM.f0 rfl rfl ?_
      refine X_iload (tk_X10_cross.at 27 rfl) rfl ?_
      refine X_iload_n (tk_X10_cross.at 28 rfl) rfl ?_
      refine X_iastN (k := (lnA (μ (o + 1)) k)) (tk_X10_cross.at 29 rfl) hM.f10 (pz (pl (lnA (μ (o + 1)) k) rfl) (by omega)) (by omega) (by decide) ?_
      rw [su_eq, Tst10, Tst_bf]
      refine X_iload_n (tk_X10_cross.at 30 rfl) rfl ?_
      refine X_aload_n (tk_X10_cross.at 31 rfl) rfl ?_
      refine X_iload (tk_X10_cross.at 32 rfl) rfl ?_
      refine X_cV1i (lv2 := [(0, _), (1, _)]) (tk_X10_cross.at 33 rfl) mv_X10_many lk_x10_118 np_X10_many hM.f0 (by decide) rfl (Nat.le_of_ble_eq_true rfl) (Nat.le_of_ble_eq_true rfl) rfl (c10_many hM (pl (lnA (μ (o + 1)) k) rfl) (by omega) ?_)
      rw [Tst1]
      refine X_iadd (tk_X10_cross.at 34 rfl) ?_
      rw [hm, nI_add]
      change X _ _ _ _ _ _ (.int (nI (bef (μ (o + 1)) (k + 1))) :: _) _ _ _
      refine X_istore_n (lv' := [(0, _), (1, _), (2, _), (3, _), (4, _)]) (tk_X10_cross.at 35 rfl) (by decide) rfl rfl ?_
      refine X_aload_n (tk_X10_cross.at 36 rfl) rfl ?_
      refine X_getR (tk_X10_cross.at 37 rfl) fl_x10_9 hM.f0 rfl rfl ?_
      refine X_iconst (tk_X10_cross.at 38 rfl) ci_0 ?_
      refine X_ialdN (k := 0) (tk_X10_cross.at 39 rfl) hM.f1 (pz (pl 0 rfl) (by omega)) (by omega) (by decide) ?_
      rw [Tst1]
      refine X_istore (lv' := [(0, _), (1, _), (2, _), (3, _), (4, _), (5, _)]) (tk_X10_cross.at 40 rfl) (by decide) rfl rfl ?_
      refine X_iconst (tk_X10_cross.at 41 rfl) ci_0 ?_
      refine X_istore (lv' := [(0, _), (1, _), (2, _), (3, _), (4, _), (5, _), (6, _)]) (tk_X10_cross.at 42 rfl) (by decide) rfl rfl ?_
      by_cases hpos : 0 < (mny (μ (o + 1)) (lnA (μ (o + 1)) k))
      · have z := inn (nv (μ (o + 1) 2)) 0 cm (Nat.zero_add _) hpos hI.2 (fun e he => absurd he (Nat.not_lt_zero e)) []
        rw [show ofk (μ (o + 1)) k 0 = nv (μ (o + 1) 0) from rfl, ← w0.1] at z
        exact z
      · have z := tail cm (μ (o + 1) 0) [(6, .int 0)] hI.2 (fun h => absurd h hpos) (fun h => absurd h hpos)
        refine X_iload (tk_X10_cross.at 43 rfl) rfl ?_
        refine X_aload_n (tk_X10_cross.at 44 rfl) rfl ?_
        refine X_getR (tk_X10_cross.at 45 rfl) fl_x10_9 hM.f0 rfl rfl ?_
        refine X_iconst (tk_X10_cross.at 46 rfl) ci_2 ?_
        refine X_ialdN (k := 2) (tk_X10_cross.at 47 rfl) hM.f1 (pz (pl 2 rfl) (by omega)) (by omega) (by decide) ?_
        rw [Tst1]
        refine X_icmp_geN (tgt := 162) (tk_X10_cross.at 48 rfl) (by decide) (pl 0 rfl) w2.1 (by omega) (by omega) (fun c1 => ?_) (fun c1 => ?_)
        · exact z
        · refine X_aload_n (tk_X10_cross.at 49 rfl) rfl ?_
          refine X_iload (tk_X10_cross.at 50 rfl) rfl ?_
          refine X_cV1i (lv2 := [(0, _), (1, _)]) (tk_X10_cross.at 51 rfl) mv_X10_many lk_x10_118 np_X10_many hM.f0 (by decide) rfl (Nat.le_of_ble_eq_true rfl) (Nat.le_of_ble_eq_true rfl) rfl (c10_many hM (pl (lnA (μ (o + 1)) k) rfl) (by omega) ?_)
          rw [Tst1]
          refine X_if_leN (tgt := 162) (tk_X10_cross.at 52 rfl) (by decide) hm (by omega) (fun c2 => ?_) (fun c2 => (by exfalso; omega))
          exact z
  refine X_iconst (tk_X10_cross.at 0 rfl) ci_0 ?_
  refine X_istore_n (lv' := [(0, _), (1, _)]) (tk_X10_cross.at 1 rfl) (by decide) rfl rfl ?_
  refine X_iconst (tk_X10_cross.at 2 rfl) ci_m1 ?_
  refine X_istore_n (lv' := [(0, _), (1, _), (2, _)]) (tk_X10_cross.at 3 rfl) (by decide) rfl rfl ?_
  refine X_aload_n (tk_X10_cross.at 4 rfl) rfl ?_
  refine X_aload_n (tk_X10_cross.at 5 rfl) rfl ?_
  refine X_getR (tk_X10_cross.at 6 rfl) fl_x10_9 hM.f0 rfl rfl ?_
  refine X_iconst (tk_X10_cross.at 7 rfl) ci_0 ?_
  refine X_ialdN (k := 0) (tk_X10_cross.at 8 rfl) hM.f1 (pz (pl 0 rfl) (by omega)) (by omega) (by decide) ?_
  refine X_putI (tk_X10_cross.at 9 rfl) fl_x10_249 hM.f0 rfl rfl ⟨rfl, rfl⟩ ?_
  refine X_iconst (tk_X10_cross.at 10 rfl) ci_0 ?_
  refine X_istore_n (lv' := [(0, _), (1, _), (2, _), (3, _)]) (tk_X10_cross.at 11 rfl) (by decide) rfl rfl ?_
  have z := outer _ 0 (-1) (μ (o + 9)) (μ (o + 10)) (Nat.zero_add _) ⟨fun j hj => absurd hj (Nat.not_lt_zero j), fun j hj => absurd hj (Nat.not_lt_zero j)⟩ (Or.inl ⟨rfl, fun _ => rfl⟩) []
  rw [show su μ o 17 (μ (o + 1) 0) = Tst μ o (nI (ovr (μ (o + 1)) 0)) (μ (o + 9)) (μ (o + 10)) (μ (o + 7)) (μ (o + 8)) from by rw [show ovr (μ (o + 1)) 0 = nv (μ (o + 1) 0) from rfl, ← w0.1, ← Tst_ov μ o (μ o 17), Tst_self]]
  exact z
