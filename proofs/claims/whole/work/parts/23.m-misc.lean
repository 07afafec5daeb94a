theorem arrV_congr {cA : ClassId} {n : Nat} {f g : Nat → Value} (h : ∀ j, j < n → f j = g j) : arrV cA n f = arrV cA n g := by
  unfold arrV
  congr 1
  apply Array.ext
  · simp
  · intro i h1 h2
    simp only [Array.getElem_ofFn]
    exact h i (by simpa using h1)
theorem X_same {G : Gl} {mi : MI} {d kc pc : Nat} {lv : List (Nat × Value)} {st : List Value} {S : Sh} {μ : Mu} {Q : Option Value → Sh → Mu → Prop} {a n : Nat} {f g : Nat → Int32} (hb : S.2 a = some (kI n)) (h : ∀ i, i < n → f i = g i) (k : X G mi d kc pc lv st S (Mx μ a g) Q) : X G mi d kc pc lv st S (Mx μ a f) Q := by
  intro p l e R s m args below meth c mc Z C hZ H locs cells slots ls hR hk hl
  refine k p l e R s m args below meth c mc Z C hZ H locs cells slots ls ⟨hR.1, hR.2.1, hR.2.2.1, fun b => ?_, hR.2.2.2.2⟩ hk hl
  have hc := hR.2.2.2.1 b
  by_cases e : b = a
  · subst e
    rw [Mx_same, hb] at hc
    rw [Mx_same, hb]
    obtain ⟨h1, cA, h2, h3⟩ := hc
    exact ⟨h1, cA, h2, by rw [h3]; exact congrArg some (arrV_congr (fun j hj => by rw [h j hj]))⟩
  · rw [Mx_ne e] at hc
    rw [Mx_ne e]
    exact hc
set_option maxHeartbeats 1000000 in
theorem c10_copy {G : Gl} {d : Nat} {S : Sh} {μ : Mu} {x y : Nat} {K : Sh → Mu → Prop} (hx : S.2 x = some (kI 314)) (hy : S.2 y = some (kI 314)) (hxy : x ≠ y) (hK : K S (Mx μ y (μ x))) : X G mi_X10_copy d 0 0 [(0, .ref x), (1, .ref y)] [] S μ (qv K) := by
  have loop : ∀ (n k : Nat), k + n = 314 → X G mi_X10_copy d 0 2 [(0, .ref x), (1, .ref y), (2, .int (nI k))] [] S (Mx μ y (fun i => if i < k then μ x i else μ y i)) (qv K) := by
    intro n
    induction n with
    | zero =>
      intro k hk
      refine X_same hy (g := μ x) (fun i hi => if_pos (by omega)) ?_
      refine X_iload_n (tk_X10_copy.at 2 rfl) rfl ?_
      refine X_sipush (tk_X10_copy.at 3 rfl) cs_314 ?_
      refine X_icmp_geN (tgt := 21) (tk_X10_copy.at 4 rfl) (by decide) (pl k rfl) (pl 314 rfl) (by omega) (by omega) (fun c1 => ?_) (fun c1 => (by exfalso; omega))
      refine X_return (tk_X10_copy.at 13 rfl) rfl ?_
      exact hK
    | succ n ih =>
      intro k hk
      refine X_iload_n (tk_X10_copy.at 2 rfl) rfl ?_
      refine X_sipush (tk_X10_copy.at 3 rfl) cs_314 ?_
      refine X_icmp_geN (tgt := 21) (tk_X10_copy.at 4 rfl) (by decide) (pl k rfl) (pl 314 rfl) (by omega) (by omega) (fun c1 => (by exfalso; omega)) (fun c1 => ?_)
      refine X_aload_n (tk_X10_copy.at 5 rfl) rfl ?_
      refine X_iload_n (tk_X10_copy.at 6 rfl) rfl ?_
      refine X_aload_n (tk_X10_copy.at 7 rfl) rfl ?_
      refine X_iload_n (tk_X10_copy.at 8 rfl) rfl ?_
      refine X_ialdN (k := k) (tk_X10_copy.at 9 rfl) hx (pz (pl k rfl) (by omega)) (by omega) (by decide) ?_
      refine X_iastN (k := k) (tk_X10_copy.at 10 rfl) hy (pz (pl k rfl) (by omega)) (by omega) (by decide) ?_
      refine X_iinc (lv' := [(0, _), (1, _), (2, _)]) (tk_X10_copy.at 11 rfl) rfl ci_1 (by decide) rfl rfl ?_
      refine X_goto (tgt := 2) (tk_X10_copy.at 12 rfl) (by decide) ?_
      rw [nI_1 k, su_Mx, Mx_ne hxy]
      have z := ih (k + 1) (by omega)
      rw [show upd (fun i => if i < k then μ x i else μ y i) k (μ x k) = (fun i => if i < k + 1 then μ x i else μ y i) from ?_]
      · exact z
      · funext i
        unfold upd
        by_cases e : i = k
        · subst e; simp
        · by_cases e2 : i < k
          · simp [e, e2, Nat.lt_succ_of_lt e2]
          · simp [e, e2, show ¬ i < k + 1 by omega]
  refine X_iconst (tk_X10_copy.at 0 rfl) ci_0 ?_
  refine X_istore_n (lv' := [(0, _), (1, _), (2, _)]) (tk_X10_copy.at 1 rfl) (by decide) rfl rfl ?_
  have z := loop 314 0 (by decide)
  rw [show (fun i => if i < 0 then μ x i else μ y i) = μ y from by funext i; exact if_neg (Nat.not_lt_zero i), Mx_self] at z
  exact z
set_option maxHeartbeats 1000000 in
theorem c10_back {G : Gl} {d : Nat} {S : Sh} {μ : Mu} {o : Nat} {q : Nat → Nat} {v : Int32} {K : Int32 → Sh → Mu → Prop} (hM : MS S o q) (hK : K v S (Mx μ (o + 1) (μ (o + 3)))) : X G mi_X10_back (d + 1) 0 0 [(0, .ref o), (1, .int v)] [] S μ (qi K) := by
  refine X_aload_n (tk_X10_back.at 0 rfl) rfl ?_
  refine X_getR (tk_X10_back.at 1 rfl) fl_x10_16 hM.f0 rfl rfl ?_
  refine X_aload_n (tk_X10_back.at 2 rfl) rfl ?_
  refine X_getR (tk_X10_back.at 3 rfl) fl_x10_9 hM.f0 rfl rfl ?_
  refine X_cS2v (lv2 := [(0, _), (1, _)]) (tk_X10_back.at 4 rfl) ms_X10_copy lk_x10_73 np_X10_copy (Nat.le_of_ble_eq_true rfl) (Nat.le_of_ble_eq_true rfl) rfl (c10_copy hM.f3 hM.f1 (by omega) ?_)
  refine X_iload_n (tk_X10_back.at 5 rfl) rfl ?_
  refine X_ireturn (tk_X10_back.at 6 rfl) rfl rfl ?_
  exact hK
set_option maxHeartbeats 1000000 in
theorem c10_image {G : Gl} {d : Nat} {S : Sh} {μ : Mu} {o : Nat} {q : Nat → Nat} {K : Int32 → Sh → Mu → Prop} (hM : MS S o q) (hK : K (μ o 3 + 1) S (su (Mx μ (o + 2) (μ (o + 1))) o 3 (μ o 3 + 1))) : X G mi_X10_image (d + 1) 0 0 [(0, .ref o)] [] S μ (qi K) := by
  refine X_aload_n (tk_X10_image.at 0 rfl) rfl ?_
  refine X_getR (tk_X10_image.at 1 rfl) fl_x10_9 hM.f0 rfl rfl ?_
  refine X_aload_n (tk_X10_image.at 2 rfl) rfl ?_
  refine X_getR (tk_X10_image.at 3 rfl) fl_x10_13 hM.f0 rfl rfl ?_
  refine X_cS2v (lv2 := [(0, _), (1, _)]) (tk_X10_image.at 4 rfl) ms_X10_copy lk_x10_73 np_X10_copy (Nat.le_of_ble_eq_true rfl) (Nat.le_of_ble_eq_true rfl) rfl (c10_copy hM.f1 hM.f2 (by omega) ?_)
  refine X_aload_n (tk_X10_image.at 5 rfl) rfl ?_
  refine X_dup (tk_X10_image.at 6 rfl) rfl ?_
  refine X_getI (tk_X10_image.at 7 rfl) fl_x10_329 hM.f0 rfl ?_
  refine X_iconst (tk_X10_image.at 8 rfl) ci_1 ?_
  refine X_iadd (tk_X10_image.at 9 rfl) ?_
  refine X_putI (tk_X10_image.at 10 rfl) fl_x10_329 hM.f0 rfl rfl ⟨rfl, rfl⟩ ?_
  refine X_aload_n (tk_X10_image.at 11 rfl) rfl ?_
  refine X_getI (tk_X10_image.at 12 rfl) fl_x10_329 hM.f0 rfl ?_
  refine X_ireturn (tk_X10_image.at 13 rfl) rfl rfl ?_
  have e : Mx μ (o + 2) (μ (o + 1)) o = μ o := Mx_ne (by omega)
  rw [e, su_same, upd_at]
  exact hK
set_option maxHeartbeats 1000000 in
theorem c10_restore {G : Gl} {d : Nat} {S : Sh} {μ : Mu} {o : Nat} {q : Nat → Nat} {K : Int32 → Sh → Mu → Prop} (hM : MS S o q) (k1 : μ o 3 = 0 → K (-1000000002) S (er μ o 2)) (k2 : ¬ μ o 3 = 0 → K (μ (o + 2) 0) S (Mx μ (o + 1) (μ (o + 2)))) : X G mi_X10_restore (d + 1) 0 0 [(0, .ref o)] [] S μ (qi K) := by
  refine X_aload_n (tk_X10_restore.at 0 rfl) rfl ?_
  refine X_getI (tk_X10_restore.at 1 rfl) fl_x10_329 hM.f0 rfl ?_
  refine X_if_ne (tgt := 14) (tk_X10_restore.at 2 rfl) (by decide) (fun c1 => ?_) (fun c1 => ?_)
  · refine X_aload_n (tk_X10_restore.at 7 rfl) rfl ?_
    refine X_getR (tk_X10_restore.at 8 rfl) fl_x10_13 hM.f0 rfl rfl ?_
    refine X_aload_n (tk_X10_restore.at 9 rfl) rfl ?_
    refine X_getR (tk_X10_restore.at 10 rfl) fl_x10_9 hM.f0 rfl rfl ?_
    refine X_cS2v (lv2 := [(0, _), (1, _)]) (tk_X10_restore.at 11 rfl) ms_X10_copy lk_x10_73 np_X10_copy (Nat.le_of_ble_eq_true rfl) (Nat.le_of_ble_eq_true rfl) rfl (c10_copy hM.f2 hM.f1 (by omega) ?_)
    refine X_aload_n (tk_X10_restore.at 12 rfl) rfl ?_
    refine X_getR (tk_X10_restore.at 13 rfl) fl_x10_9 hM.f0 rfl rfl ?_
    refine X_iconst (tk_X10_restore.at 14 rfl) ci_0 ?_
    refine X_ialdN (k := 0) (tk_X10_restore.at 15 rfl) hM.f1 (pz (pl 0 rfl) (by omega)) (by omega) (by decide) ?_
    refine X_ireturn (tk_X10_restore.at 16 rfl) rfl rfl ?_
    rw [Mx_same]
    exact k2 c1
  · refine X_aload_n (tk_X10_restore.at 3 rfl) rfl ?_
    refine X_ldc (tk_X10_restore.at 4 rfl) kn_x10_108 ?_
    refine X_cV1i (lv2 := [(0, _), (1, _)]) (tk_X10_restore.at 5 rfl) mv_X10_finding lk_x10_82 np_X10_finding hM.f0 (by decide) rfl (Nat.le_of_ble_eq_true rfl) (Nat.le_of_ble_eq_true rfl) rfl (c10_finding (k := 2) hM (by decide) (by decide) ?_)
    refine X_ireturn (tk_X10_restore.at 6 rfl) rfl rfl ?_
    exact k1 c1
set_option maxHeartbeats 1000000 in
theorem c10_tell {G : Gl} {d : Nat} {S : Sh} {μ : Mu} {o : Nat} {q : Nat → Nat} {v : Int32} {K : Int32 → Sh → Mu → Prop} (hM : MS S o q) (hw : WF (μ (o + 1))) (k1 : nv (μ (o + 1) 6) = 20 → K (-1000000004) S (er μ o 4)) (k2 : nv (μ (o + 1) 6) < 20 → K (nI (nv (μ (o + 1) 6) + 1)) S (Mx μ (o + 1) (upd (upd (μ (o + 1)) (190 + nv (μ (o + 1) 6)) v) 6 (nI (nv (μ (o + 1) 6) + 1))))) : X G mi_X10_tell (d + 1) 0 0 [(0, .ref o), (1, .int v)] [] S μ (qi K) := by
  have w0 := hw.n0
  have w1 := hw.n1
  have w2 := hw.n2
  have w3 := hw.n3
  have w4 := hw.n4
  have w5 := hw.n5
  have w6 := hw.n6
  have b1 := w1.2
  have b2 := w2.2
  have b3 := w3.2
  have b4 := w4.2
  have b5 := w5.2
  have b6 := w6.2
  have b0 := w0.2
  refine X_aload_n (tk_X10_tell.at 0 rfl) rfl ?_
  refine X_getR (tk_X10_tell.at 1 rfl) fl_x10_9 hM.f0 rfl rfl ?_
  refine X_bipush (tk_X10_tell.at 2 rfl) cb_6 ?_
  refine X_ialdN (k := 6) (tk_X10_tell.at 3 rfl) hM.f1 (pz (pl 6 rfl) (by omega)) (by omega) (by decide) ?_
  refine X_bipush (tk_X10_tell.at 4 rfl) cb_20 ?_
  refine X_icmp_neN (tgt := 19) (tk_X10_tell.at 5 rfl) (by decide) w6.1 (pl 20 rfl) (by omega) (by omega) (fun c1 => ?_) (fun c1 => ?_)
  · refine X_aload_n (tk_X10_tell.at 10 rfl) rfl ?_
    refine X_getR (tk_X10_tell.at 11 rfl) fl_x10_9 hM.f0 rfl rfl ?_
    refine X_sipush (tk_X10_tell.at 12 rfl) cs_190 ?_
    refine X_aload_n (tk_X10_tell.at 13 rfl) rfl ?_
    refine X_getR (tk_X10_tell.at 14 rfl) fl_x10_9 hM.f0 rfl rfl ?_
    refine X_bipush (tk_X10_tell.at 15 rfl) cb_6 ?_
    refine X_ialdN (k := 6) (tk_X10_tell.at 16 rfl) hM.f1 (pz (pl 6 rfl) (by omega)) (by omega) (by decide) ?_
    refine X_iadd (tk_X10_tell.at 17 rfl) ?_
    refine X_iload_n (tk_X10_tell.at 18 rfl) rfl ?_
    refine X_iastN (k := 190 + (nv (μ (o + 1) 6))) (tk_X10_tell.at 19 rfl) hM.f1 (pz (pa (pl 190 rfl) w6.1) (by omega)) (by omega) (by decide) ?_
    refine X_aload_n (tk_X10_tell.at 20 rfl) rfl ?_
    refine X_getR (tk_X10_tell.at 21 rfl) fl_x10_9 hM.f0 rfl rfl ?_
    refine X_bipush (tk_X10_tell.at 22 rfl) cb_6 ?_
    refine X_dup2 (tk_X10_tell.at 23 rfl) rfl rfl ?_
    refine X_ialdN (k := 6) (tk_X10_tell.at 24 rfl) hM.f1 (pz (pl 6 rfl) (by omega)) (by omega) (by decide) ?_
    refine X_iconst (tk_X10_tell.at 25 rfl) ci_1 ?_
    refine X_iadd (tk_X10_tell.at 26 rfl) ?_
    refine X_iastN (k := 6) (tk_X10_tell.at 27 rfl) hM.f1 (pz (pl 6 rfl) (by omega)) (by omega) (by decide) ?_
    refine X_aload_n (tk_X10_tell.at 28 rfl) rfl ?_
    refine X_getR (tk_X10_tell.at 29 rfl) fl_x10_9 hM.f0 rfl rfl ?_
    refine X_bipush (tk_X10_tell.at 30 rfl) cb_6 ?_
    refine X_ialdN (k := 6) (tk_X10_tell.at 31 rfl) hM.f1 (pz (pl 6 rfl) (by omega)) (by omega) (by decide) ?_
    refine X_ireturn (tk_X10_tell.at 32 rfl) rfl rfl ?_
    have e1 : upd (μ (o + 1)) (190 + nv (μ (o + 1) 6)) v 6 = nI (nv (μ (o + 1) 6)) := by rw [upd_ne _ _ (by omega)]; exact w6.1
    have e2 : (su (su μ (o + 1) (190 + (nv (μ (o + 1) 6))) v) (o + 1) 6 (((su μ (o + 1) (190 + (nv (μ (o + 1) 6))) v) (o + 1) 6) + 1)) = Mx μ (o + 1) (upd (upd (μ (o + 1)) (190 + nv (μ (o + 1) 6)) v) 6 (nI (nv (μ (o + 1) 6) + 1))) := by simp only [su_eq, Mx_same, Mx_Mx, e1, ← nI_succ]
    rw [e2, Mx_same, upd_at]
    exact k2 (by omega)
  · refine X_aload_n (tk_X10_tell.at 6 rfl) rfl ?_
    refine X_ldc (tk_X10_tell.at 7 rfl) kn_x10_86 ?_
    refine X_cV1i (lv2 := [(0, _), (1, _)]) (tk_X10_tell.at 8 rfl) mv_X10_finding lk_x10_82 np_X10_finding hM.f0 (by decide) rfl (Nat.le_of_ble_eq_true rfl) (Nat.le_of_ble_eq_true rfl) rfl (c10_finding (k := 4) hM (by decide) (by decide) ?_)
    refine X_ireturn (tk_X10_tell.at 9 rfl) rfl rfl ?_
    exact k1 c1
set_option maxHeartbeats 1000000 in
theorem c10_seed {G : Gl} {d : Nat} {S : Sh} {μ : Mu} {o : Nat} {q : Nat → Nat} {v : Int32} {K : Int32 → Sh → Mu → Prop} (hM : MS S o q) (hK : K (μ (o + 1) 7) S (su μ (o + 1) 7 v)) : X G mi_X10_seed (d + 1) 0 0 [(0, .ref o), (1, .int v)] [] S μ (qi K) := by
  refine X_aload_n (tk_X10_seed.at 0 rfl) rfl ?_
  refine X_bipush (tk_X10_seed.at 1 rfl) cb_7 ?_
  refine X_iload_n (tk_X10_seed.at 2 rfl) rfl ?_
  refine X_cV2i (lv2 := [(0, _), (1, _), (2, _)]) (tk_X10_seed.at 3 rfl) mv_X10_become lk_x10_112 np_X10_become hM.f0 (by decide) rfl (Nat.le_of_ble_eq_true rfl) (Nat.le_of_ble_eq_true rfl) rfl (c10_become (k := 7) hM (pz (pl 7 rfl) (by omega)) (by omega) ?_)
  refine X_ireturn (tk_X10_seed.at 4 rfl) rfl rfl ?_
  exact hK
set_option maxHeartbeats 1000000 in
theorem c10_count {G : Gl} {d : Nat} {S : Sh} {μ : Mu} {o : Nat} {q : Nat → Nat} {w : Int32} {K : Int32 → Sh → Mu → Prop} (hM : MS S o q) (k1 : ¬ (0 ≤ w ∧ w ≤ 8) → K (-1000000001) S (er μ o 1)) (k2 : ∀ f, f < 7 → w = nI f → K (μ (o + 1) f) S μ) (k3 : w = nI 7 → K (μ o 22) S μ) (k4 : w = nI 8 → K (μ (o + 1) 7) S μ) : X G mi_X10_count (d + 1) 0 0 [(0, .ref o), (1, .int w)] [] S μ (qi K) := by
  refine X_iload_n (tk_X10_count.at 0 rfl) rfl ?_
  refine X_iconst (tk_X10_count.at 1 rfl) ci_0 ?_
  refine X_bipush (tk_X10_count.at 2 rfl) cb_8 ?_
  refine X_cS3i (lv2 := [(0, _), (1, _), (2, _)]) (tk_X10_count.at 3 rfl) ms_X10_within lk_x10_69 np_X10_within (Nat.le_of_ble_eq_true rfl) (Nat.le_of_ble_eq_true rfl) rfl (c10_within (fun h4 h1004 => ?_) (fun h4 => ?_))
  · obtain ⟨ew4, lw4, bw4⟩ := le_lits (a := 0) (b := 8) (by decide) h4 h1004 (by decide)
    refine X_if_ne (tgt := 17) (tk_X10_count.at 4 rfl) (by decide) (fun _ => ?_) (fun h => absurd h (by decide))
    refine X_iload_n (tk_X10_count.at 9 rfl) rfl ?_
    refine X_bipush (tk_X10_count.at 10 rfl) cb_7 ?_
    refine X_icmp_geN (tgt := 32) (tk_X10_count.at 11 rfl) (by decide) ew4 (pl 7 rfl) (by omega) (by omega) (fun c2 => ?_) (fun c2 => ?_)
    · refine X_iload_n (tk_X10_count.at 17 rfl) rfl ?_
      refine X_bipush (tk_X10_count.at 18 rfl) cb_7 ?_
      refine X_icmp_neN (tgt := 45) (tk_X10_count.at 19 rfl) (by decide) ew4 (pl 7 rfl) (by omega) (by omega) (fun c3 => ?_) (fun c3 => ?_)
      · refine X_aload_n (tk_X10_count.at 23 rfl) rfl ?_
        refine X_getR (tk_X10_count.at 24 rfl) fl_x10_9 hM.f0 rfl rfl ?_
        refine X_bipush (tk_X10_count.at 25 rfl) cb_7 ?_
        refine X_ialdN (k := 7) (tk_X10_count.at 26 rfl) hM.f1 (pz (pl 7 rfl) (by omega)) (by omega) (by decide) ?_
        refine X_ireturn (tk_X10_count.at 27 rfl) rfl rfl ?_
        exact k4 (pz ew4 (by omega))
      · refine X_aload_n (tk_X10_count.at 20 rfl) rfl ?_
        refine X_getI (tk_X10_count.at 21 rfl) fl_x10_308 hM.f0 rfl ?_
        refine X_goto (tgt := 52) (tk_X10_count.at 22 rfl) (by decide) ?_
        refine X_ireturn (tk_X10_count.at 27 rfl) rfl rfl ?_
        exact k3 (pz ew4 c3)
    · refine X_aload_n (tk_X10_count.at 12 rfl) rfl ?_
      refine X_getR (tk_X10_count.at 13 rfl) fl_x10_9 hM.f0 rfl rfl ?_
      refine X_iload_n (tk_X10_count.at 14 rfl) rfl ?_
      refine X_ialdN (k := (nv w)) (tk_X10_count.at 15 rfl) hM.f1 ew4 (by omega) (by decide) ?_
      refine X_goto (tgt := 52) (tk_X10_count.at 16 rfl) (by decide) ?_
      refine X_ireturn (tk_X10_count.at 27 rfl) rfl rfl ?_
      exact k2 (nv w) (by omega) ew4
  · refine X_if_ne (tgt := 17) (tk_X10_count.at 4 rfl) (by decide) (fun h => absurd h (by decide)) (fun _ => ?_)
    refine X_aload_n (tk_X10_count.at 5 rfl) rfl ?_
    refine X_ldc (tk_X10_count.at 6 rfl) kn_x10_81 ?_
    refine X_cV1i (lv2 := [(0, _), (1, _)]) (tk_X10_count.at 7 rfl) mv_X10_finding lk_x10_82 np_X10_finding hM.f0 (by decide) rfl (Nat.le_of_ble_eq_true rfl) (Nat.le_of_ble_eq_true rfl) rfl (c10_finding (k := 1) hM (by decide) (by decide) ?_)
    refine X_ireturn (tk_X10_count.at 8 rfl) rfl rfl ?_
    exact k1 h4
set_option maxHeartbeats 1000000 in
theorem c10_told {G : Gl} {d : Nat} {S : Sh} {μ : Mu} {o : Nat} {q : Nat → Nat} {k : Int32} {K : Int32 → Sh → Mu → Prop} (hM : MS S o q) (k1 : ¬ (1 ≤ k ∧ k ≤ 5) → K (-1000000001) S (er μ o 1)) (k2 : ∀ f, 1 ≤ f → f ≤ 5 → k = nI f → K (μ (o + 4) f) S μ) : X G mi_X10_told (d + 1) 0 0 [(0, .ref o), (1, .int k)] [] S μ (qi K) := by
  refine X_iload_n (tk_X10_told.at 0 rfl) rfl ?_
  refine X_iconst (tk_X10_told.at 1 rfl) ci_1 ?_
  refine X_iconst (tk_X10_told.at 2 rfl) ci_5 ?_
  refine X_cS3i (lv2 := [(0, _), (1, _), (2, _)]) (tk_X10_told.at 3 rfl) ms_X10_within lk_x10_69 np_X10_within (Nat.le_of_ble_eq_true rfl) (Nat.le_of_ble_eq_true rfl) rfl (c10_within (fun h3 h1003 => ?_) (fun h3 => ?_))
  · obtain ⟨ew3, lw3, bw3⟩ := le_lits (a := 1) (b := 5) (by decide) h3 h1003 (by decide)
    refine X_if_eq (tgt := 18) (tk_X10_told.at 4 rfl) (by decide) (fun h => absurd h (by decide)) (fun _ => ?_)
    refine X_aload_n (tk_X10_told.at 5 rfl) rfl ?_
    refine X_getR (tk_X10_told.at 6 rfl) fl_x10_19 hM.f0 rfl rfl ?_
    refine X_iload_n (tk_X10_told.at 7 rfl) rfl ?_
    refine X_ialdN (k := (nv k)) (tk_X10_told.at 8 rfl) hM.f4 ew3 (by omega) (by decide) ?_
    refine X_goto (tgt := 24) (tk_X10_told.at 9 rfl) (by decide) ?_
    refine X_ireturn (tk_X10_told.at 13 rfl) rfl rfl ?_
    exact k2 (nv k) (by omega) (by omega) ew3
  · refine X_if_eq (tgt := 18) (tk_X10_told.at 4 rfl) (by decide) (fun _ => ?_) (fun h => absurd h (by decide))
    refine X_aload_n (tk_X10_told.at 10 rfl) rfl ?_
    refine X_ldc (tk_X10_told.at 11 rfl) kn_x10_81 ?_
    refine X_cV1i (lv2 := [(0, _), (1, _)]) (tk_X10_told.at 12 rfl) mv_X10_finding lk_x10_82 np_X10_finding hM.f0 (by decide) rfl (Nat.le_of_ble_eq_true rfl) (Nat.le_of_ble_eq_true rfl) rfl (c10_finding (k := 1) hM (by decide) (by decide) ?_)
    refine X_ireturn (tk_X10_told.at 13 rfl) rfl rfl ?_
    exact k1 h3
set_option maxHeartbeats 1000000 in
theorem c10_trace {G : Gl} {d : Nat} {S : Sh} {μ : Mu} {o : Nat} {q : Nat → Nat} {i : Int32} {t : Nat} {K : Int32 → Sh → Mu → Prop} (hM : MS S o q) (ht : μ o 22 = nI t) (hb : t ≤ 40) (k1 : ¬ In i t → K (-1000000002) S (er μ o 2)) (k2 : ∀ j, j < t → i = nI j → K (μ (o + 13) j) S μ) : X G mi_X10_trace (d + 1) 0 0 [(0, .ref o), (1, .int i)] [] S μ (qi K) := by
  refine X_iload_n (tk_X10_trace.at 0 rfl) rfl ?_
  refine X_iconst (tk_X10_trace.at 1 rfl) ci_0 ?_
  refine X_aload_n (tk_X10_trace.at 2 rfl) rfl ?_
  refine X_getI (tk_X10_trace.at 3 rfl) fl_x10_308 hM.f0 rfl ?_
  refine X_iconst (tk_X10_trace.at 4 rfl) ci_1 ?_
  refine X_isub (tk_X10_trace.at 5 rfl) ?_
  refine X_cS3i (lv2 := [(0, _), (1, _), (2, _)]) (tk_X10_trace.at 6 rfl) ms_X10_within lk_x10_69 np_X10_within (Nat.le_of_ble_eq_true rfl) (Nat.le_of_ble_eq_true rfl) rfl (c10_within (fun h8 h1008 => ?_) (fun h8 => ?_))
  · refine X_if_eq (tgt := 23) (tk_X10_trace.at 7 rfl) (by decide) (fun h => absurd h (by decide)) (fun _ => ?_)
    rw [ht] at h1008
    obtain ⟨j, hj, ej⟩ := in_t (by omega) h8 h1008
    refine X_aload_n (tk_X10_trace.at 8 rfl) rfl ?_
    refine X_getR (tk_X10_trace.at 9 rfl) fl_x10_53 hM.f0 rfl rfl ?_
    refine X_iload_n (tk_X10_trace.at 10 rfl) rfl ?_
    refine X_ialdN (k := j) (tk_X10_trace.at 11 rfl) hM.f13 ej (by omega) (by decide) ?_
    refine X_goto (tgt := 29) (tk_X10_trace.at 12 rfl) (by decide) ?_
    refine X_ireturn (tk_X10_trace.at 16 rfl) rfl rfl ?_
    exact k2 j hj ej
  · refine X_if_eq (tgt := 23) (tk_X10_trace.at 7 rfl) (by decide) (fun _ => ?_) (fun h => absurd h (by decide))
    refine X_aload_n (tk_X10_trace.at 13 rfl) rfl ?_
    refine X_ldc (tk_X10_trace.at 14 rfl) kn_x10_108 ?_
    refine X_cV1i (lv2 := [(0, _), (1, _)]) (tk_X10_trace.at 15 rfl) mv_X10_finding lk_x10_82 np_X10_finding hM.f0 (by decide) rfl (Nat.le_of_ble_eq_true rfl) (Nat.le_of_ble_eq_true rfl) rfl (c10_finding (k := 2) hM (by decide) (by decide) ?_)
    refine X_ireturn (tk_X10_trace.at 16 rfl) rfl rfl ?_
    rw [ht] at h8
    exact k1 (In_no (by omega) (in_f (by omega) h8))
set_option maxHeartbeats 1000000 in
theorem c10_isSheet {G : Gl} {d : Nat} {S : Sh} {μ : Mu} {s : Int32} {K : Int32 → Sh → Mu → Prop} (kt : ∀ j, j < 4 → s = nI j → K 1 S μ) (kf : ¬ In s 4 → K 0 S μ) : X G mi_X10_isSheet (d + 1) 0 0 [(0, .int s)] [] S μ (qi K) := by
  refine X_iload_n (tk_X10_isSheet.at 0 rfl) rfl ?_
  refine X_iconst (tk_X10_isSheet.at 1 rfl) ci_0 ?_
  refine X_iconst (tk_X10_isSheet.at 2 rfl) ci_3 ?_
  refine X_cS3i (lv2 := [(0, _), (1, _), (2, _)]) (tk_X10_isSheet.at 3 rfl) ms_X10_within lk_x10_69 np_X10_within (Nat.le_of_ble_eq_true rfl) (Nat.le_of_ble_eq_true rfl) rfl (c10_within (fun h3 h1003 => ?_) (fun h3 => ?_))
  · obtain ⟨ew3, lw3, bw3⟩ := le_lits (a := 0) (b := 3) (by decide) h3 h1003 (by decide)
    refine X_ireturn (tk_X10_isSheet.at 4 rfl) rfl rfl ?_
    exact kt (nv s) (by omega) ew3
  · refine X_ireturn (tk_X10_isSheet.at 4 rfl) rfl rfl ?_
    refine kf (fun g => h3 ?_)
    obtain ⟨j, hj, rfl⟩ := g
    exact ⟨nI_le (a := 0) (b := j) (by omega) (by omega), nI_le (a := j) (b := 3) (by omega) (by omega)⟩
def okB (b : Int32) : Prop := b = 0 ∨ b = 8 ∨ b = 16 ∨ b = 32
def clrN (f : Nat → Int32) (s : Nat) : Nat → Int32 := fun a => if 40 * s ≤ a ∧ a < 40 * s + 40 then 0 else f a
def nar (b v : Int32) : Int32 := if b = 8 then v.toInt8.toInt32 else if b = 16 then v.toInt16.toInt32 else v
set_option maxHeartbeats 1000000 in
theorem c10_sheet {G : Gl} {d : Nat} {S : Sh} {μ : Mu} {o : Nat} {q : Nat → Nat} {s b n : Int32} {K : Int32 → Sh → Mu → Prop} (hM : MS S o q) (k1 : ¬ (In s 4 ∧ okB b) → K (-1000000001) S (er μ o 1)) (k2 : ∀ j, j < 4 → s = nI j → okB b → ¬ b = 0 → n < 0 → K (-1000000003) S (er μ o 3)) (k3 : ∀ j, j < 4 → s = nI j → okB b → ¬ b = 0 → 0 ≤ n → 40 < n → K (-1000000001) S (er μ o 1)) (k4 : ∀ j, j < 4 → s = nI j → okB b → (b ≠ 0 → 0 ≤ n ∧ n ≤ 40) → K 1 S (Mx (su (su μ (o + 14) j b) (o + 15) j (if b = 0 then 0 else n)) (o + 16) (clrN (μ (o + 16)) j))) : X G mi_X10_sheet (d + 2) 0 0 [(0, .ref o), (1, .int s), (2, .int b), (3, .int n)] [] S μ (qi K) := by
  have tl : ∀ s1, s1 < 4 → s = nI s1 → okB b → (b ≠ 0 → 0 ≤ n ∧ n ≤ 40) → X G mi_X10_sheet (d + 2) 0 68 [(0, .ref o), (1, .int s), (2, .int b), (3, .int n)] [] S μ (qi K) := by
    intro s1 hs1 es1 hok hn
    refine X_aload_n (tk_X10_sheet.at 35 rfl) rfl ?_
    refine X_getR (tk_X10_sheet.at 36 rfl) fl_x10_56 hM.f0 rfl rfl ?_
    refine X_iload_n (tk_X10_sheet.at 37 rfl) rfl ?_
    refine X_iload_n (tk_X10_sheet.at 38 rfl) rfl ?_
    refine X_iastN (k := s1) (tk_X10_sheet.at 39 rfl) hM.f14 es1 (by omega) (by decide) ?_
    refine X_aload_n (tk_X10_sheet.at 40 rfl) rfl ?_
    refine X_getR (tk_X10_sheet.at 41 rfl) fl_x10_59 hM.f0 rfl rfl ?_
    refine X_iload_n (tk_X10_sheet.at 42 rfl) rfl ?_
    refine X_iload_n (tk_X10_sheet.at 43 rfl) rfl ?_
    refine X_if_ne (tgt := 88) (tk_X10_sheet.at 44 rfl) (by decide) (fun c1 => ?_) (fun c1 => ?_)
    · refine X_iload_n (tk_X10_sheet.at 47 rfl) rfl ?_
      refine X_iastN (k := s1) (tk_X10_sheet.at 48 rfl) hM.f15 es1 (by omega) (by decide) ?_
      refine X_iconst (tk_X10_sheet.at 49 rfl) ci_0 ?_
      refine X_istore (lv' := [(0, _), (1, _), (2, _), (3, _), (4, _)]) (tk_X10_sheet.at 50 rfl) (by decide) rfl rfl ?_
      have hzz : (if b = 0 then 0 else n) = n := if_neg c1
      have e16 : (su (su μ (o + 14) s1 b) (o + 15) s1 n) (o + 16) = μ (o + 16) := by simp [su_ne]
      have loop : ∀ (m k : Nat), k + m = 40 → X G mi_X10_sheet (d + 2) 0 93 [(0, .ref o), (1, .int s), (2, .int b), (3, .int n), (4, .int (nI k))] [] S (Mx (su (su μ (o + 14) s1 b) (o + 15) s1 n) (o + 16) (fun a => if 40 * s1 ≤ a ∧ a < 40 * s1 + k then 0 else μ (o + 16) a)) (qi K) := by
        intro m
        induction m with
        | zero =>
          intro k hk
          have ek : k = 40 := by omega
          subst ek
          refine X_iload (tk_X10_sheet.at 51 rfl) rfl ?_
          refine X_bipush (tk_X10_sheet.at 52 rfl) cb_40 ?_
          refine X_icmp_geN (tgt := 119) (tk_X10_sheet.at 53 rfl) (by decide) (pl 40 rfl) (pl 40 rfl) (by omega) (by omega) (fun c1 => ?_) (fun c1 => (by exfalso; omega))
          refine X_iconst (tk_X10_sheet.at 65 rfl) ci_1 ?_
          refine X_ireturn (tk_X10_sheet.at 66 rfl) rfl rfl ?_
          have z := k4 s1 hs1 es1 hok hn
          rw [hzz] at z
          exact z
        | succ m ih =>
          intro k hk
          refine X_iload (tk_X10_sheet.at 51 rfl) rfl ?_
          refine X_bipush (tk_X10_sheet.at 52 rfl) cb_40 ?_
          refine X_icmp_geN (tgt := 119) (tk_X10_sheet.at 53 rfl) (by decide) (pl k rfl) (pl 40 rfl) (by omega) (by omega) (fun c1 => (by exfalso; omega)) (fun c1 => ?_)
          refine X_aload_n (tk_X10_sheet.at 54 rfl) rfl ?_
          refine X_getR (tk_X10_sheet.at 55 rfl) fl_x10_62 hM.f0 rfl rfl ?_
          refine X_bipush (tk_X10_sheet.at 56 rfl) cb_40 ?_
          refine X_iload_n (tk_X10_sheet.at 57 rfl) rfl ?_
          refine X_imul (tk_X10_sheet.at 58 rfl) ?_
          refine X_iload (tk_X10_sheet.at 59 rfl) rfl ?_
          refine X_iadd (tk_X10_sheet.at 60 rfl) ?_
          refine X_iconst (tk_X10_sheet.at 61 rfl) ci_0 ?_
          refine X_iastN (k := 40 * s1 + k) (tk_X10_sheet.at 62 rfl) hM.f16 (pz (pa (pm (pl 40 rfl) es1) (pl k rfl)) (by omega)) (by omega) (by decide) ?_
          refine X_iinc (lv' := [(0, _), (1, _), (2, _), (3, _), (4, _)]) (tk_X10_sheet.at 63 rfl) rfl ci_1 (by decide) rfl rfl ?_
          refine X_goto (tgt := 93) (tk_X10_sheet.at 64 rfl) (by decide) ?_
          rw [nI_1 k, su_Mx]
          have z := ih (k + 1) (by omega)
          rw [show upd (fun a => if 40 * s1 ≤ a ∧ a < 40 * s1 + k then 0 else μ (o + 16) a) (40 * s1 + k) 0 = (fun a => if 40 * s1 ≤ a ∧ a < 40 * s1 + (k + 1) then 0 else μ (o + 16) a) from ?_]
          · exact z
          · funext a
            unfold upd
            by_cases e : a = 40 * s1 + k
            · rw [if_pos e, if_pos (by omega)]
            · rw [if_neg e]
              dsimp only
              by_cases e2 : 40 * s1 ≤ a ∧ a < 40 * s1 + k
              · rw [if_pos e2, if_pos (by omega)]
              · rw [if_neg e2, if_neg (by omega)]
      have z := loop 40 0 (by decide)
      rw [show (fun a => if 40 * s1 ≤ a ∧ a < 40 * s1 + 0 then 0 else μ (o + 16) a) = μ (o + 16) from by funext a; exact if_neg (by omega), ← e16, Mx_self] at z
      exact z
    · refine X_iconst (tk_X10_sheet.at 45 rfl) ci_0 ?_
      refine X_goto (tgt := 89) (tk_X10_sheet.at 46 rfl) (by decide) ?_
      refine X_iastN (k := s1) (tk_X10_sheet.at 48 rfl) hM.f15 es1 (by omega) (by decide) ?_
      refine X_iconst (tk_X10_sheet.at 49 rfl) ci_0 ?_
      refine X_istore (lv' := [(0, _), (1, _), (2, _), (3, _), (4, _)]) (tk_X10_sheet.at 50 rfl) (by decide) rfl rfl ?_
      have hzz : (if b = 0 then 0 else n) = 0 := if_pos c1
      have e16 : (su (su μ (o + 14) s1 b) (o + 15) s1 0) (o + 16) = μ (o + 16) := by simp [su_ne]
      have loop : ∀ (m k : Nat), k + m = 40 → X G mi_X10_sheet (d + 2) 0 93 [(0, .ref o), (1, .int s), (2, .int b), (3, .int n), (4, .int (nI k))] [] S (Mx (su (su μ (o + 14) s1 b) (o + 15) s1 0) (o + 16) (fun a => if 40 * s1 ≤ a ∧ a < 40 * s1 + k then 0 else μ (o + 16) a)) (qi K) := by
        intro m
        induction m with
        | zero =>
          intro k hk
          have ek : k = 40 := by omega
          subst ek
          refine X_iload (tk_X10_sheet.at 51 rfl) rfl ?_
          refine X_bipush (tk_X10_sheet.at 52 rfl) cb_40 ?_
          refine X_icmp_geN (tgt := 119) (tk_X10_sheet.at 53 rfl) (by decide) (pl 40 rfl) (pl 40 rfl) (by omega) (by omega) (fun c1 => ?_) (fun c1 => (by exfalso; omega))
          refine X_iconst (tk_X10_sheet.at 65 rfl) ci_1 ?_
          refine X_ireturn (tk_X10_sheet.at 66 rfl) rfl rfl ?_
          have z := k4 s1 hs1 es1 hok hn
          rw [hzz] at z
          exact z
        | succ m ih =>
          intro k hk
          refine X_iload (tk_X10_sheet.at 51 rfl) rfl ?_
          refine X_bipush (tk_X10_sheet.at 52 rfl) cb_40 ?_
          refine X_icmp_geN (tgt := 119) (tk_X10_sheet.at 53 rfl) (by decide) (pl k rfl) (pl 40 rfl) (by omega) (by omega) (fun c1 => (by exfalso; omega)) (fun c1 => ?_)
          refine X_aload_n (tk_X10_sheet.at 54 rfl) rfl ?_
          refine X_getR (tk_X10_sheet.at 55 rfl) fl_x10_62 hM.f0 rfl rfl ?_
          refine X_bipush (tk_X10_sheet.at 56 rfl) cb_40 ?_
          refine X_iload_n (tk_X10_sheet.at 57 rfl) rfl ?_
          refine X_imul (tk_X10_sheet.at 58 rfl) ?_
          refine X_iload (tk_X10_sheet.at 59 rfl) rfl ?_
          refine X_iadd (tk_X10_sheet.at 60 rfl) ?_
          refine X_iconst (tk_X10_sheet.at 61 rfl) ci_0 ?_
          refine X_iastN (k := 40 * s1 + k) (tk_X10_sheet.at 62 rfl) hM.f16 (pz (pa (pm (pl 40 rfl) es1) (pl k rfl)) (by omega)) (by omega) (by decide) ?_
          refine X_iinc (lv' := [(0, _), (1, _), (2, _), (3, _), (4, _)]) (tk_X10_sheet.at 63 rfl) rfl ci_1 (by decide) rfl rfl ?_
          refine X_goto (tgt := 93) (tk_X10_sheet.at 64 rfl) (by decide) ?_
          rw [nI_1 k, su_Mx]
          have z := ih (k + 1) (by omega)
          rw [show upd (fun a => if 40 * s1 ≤ a ∧ a < 40 * s1 + k then 0 else μ (o + 16) a) (40 * s1 + k) 0 = (fun a => if 40 * s1 ≤ a ∧ a < 40 * s1 + (k + 1) then 0 else μ (o + 16) a) from ?_]
          · exact z
          · funext a
            unfold upd
            by_cases e : a = 40 * s1 + k
            · rw [if_pos e, if_pos (by omega)]
            · rw [if_neg e]
              dsimp only
              by_cases e2 : 40 * s1 ≤ a ∧ a < 40 * s1 + k
              · rw [if_pos e2, if_pos (by omega)]
              · rw [if_neg e2, if_neg (by omega)]
      have z := loop 40 0 (by decide)
      rw [show (fun a => if 40 * s1 ≤ a ∧ a < 40 * s1 + 0 then 0 else μ (o + 16) a) = μ (o + 16) from by funext a; exact if_neg (by omega), ← e16, Mx_self] at z
      exact z
  have mid : ∀ s1, s1 < 4 → s = nI s1 → okB b → X G mi_X10_sheet (d + 2) 0 36 [(0, .ref o), (1, .int s), (2, .int b), (3, .int n)] [] S μ (qi K) := by
    intro s1 hs1 es1 hok
    refine X_iload_n (tk_X10_sheet.at 18 rfl) rfl ?_
    refine X_if_eq (tgt := 51) (tk_X10_sheet.at 19 rfl) (by decide) (fun c1 => ?_) (fun c1 => ?_)
    · refine X_iload_n (tk_X10_sheet.at 26 rfl) rfl ?_
      refine X_if_eq (tgt := 68) (tk_X10_sheet.at 27 rfl) (by decide) (fun c2 => ?_) (fun c2 => ?_)
      · first | contradiction | exact tl s1 hs1 es1 hok (fun h => absurd c1 h) | exact tl s1 hs1 es1 hok (fun _ => ⟨c2, c2⟩)
      · refine X_iload_n (tk_X10_sheet.at 28 rfl) rfl ?_
        refine X_bipush (tk_X10_sheet.at 29 rfl) cb_40 ?_
        refine X_icmp_le (tgt := 68) (tk_X10_sheet.at 30 rfl) (by decide) (fun c3 => ?_) (fun c3 => ?_)
        · first | contradiction | exact tl s1 hs1 es1 hok (fun h => absurd c1 h) | exact tl s1 hs1 es1 hok (fun _ => ⟨c2, c3⟩)
        · refine X_aload_n (tk_X10_sheet.at 31 rfl) rfl ?_
          refine X_ldc (tk_X10_sheet.at 32 rfl) kn_x10_81 ?_
          refine X_cV1i (lv2 := [(0, _), (1, _)]) (tk_X10_sheet.at 33 rfl) mv_X10_finding lk_x10_82 np_X10_finding hM.f0 (by decide) rfl (Nat.le_of_ble_eq_true rfl) (Nat.le_of_ble_eq_true rfl) rfl (c10_finding (k := 1) hM (by decide) (by decide) ?_)
          refine X_ireturn (tk_X10_sheet.at 34 rfl) rfl rfl ?_
          first | contradiction | exact k3 s1 hs1 es1 hok c1 c2 (Int32.not_le.mp c3)
    · refine X_iload_n (tk_X10_sheet.at 20 rfl) rfl ?_
      refine X_if_ge (tgt := 51) (tk_X10_sheet.at 21 rfl) (by decide) (fun c4 => ?_) (fun c4 => ?_)
      · refine X_iload_n (tk_X10_sheet.at 26 rfl) rfl ?_
        refine X_if_eq (tgt := 68) (tk_X10_sheet.at 27 rfl) (by decide) (fun c5 => ?_) (fun c5 => ?_)
        · first | contradiction | exact tl s1 hs1 es1 hok (fun h => absurd c1 h) | exact tl s1 hs1 es1 hok (fun _ => ⟨c4, c5⟩)
        · refine X_iload_n (tk_X10_sheet.at 28 rfl) rfl ?_
          refine X_bipush (tk_X10_sheet.at 29 rfl) cb_40 ?_
          refine X_icmp_le (tgt := 68) (tk_X10_sheet.at 30 rfl) (by decide) (fun c6 => ?_) (fun c6 => ?_)
          · first | contradiction | exact tl s1 hs1 es1 hok (fun h => absurd c1 h) | exact tl s1 hs1 es1 hok (fun _ => ⟨c4, c6⟩)
          · refine X_aload_n (tk_X10_sheet.at 31 rfl) rfl ?_
            refine X_ldc (tk_X10_sheet.at 32 rfl) kn_x10_81 ?_
            refine X_cV1i (lv2 := [(0, _), (1, _)]) (tk_X10_sheet.at 33 rfl) mv_X10_finding lk_x10_82 np_X10_finding hM.f0 (by decide) rfl (Nat.le_of_ble_eq_true rfl) (Nat.le_of_ble_eq_true rfl) rfl (c10_finding (k := 1) hM (by decide) (by decide) ?_)
            refine X_ireturn (tk_X10_sheet.at 34 rfl) rfl rfl ?_
            first | contradiction | exact k3 s1 hs1 es1 hok c1 c4 (Int32.not_le.mp c6)
      · refine X_aload_n (tk_X10_sheet.at 22 rfl) rfl ?_
        refine X_ldc (tk_X10_sheet.at 23 rfl) kn_x10_131 ?_
        refine X_cV1i (lv2 := [(0, _), (1, _)]) (tk_X10_sheet.at 24 rfl) mv_X10_finding lk_x10_82 np_X10_finding hM.f0 (by decide) rfl (Nat.le_of_ble_eq_true rfl) (Nat.le_of_ble_eq_true rfl) rfl (c10_finding (k := 3) hM (by decide) (by decide) ?_)
        refine X_ireturn (tk_X10_sheet.at 25 rfl) rfl rfl ?_
        exact k2 s1 hs1 es1 hok c1 (Int32.not_le.mp c4)
  refine X_iload_n (tk_X10_sheet.at 0 rfl) rfl ?_
  refine X_cS1i (lv2 := [(0, _)]) (tk_X10_sheet.at 1 rfl) ms_X10_isSheet lk_x10_104 np_X10_isSheet (Nat.le_of_ble_eq_true rfl) (Nat.le_of_ble_eq_true rfl) rfl (c10_isSheet (fun s1 hs1 es1 => ?_) (fun hs1 => ?_))
  · refine X_if_eq (tgt := 29) (tk_X10_sheet.at 2 rfl) (by decide) (fun h => absurd h (by decide)) (fun _ => ?_)
    refine X_iload_n (tk_X10_sheet.at 3 rfl) rfl ?_
    refine X_if_eq (tgt := 36) (tk_X10_sheet.at 4 rfl) (by decide) (fun c2 => ?_) (fun c2 => ?_)
    · exact mid s1 hs1 es1 (by unfold okB; simp [c2])
    · refine X_iload_n (tk_X10_sheet.at 5 rfl) rfl ?_
      refine X_bipush (tk_X10_sheet.at 6 rfl) cb_8 ?_
      refine X_icmp_eq (tgt := 36) (tk_X10_sheet.at 7 rfl) (by decide) (fun c3 => ?_) (fun c3 => ?_)
      · exact mid s1 hs1 es1 (by unfold okB; simp [c3])
      · refine X_iload_n (tk_X10_sheet.at 8 rfl) rfl ?_
        refine X_bipush (tk_X10_sheet.at 9 rfl) cb_16 ?_
        refine X_icmp_eq (tgt := 36) (tk_X10_sheet.at 10 rfl) (by decide) (fun c4 => ?_) (fun c4 => ?_)
        · exact mid s1 hs1 es1 (by unfold okB; simp [c4])
        · refine X_iload_n (tk_X10_sheet.at 11 rfl) rfl ?_
          refine X_bipush (tk_X10_sheet.at 12 rfl) cb_32 ?_
          refine X_icmp_eq (tgt := 36) (tk_X10_sheet.at 13 rfl) (by decide) (fun c5 => ?_) (fun c5 => ?_)
          · exact mid s1 hs1 es1 (by unfold okB; simp [c5])
          · refine X_aload_n (tk_X10_sheet.at 14 rfl) rfl ?_
            refine X_ldc (tk_X10_sheet.at 15 rfl) kn_x10_81 ?_
            refine X_cV1i (lv2 := [(0, _), (1, _)]) (tk_X10_sheet.at 16 rfl) mv_X10_finding lk_x10_82 np_X10_finding hM.f0 (by decide) rfl (Nat.le_of_ble_eq_true rfl) (Nat.le_of_ble_eq_true rfl) rfl (c10_finding (k := 1) hM (by decide) (by decide) ?_)
            refine X_ireturn (tk_X10_sheet.at 17 rfl) rfl rfl ?_
            refine k1 (fun g => ?_)
            obtain ⟨-, g⟩ := g
            unfold okB at g
            rcases g with g | g | g | g <;> contradiction
  · refine X_if_eq (tgt := 29) (tk_X10_sheet.at 2 rfl) (by decide) (fun _ => ?_) (fun h => absurd h (by decide))
    refine X_aload_n (tk_X10_sheet.at 14 rfl) rfl ?_
    refine X_ldc (tk_X10_sheet.at 15 rfl) kn_x10_81 ?_
    refine X_cV1i (lv2 := [(0, _), (1, _)]) (tk_X10_sheet.at 16 rfl) mv_X10_finding lk_x10_82 np_X10_finding hM.f0 (by decide) rfl (Nat.le_of_ble_eq_true rfl) (Nat.le_of_ble_eq_true rfl) rfl (c10_finding (k := 1) hM (by decide) (by decide) ?_)
    refine X_ireturn (tk_X10_sheet.at 17 rfl) rfl rfl ?_
    exact k1 (fun g => hs1 g.1)
set_option maxHeartbeats 1000000 in
theorem c10_put {G : Gl} {d : Nat} {S : Sh} {μ : Mu} {o : Nat} {q : Nat → Nat} {s i v : Int32} {K : Int32 → Sh → Mu → Prop} (hM : MS S o q) (hz : ∀ j, j < 4 → okN (μ (o + 15) j) 40) (k1 : ¬ In s 4 → K (-1000000001) S (er μ o 1)) (k2 : ∀ a, a < 4 → s = nI a → μ (o + 14) a = 0 → K (-1000000002) S (er μ o 2)) (k3 : ∀ a, a < 4 → s = nI a → ¬ μ (o + 14) a = 0 → ¬ In i (nv (μ (o + 15) a)) → K (-1000000001) S (er μ o 1)) (k4 : ∀ a j, a < 4 → j < nv (μ (o + 15) a) → s = nI a → i = nI j → ¬ μ (o + 14) a = 0 → K 1 S (su μ (o + 16) (40 * a + j) (nar (μ (o + 14) a) v))) : X G mi_X10_put (d + 2) 0 0 [(0, .ref o), (1, .int s), (2, .int i), (3, .int v)] [] S μ (qi K) := by
  refine X_iload_n (tk_X10_put.at 0 rfl) rfl ?_
  refine X_cS1i (lv2 := [(0, _)]) (tk_X10_put.at 1 rfl) ms_X10_isSheet lk_x10_104 np_X10_isSheet (Nat.le_of_ble_eq_true rfl) (Nat.le_of_ble_eq_true rfl) rfl (c10_isSheet (fun s1 hs1 es1 => ?_) (fun hs1 => ?_))
  · refine X_if_ne (tgt := 14) (tk_X10_put.at 2 rfl) (by decide) (fun _ => ?_) (fun h => absurd h (by decide))
    refine X_aload_n (tk_X10_put.at 7 rfl) rfl ?_
    refine X_getR (tk_X10_put.at 8 rfl) fl_x10_56 hM.f0 rfl rfl ?_
    refine X_iload_n (tk_X10_put.at 9 rfl) rfl ?_
    refine X_ialdN (k := s1) (tk_X10_put.at 10 rfl) hM.f14 es1 (by omega) (by decide) ?_
    refine X_if_ne (tgt := 30) (tk_X10_put.at 11 rfl) (by decide) (fun c2 => ?_) (fun c2 => ?_)
    · have hsz := (hz s1 hs1).1
      have bsz := (hz s1 hs1).2
      refine X_iload_n (tk_X10_put.at 16 rfl) rfl ?_
      refine X_iconst (tk_X10_put.at 17 rfl) ci_0 ?_
      refine X_aload_n (tk_X10_put.at 18 rfl) rfl ?_
      refine X_getR (tk_X10_put.at 19 rfl) fl_x10_59 hM.f0 rfl rfl ?_
      refine X_iload_n (tk_X10_put.at 20 rfl) rfl ?_
      refine X_ialdN (k := s1) (tk_X10_put.at 21 rfl) hM.f15 es1 (by omega) (by decide) ?_
      refine X_iconst (tk_X10_put.at 22 rfl) ci_1 ?_
      refine X_isub (tk_X10_put.at 23 rfl) ?_
      refine X_cS3i (lv2 := [(0, _), (1, _), (2, _)]) (tk_X10_put.at 24 rfl) ms_X10_within lk_x10_69 np_X10_within (Nat.le_of_ble_eq_true rfl) (Nat.le_of_ble_eq_true rfl) rfl (c10_within (fun h40 h1040 => ?_) (fun h40 => ?_))
      · refine X_if_ne (tgt := 53) (tk_X10_put.at 25 rfl) (by decide) (fun _ => ?_) (fun h => absurd h (by decide))
        rw [hsz] at h1040
        obtain ⟨j, hj, ej⟩ := in_t (by omega) h40 h1040
        refine X_aload_n (tk_X10_put.at 30 rfl) rfl ?_
        refine X_getR (tk_X10_put.at 31 rfl) fl_x10_62 hM.f0 rfl rfl ?_
        refine X_bipush (tk_X10_put.at 32 rfl) cb_40 ?_
        refine X_iload_n (tk_X10_put.at 33 rfl) rfl ?_
        refine X_imul (tk_X10_put.at 34 rfl) ?_
        refine X_iload_n (tk_X10_put.at 35 rfl) rfl ?_
        refine X_iadd (tk_X10_put.at 36 rfl) ?_
        refine X_aload_n (tk_X10_put.at 37 rfl) rfl ?_
        refine X_getR (tk_X10_put.at 38 rfl) fl_x10_56 hM.f0 rfl rfl ?_
        refine X_iload_n (tk_X10_put.at 39 rfl) rfl ?_
        refine X_ialdN (k := s1) (tk_X10_put.at 40 rfl) hM.f14 es1 (by omega) (by decide) ?_
        refine X_bipush (tk_X10_put.at 41 rfl) cb_8 ?_
        refine X_icmp_ne (tgt := 79) (tk_X10_put.at 42 rfl) (by decide) (fun c4 => ?_) (fun c4 => ?_)
        · refine X_aload_n (tk_X10_put.at 46 rfl) rfl ?_
          refine X_getR (tk_X10_put.at 47 rfl) fl_x10_56 hM.f0 rfl rfl ?_
          refine X_iload_n (tk_X10_put.at 48 rfl) rfl ?_
          refine X_ialdN (k := s1) (tk_X10_put.at 49 rfl) hM.f14 es1 (by omega) (by decide) ?_
          refine X_bipush (tk_X10_put.at 50 rfl) cb_16 ?_
          refine X_icmp_ne (tgt := 95) (tk_X10_put.at 51 rfl) (by decide) (fun c5 => ?_) (fun c5 => ?_)
          · refine X_iload_n (tk_X10_put.at 55 rfl) rfl ?_
            refine X_iastN (k := 40 * s1 + j) (tk_X10_put.at 56 rfl) hM.f16 (pz (pa (pm (pl 40 rfl) es1) ej) (by omega)) (by omega) (by decide) ?_
            refine X_iconst (tk_X10_put.at 57 rfl) ci_1 ?_
            refine X_ireturn (tk_X10_put.at 58 rfl) rfl rfl ?_
            have z := k4 s1 j hs1 hj es1 ej c2
            rw [show nar (μ (o + 14) s1) v = v from ?_] at z
            · exact z
            · unfold nar; simp [c4, c5]
          · refine X_iload_n (tk_X10_put.at 52 rfl) rfl ?_
            refine X_i2s (tk_X10_put.at 53 rfl) ?_
            refine X_goto (tgt := 96) (tk_X10_put.at 54 rfl) (by decide) ?_
            refine X_iastN (k := 40 * s1 + j) (tk_X10_put.at 56 rfl) hM.f16 (pz (pa (pm (pl 40 rfl) es1) ej) (by omega)) (by omega) (by decide) ?_
            refine X_iconst (tk_X10_put.at 57 rfl) ci_1 ?_
            refine X_ireturn (tk_X10_put.at 58 rfl) rfl rfl ?_
            have z := k4 s1 j hs1 hj es1 ej c2
            rw [show nar (μ (o + 14) s1) v = v.toInt16.toInt32 from ?_] at z
            · exact z
            · unfold nar; simp [c4, c5]
        · refine X_iload_n (tk_X10_put.at 43 rfl) rfl ?_
          refine X_i2b (tk_X10_put.at 44 rfl) ?_
          refine X_goto (tgt := 96) (tk_X10_put.at 45 rfl) (by decide) ?_
          refine X_iastN (k := 40 * s1 + j) (tk_X10_put.at 56 rfl) hM.f16 (pz (pa (pm (pl 40 rfl) es1) ej) (by omega)) (by omega) (by decide) ?_
          refine X_iconst (tk_X10_put.at 57 rfl) ci_1 ?_
          refine X_ireturn (tk_X10_put.at 58 rfl) rfl rfl ?_
          have z := k4 s1 j hs1 hj es1 ej c2
          rw [show nar (μ (o + 14) s1) v = v.toInt8.toInt32 from ?_] at z
          · exact z
          · unfold nar; simp [c4]
      · refine X_if_ne (tgt := 53) (tk_X10_put.at 25 rfl) (by decide) (fun h => absurd h (by decide)) (fun _ => ?_)
        refine X_aload_n (tk_X10_put.at 26 rfl) rfl ?_
        refine X_ldc (tk_X10_put.at 27 rfl) kn_x10_81 ?_
        refine X_cV1i (lv2 := [(0, _), (1, _)]) (tk_X10_put.at 28 rfl) mv_X10_finding lk_x10_82 np_X10_finding hM.f0 (by decide) rfl (Nat.le_of_ble_eq_true rfl) (Nat.le_of_ble_eq_true rfl) rfl (c10_finding (k := 1) hM (by decide) (by decide) ?_)
        refine X_ireturn (tk_X10_put.at 29 rfl) rfl rfl ?_
        exact k3 s1 hs1 es1 c2 (In_no (by omega) (in_f (n := (nv (μ (o + 15) s1))) (by omega) (by rw [← hsz]; exact h40)))
    · refine X_aload_n (tk_X10_put.at 12 rfl) rfl ?_
      refine X_ldc (tk_X10_put.at 13 rfl) kn_x10_108 ?_
      refine X_cV1i (lv2 := [(0, _), (1, _)]) (tk_X10_put.at 14 rfl) mv_X10_finding lk_x10_82 np_X10_finding hM.f0 (by decide) rfl (Nat.le_of_ble_eq_true rfl) (Nat.le_of_ble_eq_true rfl) rfl (c10_finding (k := 2) hM (by decide) (by decide) ?_)
      refine X_ireturn (tk_X10_put.at 15 rfl) rfl rfl ?_
      exact k2 s1 hs1 es1 c2
  · refine X_if_ne (tgt := 14) (tk_X10_put.at 2 rfl) (by decide) (fun h => absurd h (by decide)) (fun _ => ?_)
    refine X_aload_n (tk_X10_put.at 3 rfl) rfl ?_
    refine X_ldc (tk_X10_put.at 4 rfl) kn_x10_81 ?_
    refine X_cV1i (lv2 := [(0, _), (1, _)]) (tk_X10_put.at 5 rfl) mv_X10_finding lk_x10_82 np_X10_finding hM.f0 (by decide) rfl (Nat.le_of_ble_eq_true rfl) (Nat.le_of_ble_eq_true rfl) rfl (c10_finding (k := 1) hM (by decide) (by decide) ?_)
    refine X_ireturn (tk_X10_put.at 6 rfl) rfl rfl ?_
    exact k1 hs1
