def rX (C k : Nat) : Option Nat := match k with
  | 0 => some (C + 1)
  | 1 => some (C + 4)
  | 2 => some (C + 5)
  | _ => none
/-- a crossing of the class at C -/
def XS (S : Sh) (C : Nat) : Prop := S.2 C = some (kO 1 (rX C)) ∧ ES S (C + 1) ∧ S.2 (C + 4) = some (kI 48) ∧ S.2 (C + 5) = some (kI 48)
def Tc (μ : Mu) (C : Nat) (ov : Int32) (cm of h P : Nat → Int32) : Mu := fun a => if a = C then upd (μ C) 3 ov else if a = C + 2 then h else if a = C + 3 then P else if a = C + 4 then cm else if a = C + 5 then of else μ a
section
variable {μ : Mu} {C : Nat} {ov : Int32} {cm of h P : Nat → Int32}
theorem Tc2 : Tc μ C ov cm of h P (C + 2) = h := by unfold Tc; rw [if_neg (by omega), if_pos rfl]
theorem Tc3 : Tc μ C ov cm of h P (C + 3) = P := by unfold Tc; rw [if_neg (by omega), if_neg (by omega), if_pos rfl]
theorem Tc4 : Tc μ C ov cm of h P (C + 4) = cm := by unfold Tc; rw [if_neg (by omega), if_neg (by omega), if_neg (by omega), if_pos rfl]
theorem Tc5 : Tc μ C ov cm of h P (C + 5) = of := by unfold Tc; rw [if_neg (by omega), if_neg (by omega), if_neg (by omega), if_neg (by omega), if_pos rfl]
theorem TcC : Tc μ C ov cm of h P C 3 = ov := by unfold Tc; rw [if_pos rfl]; exact upd_at _ _ _
theorem Tc_out {a : Nat} (ha : a < C ∨ C + 6 ≤ a) : Tc μ C ov cm of h P a = μ a := by unfold Tc; rw [if_neg (by omega), if_neg (by omega), if_neg (by omega), if_neg (by omega), if_neg (by omega)]
theorem Tc_self : Tc μ C (μ C 3) (μ (C + 4)) (μ (C + 5)) (μ (C + 2)) (μ (C + 3)) = μ := by
  funext a
  unfold Tc
  by_cases e : a = C
  · subst e; rw [if_pos rfl]; funext i; by_cases c : i = 3
    · subst c; exact upd_at _ _ _
    · exact upd_ne _ _ c
  rw [if_neg e]
  by_cases e2 : a = C + 2
  · rw [if_pos e2, e2]
  rw [if_neg e2]
  by_cases e3 : a = C + 3
  · rw [if_pos e3, e3]
  rw [if_neg e3]
  by_cases e4 : a = C + 4
  · rw [if_pos e4, e4]
  rw [if_neg e4]
  by_cases e5 : a = C + 5
  · rw [if_pos e5, e5]
  rw [if_neg e5]
theorem Tc_ov (x : Int32) : su (Tc μ C ov cm of h P) C 3 x = Tc μ C x cm of h P := by
  funext a
  by_cases e : a = C
  · subst e; rw [su_same]; unfold Tc; rw [if_pos rfl, if_pos rfl]; exact upd_upd _ _ _ _
  · rw [su_ne e]; unfold Tc; rw [if_neg e, if_neg e]
theorem Tc_cm (f : Nat → Int32) : Mx (Tc μ C ov cm of h P) (C + 4) f = Tc μ C ov f of h P := by
  funext a
  by_cases e : a = C + 4
  · subst e; rw [Mx_same, Tc4]
  · rw [Mx_ne e]; unfold Tc; rw [if_neg e, if_neg e]
theorem Tc_of (f : Nat → Int32) : Mx (Tc μ C ov cm of h P) (C + 5) f = Tc μ C ov cm f h P := by
  funext a
  by_cases e : a = C + 5
  · subst e; rw [Mx_same, Tc5]
  · rw [Mx_ne e]; unfold Tc; rw [if_neg e, if_neg e]
theorem Tc_h (f : Nat → Int32) : Mx (Tc μ C ov cm of h P) (C + 2) f = Tc μ C ov cm of f P := by
  funext a
  by_cases e : a = C + 2
  · subst e; rw [Mx_same, Tc2]
  · rw [Mx_ne e]; unfold Tc; rw [if_neg e, if_neg e]
theorem Tc_P (f : Nat → Int32) : Mx (Tc μ C ov cm of h P) (C + 3) f = Tc μ C ov cm of h f := by
  funext a
  by_cases e : a = C + 3
  · subst e; rw [Mx_same, Tc3]
  · rw [Mx_ne e]; unfold Tc; rw [if_neg e, if_neg e]
theorem Tc_c1 (i : Nat) (x : Int32) : su (Tc μ C ov cm of h P) (C + 4) i x = Tc μ C ov (upd cm i x) of h P := by rw [su_eq, Tc4, Tc_cm]
theorem Tc_o1 (i : Nat) (x : Int32) : su (Tc μ C ov cm of h P) (C + 5) i x = Tc μ C ov cm (upd of i x) h P := by rw [su_eq, Tc5, Tc_of]
theorem rTc {D : Nat} {N : Nat → Int32} (hdis : D + 32 ≤ C ∨ C + 6 ≤ D) (hr : repD μ D N) : repD (Tc μ C ov cm of h P) D N := repD_of hr (fun a h1 h2 => Tc_out (by omega))
end
theorem Tc_Tc {μ : Mu} {C : Nat} {ov ov' : Int32} {cm of h P cm' of' h' P' : Nat → Int32} : Tc (Tc μ C ov cm of h P) C ov' cm' of' h' P' = Tc μ C ov' cm' of' h' P' := by
  funext a
  unfold Tc
  by_cases e : a = C
  · subst e; rw [if_pos rfl, if_pos rfl, if_pos rfl, upd_upd]
  rw [if_neg e, if_neg e, if_neg e]
  by_cases e2 : a = C + 2
  · rw [if_pos e2, if_pos e2]
  rw [if_neg e2, if_neg e2, if_neg e2]
  by_cases e3 : a = C + 3
  · rw [if_pos e3, if_pos e3]
  rw [if_neg e3, if_neg e3, if_neg e3]
  by_cases e4 : a = C + 4
  · rw [if_pos e4, if_pos e4]
  rw [if_neg e4, if_neg e4, if_neg e4]
  by_cases e5 : a = C + 5
  · rw [if_pos e5, if_pos e5]
  rw [if_neg e5, if_neg e5, if_neg e5]
def Crs (N cm of : Nat → Int32) (k : Nat) : Prop := ∀ j, j < k → 0 < mny N (lnA N j) → ∀ c, c < nv (N 2) → cm (8 * lnA N j + c) = nI (arv N j c) ∧ of (8 * lnA N j + c) = nI (arv N j c + pac N (lnA N j))
set_option maxHeartbeats 1000000 in
theorem c1_cellOf {G : Gl} {d : Nat} {S : Sh} {μ : Mu} {x y : Int32} {r c : Nat} {K : Int32 → Sh → Mu → Prop} (hx : x = nI r) (hr : r < 6) (hy : y = nI c) (hc : c < 8) (hK : K (nI (8 * r + c)) S μ) : X G mi_X1_cellOf d 0 0 [(0, .int x), (1, .int y)] [] S μ (qi K) := by
  refine X_iload_n (tk_X1_cellOf.at 0 rfl) rfl ?_
  refine X_if_ltN (tgt := 20) (tk_X1_cellOf.at 1 rfl) (by decide) hx (by omega) ?_
  refine X_iload_n (tk_X1_cellOf.at 2 rfl) rfl ?_
  refine X_bipush (tk_X1_cellOf.at 3 rfl) cb_6 ?_
  refine X_icmp_geN (tgt := 20) (tk_X1_cellOf.at 4 rfl) (by decide) hx (pl 6 rfl) (by omega) (by omega) (fun c2 => (by exfalso; omega)) (fun c2 => ?_)
  refine X_iload_n (tk_X1_cellOf.at 5 rfl) rfl ?_
  refine X_if_ltN (tgt := 20) (tk_X1_cellOf.at 6 rfl) (by decide) hy (by omega) ?_
  refine X_iload_n (tk_X1_cellOf.at 7 rfl) rfl ?_
  refine X_bipush (tk_X1_cellOf.at 8 rfl) cb_8 ?_
  refine X_icmp_ltN (tgt := 22) (tk_X1_cellOf.at 9 rfl) (by decide) hy (pl 8 rfl) (by omega) (by omega) (fun c4 => ?_) (fun c4 => (by exfalso; omega))
  refine X_iload_n (tk_X1_cellOf.at 12 rfl) rfl ?_
  refine X_bipush (tk_X1_cellOf.at 13 rfl) cb_8 ?_
  refine X_imul (tk_X1_cellOf.at 14 rfl) ?_
  refine X_iload_n (tk_X1_cellOf.at 15 rfl) rfl ?_
  refine X_iadd (tk_X1_cellOf.at 16 rfl) ?_
  refine X_ireturn (tk_X1_cellOf.at 17 rfl) rfl rfl ?_
  rw [show ((x * 8) + y) = nI (8 * r + c) from pz (pa (pm hx (pl 8 rfl)) hy) (by omega)]
  exact hK
set_option maxHeartbeats 1000000 in
theorem c1_comesTo {G : Gl} {d : Nat} {S : Sh} {μ : Mu} {C : Nat} {x y v : Int32} {r c : Nat} {K : Int32 → Sh → Mu → Prop} (hC : XS S C) (hx : x = nI r) (hr : r < 6) (hy : y = nI c) (hc : c < 8) (he : μ (C + 4) (8 * r + c) = v) (hK : K v S μ) : X G mi_X1_comesTo (d + 1) 0 0 [(0, .ref C), (1, .int x), (2, .int y)] [] S μ (qi K) := by
  refine X_iload_n (tk_X1_comesTo.at 0 rfl) rfl ?_
  refine X_iload_n (tk_X1_comesTo.at 1 rfl) rfl ?_
  refine X_cS2i (lv2 := [(0, _), (1, _)]) (tk_X1_comesTo.at 2 rfl) ms_X1_cellOf lk_x1_75 np_X1_cellOf (Nat.le_of_ble_eq_true rfl) (Nat.le_of_ble_eq_true rfl) rfl (c1_cellOf (r := r) (c := c) hx (by omega) hy (by omega) ?_)
  refine X_istore_n (lv' := [(0, _), (1, _), (2, _), (3, _)]) (tk_X1_comesTo.at 3 rfl) (by decide) rfl rfl ?_
  refine X_iload_n (tk_X1_comesTo.at 4 rfl) rfl ?_
  refine X_if_geN (tgt := 14) (tk_X1_comesTo.at 5 rfl) (by decide) (pl (8 * r + c) rfl) (by omega) ?_
  refine X_aload_n (tk_X1_comesTo.at 8 rfl) rfl ?_
  refine X_getR (tk_X1_comesTo.at 9 rfl) fl_x1_18 hC.1 rfl rfl ?_
  refine X_iload_n (tk_X1_comesTo.at 10 rfl) rfl ?_
  refine X_ialdN (k := (8 * r + c)) (tk_X1_comesTo.at 11 rfl) hC.2.2.1 (pz (pl (8 * r + c) rfl) (by omega)) (by omega) (by decide) ?_
  refine X_ireturn (tk_X1_comesTo.at 12 rfl) rfl rfl ?_
  rw [he]
  exact hK
set_option maxHeartbeats 1000000 in
theorem c1_isOff {G : Gl} {d : Nat} {S : Sh} {μ : Mu} {C : Nat} {x y v : Int32} {r c : Nat} {K : Int32 → Sh → Mu → Prop} (hC : XS S C) (hx : x = nI r) (hr : r < 6) (hy : y = nI c) (hc : c < 8) (he : μ (C + 5) (8 * r + c) = v) (hK : K v S μ) : X G mi_X1_isOff (d + 1) 0 0 [(0, .ref C), (1, .int x), (2, .int y)] [] S μ (qi K) := by
  refine X_iload_n (tk_X1_isOff.at 0 rfl) rfl ?_
  refine X_iload_n (tk_X1_isOff.at 1 rfl) rfl ?_
  refine X_cS2i (lv2 := [(0, _), (1, _)]) (tk_X1_isOff.at 2 rfl) ms_X1_cellOf lk_x1_75 np_X1_cellOf (Nat.le_of_ble_eq_true rfl) (Nat.le_of_ble_eq_true rfl) rfl (c1_cellOf (r := r) (c := c) hx (by omega) hy (by omega) ?_)
  refine X_istore_n (lv' := [(0, _), (1, _), (2, _), (3, _)]) (tk_X1_isOff.at 3 rfl) (by decide) rfl rfl ?_
  refine X_iload_n (tk_X1_isOff.at 4 rfl) rfl ?_
  refine X_if_geN (tgt := 14) (tk_X1_isOff.at 5 rfl) (by decide) (pl (8 * r + c) rfl) (by omega) ?_
  refine X_aload_n (tk_X1_isOff.at 8 rfl) rfl ?_
  refine X_getR (tk_X1_isOff.at 9 rfl) fl_x1_22 hC.1 rfl rfl ?_
  refine X_iload_n (tk_X1_isOff.at 10 rfl) rfl ?_
  refine X_ialdN (k := (8 * r + c)) (tk_X1_isOff.at 11 rfl) hC.2.2.2 (pz (pl (8 * r + c) rfl) (by omega)) (by omega) (by decide) ?_
  refine X_ireturn (tk_X1_isOff.at 12 rfl) rfl rfl ?_
  rw [he]
  exact hK
set_option maxHeartbeats 1000000 in
theorem c1_crossOne {G : Gl} {d : Nat} {S : Sh} {μ : Mu} {C D : Nat} {N : Nat → Int32} {x ah ov : Int32} {k : Nat} {cm of h P : Nat → Int32} {K : Int32 → Sh → Mu → Prop} (hC : XS S C) (hD : DS G S D) (hw : WF N) (hr : repD μ D N) (hdis : D + 32 ≤ C ∨ C + 6 ≤ D) (hk : k < nv (N 4)) (hx : x = nI (lnA N k)) (hI : Crs N cm of k) (hL : CrL N k ah) (hK : ∀ cm of, Crs N cm of (k + 1) → K (nI (ofk N k (nv (N 2)))) S (Tc μ C ov cm of h P)) : X G mi_X1_crossOne (d + 2) 0 0 [(0, .ref C), (1, .ref D), (2, .int x), (3, .int ah)] [] S (Tc μ C ov cm of h P) (qi K) := by
  have b1 := hw.n1.2
  have b2 := hw.n2.2
  have b3 := hw.n3.2
  have b4 := hw.n4.2
  have bl := hw.lb hk
  have bp : pac N (lnA N k) ≤ 60 := pcn_le hw bl _ (Nat.le_refl _)
  have hne : ∀ j, j < k → lnA N j ≠ lnA N k := fun j hj e => by
    have := hw.lu (k := j) (k' := k) (by omega) hk (by rw [(hw.li (k := j) (by omega)).1, (hw.li hk).1]; exact congrArg nI e)
    omega
  have loop : ∀ (m c : Nat) (cm of : Nat → Int32) (rest : List (Nat × Value)), c + m = nv (N 2) → Crs N cm of k → (∀ e, e < c → cm (8 * lnA N k + e) = nI (arv N k e) ∧ of (8 * lnA N k + e) = nI (arv N k e + pac N (lnA N k))) → X G mi_X1_crossOne (d + 2) 0 16 ([(0, .ref C), (1, .ref D), (2, .int x), (3, .int ah), (4, .int (nI (pac N (lnA N k)))), (5, .int (nI (ofk N k c))), (6, .int (nI c))] ++ rest) [] S (Tc μ C ov cm of h P) (qi K) := by
    intro m
    induction m with
    | zero =>
      intro c cm of rest hc h1 h2
      refine X_lvp [0, 1, 2, 3, 4, 5, 6] (lv' := [(0, _), (1, _), (2, _), (3, _), (4, _), (5, _), (6, _)]) rfl ?_
      have e : c = nv (N 2) := by omega
      refine X_iload (tk_X1_crossOne.at 9 rfl) rfl ?_
      refine X_aload_n (tk_X1_crossOne.at 10 rfl) rfl ?_
      refine X_getR (tk_X1_crossOne.at 11 rfl) fl_x1_59 hD.1 rfl rfl ?_
      refine X_cV0i (lv2 := [(0, _)]) (tk_X1_crossOne.at 12 rfl) mv_X3_size lk_x1_63 np_X3_size hD.2.2.1.1 (by decide) rfl (Nat.le_of_ble_eq_true rfl) (Nat.le_of_ble_eq_true rfl) rfl (d_csz hD hw (rTc hdis hr) ?_)
      refine X_icmp_geN (tgt := 93) (tk_X1_crossOne.at 13 rfl) (by decide) (pl c rfl) (pl (nv (N 2)) rfl) (by omega) (by omega) (fun c1 => ?_) (fun c1 => (by exfalso; omega))
      refine X_iload (tk_X1_crossOne.at 47 rfl) rfl ?_
      refine X_ireturn (tk_X1_crossOne.at 48 rfl) rfl rfl ?_
      rw [e]
      refine hK cm of (fun j hj hp c2 hc2 => ?_)
      by_cases ej : j = k
      · subst ej; exact h2 c2 (by omega)
      · exact h1 j (by omega) hp c2 hc2
    | succ m ih =>
      intro c cm of rest hc h1 h2
      refine X_lvp [0, 1, 2, 3, 4, 5, 6] (lv' := [(0, _), (1, _), (2, _), (3, _), (4, _), (5, _), (6, _)]) rfl ?_
      have bo := ofk_le hw (k := k) (c := c) (by omega) (by omega)
      have bf8 := fre_le hw k (by omega) c (by omega)
      have ba := arv_le hw (k := k) (c := c) (by omega) (by omega)
      have key : X G mi_X1_crossOne (d + 2) 0 46 [(0, .ref C), (1, .ref D), (2, .int x), (3, .int ah), (4, .int (nI (pac N (lnA N k)))), (5, .int (nI (arv N k c))), (6, .int (nI c))] [] S (Tc μ C ov cm of h P) (qi K) := by
        refine X_iload_n (tk_X1_crossOne.at 23 rfl) rfl ?_
        refine X_iload (tk_X1_crossOne.at 24 rfl) rfl ?_
        refine X_cS2i (lv2 := [(0, _), (1, _)]) (tk_X1_crossOne.at 25 rfl) ms_X1_cellOf lk_x1_75 np_X1_cellOf (Nat.le_of_ble_eq_true rfl) (Nat.le_of_ble_eq_true rfl) rfl (c1_cellOf (r := (lnA N k)) (c := c) hx (by omega) (pz (pl c rfl) (by omega)) (by omega) ?_)
        refine X_istore (lv' := [(0, _), (1, _), (2, _), (3, _), (4, _), (5, _), (6, _), (7, _)]) (tk_X1_crossOne.at 26 rfl) (by decide) rfl rfl ?_
        refine X_iload (tk_X1_crossOne.at 27 rfl) rfl ?_
        refine X_if_ltN (tgt := 80) (tk_X1_crossOne.at 28 rfl) (by decide) (pl (8 * ((lnA N k)) + c) rfl) (by omega) ?_
        refine X_aload_n (tk_X1_crossOne.at 29 rfl) rfl ?_
        refine X_getR (tk_X1_crossOne.at 30 rfl) fl_x1_18 hC.1 rfl rfl ?_
        refine X_iload (tk_X1_crossOne.at 31 rfl) rfl ?_
        refine X_iload (tk_X1_crossOne.at 32 rfl) rfl ?_
        refine X_iastN (k := (8 * ((lnA N k)) + c)) (tk_X1_crossOne.at 33 rfl) hC.2.2.1 (pz (pl (8 * ((lnA N k)) + c) rfl) (by omega)) (by omega) (by decide) ?_
        rw [Tc_c1]
        refine X_aload_n (tk_X1_crossOne.at 34 rfl) rfl ?_
        refine X_getR (tk_X1_crossOne.at 35 rfl) fl_x1_22 hC.1 rfl rfl ?_
        refine X_iload (tk_X1_crossOne.at 36 rfl) rfl ?_
        refine X_iload (tk_X1_crossOne.at 37 rfl) rfl ?_
        refine X_iload (tk_X1_crossOne.at 38 rfl) rfl ?_
        refine X_iadd (tk_X1_crossOne.at 39 rfl) ?_
        rw [nI_add]
        refine X_iastN (k := (8 * ((lnA N k)) + c)) (tk_X1_crossOne.at 40 rfl) hC.2.2.2 (pz (pl (8 * ((lnA N k)) + c) rfl) (by omega)) (by omega) (by decide) ?_
        refine X_iload (tk_X1_crossOne.at 41 rfl) rfl ?_
        refine X_iload (tk_X1_crossOne.at 42 rfl) rfl ?_
        refine X_iadd (tk_X1_crossOne.at 43 rfl) ?_
        rw [nI_add]
        change X _ _ _ _ _ _ (.int (nI (ofk N k (c + 1))) :: _) _ _ _
        refine X_istore (lv' := [(0, _), (1, _), (2, _), (3, _), (4, _), (5, _), (6, _), (7, _)]) (tk_X1_crossOne.at 44 rfl) (by decide) rfl rfl ?_
        refine X_iinc (lv' := [(0, _), (1, _), (2, _), (3, _), (4, _), (5, _), (6, _), (7, _)]) (tk_X1_crossOne.at 45 rfl) rfl ci_1 (by decide) rfl rfl ?_
        refine X_goto (tgt := 16) (tk_X1_crossOne.at 46 rfl) (by decide) ?_
        rw [Tc_o1, nI_1 c]
        refine ih (c + 1) _ _ [(7, .int (nI (8 * lnA N k + c)))] (by omega) (fun j hj hp c2 hc2 => ?_) (fun e he => ?_)
        · have := hne j hj
          rw [upd_ne _ _ (by omega), upd_ne _ _ (by omega)]
          exact h1 j hj hp c2 hc2
        · by_cases ee : e = c
          · rw [ee, upd_at, upd_at]; exact ⟨rfl, rfl⟩
          · rw [upd_ne _ _ (by omega), upd_ne _ _ (by omega)]; exact h2 e (by omega)
      rcases hL with ⟨el, hf⟩ | ⟨j, a1, a2, a3, a4⟩
      · have ea : arv N k c = ofk N k c := by unfold arv mxn; rw [hf c, if_neg (by omega)]
        rw [ea] at key
        subst el
        refine X_iload (tk_X1_crossOne.at 9 rfl) rfl ?_
        refine X_aload_n (tk_X1_crossOne.at 10 rfl) rfl ?_
        refine X_getR (tk_X1_crossOne.at 11 rfl) fl_x1_59 hD.1 rfl rfl ?_
        refine X_cV0i (lv2 := [(0, _)]) (tk_X1_crossOne.at 12 rfl) mv_X3_size lk_x1_63 np_X3_size hD.2.2.1.1 (by decide) rfl (Nat.le_of_ble_eq_true rfl) (Nat.le_of_ble_eq_true rfl) rfl (d_csz hD hw (rTc hdis hr) ?_)
        refine X_icmp_geN (tgt := 93) (tk_X1_crossOne.at 13 rfl) (by decide) (pl c rfl) (pl (nv (N 2)) rfl) (by omega) (by omega) (fun c1 => (by exfalso; omega)) (fun c1 => ?_)
        refine X_iload_n (tk_X1_crossOne.at 14 rfl) rfl ?_
        refine X_if_lt (tgt := 46) (tk_X1_crossOne.at 15 rfl) (by decide) (fun _ => ?_) (fun h => absurd h (by decide))
        exact key
      · subst a2
        have bj := hw.lb (k := j) (by omega)
        refine X_iload (tk_X1_crossOne.at 9 rfl) rfl ?_
        refine X_aload_n (tk_X1_crossOne.at 10 rfl) rfl ?_
        refine X_getR (tk_X1_crossOne.at 11 rfl) fl_x1_59 hD.1 rfl rfl ?_
        refine X_cV0i (lv2 := [(0, _)]) (tk_X1_crossOne.at 12 rfl) mv_X3_size lk_x1_63 np_X3_size hD.2.2.1.1 (by decide) rfl (Nat.le_of_ble_eq_true rfl) (Nat.le_of_ble_eq_true rfl) rfl (d_csz hD hw (rTc hdis hr) ?_)
        refine X_icmp_geN (tgt := 93) (tk_X1_crossOne.at 13 rfl) (by decide) (pl c rfl) (pl (nv (N 2)) rfl) (by omega) (by omega) (fun c1 => (by exfalso; omega)) (fun c1 => ?_)
        refine X_iload_n (tk_X1_crossOne.at 14 rfl) rfl ?_
        refine X_if_ltN (tgt := 46) (tk_X1_crossOne.at 15 rfl) (by decide) (pl (lnA N j) rfl) (by omega) ?_
        refine X_iload (tk_X1_crossOne.at 16 rfl) rfl ?_
        refine X_aload_n (tk_X1_crossOne.at 17 rfl) rfl ?_
        refine X_iload_n (tk_X1_crossOne.at 18 rfl) rfl ?_
        refine X_iload (tk_X1_crossOne.at 19 rfl) rfl ?_
        refine X_cV2i (lv2 := [(0, _), (1, _), (2, _)]) (tk_X1_crossOne.at 20 rfl) mv_X1_isOff lk_x1_66 np_X1_isOff hC.1 (by decide) rfl (Nat.le_of_ble_eq_true rfl) (Nat.le_of_ble_eq_true rfl) rfl (c1_isOff (v := nI (fre N k c)) hC (pl (lnA N j) rfl) (by omega) (pl c rfl) (by omega) (by rw [Tc5, (h1 j a1 a3 c (by omega)).2, a4 c (by omega)]) ?_)
        refine X_max (tk_X1_crossOne.at 21 rfl) lk_x1_70 (Nat.le_of_ble_eq_true rfl) ?_
        rw [mx_nI (by omega) (by omega)]
        change X _ _ _ _ _ _ (.int (nI (arv N k c)) :: _) _ _ _
        refine X_istore (lv' := [(0, _), (1, _), (2, _), (3, _), (4, _), (5, _), (6, _)]) (tk_X1_crossOne.at 22 rfl) (by decide) rfl rfl ?_
        exact key
  refine X_aload_n (tk_X1_crossOne.at 0 rfl) rfl ?_
  refine X_iload_n (tk_X1_crossOne.at 1 rfl) rfl ?_
  refine X_cV1i (lv2 := [(0, _), (1, _)]) (tk_X1_crossOne.at 2 rfl) mv_X2_slowestPace lk_x1_56 np_X2_slowestPace hD.1 (by decide) rfl (Nat.le_of_ble_eq_true rfl) (Nat.le_of_ble_eq_true rfl) rfl (c2_slowestPace (rn := (lnA N k)) hD hw (rTc hdis hr) hx (by omega) ?_)
  refine X_istore (lv' := [(0, _), (1, _), (2, _), (3, _), (4, _)]) (tk_X1_crossOne.at 3 rfl) (by decide) rfl rfl ?_
  refine X_aload_n (tk_X1_crossOne.at 4 rfl) rfl ?_
  refine X_getI (tk_X1_crossOne.at 5 rfl) fl_x1_29 hD.1 rfl ?_
  rw [show (Tc μ C ov cm of h P) D 10 = nI (ofk N k 0) from (rTc hdis hr).1.1.trans hw.n0.1]
  refine X_istore (lv' := [(0, _), (1, _), (2, _), (3, _), (4, _), (5, _)]) (tk_X1_crossOne.at 6 rfl) (by decide) rfl rfl ?_
  refine X_iconst (tk_X1_crossOne.at 7 rfl) ci_0 ?_
  refine X_istore (lv' := [(0, _), (1, _), (2, _), (3, _), (4, _), (5, _), (6, _)]) (tk_X1_crossOne.at 8 rfl) (by decide) rfl rfl ?_
  exact loop _ 0 cm of [] (Nat.zero_add _) hI (fun e he => absurd he (Nat.not_lt_zero e))
set_option maxHeartbeats 1000000 in
theorem c1_cross {G : Gl} {d : Nat} {S : Sh} {μ : Mu} {C D : Nat} {N : Nat → Int32} {K : Sh → Mu → Prop} (hC : XS S C) (hD : DS G S D) (hw : WF N) (hr : repD μ D N) (hdis : D + 32 ≤ C ∨ C + 6 ≤ D) (hK : ∀ cm of, Crs N cm of (nv (N 4)) → K S (Tc μ C (nI (ovr N (nv (N 4)))) cm of (μ (C + 2)) (μ (C + 3)))) : X G mi_X1_cross (d + 3) 0 0 [(0, .ref C), (1, .ref D)] [] S μ (qv K) := by
  have b1 := hw.n1.2
  have b2 := hw.n2.2
  have b3 := hw.n3.2
  have b4 := hw.n4.2
  have loop : ∀ (m k : Nat) (ah : Int32) (cm of : Nat → Int32) (rest : List (Nat × Value)), k + m = nv (N 4) → Crs N cm of k → CrL N k ah → X G mi_X1_cross (d + 3) 0 12 ([(0, .ref C), (1, .ref D), (2, .int ah), (3, .int (nI k))] ++ rest) [] S (Tc μ C (nI (ovr N k)) cm of (μ (C + 2)) (μ (C + 3))) (qv K) := by
    intro m
    induction m with
    | zero =>
      intro k ah cm of rest hk hI hL
      refine X_lvp [0, 1, 2, 3] (lv' := [(0, _), (1, _), (2, _), (3, _)]) rfl ?_
      have e : k = nv (N 4) := by omega
      refine X_iload_n (tk_X1_cross.at 8 rfl) rfl ?_
      refine X_aload_n (tk_X1_cross.at 9 rfl) rfl ?_
      refine X_getR (tk_X1_cross.at 10 rfl) fl_x1_34 hD.1 rfl rfl ?_
      refine X_cV0i (lv2 := [(0, _)]) (tk_X1_cross.at 11 rfl) mv_X6_size lk_x1_38 np_X6_size hD.2.2.2.2.1.1 (by decide) rfl (Nat.le_of_ble_eq_true rfl) (Nat.le_of_ble_eq_true rfl) rfl (d_lsz hD hw (rTc hdis hr) ?_)
      refine X_icmp_geN (tgt := 66) (tk_X1_cross.at 12 rfl) (by decide) (pl k rfl) (pl (nv (N 4)) rfl) (by omega) (by omega) (fun c1 => ?_) (fun c1 => (by exfalso; omega))
      refine X_return (tk_X1_cross.at 34 rfl) rfl ?_
      rw [e] at hI ⊢
      exact hK cm of hI
    | succ m ih =>
      intro k ah cm of rest hk hI hL
      refine X_lvp [0, 1, 2, 3] (lv' := [(0, _), (1, _), (2, _), (3, _)]) rfl ?_
      have bl := hw.lb (k := k) (by omega)
      have bm := hw.mb bl
      refine X_iload_n (tk_X1_cross.at 8 rfl) rfl ?_
      refine X_aload_n (tk_X1_cross.at 9 rfl) rfl ?_
      refine X_getR (tk_X1_cross.at 10 rfl) fl_x1_34 hD.1 rfl rfl ?_
      refine X_cV0i (lv2 := [(0, _)]) (tk_X1_cross.at 11 rfl) mv_X6_size lk_x1_38 np_X6_size hD.2.2.2.2.1.1 (by decide) rfl (Nat.le_of_ble_eq_true rfl) (Nat.le_of_ble_eq_true rfl) rfl (d_lsz hD hw (rTc hdis hr) ?_)
      refine X_icmp_geN (tgt := 66) (tk_X1_cross.at 12 rfl) (by decide) (pl k rfl) (pl (nv (N 4)) rfl) (by omega) (by omega) (fun c1 => (by exfalso; omega)) (fun c1 => ?_)
      refine X_aload_n (tk_X1_cross.at 13 rfl) rfl ?_
      refine X_getR (tk_X1_cross.at 14 rfl) fl_x1_34 hD.1 rfl rfl ?_
      refine X_iload_n (tk_X1_cross.at 15 rfl) rfl ?_
      refine X_cV1i (lv2 := [(0, _), (1, _)]) (tk_X1_cross.at 16 rfl) mv_X6_at lk_x1_44 np_X6_at hD.2.2.2.2.1.1 (by decide) rfl (Nat.le_of_ble_eq_true rfl) (Nat.le_of_ble_eq_true rfl) rfl (d_lat (i := k) hD hw (rTc hdis hr) (pz (pl k rfl) (by omega)) (by omega) ?_)
      refine X_istore (lv' := [(0, _), (1, _), (2, _), (3, _), (4, _)]) (tk_X1_cross.at 17 rfl) (by decide) rfl rfl ?_
      refine X_aload_n (tk_X1_cross.at 18 rfl) rfl ?_
      refine X_iload (tk_X1_cross.at 19 rfl) rfl ?_
      refine X_cV1r (lv2 := [(0, _), (1, _)]) (tk_X1_cross.at 20 rfl) mv_X2_rowOf lk_x1_48 np_X2_rowOf hD.1 (by decide) rfl (Nat.le_of_ble_eq_true rfl) (Nat.le_of_ble_eq_true rfl) rfl (d_rowOf (r := (lnA N k)) hD hw (rTc hdis hr) (pz (pl (lnA N k) rfl) (by omega)) (by omega) ?_)
      refine X_cV0i (lv2 := [(0, _)]) (tk_X1_cross.at 21 rfl) mv_X6_size lk_x1_38 np_X6_size (hD.2.2.2.2.2.2.2.2.2.2.2 ((lnA N k)) (by omega)).1 (by decide) rfl (Nat.le_of_ble_eq_true rfl) (Nat.le_of_ble_eq_true rfl) rfl (d_rsz hD hw (rTc hdis hr) (by omega) ?_)
      refine X_if_leN (tgt := 60) (tk_X1_cross.at 22 rfl) (by decide) (pl (mny N ((lnA N k))) rfl) (by omega) (fun c2 => ?_) (fun c2 => ?_)
      · refine X_iinc (lv' := [(0, _), (1, _), (2, _), (3, _), (4, _)]) (tk_X1_cross.at 32 rfl) rfl ci_1 (by decide) rfl rfl ?_
        refine X_goto (tgt := 12) (tk_X1_cross.at 33 rfl) (by decide) ?_
        rw [nI_1 k]
        have e0 : mny N (lnA N k) = 0 := by omega
        have eo : ovr N (k + 1) = ovr N k := if_pos e0
        have ef : fre N (k + 1) = fre N k := if_pos e0
        have z := ih (k + 1) ah cm of [(4, .int (nI (lnA N k)))] (by omega) (fun j hj hp => ?_) (by rw [CrL, ef]; exact hL.elim Or.inl (fun ⟨j, q⟩ => Or.inr ⟨j, by omega, q.2⟩))
        · rw [eo] at z; exact z
        · by_cases ej : j = k
          · subst ej; omega
          · exact hI j (by omega) hp
      · refine X_aload_n (tk_X1_cross.at 23 rfl) rfl ?_
        refine X_aload_n (tk_X1_cross.at 24 rfl) rfl ?_
        refine X_aload_n (tk_X1_cross.at 25 rfl) rfl ?_
        refine X_iload (tk_X1_cross.at 26 rfl) rfl ?_
        refine X_iload_n (tk_X1_cross.at 27 rfl) rfl ?_
        refine X_cV3i (lv2 := [(0, _), (1, _), (2, _), (3, _)]) (tk_X1_cross.at 28 rfl) mv_X1_crossOne lk_x1_52 np_X1_crossOne hC.1 (by decide) rfl (Nat.le_of_ble_eq_true rfl) (Nat.le_of_ble_eq_true rfl) rfl (c1_crossOne hC hD hw hr hdis (k := k) (by omega) rfl hI hL (fun cm' of' hI' => ?_))
        refine X_putI (tk_X1_cross.at 29 rfl) fl_x1_25 hC.1 rfl rfl ⟨rfl, rfl⟩ ?_
        refine X_iload (tk_X1_cross.at 30 rfl) rfl ?_
        refine X_istore_n (lv' := [(0, _), (1, _), (2, _), (3, _), (4, _)]) (tk_X1_cross.at 31 rfl) (by decide) rfl rfl ?_
        refine X_iinc (lv' := [(0, _), (1, _), (2, _), (3, _), (4, _)]) (tk_X1_cross.at 32 rfl) rfl ci_1 (by decide) rfl rfl ?_
        refine X_goto (tgt := 12) (tk_X1_cross.at 33 rfl) (by decide) ?_
        rw [Tc_ov, nI_1 k]
        have eo : ovr N (k + 1) = ofk N k (nv (N 2)) := if_neg (by omega)
        have z := ih (k + 1) (nI (lnA N k)) cm' of' [(4, .int (nI (lnA N k)))] (by omega) hI' (Or.inr ⟨k, by omega, rfl, by omega, fun c hc => ?_⟩)
        · rw [eo] at z; exact z
        · rw [show fre N (k + 1) = fun c => offs (fre N k) (nv (N 0)) (pac N (lnA N k)) (c + 1) from if_neg (by omega)]
          rfl
  refine X_aload_n (tk_X1_cross.at 0 rfl) rfl ?_
  refine X_aload_n (tk_X1_cross.at 1 rfl) rfl ?_
  refine X_getI (tk_X1_cross.at 2 rfl) fl_x1_29 hD.1 rfl ?_
  refine X_putI (tk_X1_cross.at 3 rfl) fl_x1_25 hC.1 rfl rfl ⟨rfl, rfl⟩ ?_
  refine X_iconst (tk_X1_cross.at 4 rfl) ci_m1 ?_
  refine X_istore_n (lv' := [(0, _), (1, _), (2, _)]) (tk_X1_cross.at 5 rfl) (by decide) rfl rfl ?_
  refine X_iconst (tk_X1_cross.at 6 rfl) ci_0 ?_
  refine X_istore_n (lv' := [(0, _), (1, _), (2, _), (3, _)]) (tk_X1_cross.at 7 rfl) (by decide) rfl rfl ?_
  have z := loop _ 0 (-1) (μ (C + 4)) (μ (C + 5)) [] (Nat.zero_add _) (fun j hj => absurd hj (Nat.not_lt_zero j)) (Or.inl ⟨rfl, fun _ => rfl⟩)
  rw [← Tc_ov (ov := μ C 3), Tc_self] at z
  rw [show μ D 10 = nI (ovr N 0) from hr.1.1.trans hw.n0.1]
  exact z
