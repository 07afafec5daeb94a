theorem Eqv7 {N : Nat → Int32} (hw : WF N) (z : Int32) : Eqv N (upd N 7 z) := by
  have b3 := hw.n3.2
  refine ⟨fun a h => upd_ne _ _ (by omega), fun r hr => ⟨upd_ne _ _ (by omega), upd_ne _ _ (by omega), upd_ne _ _ (by omega), upd_ne _ _ (by omega), fun i hi => upd_ne _ _ (by omega)⟩⟩
theorem CrI_e {N M : Nat → Int32} (hw : WF N) (he : Eqv N M) {cm bf : Nat → Int32} (h : CrI N cm bf (nv (N 4))) : CrI M cm bf (nv (M 4)) := by
  have e4 : M 4 = N 4 := he.1 4 (by omega)
  have e2 : M 2 = N 2 := he.1 2 (by omega)
  rw [e4]
  refine ⟨fun j hj => ?_, fun j hj hp c hc => ?_⟩
  · rw [lnA_e hw he, bef_e hw he j (by omega)]
    exact h.1 j hj
  · rw [lnA_e hw he, mny_e hw he (hw.li hj).2] at hp
    rw [e2] at hc
    rw [lnA_e hw he, arv_e hw he hj]
    exact h.2 j hj hp c hc
theorem su_su (μ : Mu) (a k : Nat) (x y : Int32) : su (su μ a k x) a k y = su μ a k y := by
  rw [su_eq, su_same, su_eq, Mx_Mx, upd_upd, su_eq]
def nz (z : Int32) : Int32 := z * 1103515245 + 12345
def ush (z : Int32) : Int32 := (z.toUInt32 >>> ((8 : Int32).toUInt32 &&& Int32.toUInt32 31)).toInt32
def rd (z : Int32) : Int32 := ush z - ush z / 1000 * 1000
/-- who goes with one that isn't held -/
def los (N : Nat → Int32) (r i : Nat) : Nat → Int32 → Int32
  | 0, L => L
  | k + 1, L => los N r i k L ||| (if k = i ∨ ¬ nv (N (80 + 9 * r)) = 6 then 1 <<< (N (84 + 9 * r + k) &&& 31) else 0)
abbrev Dl := Int32 × Int32
/-- one on a rope at a piece: the draw's state and the lost -/
noncomputable def stp (N : Nat → Int32) (k c i : Nat) (s : Dl) : Dl :=
  if lb s.2 (N (84 + 9 * lnA N k + i)) then s else
  if rd (nz s.1) < nI (rkc N k i c) ∧ ¬ pull N (nv (N (84 + 9 * lnA N k + i))) c ≤ hs N s.2 (lnA N k) i (mny N (lnA N k)) then (nz s.1, los N (lnA N k) i (mny N (lnA N k)) s.2) else (nz s.1, s.2)
noncomputable def l3 (N : Nat → Int32) (k c : Nat) : Nat → Dl → Dl
  | 0, s => s
  | i + 1, s => stp N k c i (l3 N k c i s)
noncomputable def l2 (N : Nat → Int32) (k : Nat) : Nat → Dl → Dl
  | 0, s => s
  | c + 1, s => l3 N k c (mny N (lnA N k)) (l2 N k c s)
noncomputable def l1 (N : Nat → Int32) : Nat → Dl → Dl
  | 0, s => s
  | k + 1, s => l2 N k (nv (N 2)) (l1 N k s)
set_option maxHeartbeats 1000000 in
theorem c10_drawn {G : Gl} {d : Nat} {S : Sh} {μ : Mu} {o : Nat} {q : Nat → Nat} {b : Int32} {K : Int32 → Sh → Mu → Prop} (hM : MS S o q) (hb : b = 1000) (hK : K (rd (nz (μ (o + 1) 7))) S (su μ (o + 1) 7 (nz (μ (o + 1) 7)))) : X G mi_X10_drawn d 0 0 [(0, .ref o), (1, .int b)] [] S μ (qi K) := by
  subst hb
  refine X_aload_n (tk_X10_drawn.at 0 rfl) rfl ?_
  refine X_getR (tk_X10_drawn.at 1 rfl) fl_x10_9 hM.f0 rfl rfl ?_
  refine X_bipush (tk_X10_drawn.at 2 rfl) cb_7 ?_
  refine X_aload_n (tk_X10_drawn.at 3 rfl) rfl ?_
  refine X_getR (tk_X10_drawn.at 4 rfl) fl_x10_9 hM.f0 rfl rfl ?_
  refine X_bipush (tk_X10_drawn.at 5 rfl) cb_7 ?_
  refine X_ialdN (k := 7) (tk_X10_drawn.at 6 rfl) hM.f1 (pz (pl 7 rfl) (by omega)) (by omega) (by decide) ?_
  refine X_ldcw (tk_X10_drawn.at 7 rfl) kn_x10_297 ?_
  refine X_imul (tk_X10_drawn.at 8 rfl) ?_
  refine X_sipush (tk_X10_drawn.at 9 rfl) cs_12345 ?_
  refine X_iadd (tk_X10_drawn.at 10 rfl) ?_
  refine X_iastN (k := 7) (tk_X10_drawn.at 11 rfl) hM.f1 (pz (pl 7 rfl) (by omega)) (by omega) (by decide) ?_
  refine X_aload_n (tk_X10_drawn.at 12 rfl) rfl ?_
  refine X_getR (tk_X10_drawn.at 13 rfl) fl_x10_9 hM.f0 rfl rfl ?_
  refine X_bipush (tk_X10_drawn.at 14 rfl) cb_7 ?_
  refine X_ialdN (k := 7) (tk_X10_drawn.at 15 rfl) hM.f1 (pz (pl 7 rfl) (by omega)) (by omega) (by decide) ?_
  refine X_bipush (tk_X10_drawn.at 16 rfl) cb_8 ?_
  refine X_iushr (tk_X10_drawn.at 17 rfl) ?_
  refine X_iload_n (tk_X10_drawn.at 18 rfl) rfl ?_
  refine X_irem (tk_X10_drawn.at 19 rfl) (by decide) ?_
  refine X_ireturn (tk_X10_drawn.at 20 rfl) rfl rfl ?_
  rw [show su μ (o + 1) 7 (μ (o + 1) 7 * 1103515245 + 12345) (o + 1) 7 = nz (μ (o + 1) 7) from by rw [su_same]; exact upd_at _ _ _]
  exact hK
set_option maxHeartbeats 1000000 in
theorem c10_loses {G : Gl} {d : Nat} {S : Sh} {μ : Mu} {o : Nat} {q : Nat → Nat} {r x : Int32} {rn i : Nat} {K : Sh → Mu → Prop} (hM : MS S o q) (hr : r = nI rn) (hrn : rn < 6) (hx : x = nI i) (hi : i < 5) (hm : μ (o + 1) (83 + 9 * rn) = nI (nv (μ (o + 1) (83 + 9 * rn)))) (hm5 : nv (μ (o + 1) (83 + 9 * rn)) ≤ 5) (hkd : okN (μ (o + 1) (80 + 9 * rn)) 6) (hK : K S (su μ o 5 (los (μ (o + 1)) rn i (nv (μ (o + 1) (83 + 9 * rn))) (μ o 5)))) : X G mi_X10_loses (d + 2) 0 0 [(0, .ref o), (1, .int r), (2, .int x)] [] S μ (qv K) := by
  have hkd2 := hkd.2
  refine X_iconst (tk_X10_loses.at 0 rfl) ci_0 ?_
  refine X_istore_n (lv' := [(0, _), (1, _), (2, _), (3, _)]) (tk_X10_loses.at 1 rfl) (by decide) rfl rfl ?_
  have e1 : ∀ y, (su μ o 5 y) (o + 1) = μ (o + 1) := fun y => su_ne (by omega)
  have e5 : ∀ y, (su μ o 5 y) o 5 = y := fun y => by rw [su_same]; exact upd_at _ _ _
  have loop : ∀ (m k : Nat), k + m = nv (μ (o + 1) (83 + 9 * rn)) → X G mi_X10_loses (d + 2) 0 2 [(0, .ref o), (1, .int r), (2, .int x), (3, .int (nI k))] [] S (su μ o 5 (los (μ (o + 1)) rn i k (μ o 5))) (qv K) := by
    intro m
    induction m with
    | zero =>
      intro k hk
      have ek : k = nv (μ (o + 1) (83 + 9 * rn)) := by omega
      refine X_iload_n (tk_X10_loses.at 2 rfl) rfl ?_
      refine X_aload_n (tk_X10_loses.at 3 rfl) rfl ?_
      refine X_iload_n (tk_X10_loses.at 4 rfl) rfl ?_
      refine X_cV1i (lv2 := [(0, _), (1, _)]) (tk_X10_loses.at 5 rfl) mv_X10_many lk_x10_118 np_X10_many hM.f0 (by decide) rfl (Nat.le_of_ble_eq_true rfl) (Nat.le_of_ble_eq_true rfl) rfl (c10_many hM hr (by omega) ?_)
      refine X_icmp_geN (tgt := 54) (tk_X10_loses.at 6 rfl) (by decide) (pl k rfl) (show (su μ o 5 (los (μ (o + 1)) rn i k (μ o 5))) (o + 1) (83 + 9 * rn) = _ by rw [e1]; exact hm) (by omega) (by omega) (fun c1 => ?_) (fun c1 => (by exfalso; omega))
      refine X_return (tk_X10_loses.at 31 rfl) rfl ?_
      rw [ek]
      exact hK
    | succ m ih =>
      intro k hk
      have z := ih (k + 1) (by omega)
      rw [los] at z
      refine X_iload_n (tk_X10_loses.at 2 rfl) rfl ?_
      refine X_aload_n (tk_X10_loses.at 3 rfl) rfl ?_
      refine X_iload_n (tk_X10_loses.at 4 rfl) rfl ?_
      refine X_cV1i (lv2 := [(0, _), (1, _)]) (tk_X10_loses.at 5 rfl) mv_X10_many lk_x10_118 np_X10_many hM.f0 (by decide) rfl (Nat.le_of_ble_eq_true rfl) (Nat.le_of_ble_eq_true rfl) rfl (c10_many hM hr (by omega) ?_)
      refine X_icmp_geN (tgt := 54) (tk_X10_loses.at 6 rfl) (by decide) (pl k rfl) (show (su μ o 5 (los (μ (o + 1)) rn i k (μ o 5))) (o + 1) (83 + 9 * rn) = _ by rw [e1]; exact hm) (by omega) (by omega) (fun c1 => (by exfalso; omega)) (fun c1 => ?_)
      refine X_aload_n (tk_X10_loses.at 7 rfl) rfl ?_
      refine X_dup (tk_X10_loses.at 8 rfl) rfl ?_
      refine X_getI (tk_X10_loses.at 9 rfl) fl_x10_146 hM.f0 rfl ?_
      refine X_iload_n (tk_X10_loses.at 10 rfl) rfl ?_
      refine X_iload_n (tk_X10_loses.at 11 rfl) rfl ?_
      refine X_icmp_eqN (tgt := 32) (tk_X10_loses.at 12 rfl) (by decide) (pl k rfl) hx (by omega) (by omega) (fun c2 => ?_) (fun c2 => ?_)
      · refine X_iconst (tk_X10_loses.at 19 rfl) ci_1 ?_
        refine X_aload_n (tk_X10_loses.at 20 rfl) rfl ?_
        refine X_iload_n (tk_X10_loses.at 21 rfl) rfl ?_
        refine X_iload_n (tk_X10_loses.at 22 rfl) rfl ?_
        refine X_cV2i (lv2 := [(0, _), (1, _), (2, _)]) (tk_X10_loses.at 23 rfl) mv_X10_who lk_x10_121 np_X10_who hM.f0 (by decide) rfl (Nat.le_of_ble_eq_true rfl) (Nat.le_of_ble_eq_true rfl) rfl (c10_who hM hr (pl k rfl) (by omega) (by omega) ?_)
        refine X_ishl (tk_X10_loses.at 24 rfl) ?_
        refine X_goto (tgt := 44) (tk_X10_loses.at 25 rfl) (by decide) ?_
        refine X_ior (tk_X10_loses.at 27 rfl) ?_
        refine X_putI (tk_X10_loses.at 28 rfl) fl_x10_146 hM.f0 rfl rfl ⟨rfl, rfl⟩ ?_
        refine X_iinc (lv' := [(0, _), (1, _), (2, _), (3, _)]) (tk_X10_loses.at 29 rfl) rfl ci_1 (by decide) rfl rfl ?_
        refine X_goto (tgt := 2) (tk_X10_loses.at 30 rfl) (by decide) ?_
        rw [if_pos (by first | exact Or.inl c2 | exact Or.inr c2)] at z
        rw [e5, su_su, nI_1 k]
        rw [e1]
        exact z
      · refine X_aload_n (tk_X10_loses.at 13 rfl) rfl ?_
        refine X_iload_n (tk_X10_loses.at 14 rfl) rfl ?_
        refine X_iconst (tk_X10_loses.at 15 rfl) ci_0 ?_
        refine X_cV2i (lv2 := [(0, _), (1, _), (2, _)]) (tk_X10_loses.at 16 rfl) mv_X10_rope lk_x10_115 np_X10_rope hM.f0 (by decide) rfl (Nat.le_of_ble_eq_true rfl) (Nat.le_of_ble_eq_true rfl) rfl (c10_rope (k := 80 + 9 * rn) hM hr (pl 0 rfl) (by omega) (by omega) (by omega) ?_)
        refine X_bipush (tk_X10_loses.at 17 rfl) cb_6 ?_
        refine X_icmp_eqN (tgt := 43) (tk_X10_loses.at 18 rfl) (by decide) (show (su μ o 5 (los (μ (o + 1)) rn i k (μ o 5))) (o + 1) (80 + 9 * rn) = _ by rw [e1]; exact hkd.1) (pl 6 rfl) (by omega) (by omega) (fun c3 => ?_) (fun c3 => ?_)
        · refine X_iconst (tk_X10_loses.at 26 rfl) ci_0 ?_
          refine X_ior (tk_X10_loses.at 27 rfl) ?_
          refine X_putI (tk_X10_loses.at 28 rfl) fl_x10_146 hM.f0 rfl rfl ⟨rfl, rfl⟩ ?_
          refine X_iinc (lv' := [(0, _), (1, _), (2, _), (3, _)]) (tk_X10_loses.at 29 rfl) rfl ci_1 (by decide) rfl rfl ?_
          refine X_goto (tgt := 2) (tk_X10_loses.at 30 rfl) (by decide) ?_
          rw [if_neg (fun g => by rcases g with g | g; exact c2 g; exact g c3)] at z
          rw [e5, su_su, nI_1 k]
          exact z
        · refine X_iconst (tk_X10_loses.at 19 rfl) ci_1 ?_
          refine X_aload_n (tk_X10_loses.at 20 rfl) rfl ?_
          refine X_iload_n (tk_X10_loses.at 21 rfl) rfl ?_
          refine X_iload_n (tk_X10_loses.at 22 rfl) rfl ?_
          refine X_cV2i (lv2 := [(0, _), (1, _), (2, _)]) (tk_X10_loses.at 23 rfl) mv_X10_who lk_x10_121 np_X10_who hM.f0 (by decide) rfl (Nat.le_of_ble_eq_true rfl) (Nat.le_of_ble_eq_true rfl) rfl (c10_who hM hr (pl k rfl) (by omega) (by omega) ?_)
          refine X_ishl (tk_X10_loses.at 24 rfl) ?_
          refine X_goto (tgt := 44) (tk_X10_loses.at 25 rfl) (by decide) ?_
          refine X_ior (tk_X10_loses.at 27 rfl) ?_
          refine X_putI (tk_X10_loses.at 28 rfl) fl_x10_146 hM.f0 rfl rfl ⟨rfl, rfl⟩ ?_
          refine X_iinc (lv' := [(0, _), (1, _), (2, _), (3, _)]) (tk_X10_loses.at 29 rfl) rfl ci_1 (by decide) rfl rfl ?_
          refine X_goto (tgt := 2) (tk_X10_loses.at 30 rfl) (by decide) ?_
          rw [if_pos (by first | exact Or.inl c3 | exact Or.inr c3)] at z
          rw [e5, su_su, nI_1 k]
          rw [e1]
          exact z
  have z := loop _ 0 (Nat.zero_add _)
  rw [los, show su μ o 5 (μ o 5) = μ from by rw [su_eq, upd_self0, Mx_self]] at z
  exact z
