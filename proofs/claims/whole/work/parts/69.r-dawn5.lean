/-- a part at F anew, as the one at Q is -/
def Cpf (ν ν' : Mu) (F Q f m k : Nat) : Prop := (∀ a, a ≠ F → a ≠ F + 1 → ν' a = ν a) ∧ ν' F f = nI m ∧ ∀ i, i < k → ν' (F + 1) i = ν (Q + 1) i
theorem Cpf_of (ν : Mu) {F Q f m k : Nat} {B : Nat → Int32} (hB : ∀ i, i < k → B i = ν (Q + 1) i) : Cpf ν (Mx (su ν F f (nI m)) (F + 1) B) F Q f m k := by
  refine ⟨fun a h1 h2 => ?_, ?_, fun i hi => ?_⟩
  · rw [Mx_ne h2, su_ne h1]
  · rw [Mx_ne (by omega), su_same]; exact upd_at _ _ _
  · rw [Mx_same]; exact hB i hi
theorem d_cp4 {G : Gl} {d : Nat} {S : Sh} {μ : Mu} {F Q la ma m len : Nat} {K : Sh → Mu → Prop} (hF3 : FS S F la ma len) (hQ : FS S Q la ma len) (hm : μ Q 3 = nI m) (h1 : 4 * m ≤ len) (hl : len ≤ 60) (hQR : Q + 1 ≠ F) (hK : ∀ ν, Cpf μ ν F Q 3 m (4 * m) → K S ν) : X G mi_X3_copyFrom (d + 1) 0 0 [(0, .ref F), (1, .ref Q)] [] S μ (qv K) :=
  c3_copyFrom hF3 hQ hm h1 hl hQR (fun B hB => hK _ (Cpf_of μ hB))
theorem d_cp6 {G : Gl} {d : Nat} {S : Sh} {μ : Mu} {R Q m len l2 : Nat} {K : Sh → Mu → Prop} (hR : RS S R len) (hQ : RS S Q l2) (hm : μ Q 1 = nI m) (h1 : m ≤ len) (h2 : m ≤ l2) (hl : len ≤ 60) (hQR : Q + 1 ≠ R) (hK : ∀ ν, Cpf μ ν R Q 1 m m → K S ν) : X G mi_X6_copyFrom (d + 1) 0 0 [(0, .ref R), (1, .ref Q)] [] S μ (qv K) :=
  c6_copyFrom hR hQ hm h1 h2 hl hQR (fun B hB => hK _ (Cpf_of μ hB))
theorem tx0 {N : Nat → Int32} (hw : WF N) : okN (N 210) 50 := (hw.tx (u := 0) (by decide)).1
theorem tx1 {N : Nat → Int32} (hw : WF N) : okN (N 262) 50 := (hw.tx (u := 1) (by decide)).1
set_option maxHeartbeats 1000000 in
theorem c2_copyFrom {G : Gl} {d : Nat} {S : Sh} {μ : Mu} {D : Nat} {Q : Nat} {N : Nat → Int32} {K : Sh → Mu → Prop} (hD : DS G S D) (hQ : DS G S Q) (hw : WF N) (hq : repD μ Q N) (hnob : μ (D + 14) 1 = 0) (hdis : Q + 32 ≤ D ∨ D + 32 ≤ Q) (hK : ∀ ν, (∀ a, (a < D ∨ D + 32 ≤ a) → ν a = μ a) → repD ν D N → K S ν) : X G mi_X2_copyFrom (d + 2) 0 0 [(0, .ref D), (1, .ref Q)] [] S μ (qv K) := by
  have f0 : ∀ a, (a < D ∨ D + 32 ≤ a) → μ a = μ a := fun a _ => rfl
  refine X_aload_n (tk_X2_copyFrom.at 0 rfl) rfl ?_
  refine X_getR (tk_X2_copyFrom.at 1 rfl) fl_x2_21 hD.1 rfl rfl ?_
  refine X_aload_n (tk_X2_copyFrom.at 2 rfl) rfl ?_
  refine X_getR (tk_X2_copyFrom.at 3 rfl) fl_x2_21 hQ.1 rfl rfl ?_
  have m1 : μ (Q + 1) 3 = nI (nv (N 1)) := by rw [f0 (Q + 1) (by omega)]; exact rD_people hw hq
  refine X_cV1v (lv2 := [(0, _), (1, _)]) (tk_X2_copyFrom.at 4 rfl) mv_X3_copyFrom lk_x2_80 np_X3_copyFrom hD.2.1.1 (by decide) rfl (Nat.le_of_ble_eq_true rfl) (Nat.le_of_ble_eq_true rfl) rfl (d_cp4 hD.2.1 hQ.2.1 m1 (by have := hw.n1.2; omega) (by decide) (by omega) (fun ν1 cp1 => ?_))
  have f1 : ∀ a, (a < D ∨ D + 32 ≤ a) → ν1 a = μ a := fun a h => (cp1.1 a (by omega) (by omega)).trans (f0 a h)
  refine X_aload_n (tk_X2_copyFrom.at 5 rfl) rfl ?_
  refine X_getR (tk_X2_copyFrom.at 6 rfl) fl_x2_33 hD.1 rfl rfl ?_
  refine X_aload_n (tk_X2_copyFrom.at 7 rfl) rfl ?_
  refine X_getR (tk_X2_copyFrom.at 8 rfl) fl_x2_33 hQ.1 rfl rfl ?_
  have m2 : ν1 (Q + 3) 3 = nI (nv (N 2)) := by rw [f1 (Q + 3) (by omega)]; exact rD_pieces hw hq
  refine X_cV1v (lv2 := [(0, _), (1, _)]) (tk_X2_copyFrom.at 9 rfl) mv_X3_copyFrom lk_x2_80 np_X3_copyFrom hD.2.2.1.1 (by decide) rfl (Nat.le_of_ble_eq_true rfl) (Nat.le_of_ble_eq_true rfl) rfl (d_cp4 hD.2.2.1 hQ.2.2.1 m2 (by have := hw.n2.2; omega) (by decide) (by omega) (fun ν2 cp2 => ?_))
  have f2 : ∀ a, (a < D ∨ D + 32 ≤ a) → ν2 a = μ a := fun a h => (cp2.1 a (by omega) (by omega)).trans (f1 a h)
  refine X_aload_n (tk_X2_copyFrom.at 10 rfl) rfl ?_
  refine X_getR (tk_X2_copyFrom.at 11 rfl) fl_x2_42 hD.1 rfl rfl ?_
  refine X_aload_n (tk_X2_copyFrom.at 12 rfl) rfl ?_
  refine X_getR (tk_X2_copyFrom.at 13 rfl) fl_x2_42 hQ.1 rfl rfl ?_
  have m3 : ν2 (Q + 5) 3 = nI (nv (N 3)) := by rw [f2 (Q + 5) (by omega)]; exact rD_ropes hw hq
  refine X_cV1v (lv2 := [(0, _), (1, _)]) (tk_X2_copyFrom.at 14 rfl) mv_X3_copyFrom lk_x2_80 np_X3_copyFrom hD.2.2.2.1.1 (by decide) rfl (Nat.le_of_ble_eq_true rfl) (Nat.le_of_ble_eq_true rfl) rfl (d_cp4 hD.2.2.2.1 hQ.2.2.2.1 m3 (by have := hw.n3.2; omega) (by decide) (by omega) (fun ν3 cp3 => ?_))
  have f3 : ∀ a, (a < D ∨ D + 32 ≤ a) → ν3 a = μ a := fun a h => (cp3.1 a (by omega) (by omega)).trans (f2 a h)
  refine X_aload_n (tk_X2_copyFrom.at 15 rfl) rfl ?_
  refine X_getR (tk_X2_copyFrom.at 16 rfl) fl_x2_50 hD.1 rfl rfl ?_
  refine X_aload_n (tk_X2_copyFrom.at 17 rfl) rfl ?_
  refine X_getR (tk_X2_copyFrom.at 18 rfl) fl_x2_50 hQ.1 rfl rfl ?_
  have m4 : ν3 (Q + 7) 1 = nI (nv (N 4)) := by rw [f3 (Q + 7) (by omega)]; exact rD_line hw hq
  refine X_cV1v (lv2 := [(0, _), (1, _)]) (tk_X2_copyFrom.at 19 rfl) mv_X6_copyFrom lk_x2_84 np_X6_copyFrom hD.2.2.2.2.1.1 (by decide) rfl (Nat.le_of_ble_eq_true rfl) (Nat.le_of_ble_eq_true rfl) rfl (d_cp6 hD.2.2.2.2.1 hQ.2.2.2.2.1 m4 (by have := hw.n4.2; omega) (by have := hw.n4.2; omega) (by decide) (by omega) (fun ν4 cp4 => ?_))
  have f4 : ∀ a, (a < D ∨ D + 32 ≤ a) → ν4 a = μ a := fun a h => (cp4.1 a (by omega) (by omega)).trans (f3 a h)
  refine X_aload_n (tk_X2_copyFrom.at 20 rfl) rfl ?_
  refine X_getR (tk_X2_copyFrom.at 21 rfl) fl_x2_54 hD.1 rfl rfl ?_
  refine X_aload_n (tk_X2_copyFrom.at 22 rfl) rfl ?_
  refine X_getR (tk_X2_copyFrom.at 23 rfl) fl_x2_54 hQ.1 rfl rfl ?_
  have m5 : ν4 (Q + 9) 1 = nI (nv (N 5)) := by rw [f4 (Q + 9) (by omega)]; exact rD_tape hw hq
  refine X_cV1v (lv2 := [(0, _), (1, _)]) (tk_X2_copyFrom.at 24 rfl) mv_X6_copyFrom lk_x2_84 np_X6_copyFrom hD.2.2.2.2.2.1.1 (by decide) rfl (Nat.le_of_ble_eq_true rfl) (Nat.le_of_ble_eq_true rfl) rfl (d_cp6 hD.2.2.2.2.2.1 hQ.2.2.2.2.2.1 m5 (by have := hw.n5.2; omega) (by have := hw.n5.2; omega) (by decide) (by omega) (fun ν5 cp5 => ?_))
  have f5 : ∀ a, (a < D ∨ D + 32 ≤ a) → ν5 a = μ a := fun a h => (cp5.1 a (by omega) (by omega)).trans (f4 a h)
  refine X_aload_n (tk_X2_copyFrom.at 25 rfl) rfl ?_
  refine X_getR (tk_X2_copyFrom.at 26 rfl) fl_x2_57 hD.1 rfl rfl ?_
  refine X_aload_n (tk_X2_copyFrom.at 27 rfl) rfl ?_
  refine X_getR (tk_X2_copyFrom.at 28 rfl) fl_x2_57 hQ.1 rfl rfl ?_
  have m6 : ν5 (Q + 11) 1 = nI (nv (N 6)) := by rw [f5 (Q + 11) (by omega)]; exact rD_wait hw hq
  refine X_cV1v (lv2 := [(0, _), (1, _)]) (tk_X2_copyFrom.at 29 rfl) mv_X6_copyFrom lk_x2_84 np_X6_copyFrom hD.2.2.2.2.2.2.1.1 (by decide) rfl (Nat.le_of_ble_eq_true rfl) (Nat.le_of_ble_eq_true rfl) rfl (d_cp6 hD.2.2.2.2.2.2.1 hQ.2.2.2.2.2.2.1 m6 (by have := hw.n6.2; omega) (by have := hw.n6.2; omega) (by decide) (by omega) (fun ν6 cp6 => ?_))
  have f6 : ∀ a, (a < D ∨ D + 32 ≤ a) → ν6 a = μ a := fun a h => (cp6.1 a (by omega) (by omega)).trans (f5 a h)
  refine X_aload_n (tk_X2_copyFrom.at 30 rfl) rfl ?_
  refine X_getR (tk_X2_copyFrom.at 31 rfl) fl_x2_67 hD.1 rfl rfl ?_
  refine X_aload_n (tk_X2_copyFrom.at 32 rfl) rfl ?_
  refine X_getR (tk_X2_copyFrom.at 33 rfl) fl_x2_67 hQ.1 rfl rfl ?_
  have m7 : ν6 (Q + 16) 1 = nI (nv (N 210)) := by rw [f6 (Q + 16) (by omega)]; exact hq.2.2.2.2.2.2.2.2.2.1.1.trans (tx0 hw).1
  refine X_cV1v (lv2 := [(0, _), (1, _)]) (tk_X2_copyFrom.at 34 rfl) mv_X6_copyFrom lk_x2_84 np_X6_copyFrom hD.2.2.2.2.2.2.2.2.2.1.1 (by decide) rfl (Nat.le_of_ble_eq_true rfl) (Nat.le_of_ble_eq_true rfl) rfl (d_cp6 hD.2.2.2.2.2.2.2.2.2.1 hQ.2.2.2.2.2.2.2.2.2.1 m7 (by have := (tx0 hw).2; omega) (by have := (tx0 hw).2; omega) (by decide) (by omega) (fun ν7 cp7 => ?_))
  have f7 : ∀ a, (a < D ∨ D + 32 ≤ a) → ν7 a = μ a := fun a h => (cp7.1 a (by omega) (by omega)).trans (f6 a h)
  refine X_aload_n (tk_X2_copyFrom.at 35 rfl) rfl ?_
  refine X_getR (tk_X2_copyFrom.at 36 rfl) fl_x2_70 hD.1 rfl rfl ?_
  refine X_aload_n (tk_X2_copyFrom.at 37 rfl) rfl ?_
  refine X_getR (tk_X2_copyFrom.at 38 rfl) fl_x2_70 hQ.1 rfl rfl ?_
  have m8 : ν7 (Q + 18) 1 = nI (nv (N 262)) := by rw [f7 (Q + 18) (by omega)]; exact hq.2.2.2.2.2.2.2.2.2.2.1.trans (tx1 hw).1
  refine X_cV1v (lv2 := [(0, _), (1, _)]) (tk_X2_copyFrom.at 39 rfl) mv_X6_copyFrom lk_x2_84 np_X6_copyFrom hD.2.2.2.2.2.2.2.2.2.2.1.1 (by decide) rfl (Nat.le_of_ble_eq_true rfl) (Nat.le_of_ble_eq_true rfl) rfl (d_cp6 hD.2.2.2.2.2.2.2.2.2.2.1 hQ.2.2.2.2.2.2.2.2.2.2.1 m8 (by have := (tx1 hw).2; omega) (by have := (tx1 hw).2; omega) (by decide) (by omega) (fun ν8 cp8 => ?_))
  have f8 : ∀ a, (a < D ∨ D + 32 ≤ a) → ν8 a = μ a := fun a h => (cp8.1 a (by omega) (by omega)).trans (f7 a h)
  refine X_iconst (tk_X2_copyFrom.at 40 rfl) ci_0 ?_
  refine X_istore_n (lv' := [(0, _), (1, _), (2, _)]) (tk_X2_copyFrom.at 41 rfl) (by decide) rfl rfl ?_
  have loop : ∀ (m i : Nat) (ν : Mu), i + m = 6 → (∀ a, a < D + 20 ∨ D + 20 + 2 * i ≤ a → ν a = ν8 a) ∧ (∀ r, r < i → RwI ν (D + 20 + 2 * r) (if r < nv (N 3) then N (83 + 9 * r) else 0) (fun i => N (84 + 9 * r + i))) → X G mi_X2_copyFrom (d + 2) 0 90 [(0, .ref D), (1, .ref Q), (2, .int (nI i))] [] S ν (qv K) := by
    intro m
    induction m with
    | zero =>
      intro i ν hm hI
      have e : i = 6 := by omega
      subst e
      refine X_iload_n (tk_X2_copyFrom.at 42 rfl) rfl ?_
      refine X_aload_n (tk_X2_copyFrom.at 43 rfl) rfl ?_
      refine X_getR (tk_X2_copyFrom.at 44 rfl) fl_x2_60 hD.1 rfl rfl ?_
      refine X_alenR (tk_X2_copyFrom.at 45 rfl) hD.2.2.2.2.2.2.2.1 ?_
      refine X_icmp_geN (tgt := 119) (tk_X2_copyFrom.at 46 rfl) (by decide) (pl 6 rfl) rfl (by omega) (by omega) (fun c1 => ?_) (fun c1 => (by exfalso; omega))
      refine X_aload_n (tk_X2_copyFrom.at 57 rfl) rfl ?_
      refine X_aload_n (tk_X2_copyFrom.at 58 rfl) rfl ?_
      refine X_getI (tk_X2_copyFrom.at 59 rfl) fl_x2_73 hQ.1 rfl ?_
      refine X_putI (tk_X2_copyFrom.at 60 rfl) fl_x2_73 hD.1 rfl rfl ⟨rfl, rfl⟩ ?_
      refine X_aload_n (tk_X2_copyFrom.at 61 rfl) rfl ?_
      refine X_aload_n (tk_X2_copyFrom.at 62 rfl) rfl ?_
      refine X_getI (tk_X2_copyFrom.at 63 rfl) fl_x2_77 hQ.1 rfl ?_
      refine X_putI (tk_X2_copyFrom.at 64 rfl) fl_x2_77 hD.1 rfl rfl ⟨rfl, rfl⟩ ?_
      refine X_return (tk_X2_copyFrom.at 65 rfl) rfl ?_
      have hq10 : ν Q 10 = N 0 := by rw [hI.1 _ (by omega), f8 _ (by omega)]; exact hq.1.1
      have hq11 : ν Q 11 = N 7 := by rw [hI.1 _ (by omega), f8 _ (by omega)]; exact hq.1.2
      rw [show (su ν D 10 (ν Q 10)) Q 11 = ν Q 11 from by rw [su_ne (by omega)], hq10, hq11]
      refine hK _ (fun a h => ?_) ⟨⟨?_, ?_⟩, ⟨?_, fun p c hp hc => ?_⟩, ⟨?_, fun p c hp hc => ?_⟩, ⟨?_, fun p c hp hc => ?_⟩, ⟨?_, fun i hi => ?_⟩, ⟨?_, fun i hi => ?_⟩, ⟨?_, fun i hi => ?_⟩, fun r hr6 => ?_, ?_, ⟨?_, fun i hi => ?_⟩, ⟨?_, fun i hi => ?_⟩⟩
      · rw [su_ne (by omega), su_ne (by omega), hI.1 _ (by omega)]; exact f8 a h
      · rw [su_same, upd_ne _ _ (by decide), su_same]; exact upd_at _ _ _
      · rw [su_same]; exact upd_at _ _ _
      · rw [su_ne (by omega), su_ne (by omega), hI.1 _ (by omega), cp8.1 _ (by omega) (by omega), cp7.1 _ (by omega) (by omega), cp6.1 _ (by omega) (by omega), cp5.1 _ (by omega) (by omega), cp4.1 _ (by omega) (by omega), cp3.1 _ (by omega) (by omega), cp2.1 _ (by omega) (by omega), cp1.2.1]; exact hw.n1.1.symm
      · rw [su_ne (by omega), su_ne (by omega), hI.1 _ (by omega), cp8.1 _ (by omega) (by omega), cp7.1 _ (by omega) (by omega), cp6.1 _ (by omega) (by omega), cp5.1 _ (by omega) (by omega), cp4.1 _ (by omega) (by omega), cp3.1 _ (by omega) (by omega), cp2.1 _ (by omega) (by omega), show D + 2 = D + 1 + 1 from rfl, cp1.2.2 _ (by omega), f0 _ (by omega)]; exact hq.2.1.2 p c hp hc
      · rw [su_ne (by omega), su_ne (by omega), hI.1 _ (by omega), cp8.1 _ (by omega) (by omega), cp7.1 _ (by omega) (by omega), cp6.1 _ (by omega) (by omega), cp5.1 _ (by omega) (by omega), cp4.1 _ (by omega) (by omega), cp3.1 _ (by omega) (by omega), cp2.2.1]; exact hw.n2.1.symm
      · rw [su_ne (by omega), su_ne (by omega), hI.1 _ (by omega), cp8.1 _ (by omega) (by omega), cp7.1 _ (by omega) (by omega), cp6.1 _ (by omega) (by omega), cp5.1 _ (by omega) (by omega), cp4.1 _ (by omega) (by omega), cp3.1 _ (by omega) (by omega), show D + 4 = D + 3 + 1 from rfl, cp2.2.2 _ (by omega), f1 _ (by omega)]; exact hq.2.2.1.2 p c hp hc
      · rw [su_ne (by omega), su_ne (by omega), hI.1 _ (by omega), cp8.1 _ (by omega) (by omega), cp7.1 _ (by omega) (by omega), cp6.1 _ (by omega) (by omega), cp5.1 _ (by omega) (by omega), cp4.1 _ (by omega) (by omega), cp3.2.1]; exact hw.n3.1.symm
      · rw [su_ne (by omega), su_ne (by omega), hI.1 _ (by omega), cp8.1 _ (by omega) (by omega), cp7.1 _ (by omega) (by omega), cp6.1 _ (by omega) (by omega), cp5.1 _ (by omega) (by omega), cp4.1 _ (by omega) (by omega), show D + 6 = D + 5 + 1 from rfl, cp3.2.2 _ (by omega), f2 _ (by omega)]; exact hq.2.2.2.1.2 p c hp hc
      · rw [su_ne (by omega), su_ne (by omega), hI.1 _ (by omega), cp8.1 _ (by omega) (by omega), cp7.1 _ (by omega) (by omega), cp6.1 _ (by omega) (by omega), cp5.1 _ (by omega) (by omega), cp4.2.1]; exact hw.n4.1.symm
      · rw [show D + 7 + 1 = D + 8 from rfl]; rw [su_ne (by omega), su_ne (by omega), hI.1 _ (by omega), cp8.1 _ (by omega) (by omega), cp7.1 _ (by omega) (by omega), cp6.1 _ (by omega) (by omega), cp5.1 _ (by omega) (by omega), show D + 8 = D + 7 + 1 from rfl, cp4.2.2 _ (by omega), f3 _ (by omega)]; exact hq.2.2.2.2.1.2 i hi
      · rw [su_ne (by omega), su_ne (by omega), hI.1 _ (by omega), cp8.1 _ (by omega) (by omega), cp7.1 _ (by omega) (by omega), cp6.1 _ (by omega) (by omega), cp5.2.1]; exact hw.n5.1.symm
      · rw [show D + 9 + 1 = D + 10 from rfl]; rw [su_ne (by omega), su_ne (by omega), hI.1 _ (by omega), cp8.1 _ (by omega) (by omega), cp7.1 _ (by omega) (by omega), cp6.1 _ (by omega) (by omega), show D + 10 = D + 9 + 1 from rfl, cp5.2.2 _ (by omega), f4 _ (by omega)]; exact hq.2.2.2.2.2.1.2 i hi
      · rw [su_ne (by omega), su_ne (by omega), hI.1 _ (by omega), cp8.1 _ (by omega) (by omega), cp7.1 _ (by omega) (by omega), cp6.2.1]; exact hw.n6.1.symm
      · rw [show D + 11 + 1 = D + 12 from rfl]; rw [su_ne (by omega), su_ne (by omega), hI.1 _ (by omega), cp8.1 _ (by omega) (by omega), cp7.1 _ (by omega) (by omega), show D + 12 = D + 11 + 1 from rfl, cp6.2.2 _ (by omega), f5 _ (by omega)]; exact hq.2.2.2.2.2.2.1.2 i hi
      · exact ⟨by rw [su_ne (by omega), su_ne (by omega)]; exact (hI.2 r hr6).1, fun i hi => by rw [su_ne (by omega), su_ne (by omega)]; exact (hI.2 r hr6).2 i hi⟩
      · rw [su_ne (by omega), su_ne (by omega), hI.1 _ (by omega), cp8.1 _ (by omega) (by omega), cp7.1 _ (by omega) (by omega), cp6.1 _ (by omega) (by omega), cp5.1 _ (by omega) (by omega), cp4.1 _ (by omega) (by omega), cp3.1 _ (by omega) (by omega), cp2.1 _ (by omega) (by omega), cp1.1 _ (by omega) (by omega)]; exact hnob
      · rw [su_ne (by omega), su_ne (by omega), hI.1 _ (by omega), cp8.1 _ (by omega) (by omega), cp7.2.1]; exact (tx0 hw).1.symm
      · rw [show D + 16 + 1 = D + 17 from rfl]; rw [su_ne (by omega), su_ne (by omega), hI.1 _ (by omega), cp8.1 _ (by omega) (by omega), show D + 17 = D + 16 + 1 from rfl, cp7.2.2 _ (by omega), f6 _ (by omega)]; exact hq.2.2.2.2.2.2.2.2.2.1.2 i hi
      · rw [su_ne (by omega), su_ne (by omega), hI.1 _ (by omega), cp8.2.1]; exact (tx1 hw).1.symm
      · rw [show D + 18 + 1 = D + 19 from rfl]; rw [su_ne (by omega), su_ne (by omega), hI.1 _ (by omega), show D + 19 = D + 18 + 1 from rfl, cp8.2.2 _ (by omega), f7 _ (by omega)]; exact hq.2.2.2.2.2.2.2.2.2.2.2 i hi
    | succ m ih =>
      intro i ν hm hI
      refine X_iload_n (tk_X2_copyFrom.at 42 rfl) rfl ?_
      refine X_aload_n (tk_X2_copyFrom.at 43 rfl) rfl ?_
      refine X_getR (tk_X2_copyFrom.at 44 rfl) fl_x2_60 hD.1 rfl rfl ?_
      refine X_alenR (tk_X2_copyFrom.at 45 rfl) hD.2.2.2.2.2.2.2.1 ?_
      refine X_icmp_geN (tgt := 119) (tk_X2_copyFrom.at 46 rfl) (by decide) (pl i rfl) rfl (by omega) (by omega) (fun c1 => (by exfalso; omega)) (fun c1 => ?_)
      refine X_aload_n (tk_X2_copyFrom.at 47 rfl) rfl ?_
      refine X_getR (tk_X2_copyFrom.at 48 rfl) fl_x2_60 hD.1 rfl rfl ?_
      refine X_iload_n (tk_X2_copyFrom.at 49 rfl) rfl ?_
      refine X_aaldN (k := i) (tk_X2_copyFrom.at 50 rfl) hD.2.2.2.2.2.2.2.1 (pz (pl i rfl) (by omega)) (by omega) (by decide) rfl ?_
      refine X_aload_n (tk_X2_copyFrom.at 51 rfl) rfl ?_
      refine X_iload_n (tk_X2_copyFrom.at 52 rfl) rfl ?_
      refine X_cV1r (lv2 := [(0, _), (1, _)]) (tk_X2_copyFrom.at 53 rfl) mv_X2_rowOf lk_x2_87 np_X2_rowOf hQ.1 (by decide) rfl (Nat.le_of_ble_eq_true rfl) (Nat.le_of_ble_eq_true rfl) rfl (c2_rowOf hQ (pl i rfl) (by omega) ?_)
      have hm1 : ν (Q + 20 + 2 * i) 1 = nI (mR N i) := by rw [hI.1 _ (by omega), f8 _ (by omega)]; exact rD_rsz hw hq (by omega)
      refine X_cV1v (lv2 := [(0, _), (1, _)]) (tk_X2_copyFrom.at 54 rfl) mv_X6_copyFrom lk_x2_84 np_X6_copyFrom (hD.2.2.2.2.2.2.2.2.2.2.2 i (by omega)).1 (by decide) rfl (Nat.le_of_ble_eq_true rfl) (Nat.le_of_ble_eq_true rfl) rfl (d_cp6 (hD.2.2.2.2.2.2.2.2.2.2.2 i (by omega)) (hQ.2.2.2.2.2.2.2.2.2.2.2 i (by omega)) hm1 (mR_le hw i) (mR_le hw i) (by decide) (by omega) (fun ν' cc => ?_))
      refine X_iinc (lv' := [(0, _), (1, _), (2, _)]) (tk_X2_copyFrom.at 55 rfl) rfl ci_1 (by decide) rfl rfl ?_
      refine X_goto (tgt := 90) (tk_X2_copyFrom.at 56 rfl) (by decide) ?_
      rw [nI_1 i]
      refine ih (i + 1) ν' (by omega) ⟨fun a h => (cc.1 a (by omega) (by omega)).trans (hI.1 a (by omega)), fun r hr => ?_⟩
      by_cases e : r = i
      · subst e
        have hz := rD_row hq (r := r) (by omega)
        have e1 : (if r < nv (N 3) then N (83 + 9 * r) else 0) = nI (mR N r) := hz.1.symm.trans (rD_rsz hw hq (by omega))
        refine ⟨cc.2.1.trans e1.symm, fun j hj => ?_⟩
        have hj2 : j < mR N r := by rw [e1, nv_nI (by have := mR_le hw r; omega)] at hj; exact hj
        rw [cc.2.2 j hj2, hI.1 _ (by omega), f8 _ (by omega)]
        exact rD_rat hq (by omega) hj2
      · have z := hI.2 r (by omega)
        exact ⟨by rw [cc.1 _ (by omega) (by omega)]; exact z.1, fun j hj => by rw [cc.1 _ (by omega) (by omega)]; exact z.2 j hj⟩
  exact loop 6 0 ν8 rfl ⟨fun a _ => rfl, fun r hr => absurd hr (Nat.not_lt_zero r)⟩
