/-! The layer's rules of the heap: fields, arrays, what is made, statics. -/
def FL (own : String) (idx ci k : Nat) : Prop := ci < 11 ∧ k < fN ci ∧ Cond.fieldLink own idx (cT ci k).1 (cT ci k).2.1 (cT ci k).2.2.1 ∈ lw_gd
theorem cls_gd {ci : Nat} (h : ci < 11) : ∀ w ∈ u_ws (cN ci) (cT ci) (fN ci), w ∈ lw_gd := by
  intro w hw
  refine gd (cls_in ci h w hw) ?_
  obtain ⟨k, -, rfl⟩ := List.mem_map.mp hw
  unfold u_lay
  split <;> rfl
theorem cls_apart {ci : Nat} (h : ci < 11) {s : State} {args : Array Value} {cC : ClassId} {iS : Nat → Nat} (hts : ∀ w ∈ lw_gd, w.before args s = true) (hK : u_Kn s (cN ci) (cT ci) (fN ci) cC iS) : ∀ x y, x < fN ci → y < fN ci → x ≠ y → iS x ≠ iS y := by
  intro x y hx hy hne
  obtain ⟨hS, -⟩ := hK
  obtain ⟨_, _, _, fa, hia, ea⟩ := hS x hx
  obtain ⟨_, _, _, fb, hib, eb⟩ := hS y hy
  rw [← ea, ← eb]
  refine u_apart (u_lays hts (cls_gd h) hx) (u_lays hts (cls_gd h) hy) hia hib ?_
  rw [(State.fieldFound?_type hia (cls_ty ci h x hx)).1, (State.fieldFound?_type hib (cls_ty ci h y hy)).1]
  exact cls_nm ci h x hx y hy hne
/-- a field's number, one place anew -/
def su (μ : Mu) (a i : Nat) (x : Int32) : Mu := fun b => if b = a then upd (μ a) i x else μ b
def Su (S : Sh) (a : Nat) (k : Kd) : Sh := (S.1, fun q => if q = a then some k else S.2 q)
theorem su_same {μ : Mu} {a i : Nat} {x : Int32} : su μ a i x a = upd (μ a) i x := if_pos rfl
theorem su_ne {μ : Mu} {a i q : Nat} {x : Int32} (h : q ≠ a) : su μ a i x q = μ q := if_neg h
theorem Mx_same {μ : Mu} {a : Nat} {f : Nat → Int32} : Mx μ a f a = f := if_pos rfl
theorem Mx_ne {μ : Mu} {a q : Nat} {f : Nat → Int32} (h : q ≠ a) : Mx μ a f q = μ q := if_neg h
theorem fV_int {ci k : Nat} {r : Nat → Option Nat} {f : Nat → Int32} (h : fI ci k = true) (x : Int32) : ∀ j, updV (fV ci r f) k (.int x) j = fV ci r (upd f k x) j := by
  intro j
  unfold updV fV upd
  by_cases e : j = k
  · subst e; simp [h]
  · simp [e]
theorem fV_ref {ci k : Nat} {r : Nat → Option Nat} {f : Nat → Int32} (h : fI ci k = false) (x : Option Nat) : ∀ j, updV (fV ci r f) k (va_rf x) j = fV ci (va_up r k x) f j := by
  intro j
  unfold updV fV va_up
  by_cases e : j = k
  · subst e; simp [h]
  · simp [e]
section
variable {G : Gl} {mi : MI} {d kc pc nx : Nat} {lv : List (Nat × Value)} {rest : List Value} {S : Sh} {μ : Mu} {Q : Option Value → Sh → Mu → Prop}
theorem X_getI {a ci k idx : Nat} {r : Nat → Option Nat} (hd : Dc mi.2.1 pc (.getfield idx) 3 nx) (hf : FL mi.1.cls idx ci k) (hb : S.2 a = some (kO ci r)) (hi : fI ci k = true) (kk : X G mi d kc nx lv (.int (μ a k) :: rest) S μ Q) : X G mi d kc pc lv (.ref a :: rest) S μ Q := by
  intro p l e R s m args below meth c mc Z C hZ H locs cells slots ls hR hk hl
  obtain ⟨hd, rfl⟩ := hd
  obtain ⟨hci, hkN, hlk⟩ := hf
  obtain ⟨hga, ce, q1, q2, q3, q4⟩ := hR.at hb
  have hts := C.2.2.2.2.2.1
  obtain ⟨hS, hfc, kC, hkC, hkind⟩ := u_Kn_moved C.2.2.2.2.2.2.2.2.2.1.alike (C.2.2.2.2.2.2.2.2.2.2.1 ci hci)
  obtain ⟨cf, kf, fi, f, hi2, hsl⟩ := hS k hkN
  refine W.getf C.1 C.2.1 C.2.2.2.2.1 (hts _ hlk) hi2 (u_facts hfc hkC (u_lays hts (cls_gd hci) hkN) hi2).1 q1 (by rw [q3]; exact fun h => by cases h) (v := .int (μ a k)) ?_ rfl rfl hd (kk p l e R s m args below meth c mc Z C hZ H locs cells slots ls hR hk hl)
  rw [hsl, q4 k hkN]
  simp [fV, hi]
theorem X_getR {a ci k idx : Nat} {r : Nat → Option Nat} {q : Nat} (hd : Dc mi.2.1 pc (.getfield idx) 3 nx) (hf : FL mi.1.cls idx ci k) (hb : S.2 a = some (kO ci r)) (hi : fI ci k = false) (hr : r k = some q) (kk : X G mi d kc nx lv (.ref q :: rest) S μ Q) : X G mi d kc pc lv (.ref a :: rest) S μ Q := by
  intro p l e R s m args below meth c mc Z C hZ H locs cells slots ls hR hk hl
  obtain ⟨hd, rfl⟩ := hd
  obtain ⟨hci, hkN, hlk⟩ := hf
  obtain ⟨hga, ce, q1, q2, q3, q4⟩ := hR.at hb
  have hts := C.2.2.2.2.2.1
  obtain ⟨hS, hfc, kC, hkC, hkind⟩ := u_Kn_moved C.2.2.2.2.2.2.2.2.2.1.alike (C.2.2.2.2.2.2.2.2.2.2.1 ci hci)
  obtain ⟨cf, kf, fi, f, hi2, hsl⟩ := hS k hkN
  refine W.getf C.1 C.2.1 C.2.2.2.2.1 (hts _ hlk) hi2 (u_facts hfc hkC (u_lays hts (cls_gd hci) hkN) hi2).1 q1 (by rw [q3]; exact fun h => by cases h) (v := .ref q) ?_ rfl rfl hd (kk p l e R s m args below meth c mc Z C hZ H locs cells slots ls hR hk hl)
  rw [hsl, q4 k hkN]
  simp [fV, hi, hr, va_rf]
theorem X_getN {a ci k idx : Nat} {r : Nat → Option Nat} (hd : Dc mi.2.1 pc (.getfield idx) 3 nx) (hf : FL mi.1.cls idx ci k) (hb : S.2 a = some (kO ci r)) (hi : fI ci k = false) (hr : r k = none) (kk : X G mi d kc nx lv (.null :: rest) S μ Q) : X G mi d kc pc lv (.ref a :: rest) S μ Q := by
  intro p l e R s m args below meth c mc Z C hZ H locs cells slots ls hR hk hl
  obtain ⟨hd, rfl⟩ := hd
  obtain ⟨hci, hkN, hlk⟩ := hf
  obtain ⟨hga, ce, q1, q2, q3, q4⟩ := hR.at hb
  have hts := C.2.2.2.2.2.1
  obtain ⟨hS, hfc, kC, hkC, hkind⟩ := u_Kn_moved C.2.2.2.2.2.2.2.2.2.1.alike (C.2.2.2.2.2.2.2.2.2.2.1 ci hci)
  obtain ⟨cf, kf, fi, f, hi2, hsl⟩ := hS k hkN
  refine W.getf C.1 C.2.1 C.2.2.2.2.1 (hts _ hlk) hi2 (u_facts hfc hkC (u_lays hts (cls_gd hci) hkN) hi2).1 q1 (by rw [q3]; exact fun h => by cases h) (v := .null) ?_ rfl rfl hd (kk p l e R s m args below meth c mc Z C hZ H locs cells slots ls hR hk hl)
  rw [hsl, q4 k hkN]
  simp [fV, hi, hr, va_rf]
theorem X_putI {a ci k idx : Nat} {r : Nat → Option Nat} {x : Int32} (hd : Dc mi.2.1 pc (.putfield idx) 3 nx) (hf : FL mi.1.cls idx ci k) (hb : S.2 a = some (kO ci r)) (hi : fI ci k = true) (hfin : (cT ci k).2.2.2 = false) (hnf : narrow (cTy ci k) (.int x) = .int x ∧ fits (cTy ci k) (.int x) = true) (kk : X G mi d kc nx lv rest S (su μ a k x) Q) : X G mi d kc pc lv (.int x :: .ref a :: rest) S μ Q := by
  intro p l e R s m args below meth c mc Z C hZ H locs cells slots ls hR hk hl
  obtain ⟨hd, rfl⟩ := hd
  obtain ⟨hci, hkN, hlk⟩ := hf
  obtain ⟨hga, ce, q1, q2, q3, q4⟩ := hR.at hb
  have hts := C.2.2.2.2.2.1
  obtain ⟨hS, hfc, kC, hkC, hkind⟩ := u_Kn_moved C.2.2.2.2.2.2.2.2.2.1.alike (C.2.2.2.2.2.2.2.2.2.2.1 ci hci)
  obtain ⟨cf, kf, fi, f, hi2, hsl⟩ := hS k hkN
  have hap := cls_apart hci hts ⟨hS, hfc, kC, hkC, hkind⟩
  have hlay := hts _ (cls_gd hci _ (u_in_lay hkN))
  unfold u_lay at hlay
  have hst := (u_facts hfc hkC (u_lays hts (cls_gd hci) hkN) hi2).1
  rw [if_neg (by rw [hfin]; decide)] at hlay
  have h6 := u_store hfc hkC hkind hlay hi2 (cls_ty ci hci k hkN) hnf.1 hnf.2
  refine W.putK C.1 C.2.1 (f := f) ⟨C.2.2.2.2.1, hts _ hlk, ⟨_, _, _, hi2⟩, hst⟩ (by rw [q2]; exact h6) q1 q3 (by rw [hsl]; exact k2_hasslot (q4 k hkN)) rfl rfl hd fun H1 e1 e2 e3 => ?_
  rw [hsl] at e1
  refine kk p l e R s m args below meth c mc Z C hZ H1 _ cells slots ls (hR.put rfl hga (hR.lt hb) e2 e3 (fun q hq => ?_) ?_) hk hl
  · exact ⟨rfl, su_ne hq⟩
  · rw [hb, su_same]
    exact ⟨hga, t_OB.to ⟨_, e1, q2, q3, t_set q4 hap hkN _⟩ (fun j _ => fV_int hi _ j)⟩
theorem X_putR {a ci k idx : Nat} {r : Nat → Option Nat} {q : Nat} (hd : Dc mi.2.1 pc (.putfield idx) 3 nx) (hf : FL mi.1.cls idx ci k) (hb : S.2 a = some (kO ci r)) (hi : fI ci k = false) (hfin : (cT ci k).2.2.2 = false) (hnf : narrow (cTy ci k) (.ref q) = .ref q ∧ fits (cTy ci k) (.ref q) = true) (kk : X G mi d kc nx lv rest (Su S a (kO ci (va_up r k (some q)))) μ Q) : X G mi d kc pc lv (.ref q :: .ref a :: rest) S μ Q := by
  intro p l e R s m args below meth c mc Z C hZ H locs cells slots ls hR hk hl
  obtain ⟨hd, rfl⟩ := hd
  obtain ⟨hci, hkN, hlk⟩ := hf
  obtain ⟨hga, ce, q1, q2, q3, q4⟩ := hR.at hb
  have hts := C.2.2.2.2.2.1
  obtain ⟨hS, hfc, kC, hkC, hkind⟩ := u_Kn_moved C.2.2.2.2.2.2.2.2.2.1.alike (C.2.2.2.2.2.2.2.2.2.2.1 ci hci)
  obtain ⟨cf, kf, fi, f, hi2, hsl⟩ := hS k hkN
  have hap := cls_apart hci hts ⟨hS, hfc, kC, hkC, hkind⟩
  have hlay := hts _ (cls_gd hci _ (u_in_lay hkN))
  unfold u_lay at hlay
  have hst := (u_facts hfc hkC (u_lays hts (cls_gd hci) hkN) hi2).1
  rw [if_neg (by rw [hfin]; decide)] at hlay
  have h6 := u_store hfc hkC hkind hlay hi2 (cls_ty ci hci k hkN) hnf.1 hnf.2
  refine W.putK C.1 C.2.1 (f := f) ⟨C.2.2.2.2.1, hts _ hlk, ⟨_, _, _, hi2⟩, hst⟩ (by rw [q2]; exact h6) q1 q3 (by rw [hsl]; exact k2_hasslot (q4 k hkN)) rfl rfl hd fun H1 e1 e2 e3 => ?_
  rw [hsl] at e1
  refine kk p l e R s m args below meth c mc Z C hZ H1 _ cells slots ls (hR.put rfl hga (hR.lt hb) e2 e3 (fun q hq => ?_) ?_) hk hl
  · exact ⟨if_neg hq, rfl⟩
  · rw [show (Su S a _).2 a = _ from if_pos rfl]
    exact ⟨hga, t_OB.to ⟨_, e1, q2, q3, t_set q4 hap hkN _⟩ (fun j _ => fV_ref hi (some q) j)⟩
theorem X_putN {a ci k idx : Nat} {r : Nat → Option Nat} (hd : Dc mi.2.1 pc (.putfield idx) 3 nx) (hf : FL mi.1.cls idx ci k) (hb : S.2 a = some (kO ci r)) (hi : fI ci k = false) (hfin : (cT ci k).2.2.2 = false) (hnf : narrow (cTy ci k) (.null) = .null ∧ fits (cTy ci k) (.null) = true) (kk : X G mi d kc nx lv rest (Su S a (kO ci (va_up r k none))) μ Q) : X G mi d kc pc lv (.null :: .ref a :: rest) S μ Q := by
  intro p l e R s m args below meth c mc Z C hZ H locs cells slots ls hR hk hl
  obtain ⟨hd, rfl⟩ := hd
  obtain ⟨hci, hkN, hlk⟩ := hf
  obtain ⟨hga, ce, q1, q2, q3, q4⟩ := hR.at hb
  have hts := C.2.2.2.2.2.1
  obtain ⟨hS, hfc, kC, hkC, hkind⟩ := u_Kn_moved C.2.2.2.2.2.2.2.2.2.1.alike (C.2.2.2.2.2.2.2.2.2.2.1 ci hci)
  obtain ⟨cf, kf, fi, f, hi2, hsl⟩ := hS k hkN
  have hap := cls_apart hci hts ⟨hS, hfc, kC, hkC, hkind⟩
  have hlay := hts _ (cls_gd hci _ (u_in_lay hkN))
  unfold u_lay at hlay
  have hst := (u_facts hfc hkC (u_lays hts (cls_gd hci) hkN) hi2).1
  rw [if_neg (by rw [hfin]; decide)] at hlay
  have h6 := u_store hfc hkC hkind hlay hi2 (cls_ty ci hci k hkN) hnf.1 hnf.2
  refine W.putK C.1 C.2.1 (f := f) ⟨C.2.2.2.2.1, hts _ hlk, ⟨_, _, _, hi2⟩, hst⟩ (by rw [q2]; exact h6) q1 q3 (by rw [hsl]; exact k2_hasslot (q4 k hkN)) rfl rfl hd fun H1 e1 e2 e3 => ?_
  rw [hsl] at e1
  refine kk p l e R s m args below meth c mc Z C hZ H1 _ cells slots ls (hR.put rfl hga (hR.lt hb) e2 e3 (fun q hq => ?_) ?_) hk hl
  · exact ⟨if_neg hq, rfl⟩
  · rw [show (Su S a _).2 a = _ from if_pos rfl]
    exact ⟨hga, t_OB.to ⟨_, e1, q2, q3, t_set q4 hap hkN _⟩ (fun j _ => fV_ref hi none j)⟩
theorem X_putRF {a ci k idx : Nat} {r : Nat → Option Nat} {q : Nat} (hd : Dc mi.2.1 pc (.putfield idx) 3 nx) (hf : FL mi.1.cls idx ci k) (hb : S.2 a = some (kO ci r)) (hi : fI ci k = false) (hfin : (cT ci k).2.2.2 = true) (hin2 : mi.1.name = "<init>") (hdecl : (cT ci k).1 = mi.1.cls) (hnf : narrow (cTy ci k) (.ref q) = .ref q ∧ fits (cTy ci k) (.ref q) = true) (kk : X G mi d kc nx lv rest (Su S a (kO ci (va_up r k (some q)))) μ Q) : X G mi d kc pc lv (.ref q :: .ref a :: rest) S μ Q := by
  intro p l e R s m args below meth c mc Z C hZ H locs cells slots ls hR hk hl
  obtain ⟨hd, rfl⟩ := hd
  obtain ⟨hci, hkN, hlk⟩ := hf
  obtain ⟨hga, ce, q1, q2, q3, q4⟩ := hR.at hb
  have hts := C.2.2.2.2.2.1
  obtain ⟨hS, hfc, kC, hkC, hkind⟩ := u_Kn_moved C.2.2.2.2.2.2.2.2.2.1.alike (C.2.2.2.2.2.2.2.2.2.2.1 ci hci)
  obtain ⟨cf, kf, fi, f, hi2, hsl⟩ := hS k hkN
  have hap := cls_apart hci hts ⟨hS, hfc, kC, hkC, hkind⟩
  have hlay := hts _ (cls_gd hci _ (u_in_lay hkN))
  unfold u_lay at hlay
  have hst := (u_facts hfc hkC (u_lays hts (cls_gd hci) hkN) hi2).1
  rw [if_pos hfin] at hlay
  have hcf : m.cls = cf := by
    obtain ⟨_, _, c', _, _, _, -, -, hf', -, -, -, hown2, -⟩ := Cond.laysFinal_spec hlay
    have e1 : c' = cf := by have := hi2.symm.trans hf'; simp at this; exact this.1.symm
    rw [hdecl] at hown2
    rw [← e1]; exact Option.some.inj (C.2.2.2.2.1.symm.trans hown2)
  have h6 := u_fits hfc hkC hkind (Or.inr hlay) hi2 (cls_ty ci hci k hkN) hnf.1 hnf.2
  refine W.putFinK C.1 C.2.1 C.2.2.2.2.1 (hts _ hlk) hi2 hst hcf (C.2.2.2.2.2.2.2.1.trans hin2) (by rw [q2]; exact h6) q1 q3 (by rw [hsl]; exact k2_hasslot (q4 k hkN)) rfl rfl hd fun H1 e1 e2 e3 => ?_
  rw [hsl] at e1
  refine kk p l e R s m args below meth c mc Z C hZ H1 _ cells slots ls (hR.put rfl hga (hR.lt hb) e2 e3 (fun q hq => ?_) ?_) hk hl
  · exact ⟨if_neg hq, rfl⟩
  · rw [show (Su S a _).2 a = _ from if_pos rfl]
    exact ⟨hga, t_OB.to ⟨_, e1, q2, q3, t_set q4 hap hkN _⟩ (fun j _ => fV_ref hi (some q) j)⟩
theorem X_iald {a n : Nat} {i : Int32} (hd : Dc mi.2.1 pc .iaload 1 nx) (hb : S.2 a = some (kI n)) (hin : vp_in i n) (kk : X G mi d kc nx lv (.int (μ a i.toNatClampNeg) :: rest) S μ Q) : X G mi d kc pc lv (.int i :: .ref a :: rest) S μ Q := by
  intro p l e R s m args below meth c mc Z C hZ H locs cells slots ls hR hk hl
  obtain ⟨hd, rfl⟩ := hd
  obtain ⟨hga, cA, hA, q1⟩ := hR.at hb
  have hlt : i.toNatClampNeg < n := Nat.not_le.mp fun q => hin (Or.inr q)
  exact W.iald (v := .int (μ a i.toNatClampNeg)) C.1 C.2.1 q1 (arrOfT_moved C.2.2.2.2.2.2.2.2.2.1.alike hA n _) (fun q => by cases q) (by rw [arrV_size]; exact hin) (by rw [arrV_read _ _ hlt]) rfl rfl hd (kk p l e R s m args below meth c mc Z C hZ H locs cells slots ls hR hk hl)
theorem X_ialdC {a n : Nat} {i : Int32} (hd : Dc mi.2.1 pc .iaload 1 nx) (hb : S.2 a = some (kC n)) (hin : vp_in i n) (kk : X G mi d kc nx lv (.int (μ a i.toNatClampNeg) :: rest) S μ Q) : X G mi d kc pc lv (.int i :: .ref a :: rest) S μ Q := by
  intro p l e R s m args below meth c mc Z C hZ H locs cells slots ls hR hk hl
  obtain ⟨hd, rfl⟩ := hd
  obtain ⟨-, ce, q1, q2, q3, q4, q5, q6⟩ := hR.at hb
  have hlt : i.toNatClampNeg < n := Nat.not_le.mp fun q => hin (Or.inr q)
  exact W.iald (v := .int (μ a i.toNatClampNeg)) C.1 C.2.1 q1 (State.isArrayOf_alike C.2.2.2.2.2.2.2.2.2.1.alike q2) q3 (fun h => hin (h.elim Or.inl (fun z => Or.inr (Nat.le_trans q4 z)))) (q6 _ hlt) rfl rfl hd (kk p l e R s m args below meth c mc Z C hZ H locs cells slots ls hR hk hl)
theorem X_bald {a n : Nat} {i : Int32} (hd : Dc mi.2.1 pc .baload 1 nx) (hb : S.2 a = some (kB n)) (hin : vp_in i n) (kk : X G mi d kc nx lv (.int (μ a i.toNatClampNeg) :: rest) S μ Q) : X G mi d kc pc lv (.int i :: .ref a :: rest) S μ Q := by
  intro p l e R s m args below meth c mc Z C hZ H locs cells slots ls hR hk hl
  obtain ⟨hd, rfl⟩ := hd
  obtain ⟨-, ce, q1, q2, q3, q4, q5, q6⟩ := hR.at hb
  have hlt : i.toNatClampNeg < n := Nat.not_le.mp fun q => hin (Or.inr q)
  exact W.bald (v := .int (μ a i.toNatClampNeg)) C.1 C.2.1 q1 (State.isArrayOf_alike C.2.2.2.2.2.2.2.2.2.1.alike q2) q3 (fun h => hin (h.elim Or.inl (fun z => Or.inr (Nat.le_trans q4 z)))) (q6 _ hlt) rfl rfl hd (kk p l e R s m args below meth c mc Z C hZ H locs cells slots ls hR hk hl)
theorem X_alen {a n : Nat} (hd : Dc mi.2.1 pc .arraylength 1 nx) (hb : S.2 a = some (kI n)) (kk : X G mi d kc nx lv (.int (nI n) :: rest) S μ Q) : X G mi d kc pc lv (.ref a :: rest) S μ Q := by
  intro p l e R s m args below meth c mc Z C hZ H locs cells slots ls hR hk hl
  obtain ⟨hd, rfl⟩ := hd
  obtain ⟨hga, cA, hA, q1⟩ := hR.at hb
  exact W.alen (n := nI n) (ty := .int) C.1 C.2.1 q1 (arrOfT_moved C.2.2.2.2.2.2.2.2.2.1.alike hA n _) (by rw [arrV_size]; rfl) rfl rfl hd (kk p l e R s m args below meth c mc Z C hZ H locs cells slots ls hR hk hl)
theorem X_alenR {a j n : Nat} {r : Nat → Option Nat} (hd : Dc mi.2.1 pc .arraylength 1 nx) (hb : S.2 a = some (kR j n r)) (kk : X G mi d kc nx lv (.int (nI n) :: rest) S μ Q) : X G mi d kc pc lv (.ref a :: rest) S μ Q := by
  intro p l e R s m args below meth c mc Z C hZ H locs cells slots ls hR hk hl
  obtain ⟨hd, rfl⟩ := hd
  obtain ⟨hga, cA, hA, q1⟩ := hR.at hb
  exact W.alen (n := nI n) (ty := .object (rC j)) C.1 C.2.1 q1 (arrOfT_moved C.2.2.2.2.2.2.2.2.2.1.alike hA.1 n _) (by rw [arrV_size]; rfl) rfl rfl hd (kk p l e R s m args below meth c mc Z C hZ H locs cells slots ls hR hk hl)
theorem X_alenC {a n : Nat} (hd : Dc mi.2.1 pc .arraylength 1 nx) (hb : S.2 a = some (kC n)) (kk : X G mi d kc nx lv (.int (nI n) :: rest) S μ Q) : X G mi d kc pc lv (.ref a :: rest) S μ Q := by
  intro p l e R s m args below meth c mc Z C hZ H locs cells slots ls hR hk hl
  obtain ⟨hd, rfl⟩ := hd
  obtain ⟨-, ce, q1, q2, q3, q4, q5, q6⟩ := hR.at hb
  exact W.alen (n := nI n) (ty := .int) C.1 C.2.1 q1 (State.isArrayOf_alike C.2.2.2.2.2.2.2.2.2.1.alike q2) q5 rfl rfl hd (kk p l e R s m args below meth c mc Z C hZ H locs cells slots ls hR hk hl)
theorem X_alenB {a n : Nat} (hd : Dc mi.2.1 pc .arraylength 1 nx) (hb : S.2 a = some (kB n)) (kk : X G mi d kc nx lv (.int (nI n) :: rest) S μ Q) : X G mi d kc pc lv (.ref a :: rest) S μ Q := by
  intro p l e R s m args below meth c mc Z C hZ H locs cells slots ls hR hk hl
  obtain ⟨hd, rfl⟩ := hd
  obtain ⟨-, ce, q1, q2, q3, q4, q5, q6⟩ := hR.at hb
  exact W.alen (n := nI n) (ty := .byte) C.1 C.2.1 q1 (State.isArrayOf_alike C.2.2.2.2.2.2.2.2.2.1.alike q2) q5 rfl rfl hd (kk p l e R s m args below meth c mc Z C hZ H locs cells slots ls hR hk hl)
theorem X_iast {a n : Nat} {i x : Int32} (hd : Dc mi.2.1 pc .iastore 1 nx) (hb : S.2 a = some (kI n)) (hin : vp_in i n) (kk : X G mi d kc nx lv rest S (su μ a i.toNatClampNeg x) Q) : X G mi d kc pc lv (.int x :: .int i :: .ref a :: rest) S μ Q := by
  intro p l e R s m args below meth c mc Z C hZ H locs cells slots ls hR hk hl
  obtain ⟨hd, rfl⟩ := hd
  obtain ⟨hga, cA, hA, q1⟩ := hR.at hb
  refine W.iast C.1 C.2.1 q1 (arrOfT_moved C.2.2.2.2.2.2.2.2.2.1.alike hA n _) (fun q => by cases q) (by rw [arrV_size]; exact hin) rfl rfl hd fun H1 e1 e2 e3 => ?_
  refine kk p l e R s m args below meth c mc Z C hZ H1 _ cells slots ls (hR.put rfl hga (hR.lt hb) e2 e3 (fun q hq => ⟨rfl, su_ne hq⟩) ?_) hk hl
  rw [hb, su_same]
  refine ⟨hga, cA, hA, ?_⟩
  rw [e1, arrV_store]
  congr 2
  funext q
  by_cases hq : q = i.toNatClampNeg
  · subst hq; simp [updV, upd]
  · simp [updV, upd, hq]
theorem X_aald {a j n q : Nat} {r : Nat → Option Nat} {i : Int32} (hd : Dc mi.2.1 pc .aaload 1 nx) (hb : S.2 a = some (kR j n r)) (hin : vp_in i n) (hr : r i.toNatClampNeg = some q) (kk : X G mi d kc nx lv (.ref q :: rest) S μ Q) : X G mi d kc pc lv (.int i :: .ref a :: rest) S μ Q := by
  intro p l e R s m args below meth c mc Z C hZ H locs cells slots ls hR hk hl
  obtain ⟨hd, rfl⟩ := hd
  obtain ⟨hga, cA, hA, q1⟩ := hR.at hb
  have hlt : i.toNatClampNeg < n := Nat.not_le.mp fun q => hin (Or.inr q)
  exact W.aald (v := .ref q) (ty := .object (rC j)) C.1 C.2.1 q1 (arrOfT_moved C.2.2.2.2.2.2.2.2.2.1.alike hA.1 n _) rfl (fun q => by cases q) (by rw [arrV_size]; exact hin) (by rw [arrV_read _ _ hlt, hr]; rfl) rfl rfl hd (kk p l e R s m args below meth c mc Z C hZ H locs cells slots ls hR hk hl)
theorem X_aast {a j n v ci : Nat} {r rv : Nat → Option Nat} {i : Int32} (hd : Dc mi.2.1 pc .aastore 1 nx) (hb : S.2 a = some (kR j n r)) (hin : vp_in i n) (hv : S.2 v = some (kO ci rv)) (hci : ci < 11) (hj : cN ci = rC j) (kk : X G mi d kc nx lv rest (Su S a (kR j n (va_up r i.toNatClampNeg (some v)))) μ Q) : X G mi d kc pc lv (.ref v :: .int i :: .ref a :: rest) S μ Q := by
  intro p l e R s m args below meth c mc Z C hZ H locs cells slots ls hR hk hl
  obtain ⟨hd, rfl⟩ := hd
  obtain ⟨hga, cA, hA, q1⟩ := hR.at hb
  have hal := C.2.2.2.2.2.2.2.2.2.1.alike
  have hlt : i.toNatClampNeg < n := Nat.not_le.mp fun q => hin (Or.inr q)
  have h0 : ¬ i < 0 := fun q => hin (Or.inl q)
  obtain ⟨-, cv, g1, g2, g3, -⟩ := hR.at hv
  have hcls := (u_Kn_moved hal (C.2.2.2.2.2.2.2.2.2.2.1 ci hci)).2
  obtain ⟨kA, comp, k1, k2, k3, -⟩ := hA.2.moved hal
  rw [← hj] at k3
  have hcomp : comp = G.2.1 ci := Option.some.inj (k3.symm.trans hcls.1)
  subst hcomp
  obtain ⟨kC, hkC, -⟩ := hcls.2
  refine W.aast C.1 C.2.1 q1 (fun q h => by cases h) (fun h => by cases h) k1 k2 rfl hkC ⟨h0, by rw [arrV_size]; exact hlt⟩ g1 (fun q h => by rw [g3] at h; cases h) (by rw [g2]; exact hkC) (by rw [g2]; exact va_assign hcls) rfl rfl hd fun H1 e1 e2 e3 => ?_
  refine kk p l e R s m args below meth c mc Z C hZ H1 _ cells slots ls (hR.put rfl hga (hR.lt hb) e2 e3 (fun q hq => ⟨if_neg hq, rfl⟩) ?_) hk hl
  rw [show (Su S a _).2 a = _ from if_pos rfl]
  refine ⟨hga, cA, hA, ?_⟩
  rw [e1, arrV_store]
  congr 2
  funext q
  by_cases hq : q = i.toNatClampNeg
  · subst hq; simp [updV, va_up, va_rf]
  · simp [updV, va_up, hq]
theorem X_aastT {a j n v t : Nat} {r : Nat → Option Nat} {i : Int32} (hd : Dc mi.2.1 pc .aastore 1 nx) (hb : S.2 a = some (kR j n r)) (hin : vp_in i n) (hv : S.2 v = some (kT t)) (hj : rC j = "java/lang/String") (kk : X G mi d kc nx lv rest (Su S a (kR j n (va_up r i.toNatClampNeg (some v)))) μ Q) : X G mi d kc pc lv (.ref v :: .int i :: .ref a :: rest) S μ Q := by
  intro p l e R s m args below meth c mc Z C hZ H locs cells slots ls hR hk hl
  obtain ⟨hd, rfl⟩ := hd
  obtain ⟨hga, cA, hA, q1⟩ := hR.at hb
  have hal := C.2.2.2.2.2.2.2.2.2.1.alike
  have hlt : i.toNatClampNeg < n := Nat.not_le.mp fun q => hin (Or.inr q)
  have h0 : ¬ i < 0 := fun q => hin (Or.inl q)
  obtain ⟨-, -, cv, g1, g2, g3, -⟩ := hR.at hv
  obtain ⟨kA, comp, k1, k2, k3, -⟩ := hA.2.moved hal
  rw [hj] at k3
  obtain ⟨kE, hkE, -⟩ := Vm.findClass_spec k3
  have hcc : cv.cls = comp := by
    rw [← hal.findClass] at g3
    exact Option.some.inj (g3.symm.trans k3)
  refine W.aast C.1 C.2.1 q1 (fun q h => by cases h) (fun h => by cases h) k1 k2 rfl hkE ⟨h0, by rw [arrV_size]; exact hlt⟩ g1 (fun q h => by rw [h] at g2; cases g2) (by rw [hcc]; exact hkE) (by rw [hcc]; exact va_asg _ _) rfl rfl hd fun H1 e1 e2 e3 => ?_
  refine kk p l e R s m args below meth c mc Z C hZ H1 _ cells slots ls (hR.put rfl hga (hR.lt hb) e2 e3 (fun q hq => ⟨if_neg hq, rfl⟩) ?_) hk hl
  rw [show (Su S a _).2 a = _ from if_pos rfl]
  refine ⟨hga, cA, hA, ?_⟩
  rw [e1, arrV_store]
  congr 2
  funext q
  by_cases hq : q = i.toNatClampNeg
  · subst hq; simp [updV, va_up, va_rf]
  · simp [updV, va_up, hq]
theorem X_newI {n : Int32} {N : Nat} (hd : Dc mi.2.1 pc (.newarray .int) 2 nx) (hn : ¬ n < 0) (hN : n.toNatClampNeg = N) (hN4 : N ≤ 400) (kk : X G mi d kc nx lv (.ref S.1 :: rest) (Sx S (kI N)) (Mx μ S.1 (fun _ => 0)) Q) : X G mi d (kc + 1) pc lv (.int n :: rest) S μ Q := by
  intro p l e R s m args below meth c mc Z C hZ H locs cells slots ls hR hk hl
  obtain ⟨hd, rfl⟩ := hd
  have hroom := C.2.2.2.2.2.2.2.2.1
  refine va_newaK C.1 C.2.1 (atype := .int) (C.2.2.2.2.2.1 (.arrayClass .int) (gd (wk 61 (by decide +kernel)) rfl)) rfl hd rfl hn hN (by show N * 4 ≤ _; omega) (by omega) (by omega) hR.2.1 fun H1 cA e1 e2 e3 hA _ => ?_
  refine W.widen (k := cells + 1) (n := slots + 400) (by omega) (by omega) ?_
  exact kk p l e R s m args below meth c mc Z C hZ H1 locs (cells + 1) (slots + 400) ls (hR.push e2 (fun q hq => e3 q hq) ⟨by have := hR.1; have := hR.2.1; omega, cA, fun n z => State.isArrayOf_alike C.2.2.2.2.2.2.2.2.2.1.alike.symm (hA n z), e1⟩) (by omega) hl
theorem X_newO {ci idx : Nat} (hd : Dc mi.2.1 pc (.new idx) 3 nx) (hci : ci < 11) (h1 : Cond.classLink mi.1.cls idx (cN ci) ∈ lw_gd) (h2 : Cond.instantiable (cN ci) (fN ci) ∈ lw_gd) (h3 : Cond.initialized (cN ci) ∈ lw_gd) (hdf : ∀ j, j < fN ci → defaultValue (cTy ci j) = fV ci (fun _ => none) (fun _ => 0) j) (kk : X G mi d kc nx lv (.ref S.1 :: rest) (Sx S (kO ci (fun _ => none))) (Mx μ S.1 (fun _ => 0)) Q) : X G mi d (kc + 1) pc lv rest S μ Q := by
  intro p l e R s m args below meth c mc Z C hZ H locs cells slots ls hR hk hl
  obtain ⟨hd, rfl⟩ := hd
  have hroom := C.2.2.2.2.2.2.2.2.1
  have hts := C.2.2.2.2.2.1
  have hf4 : fN ci ≤ 400 := by unfold fN; split <;> decide
  have hKn := u_Kn_moved C.2.2.2.2.2.2.2.2.2.1.alike (C.2.2.2.2.2.2.2.2.2.2.1 ci hci)
  refine W.newcK C.1 C.2.1 C.2.2.2.2.1 (hts _ h1) (hts _ h2) (hts _ h3) rfl hd (by omega) (by omega) hKn.2.1 hR.2.1 fun H1 kC hkC e1 e2 e3 => ?_
  refine W.widen (k := cells + 1) (n := slots + 400) (by omega) (by omega) ?_
  exact kk p l e R s m args below meth c mc Z C hZ H1 locs (cells + 1) (slots + 400) ls (hR.push e2 (fun q hq => e3 q hq) ⟨by have := hR.1; have := hR.2.1; omega, (u_born (cTy ci) hts (cls_gd hci) hKn hkC e1 (cls_ty ci hci)).to hdf⟩) (by omega) hl
theorem X_newR {j idx : Nat} {n : Int32} {N : Nat} (hd : Dc mi.2.1 pc (.anewarray idx) 3 nx) (hj : j < 3) (h1 : Cond.classLink mi.1.cls idx (rC j) ∈ lw_gd) (hn : ¬ n < 0) (hN : n.toNatClampNeg = N) (hN4 : N ≤ 400) (kk : X G mi d kc nx lv (.ref S.1 :: rest) (Sx S (kR j N (fun _ => none))) (Mx μ S.1 (fun _ => 0)) Q) : X G mi d (kc + 1) pc lv (.int n :: rest) S μ Q := by
  intro p l e R s m args below meth c mc Z C hZ H locs cells slots ls hR hk hl
  obtain ⟨hd, rfl⟩ := hd
  have hroom := C.2.2.2.2.2.2.2.2.1
  have hts := C.2.2.2.2.2.1
  have hal := C.2.2.2.2.2.2.2.2.2.1.alike
  have hAO : va_AO (rC j) s := va_AO.moved hal (C.2.2.2.2.2.2.2.2.2.2.2.2.2.1 j hj)
  subst hN
  have hsz := hR.2.1
  refine W.anew C.1 C.2.1 C.2.2.2.2.1 (hts _ h1) (va_AO.use hAO) rfl hd rfl hn (by omega) (by omega) (by omega) fun cA kA comp f1 f2 f3 f4 => ?_
  rw [hsz]
  generalize hH1 : H.push ({ cls := cA, slots := Array.replicate n.toNatClampNeg .null, vm := .none } : Cell) = H1
  have z1 : H1.size = S.1 + 1 := by rw [← hH1, Array.size_push, hsz]
  have e1 : H1[S.1]? = some (arrV cA n.toNatClampNeg (fun _ => .null)) := by rw [← hH1, ← hsz, Array.getElem?_push_size, ← arrV_new]
  have o1 : ∀ q : Nat, q < S.1 → H1[q]? = H[q]? := fun q hq => by rw [← hH1, Array.getElem?_push, if_neg (by omega)]
  have hAr : ArrOfT s cA (.object (rC j)) := fun N z => ⟨(fun k h => by cases h), kA, f2, comp, f3⟩
  have hRA : va_RA s cA (.object (rC j)) := ⟨kA, comp, f2, f3, f4, f1⟩
  refine W.widen (k := cells + 1) (n := slots + 400) (by omega) (by omega) ?_
  exact kk p l e R s m args below meth c mc Z C hZ H1 locs (cells + 1) (slots + 400) ls (hR.push z1 o1 ⟨by have := hR.1; omega, cA, ⟨fun n z => State.isArrayOf_alike hal.symm (hAr n z), hRA.moved hal.symm⟩, e1⟩) (by omega) hl
theorem X_objInit {a idx : Nat} (hd : Dc mi.2.1 pc (.invokespecial idx) 3 nx) (h1 : Cond.methodLink mi.1.cls idx Lib.objectInit ∈ lw_gd) (hr : (rest.map fun v => v.category).sum ≤ 8) (kk : X G mi (d + 1) kc nx lv rest S μ Q) : X G mi (d + 1) kc pc lv (.ref a :: rest) S μ Q := by
  intro p l e R s m args below meth c mc Z C hZ H locs cells slots ls hR hk hl
  obtain ⟨hd, rfl⟩ := hd
  have hroom := C.2.2.2.2.2.2.2.2.1
  have hts := C.2.2.2.2.2.1
  exact W.objInit C.1 C.2.1 C.2.2.2.2.1 (hts _ h1) (hts (.instanceMethod Lib.objectInit) (gd (wk 27 (by decide +kernel)) rfl)) (hts (.code Lib.objectInit ⟨#[0xb1]⟩ 1 none) (gd (wk 28 (by decide +kernel)) rfl)) rfl (hl.1.trans C.2.2.2.1.symm) rfl hd (by omega) (by have := lv_room (m := m) (pc := pc) (ls := ls) (rest := .ref a :: rest) hr; omega) (kk p l e R s m args below meth c mc Z C hZ H locs cells slots ls hR hk hl)
theorem X_gets {j idx : Nat} (hd : Dc mi.2.1 pc (.getstatic idx) 3 nx) (hj : j < 8) (h1 : Cond.fieldLink mi.1.cls idx "RopesAtDawn" (sN j) "[I" ∈ lw_gd) (kk : X G mi d kc nx lv (.ref (G.2.2.2 j) :: rest) S μ Q) : X G mi d kc pc lv rest S μ Q := by
  intro p l e R s m args below meth c mc Z C hZ H locs cells slots ls hR hk hl
  obtain ⟨hd, rfl⟩ := hd
  obtain ⟨cf, kf, fi, f, a, ce, h1', h2, h3, h4, h5, h6, h7, h8⟩ := va_Z.moved C.2.2.2.2.2.2.2.2.2.1.alike (C.2.2.2.2.2.2.2.2.2.2.2.1 j hj)
  exact W.gets C.1 C.2.1 C.2.2.2.2.1 (C.2.2.2.2.2.1 _ h1) h1' h2 h3 h4 (by rw [hR.2.2.2.2.1 a (Nat.not_le.mp h8)]; exact h5) (fun e => by rw [e] at h6; cases h6) h7 rfl hd (kk p l e R s m args below meth c mc Z C hZ H locs cells slots ls hR hk hl)
theorem X_getsN {j idx : Nat} (hd : Dc mi.2.1 pc (.getstatic idx) 3 nx) (hj : j < 8) (h1 : Cond.fieldLinkNest mi.1.cls idx "RopesAtDawn" (sN j) "[I" "RopesAtDawn" ∈ gN) (kk : X G mi d kc nx lv (.ref (G.2.2.2 j) :: rest) S μ Q) : X G mi d kc pc lv rest S μ Q := by
  intro p l e R s m args below meth c mc Z C hZ H locs cells slots ls hR hk hl
  obtain ⟨hd, rfl⟩ := hd
  obtain ⟨cf, kf, fi, f, a, ce, h1', h2, h3, h4, h5, h6, h7, h8⟩ := va_Z.moved C.2.2.2.2.2.2.2.2.2.1.alike (C.2.2.2.2.2.2.2.2.2.2.2.1 j hj)
  exact va_WgetsN C.1 C.2.1 C.2.2.2.2.1 (va_Nw.use rfl (va_Nw.warmF C.2.2.2.2.2.2.2.2.2.1 (C.2.2.2.2.2.2.2.2.2.2.2.2.1 _ h1))) h1' h2 h3 h4 (by rw [hR.2.2.2.2.1 a (Nat.not_le.mp h8)]; exact h5) (fun e => by rw [e] at h6; cases h6) h7 rfl hd (kk p l e R s m args below meth c mc Z C hZ H locs cells slots ls hR hk hl)
theorem X_getsZ {idx : Nat} (hd : Dc mi.2.1 pc (.getstatic idx) 3 nx) (h1 : Cond.fieldLink mi.1.cls idx "java/lang/String" "COMPACT_STRINGS" "Z" ∈ lw_gd) (kk : X G mi d kc nx lv (.int 1 :: rest) S μ Q) : X G mi d kc pc lv rest S μ Q := by
  intro p l e R s m args below meth c mc Z C hZ H locs cells slots ls hR hk hl
  obtain ⟨hd, rfl⟩ := hd
  obtain ⟨cf, kf, fi, f, a, ce, h1', h2, h3, h4, h5, h6, h7, h8⟩ := va_Z.moved C.2.2.2.2.2.2.2.2.2.1.alike (C.2.2.2.2.2.2.2.2.2.2.2.2.2.2.1)
  exact W.gets C.1 C.2.1 C.2.2.2.2.1 (C.2.2.2.2.2.1 _ h1) h1' h2 h3 h4 (by rw [hR.2.2.2.2.1 a (Nat.not_le.mp h8)]; exact h5) (fun e => by rw [e] at h6; cases h6) h7 rfl hd (kk p l e R s m args below meth c mc Z C hZ H locs cells slots ls hR hk hl)
theorem X_ldcS {idx q : Nat} {tx : String} (hd : Dc mi.2.1 pc (.ldc idx) 2 nx) (h1 : Gok G → vk_R mi.1.cls idx tx q G.1) (kk : X G mi d kc nx lv (.ref q :: rest) S μ Q) : X G mi d kc pc lv rest S μ Q := by
  intro p l e R s m args below meth c mc Z C hZ H locs cells slots ls hR hk hl
  obtain ⟨hd, rfl⟩ := hd
  exact va_ldcS C.1 C.2.1 C.2.2.2.2.1 ((h1 C.2.2.2.2.2.2.2.2.2.2).warm C.2.2.2.2.2.2.2.2.2.1) hd (kk p l e R s m args below meth c mc Z C hZ H locs cells slots ls hR hk hl)
theorem X_getT {a t idx : Nat} (hd : Dc mi.2.1 pc (.getfield idx) 3 nx) (h1 : Cond.fieldLink mi.1.cls idx "java/lang/String" "value" "[B" ∈ lw_gd) (hb : S.2 a = some (kT t)) (kk : X G mi d kc nx lv (.ref (G.2.2.2 (t + 20)) :: rest) S μ Q) : X G mi d kc pc lv (.ref a :: rest) S μ Q := by
  intro p l e R s m args below meth c mc Z C hZ H locs cells slots ls hR hk hl
  obtain ⟨hd, rfl⟩ := hd
  obtain ⟨h, -, -⟩ := hR.at hb
  obtain ⟨cf, k, fi, f, ce, h1', h2, h3, h4, h5, h6⟩ := va_OF.moved C.2.2.2.2.2.2.2.2.2.1.alike h
  exact W.getf C.1 C.2.1 C.2.2.2.2.1 (C.2.2.2.2.2.1 _ h1) h1' h2 h3 h4 h5 rfl rfl hd (kk p l e R s m args below meth c mc Z C hZ H locs cells slots ls hR hk hl)
theorem X_getTc {a t idx : Nat} (hd : Dc mi.2.1 pc (.getfield idx) 3 nx) (h1 : Cond.fieldLink mi.1.cls idx "java/lang/String" "coder" "B" ∈ lw_gd) (hb : S.2 a = some (kT t)) (kk : X G mi d kc nx lv (.int 0 :: rest) S μ Q) : X G mi d kc pc lv (.ref a :: rest) S μ Q := by
  intro p l e R s m args below meth c mc Z C hZ H locs cells slots ls hR hk hl
  obtain ⟨hd, rfl⟩ := hd
  obtain ⟨-, h, -⟩ := hR.at hb
  obtain ⟨cf, k, fi, f, ce, h1', h2, h3, h4, h5, h6⟩ := va_OF.moved C.2.2.2.2.2.2.2.2.2.1.alike h
  exact W.getf C.1 C.2.1 C.2.2.2.2.1 (C.2.2.2.2.2.1 _ h1) h1' h2 h3 h4 h5 rfl rfl hd (kk p l e R s m args below meth c mc Z C hZ H locs cells slots ls hR hk hl)
end
