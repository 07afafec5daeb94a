def XH (G : Gl) (mi : MI) (d kc pc : Nat) (lv : List (Nat × Value)) (st : List Value) (S : Sh) (μ : Mu) (Ph : Heap → Prop) (Q : Option Value → Sh → Mu → Prop) : Prop :=
  ∀ (p : Program) (l : Launch) (e : Env) (R : Room) (s : State) (m : MethodId) (args : Array Value) (below : List Frame) (meth : Method) (c : Code) (mc : Nat) (Z : State → Prop), Cx G mi d mc p R s m args meth c → Rt G mi mc p l e R s m args below meth c Z Q →
    ∀ (H : Heap) (locs : List Loc) (cells slots : Nat) (ls : Array Slot), Ph H → Rp G S μ H locs → cells + kc ≤ mc ∧ slots + 400 * kc ≤ 400 * mc → lv_has ls mi.2.2.1 lv → W p l e R s m args below meth c H locs cells slots Z (F0 m pc ls st)
/-- a cell of a given kind stands at o -/
def Ho (G : Gl) (o ci : Nat) (H : Heap) : Prop := ∃ ce : Cell, H[o]? = some ce ∧ ce.cls = G.2.1 ci ∧ ce.vm.isStatics = false
/-- the script -/
def Scr (G : Gl) (b L : Nat) (xs : Nat → Int32) : Prop := va_X b L xs G.1 G.1.heap ∧ b < gb G
theorem met_fr {l : Launch} {y : MethodName} {ws : List Cond} {rm : Room} {Pc : Array Value → State → Prop} {Qc : Array Value → State → Outcome → State → Prop} {mc ms : Nat} {free : Addr → Prop} (h : Met l y ws rm Pc Qc mc ms free) : Met l y ws rm Pc (fun a st o t => Qc a st o t ∧ ∀ (q : Nat) (ce : Cell), st.heap[q]? = some ce → ∃ c' : Cell, t.heap[q]? = some c' ∧ c'.cls = ce.cls ∧ c'.vm = ce.vm) mc ms free := by
  intro p e ha hc hk s m args below hf happ hP hK
  obtain ⟨n, o, h1, h2, h3, hQ, L, hF, hL⟩ := h p e ha hc hk s m args below hf happ hP hK
  refine ⟨n, o, h1, h2, h3, ⟨hQ, fun q ce hce => ?_⟩, L, hF, hL⟩
  obtain ⟨c', e1, e2, -, -⟩ := hF.2.2.2.2.2.2.2 q ce hce
  exact ⟨c', e1, by rw [e2], by rw [e2]⟩
section
variable {G : Gl} {mi mj : MI} {d kc kd n pc nx idx : Nat} {lv lv' : List (Nat × Value)} {st rest As : List Value} {S : Sh} {μ : Mu} {Ph : Heap → Prop} {Q Q' : Option Value → Sh → Mu → Prop}
theorem X_ofH (k : XH G mi d kc pc lv st S μ (fun _ => True) Q) : X G mi d kc pc lv st S μ Q := fun p l e R s m args below meth c mc Z C hZ H locs cells slots ls hR hk hl => k p l e R s m args below meth c mc Z C hZ H locs cells slots ls trivial hR hk hl
theorem XH_of (k : X G mi d kc pc lv st S μ Q) : XH G mi d kc pc lv st S μ Ph Q := fun p l e R s m args below meth c mc Z C hZ H locs cells slots ls _ hR hk hl => k p l e R s m args below meth c mc Z C hZ H locs cells slots ls hR hk hl
theorem XH_iconst {n : Int} {v : Int32} (hd : Dc mi.2.1 pc (.iconst n) 1 nx) (hv : Int32.ofInt n = v) (k : XH G mi d kc nx lv (.int v :: rest) S μ Ph Q) : XH G mi d kc pc lv (rest) S μ Ph Q := by
  intro p l e R s m args below meth c mc Z C hZ H locs cells slots ls hp hR hk hl
  obtain ⟨hd, rfl⟩ := hd
  exact lv_iconst C.1 C.2.1 hd hv (k p l e R s m args below meth c mc Z C hZ H locs cells slots ls hp hR hk hl)
theorem XH_bipush {n : Int} {v : Int32} (hd : Dc mi.2.1 pc (.bipush n) 2 nx) (hv : (Int8.ofInt n).toInt32 = v) (k : XH G mi d kc nx lv (.int v :: rest) S μ Ph Q) : XH G mi d kc pc lv (rest) S μ Ph Q := by
  intro p l e R s m args below meth c mc Z C hZ H locs cells slots ls hp hR hk hl
  obtain ⟨hd, rfl⟩ := hd
  exact lv_bipush C.1 C.2.1 hd hv (k p l e R s m args below meth c mc Z C hZ H locs cells slots ls hp hR hk hl)
theorem XH_ldc2 {v : Int64} {i : Nat} (hd : Dc mi.2.1 pc (.ldc2_w i) 3 nx) (hw : Cond.constantLong mi.1.cls i v ∈ lw_gd) (k : XH G mi d kc nx lv (.long v :: rest) S μ Ph Q) : XH G mi d kc pc lv (rest) S μ Ph Q := by
  intro p l e R s m args below meth c mc Z C hZ H locs cells slots ls hp hR hk hl
  obtain ⟨hd, rfl⟩ := hd
  exact lv_ldc2 C.1 C.2.1 C.2.2.2.2.1 (C.2.2.2.2.2.1 _ hw) hd (k p l e R s m args below meth c mc Z C hZ H locs cells slots ls hp hR hk hl)
theorem XH_iload_n {n : Fin 4} {x : Int32} (hd : Dc mi.2.1 pc (.iload_n n) 1 nx) (hv : lget lv n = some (.int x)) (k : XH G mi d kc nx lv (.int x :: rest) S μ Ph Q) : XH G mi d kc pc lv (rest) S μ Ph Q := by
  intro p l e R s m args below meth c mc Z C hZ H locs cells slots ls hp hR hk hl
  obtain ⟨hd, rfl⟩ := hd
  exact lv_iload_n C.1 C.2.1 hd rfl (hl.2.2 _ (lget_mem hv)) (k p l e R s m args below meth c mc Z C hZ H locs cells slots ls hp hR hk hl)
theorem XH_aload_n {n : Fin 4} {x : Nat} (hd : Dc mi.2.1 pc (.aload_n n) 1 nx) (hv : lget lv n = some (.ref x)) (k : XH G mi d kc nx lv (.ref x :: rest) S μ Ph Q) : XH G mi d kc pc lv (rest) S μ Ph Q := by
  intro p l e R s m args below meth c mc Z C hZ H locs cells slots ls hp hR hk hl
  obtain ⟨hd, rfl⟩ := hd
  exact lv_aload_n C.1 C.2.1 hd rfl (hl.2.2 _ (lget_mem hv)) (k p l e R s m args below meth c mc Z C hZ H locs cells slots ls hp hR hk hl)
theorem XH_iadd {x y : Int32} (hd : Dc mi.2.1 pc (.iadd) 1 nx) (k : XH G mi d kc nx lv (.int (x + y) :: rest) S μ Ph Q) : XH G mi d kc pc lv (.int y :: .int x :: rest) S μ Ph Q := by
  intro p l e R s m args below meth c mc Z C hZ H locs cells slots ls hp hR hk hl
  obtain ⟨hd, rfl⟩ := hd
  exact lv_iadd C.1 C.2.1 hd (k p l e R s m args below meth c mc Z C hZ H locs cells slots ls hp hR hk hl)
theorem XH_i2l {x : Int32} (hd : Dc mi.2.1 pc (.i2l) 1 nx) (k : XH G mi d kc nx lv (.long (x.toInt64) :: rest) S μ Ph Q) : XH G mi d kc pc lv (.int x :: rest) S μ Ph Q := by
  intro p l e R s m args below meth c mc Z C hZ H locs cells slots ls hp hR hk hl
  obtain ⟨hd, rfl⟩ := hd
  exact lv_i2l C.1 C.2.1 hd rfl (k p l e R s m args below meth c mc Z C hZ H locs cells slots ls hp hR hk hl)
theorem XH_lshl {x : Int64} {y : Int32} (hd : Dc mi.2.1 pc (.lshl) 1 nx) (k : XH G mi d kc nx lv (.long (x <<< (y.toInt64 &&& 63)) :: rest) S μ Ph Q) : XH G mi d kc pc lv (.int y :: .long x :: rest) S μ Ph Q := by
  intro p l e R s m args below meth c mc Z C hZ H locs cells slots ls hp hR hk hl
  obtain ⟨hd, rfl⟩ := hd
  exact lv_lshl C.1 C.2.1 hd rfl (k p l e R s m args below meth c mc Z C hZ H locs cells slots ls hp hR hk hl)
theorem XH_land {x y : Int64} (hd : Dc mi.2.1 pc (.land) 1 nx) (k : XH G mi d kc nx lv (.long (x &&& y) :: rest) S μ Ph Q) : XH G mi d kc pc lv (.long y :: .long x :: rest) S μ Ph Q := by
  intro p l e R s m args below meth c mc Z C hZ H locs cells slots ls hp hR hk hl
  obtain ⟨hd, rfl⟩ := hd
  exact lv_land C.1 C.2.1 hd (k p l e R s m args below meth c mc Z C hZ H locs cells slots ls hp hR hk hl)
theorem XH_lor {x y : Int64} (hd : Dc mi.2.1 pc (.lor) 1 nx) (k : XH G mi d kc nx lv (.long (x ||| y) :: rest) S μ Ph Q) : XH G mi d kc pc lv (.long y :: .long x :: rest) S μ Ph Q := by
  intro p l e R s m args below meth c mc Z C hZ H locs cells slots ls hp hR hk hl
  obtain ⟨hd, rfl⟩ := hd
  exact lv_lor C.1 C.2.1 hd (k p l e R s m args below meth c mc Z C hZ H locs cells slots ls hp hR hk hl)
theorem XH_scr {b L k : Nat} {xs : Nat → Int32} {i : Int32} (hd : Dc mi.2.1 pc .iaload 1 nx) (hs : Scr G b L xs) (hi : i = nI k) (hkL : k < L) (hL : L ≤ 384) (kk : XH G mi d kc nx lv (.int (xs k) :: rest) S μ Ph Q) : XH G mi d kc pc lv (.int i :: .ref b :: rest) S μ Ph Q := by
  subst hi
  intro p l e R s m args below meth c mc Z C hZ H locs cells slots ls hp hR hk hl
  obtain ⟨hd, rfl⟩ := hd
  obtain ⟨⟨ce, q1, q2, q3, q4, q6⟩, hb⟩ := hs
  have ek : (nI k).toNatClampNeg = k := nv_nI (by omega)
  have hin : vp_in (nI k) L := vp_in_nI hkL (by omega)
  exact W.iald (v := .int (xs k)) C.1 C.2.1 ((hR.2.2.2.2.1 b hb).trans q1) (State.isArrayOf_alike C.2.2.2.2.2.2.2.2.2.1.alike q2) q3 (by rw [q4]; exact hin) (by rw [ek]; exact q6 k hkL) rfl rfl hd (kk p l e R s m args below meth c mc Z C hZ H locs cells slots ls hp hR hk hl)
theorem X_lenS {b L : Nat} {xs : Nat → Int32} (hd : Dc mi.2.1 pc .arraylength 1 nx) (hs : Scr G b L xs) (kk : X G mi d kc nx lv (.int (nI L) :: rest) S μ Q) : X G mi d kc pc lv (.ref b :: rest) S μ Q := by
  intro p l e R s m args below meth c mc Z C hZ H locs cells slots ls hR hk hl
  obtain ⟨hd, rfl⟩ := hd
  obtain ⟨⟨ce, q1, q2, q3, q4, q6⟩, hb⟩ := hs
  exact W.alen (n := nI L) (ty := .int) C.1 C.2.1 ((hR.2.2.2.2.1 b hb).trans q1) (State.isArrayOf_alike C.2.2.2.2.2.2.2.2.2.1.alike q2) (by rw [q4]; rfl) rfl rfl hd (kk p l e R s m args below meth c mc Z C hZ H locs cells slots ls hR hk hl)
/-- a cell of the script onto the stack -/
theorem XH_arg {b L i k p1 p2 p3 p4 : Nat} {xs : Nat → Int32} {kz : Int} (t1 : Dc mi.2.1 pc (.aload_n 0) 1 p1) (t2 : Dc mi.2.1 p1 (.iload_n 3) 1 p2) (t3 : Dc mi.2.1 p2 (.iconst kz) 1 p3) (t4 : Dc mi.2.1 p3 .iadd 1 p4) (t5 : Dc mi.2.1 p4 .iaload 1 nx) (hkz : Int32.ofInt kz = nI k) (hs : Scr G b L xs) (h0 : lget lv 0 = some (.ref b)) (h3 : lget lv 3 = some (.int (nI i))) (hb : i + k < L) (hL : L ≤ 384) (kk : XH G mi d kc nx lv (.int (xs (i + k)) :: rest) S μ Ph Q) : XH G mi d kc pc lv rest S μ Ph Q := by
  refine XH_aload_n t1 h0 ?_
  refine XH_iload_n t2 h3 ?_
  refine XH_iconst t3 hkz ?_
  refine XH_iadd t4 ?_
  exact XH_scr t5 hs (pa rfl rfl) hb hL kk
theorem XH_call1 (hd : Dc mi.2.1 pc (.invokevirtual idx) 3 nx) (hm : MokV mj) (hlk : Cond.methodLink mi.1.cls idx mj.1 ∈ lw_gd) (hn : nPar mj.1 As.length) {b ci : Nat} {r : Nat → Option Nat} (hb : S.2 b = some (kO ci r)) (hci : ci < 11) (hC : cN ci = mj.1.cls) {o cj : Nat} {rj : Nat → Option Nat} (ho : S.2 o = some (kO cj rj)) (hst : st = As.reverse ++ .ref b :: rest) (hr : (rest.map fun v => v.category).sum ≤ 8) (hlen : (lg_sl (.ref b :: As)).length ≤ mj.2.2.1) (hk0 : kc = kd + n)
    (h : X G mj d kd 0 (lv_args 0 (.ref b :: As)) [] S μ Q') (k : ∀ (v : Option Value) (S' : Sh) (μ' : Mu), Q' v S' μ' → XH G mi (d + 1) n nx lv (v.toList ++ rest) S' μ' (Ho G o cj) Q) : XH G mi (d + 1) kc pc lv st S μ Ph Q := by
  obtain ⟨hd, rfl⟩ := hd
  intro p l e R s m args below meth c mc Z C hZ H locs cells slots ls hPh hR hk hl T hT Xs
  have hts := C.2.2.2.2.2.1
  have hroom := C.2.2.2.2.2.2.2.2.1
  have hal := C.2.2.2.2.2.2.2.2.2.1
  have hG := C.2.2.2.2.2.2.2.2.2.2
  have cw : CallW R s args mi.1.cls mj.1.cls idx mj.1 mj.2.1 mj.2.2.1 mj.2.2.2 (wsM mj) (rmM d kd) kd (400 * kd) As.length := ⟨callB_of As.length hts (wsM_good hm.1) rfl rfl rfl (hts _ hm.1.2.2.1) (hts _ hlk) ⟨hm.1.2.2.2.1, hm.1.2.2.2.2.1, hn⟩ ⟨by show d + 1 ≤ _; omega, by show 8 + (mj.2.2.1 + 11) + (64 * d + 13) ≤ _; have := hm.1.2.2.2.2.2; omega⟩, hts _ hm.2.1, hts _ hm.2.2⟩
  obtain ⟨-, ce, q1, q2, q3, -⟩ := hR.at hb
  obtain ⟨-, co, w1, w2, w3, -⟩ := hR.at ho
  have hfc := (u_Kn_moved hal.alike (hG.1 ci hci)).2.1
  have hp : PreV s H mj.1.cls b (PcM G S μ (.ref b :: As)) As := ⟨PcM_blind, ⟨ce, q1, by rw [q3]; rfl, by rw [q2, ← hC]; exact hfc⟩, fun U hU hW => ⟨rfl, State.WarmedH.trans hal hW, by rw [hU]; exact hR.nil⟩⟩
  have hrun := va_runV (g := F0 m pc ls st) ⟨C.1, C.2.1, C.2.2.2.1, C.2.2.2.2.1, hts⟩ (met_fr (met_of hG hm.1 hlen h l)) cw hp rfl rfl hl.1 hst (lv_room hr) hd ⟨by omega, by omega⟩ (p := p) (e := e) (below := below) (meth := meth) (locs := locs) (cells := cells) (slots := slots)
  obtain ⟨v, st₀, t, T', L, h0, X', hL, e1, e2, ⟨⟨v', S', μ', hv, hq, hR'⟩, hcl⟩, stp⟩ := hrun T hT Xs
  cases hv
  obtain ⟨c', z1, z2, z3⟩ := hcl o co (by rw [h0]; exact w1)
  obtain ⟨t2, a1, b1⟩ := k v S' μ' hq p l e R s m args below meth c mc Z C hZ T'.heap (locs ++ L) (cells + kd) (slots + 400 * kd) ls ⟨c', by rw [e1]; exact z1, by rw [z2, w2], by rw [z3, w3]; rfl⟩ (by rw [e1]; exact hR'.app hR.2.2.2.2.2 hL) (by omega) hl T' rfl X'
  exact ⟨t2, stp t2 a1, b1⟩
theorem XH_call2 {b ci : Nat} (hd : Dc mi.2.1 pc (.invokevirtual idx) 3 nx) (hm : MokV mj) (hlk : Cond.methodLink mi.1.cls idx mj.1 ∈ lw_gd) (hn : nPar mj.1 As.length) (hci : ci < 11) (hC : cN ci = mj.1.cls) (hst : st = As.reverse ++ .ref b :: rest) (hr : (rest.map fun v => v.category).sum ≤ 8) (hlen : (lg_sl (.ref b :: As)).length ≤ mj.2.2.1) (hk0 : kc = kd + n)
    (h : X G mj d kd 0 (lv_args 0 (.ref b :: As)) [] S μ Q') (k : ∀ (v : Option Value) (S' : Sh) (μ' : Mu), Q' v S' μ' → X G mi (d + 1) n nx lv (v.toList ++ rest) S' μ' Q) : XH G mi (d + 1) kc pc lv st S μ (Ho G b ci) Q := by
  obtain ⟨hd, rfl⟩ := hd
  intro p l e R s m args below meth c mc Z C hZ H locs cells slots ls hPh hR hk hl T hT Xs
  have hts := C.2.2.2.2.2.1
  have hroom := C.2.2.2.2.2.2.2.2.1
  have hal := C.2.2.2.2.2.2.2.2.2.1
  have hG := C.2.2.2.2.2.2.2.2.2.2
  have cw : CallW R s args mi.1.cls mj.1.cls idx mj.1 mj.2.1 mj.2.2.1 mj.2.2.2 (wsM mj) (rmM d kd) kd (400 * kd) As.length := ⟨callB_of As.length hts (wsM_good hm.1) rfl rfl rfl (hts _ hm.1.2.2.1) (hts _ hlk) ⟨hm.1.2.2.2.1, hm.1.2.2.2.2.1, hn⟩ ⟨by show d + 1 ≤ _; omega, by show 8 + (mj.2.2.1 + 11) + (64 * d + 13) ≤ _; have := hm.1.2.2.2.2.2; omega⟩, hts _ hm.2.1, hts _ hm.2.2⟩
  obtain ⟨ce, q1, q2, q3⟩ := hPh
  have hfc := (u_Kn_moved hal.alike (hG.1 ci hci)).2.1
  have hp : PreV s H mj.1.cls b (PcM G S μ (.ref b :: As)) As := ⟨PcM_blind, ⟨ce, q1, q3, by rw [q2, ← hC]; exact hfc⟩, fun U hU hW => ⟨rfl, State.WarmedH.trans hal hW, by rw [hU]; exact hR.nil⟩⟩
  have hrun := va_runV (g := F0 m pc ls st) ⟨C.1, C.2.1, C.2.2.2.1, C.2.2.2.2.1, hts⟩ (met_of hG hm.1 hlen h l) cw hp rfl rfl hl.1 hst (lv_room hr) hd ⟨by omega, by omega⟩ (p := p) (e := e) (below := below) (meth := meth) (locs := locs) (cells := cells) (slots := slots)
  obtain ⟨v, st₀, t, T', L, h0, X', hL, e1, e2, ⟨v', S', μ', hv, hq, hR'⟩, stp⟩ := hrun T hT Xs
  cases hv
  obtain ⟨t2, a1, b1⟩ := k v S' μ' hq p l e R s m args below meth c mc Z C hZ T'.heap (locs ++ L) (cells + kd) (slots + 400 * kd) ls (by rw [e1]; exact hR'.app hR.2.2.2.2.2 hL) (by omega) hl T' rfl X'
  exact ⟨t2, stp t2 a1, b1⟩
end
