/-! The layer's returns and calls. -/
def wsM (mi : MI) : List Cond := Cond.code mi.1 mi.2.1 mi.2.2.1 mi.2.2.2 :: lw_gd
def rmM (d kc : Nat) : Room := { frames := d, cells := kc, slots := 400 * kc, locals := 64 * d + 13 }
def Mok (mi : MI) : Prop := plainName mi.1.cls = true ∧ Cond.code mi.1 mi.2.1 mi.2.2.1 mi.2.2.2 ∈ lw_gd ∧ Cond.initialized mi.1.cls ∈ lw_gd ∧ mi.1.cls ≠ "java/lang/invoke/MethodHandle" ∧ mi.1.cls ≠ "java/lang/invoke/VarHandle" ∧ mi.2.2.1 ≤ 45
def MokV (mi : MI) : Prop := Mok mi ∧ Cond.instanceMethod mi.1 ∈ lw_gd ∧ Cond.selects mi.1.cls mi.1 mi.1 ∈ lw_gd
def MokS (mi : MI) : Prop := Mok mi ∧ Cond.static mi.1 ∈ lw_gd
def MokI (mi : MI) : Prop := Mok mi ∧ Cond.instanceMethod mi.1 ∈ lw_gd ∧ mi.1.name = "<init>" ∧ mi.2.2.2 = none
def nPar (y : MethodName) (n : Nat) : Prop := (parseMethodDescriptor y.desc).map (fun d => d.parameters.length) = some n
theorem wsM_good {mi : MI} (h : Mok mi) : GoodIn lw_gd (wsM mi) := by
  intro w hw
  rcases List.mem_cons.mp hw with e | hw
  · rw [e]; exact ⟨h.2.1, good_of_word (gd_good _ h.2.1)⟩
  · exact ⟨hw, good_of_word (gd_good _ hw)⟩
def PcM (G : Gl) (S : Sh) (μ : Mu) (av : List Value) : Array Value → State → Prop := va_Pc av (fun U => G.1.WarmedH U.vm ∧ Rp G S μ U.heap [])
def QcM (G : Gl) (Q : Option Value → Sh → Mu → Prop) : Array Value → State → Outcome → State → Prop := fun _ _ oc t => ∃ (v : Option Value) (S' : Sh) (μ' : Mu), oc = .returned v ∧ Q v S' μ' ∧ Rp G S' μ' t.heap []
/-- a method's walk from its entry is a contract -/
theorem met_of {G : Gl} (hG : Gok G) {mi : MI} {d kc : Nat} {av : List Value} {S : Sh} {μ : Mu} {Q : Option Value → Sh → Mu → Prop} (hm : Mok mi) (hlen : (lg_sl av).length ≤ mi.2.2.1) (h : X G mi d kc 0 (lv_args 0 av) [] S μ Q) (l : Launch) : Met l mi.1 (wsM mi) (rmM d kc) (PcM G S μ av) (QcM G Q) kc (400 * kc) (fun q => gb G ≤ q) := by
  refine Met.ofW (cc := mi.2.1) (maxL := mi.2.2.1) (ret := mi.2.2.2) hm.1 rfl ?_
  intro p e s m args below meth c s₁ B hml hv
  obtain ⟨rfl, hW, hR⟩ := hv
  have hts0 := atoms_spec (ws := wsM mi) B.pre
  have hlocks := B.notSynchronized
  have hrt := B.returns
  have hex := B.exec
  have hby := B.bytes
  rw [lg_entry_eq]
  refine h p l e _ s m _ below meth c kc _ ⟨hex, hby, hrt, hml, findClass_of_methodNamed B.named, fun w hw => hts0 w (List.mem_cons_of_mem _ hw), hlocks, (name_of_methodNamed B.named B.method).1, ⟨Nat.le_refl _, Nat.le_refl _, Nat.le_refl _, Nat.le_refl _⟩, hW, hG⟩ ?_ s.heap [] 0 0 _ hR ⟨by omega, by omega⟩ (lv_entry av hlen)
  intro v S' μ' H' locs' cells' slots' pc' ls' hq hR' hc hs hk
  refine W.widen hc hs ?_
  rcases hk with ⟨rfl, h1, h2⟩ | ⟨x, ty, rfl, h1, h2, h3⟩ | ⟨rt, w, rfl, h1, h2, h3, h4⟩
  · exact W.vret hex hby (hrt.trans h1) (fun t ht hw => ⟨none, S', μ', rfl, hq, by rw [ht]; exact hR'.nil⟩) hR'.2.2.2.2.2 h2
  · exact W.zret hex hby (hrt.trans h1) h2 (fun t ht hw => ⟨some (.int x), S', μ', rfl, hq, by rw [ht]; exact hR'.nil⟩) hR'.2.2.2.2.2 h3
  · exact W.aret hex hby (hrt.trans h2) h3 h1 (fun t ht hw => ⟨some w, S', μ', rfl, hq, by rw [ht]; exact hR'.nil⟩) hR'.2.2.2.2.2 h4
theorem PcM_blind {G : Gl} {S : Sh} {μ : Mu} {av : List Value} : FrameBlind (PcM G S μ av) := fun a U g mk q => ⟨q.1, q.2.1, q.2.2⟩
section
variable {G : Gl} {mi mj : MI} {d kc kd pc nx n idx : Nat} {lv lv2 : List (Nat × Value)} {st rest As : List Value} {S : Sh} {μ : Mu} {Q Q' : Option Value → Sh → Mu → Prop}
theorem X_ireturn {x : Int32} {ty : FieldType} (hd : Dc mi.2.1 pc .ireturn 1 nx) (hr : mi.2.2.2 = some ty) (hn : narrow ty (.int x) = .int x) {K : Int32 → Sh → Mu → Prop} (hq : K x S μ) : X G mi d kc pc lv [.int x] S μ (qi K) := by
  intro p l e R s m args below meth c mc Z C hZ H locs cells slots ls hR hk hl
  obtain ⟨hd, rfl⟩ := hd
  exact hZ (some (.int x)) S μ H locs cells slots pc ls ⟨x, rfl, hq⟩ hR (by omega) (by omega) (Or.inr (Or.inl ⟨x, ty, rfl, hr, hn, hd⟩))
theorem X_return (hd : Dc mi.2.1 pc .return_ 1 nx) (hr : mi.2.2.2 = none) {K : Sh → Mu → Prop} (hq : K S μ) : X G mi d kc pc lv [] S μ (qv K) := by
  intro p l e R s m args below meth c mc Z C hZ H locs cells slots ls hR hk hl
  obtain ⟨hd, rfl⟩ := hd
  exact hZ none S μ H locs cells slots pc ls ⟨rfl, hq⟩ hR (by omega) (by omega) (Or.inl ⟨rfl, hr, hd⟩)
theorem X_areturn {a : Nat} {rt : FieldType} (hd : Dc mi.2.1 pc .areturn 1 nx) (hr : mi.2.2.2 = some rt) (ho : (∃ n, rt = .object n) ∨ ∃ t, rt = .array t) {K : Option Nat → Sh → Mu → Prop} (hq : K (some a) S μ) : X G mi d kc pc lv [.ref a] S μ (qr K) := by
  intro p l e R s m args below meth c mc Z C hZ H locs cells slots ls hR hk hl
  obtain ⟨hd, rfl⟩ := hd
  exact hZ (some (.ref a)) S μ H locs cells slots pc ls ⟨some a, rfl, hq⟩ hR (by omega) (by omega) (Or.inr (Or.inr ⟨rt, .ref a, rfl, Or.inr ⟨a, rfl⟩, hr, ho, hd⟩))
theorem X_areturnN {rt : FieldType} (hd : Dc mi.2.1 pc .areturn 1 nx) (hr : mi.2.2.2 = some rt) (ho : (∃ n, rt = .object n) ∨ ∃ t, rt = .array t) {K : Option Nat → Sh → Mu → Prop} (hq : K none S μ) : X G mi d kc pc lv [.null] S μ (qr K) := by
  intro p l e R s m args below meth c mc Z C hZ H locs cells slots ls hR hk hl
  obtain ⟨hd, rfl⟩ := hd
  exact hZ (some .null) S μ H locs cells slots pc ls ⟨none, rfl, hq⟩ hR (by omega) (by omega) (Or.inr (Or.inr ⟨rt, .null, rfl, Or.inl rfl, hr, ho, hd⟩))
/-- fewer or other listed locals -/
theorem X_lv {lv3 : List (Nat × Value)} (h : ∀ q ∈ lv3, q ∈ lv) (k : X G mi d kc pc lv3 st S μ Q) : X G mi d kc pc lv st S μ Q := by
  intro p l e R s m args below meth c mc Z C hZ H locs cells slots ls hR hk hl
  exact k p l e R s m args below meth c mc Z C hZ H locs cells slots ls hR hk ⟨hl.1, hl.2.1, fun q hq => hl.2.2 q (h q hq)⟩
theorem X_post (h : ∀ v S μ, Q' v S μ → Q v S μ) (k : X G mi d kc pc lv st S μ Q') : X G mi d kc pc lv st S μ Q := by
  intro p l e R s m args below meth c mc Z C hZ H locs cells slots ls hR hk hl
  exact k p l e R s m args below meth c mc Z C (fun v S' μ' H' locs' cells' slots' pc' ls' hq => hZ v S' μ' H' locs' cells' slots' pc' ls' (h v S' μ' hq)) H locs cells slots ls hR hk hl
theorem X_kc (h : kd ≤ kc) (k : X G mi d kd pc lv st S μ Q) : X G mi d kc pc lv st S μ Q := by
  intro p l e R s m args below meth c mc Z C hZ H locs cells slots ls hR hk hl
  exact k p l e R s m args below meth c mc Z C hZ H locs cells slots ls hR (by omega) hl
/-- behind a call -/
theorem X_run (S0 : Sh) (hk0 : kc = kd + n) (cw : ∀ (p : Program) (l : Launch) (e : Env) (R : Room) (s : State) (m : MethodId) (args : Array Value) (below : List Frame) (meth : Method) (c : Code) (mc : Nat), Cx G mi (d + 1) mc p R s m args meth c → ∀ (H : Heap) (locs : List Loc) (cells slots : Nat) (ls : Array Slot), Rp G S μ H locs → cells + kc ≤ mc ∧ slots + 400 * kc ≤ 400 * mc → lv_has ls mi.2.2.1 lv → va_Run p l e R s m args below meth c H locs cells slots kd (400 * kd) (F0 m pc ls st) rest (fun st oc t => QcM G Q' #[] st oc t) (fun q => gb G ≤ q))
    (k : ∀ (v : Option Value) (S' : Sh) (μ' : Mu), Q' v S' μ' → X G mi (d + 1) n (pc + 3) lv (v.toList ++ rest) S' μ' Q) : X G mi (d + 1) kc pc lv st S μ Q := by
  intro p l e R s m args below meth c mc Z C hZ H locs cells slots ls hR hk hl T hT X
  obtain ⟨v, st₀, t, T', L, h0, X', hL, e1, e2, ⟨v', S', μ', hv, hq, hR'⟩, stp⟩ := cw p l e R s m args below meth c mc C H locs cells slots ls hR hk hl T hT X
  cases hv
  obtain ⟨t2, a1, b1⟩ := k v S' μ' hq p l e R s m args below meth c mc Z C hZ T'.heap (locs ++ L) (cells + kd) (slots + 400 * kd) ls (by rw [e1]; exact hR'.app hR.2.2.2.2.2 hL) (by omega) hl T' rfl X'
  exact ⟨t2, stp t2 a1, b1⟩
theorem X_callV (hd : Dc mi.2.1 pc (.invokevirtual idx) 3 nx) (hm : MokV mj) (hlk : Cond.methodLink mi.1.cls idx mj.1 ∈ lw_gd) (hn : nPar mj.1 As.length) {b ci : Nat} {r : Nat → Option Nat} (hb : S.2 b = some (kO ci r)) (hci : ci < 11) (hC : cN ci = mj.1.cls) (hst : st = As.reverse ++ .ref b :: rest) (hr : (rest.map fun v => v.category).sum ≤ 8) (hlen : (lg_sl (.ref b :: As)).length ≤ mj.2.2.1) (hk0 : kc = kd + n)
    (h : X G mj d kd 0 (lv_args 0 (.ref b :: As)) [] S μ Q') (k : ∀ (v : Option Value) (S' : Sh) (μ' : Mu), Q' v S' μ' → X G mi (d + 1) n nx lv (v.toList ++ rest) S' μ' Q) : X G mi (d + 1) kc pc lv st S μ Q := by
  obtain ⟨hd, rfl⟩ := hd
  refine X_run S hk0 ?_ k
  intro p l e R s m args below meth c mc C H locs cells slots ls hR hk hl
  have hts := C.2.2.2.2.2.1
  have hroom := C.2.2.2.2.2.2.2.2.1
  have hal := C.2.2.2.2.2.2.2.2.2.1
  have hG := C.2.2.2.2.2.2.2.2.2.2
  have cw : CallW R s args mi.1.cls mj.1.cls idx mj.1 mj.2.1 mj.2.2.1 mj.2.2.2 (wsM mj) (rmM d kd) kd (400 * kd) As.length := ⟨callB_of As.length hts (wsM_good hm.1) rfl rfl rfl (hts _ hm.1.2.2.1) (hts _ hlk) ⟨hm.1.2.2.2.1, hm.1.2.2.2.2.1, hn⟩ ⟨by show d + 1 ≤ _; omega, by show 8 + (mj.2.2.1 + 11) + (64 * d + 13) ≤ _; have := hm.1.2.2.2.2.2; omega⟩, hts _ hm.2.1, hts _ hm.2.2⟩
  obtain ⟨-, ce, q1, q2, q3, -⟩ := hR.at hb
  have hfc := (u_Kn_moved hal.alike (hG.1 ci hci)).2.1
  have hp : PreV s H mj.1.cls b (PcM G S μ (.ref b :: As)) As := ⟨PcM_blind, ⟨ce, q1, by rw [q3]; rfl, by rw [q2, ← hC]; exact hfc⟩, fun U hU hW => ⟨rfl, State.WarmedH.trans hal hW, by rw [hU]; exact hR.nil⟩⟩
  have hrun := va_runV (g := F0 m pc ls st) ⟨C.1, C.2.1, C.2.2.2.1, C.2.2.2.2.1, hts⟩ (met_of hG hm.1 hlen h l) cw hp rfl rfl hl.1 hst (lv_room hr) hd ⟨by omega, by omega⟩ (p := p) (e := e) (below := below) (meth := meth) (locs := locs) (cells := cells) (slots := slots)
  exact hrun
theorem X_callS (hd : Dc mi.2.1 pc (.invokestatic idx) 3 nx) (hm : MokS mj) (hlk : Cond.methodLink mi.1.cls idx mj.1 ∈ lw_gd) (hn : nPar mj.1 As.length) (hst : st = As.reverse ++ rest) (hr : (rest.map fun v => v.category).sum ≤ 8) (hlen : (lg_sl As).length ≤ mj.2.2.1) (hk0 : kc = kd + n)
    (h : X G mj d kd 0 (lv_args 0 As) [] S μ Q') (k : ∀ (v : Option Value) (S' : Sh) (μ' : Mu), Q' v S' μ' → X G mi (d + 1) n nx lv (v.toList ++ rest) S' μ' Q) : X G mi (d + 1) kc pc lv st S μ Q := by
  obtain ⟨hd, rfl⟩ := hd
  refine X_run S hk0 ?_ k
  intro p l e R s m args below meth c mc C H locs cells slots ls hR hk hl
  have hts := C.2.2.2.2.2.1
  have hroom := C.2.2.2.2.2.2.2.2.1
  have hal := C.2.2.2.2.2.2.2.2.2.1
  have hG := C.2.2.2.2.2.2.2.2.2.2
  have cw : CallB R s args mi.1.cls idx mj.1 mj.2.1 mj.2.2.1 mj.2.2.2 (wsM mj) (rmM d kd) kd (400 * kd) As.length ∧ (Cond.static mj.1).before args s = true := ⟨callB_of As.length hts (wsM_good hm.1) rfl rfl rfl (hts _ hm.1.2.2.1) (hts _ hlk) ⟨hm.1.2.2.2.1, hm.1.2.2.2.2.1, hn⟩ ⟨by show d + 1 ≤ _; omega, by show 8 + (mj.2.2.1 + 11) + (64 * d + 13) ≤ _; have := hm.1.2.2.2.2.2; omega⟩, hts _ hm.2⟩
  have hp : PreS s H (PcM G S μ As) As := ⟨PcM_blind, fun U hU hW => ⟨rfl, State.WarmedH.trans hal hW, by rw [hU]; exact hR.nil⟩⟩
  have hrun := va_runS (g := F0 m pc ls st) ⟨C.1, C.2.1, C.2.2.2.1, C.2.2.2.2.1, hts⟩ (met_of hG hm.1 hlen h l) cw hp rfl rfl hl.1 hst (lv_room hr) hd ⟨by omega, by omega⟩ (p := p) (e := e) (below := below) (meth := meth) (locs := locs) (cells := cells) (slots := slots)
  exact hrun
theorem X_callI (hd : Dc mi.2.1 pc (.invokespecial idx) 3 nx) (hm : MokI mj) (hlk : Cond.methodLink mi.1.cls idx mj.1 ∈ lw_gd) (hn : nPar mj.1 As.length) {b : Nat} (hst : st = As.reverse ++ .ref b :: rest) (hr : (rest.map fun v => v.category).sum ≤ 8) (hlen : (lg_sl (.ref b :: As)).length ≤ mj.2.2.1) (hk0 : kc = kd + n)
    (h : X G mj d kd 0 (lv_args 0 (.ref b :: As)) [] S μ Q') (k : ∀ (v : Option Value) (S' : Sh) (μ' : Mu), Q' v S' μ' → X G mi (d + 1) n nx lv (v.toList ++ rest) S' μ' Q) : X G mi (d + 1) kc pc lv st S μ Q := by
  obtain ⟨hd, rfl⟩ := hd
  refine X_run S hk0 ?_ k
  intro p l e R s m args below meth c mc C H locs cells slots ls hR hk hl
  have hts := C.2.2.2.2.2.1
  have hroom := C.2.2.2.2.2.2.2.2.1
  have hal := C.2.2.2.2.2.2.2.2.2.1
  have hG := C.2.2.2.2.2.2.2.2.2.2
  obtain ⟨y, cb, ml, rt⟩ := mj
  have hrn : rt = none := hm.2.2.2
  subst hrn
  have cw := cwI (R := R) (own := mi.1.cls) (index := idx) (y := y) (bytes := cb) (maxL := ml) (rm := rmM d kd) (mc := kd) (ms := 400 * kd) As.length hts (wsM_good hm.1) rfl rfl rfl (hts _ hm.1.2.2.1) (hts _ hlk) (hts _ hm.2.1) hm.2.2.1 ⟨hm.1.2.2.2.1, hm.1.2.2.2.2.1, hn⟩ ⟨by show d + 1 ≤ _; omega, by show 8 + (ml + 11) + (64 * d + 13) ≤ _; have h45 : ml ≤ 45 := hm.1.2.2.2.2.2; omega⟩
  have hp : PreS s H (PcM G S μ (.ref b :: As)) (.ref b :: As) := ⟨PcM_blind, fun U hU hW => ⟨rfl, State.WarmedH.trans hal hW, by rw [hU]; exact hR.nil⟩⟩
  have hrun := va_runI (g := F0 m pc ls st) ⟨C.1, C.2.1, C.2.2.2.1, C.2.2.2.2.1, hts⟩ (met_of hG hm.1 hlen h l) cw hp rfl rfl hl.1 hst (lv_room hr) hd ⟨by omega, by omega⟩ (p := p) (e := e) (below := below) (meth := meth) (locs := locs) (cells := cells) (slots := slots)
  exact hrun
/-- a method of a text -/
theorem X_callT (hd : Dc mi.2.1 pc (.invokevirtual idx) 3 nx) (hm : MokV mj) (hlk : Cond.methodLink mi.1.cls idx mj.1 ∈ lw_gd) (hn : nPar mj.1 As.length) {b t : Nat} (hb : S.2 b = some (kT t)) (hC : mj.1.cls = "java/lang/String") (hst : st = As.reverse ++ .ref b :: rest) (hr : (rest.map fun v => v.category).sum ≤ 8) (hlen : (lg_sl (.ref b :: As)).length ≤ mj.2.2.1) (hk0 : kc = kd + n)
    (h : X G mj d kd 0 (lv_args 0 (.ref b :: As)) [] S μ Q') (k : ∀ (v : Option Value) (S' : Sh) (μ' : Mu), Q' v S' μ' → X G mi (d + 1) n nx lv (v.toList ++ rest) S' μ' Q) : X G mi (d + 1) kc pc lv st S μ Q := by
  obtain ⟨hd, rfl⟩ := hd
  refine X_run S hk0 ?_ k
  intro p l e R s m args below meth c mc C H locs cells slots ls hR hk hl
  have hts := C.2.2.2.2.2.1
  have hroom := C.2.2.2.2.2.2.2.2.1
  have hal := C.2.2.2.2.2.2.2.2.2.1
  have hG := C.2.2.2.2.2.2.2.2.2.2
  have cw : CallW R s args mi.1.cls mj.1.cls idx mj.1 mj.2.1 mj.2.2.1 mj.2.2.2 (wsM mj) (rmM d kd) kd (400 * kd) As.length := ⟨callB_of As.length hts (wsM_good hm.1) rfl rfl rfl (hts _ hm.1.2.2.1) (hts _ hlk) ⟨hm.1.2.2.2.1, hm.1.2.2.2.2.1, hn⟩ ⟨by show d + 1 ≤ _; omega, by show 8 + (mj.2.2.1 + 11) + (64 * d + 13) ≤ _; have := hm.1.2.2.2.2.2; omega⟩, hts _ hm.2.1, hts _ hm.2.2⟩
  obtain ⟨-, -, hO⟩ := hR.at hb
  obtain ⟨ce, q1, q2, q3, -⟩ := va_O.moved hal.alike hO
  have hp : PreV s H mj.1.cls b (PcM G S μ (.ref b :: As)) As := ⟨PcM_blind, ⟨ce, q1, q2, by rw [hC]; exact q3⟩, fun U hU hW => ⟨rfl, State.WarmedH.trans hal hW, by rw [hU]; exact hR.nil⟩⟩
  have hrun := va_runV (g := F0 m pc ls st) ⟨C.1, C.2.1, C.2.2.2.1, C.2.2.2.2.1, hts⟩ (met_of hG hm.1 hlen h l) cw hp rfl rfl hl.1 hst (lv_room hr) hd ⟨by omega, by omega⟩ (p := p) (e := e) (below := below) (meth := meth) (locs := locs) (cells := cells) (slots := slots)
  exact hrun
theorem X_cV0i {b ci : Nat} {r : Nat → Option Nat} (hd : Dc mi.2.1 pc (.invokevirtual idx) 3 nx) (hm : MokV mj) (hlk : Cond.methodLink mi.1.cls idx mj.1 ∈ lw_gd) (hn : nPar mj.1 0) (hb : S.2 b = some (kO ci r)) (hci : ci < 11) (hC : cN ci = mj.1.cls) (hr : (rest.map fun v => v.category).sum ≤ 8) (hlen : (lg_sl (.ref b :: [])).length ≤ mj.2.2.1) (hl2 : lv_args 0 (.ref b :: []) = lv2) (h : X G mj d 0 0 lv2 [] S μ (qi (fun r S' μ' => X G mi (d + 1) kc nx lv (.int r :: rest) S' μ' Q))) : X G mi (d + 1) kc pc lv (.ref b :: rest) S μ Q := by
  subst hl2
  exact X_callV (As := []) hd hm hlk hn hb hci hC rfl hr hlen (Nat.zero_add kc).symm h (fun v S' μ' h => by obtain ⟨r, rfl, h⟩ := h; exact h)
theorem X_cV0v {b ci : Nat} {r : Nat → Option Nat} (hd : Dc mi.2.1 pc (.invokevirtual idx) 3 nx) (hm : MokV mj) (hlk : Cond.methodLink mi.1.cls idx mj.1 ∈ lw_gd) (hn : nPar mj.1 0) (hb : S.2 b = some (kO ci r)) (hci : ci < 11) (hC : cN ci = mj.1.cls) (hr : (rest.map fun v => v.category).sum ≤ 8) (hlen : (lg_sl (.ref b :: [])).length ≤ mj.2.2.1) (hl2 : lv_args 0 (.ref b :: []) = lv2) (h : X G mj d 0 0 lv2 [] S μ (qv (fun S' μ' => X G mi (d + 1) kc nx lv rest S' μ' Q))) : X G mi (d + 1) kc pc lv (.ref b :: rest) S μ Q := by
  subst hl2
  exact X_callV (As := []) hd hm hlk hn hb hci hC rfl hr hlen (Nat.zero_add kc).symm h (fun v S' μ' h => by obtain ⟨rfl, h⟩ := h; exact h)
theorem X_cV0r {b ci : Nat} {r : Nat → Option Nat} (hd : Dc mi.2.1 pc (.invokevirtual idx) 3 nx) (hm : MokV mj) (hlk : Cond.methodLink mi.1.cls idx mj.1 ∈ lw_gd) (hn : nPar mj.1 0) (hb : S.2 b = some (kO ci r)) (hci : ci < 11) (hC : cN ci = mj.1.cls) (hr : (rest.map fun v => v.category).sum ≤ 8) (hlen : (lg_sl (.ref b :: [])).length ≤ mj.2.2.1) (hl2 : lv_args 0 (.ref b :: []) = lv2) (h : X G mj d 0 0 lv2 [] S μ (qr (fun r S' μ' => X G mi (d + 1) kc nx lv (va_rf r :: rest) S' μ' Q))) : X G mi (d + 1) kc pc lv (.ref b :: rest) S μ Q := by
  subst hl2
  exact X_callV (As := []) hd hm hlk hn hb hci hC rfl hr hlen (Nat.zero_add kc).symm h (fun v S' μ' h => by obtain ⟨r, rfl, h⟩ := h; exact h)
theorem X_cV1i {b ci : Nat} {r : Nat → Option Nat} {v1 : Value} (hd : Dc mi.2.1 pc (.invokevirtual idx) 3 nx) (hm : MokV mj) (hlk : Cond.methodLink mi.1.cls idx mj.1 ∈ lw_gd) (hn : nPar mj.1 1) (hb : S.2 b = some (kO ci r)) (hci : ci < 11) (hC : cN ci = mj.1.cls) (hr : (rest.map fun v => v.category).sum ≤ 8) (hlen : (lg_sl (.ref b :: [v1])).length ≤ mj.2.2.1) (hl2 : lv_args 0 (.ref b :: [v1]) = lv2) (h : X G mj d 0 0 lv2 [] S μ (qi (fun r S' μ' => X G mi (d + 1) kc nx lv (.int r :: rest) S' μ' Q))) : X G mi (d + 1) kc pc lv (v1 :: .ref b :: rest) S μ Q := by
  subst hl2
  exact X_callV (As := [v1]) hd hm hlk hn hb hci hC rfl hr hlen (Nat.zero_add kc).symm h (fun v S' μ' h => by obtain ⟨r, rfl, h⟩ := h; exact h)
theorem X_cV1v {b ci : Nat} {r : Nat → Option Nat} {v1 : Value} (hd : Dc mi.2.1 pc (.invokevirtual idx) 3 nx) (hm : MokV mj) (hlk : Cond.methodLink mi.1.cls idx mj.1 ∈ lw_gd) (hn : nPar mj.1 1) (hb : S.2 b = some (kO ci r)) (hci : ci < 11) (hC : cN ci = mj.1.cls) (hr : (rest.map fun v => v.category).sum ≤ 8) (hlen : (lg_sl (.ref b :: [v1])).length ≤ mj.2.2.1) (hl2 : lv_args 0 (.ref b :: [v1]) = lv2) (h : X G mj d 0 0 lv2 [] S μ (qv (fun S' μ' => X G mi (d + 1) kc nx lv rest S' μ' Q))) : X G mi (d + 1) kc pc lv (v1 :: .ref b :: rest) S μ Q := by
  subst hl2
  exact X_callV (As := [v1]) hd hm hlk hn hb hci hC rfl hr hlen (Nat.zero_add kc).symm h (fun v S' μ' h => by obtain ⟨rfl, h⟩ := h; exact h)
theorem X_cV1r {b ci : Nat} {r : Nat → Option Nat} {v1 : Value} (hd : Dc mi.2.1 pc (.invokevirtual idx) 3 nx) (hm : MokV mj) (hlk : Cond.methodLink mi.1.cls idx mj.1 ∈ lw_gd) (hn : nPar mj.1 1) (hb : S.2 b = some (kO ci r)) (hci : ci < 11) (hC : cN ci = mj.1.cls) (hr : (rest.map fun v => v.category).sum ≤ 8) (hlen : (lg_sl (.ref b :: [v1])).length ≤ mj.2.2.1) (hl2 : lv_args 0 (.ref b :: [v1]) = lv2) (h : X G mj d 0 0 lv2 [] S μ (qr (fun r S' μ' => X G mi (d + 1) kc nx lv (va_rf r :: rest) S' μ' Q))) : X G mi (d + 1) kc pc lv (v1 :: .ref b :: rest) S μ Q := by
  subst hl2
  exact X_callV (As := [v1]) hd hm hlk hn hb hci hC rfl hr hlen (Nat.zero_add kc).symm h (fun v S' μ' h => by obtain ⟨r, rfl, h⟩ := h; exact h)
theorem X_cV2i {b ci : Nat} {r : Nat → Option Nat} {v1 v2 : Value} (hd : Dc mi.2.1 pc (.invokevirtual idx) 3 nx) (hm : MokV mj) (hlk : Cond.methodLink mi.1.cls idx mj.1 ∈ lw_gd) (hn : nPar mj.1 2) (hb : S.2 b = some (kO ci r)) (hci : ci < 11) (hC : cN ci = mj.1.cls) (hr : (rest.map fun v => v.category).sum ≤ 8) (hlen : (lg_sl (.ref b :: [v1, v2])).length ≤ mj.2.2.1) (hl2 : lv_args 0 (.ref b :: [v1, v2]) = lv2) (h : X G mj d 0 0 lv2 [] S μ (qi (fun r S' μ' => X G mi (d + 1) kc nx lv (.int r :: rest) S' μ' Q))) : X G mi (d + 1) kc pc lv (v2 :: v1 :: .ref b :: rest) S μ Q := by
  subst hl2
  exact X_callV (As := [v1, v2]) hd hm hlk hn hb hci hC rfl hr hlen (Nat.zero_add kc).symm h (fun v S' μ' h => by obtain ⟨r, rfl, h⟩ := h; exact h)
theorem X_cV2v {b ci : Nat} {r : Nat → Option Nat} {v1 v2 : Value} (hd : Dc mi.2.1 pc (.invokevirtual idx) 3 nx) (hm : MokV mj) (hlk : Cond.methodLink mi.1.cls idx mj.1 ∈ lw_gd) (hn : nPar mj.1 2) (hb : S.2 b = some (kO ci r)) (hci : ci < 11) (hC : cN ci = mj.1.cls) (hr : (rest.map fun v => v.category).sum ≤ 8) (hlen : (lg_sl (.ref b :: [v1, v2])).length ≤ mj.2.2.1) (hl2 : lv_args 0 (.ref b :: [v1, v2]) = lv2) (h : X G mj d 0 0 lv2 [] S μ (qv (fun S' μ' => X G mi (d + 1) kc nx lv rest S' μ' Q))) : X G mi (d + 1) kc pc lv (v2 :: v1 :: .ref b :: rest) S μ Q := by
  subst hl2
  exact X_callV (As := [v1, v2]) hd hm hlk hn hb hci hC rfl hr hlen (Nat.zero_add kc).symm h (fun v S' μ' h => by obtain ⟨rfl, h⟩ := h; exact h)
theorem X_cV2r {b ci : Nat} {r : Nat → Option Nat} {v1 v2 : Value} (hd : Dc mi.2.1 pc (.invokevirtual idx) 3 nx) (hm : MokV mj) (hlk : Cond.methodLink mi.1.cls idx mj.1 ∈ lw_gd) (hn : nPar mj.1 2) (hb : S.2 b = some (kO ci r)) (hci : ci < 11) (hC : cN ci = mj.1.cls) (hr : (rest.map fun v => v.category).sum ≤ 8) (hlen : (lg_sl (.ref b :: [v1, v2])).length ≤ mj.2.2.1) (hl2 : lv_args 0 (.ref b :: [v1, v2]) = lv2) (h : X G mj d 0 0 lv2 [] S μ (qr (fun r S' μ' => X G mi (d + 1) kc nx lv (va_rf r :: rest) S' μ' Q))) : X G mi (d + 1) kc pc lv (v2 :: v1 :: .ref b :: rest) S μ Q := by
  subst hl2
  exact X_callV (As := [v1, v2]) hd hm hlk hn hb hci hC rfl hr hlen (Nat.zero_add kc).symm h (fun v S' μ' h => by obtain ⟨r, rfl, h⟩ := h; exact h)
theorem X_cV3i {b ci : Nat} {r : Nat → Option Nat} {v1 v2 v3 : Value} (hd : Dc mi.2.1 pc (.invokevirtual idx) 3 nx) (hm : MokV mj) (hlk : Cond.methodLink mi.1.cls idx mj.1 ∈ lw_gd) (hn : nPar mj.1 3) (hb : S.2 b = some (kO ci r)) (hci : ci < 11) (hC : cN ci = mj.1.cls) (hr : (rest.map fun v => v.category).sum ≤ 8) (hlen : (lg_sl (.ref b :: [v1, v2, v3])).length ≤ mj.2.2.1) (hl2 : lv_args 0 (.ref b :: [v1, v2, v3]) = lv2) (h : X G mj d 0 0 lv2 [] S μ (qi (fun r S' μ' => X G mi (d + 1) kc nx lv (.int r :: rest) S' μ' Q))) : X G mi (d + 1) kc pc lv (v3 :: v2 :: v1 :: .ref b :: rest) S μ Q := by
  subst hl2
  exact X_callV (As := [v1, v2, v3]) hd hm hlk hn hb hci hC rfl hr hlen (Nat.zero_add kc).symm h (fun v S' μ' h => by obtain ⟨r, rfl, h⟩ := h; exact h)
theorem X_cV3v {b ci : Nat} {r : Nat → Option Nat} {v1 v2 v3 : Value} (hd : Dc mi.2.1 pc (.invokevirtual idx) 3 nx) (hm : MokV mj) (hlk : Cond.methodLink mi.1.cls idx mj.1 ∈ lw_gd) (hn : nPar mj.1 3) (hb : S.2 b = some (kO ci r)) (hci : ci < 11) (hC : cN ci = mj.1.cls) (hr : (rest.map fun v => v.category).sum ≤ 8) (hlen : (lg_sl (.ref b :: [v1, v2, v3])).length ≤ mj.2.2.1) (hl2 : lv_args 0 (.ref b :: [v1, v2, v3]) = lv2) (h : X G mj d 0 0 lv2 [] S μ (qv (fun S' μ' => X G mi (d + 1) kc nx lv rest S' μ' Q))) : X G mi (d + 1) kc pc lv (v3 :: v2 :: v1 :: .ref b :: rest) S μ Q := by
  subst hl2
  exact X_callV (As := [v1, v2, v3]) hd hm hlk hn hb hci hC rfl hr hlen (Nat.zero_add kc).symm h (fun v S' μ' h => by obtain ⟨rfl, h⟩ := h; exact h)
theorem X_cV3r {b ci : Nat} {r : Nat → Option Nat} {v1 v2 v3 : Value} (hd : Dc mi.2.1 pc (.invokevirtual idx) 3 nx) (hm : MokV mj) (hlk : Cond.methodLink mi.1.cls idx mj.1 ∈ lw_gd) (hn : nPar mj.1 3) (hb : S.2 b = some (kO ci r)) (hci : ci < 11) (hC : cN ci = mj.1.cls) (hr : (rest.map fun v => v.category).sum ≤ 8) (hlen : (lg_sl (.ref b :: [v1, v2, v3])).length ≤ mj.2.2.1) (hl2 : lv_args 0 (.ref b :: [v1, v2, v3]) = lv2) (h : X G mj d 0 0 lv2 [] S μ (qr (fun r S' μ' => X G mi (d + 1) kc nx lv (va_rf r :: rest) S' μ' Q))) : X G mi (d + 1) kc pc lv (v3 :: v2 :: v1 :: .ref b :: rest) S μ Q := by
  subst hl2
  exact X_callV (As := [v1, v2, v3]) hd hm hlk hn hb hci hC rfl hr hlen (Nat.zero_add kc).symm h (fun v S' μ' h => by obtain ⟨r, rfl, h⟩ := h; exact h)
theorem X_cV4i {b ci : Nat} {r : Nat → Option Nat} {v1 v2 v3 v4 : Value} (hd : Dc mi.2.1 pc (.invokevirtual idx) 3 nx) (hm : MokV mj) (hlk : Cond.methodLink mi.1.cls idx mj.1 ∈ lw_gd) (hn : nPar mj.1 4) (hb : S.2 b = some (kO ci r)) (hci : ci < 11) (hC : cN ci = mj.1.cls) (hr : (rest.map fun v => v.category).sum ≤ 8) (hlen : (lg_sl (.ref b :: [v1, v2, v3, v4])).length ≤ mj.2.2.1) (hl2 : lv_args 0 (.ref b :: [v1, v2, v3, v4]) = lv2) (h : X G mj d 0 0 lv2 [] S μ (qi (fun r S' μ' => X G mi (d + 1) kc nx lv (.int r :: rest) S' μ' Q))) : X G mi (d + 1) kc pc lv (v4 :: v3 :: v2 :: v1 :: .ref b :: rest) S μ Q := by
  subst hl2
  exact X_callV (As := [v1, v2, v3, v4]) hd hm hlk hn hb hci hC rfl hr hlen (Nat.zero_add kc).symm h (fun v S' μ' h => by obtain ⟨r, rfl, h⟩ := h; exact h)
theorem X_cV4v {b ci : Nat} {r : Nat → Option Nat} {v1 v2 v3 v4 : Value} (hd : Dc mi.2.1 pc (.invokevirtual idx) 3 nx) (hm : MokV mj) (hlk : Cond.methodLink mi.1.cls idx mj.1 ∈ lw_gd) (hn : nPar mj.1 4) (hb : S.2 b = some (kO ci r)) (hci : ci < 11) (hC : cN ci = mj.1.cls) (hr : (rest.map fun v => v.category).sum ≤ 8) (hlen : (lg_sl (.ref b :: [v1, v2, v3, v4])).length ≤ mj.2.2.1) (hl2 : lv_args 0 (.ref b :: [v1, v2, v3, v4]) = lv2) (h : X G mj d 0 0 lv2 [] S μ (qv (fun S' μ' => X G mi (d + 1) kc nx lv rest S' μ' Q))) : X G mi (d + 1) kc pc lv (v4 :: v3 :: v2 :: v1 :: .ref b :: rest) S μ Q := by
  subst hl2
  exact X_callV (As := [v1, v2, v3, v4]) hd hm hlk hn hb hci hC rfl hr hlen (Nat.zero_add kc).symm h (fun v S' μ' h => by obtain ⟨rfl, h⟩ := h; exact h)
theorem X_cV4r {b ci : Nat} {r : Nat → Option Nat} {v1 v2 v3 v4 : Value} (hd : Dc mi.2.1 pc (.invokevirtual idx) 3 nx) (hm : MokV mj) (hlk : Cond.methodLink mi.1.cls idx mj.1 ∈ lw_gd) (hn : nPar mj.1 4) (hb : S.2 b = some (kO ci r)) (hci : ci < 11) (hC : cN ci = mj.1.cls) (hr : (rest.map fun v => v.category).sum ≤ 8) (hlen : (lg_sl (.ref b :: [v1, v2, v3, v4])).length ≤ mj.2.2.1) (hl2 : lv_args 0 (.ref b :: [v1, v2, v3, v4]) = lv2) (h : X G mj d 0 0 lv2 [] S μ (qr (fun r S' μ' => X G mi (d + 1) kc nx lv (va_rf r :: rest) S' μ' Q))) : X G mi (d + 1) kc pc lv (v4 :: v3 :: v2 :: v1 :: .ref b :: rest) S μ Q := by
  subst hl2
  exact X_callV (As := [v1, v2, v3, v4]) hd hm hlk hn hb hci hC rfl hr hlen (Nat.zero_add kc).symm h (fun v S' μ' h => by obtain ⟨r, rfl, h⟩ := h; exact h)
theorem X_cV5i {b ci : Nat} {r : Nat → Option Nat} {v1 v2 v3 v4 v5 : Value} (hd : Dc mi.2.1 pc (.invokevirtual idx) 3 nx) (hm : MokV mj) (hlk : Cond.methodLink mi.1.cls idx mj.1 ∈ lw_gd) (hn : nPar mj.1 5) (hb : S.2 b = some (kO ci r)) (hci : ci < 11) (hC : cN ci = mj.1.cls) (hr : (rest.map fun v => v.category).sum ≤ 8) (hlen : (lg_sl (.ref b :: [v1, v2, v3, v4, v5])).length ≤ mj.2.2.1) (hl2 : lv_args 0 (.ref b :: [v1, v2, v3, v4, v5]) = lv2) (h : X G mj d 0 0 lv2 [] S μ (qi (fun r S' μ' => X G mi (d + 1) kc nx lv (.int r :: rest) S' μ' Q))) : X G mi (d + 1) kc pc lv (v5 :: v4 :: v3 :: v2 :: v1 :: .ref b :: rest) S μ Q := by
  subst hl2
  exact X_callV (As := [v1, v2, v3, v4, v5]) hd hm hlk hn hb hci hC rfl hr hlen (Nat.zero_add kc).symm h (fun v S' μ' h => by obtain ⟨r, rfl, h⟩ := h; exact h)
theorem X_cV5v {b ci : Nat} {r : Nat → Option Nat} {v1 v2 v3 v4 v5 : Value} (hd : Dc mi.2.1 pc (.invokevirtual idx) 3 nx) (hm : MokV mj) (hlk : Cond.methodLink mi.1.cls idx mj.1 ∈ lw_gd) (hn : nPar mj.1 5) (hb : S.2 b = some (kO ci r)) (hci : ci < 11) (hC : cN ci = mj.1.cls) (hr : (rest.map fun v => v.category).sum ≤ 8) (hlen : (lg_sl (.ref b :: [v1, v2, v3, v4, v5])).length ≤ mj.2.2.1) (hl2 : lv_args 0 (.ref b :: [v1, v2, v3, v4, v5]) = lv2) (h : X G mj d 0 0 lv2 [] S μ (qv (fun S' μ' => X G mi (d + 1) kc nx lv rest S' μ' Q))) : X G mi (d + 1) kc pc lv (v5 :: v4 :: v3 :: v2 :: v1 :: .ref b :: rest) S μ Q := by
  subst hl2
  exact X_callV (As := [v1, v2, v3, v4, v5]) hd hm hlk hn hb hci hC rfl hr hlen (Nat.zero_add kc).symm h (fun v S' μ' h => by obtain ⟨rfl, h⟩ := h; exact h)
theorem X_cV5r {b ci : Nat} {r : Nat → Option Nat} {v1 v2 v3 v4 v5 : Value} (hd : Dc mi.2.1 pc (.invokevirtual idx) 3 nx) (hm : MokV mj) (hlk : Cond.methodLink mi.1.cls idx mj.1 ∈ lw_gd) (hn : nPar mj.1 5) (hb : S.2 b = some (kO ci r)) (hci : ci < 11) (hC : cN ci = mj.1.cls) (hr : (rest.map fun v => v.category).sum ≤ 8) (hlen : (lg_sl (.ref b :: [v1, v2, v3, v4, v5])).length ≤ mj.2.2.1) (hl2 : lv_args 0 (.ref b :: [v1, v2, v3, v4, v5]) = lv2) (h : X G mj d 0 0 lv2 [] S μ (qr (fun r S' μ' => X G mi (d + 1) kc nx lv (va_rf r :: rest) S' μ' Q))) : X G mi (d + 1) kc pc lv (v5 :: v4 :: v3 :: v2 :: v1 :: .ref b :: rest) S μ Q := by
  subst hl2
  exact X_callV (As := [v1, v2, v3, v4, v5]) hd hm hlk hn hb hci hC rfl hr hlen (Nat.zero_add kc).symm h (fun v S' μ' h => by obtain ⟨r, rfl, h⟩ := h; exact h)
theorem X_cV6i {b ci : Nat} {r : Nat → Option Nat} {v1 v2 v3 v4 v5 v6 : Value} (hd : Dc mi.2.1 pc (.invokevirtual idx) 3 nx) (hm : MokV mj) (hlk : Cond.methodLink mi.1.cls idx mj.1 ∈ lw_gd) (hn : nPar mj.1 6) (hb : S.2 b = some (kO ci r)) (hci : ci < 11) (hC : cN ci = mj.1.cls) (hr : (rest.map fun v => v.category).sum ≤ 8) (hlen : (lg_sl (.ref b :: [v1, v2, v3, v4, v5, v6])).length ≤ mj.2.2.1) (hl2 : lv_args 0 (.ref b :: [v1, v2, v3, v4, v5, v6]) = lv2) (h : X G mj d 0 0 lv2 [] S μ (qi (fun r S' μ' => X G mi (d + 1) kc nx lv (.int r :: rest) S' μ' Q))) : X G mi (d + 1) kc pc lv (v6 :: v5 :: v4 :: v3 :: v2 :: v1 :: .ref b :: rest) S μ Q := by
  subst hl2
  exact X_callV (As := [v1, v2, v3, v4, v5, v6]) hd hm hlk hn hb hci hC rfl hr hlen (Nat.zero_add kc).symm h (fun v S' μ' h => by obtain ⟨r, rfl, h⟩ := h; exact h)
theorem X_cV6v {b ci : Nat} {r : Nat → Option Nat} {v1 v2 v3 v4 v5 v6 : Value} (hd : Dc mi.2.1 pc (.invokevirtual idx) 3 nx) (hm : MokV mj) (hlk : Cond.methodLink mi.1.cls idx mj.1 ∈ lw_gd) (hn : nPar mj.1 6) (hb : S.2 b = some (kO ci r)) (hci : ci < 11) (hC : cN ci = mj.1.cls) (hr : (rest.map fun v => v.category).sum ≤ 8) (hlen : (lg_sl (.ref b :: [v1, v2, v3, v4, v5, v6])).length ≤ mj.2.2.1) (hl2 : lv_args 0 (.ref b :: [v1, v2, v3, v4, v5, v6]) = lv2) (h : X G mj d 0 0 lv2 [] S μ (qv (fun S' μ' => X G mi (d + 1) kc nx lv rest S' μ' Q))) : X G mi (d + 1) kc pc lv (v6 :: v5 :: v4 :: v3 :: v2 :: v1 :: .ref b :: rest) S μ Q := by
  subst hl2
  exact X_callV (As := [v1, v2, v3, v4, v5, v6]) hd hm hlk hn hb hci hC rfl hr hlen (Nat.zero_add kc).symm h (fun v S' μ' h => by obtain ⟨rfl, h⟩ := h; exact h)
theorem X_cV6r {b ci : Nat} {r : Nat → Option Nat} {v1 v2 v3 v4 v5 v6 : Value} (hd : Dc mi.2.1 pc (.invokevirtual idx) 3 nx) (hm : MokV mj) (hlk : Cond.methodLink mi.1.cls idx mj.1 ∈ lw_gd) (hn : nPar mj.1 6) (hb : S.2 b = some (kO ci r)) (hci : ci < 11) (hC : cN ci = mj.1.cls) (hr : (rest.map fun v => v.category).sum ≤ 8) (hlen : (lg_sl (.ref b :: [v1, v2, v3, v4, v5, v6])).length ≤ mj.2.2.1) (hl2 : lv_args 0 (.ref b :: [v1, v2, v3, v4, v5, v6]) = lv2) (h : X G mj d 0 0 lv2 [] S μ (qr (fun r S' μ' => X G mi (d + 1) kc nx lv (va_rf r :: rest) S' μ' Q))) : X G mi (d + 1) kc pc lv (v6 :: v5 :: v4 :: v3 :: v2 :: v1 :: .ref b :: rest) S μ Q := by
  subst hl2
  exact X_callV (As := [v1, v2, v3, v4, v5, v6]) hd hm hlk hn hb hci hC rfl hr hlen (Nat.zero_add kc).symm h (fun v S' μ' h => by obtain ⟨r, rfl, h⟩ := h; exact h)
theorem X_cS0i (hd : Dc mi.2.1 pc (.invokestatic idx) 3 nx) (hm : MokS mj) (hlk : Cond.methodLink mi.1.cls idx mj.1 ∈ lw_gd) (hn : nPar mj.1 0) (hr : (rest.map fun v => v.category).sum ≤ 8) (hlen : (lg_sl []).length ≤ mj.2.2.1) (hl2 : lv_args 0 [] = lv2) (h : X G mj d 0 0 lv2 [] S μ (qi (fun r S' μ' => X G mi (d + 1) kc nx lv (.int r :: rest) S' μ' Q))) : X G mi (d + 1) kc pc lv (rest) S μ Q := by
  subst hl2
  exact X_callS (As := []) hd hm hlk hn rfl hr hlen (Nat.zero_add kc).symm h (fun v S' μ' h => by obtain ⟨r, rfl, h⟩ := h; exact h)
theorem X_cS0v (hd : Dc mi.2.1 pc (.invokestatic idx) 3 nx) (hm : MokS mj) (hlk : Cond.methodLink mi.1.cls idx mj.1 ∈ lw_gd) (hn : nPar mj.1 0) (hr : (rest.map fun v => v.category).sum ≤ 8) (hlen : (lg_sl []).length ≤ mj.2.2.1) (hl2 : lv_args 0 [] = lv2) (h : X G mj d 0 0 lv2 [] S μ (qv (fun S' μ' => X G mi (d + 1) kc nx lv rest S' μ' Q))) : X G mi (d + 1) kc pc lv (rest) S μ Q := by
  subst hl2
  exact X_callS (As := []) hd hm hlk hn rfl hr hlen (Nat.zero_add kc).symm h (fun v S' μ' h => by obtain ⟨rfl, h⟩ := h; exact h)
theorem X_cS0r (hd : Dc mi.2.1 pc (.invokestatic idx) 3 nx) (hm : MokS mj) (hlk : Cond.methodLink mi.1.cls idx mj.1 ∈ lw_gd) (hn : nPar mj.1 0) (hr : (rest.map fun v => v.category).sum ≤ 8) (hlen : (lg_sl []).length ≤ mj.2.2.1) (hl2 : lv_args 0 [] = lv2) (h : X G mj d 0 0 lv2 [] S μ (qr (fun r S' μ' => X G mi (d + 1) kc nx lv (va_rf r :: rest) S' μ' Q))) : X G mi (d + 1) kc pc lv (rest) S μ Q := by
  subst hl2
  exact X_callS (As := []) hd hm hlk hn rfl hr hlen (Nat.zero_add kc).symm h (fun v S' μ' h => by obtain ⟨r, rfl, h⟩ := h; exact h)
theorem X_cS1i {v1 : Value} (hd : Dc mi.2.1 pc (.invokestatic idx) 3 nx) (hm : MokS mj) (hlk : Cond.methodLink mi.1.cls idx mj.1 ∈ lw_gd) (hn : nPar mj.1 1) (hr : (rest.map fun v => v.category).sum ≤ 8) (hlen : (lg_sl [v1]).length ≤ mj.2.2.1) (hl2 : lv_args 0 [v1] = lv2) (h : X G mj d 0 0 lv2 [] S μ (qi (fun r S' μ' => X G mi (d + 1) kc nx lv (.int r :: rest) S' μ' Q))) : X G mi (d + 1) kc pc lv (v1 :: rest) S μ Q := by
  subst hl2
  exact X_callS (As := [v1]) hd hm hlk hn rfl hr hlen (Nat.zero_add kc).symm h (fun v S' μ' h => by obtain ⟨r, rfl, h⟩ := h; exact h)
theorem X_cS1v {v1 : Value} (hd : Dc mi.2.1 pc (.invokestatic idx) 3 nx) (hm : MokS mj) (hlk : Cond.methodLink mi.1.cls idx mj.1 ∈ lw_gd) (hn : nPar mj.1 1) (hr : (rest.map fun v => v.category).sum ≤ 8) (hlen : (lg_sl [v1]).length ≤ mj.2.2.1) (hl2 : lv_args 0 [v1] = lv2) (h : X G mj d 0 0 lv2 [] S μ (qv (fun S' μ' => X G mi (d + 1) kc nx lv rest S' μ' Q))) : X G mi (d + 1) kc pc lv (v1 :: rest) S μ Q := by
  subst hl2
  exact X_callS (As := [v1]) hd hm hlk hn rfl hr hlen (Nat.zero_add kc).symm h (fun v S' μ' h => by obtain ⟨rfl, h⟩ := h; exact h)
theorem X_cS1r {v1 : Value} (hd : Dc mi.2.1 pc (.invokestatic idx) 3 nx) (hm : MokS mj) (hlk : Cond.methodLink mi.1.cls idx mj.1 ∈ lw_gd) (hn : nPar mj.1 1) (hr : (rest.map fun v => v.category).sum ≤ 8) (hlen : (lg_sl [v1]).length ≤ mj.2.2.1) (hl2 : lv_args 0 [v1] = lv2) (h : X G mj d 0 0 lv2 [] S μ (qr (fun r S' μ' => X G mi (d + 1) kc nx lv (va_rf r :: rest) S' μ' Q))) : X G mi (d + 1) kc pc lv (v1 :: rest) S μ Q := by
  subst hl2
  exact X_callS (As := [v1]) hd hm hlk hn rfl hr hlen (Nat.zero_add kc).symm h (fun v S' μ' h => by obtain ⟨r, rfl, h⟩ := h; exact h)
theorem X_cS2i {v1 v2 : Value} (hd : Dc mi.2.1 pc (.invokestatic idx) 3 nx) (hm : MokS mj) (hlk : Cond.methodLink mi.1.cls idx mj.1 ∈ lw_gd) (hn : nPar mj.1 2) (hr : (rest.map fun v => v.category).sum ≤ 8) (hlen : (lg_sl [v1, v2]).length ≤ mj.2.2.1) (hl2 : lv_args 0 [v1, v2] = lv2) (h : X G mj d 0 0 lv2 [] S μ (qi (fun r S' μ' => X G mi (d + 1) kc nx lv (.int r :: rest) S' μ' Q))) : X G mi (d + 1) kc pc lv (v2 :: v1 :: rest) S μ Q := by
  subst hl2
  exact X_callS (As := [v1, v2]) hd hm hlk hn rfl hr hlen (Nat.zero_add kc).symm h (fun v S' μ' h => by obtain ⟨r, rfl, h⟩ := h; exact h)
theorem X_cS2v {v1 v2 : Value} (hd : Dc mi.2.1 pc (.invokestatic idx) 3 nx) (hm : MokS mj) (hlk : Cond.methodLink mi.1.cls idx mj.1 ∈ lw_gd) (hn : nPar mj.1 2) (hr : (rest.map fun v => v.category).sum ≤ 8) (hlen : (lg_sl [v1, v2]).length ≤ mj.2.2.1) (hl2 : lv_args 0 [v1, v2] = lv2) (h : X G mj d 0 0 lv2 [] S μ (qv (fun S' μ' => X G mi (d + 1) kc nx lv rest S' μ' Q))) : X G mi (d + 1) kc pc lv (v2 :: v1 :: rest) S μ Q := by
  subst hl2
  exact X_callS (As := [v1, v2]) hd hm hlk hn rfl hr hlen (Nat.zero_add kc).symm h (fun v S' μ' h => by obtain ⟨rfl, h⟩ := h; exact h)
theorem X_cS2r {v1 v2 : Value} (hd : Dc mi.2.1 pc (.invokestatic idx) 3 nx) (hm : MokS mj) (hlk : Cond.methodLink mi.1.cls idx mj.1 ∈ lw_gd) (hn : nPar mj.1 2) (hr : (rest.map fun v => v.category).sum ≤ 8) (hlen : (lg_sl [v1, v2]).length ≤ mj.2.2.1) (hl2 : lv_args 0 [v1, v2] = lv2) (h : X G mj d 0 0 lv2 [] S μ (qr (fun r S' μ' => X G mi (d + 1) kc nx lv (va_rf r :: rest) S' μ' Q))) : X G mi (d + 1) kc pc lv (v2 :: v1 :: rest) S μ Q := by
  subst hl2
  exact X_callS (As := [v1, v2]) hd hm hlk hn rfl hr hlen (Nat.zero_add kc).symm h (fun v S' μ' h => by obtain ⟨r, rfl, h⟩ := h; exact h)
theorem X_cS3i {v1 v2 v3 : Value} (hd : Dc mi.2.1 pc (.invokestatic idx) 3 nx) (hm : MokS mj) (hlk : Cond.methodLink mi.1.cls idx mj.1 ∈ lw_gd) (hn : nPar mj.1 3) (hr : (rest.map fun v => v.category).sum ≤ 8) (hlen : (lg_sl [v1, v2, v3]).length ≤ mj.2.2.1) (hl2 : lv_args 0 [v1, v2, v3] = lv2) (h : X G mj d 0 0 lv2 [] S μ (qi (fun r S' μ' => X G mi (d + 1) kc nx lv (.int r :: rest) S' μ' Q))) : X G mi (d + 1) kc pc lv (v3 :: v2 :: v1 :: rest) S μ Q := by
  subst hl2
  exact X_callS (As := [v1, v2, v3]) hd hm hlk hn rfl hr hlen (Nat.zero_add kc).symm h (fun v S' μ' h => by obtain ⟨r, rfl, h⟩ := h; exact h)
theorem X_cS3v {v1 v2 v3 : Value} (hd : Dc mi.2.1 pc (.invokestatic idx) 3 nx) (hm : MokS mj) (hlk : Cond.methodLink mi.1.cls idx mj.1 ∈ lw_gd) (hn : nPar mj.1 3) (hr : (rest.map fun v => v.category).sum ≤ 8) (hlen : (lg_sl [v1, v2, v3]).length ≤ mj.2.2.1) (hl2 : lv_args 0 [v1, v2, v3] = lv2) (h : X G mj d 0 0 lv2 [] S μ (qv (fun S' μ' => X G mi (d + 1) kc nx lv rest S' μ' Q))) : X G mi (d + 1) kc pc lv (v3 :: v2 :: v1 :: rest) S μ Q := by
  subst hl2
  exact X_callS (As := [v1, v2, v3]) hd hm hlk hn rfl hr hlen (Nat.zero_add kc).symm h (fun v S' μ' h => by obtain ⟨rfl, h⟩ := h; exact h)
theorem X_cS3r {v1 v2 v3 : Value} (hd : Dc mi.2.1 pc (.invokestatic idx) 3 nx) (hm : MokS mj) (hlk : Cond.methodLink mi.1.cls idx mj.1 ∈ lw_gd) (hn : nPar mj.1 3) (hr : (rest.map fun v => v.category).sum ≤ 8) (hlen : (lg_sl [v1, v2, v3]).length ≤ mj.2.2.1) (hl2 : lv_args 0 [v1, v2, v3] = lv2) (h : X G mj d 0 0 lv2 [] S μ (qr (fun r S' μ' => X G mi (d + 1) kc nx lv (va_rf r :: rest) S' μ' Q))) : X G mi (d + 1) kc pc lv (v3 :: v2 :: v1 :: rest) S μ Q := by
  subst hl2
  exact X_callS (As := [v1, v2, v3]) hd hm hlk hn rfl hr hlen (Nat.zero_add kc).symm h (fun v S' μ' h => by obtain ⟨r, rfl, h⟩ := h; exact h)
theorem X_cS4i {v1 v2 v3 v4 : Value} (hd : Dc mi.2.1 pc (.invokestatic idx) 3 nx) (hm : MokS mj) (hlk : Cond.methodLink mi.1.cls idx mj.1 ∈ lw_gd) (hn : nPar mj.1 4) (hr : (rest.map fun v => v.category).sum ≤ 8) (hlen : (lg_sl [v1, v2, v3, v4]).length ≤ mj.2.2.1) (hl2 : lv_args 0 [v1, v2, v3, v4] = lv2) (h : X G mj d 0 0 lv2 [] S μ (qi (fun r S' μ' => X G mi (d + 1) kc nx lv (.int r :: rest) S' μ' Q))) : X G mi (d + 1) kc pc lv (v4 :: v3 :: v2 :: v1 :: rest) S μ Q := by
  subst hl2
  exact X_callS (As := [v1, v2, v3, v4]) hd hm hlk hn rfl hr hlen (Nat.zero_add kc).symm h (fun v S' μ' h => by obtain ⟨r, rfl, h⟩ := h; exact h)
theorem X_cS4v {v1 v2 v3 v4 : Value} (hd : Dc mi.2.1 pc (.invokestatic idx) 3 nx) (hm : MokS mj) (hlk : Cond.methodLink mi.1.cls idx mj.1 ∈ lw_gd) (hn : nPar mj.1 4) (hr : (rest.map fun v => v.category).sum ≤ 8) (hlen : (lg_sl [v1, v2, v3, v4]).length ≤ mj.2.2.1) (hl2 : lv_args 0 [v1, v2, v3, v4] = lv2) (h : X G mj d 0 0 lv2 [] S μ (qv (fun S' μ' => X G mi (d + 1) kc nx lv rest S' μ' Q))) : X G mi (d + 1) kc pc lv (v4 :: v3 :: v2 :: v1 :: rest) S μ Q := by
  subst hl2
  exact X_callS (As := [v1, v2, v3, v4]) hd hm hlk hn rfl hr hlen (Nat.zero_add kc).symm h (fun v S' μ' h => by obtain ⟨rfl, h⟩ := h; exact h)
theorem X_cS4r {v1 v2 v3 v4 : Value} (hd : Dc mi.2.1 pc (.invokestatic idx) 3 nx) (hm : MokS mj) (hlk : Cond.methodLink mi.1.cls idx mj.1 ∈ lw_gd) (hn : nPar mj.1 4) (hr : (rest.map fun v => v.category).sum ≤ 8) (hlen : (lg_sl [v1, v2, v3, v4]).length ≤ mj.2.2.1) (hl2 : lv_args 0 [v1, v2, v3, v4] = lv2) (h : X G mj d 0 0 lv2 [] S μ (qr (fun r S' μ' => X G mi (d + 1) kc nx lv (va_rf r :: rest) S' μ' Q))) : X G mi (d + 1) kc pc lv (v4 :: v3 :: v2 :: v1 :: rest) S μ Q := by
  subst hl2
  exact X_callS (As := [v1, v2, v3, v4]) hd hm hlk hn rfl hr hlen (Nat.zero_add kc).symm h (fun v S' μ' h => by obtain ⟨r, rfl, h⟩ := h; exact h)
theorem X_cS5i {v1 v2 v3 v4 v5 : Value} (hd : Dc mi.2.1 pc (.invokestatic idx) 3 nx) (hm : MokS mj) (hlk : Cond.methodLink mi.1.cls idx mj.1 ∈ lw_gd) (hn : nPar mj.1 5) (hr : (rest.map fun v => v.category).sum ≤ 8) (hlen : (lg_sl [v1, v2, v3, v4, v5]).length ≤ mj.2.2.1) (hl2 : lv_args 0 [v1, v2, v3, v4, v5] = lv2) (h : X G mj d 0 0 lv2 [] S μ (qi (fun r S' μ' => X G mi (d + 1) kc nx lv (.int r :: rest) S' μ' Q))) : X G mi (d + 1) kc pc lv (v5 :: v4 :: v3 :: v2 :: v1 :: rest) S μ Q := by
  subst hl2
  exact X_callS (As := [v1, v2, v3, v4, v5]) hd hm hlk hn rfl hr hlen (Nat.zero_add kc).symm h (fun v S' μ' h => by obtain ⟨r, rfl, h⟩ := h; exact h)
theorem X_cS5v {v1 v2 v3 v4 v5 : Value} (hd : Dc mi.2.1 pc (.invokestatic idx) 3 nx) (hm : MokS mj) (hlk : Cond.methodLink mi.1.cls idx mj.1 ∈ lw_gd) (hn : nPar mj.1 5) (hr : (rest.map fun v => v.category).sum ≤ 8) (hlen : (lg_sl [v1, v2, v3, v4, v5]).length ≤ mj.2.2.1) (hl2 : lv_args 0 [v1, v2, v3, v4, v5] = lv2) (h : X G mj d 0 0 lv2 [] S μ (qv (fun S' μ' => X G mi (d + 1) kc nx lv rest S' μ' Q))) : X G mi (d + 1) kc pc lv (v5 :: v4 :: v3 :: v2 :: v1 :: rest) S μ Q := by
  subst hl2
  exact X_callS (As := [v1, v2, v3, v4, v5]) hd hm hlk hn rfl hr hlen (Nat.zero_add kc).symm h (fun v S' μ' h => by obtain ⟨rfl, h⟩ := h; exact h)
theorem X_cS5r {v1 v2 v3 v4 v5 : Value} (hd : Dc mi.2.1 pc (.invokestatic idx) 3 nx) (hm : MokS mj) (hlk : Cond.methodLink mi.1.cls idx mj.1 ∈ lw_gd) (hn : nPar mj.1 5) (hr : (rest.map fun v => v.category).sum ≤ 8) (hlen : (lg_sl [v1, v2, v3, v4, v5]).length ≤ mj.2.2.1) (hl2 : lv_args 0 [v1, v2, v3, v4, v5] = lv2) (h : X G mj d 0 0 lv2 [] S μ (qr (fun r S' μ' => X G mi (d + 1) kc nx lv (va_rf r :: rest) S' μ' Q))) : X G mi (d + 1) kc pc lv (v5 :: v4 :: v3 :: v2 :: v1 :: rest) S μ Q := by
  subst hl2
  exact X_callS (As := [v1, v2, v3, v4, v5]) hd hm hlk hn rfl hr hlen (Nat.zero_add kc).symm h (fun v S' μ' h => by obtain ⟨r, rfl, h⟩ := h; exact h)
theorem X_cS6i {v1 v2 v3 v4 v5 v6 : Value} (hd : Dc mi.2.1 pc (.invokestatic idx) 3 nx) (hm : MokS mj) (hlk : Cond.methodLink mi.1.cls idx mj.1 ∈ lw_gd) (hn : nPar mj.1 6) (hr : (rest.map fun v => v.category).sum ≤ 8) (hlen : (lg_sl [v1, v2, v3, v4, v5, v6]).length ≤ mj.2.2.1) (hl2 : lv_args 0 [v1, v2, v3, v4, v5, v6] = lv2) (h : X G mj d 0 0 lv2 [] S μ (qi (fun r S' μ' => X G mi (d + 1) kc nx lv (.int r :: rest) S' μ' Q))) : X G mi (d + 1) kc pc lv (v6 :: v5 :: v4 :: v3 :: v2 :: v1 :: rest) S μ Q := by
  subst hl2
  exact X_callS (As := [v1, v2, v3, v4, v5, v6]) hd hm hlk hn rfl hr hlen (Nat.zero_add kc).symm h (fun v S' μ' h => by obtain ⟨r, rfl, h⟩ := h; exact h)
theorem X_cS6v {v1 v2 v3 v4 v5 v6 : Value} (hd : Dc mi.2.1 pc (.invokestatic idx) 3 nx) (hm : MokS mj) (hlk : Cond.methodLink mi.1.cls idx mj.1 ∈ lw_gd) (hn : nPar mj.1 6) (hr : (rest.map fun v => v.category).sum ≤ 8) (hlen : (lg_sl [v1, v2, v3, v4, v5, v6]).length ≤ mj.2.2.1) (hl2 : lv_args 0 [v1, v2, v3, v4, v5, v6] = lv2) (h : X G mj d 0 0 lv2 [] S μ (qv (fun S' μ' => X G mi (d + 1) kc nx lv rest S' μ' Q))) : X G mi (d + 1) kc pc lv (v6 :: v5 :: v4 :: v3 :: v2 :: v1 :: rest) S μ Q := by
  subst hl2
  exact X_callS (As := [v1, v2, v3, v4, v5, v6]) hd hm hlk hn rfl hr hlen (Nat.zero_add kc).symm h (fun v S' μ' h => by obtain ⟨rfl, h⟩ := h; exact h)
theorem X_cS6r {v1 v2 v3 v4 v5 v6 : Value} (hd : Dc mi.2.1 pc (.invokestatic idx) 3 nx) (hm : MokS mj) (hlk : Cond.methodLink mi.1.cls idx mj.1 ∈ lw_gd) (hn : nPar mj.1 6) (hr : (rest.map fun v => v.category).sum ≤ 8) (hlen : (lg_sl [v1, v2, v3, v4, v5, v6]).length ≤ mj.2.2.1) (hl2 : lv_args 0 [v1, v2, v3, v4, v5, v6] = lv2) (h : X G mj d 0 0 lv2 [] S μ (qr (fun r S' μ' => X G mi (d + 1) kc nx lv (va_rf r :: rest) S' μ' Q))) : X G mi (d + 1) kc pc lv (v6 :: v5 :: v4 :: v3 :: v2 :: v1 :: rest) S μ Q := by
  subst hl2
  exact X_callS (As := [v1, v2, v3, v4, v5, v6]) hd hm hlk hn rfl hr hlen (Nat.zero_add kc).symm h (fun v S' μ' h => by obtain ⟨r, rfl, h⟩ := h; exact h)
theorem X_cI0v {b : Nat} (hd : Dc mi.2.1 pc (.invokespecial idx) 3 nx) (hm : MokI mj) (hlk : Cond.methodLink mi.1.cls idx mj.1 ∈ lw_gd) (hn : nPar mj.1 0) (hr : (rest.map fun v => v.category).sum ≤ 8) (hlen : (lg_sl (.ref b :: [])).length ≤ mj.2.2.1) (hl2 : lv_args 0 (.ref b :: []) = lv2) (h : X G mj d 0 0 lv2 [] S μ (qv (fun S' μ' => X G mi (d + 1) kc nx lv rest S' μ' Q))) : X G mi (d + 1) kc pc lv (.ref b :: rest) S μ Q := by
  subst hl2
  exact X_callI (As := []) hd hm hlk hn rfl hr hlen (Nat.zero_add kc).symm h (fun v S' μ' h => by obtain ⟨rfl, h⟩ := h; exact h)
theorem X_cI1v {b : Nat} {v1 : Value} (hd : Dc mi.2.1 pc (.invokespecial idx) 3 nx) (hm : MokI mj) (hlk : Cond.methodLink mi.1.cls idx mj.1 ∈ lw_gd) (hn : nPar mj.1 1) (hr : (rest.map fun v => v.category).sum ≤ 8) (hlen : (lg_sl (.ref b :: [v1])).length ≤ mj.2.2.1) (hl2 : lv_args 0 (.ref b :: [v1]) = lv2) (h : X G mj d 0 0 lv2 [] S μ (qv (fun S' μ' => X G mi (d + 1) kc nx lv rest S' μ' Q))) : X G mi (d + 1) kc pc lv (v1 :: .ref b :: rest) S μ Q := by
  subst hl2
  exact X_callI (As := [v1]) hd hm hlk hn rfl hr hlen (Nat.zero_add kc).symm h (fun v S' μ' h => by obtain ⟨rfl, h⟩ := h; exact h)
theorem X_cI2v {b : Nat} {v1 v2 : Value} (hd : Dc mi.2.1 pc (.invokespecial idx) 3 nx) (hm : MokI mj) (hlk : Cond.methodLink mi.1.cls idx mj.1 ∈ lw_gd) (hn : nPar mj.1 2) (hr : (rest.map fun v => v.category).sum ≤ 8) (hlen : (lg_sl (.ref b :: [v1, v2])).length ≤ mj.2.2.1) (hl2 : lv_args 0 (.ref b :: [v1, v2]) = lv2) (h : X G mj d 0 0 lv2 [] S μ (qv (fun S' μ' => X G mi (d + 1) kc nx lv rest S' μ' Q))) : X G mi (d + 1) kc pc lv (v2 :: v1 :: .ref b :: rest) S μ Q := by
  subst hl2
  exact X_callI (As := [v1, v2]) hd hm hlk hn rfl hr hlen (Nat.zero_add kc).symm h (fun v S' μ' h => by obtain ⟨rfl, h⟩ := h; exact h)
theorem X_cI3v {b : Nat} {v1 v2 v3 : Value} (hd : Dc mi.2.1 pc (.invokespecial idx) 3 nx) (hm : MokI mj) (hlk : Cond.methodLink mi.1.cls idx mj.1 ∈ lw_gd) (hn : nPar mj.1 3) (hr : (rest.map fun v => v.category).sum ≤ 8) (hlen : (lg_sl (.ref b :: [v1, v2, v3])).length ≤ mj.2.2.1) (hl2 : lv_args 0 (.ref b :: [v1, v2, v3]) = lv2) (h : X G mj d 0 0 lv2 [] S μ (qv (fun S' μ' => X G mi (d + 1) kc nx lv rest S' μ' Q))) : X G mi (d + 1) kc pc lv (v3 :: v2 :: v1 :: .ref b :: rest) S μ Q := by
  subst hl2
  exact X_callI (As := [v1, v2, v3]) hd hm hlk hn rfl hr hlen (Nat.zero_add kc).symm h (fun v S' μ' h => by obtain ⟨rfl, h⟩ := h; exact h)
theorem X_cT0i {b t : Nat} (hd : Dc mi.2.1 pc (.invokevirtual idx) 3 nx) (hm : MokV mj) (hlk : Cond.methodLink mi.1.cls idx mj.1 ∈ lw_gd) (hn : nPar mj.1 0) (hb : S.2 b = some (kT t)) (hC : mj.1.cls = "java/lang/String") (hr : (rest.map fun v => v.category).sum ≤ 8) (hlen : (lg_sl (.ref b :: [])).length ≤ mj.2.2.1) (hl2 : lv_args 0 (.ref b :: []) = lv2) (h : X G mj d 0 0 lv2 [] S μ (qi (fun r S' μ' => X G mi (d + 1) kc nx lv (.int r :: rest) S' μ' Q))) : X G mi (d + 1) kc pc lv (.ref b :: rest) S μ Q := by
  subst hl2
  exact X_callT (As := []) hd hm hlk hn hb hC rfl hr hlen (Nat.zero_add kc).symm h (fun v S' μ' h => by obtain ⟨r, rfl, h⟩ := h; exact h)
theorem X_cT1i {b t : Nat} {v1 : Value} (hd : Dc mi.2.1 pc (.invokevirtual idx) 3 nx) (hm : MokV mj) (hlk : Cond.methodLink mi.1.cls idx mj.1 ∈ lw_gd) (hn : nPar mj.1 1) (hb : S.2 b = some (kT t)) (hC : mj.1.cls = "java/lang/String") (hr : (rest.map fun v => v.category).sum ≤ 8) (hlen : (lg_sl (.ref b :: [v1])).length ≤ mj.2.2.1) (hl2 : lv_args 0 (.ref b :: [v1]) = lv2) (h : X G mj d 0 0 lv2 [] S μ (qi (fun r S' μ' => X G mi (d + 1) kc nx lv (.int r :: rest) S' μ' Q))) : X G mi (d + 1) kc pc lv (v1 :: .ref b :: rest) S μ Q := by
  subst hl2
  exact X_callT (As := [v1]) hd hm hlk hn hb hC rfl hr hlen (Nat.zero_add kc).symm h (fun v S' μ' h => by obtain ⟨r, rfl, h⟩ := h; exact h)
theorem X_cT2i {b t : Nat} {v1 v2 : Value} (hd : Dc mi.2.1 pc (.invokevirtual idx) 3 nx) (hm : MokV mj) (hlk : Cond.methodLink mi.1.cls idx mj.1 ∈ lw_gd) (hn : nPar mj.1 2) (hb : S.2 b = some (kT t)) (hC : mj.1.cls = "java/lang/String") (hr : (rest.map fun v => v.category).sum ≤ 8) (hlen : (lg_sl (.ref b :: [v1, v2])).length ≤ mj.2.2.1) (hl2 : lv_args 0 (.ref b :: [v1, v2]) = lv2) (h : X G mj d 0 0 lv2 [] S μ (qi (fun r S' μ' => X G mi (d + 1) kc nx lv (.int r :: rest) S' μ' Q))) : X G mi (d + 1) kc pc lv (v2 :: v1 :: .ref b :: rest) S μ Q := by
  subst hl2
  exact X_callT (As := [v1, v2]) hd hm hlk hn hb hC rfl hr hlen (Nat.zero_add kc).symm h (fun v S' μ' h => by obtain ⟨r, rfl, h⟩ := h; exact h)
theorem X_max {x y : Int32} (hd : Dc mi.2.1 pc (.invokestatic idx) 3 nx) (hlk : Cond.methodLink mi.1.cls idx Lib.Math.max.name ∈ lw_gd) (hr : (rest.map fun v => v.category).sum ≤ 8) (k : X G mi (d + 1) kc nx lv (.int (if x < y then y else x) :: rest) S μ Q) : X G mi (d + 1) kc pc lv (.int y :: .int x :: rest) S μ Q := by
  intro p l e R s m args below meth c mc Z C hZ H locs cells slots ls hR hk hl
  obtain ⟨hd, rfl⟩ := hd
  have hts := C.2.2.2.2.2.1
  have hroom := C.2.2.2.2.2.2.2.2.1
  exact va_mmax C.1 C.2.1 (C.2.2.2.1.trans hl.1.symm) C.2.2.2.2.1 (hts _ hlk) (hts _ (gd (wk 46 (by decide +kernel)) rfl)) (hts _ (gd (wk 4 (by decide +kernel)) rfl)) (hts _ (gd (wk 47 (by decide +kernel)) rfl)) (by omega) (by omega) (by omega) (by omega) hd (k p l e R s m args below meth c mc Z C hZ H locs cells slots ls hR hk hl)
theorem X_min {x y : Int32} (hd : Dc mi.2.1 pc (.invokestatic idx) 3 nx) (hlk : Cond.methodLink mi.1.cls idx Lib.Math.min.name ∈ lw_gd) (hr : (rest.map fun v => v.category).sum ≤ 8) (k : X G mi (d + 1) kc nx lv (.int (if y < x then y else x) :: rest) S μ Q) : X G mi (d + 1) kc pc lv (.int y :: .int x :: rest) S μ Q := by
  intro p l e R s m args below meth c mc Z C hZ H locs cells slots ls hR hk hl
  obtain ⟨hd, rfl⟩ := hd
  have hts := C.2.2.2.2.2.1
  have hroom := C.2.2.2.2.2.2.2.2.1
  exact va_mmin C.1 C.2.1 (C.2.2.2.1.trans hl.1.symm) C.2.2.2.2.1 (hts _ hlk) (hts _ (gd (wk 538 (by decide +kernel)) rfl)) (hts _ (gd (wk 4 (by decide +kernel)) rfl)) (hts _ (gd (wk 539 (by decide +kernel)) rfl)) (by omega) (by omega) (by omega) (by omega) hd (k p l e R s m args below meth c mc Z C hZ H locs cells slots ls hR hk hl)
theorem X_abs {x : Int32} (hd : Dc mi.2.1 pc (.invokestatic idx) 3 nx) (hlk : Cond.methodLink mi.1.cls idx Lib.Math.abs.name ∈ lw_gd) (hr : (rest.map fun v => v.category).sum ≤ 8) (k : X G mi (d + 1) kc nx lv (.int (if 0 ≤ x then x else 0 - x) :: rest) S μ Q) : X G mi (d + 1) kc pc lv (.int x :: rest) S μ Q := by
  intro p l e R s m args below meth c mc Z C hZ H locs cells slots ls hR hk hl
  obtain ⟨hd, rfl⟩ := hd
  have hts := C.2.2.2.2.2.1
  have hroom := C.2.2.2.2.2.2.2.2.1
  exact va_mabs C.1 C.2.1 (C.2.2.2.1.trans hl.1.symm) C.2.2.2.2.1 (hts _ hlk) (hts _ (gd (wk 478 (by decide +kernel)) rfl)) (hts _ (gd (wk 4 (by decide +kernel)) rfl)) (hts _ (gd (wk 479 (by decide +kernel)) rfl)) (by omega) (by omega) (by omega) (by omega) hd (k p l e R s m args below meth c mc Z C hZ H locs cells slots ls hR hk hl)
theorem X_lcmp {x y : Int64} (hd : Dc mi.2.1 pc .lcmp 1 nx) (k : X G mi d kc nx lv (.int (lg_cmp x y) :: rest) S μ Q) : X G mi d kc pc lv (.long y :: .long x :: rest) S μ Q := by
  intro p l e R s m args below meth c mc Z C hZ H locs cells slots ls hR hk hl
  obtain ⟨hd, rfl⟩ := hd
  exact W.lcmp C.1 C.2.1 hd (k p l e R s m args below meth c mc Z C hZ H locs cells slots ls hR hk hl)
theorem X_copy {a0 a n0 n1 : Nat} {sp dp n : Int32} (hd : Dc mi.2.1 pc (.invokestatic idx) 3 nx) (hlk : Cond.methodLink mi.1.cls idx arraycopyName ∈ lw_gd) (hb0 : S.2 a0 = some (kI n0)) (hb1 : S.2 a = some (kI n1)) (h1 : ¬ sp < 0) (h2 : ¬ dp < 0) (h3 : ¬ n < 0) (h4 : sp.toNatClampNeg + n.toNatClampNeg ≤ n0) (h5 : dp.toNatClampNeg + n.toNatClampNeg ≤ n1) (hr : (rest.map fun v => v.category).sum ≤ 8)
    (k : X G mi (d + 1) kc nx lv rest S (Mx μ a (va_cpy (μ a0) (μ a) sp.toNatClampNeg dp.toNatClampNeg n.toNatClampNeg)) Q) : X G mi (d + 1) kc pc lv (.int n :: .int dp :: .ref a :: .int sp :: .ref a0 :: rest) S μ Q := by
  intro p l e R s m args below meth c mc Z C hZ H locs cells slots ls hR hk hl
  obtain ⟨hd, rfl⟩ := hd
  have hts := C.2.2.2.2.2.1
  have hroom := C.2.2.2.2.2.2.2.2.1
  have hal := C.2.2.2.2.2.2.2.2.2.1.alike
  have nn : ∀ z : Int32, ¬ z < 0 → z.toInt = (z.toNatClampNeg : Int) := by
    intro z hz
    have hz0 : (0 : Int) ≤ z.toInt := by
      have := Int32.not_lt.mp hz
      simpa using Int32.le_iff_toInt_le.mp this
    show z.toInt = ((z.toInt.toNat : Nat) : Int)
    omega
  have hnw : nativeFrameWords "java/lang/System" "arraycopy" 5 = 7 := by decide +kernel
  intro T hT X
  obtain ⟨hga0, c0, hA0, hc0⟩ := hR.at hb0
  obtain ⟨hga, c1, hA1, hc1⟩ := hR.at hb1
  obtain ⟨-, k0, hk0, cm0, hkk0⟩ := arrOfT_moved hal hA0 n0 (fun j => .int (μ a0 j))
  obtain ⟨-, k1, hk1, cm1, hkk1⟩ := arrOfT_moved hal hA1 n1 (fun j => .int (μ a j))
  obtain ⟨vm', X', step⟩ := X.arraycopy C.1 C.2.2.2.2.1 (hts _ hlk) (hts (.native arraycopyName) (gd (wk 677 (by decide +kernel)) rfl)) (hts (.static arraycopyName) (gd (wk 676 (by decide +kernel)) rfl)) (hts (.initialized "java/lang/System") (gd (wk 18 (by decide +kernel)) rfl)) (src := a0) (dst := a) (cs := arrV c0 n0 (fun j => .int (μ a0 j))) (cd := arrV c1 n1 (fun j => .int (μ a j))) (srcPos := sp) (destPos := dp) (n := n) (by rw [hT]; exact hc0) (by rw [hT]; exact hc1)
    (fun _ h => by cases h) (fun _ h => by cases h) (fun h => by cases h) (fun h => by cases h) hk0 hk1 hkk0 hkk1 (by simp [refKind]) h1 h2 h3
    (by rw [nn sp h1, nn n h3, arrV_size]; omega)
    (by rw [nn dp h2, nn n h3, arrV_size]; omega)
    (fun vm₁ _ i hi => by
      have e : (arrV c0 n0 (fun j => .int (μ a0 j))).slots.getD (sp.toNatClampNeg + i) .null = .int (μ a0 (sp.toNatClampNeg + i)) := by
        rw [Array.getD_eq_getD_getElem?, arrV_read _ _ (by omega)]
        rfl
      refine ⟨?_, ?_⟩
      · rw [e]
        rfl
      · rw [e]
        exact trivial)
    (g := F0 m pc ls (.int n :: .int dp :: .ref a :: .int sp :: .ref a0 :: rest)) rfl (by rw [C.2.2.2.1]; exact hl.1) (rest := rest) rfl (by rw [C.2.1]; exact hd) (by omega) (by rw [hnw]; show 2 * 0 + _ + (7 + 11) ≤ _; omega)
  have e1 : copied (arrV c0 n0 (fun j => .int (μ a0 j))) (arrV c1 n1 (fun j => .int (μ a j))) sp dp n = arrV c1 n1 (fun j => .int (va_cpy (μ a0) (μ a) sp.toNatClampNeg dp.toNatClampNeg n.toNatClampNeg j)) := va_copied (fun z => .int z) c0 c1 (μ a0) (μ a) h4
  rw [e1] at X' step
  have hl1 : a < H.size := (Array.getElem?_eq_some_iff.mp hc1).1
  have hheap : ((T.setVm vm').setCell a (arrV c1 n1 (fun j => .int (va_cpy (μ a0) (μ a) sp.toNatClampNeg dp.toNatClampNeg n.toNatClampNeg j)))).heap = H.setIfInBounds a (arrV c1 n1 (fun j => .int (va_cpy (μ a0) (μ a) sp.toNatClampNeg dp.toNatClampNeg n.toNatClampNeg j))) := by rw [← hT]; rfl
  generalize hH1 : H.setIfInBounds a (arrV c1 n1 (fun j => .int (va_cpy (μ a0) (μ a) sp.toNatClampNeg dp.toNatClampNeg n.toNatClampNeg j))) = H1 at hheap
  have oq : ∀ q : Nat, q ≠ a → H1[q]? = H[q]? := fun q hq => by rw [← hH1]; simp [Array.getElem?_setIfInBounds, Ne.symm hq]
  have eq1 : H1[a]? = some (arrV c1 n1 (fun j => .int (va_cpy (μ a0) (μ a) sp.toNatClampNeg dp.toNatClampNeg n.toNatClampNeg j))) := by rw [← hH1]; simp [Array.getElem?_setIfInBounds, hl1]
  have hz : H1.size = H.size := by rw [← hH1]; simp
  have hR1 := (hR.put (S' := S) (μ' := Mx μ a (va_cpy (μ a0) (μ a) sp.toNatClampNeg dp.toNatClampNeg n.toNatClampNeg)) (i := 0) rfl hga (hR.lt hb1) hz oq (fun q hq => ⟨rfl, Mx_ne hq⟩) (by rw [hb1, Mx_same]; exact ⟨hga, c1, hA1, eq1⟩)).nil
  obtain ⟨t, a1, b1⟩ := k p l e R s m args below meth c mc Z C hZ H1 _ cells slots ls (hR1.app hR.2.2.2.2.2 (L := _) (fun q hq => by
      obtain ⟨z, -, hz⟩ := List.mem_map.mp hq
      rw [← hz]
      exact hga)) hk hl _ hheap X'
  exact ⟨t, step t a1, b1⟩
end
