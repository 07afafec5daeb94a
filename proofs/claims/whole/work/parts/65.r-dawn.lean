/-- a dawn of the class at D -/
def rD (D k : Nat) : Option Nat := match k with
  | 0 => some (D + 1)
  | 1 => some (D + 3)
  | 2 => some (D + 5)
  | 3 => some (D + 7)
  | 4 => some (D + 9)
  | 5 => some (D + 11)
  | 6 => some (D + 13)
  | 7 => some (D + 14)
  | 8 => some (D + 16)
  | 9 => some (D + 18)
  | _ => none
def DS (G : Gl) (S : Sh) (D : Nat) : Prop := S.2 D = some (kO 2 (rD D)) ∧ FS S (D + 1) (G.2.2.2 0) (G.2.2.2 1) 40 ∧ FS S (D + 3) (G.2.2.2 2) (G.2.2.2 3) 32 ∧ FS S (D + 5) (G.2.2.2 4) (G.2.2.2 5) 24 ∧ RS S (D + 7) 6 ∧ RS S (D + 9) 50 ∧ RS S (D + 11) 20 ∧ S.2 (D + 13) = some (kR 0 6 (fun i => some (D + 20 + 2 * i))) ∧ RS S (D + 14) 0 ∧ RS S (D + 16) 50 ∧ RS S (D + 18) 50 ∧ ∀ i, i < 6 → RS S (D + 20 + 2 * i) 5
/-- a row of the class holds x numbers f -/
def RwI (μ : Mu) (R : Nat) (x : Int32) (f : Nat → Int32) : Prop := μ R 1 = x ∧ ∀ i, i < nv x → μ (R + 1) i = f i
/-- the class's codes: operators by their signs -/
def tr (c : Int32) : Int32 := if c < 20000 then c else if c = 20000 then 20124 else if c = 20001 then 20038 else if c = 20002 then 20060 else if c = 20003 then 20061 else if c = 20004 then 20062 else if c = 20005 then 20043 else if c = 20006 then 20045 else if c = 20007 then 20042 else if c = 20008 then 20047 else if c = 20009 then 20037 else 20033
def repD (μ : Mu) (D : Nat) (N : Nat → Int32) : Prop := (μ D 10 = N 0 ∧ μ D 11 = N 7) ∧
  (μ (D + 1) 3 = N 1 ∧ ∀ p c, p < nv (N 1) → c < 4 → μ (D + 2) (4 * p + c) = N (8 + 4 * p + c)) ∧
  (μ (D + 3) 3 = N 2 ∧ ∀ p c, p < nv (N 2) → c < 4 → μ (D + 4) (4 * p + c) = N (48 + 4 * p + c)) ∧
  (μ (D + 5) 3 = N 3 ∧ ∀ r c, r < nv (N 3) → c < 3 → μ (D + 6) (4 * r + c) = N (80 + 9 * r + c)) ∧
  RwI μ (D + 7) (N 4) (fun k => N (134 + k)) ∧ RwI μ (D + 9) (N 5) (fun k => N (140 + k)) ∧ RwI μ (D + 11) (N 6) (fun k => N (190 + k)) ∧
  (∀ r, r < 6 → RwI μ (D + 20 + 2 * r) (if r < nv (N 3) then N (83 + 9 * r) else 0) (fun i => N (84 + 9 * r + i))) ∧
  μ (D + 14) 1 = 0 ∧ RwI μ (D + 16) (N 210) (fun k => tr (N (211 + k))) ∧ RwI μ (D + 18) (N 262) (fun k => tr (N (263 + k)))
set_option maxHeartbeats 1000000 in
theorem c2_rowOf {G : Gl} {d : Nat} {S : Sh} {μ : Mu} {D : Nat} {x : Int32} {r : Nat} {K : Option Nat → Sh → Mu → Prop} (hD : DS G S D) (hx : x = nI r) (hr : r < 6) (hK : K (some (D + 20 + 2 * r)) S μ) : X G mi_X2_rowOf d 0 0 [(0, .ref D), (1, .int x)] [] S μ (qr K) := by
  refine X_iload_n (tk_X2_rowOf.at 0 rfl) rfl ?_
  refine X_if_ltN (tgt := 22) (tk_X2_rowOf.at 1 rfl) (by decide) hx (by omega) ?_
  refine X_iload_n (tk_X2_rowOf.at 2 rfl) rfl ?_
  refine X_aload_n (tk_X2_rowOf.at 3 rfl) rfl ?_
  refine X_getR (tk_X2_rowOf.at 4 rfl) fl_x2_60 hD.1 rfl rfl ?_
  refine X_alenR (tk_X2_rowOf.at 5 rfl) hD.2.2.2.2.2.2.2.1 ?_
  refine X_icmp_geN (tgt := 22) (tk_X2_rowOf.at 6 rfl) (by decide) hx rfl (by omega) (by omega) (fun c2 => (by exfalso; omega)) (fun c2 => ?_)
  refine X_aload_n (tk_X2_rowOf.at 7 rfl) rfl ?_
  refine X_getR (tk_X2_rowOf.at 8 rfl) fl_x2_60 hD.1 rfl rfl ?_
  refine X_iload_n (tk_X2_rowOf.at 9 rfl) rfl ?_
  refine X_aaldN (k := r) (tk_X2_rowOf.at 10 rfl) hD.2.2.2.2.2.2.2.1 hx (by omega) (by decide) rfl ?_
  refine X_goto (tgt := 26) (tk_X2_rowOf.at 11 rfl) (by decide) ?_
  refine X_areturn (tk_X2_rowOf.at 14 rfl) rfl (Or.inl ⟨_, rfl⟩) ?_
  exact hK
set_option maxHeartbeats 1000000 in
theorem c2_textOf {G : Gl} {d : Nat} {S : Sh} {μ : Mu} {D : Nat} {x : Int32} {u : Nat} {K : Option Nat → Sh → Mu → Prop} (hD : DS G S D) (hx : x = nI u) (hu : u < 2) (hK : K (some (D + 16 + 2 * u)) S μ) : X G mi_X2_textOf d 0 0 [(0, .ref D), (1, .int x)] [] S μ (qr K) := by
  refine X_iload_n (tk_X2_textOf.at 0 rfl) rfl ?_
  refine X_if_neN (tgt := 11) (tk_X2_textOf.at 1 rfl) (by decide) hx (by omega) (fun c1 => ?_) (fun c1 => ?_)
  · refine X_aload_n (tk_X2_textOf.at 5 rfl) rfl ?_
    refine X_getR (tk_X2_textOf.at 6 rfl) fl_x2_70 hD.1 rfl rfl ?_
    refine X_areturn (tk_X2_textOf.at 7 rfl) rfl (Or.inl ⟨_, rfl⟩) ?_
    have e : u = 1 := by omega
    subst e
    exact hK
  · refine X_aload_n (tk_X2_textOf.at 2 rfl) rfl ?_
    refine X_getR (tk_X2_textOf.at 3 rfl) fl_x2_67 hD.1 rfl rfl ?_
    refine X_goto (tgt := 15) (tk_X2_textOf.at 4 rfl) (by decide) ?_
    refine X_areturn (tk_X2_textOf.at 7 rfl) rfl (Or.inl ⟨_, rfl⟩) ?_
    have e : u = 0 := by omega
    subst e
    exact hK
