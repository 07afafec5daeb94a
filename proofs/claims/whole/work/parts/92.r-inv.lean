def rP (P : Nat) (kp : Option Nat) (k : Nat) : Option Nat := match k with
  | 0 => some (P + 1)
  | 1 => some (P + 33)
  | 2 => some (P + 39)
  | 3 => some (P + 80)
  | 4 => some (P + 85)
  | 5 => some (P + 88)
  | 6 => some (P + 89)
  | 7 => kp
  | _ => none
/-- the class's object at P -/
def PS (G : Gl) (S : Sh) (P : Nat) (kp : Option Nat) (t q : Nat) : Prop := S.2 P = some (kO 9 (rP P kp)) ∧ DS G S (P + 1) ∧ XS S (P + 33) ∧ OS G S (P + 39) ∧ RdS S (P + 80) t q ∧ VS S (P + 85) ∧ S.2 (P + 88) = some (kR 1 4 (fun i => some (P + 90 + 2 * i))) ∧ S.2 (P + 89) = some (kI 6) ∧ ∀ i, i < 4 → HS S (P + 90 + 2 * i)
def IS (G : Gl) (S : Sh) (P o : Nat) (kp : Option Nat) (t q : Nat) : Prop := PS G S P kp t q ∧ MS S o (fun u => G.2.2.2 (11 + u)) ∧ P + 98 ≤ o ∧ (∀ j, j < 8 → G.2.2.2 j < P) ∧ (∀ v, v < 2 → G.2.2.2 (11 + v) < P ∧ G.2.2.2 (11 + v + 20) < P) ∧ ∀ k, kp = some k → DS G S k ∧ o + 18 ≤ k
def IB (G : Gl) (S : Sh) (P o : Nat) (kp : Option Nat) (im : Nat) (μ : Mu) : Prop := (Sta G S μ ∧ TxB G S μ) ∧ (∀ k, 1 ≤ k → k ≤ 5 → μ (P + 89) k = μ (o + 4) k) ∧
  (μ P 8 = nI im ∧ μ o 3 = nI im ∧ (kp = none → im = 0) ∧ ∀ k, kp = some k → 1 ≤ im ∧ repD μ k (μ (o + 2)) ∧ WF (μ (o + 2))) ∧
  (∃ tc, tc ≤ 40 ∧ μ (P + 85 + 1) 1 = nI tc ∧ μ o 22 = nI tc ∧ ∀ i, i < tc → μ (P + 85 + 2) i = μ (o + 13) i) ∧
  (∀ s, s < 4 → okB (μ (o + 14) s) ∧ μ (P + 90 + 2 * s) 1 = μ (o + 14) s ∧ okN (μ (o + 15) s) 40 ∧ μ (P + 90 + 2 * s) 2 = μ (o + 15) s ∧ ∀ i, i < 40 → μ (P + 90 + 2 * s + 1) i = μ (o + 16) (40 * s + i)) ∧
  μ (P + 39 + 3 + 14) 1 = 0 ∧ μ o 5 = 0
def IA (P o : Nat) (μ : Mu) : Prop := repD μ (P + 1) (μ (o + 1)) ∧ WF (μ (o + 1))
/-- class and reference stand alike -/
def Inv (G : Gl) (S : Sh) (P o : Nat) (kp : Option Nat) (t q im : Nat) (μ : Mu) : Prop := IS G S P o kp t q ∧ IB G S P o kp im μ ∧ IA P o μ
/-- and will after a call -/
def Nx (G : Gl) (P o im : Nat) (S : Sh) (μ : Mu) : Prop := ∃ kp t q im', im' ≤ im + 1 ∧ Inv G S P o kp t q im' μ
/-- what lasts and isn't the dawn -/
def Fz (P o : Nat) (μ ν : Mu) : Prop := (∀ a, (a < P + 1 ∨ P + 85 ≤ a) → (a < o ∨ o + 18 ≤ a ∨ a = o + 2 ∨ a = o + 4 ∨ a = o + 13 ∨ a = o + 14 ∨ a = o + 15 ∨ a = o + 16) → ν a = μ a) ∧ ν o 3 = μ o 3 ∧ ν o 5 = μ o 5 ∧ ν o 22 = μ o 22 ∧ ν (P + 39 + 3 + 14) 1 = 0
/-- what a call of the class may change beside numbers that last -/
def Fn (P : Nat) (μ ν : Mu) : Prop := (∀ a, a < P + 1 ∨ P + 85 ≤ a → ν a = μ a) ∧ ν (P + 39 + 3 + 14) 1 = 0
def Fs (P : Nat) (μ ν : Mu) : Prop := (∀ a, a < P + 33 ∨ P + 85 ≤ a → ν a = μ a) ∧ ν (P + 39 + 3 + 14) 1 = 0
section
variable {G : Gl} {S : Sh} {P o t q im : Nat} {kp : Option Nat} {μ ν ξ : Mu}
theorem Fs.n (h : Fs P μ ν) : Fn P μ ν := ⟨fun a ha => h.1 a (by omega), h.2⟩
theorem Fs.rep (h : Fs P μ ν) {N : Nat → Int32} (hr : repD μ (P + 1) N) : repD ν (P + 1) N := repD_of hr (fun a h1 h2 => h.1 a (by omega))
theorem Inv.P0 (h : Inv G S P o kp t q im μ) : S.2 P = some (kO 9 (rP P kp)) := h.1.1.1
theorem Inv.D (h : Inv G S P o kp t q im μ) : DS G S (P + 1) := h.1.1.2.1
theorem Inv.C (h : Inv G S P o kp t q im μ) : XS S (P + 33) := h.1.1.2.2.1
theorem Inv.H (h : Inv G S P o kp t q im μ) : OS G S (P + 39) := h.1.1.2.2.2.1
theorem Inv.R (h : Inv G S P o kp t q im μ) : RdS S (P + 80) t q := h.1.1.2.2.2.2.1
theorem Inv.V (h : Inv G S P o kp t q im μ) : VS S (P + 85) := h.1.1.2.2.2.2.2.1
theorem Inv.sh (h : Inv G S P o kp t q im μ) : S.2 (P + 88) = some (kR 1 4 (fun i => some (P + 90 + 2 * i))) := h.1.1.2.2.2.2.2.2.1
theorem Inv.E (h : Inv G S P o kp t q im μ) : S.2 (P + 89) = some (kI 6) := h.1.1.2.2.2.2.2.2.2.1
theorem Inv.hs (h : Inv G S P o kp t q im μ) {i : Nat} (hi : i < 4) : HS S (P + 90 + 2 * i) := h.1.1.2.2.2.2.2.2.2.2 i hi
theorem Inv.M (h : Inv G S P o kp t q im μ) : MS S o (fun u => G.2.2.2 (11 + u)) := h.1.2.1
theorem Inv.lo (h : Inv G S P o kp t q im μ) : P + 98 ≤ o := h.1.2.2.1
theorem Inv.wf (h : Inv G S P o kp t q im μ) : WF (μ (o + 1)) := h.2.2.2
theorem Inv.rep (h : Inv G S P o kp t q im μ) : repD μ (P + 1) (μ (o + 1)) := h.2.2.1
theorem Inv.nb (h : Inv G S P o kp t q im μ) : μ (P + 39 + 3 + 14) 1 = 0 := h.2.1.2.2.2.2.2.1
theorem Inv.l0 (h : Inv G S P o kp t q im μ) : μ o 5 = 0 := h.2.1.2.2.2.2.2.2
theorem Inv.st (h : Inv G S P o kp t q im μ) : Sta G S μ := h.2.1.1.1
theorem Inv.tx (h : Inv G S P o kp t q im μ) : TxB G S μ := h.2.1.1.2
theorem Inv.sheet (h : Inv G S P o kp t q im μ) {s : Nat} (hs : s < 4) : okB (μ (o + 14) s) ∧ μ (P + 90 + 2 * s) 1 = μ (o + 14) s ∧ okN (μ (o + 15) s) 40 ∧ μ (P + 90 + 2 * s) 2 = μ (o + 15) s ∧ ∀ i, i < 40 → μ (P + 90 + 2 * s + 1) i = μ (o + 16) (40 * s + i) := h.2.1.2.2.2.2.1 s hs
theorem IB_fr (hS : IS G S P o kp t q) (h : IB G S P o kp im μ) (f : Fz P o μ ν) : IB G S P o kp im ν := by
  have lo := hS.2.2.1
  have s1 := hS.2.2.2.1
  have s2 := hS.2.2.2.2.1
  have s3 := hS.2.2.2.2.2
  obtain ⟨⟨a1, a2⟩, b, ⟨c1, c2, c3, c4⟩, ⟨tc, d1, d2, d3, d4⟩, e, g1, g2⟩ := h
  obtain ⟨f0, f3, f5, f22, fn⟩ := f
  refine ⟨⟨fun j hj => ⟨(a1 j hj).1, fun i hi => ?_⟩, fun v hv => ⟨(a2 v hv).1, (a2 v hv).2.1, fun i hi => ?_⟩⟩, fun k h1 h2 => ?_, ⟨?_, ?_, c3, fun k hk => ⟨(c4 k hk).1, ?_, ?_⟩⟩, ⟨tc, d1, ?_, ?_, fun i hi => ?_⟩, fun s hs => ?_, fn, ?_⟩
  · have := s1 j hj
    rw [f0 _ (by omega) (by omega)]; exact (a1 j hj).2 i hi
  · have := s2 v hv
    rw [f0 _ (by omega) (by omega)]; exact (a2 v hv).2.2 i hi
  · rw [f0 _ (by omega) (by omega), f0 (o + 4) (by omega) (by omega)]; exact b k h1 h2
  · rw [f0 _ (by omega) (by omega)]; exact c1
  · rw [f3]; exact c2
  · have := (s3 k hk).2
    rw [f0 (o + 2) (by omega) (by omega)]
    exact repD_of (c4 k hk).2.1 (fun a h1 h2 => f0 a (by omega) (by omega))
  · rw [f0 (o + 2) (by omega) (by omega)]; exact (c4 k hk).2.2
  · rw [f0 _ (by omega) (by omega)]; exact d2
  · rw [f22]; exact d3
  · rw [f0 _ (by omega) (by omega), f0 (o + 13) (by omega) (by omega)]; exact d4 i hi
  · have z := e s hs
    rw [f0 (o + 14) (by omega) (by omega), f0 (o + 15) (by omega) (by omega), f0 (o + 16) (by omega) (by omega), f0 (P + 90 + 2 * s) (by omega) (by omega), f0 (P + 90 + 2 * s + 1) (by omega) (by omega)]
    exact z
  · rw [f5]; exact g2
theorem Fz_of (h : Fn P μ ν) (g : Sq o ν ξ) (lo : P + 98 ≤ o) : Fz P o μ ξ := by
  refine ⟨fun a h1 h2 => (g.1 a h2).trans (h.1 a h1), ?_, ?_, ?_, ?_⟩
  · rw [g.2.1, h.1 o (by omega)]
  · rw [g.2.2.1, h.1 o (by omega)]
  · rw [g.2.2.2, h.1 o (by omega)]
  · rw [g.1 _ (by omega)]; exact h.2
/-- an error more on both sides -/
theorem IB_err (hS : IS G S P o kp t q) (h : IB G S P o kp im μ) (k : Nat) : IB G S P o kp im (su (su μ (P + 89) k (μ (P + 89) k + 1)) (o + 4) k (μ (o + 4) k + 1)) := by
  have lo := hS.2.2.1
  have s1 := hS.2.2.2.1
  have s2 := hS.2.2.2.2.1
  have s3 := hS.2.2.2.2.2
  have ne : ∀ a, a ≠ P + 89 → a ≠ o + 4 → (su (su μ (P + 89) k (μ (P + 89) k + 1)) (o + 4) k (μ (o + 4) k + 1)) a = μ a := fun a h1 h2 => by rw [su_ne h2, su_ne h1]
  obtain ⟨⟨a1, a2⟩, b, ⟨c1, c2, c3, c4⟩, ⟨tc, d1, d2, d3, d4⟩, e, g1, g2⟩ := h
  refine ⟨⟨fun j hj => ⟨(a1 j hj).1, fun i hi => ?_⟩, fun v hv => ⟨(a2 v hv).1, (a2 v hv).2.1, fun i hi => ?_⟩⟩, fun j h1 h2 => ?_, ⟨?_, ?_, c3, fun j hj => ⟨(c4 j hj).1, ?_, ?_⟩⟩, ⟨tc, d1, ?_, ?_, fun i hi => ?_⟩, fun s hs => ?_, ?_, ?_⟩
  · have := s1 j hj
    rw [ne _ (by omega) (by omega)]; exact (a1 j hj).2 i hi
  · have := s2 v hv
    rw [ne _ (by omega) (by omega)]; exact (a2 v hv).2.2 i hi
  · rw [su_ne (by omega), su_same, su_same]
    by_cases c : j = k
    · subst c
      rw [upd_at, upd_at, b j h1 h2]
    · rw [upd_ne _ _ c, upd_ne _ _ c, su_ne (show o + 4 ≠ P + 89 by omega)]
      exact b j h1 h2
  · rw [ne _ (by omega) (by omega)]; exact c1
  · rw [ne _ (by omega) (by omega)]; exact c2
  · have := (s3 j hj).2
    rw [ne (o + 2) (by omega) (by omega)]
    exact repD_of (c4 j hj).2.1 (fun a h1 h2 => ne a (by omega) (by omega))
  · rw [ne (o + 2) (by omega) (by omega)]; exact (c4 j hj).2.2
  · rw [ne _ (by omega) (by omega)]; exact d2
  · rw [ne _ (by omega) (by omega)]; exact d3
  · rw [ne _ (by omega) (by omega), ne (o + 13) (by omega) (by omega)]; exact d4 i hi
  · have z := e s hs
    rw [ne (o + 14) (by omega) (by omega), ne (o + 15) (by omega) (by omega), ne (o + 16) (by omega) (by omega), ne (P + 90 + 2 * s) (by omega) (by omega), ne (P + 90 + 2 * s + 1) (by omega) (by omega)]
    exact z
  · rw [ne _ (by omega) (by omega)]; exact g1
  · rw [ne _ (by omega) (by omega)]; exact g2
/-- the end of a call that keeps all that lasts beside the dawn -/
theorem fin_n (h : Inv G S P o kp t q im μ) (f : Fn P μ ν) (g : Sq o ν ξ) (hr : repD ξ (P + 1) (ξ (o + 1))) (hw : WF (ξ (o + 1))) : Nx G P o im S ξ := ⟨kp, t, q, im, Nat.le_succ _, h.1, IB_fr h.1 h.2.1 (Fz_of f g h.lo), hr, hw⟩
/-- the same, the dawn too -/
theorem fin_s (h : Inv G S P o kp t q im μ) (f : Fs P μ ν) (g : Sq o ν ξ) (hN : ξ (o + 1) = ν (o + 1)) : Nx G P o im S ξ := by
  have lo := h.lo
  have e : ξ (o + 1) = μ (o + 1) := by rw [hN, f.1 (o + 1) (by omega)]
  exact fin_n h f.n g (by rw [e]; exact repD_of (f.rep h.rep) (fun a h1 h2 => g.1 a (by omega))) (by rw [e]; exact h.wf)
/-- the end of a refused call -/
theorem fin_e (h : Inv G S P o kp t q im μ) (f : Fs P μ ν) {k : Nat} (g : Sq o (su ν (P + 89) k (ν (P + 89) k + 1)) ξ) (hN : ξ (o + 1) = (su ν (P + 89) k (ν (P + 89) k + 1)) (o + 1)) : Nx G P o im S (er ξ o k) := by
  have lo := h.lo
  -- errors first, then what is scratch
  have b1 := IB_err h.1 h.2.1 k
  have e1 : ξ (o + 4) = μ (o + 4) := by rw [g.1 _ (by omega), su_ne (by omega), f.1 _ (by omega)]
  have z : Fz P o (su (su μ (P + 89) k (μ (P + 89) k + 1)) (o + 4) k (μ (o + 4) k + 1)) (er ξ o k) := by
    refine ⟨fun a h1 h2 => ?_, ?_, ?_, ?_, ?_⟩
    · unfold er
      by_cases c : a = o + 4
      · subst c
        rw [su_same, su_same, e1, su_ne (by omega)]
      · rw [su_ne c, su_ne c, g.1 a h2]
        by_cases c2 : a = P + 89
        · subst c2
          rw [su_same, su_same, f.1 _ (by omega)]
        · rw [su_ne c2, su_ne c2, f.1 a (by omega)]
    · unfold er; rw [su_ne (by omega), g.2.1, su_ne (by omega), f.1 _ (by omega), su_ne (by omega), su_ne (by omega)]
    · unfold er; rw [su_ne (by omega), g.2.2.1, su_ne (by omega), f.1 _ (by omega), su_ne (by omega), su_ne (by omega)]
    · unfold er; rw [su_ne (by omega), g.2.2.2, su_ne (by omega), f.1 _ (by omega), su_ne (by omega), su_ne (by omega)]
    · unfold er; rw [su_ne (by omega), g.1 _ (by omega), su_ne (by omega)]; exact f.2
  have e2 : er ξ o k (o + 1) = μ (o + 1) := by unfold er; rw [su_ne (by omega), hN, su_ne (by omega), f.1 _ (by omega)]
  refine ⟨kp, t, q, im, Nat.le_succ _, h.1, IB_fr h.1 b1 z, ?_, ?_⟩
  · rw [e2]
    exact repD_of h.rep (fun a h1 h2 => by unfold er; rw [su_ne (by omega), g.1 a (by omega), su_ne (by omega), f.1 a (by omega)])
  · rw [e2]; exact h.wf
theorem Fs.rf (h : Inv G S P o kp t q im μ) : Fs P μ μ := ⟨fun _ _ => rfl, h.nb⟩
theorem Fn.rf (h : Inv G S P o kp t q im μ) : Fn P μ μ := ⟨fun _ _ => rfl, h.nb⟩
end
