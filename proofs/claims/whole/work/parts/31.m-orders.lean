/-- rows of numbers and their orders -/
def sw (f : Nat → Nat) (i j : Nat) : Nat → Nat := fun x => if x = i then f j else if x = j then f i else f x
def lstA (f : Nat → Nat) : Nat → Option Nat
  | 0 => none
  | m + 1 => if f (m + 1) < f m then lstA f m else some m
def gtJ (f : Nat → Nat) (k : Nat) : Nat → Nat
  | 0 => 0
  | j + 1 => if f (j + 1) < f k then gtJ f k j else j + 1
def nxv (n : Nat) (f : Nat → Nat) (k j : Nat) : Nat → Nat := fun x => if k < x ∧ x < n then sw f k j (k + n - x) else sw f k j x
def nxo (n : Nat) (f : Nat → Nat) : Option (Nat → Nat) := match lstA f (n - 1) with
  | none => none
  | some k => some (nxv n f k (gtJ f k (n - 1)))
/-- one row is another in some order -/
def Pm (n : Nat) (g f : Nat → Nat) : Prop := (∀ i, i < n → ∃ j, j < n ∧ g i = f j) ∧ (∀ i, i < n → ∃ j, j < n ∧ f i = g j) ∧ ∀ i j, i < n → j < n → g i = g j → i = j
def Rw (A : Nat → Int32) (n : Nat) (f : Nat → Nat) : Prop := ∀ k, k < n → A k = nI (f k) ∧ f k < 1000
theorem Pm.tr {n : Nat} {f g h : Nat → Nat} (a : Pm n h g) (b : Pm n g f) : Pm n h f := by
  refine ⟨fun i hi => ?_, fun i hi => ?_, a.2.2⟩
  · obtain ⟨j, hj, e⟩ := a.1 i hi
    obtain ⟨k, hk, e2⟩ := b.1 j hj
    exact ⟨k, hk, e.trans e2⟩
  · obtain ⟨j, hj, e⟩ := b.2.1 i hi
    obtain ⟨k, hk, e2⟩ := a.2.1 j hj
    exact ⟨k, hk, e.trans e2⟩
theorem Pm.rf {n : Nat} {f : Nat → Nat} (h : ∀ i j, i < n → j < n → f i = f j → i = j) : Pm n f f := ⟨fun i hi => ⟨i, hi, rfl⟩, fun i hi => ⟨i, hi, rfl⟩, h⟩
/-- a row whose places are exchanged by a map that is its own inverse -/
theorem Pm.inv {n : Nat} {f : Nat → Nat} {t : Nat → Nat} (h : ∀ i j, i < n → j < n → f i = f j → i = j) (ht : ∀ i, i < n → t i < n) (hi : ∀ i, i < n → t (t i) = i) : Pm n (fun x => f (t x)) f := by
  refine ⟨fun i a => ⟨t i, ht i a, rfl⟩, fun i a => ⟨t i, ht i a, by show f i = f (t (t i)); rw [hi i a]⟩, fun i j a b e => ?_⟩
  have e2 := h _ _ (ht i a) (ht j b) e
  rw [← hi i a, e2, hi j b]
theorem sw_eq (f : Nat → Nat) (i j : Nat) : sw f i j = fun x => f (if x = i then j else if x = j then i else x) := by
  funext x
  unfold sw
  by_cases h1 : x = i
  · simp [h1]
  · by_cases h2 : x = j
    · subst h2; simp [h1]
    · simp [h1, h2]
theorem Pm_sw {n : Nat} {f : Nat → Nat} (h : ∀ i j, i < n → j < n → f i = f j → i = j) {i j : Nat} (hi : i < n) (hj : j < n) : Pm n (sw f i j) f := by
  rw [sw_eq]
  refine Pm.inv h (fun x hx => ?_) (fun x hx => ?_)
  · split
    · exact hj
    · split
      · exact hi
      · exact hx
  · by_cases h1 : x = i
    · subst h1
      by_cases h2 : j = x
      · simp [h2]
      · simp [h2]
    · by_cases h2 : x = j
      · subst h2
        simp [h1]
      · simp [h1, h2]
theorem Pm_nxv {n : Nat} {f : Nat → Nat} (h : ∀ i j, i < n → j < n → f i = f j → i = j) {k j : Nat} (hk : k < n) (hj : j < n) : Pm n (nxv n f k j) f := by
  have h1 := Pm_sw h hk hj
  refine Pm.tr ?_ h1
  have e : nxv n f k j = fun x => sw f k j (if k < x ∧ x < n then k + n - x else x) := by
    funext x
    unfold nxv
    by_cases c : k < x ∧ x < n
    · rw [if_pos c, if_pos c]
    · rw [if_neg c, if_neg c]
  rw [e]
  refine Pm.inv h1.2.2 (fun x hx => ?_) (fun x hx => ?_)
  · split <;> omega
  · by_cases c : k < x ∧ x < n
    · rw [if_pos c, if_pos (by omega)]; omega
    · rw [if_neg c, if_neg c]
theorem lstA_lt {f : Nat → Nat} : ∀ {m k : Nat}, lstA f m = some k → k < m ∧ f k ≤ f (k + 1)
  | 0, k, h => by cases h
  | m + 1, k, h => by
    rw [lstA] at h
    by_cases c : f (m + 1) < f m
    · rw [if_pos c] at h
      have := lstA_lt h
      exact ⟨by omega, this.2⟩
    · rw [if_neg c] at h
      cases h
      exact ⟨by omega, by omega⟩
theorem gtJ_le {f : Nat → Nat} {k : Nat} : ∀ j, gtJ f k j ≤ j
  | 0 => Nat.le_refl 0
  | j + 1 => by
    rw [gtJ]
    split
    · exact Nat.le_succ_of_le (gtJ_le j)
    · exact Nat.le_refl _
theorem Rw.cong {A B : Nat → Int32} {n : Nat} {f : Nat → Nat} (h : Rw A n f) (e : ∀ k, k < n → B k = A k) : Rw B n f := fun k hk => ⟨(e k hk).trans (h k hk).1, (h k hk).2⟩
theorem Rw.pm {A : Nat → Int32} {n : Nat} {f g : Nat → Nat} (h : Rw A n f) (p : Pm n g f) (k : Nat) (hk : k < n) : g k < 1000 := by
  obtain ⟨j, hj, e⟩ := p.1 k hk
  rw [e]
  exact (h j hj).2
theorem Rw_sw {A : Nat → Int32} {n i j : Nat} {f : Nat → Nat} (h : Rw A n f) (hi : i < n) (hj : j < n) : Rw (upd (upd A i (A j)) j (A i)) n (sw f i j) := by
  intro k hk
  unfold upd sw
  by_cases e2 : k = j
  · by_cases e1 : k = i
    · rw [if_pos e2, if_pos e1]
      have : i = j := by omega
      subst this
      exact h i hi
    · rw [if_pos e2, if_neg e1, if_pos e2]
      exact h i hi
  · rw [if_neg e2]
    by_cases e1 : k = i
    · rw [if_pos e1, if_pos e1]
      exact h j hj
    · rw [if_neg e1, if_neg e1, if_neg e2]
      exact h k hk
theorem nI_m0 : nI 0 - 1 = -1 := by decide
theorem p12 (x : Int32) : x + 1 - 2 = x - 1 := by
  rw [Int32.sub_eq_add_neg, Int32.add_assoc, show (1 : Int32) + -2 = -1 from by decide, ← Int32.sub_eq_add_neg]
theorem nI_dec (m : Nat) : nI m + -1 = nI m - 1 := by rw [Int32.sub_eq_add_neg]
/-- rising rows with the same numbers are the same -/
theorem rise_eq {n : Nat} {f g : Nat → Nat} (hf : ∀ x y, x < y → y < n → f x < f y) (hg : ∀ x y, x < y → y < n → g x < g y) (h1 : ∀ i, i < n → ∃ j, j < n ∧ f i = g j) (h2 : ∀ i, i < n → ∃ j, j < n ∧ g i = f j) : ∀ i, i < n → f i = g i := by
  intro i
  induction i using Nat.strongRecOn with
  | ind i ih =>
    intro hi
    obtain ⟨j, hj, e⟩ := h1 i hi
    obtain ⟨k, hk, e2⟩ := h2 i hi
    rcases Nat.lt_trichotomy j i with a | a | a
    · have := ih j a hj
      have := hf j i a hi
      omega
    · subst a; exact e
    · rcases Nat.lt_trichotomy k i with b | b | b
      · have := ih k b hk
        have := hg k i b hi
        omega
      · subst b; exact e2.symm
      · have := hg i j a hj
        have := hf i k b hk
        omega
set_option maxHeartbeats 1000000 in
theorem c10_swaps {G : Gl} {d : Nat} {S : Sh} {μ : Mu} {a i j len : Nat} {x y : Int32} {K : Sh → Mu → Prop} (ha : S.2 a = some (kI len)) (hx : x = nI i) (hy : y = nI j) (hi : i < len) (hj : j < len) (hl : len < 2 ^ 31) (hK : K S (Mx μ a (upd (upd (μ a) i (μ a j)) j (μ a i)))) : X G mi_X10_swaps d 0 0 [(0, .ref a), (1, .int x), (2, .int y)] [] S μ (qv K) := by
  refine X_aload_n (tk_X10_swaps.at 0 rfl) rfl ?_
  refine X_iload_n (tk_X10_swaps.at 1 rfl) rfl ?_
  refine X_ialdN (k := i) (tk_X10_swaps.at 2 rfl) ha hx (by omega) hl ?_
  refine X_istore_n (lv' := [(0, _), (1, _), (2, _), (3, _)]) (tk_X10_swaps.at 3 rfl) (by decide) rfl rfl ?_
  refine X_aload_n (tk_X10_swaps.at 4 rfl) rfl ?_
  refine X_iload_n (tk_X10_swaps.at 5 rfl) rfl ?_
  refine X_aload_n (tk_X10_swaps.at 6 rfl) rfl ?_
  refine X_iload_n (tk_X10_swaps.at 7 rfl) rfl ?_
  refine X_ialdN (k := j) (tk_X10_swaps.at 8 rfl) ha hy (by omega) hl ?_
  refine X_iastN (k := i) (tk_X10_swaps.at 9 rfl) ha hx (by omega) hl ?_
  refine X_aload_n (tk_X10_swaps.at 10 rfl) rfl ?_
  refine X_iload_n (tk_X10_swaps.at 11 rfl) rfl ?_
  refine X_iload_n (tk_X10_swaps.at 12 rfl) rfl ?_
  refine X_iastN (k := j) (tk_X10_swaps.at 13 rfl) ha hy (by omega) hl ?_
  refine X_return (tk_X10_swaps.at 14 rfl) rfl ?_
  simp only [su_eq, Mx_same, Mx_Mx]
  exact hK
set_option maxHeartbeats 1000000 in
theorem c10_nexts {G : Gl} {d : Nat} {S : Sh} {μ : Mu} {a n len : Nat} {f : Nat → Nat} {nn : Int32} {K : Int32 → Sh → Mu → Prop} (ha : S.2 a = some (kI len)) (hl : len < 2 ^ 31) (hn : n ≤ len) (hnn : nn = nI n) (hA : Rw (μ a) n f) (k1 : lstA f (n - 1) = none → K 0 S μ) (k2 : ∀ k, lstA f (n - 1) = some k → ∀ B, Rw B n (nxv n f k (gtJ f k (n - 1))) → K 1 S (Mx μ a B)) : X G mi_X10_nexts (d + 1) 0 0 [(0, .ref a), (1, .int nn)] [] S μ (qi K) := by
  have hl6 : n ≤ len := hn
  by_cases c0 : n = 0
  · subst c0
    have e1 : lstA f (0 - 1) = none := rfl
    rw [show nn = 0 from hnn]
    refine X_iload_n (tk_X10_nexts.at 0 rfl) rfl ?_
    refine X_iconst (tk_X10_nexts.at 1 rfl) ci_2 ?_
    refine X_isub (tk_X10_nexts.at 2 rfl) ?_
    refine X_istore_n (lv' := [(0, _), (1, _), (2, _)]) (tk_X10_nexts.at 3 rfl) (by decide) rfl rfl ?_
    rw [show (0 : Int32) - 2 = -2 from by decide]
    refine X_iload_n (tk_X10_nexts.at 4 rfl) rfl ?_
    refine X_if_lt (tgt := 25) (tk_X10_nexts.at 5 rfl) (by decide) (fun _ => ?_) (fun h => absurd h (by decide))
    refine X_iload_n (tk_X10_nexts.at 17 rfl) rfl ?_
    refine X_if_ge (tgt := 31) (tk_X10_nexts.at 18 rfl) (by decide) (fun h => absurd h (by decide)) (fun _ => ?_)
    refine X_iconst (tk_X10_nexts.at 19 rfl) ci_0 ?_
    refine X_ireturn (tk_X10_nexts.at 20 rfl) rfl rfl ?_
    exact k1 e1
  have loop : ∀ (m : Nat), m < n → lstA f m = lstA f (n - 1) → X G mi_X10_nexts (d + 1) 0 4 [(0, .ref a), (1, .int nn), (2, .int (nI m - 1))] [] S μ (qi K) := by
    intro m
    induction m with
    | zero =>
      intro hm e
      rw [nI_m0]
      refine X_iload_n (tk_X10_nexts.at 4 rfl) rfl ?_
      refine X_if_lt (tgt := 25) (tk_X10_nexts.at 5 rfl) (by decide) (fun _ => ?_) (fun h => absurd h (by decide))
      refine X_iload_n (tk_X10_nexts.at 17 rfl) rfl ?_
      refine X_if_ge (tgt := 31) (tk_X10_nexts.at 18 rfl) (by decide) (fun h => absurd h (by decide)) (fun _ => ?_)
      refine X_iconst (tk_X10_nexts.at 19 rfl) ci_0 ?_
      refine X_ireturn (tk_X10_nexts.at 20 rfl) rfl rfl ?_
      exact k1 e.symm
    | succ m ih =>
      intro hm e
      rw [nI_pred]
      have hkey : lstA f (m + 1) = if f (1 + m) < f m then lstA f m else some m := by rw [Nat.add_comm 1 m]; rfl
      have fm1 := (hA m (by omega)).2
      have fm2 := (hA (1 + m) (by omega)).2
      refine X_iload_n (tk_X10_nexts.at 4 rfl) rfl ?_
      refine X_if_ltN (tgt := 25) (tk_X10_nexts.at 5 rfl) (by decide) (pl m rfl) (by omega) ?_
      refine X_aload_n (tk_X10_nexts.at 6 rfl) rfl ?_
      refine X_iload_n (tk_X10_nexts.at 7 rfl) rfl ?_
      refine X_ialdN (k := m) (tk_X10_nexts.at 8 rfl) ha (pz (pl m rfl) (by omega)) (by omega) hl ?_
      refine X_aload_n (tk_X10_nexts.at 9 rfl) rfl ?_
      refine X_iload_n (tk_X10_nexts.at 10 rfl) rfl ?_
      refine X_iconst (tk_X10_nexts.at 11 rfl) ci_1 ?_
      refine X_iadd (tk_X10_nexts.at 12 rfl) ?_
      refine X_ialdN (k := 1 + m) (tk_X10_nexts.at 13 rfl) ha (pz (pa (pl m rfl) (pl 1 rfl)) (by omega)) (by omega) hl ?_
      refine X_icmp_leN (tgt := 25) (tk_X10_nexts.at 14 rfl) (by decide) (hA m (by omega)).1 (hA (1 + m) (by omega)).1 (by omega) (by omega) (fun c2 => ?_) (fun c2 => ?_)
      · refine X_iload_n (tk_X10_nexts.at 17 rfl) rfl ?_
        refine X_if_geN (tgt := 31) (tk_X10_nexts.at 18 rfl) (by decide) (pl m rfl) (by omega) ?_
        refine X_iload_n (tk_X10_nexts.at 21 rfl) rfl ?_
        refine X_iconst (tk_X10_nexts.at 22 rfl) ci_1 ?_
        refine X_isub (tk_X10_nexts.at 23 rfl) ?_
        refine X_istore_n (lv' := [(0, _), (1, _), (2, _), (3, _)]) (tk_X10_nexts.at 24 rfl) (by decide) rfl rfl ?_
        rw [if_neg (by omega)] at hkey
        have e : lstA f (n - 1) = some m := by rw [← e]; exact hkey
        generalize m = k at e hm ⊢
        have hkk := lstA_lt e
        have down : ∀ (j : Nat), k < j → j < n → gtJ f k j = gtJ f k (n - 1) → X G mi_X10_nexts (d + 1) 0 35 [(0, .ref a), (1, .int nn), (2, .int (nI k)), (3, .int (nI j))] [] S μ (qi K) := by
          intro j
          induction j with
          | zero => intro h; omega
          | succ j0 ihj =>
            intro h1 h2 h3
            have hkey : gtJ f k (j0 + 1) = if f (j0 + 1) < f k then gtJ f k j0 else j0 + 1 := rfl
            have fm1 := (hA k (by omega)).2
            have fm2 := (hA (j0 + 1) (by omega)).2
            refine X_aload_n (tk_X10_nexts.at 25 rfl) rfl ?_
            refine X_iload_n (tk_X10_nexts.at 26 rfl) rfl ?_
            refine X_ialdN (k := (j0 + 1)) (tk_X10_nexts.at 27 rfl) ha (pz (pl (j0 + 1) rfl) (by omega)) (by omega) hl ?_
            refine X_aload_n (tk_X10_nexts.at 28 rfl) rfl ?_
            refine X_iload_n (tk_X10_nexts.at 29 rfl) rfl ?_
            refine X_ialdN (k := k) (tk_X10_nexts.at 30 rfl) ha (pz (pl k rfl) (by omega)) (by omega) hl ?_
            refine X_icmp_geN (tgt := 50) (tk_X10_nexts.at 31 rfl) (by decide) (hA ((j0 + 1)) (by omega)).1 (hA k (by omega)).1 (by omega) (by omega) (fun c1 => ?_) (fun c1 => ?_)
            · refine X_aload_n (tk_X10_nexts.at 34 rfl) rfl ?_
              refine X_iload_n (tk_X10_nexts.at 35 rfl) rfl ?_
              refine X_iload_n (tk_X10_nexts.at 36 rfl) rfl ?_
              refine X_cS3v (lv2 := [(0, _), (1, _), (2, _)]) (tk_X10_nexts.at 37 rfl) ms_X10_swaps lk_x10_267 np_X10_swaps (Nat.le_of_ble_eq_true rfl) (Nat.le_of_ble_eq_true rfl) rfl (c10_swaps ha (pl k rfl) (pl (j0 + 1) rfl) (by omega) (by omega) hl ?_)
              refine X_iload_n (tk_X10_nexts.at 38 rfl) rfl ?_
              refine X_iconst (tk_X10_nexts.at 39 rfl) ci_1 ?_
              refine X_iadd (tk_X10_nexts.at 40 rfl) ?_
              refine X_istore (lv' := [(0, _), (1, _), (2, _), (3, _), (4, _)]) (tk_X10_nexts.at 41 rfl) (by decide) rfl rfl ?_
              refine X_iload_n (tk_X10_nexts.at 42 rfl) rfl ?_
              refine X_iconst (tk_X10_nexts.at 43 rfl) ci_1 ?_
              refine X_isub (tk_X10_nexts.at 44 rfl) ?_
              refine X_istore (lv' := [(0, _), (1, _), (2, _), (3, _), (4, _), (5, _)]) (tk_X10_nexts.at 45 rfl) (by decide) rfl rfl ?_
              rw [if_neg (by omega)] at hkey
              have hj : j0 + 1 = gtJ f k (n - 1) := by rw [← hkey]; exact h3
              generalize j0 + 1 = j at hj h1 h2 ⊢
              have swp : Rw (upd (upd (μ a) k (μ a j)) j (μ a k)) n (sw f k (gtJ f k (n - 1))) := by rw [← hj]; exact Rw_sw hA (by omega) (by omega)
              generalize (upd (upd (μ a) k (μ a j)) j (μ a k)) = B at swp ⊢
              have rev : ∀ (m t : Nat) (B : Nat → Int32), m + (k + 1 + t) + t = n → t ≤ n → Rw B n (fun x => if (k < x ∧ x < k + 1 + t) ∨ (n ≤ x + t ∧ x < n) then (sw f k (gtJ f k (n - 1))) (k + n - x) else (sw f k (gtJ f k (n - 1))) x) → X G mi_X10_nexts (d + 1) 0 66 [(0, .ref a), (1, .int nn), (2, .int (nI k)), (3, .int (nI j)), (4, .int (nI (k + 1 + t))), (5, .int (nI (n - 1 - t)))] [] S (Mx μ a B) (qi K) := by
                intro m
                induction m using Nat.strongRecOn with
                | ind m ihm =>
                  intro t B hm ht hB
                  refine X_iload (tk_X10_nexts.at 46 rfl) rfl ?_
                  refine X_iload (tk_X10_nexts.at 47 rfl) rfl ?_
                  refine X_icmp_geN (tgt := 90) (tk_X10_nexts.at 48 rfl) (by decide) (pl (k + 1 + t) rfl) (pl (n - 1 - t) rfl) (by omega) (by omega) (fun c1 => ?_) (fun c1 => ?_)
                  · refine X_iconst (tk_X10_nexts.at 56 rfl) ci_1 ?_
                    refine X_ireturn (tk_X10_nexts.at 57 rfl) rfl rfl ?_
                    refine k2 k e B (fun x hx => ?_)
                    have z := hB x hx
                    dsimp only at z
                    have z2 : nxv n f k (gtJ f k (n - 1)) x = (if (k < x ∧ x < k + 1 + t) ∨ (n ≤ x + t ∧ x < n) then (sw f k (gtJ f k (n - 1))) (k + n - x) else (sw f k (gtJ f k (n - 1))) x) := by
                      unfold nxv
                      by_cases c : (k < x ∧ x < k + 1 + t) ∨ (n ≤ x + t ∧ x < n)
                      · rw [if_pos c]
                        by_cases c2 : k < x ∧ x < n
                        · rw [if_pos c2]
                        · omega
                      · rw [if_neg c]
                        by_cases c2 : k < x ∧ x < n
                        · rw [if_pos c2]
                          have : k + n - x = x := by omega
                          rw [this]
                        · rw [if_neg c2]
                    rw [z2]
                    exact z
                  · refine X_aload_n (tk_X10_nexts.at 49 rfl) rfl ?_
                    refine X_iload (tk_X10_nexts.at 50 rfl) rfl ?_
                    refine X_iload (tk_X10_nexts.at 51 rfl) rfl ?_
                    refine X_cS3v (lv2 := [(0, _), (1, _), (2, _)]) (tk_X10_nexts.at 52 rfl) ms_X10_swaps lk_x10_267 np_X10_swaps (Nat.le_of_ble_eq_true rfl) (Nat.le_of_ble_eq_true rfl) rfl (c10_swaps ha (pl (k + 1 + t) rfl) (pl (n - 1 - t) rfl) (by omega) (by omega) hl ?_)
                    refine X_iinc (lv' := [(0, _), (1, _), (2, _), (3, _), (4, _), (5, _)]) (tk_X10_nexts.at 53 rfl) rfl ci_1 (by decide) rfl rfl ?_
                    refine X_iinc (lv' := [(0, _), (1, _), (2, _), (3, _), (4, _), (5, _)]) (tk_X10_nexts.at 54 rfl) rfl ci_m1 (by decide) rfl rfl ?_
                    refine X_goto (tgt := 66) (tk_X10_nexts.at 55 rfl) (by decide) ?_
                    rw [show nI (k + 1 + t) + 1 = nI (k + 1 + (t + 1)) from nI_1 (k + 1 + t), show nI (n - 1 - t) + -1 = nI (n - 1 - (t + 1)) from pm1 (a := n - 1 - t) rfl (by omega), Mx_same, Mx_Mx]
                    refine ihm (m - 2) (by omega) (t + 1) _ (by omega) (by omega) (fun x hx => ?_)
                    have zi := hB (k + 1 + t) (by omega)
                    have zj := hB (n - 1 - t) (by omega)
                    have zx := hB x hx
                    dsimp only at zi zj zx
                    dsimp only
                    rw [if_neg (by omega)] at zi zj
                    by_cases c1 : x = n - 1 - t
                    · subst c1
                      rw [upd_at, if_pos (by omega), show k + n - (n - 1 - t) = k + 1 + t by omega]
                      exact zi
                    · rw [upd_ne _ _ c1]
                      by_cases c2 : x = k + 1 + t
                      · subst c2
                        rw [upd_at, if_pos (by omega), show k + n - (k + 1 + t) = n - 1 - t by omega]
                        exact zj
                      · rw [upd_ne _ _ c2]
                        by_cases c3 : (k < x ∧ x < k + 1 + t) ∨ (n ≤ x + t ∧ x < n)
                        · rw [if_pos c3] at zx
                          rw [if_pos (by omega)]
                          exact zx
                        · rw [if_neg c3] at zx
                          rw [if_neg (by omega)]
                          exact zx
              rw [show nI k + 1 = nI (k + 1 + 0) from nI_1 k, show nn - 1 = nI (n - 1 - 0) from by rw [hnn]; exact nI_m1 (by omega)]
              refine rev (n - (k + 1)) 0 B (by omega) (by omega) (fun x hx => ?_)
              dsimp only
              rw [if_neg (by omega)]
              exact swp x hx
            · refine X_iinc (lv' := [(0, _), (1, _), (2, _), (3, _)]) (tk_X10_nexts.at 32 rfl) rfl ci_m1 (by decide) rfl rfl ?_
              refine X_goto (tgt := 35) (tk_X10_nexts.at 33 rfl) (by decide) ?_
              rw [if_pos c1] at hkey
              have hj0 : k < j0 := by
                rcases Nat.lt_or_ge k j0 with z | z
                · exact z
                · exfalso
                  have : j0 = k := by omega
                  subst this
                  omega
              rw [show nI (j0 + 1) + -1 = nI j0 from by rw [nI_dec]; exact nI_pred j0]
              exact ihj hj0 (by omega) (by rw [← hkey]; exact h3)
        rw [show nn - 1 = nI (n - 1) from by rw [hnn]; exact nI_m1 (by omega)]
        exact down (n - 1) (by omega) (by omega) rfl
      · refine X_iinc (lv' := [(0, _), (1, _), (2, _)]) (tk_X10_nexts.at 15 rfl) rfl ci_m1 (by decide) rfl rfl ?_
        refine X_goto (tgt := 4) (tk_X10_nexts.at 16 rfl) (by decide) ?_
        rw [if_pos c2] at hkey
        rw [nI_dec]
        exact ih (by omega) (by rw [← hkey]; exact e)
  refine X_iload_n (tk_X10_nexts.at 0 rfl) rfl ?_
  refine X_iconst (tk_X10_nexts.at 1 rfl) ci_2 ?_
  refine X_isub (tk_X10_nexts.at 2 rfl) ?_
  refine X_istore_n (lv' := [(0, _), (1, _), (2, _)]) (tk_X10_nexts.at 3 rfl) (by decide) rfl rfl ?_
  rw [show nn - 2 = nI (n - 1) - 1 from by
    rw [hnn]
    obtain ⟨z, rfl⟩ : ∃ z, n = z + 1 := ⟨n - 1, by omega⟩
    rw [show z + 1 - 1 = z from rfl, ← nI_1, p12]]
  exact loop (n - 1) (by omega) rfl
