def Stn (x y : Int32) (n : Nat) : Prop := ∃ a c : Nat, x = nI a ∧ y = nI c ∧ a + c ≤ n
theorem Stn_t {x y : Int32} {n : Nat} (hn : n ≤ 40) (h1 : ¬ x < 0) (h2 : ¬ y < 0) (h3 : x ≤ nI n) (h4 : y ≤ nI n - x) : Stn x y n := by
  obtain ⟨a, ha, rfl⟩ := nI_of h1
  obtain ⟨c, hc, rfl⟩ := nI_of h2
  rw [nI_leI ha (by omega)] at h3
  rw [pk_sub h3, nI_leI hc (by omega)] at h4
  exact ⟨a, c, rfl, rfl, by omega⟩
theorem Stn_f {x y : Int32} {n : Nat} (hn : n ≤ 40) (h : Stn x y n) : ¬ x < 0 ∧ ¬ y < 0 ∧ x ≤ nI n ∧ y ≤ nI n - x := by
  obtain ⟨a, c, rfl, rfl, h⟩ := h
  refine ⟨nI_pos (by omega), nI_pos (by omega), ?_, ?_⟩
  · rw [nI_leI (by omega) (by omega)]; omega
  · rw [pk_sub (by omega), nI_leI (by omega) (by omega)]; omega
set_option maxHeartbeats 1000000 in
theorem c7_stands {G : Gl} {d : Nat} {S : Sh} {μ : Mu} {H n : Nat} {x y : Int32} {K : Int32 → Sh → Mu → Prop} (hH : HS S H) (hn : μ H 2 = nI n) (hb : n ≤ 40) (kt : Stn x y n → K 1 S μ) (kf : ¬ Stn x y n → K 0 S μ) : X G mi_X7_stands d 0 0 [(0, .ref H), (1, .int x), (2, .int y)] [] S μ (qi K) := by
  refine X_iload_n (tk_X7_stands.at 0 rfl) rfl ?_
  refine X_if_lt (tgt := 30) (tk_X7_stands.at 1 rfl) (by decide) (fun c1 => ?_) (fun c1 => ?_)
  · refine X_iconst (tk_X7_stands.at 16 rfl) ci_0 ?_
    refine X_ireturn (tk_X7_stands.at 17 rfl) rfl rfl ?_
    refine kf (fun g => ?_)
    have g := Stn_f hb g
    exact absurd c1 g.1
  · refine X_iload_n (tk_X7_stands.at 2 rfl) rfl ?_
    refine X_if_lt (tgt := 30) (tk_X7_stands.at 3 rfl) (by decide) (fun c2 => ?_) (fun c2 => ?_)
    · refine X_iconst (tk_X7_stands.at 16 rfl) ci_0 ?_
      refine X_ireturn (tk_X7_stands.at 17 rfl) rfl rfl ?_
      refine kf (fun g => ?_)
      have g := Stn_f hb g
      exact absurd c2 g.2.1
    · refine X_iload_n (tk_X7_stands.at 4 rfl) rfl ?_
      refine X_aload_n (tk_X7_stands.at 5 rfl) rfl ?_
      refine X_getI (tk_X7_stands.at 6 rfl) fl_x7_19 hH.1 rfl ?_
      rw [hn]
      refine X_icmp_gt (tgt := 30) (tk_X7_stands.at 7 rfl) (by decide) (fun c3 => ?_) (fun c3 => ?_)
      · refine X_iconst (tk_X7_stands.at 16 rfl) ci_0 ?_
        refine X_ireturn (tk_X7_stands.at 17 rfl) rfl rfl ?_
        refine kf (fun g => ?_)
        have g := Stn_f hb g
        exact absurd c3 (Int32.not_lt.mpr g.2.2.1)
      · refine X_iload_n (tk_X7_stands.at 8 rfl) rfl ?_
        refine X_aload_n (tk_X7_stands.at 9 rfl) rfl ?_
        refine X_getI (tk_X7_stands.at 10 rfl) fl_x7_19 hH.1 rfl ?_
        rw [hn]
        refine X_iload_n (tk_X7_stands.at 11 rfl) rfl ?_
        refine X_isub (tk_X7_stands.at 12 rfl) ?_
        refine X_icmp_gt (tgt := 30) (tk_X7_stands.at 13 rfl) (by decide) (fun c4 => ?_) (fun c4 => ?_)
        · refine X_iconst (tk_X7_stands.at 16 rfl) ci_0 ?_
          refine X_ireturn (tk_X7_stands.at 17 rfl) rfl rfl ?_
          refine kf (fun g => ?_)
          have g := Stn_f hb g
          exact absurd c4 (Int32.not_lt.mpr g.2.2.2)
        · refine X_iconst (tk_X7_stands.at 14 rfl) ci_1 ?_
          refine X_goto (tgt := 31) (tk_X7_stands.at 15 rfl) (by decide) ?_
          refine X_ireturn (tk_X7_stands.at 17 rfl) rfl rfl ?_
          exact kt (Stn_t hb c1 c2 (Int32.not_lt.mp c3) (Int32.not_lt.mp c4))
