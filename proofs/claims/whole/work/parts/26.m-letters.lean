theorem ft_38 : Cond.fieldLink "java/lang/String" 38 "java/lang/String" "COMPACT_STRINGS" "Z" ∈ lw_gd := gd (wk 591 (by decide +kernel)) rfl
theorem ft_1053 : Cond.fieldLink "java/lang/String" 1053 "jdk/internal/util/Preconditions" "SIOOBE_FORMATTER" "Ljava/util/function/BiFunction;" ∈ lw_gd := gd (wk 630 (by decide +kernel)) rfl
theorem ft_15 : Cond.fieldLink "java/lang/String" 15 "java/lang/String" "coder" "B" ∈ lw_gd := gd (wk 1573 (by decide +kernel)) rfl
theorem ft_9 : Cond.fieldLink "java/lang/String" 9 "java/lang/String" "value" "[B" ∈ lw_gd := gd (wk 1574 (by decide +kernel)) rfl
def fz (f : Nat) : Value := match f with
  | 0 => .null
  | k + 1 => .ref k
abbrev Fmt (G : Gl) (f : Nat) : Prop := va_Z "jdk/internal/util/Preconditions" "SIOOBE_FORMATTER" "Ljava/util/function/BiFunction;" (fz f) (fun q => gb G ≤ q) G.1 G.1.heap
theorem X_getsF {G : Gl} {mi : MI} {d kc pc nx : Nat} {lv : List (Nat × Value)} {rest : List Value} {S : Sh} {μ : Mu} {Q : Option Value → Sh → Mu → Prop} {idx f : Nat} (hd : Dc mi.2.1 pc (.getstatic idx) 3 nx) (h1 : Cond.fieldLink mi.1.cls idx "jdk/internal/util/Preconditions" "SIOOBE_FORMATTER" "Ljava/util/function/BiFunction;" ∈ lw_gd) (hF : Fmt G (f + 1)) (kk : X G mi d kc nx lv (.ref f :: rest) S μ Q) : X G mi d kc pc lv rest S μ Q := by
  intro p l e R s m args below meth c mc Z C hZ H locs cells slots ls hR hk hl
  obtain ⟨hd, rfl⟩ := hd
  obtain ⟨cf, kf, fi, f', a, ce, h1', h2, h3, h4, h5, h6, h7, h8⟩ := va_Z.moved C.2.2.2.2.2.2.2.2.2.1.alike hF
  exact W.gets C.1 C.2.1 C.2.2.2.2.1 (C.2.2.2.2.2.1 _ h1) h1' h2 h3 h4 (by rw [hR.2.2.2.2.1 a (Nat.not_le.mp h8)]; exact h5) (fun e => by rw [e] at h6; cases h6) h7 rfl hd (kk p l e R s m args below meth c mc Z C hZ H locs cells slots ls hR hk hl)
theorem X_getsF0 {G : Gl} {mi : MI} {d kc pc nx : Nat} {lv : List (Nat × Value)} {rest : List Value} {S : Sh} {μ : Mu} {Q : Option Value → Sh → Mu → Prop} {idx : Nat} (hd : Dc mi.2.1 pc (.getstatic idx) 3 nx) (h1 : Cond.fieldLink mi.1.cls idx "jdk/internal/util/Preconditions" "SIOOBE_FORMATTER" "Ljava/util/function/BiFunction;" ∈ lw_gd) (hF : Fmt G 0) (kk : X G mi d kc nx lv (.null :: rest) S μ Q) : X G mi d kc pc lv rest S μ Q := by
  intro p l e R s m args below meth c mc Z C hZ H locs cells slots ls hR hk hl
  obtain ⟨hd, rfl⟩ := hd
  obtain ⟨cf, kf, fi, f', a, ce, h1', h2, h3, h4, h5, h6, h7, h8⟩ := va_Z.moved C.2.2.2.2.2.2.2.2.2.1.alike hF
  exact W.gets C.1 C.2.1 C.2.2.2.2.1 (C.2.2.2.2.2.1 _ h1) h1' h2 h3 h4 (by rw [hR.2.2.2.2.1 a (Nat.not_le.mp h8)]; exact h5) (fun e => by rw [e] at h6; cases h6) h7 rfl hd (kk p l e R s m args below meth c mc Z C hZ H locs cells slots ls hR hk hl)
theorem shr0 (x : Int32) : x >>> ((0 : Int32) &&& 31) = x := by
  rw [show ((0 : Int32) &&& 31) = 0 from by decide]
  exact Int32.shiftRight_zero
abbrev chB (x : Int32) : Int32 := ((x &&& 255).toUInt32 % 65536).toInt32
theorem narC (x : Int32) : narrow .char (.int (chB x)) = .int (chB x) := by
  show Value.int (((chB x).toUInt32 % 65536).toInt32) = _
  have e : (chB x).toUInt32 = (x &&& 255).toUInt32 % 65536 := rfl
  rw [e]
  have e2 : (x &&& 255).toUInt32 % 65536 % 65536 = (x &&& 255).toUInt32 % 65536 := by
    apply UInt32.toNat_inj.mp
    simp [UInt32.toNat_mod]
  rw [e2]
/-- the last place at which a letter stands; -1 -/
def nmf (B : Nat → Int32) (c : Int32) : Nat → Int32
  | 0 => -1
  | k + 1 => if chB (B k) = c then nI k else nmf B c k
set_option maxHeartbeats 1000000 in
theorem cj_coder {G : Gl} {d : Nat} {S : Sh} {μ : Mu} {a t : Nat} {K : Int32 → Sh → Mu → Prop} (ha : S.2 a = some (kT t)) (hK : K 0 S μ) : X G mi_J0_coder_7d493 d 0 0 [(0, .ref a)] [] S μ (qi K) := by
  refine X_getsZ (tk_J0_coder_7d493.at 0 rfl) ft_38 ?_
  refine X_if_eq (tgt := 13) (tk_J0_coder_7d493.at 1 rfl) (by decide) (fun h => absurd h (by decide)) (fun _ => ?_)
  refine X_aload_n (tk_J0_coder_7d493.at 2 rfl) rfl ?_
  refine X_getTc (tk_J0_coder_7d493.at 3 rfl) ft_15 ha ?_
  refine X_goto (tgt := 14) (tk_J0_coder_7d493.at 4 rfl) (by decide) ?_
  refine X_ireturn (tk_J0_coder_7d493.at 6 rfl) rfl rfl ?_
  exact hK
set_option maxHeartbeats 1000000 in
theorem cj_isLatin1 {G : Gl} {d : Nat} {S : Sh} {μ : Mu} {a t : Nat} {K : Int32 → Sh → Mu → Prop} (ha : S.2 a = some (kT t)) (hK : K 1 S μ) : X G mi_J0_isLatin1_aae02 d 0 0 [(0, .ref a)] [] S μ (qi K) := by
  refine X_getsZ (tk_J0_isLatin1_aae02.at 0 rfl) ft_38 ?_
  refine X_if_eq (tgt := 17) (tk_J0_isLatin1_aae02.at 1 rfl) (by decide) (fun h => absurd h (by decide)) (fun _ => ?_)
  refine X_aload_n (tk_J0_isLatin1_aae02.at 2 rfl) rfl ?_
  refine X_getTc (tk_J0_isLatin1_aae02.at 3 rfl) ft_15 ha ?_
  refine X_if_ne (tgt := 17) (tk_J0_isLatin1_aae02.at 4 rfl) (by decide) (fun h => absurd h (by decide)) (fun _ => ?_)
  refine X_iconst (tk_J0_isLatin1_aae02.at 5 rfl) ci_1 ?_
  refine X_goto (tgt := 18) (tk_J0_isLatin1_aae02.at 6 rfl) (by decide) ?_
  refine X_ireturn (tk_J0_isLatin1_aae02.at 8 rfl) rfl rfl ?_
  exact hK
set_option maxHeartbeats 1000000 in
theorem cj_length {G : Gl} {d : Nat} {S : Sh} {μ : Mu} {a t n : Nat} {K : Int32 → Sh → Mu → Prop} (ha : S.2 a = some (kT t)) (hb : S.2 (G.2.2.2 (t + 20)) = some (kB n)) (hK : K (nI n) S μ) : X G mi_J0_length_8abf5 (d + 1) 0 0 [(0, .ref a)] [] S μ (qi K) := by
  refine X_aload_n (tk_J0_length_8abf5.at 0 rfl) rfl ?_
  refine X_getT (tk_J0_length_8abf5.at 1 rfl) ft_9 ha ?_
  refine X_alenB (tk_J0_length_8abf5.at 2 rfl) hb ?_
  refine X_aload_n (tk_J0_length_8abf5.at 3 rfl) rfl ?_
  refine X_cT0i (lv2 := [(0, _)]) (tk_J0_length_8abf5.at 4 rfl) mv_J0_coder_7d493 lk_rj0_335 np_J0_coder_7d493 ha rfl (Nat.le_of_ble_eq_true rfl) (Nat.le_of_ble_eq_true rfl) rfl (cj_coder ha ?_)
  refine X_ishr (tk_J0_length_8abf5.at 5 rfl) ?_
  refine X_ireturn (tk_J0_length_8abf5.at 6 rfl) rfl rfl ?_
  rw [shr0]
  exact hK
set_option maxHeartbeats 1000000 in
theorem cj_pci {G : Gl} {d : Nat} {S : Sh} {μ : Mu} {f : Nat} {i n : Nat} {x y : Int32} {K : Int32 → Sh → Mu → Prop} (hx : x = nI i) (hy : y = nI n) (hi : i < n) (hn : n < 2 ^ 31) (hK : K x S μ) : X G mi_J3_checkIndex_8e157 d 0 0 [(0, .int x), (1, .int y), (2, .ref f)] [] S μ (qi K) := by
  refine X_iload_n (tk_J3_checkIndex_8e157.at 0 rfl) rfl ?_
  refine X_if_ltN (tgt := 9) (tk_J3_checkIndex_8e157.at 1 rfl) (by decide) hx (by omega) ?_
  refine X_iload_n (tk_J3_checkIndex_8e157.at 2 rfl) rfl ?_
  refine X_iload_n (tk_J3_checkIndex_8e157.at 3 rfl) rfl ?_
  refine X_icmp_ltN (tgt := 16) (tk_J3_checkIndex_8e157.at 4 rfl) (by decide) hx hy (by omega) (by omega) (fun c2 => ?_) (fun c2 => (by exfalso; omega))
  refine X_iload_n (tk_J3_checkIndex_8e157.at 10 rfl) rfl ?_
  refine X_ireturn (tk_J3_checkIndex_8e157.at 11 rfl) rfl rfl ?_
  exact hK
set_option maxHeartbeats 1000000 in
theorem cj_pci0 {G : Gl} {d : Nat} {S : Sh} {μ : Mu} {i n : Nat} {x y : Int32} {K : Int32 → Sh → Mu → Prop} (hx : x = nI i) (hy : y = nI n) (hi : i < n) (hn : n < 2 ^ 31) (hK : K x S μ) : X G mi_J3_checkIndex_8e157 d 0 0 [(0, .int x), (1, .int y), (2, .null)] [] S μ (qi K) := by
  refine X_iload_n (tk_J3_checkIndex_8e157.at 0 rfl) rfl ?_
  refine X_if_ltN (tgt := 9) (tk_J3_checkIndex_8e157.at 1 rfl) (by decide) hx (by omega) ?_
  refine X_iload_n (tk_J3_checkIndex_8e157.at 2 rfl) rfl ?_
  refine X_iload_n (tk_J3_checkIndex_8e157.at 3 rfl) rfl ?_
  refine X_icmp_ltN (tgt := 16) (tk_J3_checkIndex_8e157.at 4 rfl) (by decide) hx hy (by omega) (by omega) (fun c2 => ?_) (fun c2 => (by exfalso; omega))
  refine X_iload_n (tk_J3_checkIndex_8e157.at 10 rfl) rfl ?_
  refine X_ireturn (tk_J3_checkIndex_8e157.at 11 rfl) rfl rfl ?_
  exact hK
set_option maxHeartbeats 1000000 in
theorem cj_ci {G : Gl} {d : Nat} {S : Sh} {μ : Mu} {f i n : Nat} {x y : Int32} {K : Sh → Mu → Prop} (hF : Fmt G f) (hx : x = nI i) (hy : y = nI n) (hi : i < n) (hn : n < 2 ^ 31) (hK : K S μ) : X G mi_J0_checkIndex_df160 (d + 1) 0 0 [(0, .int x), (1, .int y)] [] S μ (qv K) := by
  cases f with
  | zero =>
    refine X_iload_n (tk_J0_checkIndex_df160.at 0 rfl) rfl ?_
    refine X_iload_n (tk_J0_checkIndex_df160.at 1 rfl) rfl ?_
    refine X_getsF0 (tk_J0_checkIndex_df160.at 2 rfl) ft_1053 hF ?_
    refine X_cS3i (lv2 := [(0, _), (1, _), (2, _)]) (tk_J0_checkIndex_df160.at 3 rfl) ms_J3_checkIndex_8e157 lk_rj0_1059 np_J3_checkIndex_8e157 (Nat.le_of_ble_eq_true rfl) (Nat.le_of_ble_eq_true rfl) rfl (cj_pci0 hx hy (by omega) (by omega) ?_)
    refine X_pop (tk_J0_checkIndex_df160.at 4 rfl) rfl ?_
    refine X_return (tk_J0_checkIndex_df160.at 5 rfl) rfl ?_
    exact hK
  | succ f =>
    refine X_iload_n (tk_J0_checkIndex_df160.at 0 rfl) rfl ?_
    refine X_iload_n (tk_J0_checkIndex_df160.at 1 rfl) rfl ?_
    refine X_getsF (tk_J0_checkIndex_df160.at 2 rfl) ft_1053 hF ?_
    refine X_cS3i (lv2 := [(0, _), (1, _), (2, _)]) (tk_J0_checkIndex_df160.at 3 rfl) ms_J3_checkIndex_8e157 lk_rj0_1059 np_J3_checkIndex_8e157 (Nat.le_of_ble_eq_true rfl) (Nat.le_of_ble_eq_true rfl) rfl (cj_pci hx hy (by omega) (by omega) ?_)
    refine X_pop (tk_J0_checkIndex_df160.at 4 rfl) rfl ?_
    refine X_return (tk_J0_checkIndex_df160.at 5 rfl) rfl ?_
    exact hK
set_option maxHeartbeats 1000000 in
theorem cj_charL {G : Gl} {d : Nat} {S : Sh} {μ : Mu} {f i n b : Nat} {x : Int32} {K : Int32 → Sh → Mu → Prop} (hF : Fmt G f) (hb : S.2 b = some (kB n)) (hx : x = nI i) (hi : i < n) (hn : n < 2 ^ 31) (hK : K (chB (μ b i)) S μ) : X G mi_J1_charAt_3b067 (d + 2) 0 0 [(0, .ref b), (1, .int x)] [] S μ (qi K) := by
  have hin : vp_in x n := by rw [hx]; exact vp_in_nI hi hn
  have hc : x.toNatClampNeg = i := by rw [hx]; exact nv_nI (by omega)
  refine X_iload_n (tk_J1_charAt_3b067.at 0 rfl) rfl ?_
  refine X_aload_n (tk_J1_charAt_3b067.at 1 rfl) rfl ?_
  refine X_alenB (tk_J1_charAt_3b067.at 2 rfl) hb ?_
  refine X_cS2v (lv2 := [(0, _), (1, _)]) (tk_J1_charAt_3b067.at 3 rfl) ms_J0_checkIndex_df160 lk_rj1_9 np_J0_checkIndex_df160 (Nat.le_of_ble_eq_true rfl) (Nat.le_of_ble_eq_true rfl) rfl (cj_ci hF hx rfl (by omega) (by omega) ?_)
  refine X_aload_n (tk_J1_charAt_3b067.at 4 rfl) rfl ?_
  refine X_iload_n (tk_J1_charAt_3b067.at 5 rfl) rfl ?_
  refine X_bald (tk_J1_charAt_3b067.at 6 rfl) hb hin ?_
  refine X_sipush (tk_J1_charAt_3b067.at 7 rfl) cs_255 ?_
  refine X_iand (tk_J1_charAt_3b067.at 8 rfl) ?_
  refine X_i2c (tk_J1_charAt_3b067.at 9 rfl) ?_
  refine X_ireturn (tk_J1_charAt_3b067.at 10 rfl) rfl (narC _) ?_
  rw [hc]
  exact hK
set_option maxHeartbeats 1000000 in
theorem cj_charAt {G : Gl} {d : Nat} {S : Sh} {μ : Mu} {a t n : Nat} {f i : Nat} {x : Int32} {K : Int32 → Sh → Mu → Prop} (hF : Fmt G f) (ha : S.2 a = some (kT t)) (hb : S.2 (G.2.2.2 (t + 20)) = some (kB n)) (hx : x = nI i) (hi : i < n) (hn : n < 2 ^ 31) (hK : K (chB (μ (G.2.2.2 (t + 20)) i)) S μ) : X G mi_J0_charAt_5068e (d + 3) 0 0 [(0, .ref a), (1, .int x)] [] S μ (qi K) := by
  refine X_aload_n (tk_J0_charAt_5068e.at 0 rfl) rfl ?_
  refine X_cT0i (lv2 := [(0, _)]) (tk_J0_charAt_5068e.at 1 rfl) mv_J0_isLatin1_aae02 lk_rj0_492 np_J0_isLatin1_aae02 ha rfl (Nat.le_of_ble_eq_true rfl) (Nat.le_of_ble_eq_true rfl) rfl (cj_isLatin1 ha ?_)
  refine X_if_eq (tgt := 16) (tk_J0_charAt_5068e.at 2 rfl) (by decide) (fun h => absurd h (by decide)) (fun _ => ?_)
  refine X_aload_n (tk_J0_charAt_5068e.at 3 rfl) rfl ?_
  refine X_getT (tk_J0_charAt_5068e.at 4 rfl) ft_9 ha ?_
  refine X_iload_n (tk_J0_charAt_5068e.at 5 rfl) rfl ?_
  refine X_cS2i (lv2 := [(0, _), (1, _)]) (tk_J0_charAt_5068e.at 6 rfl) ms_J1_charAt_3b067 lk_rj0_495 np_J1_charAt_3b067 (Nat.le_of_ble_eq_true rfl) (Nat.le_of_ble_eq_true rfl) rfl (cj_charL hF hb hx (by omega) (by omega) ?_)
  refine X_ireturn (tk_J0_charAt_5068e.at 7 rfl) rfl (narC _) ?_
  exact hK
set_option maxHeartbeats 1000000 in
theorem c10_nameOf {G : Gl} {d : Nat} {S : Sh} {μ : Mu} {o : Nat} {q : Nat → Nat} {f t n u : Nat} {c : Int32} {K : Int32 → Sh → Mu → Prop} (hM : MS S o q) (hF : Fmt G f) (hu : μ o 9 = nI u) (hu2 : u < 2) (ha : S.2 (q u) = some (kT t)) (hb : S.2 (G.2.2.2 (t + 20)) = some (kB n)) (hn : n < 2 ^ 31) (hK : K (nmf (μ (G.2.2.2 (t + 20))) c n) S μ) : X G mi_X10_nameOf (d + 4) 0 0 [(0, .ref o), (1, .int c)] [] S μ (qi K) := by
  have loop : ∀ (m k : Nat), k + m = n → X G mi_X10_nameOf (d + 4) 0 4 [(0, .ref o), (1, .int c), (2, .int (nmf (μ (G.2.2.2 (t + 20))) c k)), (3, .int (nI k))] [] S μ (qi K) := by
    intro m
    induction m with
    | zero =>
      intro k hk
      have e : k = n := by omega
      refine X_iload_n (tk_X10_nameOf.at 4 rfl) rfl ?_
      refine X_aload_n (tk_X10_nameOf.at 5 rfl) rfl ?_
      refine X_getR (tk_X10_nameOf.at 6 rfl) fl_x10_28 hM.f0 rfl rfl ?_
      refine X_aload_n (tk_X10_nameOf.at 7 rfl) rfl ?_
      refine X_getI (tk_X10_nameOf.at 8 rfl) fl_x10_221 hM.f0 rfl ?_
      refine X_aaldN (k := u) (tk_X10_nameOf.at 9 rfl) hM.f5 hu (by omega) (by decide) rfl ?_
      refine X_cT0i (lv2 := [(0, _)]) (tk_X10_nameOf.at 10 rfl) mv_J0_length_8abf5 lk_x10_224 np_J0_length_8abf5 ha rfl (Nat.le_of_ble_eq_true rfl) (Nat.le_of_ble_eq_true rfl) rfl (cj_length ha hb ?_)
      refine X_icmp_geN (tgt := 49) (tk_X10_nameOf.at 11 rfl) (by decide) (pl k rfl) (pl n rfl) (by omega) (by omega) (fun c1 => ?_) (fun c1 => (by exfalso; omega))
      refine X_iload_n (tk_X10_nameOf.at 27 rfl) rfl ?_
      refine X_ireturn (tk_X10_nameOf.at 28 rfl) rfl rfl ?_
      rw [e]
      exact hK
    | succ m ih =>
      intro k hk
      refine X_iload_n (tk_X10_nameOf.at 4 rfl) rfl ?_
      refine X_aload_n (tk_X10_nameOf.at 5 rfl) rfl ?_
      refine X_getR (tk_X10_nameOf.at 6 rfl) fl_x10_28 hM.f0 rfl rfl ?_
      refine X_aload_n (tk_X10_nameOf.at 7 rfl) rfl ?_
      refine X_getI (tk_X10_nameOf.at 8 rfl) fl_x10_221 hM.f0 rfl ?_
      refine X_aaldN (k := u) (tk_X10_nameOf.at 9 rfl) hM.f5 hu (by omega) (by decide) rfl ?_
      refine X_cT0i (lv2 := [(0, _)]) (tk_X10_nameOf.at 10 rfl) mv_J0_length_8abf5 lk_x10_224 np_J0_length_8abf5 ha rfl (Nat.le_of_ble_eq_true rfl) (Nat.le_of_ble_eq_true rfl) rfl (cj_length ha hb ?_)
      refine X_icmp_geN (tgt := 49) (tk_X10_nameOf.at 11 rfl) (by decide) (pl k rfl) (pl n rfl) (by omega) (by omega) (fun c1 => (by exfalso; omega)) (fun c1 => ?_)
      refine X_aload_n (tk_X10_nameOf.at 12 rfl) rfl ?_
      refine X_getR (tk_X10_nameOf.at 13 rfl) fl_x10_28 hM.f0 rfl rfl ?_
      refine X_aload_n (tk_X10_nameOf.at 14 rfl) rfl ?_
      refine X_getI (tk_X10_nameOf.at 15 rfl) fl_x10_221 hM.f0 rfl ?_
      refine X_aaldN (k := u) (tk_X10_nameOf.at 16 rfl) hM.f5 hu (by omega) (by decide) rfl ?_
      refine X_iload_n (tk_X10_nameOf.at 17 rfl) rfl ?_
      refine X_cT1i (lv2 := [(0, _), (1, _)]) (tk_X10_nameOf.at 18 rfl) mv_J0_charAt_5068e lk_x10_227 np_J0_charAt_5068e ha rfl (Nat.le_of_ble_eq_true rfl) (Nat.le_of_ble_eq_true rfl) rfl (cj_charAt hF ha hb (pl k rfl) (by omega) (by omega) ?_)
      refine X_iload_n (tk_X10_nameOf.at 19 rfl) rfl ?_
      refine X_icmp_ne (tgt := 41) (tk_X10_nameOf.at 20 rfl) (by decide) (fun c2 => ?_) (fun c2 => ?_)
      · refine X_iload_n (tk_X10_nameOf.at 23 rfl) rfl ?_
        refine X_istore_n (lv' := [(0, _), (1, _), (2, _), (3, _)]) (tk_X10_nameOf.at 24 rfl) (by decide) rfl rfl ?_
        refine X_iinc (lv' := [(0, _), (1, _), (2, _), (3, _)]) (tk_X10_nameOf.at 25 rfl) rfl ci_1 (by decide) rfl rfl ?_
        refine X_goto (tgt := 4) (tk_X10_nameOf.at 26 rfl) (by decide) ?_
        rw [nI_1 k]
        have z := ih (k + 1) (by omega)
        rw [nmf, if_neg c2] at z
        exact z
      · refine X_iload_n (tk_X10_nameOf.at 21 rfl) rfl ?_
        refine X_goto (tgt := 42) (tk_X10_nameOf.at 22 rfl) (by decide) ?_
        refine X_istore_n (lv' := [(0, _), (1, _), (2, _), (3, _)]) (tk_X10_nameOf.at 24 rfl) (by decide) rfl rfl ?_
        refine X_iinc (lv' := [(0, _), (1, _), (2, _), (3, _)]) (tk_X10_nameOf.at 25 rfl) rfl ci_1 (by decide) rfl rfl ?_
        refine X_goto (tgt := 4) (tk_X10_nameOf.at 26 rfl) (by decide) ?_
        rw [nI_1 k]
        have z := ih (k + 1) (by omega)
        rw [nmf, if_pos c2] at z
        exact z
  refine X_iconst (tk_X10_nameOf.at 0 rfl) ci_m1 ?_
  refine X_istore_n (lv' := [(0, _), (1, _), (2, _)]) (tk_X10_nameOf.at 1 rfl) (by decide) rfl rfl ?_
  refine X_iconst (tk_X10_nameOf.at 2 rfl) ci_0 ?_
  refine X_istore_n (lv' := [(0, _), (1, _), (2, _), (3, _)]) (tk_X10_nameOf.at 3 rfl) (by decide) rfl rfl ?_
  exact loop n 0 (Nat.zero_add n)
