theorem kn_rj6_265 : Cond.constant "java/lang/Integer" 265 1431655765 ∈ lw_gd := gd (wk 840 (by decide +kernel)) rfl
theorem kn_rj6_266 : Cond.constant "java/lang/Integer" 266 858993459 ∈ lw_gd := gd (wk 841 (by decide +kernel)) rfl
theorem kn_rj6_267 : Cond.constant "java/lang/Integer" 267 252645135 ∈ lw_gd := gd (wk 842 (by decide +kernel)) rfl
def bcE (x : Int32) : Int32 := ((((((((x - ((x.toUInt32 >>> ((1 : Int32).toUInt32 &&& Int32.toUInt32 31)).toInt32 &&& 1431655765)) &&& 858993459) + ((((x - ((x.toUInt32 >>> ((1 : Int32).toUInt32 &&& Int32.toUInt32 31)).toInt32 &&& 1431655765))).toUInt32 >>> ((2 : Int32).toUInt32 &&& Int32.toUInt32 31)).toInt32 &&& 858993459)) + (((((x - ((x.toUInt32 >>> ((1 : Int32).toUInt32 &&& Int32.toUInt32 31)).toInt32 &&& 1431655765)) &&& 858993459) + ((((x - ((x.toUInt32 >>> ((1 : Int32).toUInt32 &&& Int32.toUInt32 31)).toInt32 &&& 1431655765))).toUInt32 >>> ((2 : Int32).toUInt32 &&& Int32.toUInt32 31)).toInt32 &&& 858993459))).toUInt32 >>> ((4 : Int32).toUInt32 &&& Int32.toUInt32 31)).toInt32) &&& 252645135) + (((((((x - ((x.toUInt32 >>> ((1 : Int32).toUInt32 &&& Int32.toUInt32 31)).toInt32 &&& 1431655765)) &&& 858993459) + ((((x - ((x.toUInt32 >>> ((1 : Int32).toUInt32 &&& Int32.toUInt32 31)).toInt32 &&& 1431655765))).toUInt32 >>> ((2 : Int32).toUInt32 &&& Int32.toUInt32 31)).toInt32 &&& 858993459)) + (((((x - ((x.toUInt32 >>> ((1 : Int32).toUInt32 &&& Int32.toUInt32 31)).toInt32 &&& 1431655765)) &&& 858993459) + ((((x - ((x.toUInt32 >>> ((1 : Int32).toUInt32 &&& Int32.toUInt32 31)).toInt32 &&& 1431655765))).toUInt32 >>> ((2 : Int32).toUInt32 &&& Int32.toUInt32 31)).toInt32 &&& 858993459))).toUInt32 >>> ((4 : Int32).toUInt32 &&& Int32.toUInt32 31)).toInt32) &&& 252645135)).toUInt32 >>> ((8 : Int32).toUInt32 &&& Int32.toUInt32 31)).toInt32) + ((((((((x - ((x.toUInt32 >>> ((1 : Int32).toUInt32 &&& Int32.toUInt32 31)).toInt32 &&& 1431655765)) &&& 858993459) + ((((x - ((x.toUInt32 >>> ((1 : Int32).toUInt32 &&& Int32.toUInt32 31)).toInt32 &&& 1431655765))).toUInt32 >>> ((2 : Int32).toUInt32 &&& Int32.toUInt32 31)).toInt32 &&& 858993459)) + (((((x - ((x.toUInt32 >>> ((1 : Int32).toUInt32 &&& Int32.toUInt32 31)).toInt32 &&& 1431655765)) &&& 858993459) + ((((x - ((x.toUInt32 >>> ((1 : Int32).toUInt32 &&& Int32.toUInt32 31)).toInt32 &&& 1431655765))).toUInt32 >>> ((2 : Int32).toUInt32 &&& Int32.toUInt32 31)).toInt32 &&& 858993459))).toUInt32 >>> ((4 : Int32).toUInt32 &&& Int32.toUInt32 31)).toInt32) &&& 252645135) + (((((((x - ((x.toUInt32 >>> ((1 : Int32).toUInt32 &&& Int32.toUInt32 31)).toInt32 &&& 1431655765)) &&& 858993459) + ((((x - ((x.toUInt32 >>> ((1 : Int32).toUInt32 &&& Int32.toUInt32 31)).toInt32 &&& 1431655765))).toUInt32 >>> ((2 : Int32).toUInt32 &&& Int32.toUInt32 31)).toInt32 &&& 858993459)) + (((((x - ((x.toUInt32 >>> ((1 : Int32).toUInt32 &&& Int32.toUInt32 31)).toInt32 &&& 1431655765)) &&& 858993459) + ((((x - ((x.toUInt32 >>> ((1 : Int32).toUInt32 &&& Int32.toUInt32 31)).toInt32 &&& 1431655765))).toUInt32 >>> ((2 : Int32).toUInt32 &&& Int32.toUInt32 31)).toInt32 &&& 858993459))).toUInt32 >>> ((4 : Int32).toUInt32 &&& Int32.toUInt32 31)).toInt32) &&& 252645135)).toUInt32 >>> ((8 : Int32).toUInt32 &&& Int32.toUInt32 31)).toInt32)).toUInt32 >>> ((16 : Int32).toUInt32 &&& Int32.toUInt32 31)).toInt32) &&& 63)
theorem bc_all : ∀ n, n < 1024 → bcE (nI n) = nI (slc (nI n) 10) := by decide +kernel
set_option maxHeartbeats 1000000 in
theorem cj_bitCount {G : Gl} {d : Nat} {S : Sh} {μ : Mu} {x : Int32} {n : Nat} {K : Int32 → Sh → Mu → Prop} (hx : x = nI n) (hn : n < 1024) (hK : K (nI (slc (nI n) 10)) S μ) : X G mi_J6_bitCount_0f7a4 d 0 0 [(0, .int x)] [] S μ (qi K) := by
  refine X_iload_n (tk_J6_bitCount_0f7a4.at 0 rfl) rfl ?_
  refine X_iload_n (tk_J6_bitCount_0f7a4.at 1 rfl) rfl ?_
  refine X_iconst (tk_J6_bitCount_0f7a4.at 2 rfl) ci_1 ?_
  refine X_iushr (tk_J6_bitCount_0f7a4.at 3 rfl) ?_
  refine X_ldcw (tk_J6_bitCount_0f7a4.at 4 rfl) kn_rj6_265 ?_
  refine X_iand (tk_J6_bitCount_0f7a4.at 5 rfl) ?_
  refine X_isub (tk_J6_bitCount_0f7a4.at 6 rfl) ?_
  refine X_istore_n (lv' := [(0, _)]) (tk_J6_bitCount_0f7a4.at 7 rfl) (by decide) rfl rfl ?_
  refine X_iload_n (tk_J6_bitCount_0f7a4.at 8 rfl) rfl ?_
  refine X_ldcw (tk_J6_bitCount_0f7a4.at 9 rfl) kn_rj6_266 ?_
  refine X_iand (tk_J6_bitCount_0f7a4.at 10 rfl) ?_
  refine X_iload_n (tk_J6_bitCount_0f7a4.at 11 rfl) rfl ?_
  refine X_iconst (tk_J6_bitCount_0f7a4.at 12 rfl) ci_2 ?_
  refine X_iushr (tk_J6_bitCount_0f7a4.at 13 rfl) ?_
  refine X_ldcw (tk_J6_bitCount_0f7a4.at 14 rfl) kn_rj6_266 ?_
  refine X_iand (tk_J6_bitCount_0f7a4.at 15 rfl) ?_
  refine X_iadd (tk_J6_bitCount_0f7a4.at 16 rfl) ?_
  refine X_istore_n (lv' := [(0, _)]) (tk_J6_bitCount_0f7a4.at 17 rfl) (by decide) rfl rfl ?_
  refine X_iload_n (tk_J6_bitCount_0f7a4.at 18 rfl) rfl ?_
  refine X_iload_n (tk_J6_bitCount_0f7a4.at 19 rfl) rfl ?_
  refine X_iconst (tk_J6_bitCount_0f7a4.at 20 rfl) ci_4 ?_
  refine X_iushr (tk_J6_bitCount_0f7a4.at 21 rfl) ?_
  refine X_iadd (tk_J6_bitCount_0f7a4.at 22 rfl) ?_
  refine X_ldcw (tk_J6_bitCount_0f7a4.at 23 rfl) kn_rj6_267 ?_
  refine X_iand (tk_J6_bitCount_0f7a4.at 24 rfl) ?_
  refine X_istore_n (lv' := [(0, _)]) (tk_J6_bitCount_0f7a4.at 25 rfl) (by decide) rfl rfl ?_
  refine X_iload_n (tk_J6_bitCount_0f7a4.at 26 rfl) rfl ?_
  refine X_iload_n (tk_J6_bitCount_0f7a4.at 27 rfl) rfl ?_
  refine X_bipush (tk_J6_bitCount_0f7a4.at 28 rfl) cb_8 ?_
  refine X_iushr (tk_J6_bitCount_0f7a4.at 29 rfl) ?_
  refine X_iadd (tk_J6_bitCount_0f7a4.at 30 rfl) ?_
  refine X_istore_n (lv' := [(0, _)]) (tk_J6_bitCount_0f7a4.at 31 rfl) (by decide) rfl rfl ?_
  refine X_iload_n (tk_J6_bitCount_0f7a4.at 32 rfl) rfl ?_
  refine X_iload_n (tk_J6_bitCount_0f7a4.at 33 rfl) rfl ?_
  refine X_bipush (tk_J6_bitCount_0f7a4.at 34 rfl) cb_16 ?_
  refine X_iushr (tk_J6_bitCount_0f7a4.at 35 rfl) ?_
  refine X_iadd (tk_J6_bitCount_0f7a4.at 36 rfl) ?_
  refine X_istore_n (lv' := [(0, _)]) (tk_J6_bitCount_0f7a4.at 37 rfl) (by decide) rfl rfl ?_
  refine X_iload_n (tk_J6_bitCount_0f7a4.at 38 rfl) rfl ?_
  refine X_bipush (tk_J6_bitCount_0f7a4.at 39 rfl) cb_63 ?_
  refine X_iand (tk_J6_bitCount_0f7a4.at 40 rfl) ?_
  refine X_ireturn (tk_J6_bitCount_0f7a4.at 41 rfl) rfl rfl ?_
  subst hx
  have e := bc_all n hn
  unfold bcE at e
  rw [e]
  exact hK
