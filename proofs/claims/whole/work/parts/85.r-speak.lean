set_option maxHeartbeats 1000000 in
theorem c8_speak {G : Gl} {d : Nat} {S : Sh} {μ : Mu} {V D j b : Nat} {N : Nat → Int32} {r y x : Int32} {K : Int32 → Sh → Mu → Prop} (hV : VS S V) (hst : Sta G S μ) (hlo : ∀ q, q < 8 → G.2.2.2 q < V) (hD : DS G S D) (hw : WF N) (hr : repD μ D N) (hdis : V + 3 ≤ D ∨ D + 32 ≤ V) (hr0 : r = nI j) (hj : j < nv (N 3)) (ha : y = nI b) (hb : b < 4) (hK : K (vo (nv (N (80 + 9 * j))) r (N (82 + 9 * j)) 9 (nv (N (80 + 9 * j))) b x (0, μ (V + 2))).1 S (VW (su (su (su μ V 1 (N (80 + 9 * j))) V 2 r) V 3 (N (82 + 9 * j))) V (vo (nv (N (80 + 9 * j))) r (N (82 + 9 * j)) 9 (nv (N (80 + 9 * j))) b x (0, μ (V + 2))).2)) : X G mi_X8_speak (d + 12) 0 0 [(0, .ref V), (1, .ref (D + 5)), (2, .int r), (3, .int y), (4, .int x)] [] S μ (qi K) := by
  have wr := hw.ro hj
  have bk := wr.1.2
  have b3 := hw.n3.2
  refine X_aload_n (tk_X8_speak.at 0 rfl) rfl ?_
  refine X_aload_n (tk_X8_speak.at 1 rfl) rfl ?_
  refine X_iload_n (tk_X8_speak.at 2 rfl) rfl ?_
  refine X_iconst (tk_X8_speak.at 3 rfl) ci_0 ?_
  refine X_cV2i (lv2 := [(0, _), (1, _), (2, _)]) (tk_X8_speak.at 4 rfl) mv_X3_get lk_x8_30 np_X3_get hD.2.2.2.1.1 (by decide) rfl (Nat.le_of_ble_eq_true rfl) (Nat.le_of_ble_eq_true rfl) rfl (d_rg (k := 80 + 9 * j) (p := j) (c := 0) hD hw hr hr0 hj (pl 0 rfl) (by decide) (by omega) ?_)
  refine X_putI (tk_X8_speak.at 5 rfl) fl_x8_20 hV.1 rfl rfl ⟨rfl, rfl⟩ ?_
  refine X_aload_n (tk_X8_speak.at 6 rfl) rfl ?_
  refine X_iload_n (tk_X8_speak.at 7 rfl) rfl ?_
  refine X_putI (tk_X8_speak.at 8 rfl) fl_x8_24 hV.1 rfl rfl ⟨rfl, rfl⟩ ?_
  refine X_aload_n (tk_X8_speak.at 9 rfl) rfl ?_
  refine X_aload_n (tk_X8_speak.at 10 rfl) rfl ?_
  refine X_iload_n (tk_X8_speak.at 11 rfl) rfl ?_
  refine X_iconst (tk_X8_speak.at 12 rfl) ci_2 ?_
  refine X_cV2i (lv2 := [(0, _), (1, _), (2, _)]) (tk_X8_speak.at 13 rfl) mv_X3_get lk_x8_30 np_X3_get hD.2.2.2.1.1 (by decide) rfl (Nat.le_of_ble_eq_true rfl) (Nat.le_of_ble_eq_true rfl) rfl (d_rg (k := 82 + 9 * j) (p := j) (c := 2) hD hw (repD_of hr (fun q h1 h2 => by rw [su_ne (by omega), su_ne (by omega)])) hr0 hj (pl 2 rfl) (by decide) (by omega) ?_)
  refine X_putI (tk_X8_speak.at 14 rfl) fl_x8_27 hV.1 rfl rfl ⟨rfl, rfl⟩ ?_
  refine X_aload_n (tk_X8_speak.at 15 rfl) rfl ?_
  refine X_getR (tk_X8_speak.at 16 rfl) fl_x8_14 hV.1 rfl rfl ?_
  refine X_cV0v (lv2 := [(0, _)]) (tk_X8_speak.at 17 rfl) mv_X6_empty lk_x8_36 np_X6_empty hV.2.1 (by decide) rfl (Nat.le_of_ble_eq_true rfl) (Nat.le_of_ble_eq_true rfl) rfl (c6_empty (n := 0) hV.2 ?_)
  rw [VW_st, show (su (su (su μ V 1 (N (80 + 9 * j))) V 2 r) V 3 (N (82 + 9 * j))) (V + 2) = μ (V + 2) from by rw [su_ne (by omega), su_ne (by omega), su_ne (by omega)]]
  refine X_aload_n (tk_X8_speak.at 18 rfl) rfl ?_
  refine X_aload_n (tk_X8_speak.at 19 rfl) rfl ?_
  refine X_getI (tk_X8_speak.at 20 rfl) fl_x8_20 hV.1 rfl ?_
  refine X_iload_n (tk_X8_speak.at 21 rfl) rfl ?_
  refine X_iload (tk_X8_speak.at 22 rfl) rfl ?_
  refine X_iconst (tk_X8_speak.at 23 rfl) ci_0 ?_
  have hst2 : Sta G S (su (su (su μ V 1 (N (80 + 9 * j))) V 2 r) V 3 (N (82 + 9 * j))) := fun q hq => ⟨(hst q hq).1, fun i hi => by have := hlo q hq; rw [su_ne (by omega), su_ne (by omega), su_ne (by omega)]; exact (hst q hq).2 i hi⟩
  have k1 : (su (su (su μ V 1 (N (80 + 9 * j))) V 2 r) V 3 (N (82 + 9 * j))) V 1 = nI (nv (N (80 + 9 * j))) := by rw [su_same, upd_ne _ _ (by decide), su_same, upd_ne _ _ (by decide), su_same, upd_at]; exact wr.1.1
  have k2 : (su (su (su μ V 1 (N (80 + 9 * j))) V 2 r) V 3 (N (82 + 9 * j))) V 2 = r := by rw [su_same, upd_ne _ _ (by decide), su_same, upd_at]
  have k3 : (su (su (su μ V 1 (N (80 + 9 * j))) V 2 r) V 3 (N (82 + 9 * j))) V 3 = N (82 + 9 * j) := by rw [su_same, upd_at]
  rw [VW_ne (by omega) (by omega), k1, ha]
  refine X_cV4i (lv2 := [(0, _), (1, _), (2, _), (3, _), (4, _)]) (tk_X8_speak.at 24 rfl) mv_X8_say lk_x8_39 np_X8_say hV.1 (by decide) rfl (Nat.le_of_ble_eq_true rfl) (Nat.le_of_ble_eq_true rfl) rfl (vy_all hV hst2 (fun q hq => by have := hlo q hq; exact ⟨by omega, by omega⟩) k1 k2 k3 (by omega) 9 _ b x (0, μ (V + 2)) 0 _ _ (by omega) hb (Nat.zero_le _) (trm_all _ (by omega) _ (by omega) _ hb (Or.inl rfl)) (by decide) (by omega) ?_)
  refine X_ireturn (tk_X8_speak.at 25 rfl) rfl rfl ?_
  exact hK
/-- what the bodies say hangs on what the trace has held as little as on where it lies -/
def TrE (s t : Tr) : Prop := s.1 = t.1 ∧ ∀ i, i < s.1 → s.2 i = t.2 i
theorem TrE_bg {s t : Tr} (h : TrE s t) (b : Int32) : TrE (bg s b) (bg t b) := by
  unfold bg
  rw [← h.1]
  split
  · refine ⟨by show s.1 + 1 = s.1 + 1; rfl, fun i hi => ?_⟩
    show upd s.2 s.1 b i = upd t.2 s.1 b i
    have hi' : i < s.1 + 1 := hi
    by_cases e : i = s.1
    · rw [e, upd_at, upd_at]
    · rw [upd_ne _ _ e, upd_ne _ _ e]; exact h.2 i (by omega)
  · exact h
theorem vo_E {Kd : Nat} {sp kn : Int32} : ∀ (f k a : Nat) (x : Int32) (s t : Tr), TrE s t → (vo Kd sp kn f k a x s).1 = (vo Kd sp kn f k a x t).1 ∧ TrE (vo Kd sp kn f k a x s).2 (vo Kd sp kn f k a x t).2
  | 0, _, _, _, s, t, h => ⟨rfl, h⟩
  | f + 1, k, a, x, s, t, h => by
    have one : ∀ (b : Int32) (k a : Nat) (x : Int32), (vo Kd sp kn f k a x (bg s b)).1 = (vo Kd sp kn f k a x (bg t b)).1 ∧ TrE (vo Kd sp kn f k a x (bg s b)).2 (vo Kd sp kn f k a x (bg t b)).2 := fun b k a x => vo_E f k a x _ _ (TrE_bg h b)
    have two : ∀ (b : Int32) (k a : Nat) (x : Int32) (k' a' : Nat) (x' : Int32), (vo Kd sp kn f k' a' x' (vo Kd sp kn f k a x (bg s b)).2).1 = (vo Kd sp kn f k' a' x' (vo Kd sp kn f k a x (bg t b)).2).1 ∧ TrE (vo Kd sp kn f k' a' x' (vo Kd sp kn f k a x (bg s b)).2).2 (vo Kd sp kn f k' a' x' (vo Kd sp kn f k a x (bg t b)).2).2 := fun b k a x k' a' x' => vo_E f k' a' x' _ _ (one b k a x).2
    rw [vo, vo]
    split
    · exact ⟨rfl, TrE_bg h 10⟩
    · exact ⟨by show _ * _ = _ * _; rw [(one 11 Kd 0 x).1], (one 11 Kd 0 x).2⟩
    · exact ⟨rfl, TrE_bg h 12⟩
    · exact ⟨by show _ ^^^ _ = _ ^^^ _; rw [(one 13 Kd 1 x).1, (two 13 Kd 1 x Kd 2 x).1], (two 13 Kd 1 x Kd 2 x).2⟩
    · exact ⟨by show _ - _ = _ - _; rw [(one 20 0 1 x).1, (two 20 0 1 x Kd 2 1).1], (two 20 0 1 x Kd 2 1).2⟩
    · exact ⟨by show _ * _ = _ * _; rw [(one 30 0 0 x).1], (one 30 0 0 x).2⟩
    · exact ⟨by show _ - _ = _ - _; rw [(one 40 2 2 x).1], (one 40 2 2 x).2⟩
    · exact one 41 2 0 (x + 1)
    · exact ⟨by show _ - _ = _ - _; rw [(one 50 0 3 x).1, (two 50 0 3 x Kd 0 2).1], (two 50 0 3 x Kd 0 2).2⟩
    · exact ⟨by show _ ^^^ _ = _ ^^^ _; rw [(one 60 4 0 x).1], (one 60 4 0 x).2⟩
    · exact ⟨by show _ * _ = _ * _; rw [(one 61 4 3 x).1], (one 61 4 3 x).2⟩
    · exact ⟨rfl, TrE_bg h 70⟩
    · exact ⟨by show _ + _ = _ + _; rw [(one 71 0 2 x).1], (one 71 0 2 x).2⟩
