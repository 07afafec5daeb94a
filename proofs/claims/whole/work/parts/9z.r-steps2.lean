def tb_L25 : List (Nat × Instr × Nat × Nat) := [(1099, .aload_n 1, 1, 1100), (1100, .invokevirtual 122, 3, 1103), (1103, .aload_n 2, 1, 1104), (1104, .invokevirtual 125, 3, 1107), (1107, .if_icmp .eq 634, 3, 1110), (1110, .iconst 0, 1, 1111), (1111, .ireturn, 1, 1112)]
theorem tk_L25 : Tk code tb_L25 := Tk.of (by decide +kernel)
set_option maxHeartbeats 1000000 in
theorem L_25 {G : Gl} {d n : Nat} {S : Sh} {μ : Mu} {P o t q im b L i fm : Nat} {kp : Option Nat} {xs : Nat → Int32} {Q : Option Value → Sh → Mu → Prop} (hs : Scr G b L xs) (hL : L ≤ 384) (hi : i + 6 ≤ L) (him : im < 2 ^ 30) (hF : Fmt G fm) (hI : Inv G S P o kp t q im μ) (hk : ∀ S μ, Nx G P o im S μ → X G mi_L (d + 61) n 1741 (lvL b P o i) [] S μ Q) : X G mi_L (d + 61) (32 + n) 1099 (lvL b P o i) [] S μ Q := by
  refine X_kc (kd := 0 + n) (by omega) ?_
  refine X_ofH ?_
  refine XH_aload_n (tk_L25.at 0 rfl) rfl ?_
  refine XH_call1 (mj := mi_X9_toll) (As := []) (rest := []) (kd := 0) (n := n) (o := o) (cj := 10) (rj := rM o) (tk_L25.at 1 rfl) mv_X9_toll lk_l_122 np_X9_toll hI.P0 (by decide) rfl hI.M.f0 rfl (Nat.le_of_ble_eq_true rfl) (Nat.le_of_ble_eq_true rfl) rfl (t_toll (d := d) hI) (fun v S1 μ1 hq => ?_)
  obtain ⟨a1, rfl, hX⟩ := hq
  refine XH_aload_n (tk_L25.at 2 rfl) rfl ?_
  refine XH_call2 (mj := mi_X10_toll) (As := []) (rest := [.int a1]) (kd := 0) (n := n) (tk_L25.at 3 rfl) mv_X10_toll lk_l_125 np_X10_toll (by decide) rfl rfl (Nat.le_of_ble_eq_true rfl) (Nat.le_of_ble_eq_true rfl) (Nat.zero_add n).symm hX (fun v S2 μ2 hq => ?_)
  obtain ⟨a2, rfl, rfl, hN⟩ := hq
  exact X_icmp_eq (tgt := 1741) (tk_L25.at 4 rfl) (by decide) (fun _ => hk _ _ hN) (fun h => absurd rfl h)
def tb_L26 : List (Nat × Instr × Nat × Nat) := [(1112, .aload_n 1, 1, 1113), (1113, .aload_n 0, 1, 1114), (1114, .iload_n 3, 1, 1115), (1115, .iconst 1, 1, 1116), (1116, .iadd, 1, 1117), (1117, .iaload, 1, 1118), (1118, .aload_n 0, 1, 1119), (1119, .iload_n 3, 1, 1120), (1120, .iconst 2, 1, 1121), (1121, .iadd, 1, 1122), (1122, .iaload, 1, 1123), (1123, .invokevirtual 126, 3, 1126), (1126, .aload_n 2, 1, 1127), (1127, .aload_n 0, 1, 1128), (1128, .iload_n 3, 1, 1129), (1129, .iconst 1, 1, 1130), (1130, .iadd, 1, 1131), (1131, .iaload, 1, 1132), (1132, .aload_n 0, 1, 1133), (1133, .iload_n 3, 1, 1134), (1134, .iconst 2, 1, 1135), (1135, .iadd, 1, 1136), (1136, .iaload, 1, 1137), (1137, .invokevirtual 129, 3, 1140), (1140, .if_icmp .eq 601, 3, 1143), (1143, .iconst 0, 1, 1144), (1144, .ireturn, 1, 1145)]
theorem tk_L26 : Tk code tb_L26 := Tk.of (by decide +kernel)
set_option maxHeartbeats 1000000 in
theorem L_26 {G : Gl} {d n : Nat} {S : Sh} {μ : Mu} {P o t q im b L i fm : Nat} {kp : Option Nat} {xs : Nat → Int32} {Q : Option Value → Sh → Mu → Prop} (hs : Scr G b L xs) (hL : L ≤ 384) (hi : i + 6 ≤ L) (him : im < 2 ^ 30) (hF : Fmt G fm) (hI : Inv G S P o kp t q im μ) (hk : ∀ S μ, Nx G P o im S μ → X G mi_L (d + 61) n 1741 (lvL b P o i) [] S μ Q) : X G mi_L (d + 61) (32 + n) 1112 (lvL b P o i) [] S μ Q := by
  refine X_kc (kd := 0 + n) (by omega) ?_
  refine X_ofH ?_
  refine XH_aload_n (tk_L26.at 0 rfl) rfl ?_
  refine XH_arg (k := 1) (tk_L26.at 1 rfl) (tk_L26.at 2 rfl) (tk_L26.at 3 rfl) (tk_L26.at 4 rfl) (tk_L26.at 5 rfl) rfl hs rfl rfl (by omega) hL ?_
  refine XH_arg (k := 2) (tk_L26.at 6 rfl) (tk_L26.at 7 rfl) (tk_L26.at 8 rfl) (tk_L26.at 9 rfl) (tk_L26.at 10 rfl) rfl hs rfl rfl (by omega) hL ?_
  refine XH_call1 (mj := mi_X9_order) (As := [.int (xs (i + 1)), .int (xs (i + 2))]) (rest := []) (kd := 0) (n := n) (o := o) (cj := 10) (rj := rM o) (tk_L26.at 11 rfl) mv_X9_order lk_l_126 np_X9_order hI.P0 (by decide) rfl hI.M.f0 rfl (Nat.le_of_ble_eq_true rfl) (Nat.le_of_ble_eq_true rfl) rfl (t_order (d := d) hI) (fun v S1 μ1 hq => ?_)
  obtain ⟨a1, rfl, hX⟩ := hq
  refine XH_aload_n (tk_L26.at 12 rfl) rfl ?_
  refine XH_arg (k := 1) (tk_L26.at 13 rfl) (tk_L26.at 14 rfl) (tk_L26.at 15 rfl) (tk_L26.at 16 rfl) (tk_L26.at 17 rfl) rfl hs rfl rfl (by omega) hL ?_
  refine XH_arg (k := 2) (tk_L26.at 18 rfl) (tk_L26.at 19 rfl) (tk_L26.at 20 rfl) (tk_L26.at 21 rfl) (tk_L26.at 22 rfl) rfl hs rfl rfl (by omega) hL ?_
  refine XH_call2 (mj := mi_X10_order) (As := [.int (xs (i + 1)), .int (xs (i + 2))]) (rest := [.int a1]) (kd := 0) (n := n) (tk_L26.at 23 rfl) mv_X10_order lk_l_129 np_X10_order (by decide) rfl rfl (Nat.le_of_ble_eq_true rfl) (Nat.le_of_ble_eq_true rfl) (Nat.zero_add n).symm hX (fun v S2 μ2 hq => ?_)
  obtain ⟨a2, rfl, rfl, hN⟩ := hq
  exact X_icmp_eq (tgt := 1741) (tk_L26.at 24 rfl) (by decide) (fun _ => hk _ _ hN) (fun h => absurd rfl h)
def tb_L27 : List (Nat × Instr × Nat × Nat) := [(1145, .aload_n 1, 1, 1146), (1146, .aload_n 0, 1, 1147), (1147, .iload_n 3, 1, 1148), (1148, .iconst 1, 1, 1149), (1149, .iadd, 1, 1150), (1150, .iaload, 1, 1151), (1151, .invokevirtual 130, 3, 1154), (1154, .aload_n 2, 1, 1155), (1155, .aload_n 0, 1, 1156), (1156, .iload_n 3, 1, 1157), (1157, .iconst 1, 1, 1158), (1158, .iadd, 1, 1159), (1159, .iaload, 1, 1160), (1160, .invokevirtual 133, 3, 1163), (1163, .if_icmp .eq 578, 3, 1166), (1166, .iconst 0, 1, 1167), (1167, .ireturn, 1, 1168)]
theorem tk_L27 : Tk code tb_L27 := Tk.of (by decide +kernel)
set_option maxHeartbeats 1000000 in
theorem L_27 {G : Gl} {d n : Nat} {S : Sh} {μ : Mu} {P o t q im b L i fm : Nat} {kp : Option Nat} {xs : Nat → Int32} {Q : Option Value → Sh → Mu → Prop} (hs : Scr G b L xs) (hL : L ≤ 384) (hi : i + 6 ≤ L) (him : im < 2 ^ 30) (hF : Fmt G fm) (hI : Inv G S P o kp t q im μ) (hk : ∀ S μ, Nx G P o im S μ → X G mi_L (d + 61) n 1741 (lvL b P o i) [] S μ Q) : X G mi_L (d + 61) (32 + n) 1145 (lvL b P o i) [] S μ Q := by
  refine X_kc (kd := 0 + n) (by omega) ?_
  refine X_ofH ?_
  refine XH_aload_n (tk_L27.at 0 rfl) rfl ?_
  refine XH_arg (k := 1) (tk_L27.at 1 rfl) (tk_L27.at 2 rfl) (tk_L27.at 3 rfl) (tk_L27.at 4 rfl) (tk_L27.at 5 rfl) rfl hs rfl rfl (by omega) hL ?_
  refine XH_call1 (mj := mi_X9_space) (As := [.int (xs (i + 1))]) (rest := []) (kd := 0) (n := n) (o := o) (cj := 10) (rj := rM o) (tk_L27.at 6 rfl) mv_X9_space lk_l_130 np_X9_space hI.P0 (by decide) rfl hI.M.f0 rfl (Nat.le_of_ble_eq_true rfl) (Nat.le_of_ble_eq_true rfl) rfl (t_space (d := d) hI) (fun v S1 μ1 hq => ?_)
  obtain ⟨a1, rfl, hX⟩ := hq
  refine XH_aload_n (tk_L27.at 7 rfl) rfl ?_
  refine XH_arg (k := 1) (tk_L27.at 8 rfl) (tk_L27.at 9 rfl) (tk_L27.at 10 rfl) (tk_L27.at 11 rfl) (tk_L27.at 12 rfl) rfl hs rfl rfl (by omega) hL ?_
  refine XH_call2 (mj := mi_X10_space) (As := [.int (xs (i + 1))]) (rest := [.int a1]) (kd := 0) (n := n) (tk_L27.at 13 rfl) mv_X10_space lk_l_133 np_X10_space (by decide) rfl rfl (Nat.le_of_ble_eq_true rfl) (Nat.le_of_ble_eq_true rfl) (Nat.zero_add n).symm hX (fun v S2 μ2 hq => ?_)
  obtain ⟨a2, rfl, rfl, hN⟩ := hq
  exact X_icmp_eq (tgt := 1741) (tk_L27.at 14 rfl) (by decide) (fun _ => hk _ _ hN) (fun h => absurd rfl h)
def tb_L28 : List (Nat × Instr × Nat × Nat) := [(1168, .aload_n 1, 1, 1169), (1169, .aload_n 0, 1, 1170), (1170, .iload_n 3, 1, 1171), (1171, .iconst 1, 1, 1172), (1172, .iadd, 1, 1173), (1173, .iaload, 1, 1174), (1174, .invokevirtual 134, 3, 1177), (1177, .aload_n 2, 1, 1178), (1178, .aload_n 0, 1, 1179), (1179, .iload_n 3, 1, 1180), (1180, .iconst 1, 1, 1181), (1181, .iadd, 1, 1182), (1182, .iaload, 1, 1183), (1183, .invokevirtual 137, 3, 1186), (1186, .if_icmp .eq 555, 3, 1189), (1189, .iconst 0, 1, 1190), (1190, .ireturn, 1, 1191)]
theorem tk_L28 : Tk code tb_L28 := Tk.of (by decide +kernel)
set_option maxHeartbeats 1000000 in
theorem L_28 {G : Gl} {d n : Nat} {S : Sh} {μ : Mu} {P o t q im b L i fm : Nat} {kp : Option Nat} {xs : Nat → Int32} {Q : Option Value → Sh → Mu → Prop} (hs : Scr G b L xs) (hL : L ≤ 384) (hi : i + 6 ≤ L) (him : im < 2 ^ 30) (hF : Fmt G fm) (hI : Inv G S P o kp t q im μ) (hk : ∀ S μ, Nx G P o im S μ → X G mi_L (d + 61) n 1741 (lvL b P o i) [] S μ Q) : X G mi_L (d + 61) (32 + n) 1168 (lvL b P o i) [] S μ Q := by
  refine X_kc (kd := 0 + n) (by omega) ?_
  refine X_ofH ?_
  refine XH_aload_n (tk_L28.at 0 rfl) rfl ?_
  refine XH_arg (k := 1) (tk_L28.at 1 rfl) (tk_L28.at 2 rfl) (tk_L28.at 3 rfl) (tk_L28.at 4 rfl) (tk_L28.at 5 rfl) rfl hs rfl rfl (by omega) hL ?_
  refine XH_call1 (mj := mi_X9_line) (As := [.int (xs (i + 1))]) (rest := []) (kd := 0) (n := n) (o := o) (cj := 10) (rj := rM o) (tk_L28.at 6 rfl) mv_X9_line lk_l_134 np_X9_line hI.P0 (by decide) rfl hI.M.f0 rfl (Nat.le_of_ble_eq_true rfl) (Nat.le_of_ble_eq_true rfl) rfl (t_line (d := d) hI) (fun v S1 μ1 hq => ?_)
  obtain ⟨a1, rfl, hX⟩ := hq
  refine XH_aload_n (tk_L28.at 7 rfl) rfl ?_
  refine XH_arg (k := 1) (tk_L28.at 8 rfl) (tk_L28.at 9 rfl) (tk_L28.at 10 rfl) (tk_L28.at 11 rfl) (tk_L28.at 12 rfl) rfl hs rfl rfl (by omega) hL ?_
  refine XH_call2 (mj := mi_X10_line) (As := [.int (xs (i + 1))]) (rest := [.int a1]) (kd := 0) (n := n) (tk_L28.at 13 rfl) mv_X10_line lk_l_137 np_X10_line (by decide) rfl rfl (Nat.le_of_ble_eq_true rfl) (Nat.le_of_ble_eq_true rfl) (Nat.zero_add n).symm hX (fun v S2 μ2 hq => ?_)
  obtain ⟨a2, rfl, rfl, hN⟩ := hq
  exact X_icmp_eq (tgt := 1741) (tk_L28.at 14 rfl) (by decide) (fun _ => hk _ _ hN) (fun h => absurd rfl h)
def tb_L29 : List (Nat × Instr × Nat × Nat) := [(1191, .aload_n 1, 1, 1192), (1192, .aload_n 0, 1, 1193), (1193, .iload_n 3, 1, 1194), (1194, .iconst 1, 1, 1195), (1195, .iadd, 1, 1196), (1196, .iaload, 1, 1197), (1197, .aload_n 0, 1, 1198), (1198, .iload_n 3, 1, 1199), (1199, .iconst 2, 1, 1200), (1200, .iadd, 1, 1201), (1201, .iaload, 1, 1202), (1202, .invokevirtual 138, 3, 1205), (1205, .aload_n 2, 1, 1206), (1206, .aload_n 0, 1, 1207), (1207, .iload_n 3, 1, 1208), (1208, .iconst 1, 1, 1209), (1209, .iadd, 1, 1210), (1210, .iaload, 1, 1211), (1211, .aload_n 0, 1, 1212), (1212, .iload_n 3, 1, 1213), (1213, .iconst 2, 1, 1214), (1214, .iadd, 1, 1215), (1215, .iaload, 1, 1216), (1216, .invokevirtual 141, 3, 1219), (1219, .if_icmp .eq 522, 3, 1222), (1222, .iconst 0, 1, 1223), (1223, .ireturn, 1, 1224)]
theorem tk_L29 : Tk code tb_L29 := Tk.of (by decide +kernel)
set_option maxHeartbeats 1000000 in
theorem L_29 {G : Gl} {d n : Nat} {S : Sh} {μ : Mu} {P o t q im b L i fm : Nat} {kp : Option Nat} {xs : Nat → Int32} {Q : Option Value → Sh → Mu → Prop} (hs : Scr G b L xs) (hL : L ≤ 384) (hi : i + 6 ≤ L) (him : im < 2 ^ 30) (hF : Fmt G fm) (hI : Inv G S P o kp t q im μ) (hk : ∀ S μ, Nx G P o im S μ → X G mi_L (d + 61) n 1741 (lvL b P o i) [] S μ Q) : X G mi_L (d + 61) (32 + n) 1191 (lvL b P o i) [] S μ Q := by
  refine X_kc (kd := 0 + n) (by omega) ?_
  refine X_ofH ?_
  refine XH_aload_n (tk_L29.at 0 rfl) rfl ?_
  refine XH_arg (k := 1) (tk_L29.at 1 rfl) (tk_L29.at 2 rfl) (tk_L29.at 3 rfl) (tk_L29.at 4 rfl) (tk_L29.at 5 rfl) rfl hs rfl rfl (by omega) hL ?_
  refine XH_arg (k := 2) (tk_L29.at 6 rfl) (tk_L29.at 7 rfl) (tk_L29.at 8 rfl) (tk_L29.at 9 rfl) (tk_L29.at 10 rfl) rfl hs rfl rfl (by omega) hL ?_
  refine XH_call1 (mj := mi_X9_parts) (As := [.int (xs (i + 1)), .int (xs (i + 2))]) (rest := []) (kd := 0) (n := n) (o := o) (cj := 10) (rj := rM o) (tk_L29.at 11 rfl) mv_X9_parts lk_l_138 np_X9_parts hI.P0 (by decide) rfl hI.M.f0 rfl (Nat.le_of_ble_eq_true rfl) (Nat.le_of_ble_eq_true rfl) rfl (t_parts (d := d) hI) (fun v S1 μ1 hq => ?_)
  obtain ⟨a1, rfl, hX⟩ := hq
  refine XH_aload_n (tk_L29.at 12 rfl) rfl ?_
  refine XH_arg (k := 1) (tk_L29.at 13 rfl) (tk_L29.at 14 rfl) (tk_L29.at 15 rfl) (tk_L29.at 16 rfl) (tk_L29.at 17 rfl) rfl hs rfl rfl (by omega) hL ?_
  refine XH_arg (k := 2) (tk_L29.at 18 rfl) (tk_L29.at 19 rfl) (tk_L29.at 20 rfl) (tk_L29.at 21 rfl) (tk_L29.at 22 rfl) rfl hs rfl rfl (by omega) hL ?_
  refine XH_call2 (mj := mi_X10_parts) (As := [.int (xs (i + 1)), .int (xs (i + 2))]) (rest := [.int a1]) (kd := 0) (n := n) (tk_L29.at 23 rfl) mv_X10_parts lk_l_141 np_X10_parts (by decide) rfl rfl (Nat.le_of_ble_eq_true rfl) (Nat.le_of_ble_eq_true rfl) (Nat.zero_add n).symm hX (fun v S2 μ2 hq => ?_)
  obtain ⟨a2, rfl, rfl, hN⟩ := hq
  exact X_icmp_eq (tgt := 1741) (tk_L29.at 24 rfl) (by decide) (fun _ => hk _ _ hN) (fun h => absurd rfl h)
def tb_L30 : List (Nat × Instr × Nat × Nat) := [(1224, .aload_n 1, 1, 1225), (1225, .aload_n 0, 1, 1226), (1226, .iload_n 3, 1, 1227), (1227, .iconst 1, 1, 1228), (1228, .iadd, 1, 1229), (1229, .iaload, 1, 1230), (1230, .invokevirtual 142, 3, 1233), (1233, .aload_n 2, 1, 1234), (1234, .aload_n 0, 1, 1235), (1235, .iload_n 3, 1, 1236), (1236, .iconst 1, 1, 1237), (1237, .iadd, 1, 1238), (1238, .iaload, 1, 1239), (1239, .invokevirtual 145, 3, 1242), (1242, .if_icmp .eq 499, 3, 1245), (1245, .iconst 0, 1, 1246), (1246, .ireturn, 1, 1247)]
theorem tk_L30 : Tk code tb_L30 := Tk.of (by decide +kernel)
set_option maxHeartbeats 1000000 in
theorem L_30 {G : Gl} {d n : Nat} {S : Sh} {μ : Mu} {P o t q im b L i fm : Nat} {kp : Option Nat} {xs : Nat → Int32} {Q : Option Value → Sh → Mu → Prop} (hs : Scr G b L xs) (hL : L ≤ 384) (hi : i + 6 ≤ L) (him : im < 2 ^ 30) (hF : Fmt G fm) (hI : Inv G S P o kp t q im μ) (hk : ∀ S μ, Nx G P o im S μ → X G mi_L (d + 61) n 1741 (lvL b P o i) [] S μ Q) : X G mi_L (d + 61) (32 + n) 1224 (lvL b P o i) [] S μ Q := by
  refine X_kc (kd := 0 + n) (by omega) ?_
  refine X_ofH ?_
  refine XH_aload_n (tk_L30.at 0 rfl) rfl ?_
  refine XH_arg (k := 1) (tk_L30.at 1 rfl) (tk_L30.at 2 rfl) (tk_L30.at 3 rfl) (tk_L30.at 4 rfl) (tk_L30.at 5 rfl) rfl hs rfl rfl (by omega) hL ?_
  refine XH_call1 (mj := mi_X9_latest) (As := [.int (xs (i + 1))]) (rest := []) (kd := 0) (n := n) (o := o) (cj := 10) (rj := rM o) (tk_L30.at 6 rfl) mv_X9_latest lk_l_142 np_X9_latest hI.P0 (by decide) rfl hI.M.f0 rfl (Nat.le_of_ble_eq_true rfl) (Nat.le_of_ble_eq_true rfl) rfl (t_latest (d := d) hI) (fun v S1 μ1 hq => ?_)
  obtain ⟨a1, rfl, hX⟩ := hq
  refine XH_aload_n (tk_L30.at 7 rfl) rfl ?_
  refine XH_arg (k := 1) (tk_L30.at 8 rfl) (tk_L30.at 9 rfl) (tk_L30.at 10 rfl) (tk_L30.at 11 rfl) (tk_L30.at 12 rfl) rfl hs rfl rfl (by omega) hL ?_
  refine XH_call2 (mj := mi_X10_latest) (As := [.int (xs (i + 1))]) (rest := [.int a1]) (kd := 0) (n := n) (tk_L30.at 13 rfl) mv_X10_latest lk_l_145 np_X10_latest (by decide) rfl rfl (Nat.le_of_ble_eq_true rfl) (Nat.le_of_ble_eq_true rfl) (Nat.zero_add n).symm hX (fun v S2 μ2 hq => ?_)
  obtain ⟨a2, rfl, rfl, hN⟩ := hq
  exact X_icmp_eq (tgt := 1741) (tk_L30.at 14 rfl) (by decide) (fun _ => hk _ _ hN) (fun h => absurd rfl h)
def tb_L31 : List (Nat × Instr × Nat × Nat) := [(1247, .aload_n 1, 1, 1248), (1248, .aload_n 0, 1, 1249), (1249, .iload_n 3, 1, 1250), (1250, .iconst 1, 1, 1251), (1251, .iadd, 1, 1252), (1252, .iaload, 1, 1253), (1253, .aload_n 0, 1, 1254), (1254, .iload_n 3, 1, 1255), (1255, .iconst 2, 1, 1256), (1256, .iadd, 1, 1257), (1257, .iaload, 1, 1258), (1258, .invokevirtual 146, 3, 1261), (1261, .aload_n 2, 1, 1262), (1262, .aload_n 0, 1, 1263), (1263, .iload_n 3, 1, 1264), (1264, .iconst 1, 1, 1265), (1265, .iadd, 1, 1266), (1266, .iaload, 1, 1267), (1267, .aload_n 0, 1, 1268), (1268, .iload_n 3, 1, 1269), (1269, .iconst 2, 1, 1270), (1270, .iadd, 1, 1271), (1271, .iaload, 1, 1272), (1272, .invokevirtual 149, 3, 1275), (1275, .if_icmp .eq 466, 3, 1278), (1278, .iconst 0, 1, 1279), (1279, .ireturn, 1, 1280)]
theorem tk_L31 : Tk code tb_L31 := Tk.of (by decide +kernel)
set_option maxHeartbeats 1000000 in
theorem L_31 {G : Gl} {d n : Nat} {S : Sh} {μ : Mu} {P o t q im b L i fm : Nat} {kp : Option Nat} {xs : Nat → Int32} {Q : Option Value → Sh → Mu → Prop} (hs : Scr G b L xs) (hL : L ≤ 384) (hi : i + 6 ≤ L) (him : im < 2 ^ 30) (hF : Fmt G fm) (hI : Inv G S P o kp t q im μ) (hk : ∀ S μ, Nx G P o im S μ → X G mi_L (d + 61) n 1741 (lvL b P o i) [] S μ Q) : X G mi_L (d + 61) (32 + n) 1247 (lvL b P o i) [] S μ Q := by
  refine X_kc (kd := 0 + n) (by omega) ?_
  refine X_ofH ?_
  refine XH_aload_n (tk_L31.at 0 rfl) rfl ?_
  refine XH_arg (k := 1) (tk_L31.at 1 rfl) (tk_L31.at 2 rfl) (tk_L31.at 3 rfl) (tk_L31.at 4 rfl) (tk_L31.at 5 rfl) rfl hs rfl rfl (by omega) hL ?_
  refine XH_arg (k := 2) (tk_L31.at 6 rfl) (tk_L31.at 7 rfl) (tk_L31.at 8 rfl) (tk_L31.at 9 rfl) (tk_L31.at 10 rfl) rfl hs rfl rfl (by omega) hL ?_
  refine XH_call1 (mj := mi_X9_best) (As := [.int (xs (i + 1)), .int (xs (i + 2))]) (rest := []) (kd := 0) (n := n) (o := o) (cj := 10) (rj := rM o) (tk_L31.at 11 rfl) mv_X9_best lk_l_146 np_X9_best hI.P0 (by decide) rfl hI.M.f0 rfl (Nat.le_of_ble_eq_true rfl) (Nat.le_of_ble_eq_true rfl) rfl (t_best (d := d) hI) (fun v S1 μ1 hq => ?_)
  obtain ⟨a1, rfl, hX⟩ := hq
  refine XH_aload_n (tk_L31.at 12 rfl) rfl ?_
  refine XH_arg (k := 1) (tk_L31.at 13 rfl) (tk_L31.at 14 rfl) (tk_L31.at 15 rfl) (tk_L31.at 16 rfl) (tk_L31.at 17 rfl) rfl hs rfl rfl (by omega) hL ?_
  refine XH_arg (k := 2) (tk_L31.at 18 rfl) (tk_L31.at 19 rfl) (tk_L31.at 20 rfl) (tk_L31.at 21 rfl) (tk_L31.at 22 rfl) rfl hs rfl rfl (by omega) hL ?_
  refine XH_call2 (mj := mi_X10_best) (As := [.int (xs (i + 1)), .int (xs (i + 2))]) (rest := [.int a1]) (kd := 0) (n := n) (tk_L31.at 23 rfl) mv_X10_best lk_l_149 np_X10_best (by decide) rfl rfl (Nat.le_of_ble_eq_true rfl) (Nat.le_of_ble_eq_true rfl) (Nat.zero_add n).symm hX (fun v S2 μ2 hq => ?_)
  obtain ⟨a2, rfl, rfl, hN⟩ := hq
  exact X_icmp_eq (tgt := 1741) (tk_L31.at 24 rfl) (by decide) (fun _ => hk _ _ hN) (fun h => absurd rfl h)
def tb_L32 : List (Nat × Instr × Nat × Nat) := [(1280, .aload_n 1, 1, 1281), (1281, .invokevirtual 150, 3, 1284), (1284, .aload_n 2, 1, 1285), (1285, .invokevirtual 153, 3, 1288), (1288, .if_icmp .eq 453, 3, 1291), (1291, .iconst 0, 1, 1292), (1292, .ireturn, 1, 1293)]
theorem tk_L32 : Tk code tb_L32 := Tk.of (by decide +kernel)
set_option maxHeartbeats 1000000 in
theorem L_32 {G : Gl} {d n : Nat} {S : Sh} {μ : Mu} {P o t q im b L i fm : Nat} {kp : Option Nat} {xs : Nat → Int32} {Q : Option Value → Sh → Mu → Prop} (hs : Scr G b L xs) (hL : L ≤ 384) (hi : i + 6 ≤ L) (him : im < 2 ^ 30) (hF : Fmt G fm) (hI : Inv G S P o kp t q im μ) (hk : ∀ S μ, Nx G P o im S μ → X G mi_L (d + 61) n 1741 (lvL b P o i) [] S μ Q) : X G mi_L (d + 61) (32 + n) 1280 (lvL b P o i) [] S μ Q := by
  refine X_kc (kd := 0 + n) (by omega) ?_
  refine X_ofH ?_
  refine XH_aload_n (tk_L32.at 0 rfl) rfl ?_
  refine XH_call1 (mj := mi_X9_left) (As := []) (rest := []) (kd := 0) (n := n) (o := o) (cj := 10) (rj := rM o) (tk_L32.at 1 rfl) mv_X9_left lk_l_150 np_X9_left hI.P0 (by decide) rfl hI.M.f0 rfl (Nat.le_of_ble_eq_true rfl) (Nat.le_of_ble_eq_true rfl) rfl (t_left (d := d) hI) (fun v S1 μ1 hq => ?_)
  obtain ⟨a1, rfl, hX⟩ := hq
  refine XH_aload_n (tk_L32.at 2 rfl) rfl ?_
  refine XH_call2 (mj := mi_X10_left) (As := []) (rest := [.int a1]) (kd := 0) (n := n) (tk_L32.at 3 rfl) mv_X10_left lk_l_153 np_X10_left (by decide) rfl rfl (Nat.le_of_ble_eq_true rfl) (Nat.le_of_ble_eq_true rfl) (Nat.zero_add n).symm hX (fun v S2 μ2 hq => ?_)
  obtain ⟨a2, rfl, rfl, hN⟩ := hq
  exact X_icmp_eq (tgt := 1741) (tk_L32.at 4 rfl) (by decide) (fun _ => hk _ _ hN) (fun h => absurd rfl h)
def tb_L33 : List (Nat × Instr × Nat × Nat) := [(1293, .aload_n 1, 1, 1294), (1294, .aload_n 0, 1, 1295), (1295, .iload_n 3, 1, 1296), (1296, .iconst 1, 1, 1297), (1297, .iadd, 1, 1298), (1298, .iaload, 1, 1299), (1299, .invokevirtual 154, 3, 1302), (1302, .aload_n 2, 1, 1303), (1303, .aload_n 0, 1, 1304), (1304, .iload_n 3, 1, 1305), (1305, .iconst 1, 1, 1306), (1306, .iadd, 1, 1307), (1307, .iaload, 1, 1308), (1308, .invokevirtual 157, 3, 1311), (1311, .if_icmp .eq 430, 3, 1314), (1314, .iconst 0, 1, 1315), (1315, .ireturn, 1, 1316)]
theorem tk_L33 : Tk code tb_L33 := Tk.of (by decide +kernel)
set_option maxHeartbeats 1000000 in
theorem L_33 {G : Gl} {d n : Nat} {S : Sh} {μ : Mu} {P o t q im b L i fm : Nat} {kp : Option Nat} {xs : Nat → Int32} {Q : Option Value → Sh → Mu → Prop} (hs : Scr G b L xs) (hL : L ≤ 384) (hi : i + 6 ≤ L) (him : im < 2 ^ 30) (hF : Fmt G fm) (hI : Inv G S P o kp t q im μ) (hk : ∀ S μ, Nx G P o im S μ → X G mi_L (d + 61) n 1741 (lvL b P o i) [] S μ Q) : X G mi_L (d + 61) (32 + n) 1293 (lvL b P o i) [] S μ Q := by
  refine X_kc (kd := 0 + n) (by omega) ?_
  refine X_ofH ?_
  refine XH_aload_n (tk_L33.at 0 rfl) rfl ?_
  refine XH_arg (k := 1) (tk_L33.at 1 rfl) (tk_L33.at 2 rfl) (tk_L33.at 3 rfl) (tk_L33.at 4 rfl) (tk_L33.at 5 rfl) rfl hs rfl rfl (by omega) hL ?_
  refine XH_call1 (mj := mi_X9_lead) (As := [.int (xs (i + 1))]) (rest := []) (kd := 0) (n := n) (o := o) (cj := 10) (rj := rM o) (tk_L33.at 6 rfl) mv_X9_lead lk_l_154 np_X9_lead hI.P0 (by decide) rfl hI.M.f0 rfl (Nat.le_of_ble_eq_true rfl) (Nat.le_of_ble_eq_true rfl) rfl (t_lead (d := d) hI) (fun v S1 μ1 hq => ?_)
  obtain ⟨a1, rfl, hX⟩ := hq
  refine XH_aload_n (tk_L33.at 7 rfl) rfl ?_
  refine XH_arg (k := 1) (tk_L33.at 8 rfl) (tk_L33.at 9 rfl) (tk_L33.at 10 rfl) (tk_L33.at 11 rfl) (tk_L33.at 12 rfl) rfl hs rfl rfl (by omega) hL ?_
  refine XH_call2 (mj := mi_X10_lead) (As := [.int (xs (i + 1))]) (rest := [.int a1]) (kd := 0) (n := n) (tk_L33.at 13 rfl) mv_X10_lead lk_l_157 np_X10_lead (by decide) rfl rfl (Nat.le_of_ble_eq_true rfl) (Nat.le_of_ble_eq_true rfl) (Nat.zero_add n).symm hX (fun v S2 μ2 hq => ?_)
  obtain ⟨a2, rfl, rfl, hN⟩ := hq
  exact X_icmp_eq (tgt := 1741) (tk_L33.at 14 rfl) (by decide) (fun _ => hk _ _ hN) (fun h => absurd rfl h)
def tb_L34 : List (Nat × Instr × Nat × Nat) := [(1316, .aload_n 1, 1, 1317), (1317, .aload_n 0, 1, 1318), (1318, .iload_n 3, 1, 1319), (1319, .iconst 1, 1, 1320), (1320, .iadd, 1, 1321), (1321, .iaload, 1, 1322), (1322, .aload_n 0, 1, 1323), (1323, .iload_n 3, 1, 1324), (1324, .iconst 2, 1, 1325), (1325, .iadd, 1, 1326), (1326, .iaload, 1, 1327), (1327, .invokevirtual 158, 3, 1330), (1330, .aload_n 2, 1, 1331), (1331, .aload_n 0, 1, 1332), (1332, .iload_n 3, 1, 1333), (1333, .iconst 1, 1, 1334), (1334, .iadd, 1, 1335), (1335, .iaload, 1, 1336), (1336, .aload_n 0, 1, 1337), (1337, .iload_n 3, 1, 1338), (1338, .iconst 2, 1, 1339), (1339, .iadd, 1, 1340), (1340, .iaload, 1, 1341), (1341, .invokevirtual 161, 3, 1344), (1344, .if_icmp .eq 397, 3, 1347), (1347, .iconst 0, 1, 1348), (1348, .ireturn, 1, 1349)]
theorem tk_L34 : Tk code tb_L34 := Tk.of (by decide +kernel)
set_option maxHeartbeats 1000000 in
theorem L_34 {G : Gl} {d n : Nat} {S : Sh} {μ : Mu} {P o t q im b L i fm : Nat} {kp : Option Nat} {xs : Nat → Int32} {Q : Option Value → Sh → Mu → Prop} (hs : Scr G b L xs) (hL : L ≤ 384) (hi : i + 6 ≤ L) (him : im < 2 ^ 30) (hF : Fmt G fm) (hI : Inv G S P o kp t q im μ) (hk : ∀ S μ, Nx G P o im S μ → X G mi_L (d + 61) n 1741 (lvL b P o i) [] S μ Q) : X G mi_L (d + 61) (32 + n) 1316 (lvL b P o i) [] S μ Q := by
  refine X_kc (kd := 0 + n) (by omega) ?_
  refine X_ofH ?_
  refine XH_aload_n (tk_L34.at 0 rfl) rfl ?_
  refine XH_arg (k := 1) (tk_L34.at 1 rfl) (tk_L34.at 2 rfl) (tk_L34.at 3 rfl) (tk_L34.at 4 rfl) (tk_L34.at 5 rfl) rfl hs rfl rfl (by omega) hL ?_
  refine XH_arg (k := 2) (tk_L34.at 6 rfl) (tk_L34.at 7 rfl) (tk_L34.at 8 rfl) (tk_L34.at 9 rfl) (tk_L34.at 10 rfl) rfl hs rfl rfl (by omega) hL ?_
  refine XH_call1 (mj := mi_X9_take) (As := [.int (xs (i + 1)), .int (xs (i + 2))]) (rest := []) (kd := 0) (n := n) (o := o) (cj := 10) (rj := rM o) (tk_L34.at 11 rfl) mv_X9_take lk_l_158 np_X9_take hI.P0 (by decide) rfl hI.M.f0 rfl (Nat.le_of_ble_eq_true rfl) (Nat.le_of_ble_eq_true rfl) rfl (t_take (d := d) hI) (fun v S1 μ1 hq => ?_)
  obtain ⟨a1, rfl, hX⟩ := hq
  refine XH_aload_n (tk_L34.at 12 rfl) rfl ?_
  refine XH_arg (k := 1) (tk_L34.at 13 rfl) (tk_L34.at 14 rfl) (tk_L34.at 15 rfl) (tk_L34.at 16 rfl) (tk_L34.at 17 rfl) rfl hs rfl rfl (by omega) hL ?_
  refine XH_arg (k := 2) (tk_L34.at 18 rfl) (tk_L34.at 19 rfl) (tk_L34.at 20 rfl) (tk_L34.at 21 rfl) (tk_L34.at 22 rfl) rfl hs rfl rfl (by omega) hL ?_
  refine XH_call2 (mj := mi_X10_take) (As := [.int (xs (i + 1)), .int (xs (i + 2))]) (rest := [.int a1]) (kd := 0) (n := n) (tk_L34.at 23 rfl) mv_X10_take lk_l_161 np_X10_take (by decide) rfl rfl (Nat.le_of_ble_eq_true rfl) (Nat.le_of_ble_eq_true rfl) (Nat.zero_add n).symm hX (fun v S2 μ2 hq => ?_)
  obtain ⟨a2, rfl, rfl, hN⟩ := hq
  exact X_icmp_eq (tgt := 1741) (tk_L34.at 24 rfl) (by decide) (fun _ => hk _ _ hN) (fun h => absurd rfl h)
def tb_L35 : List (Nat × Instr × Nat × Nat) := [(1349, .aload_n 1, 1, 1350), (1350, .invokevirtual 162, 3, 1353), (1353, .aload_n 2, 1, 1354), (1354, .invokevirtual 165, 3, 1357), (1357, .if_icmp .eq 384, 3, 1360), (1360, .iconst 0, 1, 1361), (1361, .ireturn, 1, 1362)]
theorem tk_L35 : Tk code tb_L35 := Tk.of (by decide +kernel)
set_option maxHeartbeats 1000000 in
theorem L_35 {G : Gl} {d n : Nat} {S : Sh} {μ : Mu} {P o t q im b L i fm : Nat} {kp : Option Nat} {xs : Nat → Int32} {Q : Option Value → Sh → Mu → Prop} (hs : Scr G b L xs) (hL : L ≤ 384) (hi : i + 6 ≤ L) (him : im < 2 ^ 30) (hF : Fmt G fm) (hI : Inv G S P o kp t q im μ) (hk : ∀ S μ, Nx G P o im S μ → X G mi_L (d + 61) n 1741 (lvL b P o i) [] S μ Q) : X G mi_L (d + 61) (32 + n) 1349 (lvL b P o i) [] S μ Q := by
  refine X_kc (kd := 0 + n) (by omega) ?_
  refine X_ofH ?_
  refine XH_aload_n (tk_L35.at 0 rfl) rfl ?_
  refine XH_call1 (mj := mi_X9_morning) (As := []) (rest := []) (kd := 0) (n := n) (o := o) (cj := 10) (rj := rM o) (tk_L35.at 1 rfl) mv_X9_morning lk_l_162 np_X9_morning hI.P0 (by decide) rfl hI.M.f0 rfl (Nat.le_of_ble_eq_true rfl) (Nat.le_of_ble_eq_true rfl) rfl (t_morning (d := d) hI) (fun v S1 μ1 hq => ?_)
  obtain ⟨a1, rfl, hX⟩ := hq
  refine XH_aload_n (tk_L35.at 2 rfl) rfl ?_
  refine XH_call2 (mj := mi_X10_morning) (As := []) (rest := [.int a1]) (kd := 0) (n := n) (tk_L35.at 3 rfl) mv_X10_morning lk_l_165 np_X10_morning (by decide) rfl rfl (Nat.le_of_ble_eq_true rfl) (Nat.le_of_ble_eq_true rfl) (Nat.zero_add n).symm hX (fun v S2 μ2 hq => ?_)
  obtain ⟨a2, rfl, rfl, hN⟩ := hq
  exact X_icmp_eq (tgt := 1741) (tk_L35.at 4 rfl) (by decide) (fun _ => hk _ _ hN) (fun h => absurd rfl h)
def tb_L36 : List (Nat × Instr × Nat × Nat) := [(1362, .aload_n 1, 1, 1363), (1363, .aload_n 0, 1, 1364), (1364, .iload_n 3, 1, 1365), (1365, .iconst 1, 1, 1366), (1366, .iadd, 1, 1367), (1367, .iaload, 1, 1368), (1368, .aload_n 0, 1, 1369), (1369, .iload_n 3, 1, 1370), (1370, .iconst 2, 1, 1371), (1371, .iadd, 1, 1372), (1372, .iaload, 1, 1373), (1373, .invokevirtual 166, 3, 1376), (1376, .aload_n 2, 1, 1377), (1377, .aload_n 0, 1, 1378), (1378, .iload_n 3, 1, 1379), (1379, .iconst 1, 1, 1380), (1380, .iadd, 1, 1381), (1381, .iaload, 1, 1382), (1382, .aload_n 0, 1, 1383), (1383, .iload_n 3, 1, 1384), (1384, .iconst 2, 1, 1385), (1385, .iadd, 1, 1386), (1386, .iaload, 1, 1387), (1387, .invokevirtual 169, 3, 1390), (1390, .if_icmp .eq 351, 3, 1393), (1393, .iconst 0, 1, 1394), (1394, .ireturn, 1, 1395)]
theorem tk_L36 : Tk code tb_L36 := Tk.of (by decide +kernel)
set_option maxHeartbeats 1000000 in
theorem L_36 {G : Gl} {d n : Nat} {S : Sh} {μ : Mu} {P o t q im b L i fm : Nat} {kp : Option Nat} {xs : Nat → Int32} {Q : Option Value → Sh → Mu → Prop} (hs : Scr G b L xs) (hL : L ≤ 384) (hi : i + 6 ≤ L) (him : im < 2 ^ 30) (hF : Fmt G fm) (hI : Inv G S P o kp t q im μ) (hk : ∀ S μ, Nx G P o im S μ → X G mi_L (d + 61) n 1741 (lvL b P o i) [] S μ Q) : X G mi_L (d + 61) (32 + n) 1362 (lvL b P o i) [] S μ Q := by
  refine X_kc (kd := 0 + n) (by omega) ?_
  refine X_ofH ?_
  refine XH_aload_n (tk_L36.at 0 rfl) rfl ?_
  refine XH_arg (k := 1) (tk_L36.at 1 rfl) (tk_L36.at 2 rfl) (tk_L36.at 3 rfl) (tk_L36.at 4 rfl) (tk_L36.at 5 rfl) rfl hs rfl rfl (by omega) hL ?_
  refine XH_arg (k := 2) (tk_L36.at 6 rfl) (tk_L36.at 7 rfl) (tk_L36.at 8 rfl) (tk_L36.at 9 rfl) (tk_L36.at 10 rfl) rfl hs rfl rfl (by omega) hL ?_
  refine XH_call1 (mj := mi_X9_mornings) (As := [.int (xs (i + 1)), .int (xs (i + 2))]) (rest := []) (kd := 0) (n := n) (o := o) (cj := 10) (rj := rM o) (tk_L36.at 11 rfl) mv_X9_mornings lk_l_166 np_X9_mornings hI.P0 (by decide) rfl hI.M.f0 rfl (Nat.le_of_ble_eq_true rfl) (Nat.le_of_ble_eq_true rfl) rfl (t_mornings (d := d) hI) (fun v S1 μ1 hq => ?_)
  obtain ⟨a1, rfl, hX⟩ := hq
  refine XH_aload_n (tk_L36.at 12 rfl) rfl ?_
  refine XH_arg (k := 1) (tk_L36.at 13 rfl) (tk_L36.at 14 rfl) (tk_L36.at 15 rfl) (tk_L36.at 16 rfl) (tk_L36.at 17 rfl) rfl hs rfl rfl (by omega) hL ?_
  refine XH_arg (k := 2) (tk_L36.at 18 rfl) (tk_L36.at 19 rfl) (tk_L36.at 20 rfl) (tk_L36.at 21 rfl) (tk_L36.at 22 rfl) rfl hs rfl rfl (by omega) hL ?_
  refine XH_call2 (mj := mi_X10_mornings) (As := [.int (xs (i + 1)), .int (xs (i + 2))]) (rest := [.int a1]) (kd := 0) (n := n) (tk_L36.at 23 rfl) mv_X10_mornings lk_l_169 np_X10_mornings (by decide) rfl rfl (Nat.le_of_ble_eq_true rfl) (Nat.le_of_ble_eq_true rfl) (Nat.zero_add n).symm hX (fun v S2 μ2 hq => ?_)
  obtain ⟨a2, rfl, rfl, hN⟩ := hq
  exact X_icmp_eq (tgt := 1741) (tk_L36.at 24 rfl) (by decide) (fun _ => hk _ _ hN) (fun h => absurd rfl h)
def tb_L37 : List (Nat × Instr × Nat × Nat) := [(1395, .aload_n 1, 1, 1396), (1396, .aload_n 0, 1, 1397), (1397, .iload_n 3, 1, 1398), (1398, .iconst 1, 1, 1399), (1399, .iadd, 1, 1400), (1400, .iaload, 1, 1401), (1401, .invokevirtual 170, 3, 1404), (1404, .aload_n 2, 1, 1405), (1405, .aload_n 0, 1, 1406), (1406, .iload_n 3, 1, 1407), (1407, .iconst 1, 1, 1408), (1408, .iadd, 1, 1409), (1409, .iaload, 1, 1410), (1410, .invokevirtual 173, 3, 1413), (1413, .if_icmp .eq 328, 3, 1416), (1416, .iconst 0, 1, 1417), (1417, .ireturn, 1, 1418)]
theorem tk_L37 : Tk code tb_L37 := Tk.of (by decide +kernel)
set_option maxHeartbeats 1000000 in
theorem L_37 {G : Gl} {d n : Nat} {S : Sh} {μ : Mu} {P o t q im b L i fm : Nat} {kp : Option Nat} {xs : Nat → Int32} {Q : Option Value → Sh → Mu → Prop} (hs : Scr G b L xs) (hL : L ≤ 384) (hi : i + 6 ≤ L) (him : im < 2 ^ 30) (hF : Fmt G fm) (hI : Inv G S P o kp t q im μ) (hk : ∀ S μ, Nx G P o im S μ → X G mi_L (d + 61) n 1741 (lvL b P o i) [] S μ Q) : X G mi_L (d + 61) (32 + n) 1395 (lvL b P o i) [] S μ Q := by
  refine X_kc (kd := 0 + n) (by omega) ?_
  refine X_ofH ?_
  refine XH_aload_n (tk_L37.at 0 rfl) rfl ?_
  refine XH_arg (k := 1) (tk_L37.at 1 rfl) (tk_L37.at 2 rfl) (tk_L37.at 3 rfl) (tk_L37.at 4 rfl) (tk_L37.at 5 rfl) rfl hs rfl rfl (by omega) hL ?_
  refine XH_call1 (mj := mi_X9_seed) (As := [.int (xs (i + 1))]) (rest := []) (kd := 0) (n := n) (o := o) (cj := 10) (rj := rM o) (tk_L37.at 6 rfl) mv_X9_seed lk_l_170 np_X9_seed hI.P0 (by decide) rfl hI.M.f0 rfl (Nat.le_of_ble_eq_true rfl) (Nat.le_of_ble_eq_true rfl) rfl (t_seed (d := d) hI) (fun v S1 μ1 hq => ?_)
  obtain ⟨a1, rfl, hX⟩ := hq
  refine XH_aload_n (tk_L37.at 7 rfl) rfl ?_
  refine XH_arg (k := 1) (tk_L37.at 8 rfl) (tk_L37.at 9 rfl) (tk_L37.at 10 rfl) (tk_L37.at 11 rfl) (tk_L37.at 12 rfl) rfl hs rfl rfl (by omega) hL ?_
  refine XH_call2 (mj := mi_X10_seed) (As := [.int (xs (i + 1))]) (rest := [.int a1]) (kd := 0) (n := n) (tk_L37.at 13 rfl) mv_X10_seed lk_l_173 np_X10_seed (by decide) rfl rfl (Nat.le_of_ble_eq_true rfl) (Nat.le_of_ble_eq_true rfl) (Nat.zero_add n).symm hX (fun v S2 μ2 hq => ?_)
  obtain ⟨a2, rfl, rfl, hN⟩ := hq
  exact X_icmp_eq (tgt := 1741) (tk_L37.at 14 rfl) (by decide) (fun _ => hk _ _ hN) (fun h => absurd rfl h)
def tb_L38 : List (Nat × Instr × Nat × Nat) := [(1418, .aload_n 1, 1, 1419), (1419, .aload_n 0, 1, 1420), (1420, .iload_n 3, 1, 1421), (1421, .iconst 1, 1, 1422), (1422, .iadd, 1, 1423), (1423, .iaload, 1, 1424), (1424, .aload_n 0, 1, 1425), (1425, .iload_n 3, 1, 1426), (1426, .iconst 2, 1, 1427), (1427, .iadd, 1, 1428), (1428, .iaload, 1, 1429), (1429, .aload_n 0, 1, 1430), (1430, .iload_n 3, 1, 1431), (1431, .iconst 3, 1, 1432), (1432, .iadd, 1, 1433), (1433, .iaload, 1, 1434), (1434, .invokevirtual 174, 3, 1437), (1437, .aload_n 2, 1, 1438), (1438, .aload_n 0, 1, 1439), (1439, .iload_n 3, 1, 1440), (1440, .iconst 1, 1, 1441), (1441, .iadd, 1, 1442), (1442, .iaload, 1, 1443), (1443, .aload_n 0, 1, 1444), (1444, .iload_n 3, 1, 1445), (1445, .iconst 2, 1, 1446), (1446, .iadd, 1, 1447), (1447, .iaload, 1, 1448), (1448, .aload_n 0, 1, 1449), (1449, .iload_n 3, 1, 1450), (1450, .iconst 3, 1, 1451), (1451, .iadd, 1, 1452), (1452, .iaload, 1, 1453), (1453, .invokevirtual 177, 3, 1456), (1456, .if_icmp .eq 285, 3, 1459), (1459, .iconst 0, 1, 1460), (1460, .ireturn, 1, 1461)]
theorem tk_L38 : Tk code tb_L38 := Tk.of (by decide +kernel)
set_option maxHeartbeats 1000000 in
theorem L_38 {G : Gl} {d n : Nat} {S : Sh} {μ : Mu} {P o t q im b L i fm : Nat} {kp : Option Nat} {xs : Nat → Int32} {Q : Option Value → Sh → Mu → Prop} (hs : Scr G b L xs) (hL : L ≤ 384) (hi : i + 6 ≤ L) (him : im < 2 ^ 30) (hF : Fmt G fm) (hI : Inv G S P o kp t q im μ) (hk : ∀ S μ, Nx G P o im S μ → X G mi_L (d + 61) n 1741 (lvL b P o i) [] S μ Q) : X G mi_L (d + 61) (32 + n) 1418 (lvL b P o i) [] S μ Q := by
  refine X_kc (kd := 0 + n) (by omega) ?_
  refine X_ofH ?_
  refine XH_aload_n (tk_L38.at 0 rfl) rfl ?_
  refine XH_arg (k := 1) (tk_L38.at 1 rfl) (tk_L38.at 2 rfl) (tk_L38.at 3 rfl) (tk_L38.at 4 rfl) (tk_L38.at 5 rfl) rfl hs rfl rfl (by omega) hL ?_
  refine XH_arg (k := 2) (tk_L38.at 6 rfl) (tk_L38.at 7 rfl) (tk_L38.at 8 rfl) (tk_L38.at 9 rfl) (tk_L38.at 10 rfl) rfl hs rfl rfl (by omega) hL ?_
  refine XH_arg (k := 3) (tk_L38.at 11 rfl) (tk_L38.at 12 rfl) (tk_L38.at 13 rfl) (tk_L38.at 14 rfl) (tk_L38.at 15 rfl) rfl hs rfl rfl (by omega) hL ?_
  refine XH_call1 (mj := mi_X9_voice) (As := [.int (xs (i + 1)), .int (xs (i + 2)), .int (xs (i + 3))]) (rest := []) (kd := 0) (n := n) (o := o) (cj := 10) (rj := rM o) (tk_L38.at 16 rfl) mv_X9_voice lk_l_174 np_X9_voice hI.P0 (by decide) rfl hI.M.f0 rfl (Nat.le_of_ble_eq_true rfl) (Nat.le_of_ble_eq_true rfl) rfl (t_voice (d := d) hI) (fun v S1 μ1 hq => ?_)
  obtain ⟨a1, rfl, hX⟩ := hq
  refine XH_aload_n (tk_L38.at 17 rfl) rfl ?_
  refine XH_arg (k := 1) (tk_L38.at 18 rfl) (tk_L38.at 19 rfl) (tk_L38.at 20 rfl) (tk_L38.at 21 rfl) (tk_L38.at 22 rfl) rfl hs rfl rfl (by omega) hL ?_
  refine XH_arg (k := 2) (tk_L38.at 23 rfl) (tk_L38.at 24 rfl) (tk_L38.at 25 rfl) (tk_L38.at 26 rfl) (tk_L38.at 27 rfl) rfl hs rfl rfl (by omega) hL ?_
  refine XH_arg (k := 3) (tk_L38.at 28 rfl) (tk_L38.at 29 rfl) (tk_L38.at 30 rfl) (tk_L38.at 31 rfl) (tk_L38.at 32 rfl) rfl hs rfl rfl (by omega) hL ?_
  refine XH_call2 (mj := mi_X10_voice) (As := [.int (xs (i + 1)), .int (xs (i + 2)), .int (xs (i + 3))]) (rest := [.int a1]) (kd := 0) (n := n) (tk_L38.at 33 rfl) mv_X10_voice lk_l_177 np_X10_voice (by decide) rfl rfl (Nat.le_of_ble_eq_true rfl) (Nat.le_of_ble_eq_true rfl) (Nat.zero_add n).symm hX (fun v S2 μ2 hq => ?_)
  obtain ⟨a2, rfl, rfl, hN⟩ := hq
  exact X_icmp_eq (tgt := 1741) (tk_L38.at 34 rfl) (by decide) (fun _ => hk _ _ hN) (fun h => absurd rfl h)
def tb_L39 : List (Nat × Instr × Nat × Nat) := [(1461, .aload_n 1, 1, 1462), (1462, .aload_n 0, 1, 1463), (1463, .iload_n 3, 1, 1464), (1464, .iconst 1, 1, 1465), (1465, .iadd, 1, 1466), (1466, .iaload, 1, 1467), (1467, .invokevirtual 178, 3, 1470), (1470, .aload_n 2, 1, 1471), (1471, .aload_n 0, 1, 1472), (1472, .iload_n 3, 1, 1473), (1473, .iconst 1, 1, 1474), (1474, .iadd, 1, 1475), (1475, .iaload, 1, 1476), (1476, .invokevirtual 181, 3, 1479), (1479, .if_icmp .eq 262, 3, 1482), (1482, .iconst 0, 1, 1483), (1483, .ireturn, 1, 1484)]
theorem tk_L39 : Tk code tb_L39 := Tk.of (by decide +kernel)
set_option maxHeartbeats 1000000 in
theorem L_39 {G : Gl} {d n : Nat} {S : Sh} {μ : Mu} {P o t q im b L i fm : Nat} {kp : Option Nat} {xs : Nat → Int32} {Q : Option Value → Sh → Mu → Prop} (hs : Scr G b L xs) (hL : L ≤ 384) (hi : i + 6 ≤ L) (him : im < 2 ^ 30) (hF : Fmt G fm) (hI : Inv G S P o kp t q im μ) (hk : ∀ S μ, Nx G P o im S μ → X G mi_L (d + 61) n 1741 (lvL b P o i) [] S μ Q) : X G mi_L (d + 61) (32 + n) 1461 (lvL b P o i) [] S μ Q := by
  refine X_kc (kd := 0 + n) (by omega) ?_
  refine X_ofH ?_
  refine XH_aload_n (tk_L39.at 0 rfl) rfl ?_
  refine XH_arg (k := 1) (tk_L39.at 1 rfl) (tk_L39.at 2 rfl) (tk_L39.at 3 rfl) (tk_L39.at 4 rfl) (tk_L39.at 5 rfl) rfl hs rfl rfl (by omega) hL ?_
  refine XH_call1 (mj := mi_X9_trace) (As := [.int (xs (i + 1))]) (rest := []) (kd := 0) (n := n) (o := o) (cj := 10) (rj := rM o) (tk_L39.at 6 rfl) mv_X9_trace lk_l_178 np_X9_trace hI.P0 (by decide) rfl hI.M.f0 rfl (Nat.le_of_ble_eq_true rfl) (Nat.le_of_ble_eq_true rfl) rfl (t_trace (d := d) hI) (fun v S1 μ1 hq => ?_)
  obtain ⟨a1, rfl, hX⟩ := hq
  refine XH_aload_n (tk_L39.at 7 rfl) rfl ?_
  refine XH_arg (k := 1) (tk_L39.at 8 rfl) (tk_L39.at 9 rfl) (tk_L39.at 10 rfl) (tk_L39.at 11 rfl) (tk_L39.at 12 rfl) rfl hs rfl rfl (by omega) hL ?_
  refine XH_call2 (mj := mi_X10_trace) (As := [.int (xs (i + 1))]) (rest := [.int a1]) (kd := 0) (n := n) (tk_L39.at 13 rfl) mv_X10_trace lk_l_181 np_X10_trace (by decide) rfl rfl (Nat.le_of_ble_eq_true rfl) (Nat.le_of_ble_eq_true rfl) (Nat.zero_add n).symm hX (fun v S2 μ2 hq => ?_)
  obtain ⟨a2, rfl, rfl, hN⟩ := hq
  exact X_icmp_eq (tgt := 1741) (tk_L39.at 14 rfl) (by decide) (fun _ => hk _ _ hN) (fun h => absurd rfl h)
def tb_L40 : List (Nat × Instr × Nat × Nat) := [(1484, .aload_n 1, 1, 1485), (1485, .aload_n 0, 1, 1486), (1486, .iload_n 3, 1, 1487), (1487, .iconst 1, 1, 1488), (1488, .iadd, 1, 1489), (1489, .iaload, 1, 1490), (1490, .aload_n 0, 1, 1491), (1491, .iload_n 3, 1, 1492), (1492, .iconst 2, 1, 1493), (1493, .iadd, 1, 1494), (1494, .iaload, 1, 1495), (1495, .aload_n 0, 1, 1496), (1496, .iload_n 3, 1, 1497), (1497, .iconst 3, 1, 1498), (1498, .iadd, 1, 1499), (1499, .iaload, 1, 1500), (1500, .invokevirtual 182, 3, 1503), (1503, .aload_n 2, 1, 1504), (1504, .aload_n 0, 1, 1505), (1505, .iload_n 3, 1, 1506), (1506, .iconst 1, 1, 1507), (1507, .iadd, 1, 1508), (1508, .iaload, 1, 1509), (1509, .aload_n 0, 1, 1510), (1510, .iload_n 3, 1, 1511), (1511, .iconst 2, 1, 1512), (1512, .iadd, 1, 1513), (1513, .iaload, 1, 1514), (1514, .aload_n 0, 1, 1515), (1515, .iload_n 3, 1, 1516), (1516, .iconst 3, 1, 1517), (1517, .iadd, 1, 1518), (1518, .iaload, 1, 1519), (1519, .invokevirtual 185, 3, 1522), (1522, .if_icmp .eq 219, 3, 1525), (1525, .iconst 0, 1, 1526), (1526, .ireturn, 1, 1527)]
theorem tk_L40 : Tk code tb_L40 := Tk.of (by decide +kernel)
set_option maxHeartbeats 1000000 in
theorem L_40 {G : Gl} {d n : Nat} {S : Sh} {μ : Mu} {P o t q im b L i fm : Nat} {kp : Option Nat} {xs : Nat → Int32} {Q : Option Value → Sh → Mu → Prop} (hs : Scr G b L xs) (hL : L ≤ 384) (hi : i + 6 ≤ L) (him : im < 2 ^ 30) (hF : Fmt G fm) (hI : Inv G S P o kp t q im μ) (hk : ∀ S μ, Nx G P o im S μ → X G mi_L (d + 61) n 1741 (lvL b P o i) [] S μ Q) : X G mi_L (d + 61) (32 + n) 1484 (lvL b P o i) [] S μ Q := by
  refine X_kc (kd := 0 + n) (by omega) ?_
  refine X_ofH ?_
  refine XH_aload_n (tk_L40.at 0 rfl) rfl ?_
  refine XH_arg (k := 1) (tk_L40.at 1 rfl) (tk_L40.at 2 rfl) (tk_L40.at 3 rfl) (tk_L40.at 4 rfl) (tk_L40.at 5 rfl) rfl hs rfl rfl (by omega) hL ?_
  refine XH_arg (k := 2) (tk_L40.at 6 rfl) (tk_L40.at 7 rfl) (tk_L40.at 8 rfl) (tk_L40.at 9 rfl) (tk_L40.at 10 rfl) rfl hs rfl rfl (by omega) hL ?_
  refine XH_arg (k := 3) (tk_L40.at 11 rfl) (tk_L40.at 12 rfl) (tk_L40.at 13 rfl) (tk_L40.at 14 rfl) (tk_L40.at 15 rfl) rfl hs rfl rfl (by omega) hL ?_
  refine XH_call1 (mj := mi_X9_sheet) (As := [.int (xs (i + 1)), .int (xs (i + 2)), .int (xs (i + 3))]) (rest := []) (kd := 0) (n := n) (o := o) (cj := 10) (rj := rM o) (tk_L40.at 16 rfl) mv_X9_sheet lk_l_182 np_X9_sheet hI.P0 (by decide) rfl hI.M.f0 rfl (Nat.le_of_ble_eq_true rfl) (Nat.le_of_ble_eq_true rfl) rfl (t_sheet (d := d) hI) (fun v S1 μ1 hq => ?_)
  obtain ⟨a1, rfl, hX⟩ := hq
  refine XH_aload_n (tk_L40.at 17 rfl) rfl ?_
  refine XH_arg (k := 1) (tk_L40.at 18 rfl) (tk_L40.at 19 rfl) (tk_L40.at 20 rfl) (tk_L40.at 21 rfl) (tk_L40.at 22 rfl) rfl hs rfl rfl (by omega) hL ?_
  refine XH_arg (k := 2) (tk_L40.at 23 rfl) (tk_L40.at 24 rfl) (tk_L40.at 25 rfl) (tk_L40.at 26 rfl) (tk_L40.at 27 rfl) rfl hs rfl rfl (by omega) hL ?_
  refine XH_arg (k := 3) (tk_L40.at 28 rfl) (tk_L40.at 29 rfl) (tk_L40.at 30 rfl) (tk_L40.at 31 rfl) (tk_L40.at 32 rfl) rfl hs rfl rfl (by omega) hL ?_
  refine XH_call2 (mj := mi_X10_sheet) (As := [.int (xs (i + 1)), .int (xs (i + 2)), .int (xs (i + 3))]) (rest := [.int a1]) (kd := 0) (n := n) (tk_L40.at 33 rfl) mv_X10_sheet lk_l_185 np_X10_sheet (by decide) rfl rfl (Nat.le_of_ble_eq_true rfl) (Nat.le_of_ble_eq_true rfl) (Nat.zero_add n).symm hX (fun v S2 μ2 hq => ?_)
  obtain ⟨a2, rfl, rfl, hN⟩ := hq
  exact X_icmp_eq (tgt := 1741) (tk_L40.at 34 rfl) (by decide) (fun _ => hk _ _ hN) (fun h => absurd rfl h)
def tb_L41 : List (Nat × Instr × Nat × Nat) := [(1527, .aload_n 1, 1, 1528), (1528, .aload_n 0, 1, 1529), (1529, .iload_n 3, 1, 1530), (1530, .iconst 1, 1, 1531), (1531, .iadd, 1, 1532), (1532, .iaload, 1, 1533), (1533, .aload_n 0, 1, 1534), (1534, .iload_n 3, 1, 1535), (1535, .iconst 2, 1, 1536), (1536, .iadd, 1, 1537), (1537, .iaload, 1, 1538), (1538, .aload_n 0, 1, 1539), (1539, .iload_n 3, 1, 1540), (1540, .iconst 3, 1, 1541), (1541, .iadd, 1, 1542), (1542, .iaload, 1, 1543), (1543, .invokevirtual 186, 3, 1546), (1546, .aload_n 2, 1, 1547), (1547, .aload_n 0, 1, 1548), (1548, .iload_n 3, 1, 1549), (1549, .iconst 1, 1, 1550), (1550, .iadd, 1, 1551), (1551, .iaload, 1, 1552), (1552, .aload_n 0, 1, 1553), (1553, .iload_n 3, 1, 1554), (1554, .iconst 2, 1, 1555), (1555, .iadd, 1, 1556), (1556, .iaload, 1, 1557), (1557, .aload_n 0, 1, 1558), (1558, .iload_n 3, 1, 1559), (1559, .iconst 3, 1, 1560), (1560, .iadd, 1, 1561), (1561, .iaload, 1, 1562), (1562, .invokevirtual 189, 3, 1565), (1565, .if_icmp .eq 176, 3, 1568), (1568, .iconst 0, 1, 1569), (1569, .ireturn, 1, 1570)]
theorem tk_L41 : Tk code tb_L41 := Tk.of (by decide +kernel)
set_option maxHeartbeats 1000000 in
theorem L_41 {G : Gl} {d n : Nat} {S : Sh} {μ : Mu} {P o t q im b L i fm : Nat} {kp : Option Nat} {xs : Nat → Int32} {Q : Option Value → Sh → Mu → Prop} (hs : Scr G b L xs) (hL : L ≤ 384) (hi : i + 6 ≤ L) (him : im < 2 ^ 30) (hF : Fmt G fm) (hI : Inv G S P o kp t q im μ) (hk : ∀ S μ, Nx G P o im S μ → X G mi_L (d + 61) n 1741 (lvL b P o i) [] S μ Q) : X G mi_L (d + 61) (32 + n) 1527 (lvL b P o i) [] S μ Q := by
  refine X_kc (kd := 0 + n) (by omega) ?_
  refine X_ofH ?_
  refine XH_aload_n (tk_L41.at 0 rfl) rfl ?_
  refine XH_arg (k := 1) (tk_L41.at 1 rfl) (tk_L41.at 2 rfl) (tk_L41.at 3 rfl) (tk_L41.at 4 rfl) (tk_L41.at 5 rfl) rfl hs rfl rfl (by omega) hL ?_
  refine XH_arg (k := 2) (tk_L41.at 6 rfl) (tk_L41.at 7 rfl) (tk_L41.at 8 rfl) (tk_L41.at 9 rfl) (tk_L41.at 10 rfl) rfl hs rfl rfl (by omega) hL ?_
  refine XH_arg (k := 3) (tk_L41.at 11 rfl) (tk_L41.at 12 rfl) (tk_L41.at 13 rfl) (tk_L41.at 14 rfl) (tk_L41.at 15 rfl) rfl hs rfl rfl (by omega) hL ?_
  refine XH_call1 (mj := mi_X9_put) (As := [.int (xs (i + 1)), .int (xs (i + 2)), .int (xs (i + 3))]) (rest := []) (kd := 0) (n := n) (o := o) (cj := 10) (rj := rM o) (tk_L41.at 16 rfl) mv_X9_put lk_l_186 np_X9_put hI.P0 (by decide) rfl hI.M.f0 rfl (Nat.le_of_ble_eq_true rfl) (Nat.le_of_ble_eq_true rfl) rfl (t_put (d := d) hI) (fun v S1 μ1 hq => ?_)
  obtain ⟨a1, rfl, hX⟩ := hq
  refine XH_aload_n (tk_L41.at 17 rfl) rfl ?_
  refine XH_arg (k := 1) (tk_L41.at 18 rfl) (tk_L41.at 19 rfl) (tk_L41.at 20 rfl) (tk_L41.at 21 rfl) (tk_L41.at 22 rfl) rfl hs rfl rfl (by omega) hL ?_
  refine XH_arg (k := 2) (tk_L41.at 23 rfl) (tk_L41.at 24 rfl) (tk_L41.at 25 rfl) (tk_L41.at 26 rfl) (tk_L41.at 27 rfl) rfl hs rfl rfl (by omega) hL ?_
  refine XH_arg (k := 3) (tk_L41.at 28 rfl) (tk_L41.at 29 rfl) (tk_L41.at 30 rfl) (tk_L41.at 31 rfl) (tk_L41.at 32 rfl) rfl hs rfl rfl (by omega) hL ?_
  refine XH_call2 (mj := mi_X10_put) (As := [.int (xs (i + 1)), .int (xs (i + 2)), .int (xs (i + 3))]) (rest := [.int a1]) (kd := 0) (n := n) (tk_L41.at 33 rfl) mv_X10_put lk_l_189 np_X10_put (by decide) rfl rfl (Nat.le_of_ble_eq_true rfl) (Nat.le_of_ble_eq_true rfl) (Nat.zero_add n).symm hX (fun v S2 μ2 hq => ?_)
  obtain ⟨a2, rfl, rfl, hN⟩ := hq
  exact X_icmp_eq (tgt := 1741) (tk_L41.at 34 rfl) (by decide) (fun _ => hk _ _ hN) (fun h => absurd rfl h)
def tb_L42 : List (Nat × Instr × Nat × Nat) := [(1570, .aload_n 1, 1, 1571), (1571, .aload_n 0, 1, 1572), (1572, .iload_n 3, 1, 1573), (1573, .iconst 1, 1, 1574), (1574, .iadd, 1, 1575), (1575, .iaload, 1, 1576), (1576, .aload_n 0, 1, 1577), (1577, .iload_n 3, 1, 1578), (1578, .iconst 2, 1, 1579), (1579, .iadd, 1, 1580), (1580, .iaload, 1, 1581), (1581, .aload_n 0, 1, 1582), (1582, .iload_n 3, 1, 1583), (1583, .iconst 3, 1, 1584), (1584, .iadd, 1, 1585), (1585, .iaload, 1, 1586), (1586, .aload_n 0, 1, 1587), (1587, .iload_n 3, 1, 1588), (1588, .iconst 4, 1, 1589), (1589, .iadd, 1, 1590), (1590, .iaload, 1, 1591), (1591, .aload_n 0, 1, 1592), (1592, .iload_n 3, 1, 1593), (1593, .iconst 5, 1, 1594), (1594, .iadd, 1, 1595), (1595, .iaload, 1, 1596), (1596, .invokevirtual 190, 3, 1599), (1599, .aload_n 2, 1, 1600), (1600, .aload_n 0, 1, 1601), (1601, .iload_n 3, 1, 1602), (1602, .iconst 1, 1, 1603), (1603, .iadd, 1, 1604), (1604, .iaload, 1, 1605), (1605, .aload_n 0, 1, 1606), (1606, .iload_n 3, 1, 1607), (1607, .iconst 2, 1, 1608), (1608, .iadd, 1, 1609), (1609, .iaload, 1, 1610), (1610, .aload_n 0, 1, 1611), (1611, .iload_n 3, 1, 1612), (1612, .iconst 3, 1, 1613), (1613, .iadd, 1, 1614), (1614, .iaload, 1, 1615), (1615, .aload_n 0, 1, 1616), (1616, .iload_n 3, 1, 1617), (1617, .iconst 4, 1, 1618), (1618, .iadd, 1, 1619), (1619, .iaload, 1, 1620), (1620, .aload_n 0, 1, 1621), (1621, .iload_n 3, 1, 1622), (1622, .iconst 5, 1, 1623), (1623, .iadd, 1, 1624), (1624, .iaload, 1, 1625), (1625, .invokevirtual 193, 3, 1628), (1628, .if_icmp .eq 113, 3, 1631), (1631, .iconst 0, 1, 1632), (1632, .ireturn, 1, 1633)]
theorem tk_L42 : Tk code tb_L42 := Tk.of (by decide +kernel)
set_option maxHeartbeats 1000000 in
theorem L_42 {G : Gl} {d n : Nat} {S : Sh} {μ : Mu} {P o t q im b L i fm : Nat} {kp : Option Nat} {xs : Nat → Int32} {Q : Option Value → Sh → Mu → Prop} (hs : Scr G b L xs) (hL : L ≤ 384) (hi : i + 6 ≤ L) (him : im < 2 ^ 30) (hF : Fmt G fm) (hI : Inv G S P o kp t q im μ) (hk : ∀ S μ, Nx G P o im S μ → X G mi_L (d + 61) n 1741 (lvL b P o i) [] S μ Q) : X G mi_L (d + 61) (32 + n) 1570 (lvL b P o i) [] S μ Q := by
  refine X_kc (kd := 0 + n) (by omega) ?_
  refine X_ofH ?_
  refine XH_aload_n (tk_L42.at 0 rfl) rfl ?_
  refine XH_arg (k := 1) (tk_L42.at 1 rfl) (tk_L42.at 2 rfl) (tk_L42.at 3 rfl) (tk_L42.at 4 rfl) (tk_L42.at 5 rfl) rfl hs rfl rfl (by omega) hL ?_
  refine XH_arg (k := 2) (tk_L42.at 6 rfl) (tk_L42.at 7 rfl) (tk_L42.at 8 rfl) (tk_L42.at 9 rfl) (tk_L42.at 10 rfl) rfl hs rfl rfl (by omega) hL ?_
  refine XH_arg (k := 3) (tk_L42.at 11 rfl) (tk_L42.at 12 rfl) (tk_L42.at 13 rfl) (tk_L42.at 14 rfl) (tk_L42.at 15 rfl) rfl hs rfl rfl (by omega) hL ?_
  refine XH_arg (k := 4) (tk_L42.at 16 rfl) (tk_L42.at 17 rfl) (tk_L42.at 18 rfl) (tk_L42.at 19 rfl) (tk_L42.at 20 rfl) rfl hs rfl rfl (by omega) hL ?_
  refine XH_arg (k := 5) (tk_L42.at 21 rfl) (tk_L42.at 22 rfl) (tk_L42.at 23 rfl) (tk_L42.at 24 rfl) (tk_L42.at 25 rfl) rfl hs rfl rfl (by omega) hL ?_
  refine XH_call1 (mj := mi_X9_move) (As := [.int (xs (i + 1)), .int (xs (i + 2)), .int (xs (i + 3)), .int (xs (i + 4)), .int (xs (i + 5))]) (rest := []) (kd := 0) (n := n) (o := o) (cj := 10) (rj := rM o) (tk_L42.at 26 rfl) mv_X9_move lk_l_190 np_X9_move hI.P0 (by decide) rfl hI.M.f0 rfl (Nat.le_of_ble_eq_true rfl) (Nat.le_of_ble_eq_true rfl) rfl (t_move (d := d) hI) (fun v S1 μ1 hq => ?_)
  obtain ⟨a1, rfl, hX⟩ := hq
  refine XH_aload_n (tk_L42.at 27 rfl) rfl ?_
  refine XH_arg (k := 1) (tk_L42.at 28 rfl) (tk_L42.at 29 rfl) (tk_L42.at 30 rfl) (tk_L42.at 31 rfl) (tk_L42.at 32 rfl) rfl hs rfl rfl (by omega) hL ?_
  refine XH_arg (k := 2) (tk_L42.at 33 rfl) (tk_L42.at 34 rfl) (tk_L42.at 35 rfl) (tk_L42.at 36 rfl) (tk_L42.at 37 rfl) rfl hs rfl rfl (by omega) hL ?_
  refine XH_arg (k := 3) (tk_L42.at 38 rfl) (tk_L42.at 39 rfl) (tk_L42.at 40 rfl) (tk_L42.at 41 rfl) (tk_L42.at 42 rfl) rfl hs rfl rfl (by omega) hL ?_
  refine XH_arg (k := 4) (tk_L42.at 43 rfl) (tk_L42.at 44 rfl) (tk_L42.at 45 rfl) (tk_L42.at 46 rfl) (tk_L42.at 47 rfl) rfl hs rfl rfl (by omega) hL ?_
  refine XH_arg (k := 5) (tk_L42.at 48 rfl) (tk_L42.at 49 rfl) (tk_L42.at 50 rfl) (tk_L42.at 51 rfl) (tk_L42.at 52 rfl) rfl hs rfl rfl (by omega) hL ?_
  refine XH_call2 (mj := mi_X10_move) (As := [.int (xs (i + 1)), .int (xs (i + 2)), .int (xs (i + 3)), .int (xs (i + 4)), .int (xs (i + 5))]) (rest := [.int a1]) (kd := 0) (n := n) (tk_L42.at 53 rfl) mv_X10_move lk_l_193 np_X10_move (by decide) rfl rfl (Nat.le_of_ble_eq_true rfl) (Nat.le_of_ble_eq_true rfl) (Nat.zero_add n).symm hX (fun v S2 μ2 hq => ?_)
  obtain ⟨a2, rfl, rfl, hN⟩ := hq
  exact X_icmp_eq (tgt := 1741) (tk_L42.at 54 rfl) (by decide) (fun _ => hk _ _ hN) (fun h => absurd rfl h)
def tb_L43 : List (Nat × Instr × Nat × Nat) := [(1633, .aload_n 1, 1, 1634), (1634, .invokevirtual 194, 3, 1637), (1637, .aload_n 2, 1, 1638), (1638, .invokevirtual 197, 3, 1641), (1641, .if_icmp .eq 100, 3, 1644), (1644, .iconst 0, 1, 1645), (1645, .ireturn, 1, 1646)]
theorem tk_L43 : Tk code tb_L43 := Tk.of (by decide +kernel)
set_option maxHeartbeats 1000000 in
theorem L_43 {G : Gl} {d n : Nat} {S : Sh} {μ : Mu} {P o t q im b L i fm : Nat} {kp : Option Nat} {xs : Nat → Int32} {Q : Option Value → Sh → Mu → Prop} (hs : Scr G b L xs) (hL : L ≤ 384) (hi : i + 6 ≤ L) (him : im < 2 ^ 30) (hF : Fmt G fm) (hI : Inv G S P o kp t q im μ) (hk : ∀ S μ, Nx G P o im S μ → X G mi_L (d + 61) n 1741 (lvL b P o i) [] S μ Q) : X G mi_L (d + 61) (32 + n) 1633 (lvL b P o i) [] S μ Q := by
  refine X_kc (kd := 32 + n) (by omega) ?_
  refine X_ofH ?_
  refine XH_aload_n (tk_L43.at 0 rfl) rfl ?_
  refine XH_call1 (mj := mi_X9_image) (As := []) (rest := []) (kd := 32) (n := n) (o := o) (cj := 10) (rj := rM o) (tk_L43.at 1 rfl) mv_X9_image lk_l_194 np_X9_image hI.P0 (by decide) rfl hI.M.f0 rfl (Nat.le_of_ble_eq_true rfl) (Nat.le_of_ble_eq_true rfl) rfl (t_image (d := d) hI) (fun v S1 μ1 hq => ?_)
  obtain ⟨a1, rfl, hX⟩ := hq
  refine XH_aload_n (tk_L43.at 2 rfl) rfl ?_
  refine XH_call2 (mj := mi_X10_image) (As := []) (rest := [.int a1]) (kd := 0) (n := n) (tk_L43.at 3 rfl) mv_X10_image lk_l_197 np_X10_image (by decide) rfl rfl (Nat.le_of_ble_eq_true rfl) (Nat.le_of_ble_eq_true rfl) (Nat.zero_add n).symm hX (fun v S2 μ2 hq => ?_)
  obtain ⟨a2, rfl, rfl, hN⟩ := hq
  exact X_icmp_eq (tgt := 1741) (tk_L43.at 4 rfl) (by decide) (fun _ => hk _ _ hN) (fun h => absurd rfl h)
def tb_L44 : List (Nat × Instr × Nat × Nat) := [(1646, .aload_n 1, 1, 1647), (1647, .invokevirtual 198, 3, 1650), (1650, .aload_n 2, 1, 1651), (1651, .invokevirtual 201, 3, 1654), (1654, .if_icmp .eq 87, 3, 1657), (1657, .iconst 0, 1, 1658), (1658, .ireturn, 1, 1659)]
theorem tk_L44 : Tk code tb_L44 := Tk.of (by decide +kernel)
set_option maxHeartbeats 1000000 in
theorem L_44 {G : Gl} {d n : Nat} {S : Sh} {μ : Mu} {P o t q im b L i fm : Nat} {kp : Option Nat} {xs : Nat → Int32} {Q : Option Value → Sh → Mu → Prop} (hs : Scr G b L xs) (hL : L ≤ 384) (hi : i + 6 ≤ L) (him : im < 2 ^ 30) (hF : Fmt G fm) (hI : Inv G S P o kp t q im μ) (hk : ∀ S μ, Nx G P o im S μ → X G mi_L (d + 61) n 1741 (lvL b P o i) [] S μ Q) : X G mi_L (d + 61) (32 + n) 1646 (lvL b P o i) [] S μ Q := by
  refine X_kc (kd := 0 + n) (by omega) ?_
  refine X_ofH ?_
  refine XH_aload_n (tk_L44.at 0 rfl) rfl ?_
  refine XH_call1 (mj := mi_X9_restore) (As := []) (rest := []) (kd := 0) (n := n) (o := o) (cj := 10) (rj := rM o) (tk_L44.at 1 rfl) mv_X9_restore lk_l_198 np_X9_restore hI.P0 (by decide) rfl hI.M.f0 rfl (Nat.le_of_ble_eq_true rfl) (Nat.le_of_ble_eq_true rfl) rfl (t_restore (d := d) him hI) (fun v S1 μ1 hq => ?_)
  obtain ⟨a1, rfl, hX⟩ := hq
  refine XH_aload_n (tk_L44.at 2 rfl) rfl ?_
  refine XH_call2 (mj := mi_X10_restore) (As := []) (rest := [.int a1]) (kd := 0) (n := n) (tk_L44.at 3 rfl) mv_X10_restore lk_l_201 np_X10_restore (by decide) rfl rfl (Nat.le_of_ble_eq_true rfl) (Nat.le_of_ble_eq_true rfl) (Nat.zero_add n).symm hX (fun v S2 μ2 hq => ?_)
  obtain ⟨a2, rfl, rfl, hN⟩ := hq
  exact X_icmp_eq (tgt := 1741) (tk_L44.at 4 rfl) (by decide) (fun _ => hk _ _ hN) (fun h => absurd rfl h)
def tb_L45 : List (Nat × Instr × Nat × Nat) := [(1659, .aload_n 1, 1, 1660), (1660, .aload_n 0, 1, 1661), (1661, .iload_n 3, 1, 1662), (1662, .iconst 1, 1, 1663), (1663, .iadd, 1, 1664), (1664, .iaload, 1, 1665), (1665, .invokevirtual 202, 3, 1668), (1668, .aload_n 2, 1, 1669), (1669, .aload_n 0, 1, 1670), (1670, .iload_n 3, 1, 1671), (1671, .iconst 1, 1, 1672), (1672, .iadd, 1, 1673), (1673, .iaload, 1, 1674), (1674, .invokevirtual 205, 3, 1677), (1677, .if_icmp .eq 64, 3, 1680), (1680, .iconst 0, 1, 1681), (1681, .ireturn, 1, 1682)]
theorem tk_L45 : Tk code tb_L45 := Tk.of (by decide +kernel)
set_option maxHeartbeats 1000000 in
theorem L_45 {G : Gl} {d n : Nat} {S : Sh} {μ : Mu} {P o t q im b L i fm : Nat} {kp : Option Nat} {xs : Nat → Int32} {Q : Option Value → Sh → Mu → Prop} (hs : Scr G b L xs) (hL : L ≤ 384) (hi : i + 6 ≤ L) (him : im < 2 ^ 30) (hF : Fmt G fm) (hI : Inv G S P o kp t q im μ) (hk : ∀ S μ, Nx G P o im S μ → X G mi_L (d + 61) n 1741 (lvL b P o i) [] S μ Q) : X G mi_L (d + 61) (32 + n) 1659 (lvL b P o i) [] S μ Q := by
  refine X_kc (kd := 0 + n) (by omega) ?_
  refine X_ofH ?_
  refine XH_aload_n (tk_L45.at 0 rfl) rfl ?_
  refine XH_arg (k := 1) (tk_L45.at 1 rfl) (tk_L45.at 2 rfl) (tk_L45.at 3 rfl) (tk_L45.at 4 rfl) (tk_L45.at 5 rfl) rfl hs rfl rfl (by omega) hL ?_
  refine XH_call1 (mj := mi_X9_tell) (As := [.int (xs (i + 1))]) (rest := []) (kd := 0) (n := n) (o := o) (cj := 10) (rj := rM o) (tk_L45.at 6 rfl) mv_X9_tell lk_l_202 np_X9_tell hI.P0 (by decide) rfl hI.M.f0 rfl (Nat.le_of_ble_eq_true rfl) (Nat.le_of_ble_eq_true rfl) rfl (t_tell (d := d) hI) (fun v S1 μ1 hq => ?_)
  obtain ⟨a1, rfl, hX⟩ := hq
  refine XH_aload_n (tk_L45.at 7 rfl) rfl ?_
  refine XH_arg (k := 1) (tk_L45.at 8 rfl) (tk_L45.at 9 rfl) (tk_L45.at 10 rfl) (tk_L45.at 11 rfl) (tk_L45.at 12 rfl) rfl hs rfl rfl (by omega) hL ?_
  refine XH_call2 (mj := mi_X10_tell) (As := [.int (xs (i + 1))]) (rest := [.int a1]) (kd := 0) (n := n) (tk_L45.at 13 rfl) mv_X10_tell lk_l_205 np_X10_tell (by decide) rfl rfl (Nat.le_of_ble_eq_true rfl) (Nat.le_of_ble_eq_true rfl) (Nat.zero_add n).symm hX (fun v S2 μ2 hq => ?_)
  obtain ⟨a2, rfl, rfl, hN⟩ := hq
  exact X_icmp_eq (tgt := 1741) (tk_L45.at 14 rfl) (by decide) (fun _ => hk _ _ hN) (fun h => absurd rfl h)
def tb_L46 : List (Nat × Instr × Nat × Nat) := [(1682, .aload_n 1, 1, 1683), (1683, .invokevirtual 206, 3, 1686), (1686, .aload_n 2, 1, 1687), (1687, .invokevirtual 209, 3, 1690), (1690, .if_icmp .eq 51, 3, 1693), (1693, .iconst 0, 1, 1694), (1694, .ireturn, 1, 1695)]
theorem tk_L46 : Tk code tb_L46 := Tk.of (by decide +kernel)
set_option maxHeartbeats 1000000 in
theorem L_46 {G : Gl} {d n : Nat} {S : Sh} {μ : Mu} {P o t q im b L i fm : Nat} {kp : Option Nat} {xs : Nat → Int32} {Q : Option Value → Sh → Mu → Prop} (hs : Scr G b L xs) (hL : L ≤ 384) (hi : i + 6 ≤ L) (him : im < 2 ^ 30) (hF : Fmt G fm) (hI : Inv G S P o kp t q im μ) (hk : ∀ S μ, Nx G P o im S μ → X G mi_L (d + 61) n 1741 (lvL b P o i) [] S μ Q) : X G mi_L (d + 61) (32 + n) 1682 (lvL b P o i) [] S μ Q := by
  refine X_kc (kd := 0 + n) (by omega) ?_
  refine X_ofH ?_
  refine XH_aload_n (tk_L46.at 0 rfl) rfl ?_
  refine XH_call1 (mj := mi_X9_check) (As := []) (rest := []) (kd := 0) (n := n) (o := o) (cj := 10) (rj := rM o) (tk_L46.at 1 rfl) mv_X9_check lk_l_206 np_X9_check hI.P0 (by decide) rfl hI.M.f0 rfl (Nat.le_of_ble_eq_true rfl) (Nat.le_of_ble_eq_true rfl) rfl (t_check (d := d) hI) (fun v S1 μ1 hq => ?_)
  obtain ⟨a1, rfl, hX⟩ := hq
  refine XH_aload_n (tk_L46.at 2 rfl) rfl ?_
  refine XH_call2 (mj := mi_X10_check) (As := []) (rest := [.int a1]) (kd := 0) (n := n) (tk_L46.at 3 rfl) mv_X10_check lk_l_209 np_X10_check (by decide) rfl rfl (Nat.le_of_ble_eq_true rfl) (Nat.le_of_ble_eq_true rfl) (Nat.zero_add n).symm hX (fun v S2 μ2 hq => ?_)
  obtain ⟨a2, rfl, rfl, hN⟩ := hq
  exact X_icmp_eq (tgt := 1741) (tk_L46.at 4 rfl) (by decide) (fun _ => hk _ _ hN) (fun h => absurd rfl h)
def tb_L47 : List (Nat × Instr × Nat × Nat) := [(1695, .aload_n 1, 1, 1696), (1696, .aload_n 0, 1, 1697), (1697, .iload_n 3, 1, 1698), (1698, .iconst 1, 1, 1699), (1699, .iadd, 1, 1700), (1700, .iaload, 1, 1701), (1701, .invokevirtual 210, 3, 1704), (1704, .aload_n 2, 1, 1705), (1705, .aload_n 0, 1, 1706), (1706, .iload_n 3, 1, 1707), (1707, .iconst 1, 1, 1708), (1708, .iadd, 1, 1709), (1709, .iaload, 1, 1710), (1710, .invokevirtual 213, 3, 1713), (1713, .if_icmp .eq 28, 3, 1716), (1716, .iconst 0, 1, 1717), (1717, .ireturn, 1, 1718)]
theorem tk_L47 : Tk code tb_L47 := Tk.of (by decide +kernel)
set_option maxHeartbeats 1000000 in
theorem L_47 {G : Gl} {d n : Nat} {S : Sh} {μ : Mu} {P o t q im b L i fm : Nat} {kp : Option Nat} {xs : Nat → Int32} {Q : Option Value → Sh → Mu → Prop} (hs : Scr G b L xs) (hL : L ≤ 384) (hi : i + 6 ≤ L) (him : im < 2 ^ 30) (hF : Fmt G fm) (hI : Inv G S P o kp t q im μ) (hk : ∀ S μ, Nx G P o im S μ → X G mi_L (d + 61) n 1741 (lvL b P o i) [] S μ Q) : X G mi_L (d + 61) (32 + n) 1695 (lvL b P o i) [] S μ Q := by
  refine X_kc (kd := 0 + n) (by omega) ?_
  refine X_ofH ?_
  refine XH_aload_n (tk_L47.at 0 rfl) rfl ?_
  refine XH_arg (k := 1) (tk_L47.at 1 rfl) (tk_L47.at 2 rfl) (tk_L47.at 3 rfl) (tk_L47.at 4 rfl) (tk_L47.at 5 rfl) rfl hs rfl rfl (by omega) hL ?_
  refine XH_call1 (mj := mi_X9_count) (As := [.int (xs (i + 1))]) (rest := []) (kd := 0) (n := n) (o := o) (cj := 10) (rj := rM o) (tk_L47.at 6 rfl) mv_X9_count lk_l_210 np_X9_count hI.P0 (by decide) rfl hI.M.f0 rfl (Nat.le_of_ble_eq_true rfl) (Nat.le_of_ble_eq_true rfl) rfl (t_count (d := d) hI) (fun v S1 μ1 hq => ?_)
  obtain ⟨a1, rfl, hX⟩ := hq
  refine XH_aload_n (tk_L47.at 7 rfl) rfl ?_
  refine XH_arg (k := 1) (tk_L47.at 8 rfl) (tk_L47.at 9 rfl) (tk_L47.at 10 rfl) (tk_L47.at 11 rfl) (tk_L47.at 12 rfl) rfl hs rfl rfl (by omega) hL ?_
  refine XH_call2 (mj := mi_X10_count) (As := [.int (xs (i + 1))]) (rest := [.int a1]) (kd := 0) (n := n) (tk_L47.at 13 rfl) mv_X10_count lk_l_213 np_X10_count (by decide) rfl rfl (Nat.le_of_ble_eq_true rfl) (Nat.le_of_ble_eq_true rfl) (Nat.zero_add n).symm hX (fun v S2 μ2 hq => ?_)
  obtain ⟨a2, rfl, rfl, hN⟩ := hq
  exact X_icmp_eq (tgt := 1741) (tk_L47.at 14 rfl) (by decide) (fun _ => hk _ _ hN) (fun h => absurd rfl h)
def tb_L48 : List (Nat × Instr × Nat × Nat) := [(1718, .aload_n 1, 1, 1719), (1719, .aload_n 0, 1, 1720), (1720, .iload_n 3, 1, 1721), (1721, .iconst 1, 1, 1722), (1722, .iadd, 1, 1723), (1723, .iaload, 1, 1724), (1724, .invokevirtual 214, 3, 1727), (1727, .aload_n 2, 1, 1728), (1728, .aload_n 0, 1, 1729), (1729, .iload_n 3, 1, 1730), (1730, .iconst 1, 1, 1731), (1731, .iadd, 1, 1732), (1732, .iaload, 1, 1733), (1733, .invokevirtual 217, 3, 1736), (1736, .if_icmp .eq 5, 3, 1739), (1739, .iconst 0, 1, 1740), (1740, .ireturn, 1, 1741)]
theorem tk_L48 : Tk code tb_L48 := Tk.of (by decide +kernel)
set_option maxHeartbeats 1000000 in
theorem L_48 {G : Gl} {d n : Nat} {S : Sh} {μ : Mu} {P o t q im b L i fm : Nat} {kp : Option Nat} {xs : Nat → Int32} {Q : Option Value → Sh → Mu → Prop} (hs : Scr G b L xs) (hL : L ≤ 384) (hi : i + 6 ≤ L) (him : im < 2 ^ 30) (hF : Fmt G fm) (hI : Inv G S P o kp t q im μ) (hk : ∀ S μ, Nx G P o im S μ → X G mi_L (d + 61) n 1741 (lvL b P o i) [] S μ Q) : X G mi_L (d + 61) (32 + n) 1718 (lvL b P o i) [] S μ Q := by
  refine X_kc (kd := 0 + n) (by omega) ?_
  refine X_ofH ?_
  refine XH_aload_n (tk_L48.at 0 rfl) rfl ?_
  refine XH_arg (k := 1) (tk_L48.at 1 rfl) (tk_L48.at 2 rfl) (tk_L48.at 3 rfl) (tk_L48.at 4 rfl) (tk_L48.at 5 rfl) rfl hs rfl rfl (by omega) hL ?_
  refine XH_call1 (mj := mi_X9_told) (As := [.int (xs (i + 1))]) (rest := []) (kd := 0) (n := n) (o := o) (cj := 10) (rj := rM o) (tk_L48.at 6 rfl) mv_X9_told lk_l_214 np_X9_told hI.P0 (by decide) rfl hI.M.f0 rfl (Nat.le_of_ble_eq_true rfl) (Nat.le_of_ble_eq_true rfl) rfl (t_told (d := d) hI) (fun v S1 μ1 hq => ?_)
  obtain ⟨a1, rfl, hX⟩ := hq
  refine XH_aload_n (tk_L48.at 7 rfl) rfl ?_
  refine XH_arg (k := 1) (tk_L48.at 8 rfl) (tk_L48.at 9 rfl) (tk_L48.at 10 rfl) (tk_L48.at 11 rfl) (tk_L48.at 12 rfl) rfl hs rfl rfl (by omega) hL ?_
  refine XH_call2 (mj := mi_X10_told) (As := [.int (xs (i + 1))]) (rest := [.int a1]) (kd := 0) (n := n) (tk_L48.at 13 rfl) mv_X10_told lk_l_217 np_X10_told (by decide) rfl rfl (Nat.le_of_ble_eq_true rfl) (Nat.le_of_ble_eq_true rfl) (Nat.zero_add n).symm hX (fun v S2 μ2 hq => ?_)
  obtain ⟨a2, rfl, rfl, hN⟩ := hq
  exact X_icmp_eq (tgt := 1741) (tk_L48.at 14 rfl) (by decide) (fun _ => hk _ _ hN) (fun h => absurd rfl h)
