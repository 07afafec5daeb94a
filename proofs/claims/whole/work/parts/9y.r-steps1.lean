abbrev mi_L : MI := (⟨"RopesAtDawnLaw", "law", "([I)Z"⟩, code, 4, some .boolean)
abbrev lvL (b P o i : Nat) : List (Nat × Value) := [(0, .ref b), (1, .ref P), (2, .ref o), (3, .int (nI i))]
def tb_L : List (Nat × Instr × Nat × Nat) := [(0, .new 7, 3, 3), (3, .dup, 1, 4), (4, .invokespecial 9, 3, 7), (7, .astore_n 1, 1, 8), (8, .new 10, 3, 11), (11, .dup, 1, 12), (12, .invokespecial 12, 3, 15), (15, .astore_n 2, 1, 16), (16, .iconst 0, 1, 17), (17, .istore_n 3, 1, 18), (18, .iload_n 3, 1, 19), (19, .aload_n 0, 1, 20), (20, .arraylength, 1, 21), (21, .bipush 6, 2, 23), (23, .isub, 1, 24), (24, .if_icmp .gt 1723, 3, 27), (27, .aload_n 0, 1, 28), (28, .iload_n 3, 1, 29), (29, .iaload, 1, 30), (30, .bipush 63, 2, 32), (32, .iand, 1, 33), (33, .tableswitch 1708 0 48 #[211, 264, 297, 320, 373, 406, 429, 472, 505, 528, 561, 594, 637, 670, 693, 726, 759, 792, 855, 878, 941, 964, 977, 1020, 1053, 1066, 1079, 1112, 1135, 1158, 1191, 1214, 1247, 1260, 1283, 1316, 1329, 1362, 1385, 1428, 1451, 1494, 1537, 1600, 1613, 1626, 1649, 1662, 1685], 211, 244), (1741, .iinc 3 6, 3, 1744), (1744, .goto (-1726), 3, 1747), (1747, .iconst 1, 1, 1748), (1748, .ireturn, 1, 1749)]
theorem tk_L : Tk code tb_L := Tk.of (by decide +kernel)
def tb_L0 : List (Nat × Instr × Nat × Nat) := [(244, .aload_n 1, 1, 245), (245, .aload_n 0, 1, 246), (246, .iload_n 3, 1, 247), (247, .iconst 1, 1, 248), (248, .iadd, 1, 249), (249, .iaload, 1, 250), (250, .aload_n 0, 1, 251), (251, .iload_n 3, 1, 252), (252, .iconst 2, 1, 253), (253, .iadd, 1, 254), (254, .iaload, 1, 255), (255, .aload_n 0, 1, 256), (256, .iload_n 3, 1, 257), (257, .iconst 3, 1, 258), (258, .iadd, 1, 259), (259, .iaload, 1, 260), (260, .aload_n 0, 1, 261), (261, .iload_n 3, 1, 262), (262, .iconst 4, 1, 263), (263, .iadd, 1, 264), (264, .iaload, 1, 265), (265, .invokevirtual 13, 3, 268), (268, .aload_n 2, 1, 269), (269, .aload_n 0, 1, 270), (270, .iload_n 3, 1, 271), (271, .iconst 1, 1, 272), (272, .iadd, 1, 273), (273, .iaload, 1, 274), (274, .aload_n 0, 1, 275), (275, .iload_n 3, 1, 276), (276, .iconst 2, 1, 277), (277, .iadd, 1, 278), (278, .iaload, 1, 279), (279, .aload_n 0, 1, 280), (280, .iload_n 3, 1, 281), (281, .iconst 3, 1, 282), (282, .iadd, 1, 283), (283, .iaload, 1, 284), (284, .aload_n 0, 1, 285), (285, .iload_n 3, 1, 286), (286, .iconst 4, 1, 287), (287, .iadd, 1, 288), (288, .iaload, 1, 289), (289, .invokevirtual 17, 3, 292), (292, .if_icmp .eq 1449, 3, 295), (295, .iconst 0, 1, 296), (296, .ireturn, 1, 297)]
theorem tk_L0 : Tk code tb_L0 := Tk.of (by decide +kernel)
set_option maxHeartbeats 1000000 in
theorem L_0 {G : Gl} {d n : Nat} {S : Sh} {μ : Mu} {P o t q im b L i fm : Nat} {kp : Option Nat} {xs : Nat → Int32} {Q : Option Value → Sh → Mu → Prop} (hs : Scr G b L xs) (hL : L ≤ 384) (hi : i + 6 ≤ L) (him : im < 2 ^ 30) (hF : Fmt G fm) (hI : Inv G S P o kp t q im μ) (hk : ∀ S μ, Nx G P o im S μ → X G mi_L (d + 61) n 1741 (lvL b P o i) [] S μ Q) : X G mi_L (d + 61) (32 + n) 244 (lvL b P o i) [] S μ Q := by
  refine X_kc (kd := 0 + n) (by omega) ?_
  refine X_ofH ?_
  refine XH_aload_n (tk_L0.at 0 rfl) rfl ?_
  refine XH_arg (k := 1) (tk_L0.at 1 rfl) (tk_L0.at 2 rfl) (tk_L0.at 3 rfl) (tk_L0.at 4 rfl) (tk_L0.at 5 rfl) rfl hs rfl rfl (by omega) hL ?_
  refine XH_arg (k := 2) (tk_L0.at 6 rfl) (tk_L0.at 7 rfl) (tk_L0.at 8 rfl) (tk_L0.at 9 rfl) (tk_L0.at 10 rfl) rfl hs rfl rfl (by omega) hL ?_
  refine XH_arg (k := 3) (tk_L0.at 11 rfl) (tk_L0.at 12 rfl) (tk_L0.at 13 rfl) (tk_L0.at 14 rfl) (tk_L0.at 15 rfl) rfl hs rfl rfl (by omega) hL ?_
  refine XH_arg (k := 4) (tk_L0.at 16 rfl) (tk_L0.at 17 rfl) (tk_L0.at 18 rfl) (tk_L0.at 19 rfl) (tk_L0.at 20 rfl) rfl hs rfl rfl (by omega) hL ?_
  refine XH_call1 (mj := mi_X9_person) (As := [.int (xs (i + 1)), .int (xs (i + 2)), .int (xs (i + 3)), .int (xs (i + 4))]) (rest := []) (kd := 0) (n := n) (o := o) (cj := 10) (rj := rM o) (tk_L0.at 21 rfl) mv_X9_person lk_l_13 np_X9_person hI.P0 (by decide) rfl hI.M.f0 rfl (Nat.le_of_ble_eq_true rfl) (Nat.le_of_ble_eq_true rfl) rfl (t_person (d := d) hI) (fun v S1 μ1 hq => ?_)
  obtain ⟨a1, rfl, hX⟩ := hq
  refine XH_aload_n (tk_L0.at 22 rfl) rfl ?_
  refine XH_arg (k := 1) (tk_L0.at 23 rfl) (tk_L0.at 24 rfl) (tk_L0.at 25 rfl) (tk_L0.at 26 rfl) (tk_L0.at 27 rfl) rfl hs rfl rfl (by omega) hL ?_
  refine XH_arg (k := 2) (tk_L0.at 28 rfl) (tk_L0.at 29 rfl) (tk_L0.at 30 rfl) (tk_L0.at 31 rfl) (tk_L0.at 32 rfl) rfl hs rfl rfl (by omega) hL ?_
  refine XH_arg (k := 3) (tk_L0.at 33 rfl) (tk_L0.at 34 rfl) (tk_L0.at 35 rfl) (tk_L0.at 36 rfl) (tk_L0.at 37 rfl) rfl hs rfl rfl (by omega) hL ?_
  refine XH_arg (k := 4) (tk_L0.at 38 rfl) (tk_L0.at 39 rfl) (tk_L0.at 40 rfl) (tk_L0.at 41 rfl) (tk_L0.at 42 rfl) rfl hs rfl rfl (by omega) hL ?_
  refine XH_call2 (mj := mi_X10_person) (As := [.int (xs (i + 1)), .int (xs (i + 2)), .int (xs (i + 3)), .int (xs (i + 4))]) (rest := [.int a1]) (kd := 0) (n := n) (tk_L0.at 43 rfl) mv_X10_person lk_l_17 np_X10_person (by decide) rfl rfl (Nat.le_of_ble_eq_true rfl) (Nat.le_of_ble_eq_true rfl) (Nat.zero_add n).symm hX (fun v S2 μ2 hq => ?_)
  obtain ⟨a2, rfl, rfl, hN⟩ := hq
  exact X_icmp_eq (tgt := 1741) (tk_L0.at 44 rfl) (by decide) (fun _ => hk _ _ hN) (fun h => absurd rfl h)
def tb_L1 : List (Nat × Instr × Nat × Nat) := [(297, .aload_n 1, 1, 298), (298, .aload_n 0, 1, 299), (299, .iload_n 3, 1, 300), (300, .iconst 1, 1, 301), (301, .iadd, 1, 302), (302, .iaload, 1, 303), (303, .aload_n 0, 1, 304), (304, .iload_n 3, 1, 305), (305, .iconst 2, 1, 306), (306, .iadd, 1, 307), (307, .iaload, 1, 308), (308, .invokevirtual 18, 3, 311), (311, .aload_n 2, 1, 312), (312, .aload_n 0, 1, 313), (313, .iload_n 3, 1, 314), (314, .iconst 1, 1, 315), (315, .iadd, 1, 316), (316, .iaload, 1, 317), (317, .aload_n 0, 1, 318), (318, .iload_n 3, 1, 319), (319, .iconst 2, 1, 320), (320, .iadd, 1, 321), (321, .iaload, 1, 322), (322, .invokevirtual 22, 3, 325), (325, .if_icmp .eq 1416, 3, 328), (328, .iconst 0, 1, 329), (329, .ireturn, 1, 330)]
theorem tk_L1 : Tk code tb_L1 := Tk.of (by decide +kernel)
set_option maxHeartbeats 1000000 in
theorem L_1 {G : Gl} {d n : Nat} {S : Sh} {μ : Mu} {P o t q im b L i fm : Nat} {kp : Option Nat} {xs : Nat → Int32} {Q : Option Value → Sh → Mu → Prop} (hs : Scr G b L xs) (hL : L ≤ 384) (hi : i + 6 ≤ L) (him : im < 2 ^ 30) (hF : Fmt G fm) (hI : Inv G S P o kp t q im μ) (hk : ∀ S μ, Nx G P o im S μ → X G mi_L (d + 61) n 1741 (lvL b P o i) [] S μ Q) : X G mi_L (d + 61) (32 + n) 297 (lvL b P o i) [] S μ Q := by
  refine X_kc (kd := 0 + n) (by omega) ?_
  refine X_ofH ?_
  refine XH_aload_n (tk_L1.at 0 rfl) rfl ?_
  refine XH_arg (k := 1) (tk_L1.at 1 rfl) (tk_L1.at 2 rfl) (tk_L1.at 3 rfl) (tk_L1.at 4 rfl) (tk_L1.at 5 rfl) rfl hs rfl rfl (by omega) hL ?_
  refine XH_arg (k := 2) (tk_L1.at 6 rfl) (tk_L1.at 7 rfl) (tk_L1.at 8 rfl) (tk_L1.at 9 rfl) (tk_L1.at 10 rfl) rfl hs rfl rfl (by omega) hL ?_
  refine XH_call1 (mj := mi_X9_ofPerson) (As := [.int (xs (i + 1)), .int (xs (i + 2))]) (rest := []) (kd := 0) (n := n) (o := o) (cj := 10) (rj := rM o) (tk_L1.at 11 rfl) mv_X9_ofPerson lk_l_18 np_X9_ofPerson hI.P0 (by decide) rfl hI.M.f0 rfl (Nat.le_of_ble_eq_true rfl) (Nat.le_of_ble_eq_true rfl) rfl (t_ofPerson (d := d) hI) (fun v S1 μ1 hq => ?_)
  obtain ⟨a1, rfl, hX⟩ := hq
  refine XH_aload_n (tk_L1.at 12 rfl) rfl ?_
  refine XH_arg (k := 1) (tk_L1.at 13 rfl) (tk_L1.at 14 rfl) (tk_L1.at 15 rfl) (tk_L1.at 16 rfl) (tk_L1.at 17 rfl) rfl hs rfl rfl (by omega) hL ?_
  refine XH_arg (k := 2) (tk_L1.at 18 rfl) (tk_L1.at 19 rfl) (tk_L1.at 20 rfl) (tk_L1.at 21 rfl) (tk_L1.at 22 rfl) rfl hs rfl rfl (by omega) hL ?_
  refine XH_call2 (mj := mi_X10_ofPerson) (As := [.int (xs (i + 1)), .int (xs (i + 2))]) (rest := [.int a1]) (kd := 0) (n := n) (tk_L1.at 23 rfl) mv_X10_ofPerson lk_l_22 np_X10_ofPerson (by decide) rfl rfl (Nat.le_of_ble_eq_true rfl) (Nat.le_of_ble_eq_true rfl) (Nat.zero_add n).symm hX (fun v S2 μ2 hq => ?_)
  obtain ⟨a2, rfl, rfl, hN⟩ := hq
  exact X_icmp_eq (tgt := 1741) (tk_L1.at 24 rfl) (by decide) (fun _ => hk _ _ hN) (fun h => absurd rfl h)
def tb_L2 : List (Nat × Instr × Nat × Nat) := [(330, .aload_n 1, 1, 331), (331, .aload_n 0, 1, 332), (332, .iload_n 3, 1, 333), (333, .iconst 1, 1, 334), (334, .iadd, 1, 335), (335, .iaload, 1, 336), (336, .invokevirtual 23, 3, 339), (339, .aload_n 2, 1, 340), (340, .aload_n 0, 1, 341), (341, .iload_n 3, 1, 342), (342, .iconst 1, 1, 343), (343, .iadd, 1, 344), (344, .iaload, 1, 345), (345, .invokevirtual 27, 3, 348), (348, .if_icmp .eq 1393, 3, 351), (351, .iconst 0, 1, 352), (352, .ireturn, 1, 353)]
theorem tk_L2 : Tk code tb_L2 := Tk.of (by decide +kernel)
set_option maxHeartbeats 1000000 in
theorem L_2 {G : Gl} {d n : Nat} {S : Sh} {μ : Mu} {P o t q im b L i fm : Nat} {kp : Option Nat} {xs : Nat → Int32} {Q : Option Value → Sh → Mu → Prop} (hs : Scr G b L xs) (hL : L ≤ 384) (hi : i + 6 ≤ L) (him : im < 2 ^ 30) (hF : Fmt G fm) (hI : Inv G S P o kp t q im μ) (hk : ∀ S μ, Nx G P o im S μ → X G mi_L (d + 61) n 1741 (lvL b P o i) [] S μ Q) : X G mi_L (d + 61) (32 + n) 330 (lvL b P o i) [] S μ Q := by
  refine X_kc (kd := 0 + n) (by omega) ?_
  refine X_ofH ?_
  refine XH_aload_n (tk_L2.at 0 rfl) rfl ?_
  refine XH_arg (k := 1) (tk_L2.at 1 rfl) (tk_L2.at 2 rfl) (tk_L2.at 3 rfl) (tk_L2.at 4 rfl) (tk_L2.at 5 rfl) rfl hs rfl rfl (by omega) hL ?_
  refine XH_call1 (mj := mi_X9_people) (As := [.int (xs (i + 1))]) (rest := []) (kd := 0) (n := n) (o := o) (cj := 10) (rj := rM o) (tk_L2.at 6 rfl) mv_X9_people lk_l_23 np_X9_people hI.P0 (by decide) rfl hI.M.f0 rfl (Nat.le_of_ble_eq_true rfl) (Nat.le_of_ble_eq_true rfl) rfl (t_people (d := d) hI) (fun v S1 μ1 hq => ?_)
  obtain ⟨a1, rfl, hX⟩ := hq
  refine XH_aload_n (tk_L2.at 7 rfl) rfl ?_
  refine XH_arg (k := 1) (tk_L2.at 8 rfl) (tk_L2.at 9 rfl) (tk_L2.at 10 rfl) (tk_L2.at 11 rfl) (tk_L2.at 12 rfl) rfl hs rfl rfl (by omega) hL ?_
  refine XH_call2 (mj := mi_X10_people) (As := [.int (xs (i + 1))]) (rest := [.int a1]) (kd := 0) (n := n) (tk_L2.at 13 rfl) mv_X10_people lk_l_27 np_X10_people (by decide) rfl rfl (Nat.le_of_ble_eq_true rfl) (Nat.le_of_ble_eq_true rfl) (Nat.zero_add n).symm hX (fun v S2 μ2 hq => ?_)
  obtain ⟨a2, rfl, rfl, hN⟩ := hq
  exact X_icmp_eq (tgt := 1741) (tk_L2.at 14 rfl) (by decide) (fun _ => hk _ _ hN) (fun h => absurd rfl h)
def tb_L3 : List (Nat × Instr × Nat × Nat) := [(353, .aload_n 1, 1, 354), (354, .aload_n 0, 1, 355), (355, .iload_n 3, 1, 356), (356, .iconst 1, 1, 357), (357, .iadd, 1, 358), (358, .iaload, 1, 359), (359, .aload_n 0, 1, 360), (360, .iload_n 3, 1, 361), (361, .iconst 2, 1, 362), (362, .iadd, 1, 363), (363, .iaload, 1, 364), (364, .aload_n 0, 1, 365), (365, .iload_n 3, 1, 366), (366, .iconst 3, 1, 367), (367, .iadd, 1, 368), (368, .iaload, 1, 369), (369, .aload_n 0, 1, 370), (370, .iload_n 3, 1, 371), (371, .iconst 4, 1, 372), (372, .iadd, 1, 373), (373, .iaload, 1, 374), (374, .invokevirtual 28, 3, 377), (377, .aload_n 2, 1, 378), (378, .aload_n 0, 1, 379), (379, .iload_n 3, 1, 380), (380, .iconst 1, 1, 381), (381, .iadd, 1, 382), (382, .iaload, 1, 383), (383, .aload_n 0, 1, 384), (384, .iload_n 3, 1, 385), (385, .iconst 2, 1, 386), (386, .iadd, 1, 387), (387, .iaload, 1, 388), (388, .aload_n 0, 1, 389), (389, .iload_n 3, 1, 390), (390, .iconst 3, 1, 391), (391, .iadd, 1, 392), (392, .iaload, 1, 393), (393, .aload_n 0, 1, 394), (394, .iload_n 3, 1, 395), (395, .iconst 4, 1, 396), (396, .iadd, 1, 397), (397, .iaload, 1, 398), (398, .invokevirtual 31, 3, 401), (401, .if_icmp .eq 1340, 3, 404), (404, .iconst 0, 1, 405), (405, .ireturn, 1, 406)]
theorem tk_L3 : Tk code tb_L3 := Tk.of (by decide +kernel)
set_option maxHeartbeats 1000000 in
theorem L_3 {G : Gl} {d n : Nat} {S : Sh} {μ : Mu} {P o t q im b L i fm : Nat} {kp : Option Nat} {xs : Nat → Int32} {Q : Option Value → Sh → Mu → Prop} (hs : Scr G b L xs) (hL : L ≤ 384) (hi : i + 6 ≤ L) (him : im < 2 ^ 30) (hF : Fmt G fm) (hI : Inv G S P o kp t q im μ) (hk : ∀ S μ, Nx G P o im S μ → X G mi_L (d + 61) n 1741 (lvL b P o i) [] S μ Q) : X G mi_L (d + 61) (32 + n) 353 (lvL b P o i) [] S μ Q := by
  refine X_kc (kd := 0 + n) (by omega) ?_
  refine X_ofH ?_
  refine XH_aload_n (tk_L3.at 0 rfl) rfl ?_
  refine XH_arg (k := 1) (tk_L3.at 1 rfl) (tk_L3.at 2 rfl) (tk_L3.at 3 rfl) (tk_L3.at 4 rfl) (tk_L3.at 5 rfl) rfl hs rfl rfl (by omega) hL ?_
  refine XH_arg (k := 2) (tk_L3.at 6 rfl) (tk_L3.at 7 rfl) (tk_L3.at 8 rfl) (tk_L3.at 9 rfl) (tk_L3.at 10 rfl) rfl hs rfl rfl (by omega) hL ?_
  refine XH_arg (k := 3) (tk_L3.at 11 rfl) (tk_L3.at 12 rfl) (tk_L3.at 13 rfl) (tk_L3.at 14 rfl) (tk_L3.at 15 rfl) rfl hs rfl rfl (by omega) hL ?_
  refine XH_arg (k := 4) (tk_L3.at 16 rfl) (tk_L3.at 17 rfl) (tk_L3.at 18 rfl) (tk_L3.at 19 rfl) (tk_L3.at 20 rfl) rfl hs rfl rfl (by omega) hL ?_
  refine XH_call1 (mj := mi_X9_piece) (As := [.int (xs (i + 1)), .int (xs (i + 2)), .int (xs (i + 3)), .int (xs (i + 4))]) (rest := []) (kd := 0) (n := n) (o := o) (cj := 10) (rj := rM o) (tk_L3.at 21 rfl) mv_X9_piece lk_l_28 np_X9_piece hI.P0 (by decide) rfl hI.M.f0 rfl (Nat.le_of_ble_eq_true rfl) (Nat.le_of_ble_eq_true rfl) rfl (t_piece (d := d) hI) (fun v S1 μ1 hq => ?_)
  obtain ⟨a1, rfl, hX⟩ := hq
  refine XH_aload_n (tk_L3.at 22 rfl) rfl ?_
  refine XH_arg (k := 1) (tk_L3.at 23 rfl) (tk_L3.at 24 rfl) (tk_L3.at 25 rfl) (tk_L3.at 26 rfl) (tk_L3.at 27 rfl) rfl hs rfl rfl (by omega) hL ?_
  refine XH_arg (k := 2) (tk_L3.at 28 rfl) (tk_L3.at 29 rfl) (tk_L3.at 30 rfl) (tk_L3.at 31 rfl) (tk_L3.at 32 rfl) rfl hs rfl rfl (by omega) hL ?_
  refine XH_arg (k := 3) (tk_L3.at 33 rfl) (tk_L3.at 34 rfl) (tk_L3.at 35 rfl) (tk_L3.at 36 rfl) (tk_L3.at 37 rfl) rfl hs rfl rfl (by omega) hL ?_
  refine XH_arg (k := 4) (tk_L3.at 38 rfl) (tk_L3.at 39 rfl) (tk_L3.at 40 rfl) (tk_L3.at 41 rfl) (tk_L3.at 42 rfl) rfl hs rfl rfl (by omega) hL ?_
  refine XH_call2 (mj := mi_X10_piece) (As := [.int (xs (i + 1)), .int (xs (i + 2)), .int (xs (i + 3)), .int (xs (i + 4))]) (rest := [.int a1]) (kd := 0) (n := n) (tk_L3.at 43 rfl) mv_X10_piece lk_l_31 np_X10_piece (by decide) rfl rfl (Nat.le_of_ble_eq_true rfl) (Nat.le_of_ble_eq_true rfl) (Nat.zero_add n).symm hX (fun v S2 μ2 hq => ?_)
  obtain ⟨a2, rfl, rfl, hN⟩ := hq
  exact X_icmp_eq (tgt := 1741) (tk_L3.at 44 rfl) (by decide) (fun _ => hk _ _ hN) (fun h => absurd rfl h)
def tb_L4 : List (Nat × Instr × Nat × Nat) := [(406, .aload_n 1, 1, 407), (407, .aload_n 0, 1, 408), (408, .iload_n 3, 1, 409), (409, .iconst 1, 1, 410), (410, .iadd, 1, 411), (411, .iaload, 1, 412), (412, .aload_n 0, 1, 413), (413, .iload_n 3, 1, 414), (414, .iconst 2, 1, 415), (415, .iadd, 1, 416), (416, .iaload, 1, 417), (417, .invokevirtual 32, 3, 420), (420, .aload_n 2, 1, 421), (421, .aload_n 0, 1, 422), (422, .iload_n 3, 1, 423), (423, .iconst 1, 1, 424), (424, .iadd, 1, 425), (425, .iaload, 1, 426), (426, .aload_n 0, 1, 427), (427, .iload_n 3, 1, 428), (428, .iconst 2, 1, 429), (429, .iadd, 1, 430), (430, .iaload, 1, 431), (431, .invokevirtual 35, 3, 434), (434, .if_icmp .eq 1307, 3, 437), (437, .iconst 0, 1, 438), (438, .ireturn, 1, 439)]
theorem tk_L4 : Tk code tb_L4 := Tk.of (by decide +kernel)
set_option maxHeartbeats 1000000 in
theorem L_4 {G : Gl} {d n : Nat} {S : Sh} {μ : Mu} {P o t q im b L i fm : Nat} {kp : Option Nat} {xs : Nat → Int32} {Q : Option Value → Sh → Mu → Prop} (hs : Scr G b L xs) (hL : L ≤ 384) (hi : i + 6 ≤ L) (him : im < 2 ^ 30) (hF : Fmt G fm) (hI : Inv G S P o kp t q im μ) (hk : ∀ S μ, Nx G P o im S μ → X G mi_L (d + 61) n 1741 (lvL b P o i) [] S μ Q) : X G mi_L (d + 61) (32 + n) 406 (lvL b P o i) [] S μ Q := by
  refine X_kc (kd := 0 + n) (by omega) ?_
  refine X_ofH ?_
  refine XH_aload_n (tk_L4.at 0 rfl) rfl ?_
  refine XH_arg (k := 1) (tk_L4.at 1 rfl) (tk_L4.at 2 rfl) (tk_L4.at 3 rfl) (tk_L4.at 4 rfl) (tk_L4.at 5 rfl) rfl hs rfl rfl (by omega) hL ?_
  refine XH_arg (k := 2) (tk_L4.at 6 rfl) (tk_L4.at 7 rfl) (tk_L4.at 8 rfl) (tk_L4.at 9 rfl) (tk_L4.at 10 rfl) rfl hs rfl rfl (by omega) hL ?_
  refine XH_call1 (mj := mi_X9_ofPiece) (As := [.int (xs (i + 1)), .int (xs (i + 2))]) (rest := []) (kd := 0) (n := n) (o := o) (cj := 10) (rj := rM o) (tk_L4.at 11 rfl) mv_X9_ofPiece lk_l_32 np_X9_ofPiece hI.P0 (by decide) rfl hI.M.f0 rfl (Nat.le_of_ble_eq_true rfl) (Nat.le_of_ble_eq_true rfl) rfl (t_ofPiece (d := d) hI) (fun v S1 μ1 hq => ?_)
  obtain ⟨a1, rfl, hX⟩ := hq
  refine XH_aload_n (tk_L4.at 12 rfl) rfl ?_
  refine XH_arg (k := 1) (tk_L4.at 13 rfl) (tk_L4.at 14 rfl) (tk_L4.at 15 rfl) (tk_L4.at 16 rfl) (tk_L4.at 17 rfl) rfl hs rfl rfl (by omega) hL ?_
  refine XH_arg (k := 2) (tk_L4.at 18 rfl) (tk_L4.at 19 rfl) (tk_L4.at 20 rfl) (tk_L4.at 21 rfl) (tk_L4.at 22 rfl) rfl hs rfl rfl (by omega) hL ?_
  refine XH_call2 (mj := mi_X10_ofPiece) (As := [.int (xs (i + 1)), .int (xs (i + 2))]) (rest := [.int a1]) (kd := 0) (n := n) (tk_L4.at 23 rfl) mv_X10_ofPiece lk_l_35 np_X10_ofPiece (by decide) rfl rfl (Nat.le_of_ble_eq_true rfl) (Nat.le_of_ble_eq_true rfl) (Nat.zero_add n).symm hX (fun v S2 μ2 hq => ?_)
  obtain ⟨a2, rfl, rfl, hN⟩ := hq
  exact X_icmp_eq (tgt := 1741) (tk_L4.at 24 rfl) (by decide) (fun _ => hk _ _ hN) (fun h => absurd rfl h)
def tb_L5 : List (Nat × Instr × Nat × Nat) := [(439, .aload_n 1, 1, 440), (440, .aload_n 0, 1, 441), (441, .iload_n 3, 1, 442), (442, .iconst 1, 1, 443), (443, .iadd, 1, 444), (444, .iaload, 1, 445), (445, .invokevirtual 36, 3, 448), (448, .aload_n 2, 1, 449), (449, .aload_n 0, 1, 450), (450, .iload_n 3, 1, 451), (451, .iconst 1, 1, 452), (452, .iadd, 1, 453), (453, .iaload, 1, 454), (454, .invokevirtual 39, 3, 457), (457, .if_icmp .eq 1284, 3, 460), (460, .iconst 0, 1, 461), (461, .ireturn, 1, 462)]
theorem tk_L5 : Tk code tb_L5 := Tk.of (by decide +kernel)
set_option maxHeartbeats 1000000 in
theorem L_5 {G : Gl} {d n : Nat} {S : Sh} {μ : Mu} {P o t q im b L i fm : Nat} {kp : Option Nat} {xs : Nat → Int32} {Q : Option Value → Sh → Mu → Prop} (hs : Scr G b L xs) (hL : L ≤ 384) (hi : i + 6 ≤ L) (him : im < 2 ^ 30) (hF : Fmt G fm) (hI : Inv G S P o kp t q im μ) (hk : ∀ S μ, Nx G P o im S μ → X G mi_L (d + 61) n 1741 (lvL b P o i) [] S μ Q) : X G mi_L (d + 61) (32 + n) 439 (lvL b P o i) [] S μ Q := by
  refine X_kc (kd := 0 + n) (by omega) ?_
  refine X_ofH ?_
  refine XH_aload_n (tk_L5.at 0 rfl) rfl ?_
  refine XH_arg (k := 1) (tk_L5.at 1 rfl) (tk_L5.at 2 rfl) (tk_L5.at 3 rfl) (tk_L5.at 4 rfl) (tk_L5.at 5 rfl) rfl hs rfl rfl (by omega) hL ?_
  refine XH_call1 (mj := mi_X9_start) (As := [.int (xs (i + 1))]) (rest := []) (kd := 0) (n := n) (o := o) (cj := 10) (rj := rM o) (tk_L5.at 6 rfl) mv_X9_start lk_l_36 np_X9_start hI.P0 (by decide) rfl hI.M.f0 rfl (Nat.le_of_ble_eq_true rfl) (Nat.le_of_ble_eq_true rfl) rfl (t_start (d := d) hI) (fun v S1 μ1 hq => ?_)
  obtain ⟨a1, rfl, hX⟩ := hq
  refine XH_aload_n (tk_L5.at 7 rfl) rfl ?_
  refine XH_arg (k := 1) (tk_L5.at 8 rfl) (tk_L5.at 9 rfl) (tk_L5.at 10 rfl) (tk_L5.at 11 rfl) (tk_L5.at 12 rfl) rfl hs rfl rfl (by omega) hL ?_
  refine XH_call2 (mj := mi_X10_start) (As := [.int (xs (i + 1))]) (rest := [.int a1]) (kd := 0) (n := n) (tk_L5.at 13 rfl) mv_X10_start lk_l_39 np_X10_start (by decide) rfl rfl (Nat.le_of_ble_eq_true rfl) (Nat.le_of_ble_eq_true rfl) (Nat.zero_add n).symm hX (fun v S2 μ2 hq => ?_)
  obtain ⟨a2, rfl, rfl, hN⟩ := hq
  exact X_icmp_eq (tgt := 1741) (tk_L5.at 14 rfl) (by decide) (fun _ => hk _ _ hN) (fun h => absurd rfl h)
def tb_L6 : List (Nat × Instr × Nat × Nat) := [(462, .aload_n 1, 1, 463), (463, .aload_n 0, 1, 464), (464, .iload_n 3, 1, 465), (465, .iconst 1, 1, 466), (466, .iadd, 1, 467), (467, .iaload, 1, 468), (468, .aload_n 0, 1, 469), (469, .iload_n 3, 1, 470), (470, .iconst 2, 1, 471), (471, .iadd, 1, 472), (472, .iaload, 1, 473), (473, .aload_n 0, 1, 474), (474, .iload_n 3, 1, 475), (475, .iconst 3, 1, 476), (476, .iadd, 1, 477), (477, .iaload, 1, 478), (478, .invokevirtual 40, 3, 481), (481, .aload_n 2, 1, 482), (482, .aload_n 0, 1, 483), (483, .iload_n 3, 1, 484), (484, .iconst 1, 1, 485), (485, .iadd, 1, 486), (486, .iaload, 1, 487), (487, .aload_n 0, 1, 488), (488, .iload_n 3, 1, 489), (489, .iconst 2, 1, 490), (490, .iadd, 1, 491), (491, .iaload, 1, 492), (492, .aload_n 0, 1, 493), (493, .iload_n 3, 1, 494), (494, .iconst 3, 1, 495), (495, .iadd, 1, 496), (496, .iaload, 1, 497), (497, .invokevirtual 44, 3, 500), (500, .if_icmp .eq 1241, 3, 503), (503, .iconst 0, 1, 504), (504, .ireturn, 1, 505)]
theorem tk_L6 : Tk code tb_L6 := Tk.of (by decide +kernel)
set_option maxHeartbeats 1000000 in
theorem L_6 {G : Gl} {d n : Nat} {S : Sh} {μ : Mu} {P o t q im b L i fm : Nat} {kp : Option Nat} {xs : Nat → Int32} {Q : Option Value → Sh → Mu → Prop} (hs : Scr G b L xs) (hL : L ≤ 384) (hi : i + 6 ≤ L) (him : im < 2 ^ 30) (hF : Fmt G fm) (hI : Inv G S P o kp t q im μ) (hk : ∀ S μ, Nx G P o im S μ → X G mi_L (d + 61) n 1741 (lvL b P o i) [] S μ Q) : X G mi_L (d + 61) (32 + n) 462 (lvL b P o i) [] S μ Q := by
  refine X_kc (kd := 0 + n) (by omega) ?_
  refine X_ofH ?_
  refine XH_aload_n (tk_L6.at 0 rfl) rfl ?_
  refine XH_arg (k := 1) (tk_L6.at 1 rfl) (tk_L6.at 2 rfl) (tk_L6.at 3 rfl) (tk_L6.at 4 rfl) (tk_L6.at 5 rfl) rfl hs rfl rfl (by omega) hL ?_
  refine XH_arg (k := 2) (tk_L6.at 6 rfl) (tk_L6.at 7 rfl) (tk_L6.at 8 rfl) (tk_L6.at 9 rfl) (tk_L6.at 10 rfl) rfl hs rfl rfl (by omega) hL ?_
  refine XH_arg (k := 3) (tk_L6.at 11 rfl) (tk_L6.at 12 rfl) (tk_L6.at 13 rfl) (tk_L6.at 14 rfl) (tk_L6.at 15 rfl) rfl hs rfl rfl (by omega) hL ?_
  refine XH_call1 (mj := mi_X9_rope) (As := [.int (xs (i + 1)), .int (xs (i + 2)), .int (xs (i + 3))]) (rest := []) (kd := 0) (n := n) (o := o) (cj := 10) (rj := rM o) (tk_L6.at 16 rfl) mv_X9_rope lk_l_40 np_X9_rope hI.P0 (by decide) rfl hI.M.f0 rfl (Nat.le_of_ble_eq_true rfl) (Nat.le_of_ble_eq_true rfl) rfl (t_rope (d := d) hI) (fun v S1 μ1 hq => ?_)
  obtain ⟨a1, rfl, hX⟩ := hq
  refine XH_aload_n (tk_L6.at 17 rfl) rfl ?_
  refine XH_arg (k := 1) (tk_L6.at 18 rfl) (tk_L6.at 19 rfl) (tk_L6.at 20 rfl) (tk_L6.at 21 rfl) (tk_L6.at 22 rfl) rfl hs rfl rfl (by omega) hL ?_
  refine XH_arg (k := 2) (tk_L6.at 23 rfl) (tk_L6.at 24 rfl) (tk_L6.at 25 rfl) (tk_L6.at 26 rfl) (tk_L6.at 27 rfl) rfl hs rfl rfl (by omega) hL ?_
  refine XH_arg (k := 3) (tk_L6.at 28 rfl) (tk_L6.at 29 rfl) (tk_L6.at 30 rfl) (tk_L6.at 31 rfl) (tk_L6.at 32 rfl) rfl hs rfl rfl (by omega) hL ?_
  refine XH_call2 (mj := mi_X10_rope_) (As := [.int (xs (i + 1)), .int (xs (i + 2)), .int (xs (i + 3))]) (rest := [.int a1]) (kd := 0) (n := n) (tk_L6.at 33 rfl) mv_X10_rope_ lk_l_44 np_X10_rope_ (by decide) rfl rfl (Nat.le_of_ble_eq_true rfl) (Nat.le_of_ble_eq_true rfl) (Nat.zero_add n).symm hX (fun v S2 μ2 hq => ?_)
  obtain ⟨a2, rfl, rfl, hN⟩ := hq
  exact X_icmp_eq (tgt := 1741) (tk_L6.at 34 rfl) (by decide) (fun _ => hk _ _ hN) (fun h => absurd rfl h)
def tb_L7 : List (Nat × Instr × Nat × Nat) := [(505, .aload_n 1, 1, 506), (506, .aload_n 0, 1, 507), (507, .iload_n 3, 1, 508), (508, .iconst 1, 1, 509), (509, .iadd, 1, 510), (510, .iaload, 1, 511), (511, .aload_n 0, 1, 512), (512, .iload_n 3, 1, 513), (513, .iconst 2, 1, 514), (514, .iadd, 1, 515), (515, .iaload, 1, 516), (516, .invokevirtual 45, 3, 519), (519, .aload_n 2, 1, 520), (520, .aload_n 0, 1, 521), (521, .iload_n 3, 1, 522), (522, .iconst 1, 1, 523), (523, .iadd, 1, 524), (524, .iaload, 1, 525), (525, .aload_n 0, 1, 526), (526, .iload_n 3, 1, 527), (527, .iconst 2, 1, 528), (528, .iadd, 1, 529), (529, .iaload, 1, 530), (530, .invokevirtual 48, 3, 533), (533, .if_icmp .eq 1208, 3, 536), (536, .iconst 0, 1, 537), (537, .ireturn, 1, 538)]
theorem tk_L7 : Tk code tb_L7 := Tk.of (by decide +kernel)
set_option maxHeartbeats 1000000 in
theorem L_7 {G : Gl} {d n : Nat} {S : Sh} {μ : Mu} {P o t q im b L i fm : Nat} {kp : Option Nat} {xs : Nat → Int32} {Q : Option Value → Sh → Mu → Prop} (hs : Scr G b L xs) (hL : L ≤ 384) (hi : i + 6 ≤ L) (him : im < 2 ^ 30) (hF : Fmt G fm) (hI : Inv G S P o kp t q im μ) (hk : ∀ S μ, Nx G P o im S μ → X G mi_L (d + 61) n 1741 (lvL b P o i) [] S μ Q) : X G mi_L (d + 61) (32 + n) 505 (lvL b P o i) [] S μ Q := by
  refine X_kc (kd := 0 + n) (by omega) ?_
  refine X_ofH ?_
  refine XH_aload_n (tk_L7.at 0 rfl) rfl ?_
  refine XH_arg (k := 1) (tk_L7.at 1 rfl) (tk_L7.at 2 rfl) (tk_L7.at 3 rfl) (tk_L7.at 4 rfl) (tk_L7.at 5 rfl) rfl hs rfl rfl (by omega) hL ?_
  refine XH_arg (k := 2) (tk_L7.at 6 rfl) (tk_L7.at 7 rfl) (tk_L7.at 8 rfl) (tk_L7.at 9 rfl) (tk_L7.at 10 rfl) rfl hs rfl rfl (by omega) hL ?_
  refine XH_call1 (mj := mi_X9_tie) (As := [.int (xs (i + 1)), .int (xs (i + 2))]) (rest := []) (kd := 0) (n := n) (o := o) (cj := 10) (rj := rM o) (tk_L7.at 11 rfl) mv_X9_tie lk_l_45 np_X9_tie hI.P0 (by decide) rfl hI.M.f0 rfl (Nat.le_of_ble_eq_true rfl) (Nat.le_of_ble_eq_true rfl) rfl (t_tie (d := d) hI) (fun v S1 μ1 hq => ?_)
  obtain ⟨a1, rfl, hX⟩ := hq
  refine XH_aload_n (tk_L7.at 12 rfl) rfl ?_
  refine XH_arg (k := 1) (tk_L7.at 13 rfl) (tk_L7.at 14 rfl) (tk_L7.at 15 rfl) (tk_L7.at 16 rfl) (tk_L7.at 17 rfl) rfl hs rfl rfl (by omega) hL ?_
  refine XH_arg (k := 2) (tk_L7.at 18 rfl) (tk_L7.at 19 rfl) (tk_L7.at 20 rfl) (tk_L7.at 21 rfl) (tk_L7.at 22 rfl) rfl hs rfl rfl (by omega) hL ?_
  refine XH_call2 (mj := mi_X10_tie) (As := [.int (xs (i + 1)), .int (xs (i + 2))]) (rest := [.int a1]) (kd := 0) (n := n) (tk_L7.at 23 rfl) mv_X10_tie lk_l_48 np_X10_tie (by decide) rfl rfl (Nat.le_of_ble_eq_true rfl) (Nat.le_of_ble_eq_true rfl) (Nat.zero_add n).symm hX (fun v S2 μ2 hq => ?_)
  obtain ⟨a2, rfl, rfl, hN⟩ := hq
  exact X_icmp_eq (tgt := 1741) (tk_L7.at 24 rfl) (by decide) (fun _ => hk _ _ hN) (fun h => absurd rfl h)
def tb_L8 : List (Nat × Instr × Nat × Nat) := [(538, .aload_n 1, 1, 539), (539, .aload_n 0, 1, 540), (540, .iload_n 3, 1, 541), (541, .iconst 1, 1, 542), (542, .iadd, 1, 543), (543, .iaload, 1, 544), (544, .invokevirtual 49, 3, 547), (547, .aload_n 2, 1, 548), (548, .aload_n 0, 1, 549), (549, .iload_n 3, 1, 550), (550, .iconst 1, 1, 551), (551, .iadd, 1, 552), (552, .iaload, 1, 553), (553, .invokevirtual 52, 3, 556), (556, .if_icmp .eq 1185, 3, 559), (559, .iconst 0, 1, 560), (560, .ireturn, 1, 561)]
theorem tk_L8 : Tk code tb_L8 := Tk.of (by decide +kernel)
set_option maxHeartbeats 1000000 in
theorem L_8 {G : Gl} {d n : Nat} {S : Sh} {μ : Mu} {P o t q im b L i fm : Nat} {kp : Option Nat} {xs : Nat → Int32} {Q : Option Value → Sh → Mu → Prop} (hs : Scr G b L xs) (hL : L ≤ 384) (hi : i + 6 ≤ L) (him : im < 2 ^ 30) (hF : Fmt G fm) (hI : Inv G S P o kp t q im μ) (hk : ∀ S μ, Nx G P o im S μ → X G mi_L (d + 61) n 1741 (lvL b P o i) [] S μ Q) : X G mi_L (d + 61) (32 + n) 538 (lvL b P o i) [] S μ Q := by
  refine X_kc (kd := 0 + n) (by omega) ?_
  refine X_ofH ?_
  refine XH_aload_n (tk_L8.at 0 rfl) rfl ?_
  refine XH_arg (k := 1) (tk_L8.at 1 rfl) (tk_L8.at 2 rfl) (tk_L8.at 3 rfl) (tk_L8.at 4 rfl) (tk_L8.at 5 rfl) rfl hs rfl rfl (by omega) hL ?_
  refine XH_call1 (mj := mi_X9_untie) (As := [.int (xs (i + 1))]) (rest := []) (kd := 0) (n := n) (o := o) (cj := 10) (rj := rM o) (tk_L8.at 6 rfl) mv_X9_untie lk_l_49 np_X9_untie hI.P0 (by decide) rfl hI.M.f0 rfl (Nat.le_of_ble_eq_true rfl) (Nat.le_of_ble_eq_true rfl) rfl (t_untie (d := d) hI) (fun v S1 μ1 hq => ?_)
  obtain ⟨a1, rfl, hX⟩ := hq
  refine XH_aload_n (tk_L8.at 7 rfl) rfl ?_
  refine XH_arg (k := 1) (tk_L8.at 8 rfl) (tk_L8.at 9 rfl) (tk_L8.at 10 rfl) (tk_L8.at 11 rfl) (tk_L8.at 12 rfl) rfl hs rfl rfl (by omega) hL ?_
  refine XH_call2 (mj := mi_X10_untie) (As := [.int (xs (i + 1))]) (rest := [.int a1]) (kd := 0) (n := n) (tk_L8.at 13 rfl) mv_X10_untie lk_l_52 np_X10_untie (by decide) rfl rfl (Nat.le_of_ble_eq_true rfl) (Nat.le_of_ble_eq_true rfl) (Nat.zero_add n).symm hX (fun v S2 μ2 hq => ?_)
  obtain ⟨a2, rfl, rfl, hN⟩ := hq
  exact X_icmp_eq (tgt := 1741) (tk_L8.at 14 rfl) (by decide) (fun _ => hk _ _ hN) (fun h => absurd rfl h)
def tb_L9 : List (Nat × Instr × Nat × Nat) := [(561, .aload_n 1, 1, 562), (562, .aload_n 0, 1, 563), (563, .iload_n 3, 1, 564), (564, .iconst 1, 1, 565), (565, .iadd, 1, 566), (566, .iaload, 1, 567), (567, .aload_n 0, 1, 568), (568, .iload_n 3, 1, 569), (569, .iconst 2, 1, 570), (570, .iadd, 1, 571), (571, .iaload, 1, 572), (572, .invokevirtual 53, 3, 575), (575, .aload_n 2, 1, 576), (576, .aload_n 0, 1, 577), (577, .iload_n 3, 1, 578), (578, .iconst 1, 1, 579), (579, .iadd, 1, 580), (580, .iaload, 1, 581), (581, .aload_n 0, 1, 582), (582, .iload_n 3, 1, 583), (583, .iconst 2, 1, 584), (584, .iadd, 1, 585), (585, .iaload, 1, 586), (586, .invokevirtual 56, 3, 589), (589, .if_icmp .eq 1152, 3, 592), (592, .iconst 0, 1, 593), (593, .ireturn, 1, 594)]
theorem tk_L9 : Tk code tb_L9 := Tk.of (by decide +kernel)
set_option maxHeartbeats 1000000 in
theorem L_9 {G : Gl} {d n : Nat} {S : Sh} {μ : Mu} {P o t q im b L i fm : Nat} {kp : Option Nat} {xs : Nat → Int32} {Q : Option Value → Sh → Mu → Prop} (hs : Scr G b L xs) (hL : L ≤ 384) (hi : i + 6 ≤ L) (him : im < 2 ^ 30) (hF : Fmt G fm) (hI : Inv G S P o kp t q im μ) (hk : ∀ S μ, Nx G P o im S μ → X G mi_L (d + 61) n 1741 (lvL b P o i) [] S μ Q) : X G mi_L (d + 61) (32 + n) 561 (lvL b P o i) [] S μ Q := by
  refine X_kc (kd := 0 + n) (by omega) ?_
  refine X_ofH ?_
  refine XH_aload_n (tk_L9.at 0 rfl) rfl ?_
  refine XH_arg (k := 1) (tk_L9.at 1 rfl) (tk_L9.at 2 rfl) (tk_L9.at 3 rfl) (tk_L9.at 4 rfl) (tk_L9.at 5 rfl) rfl hs rfl rfl (by omega) hL ?_
  refine XH_arg (k := 2) (tk_L9.at 6 rfl) (tk_L9.at 7 rfl) (tk_L9.at 8 rfl) (tk_L9.at 9 rfl) (tk_L9.at 10 rfl) rfl hs rfl rfl (by omega) hL ?_
  refine XH_call1 (mj := mi_X9_ofRope) (As := [.int (xs (i + 1)), .int (xs (i + 2))]) (rest := []) (kd := 0) (n := n) (o := o) (cj := 10) (rj := rM o) (tk_L9.at 11 rfl) mv_X9_ofRope lk_l_53 np_X9_ofRope hI.P0 (by decide) rfl hI.M.f0 rfl (Nat.le_of_ble_eq_true rfl) (Nat.le_of_ble_eq_true rfl) rfl (t_ofRope (d := d) hI) (fun v S1 μ1 hq => ?_)
  obtain ⟨a1, rfl, hX⟩ := hq
  refine XH_aload_n (tk_L9.at 12 rfl) rfl ?_
  refine XH_arg (k := 1) (tk_L9.at 13 rfl) (tk_L9.at 14 rfl) (tk_L9.at 15 rfl) (tk_L9.at 16 rfl) (tk_L9.at 17 rfl) rfl hs rfl rfl (by omega) hL ?_
  refine XH_arg (k := 2) (tk_L9.at 18 rfl) (tk_L9.at 19 rfl) (tk_L9.at 20 rfl) (tk_L9.at 21 rfl) (tk_L9.at 22 rfl) rfl hs rfl rfl (by omega) hL ?_
  refine XH_call2 (mj := mi_X10_ofRope) (As := [.int (xs (i + 1)), .int (xs (i + 2))]) (rest := [.int a1]) (kd := 0) (n := n) (tk_L9.at 23 rfl) mv_X10_ofRope lk_l_56 np_X10_ofRope (by decide) rfl rfl (Nat.le_of_ble_eq_true rfl) (Nat.le_of_ble_eq_true rfl) (Nat.zero_add n).symm hX (fun v S2 μ2 hq => ?_)
  obtain ⟨a2, rfl, rfl, hN⟩ := hq
  exact X_icmp_eq (tgt := 1741) (tk_L9.at 24 rfl) (by decide) (fun _ => hk _ _ hN) (fun h => absurd rfl h)
def tb_L10 : List (Nat × Instr × Nat × Nat) := [(594, .aload_n 1, 1, 595), (595, .aload_n 0, 1, 596), (596, .iload_n 3, 1, 597), (597, .iconst 1, 1, 598), (598, .iadd, 1, 599), (599, .iaload, 1, 600), (600, .aload_n 0, 1, 601), (601, .iload_n 3, 1, 602), (602, .iconst 2, 1, 603), (603, .iadd, 1, 604), (604, .iaload, 1, 605), (605, .invokevirtual 57, 3, 608), (608, .aload_n 2, 1, 609), (609, .aload_n 0, 1, 610), (610, .iload_n 3, 1, 611), (611, .iconst 1, 1, 612), (612, .iadd, 1, 613), (613, .iaload, 1, 614), (614, .aload_n 0, 1, 615), (615, .iload_n 3, 1, 616), (616, .iconst 2, 1, 617), (617, .iadd, 1, 618), (618, .iaload, 1, 619), (619, .invokevirtual 60, 3, 622), (622, .if_icmp .eq 1119, 3, 625), (625, .iconst 0, 1, 626), (626, .ireturn, 1, 627)]
theorem tk_L10 : Tk code tb_L10 := Tk.of (by decide +kernel)
set_option maxHeartbeats 1000000 in
theorem L_10 {G : Gl} {d n : Nat} {S : Sh} {μ : Mu} {P o t q im b L i fm : Nat} {kp : Option Nat} {xs : Nat → Int32} {Q : Option Value → Sh → Mu → Prop} (hs : Scr G b L xs) (hL : L ≤ 384) (hi : i + 6 ≤ L) (him : im < 2 ^ 30) (hF : Fmt G fm) (hI : Inv G S P o kp t q im μ) (hk : ∀ S μ, Nx G P o im S μ → X G mi_L (d + 61) n 1741 (lvL b P o i) [] S μ Q) : X G mi_L (d + 61) (32 + n) 594 (lvL b P o i) [] S μ Q := by
  refine X_kc (kd := 0 + n) (by omega) ?_
  refine X_ofH ?_
  refine XH_aload_n (tk_L10.at 0 rfl) rfl ?_
  refine XH_arg (k := 1) (tk_L10.at 1 rfl) (tk_L10.at 2 rfl) (tk_L10.at 3 rfl) (tk_L10.at 4 rfl) (tk_L10.at 5 rfl) rfl hs rfl rfl (by omega) hL ?_
  refine XH_arg (k := 2) (tk_L10.at 6 rfl) (tk_L10.at 7 rfl) (tk_L10.at 8 rfl) (tk_L10.at 9 rfl) (tk_L10.at 10 rfl) rfl hs rfl rfl (by omega) hL ?_
  refine XH_call1 (mj := mi_X9_as) (As := [.int (xs (i + 1)), .int (xs (i + 2))]) (rest := []) (kd := 0) (n := n) (o := o) (cj := 10) (rj := rM o) (tk_L10.at 11 rfl) mv_X9_as lk_l_57 np_X9_as hI.P0 (by decide) rfl hI.M.f0 rfl (Nat.le_of_ble_eq_true rfl) (Nat.le_of_ble_eq_true rfl) rfl (t_as (d := d) hI) (fun v S1 μ1 hq => ?_)
  obtain ⟨a1, rfl, hX⟩ := hq
  refine XH_aload_n (tk_L10.at 12 rfl) rfl ?_
  refine XH_arg (k := 1) (tk_L10.at 13 rfl) (tk_L10.at 14 rfl) (tk_L10.at 15 rfl) (tk_L10.at 16 rfl) (tk_L10.at 17 rfl) rfl hs rfl rfl (by omega) hL ?_
  refine XH_arg (k := 2) (tk_L10.at 18 rfl) (tk_L10.at 19 rfl) (tk_L10.at 20 rfl) (tk_L10.at 21 rfl) (tk_L10.at 22 rfl) rfl hs rfl rfl (by omega) hL ?_
  refine XH_call2 (mj := mi_X10_as) (As := [.int (xs (i + 1)), .int (xs (i + 2))]) (rest := [.int a1]) (kd := 0) (n := n) (tk_L10.at 23 rfl) mv_X10_as lk_l_60 np_X10_as (by decide) rfl rfl (Nat.le_of_ble_eq_true rfl) (Nat.le_of_ble_eq_true rfl) (Nat.zero_add n).symm hX (fun v S2 μ2 hq => ?_)
  obtain ⟨a2, rfl, rfl, hN⟩ := hq
  exact X_icmp_eq (tgt := 1741) (tk_L10.at 24 rfl) (by decide) (fun _ => hk _ _ hN) (fun h => absurd rfl h)
def tb_L11 : List (Nat × Instr × Nat × Nat) := [(627, .aload_n 1, 1, 628), (628, .aload_n 0, 1, 629), (629, .iload_n 3, 1, 630), (630, .iconst 1, 1, 631), (631, .iadd, 1, 632), (632, .iaload, 1, 633), (633, .aload_n 0, 1, 634), (634, .iload_n 3, 1, 635), (635, .iconst 2, 1, 636), (636, .iadd, 1, 637), (637, .iaload, 1, 638), (638, .aload_n 0, 1, 639), (639, .iload_n 3, 1, 640), (640, .iconst 3, 1, 641), (641, .iadd, 1, 642), (642, .iaload, 1, 643), (643, .invokevirtual 61, 3, 646), (646, .aload_n 2, 1, 647), (647, .aload_n 0, 1, 648), (648, .iload_n 3, 1, 649), (649, .iconst 1, 1, 650), (650, .iadd, 1, 651), (651, .iaload, 1, 652), (652, .aload_n 0, 1, 653), (653, .iload_n 3, 1, 654), (654, .iconst 2, 1, 655), (655, .iadd, 1, 656), (656, .iaload, 1, 657), (657, .aload_n 0, 1, 658), (658, .iload_n 3, 1, 659), (659, .iconst 3, 1, 660), (660, .iadd, 1, 661), (661, .iaload, 1, 662), (662, .invokevirtual 64, 3, 665), (665, .if_icmp .eq 1076, 3, 668), (668, .iconst 0, 1, 669), (669, .ireturn, 1, 670)]
theorem tk_L11 : Tk code tb_L11 := Tk.of (by decide +kernel)
set_option maxHeartbeats 1000000 in
theorem L_11 {G : Gl} {d n : Nat} {S : Sh} {μ : Mu} {P o t q im b L i fm : Nat} {kp : Option Nat} {xs : Nat → Int32} {Q : Option Value → Sh → Mu → Prop} (hs : Scr G b L xs) (hL : L ≤ 384) (hi : i + 6 ≤ L) (him : im < 2 ^ 30) (hF : Fmt G fm) (hI : Inv G S P o kp t q im μ) (hk : ∀ S μ, Nx G P o im S μ → X G mi_L (d + 61) n 1741 (lvL b P o i) [] S μ Q) : X G mi_L (d + 61) (32 + n) 627 (lvL b P o i) [] S μ Q := by
  refine X_kc (kd := 0 + n) (by omega) ?_
  refine X_ofH ?_
  refine XH_aload_n (tk_L11.at 0 rfl) rfl ?_
  refine XH_arg (k := 1) (tk_L11.at 1 rfl) (tk_L11.at 2 rfl) (tk_L11.at 3 rfl) (tk_L11.at 4 rfl) (tk_L11.at 5 rfl) rfl hs rfl rfl (by omega) hL ?_
  refine XH_arg (k := 2) (tk_L11.at 6 rfl) (tk_L11.at 7 rfl) (tk_L11.at 8 rfl) (tk_L11.at 9 rfl) (tk_L11.at 10 rfl) rfl hs rfl rfl (by omega) hL ?_
  refine XH_arg (k := 3) (tk_L11.at 11 rfl) (tk_L11.at 12 rfl) (tk_L11.at 13 rfl) (tk_L11.at 14 rfl) (tk_L11.at 15 rfl) rfl hs rfl rfl (by omega) hL ?_
  refine XH_call1 (mj := mi_X9_set) (As := [.int (xs (i + 1)), .int (xs (i + 2)), .int (xs (i + 3))]) (rest := []) (kd := 0) (n := n) (o := o) (cj := 10) (rj := rM o) (tk_L11.at 16 rfl) mv_X9_set lk_l_61 np_X9_set hI.P0 (by decide) rfl hI.M.f0 rfl (Nat.le_of_ble_eq_true rfl) (Nat.le_of_ble_eq_true rfl) rfl (t_setN (d := d) hI) (fun v S1 μ1 hq => ?_)
  obtain ⟨a1, rfl, hX⟩ := hq
  refine XH_aload_n (tk_L11.at 17 rfl) rfl ?_
  refine XH_arg (k := 1) (tk_L11.at 18 rfl) (tk_L11.at 19 rfl) (tk_L11.at 20 rfl) (tk_L11.at 21 rfl) (tk_L11.at 22 rfl) rfl hs rfl rfl (by omega) hL ?_
  refine XH_arg (k := 2) (tk_L11.at 23 rfl) (tk_L11.at 24 rfl) (tk_L11.at 25 rfl) (tk_L11.at 26 rfl) (tk_L11.at 27 rfl) rfl hs rfl rfl (by omega) hL ?_
  refine XH_arg (k := 3) (tk_L11.at 28 rfl) (tk_L11.at 29 rfl) (tk_L11.at 30 rfl) (tk_L11.at 31 rfl) (tk_L11.at 32 rfl) rfl hs rfl rfl (by omega) hL ?_
  refine XH_call2 (mj := mi_X10_set) (As := [.int (xs (i + 1)), .int (xs (i + 2)), .int (xs (i + 3))]) (rest := [.int a1]) (kd := 0) (n := n) (tk_L11.at 33 rfl) mv_X10_set lk_l_64 np_X10_set (by decide) rfl rfl (Nat.le_of_ble_eq_true rfl) (Nat.le_of_ble_eq_true rfl) (Nat.zero_add n).symm hX (fun v S2 μ2 hq => ?_)
  obtain ⟨a2, rfl, rfl, hN⟩ := hq
  exact X_icmp_eq (tgt := 1741) (tk_L11.at 34 rfl) (by decide) (fun _ => hk _ _ hN) (fun h => absurd rfl h)
def tb_L12 : List (Nat × Instr × Nat × Nat) := [(670, .aload_n 1, 1, 671), (671, .aload_n 0, 1, 672), (672, .iload_n 3, 1, 673), (673, .iconst 1, 1, 674), (674, .iadd, 1, 675), (675, .iaload, 1, 676), (676, .aload_n 0, 1, 677), (677, .iload_n 3, 1, 678), (678, .iconst 2, 1, 679), (679, .iadd, 1, 680), (680, .iaload, 1, 681), (681, .invokevirtual 65, 3, 684), (684, .aload_n 2, 1, 685), (685, .aload_n 0, 1, 686), (686, .iload_n 3, 1, 687), (687, .iconst 1, 1, 688), (688, .iadd, 1, 689), (689, .iaload, 1, 690), (690, .aload_n 0, 1, 691), (691, .iload_n 3, 1, 692), (692, .iconst 2, 1, 693), (693, .iadd, 1, 694), (694, .iaload, 1, 695), (695, .invokevirtual 68, 3, 698), (698, .if_icmp .eq 1043, 3, 701), (701, .iconst 0, 1, 702), (702, .ireturn, 1, 703)]
theorem tk_L12 : Tk code tb_L12 := Tk.of (by decide +kernel)
set_option maxHeartbeats 1000000 in
theorem L_12 {G : Gl} {d n : Nat} {S : Sh} {μ : Mu} {P o t q im b L i fm : Nat} {kp : Option Nat} {xs : Nat → Int32} {Q : Option Value → Sh → Mu → Prop} (hs : Scr G b L xs) (hL : L ≤ 384) (hi : i + 6 ≤ L) (him : im < 2 ^ 30) (hF : Fmt G fm) (hI : Inv G S P o kp t q im μ) (hk : ∀ S μ, Nx G P o im S μ → X G mi_L (d + 61) n 1741 (lvL b P o i) [] S μ Q) : X G mi_L (d + 61) (32 + n) 670 (lvL b P o i) [] S μ Q := by
  refine X_kc (kd := 0 + n) (by omega) ?_
  refine X_ofH ?_
  refine XH_aload_n (tk_L12.at 0 rfl) rfl ?_
  refine XH_arg (k := 1) (tk_L12.at 1 rfl) (tk_L12.at 2 rfl) (tk_L12.at 3 rfl) (tk_L12.at 4 rfl) (tk_L12.at 5 rfl) rfl hs rfl rfl (by omega) hL ?_
  refine XH_arg (k := 2) (tk_L12.at 6 rfl) (tk_L12.at 7 rfl) (tk_L12.at 8 rfl) (tk_L12.at 9 rfl) (tk_L12.at 10 rfl) rfl hs rfl rfl (by omega) hL ?_
  refine XH_call1 (mj := mi_X9_swap) (As := [.int (xs (i + 1)), .int (xs (i + 2))]) (rest := []) (kd := 0) (n := n) (o := o) (cj := 10) (rj := rM o) (tk_L12.at 11 rfl) mv_X9_swap lk_l_65 np_X9_swap hI.P0 (by decide) rfl hI.M.f0 rfl (Nat.le_of_ble_eq_true rfl) (Nat.le_of_ble_eq_true rfl) rfl (t_swap (d := d) hI) (fun v S1 μ1 hq => ?_)
  obtain ⟨a1, rfl, hX⟩ := hq
  refine XH_aload_n (tk_L12.at 12 rfl) rfl ?_
  refine XH_arg (k := 1) (tk_L12.at 13 rfl) (tk_L12.at 14 rfl) (tk_L12.at 15 rfl) (tk_L12.at 16 rfl) (tk_L12.at 17 rfl) rfl hs rfl rfl (by omega) hL ?_
  refine XH_arg (k := 2) (tk_L12.at 18 rfl) (tk_L12.at 19 rfl) (tk_L12.at 20 rfl) (tk_L12.at 21 rfl) (tk_L12.at 22 rfl) rfl hs rfl rfl (by omega) hL ?_
  refine XH_call2 (mj := mi_X10_swap) (As := [.int (xs (i + 1)), .int (xs (i + 2))]) (rest := [.int a1]) (kd := 0) (n := n) (tk_L12.at 23 rfl) mv_X10_swap lk_l_68 np_X10_swap (by decide) rfl rfl (Nat.le_of_ble_eq_true rfl) (Nat.le_of_ble_eq_true rfl) (Nat.zero_add n).symm hX (fun v S2 μ2 hq => ?_)
  obtain ⟨a2, rfl, rfl, hN⟩ := hq
  exact X_icmp_eq (tgt := 1741) (tk_L12.at 24 rfl) (by decide) (fun _ => hk _ _ hN) (fun h => absurd rfl h)
def tb_L13 : List (Nat × Instr × Nat × Nat) := [(703, .aload_n 1, 1, 704), (704, .aload_n 0, 1, 705), (705, .iload_n 3, 1, 706), (706, .iconst 1, 1, 707), (707, .iadd, 1, 708), (708, .iaload, 1, 709), (709, .invokevirtual 69, 3, 712), (712, .aload_n 2, 1, 713), (713, .aload_n 0, 1, 714), (714, .iload_n 3, 1, 715), (715, .iconst 1, 1, 716), (716, .iadd, 1, 717), (717, .iaload, 1, 718), (718, .invokevirtual 72, 3, 721), (721, .if_icmp .eq 1020, 3, 724), (724, .iconst 0, 1, 725), (725, .ireturn, 1, 726)]
theorem tk_L13 : Tk code tb_L13 := Tk.of (by decide +kernel)
set_option maxHeartbeats 1000000 in
theorem L_13 {G : Gl} {d n : Nat} {S : Sh} {μ : Mu} {P o t q im b L i fm : Nat} {kp : Option Nat} {xs : Nat → Int32} {Q : Option Value → Sh → Mu → Prop} (hs : Scr G b L xs) (hL : L ≤ 384) (hi : i + 6 ≤ L) (him : im < 2 ^ 30) (hF : Fmt G fm) (hI : Inv G S P o kp t q im μ) (hk : ∀ S μ, Nx G P o im S μ → X G mi_L (d + 61) n 1741 (lvL b P o i) [] S μ Q) : X G mi_L (d + 61) (32 + n) 703 (lvL b P o i) [] S μ Q := by
  refine X_kc (kd := 0 + n) (by omega) ?_
  refine X_ofH ?_
  refine XH_aload_n (tk_L13.at 0 rfl) rfl ?_
  refine XH_arg (k := 1) (tk_L13.at 1 rfl) (tk_L13.at 2 rfl) (tk_L13.at 3 rfl) (tk_L13.at 4 rfl) (tk_L13.at 5 rfl) rfl hs rfl rfl (by omega) hL ?_
  refine XH_call1 (mj := mi_X9_hold) (As := [.int (xs (i + 1))]) (rest := []) (kd := 0) (n := n) (o := o) (cj := 10) (rj := rM o) (tk_L13.at 6 rfl) mv_X9_hold lk_l_69 np_X9_hold hI.P0 (by decide) rfl hI.M.f0 rfl (Nat.le_of_ble_eq_true rfl) (Nat.le_of_ble_eq_true rfl) rfl (t_hold (d := d) hI) (fun v S1 μ1 hq => ?_)
  obtain ⟨a1, rfl, hX⟩ := hq
  refine XH_aload_n (tk_L13.at 7 rfl) rfl ?_
  refine XH_arg (k := 1) (tk_L13.at 8 rfl) (tk_L13.at 9 rfl) (tk_L13.at 10 rfl) (tk_L13.at 11 rfl) (tk_L13.at 12 rfl) rfl hs rfl rfl (by omega) hL ?_
  refine XH_call2 (mj := mi_X10_hold) (As := [.int (xs (i + 1))]) (rest := [.int a1]) (kd := 0) (n := n) (tk_L13.at 13 rfl) mv_X10_hold lk_l_72 np_X10_hold (by decide) rfl rfl (Nat.le_of_ble_eq_true rfl) (Nat.le_of_ble_eq_true rfl) (Nat.zero_add n).symm hX (fun v S2 μ2 hq => ?_)
  obtain ⟨a2, rfl, rfl, hN⟩ := hq
  exact X_icmp_eq (tgt := 1741) (tk_L13.at 14 rfl) (by decide) (fun _ => hk _ _ hN) (fun h => absurd rfl h)
def tb_L14 : List (Nat × Instr × Nat × Nat) := [(726, .aload_n 1, 1, 727), (727, .aload_n 0, 1, 728), (728, .iload_n 3, 1, 729), (729, .iconst 1, 1, 730), (730, .iadd, 1, 731), (731, .iaload, 1, 732), (732, .aload_n 0, 1, 733), (733, .iload_n 3, 1, 734), (734, .iconst 2, 1, 735), (735, .iadd, 1, 736), (736, .iaload, 1, 737), (737, .invokevirtual 73, 3, 740), (740, .aload_n 2, 1, 741), (741, .aload_n 0, 1, 742), (742, .iload_n 3, 1, 743), (743, .iconst 1, 1, 744), (744, .iadd, 1, 745), (745, .iaload, 1, 746), (746, .aload_n 0, 1, 747), (747, .iload_n 3, 1, 748), (748, .iconst 2, 1, 749), (749, .iadd, 1, 750), (750, .iaload, 1, 751), (751, .invokevirtual 76, 3, 754), (754, .if_icmp .eq 987, 3, 757), (757, .iconst 0, 1, 758), (758, .ireturn, 1, 759)]
theorem tk_L14 : Tk code tb_L14 := Tk.of (by decide +kernel)
set_option maxHeartbeats 1000000 in
theorem L_14 {G : Gl} {d n : Nat} {S : Sh} {μ : Mu} {P o t q im b L i fm : Nat} {kp : Option Nat} {xs : Nat → Int32} {Q : Option Value → Sh → Mu → Prop} (hs : Scr G b L xs) (hL : L ≤ 384) (hi : i + 6 ≤ L) (him : im < 2 ^ 30) (hF : Fmt G fm) (hI : Inv G S P o kp t q im μ) (hk : ∀ S μ, Nx G P o im S μ → X G mi_L (d + 61) n 1741 (lvL b P o i) [] S μ Q) : X G mi_L (d + 61) (32 + n) 726 (lvL b P o i) [] S μ Q := by
  refine X_kc (kd := 0 + n) (by omega) ?_
  refine X_ofH ?_
  refine XH_aload_n (tk_L14.at 0 rfl) rfl ?_
  refine XH_arg (k := 1) (tk_L14.at 1 rfl) (tk_L14.at 2 rfl) (tk_L14.at 3 rfl) (tk_L14.at 4 rfl) (tk_L14.at 5 rfl) rfl hs rfl rfl (by omega) hL ?_
  refine XH_arg (k := 2) (tk_L14.at 6 rfl) (tk_L14.at 7 rfl) (tk_L14.at 8 rfl) (tk_L14.at 9 rfl) (tk_L14.at 10 rfl) rfl hs rfl rfl (by omega) hL ?_
  refine XH_call1 (mj := mi_X9_held) (As := [.int (xs (i + 1)), .int (xs (i + 2))]) (rest := []) (kd := 0) (n := n) (o := o) (cj := 10) (rj := rM o) (tk_L14.at 11 rfl) mv_X9_held lk_l_73 np_X9_held hI.P0 (by decide) rfl hI.M.f0 rfl (Nat.le_of_ble_eq_true rfl) (Nat.le_of_ble_eq_true rfl) rfl (t_held (d := d) hI) (fun v S1 μ1 hq => ?_)
  obtain ⟨a1, rfl, hX⟩ := hq
  refine XH_aload_n (tk_L14.at 12 rfl) rfl ?_
  refine XH_arg (k := 1) (tk_L14.at 13 rfl) (tk_L14.at 14 rfl) (tk_L14.at 15 rfl) (tk_L14.at 16 rfl) (tk_L14.at 17 rfl) rfl hs rfl rfl (by omega) hL ?_
  refine XH_arg (k := 2) (tk_L14.at 18 rfl) (tk_L14.at 19 rfl) (tk_L14.at 20 rfl) (tk_L14.at 21 rfl) (tk_L14.at 22 rfl) rfl hs rfl rfl (by omega) hL ?_
  refine XH_call2 (mj := mi_X10_held) (As := [.int (xs (i + 1)), .int (xs (i + 2))]) (rest := [.int a1]) (kd := 0) (n := n) (tk_L14.at 23 rfl) mv_X10_held lk_l_76 np_X10_held (by decide) rfl rfl (Nat.le_of_ble_eq_true rfl) (Nat.le_of_ble_eq_true rfl) (Nat.zero_add n).symm hX (fun v S2 μ2 hq => ?_)
  obtain ⟨a2, rfl, rfl, hN⟩ := hq
  exact X_icmp_eq (tgt := 1741) (tk_L14.at 24 rfl) (by decide) (fun _ => hk _ _ hN) (fun h => absurd rfl h)
def tb_L15 : List (Nat × Instr × Nat × Nat) := [(759, .aload_n 1, 1, 760), (760, .aload_n 0, 1, 761), (761, .iload_n 3, 1, 762), (762, .iconst 1, 1, 763), (763, .iadd, 1, 764), (764, .iaload, 1, 765), (765, .aload_n 0, 1, 766), (766, .iload_n 3, 1, 767), (767, .iconst 2, 1, 768), (768, .iadd, 1, 769), (769, .iaload, 1, 770), (770, .invokevirtual 77, 3, 773), (773, .aload_n 2, 1, 774), (774, .aload_n 0, 1, 775), (775, .iload_n 3, 1, 776), (776, .iconst 1, 1, 777), (777, .iadd, 1, 778), (778, .iaload, 1, 779), (779, .aload_n 0, 1, 780), (780, .iload_n 3, 1, 781), (781, .iconst 2, 1, 782), (782, .iadd, 1, 783), (783, .iaload, 1, 784), (784, .invokevirtual 80, 3, 787), (787, .if_icmp .eq 954, 3, 790), (790, .iconst 0, 1, 791), (791, .ireturn, 1, 792)]
theorem tk_L15 : Tk code tb_L15 := Tk.of (by decide +kernel)
set_option maxHeartbeats 1000000 in
theorem L_15 {G : Gl} {d n : Nat} {S : Sh} {μ : Mu} {P o t q im b L i fm : Nat} {kp : Option Nat} {xs : Nat → Int32} {Q : Option Value → Sh → Mu → Prop} (hs : Scr G b L xs) (hL : L ≤ 384) (hi : i + 6 ≤ L) (him : im < 2 ^ 30) (hF : Fmt G fm) (hI : Inv G S P o kp t q im μ) (hk : ∀ S μ, Nx G P o im S μ → X G mi_L (d + 61) n 1741 (lvL b P o i) [] S μ Q) : X G mi_L (d + 61) (32 + n) 759 (lvL b P o i) [] S μ Q := by
  refine X_kc (kd := 0 + n) (by omega) ?_
  refine X_ofH ?_
  refine XH_aload_n (tk_L15.at 0 rfl) rfl ?_
  refine XH_arg (k := 1) (tk_L15.at 1 rfl) (tk_L15.at 2 rfl) (tk_L15.at 3 rfl) (tk_L15.at 4 rfl) (tk_L15.at 5 rfl) rfl hs rfl rfl (by omega) hL ?_
  refine XH_arg (k := 2) (tk_L15.at 6 rfl) (tk_L15.at 7 rfl) (tk_L15.at 8 rfl) (tk_L15.at 9 rfl) (tk_L15.at 10 rfl) rfl hs rfl rfl (by omega) hL ?_
  refine XH_call1 (mj := mi_X9_cost) (As := [.int (xs (i + 1)), .int (xs (i + 2))]) (rest := []) (kd := 0) (n := n) (o := o) (cj := 10) (rj := rM o) (tk_L15.at 11 rfl) mv_X9_cost lk_l_77 np_X9_cost hI.P0 (by decide) rfl hI.M.f0 rfl (Nat.le_of_ble_eq_true rfl) (Nat.le_of_ble_eq_true rfl) rfl (t_cost (d := d) hI) (fun v S1 μ1 hq => ?_)
  obtain ⟨a1, rfl, hX⟩ := hq
  refine XH_aload_n (tk_L15.at 12 rfl) rfl ?_
  refine XH_arg (k := 1) (tk_L15.at 13 rfl) (tk_L15.at 14 rfl) (tk_L15.at 15 rfl) (tk_L15.at 16 rfl) (tk_L15.at 17 rfl) rfl hs rfl rfl (by omega) hL ?_
  refine XH_arg (k := 2) (tk_L15.at 18 rfl) (tk_L15.at 19 rfl) (tk_L15.at 20 rfl) (tk_L15.at 21 rfl) (tk_L15.at 22 rfl) rfl hs rfl rfl (by omega) hL ?_
  refine XH_call2 (mj := mi_X10_cost) (As := [.int (xs (i + 1)), .int (xs (i + 2))]) (rest := [.int a1]) (kd := 0) (n := n) (tk_L15.at 23 rfl) mv_X10_cost lk_l_80 np_X10_cost (by decide) rfl rfl (Nat.le_of_ble_eq_true rfl) (Nat.le_of_ble_eq_true rfl) (Nat.zero_add n).symm hX (fun v S2 μ2 hq => ?_)
  obtain ⟨a2, rfl, rfl, hN⟩ := hq
  exact X_icmp_eq (tgt := 1741) (tk_L15.at 24 rfl) (by decide) (fun _ => hk _ _ hN) (fun h => absurd rfl h)
def tb_L16 : List (Nat × Instr × Nat × Nat) := [(792, .aload_n 1, 1, 793), (793, .aload_n 0, 1, 794), (794, .iload_n 3, 1, 795), (795, .iconst 1, 1, 796), (796, .iadd, 1, 797), (797, .iaload, 1, 798), (798, .aload_n 0, 1, 799), (799, .iload_n 3, 1, 800), (800, .iconst 2, 1, 801), (801, .iadd, 1, 802), (802, .iaload, 1, 803), (803, .invokevirtual 81, 3, 806), (806, .aload_n 2, 1, 807), (807, .aload_n 0, 1, 808), (808, .iload_n 3, 1, 809), (809, .iconst 1, 1, 810), (810, .iadd, 1, 811), (811, .iaload, 1, 812), (812, .aload_n 0, 1, 813), (813, .iload_n 3, 1, 814), (814, .iconst 2, 1, 815), (815, .iadd, 1, 816), (816, .iaload, 1, 817), (817, .invokevirtual 84, 3, 820), (820, .if_icmp .eq 921, 3, 823), (823, .iconst 0, 1, 824), (824, .ireturn, 1, 825)]
theorem tk_L16 : Tk code tb_L16 := Tk.of (by decide +kernel)
set_option maxHeartbeats 1000000 in
theorem L_16 {G : Gl} {d n : Nat} {S : Sh} {μ : Mu} {P o t q im b L i fm : Nat} {kp : Option Nat} {xs : Nat → Int32} {Q : Option Value → Sh → Mu → Prop} (hs : Scr G b L xs) (hL : L ≤ 384) (hi : i + 6 ≤ L) (him : im < 2 ^ 30) (hF : Fmt G fm) (hI : Inv G S P o kp t q im μ) (hk : ∀ S μ, Nx G P o im S μ → X G mi_L (d + 61) n 1741 (lvL b P o i) [] S μ Q) : X G mi_L (d + 61) (32 + n) 792 (lvL b P o i) [] S μ Q := by
  refine X_kc (kd := 0 + n) (by omega) ?_
  refine X_ofH ?_
  refine XH_aload_n (tk_L16.at 0 rfl) rfl ?_
  refine XH_arg (k := 1) (tk_L16.at 1 rfl) (tk_L16.at 2 rfl) (tk_L16.at 3 rfl) (tk_L16.at 4 rfl) (tk_L16.at 5 rfl) rfl hs rfl rfl (by omega) hL ?_
  refine XH_arg (k := 2) (tk_L16.at 6 rfl) (tk_L16.at 7 rfl) (tk_L16.at 8 rfl) (tk_L16.at 9 rfl) (tk_L16.at 10 rfl) rfl hs rfl rfl (by omega) hL ?_
  refine XH_call1 (mj := mi_X9_haul) (As := [.int (xs (i + 1)), .int (xs (i + 2))]) (rest := []) (kd := 0) (n := n) (o := o) (cj := 10) (rj := rM o) (tk_L16.at 11 rfl) mv_X9_haul lk_l_81 np_X9_haul hI.P0 (by decide) rfl hI.M.f0 rfl (Nat.le_of_ble_eq_true rfl) (Nat.le_of_ble_eq_true rfl) rfl (t_haul (d := d) hI) (fun v S1 μ1 hq => ?_)
  obtain ⟨a1, rfl, hX⟩ := hq
  refine XH_aload_n (tk_L16.at 12 rfl) rfl ?_
  refine XH_arg (k := 1) (tk_L16.at 13 rfl) (tk_L16.at 14 rfl) (tk_L16.at 15 rfl) (tk_L16.at 16 rfl) (tk_L16.at 17 rfl) rfl hs rfl rfl (by omega) hL ?_
  refine XH_arg (k := 2) (tk_L16.at 18 rfl) (tk_L16.at 19 rfl) (tk_L16.at 20 rfl) (tk_L16.at 21 rfl) (tk_L16.at 22 rfl) rfl hs rfl rfl (by omega) hL ?_
  refine XH_call2 (mj := mi_X10_haul) (As := [.int (xs (i + 1)), .int (xs (i + 2))]) (rest := [.int a1]) (kd := 0) (n := n) (tk_L16.at 23 rfl) mv_X10_haul lk_l_84 np_X10_haul (by decide) rfl rfl (Nat.le_of_ble_eq_true rfl) (Nat.le_of_ble_eq_true rfl) (Nat.zero_add n).symm hX (fun v S2 μ2 hq => ?_)
  obtain ⟨a2, rfl, rfl, hN⟩ := hq
  exact X_icmp_eq (tgt := 1741) (tk_L16.at 24 rfl) (by decide) (fun _ => hk _ _ hN) (fun h => absurd rfl h)
def tb_L17 : List (Nat × Instr × Nat × Nat) := [(825, .aload_n 1, 1, 826), (826, .aload_n 0, 1, 827), (827, .iload_n 3, 1, 828), (828, .iconst 1, 1, 829), (829, .iadd, 1, 830), (830, .iaload, 1, 831), (831, .i2l, 1, 832), (832, .bipush 32, 2, 834), (834, .lshl, 1, 835), (835, .aload_n 0, 1, 836), (836, .iload_n 3, 1, 837), (837, .iconst 2, 1, 838), (838, .iadd, 1, 839), (839, .iaload, 1, 840), (840, .i2l, 1, 841), (841, .ldc2_w 85, 3, 844), (844, .land, 1, 845), (845, .lor, 1, 846), (846, .aload_n 0, 1, 847), (847, .iload_n 3, 1, 848), (848, .iconst 3, 1, 849), (849, .iadd, 1, 850), (850, .iaload, 1, 851), (851, .invokevirtual 87, 3, 854), (854, .aload_n 2, 1, 855), (855, .aload_n 0, 1, 856), (856, .iload_n 3, 1, 857), (857, .iconst 1, 1, 858), (858, .iadd, 1, 859), (859, .iaload, 1, 860), (860, .i2l, 1, 861), (861, .bipush 32, 2, 863), (863, .lshl, 1, 864), (864, .aload_n 0, 1, 865), (865, .iload_n 3, 1, 866), (866, .iconst 2, 1, 867), (867, .iadd, 1, 868), (868, .iaload, 1, 869), (869, .i2l, 1, 870), (870, .ldc2_w 85, 3, 873), (873, .land, 1, 874), (874, .lor, 1, 875), (875, .aload_n 0, 1, 876), (876, .iload_n 3, 1, 877), (877, .iconst 3, 1, 878), (878, .iadd, 1, 879), (879, .iaload, 1, 880), (880, .invokevirtual 91, 3, 883), (883, .if_icmp .eq 858, 3, 886), (886, .iconst 0, 1, 887), (887, .ireturn, 1, 888)]
theorem tk_L17 : Tk code tb_L17 := Tk.of (by decide +kernel)
set_option maxHeartbeats 1000000 in
theorem L_17 {G : Gl} {d n : Nat} {S : Sh} {μ : Mu} {P o t q im b L i fm : Nat} {kp : Option Nat} {xs : Nat → Int32} {Q : Option Value → Sh → Mu → Prop} (hs : Scr G b L xs) (hL : L ≤ 384) (hi : i + 6 ≤ L) (him : im < 2 ^ 30) (hF : Fmt G fm) (hI : Inv G S P o kp t q im μ) (hk : ∀ S μ, Nx G P o im S μ → X G mi_L (d + 61) n 1741 (lvL b P o i) [] S μ Q) : X G mi_L (d + 61) (32 + n) 825 (lvL b P o i) [] S μ Q := by
  refine X_kc (kd := 0 + n) (by omega) ?_
  refine X_ofH ?_
  refine XH_aload_n (tk_L17.at 0 rfl) rfl ?_
  refine XH_arg (k := 1) (tk_L17.at 1 rfl) (tk_L17.at 2 rfl) (tk_L17.at 3 rfl) (tk_L17.at 4 rfl) (tk_L17.at 5 rfl) rfl hs rfl rfl (by omega) hL ?_
  refine XH_i2l (tk_L17.at 6 rfl) ?_
  refine XH_bipush (v := 32) (tk_L17.at 7 rfl) rfl ?_
  refine XH_lshl (tk_L17.at 8 rfl) ?_
  refine XH_arg (k := 2) (tk_L17.at 9 rfl) (tk_L17.at 10 rfl) (tk_L17.at 11 rfl) (tk_L17.at 12 rfl) (tk_L17.at 13 rfl) rfl hs rfl rfl (by omega) hL ?_
  refine XH_i2l (tk_L17.at 14 rfl) ?_
  refine XH_ldc2 (tk_L17.at 15 rfl) kn_l_85 ?_
  refine XH_land (tk_L17.at 16 rfl) ?_
  refine XH_lor (tk_L17.at 17 rfl) ?_
  generalize eW : (xs (i + 1)).toInt64 <<< _ ||| _ = w
  refine XH_arg (k := 3) (tk_L17.at 18 rfl) (tk_L17.at 19 rfl) (tk_L17.at 20 rfl) (tk_L17.at 21 rfl) (tk_L17.at 22 rfl) rfl hs rfl rfl (by omega) hL ?_
  refine XH_call1 (mj := mi_X9_feed) (As := [.long w, .int (xs (i + 3))]) (rest := []) (kd := 0) (n := n) (o := o) (cj := 10) (rj := rM o) (tk_L17.at 23 rfl) mv_X9_feed lk_l_87 np_X9_feed hI.P0 (by decide) rfl hI.M.f0 rfl (Nat.le_of_ble_eq_true rfl) (Nat.le_of_ble_eq_true rfl) rfl (t_feed (d := d) hI) (fun v S1 μ1 hq => ?_)
  obtain ⟨a1, rfl, hX⟩ := hq
  refine XH_aload_n (tk_L17.at 24 rfl) rfl ?_
  refine XH_arg (k := 1) (tk_L17.at 25 rfl) (tk_L17.at 26 rfl) (tk_L17.at 27 rfl) (tk_L17.at 28 rfl) (tk_L17.at 29 rfl) rfl hs rfl rfl (by omega) hL ?_
  refine XH_i2l (tk_L17.at 30 rfl) ?_
  refine XH_bipush (v := 32) (tk_L17.at 31 rfl) rfl ?_
  refine XH_lshl (tk_L17.at 32 rfl) ?_
  refine XH_arg (k := 2) (tk_L17.at 33 rfl) (tk_L17.at 34 rfl) (tk_L17.at 35 rfl) (tk_L17.at 36 rfl) (tk_L17.at 37 rfl) rfl hs rfl rfl (by omega) hL ?_
  refine XH_i2l (tk_L17.at 38 rfl) ?_
  refine XH_ldc2 (tk_L17.at 39 rfl) kn_l_85 ?_
  refine XH_land (tk_L17.at 40 rfl) ?_
  refine XH_lor (tk_L17.at 41 rfl) ?_
  rw [eW]
  refine XH_arg (k := 3) (tk_L17.at 42 rfl) (tk_L17.at 43 rfl) (tk_L17.at 44 rfl) (tk_L17.at 45 rfl) (tk_L17.at 46 rfl) rfl hs rfl rfl (by omega) hL ?_
  refine XH_call2 (mj := mi_X10_feed) (As := [.long w, .int (xs (i + 3))]) (rest := [.int a1]) (kd := 0) (n := n) (tk_L17.at 47 rfl) mv_X10_feed lk_l_91 np_X10_feed (by decide) rfl rfl (Nat.le_of_ble_eq_true rfl) (Nat.le_of_ble_eq_true rfl) (Nat.zero_add n).symm hX (fun v S2 μ2 hq => ?_)
  obtain ⟨a2, rfl, rfl, hN⟩ := hq
  exact X_icmp_eq (tgt := 1741) (tk_L17.at 48 rfl) (by decide) (fun _ => hk _ _ hN) (fun h => absurd rfl h)
def tb_L18 : List (Nat × Instr × Nat × Nat) := [(888, .aload_n 1, 1, 889), (889, .aload_n 0, 1, 890), (890, .iload_n 3, 1, 891), (891, .iconst 1, 1, 892), (892, .iadd, 1, 893), (893, .iaload, 1, 894), (894, .invokevirtual 92, 3, 897), (897, .aload_n 2, 1, 898), (898, .aload_n 0, 1, 899), (899, .iload_n 3, 1, 900), (900, .iconst 1, 1, 901), (901, .iadd, 1, 902), (902, .iaload, 1, 903), (903, .invokevirtual 95, 3, 906), (906, .if_icmp .eq 835, 3, 909), (909, .iconst 0, 1, 910), (910, .ireturn, 1, 911)]
theorem tk_L18 : Tk code tb_L18 := Tk.of (by decide +kernel)
set_option maxHeartbeats 1000000 in
theorem L_18 {G : Gl} {d n : Nat} {S : Sh} {μ : Mu} {P o t q im b L i fm : Nat} {kp : Option Nat} {xs : Nat → Int32} {Q : Option Value → Sh → Mu → Prop} (hs : Scr G b L xs) (hL : L ≤ 384) (hi : i + 6 ≤ L) (him : im < 2 ^ 30) (hF : Fmt G fm) (hI : Inv G S P o kp t q im μ) (hk : ∀ S μ, Nx G P o im S μ → X G mi_L (d + 61) n 1741 (lvL b P o i) [] S μ Q) : X G mi_L (d + 61) (32 + n) 888 (lvL b P o i) [] S μ Q := by
  refine X_kc (kd := 0 + n) (by omega) ?_
  refine X_ofH ?_
  refine XH_aload_n (tk_L18.at 0 rfl) rfl ?_
  refine XH_arg (k := 1) (tk_L18.at 1 rfl) (tk_L18.at 2 rfl) (tk_L18.at 3 rfl) (tk_L18.at 4 rfl) (tk_L18.at 5 rfl) rfl hs rfl rfl (by omega) hL ?_
  refine XH_call1 (mj := mi_X9_text) (As := [.int (xs (i + 1))]) (rest := []) (kd := 0) (n := n) (o := o) (cj := 10) (rj := rM o) (tk_L18.at 6 rfl) mv_X9_text lk_l_92 np_X9_text hI.P0 (by decide) rfl hI.M.f0 rfl (Nat.le_of_ble_eq_true rfl) (Nat.le_of_ble_eq_true rfl) rfl (t_text (d := d) hF hI) (fun v S1 μ1 hq => ?_)
  obtain ⟨a1, rfl, hX⟩ := hq
  refine XH_aload_n (tk_L18.at 7 rfl) rfl ?_
  refine XH_arg (k := 1) (tk_L18.at 8 rfl) (tk_L18.at 9 rfl) (tk_L18.at 10 rfl) (tk_L18.at 11 rfl) (tk_L18.at 12 rfl) rfl hs rfl rfl (by omega) hL ?_
  refine XH_call2 (mj := mi_X10_text) (As := [.int (xs (i + 1))]) (rest := [.int a1]) (kd := 0) (n := n) (tk_L18.at 13 rfl) mv_X10_text lk_l_95 np_X10_text (by decide) rfl rfl (Nat.le_of_ble_eq_true rfl) (Nat.le_of_ble_eq_true rfl) (Nat.zero_add n).symm hX (fun v S2 μ2 hq => ?_)
  obtain ⟨a2, rfl, rfl, hN⟩ := hq
  exact X_icmp_eq (tgt := 1741) (tk_L18.at 14 rfl) (by decide) (fun _ => hk _ _ hN) (fun h => absurd rfl h)
def tb_L19 : List (Nat × Instr × Nat × Nat) := [(911, .aload_n 1, 1, 912), (912, .aload_n 0, 1, 913), (913, .iload_n 3, 1, 914), (914, .iconst 1, 1, 915), (915, .iadd, 1, 916), (916, .iaload, 1, 917), (917, .aload_n 0, 1, 918), (918, .iload_n 3, 1, 919), (919, .iconst 2, 1, 920), (920, .iadd, 1, 921), (921, .iaload, 1, 922), (922, .aload_n 0, 1, 923), (923, .iload_n 3, 1, 924), (924, .iconst 3, 1, 925), (925, .iadd, 1, 926), (926, .iaload, 1, 927), (927, .aload_n 0, 1, 928), (928, .iload_n 3, 1, 929), (929, .iconst 4, 1, 930), (930, .iadd, 1, 931), (931, .iaload, 1, 932), (932, .aload_n 0, 1, 933), (933, .iload_n 3, 1, 934), (934, .iconst 5, 1, 935), (935, .iadd, 1, 936), (936, .iaload, 1, 937), (937, .invokevirtual 96, 3, 940), (940, .aload_n 2, 1, 941), (941, .aload_n 0, 1, 942), (942, .iload_n 3, 1, 943), (943, .iconst 1, 1, 944), (944, .iadd, 1, 945), (945, .iaload, 1, 946), (946, .aload_n 0, 1, 947), (947, .iload_n 3, 1, 948), (948, .iconst 2, 1, 949), (949, .iadd, 1, 950), (950, .iaload, 1, 951), (951, .aload_n 0, 1, 952), (952, .iload_n 3, 1, 953), (953, .iconst 3, 1, 954), (954, .iadd, 1, 955), (955, .iaload, 1, 956), (956, .aload_n 0, 1, 957), (957, .iload_n 3, 1, 958), (958, .iconst 4, 1, 959), (959, .iadd, 1, 960), (960, .iaload, 1, 961), (961, .aload_n 0, 1, 962), (962, .iload_n 3, 1, 963), (963, .iconst 5, 1, 964), (964, .iadd, 1, 965), (965, .iaload, 1, 966), (966, .invokevirtual 100, 3, 969), (969, .if_icmp .eq 772, 3, 972), (972, .iconst 0, 1, 973), (973, .ireturn, 1, 974)]
theorem tk_L19 : Tk code tb_L19 := Tk.of (by decide +kernel)
set_option maxHeartbeats 1000000 in
theorem L_19 {G : Gl} {d n : Nat} {S : Sh} {μ : Mu} {P o t q im b L i fm : Nat} {kp : Option Nat} {xs : Nat → Int32} {Q : Option Value → Sh → Mu → Prop} (hs : Scr G b L xs) (hL : L ≤ 384) (hi : i + 6 ≤ L) (him : im < 2 ^ 30) (hF : Fmt G fm) (hI : Inv G S P o kp t q im μ) (hk : ∀ S μ, Nx G P o im S μ → X G mi_L (d + 61) n 1741 (lvL b P o i) [] S μ Q) : X G mi_L (d + 61) (32 + n) 911 (lvL b P o i) [] S μ Q := by
  refine X_kc (kd := 0 + n) (by omega) ?_
  refine X_ofH ?_
  refine XH_aload_n (tk_L19.at 0 rfl) rfl ?_
  refine XH_arg (k := 1) (tk_L19.at 1 rfl) (tk_L19.at 2 rfl) (tk_L19.at 3 rfl) (tk_L19.at 4 rfl) (tk_L19.at 5 rfl) rfl hs rfl rfl (by omega) hL ?_
  refine XH_arg (k := 2) (tk_L19.at 6 rfl) (tk_L19.at 7 rfl) (tk_L19.at 8 rfl) (tk_L19.at 9 rfl) (tk_L19.at 10 rfl) rfl hs rfl rfl (by omega) hL ?_
  refine XH_arg (k := 3) (tk_L19.at 11 rfl) (tk_L19.at 12 rfl) (tk_L19.at 13 rfl) (tk_L19.at 14 rfl) (tk_L19.at 15 rfl) rfl hs rfl rfl (by omega) hL ?_
  refine XH_arg (k := 4) (tk_L19.at 16 rfl) (tk_L19.at 17 rfl) (tk_L19.at 18 rfl) (tk_L19.at 19 rfl) (tk_L19.at 20 rfl) rfl hs rfl rfl (by omega) hL ?_
  refine XH_arg (k := 5) (tk_L19.at 21 rfl) (tk_L19.at 22 rfl) (tk_L19.at 23 rfl) (tk_L19.at 24 rfl) (tk_L19.at 25 rfl) rfl hs rfl rfl (by omega) hL ?_
  refine XH_call1 (mj := mi_X9_law) (As := [.int (xs (i + 1)), .int (xs (i + 2)), .int (xs (i + 3)), .int (xs (i + 4)), .int (xs (i + 5))]) (rest := []) (kd := 0) (n := n) (o := o) (cj := 10) (rj := rM o) (tk_L19.at 26 rfl) mv_X9_law lk_l_96 np_X9_law hI.P0 (by decide) rfl hI.M.f0 rfl (Nat.le_of_ble_eq_true rfl) (Nat.le_of_ble_eq_true rfl) rfl (t_law (d := d) hI) (fun v S1 μ1 hq => ?_)
  obtain ⟨a1, rfl, hX⟩ := hq
  refine XH_aload_n (tk_L19.at 27 rfl) rfl ?_
  refine XH_arg (k := 1) (tk_L19.at 28 rfl) (tk_L19.at 29 rfl) (tk_L19.at 30 rfl) (tk_L19.at 31 rfl) (tk_L19.at 32 rfl) rfl hs rfl rfl (by omega) hL ?_
  refine XH_arg (k := 2) (tk_L19.at 33 rfl) (tk_L19.at 34 rfl) (tk_L19.at 35 rfl) (tk_L19.at 36 rfl) (tk_L19.at 37 rfl) rfl hs rfl rfl (by omega) hL ?_
  refine XH_arg (k := 3) (tk_L19.at 38 rfl) (tk_L19.at 39 rfl) (tk_L19.at 40 rfl) (tk_L19.at 41 rfl) (tk_L19.at 42 rfl) rfl hs rfl rfl (by omega) hL ?_
  refine XH_arg (k := 4) (tk_L19.at 43 rfl) (tk_L19.at 44 rfl) (tk_L19.at 45 rfl) (tk_L19.at 46 rfl) (tk_L19.at 47 rfl) rfl hs rfl rfl (by omega) hL ?_
  refine XH_arg (k := 5) (tk_L19.at 48 rfl) (tk_L19.at 49 rfl) (tk_L19.at 50 rfl) (tk_L19.at 51 rfl) (tk_L19.at 52 rfl) rfl hs rfl rfl (by omega) hL ?_
  refine XH_call2 (mj := mi_X10_law) (As := [.int (xs (i + 1)), .int (xs (i + 2)), .int (xs (i + 3)), .int (xs (i + 4)), .int (xs (i + 5))]) (rest := [.int a1]) (kd := 0) (n := n) (tk_L19.at 53 rfl) mv_X10_law lk_l_100 np_X10_law (by decide) rfl rfl (Nat.le_of_ble_eq_true rfl) (Nat.le_of_ble_eq_true rfl) (Nat.zero_add n).symm hX (fun v S2 μ2 hq => ?_)
  obtain ⟨a2, rfl, rfl, hN⟩ := hq
  exact X_icmp_eq (tgt := 1741) (tk_L19.at 54 rfl) (by decide) (fun _ => hk _ _ hN) (fun h => absurd rfl h)
def tb_L20 : List (Nat × Instr × Nat × Nat) := [(974, .aload_n 1, 1, 975), (975, .aload_n 0, 1, 976), (976, .iload_n 3, 1, 977), (977, .iconst 1, 1, 978), (978, .iadd, 1, 979), (979, .iaload, 1, 980), (980, .invokevirtual 101, 3, 983), (983, .aload_n 2, 1, 984), (984, .aload_n 0, 1, 985), (985, .iload_n 3, 1, 986), (986, .iconst 1, 1, 987), (987, .iadd, 1, 988), (988, .iaload, 1, 989), (989, .invokevirtual 104, 3, 992), (992, .if_icmp .eq 749, 3, 995), (995, .iconst 0, 1, 996), (996, .ireturn, 1, 997)]
theorem tk_L20 : Tk code tb_L20 := Tk.of (by decide +kernel)
set_option maxHeartbeats 1000000 in
theorem L_20 {G : Gl} {d n : Nat} {S : Sh} {μ : Mu} {P o t q im b L i fm : Nat} {kp : Option Nat} {xs : Nat → Int32} {Q : Option Value → Sh → Mu → Prop} (hs : Scr G b L xs) (hL : L ≤ 384) (hi : i + 6 ≤ L) (him : im < 2 ^ 30) (hF : Fmt G fm) (hI : Inv G S P o kp t q im μ) (hk : ∀ S μ, Nx G P o im S μ → X G mi_L (d + 61) n 1741 (lvL b P o i) [] S μ Q) : X G mi_L (d + 61) (32 + n) 974 (lvL b P o i) [] S μ Q := by
  refine X_kc (kd := 0 + n) (by omega) ?_
  refine X_ofH ?_
  refine XH_aload_n (tk_L20.at 0 rfl) rfl ?_
  refine XH_arg (k := 1) (tk_L20.at 1 rfl) (tk_L20.at 2 rfl) (tk_L20.at 3 rfl) (tk_L20.at 4 rfl) (tk_L20.at 5 rfl) rfl hs rfl rfl (by omega) hL ?_
  refine XH_call1 (mj := mi_X9_join) (As := [.int (xs (i + 1))]) (rest := []) (kd := 0) (n := n) (o := o) (cj := 10) (rj := rM o) (tk_L20.at 6 rfl) mv_X9_join lk_l_101 np_X9_join hI.P0 (by decide) rfl hI.M.f0 rfl (Nat.le_of_ble_eq_true rfl) (Nat.le_of_ble_eq_true rfl) rfl (t_join (d := d) hI) (fun v S1 μ1 hq => ?_)
  obtain ⟨a1, rfl, hX⟩ := hq
  refine XH_aload_n (tk_L20.at 7 rfl) rfl ?_
  refine XH_arg (k := 1) (tk_L20.at 8 rfl) (tk_L20.at 9 rfl) (tk_L20.at 10 rfl) (tk_L20.at 11 rfl) (tk_L20.at 12 rfl) rfl hs rfl rfl (by omega) hL ?_
  refine XH_call2 (mj := mi_X10_join) (As := [.int (xs (i + 1))]) (rest := [.int a1]) (kd := 0) (n := n) (tk_L20.at 13 rfl) mv_X10_join lk_l_104 np_X10_join (by decide) rfl rfl (Nat.le_of_ble_eq_true rfl) (Nat.le_of_ble_eq_true rfl) (Nat.zero_add n).symm hX (fun v S2 μ2 hq => ?_)
  obtain ⟨a2, rfl, rfl, hN⟩ := hq
  exact X_icmp_eq (tgt := 1741) (tk_L20.at 14 rfl) (by decide) (fun _ => hk _ _ hN) (fun h => absurd rfl h)
def tb_L21 : List (Nat × Instr × Nat × Nat) := [(997, .aload_n 1, 1, 998), (998, .invokevirtual 105, 3, 1001), (1001, .aload_n 2, 1, 1002), (1002, .invokevirtual 109, 3, 1005), (1005, .if_icmp .eq 736, 3, 1008), (1008, .iconst 0, 1, 1009), (1009, .ireturn, 1, 1010)]
theorem tk_L21 : Tk code tb_L21 := Tk.of (by decide +kernel)
set_option maxHeartbeats 1000000 in
theorem L_21 {G : Gl} {d n : Nat} {S : Sh} {μ : Mu} {P o t q im b L i fm : Nat} {kp : Option Nat} {xs : Nat → Int32} {Q : Option Value → Sh → Mu → Prop} (hs : Scr G b L xs) (hL : L ≤ 384) (hi : i + 6 ≤ L) (him : im < 2 ^ 30) (hF : Fmt G fm) (hI : Inv G S P o kp t q im μ) (hk : ∀ S μ, Nx G P o im S μ → X G mi_L (d + 61) n 1741 (lvL b P o i) [] S μ Q) : X G mi_L (d + 61) (32 + n) 997 (lvL b P o i) [] S μ Q := by
  refine X_kc (kd := 0 + n) (by omega) ?_
  refine X_ofH ?_
  refine XH_aload_n (tk_L21.at 0 rfl) rfl ?_
  refine XH_call1 (mj := mi_X9_clear) (As := []) (rest := []) (kd := 0) (n := n) (o := o) (cj := 10) (rj := rM o) (tk_L21.at 1 rfl) mv_X9_clear lk_l_105 np_X9_clear hI.P0 (by decide) rfl hI.M.f0 rfl (Nat.le_of_ble_eq_true rfl) (Nat.le_of_ble_eq_true rfl) rfl (t_clear (d := d) hI) (fun v S1 μ1 hq => ?_)
  obtain ⟨a1, rfl, hX⟩ := hq
  refine XH_aload_n (tk_L21.at 2 rfl) rfl ?_
  refine XH_call2 (mj := mi_X10_clear) (As := []) (rest := [.int a1]) (kd := 0) (n := n) (tk_L21.at 3 rfl) mv_X10_clear lk_l_109 np_X10_clear (by decide) rfl rfl (Nat.le_of_ble_eq_true rfl) (Nat.le_of_ble_eq_true rfl) (Nat.zero_add n).symm hX (fun v S2 μ2 hq => ?_)
  obtain ⟨a2, rfl, rfl, hN⟩ := hq
  exact X_icmp_eq (tgt := 1741) (tk_L21.at 4 rfl) (by decide) (fun _ => hk _ _ hN) (fun h => absurd rfl h)
def tb_L22 : List (Nat × Instr × Nat × Nat) := [(1010, .aload_n 1, 1, 1011), (1011, .aload_n 0, 1, 1012), (1012, .iload_n 3, 1, 1013), (1013, .iconst 1, 1, 1014), (1014, .iadd, 1, 1015), (1015, .iaload, 1, 1016), (1016, .aload_n 0, 1, 1017), (1017, .iload_n 3, 1, 1018), (1018, .iconst 2, 1, 1019), (1019, .iadd, 1, 1020), (1020, .iaload, 1, 1021), (1021, .aload_n 0, 1, 1022), (1022, .iload_n 3, 1, 1023), (1023, .iconst 3, 1, 1024), (1024, .iadd, 1, 1025), (1025, .iaload, 1, 1026), (1026, .invokevirtual 110, 3, 1029), (1029, .aload_n 2, 1, 1030), (1030, .aload_n 0, 1, 1031), (1031, .iload_n 3, 1, 1032), (1032, .iconst 1, 1, 1033), (1033, .iadd, 1, 1034), (1034, .iaload, 1, 1035), (1035, .aload_n 0, 1, 1036), (1036, .iload_n 3, 1, 1037), (1037, .iconst 2, 1, 1038), (1038, .iadd, 1, 1039), (1039, .iaload, 1, 1040), (1040, .aload_n 0, 1, 1041), (1041, .iload_n 3, 1, 1042), (1042, .iconst 3, 1, 1043), (1043, .iadd, 1, 1044), (1044, .iaload, 1, 1045), (1045, .invokevirtual 113, 3, 1048), (1048, .if_icmp .eq 693, 3, 1051), (1051, .iconst 0, 1, 1052), (1052, .ireturn, 1, 1053)]
theorem tk_L22 : Tk code tb_L22 := Tk.of (by decide +kernel)
set_option maxHeartbeats 1000000 in
theorem L_22 {G : Gl} {d n : Nat} {S : Sh} {μ : Mu} {P o t q im b L i fm : Nat} {kp : Option Nat} {xs : Nat → Int32} {Q : Option Value → Sh → Mu → Prop} (hs : Scr G b L xs) (hL : L ≤ 384) (hi : i + 6 ≤ L) (him : im < 2 ^ 30) (hF : Fmt G fm) (hI : Inv G S P o kp t q im μ) (hk : ∀ S μ, Nx G P o im S μ → X G mi_L (d + 61) n 1741 (lvL b P o i) [] S μ Q) : X G mi_L (d + 61) (32 + n) 1010 (lvL b P o i) [] S μ Q := by
  refine X_kc (kd := 0 + n) (by omega) ?_
  refine X_ofH ?_
  refine XH_aload_n (tk_L22.at 0 rfl) rfl ?_
  refine XH_arg (k := 1) (tk_L22.at 1 rfl) (tk_L22.at 2 rfl) (tk_L22.at 3 rfl) (tk_L22.at 4 rfl) (tk_L22.at 5 rfl) rfl hs rfl rfl (by omega) hL ?_
  refine XH_arg (k := 2) (tk_L22.at 6 rfl) (tk_L22.at 7 rfl) (tk_L22.at 8 rfl) (tk_L22.at 9 rfl) (tk_L22.at 10 rfl) rfl hs rfl rfl (by omega) hL ?_
  refine XH_arg (k := 3) (tk_L22.at 11 rfl) (tk_L22.at 12 rfl) (tk_L22.at 13 rfl) (tk_L22.at 14 rfl) (tk_L22.at 15 rfl) rfl hs rfl rfl (by omega) hL ?_
  refine XH_call1 (mj := mi_X9_when) (As := [.int (xs (i + 1)), .int (xs (i + 2)), .int (xs (i + 3))]) (rest := []) (kd := 0) (n := n) (o := o) (cj := 10) (rj := rM o) (tk_L22.at 16 rfl) mv_X9_when lk_l_110 np_X9_when hI.P0 (by decide) rfl hI.M.f0 rfl (Nat.le_of_ble_eq_true rfl) (Nat.le_of_ble_eq_true rfl) rfl (t_when (d := d) hI) (fun v S1 μ1 hq => ?_)
  obtain ⟨a1, rfl, hX⟩ := hq
  refine XH_aload_n (tk_L22.at 17 rfl) rfl ?_
  refine XH_arg (k := 1) (tk_L22.at 18 rfl) (tk_L22.at 19 rfl) (tk_L22.at 20 rfl) (tk_L22.at 21 rfl) (tk_L22.at 22 rfl) rfl hs rfl rfl (by omega) hL ?_
  refine XH_arg (k := 2) (tk_L22.at 23 rfl) (tk_L22.at 24 rfl) (tk_L22.at 25 rfl) (tk_L22.at 26 rfl) (tk_L22.at 27 rfl) rfl hs rfl rfl (by omega) hL ?_
  refine XH_arg (k := 3) (tk_L22.at 28 rfl) (tk_L22.at 29 rfl) (tk_L22.at 30 rfl) (tk_L22.at 31 rfl) (tk_L22.at 32 rfl) rfl hs rfl rfl (by omega) hL ?_
  refine XH_call2 (mj := mi_X10_when) (As := [.int (xs (i + 1)), .int (xs (i + 2)), .int (xs (i + 3))]) (rest := [.int a1]) (kd := 0) (n := n) (tk_L22.at 33 rfl) mv_X10_when lk_l_113 np_X10_when (by decide) rfl rfl (Nat.le_of_ble_eq_true rfl) (Nat.le_of_ble_eq_true rfl) (Nat.zero_add n).symm hX (fun v S2 μ2 hq => ?_)
  obtain ⟨a2, rfl, rfl, hN⟩ := hq
  exact X_icmp_eq (tgt := 1741) (tk_L22.at 34 rfl) (by decide) (fun _ => hk _ _ hN) (fun h => absurd rfl h)
def tb_L23 : List (Nat × Instr × Nat × Nat) := [(1053, .aload_n 1, 1, 1054), (1054, .aload_n 0, 1, 1055), (1055, .iload_n 3, 1, 1056), (1056, .iconst 1, 1, 1057), (1057, .iadd, 1, 1058), (1058, .iaload, 1, 1059), (1059, .aload_n 0, 1, 1060), (1060, .iload_n 3, 1, 1061), (1061, .iconst 2, 1, 1062), (1062, .iadd, 1, 1063), (1063, .iaload, 1, 1064), (1064, .invokevirtual 114, 3, 1067), (1067, .aload_n 2, 1, 1068), (1068, .aload_n 0, 1, 1069), (1069, .iload_n 3, 1, 1070), (1070, .iconst 1, 1, 1071), (1071, .iadd, 1, 1072), (1072, .iaload, 1, 1073), (1073, .aload_n 0, 1, 1074), (1074, .iload_n 3, 1, 1075), (1075, .iconst 2, 1, 1076), (1076, .iadd, 1, 1077), (1077, .iaload, 1, 1078), (1078, .invokevirtual 117, 3, 1081), (1081, .if_icmp .eq 660, 3, 1084), (1084, .iconst 0, 1, 1085), (1085, .ireturn, 1, 1086)]
theorem tk_L23 : Tk code tb_L23 := Tk.of (by decide +kernel)
set_option maxHeartbeats 1000000 in
theorem L_23 {G : Gl} {d n : Nat} {S : Sh} {μ : Mu} {P o t q im b L i fm : Nat} {kp : Option Nat} {xs : Nat → Int32} {Q : Option Value → Sh → Mu → Prop} (hs : Scr G b L xs) (hL : L ≤ 384) (hi : i + 6 ≤ L) (him : im < 2 ^ 30) (hF : Fmt G fm) (hI : Inv G S P o kp t q im μ) (hk : ∀ S μ, Nx G P o im S μ → X G mi_L (d + 61) n 1741 (lvL b P o i) [] S μ Q) : X G mi_L (d + 61) (32 + n) 1053 (lvL b P o i) [] S μ Q := by
  refine X_kc (kd := 0 + n) (by omega) ?_
  refine X_ofH ?_
  refine XH_aload_n (tk_L23.at 0 rfl) rfl ?_
  refine XH_arg (k := 1) (tk_L23.at 1 rfl) (tk_L23.at 2 rfl) (tk_L23.at 3 rfl) (tk_L23.at 4 rfl) (tk_L23.at 5 rfl) rfl hs rfl rfl (by omega) hL ?_
  refine XH_arg (k := 2) (tk_L23.at 6 rfl) (tk_L23.at 7 rfl) (tk_L23.at 8 rfl) (tk_L23.at 9 rfl) (tk_L23.at 10 rfl) rfl hs rfl rfl (by omega) hL ?_
  refine XH_call1 (mj := mi_X9_risk) (As := [.int (xs (i + 1)), .int (xs (i + 2))]) (rest := []) (kd := 0) (n := n) (o := o) (cj := 10) (rj := rM o) (tk_L23.at 11 rfl) mv_X9_risk lk_l_114 np_X9_risk hI.P0 (by decide) rfl hI.M.f0 rfl (Nat.le_of_ble_eq_true rfl) (Nat.le_of_ble_eq_true rfl) rfl (t_risk (d := d) hI) (fun v S1 μ1 hq => ?_)
  obtain ⟨a1, rfl, hX⟩ := hq
  refine XH_aload_n (tk_L23.at 12 rfl) rfl ?_
  refine XH_arg (k := 1) (tk_L23.at 13 rfl) (tk_L23.at 14 rfl) (tk_L23.at 15 rfl) (tk_L23.at 16 rfl) (tk_L23.at 17 rfl) rfl hs rfl rfl (by omega) hL ?_
  refine XH_arg (k := 2) (tk_L23.at 18 rfl) (tk_L23.at 19 rfl) (tk_L23.at 20 rfl) (tk_L23.at 21 rfl) (tk_L23.at 22 rfl) rfl hs rfl rfl (by omega) hL ?_
  refine XH_call2 (mj := mi_X10_risk) (As := [.int (xs (i + 1)), .int (xs (i + 2))]) (rest := [.int a1]) (kd := 0) (n := n) (tk_L23.at 23 rfl) mv_X10_risk lk_l_117 np_X10_risk (by decide) rfl rfl (Nat.le_of_ble_eq_true rfl) (Nat.le_of_ble_eq_true rfl) (Nat.zero_add n).symm hX (fun v S2 μ2 hq => ?_)
  obtain ⟨a2, rfl, rfl, hN⟩ := hq
  exact X_icmp_eq (tgt := 1741) (tk_L23.at 24 rfl) (by decide) (fun _ => hk _ _ hN) (fun h => absurd rfl h)
def tb_L24 : List (Nat × Instr × Nat × Nat) := [(1086, .aload_n 1, 1, 1087), (1087, .invokevirtual 118, 3, 1090), (1090, .aload_n 2, 1, 1091), (1091, .invokevirtual 121, 3, 1094), (1094, .if_icmp .eq 647, 3, 1097), (1097, .iconst 0, 1, 1098), (1098, .ireturn, 1, 1099)]
theorem tk_L24 : Tk code tb_L24 := Tk.of (by decide +kernel)
set_option maxHeartbeats 1000000 in
theorem L_24 {G : Gl} {d n : Nat} {S : Sh} {μ : Mu} {P o t q im b L i fm : Nat} {kp : Option Nat} {xs : Nat → Int32} {Q : Option Value → Sh → Mu → Prop} (hs : Scr G b L xs) (hL : L ≤ 384) (hi : i + 6 ≤ L) (him : im < 2 ^ 30) (hF : Fmt G fm) (hI : Inv G S P o kp t q im μ) (hk : ∀ S μ, Nx G P o im S μ → X G mi_L (d + 61) n 1741 (lvL b P o i) [] S μ Q) : X G mi_L (d + 61) (32 + n) 1086 (lvL b P o i) [] S μ Q := by
  refine X_kc (kd := 0 + n) (by omega) ?_
  refine X_ofH ?_
  refine XH_aload_n (tk_L24.at 0 rfl) rfl ?_
  refine XH_call1 (mj := mi_X9_over) (As := []) (rest := []) (kd := 0) (n := n) (o := o) (cj := 10) (rj := rM o) (tk_L24.at 1 rfl) mv_X9_over lk_l_118 np_X9_over hI.P0 (by decide) rfl hI.M.f0 rfl (Nat.le_of_ble_eq_true rfl) (Nat.le_of_ble_eq_true rfl) rfl (t_over (d := d) hI) (fun v S1 μ1 hq => ?_)
  obtain ⟨a1, rfl, hX⟩ := hq
  refine XH_aload_n (tk_L24.at 2 rfl) rfl ?_
  refine XH_call2 (mj := mi_X10_over) (As := []) (rest := [.int a1]) (kd := 0) (n := n) (tk_L24.at 3 rfl) mv_X10_over lk_l_121 np_X10_over (by decide) rfl rfl (Nat.le_of_ble_eq_true rfl) (Nat.le_of_ble_eq_true rfl) (Nat.zero_add n).symm hX (fun v S2 μ2 hq => ?_)
  obtain ⟨a2, rfl, rfl, hN⟩ := hq
  exact X_icmp_eq (tgt := 1741) (tk_L24.at 4 rfl) (by decide) (fun _ => hk _ _ hN) (fun h => absurd rfl h)
