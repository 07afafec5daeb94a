section
-- ===== PART A: goes FIRST, ahead of the names: the tables' words, and 'selects' of the private methods out of them =====
/-- a private method of a class that the tables say can be made, by its rows of tables_1 -/
def lw_okq (q : MethodName × Nat) : Prop := (q.1.cls ≠ "java/lang/invoke/MethodHandle" ∧ q.1.cls ≠ "java/lang/invoke/VarHandle") ∧ Cond.instantiable q.1.cls q.2 ∈ tables_1 ∧ Cond.privateMethod q.1 ∈ tables_1 ∧ Cond.instanceMethod q.1 ∈ tables_1
theorem lw_p0 : lw_okq (⟨"RopesAtDawn", "newFour", "(LRopesAtDawn$Fours;IIII)I"⟩, 9) := ⟨⟨by decide +kernel, by decide +kernel⟩, List.mem_of_getElem? (i := 22) (by decide +kernel), List.mem_of_getElem? (i := 304) (by decide +kernel), List.mem_of_getElem? (i := 305) (by decide +kernel)⟩
theorem lw_p1 : lw_okq (⟨"RopesAtDawn", "fail", "(I)I"⟩, 9) := ⟨⟨by decide +kernel, by decide +kernel⟩, List.mem_of_getElem? (i := 22) (by decide +kernel), List.mem_of_getElem? (i := 317) (by decide +kernel), List.mem_of_getElem? (i := 318) (by decide +kernel)⟩
theorem lw_p2 : lw_okq (⟨"RopesAtDawn", "sheetOf", "(I)LRopesAtDawn$Sheet;"⟩, 9) := ⟨⟨by decide +kernel, by decide +kernel⟩, List.mem_of_getElem? (i := 22) (by decide +kernel), List.mem_of_getElem? (i := 374) (by decide +kernel), List.mem_of_getElem? (i := 375) (by decide +kernel)⟩
theorem lw_p3 : lw_okq (⟨"RopesAtDawn$Dawn", "gripAt", "(III)I"⟩, 12) := ⟨⟨by decide +kernel, by decide +kernel⟩, List.mem_of_getElem? (i := 30) (by decide +kernel), List.mem_of_getElem? (i := 481) (by decide +kernel), List.mem_of_getElem? (i := 482) (by decide +kernel)⟩
theorem lw_p4 : lw_okq (⟨"RopesAtDawn", "errorOnRope", "(II)I"⟩, 9) := ⟨⟨by decide +kernel, by decide +kernel⟩, List.mem_of_getElem? (i := 22) (by decide +kernel), List.mem_of_getElem? (i := 492) (by decide +kernel), List.mem_of_getElem? (i := 493) (by decide +kernel)⟩
theorem lw_p5 : lw_okq (⟨"RopesAtDawn$Reckoner", "valueOf", "(LRopesAtDawn$Row;)I"⟩, 2) := ⟨⟨by decide +kernel, by decide +kernel⟩, List.mem_of_getElem? (i := 145) (by decide +kernel), List.mem_of_getElem? (i := 530) (by decide +kernel), List.mem_of_getElem? (i := 531) (by decide +kernel)⟩
theorem lw_p6 : lw_okq (⟨"RopesAtDawn$Reader", "readLevel", "(II)V"⟩, 5) := ⟨⟨by decide +kernel, by decide +kernel⟩, List.mem_of_getElem? (i := 205) (by decide +kernel), List.mem_of_getElem? (i := 563) (by decide +kernel), List.mem_of_getElem? (i := 564) (by decide +kernel)⟩
theorem lw_p7 : lw_okq (⟨"RopesAtDawn$Reader", "readFactor", "(I)V"⟩, 5) := ⟨⟨by decide +kernel, by decide +kernel⟩, List.mem_of_getElem? (i := 205) (by decide +kernel), List.mem_of_getElem? (i := 567) (by decide +kernel), List.mem_of_getElem? (i := 568) (by decide +kernel)⟩
theorem lw_p8 : lw_okq (⟨"RopesAtDawn$Reader", "readNumber", "()V"⟩, 5) := ⟨⟨by decide +kernel, by decide +kernel⟩, List.mem_of_getElem? (i := 205) (by decide +kernel), List.mem_of_getElem? (i := 575) (by decide +kernel), List.mem_of_getElem? (i := 576) (by decide +kernel)⟩
theorem lw_p9 : lw_okq (⟨"RopesAtDawn$Reader", "readOpened", "(II)V"⟩, 5) := ⟨⟨by decide +kernel, by decide +kernel⟩, List.mem_of_getElem? (i := 205) (by decide +kernel), List.mem_of_getElem? (i := 662) (by decide +kernel), List.mem_of_getElem? (i := 663) (by decide +kernel)⟩
theorem lw_p10 : lw_okq (⟨"RopesAtDawn$Crossing", "crossOne", "(LRopesAtDawn$Dawn;II)I"⟩, 4) := ⟨⟨by decide +kernel, by decide +kernel⟩, List.mem_of_getElem? (i := 139) (by decide +kernel), List.mem_of_getElem? (i := 706) (by decide +kernel), List.mem_of_getElem? (i := 707) (by decide +kernel)⟩
theorem lw_p11 : lw_okq (⟨"RopesAtDawn$Crossing", "tollAt", "(LRopesAtDawn$Dawn;III)I"⟩, 4) := ⟨⟨by decide +kernel, by decide +kernel⟩, List.mem_of_getElem? (i := 139) (by decide +kernel), List.mem_of_getElem? (i := 758) (by decide +kernel), List.mem_of_getElem? (i := 759) (by decide +kernel)⟩
theorem lw_p12 : lw_okq (⟨"RopesAtDawn$Chooser", "begin", "(LRopesAtDawn$Dawn;)V"⟩, 5) := ⟨⟨by decide +kernel, by decide +kernel⟩, List.mem_of_getElem? (i := 174) (by decide +kernel), List.mem_of_getElem? (i := 774) (by decide +kernel), List.mem_of_getElem? (i := 775) (by decide +kernel)⟩
theorem lw_p13 : lw_okq (⟨"RopesAtDawn$Chooser", "weigh", "(II)V"⟩, 5) := ⟨⟨by decide +kernel, by decide +kernel⟩, List.mem_of_getElem? (i := 174) (by decide +kernel), List.mem_of_getElem? (i := 814) (by decide +kernel), List.mem_of_getElem? (i := 815) (by decide +kernel)⟩
theorem lw_p14 : lw_okq (⟨"RopesAtDawn", "runMorning", "()I"⟩, 9) := ⟨⟨by decide +kernel, by decide +kernel⟩, List.mem_of_getElem? (i := 22) (by decide +kernel), List.mem_of_getElem? (i := 899) (by decide +kernel), List.mem_of_getElem? (i := 900) (by decide +kernel)⟩
theorem lw_p15 : lw_okq (⟨"RopesAtDawn", "lostOn", "(II)I"⟩, 9) := ⟨⟨by decide +kernel, by decide +kernel⟩, List.mem_of_getElem? (i := 22) (by decide +kernel), List.mem_of_getElem? (i := 903) (by decide +kernel), List.mem_of_getElem? (i := 904) (by decide +kernel)⟩
def lw_privs_1 : List (MethodName × Nat) := [(⟨"RopesAtDawn", "newFour", "(LRopesAtDawn$Fours;IIII)I"⟩, 9), (⟨"RopesAtDawn", "fail", "(I)I"⟩, 9), (⟨"RopesAtDawn", "sheetOf", "(I)LRopesAtDawn$Sheet;"⟩, 9), (⟨"RopesAtDawn$Dawn", "gripAt", "(III)I"⟩, 12), (⟨"RopesAtDawn", "errorOnRope", "(II)I"⟩, 9), (⟨"RopesAtDawn$Reckoner", "valueOf", "(LRopesAtDawn$Row;)I"⟩, 2), (⟨"RopesAtDawn$Reader", "readLevel", "(II)V"⟩, 5), (⟨"RopesAtDawn$Reader", "readFactor", "(I)V"⟩, 5), (⟨"RopesAtDawn$Reader", "readNumber", "()V"⟩, 5), (⟨"RopesAtDawn$Reader", "readOpened", "(II)V"⟩, 5), (⟨"RopesAtDawn$Crossing", "crossOne", "(LRopesAtDawn$Dawn;II)I"⟩, 4), (⟨"RopesAtDawn$Crossing", "tollAt", "(LRopesAtDawn$Dawn;III)I"⟩, 4), (⟨"RopesAtDawn$Chooser", "begin", "(LRopesAtDawn$Dawn;)V"⟩, 5), (⟨"RopesAtDawn$Chooser", "weigh", "(II)V"⟩, 5), (⟨"RopesAtDawn", "runMorning", "()I"⟩, 9), (⟨"RopesAtDawn", "lostOn", "(II)I"⟩, 9)]
theorem lw_r1 : ∀ q ∈ lw_privs_1, lw_okq q := List.forall_mem_cons.mpr ⟨lw_p0, List.forall_mem_cons.mpr ⟨lw_p1, List.forall_mem_cons.mpr ⟨lw_p2, List.forall_mem_cons.mpr ⟨lw_p3, List.forall_mem_cons.mpr ⟨lw_p4, List.forall_mem_cons.mpr ⟨lw_p5, List.forall_mem_cons.mpr ⟨lw_p6, List.forall_mem_cons.mpr ⟨lw_p7, List.forall_mem_cons.mpr ⟨lw_p8, List.forall_mem_cons.mpr ⟨lw_p9, List.forall_mem_cons.mpr ⟨lw_p10, List.forall_mem_cons.mpr ⟨lw_p11, List.forall_mem_cons.mpr ⟨lw_p12, List.forall_mem_cons.mpr ⟨lw_p13, List.forall_mem_cons.mpr ⟨lw_p14, List.forall_mem_cons.mpr ⟨lw_p15, fun _ h => absurd h List.not_mem_nil⟩⟩⟩⟩⟩⟩⟩⟩⟩⟩⟩⟩⟩⟩⟩⟩
theorem lw_p16 : lw_okq (⟨"RopesAtDawn$Voices", "say", "(IIII)I"⟩, 4) := ⟨⟨by decide +kernel, by decide +kernel⟩, List.mem_of_getElem? (i := 232) (by decide +kernel), List.mem_of_getElem? (i := 932) (by decide +kernel), List.mem_of_getElem? (i := 933) (by decide +kernel)⟩
theorem lw_p17 : lw_okq (⟨"RopesAtDawn", "placeOfWrong", "()I"⟩, 9) := ⟨⟨by decide +kernel, by decide +kernel⟩, List.mem_of_getElem? (i := 22) (by decide +kernel), List.mem_of_getElem? (i := 1002) (by decide +kernel), List.mem_of_getElem? (i := 1003) (by decide +kernel)⟩
theorem lw_p18 : lw_okq (⟨"RopesAtDawnModel", "finding", "(I)I"⟩, 28) := ⟨⟨by decide +kernel, by decide +kernel⟩, List.mem_of_getElem? (i := 1014) (by decide +kernel), List.mem_of_getElem? (i := 1120) (by decide +kernel), List.mem_of_getElem? (i := 1121) (by decide +kernel)⟩
theorem lw_p19 : lw_okq (⟨"RopesAtDawnModel", "comes", "(IIII)V"⟩, 28) := ⟨⟨by decide +kernel, by decide +kernel⟩, List.mem_of_getElem? (i := 1014) (by decide +kernel), List.mem_of_getElem? (i := 1126) (by decide +kernel), List.mem_of_getElem? (i := 1127) (by decide +kernel)⟩
theorem lw_p20 : lw_okq (⟨"RopesAtDawnModel", "is", "(II)Z"⟩, 28) := ⟨⟨by decide +kernel, by decide +kernel⟩, List.mem_of_getElem? (i := 1014) (by decide +kernel), List.mem_of_getElem? (i := 1134) (by decide +kernel), List.mem_of_getElem? (i := 1135) (by decide +kernel)⟩
theorem lw_p21 : lw_okq (⟨"RopesAtDawnModel", "of", "(II)I"⟩, 28) := ⟨⟨by decide +kernel, by decide +kernel⟩, List.mem_of_getElem? (i := 1014) (by decide +kernel), List.mem_of_getElem? (i := 1138) (by decide +kernel), List.mem_of_getElem? (i := 1139) (by decide +kernel)⟩
theorem lw_p22 : lw_okq (⟨"RopesAtDawnModel", "ropeOf", "(I)I"⟩, 28) := ⟨⟨by decide +kernel, by decide +kernel⟩, List.mem_of_getElem? (i := 1014) (by decide +kernel), List.mem_of_getElem? (i := 1142) (by decide +kernel), List.mem_of_getElem? (i := 1143) (by decide +kernel)⟩
theorem lw_p23 : lw_okq (⟨"RopesAtDawnModel", "many", "(I)I"⟩, 28) := ⟨⟨by decide +kernel, by decide +kernel⟩, List.mem_of_getElem? (i := 1014) (by decide +kernel), List.mem_of_getElem? (i := 1146) (by decide +kernel), List.mem_of_getElem? (i := 1147) (by decide +kernel)⟩
theorem lw_p24 : lw_okq (⟨"RopesAtDawnModel", "rope", "(II)I"⟩, 28) := ⟨⟨by decide +kernel, by decide +kernel⟩, List.mem_of_getElem? (i := 1014) (by decide +kernel), List.mem_of_getElem? (i := 1150) (by decide +kernel), List.mem_of_getElem? (i := 1151) (by decide +kernel)⟩
theorem lw_p25 : lw_okq (⟨"RopesAtDawnModel", "who", "(II)I"⟩, 28) := ⟨⟨by decide +kernel, by decide +kernel⟩, List.mem_of_getElem? (i := 1014) (by decide +kernel), List.mem_of_getElem? (i := 1154) (by decide +kernel), List.mem_of_getElem? (i := 1155) (by decide +kernel)⟩
theorem lw_p26 : lw_okq (⟨"RopesAtDawnModel", "placeOf", "(I)I"⟩, 28) := ⟨⟨by decide +kernel, by decide +kernel⟩, List.mem_of_getElem? (i := 1014) (by decide +kernel), List.mem_of_getElem? (i := 1158) (by decide +kernel), List.mem_of_getElem? (i := 1159) (by decide +kernel)⟩
theorem lw_p27 : lw_okq (⟨"RopesAtDawnModel", "ofPieceAt", "(II)I"⟩, 28) := ⟨⟨by decide +kernel, by decide +kernel⟩, List.mem_of_getElem? (i := 1014) (by decide +kernel), List.mem_of_getElem? (i := 1178) (by decide +kernel), List.mem_of_getElem? (i := 1179) (by decide +kernel)⟩
theorem lw_p28 : lw_okq (⟨"RopesAtDawnModel", "become", "(II)I"⟩, 28) := ⟨⟨by decide +kernel, by decide +kernel⟩, List.mem_of_getElem? (i := 1014) (by decide +kernel), List.mem_of_getElem? (i := 1186) (by decide +kernel), List.mem_of_getElem? (i := 1187) (by decide +kernel)⟩
theorem lw_p29 : lw_okq (⟨"RopesAtDawnModel", "ties", "(III)V"⟩, 28) := ⟨⟨by decide +kernel, by decide +kernel⟩, List.mem_of_getElem? (i := 1014) (by decide +kernel), List.mem_of_getElem? (i := 1202) (by decide +kernel), List.mem_of_getElem? (i := 1203) (by decide +kernel)⟩
theorem lw_p30 : lw_okq (⟨"RopesAtDawnModel", "seats", "(III)V"⟩, 28) := ⟨⟨by decide +kernel, by decide +kernel⟩, List.mem_of_getElem? (i := 1014) (by decide +kernel), List.mem_of_getElem? (i := 1206) (by decide +kernel), List.mem_of_getElem? (i := 1207) (by decide +kernel)⟩
theorem lw_p31 : lw_okq (⟨"RopesAtDawnModel", "unties", "(I)V"⟩, 28) := ⟨⟨by decide +kernel, by decide +kernel⟩, List.mem_of_getElem? (i := 1014) (by decide +kernel), List.mem_of_getElem? (i := 1214) (by decide +kernel), List.mem_of_getElem? (i := 1215) (by decide +kernel)⟩
def lw_privs_2 : List (MethodName × Nat) := [(⟨"RopesAtDawn$Voices", "say", "(IIII)I"⟩, 4), (⟨"RopesAtDawn", "placeOfWrong", "()I"⟩, 9), (⟨"RopesAtDawnModel", "finding", "(I)I"⟩, 28), (⟨"RopesAtDawnModel", "comes", "(IIII)V"⟩, 28), (⟨"RopesAtDawnModel", "is", "(II)Z"⟩, 28), (⟨"RopesAtDawnModel", "of", "(II)I"⟩, 28), (⟨"RopesAtDawnModel", "ropeOf", "(I)I"⟩, 28), (⟨"RopesAtDawnModel", "many", "(I)I"⟩, 28), (⟨"RopesAtDawnModel", "rope", "(II)I"⟩, 28), (⟨"RopesAtDawnModel", "who", "(II)I"⟩, 28), (⟨"RopesAtDawnModel", "placeOf", "(I)I"⟩, 28), (⟨"RopesAtDawnModel", "ofPieceAt", "(II)I"⟩, 28), (⟨"RopesAtDawnModel", "become", "(II)I"⟩, 28), (⟨"RopesAtDawnModel", "ties", "(III)V"⟩, 28), (⟨"RopesAtDawnModel", "seats", "(III)V"⟩, 28), (⟨"RopesAtDawnModel", "unties", "(I)V"⟩, 28)]
theorem lw_r2 : ∀ q ∈ lw_privs_2, lw_okq q := List.forall_mem_cons.mpr ⟨lw_p16, List.forall_mem_cons.mpr ⟨lw_p17, List.forall_mem_cons.mpr ⟨lw_p18, List.forall_mem_cons.mpr ⟨lw_p19, List.forall_mem_cons.mpr ⟨lw_p20, List.forall_mem_cons.mpr ⟨lw_p21, List.forall_mem_cons.mpr ⟨lw_p22, List.forall_mem_cons.mpr ⟨lw_p23, List.forall_mem_cons.mpr ⟨lw_p24, List.forall_mem_cons.mpr ⟨lw_p25, List.forall_mem_cons.mpr ⟨lw_p26, List.forall_mem_cons.mpr ⟨lw_p27, List.forall_mem_cons.mpr ⟨lw_p28, List.forall_mem_cons.mpr ⟨lw_p29, List.forall_mem_cons.mpr ⟨lw_p30, List.forall_mem_cons.mpr ⟨lw_p31, fun _ h => absurd h List.not_mem_nil⟩⟩⟩⟩⟩⟩⟩⟩⟩⟩⟩⟩⟩⟩⟩⟩
theorem lw_p32 : lw_okq (⟨"RopesAtDawnModel", "inLine", "(I)I"⟩, 28) := ⟨⟨by decide +kernel, by decide +kernel⟩, List.mem_of_getElem? (i := 1014) (by decide +kernel), List.mem_of_getElem? (i := 1222) (by decide +kernel), List.mem_of_getElem? (i := 1223) (by decide +kernel)⟩
theorem lw_p33 : lw_okq (⟨"RopesAtDawnModel", "holdOf", "(II)I"⟩, 28) := ⟨⟨by decide +kernel, by decide +kernel⟩, List.mem_of_getElem? (i := 1014) (by decide +kernel), List.mem_of_getElem? (i := 1246) (by decide +kernel), List.mem_of_getElem? (i := 1247) (by decide +kernel)⟩
theorem lw_p34 : lw_okq (⟨"RopesAtDawnModel", "gripOf", "(III)I"⟩, 28) := ⟨⟨by decide +kernel, by decide +kernel⟩, List.mem_of_getElem? (i := 1014) (by decide +kernel), List.mem_of_getElem? (i := 1253) (by decide +kernel), List.mem_of_getElem? (i := 1254) (by decide +kernel)⟩
theorem lw_p35 : lw_okq (⟨"RopesAtDawnModel", "place", "(II)I"⟩, 28) := ⟨⟨by decide +kernel, by decide +kernel⟩, List.mem_of_getElem? (i := 1014) (by decide +kernel), List.mem_of_getElem? (i := 1257) (by decide +kernel), List.mem_of_getElem? (i := 1258) (by decide +kernel)⟩
theorem lw_p36 : lw_okq (⟨"RopesAtDawnModel", "isLast", "(II)Z"⟩, 28) := ⟨⟨by decide +kernel, by decide +kernel⟩, List.mem_of_getElem? (i := 1014) (by decide +kernel), List.mem_of_getElem? (i := 1262) (by decide +kernel), List.mem_of_getElem? (i := 1263) (by decide +kernel)⟩
theorem lw_p37 : lw_okq (⟨"RopesAtDawnModel", "isHeld", "(III)Z"⟩, 28) := ⟨⟨by decide +kernel, by decide +kernel⟩, List.mem_of_getElem? (i := 1014) (by decide +kernel), List.mem_of_getElem? (i := 1271) (by decide +kernel), List.mem_of_getElem? (i := 1272) (by decide +kernel)⟩
theorem lw_p38 : lw_okq (⟨"RopesAtDawnModel", "costOf", "(III)I"⟩, 28) := ⟨⟨by decide +kernel, by decide +kernel⟩, List.mem_of_getElem? (i := 1014) (by decide +kernel), List.mem_of_getElem? (i := 1279) (by decide +kernel), List.mem_of_getElem? (i := 1280) (by decide +kernel)⟩
theorem lw_p39 : lw_okq (⟨"RopesAtDawnModel", "given", "(IIIIII)I"⟩, 28) := ⟨⟨by decide +kernel, by decide +kernel⟩, List.mem_of_getElem? (i := 1014) (by decide +kernel), List.mem_of_getElem? (i := 1287) (by decide +kernel), List.mem_of_getElem? (i := 1288) (by decide +kernel)⟩
theorem lw_p40 : lw_okq (⟨"RopesAtDawnModel", "worked", "(I)I"⟩, 28) := ⟨⟨by decide +kernel, by decide +kernel⟩, List.mem_of_getElem? (i := 1014) (by decide +kernel), List.mem_of_getElem? (i := 1291) (by decide +kernel), List.mem_of_getElem? (i := 1292) (by decide +kernel)⟩
theorem lw_p41 : lw_okq (⟨"RopesAtDawnModel", "either", "()V"⟩, 28) := ⟨⟨by decide +kernel, by decide +kernel⟩, List.mem_of_getElem? (i := 1014) (by decide +kernel), List.mem_of_getElem? (i := 1308) (by decide +kernel), List.mem_of_getElem? (i := 1309) (by decide +kernel)⟩
theorem lw_p42 : lw_okq (⟨"RopesAtDawnModel", "both", "()V"⟩, 28) := ⟨⟨by decide +kernel, by decide +kernel⟩, List.mem_of_getElem? (i := 1014) (by decide +kernel), List.mem_of_getElem? (i := 1312) (by decide +kernel), List.mem_of_getElem? (i := 1313) (by decide +kernel)⟩
theorem lw_p43 : lw_okq (⟨"RopesAtDawnModel", "compared", "()V"⟩, 28) := ⟨⟨by decide +kernel, by decide +kernel⟩, List.mem_of_getElem? (i := 1014) (by decide +kernel), List.mem_of_getElem? (i := 1316) (by decide +kernel), List.mem_of_getElem? (i := 1317) (by decide +kernel)⟩
theorem lw_p44 : lw_okq (⟨"RopesAtDawnModel", "sum", "()V"⟩, 28) := ⟨⟨by decide +kernel, by decide +kernel⟩, List.mem_of_getElem? (i := 1014) (by decide +kernel), List.mem_of_getElem? (i := 1320) (by decide +kernel), List.mem_of_getElem? (i := 1321) (by decide +kernel)⟩
theorem lw_p45 : lw_okq (⟨"RopesAtDawnModel", "product", "()V"⟩, 28) := ⟨⟨by decide +kernel, by decide +kernel⟩, List.mem_of_getElem? (i := 1014) (by decide +kernel), List.mem_of_getElem? (i := 1324) (by decide +kernel), List.mem_of_getElem? (i := 1325) (by decide +kernel)⟩
theorem lw_p46 : lw_okq (⟨"RopesAtDawnModel", "one", "()V"⟩, 28) := ⟨⟨by decide +kernel, by decide +kernel⟩, List.mem_of_getElem? (i := 1014) (by decide +kernel), List.mem_of_getElem? (i := 1328) (by decide +kernel), List.mem_of_getElem? (i := 1329) (by decide +kernel)⟩
theorem lw_p47 : lw_okq (⟨"RopesAtDawnModel", "here", "()I"⟩, 28) := ⟨⟨by decide +kernel, by decide +kernel⟩, List.mem_of_getElem? (i := 1014) (by decide +kernel), List.mem_of_getElem? (i := 1332) (by decide +kernel), List.mem_of_getElem? (i := 1333) (by decide +kernel)⟩
def lw_privs_3 : List (MethodName × Nat) := [(⟨"RopesAtDawnModel", "inLine", "(I)I"⟩, 28), (⟨"RopesAtDawnModel", "holdOf", "(II)I"⟩, 28), (⟨"RopesAtDawnModel", "gripOf", "(III)I"⟩, 28), (⟨"RopesAtDawnModel", "place", "(II)I"⟩, 28), (⟨"RopesAtDawnModel", "isLast", "(II)Z"⟩, 28), (⟨"RopesAtDawnModel", "isHeld", "(III)Z"⟩, 28), (⟨"RopesAtDawnModel", "costOf", "(III)I"⟩, 28), (⟨"RopesAtDawnModel", "given", "(IIIIII)I"⟩, 28), (⟨"RopesAtDawnModel", "worked", "(I)I"⟩, 28), (⟨"RopesAtDawnModel", "either", "()V"⟩, 28), (⟨"RopesAtDawnModel", "both", "()V"⟩, 28), (⟨"RopesAtDawnModel", "compared", "()V"⟩, 28), (⟨"RopesAtDawnModel", "sum", "()V"⟩, 28), (⟨"RopesAtDawnModel", "product", "()V"⟩, 28), (⟨"RopesAtDawnModel", "one", "()V"⟩, 28), (⟨"RopesAtDawnModel", "here", "()I"⟩, 28)]
theorem lw_r3 : ∀ q ∈ lw_privs_3, lw_okq q := List.forall_mem_cons.mpr ⟨lw_p32, List.forall_mem_cons.mpr ⟨lw_p33, List.forall_mem_cons.mpr ⟨lw_p34, List.forall_mem_cons.mpr ⟨lw_p35, List.forall_mem_cons.mpr ⟨lw_p36, List.forall_mem_cons.mpr ⟨lw_p37, List.forall_mem_cons.mpr ⟨lw_p38, List.forall_mem_cons.mpr ⟨lw_p39, List.forall_mem_cons.mpr ⟨lw_p40, List.forall_mem_cons.mpr ⟨lw_p41, List.forall_mem_cons.mpr ⟨lw_p42, List.forall_mem_cons.mpr ⟨lw_p43, List.forall_mem_cons.mpr ⟨lw_p44, List.forall_mem_cons.mpr ⟨lw_p45, List.forall_mem_cons.mpr ⟨lw_p46, List.forall_mem_cons.mpr ⟨lw_p47, fun _ h => absurd h List.not_mem_nil⟩⟩⟩⟩⟩⟩⟩⟩⟩⟩⟩⟩⟩⟩⟩⟩
theorem lw_p48 : lw_okq (⟨"RopesAtDawnModel", "codes", "(I)V"⟩, 28) := ⟨⟨by decide +kernel, by decide +kernel⟩, List.mem_of_getElem? (i := 1014) (by decide +kernel), List.mem_of_getElem? (i := 1336) (by decide +kernel), List.mem_of_getElem? (i := 1337) (by decide +kernel)⟩
theorem lw_p49 : lw_okq (⟨"RopesAtDawnModel", "takes", "(I)Z"⟩, 28) := ⟨⟨by decide +kernel, by decide +kernel⟩, List.mem_of_getElem? (i := 1014) (by decide +kernel), List.mem_of_getElem? (i := 1340) (by decide +kernel), List.mem_of_getElem? (i := 1341) (by decide +kernel)⟩
theorem lw_p50 : lw_okq (⟨"RopesAtDawnModel", "nameOf", "(I)I"⟩, 28) := ⟨⟨by decide +kernel, by decide +kernel⟩, List.mem_of_getElem? (i := 1014) (by decide +kernel), List.mem_of_getElem? (i := 1344) (by decide +kernel), List.mem_of_getElem? (i := 1345) (by decide +kernel)⟩
theorem lw_p51 : lw_okq (⟨"RopesAtDawnModel", "cross", "()V"⟩, 28) := ⟨⟨by decide +kernel, by decide +kernel⟩, List.mem_of_getElem? (i := 1014) (by decide +kernel), List.mem_of_getElem? (i := 1385) (by decide +kernel), List.mem_of_getElem? (i := 1386) (by decide +kernel)⟩
theorem lw_p52 : lw_okq (⟨"RopesAtDawnModel", "paceOf", "(I)I"⟩, 28) := ⟨⟨by decide +kernel, by decide +kernel⟩, List.mem_of_getElem? (i := 1014) (by decide +kernel), List.mem_of_getElem? (i := 1389) (by decide +kernel), List.mem_of_getElem? (i := 1390) (by decide +kernel)⟩
theorem lw_p53 : lw_okq (⟨"RopesAtDawnModel", "isInLine", "(I)Z"⟩, 28) := ⟨⟨by decide +kernel, by decide +kernel⟩, List.mem_of_getElem? (i := 1014) (by decide +kernel), List.mem_of_getElem? (i := 1397) (by decide +kernel), List.mem_of_getElem? (i := 1398) (by decide +kernel)⟩
theorem lw_p54 : lw_okq (⟨"RopesAtDawnModel", "riskOf", "(III)I"⟩, 28) := ⟨⟨by decide +kernel, by decide +kernel⟩, List.mem_of_getElem? (i := 1014) (by decide +kernel), List.mem_of_getElem? (i := 1401) (by decide +kernel), List.mem_of_getElem? (i := 1402) (by decide +kernel)⟩
theorem lw_p55 : lw_okq (⟨"RopesAtDawnModel", "tollOf", "()I"⟩, 28) := ⟨⟨by decide +kernel, by decide +kernel⟩, List.mem_of_getElem? (i := 1014) (by decide +kernel), List.mem_of_getElem? (i := 1413) (by decide +kernel), List.mem_of_getElem? (i := 1414) (by decide +kernel)⟩
theorem lw_p56 : lw_okq (⟨"RopesAtDawnModel", "findOrder", "(I)V"⟩, 28) := ⟨⟨by decide +kernel, by decide +kernel⟩, List.mem_of_getElem? (i := 1014) (by decide +kernel), List.mem_of_getElem? (i := 1421) (by decide +kernel), List.mem_of_getElem? (i := 1422) (by decide +kernel)⟩
theorem lw_p57 : lw_okq (⟨"RopesAtDawnModel", "spaceOf", "(I)I"⟩, 28) := ⟨⟨by decide +kernel, by decide +kernel⟩, List.mem_of_getElem? (i := 1014) (by decide +kernel), List.mem_of_getElem? (i := 1441) (by decide +kernel), List.mem_of_getElem? (i := 1442) (by decide +kernel)⟩
theorem lw_p58 : lw_okq (⟨"RopesAtDawnModel", "back", "(I)I"⟩, 28) := ⟨⟨by decide +kernel, by decide +kernel⟩, List.mem_of_getElem? (i := 1014) (by decide +kernel), List.mem_of_getElem? (i := 1445) (by decide +kernel), List.mem_of_getElem? (i := 1446) (by decide +kernel)⟩
theorem lw_p59 : lw_okq (⟨"RopesAtDawnModel", "findLine", "()V"⟩, 28) := ⟨⟨by decide +kernel, by decide +kernel⟩, List.mem_of_getElem? (i := 1014) (by decide +kernel), List.mem_of_getElem? (i := 1453) (by decide +kernel), List.mem_of_getElem? (i := 1454) (by decide +kernel)⟩
theorem lw_p60 : lw_okq (⟨"RopesAtDawnModel", "parted", "(II)Z"⟩, 28) := ⟨⟨by decide +kernel, by decide +kernel⟩, List.mem_of_getElem? (i := 1014) (by decide +kernel), List.mem_of_getElem? (i := 1461) (by decide +kernel), List.mem_of_getElem? (i := 1462) (by decide +kernel)⟩
theorem lw_p61 : lw_okq (⟨"RopesAtDawnModel", "lostBy", "()I"⟩, 28) := ⟨⟨by decide +kernel, by decide +kernel⟩, List.mem_of_getElem? (i := 1014) (by decide +kernel), List.mem_of_getElem? (i := 1489) (by decide +kernel), List.mem_of_getElem? (i := 1490) (by decide +kernel)⟩
theorem lw_p62 : lw_okq (⟨"RopesAtDawnModel", "drawn", "(I)I"⟩, 28) := ⟨⟨by decide +kernel, by decide +kernel⟩, List.mem_of_getElem? (i := 1014) (by decide +kernel), List.mem_of_getElem? (i := 1493) (by decide +kernel), List.mem_of_getElem? (i := 1494) (by decide +kernel)⟩
theorem lw_p63 : lw_okq (⟨"RopesAtDawnModel", "loses", "(II)V"⟩, 28) := ⟨⟨by decide +kernel, by decide +kernel⟩, List.mem_of_getElem? (i := 1014) (by decide +kernel), List.mem_of_getElem? (i := 1498) (by decide +kernel), List.mem_of_getElem? (i := 1499) (by decide +kernel)⟩
def lw_privs_4 : List (MethodName × Nat) := [(⟨"RopesAtDawnModel", "codes", "(I)V"⟩, 28), (⟨"RopesAtDawnModel", "takes", "(I)Z"⟩, 28), (⟨"RopesAtDawnModel", "nameOf", "(I)I"⟩, 28), (⟨"RopesAtDawnModel", "cross", "()V"⟩, 28), (⟨"RopesAtDawnModel", "paceOf", "(I)I"⟩, 28), (⟨"RopesAtDawnModel", "isInLine", "(I)Z"⟩, 28), (⟨"RopesAtDawnModel", "riskOf", "(III)I"⟩, 28), (⟨"RopesAtDawnModel", "tollOf", "()I"⟩, 28), (⟨"RopesAtDawnModel", "findOrder", "(I)V"⟩, 28), (⟨"RopesAtDawnModel", "spaceOf", "(I)I"⟩, 28), (⟨"RopesAtDawnModel", "back", "(I)I"⟩, 28), (⟨"RopesAtDawnModel", "findLine", "()V"⟩, 28), (⟨"RopesAtDawnModel", "parted", "(II)Z"⟩, 28), (⟨"RopesAtDawnModel", "lostBy", "()I"⟩, 28), (⟨"RopesAtDawnModel", "drawn", "(I)I"⟩, 28), (⟨"RopesAtDawnModel", "loses", "(II)V"⟩, 28)]
theorem lw_r4 : ∀ q ∈ lw_privs_4, lw_okq q := List.forall_mem_cons.mpr ⟨lw_p48, List.forall_mem_cons.mpr ⟨lw_p49, List.forall_mem_cons.mpr ⟨lw_p50, List.forall_mem_cons.mpr ⟨lw_p51, List.forall_mem_cons.mpr ⟨lw_p52, List.forall_mem_cons.mpr ⟨lw_p53, List.forall_mem_cons.mpr ⟨lw_p54, List.forall_mem_cons.mpr ⟨lw_p55, List.forall_mem_cons.mpr ⟨lw_p56, List.forall_mem_cons.mpr ⟨lw_p57, List.forall_mem_cons.mpr ⟨lw_p58, List.forall_mem_cons.mpr ⟨lw_p59, List.forall_mem_cons.mpr ⟨lw_p60, List.forall_mem_cons.mpr ⟨lw_p61, List.forall_mem_cons.mpr ⟨lw_p62, List.forall_mem_cons.mpr ⟨lw_p63, fun _ h => absurd h List.not_mem_nil⟩⟩⟩⟩⟩⟩⟩⟩⟩⟩⟩⟩⟩⟩⟩⟩
theorem lw_p64 : lw_okq (⟨"RopesAtDawnModel", "voiced", "(II)I"⟩, 28) := ⟨⟨by decide +kernel, by decide +kernel⟩, List.mem_of_getElem? (i := 1014) (by decide +kernel), List.mem_of_getElem? (i := 1514) (by decide +kernel), List.mem_of_getElem? (i := 1515) (by decide +kernel)⟩
theorem lw_p65 : lw_okq (⟨"RopesAtDawnModel", "bodyFrom", "(III)I"⟩, 28) := ⟨⟨by decide +kernel, by decide +kernel⟩, List.mem_of_getElem? (i := 1014) (by decide +kernel), List.mem_of_getElem? (i := 1518) (by decide +kernel), List.mem_of_getElem? (i := 1519) (by decide +kernel)⟩
theorem lw_p66 : lw_okq (⟨"RopesAtDawnModel", "body", "(III)I"⟩, 28) := ⟨⟨by decide +kernel, by decide +kernel⟩, List.mem_of_getElem? (i := 1014) (by decide +kernel), List.mem_of_getElem? (i := 1525) (by decide +kernel), List.mem_of_getElem? (i := 1526) (by decide +kernel)⟩
theorem lw_p67 : lw_okq (⟨"RopesAtDawnModel", "began", "(I)V"⟩, 28) := ⟨⟨by decide +kernel, by decide +kernel⟩, List.mem_of_getElem? (i := 1014) (by decide +kernel), List.mem_of_getElem? (i := 1529) (by decide +kernel), List.mem_of_getElem? (i := 1530) (by decide +kernel)⟩
def lw_privs_5 : List (MethodName × Nat) := [(⟨"RopesAtDawnModel", "voiced", "(II)I"⟩, 28), (⟨"RopesAtDawnModel", "bodyFrom", "(III)I"⟩, 28), (⟨"RopesAtDawnModel", "body", "(III)I"⟩, 28), (⟨"RopesAtDawnModel", "began", "(I)V"⟩, 28)]
theorem lw_r5 : ∀ q ∈ lw_privs_5, lw_okq q := List.forall_mem_cons.mpr ⟨lw_p64, List.forall_mem_cons.mpr ⟨lw_p65, List.forall_mem_cons.mpr ⟨lw_p66, List.forall_mem_cons.mpr ⟨lw_p67, fun _ h => absurd h List.not_mem_nil⟩⟩⟩⟩
def lw_privs : List (MethodName × Nat) := lw_privs_1 ++ (lw_privs_2 ++ (lw_privs_3 ++ (lw_privs_4 ++ (lw_privs_5))))
def lw_tbl : List Cond := k2_sels lw_privs ++ tables_1
theorem lw_privs_ok : ∀ q ∈ lw_privs, lw_okq q := by
  show ∀ q ∈ lw_privs_1 ++ (lw_privs_2 ++ (lw_privs_3 ++ (lw_privs_4 ++ (lw_privs_5)))), lw_okq q
  exact List.forall_mem_append.mpr ⟨lw_r1, List.forall_mem_append.mpr ⟨lw_r2, List.forall_mem_append.mpr ⟨lw_r3, List.forall_mem_append.mpr ⟨lw_r4, lw_r5⟩⟩⟩⟩

def RX0 : String := "RopesAtDawn$Chooser"
def TX0 : u_T := fun k => match k with
  | 0 => ("RopesAtDawn$Chooser", "row", "LRopesAtDawn$Row;", true)
  | 1 => ("RopesAtDawn$Chooser", "choice", "I", false)
  | 2 => ("RopesAtDawn$Chooser", "least", "I", false)
  | 3 => ("RopesAtDawn$Chooser", "trial", "LRopesAtDawn$Dawn;", true)
  | _ => ("RopesAtDawn$Chooser", "crossing", "LRopesAtDawn$Crossing;", true)
def tyX0 : Nat → FieldType := fun k => match k with
  | 0 => .object "RopesAtDawn$Row"
  | 1 => .int
  | 2 => .int
  | 3 => .object "RopesAtDawn$Dawn"
  | _ => .object "RopesAtDawn$Crossing"
abbrev wsX00 : List Cond := u_ws RX0 TX0 5
theorem nmX0 : ∀ a, a < 5 → ∀ b, b < 5 → a ≠ b → (TX0 a).2.1 ≠ (TX0 b).2.1 := by decide +kernel
theorem tyX0_ok : ∀ k, k < 5 → parseFieldDescriptor (TX0 k).2.2.1 = some (tyX0 k) := by decide +kernel

def RX1 : String := "RopesAtDawn$Crossing"
def TX1 : u_T := fun k => match k with
  | 0 => ("RopesAtDawn$Crossing", "reckoner", "LRopesAtDawn$Reckoner;", true)
  | 1 => ("RopesAtDawn$Crossing", "comes", "[I", true)
  | 2 => ("RopesAtDawn$Crossing", "offs", "[I", true)
  | _ => ("RopesAtDawn$Crossing", "over", "I", false)
def tyX1 : Nat → FieldType := fun k => match k with
  | 0 => .object "RopesAtDawn$Reckoner"
  | 1 => .array .int
  | 2 => .array .int
  | _ => .int
abbrev wsX10 : List Cond := u_ws RX1 TX1 4
theorem nmX1 : ∀ a, a < 4 → ∀ b, b < 4 → a ≠ b → (TX1 a).2.1 ≠ (TX1 b).2.1 := by decide +kernel
theorem tyX1_ok : ∀ k, k < 4 → parseFieldDescriptor (TX1 k).2.2.1 = some (tyX1 k) := by decide +kernel

def RX2 : String := "RopesAtDawn$Dawn"
def TX2 : u_T := fun k => match k with
  | 0 => ("RopesAtDawn$Dawn", "people", "LRopesAtDawn$Fours;", true)
  | 1 => ("RopesAtDawn$Dawn", "pieces", "LRopesAtDawn$Fours;", true)
  | 2 => ("RopesAtDawn$Dawn", "ropes", "LRopesAtDawn$Fours;", true)
  | 3 => ("RopesAtDawn$Dawn", "line", "LRopesAtDawn$Row;", true)
  | 4 => ("RopesAtDawn$Dawn", "tape", "LRopesAtDawn$Row;", true)
  | 5 => ("RopesAtDawn$Dawn", "waiting", "LRopesAtDawn$Row;", true)
  | 6 => ("RopesAtDawn$Dawn", "rows", "[LRopesAtDawn$Row;", true)
  | 7 => ("RopesAtDawn$Dawn", "nobody", "LRopesAtDawn$Row;", true)
  | 8 => ("RopesAtDawn$Dawn", "riskText", "LRopesAtDawn$Row;", true)
  | 9 => ("RopesAtDawn$Dawn", "haulText", "LRopesAtDawn$Row;", true)
  | 10 => ("RopesAtDawn$Dawn", "start", "I", false)
  | _ => ("RopesAtDawn$Dawn", "z", "I", false)
def tyX2 : Nat → FieldType := fun k => match k with
  | 0 => .object "RopesAtDawn$Fours"
  | 1 => .object "RopesAtDawn$Fours"
  | 2 => .object "RopesAtDawn$Fours"
  | 3 => .object "RopesAtDawn$Row"
  | 4 => .object "RopesAtDawn$Row"
  | 5 => .object "RopesAtDawn$Row"
  | 6 => .array (.object "RopesAtDawn$Row")
  | 7 => .object "RopesAtDawn$Row"
  | 8 => .object "RopesAtDawn$Row"
  | 9 => .object "RopesAtDawn$Row"
  | 10 => .int
  | _ => .int
abbrev wsX20 : List Cond := u_ws RX2 TX2 12
theorem nmX2 : ∀ a, a < 12 → ∀ b, b < 12 → a ≠ b → (TX2 a).2.1 ≠ (TX2 b).2.1 := by decide +kernel
theorem tyX2_ok : ∀ k, k < 12 → parseFieldDescriptor (TX2 k).2.2.1 = some (tyX2 k) := by decide +kernel

def RX3 : String := "RopesAtDawn$Fours"
def TX3 : u_T := fun k => match k with
  | 0 => ("RopesAtDawn$Fours", "least", "[I", true)
  | 1 => ("RopesAtDawn$Fours", "most", "[I", true)
  | 2 => ("RopesAtDawn$Fours", "cells", "[I", true)
  | _ => ("RopesAtDawn$Fours", "rows", "I", false)
def tyX3 : Nat → FieldType := fun k => match k with
  | 0 => .array .int
  | 1 => .array .int
  | 2 => .array .int
  | _ => .int
abbrev wsX30 : List Cond := u_ws RX3 TX3 4
theorem nmX3 : ∀ a, a < 4 → ∀ b, b < 4 → a ≠ b → (TX3 a).2.1 ≠ (TX3 b).2.1 := by decide +kernel
theorem tyX3_ok : ∀ k, k < 4 → parseFieldDescriptor (TX3 k).2.2.1 = some (tyX3 k) := by decide +kernel

def RX4 : String := "RopesAtDawn$Reader"
def TX4 : u_T := fun k => match k with
  | 0 => ("RopesAtDawn$Reader", "codes", "LRopesAtDawn$Row;", true)
  | 1 => ("RopesAtDawn$Reader", "tape", "LRopesAtDawn$Row;", false)
  | 2 => ("RopesAtDawn$Reader", "names", "Ljava/lang/String;", false)
  | 3 => ("RopesAtDawn$Reader", "place", "I", false)
  | _ => ("RopesAtDawn$Reader", "wrong", "Z", false)
def tyX4 : Nat → FieldType := fun k => match k with
  | 0 => .object "RopesAtDawn$Row"
  | 1 => .object "RopesAtDawn$Row"
  | 2 => .object "java/lang/String"
  | 3 => .int
  | _ => .boolean
abbrev wsX40 : List Cond := u_ws RX4 TX4 5
theorem nmX4 : ∀ a, a < 5 → ∀ b, b < 5 → a ≠ b → (TX4 a).2.1 ≠ (TX4 b).2.1 := by decide +kernel
theorem tyX4_ok : ∀ k, k < 5 → parseFieldDescriptor (TX4 k).2.2.1 = some (tyX4 k) := by decide +kernel

def RX5 : String := "RopesAtDawn$Reckoner"
def TX5 : u_T := fun k => match k with
  | 0 => ("RopesAtDawn$Reckoner", "names", "[I", true)
  | _ => ("RopesAtDawn$Reckoner", "stack", "[I", true)
def tyX5 : Nat → FieldType := fun k => match k with
  | 0 => .array .int
  | _ => .array .int
abbrev wsX50 : List Cond := u_ws RX5 TX5 2
theorem nmX5 : ∀ a, a < 2 → ∀ b, b < 2 → a ≠ b → (TX5 a).2.1 ≠ (TX5 b).2.1 := by decide +kernel
theorem tyX5_ok : ∀ k, k < 2 → parseFieldDescriptor (TX5 k).2.2.1 = some (tyX5 k) := by decide +kernel

def RX6 : String := "RopesAtDawn$Row"
def TX6 : u_T := fun k => match k with
  | 0 => ("RopesAtDawn$Row", "cells", "[I", true)
  | _ => ("RopesAtDawn$Row", "size", "I", false)
def tyX6 : Nat → FieldType := fun k => match k with
  | 0 => .array .int
  | _ => .int
abbrev wsX60 : List Cond := u_ws RX6 TX6 2
theorem nmX6 : ∀ a, a < 2 → ∀ b, b < 2 → a ≠ b → (TX6 a).2.1 ≠ (TX6 b).2.1 := by decide +kernel
theorem tyX6_ok : ∀ k, k < 2 → parseFieldDescriptor (TX6 k).2.2.1 = some (tyX6 k) := by decide +kernel

def RX7 : String := "RopesAtDawn$Sheet"
def TX7 : u_T := fun k => match k with
  | 0 => ("RopesAtDawn$Sheet", "cells", "[I", true)
  | 1 => ("RopesAtDawn$Sheet", "bits", "I", false)
  | _ => ("RopesAtDawn$Sheet", "size", "I", false)
def tyX7 : Nat → FieldType := fun k => match k with
  | 0 => .array .int
  | 1 => .int
  | _ => .int
abbrev wsX70 : List Cond := u_ws RX7 TX7 3
theorem nmX7 : ∀ a, a < 3 → ∀ b, b < 3 → a ≠ b → (TX7 a).2.1 ≠ (TX7 b).2.1 := by decide +kernel
theorem tyX7_ok : ∀ k, k < 3 → parseFieldDescriptor (TX7 k).2.2.1 = some (tyX7 k) := by decide +kernel

def RX8 : String := "RopesAtDawn$Voices"
def TX8 : u_T := fun k => match k with
  | 0 => ("RopesAtDawn$Voices", "trace", "LRopesAtDawn$Row;", true)
  | 1 => ("RopesAtDawn$Voices", "kind", "I", false)
  | 2 => ("RopesAtDawn$Voices", "number", "I", false)
  | _ => ("RopesAtDawn$Voices", "knots", "I", false)
def tyX8 : Nat → FieldType := fun k => match k with
  | 0 => .object "RopesAtDawn$Row"
  | 1 => .int
  | 2 => .int
  | _ => .int
abbrev wsX80 : List Cond := u_ws RX8 TX8 4
theorem nmX8 : ∀ a, a < 4 → ∀ b, b < 4 → a ≠ b → (TX8 a).2.1 ≠ (TX8 b).2.1 := by decide +kernel
theorem tyX8_ok : ∀ k, k < 4 → parseFieldDescriptor (TX8 k).2.2.1 = some (tyX8 k) := by decide +kernel

def RX9 : String := "RopesAtDawn"
def TX9 : u_T := fun k => match k with
  | 0 => ("RopesAtDawn", "now", "LRopesAtDawn$Dawn;", true)
  | 1 => ("RopesAtDawn", "crossing", "LRopesAtDawn$Crossing;", true)
  | 2 => ("RopesAtDawn", "chooser", "LRopesAtDawn$Chooser;", true)
  | 3 => ("RopesAtDawn", "reader", "LRopesAtDawn$Reader;", true)
  | 4 => ("RopesAtDawn", "voices", "LRopesAtDawn$Voices;", true)
  | 5 => ("RopesAtDawn", "sheets", "[LRopesAtDawn$Sheet;", true)
  | 6 => ("RopesAtDawn", "errors", "[I", true)
  | 7 => ("RopesAtDawn", "kept", "LRopesAtDawn$Dawn;", false)
  | _ => ("RopesAtDawn", "images", "I", false)
def tyX9 : Nat → FieldType := fun k => match k with
  | 0 => .object "RopesAtDawn$Dawn"
  | 1 => .object "RopesAtDawn$Crossing"
  | 2 => .object "RopesAtDawn$Chooser"
  | 3 => .object "RopesAtDawn$Reader"
  | 4 => .object "RopesAtDawn$Voices"
  | 5 => .array (.object "RopesAtDawn$Sheet")
  | 6 => .array .int
  | 7 => .object "RopesAtDawn$Dawn"
  | _ => .int
abbrev wsX90 : List Cond := u_ws RX9 TX9 9
theorem nmX9 : ∀ a, a < 9 → ∀ b, b < 9 → a ≠ b → (TX9 a).2.1 ≠ (TX9 b).2.1 := by decide +kernel
theorem tyX9_ok : ∀ k, k < 9 → parseFieldDescriptor (TX9 k).2.2.1 = some (tyX9 k) := by decide +kernel

def RX10 : String := "RopesAtDawnModel"
def TX10 : u_T := fun k => match k with
  | 0 => ("RopesAtDawnModel", "now", "[I", true)
  | 1 => ("RopesAtDawnModel", "kept", "[I", true)
  | 2 => ("RopesAtDawnModel", "aside", "[I", true)
  | 3 => ("RopesAtDawnModel", "images", "I", false)
  | 4 => ("RopesAtDawnModel", "errors", "[I", true)
  | 5 => ("RopesAtDawnModel", "lost", "I", false)
  | 6 => ("RopesAtDawnModel", "NAMED", "[Ljava/lang/String;", true)
  | 7 => ("RopesAtDawnModel", "at", "I", false)
  | 8 => ("RopesAtDawnModel", "open", "I", false)
  | 9 => ("RopesAtDawnModel", "use", "I", false)
  | 10 => ("RopesAtDawnModel", "isWrong", "Z", false)
  | 11 => ("RopesAtDawnModel", "code", "[I", true)
  | 12 => ("RopesAtDawnModel", "coded", "I", false)
  | 13 => ("RopesAtDawnModel", "named", "[I", true)
  | 14 => ("RopesAtDawnModel", "pile", "[I", true)
  | 15 => ("RopesAtDawnModel", "comes", "[I", true)
  | 16 => ("RopesAtDawnModel", "before", "[I", true)
  | 17 => ("RopesAtDawnModel", "over", "I", false)
  | 18 => ("RopesAtDawnModel", "sorted", "[I", true)
  | 19 => ("RopesAtDawnModel", "best", "[I", true)
  | 20 => ("RopesAtDawnModel", "least", "I", false)
  | 21 => ("RopesAtDawnModel", "trace", "[I", true)
  | 22 => ("RopesAtDawnModel", "traced", "I", false)
  | 23 => ("RopesAtDawnModel", "speaker", "I", false)
  | 24 => ("RopesAtDawnModel", "widths", "[I", true)
  | 25 => ("RopesAtDawnModel", "sizes", "[I", true)
  | 26 => ("RopesAtDawnModel", "numbers", "[I", true)
  | _ => ("RopesAtDawnModel", "carried", "[I", true)
def tyX10 : Nat → FieldType := fun k => match k with
  | 0 => .array .int
  | 1 => .array .int
  | 2 => .array .int
  | 3 => .int
  | 4 => .array .int
  | 5 => .int
  | 6 => .array (.object "java/lang/String")
  | 7 => .int
  | 8 => .int
  | 9 => .int
  | 10 => .boolean
  | 11 => .array .int
  | 12 => .int
  | 13 => .array .int
  | 14 => .array .int
  | 15 => .array .int
  | 16 => .array .int
  | 17 => .int
  | 18 => .array .int
  | 19 => .array .int
  | 20 => .int
  | 21 => .array .int
  | 22 => .int
  | 23 => .int
  | 24 => .array .int
  | 25 => .array .int
  | 26 => .array .int
  | _ => .array .int
abbrev wsX100 : List Cond := u_ws RX10 TX10 28
theorem nmX10 : ∀ a, a < 28 → ∀ b, b < 28 → a ≠ b → (TX10 a).2.1 ≠ (TX10 b).2.1 := by decide +kernel
theorem tyX10_ok : ∀ k, k < 28 → parseFieldDescriptor (TX10 k).2.2.1 = some (tyX10 k) := by decide +kernel

theorem wk (i : Nat) {w : Cond} (h : tables_1[i]? = some w) : w ∈ lw_tbl := List.mem_append_right _ (List.mem_of_getElem? h)

theorem inX0 : ∀ w ∈ wsX00, w ∈ lw_tbl := by
  intro w hw
  have h : wsX00 = ([193, 195, 197, 199, 201] : List Nat).filterMap (fun i => tables_1[i]?) := by decide +kernel
  rw [h] at hw
  obtain ⟨i, -, hi⟩ := List.mem_filterMap.mp hw
  exact wk i hi

theorem inX1 : ∀ w ∈ wsX10, w ∈ lw_tbl := by
  intro w hw
  have h : wsX10 = ([164, 166, 168, 170] : List Nat).filterMap (fun i => tables_1[i]?) := by decide +kernel
  rw [h] at hw
  obtain ⟨i, -, hi⟩ := List.mem_filterMap.mp hw
  exact wk i hi

theorem inX2 : ∀ w ∈ wsX20, w ∈ lw_tbl := by
  intro w hw
  have h : wsX20 = ([113, 115, 117, 119, 121, 123, 125, 127, 129, 131, 133, 135] : List Nat).filterMap (fun i => tables_1[i]?) := by decide +kernel
  rw [h] at hw
  obtain ⟨i, -, hi⟩ := List.mem_filterMap.mp hw
  exact wk i hi

theorem inX3 : ∀ w ∈ wsX30, w ∈ lw_tbl := by
  intro w hw
  have h : wsX30 = ([52, 54, 56, 58] : List Nat).filterMap (fun i => tables_1[i]?) := by decide +kernel
  rw [h] at hw
  obtain ⟨i, -, hi⟩ := List.mem_filterMap.mp hw
  exact wk i hi

theorem inX4 : ∀ w ∈ wsX40, w ∈ lw_tbl := by
  intro w hw
  have h : wsX40 = ([219, 221, 223, 225, 227] : List Nat).filterMap (fun i => tables_1[i]?) := by decide +kernel
  rw [h] at hw
  obtain ⟨i, -, hi⟩ := List.mem_filterMap.mp hw
  exact wk i hi

theorem inX5 : ∀ w ∈ wsX50, w ∈ lw_tbl := by
  intro w hw
  have h : wsX50 = ([152, 154] : List Nat).filterMap (fun i => tables_1[i]?) := by decide +kernel
  rw [h] at hw
  obtain ⟨i, -, hi⟩ := List.mem_filterMap.mp hw
  exact wk i hi

theorem inX6 : ∀ w ∈ wsX60, w ∈ lw_tbl := by
  intro w hw
  have h : wsX60 = ([79, 81] : List Nat).filterMap (fun i => tables_1[i]?) := by decide +kernel
  rw [h] at hw
  obtain ⟨i, -, hi⟩ := List.mem_filterMap.mp hw
  exact wk i hi

theorem inX7 : ∀ w ∈ wsX70, w ∈ lw_tbl := by
  intro w hw
  have h : wsX70 = ([264, 266, 268] : List Nat).filterMap (fun i => tables_1[i]?) := by decide +kernel
  rw [h] at hw
  obtain ⟨i, -, hi⟩ := List.mem_filterMap.mp hw
  exact wk i hi

theorem inX8 : ∀ w ∈ wsX80, w ∈ lw_tbl := by
  intro w hw
  have h : wsX80 = ([244, 246, 248, 250] : List Nat).filterMap (fun i => tables_1[i]?) := by decide +kernel
  rw [h] at hw
  obtain ⟨i, -, hi⟩ := List.mem_filterMap.mp hw
  exact wk i hi

theorem inX9 : ∀ w ∈ wsX90, w ∈ lw_tbl := by
  intro w hw
  have h : wsX90 = ([280, 282, 284, 286, 288, 290, 292, 294, 296] : List Nat).filterMap (fun i => tables_1[i]?) := by decide +kernel
  rw [h] at hw
  obtain ⟨i, -, hi⟩ := List.mem_filterMap.mp hw
  exact wk i hi

theorem inX10 : ∀ w ∈ wsX100, w ∈ lw_tbl := by
  intro w hw
  have h : wsX100 = ([1051, 1053, 1055, 1057, 1059, 1061, 1063, 1065, 1067, 1069, 1071, 1073, 1075, 1077, 1079, 1081, 1083, 1085, 1087, 1089, 1091, 1093, 1095, 1097, 1099, 1101, 1103, 1105] : List Nat).filterMap (fun i => tables_1[i]?) := by decide +kernel
  rw [h] at hw
  obtain ⟨i, -, hi⟩ := List.mem_filterMap.mp hw
  exact wk i hi

def cN (ci : Nat) : String := match ci with
  | 0 => RX0
  | 1 => RX1
  | 2 => RX2
  | 3 => RX3
  | 4 => RX4
  | 5 => RX5
  | 6 => RX6
  | 7 => RX7
  | 8 => RX8
  | 9 => RX9
  | _ => RX10

def cT (ci : Nat) : u_T := match ci with
  | 0 => TX0
  | 1 => TX1
  | 2 => TX2
  | 3 => TX3
  | 4 => TX4
  | 5 => TX5
  | 6 => TX6
  | 7 => TX7
  | 8 => TX8
  | 9 => TX9
  | _ => TX10

def fN (ci : Nat) : Nat := match ci with
  | 0 => 5
  | 1 => 4
  | 2 => 12
  | 3 => 4
  | 4 => 5
  | 5 => 2
  | 6 => 2
  | 7 => 3
  | 8 => 4
  | 9 => 9
  | _ => 28

def cTy (ci : Nat) : Nat → FieldType := match ci with
  | 0 => tyX0
  | 1 => tyX1
  | 2 => tyX2
  | 3 => tyX3
  | 4 => tyX4
  | 5 => tyX5
  | 6 => tyX6
  | 7 => tyX7
  | 8 => tyX8
  | 9 => tyX9
  | _ => tyX10

theorem cls_in : ∀ ci, ci < 11 → ∀ w ∈ u_ws (cN ci) (cT ci) (fN ci), w ∈ lw_tbl := by
  intro ci h
  match ci, h with
  | 0, _ => exact inX0
  | 1, _ => exact inX1
  | 2, _ => exact inX2
  | 3, _ => exact inX3
  | 4, _ => exact inX4
  | 5, _ => exact inX5
  | 6, _ => exact inX6
  | 7, _ => exact inX7
  | 8, _ => exact inX8
  | 9, _ => exact inX9
  | 10, _ => exact inX10
  | n + 11, h => exact absurd h (by omega)

theorem cls_nm : ∀ ci, ci < 11 → ∀ a, a < fN ci → ∀ b, b < fN ci → a ≠ b → (cT ci a).2.1 ≠ (cT ci b).2.1 := by
  intro ci h
  match ci, h with
  | 0, _ => exact nmX0
  | 1, _ => exact nmX1
  | 2, _ => exact nmX2
  | 3, _ => exact nmX3
  | 4, _ => exact nmX4
  | 5, _ => exact nmX5
  | 6, _ => exact nmX6
  | 7, _ => exact nmX7
  | 8, _ => exact nmX8
  | 9, _ => exact nmX9
  | 10, _ => exact nmX10
  | n + 11, h => exact absurd h (by omega)

theorem cls_ty : ∀ ci, ci < 11 → ∀ k, k < fN ci → parseFieldDescriptor (cT ci k).2.2.1 = some (cTy ci k) := by
  intro ci h
  match ci, h with
  | 0, _ => exact tyX0_ok
  | 1, _ => exact tyX1_ok
  | 2, _ => exact tyX2_ok
  | 3, _ => exact tyX3_ok
  | 4, _ => exact tyX4_ok
  | 5, _ => exact tyX5_ok
  | 6, _ => exact tyX6_ok
  | 7, _ => exact tyX7_ok
  | 8, _ => exact tyX8_ok
  | 9, _ => exact tyX9_ok
  | 10, _ => exact tyX10_ok
  | n + 11, h => exact absurd h (by omega)
end
section
/-! The layer X: a method's walk over a store of ints (Mu) and a shape (Sh), the machine's own state hidden. -/
abbrev MI : Type := MethodName × ByteArray × Nat × Option FieldType
abbrev Kd : Type := (Nat × Nat) ⊕ ((Nat × Nat × (Nat → Option Nat)) ⊕ (Nat × (Nat → Option Nat)))
abbrev Sh : Type := Nat × (Nat → Option Kd)
abbrev Mu : Type := Nat → Nat → Int32
/-- the start of the law, class numbers, field slots, addresses of static arrays and texts -/
abbrev Gl : Type := State × (Nat → ClassId) × (Nat → Nat → Nat) × (Nat → Nat)
abbrev kI (n : Nat) : Kd := .inl (1, n)
abbrev kC (n : Nat) : Kd := .inl (0, n)
abbrev kB (n : Nat) : Kd := .inl (2, n)
abbrev kT (n : Nat) : Kd := .inl (3, n)
abbrev kR (j n : Nat) (r : Nat → Option Nat) : Kd := .inr (.inl (j, n, r))
abbrev kO (ci : Nat) (r : Nat → Option Nat) : Kd := .inr (.inr (ci, r))
def gb (G : Gl) : Nat := G.1.heap.size
def lw_gd : List Cond := lw_tbl.filter goodWord
theorem gd {w : Cond} (h : w ∈ lw_tbl) (hg : goodWord w = true) : w ∈ lw_gd := List.mem_filter.mpr ⟨h, hg⟩
theorem gd_good : ∀ w ∈ lw_gd, goodWord w = true := fun _ h => (List.mem_filter.mp h).2
/-- which fields hold numbers -/
def fI (ci k : Nat) : Bool := match cTy ci k with
  | .int => true
  | .boolean => true
  | _ => false
def fV (ci : Nat) (r : Nat → Option Nat) (f : Nat → Int32) (k : Nat) : Value := if fI ci k = true then .int (f k) else va_rf (r k)
/-- the elements' class of arrays of references -/
def rC (j : Nat) : String := match j with
  | 0 => "RopesAtDawn$Row"
  | 1 => "RopesAtDawn$Sheet"
  | _ => "java/lang/String"
def cArr (ty : FieldType) (n : Nat) (f : Nat → Int32) (a : Nat) (U : State) (H : Heap) : Prop := ∃ cell : Cell, H[a]? = some cell ∧ U.isArrayOf cell ty ∧ cell.vm ≠ .unknown ∧ n ≤ cell.slots.size ∧ cell.slots.size.toInt32 = Int32.ofNat n ∧ ∀ j : Nat, j < n → cell.slots[j]? = some (.int (f j))
def cellAt (G : Gl) (k : Option Kd) (f : Nat → Int32) (a : Nat) (H : Heap) : Prop := match k with
  | none => True
  | some (.inl (1, n)) => gb G ≤ a ∧ ∃ cA : ClassId, ArrOfT G.1 cA .int ∧ H[a]? = some (arrV cA n (fun j => .int (f j)))
  | some (.inl (0, n)) => a < gb G ∧ cArr .int n f a G.1 H
  | some (.inl (2, n)) => a < gb G ∧ cArr .byte n f a G.1 H
  | some (.inl (3, n)) => va_OF "java/lang/String" "value" "[B" (.ref (G.2.2.2 (n + 20))) a (fun q => gb G ≤ q) G.1 H ∧ va_OF "java/lang/String" "coder" "B" (.int 0) a (fun q => gb G ≤ q) G.1 H ∧ va_O "java/lang/String" a (fun q => gb G ≤ q) G.1 H
  | some (.inl _) => False
  | some (.inr (.inl (j, n, r))) => gb G ≤ a ∧ ∃ cA : ClassId, (ArrOfT G.1 cA (.object (rC j)) ∧ va_RA G.1 cA (.object (rC j))) ∧ H[a]? = some (arrV cA n (fun i => va_rf (r i)))
  | some (.inr (.inr (ci, r))) => gb G ≤ a ∧ t_OB a (G.2.1 ci) (fN ci) (G.2.2.1 ci) H (fV ci r f)
theorem cellAt.kept {G : Gl} {k : Option Kd} {f : Nat → Int32} {a : Nat} {H H1 : Heap} (h : cellAt G k f a H) (hq : H1[a]? = H[a]?) : cellAt G k f a H1 := by
  match k, h with
  | none, _ => trivial
  | some (.inl (0, n)), ⟨h0, ce, h1, h2⟩ => exact ⟨h0, ce, by rw [hq]; exact h1, h2⟩
  | some (.inl (1, n)), ⟨h1, cA, h2, h3⟩ => exact ⟨h1, cA, h2, by rw [hq]; exact h3⟩
  | some (.inl (2, n)), ⟨h0, ce, h1, h2⟩ => exact ⟨h0, ce, by rw [hq]; exact h1, h2⟩
  | some (.inl (3, n)), ⟨⟨c1, k1, i1, f1, e1, a1, a2, a3, a4⟩, ⟨c2, k2, i2, f2, e2, b1, b2, b3, b4⟩, ⟨e3, d1, d2⟩⟩ => exact ⟨⟨c1, k1, i1, f1, e1, a1, a2, by rw [hq]; exact a3, a4⟩, ⟨c2, k2, i2, f2, e2, b1, b2, by rw [hq]; exact b3, b4⟩, ⟨e3, by rw [hq]; exact d1, d2⟩⟩
  | some (.inr (.inl (j, n, r))), ⟨h1, cA, h2, h3⟩ => exact ⟨h1, cA, h2, by rw [hq]; exact h3⟩
  | some (.inr (.inr (ci, r))), ⟨h1, h2⟩ => exact ⟨h1, h2.kept hq⟩
/-- the heap holds the shape and the store; below the law's start it is as it was; what was written is above it -/
def Rp (G : Gl) (S : Sh) (μ : Mu) (H : Heap) (locs : List Loc) : Prop := gb G ≤ H.size ∧ H.size = S.1 ∧ (∀ a : Nat, S.1 ≤ a → S.2 a = none) ∧ (∀ a : Nat, cellAt G (S.2 a) (μ a) a H) ∧ (∀ q : Nat, q < gb G → H[q]? = G.1.heap[q]?) ∧ ∀ l ∈ locs, gb G ≤ l.base
theorem Rp.at {G : Gl} {S : Sh} {μ : Mu} {H : Heap} {locs : List Loc} (h : Rp G S μ H locs) {a : Nat} {k : Kd} (hk : S.2 a = some k) : cellAt G (some k) (μ a) a H := by
  have := h.2.2.2.1 a
  rw [hk] at this
  exact this
theorem Rp.nil {G : Gl} {S : Sh} {μ : Mu} {H : Heap} {locs : List Loc} (h : Rp G S μ H locs) : Rp G S μ H [] := ⟨h.1, h.2.1, h.2.2.1, h.2.2.2.1, h.2.2.2.2.1, fun _ q => by cases q⟩
theorem Rp.app {G : Gl} {S : Sh} {μ : Mu} {H : Heap} {locs L : List Loc} (h : Rp G S μ H []) (h1 : ∀ l ∈ locs, gb G ≤ l.base) (h2 : ∀ l ∈ L, gb G ≤ l.base) : Rp G S μ H (locs ++ L) := ⟨h.1, h.2.1, h.2.2.1, h.2.2.2.1, h.2.2.2.2.1, fun l q => (List.mem_append.mp q).elim (h1 l) (h2 l)⟩
/-- one cell anew -/
theorem Rp.put {G : Gl} {S S' : Sh} {μ μ' : Mu} {H H1 : Heap} {locs : List Loc} {a i : Nat} (h : Rp G S μ H locs) (hs : S'.1 = S.1) (ha : gb G ≤ a) (hal : a < S.1) (hz : H1.size = H.size) (oq : ∀ q : Nat, q ≠ a → H1[q]? = H[q]?) (hS : ∀ q : Nat, q ≠ a → S'.2 q = S.2 q ∧ μ' q = μ q) (hc : cellAt G (S'.2 a) (μ' a) a H1) : Rp G S' μ' H1 (locs ++ [⟨a, i⟩]) := by
  refine ⟨by rw [hz]; exact h.1, by rw [hz, hs]; exact h.2.1, fun q hq => ?_, fun q => ?_, fun q hq => ?_, fun l hl => ?_⟩
  · rw [hs] at hq
    rw [(hS q (by omega)).1]
    exact h.2.2.1 q hq
  · by_cases e : q = a
    · subst e; exact hc
    · rw [(hS q e).1, (hS q e).2]
      exact (h.2.2.2.1 q).kept (oq q e)
  · rw [oq q (by omega)]
    exact h.2.2.2.2.1 q hq
  · rcases List.mem_append.mp hl with q | q
    · exact h.2.2.2.2.2 l q
    · rw [List.mem_singleton.mp q]; exact ha
/-- a cell more -/
def Sx (S : Sh) (k : Kd) : Sh := (S.1 + 1, fun a => if a = S.1 then some k else S.2 a)
def Mx (μ : Mu) (a : Nat) (f : Nat → Int32) : Mu := fun b => if b = a then f else μ b
theorem Rp.push {G : Gl} {S : Sh} {μ : Mu} {H H1 : Heap} {locs : List Loc} {k : Kd} {f : Nat → Int32} (h : Rp G S μ H locs) (hz : H1.size = S.1 + 1) (oq : ∀ q : Nat, q < S.1 → H1[q]? = H[q]?) (hc : cellAt G (some k) f S.1 H1) : Rp G (Sx S k) (Mx μ S.1 f) H1 locs := by
  refine ⟨by rw [hz]; have := h.1; have := h.2.1; omega, hz, fun q hq => ?_, fun q => ?_, fun q hq => ?_, h.2.2.2.2.2⟩
  · have h1 : S.1 + 1 ≤ q := hq
    show (if q = S.1 then some k else S.2 q) = none
    rw [if_neg (by omega)]
    exact h.2.2.1 q (by omega)
  · show cellAt G (if q = S.1 then some k else S.2 q) (if q = S.1 then f else μ q) q H1
    by_cases e : q = S.1
    · subst e
      simp only [if_true]
      exact hc
    · rw [if_neg e, if_neg e]
      by_cases l : q < S.1
      · exact (h.2.2.2.1 q).kept (oq q l)
      · rw [h.2.2.1 q (by omega)]; trivial
  · have := h.1
    have := h.2.1
    rw [oq q (by omega)]
    exact h.2.2.2.2.1 q hq
theorem Rp.lt {G : Gl} {S : Sh} {μ : Mu} {H : Heap} {locs : List Loc} (h : Rp G S μ H locs) {a : Nat} {k : Kd} (hk : S.2 a = some k) : a < S.1 := by
  rcases Nat.lt_or_ge a S.1 with q | q
  · exact q
  · rw [h.2.2.1 a q] at hk; cases hk
/-- the words that the tables' laws of calls and fields don't carry: they are the law's start's own -/
def sN (j : Nat) : String := match j with
  | 0 => "PERSON_LEAST"
  | 1 => "PERSON_MOST"
  | 2 => "PIECE_LEAST"
  | 3 => "PIECE_MOST"
  | 4 => "ROPE_LEAST"
  | 5 => "ROPE_MOST"
  | 6 => "KIND_ABOVE"
  | _ => "BODIES"
def gN : List Cond := lw_tbl.filter (fun w => match w with | .fieldLinkNest .. => true | _ => false)
def Gok (G : Gl) : Prop := (∀ ci, ci < 11 → u_Kn G.1 (cN ci) (cT ci) (fN ci) (G.2.1 ci) (G.2.2.1 ci)) ∧ (∀ j, j < 8 → va_Z "RopesAtDawn" (sN j) "[I" (.ref (G.2.2.2 j)) (fun q => gb G ≤ q) G.1 G.1.heap) ∧ (∀ w ∈ gN, va_Nw w G.1) ∧ (∀ j, j < 3 → va_AO (rC j) G.1) ∧
  va_Z "java/lang/String" "COMPACT_STRINGS" "Z" (.int 1) (fun q => gb G ≤ q) G.1 G.1.heap ∧ (vk_R "RopesAtDawn$Reader" 23 "" (G.2.2.2 10) G.1 ∧ vk_R "RopesAtDawn" 203 "whbls" (G.2.2.2 11) G.1 ∧ vk_R "RopesAtDawn" 205 "wdpn" (G.2.2.2 12) G.1 ∧ vk_R "RopesAtDawnModel" 24 "whbls" (G.2.2.2 11) G.1 ∧ vk_R "RopesAtDawnModel" 26 "wdpn" (G.2.2.2 12) G.1)
def Cx (G : Gl) (mi : MI) (d mc : Nat) (p : Program) (R : Room) (s : State) (m : MethodId) (args : Array Value) (meth : Method) (c : Code) : Prop :=
  p.tables.exec = Jvm.exec ∧ c.code = mi.2.1 ∧ meth.sig.returnType = mi.2.2.2 ∧ c.maxLocals = mi.2.2.1 ∧ s.vm.findClass mi.1.cls = some m.cls ∧ (∀ w ∈ lw_gd, w.before args s = true) ∧ meth.locks = false ∧ meth.name = mi.1.name ∧ (d ≤ R.frames ∧ 64 * d + 13 ≤ R.locals ∧ mc ≤ R.cells ∧ 400 * mc ≤ R.slots) ∧ G.1.WarmedH s.vm ∧ Gok G
/-- where a method may leave with v -/
def Rk (mi : MI) (pc : Nat) (v : Option Value) : Prop :=
  (v = none ∧ mi.2.2.2 = none ∧ decode mi.2.1 pc = .ok (.return_, 1)) ∨ (∃ (x : Int32) (ty : FieldType), v = some (.int x) ∧ mi.2.2.2 = some ty ∧ narrow ty (.int x) = .int x ∧ decode mi.2.1 pc = .ok (.ireturn, 1)) ∨ (∃ (rt : FieldType) (w : Value), v = some w ∧ (w = .null ∨ ∃ a, w = .ref a) ∧ mi.2.2.2 = some rt ∧ ((∃ n, rt = .object n) ∨ ∃ t, rt = .array t) ∧ decode mi.2.1 pc = .ok (.areturn, 1))
def Rt (G : Gl) (mi : MI) (mc : Nat) (p : Program) (l : Launch) (e : Env) (R : Room) (s : State) (m : MethodId) (args : Array Value) (below : List Frame) (meth : Method) (c : Code) (Z : State → Prop) (Q : Option Value → Sh → Mu → Prop) : Prop :=
  ∀ (v : Option Value) (S' : Sh) (μ' : Mu) (H' : Heap) (locs' : List Loc) (cells' slots' pc' : Nat) (ls' : Array Slot), Q v S' μ' → Rp G S' μ' H' locs' → cells' ≤ mc → slots' ≤ 400 * mc → Rk mi pc' v → W p l e R s m args below meth c H' locs' cells' slots' Z (F0 m pc' ls' v.toList)
def X (G : Gl) (mi : MI) (d kc pc : Nat) (lv : List (Nat × Value)) (st : List Value) (S : Sh) (μ : Mu) (Q : Option Value → Sh → Mu → Prop) : Prop :=
  ∀ (p : Program) (l : Launch) (e : Env) (R : Room) (s : State) (m : MethodId) (args : Array Value) (below : List Frame) (meth : Method) (c : Code) (mc : Nat) (Z : State → Prop), Cx G mi d mc p R s m args meth c → Rt G mi mc p l e R s m args below meth c Z Q →
    ∀ (H : Heap) (locs : List Loc) (cells slots : Nat) (ls : Array Slot), Rp G S μ H locs → cells + kc ≤ mc ∧ slots + 400 * kc ≤ 400 * mc → lv_has ls mi.2.2.1 lv → W p l e R s m args below meth c H locs cells slots Z (F0 m pc ls st)
/-- what a method's end is asked for, by what it answers -/
def qi (K : Int32 → Sh → Mu → Prop) : Option Value → Sh → Mu → Prop := fun v S μ => ∃ r : Int32, v = some (.int r) ∧ K r S μ
def qv (K : Sh → Mu → Prop) : Option Value → Sh → Mu → Prop := fun v S μ => v = none ∧ K S μ
def qr (K : Option Nat → Sh → Mu → Prop) : Option Value → Sh → Mu → Prop := fun v S μ => ∃ r : Option Nat, v = some (va_rf r) ∧ K r S μ
def Dc (cc : ByteArray) (pc : Nat) (i : Instr) (len nx : Nat) : Prop := decode cc pc = .ok (i, len) ∧ pc + len = nx
def Tk (cc : ByteArray) (tb : List (Nat × Instr × Nat × Nat)) : Prop := ∀ q ∈ tb, Dc cc q.1 q.2.1 q.2.2.1 q.2.2.2
theorem Tk.of {cc : ByteArray} {tb : List (Nat × Instr × Nat × Nat)} (h : tb.all (fun q => decide (decode cc q.1 = .ok (q.2.1, q.2.2.1)) && decide (q.1 + q.2.2.1 = q.2.2.2)) = true) : Tk cc tb := by
  intro q hq
  have h1 := List.all_eq_true.mp h q hq
  simp only [Bool.and_eq_true, decide_eq_true_eq] at h1
  exact h1
theorem Tk.at {cc : ByteArray} {tb : List (Nat × Instr × Nat × Nat)} (h : Tk cc tb) (k : Nat) {pc len nx : Nat} {i : Instr} (hk : tb[k]? = some (pc, i, len, nx)) : Dc cc pc i len nx := h (pc, i, len, nx) (List.mem_of_getElem? hk)
/-- locals: read and written by place -/
def lget (lv : List (Nat × Value)) (i : Nat) : Option Value := match lv with
  | [] => none
  | (j, v) :: r => if i = j then some v else lget r i
def lset (lv : List (Nat × Value)) (i : Nat) (v : Value) : List (Nat × Value) := match lv with
  | [] => [(i, v)]
  | (j, w) :: r => if i = j then (i, v) :: r.filter (fun q => !(q.1 == i)) else (j, w) :: lset r i v
theorem lget_mem {lv : List (Nat × Value)} {i : Nat} {v : Value} (h : lget lv i = some v) : (i, v) ∈ lv := by
  induction lv with
  | nil => cases h
  | cons q r ih =>
    obtain ⟨j, w⟩ := q
    unfold lget at h
    by_cases e : i = j
    · rw [if_pos e] at h
      cases h
      rw [e]
      exact List.mem_cons_self
    · rw [if_neg e] at h
      exact List.mem_cons_of_mem _ (ih h)
theorem lset_mem {lv : List (Nat × Value)} {i : Nat} {v : Value} {q : Nat × Value} (h : q ∈ lset lv i v) : q = (i, v) ∨ (q ∈ lv ∧ ¬ q.1 = i) := by
  induction lv with
  | nil => exact Or.inl (List.mem_singleton.mp h)
  | cons p r ih =>
    obtain ⟨j, w⟩ := p
    unfold lset at h
    by_cases e : i = j
    · rw [if_pos e] at h
      rcases List.mem_cons.mp h with h | h
      · exact Or.inl h
      · obtain ⟨h1, h2⟩ := List.mem_filter.mp h
        exact Or.inr ⟨List.mem_cons_of_mem _ h1, by simpa using h2⟩
    · rw [if_neg e] at h
      rcases List.mem_cons.mp h with h | h
      · exact Or.inr ⟨by rw [h]; exact List.mem_cons_self, by rw [h]; exact fun z => e z.symm⟩
      · rcases ih h with h | ⟨h1, h2⟩
        · exact Or.inl h
        · exact Or.inr ⟨List.mem_cons_of_mem _ h1, h2⟩
/-- no listed value of two slots -/
def lone (lv : List (Nat × Value)) : Bool := lv.all (fun q => decide (q.2.category = 1))
theorem lv_setL {ls : Array Slot} {nL : Nat} {lv lv' : List (Nat × Value)} {i : Nat} {v : Value} (h : lv_has ls nL ((i, v) :: lv.filter (fun q => !(q.1 == i) && !(q.1 + 1 == i && q.2.category == 2)))) (h1 : lone lv = true) (hl : lset lv i v = lv') : lv_has ls nL lv' := by
  refine ⟨h.1, h.2.1, fun q hq => ?_⟩
  rw [← hl] at hq
  rcases lset_mem hq with e | ⟨h2, h3⟩
  · rw [e]; exact h.2.2 _ List.mem_cons_self
  · refine h.2.2 q (List.mem_cons_of_mem _ (List.mem_filter.mpr ⟨h2, ?_⟩))
    have hc := List.all_eq_true.mp h1 q h2
    simp only [decide_eq_true_eq] at hc
    simp [h3, hc]
section
variable {G : Gl} {mi : MI} {d kc pc nx : Nat} {lv lv' : List (Nat × Value)} {rest : List Value} {S : Sh} {μ : Mu} {Q : Option Value → Sh → Mu → Prop}
theorem X_iconst {n : Int} {v : Int32} (hd : Dc mi.2.1 pc (.iconst n) 1 nx) (hv : Int32.ofInt n = v) (k : X G mi d kc nx lv (.int v :: rest) S μ Q) : X G mi d kc pc lv (rest) S μ Q := by
  intro p l e R s m args below meth c mc Z C hZ H locs cells slots ls hR hk hl
  obtain ⟨hd, rfl⟩ := hd
  exact lv_iconst C.1 C.2.1 hd hv (k p l e R s m args below meth c mc Z C hZ H locs cells slots ls hR hk hl)
theorem X_bipush {n : Int} {v : Int32} (hd : Dc mi.2.1 pc (.bipush n) 2 nx) (hv : (Int8.ofInt n).toInt32 = v) (k : X G mi d kc nx lv (.int v :: rest) S μ Q) : X G mi d kc pc lv (rest) S μ Q := by
  intro p l e R s m args below meth c mc Z C hZ H locs cells slots ls hR hk hl
  obtain ⟨hd, rfl⟩ := hd
  exact lv_bipush C.1 C.2.1 hd hv (k p l e R s m args below meth c mc Z C hZ H locs cells slots ls hR hk hl)
theorem X_sipush {n : Int} {v : Int32} (hd : Dc mi.2.1 pc (.sipush n) 3 nx) (hv : (Int16.ofInt n).toInt32 = v) (k : X G mi d kc nx lv (.int v :: rest) S μ Q) : X G mi d kc pc lv (rest) S μ Q := by
  intro p l e R s m args below meth c mc Z C hZ H locs cells slots ls hR hk hl
  obtain ⟨hd, rfl⟩ := hd
  exact lv_sipush C.1 C.2.1 hd hv (k p l e R s m args below meth c mc Z C hZ H locs cells slots ls hR hk hl)
theorem X_null (hd : Dc mi.2.1 pc (.aconst_null) 1 nx) (k : X G mi d kc nx lv (.null :: rest) S μ Q) : X G mi d kc pc lv (rest) S μ Q := by
  intro p l e R s m args below meth c mc Z C hZ H locs cells slots ls hR hk hl
  obtain ⟨hd, rfl⟩ := hd
  exact lv_null C.1 C.2.1 hd (k p l e R s m args below meth c mc Z C hZ H locs cells slots ls hR hk hl)
theorem X_ldc {v : Int32} {i : Nat} (hd : Dc mi.2.1 pc (.ldc i) 2 nx) (hw : Cond.constant mi.1.cls i v ∈ lw_gd) (k : X G mi d kc nx lv (.int v :: rest) S μ Q) : X G mi d kc pc lv (rest) S μ Q := by
  intro p l e R s m args below meth c mc Z C hZ H locs cells slots ls hR hk hl
  obtain ⟨hd, rfl⟩ := hd
  exact lv_ldc C.1 C.2.1 C.2.2.2.2.1 (C.2.2.2.2.2.1 _ hw) hd (k p l e R s m args below meth c mc Z C hZ H locs cells slots ls hR hk hl)
theorem X_ldcw {v : Int32} {i : Nat} (hd : Dc mi.2.1 pc (.ldc_w i) 3 nx) (hw : Cond.constant mi.1.cls i v ∈ lw_gd) (k : X G mi d kc nx lv (.int v :: rest) S μ Q) : X G mi d kc pc lv (rest) S μ Q := by
  intro p l e R s m args below meth c mc Z C hZ H locs cells slots ls hR hk hl
  obtain ⟨hd, rfl⟩ := hd
  exact lv_ldcw C.1 C.2.1 C.2.2.2.2.1 (C.2.2.2.2.2.1 _ hw) hd (k p l e R s m args below meth c mc Z C hZ H locs cells slots ls hR hk hl)
theorem X_ldc2 {v : Int64} {i : Nat} (hd : Dc mi.2.1 pc (.ldc2_w i) 3 nx) (hw : Cond.constantLong mi.1.cls i v ∈ lw_gd) (k : X G mi d kc nx lv (.long v :: rest) S μ Q) : X G mi d kc pc lv (rest) S μ Q := by
  intro p l e R s m args below meth c mc Z C hZ H locs cells slots ls hR hk hl
  obtain ⟨hd, rfl⟩ := hd
  exact lv_ldc2 C.1 C.2.1 C.2.2.2.2.1 (C.2.2.2.2.2.1 _ hw) hd (k p l e R s m args below meth c mc Z C hZ H locs cells slots ls hR hk hl)
theorem X_iload_n {n : Fin 4} {x : Int32} (hd : Dc mi.2.1 pc (.iload_n n) 1 nx) (hv : lget lv n = some (.int x)) (k : X G mi d kc nx lv (.int x :: rest) S μ Q) : X G mi d kc pc lv (rest) S μ Q := by
  intro p l e R s m args below meth c mc Z C hZ H locs cells slots ls hR hk hl
  obtain ⟨hd, rfl⟩ := hd
  exact lv_iload_n C.1 C.2.1 hd rfl (hl.2.2 _ (lget_mem hv)) (k p l e R s m args below meth c mc Z C hZ H locs cells slots ls hR hk hl)
theorem X_iload {n : Nat} {x : Int32} (hd : Dc mi.2.1 pc (.iload n) 2 nx) (hv : lget lv n = some (.int x)) (k : X G mi d kc nx lv (.int x :: rest) S μ Q) : X G mi d kc pc lv (rest) S μ Q := by
  intro p l e R s m args below meth c mc Z C hZ H locs cells slots ls hR hk hl
  obtain ⟨hd, rfl⟩ := hd
  exact lv_iload C.1 C.2.1 hd (hl.2.2 _ (lget_mem hv)) (k p l e R s m args below meth c mc Z C hZ H locs cells slots ls hR hk hl)
theorem X_lload_n {n : Fin 4} {x : Int64} (hd : Dc mi.2.1 pc (.lload_n n) 1 nx) (hv : lget lv n = some (.long x)) (k : X G mi d kc nx lv (.long x :: rest) S μ Q) : X G mi d kc pc lv (rest) S μ Q := by
  intro p l e R s m args below meth c mc Z C hZ H locs cells slots ls hR hk hl
  obtain ⟨hd, rfl⟩ := hd
  exact lv_lload_n C.1 C.2.1 hd rfl (hl.2.2 _ (lget_mem hv)) (k p l e R s m args below meth c mc Z C hZ H locs cells slots ls hR hk hl)
theorem X_aload_n {n : Fin 4} {x : Nat} (hd : Dc mi.2.1 pc (.aload_n n) 1 nx) (hv : lget lv n = some (.ref x)) (k : X G mi d kc nx lv (.ref x :: rest) S μ Q) : X G mi d kc pc lv (rest) S μ Q := by
  intro p l e R s m args below meth c mc Z C hZ H locs cells slots ls hR hk hl
  obtain ⟨hd, rfl⟩ := hd
  exact lv_aload_n C.1 C.2.1 hd rfl (hl.2.2 _ (lget_mem hv)) (k p l e R s m args below meth c mc Z C hZ H locs cells slots ls hR hk hl)
theorem X_aload {n : Nat} {x : Nat} (hd : Dc mi.2.1 pc (.aload n) 2 nx) (hv : lget lv n = some (.ref x)) (k : X G mi d kc nx lv (.ref x :: rest) S μ Q) : X G mi d kc pc lv (rest) S μ Q := by
  intro p l e R s m args below meth c mc Z C hZ H locs cells slots ls hR hk hl
  obtain ⟨hd, rfl⟩ := hd
  exact lv_aload C.1 C.2.1 hd (hl.2.2 _ (lget_mem hv)) (k p l e R s m args below meth c mc Z C hZ H locs cells slots ls hR hk hl)
theorem X_aload_nN {n : Fin 4} (hd : Dc mi.2.1 pc (.aload_n n) 1 nx) (hv : lget lv n = some .null) (k : X G mi d kc nx lv (.null :: rest) S μ Q) : X G mi d kc pc lv (rest) S μ Q := by
  intro p l e R s m args below meth c mc Z C hZ H locs cells slots ls hR hk hl
  obtain ⟨hd, rfl⟩ := hd
  exact lv_aload_nN C.1 C.2.1 hd rfl (hl.2.2 _ (lget_mem hv)) (k p l e R s m args below meth c mc Z C hZ H locs cells slots ls hR hk hl)
theorem X_aloadN {n : Nat} (hd : Dc mi.2.1 pc (.aload n) 2 nx) (hv : lget lv n = some .null) (k : X G mi d kc nx lv (.null :: rest) S μ Q) : X G mi d kc pc lv (rest) S μ Q := by
  intro p l e R s m args below meth c mc Z C hZ H locs cells slots ls hR hk hl
  obtain ⟨hd, rfl⟩ := hd
  exact lv_aloadN C.1 C.2.1 hd (hl.2.2 _ (lget_mem hv)) (k p l e R s m args below meth c mc Z C hZ H locs cells slots ls hR hk hl)
theorem X_istore_n {n : Fin 4} {x : Int32} (hd : Dc mi.2.1 pc (.istore_n n) 1 nx) (hn : (n : Nat) < mi.2.2.1) (h1 : lone lv = true) (hs : lset lv (n : Nat) (Value.int x) = lv') (k : X G mi d kc nx lv' rest S μ Q) : X G mi d kc pc lv (Value.int x :: rest) S μ Q := by
  intro p l e R s m args below meth c mc Z C hZ H locs cells slots ls hR hk hl
  obtain ⟨hd, rfl⟩ := hd
  exact lv_istore_n C.1 C.2.1 hd rfl hl hn rfl (fun ls' hl' => k p l e R s m args below meth c mc Z C hZ H locs cells slots ls' hR hk (lv_setL hl' h1 hs))
theorem X_istore {n : Nat} {x : Int32} (hd : Dc mi.2.1 pc (.istore n) 2 nx) (hn : n < mi.2.2.1) (h1 : lone lv = true) (hs : lset lv n (Value.int x) = lv') (k : X G mi d kc nx lv' rest S μ Q) : X G mi d kc pc lv (Value.int x :: rest) S μ Q := by
  intro p l e R s m args below meth c mc Z C hZ H locs cells slots ls hR hk hl
  obtain ⟨hd, rfl⟩ := hd
  exact lv_istore C.1 C.2.1 hd hl hn rfl (fun ls' hl' => k p l e R s m args below meth c mc Z C hZ H locs cells slots ls' hR hk (lv_setL hl' h1 hs))
theorem X_astore_n {n : Fin 4} {x : Nat} (hd : Dc mi.2.1 pc (.astore_n n) 1 nx) (hn : (n : Nat) < mi.2.2.1) (h1 : lone lv = true) (hs : lset lv (n : Nat) (Value.ref x) = lv') (k : X G mi d kc nx lv' rest S μ Q) : X G mi d kc pc lv (Value.ref x :: rest) S μ Q := by
  intro p l e R s m args below meth c mc Z C hZ H locs cells slots ls hR hk hl
  obtain ⟨hd, rfl⟩ := hd
  exact lv_astore_n C.1 C.2.1 hd rfl hl hn rfl (fun ls' hl' => k p l e R s m args below meth c mc Z C hZ H locs cells slots ls' hR hk (lv_setL hl' h1 hs))
theorem X_astore {n : Nat} {x : Nat} (hd : Dc mi.2.1 pc (.astore n) 2 nx) (hn : n < mi.2.2.1) (h1 : lone lv = true) (hs : lset lv n (Value.ref x) = lv') (k : X G mi d kc nx lv' rest S μ Q) : X G mi d kc pc lv (Value.ref x :: rest) S μ Q := by
  intro p l e R s m args below meth c mc Z C hZ H locs cells slots ls hR hk hl
  obtain ⟨hd, rfl⟩ := hd
  exact lv_astore C.1 C.2.1 hd hl hn rfl (fun ls' hl' => k p l e R s m args below meth c mc Z C hZ H locs cells slots ls' hR hk (lv_setL hl' h1 hs))
theorem X_astore_nN {n : Fin 4} (hd : Dc mi.2.1 pc (.astore_n n) 1 nx) (hn : (n : Nat) < mi.2.2.1) (h1 : lone lv = true) (hs : lset lv (n : Nat) (Value.null) = lv') (k : X G mi d kc nx lv' rest S μ Q) : X G mi d kc pc lv (Value.null :: rest) S μ Q := by
  intro p l e R s m args below meth c mc Z C hZ H locs cells slots ls hR hk hl
  obtain ⟨hd, rfl⟩ := hd
  exact lv_astore_nN C.1 C.2.1 hd rfl hl hn rfl (fun ls' hl' => k p l e R s m args below meth c mc Z C hZ H locs cells slots ls' hR hk (lv_setL hl' h1 hs))
theorem X_astoreN {n : Nat} (hd : Dc mi.2.1 pc (.astore n) 2 nx) (hn : n < mi.2.2.1) (h1 : lone lv = true) (hs : lset lv n (Value.null) = lv') (k : X G mi d kc nx lv' rest S μ Q) : X G mi d kc pc lv (Value.null :: rest) S μ Q := by
  intro p l e R s m args below meth c mc Z C hZ H locs cells slots ls hR hk hl
  obtain ⟨hd, rfl⟩ := hd
  exact lv_astoreN C.1 C.2.1 hd hl hn rfl (fun ls' hl' => k p l e R s m args below meth c mc Z C hZ H locs cells slots ls' hR hk (lv_setL hl' h1 hs))
theorem X_iinc {i : Nat} {n : Int} {x v : Int32} (hd : Dc mi.2.1 pc (.iinc i n) 3 nx) (hv : lget lv i = some (.int x)) (hw : Int32.ofInt n = v) (hn : i < mi.2.2.1) (h1 : lone lv = true) (hs : lset lv i (.int (x + v)) = lv') (k : X G mi d kc nx lv' rest S μ Q) : X G mi d kc pc lv rest S μ Q := by
  intro p l e R s m args below meth c mc Z C hZ H locs cells slots ls hR hk hl
  obtain ⟨hd, rfl⟩ := hd
  obtain ⟨k0, hk0⟩ := List.getElem?_of_mem (lget_mem hv)
  subst hw
  exact lv_iinc C.1 C.2.1 hd hl hk0 rfl hn rfl (fun ls' hl' => k p l e R s m args below meth c mc Z C hZ H locs cells slots ls' hR hk (lv_setL hl' h1 hs))
theorem X_iadd {x y : Int32} (hd : Dc mi.2.1 pc (.iadd) 1 nx) (k : X G mi d kc nx lv (.int (x + y) :: rest) S μ Q) : X G mi d kc pc lv (.int y :: .int x :: rest) S μ Q := by
  intro p l e R s m args below meth c mc Z C hZ H locs cells slots ls hR hk hl
  obtain ⟨hd, rfl⟩ := hd
  exact lv_iadd C.1 C.2.1 hd (k p l e R s m args below meth c mc Z C hZ H locs cells slots ls hR hk hl)
theorem X_isub {x y : Int32} (hd : Dc mi.2.1 pc (.isub) 1 nx) (k : X G mi d kc nx lv (.int (x - y) :: rest) S μ Q) : X G mi d kc pc lv (.int y :: .int x :: rest) S μ Q := by
  intro p l e R s m args below meth c mc Z C hZ H locs cells slots ls hR hk hl
  obtain ⟨hd, rfl⟩ := hd
  exact lv_isub C.1 C.2.1 hd (k p l e R s m args below meth c mc Z C hZ H locs cells slots ls hR hk hl)
theorem X_imul {x y : Int32} (hd : Dc mi.2.1 pc (.imul) 1 nx) (k : X G mi d kc nx lv (.int (x * y) :: rest) S μ Q) : X G mi d kc pc lv (.int y :: .int x :: rest) S μ Q := by
  intro p l e R s m args below meth c mc Z C hZ H locs cells slots ls hR hk hl
  obtain ⟨hd, rfl⟩ := hd
  exact lv_imul C.1 C.2.1 hd (k p l e R s m args below meth c mc Z C hZ H locs cells slots ls hR hk hl)
theorem X_iand {x y : Int32} (hd : Dc mi.2.1 pc (.iand) 1 nx) (k : X G mi d kc nx lv (.int (x &&& y) :: rest) S μ Q) : X G mi d kc pc lv (.int y :: .int x :: rest) S μ Q := by
  intro p l e R s m args below meth c mc Z C hZ H locs cells slots ls hR hk hl
  obtain ⟨hd, rfl⟩ := hd
  exact lv_iand C.1 C.2.1 hd (k p l e R s m args below meth c mc Z C hZ H locs cells slots ls hR hk hl)
theorem X_ior {x y : Int32} (hd : Dc mi.2.1 pc (.ior) 1 nx) (k : X G mi d kc nx lv (.int (x ||| y) :: rest) S μ Q) : X G mi d kc pc lv (.int y :: .int x :: rest) S μ Q := by
  intro p l e R s m args below meth c mc Z C hZ H locs cells slots ls hR hk hl
  obtain ⟨hd, rfl⟩ := hd
  exact lv_ior C.1 C.2.1 hd (k p l e R s m args below meth c mc Z C hZ H locs cells slots ls hR hk hl)
theorem X_ixor {x y : Int32} (hd : Dc mi.2.1 pc (.ixor) 1 nx) (k : X G mi d kc nx lv (.int (x ^^^ y) :: rest) S μ Q) : X G mi d kc pc lv (.int y :: .int x :: rest) S μ Q := by
  intro p l e R s m args below meth c mc Z C hZ H locs cells slots ls hR hk hl
  obtain ⟨hd, rfl⟩ := hd
  exact lv_ixor C.1 C.2.1 hd (k p l e R s m args below meth c mc Z C hZ H locs cells slots ls hR hk hl)
theorem X_ishl {x y : Int32} (hd : Dc mi.2.1 pc (.ishl) 1 nx) (k : X G mi d kc nx lv (.int (x <<< (y &&& 31)) :: rest) S μ Q) : X G mi d kc pc lv (.int y :: .int x :: rest) S μ Q := by
  intro p l e R s m args below meth c mc Z C hZ H locs cells slots ls hR hk hl
  obtain ⟨hd, rfl⟩ := hd
  exact lv_ishl C.1 C.2.1 hd (k p l e R s m args below meth c mc Z C hZ H locs cells slots ls hR hk hl)
theorem X_ishr {x y : Int32} (hd : Dc mi.2.1 pc (.ishr) 1 nx) (k : X G mi d kc nx lv (.int (x >>> (y &&& 31)) :: rest) S μ Q) : X G mi d kc pc lv (.int y :: .int x :: rest) S μ Q := by
  intro p l e R s m args below meth c mc Z C hZ H locs cells slots ls hR hk hl
  obtain ⟨hd, rfl⟩ := hd
  exact lv_ishr C.1 C.2.1 hd (k p l e R s m args below meth c mc Z C hZ H locs cells slots ls hR hk hl)
theorem X_idiv {x y : Int32} (hd : Dc mi.2.1 pc (.idiv) 1 nx) (hne : ¬ y = 0) (k : X G mi d kc nx lv (.int (x / y) :: rest) S μ Q) : X G mi d kc pc lv (.int y :: .int x :: rest) S μ Q := by
  intro p l e R s m args below meth c mc Z C hZ H locs cells slots ls hR hk hl
  obtain ⟨hd, rfl⟩ := hd
  exact lv_idiv C.1 C.2.1 hd hne (k p l e R s m args below meth c mc Z C hZ H locs cells slots ls hR hk hl)
theorem X_irem {x y : Int32} (hd : Dc mi.2.1 pc (.irem) 1 nx) (hne : ¬ y = 0) (k : X G mi d kc nx lv (.int (x - x / y * y) :: rest) S μ Q) : X G mi d kc pc lv (.int y :: .int x :: rest) S μ Q := by
  intro p l e R s m args below meth c mc Z C hZ H locs cells slots ls hR hk hl
  obtain ⟨hd, rfl⟩ := hd
  exact lv_irem C.1 C.2.1 hd hne (k p l e R s m args below meth c mc Z C hZ H locs cells slots ls hR hk hl)
theorem X_ineg {x : Int32} (hd : Dc mi.2.1 pc (.ineg) 1 nx) (k : X G mi d kc nx lv (.int (0 - x) :: rest) S μ Q) : X G mi d kc pc lv (.int x :: rest) S μ Q := by
  intro p l e R s m args below meth c mc Z C hZ H locs cells slots ls hR hk hl
  obtain ⟨hd, rfl⟩ := hd
  exact lv_ineg C.1 C.2.1 hd (k p l e R s m args below meth c mc Z C hZ H locs cells slots ls hR hk hl)
theorem X_iushr {x y : Int32} (hd : Dc mi.2.1 pc (.iushr) 1 nx) (k : X G mi d kc nx lv (.int ((x.toUInt32 >>> (y.toUInt32 &&& Int32.toUInt32 31)).toInt32) :: rest) S μ Q) : X G mi d kc pc lv (.int y :: .int x :: rest) S μ Q := by
  intro p l e R s m args below meth c mc Z C hZ H locs cells slots ls hR hk hl
  obtain ⟨hd, rfl⟩ := hd
  exact lv_iushr C.1 C.2.1 hd rfl (k p l e R s m args below meth c mc Z C hZ H locs cells slots ls hR hk hl)
theorem X_i2l {x : Int32} (hd : Dc mi.2.1 pc (.i2l) 1 nx) (k : X G mi d kc nx lv (.long (x.toInt64) :: rest) S μ Q) : X G mi d kc pc lv (.int x :: rest) S μ Q := by
  intro p l e R s m args below meth c mc Z C hZ H locs cells slots ls hR hk hl
  obtain ⟨hd, rfl⟩ := hd
  exact lv_i2l C.1 C.2.1 hd rfl (k p l e R s m args below meth c mc Z C hZ H locs cells slots ls hR hk hl)
theorem X_l2i {x : Int64} (hd : Dc mi.2.1 pc (.l2i) 1 nx) (k : X G mi d kc nx lv (.int (x.toInt32) :: rest) S μ Q) : X G mi d kc pc lv (.long x :: rest) S μ Q := by
  intro p l e R s m args below meth c mc Z C hZ H locs cells slots ls hR hk hl
  obtain ⟨hd, rfl⟩ := hd
  exact lv_l2i C.1 C.2.1 hd rfl (k p l e R s m args below meth c mc Z C hZ H locs cells slots ls hR hk hl)
theorem X_i2b {x : Int32} (hd : Dc mi.2.1 pc (.i2b) 1 nx) (k : X G mi d kc nx lv (.int (x.toInt8.toInt32) :: rest) S μ Q) : X G mi d kc pc lv (.int x :: rest) S μ Q := by
  intro p l e R s m args below meth c mc Z C hZ H locs cells slots ls hR hk hl
  obtain ⟨hd, rfl⟩ := hd
  exact lv_i2b C.1 C.2.1 hd rfl (k p l e R s m args below meth c mc Z C hZ H locs cells slots ls hR hk hl)
theorem X_i2s {x : Int32} (hd : Dc mi.2.1 pc (.i2s) 1 nx) (k : X G mi d kc nx lv (.int (x.toInt16.toInt32) :: rest) S μ Q) : X G mi d kc pc lv (.int x :: rest) S μ Q := by
  intro p l e R s m args below meth c mc Z C hZ H locs cells slots ls hR hk hl
  obtain ⟨hd, rfl⟩ := hd
  exact lv_i2s C.1 C.2.1 hd rfl (k p l e R s m args below meth c mc Z C hZ H locs cells slots ls hR hk hl)
theorem X_i2c {x : Int32} (hd : Dc mi.2.1 pc (.i2c) 1 nx) (k : X G mi d kc nx lv (.int ((x.toUInt32 % 65536).toInt32) :: rest) S μ Q) : X G mi d kc pc lv (.int x :: rest) S μ Q := by
  intro p l e R s m args below meth c mc Z C hZ H locs cells slots ls hR hk hl
  obtain ⟨hd, rfl⟩ := hd
  exact lv_i2c C.1 C.2.1 hd rfl (k p l e R s m args below meth c mc Z C hZ H locs cells slots ls hR hk hl)
theorem X_ladd {x y : Int64} (hd : Dc mi.2.1 pc (.ladd) 1 nx) (k : X G mi d kc nx lv (.long (x + y) :: rest) S μ Q) : X G mi d kc pc lv (.long y :: .long x :: rest) S μ Q := by
  intro p l e R s m args below meth c mc Z C hZ H locs cells slots ls hR hk hl
  obtain ⟨hd, rfl⟩ := hd
  exact lv_ladd C.1 C.2.1 hd (k p l e R s m args below meth c mc Z C hZ H locs cells slots ls hR hk hl)
theorem X_land {x y : Int64} (hd : Dc mi.2.1 pc (.land) 1 nx) (k : X G mi d kc nx lv (.long (x &&& y) :: rest) S μ Q) : X G mi d kc pc lv (.long y :: .long x :: rest) S μ Q := by
  intro p l e R s m args below meth c mc Z C hZ H locs cells slots ls hR hk hl
  obtain ⟨hd, rfl⟩ := hd
  exact lv_land C.1 C.2.1 hd (k p l e R s m args below meth c mc Z C hZ H locs cells slots ls hR hk hl)
theorem X_lor {x y : Int64} (hd : Dc mi.2.1 pc (.lor) 1 nx) (k : X G mi d kc nx lv (.long (x ||| y) :: rest) S μ Q) : X G mi d kc pc lv (.long y :: .long x :: rest) S μ Q := by
  intro p l e R s m args below meth c mc Z C hZ H locs cells slots ls hR hk hl
  obtain ⟨hd, rfl⟩ := hd
  exact lv_lor C.1 C.2.1 hd (k p l e R s m args below meth c mc Z C hZ H locs cells slots ls hR hk hl)
theorem X_lshl {x : Int64} {y : Int32} (hd : Dc mi.2.1 pc (.lshl) 1 nx) (k : X G mi d kc nx lv (.long (x <<< (y.toInt64 &&& 63)) :: rest) S μ Q) : X G mi d kc pc lv (.int y :: .long x :: rest) S μ Q := by
  intro p l e R s m args below meth c mc Z C hZ H locs cells slots ls hR hk hl
  obtain ⟨hd, rfl⟩ := hd
  exact lv_lshl C.1 C.2.1 hd rfl (k p l e R s m args below meth c mc Z C hZ H locs cells slots ls hR hk hl)
theorem X_lshr {x : Int64} {y : Int32} (hd : Dc mi.2.1 pc (.lshr) 1 nx) (k : X G mi d kc nx lv (.long (x >>> (y.toInt64 &&& 63)) :: rest) S μ Q) : X G mi d kc pc lv (.int y :: .long x :: rest) S μ Q := by
  intro p l e R s m args below meth c mc Z C hZ H locs cells slots ls hR hk hl
  obtain ⟨hd, rfl⟩ := hd
  exact lv_lshr C.1 C.2.1 hd rfl (k p l e R s m args below meth c mc Z C hZ H locs cells slots ls hR hk hl)
theorem X_lushr {x : Int64} {y : Int32} (hd : Dc mi.2.1 pc (.lushr) 1 nx) (k : X G mi d kc nx lv (.long ((x.toUInt64 >>> (y.toInt64.toUInt64 &&& Int64.toUInt64 63)).toInt64) :: rest) S μ Q) : X G mi d kc pc lv (.int y :: .long x :: rest) S μ Q := by
  intro p l e R s m args below meth c mc Z C hZ H locs cells slots ls hR hk hl
  obtain ⟨hd, rfl⟩ := hd
  exact lv_lushr C.1 C.2.1 hd rfl (k p l e R s m args below meth c mc Z C hZ H locs cells slots ls hR hk hl)
theorem X_dup {v : Value} (hd : Dc mi.2.1 pc (.dup) 1 nx) (hc : v.category = 1) (k : X G mi d kc nx lv (v :: v :: rest) S μ Q) : X G mi d kc pc lv (v :: rest) S μ Q := by
  intro p l e R s m args below meth c mc Z C hZ H locs cells slots ls hR hk hl
  obtain ⟨hd, rfl⟩ := hd
  exact lv_dup C.1 C.2.1 hd hc (k p l e R s m args below meth c mc Z C hZ H locs cells slots ls hR hk hl)
theorem X_pop {v : Value} (hd : Dc mi.2.1 pc (.pop) 1 nx) (hc : v.category = 1) (k : X G mi d kc nx lv (rest) S μ Q) : X G mi d kc pc lv (v :: rest) S μ Q := by
  intro p l e R s m args below meth c mc Z C hZ H locs cells slots ls hR hk hl
  obtain ⟨hd, rfl⟩ := hd
  exact lv_pop C.1 C.2.1 hd hc (k p l e R s m args below meth c mc Z C hZ H locs cells slots ls hR hk hl)
theorem X_dup2 {v w : Value} (hd : Dc mi.2.1 pc (.dup2) 1 nx) (hc : v.category = 1) (hc2 : w.category = 1) (k : X G mi d kc nx lv (v :: w :: v :: w :: rest) S μ Q) : X G mi d kc pc lv (v :: w :: rest) S μ Q := by
  intro p l e R s m args below meth c mc Z C hZ H locs cells slots ls hR hk hl
  obtain ⟨hd, rfl⟩ := hd
  exact lv_dup2_11 C.1 C.2.1 hd hc hc2 (k p l e R s m args below meth c mc Z C hZ H locs cells slots ls hR hk hl)
theorem X_icmp_eq {x y : Int32} {off : Int} {tgt : Nat} (hd : Dc mi.2.1 pc (.if_icmp .eq off) 3 nx) (ht : (pc : Int) + off = (tgt : Int)) (kt : x = y → X G mi d kc tgt lv rest S μ Q) (kf : ¬ x = y → X G mi d kc nx lv rest S μ Q) : X G mi d kc pc lv (.int y :: .int x :: rest) S μ Q := by
  intro p l e R s m args below meth c mc Z C hZ H locs cells slots ls hR hk hl
  obtain ⟨hd, rfl⟩ := hd
  exact lv_icmp_eq C.1 C.2.1 hd ht (fun z => kt z p l e R s m args below meth c mc Z C hZ H locs cells slots ls hR hk hl) (fun z => kf z p l e R s m args below meth c mc Z C hZ H locs cells slots ls hR hk hl)
theorem X_if_eq {x : Int32} {off : Int} {tgt : Nat} (hd : Dc mi.2.1 pc (.ifCond .eq off) 3 nx) (ht : (pc : Int) + off = (tgt : Int)) (kt : x = 0 → X G mi d kc tgt lv rest S μ Q) (kf : ¬ x = 0 → X G mi d kc nx lv rest S μ Q) : X G mi d kc pc lv (.int x :: rest) S μ Q := by
  intro p l e R s m args below meth c mc Z C hZ H locs cells slots ls hR hk hl
  obtain ⟨hd, rfl⟩ := hd
  exact lv_if_eq C.1 C.2.1 hd ht (fun z => kt z p l e R s m args below meth c mc Z C hZ H locs cells slots ls hR hk hl) (fun z => kf z p l e R s m args below meth c mc Z C hZ H locs cells slots ls hR hk hl)
theorem X_icmp_ne {x y : Int32} {off : Int} {tgt : Nat} (hd : Dc mi.2.1 pc (.if_icmp .ne off) 3 nx) (ht : (pc : Int) + off = (tgt : Int)) (kt : ¬ x = y → X G mi d kc tgt lv rest S μ Q) (kf : x = y → X G mi d kc nx lv rest S μ Q) : X G mi d kc pc lv (.int y :: .int x :: rest) S μ Q := by
  intro p l e R s m args below meth c mc Z C hZ H locs cells slots ls hR hk hl
  obtain ⟨hd, rfl⟩ := hd
  exact lv_icmp_ne C.1 C.2.1 hd ht (fun z => kt z p l e R s m args below meth c mc Z C hZ H locs cells slots ls hR hk hl) (fun z => kf z p l e R s m args below meth c mc Z C hZ H locs cells slots ls hR hk hl)
theorem X_if_ne {x : Int32} {off : Int} {tgt : Nat} (hd : Dc mi.2.1 pc (.ifCond .ne off) 3 nx) (ht : (pc : Int) + off = (tgt : Int)) (kt : ¬ x = 0 → X G mi d kc tgt lv rest S μ Q) (kf : x = 0 → X G mi d kc nx lv rest S μ Q) : X G mi d kc pc lv (.int x :: rest) S μ Q := by
  intro p l e R s m args below meth c mc Z C hZ H locs cells slots ls hR hk hl
  obtain ⟨hd, rfl⟩ := hd
  exact lv_if_ne C.1 C.2.1 hd ht (fun z => kt z p l e R s m args below meth c mc Z C hZ H locs cells slots ls hR hk hl) (fun z => kf z p l e R s m args below meth c mc Z C hZ H locs cells slots ls hR hk hl)
theorem X_icmp_lt {x y : Int32} {off : Int} {tgt : Nat} (hd : Dc mi.2.1 pc (.if_icmp .lt off) 3 nx) (ht : (pc : Int) + off = (tgt : Int)) (kt : x < y → X G mi d kc tgt lv rest S μ Q) (kf : ¬ x < y → X G mi d kc nx lv rest S μ Q) : X G mi d kc pc lv (.int y :: .int x :: rest) S μ Q := by
  intro p l e R s m args below meth c mc Z C hZ H locs cells slots ls hR hk hl
  obtain ⟨hd, rfl⟩ := hd
  exact lv_icmp_lt C.1 C.2.1 hd ht (fun z => kt z p l e R s m args below meth c mc Z C hZ H locs cells slots ls hR hk hl) (fun z => kf z p l e R s m args below meth c mc Z C hZ H locs cells slots ls hR hk hl)
theorem X_if_lt {x : Int32} {off : Int} {tgt : Nat} (hd : Dc mi.2.1 pc (.ifCond .lt off) 3 nx) (ht : (pc : Int) + off = (tgt : Int)) (kt : x < 0 → X G mi d kc tgt lv rest S μ Q) (kf : ¬ x < 0 → X G mi d kc nx lv rest S μ Q) : X G mi d kc pc lv (.int x :: rest) S μ Q := by
  intro p l e R s m args below meth c mc Z C hZ H locs cells slots ls hR hk hl
  obtain ⟨hd, rfl⟩ := hd
  exact lv_if_lt C.1 C.2.1 hd ht (fun z => kt z p l e R s m args below meth c mc Z C hZ H locs cells slots ls hR hk hl) (fun z => kf z p l e R s m args below meth c mc Z C hZ H locs cells slots ls hR hk hl)
theorem X_icmp_ge {x y : Int32} {off : Int} {tgt : Nat} (hd : Dc mi.2.1 pc (.if_icmp .ge off) 3 nx) (ht : (pc : Int) + off = (tgt : Int)) (kt : y ≤ x → X G mi d kc tgt lv rest S μ Q) (kf : ¬ y ≤ x → X G mi d kc nx lv rest S μ Q) : X G mi d kc pc lv (.int y :: .int x :: rest) S μ Q := by
  intro p l e R s m args below meth c mc Z C hZ H locs cells slots ls hR hk hl
  obtain ⟨hd, rfl⟩ := hd
  exact lv_icmp_ge C.1 C.2.1 hd ht (fun z => kt z p l e R s m args below meth c mc Z C hZ H locs cells slots ls hR hk hl) (fun z => kf z p l e R s m args below meth c mc Z C hZ H locs cells slots ls hR hk hl)
theorem X_if_ge {x : Int32} {off : Int} {tgt : Nat} (hd : Dc mi.2.1 pc (.ifCond .ge off) 3 nx) (ht : (pc : Int) + off = (tgt : Int)) (kt : 0 ≤ x → X G mi d kc tgt lv rest S μ Q) (kf : ¬ 0 ≤ x → X G mi d kc nx lv rest S μ Q) : X G mi d kc pc lv (.int x :: rest) S μ Q := by
  intro p l e R s m args below meth c mc Z C hZ H locs cells slots ls hR hk hl
  obtain ⟨hd, rfl⟩ := hd
  exact lv_if_ge C.1 C.2.1 hd ht (fun z => kt z p l e R s m args below meth c mc Z C hZ H locs cells slots ls hR hk hl) (fun z => kf z p l e R s m args below meth c mc Z C hZ H locs cells slots ls hR hk hl)
theorem X_icmp_gt {x y : Int32} {off : Int} {tgt : Nat} (hd : Dc mi.2.1 pc (.if_icmp .gt off) 3 nx) (ht : (pc : Int) + off = (tgt : Int)) (kt : y < x → X G mi d kc tgt lv rest S μ Q) (kf : ¬ y < x → X G mi d kc nx lv rest S μ Q) : X G mi d kc pc lv (.int y :: .int x :: rest) S μ Q := by
  intro p l e R s m args below meth c mc Z C hZ H locs cells slots ls hR hk hl
  obtain ⟨hd, rfl⟩ := hd
  exact lv_icmp_gt C.1 C.2.1 hd ht (fun z => kt z p l e R s m args below meth c mc Z C hZ H locs cells slots ls hR hk hl) (fun z => kf z p l e R s m args below meth c mc Z C hZ H locs cells slots ls hR hk hl)
theorem X_if_gt {x : Int32} {off : Int} {tgt : Nat} (hd : Dc mi.2.1 pc (.ifCond .gt off) 3 nx) (ht : (pc : Int) + off = (tgt : Int)) (kt : 0 < x → X G mi d kc tgt lv rest S μ Q) (kf : ¬ 0 < x → X G mi d kc nx lv rest S μ Q) : X G mi d kc pc lv (.int x :: rest) S μ Q := by
  intro p l e R s m args below meth c mc Z C hZ H locs cells slots ls hR hk hl
  obtain ⟨hd, rfl⟩ := hd
  exact lv_if_gt C.1 C.2.1 hd ht (fun z => kt z p l e R s m args below meth c mc Z C hZ H locs cells slots ls hR hk hl) (fun z => kf z p l e R s m args below meth c mc Z C hZ H locs cells slots ls hR hk hl)
theorem X_icmp_le {x y : Int32} {off : Int} {tgt : Nat} (hd : Dc mi.2.1 pc (.if_icmp .le off) 3 nx) (ht : (pc : Int) + off = (tgt : Int)) (kt : x ≤ y → X G mi d kc tgt lv rest S μ Q) (kf : ¬ x ≤ y → X G mi d kc nx lv rest S μ Q) : X G mi d kc pc lv (.int y :: .int x :: rest) S μ Q := by
  intro p l e R s m args below meth c mc Z C hZ H locs cells slots ls hR hk hl
  obtain ⟨hd, rfl⟩ := hd
  exact lv_icmp_le C.1 C.2.1 hd ht (fun z => kt z p l e R s m args below meth c mc Z C hZ H locs cells slots ls hR hk hl) (fun z => kf z p l e R s m args below meth c mc Z C hZ H locs cells slots ls hR hk hl)
theorem X_if_le {x : Int32} {off : Int} {tgt : Nat} (hd : Dc mi.2.1 pc (.ifCond .le off) 3 nx) (ht : (pc : Int) + off = (tgt : Int)) (kt : x ≤ 0 → X G mi d kc tgt lv rest S μ Q) (kf : ¬ x ≤ 0 → X G mi d kc nx lv rest S μ Q) : X G mi d kc pc lv (.int x :: rest) S μ Q := by
  intro p l e R s m args below meth c mc Z C hZ H locs cells slots ls hR hk hl
  obtain ⟨hd, rfl⟩ := hd
  exact lv_if_le C.1 C.2.1 hd ht (fun z => kt z p l e R s m args below meth c mc Z C hZ H locs cells slots ls hR hk hl) (fun z => kf z p l e R s m args below meth c mc Z C hZ H locs cells slots ls hR hk hl)
theorem X_goto {off : Int} {tgt : Nat} (hd : Dc mi.2.1 pc (.goto off) 3 nx) (ht : (pc : Int) + off = (tgt : Int)) (k : X G mi d kc tgt lv rest S μ Q) : X G mi d kc pc lv rest S μ Q := by
  intro p l e R s m args below meth c mc Z C hZ H locs cells slots ls hR hk hl
  obtain ⟨hd, rfl⟩ := hd
  exact lv_goto C.1 C.2.1 hd ht (k p l e R s m args below meth c mc Z C hZ H locs cells slots ls hR hk hl)
theorem X_ifnull {x : Nat} {off : Int} {tgt : Nat} (hd : Dc mi.2.1 pc (.ifnull off) 3 nx) (ht : (pc : Int) + off = (tgt : Int)) (k : X G mi d kc nx lv rest S μ Q) : X G mi d kc pc lv (.ref x :: rest) S μ Q := by
  intro p l e R s m args below meth c mc Z C hZ H locs cells slots ls hR hk hl
  obtain ⟨hd, rfl⟩ := hd
  exact lv_ifnull C.1 C.2.1 hd (k p l e R s m args below meth c mc Z C hZ H locs cells slots ls hR hk hl)
theorem X_ifnonnull {x : Nat} {off : Int} {tgt : Nat} (hd : Dc mi.2.1 pc (.ifnonnull off) 3 nx) (ht : (pc : Int) + off = (tgt : Int)) (k : X G mi d kc tgt lv rest S μ Q) : X G mi d kc pc lv (.ref x :: rest) S μ Q := by
  intro p l e R s m args below meth c mc Z C hZ H locs cells slots ls hR hk hl
  obtain ⟨hd, rfl⟩ := hd
  exact lv_ifnonnull C.1 C.2.1 hd ht (k p l e R s m args below meth c mc Z C hZ H locs cells slots ls hR hk hl)
theorem X_ifnullN {off : Int} {tgt : Nat} (hd : Dc mi.2.1 pc (.ifnull off) 3 nx) (ht : (pc : Int) + off = (tgt : Int)) (k : X G mi d kc tgt lv rest S μ Q) : X G mi d kc pc lv (.null :: rest) S μ Q := by
  intro p l e R s m args below meth c mc Z C hZ H locs cells slots ls hR hk hl
  obtain ⟨hd, rfl⟩ := hd
  exact lv_ifnullN C.1 C.2.1 hd ht (k p l e R s m args below meth c mc Z C hZ H locs cells slots ls hR hk hl)
theorem X_ifnonnullN {off : Int} {tgt : Nat} (hd : Dc mi.2.1 pc (.ifnonnull off) 3 nx) (ht : (pc : Int) + off = (tgt : Int)) (k : X G mi d kc nx lv rest S μ Q) : X G mi d kc pc lv (.null :: rest) S μ Q := by
  intro p l e R s m args below meth c mc Z C hZ H locs cells slots ls hR hk hl
  obtain ⟨hd, rfl⟩ := hd
  exact lv_ifnonnullN C.1 C.2.1 hd (k p l e R s m args below meth c mc Z C hZ H locs cells slots ls hR hk hl)
theorem X_lookup {dflt : Int} {ps : Array (Int × Int)} {len : Nat} {x : Int32} {off : Int} {tgt : Nat} (hd : Dc mi.2.1 pc (.lookupswitch dflt ps) len nx) (hp : (ps.toList.zip (ps.toList.drop 1)).all (fun (a, next) => a.1 < next.1) = true) (ho : Op.lookupswitch.offset ps.toList dflt x.toInt = off) (ht : (pc : Int) + off = (tgt : Int)) (k : X G mi d kc tgt lv rest S μ Q) : X G mi d kc pc lv (.int x :: rest) S μ Q := by
  intro p l e R s m args below meth c mc Z C hZ H locs cells slots ls hR hk hl
  obtain ⟨hd, rfl⟩ := hd
  exact lv_lookup C.1 C.2.1 hd hp ho ht (k p l e R s m args below meth c mc Z C hZ H locs cells slots ls hR hk hl)
theorem X_tableOut {dflt lo hi : Int} {offs : Array Int} {len : Nat} {x : Int32} {tgt : Nat} (hd : Dc mi.2.1 pc (.tableswitch dflt lo hi offs) len nx) (h : x.toInt < lo ∨ hi < x.toInt) (ht : (pc : Int) + dflt = (tgt : Int)) (k : X G mi d kc tgt lv rest S μ Q) : X G mi d kc pc lv (.int x :: rest) S μ Q := by
  intro p l e R s m args below meth c mc Z C hZ H locs cells slots ls hR hk hl
  obtain ⟨hd, rfl⟩ := hd
  exact lv_tableOut C.1 C.2.1 hd h ht (k p l e R s m args below meth c mc Z C hZ H locs cells slots ls hR hk hl)
theorem X_tableIn {dflt lo hi : Int} {offs : Array Int} {len : Nat} {x : Int32} {off : Int} {tgt : Nat} (hd : Dc mi.2.1 pc (.tableswitch dflt lo hi offs) len nx) (h1 : ¬ x.toInt < lo) (h2 : ¬ hi < x.toInt) (ho : offs[(x.toInt - lo).toNat]? = some off) (ht : (pc : Int) + off = (tgt : Int)) (k : X G mi d kc tgt lv rest S μ Q) : X G mi d kc pc lv (.int x :: rest) S μ Q := by
  intro p l e R s m args below meth c mc Z C hZ H locs cells slots ls hR hk hl
  obtain ⟨hd, rfl⟩ := hd
  exact lv_tableIn C.1 C.2.1 hd h1 h2 ho ht (k p l e R s m args below meth c mc Z C hZ H locs cells slots ls hR hk hl)
end
end
section
/-! The layer's rules of the heap: fields, arrays, what is made, statics. -/
def FL (own : String) (idx ci k : Nat) : Prop := ci < 11 ∧ k < fN ci ∧ Cond.fieldLink own idx (cT ci k).1 (cT ci k).2.1 (cT ci k).2.2.1 ∈ lw_gd
theorem cls_gd {ci : Nat} (h : ci < 11) : ∀ w ∈ u_ws (cN ci) (cT ci) (fN ci), w ∈ lw_gd := by
  intro w hw
  refine gd (cls_in ci h w hw) ?_
  obtain ⟨k, -, rfl⟩ := List.mem_map.mp hw
  unfold u_lay
  split <;> rfl
theorem cls_apart {ci : Nat} (h : ci < 11) {s : State} {args : Array Value} {cC : ClassId} {iS : Nat → Nat} (hts : ∀ w ∈ lw_gd, w.before args s = true) (hK : u_Kn s (cN ci) (cT ci) (fN ci) cC iS) : ∀ x y, x < fN ci → y < fN ci → x ≠ y → iS x ≠ iS y := by
  intro x y hx hy hne
  obtain ⟨hS, -⟩ := hK
  obtain ⟨_, _, _, fa, hia, ea⟩ := hS x hx
  obtain ⟨_, _, _, fb, hib, eb⟩ := hS y hy
  rw [← ea, ← eb]
  refine u_apart (u_lays hts (cls_gd h) hx) (u_lays hts (cls_gd h) hy) hia hib ?_
  rw [(State.fieldFound?_type hia (cls_ty ci h x hx)).1, (State.fieldFound?_type hib (cls_ty ci h y hy)).1]
  exact cls_nm ci h x hx y hy hne
/-- a field's number, one place anew -/
def su (μ : Mu) (a i : Nat) (x : Int32) : Mu := fun b => if b = a then upd (μ a) i x else μ b
def Su (S : Sh) (a : Nat) (k : Kd) : Sh := (S.1, fun q => if q = a then some k else S.2 q)
theorem su_same {μ : Mu} {a i : Nat} {x : Int32} : su μ a i x a = upd (μ a) i x := if_pos rfl
theorem su_ne {μ : Mu} {a i q : Nat} {x : Int32} (h : q ≠ a) : su μ a i x q = μ q := if_neg h
theorem Mx_same {μ : Mu} {a : Nat} {f : Nat → Int32} : Mx μ a f a = f := if_pos rfl
theorem Mx_ne {μ : Mu} {a q : Nat} {f : Nat → Int32} (h : q ≠ a) : Mx μ a f q = μ q := if_neg h
theorem fV_int {ci k : Nat} {r : Nat → Option Nat} {f : Nat → Int32} (h : fI ci k = true) (x : Int32) : ∀ j, updV (fV ci r f) k (.int x) j = fV ci r (upd f k x) j := by
  intro j
  unfold updV fV upd
  by_cases e : j = k
  · subst e; simp [h]
  · simp [e]
theorem fV_ref {ci k : Nat} {r : Nat → Option Nat} {f : Nat → Int32} (h : fI ci k = false) (x : Option Nat) : ∀ j, updV (fV ci r f) k (va_rf x) j = fV ci (va_up r k x) f j := by
  intro j
  unfold updV fV va_up
  by_cases e : j = k
  · subst e; simp [h]
  · simp [e]
section
variable {G : Gl} {mi : MI} {d kc pc nx : Nat} {lv : List (Nat × Value)} {rest : List Value} {S : Sh} {μ : Mu} {Q : Option Value → Sh → Mu → Prop}
theorem X_getI {a ci k idx : Nat} {r : Nat → Option Nat} (hd : Dc mi.2.1 pc (.getfield idx) 3 nx) (hf : FL mi.1.cls idx ci k) (hb : S.2 a = some (kO ci r)) (hi : fI ci k = true) (kk : X G mi d kc nx lv (.int (μ a k) :: rest) S μ Q) : X G mi d kc pc lv (.ref a :: rest) S μ Q := by
  intro p l e R s m args below meth c mc Z C hZ H locs cells slots ls hR hk hl
  obtain ⟨hd, rfl⟩ := hd
  obtain ⟨hci, hkN, hlk⟩ := hf
  obtain ⟨hga, ce, q1, q2, q3, q4⟩ := hR.at hb
  have hts := C.2.2.2.2.2.1
  obtain ⟨hS, hfc, kC, hkC, hkind⟩ := u_Kn_moved C.2.2.2.2.2.2.2.2.2.1.alike (C.2.2.2.2.2.2.2.2.2.2.1 ci hci)
  obtain ⟨cf, kf, fi, f, hi2, hsl⟩ := hS k hkN
  refine W.getf C.1 C.2.1 C.2.2.2.2.1 (hts _ hlk) hi2 (u_facts hfc hkC (u_lays hts (cls_gd hci) hkN) hi2).1 q1 (by rw [q3]; exact fun h => by cases h) (v := .int (μ a k)) ?_ rfl rfl hd (kk p l e R s m args below meth c mc Z C hZ H locs cells slots ls hR hk hl)
  rw [hsl, q4 k hkN]
  simp [fV, hi]
theorem X_getR {a ci k idx : Nat} {r : Nat → Option Nat} {q : Nat} (hd : Dc mi.2.1 pc (.getfield idx) 3 nx) (hf : FL mi.1.cls idx ci k) (hb : S.2 a = some (kO ci r)) (hi : fI ci k = false) (hr : r k = some q) (kk : X G mi d kc nx lv (.ref q :: rest) S μ Q) : X G mi d kc pc lv (.ref a :: rest) S μ Q := by
  intro p l e R s m args below meth c mc Z C hZ H locs cells slots ls hR hk hl
  obtain ⟨hd, rfl⟩ := hd
  obtain ⟨hci, hkN, hlk⟩ := hf
  obtain ⟨hga, ce, q1, q2, q3, q4⟩ := hR.at hb
  have hts := C.2.2.2.2.2.1
  obtain ⟨hS, hfc, kC, hkC, hkind⟩ := u_Kn_moved C.2.2.2.2.2.2.2.2.2.1.alike (C.2.2.2.2.2.2.2.2.2.2.1 ci hci)
  obtain ⟨cf, kf, fi, f, hi2, hsl⟩ := hS k hkN
  refine W.getf C.1 C.2.1 C.2.2.2.2.1 (hts _ hlk) hi2 (u_facts hfc hkC (u_lays hts (cls_gd hci) hkN) hi2).1 q1 (by rw [q3]; exact fun h => by cases h) (v := .ref q) ?_ rfl rfl hd (kk p l e R s m args below meth c mc Z C hZ H locs cells slots ls hR hk hl)
  rw [hsl, q4 k hkN]
  simp [fV, hi, hr, va_rf]
theorem X_getN {a ci k idx : Nat} {r : Nat → Option Nat} (hd : Dc mi.2.1 pc (.getfield idx) 3 nx) (hf : FL mi.1.cls idx ci k) (hb : S.2 a = some (kO ci r)) (hi : fI ci k = false) (hr : r k = none) (kk : X G mi d kc nx lv (.null :: rest) S μ Q) : X G mi d kc pc lv (.ref a :: rest) S μ Q := by
  intro p l e R s m args below meth c mc Z C hZ H locs cells slots ls hR hk hl
  obtain ⟨hd, rfl⟩ := hd
  obtain ⟨hci, hkN, hlk⟩ := hf
  obtain ⟨hga, ce, q1, q2, q3, q4⟩ := hR.at hb
  have hts := C.2.2.2.2.2.1
  obtain ⟨hS, hfc, kC, hkC, hkind⟩ := u_Kn_moved C.2.2.2.2.2.2.2.2.2.1.alike (C.2.2.2.2.2.2.2.2.2.2.1 ci hci)
  obtain ⟨cf, kf, fi, f, hi2, hsl⟩ := hS k hkN
  refine W.getf C.1 C.2.1 C.2.2.2.2.1 (hts _ hlk) hi2 (u_facts hfc hkC (u_lays hts (cls_gd hci) hkN) hi2).1 q1 (by rw [q3]; exact fun h => by cases h) (v := .null) ?_ rfl rfl hd (kk p l e R s m args below meth c mc Z C hZ H locs cells slots ls hR hk hl)
  rw [hsl, q4 k hkN]
  simp [fV, hi, hr, va_rf]
theorem X_putI {a ci k idx : Nat} {r : Nat → Option Nat} {x : Int32} (hd : Dc mi.2.1 pc (.putfield idx) 3 nx) (hf : FL mi.1.cls idx ci k) (hb : S.2 a = some (kO ci r)) (hi : fI ci k = true) (hfin : (cT ci k).2.2.2 = false) (hnf : narrow (cTy ci k) (.int x) = .int x ∧ fits (cTy ci k) (.int x) = true) (kk : X G mi d kc nx lv rest S (su μ a k x) Q) : X G mi d kc pc lv (.int x :: .ref a :: rest) S μ Q := by
  intro p l e R s m args below meth c mc Z C hZ H locs cells slots ls hR hk hl
  obtain ⟨hd, rfl⟩ := hd
  obtain ⟨hci, hkN, hlk⟩ := hf
  obtain ⟨hga, ce, q1, q2, q3, q4⟩ := hR.at hb
  have hts := C.2.2.2.2.2.1
  obtain ⟨hS, hfc, kC, hkC, hkind⟩ := u_Kn_moved C.2.2.2.2.2.2.2.2.2.1.alike (C.2.2.2.2.2.2.2.2.2.2.1 ci hci)
  obtain ⟨cf, kf, fi, f, hi2, hsl⟩ := hS k hkN
  have hap := cls_apart hci hts ⟨hS, hfc, kC, hkC, hkind⟩
  have hlay := hts _ (cls_gd hci _ (u_in_lay hkN))
  unfold u_lay at hlay
  have hst := (u_facts hfc hkC (u_lays hts (cls_gd hci) hkN) hi2).1
  rw [if_neg (by rw [hfin]; decide)] at hlay
  have h6 := u_store hfc hkC hkind hlay hi2 (cls_ty ci hci k hkN) hnf.1 hnf.2
  refine W.putK C.1 C.2.1 (f := f) ⟨C.2.2.2.2.1, hts _ hlk, ⟨_, _, _, hi2⟩, hst⟩ (by rw [q2]; exact h6) q1 q3 (by rw [hsl]; exact k2_hasslot (q4 k hkN)) rfl rfl hd fun H1 e1 e2 e3 => ?_
  rw [hsl] at e1
  refine kk p l e R s m args below meth c mc Z C hZ H1 _ cells slots ls (hR.put rfl hga (hR.lt hb) e2 e3 (fun q hq => ?_) ?_) hk hl
  · exact ⟨rfl, su_ne hq⟩
  · rw [hb, su_same]
    exact ⟨hga, t_OB.to ⟨_, e1, q2, q3, t_set q4 hap hkN _⟩ (fun j _ => fV_int hi _ j)⟩
theorem X_putR {a ci k idx : Nat} {r : Nat → Option Nat} {q : Nat} (hd : Dc mi.2.1 pc (.putfield idx) 3 nx) (hf : FL mi.1.cls idx ci k) (hb : S.2 a = some (kO ci r)) (hi : fI ci k = false) (hfin : (cT ci k).2.2.2 = false) (hnf : narrow (cTy ci k) (.ref q) = .ref q ∧ fits (cTy ci k) (.ref q) = true) (kk : X G mi d kc nx lv rest (Su S a (kO ci (va_up r k (some q)))) μ Q) : X G mi d kc pc lv (.ref q :: .ref a :: rest) S μ Q := by
  intro p l e R s m args below meth c mc Z C hZ H locs cells slots ls hR hk hl
  obtain ⟨hd, rfl⟩ := hd
  obtain ⟨hci, hkN, hlk⟩ := hf
  obtain ⟨hga, ce, q1, q2, q3, q4⟩ := hR.at hb
  have hts := C.2.2.2.2.2.1
  obtain ⟨hS, hfc, kC, hkC, hkind⟩ := u_Kn_moved C.2.2.2.2.2.2.2.2.2.1.alike (C.2.2.2.2.2.2.2.2.2.2.1 ci hci)
  obtain ⟨cf, kf, fi, f, hi2, hsl⟩ := hS k hkN
  have hap := cls_apart hci hts ⟨hS, hfc, kC, hkC, hkind⟩
  have hlay := hts _ (cls_gd hci _ (u_in_lay hkN))
  unfold u_lay at hlay
  have hst := (u_facts hfc hkC (u_lays hts (cls_gd hci) hkN) hi2).1
  rw [if_neg (by rw [hfin]; decide)] at hlay
  have h6 := u_store hfc hkC hkind hlay hi2 (cls_ty ci hci k hkN) hnf.1 hnf.2
  refine W.putK C.1 C.2.1 (f := f) ⟨C.2.2.2.2.1, hts _ hlk, ⟨_, _, _, hi2⟩, hst⟩ (by rw [q2]; exact h6) q1 q3 (by rw [hsl]; exact k2_hasslot (q4 k hkN)) rfl rfl hd fun H1 e1 e2 e3 => ?_
  rw [hsl] at e1
  refine kk p l e R s m args below meth c mc Z C hZ H1 _ cells slots ls (hR.put rfl hga (hR.lt hb) e2 e3 (fun q hq => ?_) ?_) hk hl
  · exact ⟨if_neg hq, rfl⟩
  · rw [show (Su S a _).2 a = _ from if_pos rfl]
    exact ⟨hga, t_OB.to ⟨_, e1, q2, q3, t_set q4 hap hkN _⟩ (fun j _ => fV_ref hi (some q) j)⟩
theorem X_putN {a ci k idx : Nat} {r : Nat → Option Nat} (hd : Dc mi.2.1 pc (.putfield idx) 3 nx) (hf : FL mi.1.cls idx ci k) (hb : S.2 a = some (kO ci r)) (hi : fI ci k = false) (hfin : (cT ci k).2.2.2 = false) (hnf : narrow (cTy ci k) (.null) = .null ∧ fits (cTy ci k) (.null) = true) (kk : X G mi d kc nx lv rest (Su S a (kO ci (va_up r k none))) μ Q) : X G mi d kc pc lv (.null :: .ref a :: rest) S μ Q := by
  intro p l e R s m args below meth c mc Z C hZ H locs cells slots ls hR hk hl
  obtain ⟨hd, rfl⟩ := hd
  obtain ⟨hci, hkN, hlk⟩ := hf
  obtain ⟨hga, ce, q1, q2, q3, q4⟩ := hR.at hb
  have hts := C.2.2.2.2.2.1
  obtain ⟨hS, hfc, kC, hkC, hkind⟩ := u_Kn_moved C.2.2.2.2.2.2.2.2.2.1.alike (C.2.2.2.2.2.2.2.2.2.2.1 ci hci)
  obtain ⟨cf, kf, fi, f, hi2, hsl⟩ := hS k hkN
  have hap := cls_apart hci hts ⟨hS, hfc, kC, hkC, hkind⟩
  have hlay := hts _ (cls_gd hci _ (u_in_lay hkN))
  unfold u_lay at hlay
  have hst := (u_facts hfc hkC (u_lays hts (cls_gd hci) hkN) hi2).1
  rw [if_neg (by rw [hfin]; decide)] at hlay
  have h6 := u_store hfc hkC hkind hlay hi2 (cls_ty ci hci k hkN) hnf.1 hnf.2
  refine W.putK C.1 C.2.1 (f := f) ⟨C.2.2.2.2.1, hts _ hlk, ⟨_, _, _, hi2⟩, hst⟩ (by rw [q2]; exact h6) q1 q3 (by rw [hsl]; exact k2_hasslot (q4 k hkN)) rfl rfl hd fun H1 e1 e2 e3 => ?_
  rw [hsl] at e1
  refine kk p l e R s m args below meth c mc Z C hZ H1 _ cells slots ls (hR.put rfl hga (hR.lt hb) e2 e3 (fun q hq => ?_) ?_) hk hl
  · exact ⟨if_neg hq, rfl⟩
  · rw [show (Su S a _).2 a = _ from if_pos rfl]
    exact ⟨hga, t_OB.to ⟨_, e1, q2, q3, t_set q4 hap hkN _⟩ (fun j _ => fV_ref hi none j)⟩
theorem X_putRF {a ci k idx : Nat} {r : Nat → Option Nat} {q : Nat} (hd : Dc mi.2.1 pc (.putfield idx) 3 nx) (hf : FL mi.1.cls idx ci k) (hb : S.2 a = some (kO ci r)) (hi : fI ci k = false) (hfin : (cT ci k).2.2.2 = true) (hin2 : mi.1.name = "<init>") (hdecl : (cT ci k).1 = mi.1.cls) (hnf : narrow (cTy ci k) (.ref q) = .ref q ∧ fits (cTy ci k) (.ref q) = true) (kk : X G mi d kc nx lv rest (Su S a (kO ci (va_up r k (some q)))) μ Q) : X G mi d kc pc lv (.ref q :: .ref a :: rest) S μ Q := by
  intro p l e R s m args below meth c mc Z C hZ H locs cells slots ls hR hk hl
  obtain ⟨hd, rfl⟩ := hd
  obtain ⟨hci, hkN, hlk⟩ := hf
  obtain ⟨hga, ce, q1, q2, q3, q4⟩ := hR.at hb
  have hts := C.2.2.2.2.2.1
  obtain ⟨hS, hfc, kC, hkC, hkind⟩ := u_Kn_moved C.2.2.2.2.2.2.2.2.2.1.alike (C.2.2.2.2.2.2.2.2.2.2.1 ci hci)
  obtain ⟨cf, kf, fi, f, hi2, hsl⟩ := hS k hkN
  have hap := cls_apart hci hts ⟨hS, hfc, kC, hkC, hkind⟩
  have hlay := hts _ (cls_gd hci _ (u_in_lay hkN))
  unfold u_lay at hlay
  have hst := (u_facts hfc hkC (u_lays hts (cls_gd hci) hkN) hi2).1
  rw [if_pos hfin] at hlay
  have hcf : m.cls = cf := by
    obtain ⟨_, _, c', _, _, _, -, -, hf', -, -, -, hown2, -⟩ := Cond.laysFinal_spec hlay
    have e1 : c' = cf := by have := hi2.symm.trans hf'; simp at this; exact this.1.symm
    rw [hdecl] at hown2
    rw [← e1]; exact Option.some.inj (C.2.2.2.2.1.symm.trans hown2)
  have h6 := u_fits hfc hkC hkind (Or.inr hlay) hi2 (cls_ty ci hci k hkN) hnf.1 hnf.2
  refine W.putFinK C.1 C.2.1 C.2.2.2.2.1 (hts _ hlk) hi2 hst hcf (C.2.2.2.2.2.2.2.1.trans hin2) (by rw [q2]; exact h6) q1 q3 (by rw [hsl]; exact k2_hasslot (q4 k hkN)) rfl rfl hd fun H1 e1 e2 e3 => ?_
  rw [hsl] at e1
  refine kk p l e R s m args below meth c mc Z C hZ H1 _ cells slots ls (hR.put rfl hga (hR.lt hb) e2 e3 (fun q hq => ?_) ?_) hk hl
  · exact ⟨if_neg hq, rfl⟩
  · rw [show (Su S a _).2 a = _ from if_pos rfl]
    exact ⟨hga, t_OB.to ⟨_, e1, q2, q3, t_set q4 hap hkN _⟩ (fun j _ => fV_ref hi (some q) j)⟩
theorem X_iald {a n : Nat} {i : Int32} (hd : Dc mi.2.1 pc .iaload 1 nx) (hb : S.2 a = some (kI n)) (hin : vp_in i n) (kk : X G mi d kc nx lv (.int (μ a i.toNatClampNeg) :: rest) S μ Q) : X G mi d kc pc lv (.int i :: .ref a :: rest) S μ Q := by
  intro p l e R s m args below meth c mc Z C hZ H locs cells slots ls hR hk hl
  obtain ⟨hd, rfl⟩ := hd
  obtain ⟨hga, cA, hA, q1⟩ := hR.at hb
  have hlt : i.toNatClampNeg < n := Nat.not_le.mp fun q => hin (Or.inr q)
  exact W.iald (v := .int (μ a i.toNatClampNeg)) C.1 C.2.1 q1 (arrOfT_moved C.2.2.2.2.2.2.2.2.2.1.alike hA n _) (fun q => by cases q) (by rw [arrV_size]; exact hin) (by rw [arrV_read _ _ hlt]) rfl rfl hd (kk p l e R s m args below meth c mc Z C hZ H locs cells slots ls hR hk hl)
theorem X_ialdC {a n : Nat} {i : Int32} (hd : Dc mi.2.1 pc .iaload 1 nx) (hb : S.2 a = some (kC n)) (hin : vp_in i n) (kk : X G mi d kc nx lv (.int (μ a i.toNatClampNeg) :: rest) S μ Q) : X G mi d kc pc lv (.int i :: .ref a :: rest) S μ Q := by
  intro p l e R s m args below meth c mc Z C hZ H locs cells slots ls hR hk hl
  obtain ⟨hd, rfl⟩ := hd
  obtain ⟨-, ce, q1, q2, q3, q4, q5, q6⟩ := hR.at hb
  have hlt : i.toNatClampNeg < n := Nat.not_le.mp fun q => hin (Or.inr q)
  exact W.iald (v := .int (μ a i.toNatClampNeg)) C.1 C.2.1 q1 (State.isArrayOf_alike C.2.2.2.2.2.2.2.2.2.1.alike q2) q3 (fun h => hin (h.elim Or.inl (fun z => Or.inr (Nat.le_trans q4 z)))) (q6 _ hlt) rfl rfl hd (kk p l e R s m args below meth c mc Z C hZ H locs cells slots ls hR hk hl)
theorem X_bald {a n : Nat} {i : Int32} (hd : Dc mi.2.1 pc .baload 1 nx) (hb : S.2 a = some (kB n)) (hin : vp_in i n) (kk : X G mi d kc nx lv (.int (μ a i.toNatClampNeg) :: rest) S μ Q) : X G mi d kc pc lv (.int i :: .ref a :: rest) S μ Q := by
  intro p l e R s m args below meth c mc Z C hZ H locs cells slots ls hR hk hl
  obtain ⟨hd, rfl⟩ := hd
  obtain ⟨-, ce, q1, q2, q3, q4, q5, q6⟩ := hR.at hb
  have hlt : i.toNatClampNeg < n := Nat.not_le.mp fun q => hin (Or.inr q)
  exact W.bald (v := .int (μ a i.toNatClampNeg)) C.1 C.2.1 q1 (State.isArrayOf_alike C.2.2.2.2.2.2.2.2.2.1.alike q2) q3 (fun h => hin (h.elim Or.inl (fun z => Or.inr (Nat.le_trans q4 z)))) (q6 _ hlt) rfl rfl hd (kk p l e R s m args below meth c mc Z C hZ H locs cells slots ls hR hk hl)
theorem X_alen {a n : Nat} (hd : Dc mi.2.1 pc .arraylength 1 nx) (hb : S.2 a = some (kI n)) (kk : X G mi d kc nx lv (.int (nI n) :: rest) S μ Q) : X G mi d kc pc lv (.ref a :: rest) S μ Q := by
  intro p l e R s m args below meth c mc Z C hZ H locs cells slots ls hR hk hl
  obtain ⟨hd, rfl⟩ := hd
  obtain ⟨hga, cA, hA, q1⟩ := hR.at hb
  exact W.alen (n := nI n) (ty := .int) C.1 C.2.1 q1 (arrOfT_moved C.2.2.2.2.2.2.2.2.2.1.alike hA n _) (by rw [arrV_size]; rfl) rfl rfl hd (kk p l e R s m args below meth c mc Z C hZ H locs cells slots ls hR hk hl)
theorem X_alenR {a j n : Nat} {r : Nat → Option Nat} (hd : Dc mi.2.1 pc .arraylength 1 nx) (hb : S.2 a = some (kR j n r)) (kk : X G mi d kc nx lv (.int (nI n) :: rest) S μ Q) : X G mi d kc pc lv (.ref a :: rest) S μ Q := by
  intro p l e R s m args below meth c mc Z C hZ H locs cells slots ls hR hk hl
  obtain ⟨hd, rfl⟩ := hd
  obtain ⟨hga, cA, hA, q1⟩ := hR.at hb
  exact W.alen (n := nI n) (ty := .object (rC j)) C.1 C.2.1 q1 (arrOfT_moved C.2.2.2.2.2.2.2.2.2.1.alike hA.1 n _) (by rw [arrV_size]; rfl) rfl rfl hd (kk p l e R s m args below meth c mc Z C hZ H locs cells slots ls hR hk hl)
theorem X_alenC {a n : Nat} (hd : Dc mi.2.1 pc .arraylength 1 nx) (hb : S.2 a = some (kC n)) (kk : X G mi d kc nx lv (.int (nI n) :: rest) S μ Q) : X G mi d kc pc lv (.ref a :: rest) S μ Q := by
  intro p l e R s m args below meth c mc Z C hZ H locs cells slots ls hR hk hl
  obtain ⟨hd, rfl⟩ := hd
  obtain ⟨-, ce, q1, q2, q3, q4, q5, q6⟩ := hR.at hb
  exact W.alen (n := nI n) (ty := .int) C.1 C.2.1 q1 (State.isArrayOf_alike C.2.2.2.2.2.2.2.2.2.1.alike q2) q5 rfl rfl hd (kk p l e R s m args below meth c mc Z C hZ H locs cells slots ls hR hk hl)
theorem X_alenB {a n : Nat} (hd : Dc mi.2.1 pc .arraylength 1 nx) (hb : S.2 a = some (kB n)) (kk : X G mi d kc nx lv (.int (nI n) :: rest) S μ Q) : X G mi d kc pc lv (.ref a :: rest) S μ Q := by
  intro p l e R s m args below meth c mc Z C hZ H locs cells slots ls hR hk hl
  obtain ⟨hd, rfl⟩ := hd
  obtain ⟨-, ce, q1, q2, q3, q4, q5, q6⟩ := hR.at hb
  exact W.alen (n := nI n) (ty := .byte) C.1 C.2.1 q1 (State.isArrayOf_alike C.2.2.2.2.2.2.2.2.2.1.alike q2) q5 rfl rfl hd (kk p l e R s m args below meth c mc Z C hZ H locs cells slots ls hR hk hl)
theorem X_iast {a n : Nat} {i x : Int32} (hd : Dc mi.2.1 pc .iastore 1 nx) (hb : S.2 a = some (kI n)) (hin : vp_in i n) (kk : X G mi d kc nx lv rest S (su μ a i.toNatClampNeg x) Q) : X G mi d kc pc lv (.int x :: .int i :: .ref a :: rest) S μ Q := by
  intro p l e R s m args below meth c mc Z C hZ H locs cells slots ls hR hk hl
  obtain ⟨hd, rfl⟩ := hd
  obtain ⟨hga, cA, hA, q1⟩ := hR.at hb
  refine W.iast C.1 C.2.1 q1 (arrOfT_moved C.2.2.2.2.2.2.2.2.2.1.alike hA n _) (fun q => by cases q) (by rw [arrV_size]; exact hin) rfl rfl hd fun H1 e1 e2 e3 => ?_
  refine kk p l e R s m args below meth c mc Z C hZ H1 _ cells slots ls (hR.put rfl hga (hR.lt hb) e2 e3 (fun q hq => ⟨rfl, su_ne hq⟩) ?_) hk hl
  rw [hb, su_same]
  refine ⟨hga, cA, hA, ?_⟩
  rw [e1, arrV_store]
  congr 2
  funext q
  by_cases hq : q = i.toNatClampNeg
  · subst hq; simp [updV, upd]
  · simp [updV, upd, hq]
theorem X_aald {a j n q : Nat} {r : Nat → Option Nat} {i : Int32} (hd : Dc mi.2.1 pc .aaload 1 nx) (hb : S.2 a = some (kR j n r)) (hin : vp_in i n) (hr : r i.toNatClampNeg = some q) (kk : X G mi d kc nx lv (.ref q :: rest) S μ Q) : X G mi d kc pc lv (.int i :: .ref a :: rest) S μ Q := by
  intro p l e R s m args below meth c mc Z C hZ H locs cells slots ls hR hk hl
  obtain ⟨hd, rfl⟩ := hd
  obtain ⟨hga, cA, hA, q1⟩ := hR.at hb
  have hlt : i.toNatClampNeg < n := Nat.not_le.mp fun q => hin (Or.inr q)
  exact W.aald (v := .ref q) (ty := .object (rC j)) C.1 C.2.1 q1 (arrOfT_moved C.2.2.2.2.2.2.2.2.2.1.alike hA.1 n _) rfl (fun q => by cases q) (by rw [arrV_size]; exact hin) (by rw [arrV_read _ _ hlt, hr]; rfl) rfl rfl hd (kk p l e R s m args below meth c mc Z C hZ H locs cells slots ls hR hk hl)
theorem X_aast {a j n v ci : Nat} {r rv : Nat → Option Nat} {i : Int32} (hd : Dc mi.2.1 pc .aastore 1 nx) (hb : S.2 a = some (kR j n r)) (hin : vp_in i n) (hv : S.2 v = some (kO ci rv)) (hci : ci < 11) (hj : cN ci = rC j) (kk : X G mi d kc nx lv rest (Su S a (kR j n (va_up r i.toNatClampNeg (some v)))) μ Q) : X G mi d kc pc lv (.ref v :: .int i :: .ref a :: rest) S μ Q := by
  intro p l e R s m args below meth c mc Z C hZ H locs cells slots ls hR hk hl
  obtain ⟨hd, rfl⟩ := hd
  obtain ⟨hga, cA, hA, q1⟩ := hR.at hb
  have hal := C.2.2.2.2.2.2.2.2.2.1.alike
  have hlt : i.toNatClampNeg < n := Nat.not_le.mp fun q => hin (Or.inr q)
  have h0 : ¬ i < 0 := fun q => hin (Or.inl q)
  obtain ⟨-, cv, g1, g2, g3, -⟩ := hR.at hv
  have hcls := (u_Kn_moved hal (C.2.2.2.2.2.2.2.2.2.2.1 ci hci)).2
  obtain ⟨kA, comp, k1, k2, k3, -⟩ := hA.2.moved hal
  rw [← hj] at k3
  have hcomp : comp = G.2.1 ci := Option.some.inj (k3.symm.trans hcls.1)
  subst hcomp
  obtain ⟨kC, hkC, -⟩ := hcls.2
  refine W.aast C.1 C.2.1 q1 (fun q h => by cases h) (fun h => by cases h) k1 k2 rfl hkC ⟨h0, by rw [arrV_size]; exact hlt⟩ g1 (fun q h => by rw [g3] at h; cases h) (by rw [g2]; exact hkC) (by rw [g2]; exact va_assign hcls) rfl rfl hd fun H1 e1 e2 e3 => ?_
  refine kk p l e R s m args below meth c mc Z C hZ H1 _ cells slots ls (hR.put rfl hga (hR.lt hb) e2 e3 (fun q hq => ⟨if_neg hq, rfl⟩) ?_) hk hl
  rw [show (Su S a _).2 a = _ from if_pos rfl]
  refine ⟨hga, cA, hA, ?_⟩
  rw [e1, arrV_store]
  congr 2
  funext q
  by_cases hq : q = i.toNatClampNeg
  · subst hq; simp [updV, va_up, va_rf]
  · simp [updV, va_up, hq]
theorem X_aastT {a j n v t : Nat} {r : Nat → Option Nat} {i : Int32} (hd : Dc mi.2.1 pc .aastore 1 nx) (hb : S.2 a = some (kR j n r)) (hin : vp_in i n) (hv : S.2 v = some (kT t)) (hj : rC j = "java/lang/String") (kk : X G mi d kc nx lv rest (Su S a (kR j n (va_up r i.toNatClampNeg (some v)))) μ Q) : X G mi d kc pc lv (.ref v :: .int i :: .ref a :: rest) S μ Q := by
  intro p l e R s m args below meth c mc Z C hZ H locs cells slots ls hR hk hl
  obtain ⟨hd, rfl⟩ := hd
  obtain ⟨hga, cA, hA, q1⟩ := hR.at hb
  have hal := C.2.2.2.2.2.2.2.2.2.1.alike
  have hlt : i.toNatClampNeg < n := Nat.not_le.mp fun q => hin (Or.inr q)
  have h0 : ¬ i < 0 := fun q => hin (Or.inl q)
  obtain ⟨-, -, cv, g1, g2, g3, -⟩ := hR.at hv
  obtain ⟨kA, comp, k1, k2, k3, -⟩ := hA.2.moved hal
  rw [hj] at k3
  obtain ⟨kE, hkE, -⟩ := Vm.findClass_spec k3
  have hcc : cv.cls = comp := by
    rw [← hal.findClass] at g3
    exact Option.some.inj (g3.symm.trans k3)
  refine W.aast C.1 C.2.1 q1 (fun q h => by cases h) (fun h => by cases h) k1 k2 rfl hkE ⟨h0, by rw [arrV_size]; exact hlt⟩ g1 (fun q h => by rw [h] at g2; cases g2) (by rw [hcc]; exact hkE) (by rw [hcc]; exact va_asg _ _) rfl rfl hd fun H1 e1 e2 e3 => ?_
  refine kk p l e R s m args below meth c mc Z C hZ H1 _ cells slots ls (hR.put rfl hga (hR.lt hb) e2 e3 (fun q hq => ⟨if_neg hq, rfl⟩) ?_) hk hl
  rw [show (Su S a _).2 a = _ from if_pos rfl]
  refine ⟨hga, cA, hA, ?_⟩
  rw [e1, arrV_store]
  congr 2
  funext q
  by_cases hq : q = i.toNatClampNeg
  · subst hq; simp [updV, va_up, va_rf]
  · simp [updV, va_up, hq]
theorem X_newI {n : Int32} {N : Nat} (hd : Dc mi.2.1 pc (.newarray .int) 2 nx) (hn : ¬ n < 0) (hN : n.toNatClampNeg = N) (hN4 : N ≤ 400) (kk : X G mi d kc nx lv (.ref S.1 :: rest) (Sx S (kI N)) (Mx μ S.1 (fun _ => 0)) Q) : X G mi d (kc + 1) pc lv (.int n :: rest) S μ Q := by
  intro p l e R s m args below meth c mc Z C hZ H locs cells slots ls hR hk hl
  obtain ⟨hd, rfl⟩ := hd
  have hroom := C.2.2.2.2.2.2.2.2.1
  refine va_newaK C.1 C.2.1 (atype := .int) (C.2.2.2.2.2.1 (.arrayClass .int) (gd (wk 61 (by decide +kernel)) rfl)) rfl hd rfl hn hN (by show N * 4 ≤ _; omega) (by omega) (by omega) hR.2.1 fun H1 cA e1 e2 e3 hA _ => ?_
  refine W.widen (k := cells + 1) (n := slots + 400) (by omega) (by omega) ?_
  exact kk p l e R s m args below meth c mc Z C hZ H1 locs (cells + 1) (slots + 400) ls (hR.push e2 (fun q hq => e3 q hq) ⟨by have := hR.1; have := hR.2.1; omega, cA, fun n z => State.isArrayOf_alike C.2.2.2.2.2.2.2.2.2.1.alike.symm (hA n z), e1⟩) (by omega) hl
theorem X_newO {ci idx : Nat} (hd : Dc mi.2.1 pc (.new idx) 3 nx) (hci : ci < 11) (h1 : Cond.classLink mi.1.cls idx (cN ci) ∈ lw_gd) (h2 : Cond.instantiable (cN ci) (fN ci) ∈ lw_gd) (h3 : Cond.initialized (cN ci) ∈ lw_gd) (hdf : ∀ j, j < fN ci → defaultValue (cTy ci j) = fV ci (fun _ => none) (fun _ => 0) j) (kk : X G mi d kc nx lv (.ref S.1 :: rest) (Sx S (kO ci (fun _ => none))) (Mx μ S.1 (fun _ => 0)) Q) : X G mi d (kc + 1) pc lv rest S μ Q := by
  intro p l e R s m args below meth c mc Z C hZ H locs cells slots ls hR hk hl
  obtain ⟨hd, rfl⟩ := hd
  have hroom := C.2.2.2.2.2.2.2.2.1
  have hts := C.2.2.2.2.2.1
  have hf4 : fN ci ≤ 400 := by unfold fN; split <;> decide
  have hKn := u_Kn_moved C.2.2.2.2.2.2.2.2.2.1.alike (C.2.2.2.2.2.2.2.2.2.2.1 ci hci)
  refine W.newcK C.1 C.2.1 C.2.2.2.2.1 (hts _ h1) (hts _ h2) (hts _ h3) rfl hd (by omega) (by omega) hKn.2.1 hR.2.1 fun H1 kC hkC e1 e2 e3 => ?_
  refine W.widen (k := cells + 1) (n := slots + 400) (by omega) (by omega) ?_
  exact kk p l e R s m args below meth c mc Z C hZ H1 locs (cells + 1) (slots + 400) ls (hR.push e2 (fun q hq => e3 q hq) ⟨by have := hR.1; have := hR.2.1; omega, (u_born (cTy ci) hts (cls_gd hci) hKn hkC e1 (cls_ty ci hci)).to hdf⟩) (by omega) hl
theorem X_newR {j idx : Nat} {n : Int32} {N : Nat} (hd : Dc mi.2.1 pc (.anewarray idx) 3 nx) (hj : j < 3) (h1 : Cond.classLink mi.1.cls idx (rC j) ∈ lw_gd) (hn : ¬ n < 0) (hN : n.toNatClampNeg = N) (hN4 : N ≤ 400) (kk : X G mi d kc nx lv (.ref S.1 :: rest) (Sx S (kR j N (fun _ => none))) (Mx μ S.1 (fun _ => 0)) Q) : X G mi d (kc + 1) pc lv (.int n :: rest) S μ Q := by
  intro p l e R s m args below meth c mc Z C hZ H locs cells slots ls hR hk hl
  obtain ⟨hd, rfl⟩ := hd
  have hroom := C.2.2.2.2.2.2.2.2.1
  have hts := C.2.2.2.2.2.1
  have hal := C.2.2.2.2.2.2.2.2.2.1.alike
  have hAO : va_AO (rC j) s := va_AO.moved hal (C.2.2.2.2.2.2.2.2.2.2.2.2.2.1 j hj)
  subst hN
  have hsz := hR.2.1
  refine W.anew C.1 C.2.1 C.2.2.2.2.1 (hts _ h1) (va_AO.use hAO) rfl hd rfl hn (by omega) (by omega) (by omega) fun cA kA comp f1 f2 f3 f4 => ?_
  rw [hsz]
  generalize hH1 : H.push ({ cls := cA, slots := Array.replicate n.toNatClampNeg .null, vm := .none } : Cell) = H1
  have z1 : H1.size = S.1 + 1 := by rw [← hH1, Array.size_push, hsz]
  have e1 : H1[S.1]? = some (arrV cA n.toNatClampNeg (fun _ => .null)) := by rw [← hH1, ← hsz, Array.getElem?_push_size, ← arrV_new]
  have o1 : ∀ q : Nat, q < S.1 → H1[q]? = H[q]? := fun q hq => by rw [← hH1, Array.getElem?_push, if_neg (by omega)]
  have hAr : ArrOfT s cA (.object (rC j)) := fun N z => ⟨(fun k h => by cases h), kA, f2, comp, f3⟩
  have hRA : va_RA s cA (.object (rC j)) := ⟨kA, comp, f2, f3, f4, f1⟩
  refine W.widen (k := cells + 1) (n := slots + 400) (by omega) (by omega) ?_
  exact kk p l e R s m args below meth c mc Z C hZ H1 locs (cells + 1) (slots + 400) ls (hR.push z1 o1 ⟨by have := hR.1; omega, cA, ⟨fun n z => State.isArrayOf_alike hal.symm (hAr n z), hRA.moved hal.symm⟩, e1⟩) (by omega) hl
theorem X_objInit {a idx : Nat} (hd : Dc mi.2.1 pc (.invokespecial idx) 3 nx) (h1 : Cond.methodLink mi.1.cls idx Lib.objectInit ∈ lw_gd) (hr : (rest.map fun v => v.category).sum ≤ 8) (kk : X G mi (d + 1) kc nx lv rest S μ Q) : X G mi (d + 1) kc pc lv (.ref a :: rest) S μ Q := by
  intro p l e R s m args below meth c mc Z C hZ H locs cells slots ls hR hk hl
  obtain ⟨hd, rfl⟩ := hd
  have hroom := C.2.2.2.2.2.2.2.2.1
  have hts := C.2.2.2.2.2.1
  exact W.objInit C.1 C.2.1 C.2.2.2.2.1 (hts _ h1) (hts (.instanceMethod Lib.objectInit) (gd (wk 27 (by decide +kernel)) rfl)) (hts (.code Lib.objectInit ⟨#[0xb1]⟩ 1 none) (gd (wk 28 (by decide +kernel)) rfl)) rfl (hl.1.trans C.2.2.2.1.symm) rfl hd (by omega) (by have := lv_room (m := m) (pc := pc) (ls := ls) (rest := .ref a :: rest) hr; omega) (kk p l e R s m args below meth c mc Z C hZ H locs cells slots ls hR hk hl)
theorem X_gets {j idx : Nat} (hd : Dc mi.2.1 pc (.getstatic idx) 3 nx) (hj : j < 8) (h1 : Cond.fieldLink mi.1.cls idx "RopesAtDawn" (sN j) "[I" ∈ lw_gd) (kk : X G mi d kc nx lv (.ref (G.2.2.2 j) :: rest) S μ Q) : X G mi d kc pc lv rest S μ Q := by
  intro p l e R s m args below meth c mc Z C hZ H locs cells slots ls hR hk hl
  obtain ⟨hd, rfl⟩ := hd
  obtain ⟨cf, kf, fi, f, a, ce, h1', h2, h3, h4, h5, h6, h7, h8⟩ := va_Z.moved C.2.2.2.2.2.2.2.2.2.1.alike (C.2.2.2.2.2.2.2.2.2.2.2.1 j hj)
  exact W.gets C.1 C.2.1 C.2.2.2.2.1 (C.2.2.2.2.2.1 _ h1) h1' h2 h3 h4 (by rw [hR.2.2.2.2.1 a (Nat.not_le.mp h8)]; exact h5) (fun e => by rw [e] at h6; cases h6) h7 rfl hd (kk p l e R s m args below meth c mc Z C hZ H locs cells slots ls hR hk hl)
theorem X_getsN {j idx : Nat} (hd : Dc mi.2.1 pc (.getstatic idx) 3 nx) (hj : j < 8) (h1 : Cond.fieldLinkNest mi.1.cls idx "RopesAtDawn" (sN j) "[I" "RopesAtDawn" ∈ gN) (kk : X G mi d kc nx lv (.ref (G.2.2.2 j) :: rest) S μ Q) : X G mi d kc pc lv rest S μ Q := by
  intro p l e R s m args below meth c mc Z C hZ H locs cells slots ls hR hk hl
  obtain ⟨hd, rfl⟩ := hd
  obtain ⟨cf, kf, fi, f, a, ce, h1', h2, h3, h4, h5, h6, h7, h8⟩ := va_Z.moved C.2.2.2.2.2.2.2.2.2.1.alike (C.2.2.2.2.2.2.2.2.2.2.2.1 j hj)
  exact va_WgetsN C.1 C.2.1 C.2.2.2.2.1 (va_Nw.use rfl (va_Nw.warmF C.2.2.2.2.2.2.2.2.2.1 (C.2.2.2.2.2.2.2.2.2.2.2.2.1 _ h1))) h1' h2 h3 h4 (by rw [hR.2.2.2.2.1 a (Nat.not_le.mp h8)]; exact h5) (fun e => by rw [e] at h6; cases h6) h7 rfl hd (kk p l e R s m args below meth c mc Z C hZ H locs cells slots ls hR hk hl)
theorem X_getsZ {idx : Nat} (hd : Dc mi.2.1 pc (.getstatic idx) 3 nx) (h1 : Cond.fieldLink mi.1.cls idx "java/lang/String" "COMPACT_STRINGS" "Z" ∈ lw_gd) (kk : X G mi d kc nx lv (.int 1 :: rest) S μ Q) : X G mi d kc pc lv rest S μ Q := by
  intro p l e R s m args below meth c mc Z C hZ H locs cells slots ls hR hk hl
  obtain ⟨hd, rfl⟩ := hd
  obtain ⟨cf, kf, fi, f, a, ce, h1', h2, h3, h4, h5, h6, h7, h8⟩ := va_Z.moved C.2.2.2.2.2.2.2.2.2.1.alike (C.2.2.2.2.2.2.2.2.2.2.2.2.2.2.1)
  exact W.gets C.1 C.2.1 C.2.2.2.2.1 (C.2.2.2.2.2.1 _ h1) h1' h2 h3 h4 (by rw [hR.2.2.2.2.1 a (Nat.not_le.mp h8)]; exact h5) (fun e => by rw [e] at h6; cases h6) h7 rfl hd (kk p l e R s m args below meth c mc Z C hZ H locs cells slots ls hR hk hl)
theorem X_ldcS {idx q : Nat} {tx : String} (hd : Dc mi.2.1 pc (.ldc idx) 2 nx) (h1 : Gok G → vk_R mi.1.cls idx tx q G.1) (kk : X G mi d kc nx lv (.ref q :: rest) S μ Q) : X G mi d kc pc lv rest S μ Q := by
  intro p l e R s m args below meth c mc Z C hZ H locs cells slots ls hR hk hl
  obtain ⟨hd, rfl⟩ := hd
  exact va_ldcS C.1 C.2.1 C.2.2.2.2.1 ((h1 C.2.2.2.2.2.2.2.2.2.2).warm C.2.2.2.2.2.2.2.2.2.1) hd (kk p l e R s m args below meth c mc Z C hZ H locs cells slots ls hR hk hl)
theorem X_getT {a t idx : Nat} (hd : Dc mi.2.1 pc (.getfield idx) 3 nx) (h1 : Cond.fieldLink mi.1.cls idx "java/lang/String" "value" "[B" ∈ lw_gd) (hb : S.2 a = some (kT t)) (kk : X G mi d kc nx lv (.ref (G.2.2.2 (t + 20)) :: rest) S μ Q) : X G mi d kc pc lv (.ref a :: rest) S μ Q := by
  intro p l e R s m args below meth c mc Z C hZ H locs cells slots ls hR hk hl
  obtain ⟨hd, rfl⟩ := hd
  obtain ⟨h, -, -⟩ := hR.at hb
  obtain ⟨cf, k, fi, f, ce, h1', h2, h3, h4, h5, h6⟩ := va_OF.moved C.2.2.2.2.2.2.2.2.2.1.alike h
  exact W.getf C.1 C.2.1 C.2.2.2.2.1 (C.2.2.2.2.2.1 _ h1) h1' h2 h3 h4 h5 rfl rfl hd (kk p l e R s m args below meth c mc Z C hZ H locs cells slots ls hR hk hl)
theorem X_getTc {a t idx : Nat} (hd : Dc mi.2.1 pc (.getfield idx) 3 nx) (h1 : Cond.fieldLink mi.1.cls idx "java/lang/String" "coder" "B" ∈ lw_gd) (hb : S.2 a = some (kT t)) (kk : X G mi d kc nx lv (.int 0 :: rest) S μ Q) : X G mi d kc pc lv (.ref a :: rest) S μ Q := by
  intro p l e R s m args below meth c mc Z C hZ H locs cells slots ls hR hk hl
  obtain ⟨hd, rfl⟩ := hd
  obtain ⟨-, h, -⟩ := hR.at hb
  obtain ⟨cf, k, fi, f, ce, h1', h2, h3, h4, h5, h6⟩ := va_OF.moved C.2.2.2.2.2.2.2.2.2.1.alike h
  exact W.getf C.1 C.2.1 C.2.2.2.2.1 (C.2.2.2.2.2.1 _ h1) h1' h2 h3 h4 h5 rfl rfl hd (kk p l e R s m args below meth c mc Z C hZ H locs cells slots ls hR hk hl)
end
end
section
/-! The layer's returns and calls. -/
def wsM (mi : MI) : List Cond := Cond.code mi.1 mi.2.1 mi.2.2.1 mi.2.2.2 :: lw_gd
def rmM (d kc : Nat) : Room := { frames := d, cells := kc, slots := 400 * kc, locals := 64 * d + 13 }
def Mok (mi : MI) : Prop := plainName mi.1.cls = true ∧ Cond.code mi.1 mi.2.1 mi.2.2.1 mi.2.2.2 ∈ lw_gd ∧ Cond.initialized mi.1.cls ∈ lw_gd ∧ mi.1.cls ≠ "java/lang/invoke/MethodHandle" ∧ mi.1.cls ≠ "java/lang/invoke/VarHandle" ∧ mi.2.2.1 ≤ 45
def MokV (mi : MI) : Prop := Mok mi ∧ Cond.instanceMethod mi.1 ∈ lw_gd ∧ Cond.selects mi.1.cls mi.1 mi.1 ∈ lw_gd
def MokS (mi : MI) : Prop := Mok mi ∧ Cond.static mi.1 ∈ lw_gd
def MokI (mi : MI) : Prop := Mok mi ∧ Cond.instanceMethod mi.1 ∈ lw_gd ∧ mi.1.name = "<init>" ∧ mi.2.2.2 = none
def nPar (y : MethodName) (n : Nat) : Prop := (parseMethodDescriptor y.desc).map (fun d => d.parameters.length) = some n
theorem wsM_good {mi : MI} (h : Mok mi) : GoodIn lw_gd (wsM mi) := by
  intro w hw
  rcases List.mem_cons.mp hw with e | hw
  · rw [e]; exact ⟨h.2.1, good_of_word (gd_good _ h.2.1)⟩
  · exact ⟨hw, good_of_word (gd_good _ hw)⟩
def PcM (G : Gl) (S : Sh) (μ : Mu) (av : List Value) : Array Value → State → Prop := va_Pc av (fun U => G.1.WarmedH U.vm ∧ Rp G S μ U.heap [])
def QcM (G : Gl) (Q : Option Value → Sh → Mu → Prop) : Array Value → State → Outcome → State → Prop := fun _ _ oc t => ∃ (v : Option Value) (S' : Sh) (μ' : Mu), oc = .returned v ∧ Q v S' μ' ∧ Rp G S' μ' t.heap []
/-- a method's walk from its entry is a contract -/
theorem met_of {G : Gl} (hG : Gok G) {mi : MI} {d kc : Nat} {av : List Value} {S : Sh} {μ : Mu} {Q : Option Value → Sh → Mu → Prop} (hm : Mok mi) (hlen : (lg_sl av).length ≤ mi.2.2.1) (h : X G mi d kc 0 (lv_args 0 av) [] S μ Q) (l : Launch) : Met l mi.1 (wsM mi) (rmM d kc) (PcM G S μ av) (QcM G Q) kc (400 * kc) (fun q => gb G ≤ q) := by
  refine Met.ofW (cc := mi.2.1) (maxL := mi.2.2.1) (ret := mi.2.2.2) hm.1 rfl ?_
  intro p e s m args below meth c s₁ B hml hv
  obtain ⟨rfl, hW, hR⟩ := hv
  have hts0 := atoms_spec (ws := wsM mi) B.pre
  have hlocks := B.notSynchronized
  have hrt := B.returns
  have hex := B.exec
  have hby := B.bytes
  rw [lg_entry_eq]
  refine h p l e _ s m _ below meth c kc _ ⟨hex, hby, hrt, hml, findClass_of_methodNamed B.named, fun w hw => hts0 w (List.mem_cons_of_mem _ hw), hlocks, (name_of_methodNamed B.named B.method).1, ⟨Nat.le_refl _, Nat.le_refl _, Nat.le_refl _, Nat.le_refl _⟩, hW, hG⟩ ?_ s.heap [] 0 0 _ hR ⟨by omega, by omega⟩ (lv_entry av hlen)
  intro v S' μ' H' locs' cells' slots' pc' ls' hq hR' hc hs hk
  refine W.widen hc hs ?_
  rcases hk with ⟨rfl, h1, h2⟩ | ⟨x, ty, rfl, h1, h2, h3⟩ | ⟨rt, w, rfl, h1, h2, h3, h4⟩
  · exact W.vret hex hby (hrt.trans h1) (fun t ht hw => ⟨none, S', μ', rfl, hq, by rw [ht]; exact hR'.nil⟩) hR'.2.2.2.2.2 h2
  · exact W.zret hex hby (hrt.trans h1) h2 (fun t ht hw => ⟨some (.int x), S', μ', rfl, hq, by rw [ht]; exact hR'.nil⟩) hR'.2.2.2.2.2 h3
  · exact W.aret hex hby (hrt.trans h2) h3 h1 (fun t ht hw => ⟨some w, S', μ', rfl, hq, by rw [ht]; exact hR'.nil⟩) hR'.2.2.2.2.2 h4
theorem PcM_blind {G : Gl} {S : Sh} {μ : Mu} {av : List Value} : FrameBlind (PcM G S μ av) := fun a U g mk q => ⟨q.1, q.2.1, q.2.2⟩
section
variable {G : Gl} {mi mj : MI} {d kc kd pc nx n idx : Nat} {lv lv2 : List (Nat × Value)} {st rest As : List Value} {S : Sh} {μ : Mu} {Q Q' : Option Value → Sh → Mu → Prop}
theorem X_ireturn {x : Int32} {ty : FieldType} (hd : Dc mi.2.1 pc .ireturn 1 nx) (hr : mi.2.2.2 = some ty) (hn : narrow ty (.int x) = .int x) {K : Int32 → Sh → Mu → Prop} (hq : K x S μ) : X G mi d kc pc lv [.int x] S μ (qi K) := by
  intro p l e R s m args below meth c mc Z C hZ H locs cells slots ls hR hk hl
  obtain ⟨hd, rfl⟩ := hd
  exact hZ (some (.int x)) S μ H locs cells slots pc ls ⟨x, rfl, hq⟩ hR (by omega) (by omega) (Or.inr (Or.inl ⟨x, ty, rfl, hr, hn, hd⟩))
theorem X_return (hd : Dc mi.2.1 pc .return_ 1 nx) (hr : mi.2.2.2 = none) {K : Sh → Mu → Prop} (hq : K S μ) : X G mi d kc pc lv [] S μ (qv K) := by
  intro p l e R s m args below meth c mc Z C hZ H locs cells slots ls hR hk hl
  obtain ⟨hd, rfl⟩ := hd
  exact hZ none S μ H locs cells slots pc ls ⟨rfl, hq⟩ hR (by omega) (by omega) (Or.inl ⟨rfl, hr, hd⟩)
theorem X_areturn {a : Nat} {rt : FieldType} (hd : Dc mi.2.1 pc .areturn 1 nx) (hr : mi.2.2.2 = some rt) (ho : (∃ n, rt = .object n) ∨ ∃ t, rt = .array t) {K : Option Nat → Sh → Mu → Prop} (hq : K (some a) S μ) : X G mi d kc pc lv [.ref a] S μ (qr K) := by
  intro p l e R s m args below meth c mc Z C hZ H locs cells slots ls hR hk hl
  obtain ⟨hd, rfl⟩ := hd
  exact hZ (some (.ref a)) S μ H locs cells slots pc ls ⟨some a, rfl, hq⟩ hR (by omega) (by omega) (Or.inr (Or.inr ⟨rt, .ref a, rfl, Or.inr ⟨a, rfl⟩, hr, ho, hd⟩))
theorem X_areturnN {rt : FieldType} (hd : Dc mi.2.1 pc .areturn 1 nx) (hr : mi.2.2.2 = some rt) (ho : (∃ n, rt = .object n) ∨ ∃ t, rt = .array t) {K : Option Nat → Sh → Mu → Prop} (hq : K none S μ) : X G mi d kc pc lv [.null] S μ (qr K) := by
  intro p l e R s m args below meth c mc Z C hZ H locs cells slots ls hR hk hl
  obtain ⟨hd, rfl⟩ := hd
  exact hZ (some .null) S μ H locs cells slots pc ls ⟨none, rfl, hq⟩ hR (by omega) (by omega) (Or.inr (Or.inr ⟨rt, .null, rfl, Or.inl rfl, hr, ho, hd⟩))
/-- fewer or other listed locals -/
theorem X_lv {lv3 : List (Nat × Value)} (h : ∀ q ∈ lv3, q ∈ lv) (k : X G mi d kc pc lv3 st S μ Q) : X G mi d kc pc lv st S μ Q := by
  intro p l e R s m args below meth c mc Z C hZ H locs cells slots ls hR hk hl
  exact k p l e R s m args below meth c mc Z C hZ H locs cells slots ls hR hk ⟨hl.1, hl.2.1, fun q hq => hl.2.2 q (h q hq)⟩
theorem X_post (h : ∀ v S μ, Q' v S μ → Q v S μ) (k : X G mi d kc pc lv st S μ Q') : X G mi d kc pc lv st S μ Q := by
  intro p l e R s m args below meth c mc Z C hZ H locs cells slots ls hR hk hl
  exact k p l e R s m args below meth c mc Z C (fun v S' μ' H' locs' cells' slots' pc' ls' hq => hZ v S' μ' H' locs' cells' slots' pc' ls' (h v S' μ' hq)) H locs cells slots ls hR hk hl
theorem X_kc (h : kd ≤ kc) (k : X G mi d kd pc lv st S μ Q) : X G mi d kc pc lv st S μ Q := by
  intro p l e R s m args below meth c mc Z C hZ H locs cells slots ls hR hk hl
  exact k p l e R s m args below meth c mc Z C hZ H locs cells slots ls hR (by omega) hl
/-- behind a call -/
theorem X_run (S0 : Sh) (hk0 : kc = kd + n) (cw : ∀ (p : Program) (l : Launch) (e : Env) (R : Room) (s : State) (m : MethodId) (args : Array Value) (below : List Frame) (meth : Method) (c : Code) (mc : Nat), Cx G mi (d + 1) mc p R s m args meth c → ∀ (H : Heap) (locs : List Loc) (cells slots : Nat) (ls : Array Slot), Rp G S μ H locs → cells + kc ≤ mc ∧ slots + 400 * kc ≤ 400 * mc → lv_has ls mi.2.2.1 lv → va_Run p l e R s m args below meth c H locs cells slots kd (400 * kd) (F0 m pc ls st) rest (fun st oc t => QcM G Q' #[] st oc t) (fun q => gb G ≤ q))
    (k : ∀ (v : Option Value) (S' : Sh) (μ' : Mu), Q' v S' μ' → X G mi (d + 1) n (pc + 3) lv (v.toList ++ rest) S' μ' Q) : X G mi (d + 1) kc pc lv st S μ Q := by
  intro p l e R s m args below meth c mc Z C hZ H locs cells slots ls hR hk hl T hT X
  obtain ⟨v, st₀, t, T', L, h0, X', hL, e1, e2, ⟨v', S', μ', hv, hq, hR'⟩, stp⟩ := cw p l e R s m args below meth c mc C H locs cells slots ls hR hk hl T hT X
  cases hv
  obtain ⟨t2, a1, b1⟩ := k v S' μ' hq p l e R s m args below meth c mc Z C hZ T'.heap (locs ++ L) (cells + kd) (slots + 400 * kd) ls (by rw [e1]; exact hR'.app hR.2.2.2.2.2 hL) (by omega) hl T' rfl X'
  exact ⟨t2, stp t2 a1, b1⟩
theorem X_callV (hd : Dc mi.2.1 pc (.invokevirtual idx) 3 nx) (hm : MokV mj) (hlk : Cond.methodLink mi.1.cls idx mj.1 ∈ lw_gd) (hn : nPar mj.1 As.length) {b ci : Nat} {r : Nat → Option Nat} (hb : S.2 b = some (kO ci r)) (hci : ci < 11) (hC : cN ci = mj.1.cls) (hst : st = As.reverse ++ .ref b :: rest) (hr : (rest.map fun v => v.category).sum ≤ 8) (hlen : (lg_sl (.ref b :: As)).length ≤ mj.2.2.1) (hk0 : kc = kd + n)
    (h : X G mj d kd 0 (lv_args 0 (.ref b :: As)) [] S μ Q') (k : ∀ (v : Option Value) (S' : Sh) (μ' : Mu), Q' v S' μ' → X G mi (d + 1) n nx lv (v.toList ++ rest) S' μ' Q) : X G mi (d + 1) kc pc lv st S μ Q := by
  obtain ⟨hd, rfl⟩ := hd
  refine X_run S hk0 ?_ k
  intro p l e R s m args below meth c mc C H locs cells slots ls hR hk hl
  have hts := C.2.2.2.2.2.1
  have hroom := C.2.2.2.2.2.2.2.2.1
  have hal := C.2.2.2.2.2.2.2.2.2.1
  have hG := C.2.2.2.2.2.2.2.2.2.2
  have cw : CallW R s args mi.1.cls mj.1.cls idx mj.1 mj.2.1 mj.2.2.1 mj.2.2.2 (wsM mj) (rmM d kd) kd (400 * kd) As.length := ⟨callB_of As.length hts (wsM_good hm.1) rfl rfl rfl (hts _ hm.1.2.2.1) (hts _ hlk) ⟨hm.1.2.2.2.1, hm.1.2.2.2.2.1, hn⟩ ⟨by show d + 1 ≤ _; omega, by show 8 + (mj.2.2.1 + 11) + (64 * d + 13) ≤ _; have := hm.1.2.2.2.2.2; omega⟩, hts _ hm.2.1, hts _ hm.2.2⟩
  obtain ⟨-, ce, q1, q2, q3, -⟩ := hR.at hb
  have hfc := (u_Kn_moved hal.alike (hG.1 ci hci)).2.1
  have hp : PreV s H mj.1.cls b (PcM G S μ (.ref b :: As)) As := ⟨PcM_blind, ⟨ce, q1, by rw [q3]; rfl, by rw [q2, ← hC]; exact hfc⟩, fun U hU hW => ⟨rfl, State.WarmedH.trans hal hW, by rw [hU]; exact hR.nil⟩⟩
  have hrun := va_runV (g := F0 m pc ls st) ⟨C.1, C.2.1, C.2.2.2.1, C.2.2.2.2.1, hts⟩ (met_of hG hm.1 hlen h l) cw hp rfl rfl hl.1 hst (lv_room hr) hd ⟨by omega, by omega⟩ (p := p) (e := e) (below := below) (meth := meth) (locs := locs) (cells := cells) (slots := slots)
  exact hrun
theorem X_callS (hd : Dc mi.2.1 pc (.invokestatic idx) 3 nx) (hm : MokS mj) (hlk : Cond.methodLink mi.1.cls idx mj.1 ∈ lw_gd) (hn : nPar mj.1 As.length) (hst : st = As.reverse ++ rest) (hr : (rest.map fun v => v.category).sum ≤ 8) (hlen : (lg_sl As).length ≤ mj.2.2.1) (hk0 : kc = kd + n)
    (h : X G mj d kd 0 (lv_args 0 As) [] S μ Q') (k : ∀ (v : Option Value) (S' : Sh) (μ' : Mu), Q' v S' μ' → X G mi (d + 1) n nx lv (v.toList ++ rest) S' μ' Q) : X G mi (d + 1) kc pc lv st S μ Q := by
  obtain ⟨hd, rfl⟩ := hd
  refine X_run S hk0 ?_ k
  intro p l e R s m args below meth c mc C H locs cells slots ls hR hk hl
  have hts := C.2.2.2.2.2.1
  have hroom := C.2.2.2.2.2.2.2.2.1
  have hal := C.2.2.2.2.2.2.2.2.2.1
  have hG := C.2.2.2.2.2.2.2.2.2.2
  have cw : CallB R s args mi.1.cls idx mj.1 mj.2.1 mj.2.2.1 mj.2.2.2 (wsM mj) (rmM d kd) kd (400 * kd) As.length ∧ (Cond.static mj.1).before args s = true := ⟨callB_of As.length hts (wsM_good hm.1) rfl rfl rfl (hts _ hm.1.2.2.1) (hts _ hlk) ⟨hm.1.2.2.2.1, hm.1.2.2.2.2.1, hn⟩ ⟨by show d + 1 ≤ _; omega, by show 8 + (mj.2.2.1 + 11) + (64 * d + 13) ≤ _; have := hm.1.2.2.2.2.2; omega⟩, hts _ hm.2⟩
  have hp : PreS s H (PcM G S μ As) As := ⟨PcM_blind, fun U hU hW => ⟨rfl, State.WarmedH.trans hal hW, by rw [hU]; exact hR.nil⟩⟩
  have hrun := va_runS (g := F0 m pc ls st) ⟨C.1, C.2.1, C.2.2.2.1, C.2.2.2.2.1, hts⟩ (met_of hG hm.1 hlen h l) cw hp rfl rfl hl.1 hst (lv_room hr) hd ⟨by omega, by omega⟩ (p := p) (e := e) (below := below) (meth := meth) (locs := locs) (cells := cells) (slots := slots)
  exact hrun
theorem X_callI (hd : Dc mi.2.1 pc (.invokespecial idx) 3 nx) (hm : MokI mj) (hlk : Cond.methodLink mi.1.cls idx mj.1 ∈ lw_gd) (hn : nPar mj.1 As.length) {b : Nat} (hst : st = As.reverse ++ .ref b :: rest) (hr : (rest.map fun v => v.category).sum ≤ 8) (hlen : (lg_sl (.ref b :: As)).length ≤ mj.2.2.1) (hk0 : kc = kd + n)
    (h : X G mj d kd 0 (lv_args 0 (.ref b :: As)) [] S μ Q') (k : ∀ (v : Option Value) (S' : Sh) (μ' : Mu), Q' v S' μ' → X G mi (d + 1) n nx lv (v.toList ++ rest) S' μ' Q) : X G mi (d + 1) kc pc lv st S μ Q := by
  obtain ⟨hd, rfl⟩ := hd
  refine X_run S hk0 ?_ k
  intro p l e R s m args below meth c mc C H locs cells slots ls hR hk hl
  have hts := C.2.2.2.2.2.1
  have hroom := C.2.2.2.2.2.2.2.2.1
  have hal := C.2.2.2.2.2.2.2.2.2.1
  have hG := C.2.2.2.2.2.2.2.2.2.2
  obtain ⟨y, cb, ml, rt⟩ := mj
  have hrn : rt = none := hm.2.2.2
  subst hrn
  have cw := cwI (R := R) (own := mi.1.cls) (index := idx) (y := y) (bytes := cb) (maxL := ml) (rm := rmM d kd) (mc := kd) (ms := 400 * kd) As.length hts (wsM_good hm.1) rfl rfl rfl (hts _ hm.1.2.2.1) (hts _ hlk) (hts _ hm.2.1) hm.2.2.1 ⟨hm.1.2.2.2.1, hm.1.2.2.2.2.1, hn⟩ ⟨by show d + 1 ≤ _; omega, by show 8 + (ml + 11) + (64 * d + 13) ≤ _; have h45 : ml ≤ 45 := hm.1.2.2.2.2.2; omega⟩
  have hp : PreS s H (PcM G S μ (.ref b :: As)) (.ref b :: As) := ⟨PcM_blind, fun U hU hW => ⟨rfl, State.WarmedH.trans hal hW, by rw [hU]; exact hR.nil⟩⟩
  have hrun := va_runI (g := F0 m pc ls st) ⟨C.1, C.2.1, C.2.2.2.1, C.2.2.2.2.1, hts⟩ (met_of hG hm.1 hlen h l) cw hp rfl rfl hl.1 hst (lv_room hr) hd ⟨by omega, by omega⟩ (p := p) (e := e) (below := below) (meth := meth) (locs := locs) (cells := cells) (slots := slots)
  exact hrun
/-- a method of a text -/
theorem X_callT (hd : Dc mi.2.1 pc (.invokevirtual idx) 3 nx) (hm : MokV mj) (hlk : Cond.methodLink mi.1.cls idx mj.1 ∈ lw_gd) (hn : nPar mj.1 As.length) {b t : Nat} (hb : S.2 b = some (kT t)) (hC : mj.1.cls = "java/lang/String") (hst : st = As.reverse ++ .ref b :: rest) (hr : (rest.map fun v => v.category).sum ≤ 8) (hlen : (lg_sl (.ref b :: As)).length ≤ mj.2.2.1) (hk0 : kc = kd + n)
    (h : X G mj d kd 0 (lv_args 0 (.ref b :: As)) [] S μ Q') (k : ∀ (v : Option Value) (S' : Sh) (μ' : Mu), Q' v S' μ' → X G mi (d + 1) n nx lv (v.toList ++ rest) S' μ' Q) : X G mi (d + 1) kc pc lv st S μ Q := by
  obtain ⟨hd, rfl⟩ := hd
  refine X_run S hk0 ?_ k
  intro p l e R s m args below meth c mc C H locs cells slots ls hR hk hl
  have hts := C.2.2.2.2.2.1
  have hroom := C.2.2.2.2.2.2.2.2.1
  have hal := C.2.2.2.2.2.2.2.2.2.1
  have hG := C.2.2.2.2.2.2.2.2.2.2
  have cw : CallW R s args mi.1.cls mj.1.cls idx mj.1 mj.2.1 mj.2.2.1 mj.2.2.2 (wsM mj) (rmM d kd) kd (400 * kd) As.length := ⟨callB_of As.length hts (wsM_good hm.1) rfl rfl rfl (hts _ hm.1.2.2.1) (hts _ hlk) ⟨hm.1.2.2.2.1, hm.1.2.2.2.2.1, hn⟩ ⟨by show d + 1 ≤ _; omega, by show 8 + (mj.2.2.1 + 11) + (64 * d + 13) ≤ _; have := hm.1.2.2.2.2.2; omega⟩, hts _ hm.2.1, hts _ hm.2.2⟩
  obtain ⟨-, -, hO⟩ := hR.at hb
  obtain ⟨ce, q1, q2, q3, -⟩ := va_O.moved hal.alike hO
  have hp : PreV s H mj.1.cls b (PcM G S μ (.ref b :: As)) As := ⟨PcM_blind, ⟨ce, q1, q2, by rw [hC]; exact q3⟩, fun U hU hW => ⟨rfl, State.WarmedH.trans hal hW, by rw [hU]; exact hR.nil⟩⟩
  have hrun := va_runV (g := F0 m pc ls st) ⟨C.1, C.2.1, C.2.2.2.1, C.2.2.2.2.1, hts⟩ (met_of hG hm.1 hlen h l) cw hp rfl rfl hl.1 hst (lv_room hr) hd ⟨by omega, by omega⟩ (p := p) (e := e) (below := below) (meth := meth) (locs := locs) (cells := cells) (slots := slots)
  exact hrun
theorem X_cV0i {b ci : Nat} {r : Nat → Option Nat} (hd : Dc mi.2.1 pc (.invokevirtual idx) 3 nx) (hm : MokV mj) (hlk : Cond.methodLink mi.1.cls idx mj.1 ∈ lw_gd) (hn : nPar mj.1 0) (hb : S.2 b = some (kO ci r)) (hci : ci < 11) (hC : cN ci = mj.1.cls) (hr : (rest.map fun v => v.category).sum ≤ 8) (hlen : (lg_sl (.ref b :: [])).length ≤ mj.2.2.1) (hl2 : lv_args 0 (.ref b :: []) = lv2) (h : X G mj d 0 0 lv2 [] S μ (qi (fun r S' μ' => X G mi (d + 1) kc nx lv (.int r :: rest) S' μ' Q))) : X G mi (d + 1) kc pc lv (.ref b :: rest) S μ Q := by
  subst hl2
  exact X_callV (As := []) hd hm hlk hn hb hci hC rfl hr hlen (Nat.zero_add kc).symm h (fun v S' μ' h => by obtain ⟨r, rfl, h⟩ := h; exact h)
theorem X_cV0v {b ci : Nat} {r : Nat → Option Nat} (hd : Dc mi.2.1 pc (.invokevirtual idx) 3 nx) (hm : MokV mj) (hlk : Cond.methodLink mi.1.cls idx mj.1 ∈ lw_gd) (hn : nPar mj.1 0) (hb : S.2 b = some (kO ci r)) (hci : ci < 11) (hC : cN ci = mj.1.cls) (hr : (rest.map fun v => v.category).sum ≤ 8) (hlen : (lg_sl (.ref b :: [])).length ≤ mj.2.2.1) (hl2 : lv_args 0 (.ref b :: []) = lv2) (h : X G mj d 0 0 lv2 [] S μ (qv (fun S' μ' => X G mi (d + 1) kc nx lv rest S' μ' Q))) : X G mi (d + 1) kc pc lv (.ref b :: rest) S μ Q := by
  subst hl2
  exact X_callV (As := []) hd hm hlk hn hb hci hC rfl hr hlen (Nat.zero_add kc).symm h (fun v S' μ' h => by obtain ⟨rfl, h⟩ := h; exact h)
theorem X_cV0r {b ci : Nat} {r : Nat → Option Nat} (hd : Dc mi.2.1 pc (.invokevirtual idx) 3 nx) (hm : MokV mj) (hlk : Cond.methodLink mi.1.cls idx mj.1 ∈ lw_gd) (hn : nPar mj.1 0) (hb : S.2 b = some (kO ci r)) (hci : ci < 11) (hC : cN ci = mj.1.cls) (hr : (rest.map fun v => v.category).sum ≤ 8) (hlen : (lg_sl (.ref b :: [])).length ≤ mj.2.2.1) (hl2 : lv_args 0 (.ref b :: []) = lv2) (h : X G mj d 0 0 lv2 [] S μ (qr (fun r S' μ' => X G mi (d + 1) kc nx lv (va_rf r :: rest) S' μ' Q))) : X G mi (d + 1) kc pc lv (.ref b :: rest) S μ Q := by
  subst hl2
  exact X_callV (As := []) hd hm hlk hn hb hci hC rfl hr hlen (Nat.zero_add kc).symm h (fun v S' μ' h => by obtain ⟨r, rfl, h⟩ := h; exact h)
theorem X_cV1i {b ci : Nat} {r : Nat → Option Nat} {v1 : Value} (hd : Dc mi.2.1 pc (.invokevirtual idx) 3 nx) (hm : MokV mj) (hlk : Cond.methodLink mi.1.cls idx mj.1 ∈ lw_gd) (hn : nPar mj.1 1) (hb : S.2 b = some (kO ci r)) (hci : ci < 11) (hC : cN ci = mj.1.cls) (hr : (rest.map fun v => v.category).sum ≤ 8) (hlen : (lg_sl (.ref b :: [v1])).length ≤ mj.2.2.1) (hl2 : lv_args 0 (.ref b :: [v1]) = lv2) (h : X G mj d 0 0 lv2 [] S μ (qi (fun r S' μ' => X G mi (d + 1) kc nx lv (.int r :: rest) S' μ' Q))) : X G mi (d + 1) kc pc lv (v1 :: .ref b :: rest) S μ Q := by
  subst hl2
  exact X_callV (As := [v1]) hd hm hlk hn hb hci hC rfl hr hlen (Nat.zero_add kc).symm h (fun v S' μ' h => by obtain ⟨r, rfl, h⟩ := h; exact h)
theorem X_cV1v {b ci : Nat} {r : Nat → Option Nat} {v1 : Value} (hd : Dc mi.2.1 pc (.invokevirtual idx) 3 nx) (hm : MokV mj) (hlk : Cond.methodLink mi.1.cls idx mj.1 ∈ lw_gd) (hn : nPar mj.1 1) (hb : S.2 b = some (kO ci r)) (hci : ci < 11) (hC : cN ci = mj.1.cls) (hr : (rest.map fun v => v.category).sum ≤ 8) (hlen : (lg_sl (.ref b :: [v1])).length ≤ mj.2.2.1) (hl2 : lv_args 0 (.ref b :: [v1]) = lv2) (h : X G mj d 0 0 lv2 [] S μ (qv (fun S' μ' => X G mi (d + 1) kc nx lv rest S' μ' Q))) : X G mi (d + 1) kc pc lv (v1 :: .ref b :: rest) S μ Q := by
  subst hl2
  exact X_callV (As := [v1]) hd hm hlk hn hb hci hC rfl hr hlen (Nat.zero_add kc).symm h (fun v S' μ' h => by obtain ⟨rfl, h⟩ := h; exact h)
theorem X_cV1r {b ci : Nat} {r : Nat → Option Nat} {v1 : Value} (hd : Dc mi.2.1 pc (.invokevirtual idx) 3 nx) (hm : MokV mj) (hlk : Cond.methodLink mi.1.cls idx mj.1 ∈ lw_gd) (hn : nPar mj.1 1) (hb : S.2 b = some (kO ci r)) (hci : ci < 11) (hC : cN ci = mj.1.cls) (hr : (rest.map fun v => v.category).sum ≤ 8) (hlen : (lg_sl (.ref b :: [v1])).length ≤ mj.2.2.1) (hl2 : lv_args 0 (.ref b :: [v1]) = lv2) (h : X G mj d 0 0 lv2 [] S μ (qr (fun r S' μ' => X G mi (d + 1) kc nx lv (va_rf r :: rest) S' μ' Q))) : X G mi (d + 1) kc pc lv (v1 :: .ref b :: rest) S μ Q := by
  subst hl2
  exact X_callV (As := [v1]) hd hm hlk hn hb hci hC rfl hr hlen (Nat.zero_add kc).symm h (fun v S' μ' h => by obtain ⟨r, rfl, h⟩ := h; exact h)
theorem X_cV2i {b ci : Nat} {r : Nat → Option Nat} {v1 v2 : Value} (hd : Dc mi.2.1 pc (.invokevirtual idx) 3 nx) (hm : MokV mj) (hlk : Cond.methodLink mi.1.cls idx mj.1 ∈ lw_gd) (hn : nPar mj.1 2) (hb : S.2 b = some (kO ci r)) (hci : ci < 11) (hC : cN ci = mj.1.cls) (hr : (rest.map fun v => v.category).sum ≤ 8) (hlen : (lg_sl (.ref b :: [v1, v2])).length ≤ mj.2.2.1) (hl2 : lv_args 0 (.ref b :: [v1, v2]) = lv2) (h : X G mj d 0 0 lv2 [] S μ (qi (fun r S' μ' => X G mi (d + 1) kc nx lv (.int r :: rest) S' μ' Q))) : X G mi (d + 1) kc pc lv (v2 :: v1 :: .ref b :: rest) S μ Q := by
  subst hl2
  exact X_callV (As := [v1, v2]) hd hm hlk hn hb hci hC rfl hr hlen (Nat.zero_add kc).symm h (fun v S' μ' h => by obtain ⟨r, rfl, h⟩ := h; exact h)
theorem X_cV2v {b ci : Nat} {r : Nat → Option Nat} {v1 v2 : Value} (hd : Dc mi.2.1 pc (.invokevirtual idx) 3 nx) (hm : MokV mj) (hlk : Cond.methodLink mi.1.cls idx mj.1 ∈ lw_gd) (hn : nPar mj.1 2) (hb : S.2 b = some (kO ci r)) (hci : ci < 11) (hC : cN ci = mj.1.cls) (hr : (rest.map fun v => v.category).sum ≤ 8) (hlen : (lg_sl (.ref b :: [v1, v2])).length ≤ mj.2.2.1) (hl2 : lv_args 0 (.ref b :: [v1, v2]) = lv2) (h : X G mj d 0 0 lv2 [] S μ (qv (fun S' μ' => X G mi (d + 1) kc nx lv rest S' μ' Q))) : X G mi (d + 1) kc pc lv (v2 :: v1 :: .ref b :: rest) S μ Q := by
  subst hl2
  exact X_callV (As := [v1, v2]) hd hm hlk hn hb hci hC rfl hr hlen (Nat.zero_add kc).symm h (fun v S' μ' h => by obtain ⟨rfl, h⟩ := h; exact h)
theorem X_cV2r {b ci : Nat} {r : Nat → Option Nat} {v1 v2 : Value} (hd : Dc mi.2.1 pc (.invokevirtual idx) 3 nx) (hm : MokV mj) (hlk : Cond.methodLink mi.1.cls idx mj.1 ∈ lw_gd) (hn : nPar mj.1 2) (hb : S.2 b = some (kO ci r)) (hci : ci < 11) (hC : cN ci = mj.1.cls) (hr : (rest.map fun v => v.category).sum ≤ 8) (hlen : (lg_sl (.ref b :: [v1, v2])).length ≤ mj.2.2.1) (hl2 : lv_args 0 (.ref b :: [v1, v2]) = lv2) (h : X G mj d 0 0 lv2 [] S μ (qr (fun r S' μ' => X G mi (d + 1) kc nx lv (va_rf r :: rest) S' μ' Q))) : X G mi (d + 1) kc pc lv (v2 :: v1 :: .ref b :: rest) S μ Q := by
  subst hl2
  exact X_callV (As := [v1, v2]) hd hm hlk hn hb hci hC rfl hr hlen (Nat.zero_add kc).symm h (fun v S' μ' h => by obtain ⟨r, rfl, h⟩ := h; exact h)
theorem X_cV3i {b ci : Nat} {r : Nat → Option Nat} {v1 v2 v3 : Value} (hd : Dc mi.2.1 pc (.invokevirtual idx) 3 nx) (hm : MokV mj) (hlk : Cond.methodLink mi.1.cls idx mj.1 ∈ lw_gd) (hn : nPar mj.1 3) (hb : S.2 b = some (kO ci r)) (hci : ci < 11) (hC : cN ci = mj.1.cls) (hr : (rest.map fun v => v.category).sum ≤ 8) (hlen : (lg_sl (.ref b :: [v1, v2, v3])).length ≤ mj.2.2.1) (hl2 : lv_args 0 (.ref b :: [v1, v2, v3]) = lv2) (h : X G mj d 0 0 lv2 [] S μ (qi (fun r S' μ' => X G mi (d + 1) kc nx lv (.int r :: rest) S' μ' Q))) : X G mi (d + 1) kc pc lv (v3 :: v2 :: v1 :: .ref b :: rest) S μ Q := by
  subst hl2
  exact X_callV (As := [v1, v2, v3]) hd hm hlk hn hb hci hC rfl hr hlen (Nat.zero_add kc).symm h (fun v S' μ' h => by obtain ⟨r, rfl, h⟩ := h; exact h)
theorem X_cV3v {b ci : Nat} {r : Nat → Option Nat} {v1 v2 v3 : Value} (hd : Dc mi.2.1 pc (.invokevirtual idx) 3 nx) (hm : MokV mj) (hlk : Cond.methodLink mi.1.cls idx mj.1 ∈ lw_gd) (hn : nPar mj.1 3) (hb : S.2 b = some (kO ci r)) (hci : ci < 11) (hC : cN ci = mj.1.cls) (hr : (rest.map fun v => v.category).sum ≤ 8) (hlen : (lg_sl (.ref b :: [v1, v2, v3])).length ≤ mj.2.2.1) (hl2 : lv_args 0 (.ref b :: [v1, v2, v3]) = lv2) (h : X G mj d 0 0 lv2 [] S μ (qv (fun S' μ' => X G mi (d + 1) kc nx lv rest S' μ' Q))) : X G mi (d + 1) kc pc lv (v3 :: v2 :: v1 :: .ref b :: rest) S μ Q := by
  subst hl2
  exact X_callV (As := [v1, v2, v3]) hd hm hlk hn hb hci hC rfl hr hlen (Nat.zero_add kc).symm h (fun v S' μ' h => by obtain ⟨rfl, h⟩ := h; exact h)
theorem X_cV3r {b ci : Nat} {r : Nat → Option Nat} {v1 v2 v3 : Value} (hd : Dc mi.2.1 pc (.invokevirtual idx) 3 nx) (hm : MokV mj) (hlk : Cond.methodLink mi.1.cls idx mj.1 ∈ lw_gd) (hn : nPar mj.1 3) (hb : S.2 b = some (kO ci r)) (hci : ci < 11) (hC : cN ci = mj.1.cls) (hr : (rest.map fun v => v.category).sum ≤ 8) (hlen : (lg_sl (.ref b :: [v1, v2, v3])).length ≤ mj.2.2.1) (hl2 : lv_args 0 (.ref b :: [v1, v2, v3]) = lv2) (h : X G mj d 0 0 lv2 [] S μ (qr (fun r S' μ' => X G mi (d + 1) kc nx lv (va_rf r :: rest) S' μ' Q))) : X G mi (d + 1) kc pc lv (v3 :: v2 :: v1 :: .ref b :: rest) S μ Q := by
  subst hl2
  exact X_callV (As := [v1, v2, v3]) hd hm hlk hn hb hci hC rfl hr hlen (Nat.zero_add kc).symm h (fun v S' μ' h => by obtain ⟨r, rfl, h⟩ := h; exact h)
theorem X_cV4i {b ci : Nat} {r : Nat → Option Nat} {v1 v2 v3 v4 : Value} (hd : Dc mi.2.1 pc (.invokevirtual idx) 3 nx) (hm : MokV mj) (hlk : Cond.methodLink mi.1.cls idx mj.1 ∈ lw_gd) (hn : nPar mj.1 4) (hb : S.2 b = some (kO ci r)) (hci : ci < 11) (hC : cN ci = mj.1.cls) (hr : (rest.map fun v => v.category).sum ≤ 8) (hlen : (lg_sl (.ref b :: [v1, v2, v3, v4])).length ≤ mj.2.2.1) (hl2 : lv_args 0 (.ref b :: [v1, v2, v3, v4]) = lv2) (h : X G mj d 0 0 lv2 [] S μ (qi (fun r S' μ' => X G mi (d + 1) kc nx lv (.int r :: rest) S' μ' Q))) : X G mi (d + 1) kc pc lv (v4 :: v3 :: v2 :: v1 :: .ref b :: rest) S μ Q := by
  subst hl2
  exact X_callV (As := [v1, v2, v3, v4]) hd hm hlk hn hb hci hC rfl hr hlen (Nat.zero_add kc).symm h (fun v S' μ' h => by obtain ⟨r, rfl, h⟩ := h; exact h)
theorem X_cV4v {b ci : Nat} {r : Nat → Option Nat} {v1 v2 v3 v4 : Value} (hd : Dc mi.2.1 pc (.invokevirtual idx) 3 nx) (hm : MokV mj) (hlk : Cond.methodLink mi.1.cls idx mj.1 ∈ lw_gd) (hn : nPar mj.1 4) (hb : S.2 b = some (kO ci r)) (hci : ci < 11) (hC : cN ci = mj.1.cls) (hr : (rest.map fun v => v.category).sum ≤ 8) (hlen : (lg_sl (.ref b :: [v1, v2, v3, v4])).length ≤ mj.2.2.1) (hl2 : lv_args 0 (.ref b :: [v1, v2, v3, v4]) = lv2) (h : X G mj d 0 0 lv2 [] S μ (qv (fun S' μ' => X G mi (d + 1) kc nx lv rest S' μ' Q))) : X G mi (d + 1) kc pc lv (v4 :: v3 :: v2 :: v1 :: .ref b :: rest) S μ Q := by
  subst hl2
  exact X_callV (As := [v1, v2, v3, v4]) hd hm hlk hn hb hci hC rfl hr hlen (Nat.zero_add kc).symm h (fun v S' μ' h => by obtain ⟨rfl, h⟩ := h; exact h)
theorem X_cV4r {b ci : Nat} {r : Nat → Option Nat} {v1 v2 v3 v4 : Value} (hd : Dc mi.2.1 pc (.invokevirtual idx) 3 nx) (hm : MokV mj) (hlk : Cond.methodLink mi.1.cls idx mj.1 ∈ lw_gd) (hn : nPar mj.1 4) (hb : S.2 b = some (kO ci r)) (hci : ci < 11) (hC : cN ci = mj.1.cls) (hr : (rest.map fun v => v.category).sum ≤ 8) (hlen : (lg_sl (.ref b :: [v1, v2, v3, v4])).length ≤ mj.2.2.1) (hl2 : lv_args 0 (.ref b :: [v1, v2, v3, v4]) = lv2) (h : X G mj d 0 0 lv2 [] S μ (qr (fun r S' μ' => X G mi (d + 1) kc nx lv (va_rf r :: rest) S' μ' Q))) : X G mi (d + 1) kc pc lv (v4 :: v3 :: v2 :: v1 :: .ref b :: rest) S μ Q := by
  subst hl2
  exact X_callV (As := [v1, v2, v3, v4]) hd hm hlk hn hb hci hC rfl hr hlen (Nat.zero_add kc).symm h (fun v S' μ' h => by obtain ⟨r, rfl, h⟩ := h; exact h)
theorem X_cV5i {b ci : Nat} {r : Nat → Option Nat} {v1 v2 v3 v4 v5 : Value} (hd : Dc mi.2.1 pc (.invokevirtual idx) 3 nx) (hm : MokV mj) (hlk : Cond.methodLink mi.1.cls idx mj.1 ∈ lw_gd) (hn : nPar mj.1 5) (hb : S.2 b = some (kO ci r)) (hci : ci < 11) (hC : cN ci = mj.1.cls) (hr : (rest.map fun v => v.category).sum ≤ 8) (hlen : (lg_sl (.ref b :: [v1, v2, v3, v4, v5])).length ≤ mj.2.2.1) (hl2 : lv_args 0 (.ref b :: [v1, v2, v3, v4, v5]) = lv2) (h : X G mj d 0 0 lv2 [] S μ (qi (fun r S' μ' => X G mi (d + 1) kc nx lv (.int r :: rest) S' μ' Q))) : X G mi (d + 1) kc pc lv (v5 :: v4 :: v3 :: v2 :: v1 :: .ref b :: rest) S μ Q := by
  subst hl2
  exact X_callV (As := [v1, v2, v3, v4, v5]) hd hm hlk hn hb hci hC rfl hr hlen (Nat.zero_add kc).symm h (fun v S' μ' h => by obtain ⟨r, rfl, h⟩ := h; exact h)
theorem X_cV5v {b ci : Nat} {r : Nat → Option Nat} {v1 v2 v3 v4 v5 : Value} (hd : Dc mi.2.1 pc (.invokevirtual idx) 3 nx) (hm : MokV mj) (hlk : Cond.methodLink mi.1.cls idx mj.1 ∈ lw_gd) (hn : nPar mj.1 5) (hb : S.2 b = some (kO ci r)) (hci : ci < 11) (hC : cN ci = mj.1.cls) (hr : (rest.map fun v => v.category).sum ≤ 8) (hlen : (lg_sl (.ref b :: [v1, v2, v3, v4, v5])).length ≤ mj.2.2.1) (hl2 : lv_args 0 (.ref b :: [v1, v2, v3, v4, v5]) = lv2) (h : X G mj d 0 0 lv2 [] S μ (qv (fun S' μ' => X G mi (d + 1) kc nx lv rest S' μ' Q))) : X G mi (d + 1) kc pc lv (v5 :: v4 :: v3 :: v2 :: v1 :: .ref b :: rest) S μ Q := by
  subst hl2
  exact X_callV (As := [v1, v2, v3, v4, v5]) hd hm hlk hn hb hci hC rfl hr hlen (Nat.zero_add kc).symm h (fun v S' μ' h => by obtain ⟨rfl, h⟩ := h; exact h)
theorem X_cV5r {b ci : Nat} {r : Nat → Option Nat} {v1 v2 v3 v4 v5 : Value} (hd : Dc mi.2.1 pc (.invokevirtual idx) 3 nx) (hm : MokV mj) (hlk : Cond.methodLink mi.1.cls idx mj.1 ∈ lw_gd) (hn : nPar mj.1 5) (hb : S.2 b = some (kO ci r)) (hci : ci < 11) (hC : cN ci = mj.1.cls) (hr : (rest.map fun v => v.category).sum ≤ 8) (hlen : (lg_sl (.ref b :: [v1, v2, v3, v4, v5])).length ≤ mj.2.2.1) (hl2 : lv_args 0 (.ref b :: [v1, v2, v3, v4, v5]) = lv2) (h : X G mj d 0 0 lv2 [] S μ (qr (fun r S' μ' => X G mi (d + 1) kc nx lv (va_rf r :: rest) S' μ' Q))) : X G mi (d + 1) kc pc lv (v5 :: v4 :: v3 :: v2 :: v1 :: .ref b :: rest) S μ Q := by
  subst hl2
  exact X_callV (As := [v1, v2, v3, v4, v5]) hd hm hlk hn hb hci hC rfl hr hlen (Nat.zero_add kc).symm h (fun v S' μ' h => by obtain ⟨r, rfl, h⟩ := h; exact h)
theorem X_cV6i {b ci : Nat} {r : Nat → Option Nat} {v1 v2 v3 v4 v5 v6 : Value} (hd : Dc mi.2.1 pc (.invokevirtual idx) 3 nx) (hm : MokV mj) (hlk : Cond.methodLink mi.1.cls idx mj.1 ∈ lw_gd) (hn : nPar mj.1 6) (hb : S.2 b = some (kO ci r)) (hci : ci < 11) (hC : cN ci = mj.1.cls) (hr : (rest.map fun v => v.category).sum ≤ 8) (hlen : (lg_sl (.ref b :: [v1, v2, v3, v4, v5, v6])).length ≤ mj.2.2.1) (hl2 : lv_args 0 (.ref b :: [v1, v2, v3, v4, v5, v6]) = lv2) (h : X G mj d 0 0 lv2 [] S μ (qi (fun r S' μ' => X G mi (d + 1) kc nx lv (.int r :: rest) S' μ' Q))) : X G mi (d + 1) kc pc lv (v6 :: v5 :: v4 :: v3 :: v2 :: v1 :: .ref b :: rest) S μ Q := by
  subst hl2
  exact X_callV (As := [v1, v2, v3, v4, v5, v6]) hd hm hlk hn hb hci hC rfl hr hlen (Nat.zero_add kc).symm h (fun v S' μ' h => by obtain ⟨r, rfl, h⟩ := h; exact h)
theorem X_cV6v {b ci : Nat} {r : Nat → Option Nat} {v1 v2 v3 v4 v5 v6 : Value} (hd : Dc mi.2.1 pc (.invokevirtual idx) 3 nx) (hm : MokV mj) (hlk : Cond.methodLink mi.1.cls idx mj.1 ∈ lw_gd) (hn : nPar mj.1 6) (hb : S.2 b = some (kO ci r)) (hci : ci < 11) (hC : cN ci = mj.1.cls) (hr : (rest.map fun v => v.category).sum ≤ 8) (hlen : (lg_sl (.ref b :: [v1, v2, v3, v4, v5, v6])).length ≤ mj.2.2.1) (hl2 : lv_args 0 (.ref b :: [v1, v2, v3, v4, v5, v6]) = lv2) (h : X G mj d 0 0 lv2 [] S μ (qv (fun S' μ' => X G mi (d + 1) kc nx lv rest S' μ' Q))) : X G mi (d + 1) kc pc lv (v6 :: v5 :: v4 :: v3 :: v2 :: v1 :: .ref b :: rest) S μ Q := by
  subst hl2
  exact X_callV (As := [v1, v2, v3, v4, v5, v6]) hd hm hlk hn hb hci hC rfl hr hlen (Nat.zero_add kc).symm h (fun v S' μ' h => by obtain ⟨rfl, h⟩ := h; exact h)
theorem X_cV6r {b ci : Nat} {r : Nat → Option Nat} {v1 v2 v3 v4 v5 v6 : Value} (hd : Dc mi.2.1 pc (.invokevirtual idx) 3 nx) (hm : MokV mj) (hlk : Cond.methodLink mi.1.cls idx mj.1 ∈ lw_gd) (hn : nPar mj.1 6) (hb : S.2 b = some (kO ci r)) (hci : ci < 11) (hC : cN ci = mj.1.cls) (hr : (rest.map fun v => v.category).sum ≤ 8) (hlen : (lg_sl (.ref b :: [v1, v2, v3, v4, v5, v6])).length ≤ mj.2.2.1) (hl2 : lv_args 0 (.ref b :: [v1, v2, v3, v4, v5, v6]) = lv2) (h : X G mj d 0 0 lv2 [] S μ (qr (fun r S' μ' => X G mi (d + 1) kc nx lv (va_rf r :: rest) S' μ' Q))) : X G mi (d + 1) kc pc lv (v6 :: v5 :: v4 :: v3 :: v2 :: v1 :: .ref b :: rest) S μ Q := by
  subst hl2
  exact X_callV (As := [v1, v2, v3, v4, v5, v6]) hd hm hlk hn hb hci hC rfl hr hlen (Nat.zero_add kc).symm h (fun v S' μ' h => by obtain ⟨r, rfl, h⟩ := h; exact h)
theorem X_cS0i (hd : Dc mi.2.1 pc (.invokestatic idx) 3 nx) (hm : MokS mj) (hlk : Cond.methodLink mi.1.cls idx mj.1 ∈ lw_gd) (hn : nPar mj.1 0) (hr : (rest.map fun v => v.category).sum ≤ 8) (hlen : (lg_sl []).length ≤ mj.2.2.1) (hl2 : lv_args 0 [] = lv2) (h : X G mj d 0 0 lv2 [] S μ (qi (fun r S' μ' => X G mi (d + 1) kc nx lv (.int r :: rest) S' μ' Q))) : X G mi (d + 1) kc pc lv (rest) S μ Q := by
  subst hl2
  exact X_callS (As := []) hd hm hlk hn rfl hr hlen (Nat.zero_add kc).symm h (fun v S' μ' h => by obtain ⟨r, rfl, h⟩ := h; exact h)
theorem X_cS0v (hd : Dc mi.2.1 pc (.invokestatic idx) 3 nx) (hm : MokS mj) (hlk : Cond.methodLink mi.1.cls idx mj.1 ∈ lw_gd) (hn : nPar mj.1 0) (hr : (rest.map fun v => v.category).sum ≤ 8) (hlen : (lg_sl []).length ≤ mj.2.2.1) (hl2 : lv_args 0 [] = lv2) (h : X G mj d 0 0 lv2 [] S μ (qv (fun S' μ' => X G mi (d + 1) kc nx lv rest S' μ' Q))) : X G mi (d + 1) kc pc lv (rest) S μ Q := by
  subst hl2
  exact X_callS (As := []) hd hm hlk hn rfl hr hlen (Nat.zero_add kc).symm h (fun v S' μ' h => by obtain ⟨rfl, h⟩ := h; exact h)
theorem X_cS0r (hd : Dc mi.2.1 pc (.invokestatic idx) 3 nx) (hm : MokS mj) (hlk : Cond.methodLink mi.1.cls idx mj.1 ∈ lw_gd) (hn : nPar mj.1 0) (hr : (rest.map fun v => v.category).sum ≤ 8) (hlen : (lg_sl []).length ≤ mj.2.2.1) (hl2 : lv_args 0 [] = lv2) (h : X G mj d 0 0 lv2 [] S μ (qr (fun r S' μ' => X G mi (d + 1) kc nx lv (va_rf r :: rest) S' μ' Q))) : X G mi (d + 1) kc pc lv (rest) S μ Q := by
  subst hl2
  exact X_callS (As := []) hd hm hlk hn rfl hr hlen (Nat.zero_add kc).symm h (fun v S' μ' h => by obtain ⟨r, rfl, h⟩ := h; exact h)
theorem X_cS1i {v1 : Value} (hd : Dc mi.2.1 pc (.invokestatic idx) 3 nx) (hm : MokS mj) (hlk : Cond.methodLink mi.1.cls idx mj.1 ∈ lw_gd) (hn : nPar mj.1 1) (hr : (rest.map fun v => v.category).sum ≤ 8) (hlen : (lg_sl [v1]).length ≤ mj.2.2.1) (hl2 : lv_args 0 [v1] = lv2) (h : X G mj d 0 0 lv2 [] S μ (qi (fun r S' μ' => X G mi (d + 1) kc nx lv (.int r :: rest) S' μ' Q))) : X G mi (d + 1) kc pc lv (v1 :: rest) S μ Q := by
  subst hl2
  exact X_callS (As := [v1]) hd hm hlk hn rfl hr hlen (Nat.zero_add kc).symm h (fun v S' μ' h => by obtain ⟨r, rfl, h⟩ := h; exact h)
theorem X_cS1v {v1 : Value} (hd : Dc mi.2.1 pc (.invokestatic idx) 3 nx) (hm : MokS mj) (hlk : Cond.methodLink mi.1.cls idx mj.1 ∈ lw_gd) (hn : nPar mj.1 1) (hr : (rest.map fun v => v.category).sum ≤ 8) (hlen : (lg_sl [v1]).length ≤ mj.2.2.1) (hl2 : lv_args 0 [v1] = lv2) (h : X G mj d 0 0 lv2 [] S μ (qv (fun S' μ' => X G mi (d + 1) kc nx lv rest S' μ' Q))) : X G mi (d + 1) kc pc lv (v1 :: rest) S μ Q := by
  subst hl2
  exact X_callS (As := [v1]) hd hm hlk hn rfl hr hlen (Nat.zero_add kc).symm h (fun v S' μ' h => by obtain ⟨rfl, h⟩ := h; exact h)
theorem X_cS1r {v1 : Value} (hd : Dc mi.2.1 pc (.invokestatic idx) 3 nx) (hm : MokS mj) (hlk : Cond.methodLink mi.1.cls idx mj.1 ∈ lw_gd) (hn : nPar mj.1 1) (hr : (rest.map fun v => v.category).sum ≤ 8) (hlen : (lg_sl [v1]).length ≤ mj.2.2.1) (hl2 : lv_args 0 [v1] = lv2) (h : X G mj d 0 0 lv2 [] S μ (qr (fun r S' μ' => X G mi (d + 1) kc nx lv (va_rf r :: rest) S' μ' Q))) : X G mi (d + 1) kc pc lv (v1 :: rest) S μ Q := by
  subst hl2
  exact X_callS (As := [v1]) hd hm hlk hn rfl hr hlen (Nat.zero_add kc).symm h (fun v S' μ' h => by obtain ⟨r, rfl, h⟩ := h; exact h)
theorem X_cS2i {v1 v2 : Value} (hd : Dc mi.2.1 pc (.invokestatic idx) 3 nx) (hm : MokS mj) (hlk : Cond.methodLink mi.1.cls idx mj.1 ∈ lw_gd) (hn : nPar mj.1 2) (hr : (rest.map fun v => v.category).sum ≤ 8) (hlen : (lg_sl [v1, v2]).length ≤ mj.2.2.1) (hl2 : lv_args 0 [v1, v2] = lv2) (h : X G mj d 0 0 lv2 [] S μ (qi (fun r S' μ' => X G mi (d + 1) kc nx lv (.int r :: rest) S' μ' Q))) : X G mi (d + 1) kc pc lv (v2 :: v1 :: rest) S μ Q := by
  subst hl2
  exact X_callS (As := [v1, v2]) hd hm hlk hn rfl hr hlen (Nat.zero_add kc).symm h (fun v S' μ' h => by obtain ⟨r, rfl, h⟩ := h; exact h)
theorem X_cS2v {v1 v2 : Value} (hd : Dc mi.2.1 pc (.invokestatic idx) 3 nx) (hm : MokS mj) (hlk : Cond.methodLink mi.1.cls idx mj.1 ∈ lw_gd) (hn : nPar mj.1 2) (hr : (rest.map fun v => v.category).sum ≤ 8) (hlen : (lg_sl [v1, v2]).length ≤ mj.2.2.1) (hl2 : lv_args 0 [v1, v2] = lv2) (h : X G mj d 0 0 lv2 [] S μ (qv (fun S' μ' => X G mi (d + 1) kc nx lv rest S' μ' Q))) : X G mi (d + 1) kc pc lv (v2 :: v1 :: rest) S μ Q := by
  subst hl2
  exact X_callS (As := [v1, v2]) hd hm hlk hn rfl hr hlen (Nat.zero_add kc).symm h (fun v S' μ' h => by obtain ⟨rfl, h⟩ := h; exact h)
theorem X_cS2r {v1 v2 : Value} (hd : Dc mi.2.1 pc (.invokestatic idx) 3 nx) (hm : MokS mj) (hlk : Cond.methodLink mi.1.cls idx mj.1 ∈ lw_gd) (hn : nPar mj.1 2) (hr : (rest.map fun v => v.category).sum ≤ 8) (hlen : (lg_sl [v1, v2]).length ≤ mj.2.2.1) (hl2 : lv_args 0 [v1, v2] = lv2) (h : X G mj d 0 0 lv2 [] S μ (qr (fun r S' μ' => X G mi (d + 1) kc nx lv (va_rf r :: rest) S' μ' Q))) : X G mi (d + 1) kc pc lv (v2 :: v1 :: rest) S μ Q := by
  subst hl2
  exact X_callS (As := [v1, v2]) hd hm hlk hn rfl hr hlen (Nat.zero_add kc).symm h (fun v S' μ' h => by obtain ⟨r, rfl, h⟩ := h; exact h)
theorem X_cS3i {v1 v2 v3 : Value} (hd : Dc mi.2.1 pc (.invokestatic idx) 3 nx) (hm : MokS mj) (hlk : Cond.methodLink mi.1.cls idx mj.1 ∈ lw_gd) (hn : nPar mj.1 3) (hr : (rest.map fun v => v.category).sum ≤ 8) (hlen : (lg_sl [v1, v2, v3]).length ≤ mj.2.2.1) (hl2 : lv_args 0 [v1, v2, v3] = lv2) (h : X G mj d 0 0 lv2 [] S μ (qi (fun r S' μ' => X G mi (d + 1) kc nx lv (.int r :: rest) S' μ' Q))) : X G mi (d + 1) kc pc lv (v3 :: v2 :: v1 :: rest) S μ Q := by
  subst hl2
  exact X_callS (As := [v1, v2, v3]) hd hm hlk hn rfl hr hlen (Nat.zero_add kc).symm h (fun v S' μ' h => by obtain ⟨r, rfl, h⟩ := h; exact h)
theorem X_cS3v {v1 v2 v3 : Value} (hd : Dc mi.2.1 pc (.invokestatic idx) 3 nx) (hm : MokS mj) (hlk : Cond.methodLink mi.1.cls idx mj.1 ∈ lw_gd) (hn : nPar mj.1 3) (hr : (rest.map fun v => v.category).sum ≤ 8) (hlen : (lg_sl [v1, v2, v3]).length ≤ mj.2.2.1) (hl2 : lv_args 0 [v1, v2, v3] = lv2) (h : X G mj d 0 0 lv2 [] S μ (qv (fun S' μ' => X G mi (d + 1) kc nx lv rest S' μ' Q))) : X G mi (d + 1) kc pc lv (v3 :: v2 :: v1 :: rest) S μ Q := by
  subst hl2
  exact X_callS (As := [v1, v2, v3]) hd hm hlk hn rfl hr hlen (Nat.zero_add kc).symm h (fun v S' μ' h => by obtain ⟨rfl, h⟩ := h; exact h)
theorem X_cS3r {v1 v2 v3 : Value} (hd : Dc mi.2.1 pc (.invokestatic idx) 3 nx) (hm : MokS mj) (hlk : Cond.methodLink mi.1.cls idx mj.1 ∈ lw_gd) (hn : nPar mj.1 3) (hr : (rest.map fun v => v.category).sum ≤ 8) (hlen : (lg_sl [v1, v2, v3]).length ≤ mj.2.2.1) (hl2 : lv_args 0 [v1, v2, v3] = lv2) (h : X G mj d 0 0 lv2 [] S μ (qr (fun r S' μ' => X G mi (d + 1) kc nx lv (va_rf r :: rest) S' μ' Q))) : X G mi (d + 1) kc pc lv (v3 :: v2 :: v1 :: rest) S μ Q := by
  subst hl2
  exact X_callS (As := [v1, v2, v3]) hd hm hlk hn rfl hr hlen (Nat.zero_add kc).symm h (fun v S' μ' h => by obtain ⟨r, rfl, h⟩ := h; exact h)
theorem X_cS4i {v1 v2 v3 v4 : Value} (hd : Dc mi.2.1 pc (.invokestatic idx) 3 nx) (hm : MokS mj) (hlk : Cond.methodLink mi.1.cls idx mj.1 ∈ lw_gd) (hn : nPar mj.1 4) (hr : (rest.map fun v => v.category).sum ≤ 8) (hlen : (lg_sl [v1, v2, v3, v4]).length ≤ mj.2.2.1) (hl2 : lv_args 0 [v1, v2, v3, v4] = lv2) (h : X G mj d 0 0 lv2 [] S μ (qi (fun r S' μ' => X G mi (d + 1) kc nx lv (.int r :: rest) S' μ' Q))) : X G mi (d + 1) kc pc lv (v4 :: v3 :: v2 :: v1 :: rest) S μ Q := by
  subst hl2
  exact X_callS (As := [v1, v2, v3, v4]) hd hm hlk hn rfl hr hlen (Nat.zero_add kc).symm h (fun v S' μ' h => by obtain ⟨r, rfl, h⟩ := h; exact h)
theorem X_cS4v {v1 v2 v3 v4 : Value} (hd : Dc mi.2.1 pc (.invokestatic idx) 3 nx) (hm : MokS mj) (hlk : Cond.methodLink mi.1.cls idx mj.1 ∈ lw_gd) (hn : nPar mj.1 4) (hr : (rest.map fun v => v.category).sum ≤ 8) (hlen : (lg_sl [v1, v2, v3, v4]).length ≤ mj.2.2.1) (hl2 : lv_args 0 [v1, v2, v3, v4] = lv2) (h : X G mj d 0 0 lv2 [] S μ (qv (fun S' μ' => X G mi (d + 1) kc nx lv rest S' μ' Q))) : X G mi (d + 1) kc pc lv (v4 :: v3 :: v2 :: v1 :: rest) S μ Q := by
  subst hl2
  exact X_callS (As := [v1, v2, v3, v4]) hd hm hlk hn rfl hr hlen (Nat.zero_add kc).symm h (fun v S' μ' h => by obtain ⟨rfl, h⟩ := h; exact h)
theorem X_cS4r {v1 v2 v3 v4 : Value} (hd : Dc mi.2.1 pc (.invokestatic idx) 3 nx) (hm : MokS mj) (hlk : Cond.methodLink mi.1.cls idx mj.1 ∈ lw_gd) (hn : nPar mj.1 4) (hr : (rest.map fun v => v.category).sum ≤ 8) (hlen : (lg_sl [v1, v2, v3, v4]).length ≤ mj.2.2.1) (hl2 : lv_args 0 [v1, v2, v3, v4] = lv2) (h : X G mj d 0 0 lv2 [] S μ (qr (fun r S' μ' => X G mi (d + 1) kc nx lv (va_rf r :: rest) S' μ' Q))) : X G mi (d + 1) kc pc lv (v4 :: v3 :: v2 :: v1 :: rest) S μ Q := by
  subst hl2
  exact X_callS (As := [v1, v2, v3, v4]) hd hm hlk hn rfl hr hlen (Nat.zero_add kc).symm h (fun v S' μ' h => by obtain ⟨r, rfl, h⟩ := h; exact h)
theorem X_cS5i {v1 v2 v3 v4 v5 : Value} (hd : Dc mi.2.1 pc (.invokestatic idx) 3 nx) (hm : MokS mj) (hlk : Cond.methodLink mi.1.cls idx mj.1 ∈ lw_gd) (hn : nPar mj.1 5) (hr : (rest.map fun v => v.category).sum ≤ 8) (hlen : (lg_sl [v1, v2, v3, v4, v5]).length ≤ mj.2.2.1) (hl2 : lv_args 0 [v1, v2, v3, v4, v5] = lv2) (h : X G mj d 0 0 lv2 [] S μ (qi (fun r S' μ' => X G mi (d + 1) kc nx lv (.int r :: rest) S' μ' Q))) : X G mi (d + 1) kc pc lv (v5 :: v4 :: v3 :: v2 :: v1 :: rest) S μ Q := by
  subst hl2
  exact X_callS (As := [v1, v2, v3, v4, v5]) hd hm hlk hn rfl hr hlen (Nat.zero_add kc).symm h (fun v S' μ' h => by obtain ⟨r, rfl, h⟩ := h; exact h)
theorem X_cS5v {v1 v2 v3 v4 v5 : Value} (hd : Dc mi.2.1 pc (.invokestatic idx) 3 nx) (hm : MokS mj) (hlk : Cond.methodLink mi.1.cls idx mj.1 ∈ lw_gd) (hn : nPar mj.1 5) (hr : (rest.map fun v => v.category).sum ≤ 8) (hlen : (lg_sl [v1, v2, v3, v4, v5]).length ≤ mj.2.2.1) (hl2 : lv_args 0 [v1, v2, v3, v4, v5] = lv2) (h : X G mj d 0 0 lv2 [] S μ (qv (fun S' μ' => X G mi (d + 1) kc nx lv rest S' μ' Q))) : X G mi (d + 1) kc pc lv (v5 :: v4 :: v3 :: v2 :: v1 :: rest) S μ Q := by
  subst hl2
  exact X_callS (As := [v1, v2, v3, v4, v5]) hd hm hlk hn rfl hr hlen (Nat.zero_add kc).symm h (fun v S' μ' h => by obtain ⟨rfl, h⟩ := h; exact h)
theorem X_cS5r {v1 v2 v3 v4 v5 : Value} (hd : Dc mi.2.1 pc (.invokestatic idx) 3 nx) (hm : MokS mj) (hlk : Cond.methodLink mi.1.cls idx mj.1 ∈ lw_gd) (hn : nPar mj.1 5) (hr : (rest.map fun v => v.category).sum ≤ 8) (hlen : (lg_sl [v1, v2, v3, v4, v5]).length ≤ mj.2.2.1) (hl2 : lv_args 0 [v1, v2, v3, v4, v5] = lv2) (h : X G mj d 0 0 lv2 [] S μ (qr (fun r S' μ' => X G mi (d + 1) kc nx lv (va_rf r :: rest) S' μ' Q))) : X G mi (d + 1) kc pc lv (v5 :: v4 :: v3 :: v2 :: v1 :: rest) S μ Q := by
  subst hl2
  exact X_callS (As := [v1, v2, v3, v4, v5]) hd hm hlk hn rfl hr hlen (Nat.zero_add kc).symm h (fun v S' μ' h => by obtain ⟨r, rfl, h⟩ := h; exact h)
theorem X_cS6i {v1 v2 v3 v4 v5 v6 : Value} (hd : Dc mi.2.1 pc (.invokestatic idx) 3 nx) (hm : MokS mj) (hlk : Cond.methodLink mi.1.cls idx mj.1 ∈ lw_gd) (hn : nPar mj.1 6) (hr : (rest.map fun v => v.category).sum ≤ 8) (hlen : (lg_sl [v1, v2, v3, v4, v5, v6]).length ≤ mj.2.2.1) (hl2 : lv_args 0 [v1, v2, v3, v4, v5, v6] = lv2) (h : X G mj d 0 0 lv2 [] S μ (qi (fun r S' μ' => X G mi (d + 1) kc nx lv (.int r :: rest) S' μ' Q))) : X G mi (d + 1) kc pc lv (v6 :: v5 :: v4 :: v3 :: v2 :: v1 :: rest) S μ Q := by
  subst hl2
  exact X_callS (As := [v1, v2, v3, v4, v5, v6]) hd hm hlk hn rfl hr hlen (Nat.zero_add kc).symm h (fun v S' μ' h => by obtain ⟨r, rfl, h⟩ := h; exact h)
theorem X_cS6v {v1 v2 v3 v4 v5 v6 : Value} (hd : Dc mi.2.1 pc (.invokestatic idx) 3 nx) (hm : MokS mj) (hlk : Cond.methodLink mi.1.cls idx mj.1 ∈ lw_gd) (hn : nPar mj.1 6) (hr : (rest.map fun v => v.category).sum ≤ 8) (hlen : (lg_sl [v1, v2, v3, v4, v5, v6]).length ≤ mj.2.2.1) (hl2 : lv_args 0 [v1, v2, v3, v4, v5, v6] = lv2) (h : X G mj d 0 0 lv2 [] S μ (qv (fun S' μ' => X G mi (d + 1) kc nx lv rest S' μ' Q))) : X G mi (d + 1) kc pc lv (v6 :: v5 :: v4 :: v3 :: v2 :: v1 :: rest) S μ Q := by
  subst hl2
  exact X_callS (As := [v1, v2, v3, v4, v5, v6]) hd hm hlk hn rfl hr hlen (Nat.zero_add kc).symm h (fun v S' μ' h => by obtain ⟨rfl, h⟩ := h; exact h)
theorem X_cS6r {v1 v2 v3 v4 v5 v6 : Value} (hd : Dc mi.2.1 pc (.invokestatic idx) 3 nx) (hm : MokS mj) (hlk : Cond.methodLink mi.1.cls idx mj.1 ∈ lw_gd) (hn : nPar mj.1 6) (hr : (rest.map fun v => v.category).sum ≤ 8) (hlen : (lg_sl [v1, v2, v3, v4, v5, v6]).length ≤ mj.2.2.1) (hl2 : lv_args 0 [v1, v2, v3, v4, v5, v6] = lv2) (h : X G mj d 0 0 lv2 [] S μ (qr (fun r S' μ' => X G mi (d + 1) kc nx lv (va_rf r :: rest) S' μ' Q))) : X G mi (d + 1) kc pc lv (v6 :: v5 :: v4 :: v3 :: v2 :: v1 :: rest) S μ Q := by
  subst hl2
  exact X_callS (As := [v1, v2, v3, v4, v5, v6]) hd hm hlk hn rfl hr hlen (Nat.zero_add kc).symm h (fun v S' μ' h => by obtain ⟨r, rfl, h⟩ := h; exact h)
theorem X_cI0v {b : Nat} (hd : Dc mi.2.1 pc (.invokespecial idx) 3 nx) (hm : MokI mj) (hlk : Cond.methodLink mi.1.cls idx mj.1 ∈ lw_gd) (hn : nPar mj.1 0) (hr : (rest.map fun v => v.category).sum ≤ 8) (hlen : (lg_sl (.ref b :: [])).length ≤ mj.2.2.1) (hl2 : lv_args 0 (.ref b :: []) = lv2) (h : X G mj d 0 0 lv2 [] S μ (qv (fun S' μ' => X G mi (d + 1) kc nx lv rest S' μ' Q))) : X G mi (d + 1) kc pc lv (.ref b :: rest) S μ Q := by
  subst hl2
  exact X_callI (As := []) hd hm hlk hn rfl hr hlen (Nat.zero_add kc).symm h (fun v S' μ' h => by obtain ⟨rfl, h⟩ := h; exact h)
theorem X_cI1v {b : Nat} {v1 : Value} (hd : Dc mi.2.1 pc (.invokespecial idx) 3 nx) (hm : MokI mj) (hlk : Cond.methodLink mi.1.cls idx mj.1 ∈ lw_gd) (hn : nPar mj.1 1) (hr : (rest.map fun v => v.category).sum ≤ 8) (hlen : (lg_sl (.ref b :: [v1])).length ≤ mj.2.2.1) (hl2 : lv_args 0 (.ref b :: [v1]) = lv2) (h : X G mj d 0 0 lv2 [] S μ (qv (fun S' μ' => X G mi (d + 1) kc nx lv rest S' μ' Q))) : X G mi (d + 1) kc pc lv (v1 :: .ref b :: rest) S μ Q := by
  subst hl2
  exact X_callI (As := [v1]) hd hm hlk hn rfl hr hlen (Nat.zero_add kc).symm h (fun v S' μ' h => by obtain ⟨rfl, h⟩ := h; exact h)
theorem X_cI2v {b : Nat} {v1 v2 : Value} (hd : Dc mi.2.1 pc (.invokespecial idx) 3 nx) (hm : MokI mj) (hlk : Cond.methodLink mi.1.cls idx mj.1 ∈ lw_gd) (hn : nPar mj.1 2) (hr : (rest.map fun v => v.category).sum ≤ 8) (hlen : (lg_sl (.ref b :: [v1, v2])).length ≤ mj.2.2.1) (hl2 : lv_args 0 (.ref b :: [v1, v2]) = lv2) (h : X G mj d 0 0 lv2 [] S μ (qv (fun S' μ' => X G mi (d + 1) kc nx lv rest S' μ' Q))) : X G mi (d + 1) kc pc lv (v2 :: v1 :: .ref b :: rest) S μ Q := by
  subst hl2
  exact X_callI (As := [v1, v2]) hd hm hlk hn rfl hr hlen (Nat.zero_add kc).symm h (fun v S' μ' h => by obtain ⟨rfl, h⟩ := h; exact h)
theorem X_cI3v {b : Nat} {v1 v2 v3 : Value} (hd : Dc mi.2.1 pc (.invokespecial idx) 3 nx) (hm : MokI mj) (hlk : Cond.methodLink mi.1.cls idx mj.1 ∈ lw_gd) (hn : nPar mj.1 3) (hr : (rest.map fun v => v.category).sum ≤ 8) (hlen : (lg_sl (.ref b :: [v1, v2, v3])).length ≤ mj.2.2.1) (hl2 : lv_args 0 (.ref b :: [v1, v2, v3]) = lv2) (h : X G mj d 0 0 lv2 [] S μ (qv (fun S' μ' => X G mi (d + 1) kc nx lv rest S' μ' Q))) : X G mi (d + 1) kc pc lv (v3 :: v2 :: v1 :: .ref b :: rest) S μ Q := by
  subst hl2
  exact X_callI (As := [v1, v2, v3]) hd hm hlk hn rfl hr hlen (Nat.zero_add kc).symm h (fun v S' μ' h => by obtain ⟨rfl, h⟩ := h; exact h)
theorem X_cT0i {b t : Nat} (hd : Dc mi.2.1 pc (.invokevirtual idx) 3 nx) (hm : MokV mj) (hlk : Cond.methodLink mi.1.cls idx mj.1 ∈ lw_gd) (hn : nPar mj.1 0) (hb : S.2 b = some (kT t)) (hC : mj.1.cls = "java/lang/String") (hr : (rest.map fun v => v.category).sum ≤ 8) (hlen : (lg_sl (.ref b :: [])).length ≤ mj.2.2.1) (hl2 : lv_args 0 (.ref b :: []) = lv2) (h : X G mj d 0 0 lv2 [] S μ (qi (fun r S' μ' => X G mi (d + 1) kc nx lv (.int r :: rest) S' μ' Q))) : X G mi (d + 1) kc pc lv (.ref b :: rest) S μ Q := by
  subst hl2
  exact X_callT (As := []) hd hm hlk hn hb hC rfl hr hlen (Nat.zero_add kc).symm h (fun v S' μ' h => by obtain ⟨r, rfl, h⟩ := h; exact h)
theorem X_cT1i {b t : Nat} {v1 : Value} (hd : Dc mi.2.1 pc (.invokevirtual idx) 3 nx) (hm : MokV mj) (hlk : Cond.methodLink mi.1.cls idx mj.1 ∈ lw_gd) (hn : nPar mj.1 1) (hb : S.2 b = some (kT t)) (hC : mj.1.cls = "java/lang/String") (hr : (rest.map fun v => v.category).sum ≤ 8) (hlen : (lg_sl (.ref b :: [v1])).length ≤ mj.2.2.1) (hl2 : lv_args 0 (.ref b :: [v1]) = lv2) (h : X G mj d 0 0 lv2 [] S μ (qi (fun r S' μ' => X G mi (d + 1) kc nx lv (.int r :: rest) S' μ' Q))) : X G mi (d + 1) kc pc lv (v1 :: .ref b :: rest) S μ Q := by
  subst hl2
  exact X_callT (As := [v1]) hd hm hlk hn hb hC rfl hr hlen (Nat.zero_add kc).symm h (fun v S' μ' h => by obtain ⟨r, rfl, h⟩ := h; exact h)
theorem X_cT2i {b t : Nat} {v1 v2 : Value} (hd : Dc mi.2.1 pc (.invokevirtual idx) 3 nx) (hm : MokV mj) (hlk : Cond.methodLink mi.1.cls idx mj.1 ∈ lw_gd) (hn : nPar mj.1 2) (hb : S.2 b = some (kT t)) (hC : mj.1.cls = "java/lang/String") (hr : (rest.map fun v => v.category).sum ≤ 8) (hlen : (lg_sl (.ref b :: [v1, v2])).length ≤ mj.2.2.1) (hl2 : lv_args 0 (.ref b :: [v1, v2]) = lv2) (h : X G mj d 0 0 lv2 [] S μ (qi (fun r S' μ' => X G mi (d + 1) kc nx lv (.int r :: rest) S' μ' Q))) : X G mi (d + 1) kc pc lv (v2 :: v1 :: .ref b :: rest) S μ Q := by
  subst hl2
  exact X_callT (As := [v1, v2]) hd hm hlk hn hb hC rfl hr hlen (Nat.zero_add kc).symm h (fun v S' μ' h => by obtain ⟨r, rfl, h⟩ := h; exact h)
theorem X_max {x y : Int32} (hd : Dc mi.2.1 pc (.invokestatic idx) 3 nx) (hlk : Cond.methodLink mi.1.cls idx Lib.Math.max.name ∈ lw_gd) (hr : (rest.map fun v => v.category).sum ≤ 8) (k : X G mi (d + 1) kc nx lv (.int (if x < y then y else x) :: rest) S μ Q) : X G mi (d + 1) kc pc lv (.int y :: .int x :: rest) S μ Q := by
  intro p l e R s m args below meth c mc Z C hZ H locs cells slots ls hR hk hl
  obtain ⟨hd, rfl⟩ := hd
  have hts := C.2.2.2.2.2.1
  have hroom := C.2.2.2.2.2.2.2.2.1
  exact va_mmax C.1 C.2.1 (C.2.2.2.1.trans hl.1.symm) C.2.2.2.2.1 (hts _ hlk) (hts _ (gd (wk 46 (by decide +kernel)) rfl)) (hts _ (gd (wk 4 (by decide +kernel)) rfl)) (hts _ (gd (wk 47 (by decide +kernel)) rfl)) (by omega) (by omega) (by omega) (by omega) hd (k p l e R s m args below meth c mc Z C hZ H locs cells slots ls hR hk hl)
theorem X_min {x y : Int32} (hd : Dc mi.2.1 pc (.invokestatic idx) 3 nx) (hlk : Cond.methodLink mi.1.cls idx Lib.Math.min.name ∈ lw_gd) (hr : (rest.map fun v => v.category).sum ≤ 8) (k : X G mi (d + 1) kc nx lv (.int (if y < x then y else x) :: rest) S μ Q) : X G mi (d + 1) kc pc lv (.int y :: .int x :: rest) S μ Q := by
  intro p l e R s m args below meth c mc Z C hZ H locs cells slots ls hR hk hl
  obtain ⟨hd, rfl⟩ := hd
  have hts := C.2.2.2.2.2.1
  have hroom := C.2.2.2.2.2.2.2.2.1
  exact va_mmin C.1 C.2.1 (C.2.2.2.1.trans hl.1.symm) C.2.2.2.2.1 (hts _ hlk) (hts _ (gd (wk 538 (by decide +kernel)) rfl)) (hts _ (gd (wk 4 (by decide +kernel)) rfl)) (hts _ (gd (wk 539 (by decide +kernel)) rfl)) (by omega) (by omega) (by omega) (by omega) hd (k p l e R s m args below meth c mc Z C hZ H locs cells slots ls hR hk hl)
theorem X_abs {x : Int32} (hd : Dc mi.2.1 pc (.invokestatic idx) 3 nx) (hlk : Cond.methodLink mi.1.cls idx Lib.Math.abs.name ∈ lw_gd) (hr : (rest.map fun v => v.category).sum ≤ 8) (k : X G mi (d + 1) kc nx lv (.int (if 0 ≤ x then x else 0 - x) :: rest) S μ Q) : X G mi (d + 1) kc pc lv (.int x :: rest) S μ Q := by
  intro p l e R s m args below meth c mc Z C hZ H locs cells slots ls hR hk hl
  obtain ⟨hd, rfl⟩ := hd
  have hts := C.2.2.2.2.2.1
  have hroom := C.2.2.2.2.2.2.2.2.1
  exact va_mabs C.1 C.2.1 (C.2.2.2.1.trans hl.1.symm) C.2.2.2.2.1 (hts _ hlk) (hts _ (gd (wk 478 (by decide +kernel)) rfl)) (hts _ (gd (wk 4 (by decide +kernel)) rfl)) (hts _ (gd (wk 479 (by decide +kernel)) rfl)) (by omega) (by omega) (by omega) (by omega) hd (k p l e R s m args below meth c mc Z C hZ H locs cells slots ls hR hk hl)
theorem X_lcmp {x y : Int64} (hd : Dc mi.2.1 pc .lcmp 1 nx) (k : X G mi d kc nx lv (.int (lg_cmp x y) :: rest) S μ Q) : X G mi d kc pc lv (.long y :: .long x :: rest) S μ Q := by
  intro p l e R s m args below meth c mc Z C hZ H locs cells slots ls hR hk hl
  obtain ⟨hd, rfl⟩ := hd
  exact W.lcmp C.1 C.2.1 hd (k p l e R s m args below meth c mc Z C hZ H locs cells slots ls hR hk hl)
theorem X_copy {a0 a n0 n1 : Nat} {sp dp n : Int32} (hd : Dc mi.2.1 pc (.invokestatic idx) 3 nx) (hlk : Cond.methodLink mi.1.cls idx arraycopyName ∈ lw_gd) (hb0 : S.2 a0 = some (kI n0)) (hb1 : S.2 a = some (kI n1)) (h1 : ¬ sp < 0) (h2 : ¬ dp < 0) (h3 : ¬ n < 0) (h4 : sp.toNatClampNeg + n.toNatClampNeg ≤ n0) (h5 : dp.toNatClampNeg + n.toNatClampNeg ≤ n1) (hr : (rest.map fun v => v.category).sum ≤ 8)
    (k : X G mi (d + 1) kc nx lv rest S (Mx μ a (va_cpy (μ a0) (μ a) sp.toNatClampNeg dp.toNatClampNeg n.toNatClampNeg)) Q) : X G mi (d + 1) kc pc lv (.int n :: .int dp :: .ref a :: .int sp :: .ref a0 :: rest) S μ Q := by
  intro p l e R s m args below meth c mc Z C hZ H locs cells slots ls hR hk hl
  obtain ⟨hd, rfl⟩ := hd
  have hts := C.2.2.2.2.2.1
  have hroom := C.2.2.2.2.2.2.2.2.1
  have hal := C.2.2.2.2.2.2.2.2.2.1.alike
  have nn : ∀ z : Int32, ¬ z < 0 → z.toInt = (z.toNatClampNeg : Int) := by
    intro z hz
    have hz0 : (0 : Int) ≤ z.toInt := by
      have := Int32.not_lt.mp hz
      simpa using Int32.le_iff_toInt_le.mp this
    show z.toInt = ((z.toInt.toNat : Nat) : Int)
    omega
  have hnw : nativeFrameWords "java/lang/System" "arraycopy" 5 = 7 := by decide +kernel
  intro T hT X
  obtain ⟨hga0, c0, hA0, hc0⟩ := hR.at hb0
  obtain ⟨hga, c1, hA1, hc1⟩ := hR.at hb1
  obtain ⟨-, k0, hk0, cm0, hkk0⟩ := arrOfT_moved hal hA0 n0 (fun j => .int (μ a0 j))
  obtain ⟨-, k1, hk1, cm1, hkk1⟩ := arrOfT_moved hal hA1 n1 (fun j => .int (μ a j))
  obtain ⟨vm', X', step⟩ := X.arraycopy C.1 C.2.2.2.2.1 (hts _ hlk) (hts (.native arraycopyName) (gd (wk 677 (by decide +kernel)) rfl)) (hts (.static arraycopyName) (gd (wk 676 (by decide +kernel)) rfl)) (hts (.initialized "java/lang/System") (gd (wk 18 (by decide +kernel)) rfl)) (src := a0) (dst := a) (cs := arrV c0 n0 (fun j => .int (μ a0 j))) (cd := arrV c1 n1 (fun j => .int (μ a j))) (srcPos := sp) (destPos := dp) (n := n) (by rw [hT]; exact hc0) (by rw [hT]; exact hc1)
    (fun _ h => by cases h) (fun _ h => by cases h) (fun h => by cases h) (fun h => by cases h) hk0 hk1 hkk0 hkk1 (by simp [refKind]) h1 h2 h3
    (by rw [nn sp h1, nn n h3, arrV_size]; omega)
    (by rw [nn dp h2, nn n h3, arrV_size]; omega)
    (fun vm₁ _ i hi => by
      have e : (arrV c0 n0 (fun j => .int (μ a0 j))).slots.getD (sp.toNatClampNeg + i) .null = .int (μ a0 (sp.toNatClampNeg + i)) := by
        rw [Array.getD_eq_getD_getElem?, arrV_read _ _ (by omega)]
        rfl
      refine ⟨?_, ?_⟩
      · rw [e]
        rfl
      · rw [e]
        exact trivial)
    (g := F0 m pc ls (.int n :: .int dp :: .ref a :: .int sp :: .ref a0 :: rest)) rfl (by rw [C.2.2.2.1]; exact hl.1) (rest := rest) rfl (by rw [C.2.1]; exact hd) (by omega) (by rw [hnw]; show 2 * 0 + _ + (7 + 11) ≤ _; omega)
  have e1 : copied (arrV c0 n0 (fun j => .int (μ a0 j))) (arrV c1 n1 (fun j => .int (μ a j))) sp dp n = arrV c1 n1 (fun j => .int (va_cpy (μ a0) (μ a) sp.toNatClampNeg dp.toNatClampNeg n.toNatClampNeg j)) := va_copied (fun z => .int z) c0 c1 (μ a0) (μ a) h4
  rw [e1] at X' step
  have hl1 : a < H.size := (Array.getElem?_eq_some_iff.mp hc1).1
  have hheap : ((T.setVm vm').setCell a (arrV c1 n1 (fun j => .int (va_cpy (μ a0) (μ a) sp.toNatClampNeg dp.toNatClampNeg n.toNatClampNeg j)))).heap = H.setIfInBounds a (arrV c1 n1 (fun j => .int (va_cpy (μ a0) (μ a) sp.toNatClampNeg dp.toNatClampNeg n.toNatClampNeg j))) := by rw [← hT]; rfl
  generalize hH1 : H.setIfInBounds a (arrV c1 n1 (fun j => .int (va_cpy (μ a0) (μ a) sp.toNatClampNeg dp.toNatClampNeg n.toNatClampNeg j))) = H1 at hheap
  have oq : ∀ q : Nat, q ≠ a → H1[q]? = H[q]? := fun q hq => by rw [← hH1]; simp [Array.getElem?_setIfInBounds, Ne.symm hq]
  have eq1 : H1[a]? = some (arrV c1 n1 (fun j => .int (va_cpy (μ a0) (μ a) sp.toNatClampNeg dp.toNatClampNeg n.toNatClampNeg j))) := by rw [← hH1]; simp [Array.getElem?_setIfInBounds, hl1]
  have hz : H1.size = H.size := by rw [← hH1]; simp
  have hR1 := (hR.put (S' := S) (μ' := Mx μ a (va_cpy (μ a0) (μ a) sp.toNatClampNeg dp.toNatClampNeg n.toNatClampNeg)) (i := 0) rfl hga (hR.lt hb1) hz oq (fun q hq => ⟨rfl, Mx_ne hq⟩) (by rw [hb1, Mx_same]; exact ⟨hga, c1, hA1, eq1⟩)).nil
  obtain ⟨t, a1, b1⟩ := k p l e R s m args below meth c mc Z C hZ H1 _ cells slots ls (hR1.app hR.2.2.2.2.2 (L := _) (fun q hq => by
      obtain ⟨z, -, hz⟩ := List.mem_map.mp hq
      rw [← hz]
      exact hga)) hk hl _ hheap X'
  exact ⟨t, step t a1, b1⟩
end
end
