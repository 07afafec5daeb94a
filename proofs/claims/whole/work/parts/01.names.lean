-- ===== PART A: goes FIRST, ahead of the names: the tables' words, and 'selects' of the private methods out of them =====
/-- a private method of a class that the tables say can be made, by its rows of tables_1 -/
def lw_okq (q : MethodName × Nat) : Prop := (q.1.cls ≠ "java/lang/invoke/MethodHandle" ∧ q.1.cls ≠ "java/lang/invoke/VarHandle") ∧ Cond.instantiable q.1.cls q.2 ∈ tables_1 ∧ Cond.privateMethod q.1 ∈ tables_1 ∧ Cond.instanceMethod q.1 ∈ tables_1
theorem lw_p0 : lw_okq (⟨"RopesAtDawn", "newFour", "(LRopesAtDawn$Fours;IIII)I"⟩, 9) := ⟨⟨by decide +kernel, by decide +kernel⟩, List.mem_of_getElem? (i := 22) (by decide +kernel), List.mem_of_getElem? (i := 304) (by decide +kernel), List.mem_of_getElem? (i := 305) (by decide +kernel)⟩
theorem lw_p1 : lw_okq (⟨"RopesAtDawn", "fail", "(I)I"⟩, 9) := ⟨⟨by decide +kernel, by decide +kernel⟩, List.mem_of_getElem? (i := 22) (by decide +kernel), List.mem_of_getElem? (i := 317) (by decide +kernel), List.mem_of_getElem? (i := 318) (by decide +kernel)⟩
theorem lw_p2 : lw_okq (⟨"RopesAtDawn", "sheetOf", "(I)LRopesAtDawn$Sheet;"⟩, 9) := ⟨⟨by decide +kernel, by decide +kernel⟩, List.mem_of_getElem? (i := 22) (by decide +kernel), List.mem_of_getElem? (i := 374) (by decide +kernel), List.mem_of_getElem? (i := 375) (by decide +kernel)⟩
theorem lw_p3 : lw_okq (⟨"RopesAtDawn$Dawn", "gripAt", "(III)I"⟩, 12) := ⟨⟨by decide +kernel, by decide +kernel⟩, List.mem_of_getElem? (i := 30) (by decide +kernel), List.mem_of_getElem? (i := 481) (by decide +kernel), List.mem_of_getElem? (i := 482) (by decide +kernel)⟩
theorem lw_p4 : lw_okq (⟨"RopesAtDawn", "errorOnRope", "(II)I"⟩, 9) := ⟨⟨by decide +kernel, by decide +kernel⟩, List.mem_of_getElem? (i := 22) (by decide +kernel), List.mem_of_getElem? (i := 492) (by decide +kernel), List.mem_of_getElem? (i := 493) (by decide +kernel)⟩
theorem lw_p5 : lw_okq (⟨"RopesAtDawn$Reckoner", "valueOf", "(LRopesAtDawn$Row;)I"⟩, 2) := ⟨⟨by decide +kernel, by decide +kernel⟩, List.mem_of_getElem? (i := 145) (by decide +kernel), List.mem_of_getElem? (i := 530) (by decide +kernel), List.mem_of_getElem? (i := 531) (by decide +kernel)⟩
theorem lw_p6 : lw_okq (⟨"RopesAtDawn$Reader", "readLevel", "(II)V"⟩, 5) := ⟨⟨by decide +kernel, by decide +kernel⟩, List.mem_of_getElem? (i := 205) (by decide +kernel), List.mem_of_getElem? (i := 563) (by decide +kernel), List.mem_of_getElem? (i := 564) (by decide +kernel)⟩
theorem lw_p7 : lw_okq (⟨"RopesAtDawn$Reader", "readFactor", "(I)V"⟩, 5) := ⟨⟨by decide +kernel, by decide +kernel⟩, List.mem_of_getElem? (i := 205) (by decide +kernel), List.mem_of_getElem? (i := 567) (by decide +kernel), List.mem_of_getElem? (i := 568) (by decide +kernel)⟩
theorem lw_p8 : lw_okq (⟨"RopesAtDawn$Reader", "readNumber", "()V"⟩, 5) := ⟨⟨by decide +kernel, by decide +kernel⟩, List.mem_of_getElem? (i := 205) (by decide +kernel), List.mem_of_getElem? (i := 575) (by decide +kernel), List.mem_of_getElem? (i := 576) (by decide +kernel)⟩
theorem lw_p9 : lw_okq (⟨"RopesAtDawn$Reader", "readOpened", "(II)V"⟩, 5) := ⟨⟨by decide +kernel, by decide +kernel⟩, List.mem_of_getElem? (i := 205) (by decide +kernel), List.mem_of_getElem? (i := 662) (by decide +kernel), List.mem_of_getElem? (i := 663) (by decide +kernel)⟩
theorem lw_p10 : lw_okq (⟨"RopesAtDawn$Crossing", "crossOne", "(LRopesAtDawn$Dawn;II)I"⟩, 4) := ⟨⟨by decide +kernel, by decide +kernel⟩, List.mem_of_getElem? (i := 139) (by decide +kernel), List.mem_of_getElem? (i := 706) (by decide +kernel), List.mem_of_getElem? (i := 707) (by decide +kernel)⟩
theorem lw_p11 : lw_okq (⟨"RopesAtDawn$Crossing", "tollAt", "(LRopesAtDawn$Dawn;III)I"⟩, 4) := ⟨⟨by decide +kernel, by decide +kernel⟩, List.mem_of_getElem? (i := 139) (by decide +kernel), List.mem_of_getElem? (i := 758) (by decide +kernel), List.mem_of_getElem? (i := 759) (by decide +kernel)⟩
theorem lw_p12 : lw_okq (⟨"RopesAtDawn$Chooser", "begin", "(LRopesAtDawn$Dawn;)V"⟩, 5) := ⟨⟨by decide +kernel, by decide +kernel⟩, List.mem_of_getElem? (i := 174) (by decide +kernel), List.mem_of_getElem? (i := 774) (by decide +kernel), List.mem_of_getElem? (i := 775) (by decide +kernel)⟩
theorem lw_p13 : lw_okq (⟨"RopesAtDawn$Chooser", "weigh", "(II)V"⟩, 5) := ⟨⟨by decide +kernel, by decide +kernel⟩, List.mem_of_getElem? (i := 174) (by decide +kernel), List.mem_of_getElem? (i := 814) (by decide +kernel), List.mem_of_getElem? (i := 815) (by decide +kernel)⟩
theorem lw_p14 : lw_okq (⟨"RopesAtDawn", "runMorning", "()I"⟩, 9) := ⟨⟨by decide +kernel, by decide +kernel⟩, List.mem_of_getElem? (i := 22) (by decide +kernel), List.mem_of_getElem? (i := 899) (by decide +kernel), List.mem_of_getElem? (i := 900) (by decide +kernel)⟩
theorem lw_p15 : lw_okq (⟨"RopesAtDawn", "lostOn", "(II)I"⟩, 9) := ⟨⟨by decide +kernel, by decide +kernel⟩, List.mem_of_getElem? (i := 22) (by decide +kernel), List.mem_of_getElem? (i := 903) (by decide +kernel), List.mem_of_getElem? (i := 904) (by decide +kernel)⟩
def lw_privs_1 : List (MethodName × Nat) := [(⟨"RopesAtDawn", "newFour", "(LRopesAtDawn$Fours;IIII)I"⟩, 9), (⟨"RopesAtDawn", "fail", "(I)I"⟩, 9), (⟨"RopesAtDawn", "sheetOf", "(I)LRopesAtDawn$Sheet;"⟩, 9), (⟨"RopesAtDawn$Dawn", "gripAt", "(III)I"⟩, 12), (⟨"RopesAtDawn", "errorOnRope", "(II)I"⟩, 9), (⟨"RopesAtDawn$Reckoner", "valueOf", "(LRopesAtDawn$Row;)I"⟩, 2), (⟨"RopesAtDawn$Reader", "readLevel", "(II)V"⟩, 5), (⟨"RopesAtDawn$Reader", "readFactor", "(I)V"⟩, 5), (⟨"RopesAtDawn$Reader", "readNumber", "()V"⟩, 5), (⟨"RopesAtDawn$Reader", "readOpened", "(II)V"⟩, 5), (⟨"RopesAtDawn$Crossing", "crossOne", "(LRopesAtDawn$Dawn;II)I"⟩, 4), (⟨"RopesAtDawn$Crossing", "tollAt", "(LRopesAtDawn$Dawn;III)I"⟩, 4), (⟨"RopesAtDawn$Chooser", "begin", "(LRopesAtDawn$Dawn;)V"⟩, 5), (⟨"RopesAtDawn$Chooser", "weigh", "(II)V"⟩, 5), (⟨"RopesAtDawn", "runMorning", "()I"⟩, 9), (⟨"RopesAtDawn", "lostOn", "(II)I"⟩, 9)]
theorem lw_r1 : ∀ q ∈ lw_privs_1, lw_okq q := List.forall_mem_cons.mpr ⟨lw_p0, List.forall_mem_cons.mpr ⟨lw_p1, List.forall_mem_cons.mpr ⟨lw_p2, List.forall_mem_cons.mpr ⟨lw_p3, List.forall_mem_cons.mpr ⟨lw_p4, List.forall_mem_cons.mpr ⟨lw_p5, List.forall_mem_cons.mpr ⟨lw_p6, List.forall_mem_cons.mpr ⟨lw_p7, List.forall_mem_cons.mpr ⟨lw_p8, List.forall_mem_cons.mpr ⟨lw_p9, List.forall_mem_cons.mpr ⟨lw_p10, List.forall_mem_cons.mpr ⟨lw_p11, List.forall_mem_cons.mpr ⟨lw_p12, List.forall_mem_cons.mpr ⟨lw_p13, List.forall_mem_cons.mpr ⟨lw_p14, List.forall_mem_cons.mpr ⟨lw_p15, fun _ h => absurd h List.not_mem_nil⟩⟩⟩⟩⟩⟩⟩⟩⟩⟩⟩⟩⟩⟩⟩⟩
theorem lw_p16 : lw_okq (⟨"RopesAtDawn$Voices", "say", "(IIII)I"⟩, 4) := ⟨⟨by decide +kernel, by decide +kernel⟩, List.mem_of_getElem? (i := 232) (by decide +kernel), List.mem_of_getElem? (i := 932) (by decide +kernel), List.mem_of_getElem? (i := 933) (by decide +kernel)⟩
theorem lw_p17 : lw_okq (⟨"RopesAtDawn", "placeOfWrong", "()I"⟩, 9) := ⟨⟨by decide +kernel, by decide +kernel⟩, List.mem_of_getElem? (i := 22) (by decide +kernel), List.mem_of_getElem? (i := 1002) (by decide +kernel), List.mem_of_getElem? (i := 1003) (by decide +kernel)⟩
theorem lw_p18 : lw_okq (⟨"RopesAtDawnModel", "finding", "(I)I"⟩, 28) := ⟨⟨by decide +kernel, by decide +kernel⟩, List.mem_of_getElem? (i := 1014) (by decide +kernel), List.mem_of_getElem? (i := 1120) (by decide +kernel), List.mem_of_getElem? (i := 1121) (by decide +kernel)⟩
theorem lw_p19 : lw_okq (⟨"RopesAtDawnModel", "comes", "(IIII)V"⟩, 28) := ⟨⟨by decide +kernel, by decide +kernel⟩, List.mem_of_getElem? (i := 1014) (by decide +kernel), List.mem_of_getElem? (i := 1126) (by decide +kernel), List.mem_of_getElem? (i := 1127) (by decide +kernel)⟩
theorem lw_p20 : lw_okq (⟨"RopesAtDawnModel", "is", "(II)Z"⟩, 28) := ⟨⟨by decide +kernel, by decide +kernel⟩, List.mem_of_getElem? (i := 1014) (by decide +kernel), List.mem_of_getElem? (i := 1134) (by decide +kernel), List.mem_of_getElem? (i := 1135) (by decide +kernel)⟩
theorem lw_p21 : lw_okq (⟨"RopesAtDawnModel", "of", "(II)I"⟩, 28) := ⟨⟨by decide +kernel, by decide +kernel⟩, List.mem_of_getElem? (i := 1014) (by decide +kernel), List.mem_of_getElem? (i := 1138) (by decide +kernel), List.mem_of_getElem? (i := 1139) (by decide +kernel)⟩
theorem lw_p22 : lw_okq (⟨"RopesAtDawnModel", "ropeOf", "(I)I"⟩, 28) := ⟨⟨by decide +kernel, by decide +kernel⟩, List.mem_of_getElem? (i := 1014) (by decide +kernel), List.mem_of_getElem? (i := 1142) (by decide +kernel), List.mem_of_getElem? (i := 1143) (by decide +kernel)⟩
theorem lw_p23 : lw_okq (⟨"RopesAtDawnModel", "many", "(I)I"⟩, 28) := ⟨⟨by decide +kernel, by decide +kernel⟩, List.mem_of_getElem? (i := 1014) (by decide +kernel), List.mem_of_getElem? (i := 1146) (by decide +kernel), List.mem_of_getElem? (i := 1147) (by decide +kernel)⟩
theorem lw_p24 : lw_okq (⟨"RopesAtDawnModel", "rope", "(II)I"⟩, 28) := ⟨⟨by decide +kernel, by decide +kernel⟩, List.mem_of_getElem? (i := 1014) (by decide +kernel), List.mem_of_getElem? (i := 1150) (by decide +kernel), List.mem_of_getElem? (i := 1151) (by decide +kernel)⟩
theorem lw_p25 : lw_okq (⟨"RopesAtDawnModel", "who", "(II)I"⟩, 28) := ⟨⟨by decide +kernel, by decide +kernel⟩, List.mem_of_getElem? (i := 1014) (by decide +kernel), List.mem_of_getElem? (i := 1154) (by decide +kernel), List.mem_of_getElem? (i := 1155) (by decide +kernel)⟩
theorem lw_p26 : lw_okq (⟨"RopesAtDawnModel", "placeOf", "(I)I"⟩, 28) := ⟨⟨by decide +kernel, by decide +kernel⟩, List.mem_of_getElem? (i := 1014) (by decide +kernel), List.mem_of_getElem? (i := 1158) (by decide +kernel), List.mem_of_getElem? (i := 1159) (by decide +kernel)⟩
theorem lw_p27 : lw_okq (⟨"RopesAtDawnModel", "ofPieceAt", "(II)I"⟩, 28) := ⟨⟨by decide +kernel, by decide +kernel⟩, List.mem_of_getElem? (i := 1014) (by decide +kernel), List.mem_of_getElem? (i := 1178) (by decide +kernel), List.mem_of_getElem? (i := 1179) (by decide +kernel)⟩
theorem lw_p28 : lw_okq (⟨"RopesAtDawnModel", "become", "(II)I"⟩, 28) := ⟨⟨by decide +kernel, by decide +kernel⟩, List.mem_of_getElem? (i := 1014) (by decide +kernel), List.mem_of_getElem? (i := 1186) (by decide +kernel), List.mem_of_getElem? (i := 1187) (by decide +kernel)⟩
theorem lw_p29 : lw_okq (⟨"RopesAtDawnModel", "ties", "(III)V"⟩, 28) := ⟨⟨by decide +kernel, by decide +kernel⟩, List.mem_of_getElem? (i := 1014) (by decide +kernel), List.mem_of_getElem? (i := 1202) (by decide +kernel), List.mem_of_getElem? (i := 1203) (by decide +kernel)⟩
theorem lw_p30 : lw_okq (⟨"RopesAtDawnModel", "seats", "(III)V"⟩, 28) := ⟨⟨by decide +kernel, by decide +kernel⟩, List.mem_of_getElem? (i := 1014) (by decide +kernel), List.mem_of_getElem? (i := 1206) (by decide +kernel), List.mem_of_getElem? (i := 1207) (by decide +kernel)⟩
theorem lw_p31 : lw_okq (⟨"RopesAtDawnModel", "unties", "(I)V"⟩, 28) := ⟨⟨by decide +kernel, by decide +kernel⟩, List.mem_of_getElem? (i := 1014) (by decide +kernel), List.mem_of_getElem? (i := 1214) (by decide +kernel), List.mem_of_getElem? (i := 1215) (by decide +kernel)⟩
def lw_privs_2 : List (MethodName × Nat) := [(⟨"RopesAtDawn$Voices", "say", "(IIII)I"⟩, 4), (⟨"RopesAtDawn", "placeOfWrong", "()I"⟩, 9), (⟨"RopesAtDawnModel", "finding", "(I)I"⟩, 28), (⟨"RopesAtDawnModel", "comes", "(IIII)V"⟩, 28), (⟨"RopesAtDawnModel", "is", "(II)Z"⟩, 28), (⟨"RopesAtDawnModel", "of", "(II)I"⟩, 28), (⟨"RopesAtDawnModel", "ropeOf", "(I)I"⟩, 28), (⟨"RopesAtDawnModel", "many", "(I)I"⟩, 28), (⟨"RopesAtDawnModel", "rope", "(II)I"⟩, 28), (⟨"RopesAtDawnModel", "who", "(II)I"⟩, 28), (⟨"RopesAtDawnModel", "placeOf", "(I)I"⟩, 28), (⟨"RopesAtDawnModel", "ofPieceAt", "(II)I"⟩, 28), (⟨"RopesAtDawnModel", "become", "(II)I"⟩, 28), (⟨"RopesAtDawnModel", "ties", "(III)V"⟩, 28), (⟨"RopesAtDawnModel", "seats", "(III)V"⟩, 28), (⟨"RopesAtDawnModel", "unties", "(I)V"⟩, 28)]
theorem lw_r2 : ∀ q ∈ lw_privs_2, lw_okq q := List.forall_mem_cons.mpr ⟨lw_p16, List.forall_mem_cons.mpr ⟨lw_p17, List.forall_mem_cons.mpr ⟨lw_p18, List.forall_mem_cons.mpr ⟨lw_p19, List.forall_mem_cons.mpr ⟨lw_p20, List.forall_mem_cons.mpr ⟨lw_p21, List.forall_mem_cons.mpr ⟨lw_p22, List.forall_mem_cons.mpr ⟨lw_p23, List.forall_mem_cons.mpr ⟨lw_p24, List.forall_mem_cons.mpr ⟨lw_p25, List.forall_mem_cons.mpr ⟨lw_p26, List.forall_mem_cons.mpr ⟨lw_p27, List.forall_mem_cons.mpr ⟨lw_p28, List.forall_mem_cons.mpr ⟨lw_p29, List.forall_mem_cons.mpr ⟨lw_p30, List.forall_mem_cons.mpr ⟨lw_p31, fun _ h => absurd h List.not_mem_nil⟩⟩⟩⟩⟩⟩⟩⟩⟩⟩⟩⟩⟩⟩⟩⟩
theorem lw_p32 : lw_okq (⟨"RopesAtDawnModel", "inLine", "(I)I"⟩, 28) := ⟨⟨by decide +kernel, by decide +kernel⟩, List.mem_of_getElem? (i := 1014) (by decide +kernel), List.mem_of_getElem? (i := 1222) (by decide +kernel), List.mem_of_getElem? (i := 1223) (by decide +kernel)⟩
theorem lw_p33 : lw_okq (⟨"RopesAtDawnModel", "holdOf", "(II)I"⟩, 28) := ⟨⟨by decide +kernel, by decide +kernel⟩, List.mem_of_getElem? (i := 1014) (by decide +kernel), List.mem_of_getElem? (i := 1246) (by decide +kernel), List.mem_of_getElem? (i := 1247) (by decide +kernel)⟩
theorem lw_p34 : lw_okq (⟨"RopesAtDawnModel", "gripOf", "(III)I"⟩, 28) := ⟨⟨by decide +kernel, by decide +kernel⟩, List.mem_of_getElem? (i := 1014) (by decide +kernel), List.mem_of_getElem? (i := 1253) (by decide +kernel), List.mem_of_getElem? (i := 1254) (by decide +kernel)⟩
theorem lw_p35 : lw_okq (⟨"RopesAtDawnModel", "place", "(II)I"⟩, 28) := ⟨⟨by decide +kernel, by decide +kernel⟩, List.mem_of_getElem? (i := 1014) (by decide +kernel), List.mem_of_getElem? (i := 1257) (by decide +kernel), List.mem_of_getElem? (i := 1258) (by decide +kernel)⟩
theorem lw_p36 : lw_okq (⟨"RopesAtDawnModel", "isLast", "(II)Z"⟩, 28) := ⟨⟨by decide +kernel, by decide +kernel⟩, List.mem_of_getElem? (i := 1014) (by decide +kernel), List.mem_of_getElem? (i := 1262) (by decide +kernel), List.mem_of_getElem? (i := 1263) (by decide +kernel)⟩
theorem lw_p37 : lw_okq (⟨"RopesAtDawnModel", "isHeld", "(III)Z"⟩, 28) := ⟨⟨by decide +kernel, by decide +kernel⟩, List.mem_of_getElem? (i := 1014) (by decide +kernel), List.mem_of_getElem? (i := 1271) (by decide +kernel), List.mem_of_getElem? (i := 1272) (by decide +kernel)⟩
theorem lw_p38 : lw_okq (⟨"RopesAtDawnModel", "costOf", "(III)I"⟩, 28) := ⟨⟨by decide +kernel, by decide +kernel⟩, List.mem_of_getElem? (i := 1014) (by decide +kernel), List.mem_of_getElem? (i := 1279) (by decide +kernel), List.mem_of_getElem? (i := 1280) (by decide +kernel)⟩
theorem lw_p39 : lw_okq (⟨"RopesAtDawnModel", "given", "(IIIIII)I"⟩, 28) := ⟨⟨by decide +kernel, by decide +kernel⟩, List.mem_of_getElem? (i := 1014) (by decide +kernel), List.mem_of_getElem? (i := 1287) (by decide +kernel), List.mem_of_getElem? (i := 1288) (by decide +kernel)⟩
theorem lw_p40 : lw_okq (⟨"RopesAtDawnModel", "worked", "(I)I"⟩, 28) := ⟨⟨by decide +kernel, by decide +kernel⟩, List.mem_of_getElem? (i := 1014) (by decide +kernel), List.mem_of_getElem? (i := 1291) (by decide +kernel), List.mem_of_getElem? (i := 1292) (by decide +kernel)⟩
theorem lw_p41 : lw_okq (⟨"RopesAtDawnModel", "either", "()V"⟩, 28) := ⟨⟨by decide +kernel, by decide +kernel⟩, List.mem_of_getElem? (i := 1014) (by decide +kernel), List.mem_of_getElem? (i := 1308) (by decide +kernel), List.mem_of_getElem? (i := 1309) (by decide +kernel)⟩
theorem lw_p42 : lw_okq (⟨"RopesAtDawnModel", "both", "()V"⟩, 28) := ⟨⟨by decide +kernel, by decide +kernel⟩, List.mem_of_getElem? (i := 1014) (by decide +kernel), List.mem_of_getElem? (i := 1312) (by decide +kernel), List.mem_of_getElem? (i := 1313) (by decide +kernel)⟩
theorem lw_p43 : lw_okq (⟨"RopesAtDawnModel", "compared", "()V"⟩, 28) := ⟨⟨by decide +kernel, by decide +kernel⟩, List.mem_of_getElem? (i := 1014) (by decide +kernel), List.mem_of_getElem? (i := 1316) (by decide +kernel), List.mem_of_getElem? (i := 1317) (by decide +kernel)⟩
theorem lw_p44 : lw_okq (⟨"RopesAtDawnModel", "sum", "()V"⟩, 28) := ⟨⟨by decide +kernel, by decide +kernel⟩, List.mem_of_getElem? (i := 1014) (by decide +kernel), List.mem_of_getElem? (i := 1320) (by decide +kernel), List.mem_of_getElem? (i := 1321) (by decide +kernel)⟩
theorem lw_p45 : lw_okq (⟨"RopesAtDawnModel", "product", "()V"⟩, 28) := ⟨⟨by decide +kernel, by decide +kernel⟩, List.mem_of_getElem? (i := 1014) (by decide +kernel), List.mem_of_getElem? (i := 1324) (by decide +kernel), List.mem_of_getElem? (i := 1325) (by decide +kernel)⟩
theorem lw_p46 : lw_okq (⟨"RopesAtDawnModel", "one", "()V"⟩, 28) := ⟨⟨by decide +kernel, by decide +kernel⟩, List.mem_of_getElem? (i := 1014) (by decide +kernel), List.mem_of_getElem? (i := 1328) (by decide +kernel), List.mem_of_getElem? (i := 1329) (by decide +kernel)⟩
theorem lw_p47 : lw_okq (⟨"RopesAtDawnModel", "here", "()I"⟩, 28) := ⟨⟨by decide +kernel, by decide +kernel⟩, List.mem_of_getElem? (i := 1014) (by decide +kernel), List.mem_of_getElem? (i := 1332) (by decide +kernel), List.mem_of_getElem? (i := 1333) (by decide +kernel)⟩
def lw_privs_3 : List (MethodName × Nat) := [(⟨"RopesAtDawnModel", "inLine", "(I)I"⟩, 28), (⟨"RopesAtDawnModel", "holdOf", "(II)I"⟩, 28), (⟨"RopesAtDawnModel", "gripOf", "(III)I"⟩, 28), (⟨"RopesAtDawnModel", "place", "(II)I"⟩, 28), (⟨"RopesAtDawnModel", "isLast", "(II)Z"⟩, 28), (⟨"RopesAtDawnModel", "isHeld", "(III)Z"⟩, 28), (⟨"RopesAtDawnModel", "costOf", "(III)I"⟩, 28), (⟨"RopesAtDawnModel", "given", "(IIIIII)I"⟩, 28), (⟨"RopesAtDawnModel", "worked", "(I)I"⟩, 28), (⟨"RopesAtDawnModel", "either", "()V"⟩, 28), (⟨"RopesAtDawnModel", "both", "()V"⟩, 28), (⟨"RopesAtDawnModel", "compared", "()V"⟩, 28), (⟨"RopesAtDawnModel", "sum", "()V"⟩, 28), (⟨"RopesAtDawnModel", "product", "()V"⟩, 28), (⟨"RopesAtDawnModel", "one", "()V"⟩, 28), (⟨"RopesAtDawnModel", "here", "()I"⟩, 28)]
theorem lw_r3 : ∀ q ∈ lw_privs_3, lw_okq q := List.forall_mem_cons.mpr ⟨lw_p32, List.forall_mem_cons.mpr ⟨lw_p33, List.forall_mem_cons.mpr ⟨lw_p34, List.forall_mem_cons.mpr ⟨lw_p35, List.forall_mem_cons.mpr ⟨lw_p36, List.forall_mem_cons.mpr ⟨lw_p37, List.forall_mem_cons.mpr ⟨lw_p38, List.forall_mem_cons.mpr ⟨lw_p39, List.forall_mem_cons.mpr ⟨lw_p40, List.forall_mem_cons.mpr ⟨lw_p41, List.forall_mem_cons.mpr ⟨lw_p42, List.forall_mem_cons.mpr ⟨lw_p43, List.forall_mem_cons.mpr ⟨lw_p44, List.forall_mem_cons.mpr ⟨lw_p45, List.forall_mem_cons.mpr ⟨lw_p46, List.forall_mem_cons.mpr ⟨lw_p47, fun _ h => absurd h List.not_mem_nil⟩⟩⟩⟩⟩⟩⟩⟩⟩⟩⟩⟩⟩⟩⟩⟩
theorem lw_p48 : lw_okq (⟨"RopesAtDawnModel", "codes", "(I)V"⟩, 28) := ⟨⟨by decide +kernel, by decide +kernel⟩, List.mem_of_getElem? (i := 1014) (by decide +kernel), List.mem_of_getElem? (i := 1336) (by decide +kernel), List.mem_of_getElem? (i := 1337) (by decide +kernel)⟩
theorem lw_p49 : lw_okq (⟨"RopesAtDawnModel", "takes", "(I)Z"⟩, 28) := ⟨⟨by decide +kernel, by decide +kernel⟩, List.mem_of_getElem? (i := 1014) (by decide +kernel), List.mem_of_getElem? (i := 1340) (by decide +kernel), List.mem_of_getElem? (i := 1341) (by decide +kernel)⟩
theorem lw_p50 : lw_okq (⟨"RopesAtDawnModel", "nameOf", "(I)I"⟩, 28) := ⟨⟨by decide +kernel, by decide +kernel⟩, List.mem_of_getElem? (i := 1014) (by decide +kernel), List.mem_of_getElem? (i := 1344) (by decide +kernel), List.mem_of_getElem? (i := 1345) (by decide +kernel)⟩
theorem lw_p51 : lw_okq (⟨"RopesAtDawnModel", "cross", "()V"⟩, 28) := ⟨⟨by decide +kernel, by decide +kernel⟩, List.mem_of_getElem? (i := 1014) (by decide +kernel), List.mem_of_getElem? (i := 1385) (by decide +kernel), List.mem_of_getElem? (i := 1386) (by decide +kernel)⟩
theorem lw_p52 : lw_okq (⟨"RopesAtDawnModel", "paceOf", "(I)I"⟩, 28) := ⟨⟨by decide +kernel, by decide +kernel⟩, List.mem_of_getElem? (i := 1014) (by decide +kernel), List.mem_of_getElem? (i := 1389) (by decide +kernel), List.mem_of_getElem? (i := 1390) (by decide +kernel)⟩
theorem lw_p53 : lw_okq (⟨"RopesAtDawnModel", "isInLine", "(I)Z"⟩, 28) := ⟨⟨by decide +kernel, by decide +kernel⟩, List.mem_of_getElem? (i := 1014) (by decide +kernel), List.mem_of_getElem? (i := 1397) (by decide +kernel), List.mem_of_getElem? (i := 1398) (by decide +kernel)⟩
theorem lw_p54 : lw_okq (⟨"RopesAtDawnModel", "riskOf", "(III)I"⟩, 28) := ⟨⟨by decide +kernel, by decide +kernel⟩, List.mem_of_getElem? (i := 1014) (by decide +kernel), List.mem_of_getElem? (i := 1401) (by decide +kernel), List.mem_of_getElem? (i := 1402) (by decide +kernel)⟩
theorem lw_p55 : lw_okq (⟨"RopesAtDawnModel", "tollOf", "()I"⟩, 28) := ⟨⟨by decide +kernel, by decide +kernel⟩, List.mem_of_getElem? (i := 1014) (by decide +kernel), List.mem_of_getElem? (i := 1413) (by decide +kernel), List.mem_of_getElem? (i := 1414) (by decide +kernel)⟩
theorem lw_p56 : lw_okq (⟨"RopesAtDawnModel", "findOrder", "(I)V"⟩, 28) := ⟨⟨by decide +kernel, by decide +kernel⟩, List.mem_of_getElem? (i := 1014) (by decide +kernel), List.mem_of_getElem? (i := 1421) (by decide +kernel), List.mem_of_getElem? (i := 1422) (by decide +kernel)⟩
theorem lw_p57 : lw_okq (⟨"RopesAtDawnModel", "spaceOf", "(I)I"⟩, 28) := ⟨⟨by decide +kernel, by decide +kernel⟩, List.mem_of_getElem? (i := 1014) (by decide +kernel), List.mem_of_getElem? (i := 1441) (by decide +kernel), List.mem_of_getElem? (i := 1442) (by decide +kernel)⟩
theorem lw_p58 : lw_okq (⟨"RopesAtDawnModel", "back", "(I)I"⟩, 28) := ⟨⟨by decide +kernel, by decide +kernel⟩, List.mem_of_getElem? (i := 1014) (by decide +kernel), List.mem_of_getElem? (i := 1445) (by decide +kernel), List.mem_of_getElem? (i := 1446) (by decide +kernel)⟩
theorem lw_p59 : lw_okq (⟨"RopesAtDawnModel", "findLine", "()V"⟩, 28) := ⟨⟨by decide +kernel, by decide +kernel⟩, List.mem_of_getElem? (i := 1014) (by decide +kernel), List.mem_of_getElem? (i := 1453) (by decide +kernel), List.mem_of_getElem? (i := 1454) (by decide +kernel)⟩
theorem lw_p60 : lw_okq (⟨"RopesAtDawnModel", "parted", "(II)Z"⟩, 28) := ⟨⟨by decide +kernel, by decide +kernel⟩, List.mem_of_getElem? (i := 1014) (by decide +kernel), List.mem_of_getElem? (i := 1461) (by decide +kernel), List.mem_of_getElem? (i := 1462) (by decide +kernel)⟩
theorem lw_p61 : lw_okq (⟨"RopesAtDawnModel", "lostBy", "()I"⟩, 28) := ⟨⟨by decide +kernel, by decide +kernel⟩, List.mem_of_getElem? (i := 1014) (by decide +kernel), List.mem_of_getElem? (i := 1489) (by decide +kernel), List.mem_of_getElem? (i := 1490) (by decide +kernel)⟩
theorem lw_p62 : lw_okq (⟨"RopesAtDawnModel", "drawn", "(I)I"⟩, 28) := ⟨⟨by decide +kernel, by decide +kernel⟩, List.mem_of_getElem? (i := 1014) (by decide +kernel), List.mem_of_getElem? (i := 1493) (by decide +kernel), List.mem_of_getElem? (i := 1494) (by decide +kernel)⟩
theorem lw_p63 : lw_okq (⟨"RopesAtDawnModel", "loses", "(II)V"⟩, 28) := ⟨⟨by decide +kernel, by decide +kernel⟩, List.mem_of_getElem? (i := 1014) (by decide +kernel), List.mem_of_getElem? (i := 1498) (by decide +kernel), List.mem_of_getElem? (i := 1499) (by decide +kernel)⟩
def lw_privs_4 : List (MethodName × Nat) := [(⟨"RopesAtDawnModel", "codes", "(I)V"⟩, 28), (⟨"RopesAtDawnModel", "takes", "(I)Z"⟩, 28), (⟨"RopesAtDawnModel", "nameOf", "(I)I"⟩, 28), (⟨"RopesAtDawnModel", "cross", "()V"⟩, 28), (⟨"RopesAtDawnModel", "paceOf", "(I)I"⟩, 28), (⟨"RopesAtDawnModel", "isInLine", "(I)Z"⟩, 28), (⟨"RopesAtDawnModel", "riskOf", "(III)I"⟩, 28), (⟨"RopesAtDawnModel", "tollOf", "()I"⟩, 28), (⟨"RopesAtDawnModel", "findOrder", "(I)V"⟩, 28), (⟨"RopesAtDawnModel", "spaceOf", "(I)I"⟩, 28), (⟨"RopesAtDawnModel", "back", "(I)I"⟩, 28), (⟨"RopesAtDawnModel", "findLine", "()V"⟩, 28), (⟨"RopesAtDawnModel", "parted", "(II)Z"⟩, 28), (⟨"RopesAtDawnModel", "lostBy", "()I"⟩, 28), (⟨"RopesAtDawnModel", "drawn", "(I)I"⟩, 28), (⟨"RopesAtDawnModel", "loses", "(II)V"⟩, 28)]
theorem lw_r4 : ∀ q ∈ lw_privs_4, lw_okq q := List.forall_mem_cons.mpr ⟨lw_p48, List.forall_mem_cons.mpr ⟨lw_p49, List.forall_mem_cons.mpr ⟨lw_p50, List.forall_mem_cons.mpr ⟨lw_p51, List.forall_mem_cons.mpr ⟨lw_p52, List.forall_mem_cons.mpr ⟨lw_p53, List.forall_mem_cons.mpr ⟨lw_p54, List.forall_mem_cons.mpr ⟨lw_p55, List.forall_mem_cons.mpr ⟨lw_p56, List.forall_mem_cons.mpr ⟨lw_p57, List.forall_mem_cons.mpr ⟨lw_p58, List.forall_mem_cons.mpr ⟨lw_p59, List.forall_mem_cons.mpr ⟨lw_p60, List.forall_mem_cons.mpr ⟨lw_p61, List.forall_mem_cons.mpr ⟨lw_p62, List.forall_mem_cons.mpr ⟨lw_p63, fun _ h => absurd h List.not_mem_nil⟩⟩⟩⟩⟩⟩⟩⟩⟩⟩⟩⟩⟩⟩⟩⟩
theorem lw_p64 : lw_okq (⟨"RopesAtDawnModel", "voiced", "(II)I"⟩, 28) := ⟨⟨by decide +kernel, by decide +kernel⟩, List.mem_of_getElem? (i := 1014) (by decide +kernel), List.mem_of_getElem? (i := 1514) (by decide +kernel), List.mem_of_getElem? (i := 1515) (by decide +kernel)⟩
theorem lw_p65 : lw_okq (⟨"RopesAtDawnModel", "bodyFrom", "(III)I"⟩, 28) := ⟨⟨by decide +kernel, by decide +kernel⟩, List.mem_of_getElem? (i := 1014) (by decide +kernel), List.mem_of_getElem? (i := 1518) (by decide +kernel), List.mem_of_getElem? (i := 1519) (by decide +kernel)⟩
theorem lw_p66 : lw_okq (⟨"RopesAtDawnModel", "body", "(III)I"⟩, 28) := ⟨⟨by decide +kernel, by decide +kernel⟩, List.mem_of_getElem? (i := 1014) (by decide +kernel), List.mem_of_getElem? (i := 1525) (by decide +kernel), List.mem_of_getElem? (i := 1526) (by decide +kernel)⟩
theorem lw_p67 : lw_okq (⟨"RopesAtDawnModel", "began", "(I)V"⟩, 28) := ⟨⟨by decide +kernel, by decide +kernel⟩, List.mem_of_getElem? (i := 1014) (by decide +kernel), List.mem_of_getElem? (i := 1529) (by decide +kernel), List.mem_of_getElem? (i := 1530) (by decide +kernel)⟩
def lw_privs_5 : List (MethodName × Nat) := [(⟨"RopesAtDawnModel", "voiced", "(II)I"⟩, 28), (⟨"RopesAtDawnModel", "bodyFrom", "(III)I"⟩, 28), (⟨"RopesAtDawnModel", "body", "(III)I"⟩, 28), (⟨"RopesAtDawnModel", "began", "(I)V"⟩, 28)]
theorem lw_r5 : ∀ q ∈ lw_privs_5, lw_okq q := List.forall_mem_cons.mpr ⟨lw_p64, List.forall_mem_cons.mpr ⟨lw_p65, List.forall_mem_cons.mpr ⟨lw_p66, List.forall_mem_cons.mpr ⟨lw_p67, fun _ h => absurd h List.not_mem_nil⟩⟩⟩⟩
def lw_privs : List (MethodName × Nat) := lw_privs_1 ++ (lw_privs_2 ++ (lw_privs_3 ++ (lw_privs_4 ++ (lw_privs_5))))
def lw_tbl : List Cond := k2_sels lw_privs ++ tables_1
theorem lw_privs_ok : ∀ q ∈ lw_privs, lw_okq q := by
  show ∀ q ∈ lw_privs_1 ++ (lw_privs_2 ++ (lw_privs_3 ++ (lw_privs_4 ++ (lw_privs_5)))), lw_okq q
  exact List.forall_mem_append.mpr ⟨lw_r1, List.forall_mem_append.mpr ⟨lw_r2, List.forall_mem_append.mpr ⟨lw_r3, List.forall_mem_append.mpr ⟨lw_r4, lw_r5⟩⟩⟩⟩

def RX0 : String := "RopesAtDawn$Chooser"
def TX0 : u_T := fun k => match k with
  | 0 => ("RopesAtDawn$Chooser", "row", "LRopesAtDawn$Row;", true)
  | 1 => ("RopesAtDawn$Chooser", "choice", "I", false)
  | 2 => ("RopesAtDawn$Chooser", "least", "I", false)
  | 3 => ("RopesAtDawn$Chooser", "trial", "LRopesAtDawn$Dawn;", true)
  | _ => ("RopesAtDawn$Chooser", "crossing", "LRopesAtDawn$Crossing;", true)
def tyX0 : Nat → FieldType := fun k => match k with
  | 0 => .object "RopesAtDawn$Row"
  | 1 => .int
  | 2 => .int
  | 3 => .object "RopesAtDawn$Dawn"
  | _ => .object "RopesAtDawn$Crossing"
abbrev wsX00 : List Cond := u_ws RX0 TX0 5
theorem nmX0 : ∀ a, a < 5 → ∀ b, b < 5 → a ≠ b → (TX0 a).2.1 ≠ (TX0 b).2.1 := by decide +kernel
theorem tyX0_ok : ∀ k, k < 5 → parseFieldDescriptor (TX0 k).2.2.1 = some (tyX0 k) := by decide +kernel

def RX1 : String := "RopesAtDawn$Crossing"
def TX1 : u_T := fun k => match k with
  | 0 => ("RopesAtDawn$Crossing", "reckoner", "LRopesAtDawn$Reckoner;", true)
  | 1 => ("RopesAtDawn$Crossing", "comes", "[I", true)
  | 2 => ("RopesAtDawn$Crossing", "offs", "[I", true)
  | _ => ("RopesAtDawn$Crossing", "over", "I", false)
def tyX1 : Nat → FieldType := fun k => match k with
  | 0 => .object "RopesAtDawn$Reckoner"
  | 1 => .array .int
  | 2 => .array .int
  | _ => .int
abbrev wsX10 : List Cond := u_ws RX1 TX1 4
theorem nmX1 : ∀ a, a < 4 → ∀ b, b < 4 → a ≠ b → (TX1 a).2.1 ≠ (TX1 b).2.1 := by decide +kernel
theorem tyX1_ok : ∀ k, k < 4 → parseFieldDescriptor (TX1 k).2.2.1 = some (tyX1 k) := by decide +kernel

def RX2 : String := "RopesAtDawn$Dawn"
def TX2 : u_T := fun k => match k with
  | 0 => ("RopesAtDawn$Dawn", "people", "LRopesAtDawn$Fours;", true)
  | 1 => ("RopesAtDawn$Dawn", "pieces", "LRopesAtDawn$Fours;", true)
  | 2 => ("RopesAtDawn$Dawn", "ropes", "LRopesAtDawn$Fours;", true)
  | 3 => ("RopesAtDawn$Dawn", "line", "LRopesAtDawn$Row;", true)
  | 4 => ("RopesAtDawn$Dawn", "tape", "LRopesAtDawn$Row;", true)
  | 5 => ("RopesAtDawn$Dawn", "waiting", "LRopesAtDawn$Row;", true)
  | 6 => ("RopesAtDawn$Dawn", "rows", "[LRopesAtDawn$Row;", true)
  | 7 => ("RopesAtDawn$Dawn", "nobody", "LRopesAtDawn$Row;", true)
  | 8 => ("RopesAtDawn$Dawn", "riskText", "LRopesAtDawn$Row;", true)
  | 9 => ("RopesAtDawn$Dawn", "haulText", "LRopesAtDawn$Row;", true)
  | 10 => ("RopesAtDawn$Dawn", "start", "I", false)
  | _ => ("RopesAtDawn$Dawn", "z", "I", false)
def tyX2 : Nat → FieldType := fun k => match k with
  | 0 => .object "RopesAtDawn$Fours"
  | 1 => .object "RopesAtDawn$Fours"
  | 2 => .object "RopesAtDawn$Fours"
  | 3 => .object "RopesAtDawn$Row"
  | 4 => .object "RopesAtDawn$Row"
  | 5 => .object "RopesAtDawn$Row"
  | 6 => .array (.object "RopesAtDawn$Row")
  | 7 => .object "RopesAtDawn$Row"
  | 8 => .object "RopesAtDawn$Row"
  | 9 => .object "RopesAtDawn$Row"
  | 10 => .int
  | _ => .int
abbrev wsX20 : List Cond := u_ws RX2 TX2 12
theorem nmX2 : ∀ a, a < 12 → ∀ b, b < 12 → a ≠ b → (TX2 a).2.1 ≠ (TX2 b).2.1 := by decide +kernel
theorem tyX2_ok : ∀ k, k < 12 → parseFieldDescriptor (TX2 k).2.2.1 = some (tyX2 k) := by decide +kernel

def RX3 : String := "RopesAtDawn$Fours"
def TX3 : u_T := fun k => match k with
  | 0 => ("RopesAtDawn$Fours", "least", "[I", true)
  | 1 => ("RopesAtDawn$Fours", "most", "[I", true)
  | 2 => ("RopesAtDawn$Fours", "cells", "[I", true)
  | _ => ("RopesAtDawn$Fours", "rows", "I", false)
def tyX3 : Nat → FieldType := fun k => match k with
  | 0 => .array .int
  | 1 => .array .int
  | 2 => .array .int
  | _ => .int
abbrev wsX30 : List Cond := u_ws RX3 TX3 4
theorem nmX3 : ∀ a, a < 4 → ∀ b, b < 4 → a ≠ b → (TX3 a).2.1 ≠ (TX3 b).2.1 := by decide +kernel
theorem tyX3_ok : ∀ k, k < 4 → parseFieldDescriptor (TX3 k).2.2.1 = some (tyX3 k) := by decide +kernel

def RX4 : String := "RopesAtDawn$Reader"
def TX4 : u_T := fun k => match k with
  | 0 => ("RopesAtDawn$Reader", "codes", "LRopesAtDawn$Row;", true)
  | 1 => ("RopesAtDawn$Reader", "tape", "LRopesAtDawn$Row;", false)
  | 2 => ("RopesAtDawn$Reader", "names", "Ljava/lang/String;", false)
  | 3 => ("RopesAtDawn$Reader", "place", "I", false)
  | _ => ("RopesAtDawn$Reader", "wrong", "Z", false)
def tyX4 : Nat → FieldType := fun k => match k with
  | 0 => .object "RopesAtDawn$Row"
  | 1 => .object "RopesAtDawn$Row"
  | 2 => .object "java/lang/String"
  | 3 => .int
  | _ => .boolean
abbrev wsX40 : List Cond := u_ws RX4 TX4 5
theorem nmX4 : ∀ a, a < 5 → ∀ b, b < 5 → a ≠ b → (TX4 a).2.1 ≠ (TX4 b).2.1 := by decide +kernel
theorem tyX4_ok : ∀ k, k < 5 → parseFieldDescriptor (TX4 k).2.2.1 = some (tyX4 k) := by decide +kernel

def RX5 : String := "RopesAtDawn$Reckoner"
def TX5 : u_T := fun k => match k with
  | 0 => ("RopesAtDawn$Reckoner", "names", "[I", true)
  | _ => ("RopesAtDawn$Reckoner", "stack", "[I", true)
def tyX5 : Nat → FieldType := fun k => match k with
  | 0 => .array .int
  | _ => .array .int
abbrev wsX50 : List Cond := u_ws RX5 TX5 2
theorem nmX5 : ∀ a, a < 2 → ∀ b, b < 2 → a ≠ b → (TX5 a).2.1 ≠ (TX5 b).2.1 := by decide +kernel
theorem tyX5_ok : ∀ k, k < 2 → parseFieldDescriptor (TX5 k).2.2.1 = some (tyX5 k) := by decide +kernel

def RX6 : String := "RopesAtDawn$Row"
def TX6 : u_T := fun k => match k with
  | 0 => ("RopesAtDawn$Row", "cells", "[I", true)
  | _ => ("RopesAtDawn$Row", "size", "I", false)
def tyX6 : Nat → FieldType := fun k => match k with
  | 0 => .array .int
  | _ => .int
abbrev wsX60 : List Cond := u_ws RX6 TX6 2
theorem nmX6 : ∀ a, a < 2 → ∀ b, b < 2 → a ≠ b → (TX6 a).2.1 ≠ (TX6 b).2.1 := by decide +kernel
theorem tyX6_ok : ∀ k, k < 2 → parseFieldDescriptor (TX6 k).2.2.1 = some (tyX6 k) := by decide +kernel

def RX7 : String := "RopesAtDawn$Sheet"
def TX7 : u_T := fun k => match k with
  | 0 => ("RopesAtDawn$Sheet", "cells", "[I", true)
  | 1 => ("RopesAtDawn$Sheet", "bits", "I", false)
  | _ => ("RopesAtDawn$Sheet", "size", "I", false)
def tyX7 : Nat → FieldType := fun k => match k with
  | 0 => .array .int
  | 1 => .int
  | _ => .int
abbrev wsX70 : List Cond := u_ws RX7 TX7 3
theorem nmX7 : ∀ a, a < 3 → ∀ b, b < 3 → a ≠ b → (TX7 a).2.1 ≠ (TX7 b).2.1 := by decide +kernel
theorem tyX7_ok : ∀ k, k < 3 → parseFieldDescriptor (TX7 k).2.2.1 = some (tyX7 k) := by decide +kernel

def RX8 : String := "RopesAtDawn$Voices"
def TX8 : u_T := fun k => match k with
  | 0 => ("RopesAtDawn$Voices", "trace", "LRopesAtDawn$Row;", true)
  | 1 => ("RopesAtDawn$Voices", "kind", "I", false)
  | 2 => ("RopesAtDawn$Voices", "number", "I", false)
  | _ => ("RopesAtDawn$Voices", "knots", "I", false)
def tyX8 : Nat → FieldType := fun k => match k with
  | 0 => .object "RopesAtDawn$Row"
  | 1 => .int
  | 2 => .int
  | _ => .int
abbrev wsX80 : List Cond := u_ws RX8 TX8 4
theorem nmX8 : ∀ a, a < 4 → ∀ b, b < 4 → a ≠ b → (TX8 a).2.1 ≠ (TX8 b).2.1 := by decide +kernel
theorem tyX8_ok : ∀ k, k < 4 → parseFieldDescriptor (TX8 k).2.2.1 = some (tyX8 k) := by decide +kernel

def RX9 : String := "RopesAtDawn"
def TX9 : u_T := fun k => match k with
  | 0 => ("RopesAtDawn", "now", "LRopesAtDawn$Dawn;", true)
  | 1 => ("RopesAtDawn", "crossing", "LRopesAtDawn$Crossing;", true)
  | 2 => ("RopesAtDawn", "chooser", "LRopesAtDawn$Chooser;", true)
  | 3 => ("RopesAtDawn", "reader", "LRopesAtDawn$Reader;", true)
  | 4 => ("RopesAtDawn", "voices", "LRopesAtDawn$Voices;", true)
  | 5 => ("RopesAtDawn", "sheets", "[LRopesAtDawn$Sheet;", true)
  | 6 => ("RopesAtDawn", "errors", "[I", true)
  | 7 => ("RopesAtDawn", "kept", "LRopesAtDawn$Dawn;", false)
  | _ => ("RopesAtDawn", "images", "I", false)
def tyX9 : Nat → FieldType := fun k => match k with
  | 0 => .object "RopesAtDawn$Dawn"
  | 1 => .object "RopesAtDawn$Crossing"
  | 2 => .object "RopesAtDawn$Chooser"
  | 3 => .object "RopesAtDawn$Reader"
  | 4 => .object "RopesAtDawn$Voices"
  | 5 => .array (.object "RopesAtDawn$Sheet")
  | 6 => .array .int
  | 7 => .object "RopesAtDawn$Dawn"
  | _ => .int
abbrev wsX90 : List Cond := u_ws RX9 TX9 9
theorem nmX9 : ∀ a, a < 9 → ∀ b, b < 9 → a ≠ b → (TX9 a).2.1 ≠ (TX9 b).2.1 := by decide +kernel
theorem tyX9_ok : ∀ k, k < 9 → parseFieldDescriptor (TX9 k).2.2.1 = some (tyX9 k) := by decide +kernel

def RX10 : String := "RopesAtDawnModel"
def TX10 : u_T := fun k => match k with
  | 0 => ("RopesAtDawnModel", "now", "[I", true)
  | 1 => ("RopesAtDawnModel", "kept", "[I", true)
  | 2 => ("RopesAtDawnModel", "aside", "[I", true)
  | 3 => ("RopesAtDawnModel", "images", "I", false)
  | 4 => ("RopesAtDawnModel", "errors", "[I", true)
  | 5 => ("RopesAtDawnModel", "lost", "I", false)
  | 6 => ("RopesAtDawnModel", "NAMED", "[Ljava/lang/String;", true)
  | 7 => ("RopesAtDawnModel", "at", "I", false)
  | 8 => ("RopesAtDawnModel", "open", "I", false)
  | 9 => ("RopesAtDawnModel", "use", "I", false)
  | 10 => ("RopesAtDawnModel", "isWrong", "Z", false)
  | 11 => ("RopesAtDawnModel", "code", "[I", true)
  | 12 => ("RopesAtDawnModel", "coded", "I", false)
  | 13 => ("RopesAtDawnModel", "named", "[I", true)
  | 14 => ("RopesAtDawnModel", "pile", "[I", true)
  | 15 => ("RopesAtDawnModel", "comes", "[I", true)
  | 16 => ("RopesAtDawnModel", "before", "[I", true)
  | 17 => ("RopesAtDawnModel", "over", "I", false)
  | 18 => ("RopesAtDawnModel", "sorted", "[I", true)
  | 19 => ("RopesAtDawnModel", "best", "[I", true)
  | 20 => ("RopesAtDawnModel", "least", "I", false)
  | 21 => ("RopesAtDawnModel", "trace", "[I", true)
  | 22 => ("RopesAtDawnModel", "traced", "I", false)
  | 23 => ("RopesAtDawnModel", "speaker", "I", false)
  | 24 => ("RopesAtDawnModel", "widths", "[I", true)
  | 25 => ("RopesAtDawnModel", "sizes", "[I", true)
  | 26 => ("RopesAtDawnModel", "numbers", "[I", true)
  | _ => ("RopesAtDawnModel", "carried", "[I", true)
def tyX10 : Nat → FieldType := fun k => match k with
  | 0 => .array .int
  | 1 => .array .int
  | 2 => .array .int
  | 3 => .int
  | 4 => .array .int
  | 5 => .int
  | 6 => .array (.object "java/lang/String")
  | 7 => .int
  | 8 => .int
  | 9 => .int
  | 10 => .boolean
  | 11 => .array .int
  | 12 => .int
  | 13 => .array .int
  | 14 => .array .int
  | 15 => .array .int
  | 16 => .array .int
  | 17 => .int
  | 18 => .array .int
  | 19 => .array .int
  | 20 => .int
  | 21 => .array .int
  | 22 => .int
  | 23 => .int
  | 24 => .array .int
  | 25 => .array .int
  | 26 => .array .int
  | _ => .array .int
abbrev wsX100 : List Cond := u_ws RX10 TX10 28
theorem nmX10 : ∀ a, a < 28 → ∀ b, b < 28 → a ≠ b → (TX10 a).2.1 ≠ (TX10 b).2.1 := by decide +kernel
theorem tyX10_ok : ∀ k, k < 28 → parseFieldDescriptor (TX10 k).2.2.1 = some (tyX10 k) := by decide +kernel

theorem wk (i : Nat) {w : Cond} (h : tables_1[i]? = some w) : w ∈ lw_tbl := List.mem_append_right _ (List.mem_of_getElem? h)

theorem inX0 : ∀ w ∈ wsX00, w ∈ lw_tbl := by
  intro w hw
  have h : wsX00 = ([193, 195, 197, 199, 201] : List Nat).filterMap (fun i => tables_1[i]?) := by decide +kernel
  rw [h] at hw
  obtain ⟨i, -, hi⟩ := List.mem_filterMap.mp hw
  exact wk i hi

theorem inX1 : ∀ w ∈ wsX10, w ∈ lw_tbl := by
  intro w hw
  have h : wsX10 = ([164, 166, 168, 170] : List Nat).filterMap (fun i => tables_1[i]?) := by decide +kernel
  rw [h] at hw
  obtain ⟨i, -, hi⟩ := List.mem_filterMap.mp hw
  exact wk i hi

theorem inX2 : ∀ w ∈ wsX20, w ∈ lw_tbl := by
  intro w hw
  have h : wsX20 = ([113, 115, 117, 119, 121, 123, 125, 127, 129, 131, 133, 135] : List Nat).filterMap (fun i => tables_1[i]?) := by decide +kernel
  rw [h] at hw
  obtain ⟨i, -, hi⟩ := List.mem_filterMap.mp hw
  exact wk i hi

theorem inX3 : ∀ w ∈ wsX30, w ∈ lw_tbl := by
  intro w hw
  have h : wsX30 = ([52, 54, 56, 58] : List Nat).filterMap (fun i => tables_1[i]?) := by decide +kernel
  rw [h] at hw
  obtain ⟨i, -, hi⟩ := List.mem_filterMap.mp hw
  exact wk i hi

theorem inX4 : ∀ w ∈ wsX40, w ∈ lw_tbl := by
  intro w hw
  have h : wsX40 = ([219, 221, 223, 225, 227] : List Nat).filterMap (fun i => tables_1[i]?) := by decide +kernel
  rw [h] at hw
  obtain ⟨i, -, hi⟩ := List.mem_filterMap.mp hw
  exact wk i hi

theorem inX5 : ∀ w ∈ wsX50, w ∈ lw_tbl := by
  intro w hw
  have h : wsX50 = ([152, 154] : List Nat).filterMap (fun i => tables_1[i]?) := by decide +kernel
  rw [h] at hw
  obtain ⟨i, -, hi⟩ := List.mem_filterMap.mp hw
  exact wk i hi

theorem inX6 : ∀ w ∈ wsX60, w ∈ lw_tbl := by
  intro w hw
  have h : wsX60 = ([79, 81] : List Nat).filterMap (fun i => tables_1[i]?) := by decide +kernel
  rw [h] at hw
  obtain ⟨i, -, hi⟩ := List.mem_filterMap.mp hw
  exact wk i hi

theorem inX7 : ∀ w ∈ wsX70, w ∈ lw_tbl := by
  intro w hw
  have h : wsX70 = ([264, 266, 268] : List Nat).filterMap (fun i => tables_1[i]?) := by decide +kernel
  rw [h] at hw
  obtain ⟨i, -, hi⟩ := List.mem_filterMap.mp hw
  exact wk i hi

theorem inX8 : ∀ w ∈ wsX80, w ∈ lw_tbl := by
  intro w hw
  have h : wsX80 = ([244, 246, 248, 250] : List Nat).filterMap (fun i => tables_1[i]?) := by decide +kernel
  rw [h] at hw
  obtain ⟨i, -, hi⟩ := List.mem_filterMap.mp hw
  exact wk i hi

theorem inX9 : ∀ w ∈ wsX90, w ∈ lw_tbl := by
  intro w hw
  have h : wsX90 = ([280, 282, 284, 286, 288, 290, 292, 294, 296] : List Nat).filterMap (fun i => tables_1[i]?) := by decide +kernel
  rw [h] at hw
  obtain ⟨i, -, hi⟩ := List.mem_filterMap.mp hw
  exact wk i hi

theorem inX10 : ∀ w ∈ wsX100, w ∈ lw_tbl := by
  intro w hw
  have h : wsX100 = ([1051, 1053, 1055, 1057, 1059, 1061, 1063, 1065, 1067, 1069, 1071, 1073, 1075, 1077, 1079, 1081, 1083, 1085, 1087, 1089, 1091, 1093, 1095, 1097, 1099, 1101, 1103, 1105] : List Nat).filterMap (fun i => tables_1[i]?) := by decide +kernel
  rw [h] at hw
  obtain ⟨i, -, hi⟩ := List.mem_filterMap.mp hw
  exact wk i hi

def cN (ci : Nat) : String := match ci with
  | 0 => RX0
  | 1 => RX1
  | 2 => RX2
  | 3 => RX3
  | 4 => RX4
  | 5 => RX5
  | 6 => RX6
  | 7 => RX7
  | 8 => RX8
  | 9 => RX9
  | _ => RX10

def cT (ci : Nat) : u_T := match ci with
  | 0 => TX0
  | 1 => TX1
  | 2 => TX2
  | 3 => TX3
  | 4 => TX4
  | 5 => TX5
  | 6 => TX6
  | 7 => TX7
  | 8 => TX8
  | 9 => TX9
  | _ => TX10

def fN (ci : Nat) : Nat := match ci with
  | 0 => 5
  | 1 => 4
  | 2 => 12
  | 3 => 4
  | 4 => 5
  | 5 => 2
  | 6 => 2
  | 7 => 3
  | 8 => 4
  | 9 => 9
  | _ => 28

def cTy (ci : Nat) : Nat → FieldType := match ci with
  | 0 => tyX0
  | 1 => tyX1
  | 2 => tyX2
  | 3 => tyX3
  | 4 => tyX4
  | 5 => tyX5
  | 6 => tyX6
  | 7 => tyX7
  | 8 => tyX8
  | 9 => tyX9
  | _ => tyX10

theorem cls_in : ∀ ci, ci < 11 → ∀ w ∈ u_ws (cN ci) (cT ci) (fN ci), w ∈ lw_tbl := by
  intro ci h
  match ci, h with
  | 0, _ => exact inX0
  | 1, _ => exact inX1
  | 2, _ => exact inX2
  | 3, _ => exact inX3
  | 4, _ => exact inX4
  | 5, _ => exact inX5
  | 6, _ => exact inX6
  | 7, _ => exact inX7
  | 8, _ => exact inX8
  | 9, _ => exact inX9
  | 10, _ => exact inX10
  | n + 11, h => exact absurd h (by omega)

theorem cls_nm : ∀ ci, ci < 11 → ∀ a, a < fN ci → ∀ b, b < fN ci → a ≠ b → (cT ci a).2.1 ≠ (cT ci b).2.1 := by
  intro ci h
  match ci, h with
  | 0, _ => exact nmX0
  | 1, _ => exact nmX1
  | 2, _ => exact nmX2
  | 3, _ => exact nmX3
  | 4, _ => exact nmX4
  | 5, _ => exact nmX5
  | 6, _ => exact nmX6
  | 7, _ => exact nmX7
  | 8, _ => exact nmX8
  | 9, _ => exact nmX9
  | 10, _ => exact nmX10
  | n + 11, h => exact absurd h (by omega)

theorem cls_ty : ∀ ci, ci < 11 → ∀ k, k < fN ci → parseFieldDescriptor (cT ci k).2.2.1 = some (cTy ci k) := by
  intro ci h
  match ci, h with
  | 0, _ => exact tyX0_ok
  | 1, _ => exact tyX1_ok
  | 2, _ => exact tyX2_ok
  | 3, _ => exact tyX3_ok
  | 4, _ => exact tyX4_ok
  | 5, _ => exact tyX5_ok
  | 6, _ => exact tyX6_ok
  | 7, _ => exact tyX7_ok
  | 8, _ => exact tyX8_ok
  | 9, _ => exact tyX9_ok
  | 10, _ => exact tyX10_ok
  | n + 11, h => exact absurd h (by omega)
