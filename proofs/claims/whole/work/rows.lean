section
-- ===== PART A: goes FIRST, ahead of the names: the tables' words, and 'selects' of the private methods out of them =====
/-- a private method of a class that the tables say can be made, by its rows of tables_1 -/
def lw_okq (q : MethodName × Nat) : Prop := (q.1.cls ≠ "java/lang/invoke/MethodHandle" ∧ q.1.cls ≠ "java/lang/invoke/VarHandle") ∧ Cond.instantiable q.1.cls q.2 ∈ tables_1 ∧ Cond.privateMethod q.1 ∈ tables_1 ∧ Cond.instanceMethod q.1 ∈ tables_1
theorem lw_p0 : lw_okq (⟨"RopesAtDawn", "newFour", "(LRopesAtDawn$Fours;IIII)I"⟩, 9) := ⟨⟨by decide +kernel, by decide +kernel⟩, List.mem_of_getElem? (i := 22) (by decide +kernel), List.mem_of_getElem? (i := 304) (by decide +kernel), List.mem_of_getElem? (i := 305) (by decide +kernel)⟩
theorem lw_p1 : lw_okq (⟨"RopesAtDawn", "fail", "(I)I"⟩, 9) := ⟨⟨by decide +kernel, by decide +kernel⟩, List.mem_of_getElem? (i := 22) (by decide +kernel), List.mem_of_getElem? (i := 317) (by decide +kernel), List.mem_of_getElem? (i := 318) (by decide +kernel)⟩
theorem lw_p2 : lw_okq (⟨"RopesAtDawn", "sheetOf", "(I)LRopesAtDawn$Sheet;"⟩, 9) := ⟨⟨by decide +kernel, by decide +kernel⟩, List.mem_of_getElem? (i := 22) (by decide +kernel), List.mem_of_getElem? (i := 374) (by decide +kernel), List.mem_of_getElem? (i := 375) (by decide +kernel)⟩
theorem lw_p3 : lw_okq (⟨"RopesAtDawn$Dawn", "gripAt", "(III)I"⟩, 12) := ⟨⟨by decide +kernel, by decide +kernel⟩, List.mem_of_getElem? (i := 30) (by decide +kernel), List.mem_of_getElem? (i := 481) (by decide +kernel), List.mem_of_getElem? (i := 482) (by decide +kernel)⟩
theorem lw_p4 : lw_okq (⟨"RopesAtDawn", "errorOnRope", "(II)I"⟩, 9) := ⟨⟨by decide +kernel, by decide +kernel⟩, List.mem_of_getElem? (i := 22) (by decide +kernel), List.mem_of_getElem? (i := 492) (by decide +kernel), List.mem_of_getElem? (i := 493) (by decide +kernel)⟩
theorem lw_p5 : lw_okq (⟨"RopesAtDawn$Reckoner", "valueOf", "(LRopesAtDawn$Row;)I"⟩, 2) := ⟨⟨by decide +kernel, by decide +kernel⟩, List.mem_of_getElem? (i := 145) (by decide +kernel), List.mem_of_getElem? (i := 530) (by decide +kernel), List.mem_of_getElem? (i := 531) (by decide +kernel)⟩
theorem lw_p6 : lw_okq (⟨"RopesAtDawn$Reader", "readLevel", "(II)V"⟩, 5) := ⟨⟨by decide +kernel, by decide +kernel⟩, List.mem_of_getElem? (i := 205) (by decide +kernel), List.mem_of_getElem? (i := 563) (by decide +kernel), List.mem_of_getElem? (i := 564) (by decide +kernel)⟩
theorem lw_p7 : lw_okq (⟨"RopesAtDawn$Reader", "readFactor", "(I)V"⟩, 5) := ⟨⟨by decide +kernel, by decide +kernel⟩, List.mem_of_getElem? (i := 205) (by decide +kernel), List.mem_of_getElem? (i := 567) (by decide +kernel), List.mem_of_getElem? (i := 568) (by decide +kernel)⟩
theorem lw_p8 : lw_okq (⟨"RopesAtDawn$Reader", "readNumber", "()V"⟩, 5) := ⟨⟨by decide +kernel, by decide +kernel⟩, List.mem_of_getElem? (i := 205) (by decide +kernel), List.mem_of_getElem? (i := 575) (by decide +kernel), List.mem_of_getElem? (i := 576) (by decide +kernel)⟩
theorem lw_p9 : lw_okq (⟨"RopesAtDawn$Reader", "readOpened", "(II)V"⟩, 5) := ⟨⟨by decide +kernel, by decide +kernel⟩, List.mem_of_getElem? (i := 205) (by decide +kernel), List.mem_of_getElem? (i := 662) (by decide +kernel), List.mem_of_getElem? (i := 663) (by decide +kernel)⟩
theorem lw_p10 : lw_okq (⟨"RopesAtDawn$Crossing", "crossOne", "(LRopesAtDawn$Dawn;II)I"⟩, 4) := ⟨⟨by decide +kernel, by decide +kernel⟩, List.mem_of_getElem? (i := 139) (by decide +kernel), List.mem_of_getElem? (i := 706) (by decide +kernel), List.mem_of_getElem? (i := 707) (by decide +kernel)⟩
theorem lw_p11 : lw_okq (⟨"RopesAtDawn$Crossing", "tollAt", "(LRopesAtDawn$Dawn;III)I"⟩, 4) := ⟨⟨by decide +kernel, by decide +kernel⟩, List.mem_of_getElem? (i := 139) (by decide +kernel), List.mem_of_getElem? (i := 758) (by decide +kernel), List.mem_of_getElem? (i := 759) (by decide +kernel)⟩
theorem lw_p12 : lw_okq (⟨"RopesAtDawn$Chooser", "begin", "(LRopesAtDawn$Dawn;)V"⟩, 5) := ⟨⟨by decide +kernel, by decide +kernel⟩, List.mem_of_getElem? (i := 174) (by decide +kernel), List.mem_of_getElem? (i := 774) (by decide +kernel), List.mem_of_getElem? (i := 775) (by decide +kernel)⟩
theorem lw_p13 : lw_okq (⟨"RopesAtDawn$Chooser", "weigh", "(II)V"⟩, 5) := ⟨⟨by decide +kernel, by decide +kernel⟩, List.mem_of_getElem? (i := 174) (by decide +kernel), List.mem_of_getElem? (i := 814) (by decide +kernel), List.mem_of_getElem? (i := 815) (by decide +kernel)⟩
theorem lw_p14 : lw_okq (⟨"RopesAtDawn", "runMorning", "()I"⟩, 9) := ⟨⟨by decide +kernel, by decide +kernel⟩, List.mem_of_getElem? (i := 22) (by decide +kernel), List.mem_of_getElem? (i := 899) (by decide +kernel), List.mem_of_getElem? (i := 900) (by decide +kernel)⟩
theorem lw_p15 : lw_okq (⟨"RopesAtDawn", "lostOn", "(II)I"⟩, 9) := ⟨⟨by decide +kernel, by decide +kernel⟩, List.mem_of_getElem? (i := 22) (by decide +kernel), List.mem_of_getElem? (i := 903) (by decide +kernel), List.mem_of_getElem? (i := 904) (by decide +kernel)⟩
def lw_privs_1 : List (MethodName × Nat) := [(⟨"RopesAtDawn", "newFour", "(LRopesAtDawn$Fours;IIII)I"⟩, 9), (⟨"RopesAtDawn", "fail", "(I)I"⟩, 9), (⟨"RopesAtDawn", "sheetOf", "(I)LRopesAtDawn$Sheet;"⟩, 9), (⟨"RopesAtDawn$Dawn", "gripAt", "(III)I"⟩, 12), (⟨"RopesAtDawn", "errorOnRope", "(II)I"⟩, 9), (⟨"RopesAtDawn$Reckoner", "valueOf", "(LRopesAtDawn$Row;)I"⟩, 2), (⟨"RopesAtDawn$Reader", "readLevel", "(II)V"⟩, 5), (⟨"RopesAtDawn$Reader", "readFactor", "(I)V"⟩, 5), (⟨"RopesAtDawn$Reader", "readNumber", "()V"⟩, 5), (⟨"RopesAtDawn$Reader", "readOpened", "(II)V"⟩, 5), (⟨"RopesAtDawn$Crossing", "crossOne", "(LRopesAtDawn$Dawn;II)I"⟩, 4), (⟨"RopesAtDawn$Crossing", "tollAt", "(LRopesAtDawn$Dawn;III)I"⟩, 4), (⟨"RopesAtDawn$Chooser", "begin", "(LRopesAtDawn$Dawn;)V"⟩, 5), (⟨"RopesAtDawn$Chooser", "weigh", "(II)V"⟩, 5), (⟨"RopesAtDawn", "runMorning", "()I"⟩, 9), (⟨"RopesAtDawn", "lostOn", "(II)I"⟩, 9)]
theorem lw_r1 : ∀ q ∈ lw_privs_1, lw_okq q := List.forall_mem_cons.mpr ⟨lw_p0, List.forall_mem_cons.mpr ⟨lw_p1, List.forall_mem_cons.mpr ⟨lw_p2, List.forall_mem_cons.mpr ⟨lw_p3, List.forall_mem_cons.mpr ⟨lw_p4, List.forall_mem_cons.mpr ⟨lw_p5, List.forall_mem_cons.mpr ⟨lw_p6, List.forall_mem_cons.mpr ⟨lw_p7, List.forall_mem_cons.mpr ⟨lw_p8, List.forall_mem_cons.mpr ⟨lw_p9, List.forall_mem_cons.mpr ⟨lw_p10, List.forall_mem_cons.mpr ⟨lw_p11, List.forall_mem_cons.mpr ⟨lw_p12, List.forall_mem_cons.mpr ⟨lw_p13, List.forall_mem_cons.mpr ⟨lw_p14, List.forall_mem_cons.mpr ⟨lw_p15, fun _ h => absurd h List.not_mem_nil⟩⟩⟩⟩⟩⟩⟩⟩⟩⟩⟩⟩⟩⟩⟩⟩
theorem lw_p16 : lw_okq (⟨"RopesAtDawn$Voices", "say", "(IIII)I"⟩, 4) := ⟨⟨by decide +kernel, by decide +kernel⟩, List.mem_of_getElem? (i := 232) (by decide +kernel), List.mem_of_getElem? (i := 932) (by decide +kernel), List.mem_of_getElem? (i := 933) (by decide +kernel)⟩
theorem lw_p17 : lw_okq (⟨"RopesAtDawn", "placeOfWrong", "()I"⟩, 9) := ⟨⟨by decide +kernel, by decide +kernel⟩, List.mem_of_getElem? (i := 22) (by decide +kernel), List.mem_of_getElem? (i := 1002) (by decide +kernel), List.mem_of_getElem? (i := 1003) (by decide +kernel)⟩
theorem lw_p18 : lw_okq (⟨"RopesAtDawnModel", "finding", "(I)I"⟩, 28) := ⟨⟨by decide +kernel, by decide +kernel⟩, List.mem_of_getElem? (i := 1014) (by decide +kernel), List.mem_of_getElem? (i := 1120) (by decide +kernel), List.mem_of_getElem? (i := 1121) (by decide +kernel)⟩
theorem lw_p19 : lw_okq (⟨"RopesAtDawnModel", "comes", "(IIII)V"⟩, 28) := ⟨⟨by decide +kernel, by decide +kernel⟩, List.mem_of_getElem? (i := 1014) (by decide +kernel), List.mem_of_getElem? (i := 1126) (by decide +kernel), List.mem_of_getElem? (i := 1127) (by decide +kernel)⟩
theorem lw_p20 : lw_okq (⟨"RopesAtDawnModel", "is", "(II)Z"⟩, 28) := ⟨⟨by decide +kernel, by decide +kernel⟩, List.mem_of_getElem? (i := 1014) (by decide +kernel), List.mem_of_getElem? (i := 1134) (by decide +kernel), List.mem_of_getElem? (i := 1135) (by decide +kernel)⟩
theorem lw_p21 : lw_okq (⟨"RopesAtDawnModel", "of", "(II)I"⟩, 28) := ⟨⟨by decide +kernel, by decide +kernel⟩, List.mem_of_getElem? (i := 1014) (by decide +kernel), List.mem_of_getElem? (i := 1138) (by decide +kernel), List.mem_of_getElem? (i := 1139) (by decide +kernel)⟩
theorem lw_p22 : lw_okq (⟨"RopesAtDawnModel", "ropeOf", "(I)I"⟩, 28) := ⟨⟨by decide +kernel, by decide +kernel⟩, List.mem_of_getElem? (i := 1014) (by decide +kernel), List.mem_of_getElem? (i := 1142) (by decide +kernel), List.mem_of_getElem? (i := 1143) (by decide +kernel)⟩
theorem lw_p23 : lw_okq (⟨"RopesAtDawnModel", "many", "(I)I"⟩, 28) := ⟨⟨by decide +kernel, by decide +kernel⟩, List.mem_of_getElem? (i := 1014) (by decide +kernel), List.mem_of_getElem? (i := 1146) (by decide +kernel), List.mem_of_getElem? (i := 1147) (by decide +kernel)⟩
theorem lw_p24 : lw_okq (⟨"RopesAtDawnModel", "rope", "(II)I"⟩, 28) := ⟨⟨by decide +kernel, by decide +kernel⟩, List.mem_of_getElem? (i := 1014) (by decide +kernel), List.mem_of_getElem? (i := 1150) (by decide +kernel), List.mem_of_getElem? (i := 1151) (by decide +kernel)⟩
theorem lw_p25 : lw_okq (⟨"RopesAtDawnModel", "who", "(II)I"⟩, 28) := ⟨⟨by decide +kernel, by decide +kernel⟩, List.mem_of_getElem? (i := 1014) (by decide +kernel), List.mem_of_getElem? (i := 1154) (by decide +kernel), List.mem_of_getElem? (i := 1155) (by decide +kernel)⟩
theorem lw_p26 : lw_okq (⟨"RopesAtDawnModel", "placeOf", "(I)I"⟩, 28) := ⟨⟨by decide +kernel, by decide +kernel⟩, List.mem_of_getElem? (i := 1014) (by decide +kernel), List.mem_of_getElem? (i := 1158) (by decide +kernel), List.mem_of_getElem? (i := 1159) (by decide +kernel)⟩
theorem lw_p27 : lw_okq (⟨"RopesAtDawnModel", "ofPieceAt", "(II)I"⟩, 28) := ⟨⟨by decide +kernel, by decide +kernel⟩, List.mem_of_getElem? (i := 1014) (by decide +kernel), List.mem_of_getElem? (i := 1178) (by decide +kernel), List.mem_of_getElem? (i := 1179) (by decide +kernel)⟩
theorem lw_p28 : lw_okq (⟨"RopesAtDawnModel", "become", "(II)I"⟩, 28) := ⟨⟨by decide +kernel, by decide +kernel⟩, List.mem_of_getElem? (i := 1014) (by decide +kernel), List.mem_of_getElem? (i := 1186) (by decide +kernel), List.mem_of_getElem? (i := 1187) (by decide +kernel)⟩
theorem lw_p29 : lw_okq (⟨"RopesAtDawnModel", "ties", "(III)V"⟩, 28) := ⟨⟨by decide +kernel, by decide +kernel⟩, List.mem_of_getElem? (i := 1014) (by decide +kernel), List.mem_of_getElem? (i := 1202) (by decide +kernel), List.mem_of_getElem? (i := 1203) (by decide +kernel)⟩
theorem lw_p30 : lw_okq (⟨"RopesAtDawnModel", "seats", "(III)V"⟩, 28) := ⟨⟨by decide +kernel, by decide +kernel⟩, List.mem_of_getElem? (i := 1014) (by decide +kernel), List.mem_of_getElem? (i := 1206) (by decide +kernel), List.mem_of_getElem? (i := 1207) (by decide +kernel)⟩
theorem lw_p31 : lw_okq (⟨"RopesAtDawnModel", "unties", "(I)V"⟩, 28) := ⟨⟨by decide +kernel, by decide +kernel⟩, List.mem_of_getElem? (i := 1014) (by decide +kernel), List.mem_of_getElem? (i := 1214) (by decide +kernel), List.mem_of_getElem? (i := 1215) (by decide +kernel)⟩
def lw_privs_2 : List (MethodName × Nat) := [(⟨"RopesAtDawn$Voices", "say", "(IIII)I"⟩, 4), (⟨"RopesAtDawn", "placeOfWrong", "()I"⟩, 9), (⟨"RopesAtDawnModel", "finding", "(I)I"⟩, 28), (⟨"RopesAtDawnModel", "comes", "(IIII)V"⟩, 28), (⟨"RopesAtDawnModel", "is", "(II)Z"⟩, 28), (⟨"RopesAtDawnModel", "of", "(II)I"⟩, 28), (⟨"RopesAtDawnModel", "ropeOf", "(I)I"⟩, 28), (⟨"RopesAtDawnModel", "many", "(I)I"⟩, 28), (⟨"RopesAtDawnModel", "rope", "(II)I"⟩, 28), (⟨"RopesAtDawnModel", "who", "(II)I"⟩, 28), (⟨"RopesAtDawnModel", "placeOf", "(I)I"⟩, 28), (⟨"RopesAtDawnModel", "ofPieceAt", "(II)I"⟩, 28), (⟨"RopesAtDawnModel", "become", "(II)I"⟩, 28), (⟨"RopesAtDawnModel", "ties", "(III)V"⟩, 28), (⟨"RopesAtDawnModel", "seats", "(III)V"⟩, 28), (⟨"RopesAtDawnModel", "unties", "(I)V"⟩, 28)]
theorem lw_r2 : ∀ q ∈ lw_privs_2, lw_okq q := List.forall_mem_cons.mpr ⟨lw_p16, List.forall_mem_cons.mpr ⟨lw_p17, List.forall_mem_cons.mpr ⟨lw_p18, List.forall_mem_cons.mpr ⟨lw_p19, List.forall_mem_cons.mpr ⟨lw_p20, List.forall_mem_cons.mpr ⟨lw_p21, List.forall_mem_cons.mpr ⟨lw_p22, List.forall_mem_cons.mpr ⟨lw_p23, List.forall_mem_cons.mpr ⟨lw_p24, List.forall_mem_cons.mpr ⟨lw_p25, List.forall_mem_cons.mpr ⟨lw_p26, List.forall_mem_cons.mpr ⟨lw_p27, List.forall_mem_cons.mpr ⟨lw_p28, List.forall_mem_cons.mpr ⟨lw_p29, List.forall_mem_cons.mpr ⟨lw_p30, List.forall_mem_cons.mpr ⟨lw_p31, fun _ h => absurd h List.not_mem_nil⟩⟩⟩⟩⟩⟩⟩⟩⟩⟩⟩⟩⟩⟩⟩⟩
theorem lw_p32 : lw_okq (⟨"RopesAtDawnModel", "inLine", "(I)I"⟩, 28) := ⟨⟨by decide +kernel, by decide +kernel⟩, List.mem_of_getElem? (i := 1014) (by decide +kernel), List.mem_of_getElem? (i := 1222) (by decide +kernel), List.mem_of_getElem? (i := 1223) (by decide +kernel)⟩
theorem lw_p33 : lw_okq (⟨"RopesAtDawnModel", "holdOf", "(II)I"⟩, 28) := ⟨⟨by decide +kernel, by decide +kernel⟩, List.mem_of_getElem? (i := 1014) (by decide +kernel), List.mem_of_getElem? (i := 1246) (by decide +kernel), List.mem_of_getElem? (i := 1247) (by decide +kernel)⟩
theorem lw_p34 : lw_okq (⟨"RopesAtDawnModel", "gripOf", "(III)I"⟩, 28) := ⟨⟨by decide +kernel, by decide +kernel⟩, List.mem_of_getElem? (i := 1014) (by decide +kernel), List.mem_of_getElem? (i := 1253) (by decide +kernel), List.mem_of_getElem? (i := 1254) (by decide +kernel)⟩
theorem lw_p35 : lw_okq (⟨"RopesAtDawnModel", "place", "(II)I"⟩, 28) := ⟨⟨by decide +kernel, by decide +kernel⟩, List.mem_of_getElem? (i := 1014) (by decide +kernel), List.mem_of_getElem? (i := 1257) (by decide +kernel), List.mem_of_getElem? (i := 1258) (by decide +kernel)⟩
theorem lw_p36 : lw_okq (⟨"RopesAtDawnModel", "isLast", "(II)Z"⟩, 28) := ⟨⟨by decide +kernel, by decide +kernel⟩, List.mem_of_getElem? (i := 1014) (by decide +kernel), List.mem_of_getElem? (i := 1262) (by decide +kernel), List.mem_of_getElem? (i := 1263) (by decide +kernel)⟩
theorem lw_p37 : lw_okq (⟨"RopesAtDawnModel", "isHeld", "(III)Z"⟩, 28) := ⟨⟨by decide +kernel, by decide +kernel⟩, List.mem_of_getElem? (i := 1014) (by decide +kernel), List.mem_of_getElem? (i := 1271) (by decide +kernel), List.mem_of_getElem? (i := 1272) (by decide +kernel)⟩
theorem lw_p38 : lw_okq (⟨"RopesAtDawnModel", "costOf", "(III)I"⟩, 28) := ⟨⟨by decide +kernel, by decide +kernel⟩, List.mem_of_getElem? (i := 1014) (by decide +kernel), List.mem_of_getElem? (i := 1279) (by decide +kernel), List.mem_of_getElem? (i := 1280) (by decide +kernel)⟩
theorem lw_p39 : lw_okq (⟨"RopesAtDawnModel", "given", "(IIIIII)I"⟩, 28) := ⟨⟨by decide +kernel, by decide +kernel⟩, List.mem_of_getElem? (i := 1014) (by decide +kernel), List.mem_of_getElem? (i := 1287) (by decide +kernel), List.mem_of_getElem? (i := 1288) (by decide +kernel)⟩
theorem lw_p40 : lw_okq (⟨"RopesAtDawnModel", "worked", "(I)I"⟩, 28) := ⟨⟨by decide +kernel, by decide +kernel⟩, List.mem_of_getElem? (i := 1014) (by decide +kernel), List.mem_of_getElem? (i := 1291) (by decide +kernel), List.mem_of_getElem? (i := 1292) (by decide +kernel)⟩
theorem lw_p41 : lw_okq (⟨"RopesAtDawnModel", "either", "()V"⟩, 28) := ⟨⟨by decide +kernel, by decide +kernel⟩, List.mem_of_getElem? (i := 1014) (by decide +kernel), List.mem_of_getElem? (i := 1308) (by decide +kernel), List.mem_of_getElem? (i := 1309) (by decide +kernel)⟩
theorem lw_p42 : lw_okq (⟨"RopesAtDawnModel", "both", "()V"⟩, 28) := ⟨⟨by decide +kernel, by decide +kernel⟩, List.mem_of_getElem? (i := 1014) (by decide +kernel), List.mem_of_getElem? (i := 1312) (by decide +kernel), List.mem_of_getElem? (i := 1313) (by decide +kernel)⟩
theorem lw_p43 : lw_okq (⟨"RopesAtDawnModel", "compared", "()V"⟩, 28) := ⟨⟨by decide +kernel, by decide +kernel⟩, List.mem_of_getElem? (i := 1014) (by decide +kernel), List.mem_of_getElem? (i := 1316) (by decide +kernel), List.mem_of_getElem? (i := 1317) (by decide +kernel)⟩
theorem lw_p44 : lw_okq (⟨"RopesAtDawnModel", "sum", "()V"⟩, 28) := ⟨⟨by decide +kernel, by decide +kernel⟩, List.mem_of_getElem? (i := 1014) (by decide +kernel), List.mem_of_getElem? (i := 1320) (by decide +kernel), List.mem_of_getElem? (i := 1321) (by decide +kernel)⟩
theorem lw_p45 : lw_okq (⟨"RopesAtDawnModel", "product", "()V"⟩, 28) := ⟨⟨by decide +kernel, by decide +kernel⟩, List.mem_of_getElem? (i := 1014) (by decide +kernel), List.mem_of_getElem? (i := 1324) (by decide +kernel), List.mem_of_getElem? (i := 1325) (by decide +kernel)⟩
theorem lw_p46 : lw_okq (⟨"RopesAtDawnModel", "one", "()V"⟩, 28) := ⟨⟨by decide +kernel, by decide +kernel⟩, List.mem_of_getElem? (i := 1014) (by decide +kernel), List.mem_of_getElem? (i := 1328) (by decide +kernel), List.mem_of_getElem? (i := 1329) (by decide +kernel)⟩
theorem lw_p47 : lw_okq (⟨"RopesAtDawnModel", "here", "()I"⟩, 28) := ⟨⟨by decide +kernel, by decide +kernel⟩, List.mem_of_getElem? (i := 1014) (by decide +kernel), List.mem_of_getElem? (i := 1332) (by decide +kernel), List.mem_of_getElem? (i := 1333) (by decide +kernel)⟩
def lw_privs_3 : List (MethodName × Nat) := [(⟨"RopesAtDawnModel", "inLine", "(I)I"⟩, 28), (⟨"RopesAtDawnModel", "holdOf", "(II)I"⟩, 28), (⟨"RopesAtDawnModel", "gripOf", "(III)I"⟩, 28), (⟨"RopesAtDawnModel", "place", "(II)I"⟩, 28), (⟨"RopesAtDawnModel", "isLast", "(II)Z"⟩, 28), (⟨"RopesAtDawnModel", "isHeld", "(III)Z"⟩, 28), (⟨"RopesAtDawnModel", "costOf", "(III)I"⟩, 28), (⟨"RopesAtDawnModel", "given", "(IIIIII)I"⟩, 28), (⟨"RopesAtDawnModel", "worked", "(I)I"⟩, 28), (⟨"RopesAtDawnModel", "either", "()V"⟩, 28), (⟨"RopesAtDawnModel", "both", "()V"⟩, 28), (⟨"RopesAtDawnModel", "compared", "()V"⟩, 28), (⟨"RopesAtDawnModel", "sum", "()V"⟩, 28), (⟨"RopesAtDawnModel", "product", "()V"⟩, 28), (⟨"RopesAtDawnModel", "one", "()V"⟩, 28), (⟨"RopesAtDawnModel", "here", "()I"⟩, 28)]
theorem lw_r3 : ∀ q ∈ lw_privs_3, lw_okq q := List.forall_mem_cons.mpr ⟨lw_p32, List.forall_mem_cons.mpr ⟨lw_p33, List.forall_mem_cons.mpr ⟨lw_p34, List.forall_mem_cons.mpr ⟨lw_p35, List.forall_mem_cons.mpr ⟨lw_p36, List.forall_mem_cons.mpr ⟨lw_p37, List.forall_mem_cons.mpr ⟨lw_p38, List.forall_mem_cons.mpr ⟨lw_p39, List.forall_mem_cons.mpr ⟨lw_p40, List.forall_mem_cons.mpr ⟨lw_p41, List.forall_mem_cons.mpr ⟨lw_p42, List.forall_mem_cons.mpr ⟨lw_p43, List.forall_mem_cons.mpr ⟨lw_p44, List.forall_mem_cons.mpr ⟨lw_p45, List.forall_mem_cons.mpr ⟨lw_p46, List.forall_mem_cons.mpr ⟨lw_p47, fun _ h => absurd h List.not_mem_nil⟩⟩⟩⟩⟩⟩⟩⟩⟩⟩⟩⟩⟩⟩⟩⟩
theorem lw_p48 : lw_okq (⟨"RopesAtDawnModel", "codes", "(I)V"⟩, 28) := ⟨⟨by decide +kernel, by decide +kernel⟩, List.mem_of_getElem? (i := 1014) (by decide +kernel), List.mem_of_getElem? (i := 1336) (by decide +kernel), List.mem_of_getElem? (i := 1337) (by decide +kernel)⟩
theorem lw_p49 : lw_okq (⟨"RopesAtDawnModel", "takes", "(I)Z"⟩, 28) := ⟨⟨by decide +kernel, by decide +kernel⟩, List.mem_of_getElem? (i := 1014) (by decide +kernel), List.mem_of_getElem? (i := 1340) (by decide +kernel), List.mem_of_getElem? (i := 1341) (by decide +kernel)⟩
theorem lw_p50 : lw_okq (⟨"RopesAtDawnModel", "nameOf", "(I)I"⟩, 28) := ⟨⟨by decide +kernel, by decide +kernel⟩, List.mem_of_getElem? (i := 1014) (by decide +kernel), List.mem_of_getElem? (i := 1344) (by decide +kernel), List.mem_of_getElem? (i := 1345) (by decide +kernel)⟩
theorem lw_p51 : lw_okq (⟨"RopesAtDawnModel", "cross", "()V"⟩, 28) := ⟨⟨by decide +kernel, by decide +kernel⟩, List.mem_of_getElem? (i := 1014) (by decide +kernel), List.mem_of_getElem? (i := 1385) (by decide +kernel), List.mem_of_getElem? (i := 1386) (by decide +kernel)⟩
theorem lw_p52 : lw_okq (⟨"RopesAtDawnModel", "paceOf", "(I)I"⟩, 28) := ⟨⟨by decide +kernel, by decide +kernel⟩, List.mem_of_getElem? (i := 1014) (by decide +kernel), List.mem_of_getElem? (i := 1389) (by decide +kernel), List.mem_of_getElem? (i := 1390) (by decide +kernel)⟩
theorem lw_p53 : lw_okq (⟨"RopesAtDawnModel", "isInLine", "(I)Z"⟩, 28) := ⟨⟨by decide +kernel, by decide +kernel⟩, List.mem_of_getElem? (i := 1014) (by decide +kernel), List.mem_of_getElem? (i := 1397) (by decide +kernel), List.mem_of_getElem? (i := 1398) (by decide +kernel)⟩
theorem lw_p54 : lw_okq (⟨"RopesAtDawnModel", "riskOf", "(III)I"⟩, 28) := ⟨⟨by decide +kernel, by decide +kernel⟩, List.mem_of_getElem? (i := 1014) (by decide +kernel), List.mem_of_getElem? (i := 1401) (by decide +kernel), List.mem_of_getElem? (i := 1402) (by decide +kernel)⟩
theorem lw_p55 : lw_okq (⟨"RopesAtDawnModel", "tollOf", "()I"⟩, 28) := ⟨⟨by decide +kernel, by decide +kernel⟩, List.mem_of_getElem? (i := 1014) (by decide +kernel), List.mem_of_getElem? (i := 1413) (by decide +kernel), List.mem_of_getElem? (i := 1414) (by decide +kernel)⟩
theorem lw_p56 : lw_okq (⟨"RopesAtDawnModel", "findOrder", "(I)V"⟩, 28) := ⟨⟨by decide +kernel, by decide +kernel⟩, List.mem_of_getElem? (i := 1014) (by decide +kernel), List.mem_of_getElem? (i := 1421) (by decide +kernel), List.mem_of_getElem? (i := 1422) (by decide +kernel)⟩
theorem lw_p57 : lw_okq (⟨"RopesAtDawnModel", "spaceOf", "(I)I"⟩, 28) := ⟨⟨by decide +kernel, by decide +kernel⟩, List.mem_of_getElem? (i := 1014) (by decide +kernel), List.mem_of_getElem? (i := 1441) (by decide +kernel), List.mem_of_getElem? (i := 1442) (by decide +kernel)⟩
theorem lw_p58 : lw_okq (⟨"RopesAtDawnModel", "back", "(I)I"⟩, 28) := ⟨⟨by decide +kernel, by decide +kernel⟩, List.mem_of_getElem? (i := 1014) (by decide +kernel), List.mem_of_getElem? (i := 1445) (by decide +kernel), List.mem_of_getElem? (i := 1446) (by decide +kernel)⟩
theorem lw_p59 : lw_okq (⟨"RopesAtDawnModel", "findLine", "()V"⟩, 28) := ⟨⟨by decide +kernel, by decide +kernel⟩, List.mem_of_getElem? (i := 1014) (by decide +kernel), List.mem_of_getElem? (i := 1453) (by decide +kernel), List.mem_of_getElem? (i := 1454) (by decide +kernel)⟩
theorem lw_p60 : lw_okq (⟨"RopesAtDawnModel", "parted", "(II)Z"⟩, 28) := ⟨⟨by decide +kernel, by decide +kernel⟩, List.mem_of_getElem? (i := 1014) (by decide +kernel), List.mem_of_getElem? (i := 1461) (by decide +kernel), List.mem_of_getElem? (i := 1462) (by decide +kernel)⟩
theorem lw_p61 : lw_okq (⟨"RopesAtDawnModel", "lostBy", "()I"⟩, 28) := ⟨⟨by decide +kernel, by decide +kernel⟩, List.mem_of_getElem? (i := 1014) (by decide +kernel), List.mem_of_getElem? (i := 1489) (by decide +kernel), List.mem_of_getElem? (i := 1490) (by decide +kernel)⟩
theorem lw_p62 : lw_okq (⟨"RopesAtDawnModel", "drawn", "(I)I"⟩, 28) := ⟨⟨by decide +kernel, by decide +kernel⟩, List.mem_of_getElem? (i := 1014) (by decide +kernel), List.mem_of_getElem? (i := 1493) (by decide +kernel), List.mem_of_getElem? (i := 1494) (by decide +kernel)⟩
theorem lw_p63 : lw_okq (⟨"RopesAtDawnModel", "loses", "(II)V"⟩, 28) := ⟨⟨by decide +kernel, by decide +kernel⟩, List.mem_of_getElem? (i := 1014) (by decide +kernel), List.mem_of_getElem? (i := 1498) (by decide +kernel), List.mem_of_getElem? (i := 1499) (by decide +kernel)⟩
def lw_privs_4 : List (MethodName × Nat) := [(⟨"RopesAtDawnModel", "codes", "(I)V"⟩, 28), (⟨"RopesAtDawnModel", "takes", "(I)Z"⟩, 28), (⟨"RopesAtDawnModel", "nameOf", "(I)I"⟩, 28), (⟨"RopesAtDawnModel", "cross", "()V"⟩, 28), (⟨"RopesAtDawnModel", "paceOf", "(I)I"⟩, 28), (⟨"RopesAtDawnModel", "isInLine", "(I)Z"⟩, 28), (⟨"RopesAtDawnModel", "riskOf", "(III)I"⟩, 28), (⟨"RopesAtDawnModel", "tollOf", "()I"⟩, 28), (⟨"RopesAtDawnModel", "findOrder", "(I)V"⟩, 28), (⟨"RopesAtDawnModel", "spaceOf", "(I)I"⟩, 28), (⟨"RopesAtDawnModel", "back", "(I)I"⟩, 28), (⟨"RopesAtDawnModel", "findLine", "()V"⟩, 28), (⟨"RopesAtDawnModel", "parted", "(II)Z"⟩, 28), (⟨"RopesAtDawnModel", "lostBy", "()I"⟩, 28), (⟨"RopesAtDawnModel", "drawn", "(I)I"⟩, 28), (⟨"RopesAtDawnModel", "loses", "(II)V"⟩, 28)]
theorem lw_r4 : ∀ q ∈ lw_privs_4, lw_okq q := List.forall_mem_cons.mpr ⟨lw_p48, List.forall_mem_cons.mpr ⟨lw_p49, List.forall_mem_cons.mpr ⟨lw_p50, List.forall_mem_cons.mpr ⟨lw_p51, List.forall_mem_cons.mpr ⟨lw_p52, List.forall_mem_cons.mpr ⟨lw_p53, List.forall_mem_cons.mpr ⟨lw_p54, List.forall_mem_cons.mpr ⟨lw_p55, List.forall_mem_cons.mpr ⟨lw_p56, List.forall_mem_cons.mpr ⟨lw_p57, List.forall_mem_cons.mpr ⟨lw_p58, List.forall_mem_cons.mpr ⟨lw_p59, List.forall_mem_cons.mpr ⟨lw_p60, List.forall_mem_cons.mpr ⟨lw_p61, List.forall_mem_cons.mpr ⟨lw_p62, List.forall_mem_cons.mpr ⟨lw_p63, fun _ h => absurd h List.not_mem_nil⟩⟩⟩⟩⟩⟩⟩⟩⟩⟩⟩⟩⟩⟩⟩⟩
theorem lw_p64 : lw_okq (⟨"RopesAtDawnModel", "voiced", "(II)I"⟩, 28) := ⟨⟨by decide +kernel, by decide +kernel⟩, List.mem_of_getElem? (i := 1014) (by decide +kernel), List.mem_of_getElem? (i := 1514) (by decide +kernel), List.mem_of_getElem? (i := 1515) (by decide +kernel)⟩
theorem lw_p65 : lw_okq (⟨"RopesAtDawnModel", "bodyFrom", "(III)I"⟩, 28) := ⟨⟨by decide +kernel, by decide +kernel⟩, List.mem_of_getElem? (i := 1014) (by decide +kernel), List.mem_of_getElem? (i := 1518) (by decide +kernel), List.mem_of_getElem? (i := 1519) (by decide +kernel)⟩
theorem lw_p66 : lw_okq (⟨"RopesAtDawnModel", "body", "(III)I"⟩, 28) := ⟨⟨by decide +kernel, by decide +kernel⟩, List.mem_of_getElem? (i := 1014) (by decide +kernel), List.mem_of_getElem? (i := 1525) (by decide +kernel), List.mem_of_getElem? (i := 1526) (by decide +kernel)⟩
theorem lw_p67 : lw_okq (⟨"RopesAtDawnModel", "began", "(I)V"⟩, 28) := ⟨⟨by decide +kernel, by decide +kernel⟩, List.mem_of_getElem? (i := 1014) (by decide +kernel), List.mem_of_getElem? (i := 1529) (by decide +kernel), List.mem_of_getElem? (i := 1530) (by decide +kernel)⟩
def lw_privs_5 : List (MethodName × Nat) := [(⟨"RopesAtDawnModel", "voiced", "(II)I"⟩, 28), (⟨"RopesAtDawnModel", "bodyFrom", "(III)I"⟩, 28), (⟨"RopesAtDawnModel", "body", "(III)I"⟩, 28), (⟨"RopesAtDawnModel", "began", "(I)V"⟩, 28)]
theorem lw_r5 : ∀ q ∈ lw_privs_5, lw_okq q := List.forall_mem_cons.mpr ⟨lw_p64, List.forall_mem_cons.mpr ⟨lw_p65, List.forall_mem_cons.mpr ⟨lw_p66, List.forall_mem_cons.mpr ⟨lw_p67, fun _ h => absurd h List.not_mem_nil⟩⟩⟩⟩
def lw_privs : List (MethodName × Nat) := lw_privs_1 ++ (lw_privs_2 ++ (lw_privs_3 ++ (lw_privs_4 ++ (lw_privs_5))))
def lw_tbl : List Cond := k2_sels lw_privs ++ tables_1
theorem lw_privs_ok : ∀ q ∈ lw_privs, lw_okq q := by
  show ∀ q ∈ lw_privs_1 ++ (lw_privs_2 ++ (lw_privs_3 ++ (lw_privs_4 ++ (lw_privs_5)))), lw_okq q
  exact List.forall_mem_append.mpr ⟨lw_r1, List.forall_mem_append.mpr ⟨lw_r2, List.forall_mem_append.mpr ⟨lw_r3, List.forall_mem_append.mpr ⟨lw_r4, lw_r5⟩⟩⟩⟩

def RX0 : String := "RopesAtDawn$Chooser"
def TX0 : u_T := fun k => match k with
  | 0 => ("RopesAtDawn$Chooser", "row", "LRopesAtDawn$Row;", true)
  | 1 => ("RopesAtDawn$Chooser", "choice", "I", false)
  | 2 => ("RopesAtDawn$Chooser", "least", "I", false)
  | 3 => ("RopesAtDawn$Chooser", "trial", "LRopesAtDawn$Dawn;", true)
  | _ => ("RopesAtDawn$Chooser", "crossing", "LRopesAtDawn$Crossing;", true)
def tyX0 : Nat → FieldType := fun k => match k with
  | 0 => .object "RopesAtDawn$Row"
  | 1 => .int
  | 2 => .int
  | 3 => .object "RopesAtDawn$Dawn"
  | _ => .object "RopesAtDawn$Crossing"
abbrev wsX00 : List Cond := u_ws RX0 TX0 5
theorem nmX0 : ∀ a, a < 5 → ∀ b, b < 5 → a ≠ b → (TX0 a).2.1 ≠ (TX0 b).2.1 := by decide +kernel
theorem tyX0_ok : ∀ k, k < 5 → parseFieldDescriptor (TX0 k).2.2.1 = some (tyX0 k) := by decide +kernel

def RX1 : String := "RopesAtDawn$Crossing"
def TX1 : u_T := fun k => match k with
  | 0 => ("RopesAtDawn$Crossing", "reckoner", "LRopesAtDawn$Reckoner;", true)
  | 1 => ("RopesAtDawn$Crossing", "comes", "[I", true)
  | 2 => ("RopesAtDawn$Crossing", "offs", "[I", true)
  | _ => ("RopesAtDawn$Crossing", "over", "I", false)
def tyX1 : Nat → FieldType := fun k => match k with
  | 0 => .object "RopesAtDawn$Reckoner"
  | 1 => .array .int
  | 2 => .array .int
  | _ => .int
abbrev wsX10 : List Cond := u_ws RX1 TX1 4
theorem nmX1 : ∀ a, a < 4 → ∀ b, b < 4 → a ≠ b → (TX1 a).2.1 ≠ (TX1 b).2.1 := by decide +kernel
theorem tyX1_ok : ∀ k, k < 4 → parseFieldDescriptor (TX1 k).2.2.1 = some (tyX1 k) := by decide +kernel

def RX2 : String := "RopesAtDawn$Dawn"
def TX2 : u_T := fun k => match k with
  | 0 => ("RopesAtDawn$Dawn", "people", "LRopesAtDawn$Fours;", true)
  | 1 => ("RopesAtDawn$Dawn", "pieces", "LRopesAtDawn$Fours;", true)
  | 2 => ("RopesAtDawn$Dawn", "ropes", "LRopesAtDawn$Fours;", true)
  | 3 => ("RopesAtDawn$Dawn", "line", "LRopesAtDawn$Row;", true)
  | 4 => ("RopesAtDawn$Dawn", "tape", "LRopesAtDawn$Row;", true)
  | 5 => ("RopesAtDawn$Dawn", "waiting", "LRopesAtDawn$Row;", true)
  | 6 => ("RopesAtDawn$Dawn", "rows", "[LRopesAtDawn$Row;", true)
  | 7 => ("RopesAtDawn$Dawn", "nobody", "LRopesAtDawn$Row;", true)
  | 8 => ("RopesAtDawn$Dawn", "riskText", "LRopesAtDawn$Row;", true)
  | 9 => ("RopesAtDawn$Dawn", "haulText", "LRopesAtDawn$Row;", true)
  | 10 => ("RopesAtDawn$Dawn", "start", "I", false)
  | _ => ("RopesAtDawn$Dawn", "z", "I", false)
def tyX2 : Nat → FieldType := fun k => match k with
  | 0 => .object "RopesAtDawn$Fours"
  | 1 => .object "RopesAtDawn$Fours"
  | 2 => .object "RopesAtDawn$Fours"
  | 3 => .object "RopesAtDawn$Row"
  | 4 => .object "RopesAtDawn$Row"
  | 5 => .object "RopesAtDawn$Row"
  | 6 => .array (.object "RopesAtDawn$Row")
  | 7 => .object "RopesAtDawn$Row"
  | 8 => .object "RopesAtDawn$Row"
  | 9 => .object "RopesAtDawn$Row"
  | 10 => .int
  | _ => .int
abbrev wsX20 : List Cond := u_ws RX2 TX2 12
theorem nmX2 : ∀ a, a < 12 → ∀ b, b < 12 → a ≠ b → (TX2 a).2.1 ≠ (TX2 b).2.1 := by decide +kernel
theorem tyX2_ok : ∀ k, k < 12 → parseFieldDescriptor (TX2 k).2.2.1 = some (tyX2 k) := by decide +kernel

def RX3 : String := "RopesAtDawn$Fours"
def TX3 : u_T := fun k => match k with
  | 0 => ("RopesAtDawn$Fours", "least", "[I", true)
  | 1 => ("RopesAtDawn$Fours", "most", "[I", true)
  | 2 => ("RopesAtDawn$Fours", "cells", "[I", true)
  | _ => ("RopesAtDawn$Fours", "rows", "I", false)
def tyX3 : Nat → FieldType := fun k => match k with
  | 0 => .array .int
  | 1 => .array .int
  | 2 => .array .int
  | _ => .int
abbrev wsX30 : List Cond := u_ws RX3 TX3 4
theorem nmX3 : ∀ a, a < 4 → ∀ b, b < 4 → a ≠ b → (TX3 a).2.1 ≠ (TX3 b).2.1 := by decide +kernel
theorem tyX3_ok : ∀ k, k < 4 → parseFieldDescriptor (TX3 k).2.2.1 = some (tyX3 k) := by decide +kernel

def RX4 : String := "RopesAtDawn$Reader"
def TX4 : u_T := fun k => match k with
  | 0 => ("RopesAtDawn$Reader", "codes", "LRopesAtDawn$Row;", true)
  | 1 => ("RopesAtDawn$Reader", "tape", "LRopesAtDawn$Row;", false)
  | 2 => ("RopesAtDawn$Reader", "names", "Ljava/lang/String;", false)
  | 3 => ("RopesAtDawn$Reader", "place", "I", false)
  | _ => ("RopesAtDawn$Reader", "wrong", "Z", false)
def tyX4 : Nat → FieldType := fun k => match k with
  | 0 => .object "RopesAtDawn$Row"
  | 1 => .object "RopesAtDawn$Row"
  | 2 => .object "java/lang/String"
  | 3 => .int
  | _ => .boolean
abbrev wsX40 : List Cond := u_ws RX4 TX4 5
theorem nmX4 : ∀ a, a < 5 → ∀ b, b < 5 → a ≠ b → (TX4 a).2.1 ≠ (TX4 b).2.1 := by decide +kernel
theorem tyX4_ok : ∀ k, k < 5 → parseFieldDescriptor (TX4 k).2.2.1 = some (tyX4 k) := by decide +kernel

def RX5 : String := "RopesAtDawn$Reckoner"
def TX5 : u_T := fun k => match k with
  | 0 => ("RopesAtDawn$Reckoner", "names", "[I", true)
  | _ => ("RopesAtDawn$Reckoner", "stack", "[I", true)
def tyX5 : Nat → FieldType := fun k => match k with
  | 0 => .array .int
  | _ => .array .int
abbrev wsX50 : List Cond := u_ws RX5 TX5 2
theorem nmX5 : ∀ a, a < 2 → ∀ b, b < 2 → a ≠ b → (TX5 a).2.1 ≠ (TX5 b).2.1 := by decide +kernel
theorem tyX5_ok : ∀ k, k < 2 → parseFieldDescriptor (TX5 k).2.2.1 = some (tyX5 k) := by decide +kernel

def RX6 : String := "RopesAtDawn$Row"
def TX6 : u_T := fun k => match k with
  | 0 => ("RopesAtDawn$Row", "cells", "[I", true)
  | _ => ("RopesAtDawn$Row", "size", "I", false)
def tyX6 : Nat → FieldType := fun k => match k with
  | 0 => .array .int
  | _ => .int
abbrev wsX60 : List Cond := u_ws RX6 TX6 2
theorem nmX6 : ∀ a, a < 2 → ∀ b, b < 2 → a ≠ b → (TX6 a).2.1 ≠ (TX6 b).2.1 := by decide +kernel
theorem tyX6_ok : ∀ k, k < 2 → parseFieldDescriptor (TX6 k).2.2.1 = some (tyX6 k) := by decide +kernel

def RX7 : String := "RopesAtDawn$Sheet"
def TX7 : u_T := fun k => match k with
  | 0 => ("RopesAtDawn$Sheet", "cells", "[I", true)
  | 1 => ("RopesAtDawn$Sheet", "bits", "I", false)
  | _ => ("RopesAtDawn$Sheet", "size", "I", false)
def tyX7 : Nat → FieldType := fun k => match k with
  | 0 => .array .int
  | 1 => .int
  | _ => .int
abbrev wsX70 : List Cond := u_ws RX7 TX7 3
theorem nmX7 : ∀ a, a < 3 → ∀ b, b < 3 → a ≠ b → (TX7 a).2.1 ≠ (TX7 b).2.1 := by decide +kernel
theorem tyX7_ok : ∀ k, k < 3 → parseFieldDescriptor (TX7 k).2.2.1 = some (tyX7 k) := by decide +kernel

def RX8 : String := "RopesAtDawn$Voices"
def TX8 : u_T := fun k => match k with
  | 0 => ("RopesAtDawn$Voices", "trace", "LRopesAtDawn$Row;", true)
  | 1 => ("RopesAtDawn$Voices", "kind", "I", false)
  | 2 => ("RopesAtDawn$Voices", "number", "I", false)
  | _ => ("RopesAtDawn$Voices", "knots", "I", false)
def tyX8 : Nat → FieldType := fun k => match k with
  | 0 => .object "RopesAtDawn$Row"
  | 1 => .int
  | 2 => .int
  | _ => .int
abbrev wsX80 : List Cond := u_ws RX8 TX8 4
theorem nmX8 : ∀ a, a < 4 → ∀ b, b < 4 → a ≠ b → (TX8 a).2.1 ≠ (TX8 b).2.1 := by decide +kernel
theorem tyX8_ok : ∀ k, k < 4 → parseFieldDescriptor (TX8 k).2.2.1 = some (tyX8 k) := by decide +kernel

def RX9 : String := "RopesAtDawn"
def TX9 : u_T := fun k => match k with
  | 0 => ("RopesAtDawn", "now", "LRopesAtDawn$Dawn;", true)
  | 1 => ("RopesAtDawn", "crossing", "LRopesAtDawn$Crossing;", true)
  | 2 => ("RopesAtDawn", "chooser", "LRopesAtDawn$Chooser;", true)
  | 3 => ("RopesAtDawn", "reader", "LRopesAtDawn$Reader;", true)
  | 4 => ("RopesAtDawn", "voices", "LRopesAtDawn$Voices;", true)
  | 5 => ("RopesAtDawn", "sheets", "[LRopesAtDawn$Sheet;", true)
  | 6 => ("RopesAtDawn", "errors", "[I", true)
  | 7 => ("RopesAtDawn", "kept", "LRopesAtDawn$Dawn;", false)
  | _ => ("RopesAtDawn", "images", "I", false)
def tyX9 : Nat → FieldType := fun k => match k with
  | 0 => .object "RopesAtDawn$Dawn"
  | 1 => .object "RopesAtDawn$Crossing"
  | 2 => .object "RopesAtDawn$Chooser"
  | 3 => .object "RopesAtDawn$Reader"
  | 4 => .object "RopesAtDawn$Voices"
  | 5 => .array (.object "RopesAtDawn$Sheet")
  | 6 => .array .int
  | 7 => .object "RopesAtDawn$Dawn"
  | _ => .int
abbrev wsX90 : List Cond := u_ws RX9 TX9 9
theorem nmX9 : ∀ a, a < 9 → ∀ b, b < 9 → a ≠ b → (TX9 a).2.1 ≠ (TX9 b).2.1 := by decide +kernel
theorem tyX9_ok : ∀ k, k < 9 → parseFieldDescriptor (TX9 k).2.2.1 = some (tyX9 k) := by decide +kernel

def RX10 : String := "RopesAtDawnModel"
def TX10 : u_T := fun k => match k with
  | 0 => ("RopesAtDawnModel", "now", "[I", true)
  | 1 => ("RopesAtDawnModel", "kept", "[I", true)
  | 2 => ("RopesAtDawnModel", "aside", "[I", true)
  | 3 => ("RopesAtDawnModel", "images", "I", false)
  | 4 => ("RopesAtDawnModel", "errors", "[I", true)
  | 5 => ("RopesAtDawnModel", "lost", "I", false)
  | 6 => ("RopesAtDawnModel", "NAMED", "[Ljava/lang/String;", true)
  | 7 => ("RopesAtDawnModel", "at", "I", false)
  | 8 => ("RopesAtDawnModel", "open", "I", false)
  | 9 => ("RopesAtDawnModel", "use", "I", false)
  | 10 => ("RopesAtDawnModel", "isWrong", "Z", false)
  | 11 => ("RopesAtDawnModel", "code", "[I", true)
  | 12 => ("RopesAtDawnModel", "coded", "I", false)
  | 13 => ("RopesAtDawnModel", "named", "[I", true)
  | 14 => ("RopesAtDawnModel", "pile", "[I", true)
  | 15 => ("RopesAtDawnModel", "comes", "[I", true)
  | 16 => ("RopesAtDawnModel", "before", "[I", true)
  | 17 => ("RopesAtDawnModel", "over", "I", false)
  | 18 => ("RopesAtDawnModel", "sorted", "[I", true)
  | 19 => ("RopesAtDawnModel", "best", "[I", true)
  | 20 => ("RopesAtDawnModel", "least", "I", false)
  | 21 => ("RopesAtDawnModel", "trace", "[I", true)
  | 22 => ("RopesAtDawnModel", "traced", "I", false)
  | 23 => ("RopesAtDawnModel", "speaker", "I", false)
  | 24 => ("RopesAtDawnModel", "widths", "[I", true)
  | 25 => ("RopesAtDawnModel", "sizes", "[I", true)
  | 26 => ("RopesAtDawnModel", "numbers", "[I", true)
  | _ => ("RopesAtDawnModel", "carried", "[I", true)
def tyX10 : Nat → FieldType := fun k => match k with
  | 0 => .array .int
  | 1 => .array .int
  | 2 => .array .int
  | 3 => .int
  | 4 => .array .int
  | 5 => .int
  | 6 => .array (.object "java/lang/String")
  | 7 => .int
  | 8 => .int
  | 9 => .int
  | 10 => .boolean
  | 11 => .array .int
  | 12 => .int
  | 13 => .array .int
  | 14 => .array .int
  | 15 => .array .int
  | 16 => .array .int
  | 17 => .int
  | 18 => .array .int
  | 19 => .array .int
  | 20 => .int
  | 21 => .array .int
  | 22 => .int
  | 23 => .int
  | 24 => .array .int
  | 25 => .array .int
  | 26 => .array .int
  | _ => .array .int
abbrev wsX100 : List Cond := u_ws RX10 TX10 28
theorem nmX10 : ∀ a, a < 28 → ∀ b, b < 28 → a ≠ b → (TX10 a).2.1 ≠ (TX10 b).2.1 := by decide +kernel
theorem tyX10_ok : ∀ k, k < 28 → parseFieldDescriptor (TX10 k).2.2.1 = some (tyX10 k) := by decide +kernel

theorem wk (i : Nat) {w : Cond} (h : tables_1[i]? = some w) : w ∈ lw_tbl := List.mem_append_right _ (List.mem_of_getElem? h)

theorem inX0 : ∀ w ∈ wsX00, w ∈ lw_tbl := by
  intro w hw
  have h : wsX00 = ([193, 195, 197, 199, 201] : List Nat).filterMap (fun i => tables_1[i]?) := by decide +kernel
  rw [h] at hw
  obtain ⟨i, -, hi⟩ := List.mem_filterMap.mp hw
  exact wk i hi

theorem inX1 : ∀ w ∈ wsX10, w ∈ lw_tbl := by
  intro w hw
  have h : wsX10 = ([164, 166, 168, 170] : List Nat).filterMap (fun i => tables_1[i]?) := by decide +kernel
  rw [h] at hw
  obtain ⟨i, -, hi⟩ := List.mem_filterMap.mp hw
  exact wk i hi

theorem inX2 : ∀ w ∈ wsX20, w ∈ lw_tbl := by
  intro w hw
  have h : wsX20 = ([113, 115, 117, 119, 121, 123, 125, 127, 129, 131, 133, 135] : List Nat).filterMap (fun i => tables_1[i]?) := by decide +kernel
  rw [h] at hw
  obtain ⟨i, -, hi⟩ := List.mem_filterMap.mp hw
  exact wk i hi

theorem inX3 : ∀ w ∈ wsX30, w ∈ lw_tbl := by
  intro w hw
  have h : wsX30 = ([52, 54, 56, 58] : List Nat).filterMap (fun i => tables_1[i]?) := by decide +kernel
  rw [h] at hw
  obtain ⟨i, -, hi⟩ := List.mem_filterMap.mp hw
  exact wk i hi

theorem inX4 : ∀ w ∈ wsX40, w ∈ lw_tbl := by
  intro w hw
  have h : wsX40 = ([219, 221, 223, 225, 227] : List Nat).filterMap (fun i => tables_1[i]?) := by decide +kernel
  rw [h] at hw
  obtain ⟨i, -, hi⟩ := List.mem_filterMap.mp hw
  exact wk i hi

theorem inX5 : ∀ w ∈ wsX50, w ∈ lw_tbl := by
  intro w hw
  have h : wsX50 = ([152, 154] : List Nat).filterMap (fun i => tables_1[i]?) := by decide +kernel
  rw [h] at hw
  obtain ⟨i, -, hi⟩ := List.mem_filterMap.mp hw
  exact wk i hi

theorem inX6 : ∀ w ∈ wsX60, w ∈ lw_tbl := by
  intro w hw
  have h : wsX60 = ([79, 81] : List Nat).filterMap (fun i => tables_1[i]?) := by decide +kernel
  rw [h] at hw
  obtain ⟨i, -, hi⟩ := List.mem_filterMap.mp hw
  exact wk i hi

theorem inX7 : ∀ w ∈ wsX70, w ∈ lw_tbl := by
  intro w hw
  have h : wsX70 = ([264, 266, 268] : List Nat).filterMap (fun i => tables_1[i]?) := by decide +kernel
  rw [h] at hw
  obtain ⟨i, -, hi⟩ := List.mem_filterMap.mp hw
  exact wk i hi

theorem inX8 : ∀ w ∈ wsX80, w ∈ lw_tbl := by
  intro w hw
  have h : wsX80 = ([244, 246, 248, 250] : List Nat).filterMap (fun i => tables_1[i]?) := by decide +kernel
  rw [h] at hw
  obtain ⟨i, -, hi⟩ := List.mem_filterMap.mp hw
  exact wk i hi

theorem inX9 : ∀ w ∈ wsX90, w ∈ lw_tbl := by
  intro w hw
  have h : wsX90 = ([280, 282, 284, 286, 288, 290, 292, 294, 296] : List Nat).filterMap (fun i => tables_1[i]?) := by decide +kernel
  rw [h] at hw
  obtain ⟨i, -, hi⟩ := List.mem_filterMap.mp hw
  exact wk i hi

theorem inX10 : ∀ w ∈ wsX100, w ∈ lw_tbl := by
  intro w hw
  have h : wsX100 = ([1051, 1053, 1055, 1057, 1059, 1061, 1063, 1065, 1067, 1069, 1071, 1073, 1075, 1077, 1079, 1081, 1083, 1085, 1087, 1089, 1091, 1093, 1095, 1097, 1099, 1101, 1103, 1105] : List Nat).filterMap (fun i => tables_1[i]?) := by decide +kernel
  rw [h] at hw
  obtain ⟨i, -, hi⟩ := List.mem_filterMap.mp hw
  exact wk i hi

def cN (ci : Nat) : String := match ci with
  | 0 => RX0
  | 1 => RX1
  | 2 => RX2
  | 3 => RX3
  | 4 => RX4
  | 5 => RX5
  | 6 => RX6
  | 7 => RX7
  | 8 => RX8
  | 9 => RX9
  | _ => RX10

def cT (ci : Nat) : u_T := match ci with
  | 0 => TX0
  | 1 => TX1
  | 2 => TX2
  | 3 => TX3
  | 4 => TX4
  | 5 => TX5
  | 6 => TX6
  | 7 => TX7
  | 8 => TX8
  | 9 => TX9
  | _ => TX10

def fN (ci : Nat) : Nat := match ci with
  | 0 => 5
  | 1 => 4
  | 2 => 12
  | 3 => 4
  | 4 => 5
  | 5 => 2
  | 6 => 2
  | 7 => 3
  | 8 => 4
  | 9 => 9
  | _ => 28

def cTy (ci : Nat) : Nat → FieldType := match ci with
  | 0 => tyX0
  | 1 => tyX1
  | 2 => tyX2
  | 3 => tyX3
  | 4 => tyX4
  | 5 => tyX5
  | 6 => tyX6
  | 7 => tyX7
  | 8 => tyX8
  | 9 => tyX9
  | _ => tyX10

theorem cls_in : ∀ ci, ci < 11 → ∀ w ∈ u_ws (cN ci) (cT ci) (fN ci), w ∈ lw_tbl := by
  intro ci h
  match ci, h with
  | 0, _ => exact inX0
  | 1, _ => exact inX1
  | 2, _ => exact inX2
  | 3, _ => exact inX3
  | 4, _ => exact inX4
  | 5, _ => exact inX5
  | 6, _ => exact inX6
  | 7, _ => exact inX7
  | 8, _ => exact inX8
  | 9, _ => exact inX9
  | 10, _ => exact inX10
  | n + 11, h => exact absurd h (by omega)

theorem cls_nm : ∀ ci, ci < 11 → ∀ a, a < fN ci → ∀ b, b < fN ci → a ≠ b → (cT ci a).2.1 ≠ (cT ci b).2.1 := by
  intro ci h
  match ci, h with
  | 0, _ => exact nmX0
  | 1, _ => exact nmX1
  | 2, _ => exact nmX2
  | 3, _ => exact nmX3
  | 4, _ => exact nmX4
  | 5, _ => exact nmX5
  | 6, _ => exact nmX6
  | 7, _ => exact nmX7
  | 8, _ => exact nmX8
  | 9, _ => exact nmX9
  | 10, _ => exact nmX10
  | n + 11, h => exact absurd h (by omega)

theorem cls_ty : ∀ ci, ci < 11 → ∀ k, k < fN ci → parseFieldDescriptor (cT ci k).2.2.1 = some (cTy ci k) := by
  intro ci h
  match ci, h with
  | 0, _ => exact tyX0_ok
  | 1, _ => exact tyX1_ok
  | 2, _ => exact tyX2_ok
  | 3, _ => exact tyX3_ok
  | 4, _ => exact tyX4_ok
  | 5, _ => exact tyX5_ok
  | 6, _ => exact tyX6_ok
  | 7, _ => exact tyX7_ok
  | 8, _ => exact tyX8_ok
  | 9, _ => exact tyX9_ok
  | 10, _ => exact tyX10_ok
  | n + 11, h => exact absurd h (by omega)
end
section
/-! The layer X: a method's walk over a store of ints (Mu) and a shape (Sh), the machine's own state hidden. -/
abbrev MI : Type := MethodName × ByteArray × Nat × Option FieldType
abbrev Kd : Type := (Nat × Nat) ⊕ ((Nat × Nat × (Nat → Option Nat)) ⊕ (Nat × (Nat → Option Nat)))
abbrev Sh : Type := Nat × (Nat → Option Kd)
abbrev Mu : Type := Nat → Nat → Int32
/-- the start of the law, class numbers, field slots, addresses of static arrays and texts -/
abbrev Gl : Type := State × (Nat → ClassId) × (Nat → Nat → Nat) × (Nat → Nat)
abbrev kI (n : Nat) : Kd := .inl (1, n)
abbrev kC (n : Nat) : Kd := .inl (0, n)
abbrev kB (n : Nat) : Kd := .inl (2, n)
abbrev kT (n : Nat) : Kd := .inl (3, n)
abbrev kR (j n : Nat) (r : Nat → Option Nat) : Kd := .inr (.inl (j, n, r))
abbrev kO (ci : Nat) (r : Nat → Option Nat) : Kd := .inr (.inr (ci, r))
def gb (G : Gl) : Nat := G.1.heap.size
def lw_gd : List Cond := lw_tbl.filter goodWord
theorem gd {w : Cond} (h : w ∈ lw_tbl) (hg : goodWord w = true) : w ∈ lw_gd := List.mem_filter.mpr ⟨h, hg⟩
theorem gd_good : ∀ w ∈ lw_gd, goodWord w = true := fun _ h => (List.mem_filter.mp h).2
/-- which fields hold numbers -/
def fI (ci k : Nat) : Bool := match cTy ci k with
  | .int => true
  | .boolean => true
  | _ => false
def fV (ci : Nat) (r : Nat → Option Nat) (f : Nat → Int32) (k : Nat) : Value := if fI ci k = true then .int (f k) else va_rf (r k)
/-- the elements' class of arrays of references -/
def rC (j : Nat) : String := match j with
  | 0 => "RopesAtDawn$Row"
  | 1 => "RopesAtDawn$Sheet"
  | _ => "java/lang/String"
def cArr (ty : FieldType) (n : Nat) (f : Nat → Int32) (a : Nat) (U : State) (H : Heap) : Prop := ∃ cell : Cell, H[a]? = some cell ∧ U.isArrayOf cell ty ∧ cell.vm ≠ .unknown ∧ n ≤ cell.slots.size ∧ cell.slots.size.toInt32 = Int32.ofNat n ∧ ∀ j : Nat, j < n → cell.slots[j]? = some (.int (f j))
def cellAt (G : Gl) (k : Option Kd) (f : Nat → Int32) (a : Nat) (H : Heap) : Prop := match k with
  | none => True
  | some (.inl (1, n)) => gb G ≤ a ∧ ∃ cA : ClassId, ArrOfT G.1 cA .int ∧ H[a]? = some (arrV cA n (fun j => .int (f j)))
  | some (.inl (0, n)) => a < gb G ∧ cArr .int n f a G.1 H
  | some (.inl (2, n)) => a < gb G ∧ cArr .byte n f a G.1 H
  | some (.inl (3, n)) => va_OF "java/lang/String" "value" "[B" (.ref (G.2.2.2 (n + 20))) a (fun q => gb G ≤ q) G.1 H ∧ va_OF "java/lang/String" "coder" "B" (.int 0) a (fun q => gb G ≤ q) G.1 H ∧ va_O "java/lang/String" a (fun q => gb G ≤ q) G.1 H
  | some (.inl _) => False
  | some (.inr (.inl (j, n, r))) => gb G ≤ a ∧ ∃ cA : ClassId, (ArrOfT G.1 cA (.object (rC j)) ∧ va_RA G.1 cA (.object (rC j))) ∧ H[a]? = some (arrV cA n (fun i => va_rf (r i)))
  | some (.inr (.inr (ci, r))) => gb G ≤ a ∧ t_OB a (G.2.1 ci) (fN ci) (G.2.2.1 ci) H (fV ci r f)
theorem cellAt.kept {G : Gl} {k : Option Kd} {f : Nat → Int32} {a : Nat} {H H1 : Heap} (h : cellAt G k f a H) (hq : H1[a]? = H[a]?) : cellAt G k f a H1 := by
  match k, h with
  | none, _ => trivial
  | some (.inl (0, n)), ⟨h0, ce, h1, h2⟩ => exact ⟨h0, ce, by rw [hq]; exact h1, h2⟩
  | some (.inl (1, n)), ⟨h1, cA, h2, h3⟩ => exact ⟨h1, cA, h2, by rw [hq]; exact h3⟩
  | some (.inl (2, n)), ⟨h0, ce, h1, h2⟩ => exact ⟨h0, ce, by rw [hq]; exact h1, h2⟩
  | some (.inl (3, n)), ⟨⟨c1, k1, i1, f1, e1, a1, a2, a3, a4⟩, ⟨c2, k2, i2, f2, e2, b1, b2, b3, b4⟩, ⟨e3, d1, d2⟩⟩ => exact ⟨⟨c1, k1, i1, f1, e1, a1, a2, by rw [hq]; exact a3, a4⟩, ⟨c2, k2, i2, f2, e2, b1, b2, by rw [hq]; exact b3, b4⟩, ⟨e3, by rw [hq]; exact d1, d2⟩⟩
  | some (.inr (.inl (j, n, r))), ⟨h1, cA, h2, h3⟩ => exact ⟨h1, cA, h2, by rw [hq]; exact h3⟩
  | some (.inr (.inr (ci, r))), ⟨h1, h2⟩ => exact ⟨h1, h2.kept hq⟩
/-- the heap holds the shape and the store; below the law's start it is as it was; what was written is above it -/
def Rp (G : Gl) (S : Sh) (μ : Mu) (H : Heap) (locs : List Loc) : Prop := gb G ≤ H.size ∧ H.size = S.1 ∧ (∀ a : Nat, S.1 ≤ a → S.2 a = none) ∧ (∀ a : Nat, cellAt G (S.2 a) (μ a) a H) ∧ (∀ q : Nat, q < gb G → H[q]? = G.1.heap[q]?) ∧ ∀ l ∈ locs, gb G ≤ l.base
theorem Rp.at {G : Gl} {S : Sh} {μ : Mu} {H : Heap} {locs : List Loc} (h : Rp G S μ H locs) {a : Nat} {k : Kd} (hk : S.2 a = some k) : cellAt G (some k) (μ a) a H := by
  have := h.2.2.2.1 a
  rw [hk] at this
  exact this
theorem Rp.nil {G : Gl} {S : Sh} {μ : Mu} {H : Heap} {locs : List Loc} (h : Rp G S μ H locs) : Rp G S μ H [] := ⟨h.1, h.2.1, h.2.2.1, h.2.2.2.1, h.2.2.2.2.1, fun _ q => by cases q⟩
theorem Rp.app {G : Gl} {S : Sh} {μ : Mu} {H : Heap} {locs L : List Loc} (h : Rp G S μ H []) (h1 : ∀ l ∈ locs, gb G ≤ l.base) (h2 : ∀ l ∈ L, gb G ≤ l.base) : Rp G S μ H (locs ++ L) := ⟨h.1, h.2.1, h.2.2.1, h.2.2.2.1, h.2.2.2.2.1, fun l q => (List.mem_append.mp q).elim (h1 l) (h2 l)⟩
/-- one cell anew -/
theorem Rp.put {G : Gl} {S S' : Sh} {μ μ' : Mu} {H H1 : Heap} {locs : List Loc} {a i : Nat} (h : Rp G S μ H locs) (hs : S'.1 = S.1) (ha : gb G ≤ a) (hal : a < S.1) (hz : H1.size = H.size) (oq : ∀ q : Nat, q ≠ a → H1[q]? = H[q]?) (hS : ∀ q : Nat, q ≠ a → S'.2 q = S.2 q ∧ μ' q = μ q) (hc : cellAt G (S'.2 a) (μ' a) a H1) : Rp G S' μ' H1 (locs ++ [⟨a, i⟩]) := by
  refine ⟨by rw [hz]; exact h.1, by rw [hz, hs]; exact h.2.1, fun q hq => ?_, fun q => ?_, fun q hq => ?_, fun l hl => ?_⟩
  · rw [hs] at hq
    rw [(hS q (by omega)).1]
    exact h.2.2.1 q hq
  · by_cases e : q = a
    · subst e; exact hc
    · rw [(hS q e).1, (hS q e).2]
      exact (h.2.2.2.1 q).kept (oq q e)
  · rw [oq q (by omega)]
    exact h.2.2.2.2.1 q hq
  · rcases List.mem_append.mp hl with q | q
    · exact h.2.2.2.2.2 l q
    · rw [List.mem_singleton.mp q]; exact ha
/-- a cell more -/
def Sx (S : Sh) (k : Kd) : Sh := (S.1 + 1, fun a => if a = S.1 then some k else S.2 a)
def Mx (μ : Mu) (a : Nat) (f : Nat → Int32) : Mu := fun b => if b = a then f else μ b
theorem Rp.push {G : Gl} {S : Sh} {μ : Mu} {H H1 : Heap} {locs : List Loc} {k : Kd} {f : Nat → Int32} (h : Rp G S μ H locs) (hz : H1.size = S.1 + 1) (oq : ∀ q : Nat, q < S.1 → H1[q]? = H[q]?) (hc : cellAt G (some k) f S.1 H1) : Rp G (Sx S k) (Mx μ S.1 f) H1 locs := by
  refine ⟨by rw [hz]; have := h.1; have := h.2.1; omega, hz, fun q hq => ?_, fun q => ?_, fun q hq => ?_, h.2.2.2.2.2⟩
  · have h1 : S.1 + 1 ≤ q := hq
    show (if q = S.1 then some k else S.2 q) = none
    rw [if_neg (by omega)]
    exact h.2.2.1 q (by omega)
  · show cellAt G (if q = S.1 then some k else S.2 q) (if q = S.1 then f else μ q) q H1
    by_cases e : q = S.1
    · subst e
      simp only [if_true]
      exact hc
    · rw [if_neg e, if_neg e]
      by_cases l : q < S.1
      · exact (h.2.2.2.1 q).kept (oq q l)
      · rw [h.2.2.1 q (by omega)]; trivial
  · have := h.1
    have := h.2.1
    rw [oq q (by omega)]
    exact h.2.2.2.2.1 q hq
theorem Rp.lt {G : Gl} {S : Sh} {μ : Mu} {H : Heap} {locs : List Loc} (h : Rp G S μ H locs) {a : Nat} {k : Kd} (hk : S.2 a = some k) : a < S.1 := by
  rcases Nat.lt_or_ge a S.1 with q | q
  · exact q
  · rw [h.2.2.1 a q] at hk; cases hk
/-- the words that the tables' laws of calls and fields don't carry: they are the law's start's own -/
def sN (j : Nat) : String := match j with
  | 0 => "PERSON_LEAST"
  | 1 => "PERSON_MOST"
  | 2 => "PIECE_LEAST"
  | 3 => "PIECE_MOST"
  | 4 => "ROPE_LEAST"
  | 5 => "ROPE_MOST"
  | 6 => "KIND_ABOVE"
  | _ => "BODIES"
def gN : List Cond := lw_tbl.filter (fun w => match w with | .fieldLinkNest .. => true | _ => false)
def Gok (G : Gl) : Prop := (∀ ci, ci < 11 → u_Kn G.1 (cN ci) (cT ci) (fN ci) (G.2.1 ci) (G.2.2.1 ci)) ∧ (∀ j, j < 8 → va_Z "RopesAtDawn" (sN j) "[I" (.ref (G.2.2.2 j)) (fun q => gb G ≤ q) G.1 G.1.heap) ∧ (∀ w ∈ gN, va_Nw w G.1) ∧ (∀ j, j < 3 → va_AO (rC j) G.1) ∧
  va_Z "java/lang/String" "COMPACT_STRINGS" "Z" (.int 1) (fun q => gb G ≤ q) G.1 G.1.heap ∧ (vk_R "RopesAtDawn$Reader" 23 "" (G.2.2.2 10) G.1 ∧ vk_R "RopesAtDawn" 203 "whbls" (G.2.2.2 11) G.1 ∧ vk_R "RopesAtDawn" 205 "wdpn" (G.2.2.2 12) G.1 ∧ vk_R "RopesAtDawnModel" 24 "whbls" (G.2.2.2 11) G.1 ∧ vk_R "RopesAtDawnModel" 26 "wdpn" (G.2.2.2 12) G.1)
def Cx (G : Gl) (mi : MI) (d mc : Nat) (p : Program) (R : Room) (s : State) (m : MethodId) (args : Array Value) (meth : Method) (c : Code) : Prop :=
  p.tables.exec = Jvm.exec ∧ c.code = mi.2.1 ∧ meth.sig.returnType = mi.2.2.2 ∧ c.maxLocals = mi.2.2.1 ∧ s.vm.findClass mi.1.cls = some m.cls ∧ (∀ w ∈ lw_gd, w.before args s = true) ∧ meth.locks = false ∧ meth.name = mi.1.name ∧ (d ≤ R.frames ∧ 64 * d + 13 ≤ R.locals ∧ mc ≤ R.cells ∧ 400 * mc ≤ R.slots) ∧ G.1.WarmedH s.vm ∧ Gok G
/-- where a method may leave with v -/
def Rk (mi : MI) (pc : Nat) (v : Option Value) : Prop :=
  (v = none ∧ mi.2.2.2 = none ∧ decode mi.2.1 pc = .ok (.return_, 1)) ∨ (∃ (x : Int32) (ty : FieldType), v = some (.int x) ∧ mi.2.2.2 = some ty ∧ narrow ty (.int x) = .int x ∧ decode mi.2.1 pc = .ok (.ireturn, 1)) ∨ (∃ (rt : FieldType) (w : Value), v = some w ∧ (w = .null ∨ ∃ a, w = .ref a) ∧ mi.2.2.2 = some rt ∧ ((∃ n, rt = .object n) ∨ ∃ t, rt = .array t) ∧ decode mi.2.1 pc = .ok (.areturn, 1))
def Rt (G : Gl) (mi : MI) (mc : Nat) (p : Program) (l : Launch) (e : Env) (R : Room) (s : State) (m : MethodId) (args : Array Value) (below : List Frame) (meth : Method) (c : Code) (Z : State → Prop) (Q : Option Value → Sh → Mu → Prop) : Prop :=
  ∀ (v : Option Value) (S' : Sh) (μ' : Mu) (H' : Heap) (locs' : List Loc) (cells' slots' pc' : Nat) (ls' : Array Slot), Q v S' μ' → Rp G S' μ' H' locs' → cells' ≤ mc → slots' ≤ 400 * mc → Rk mi pc' v → W p l e R s m args below meth c H' locs' cells' slots' Z (F0 m pc' ls' v.toList)
def X (G : Gl) (mi : MI) (d kc pc : Nat) (lv : List (Nat × Value)) (st : List Value) (S : Sh) (μ : Mu) (Q : Option Value → Sh → Mu → Prop) : Prop :=
  ∀ (p : Program) (l : Launch) (e : Env) (R : Room) (s : State) (m : MethodId) (args : Array Value) (below : List Frame) (meth : Method) (c : Code) (mc : Nat) (Z : State → Prop), Cx G mi d mc p R s m args meth c → Rt G mi mc p l e R s m args below meth c Z Q →
    ∀ (H : Heap) (locs : List Loc) (cells slots : Nat) (ls : Array Slot), Rp G S μ H locs → cells + kc ≤ mc ∧ slots + 400 * kc ≤ 400 * mc → lv_has ls mi.2.2.1 lv → W p l e R s m args below meth c H locs cells slots Z (F0 m pc ls st)
/-- what a method's end is asked for, by what it answers -/
def qi (K : Int32 → Sh → Mu → Prop) : Option Value → Sh → Mu → Prop := fun v S μ => ∃ r : Int32, v = some (.int r) ∧ K r S μ
def qv (K : Sh → Mu → Prop) : Option Value → Sh → Mu → Prop := fun v S μ => v = none ∧ K S μ
def qr (K : Option Nat → Sh → Mu → Prop) : Option Value → Sh → Mu → Prop := fun v S μ => ∃ r : Option Nat, v = some (va_rf r) ∧ K r S μ
def Dc (cc : ByteArray) (pc : Nat) (i : Instr) (len nx : Nat) : Prop := decode cc pc = .ok (i, len) ∧ pc + len = nx
def Tk (cc : ByteArray) (tb : List (Nat × Instr × Nat × Nat)) : Prop := ∀ q ∈ tb, Dc cc q.1 q.2.1 q.2.2.1 q.2.2.2
theorem Tk.of {cc : ByteArray} {tb : List (Nat × Instr × Nat × Nat)} (h : tb.all (fun q => decide (decode cc q.1 = .ok (q.2.1, q.2.2.1)) && decide (q.1 + q.2.2.1 = q.2.2.2)) = true) : Tk cc tb := by
  intro q hq
  have h1 := List.all_eq_true.mp h q hq
  simp only [Bool.and_eq_true, decide_eq_true_eq] at h1
  exact h1
theorem Tk.at {cc : ByteArray} {tb : List (Nat × Instr × Nat × Nat)} (h : Tk cc tb) (k : Nat) {pc len nx : Nat} {i : Instr} (hk : tb[k]? = some (pc, i, len, nx)) : Dc cc pc i len nx := h (pc, i, len, nx) (List.mem_of_getElem? hk)
/-- locals: read and written by place -/
def lget (lv : List (Nat × Value)) (i : Nat) : Option Value := match lv with
  | [] => none
  | (j, v) :: r => if i = j then some v else lget r i
def lset (lv : List (Nat × Value)) (i : Nat) (v : Value) : List (Nat × Value) := match lv with
  | [] => [(i, v)]
  | (j, w) :: r => if i = j then (i, v) :: r.filter (fun q => !(q.1 == i)) else (j, w) :: lset r i v
theorem lget_mem {lv : List (Nat × Value)} {i : Nat} {v : Value} (h : lget lv i = some v) : (i, v) ∈ lv := by
  induction lv with
  | nil => cases h
  | cons q r ih =>
    obtain ⟨j, w⟩ := q
    unfold lget at h
    by_cases e : i = j
    · rw [if_pos e] at h
      cases h
      rw [e]
      exact List.mem_cons_self
    · rw [if_neg e] at h
      exact List.mem_cons_of_mem _ (ih h)
theorem lset_mem {lv : List (Nat × Value)} {i : Nat} {v : Value} {q : Nat × Value} (h : q ∈ lset lv i v) : q = (i, v) ∨ (q ∈ lv ∧ ¬ q.1 = i) := by
  induction lv with
  | nil => exact Or.inl (List.mem_singleton.mp h)
  | cons p r ih =>
    obtain ⟨j, w⟩ := p
    unfold lset at h
    by_cases e : i = j
    · rw [if_pos e] at h
      rcases List.mem_cons.mp h with h | h
      · exact Or.inl h
      · obtain ⟨h1, h2⟩ := List.mem_filter.mp h
        exact Or.inr ⟨List.mem_cons_of_mem _ h1, by simpa using h2⟩
    · rw [if_neg e] at h
      rcases List.mem_cons.mp h with h | h
      · exact Or.inr ⟨by rw [h]; exact List.mem_cons_self, by rw [h]; exact fun z => e z.symm⟩
      · rcases ih h with h | ⟨h1, h2⟩
        · exact Or.inl h
        · exact Or.inr ⟨List.mem_cons_of_mem _ h1, h2⟩
/-- no listed value of two slots -/
def lone (lv : List (Nat × Value)) : Bool := lv.all (fun q => decide (q.2.category = 1))
theorem lv_setL {ls : Array Slot} {nL : Nat} {lv lv' : List (Nat × Value)} {i : Nat} {v : Value} (h : lv_has ls nL ((i, v) :: lv.filter (fun q => !(q.1 == i) && !(q.1 + 1 == i && q.2.category == 2)))) (h1 : lone lv = true) (hl : lset lv i v = lv') : lv_has ls nL lv' := by
  refine ⟨h.1, h.2.1, fun q hq => ?_⟩
  rw [← hl] at hq
  rcases lset_mem hq with e | ⟨h2, h3⟩
  · rw [e]; exact h.2.2 _ List.mem_cons_self
  · refine h.2.2 q (List.mem_cons_of_mem _ (List.mem_filter.mpr ⟨h2, ?_⟩))
    have hc := List.all_eq_true.mp h1 q h2
    simp only [decide_eq_true_eq] at hc
    simp [h3, hc]
section
variable {G : Gl} {mi : MI} {d kc pc nx : Nat} {lv lv' : List (Nat × Value)} {rest : List Value} {S : Sh} {μ : Mu} {Q : Option Value → Sh → Mu → Prop}
theorem X_iconst {n : Int} {v : Int32} (hd : Dc mi.2.1 pc (.iconst n) 1 nx) (hv : Int32.ofInt n = v) (k : X G mi d kc nx lv (.int v :: rest) S μ Q) : X G mi d kc pc lv (rest) S μ Q := by
  intro p l e R s m args below meth c mc Z C hZ H locs cells slots ls hR hk hl
  obtain ⟨hd, rfl⟩ := hd
  exact lv_iconst C.1 C.2.1 hd hv (k p l e R s m args below meth c mc Z C hZ H locs cells slots ls hR hk hl)
theorem X_bipush {n : Int} {v : Int32} (hd : Dc mi.2.1 pc (.bipush n) 2 nx) (hv : (Int8.ofInt n).toInt32 = v) (k : X G mi d kc nx lv (.int v :: rest) S μ Q) : X G mi d kc pc lv (rest) S μ Q := by
  intro p l e R s m args below meth c mc Z C hZ H locs cells slots ls hR hk hl
  obtain ⟨hd, rfl⟩ := hd
  exact lv_bipush C.1 C.2.1 hd hv (k p l e R s m args below meth c mc Z C hZ H locs cells slots ls hR hk hl)
theorem X_sipush {n : Int} {v : Int32} (hd : Dc mi.2.1 pc (.sipush n) 3 nx) (hv : (Int16.ofInt n).toInt32 = v) (k : X G mi d kc nx lv (.int v :: rest) S μ Q) : X G mi d kc pc lv (rest) S μ Q := by
  intro p l e R s m args below meth c mc Z C hZ H locs cells slots ls hR hk hl
  obtain ⟨hd, rfl⟩ := hd
  exact lv_sipush C.1 C.2.1 hd hv (k p l e R s m args below meth c mc Z C hZ H locs cells slots ls hR hk hl)
theorem X_null (hd : Dc mi.2.1 pc (.aconst_null) 1 nx) (k : X G mi d kc nx lv (.null :: rest) S μ Q) : X G mi d kc pc lv (rest) S μ Q := by
  intro p l e R s m args below meth c mc Z C hZ H locs cells slots ls hR hk hl
  obtain ⟨hd, rfl⟩ := hd
  exact lv_null C.1 C.2.1 hd (k p l e R s m args below meth c mc Z C hZ H locs cells slots ls hR hk hl)
theorem X_ldc {v : Int32} {i : Nat} (hd : Dc mi.2.1 pc (.ldc i) 2 nx) (hw : Cond.constant mi.1.cls i v ∈ lw_gd) (k : X G mi d kc nx lv (.int v :: rest) S μ Q) : X G mi d kc pc lv (rest) S μ Q := by
  intro p l e R s m args below meth c mc Z C hZ H locs cells slots ls hR hk hl
  obtain ⟨hd, rfl⟩ := hd
  exact lv_ldc C.1 C.2.1 C.2.2.2.2.1 (C.2.2.2.2.2.1 _ hw) hd (k p l e R s m args below meth c mc Z C hZ H locs cells slots ls hR hk hl)
theorem X_ldcw {v : Int32} {i : Nat} (hd : Dc mi.2.1 pc (.ldc_w i) 3 nx) (hw : Cond.constant mi.1.cls i v ∈ lw_gd) (k : X G mi d kc nx lv (.int v :: rest) S μ Q) : X G mi d kc pc lv (rest) S μ Q := by
  intro p l e R s m args below meth c mc Z C hZ H locs cells slots ls hR hk hl
  obtain ⟨hd, rfl⟩ := hd
  exact lv_ldcw C.1 C.2.1 C.2.2.2.2.1 (C.2.2.2.2.2.1 _ hw) hd (k p l e R s m args below meth c mc Z C hZ H locs cells slots ls hR hk hl)
theorem X_ldc2 {v : Int64} {i : Nat} (hd : Dc mi.2.1 pc (.ldc2_w i) 3 nx) (hw : Cond.constantLong mi.1.cls i v ∈ lw_gd) (k : X G mi d kc nx lv (.long v :: rest) S μ Q) : X G mi d kc pc lv (rest) S μ Q := by
  intro p l e R s m args below meth c mc Z C hZ H locs cells slots ls hR hk hl
  obtain ⟨hd, rfl⟩ := hd
  exact lv_ldc2 C.1 C.2.1 C.2.2.2.2.1 (C.2.2.2.2.2.1 _ hw) hd (k p l e R s m args below meth c mc Z C hZ H locs cells slots ls hR hk hl)
theorem X_iload_n {n : Fin 4} {x : Int32} (hd : Dc mi.2.1 pc (.iload_n n) 1 nx) (hv : lget lv n = some (.int x)) (k : X G mi d kc nx lv (.int x :: rest) S μ Q) : X G mi d kc pc lv (rest) S μ Q := by
  intro p l e R s m args below meth c mc Z C hZ H locs cells slots ls hR hk hl
  obtain ⟨hd, rfl⟩ := hd
  exact lv_iload_n C.1 C.2.1 hd rfl (hl.2.2 _ (lget_mem hv)) (k p l e R s m args below meth c mc Z C hZ H locs cells slots ls hR hk hl)
theorem X_iload {n : Nat} {x : Int32} (hd : Dc mi.2.1 pc (.iload n) 2 nx) (hv : lget lv n = some (.int x)) (k : X G mi d kc nx lv (.int x :: rest) S μ Q) : X G mi d kc pc lv (rest) S μ Q := by
  intro p l e R s m args below meth c mc Z C hZ H locs cells slots ls hR hk hl
  obtain ⟨hd, rfl⟩ := hd
  exact lv_iload C.1 C.2.1 hd (hl.2.2 _ (lget_mem hv)) (k p l e R s m args below meth c mc Z C hZ H locs cells slots ls hR hk hl)
theorem X_lload_n {n : Fin 4} {x : Int64} (hd : Dc mi.2.1 pc (.lload_n n) 1 nx) (hv : lget lv n = some (.long x)) (k : X G mi d kc nx lv (.long x :: rest) S μ Q) : X G mi d kc pc lv (rest) S μ Q := by
  intro p l e R s m args below meth c mc Z C hZ H locs cells slots ls hR hk hl
  obtain ⟨hd, rfl⟩ := hd
  exact lv_lload_n C.1 C.2.1 hd rfl (hl.2.2 _ (lget_mem hv)) (k p l e R s m args below meth c mc Z C hZ H locs cells slots ls hR hk hl)
theorem X_aload_n {n : Fin 4} {x : Nat} (hd : Dc mi.2.1 pc (.aload_n n) 1 nx) (hv : lget lv n = some (.ref x)) (k : X G mi d kc nx lv (.ref x :: rest) S μ Q) : X G mi d kc pc lv (rest) S μ Q := by
  intro p l e R s m args below meth c mc Z C hZ H locs cells slots ls hR hk hl
  obtain ⟨hd, rfl⟩ := hd
  exact lv_aload_n C.1 C.2.1 hd rfl (hl.2.2 _ (lget_mem hv)) (k p l e R s m args below meth c mc Z C hZ H locs cells slots ls hR hk hl)
theorem X_aload {n : Nat} {x : Nat} (hd : Dc mi.2.1 pc (.aload n) 2 nx) (hv : lget lv n = some (.ref x)) (k : X G mi d kc nx lv (.ref x :: rest) S μ Q) : X G mi d kc pc lv (rest) S μ Q := by
  intro p l e R s m args below meth c mc Z C hZ H locs cells slots ls hR hk hl
  obtain ⟨hd, rfl⟩ := hd
  exact lv_aload C.1 C.2.1 hd (hl.2.2 _ (lget_mem hv)) (k p l e R s m args below meth c mc Z C hZ H locs cells slots ls hR hk hl)
theorem X_aload_nN {n : Fin 4} (hd : Dc mi.2.1 pc (.aload_n n) 1 nx) (hv : lget lv n = some .null) (k : X G mi d kc nx lv (.null :: rest) S μ Q) : X G mi d kc pc lv (rest) S μ Q := by
  intro p l e R s m args below meth c mc Z C hZ H locs cells slots ls hR hk hl
  obtain ⟨hd, rfl⟩ := hd
  exact lv_aload_nN C.1 C.2.1 hd rfl (hl.2.2 _ (lget_mem hv)) (k p l e R s m args below meth c mc Z C hZ H locs cells slots ls hR hk hl)
theorem X_aloadN {n : Nat} (hd : Dc mi.2.1 pc (.aload n) 2 nx) (hv : lget lv n = some .null) (k : X G mi d kc nx lv (.null :: rest) S μ Q) : X G mi d kc pc lv (rest) S μ Q := by
  intro p l e R s m args below meth c mc Z C hZ H locs cells slots ls hR hk hl
  obtain ⟨hd, rfl⟩ := hd
  exact lv_aloadN C.1 C.2.1 hd (hl.2.2 _ (lget_mem hv)) (k p l e R s m args below meth c mc Z C hZ H locs cells slots ls hR hk hl)
theorem X_istore_n {n : Fin 4} {x : Int32} (hd : Dc mi.2.1 pc (.istore_n n) 1 nx) (hn : (n : Nat) < mi.2.2.1) (h1 : lone lv = true) (hs : lset lv (n : Nat) (Value.int x) = lv') (k : X G mi d kc nx lv' rest S μ Q) : X G mi d kc pc lv (Value.int x :: rest) S μ Q := by
  intro p l e R s m args below meth c mc Z C hZ H locs cells slots ls hR hk hl
  obtain ⟨hd, rfl⟩ := hd
  exact lv_istore_n C.1 C.2.1 hd rfl hl hn rfl (fun ls' hl' => k p l e R s m args below meth c mc Z C hZ H locs cells slots ls' hR hk (lv_setL hl' h1 hs))
theorem X_istore {n : Nat} {x : Int32} (hd : Dc mi.2.1 pc (.istore n) 2 nx) (hn : n < mi.2.2.1) (h1 : lone lv = true) (hs : lset lv n (Value.int x) = lv') (k : X G mi d kc nx lv' rest S μ Q) : X G mi d kc pc lv (Value.int x :: rest) S μ Q := by
  intro p l e R s m args below meth c mc Z C hZ H locs cells slots ls hR hk hl
  obtain ⟨hd, rfl⟩ := hd
  exact lv_istore C.1 C.2.1 hd hl hn rfl (fun ls' hl' => k p l e R s m args below meth c mc Z C hZ H locs cells slots ls' hR hk (lv_setL hl' h1 hs))
theorem X_astore_n {n : Fin 4} {x : Nat} (hd : Dc mi.2.1 pc (.astore_n n) 1 nx) (hn : (n : Nat) < mi.2.2.1) (h1 : lone lv = true) (hs : lset lv (n : Nat) (Value.ref x) = lv') (k : X G mi d kc nx lv' rest S μ Q) : X G mi d kc pc lv (Value.ref x :: rest) S μ Q := by
  intro p l e R s m args below meth c mc Z C hZ H locs cells slots ls hR hk hl
  obtain ⟨hd, rfl⟩ := hd
  exact lv_astore_n C.1 C.2.1 hd rfl hl hn rfl (fun ls' hl' => k p l e R s m args below meth c mc Z C hZ H locs cells slots ls' hR hk (lv_setL hl' h1 hs))
theorem X_astore {n : Nat} {x : Nat} (hd : Dc mi.2.1 pc (.astore n) 2 nx) (hn : n < mi.2.2.1) (h1 : lone lv = true) (hs : lset lv n (Value.ref x) = lv') (k : X G mi d kc nx lv' rest S μ Q) : X G mi d kc pc lv (Value.ref x :: rest) S μ Q := by
  intro p l e R s m args below meth c mc Z C hZ H locs cells slots ls hR hk hl
  obtain ⟨hd, rfl⟩ := hd
  exact lv_astore C.1 C.2.1 hd hl hn rfl (fun ls' hl' => k p l e R s m args below meth c mc Z C hZ H locs cells slots ls' hR hk (lv_setL hl' h1 hs))
theorem X_astore_nN {n : Fin 4} (hd : Dc mi.2.1 pc (.astore_n n) 1 nx) (hn : (n : Nat) < mi.2.2.1) (h1 : lone lv = true) (hs : lset lv (n : Nat) (Value.null) = lv') (k : X G mi d kc nx lv' rest S μ Q) : X G mi d kc pc lv (Value.null :: rest) S μ Q := by
  intro p l e R s m args below meth c mc Z C hZ H locs cells slots ls hR hk hl
  obtain ⟨hd, rfl⟩ := hd
  exact lv_astore_nN C.1 C.2.1 hd rfl hl hn rfl (fun ls' hl' => k p l e R s m args below meth c mc Z C hZ H locs cells slots ls' hR hk (lv_setL hl' h1 hs))
theorem X_astoreN {n : Nat} (hd : Dc mi.2.1 pc (.astore n) 2 nx) (hn : n < mi.2.2.1) (h1 : lone lv = true) (hs : lset lv n (Value.null) = lv') (k : X G mi d kc nx lv' rest S μ Q) : X G mi d kc pc lv (Value.null :: rest) S μ Q := by
  intro p l e R s m args below meth c mc Z C hZ H locs cells slots ls hR hk hl
  obtain ⟨hd, rfl⟩ := hd
  exact lv_astoreN C.1 C.2.1 hd hl hn rfl (fun ls' hl' => k p l e R s m args below meth c mc Z C hZ H locs cells slots ls' hR hk (lv_setL hl' h1 hs))
theorem X_iinc {i : Nat} {n : Int} {x v : Int32} (hd : Dc mi.2.1 pc (.iinc i n) 3 nx) (hv : lget lv i = some (.int x)) (hw : Int32.ofInt n = v) (hn : i < mi.2.2.1) (h1 : lone lv = true) (hs : lset lv i (.int (x + v)) = lv') (k : X G mi d kc nx lv' rest S μ Q) : X G mi d kc pc lv rest S μ Q := by
  intro p l e R s m args below meth c mc Z C hZ H locs cells slots ls hR hk hl
  obtain ⟨hd, rfl⟩ := hd
  obtain ⟨k0, hk0⟩ := List.getElem?_of_mem (lget_mem hv)
  subst hw
  exact lv_iinc C.1 C.2.1 hd hl hk0 rfl hn rfl (fun ls' hl' => k p l e R s m args below meth c mc Z C hZ H locs cells slots ls' hR hk (lv_setL hl' h1 hs))
theorem X_iadd {x y : Int32} (hd : Dc mi.2.1 pc (.iadd) 1 nx) (k : X G mi d kc nx lv (.int (x + y) :: rest) S μ Q) : X G mi d kc pc lv (.int y :: .int x :: rest) S μ Q := by
  intro p l e R s m args below meth c mc Z C hZ H locs cells slots ls hR hk hl
  obtain ⟨hd, rfl⟩ := hd
  exact lv_iadd C.1 C.2.1 hd (k p l e R s m args below meth c mc Z C hZ H locs cells slots ls hR hk hl)
theorem X_isub {x y : Int32} (hd : Dc mi.2.1 pc (.isub) 1 nx) (k : X G mi d kc nx lv (.int (x - y) :: rest) S μ Q) : X G mi d kc pc lv (.int y :: .int x :: rest) S μ Q := by
  intro p l e R s m args below meth c mc Z C hZ H locs cells slots ls hR hk hl
  obtain ⟨hd, rfl⟩ := hd
  exact lv_isub C.1 C.2.1 hd (k p l e R s m args below meth c mc Z C hZ H locs cells slots ls hR hk hl)
theorem X_imul {x y : Int32} (hd : Dc mi.2.1 pc (.imul) 1 nx) (k : X G mi d kc nx lv (.int (x * y) :: rest) S μ Q) : X G mi d kc pc lv (.int y :: .int x :: rest) S μ Q := by
  intro p l e R s m args below meth c mc Z C hZ H locs cells slots ls hR hk hl
  obtain ⟨hd, rfl⟩ := hd
  exact lv_imul C.1 C.2.1 hd (k p l e R s m args below meth c mc Z C hZ H locs cells slots ls hR hk hl)
theorem X_iand {x y : Int32} (hd : Dc mi.2.1 pc (.iand) 1 nx) (k : X G mi d kc nx lv (.int (x &&& y) :: rest) S μ Q) : X G mi d kc pc lv (.int y :: .int x :: rest) S μ Q := by
  intro p l e R s m args below meth c mc Z C hZ H locs cells slots ls hR hk hl
  obtain ⟨hd, rfl⟩ := hd
  exact lv_iand C.1 C.2.1 hd (k p l e R s m args below meth c mc Z C hZ H locs cells slots ls hR hk hl)
theorem X_ior {x y : Int32} (hd : Dc mi.2.1 pc (.ior) 1 nx) (k : X G mi d kc nx lv (.int (x ||| y) :: rest) S μ Q) : X G mi d kc pc lv (.int y :: .int x :: rest) S μ Q := by
  intro p l e R s m args below meth c mc Z C hZ H locs cells slots ls hR hk hl
  obtain ⟨hd, rfl⟩ := hd
  exact lv_ior C.1 C.2.1 hd (k p l e R s m args below meth c mc Z C hZ H locs cells slots ls hR hk hl)
theorem X_ixor {x y : Int32} (hd : Dc mi.2.1 pc (.ixor) 1 nx) (k : X G mi d kc nx lv (.int (x ^^^ y) :: rest) S μ Q) : X G mi d kc pc lv (.int y :: .int x :: rest) S μ Q := by
  intro p l e R s m args below meth c mc Z C hZ H locs cells slots ls hR hk hl
  obtain ⟨hd, rfl⟩ := hd
  exact lv_ixor C.1 C.2.1 hd (k p l e R s m args below meth c mc Z C hZ H locs cells slots ls hR hk hl)
theorem X_ishl {x y : Int32} (hd : Dc mi.2.1 pc (.ishl) 1 nx) (k : X G mi d kc nx lv (.int (x <<< (y &&& 31)) :: rest) S μ Q) : X G mi d kc pc lv (.int y :: .int x :: rest) S μ Q := by
  intro p l e R s m args below meth c mc Z C hZ H locs cells slots ls hR hk hl
  obtain ⟨hd, rfl⟩ := hd
  exact lv_ishl C.1 C.2.1 hd (k p l e R s m args below meth c mc Z C hZ H locs cells slots ls hR hk hl)
theorem X_ishr {x y : Int32} (hd : Dc mi.2.1 pc (.ishr) 1 nx) (k : X G mi d kc nx lv (.int (x >>> (y &&& 31)) :: rest) S μ Q) : X G mi d kc pc lv (.int y :: .int x :: rest) S μ Q := by
  intro p l e R s m args below meth c mc Z C hZ H locs cells slots ls hR hk hl
  obtain ⟨hd, rfl⟩ := hd
  exact lv_ishr C.1 C.2.1 hd (k p l e R s m args below meth c mc Z C hZ H locs cells slots ls hR hk hl)
theorem X_idiv {x y : Int32} (hd : Dc mi.2.1 pc (.idiv) 1 nx) (hne : ¬ y = 0) (k : X G mi d kc nx lv (.int (x / y) :: rest) S μ Q) : X G mi d kc pc lv (.int y :: .int x :: rest) S μ Q := by
  intro p l e R s m args below meth c mc Z C hZ H locs cells slots ls hR hk hl
  obtain ⟨hd, rfl⟩ := hd
  exact lv_idiv C.1 C.2.1 hd hne (k p l e R s m args below meth c mc Z C hZ H locs cells slots ls hR hk hl)
theorem X_irem {x y : Int32} (hd : Dc mi.2.1 pc (.irem) 1 nx) (hne : ¬ y = 0) (k : X G mi d kc nx lv (.int (x - x / y * y) :: rest) S μ Q) : X G mi d kc pc lv (.int y :: .int x :: rest) S μ Q := by
  intro p l e R s m args below meth c mc Z C hZ H locs cells slots ls hR hk hl
  obtain ⟨hd, rfl⟩ := hd
  exact lv_irem C.1 C.2.1 hd hne (k p l e R s m args below meth c mc Z C hZ H locs cells slots ls hR hk hl)
theorem X_ineg {x : Int32} (hd : Dc mi.2.1 pc (.ineg) 1 nx) (k : X G mi d kc nx lv (.int (0 - x) :: rest) S μ Q) : X G mi d kc pc lv (.int x :: rest) S μ Q := by
  intro p l e R s m args below meth c mc Z C hZ H locs cells slots ls hR hk hl
  obtain ⟨hd, rfl⟩ := hd
  exact lv_ineg C.1 C.2.1 hd (k p l e R s m args below meth c mc Z C hZ H locs cells slots ls hR hk hl)
theorem X_iushr {x y : Int32} (hd : Dc mi.2.1 pc (.iushr) 1 nx) (k : X G mi d kc nx lv (.int ((x.toUInt32 >>> (y.toUInt32 &&& Int32.toUInt32 31)).toInt32) :: rest) S μ Q) : X G mi d kc pc lv (.int y :: .int x :: rest) S μ Q := by
  intro p l e R s m args below meth c mc Z C hZ H locs cells slots ls hR hk hl
  obtain ⟨hd, rfl⟩ := hd
  exact lv_iushr C.1 C.2.1 hd rfl (k p l e R s m args below meth c mc Z C hZ H locs cells slots ls hR hk hl)
theorem X_i2l {x : Int32} (hd : Dc mi.2.1 pc (.i2l) 1 nx) (k : X G mi d kc nx lv (.long (x.toInt64) :: rest) S μ Q) : X G mi d kc pc lv (.int x :: rest) S μ Q := by
  intro p l e R s m args below meth c mc Z C hZ H locs cells slots ls hR hk hl
  obtain ⟨hd, rfl⟩ := hd
  exact lv_i2l C.1 C.2.1 hd rfl (k p l e R s m args below meth c mc Z C hZ H locs cells slots ls hR hk hl)
theorem X_l2i {x : Int64} (hd : Dc mi.2.1 pc (.l2i) 1 nx) (k : X G mi d kc nx lv (.int (x.toInt32) :: rest) S μ Q) : X G mi d kc pc lv (.long x :: rest) S μ Q := by
  intro p l e R s m args below meth c mc Z C hZ H locs cells slots ls hR hk hl
  obtain ⟨hd, rfl⟩ := hd
  exact lv_l2i C.1 C.2.1 hd rfl (k p l e R s m args below meth c mc Z C hZ H locs cells slots ls hR hk hl)
theorem X_i2b {x : Int32} (hd : Dc mi.2.1 pc (.i2b) 1 nx) (k : X G mi d kc nx lv (.int (x.toInt8.toInt32) :: rest) S μ Q) : X G mi d kc pc lv (.int x :: rest) S μ Q := by
  intro p l e R s m args below meth c mc Z C hZ H locs cells slots ls hR hk hl
  obtain ⟨hd, rfl⟩ := hd
  exact lv_i2b C.1 C.2.1 hd rfl (k p l e R s m args below meth c mc Z C hZ H locs cells slots ls hR hk hl)
theorem X_i2s {x : Int32} (hd : Dc mi.2.1 pc (.i2s) 1 nx) (k : X G mi d kc nx lv (.int (x.toInt16.toInt32) :: rest) S μ Q) : X G mi d kc pc lv (.int x :: rest) S μ Q := by
  intro p l e R s m args below meth c mc Z C hZ H locs cells slots ls hR hk hl
  obtain ⟨hd, rfl⟩ := hd
  exact lv_i2s C.1 C.2.1 hd rfl (k p l e R s m args below meth c mc Z C hZ H locs cells slots ls hR hk hl)
theorem X_i2c {x : Int32} (hd : Dc mi.2.1 pc (.i2c) 1 nx) (k : X G mi d kc nx lv (.int ((x.toUInt32 % 65536).toInt32) :: rest) S μ Q) : X G mi d kc pc lv (.int x :: rest) S μ Q := by
  intro p l e R s m args below meth c mc Z C hZ H locs cells slots ls hR hk hl
  obtain ⟨hd, rfl⟩ := hd
  exact lv_i2c C.1 C.2.1 hd rfl (k p l e R s m args below meth c mc Z C hZ H locs cells slots ls hR hk hl)
theorem X_ladd {x y : Int64} (hd : Dc mi.2.1 pc (.ladd) 1 nx) (k : X G mi d kc nx lv (.long (x + y) :: rest) S μ Q) : X G mi d kc pc lv (.long y :: .long x :: rest) S μ Q := by
  intro p l e R s m args below meth c mc Z C hZ H locs cells slots ls hR hk hl
  obtain ⟨hd, rfl⟩ := hd
  exact lv_ladd C.1 C.2.1 hd (k p l e R s m args below meth c mc Z C hZ H locs cells slots ls hR hk hl)
theorem X_land {x y : Int64} (hd : Dc mi.2.1 pc (.land) 1 nx) (k : X G mi d kc nx lv (.long (x &&& y) :: rest) S μ Q) : X G mi d kc pc lv (.long y :: .long x :: rest) S μ Q := by
  intro p l e R s m args below meth c mc Z C hZ H locs cells slots ls hR hk hl
  obtain ⟨hd, rfl⟩ := hd
  exact lv_land C.1 C.2.1 hd (k p l e R s m args below meth c mc Z C hZ H locs cells slots ls hR hk hl)
theorem X_lor {x y : Int64} (hd : Dc mi.2.1 pc (.lor) 1 nx) (k : X G mi d kc nx lv (.long (x ||| y) :: rest) S μ Q) : X G mi d kc pc lv (.long y :: .long x :: rest) S μ Q := by
  intro p l e R s m args below meth c mc Z C hZ H locs cells slots ls hR hk hl
  obtain ⟨hd, rfl⟩ := hd
  exact lv_lor C.1 C.2.1 hd (k p l e R s m args below meth c mc Z C hZ H locs cells slots ls hR hk hl)
theorem X_lshl {x : Int64} {y : Int32} (hd : Dc mi.2.1 pc (.lshl) 1 nx) (k : X G mi d kc nx lv (.long (x <<< (y.toInt64 &&& 63)) :: rest) S μ Q) : X G mi d kc pc lv (.int y :: .long x :: rest) S μ Q := by
  intro p l e R s m args below meth c mc Z C hZ H locs cells slots ls hR hk hl
  obtain ⟨hd, rfl⟩ := hd
  exact lv_lshl C.1 C.2.1 hd rfl (k p l e R s m args below meth c mc Z C hZ H locs cells slots ls hR hk hl)
theorem X_lshr {x : Int64} {y : Int32} (hd : Dc mi.2.1 pc (.lshr) 1 nx) (k : X G mi d kc nx lv (.long (x >>> (y.toInt64 &&& 63)) :: rest) S μ Q) : X G mi d kc pc lv (.int y :: .long x :: rest) S μ Q := by
  intro p l e R s m args below meth c mc Z C hZ H locs cells slots ls hR hk hl
  obtain ⟨hd, rfl⟩ := hd
  exact lv_lshr C.1 C.2.1 hd rfl (k p l e R s m args below meth c mc Z C hZ H locs cells slots ls hR hk hl)
theorem X_lushr {x : Int64} {y : Int32} (hd : Dc mi.2.1 pc (.lushr) 1 nx) (k : X G mi d kc nx lv (.long ((x.toUInt64 >>> (y.toInt64.toUInt64 &&& Int64.toUInt64 63)).toInt64) :: rest) S μ Q) : X G mi d kc pc lv (.int y :: .long x :: rest) S μ Q := by
  intro p l e R s m args below meth c mc Z C hZ H locs cells slots ls hR hk hl
  obtain ⟨hd, rfl⟩ := hd
  exact lv_lushr C.1 C.2.1 hd rfl (k p l e R s m args below meth c mc Z C hZ H locs cells slots ls hR hk hl)
theorem X_dup {v : Value} (hd : Dc mi.2.1 pc (.dup) 1 nx) (hc : v.category = 1) (k : X G mi d kc nx lv (v :: v :: rest) S μ Q) : X G mi d kc pc lv (v :: rest) S μ Q := by
  intro p l e R s m args below meth c mc Z C hZ H locs cells slots ls hR hk hl
  obtain ⟨hd, rfl⟩ := hd
  exact lv_dup C.1 C.2.1 hd hc (k p l e R s m args below meth c mc Z C hZ H locs cells slots ls hR hk hl)
theorem X_pop {v : Value} (hd : Dc mi.2.1 pc (.pop) 1 nx) (hc : v.category = 1) (k : X G mi d kc nx lv (rest) S μ Q) : X G mi d kc pc lv (v :: rest) S μ Q := by
  intro p l e R s m args below meth c mc Z C hZ H locs cells slots ls hR hk hl
  obtain ⟨hd, rfl⟩ := hd
  exact lv_pop C.1 C.2.1 hd hc (k p l e R s m args below meth c mc Z C hZ H locs cells slots ls hR hk hl)
theorem X_dup2 {v w : Value} (hd : Dc mi.2.1 pc (.dup2) 1 nx) (hc : v.category = 1) (hc2 : w.category = 1) (k : X G mi d kc nx lv (v :: w :: v :: w :: rest) S μ Q) : X G mi d kc pc lv (v :: w :: rest) S μ Q := by
  intro p l e R s m args below meth c mc Z C hZ H locs cells slots ls hR hk hl
  obtain ⟨hd, rfl⟩ := hd
  exact lv_dup2_11 C.1 C.2.1 hd hc hc2 (k p l e R s m args below meth c mc Z C hZ H locs cells slots ls hR hk hl)
theorem X_icmp_eq {x y : Int32} {off : Int} {tgt : Nat} (hd : Dc mi.2.1 pc (.if_icmp .eq off) 3 nx) (ht : (pc : Int) + off = (tgt : Int)) (kt : x = y → X G mi d kc tgt lv rest S μ Q) (kf : ¬ x = y → X G mi d kc nx lv rest S μ Q) : X G mi d kc pc lv (.int y :: .int x :: rest) S μ Q := by
  intro p l e R s m args below meth c mc Z C hZ H locs cells slots ls hR hk hl
  obtain ⟨hd, rfl⟩ := hd
  exact lv_icmp_eq C.1 C.2.1 hd ht (fun z => kt z p l e R s m args below meth c mc Z C hZ H locs cells slots ls hR hk hl) (fun z => kf z p l e R s m args below meth c mc Z C hZ H locs cells slots ls hR hk hl)
theorem X_if_eq {x : Int32} {off : Int} {tgt : Nat} (hd : Dc mi.2.1 pc (.ifCond .eq off) 3 nx) (ht : (pc : Int) + off = (tgt : Int)) (kt : x = 0 → X G mi d kc tgt lv rest S μ Q) (kf : ¬ x = 0 → X G mi d kc nx lv rest S μ Q) : X G mi d kc pc lv (.int x :: rest) S μ Q := by
  intro p l e R s m args below meth c mc Z C hZ H locs cells slots ls hR hk hl
  obtain ⟨hd, rfl⟩ := hd
  exact lv_if_eq C.1 C.2.1 hd ht (fun z => kt z p l e R s m args below meth c mc Z C hZ H locs cells slots ls hR hk hl) (fun z => kf z p l e R s m args below meth c mc Z C hZ H locs cells slots ls hR hk hl)
theorem X_icmp_ne {x y : Int32} {off : Int} {tgt : Nat} (hd : Dc mi.2.1 pc (.if_icmp .ne off) 3 nx) (ht : (pc : Int) + off = (tgt : Int)) (kt : ¬ x = y → X G mi d kc tgt lv rest S μ Q) (kf : x = y → X G mi d kc nx lv rest S μ Q) : X G mi d kc pc lv (.int y :: .int x :: rest) S μ Q := by
  intro p l e R s m args below meth c mc Z C hZ H locs cells slots ls hR hk hl
  obtain ⟨hd, rfl⟩ := hd
  exact lv_icmp_ne C.1 C.2.1 hd ht (fun z => kt z p l e R s m args below meth c mc Z C hZ H locs cells slots ls hR hk hl) (fun z => kf z p l e R s m args below meth c mc Z C hZ H locs cells slots ls hR hk hl)
theorem X_if_ne {x : Int32} {off : Int} {tgt : Nat} (hd : Dc mi.2.1 pc (.ifCond .ne off) 3 nx) (ht : (pc : Int) + off = (tgt : Int)) (kt : ¬ x = 0 → X G mi d kc tgt lv rest S μ Q) (kf : x = 0 → X G mi d kc nx lv rest S μ Q) : X G mi d kc pc lv (.int x :: rest) S μ Q := by
  intro p l e R s m args below meth c mc Z C hZ H locs cells slots ls hR hk hl
  obtain ⟨hd, rfl⟩ := hd
  exact lv_if_ne C.1 C.2.1 hd ht (fun z => kt z p l e R s m args below meth c mc Z C hZ H locs cells slots ls hR hk hl) (fun z => kf z p l e R s m args below meth c mc Z C hZ H locs cells slots ls hR hk hl)
theorem X_icmp_lt {x y : Int32} {off : Int} {tgt : Nat} (hd : Dc mi.2.1 pc (.if_icmp .lt off) 3 nx) (ht : (pc : Int) + off = (tgt : Int)) (kt : x < y → X G mi d kc tgt lv rest S μ Q) (kf : ¬ x < y → X G mi d kc nx lv rest S μ Q) : X G mi d kc pc lv (.int y :: .int x :: rest) S μ Q := by
  intro p l e R s m args below meth c mc Z C hZ H locs cells slots ls hR hk hl
  obtain ⟨hd, rfl⟩ := hd
  exact lv_icmp_lt C.1 C.2.1 hd ht (fun z => kt z p l e R s m args below meth c mc Z C hZ H locs cells slots ls hR hk hl) (fun z => kf z p l e R s m args below meth c mc Z C hZ H locs cells slots ls hR hk hl)
theorem X_if_lt {x : Int32} {off : Int} {tgt : Nat} (hd : Dc mi.2.1 pc (.ifCond .lt off) 3 nx) (ht : (pc : Int) + off = (tgt : Int)) (kt : x < 0 → X G mi d kc tgt lv rest S μ Q) (kf : ¬ x < 0 → X G mi d kc nx lv rest S μ Q) : X G mi d kc pc lv (.int x :: rest) S μ Q := by
  intro p l e R s m args below meth c mc Z C hZ H locs cells slots ls hR hk hl
  obtain ⟨hd, rfl⟩ := hd
  exact lv_if_lt C.1 C.2.1 hd ht (fun z => kt z p l e R s m args below meth c mc Z C hZ H locs cells slots ls hR hk hl) (fun z => kf z p l e R s m args below meth c mc Z C hZ H locs cells slots ls hR hk hl)
theorem X_icmp_ge {x y : Int32} {off : Int} {tgt : Nat} (hd : Dc mi.2.1 pc (.if_icmp .ge off) 3 nx) (ht : (pc : Int) + off = (tgt : Int)) (kt : y ≤ x → X G mi d kc tgt lv rest S μ Q) (kf : ¬ y ≤ x → X G mi d kc nx lv rest S μ Q) : X G mi d kc pc lv (.int y :: .int x :: rest) S μ Q := by
  intro p l e R s m args below meth c mc Z C hZ H locs cells slots ls hR hk hl
  obtain ⟨hd, rfl⟩ := hd
  exact lv_icmp_ge C.1 C.2.1 hd ht (fun z => kt z p l e R s m args below meth c mc Z C hZ H locs cells slots ls hR hk hl) (fun z => kf z p l e R s m args below meth c mc Z C hZ H locs cells slots ls hR hk hl)
theorem X_if_ge {x : Int32} {off : Int} {tgt : Nat} (hd : Dc mi.2.1 pc (.ifCond .ge off) 3 nx) (ht : (pc : Int) + off = (tgt : Int)) (kt : 0 ≤ x → X G mi d kc tgt lv rest S μ Q) (kf : ¬ 0 ≤ x → X G mi d kc nx lv rest S μ Q) : X G mi d kc pc lv (.int x :: rest) S μ Q := by
  intro p l e R s m args below meth c mc Z C hZ H locs cells slots ls hR hk hl
  obtain ⟨hd, rfl⟩ := hd
  exact lv_if_ge C.1 C.2.1 hd ht (fun z => kt z p l e R s m args below meth c mc Z C hZ H locs cells slots ls hR hk hl) (fun z => kf z p l e R s m args below meth c mc Z C hZ H locs cells slots ls hR hk hl)
theorem X_icmp_gt {x y : Int32} {off : Int} {tgt : Nat} (hd : Dc mi.2.1 pc (.if_icmp .gt off) 3 nx) (ht : (pc : Int) + off = (tgt : Int)) (kt : y < x → X G mi d kc tgt lv rest S μ Q) (kf : ¬ y < x → X G mi d kc nx lv rest S μ Q) : X G mi d kc pc lv (.int y :: .int x :: rest) S μ Q := by
  intro p l e R s m args below meth c mc Z C hZ H locs cells slots ls hR hk hl
  obtain ⟨hd, rfl⟩ := hd
  exact lv_icmp_gt C.1 C.2.1 hd ht (fun z => kt z p l e R s m args below meth c mc Z C hZ H locs cells slots ls hR hk hl) (fun z => kf z p l e R s m args below meth c mc Z C hZ H locs cells slots ls hR hk hl)
theorem X_if_gt {x : Int32} {off : Int} {tgt : Nat} (hd : Dc mi.2.1 pc (.ifCond .gt off) 3 nx) (ht : (pc : Int) + off = (tgt : Int)) (kt : 0 < x → X G mi d kc tgt lv rest S μ Q) (kf : ¬ 0 < x → X G mi d kc nx lv rest S μ Q) : X G mi d kc pc lv (.int x :: rest) S μ Q := by
  intro p l e R s m args below meth c mc Z C hZ H locs cells slots ls hR hk hl
  obtain ⟨hd, rfl⟩ := hd
  exact lv_if_gt C.1 C.2.1 hd ht (fun z => kt z p l e R s m args below meth c mc Z C hZ H locs cells slots ls hR hk hl) (fun z => kf z p l e R s m args below meth c mc Z C hZ H locs cells slots ls hR hk hl)
theorem X_icmp_le {x y : Int32} {off : Int} {tgt : Nat} (hd : Dc mi.2.1 pc (.if_icmp .le off) 3 nx) (ht : (pc : Int) + off = (tgt : Int)) (kt : x ≤ y → X G mi d kc tgt lv rest S μ Q) (kf : ¬ x ≤ y → X G mi d kc nx lv rest S μ Q) : X G mi d kc pc lv (.int y :: .int x :: rest) S μ Q := by
  intro p l e R s m args below meth c mc Z C hZ H locs cells slots ls hR hk hl
  obtain ⟨hd, rfl⟩ := hd
  exact lv_icmp_le C.1 C.2.1 hd ht (fun z => kt z p l e R s m args below meth c mc Z C hZ H locs cells slots ls hR hk hl) (fun z => kf z p l e R s m args below meth c mc Z C hZ H locs cells slots ls hR hk hl)
theorem X_if_le {x : Int32} {off : Int} {tgt : Nat} (hd : Dc mi.2.1 pc (.ifCond .le off) 3 nx) (ht : (pc : Int) + off = (tgt : Int)) (kt : x ≤ 0 → X G mi d kc tgt lv rest S μ Q) (kf : ¬ x ≤ 0 → X G mi d kc nx lv rest S μ Q) : X G mi d kc pc lv (.int x :: rest) S μ Q := by
  intro p l e R s m args below meth c mc Z C hZ H locs cells slots ls hR hk hl
  obtain ⟨hd, rfl⟩ := hd
  exact lv_if_le C.1 C.2.1 hd ht (fun z => kt z p l e R s m args below meth c mc Z C hZ H locs cells slots ls hR hk hl) (fun z => kf z p l e R s m args below meth c mc Z C hZ H locs cells slots ls hR hk hl)
theorem X_goto {off : Int} {tgt : Nat} (hd : Dc mi.2.1 pc (.goto off) 3 nx) (ht : (pc : Int) + off = (tgt : Int)) (k : X G mi d kc tgt lv rest S μ Q) : X G mi d kc pc lv rest S μ Q := by
  intro p l e R s m args below meth c mc Z C hZ H locs cells slots ls hR hk hl
  obtain ⟨hd, rfl⟩ := hd
  exact lv_goto C.1 C.2.1 hd ht (k p l e R s m args below meth c mc Z C hZ H locs cells slots ls hR hk hl)
theorem X_ifnull {x : Nat} {off : Int} {tgt : Nat} (hd : Dc mi.2.1 pc (.ifnull off) 3 nx) (ht : (pc : Int) + off = (tgt : Int)) (k : X G mi d kc nx lv rest S μ Q) : X G mi d kc pc lv (.ref x :: rest) S μ Q := by
  intro p l e R s m args below meth c mc Z C hZ H locs cells slots ls hR hk hl
  obtain ⟨hd, rfl⟩ := hd
  exact lv_ifnull C.1 C.2.1 hd (k p l e R s m args below meth c mc Z C hZ H locs cells slots ls hR hk hl)
theorem X_ifnonnull {x : Nat} {off : Int} {tgt : Nat} (hd : Dc mi.2.1 pc (.ifnonnull off) 3 nx) (ht : (pc : Int) + off = (tgt : Int)) (k : X G mi d kc tgt lv rest S μ Q) : X G mi d kc pc lv (.ref x :: rest) S μ Q := by
  intro p l e R s m args below meth c mc Z C hZ H locs cells slots ls hR hk hl
  obtain ⟨hd, rfl⟩ := hd
  exact lv_ifnonnull C.1 C.2.1 hd ht (k p l e R s m args below meth c mc Z C hZ H locs cells slots ls hR hk hl)
theorem X_ifnullN {off : Int} {tgt : Nat} (hd : Dc mi.2.1 pc (.ifnull off) 3 nx) (ht : (pc : Int) + off = (tgt : Int)) (k : X G mi d kc tgt lv rest S μ Q) : X G mi d kc pc lv (.null :: rest) S μ Q := by
  intro p l e R s m args below meth c mc Z C hZ H locs cells slots ls hR hk hl
  obtain ⟨hd, rfl⟩ := hd
  exact lv_ifnullN C.1 C.2.1 hd ht (k p l e R s m args below meth c mc Z C hZ H locs cells slots ls hR hk hl)
theorem X_ifnonnullN {off : Int} {tgt : Nat} (hd : Dc mi.2.1 pc (.ifnonnull off) 3 nx) (ht : (pc : Int) + off = (tgt : Int)) (k : X G mi d kc nx lv rest S μ Q) : X G mi d kc pc lv (.null :: rest) S μ Q := by
  intro p l e R s m args below meth c mc Z C hZ H locs cells slots ls hR hk hl
  obtain ⟨hd, rfl⟩ := hd
  exact lv_ifnonnullN C.1 C.2.1 hd (k p l e R s m args below meth c mc Z C hZ H locs cells slots ls hR hk hl)
theorem X_lookup {dflt : Int} {ps : Array (Int × Int)} {len : Nat} {x : Int32} {off : Int} {tgt : Nat} (hd : Dc mi.2.1 pc (.lookupswitch dflt ps) len nx) (hp : (ps.toList.zip (ps.toList.drop 1)).all (fun (a, next) => a.1 < next.1) = true) (ho : Op.lookupswitch.offset ps.toList dflt x.toInt = off) (ht : (pc : Int) + off = (tgt : Int)) (k : X G mi d kc tgt lv rest S μ Q) : X G mi d kc pc lv (.int x :: rest) S μ Q := by
  intro p l e R s m args below meth c mc Z C hZ H locs cells slots ls hR hk hl
  obtain ⟨hd, rfl⟩ := hd
  exact lv_lookup C.1 C.2.1 hd hp ho ht (k p l e R s m args below meth c mc Z C hZ H locs cells slots ls hR hk hl)
theorem X_tableOut {dflt lo hi : Int} {offs : Array Int} {len : Nat} {x : Int32} {tgt : Nat} (hd : Dc mi.2.1 pc (.tableswitch dflt lo hi offs) len nx) (h : x.toInt < lo ∨ hi < x.toInt) (ht : (pc : Int) + dflt = (tgt : Int)) (k : X G mi d kc tgt lv rest S μ Q) : X G mi d kc pc lv (.int x :: rest) S μ Q := by
  intro p l e R s m args below meth c mc Z C hZ H locs cells slots ls hR hk hl
  obtain ⟨hd, rfl⟩ := hd
  exact lv_tableOut C.1 C.2.1 hd h ht (k p l e R s m args below meth c mc Z C hZ H locs cells slots ls hR hk hl)
theorem X_tableIn {dflt lo hi : Int} {offs : Array Int} {len : Nat} {x : Int32} {off : Int} {tgt : Nat} (hd : Dc mi.2.1 pc (.tableswitch dflt lo hi offs) len nx) (h1 : ¬ x.toInt < lo) (h2 : ¬ hi < x.toInt) (ho : offs[(x.toInt - lo).toNat]? = some off) (ht : (pc : Int) + off = (tgt : Int)) (k : X G mi d kc tgt lv rest S μ Q) : X G mi d kc pc lv (.int x :: rest) S μ Q := by
  intro p l e R s m args below meth c mc Z C hZ H locs cells slots ls hR hk hl
  obtain ⟨hd, rfl⟩ := hd
  exact lv_tableIn C.1 C.2.1 hd h1 h2 ho ht (k p l e R s m args below meth c mc Z C hZ H locs cells slots ls hR hk hl)
end
end
section
/-! The layer's rules of the heap: fields, arrays, what is made, statics. -/
def FL (own : String) (idx ci k : Nat) : Prop := ci < 11 ∧ k < fN ci ∧ Cond.fieldLink own idx (cT ci k).1 (cT ci k).2.1 (cT ci k).2.2.1 ∈ lw_gd
theorem cls_gd {ci : Nat} (h : ci < 11) : ∀ w ∈ u_ws (cN ci) (cT ci) (fN ci), w ∈ lw_gd := by
  intro w hw
  refine gd (cls_in ci h w hw) ?_
  obtain ⟨k, -, rfl⟩ := List.mem_map.mp hw
  unfold u_lay
  split <;> rfl
theorem cls_apart {ci : Nat} (h : ci < 11) {s : State} {args : Array Value} {cC : ClassId} {iS : Nat → Nat} (hts : ∀ w ∈ lw_gd, w.before args s = true) (hK : u_Kn s (cN ci) (cT ci) (fN ci) cC iS) : ∀ x y, x < fN ci → y < fN ci → x ≠ y → iS x ≠ iS y := by
  intro x y hx hy hne
  obtain ⟨hS, -⟩ := hK
  obtain ⟨_, _, _, fa, hia, ea⟩ := hS x hx
  obtain ⟨_, _, _, fb, hib, eb⟩ := hS y hy
  rw [← ea, ← eb]
  refine u_apart (u_lays hts (cls_gd h) hx) (u_lays hts (cls_gd h) hy) hia hib ?_
  rw [(State.fieldFound?_type hia (cls_ty ci h x hx)).1, (State.fieldFound?_type hib (cls_ty ci h y hy)).1]
  exact cls_nm ci h x hx y hy hne
/-- a field's number, one place anew -/
def su (μ : Mu) (a i : Nat) (x : Int32) : Mu := fun b => if b = a then upd (μ a) i x else μ b
def Su (S : Sh) (a : Nat) (k : Kd) : Sh := (S.1, fun q => if q = a then some k else S.2 q)
theorem su_same {μ : Mu} {a i : Nat} {x : Int32} : su μ a i x a = upd (μ a) i x := if_pos rfl
theorem su_ne {μ : Mu} {a i q : Nat} {x : Int32} (h : q ≠ a) : su μ a i x q = μ q := if_neg h
theorem Mx_same {μ : Mu} {a : Nat} {f : Nat → Int32} : Mx μ a f a = f := if_pos rfl
theorem Mx_ne {μ : Mu} {a q : Nat} {f : Nat → Int32} (h : q ≠ a) : Mx μ a f q = μ q := if_neg h
theorem fV_int {ci k : Nat} {r : Nat → Option Nat} {f : Nat → Int32} (h : fI ci k = true) (x : Int32) : ∀ j, updV (fV ci r f) k (.int x) j = fV ci r (upd f k x) j := by
  intro j
  unfold updV fV upd
  by_cases e : j = k
  · subst e; simp [h]
  · simp [e]
theorem fV_ref {ci k : Nat} {r : Nat → Option Nat} {f : Nat → Int32} (h : fI ci k = false) (x : Option Nat) : ∀ j, updV (fV ci r f) k (va_rf x) j = fV ci (va_up r k x) f j := by
  intro j
  unfold updV fV va_up
  by_cases e : j = k
  · subst e; simp [h]
  · simp [e]
section
variable {G : Gl} {mi : MI} {d kc pc nx : Nat} {lv : List (Nat × Value)} {rest : List Value} {S : Sh} {μ : Mu} {Q : Option Value → Sh → Mu → Prop}
theorem X_getI {a ci k idx : Nat} {r : Nat → Option Nat} (hd : Dc mi.2.1 pc (.getfield idx) 3 nx) (hf : FL mi.1.cls idx ci k) (hb : S.2 a = some (kO ci r)) (hi : fI ci k = true) (kk : X G mi d kc nx lv (.int (μ a k) :: rest) S μ Q) : X G mi d kc pc lv (.ref a :: rest) S μ Q := by
  intro p l e R s m args below meth c mc Z C hZ H locs cells slots ls hR hk hl
  obtain ⟨hd, rfl⟩ := hd
  obtain ⟨hci, hkN, hlk⟩ := hf
  obtain ⟨hga, ce, q1, q2, q3, q4⟩ := hR.at hb
  have hts := C.2.2.2.2.2.1
  obtain ⟨hS, hfc, kC, hkC, hkind⟩ := u_Kn_moved C.2.2.2.2.2.2.2.2.2.1.alike (C.2.2.2.2.2.2.2.2.2.2.1 ci hci)
  obtain ⟨cf, kf, fi, f, hi2, hsl⟩ := hS k hkN
  refine W.getf C.1 C.2.1 C.2.2.2.2.1 (hts _ hlk) hi2 (u_facts hfc hkC (u_lays hts (cls_gd hci) hkN) hi2).1 q1 (by rw [q3]; exact fun h => by cases h) (v := .int (μ a k)) ?_ rfl rfl hd (kk p l e R s m args below meth c mc Z C hZ H locs cells slots ls hR hk hl)
  rw [hsl, q4 k hkN]
  simp [fV, hi]
theorem X_getR {a ci k idx : Nat} {r : Nat → Option Nat} {q : Nat} (hd : Dc mi.2.1 pc (.getfield idx) 3 nx) (hf : FL mi.1.cls idx ci k) (hb : S.2 a = some (kO ci r)) (hi : fI ci k = false) (hr : r k = some q) (kk : X G mi d kc nx lv (.ref q :: rest) S μ Q) : X G mi d kc pc lv (.ref a :: rest) S μ Q := by
  intro p l e R s m args below meth c mc Z C hZ H locs cells slots ls hR hk hl
  obtain ⟨hd, rfl⟩ := hd
  obtain ⟨hci, hkN, hlk⟩ := hf
  obtain ⟨hga, ce, q1, q2, q3, q4⟩ := hR.at hb
  have hts := C.2.2.2.2.2.1
  obtain ⟨hS, hfc, kC, hkC, hkind⟩ := u_Kn_moved C.2.2.2.2.2.2.2.2.2.1.alike (C.2.2.2.2.2.2.2.2.2.2.1 ci hci)
  obtain ⟨cf, kf, fi, f, hi2, hsl⟩ := hS k hkN
  refine W.getf C.1 C.2.1 C.2.2.2.2.1 (hts _ hlk) hi2 (u_facts hfc hkC (u_lays hts (cls_gd hci) hkN) hi2).1 q1 (by rw [q3]; exact fun h => by cases h) (v := .ref q) ?_ rfl rfl hd (kk p l e R s m args below meth c mc Z C hZ H locs cells slots ls hR hk hl)
  rw [hsl, q4 k hkN]
  simp [fV, hi, hr, va_rf]
theorem X_getN {a ci k idx : Nat} {r : Nat → Option Nat} (hd : Dc mi.2.1 pc (.getfield idx) 3 nx) (hf : FL mi.1.cls idx ci k) (hb : S.2 a = some (kO ci r)) (hi : fI ci k = false) (hr : r k = none) (kk : X G mi d kc nx lv (.null :: rest) S μ Q) : X G mi d kc pc lv (.ref a :: rest) S μ Q := by
  intro p l e R s m args below meth c mc Z C hZ H locs cells slots ls hR hk hl
  obtain ⟨hd, rfl⟩ := hd
  obtain ⟨hci, hkN, hlk⟩ := hf
  obtain ⟨hga, ce, q1, q2, q3, q4⟩ := hR.at hb
  have hts := C.2.2.2.2.2.1
  obtain ⟨hS, hfc, kC, hkC, hkind⟩ := u_Kn_moved C.2.2.2.2.2.2.2.2.2.1.alike (C.2.2.2.2.2.2.2.2.2.2.1 ci hci)
  obtain ⟨cf, kf, fi, f, hi2, hsl⟩ := hS k hkN
  refine W.getf C.1 C.2.1 C.2.2.2.2.1 (hts _ hlk) hi2 (u_facts hfc hkC (u_lays hts (cls_gd hci) hkN) hi2).1 q1 (by rw [q3]; exact fun h => by cases h) (v := .null) ?_ rfl rfl hd (kk p l e R s m args below meth c mc Z C hZ H locs cells slots ls hR hk hl)
  rw [hsl, q4 k hkN]
  simp [fV, hi, hr, va_rf]
theorem X_putI {a ci k idx : Nat} {r : Nat → Option Nat} {x : Int32} (hd : Dc mi.2.1 pc (.putfield idx) 3 nx) (hf : FL mi.1.cls idx ci k) (hb : S.2 a = some (kO ci r)) (hi : fI ci k = true) (hfin : (cT ci k).2.2.2 = false) (hnf : narrow (cTy ci k) (.int x) = .int x ∧ fits (cTy ci k) (.int x) = true) (kk : X G mi d kc nx lv rest S (su μ a k x) Q) : X G mi d kc pc lv (.int x :: .ref a :: rest) S μ Q := by
  intro p l e R s m args below meth c mc Z C hZ H locs cells slots ls hR hk hl
  obtain ⟨hd, rfl⟩ := hd
  obtain ⟨hci, hkN, hlk⟩ := hf
  obtain ⟨hga, ce, q1, q2, q3, q4⟩ := hR.at hb
  have hts := C.2.2.2.2.2.1
  obtain ⟨hS, hfc, kC, hkC, hkind⟩ := u_Kn_moved C.2.2.2.2.2.2.2.2.2.1.alike (C.2.2.2.2.2.2.2.2.2.2.1 ci hci)
  obtain ⟨cf, kf, fi, f, hi2, hsl⟩ := hS k hkN
  have hap := cls_apart hci hts ⟨hS, hfc, kC, hkC, hkind⟩
  have hlay := hts _ (cls_gd hci _ (u_in_lay hkN))
  unfold u_lay at hlay
  have hst := (u_facts hfc hkC (u_lays hts (cls_gd hci) hkN) hi2).1
  rw [if_neg (by rw [hfin]; decide)] at hlay
  have h6 := u_store hfc hkC hkind hlay hi2 (cls_ty ci hci k hkN) hnf.1 hnf.2
  refine W.putK C.1 C.2.1 (f := f) ⟨C.2.2.2.2.1, hts _ hlk, ⟨_, _, _, hi2⟩, hst⟩ (by rw [q2]; exact h6) q1 q3 (by rw [hsl]; exact k2_hasslot (q4 k hkN)) rfl rfl hd fun H1 e1 e2 e3 => ?_
  rw [hsl] at e1
  refine kk p l e R s m args below meth c mc Z C hZ H1 _ cells slots ls (hR.put rfl hga (hR.lt hb) e2 e3 (fun q hq => ?_) ?_) hk hl
  · exact ⟨rfl, su_ne hq⟩
  · rw [hb, su_same]
    exact ⟨hga, t_OB.to ⟨_, e1, q2, q3, t_set q4 hap hkN _⟩ (fun j _ => fV_int hi _ j)⟩
theorem X_putR {a ci k idx : Nat} {r : Nat → Option Nat} {q : Nat} (hd : Dc mi.2.1 pc (.putfield idx) 3 nx) (hf : FL mi.1.cls idx ci k) (hb : S.2 a = some (kO ci r)) (hi : fI ci k = false) (hfin : (cT ci k).2.2.2 = false) (hnf : narrow (cTy ci k) (.ref q) = .ref q ∧ fits (cTy ci k) (.ref q) = true) (kk : X G mi d kc nx lv rest (Su S a (kO ci (va_up r k (some q)))) μ Q) : X G mi d kc pc lv (.ref q :: .ref a :: rest) S μ Q := by
  intro p l e R s m args below meth c mc Z C hZ H locs cells slots ls hR hk hl
  obtain ⟨hd, rfl⟩ := hd
  obtain ⟨hci, hkN, hlk⟩ := hf
  obtain ⟨hga, ce, q1, q2, q3, q4⟩ := hR.at hb
  have hts := C.2.2.2.2.2.1
  obtain ⟨hS, hfc, kC, hkC, hkind⟩ := u_Kn_moved C.2.2.2.2.2.2.2.2.2.1.alike (C.2.2.2.2.2.2.2.2.2.2.1 ci hci)
  obtain ⟨cf, kf, fi, f, hi2, hsl⟩ := hS k hkN
  have hap := cls_apart hci hts ⟨hS, hfc, kC, hkC, hkind⟩
  have hlay := hts _ (cls_gd hci _ (u_in_lay hkN))
  unfold u_lay at hlay
  have hst := (u_facts hfc hkC (u_lays hts (cls_gd hci) hkN) hi2).1
  rw [if_neg (by rw [hfin]; decide)] at hlay
  have h6 := u_store hfc hkC hkind hlay hi2 (cls_ty ci hci k hkN) hnf.1 hnf.2
  refine W.putK C.1 C.2.1 (f := f) ⟨C.2.2.2.2.1, hts _ hlk, ⟨_, _, _, hi2⟩, hst⟩ (by rw [q2]; exact h6) q1 q3 (by rw [hsl]; exact k2_hasslot (q4 k hkN)) rfl rfl hd fun H1 e1 e2 e3 => ?_
  rw [hsl] at e1
  refine kk p l e R s m args below meth c mc Z C hZ H1 _ cells slots ls (hR.put rfl hga (hR.lt hb) e2 e3 (fun q hq => ?_) ?_) hk hl
  · exact ⟨if_neg hq, rfl⟩
  · rw [show (Su S a _).2 a = _ from if_pos rfl]
    exact ⟨hga, t_OB.to ⟨_, e1, q2, q3, t_set q4 hap hkN _⟩ (fun j _ => fV_ref hi (some q) j)⟩
theorem X_putN {a ci k idx : Nat} {r : Nat → Option Nat} (hd : Dc mi.2.1 pc (.putfield idx) 3 nx) (hf : FL mi.1.cls idx ci k) (hb : S.2 a = some (kO ci r)) (hi : fI ci k = false) (hfin : (cT ci k).2.2.2 = false) (hnf : narrow (cTy ci k) (.null) = .null ∧ fits (cTy ci k) (.null) = true) (kk : X G mi d kc nx lv rest (Su S a (kO ci (va_up r k none))) μ Q) : X G mi d kc pc lv (.null :: .ref a :: rest) S μ Q := by
  intro p l e R s m args below meth c mc Z C hZ H locs cells slots ls hR hk hl
  obtain ⟨hd, rfl⟩ := hd
  obtain ⟨hci, hkN, hlk⟩ := hf
  obtain ⟨hga, ce, q1, q2, q3, q4⟩ := hR.at hb
  have hts := C.2.2.2.2.2.1
  obtain ⟨hS, hfc, kC, hkC, hkind⟩ := u_Kn_moved C.2.2.2.2.2.2.2.2.2.1.alike (C.2.2.2.2.2.2.2.2.2.2.1 ci hci)
  obtain ⟨cf, kf, fi, f, hi2, hsl⟩ := hS k hkN
  have hap := cls_apart hci hts ⟨hS, hfc, kC, hkC, hkind⟩
  have hlay := hts _ (cls_gd hci _ (u_in_lay hkN))
  unfold u_lay at hlay
  have hst := (u_facts hfc hkC (u_lays hts (cls_gd hci) hkN) hi2).1
  rw [if_neg (by rw [hfin]; decide)] at hlay
  have h6 := u_store hfc hkC hkind hlay hi2 (cls_ty ci hci k hkN) hnf.1 hnf.2
  refine W.putK C.1 C.2.1 (f := f) ⟨C.2.2.2.2.1, hts _ hlk, ⟨_, _, _, hi2⟩, hst⟩ (by rw [q2]; exact h6) q1 q3 (by rw [hsl]; exact k2_hasslot (q4 k hkN)) rfl rfl hd fun H1 e1 e2 e3 => ?_
  rw [hsl] at e1
  refine kk p l e R s m args below meth c mc Z C hZ H1 _ cells slots ls (hR.put rfl hga (hR.lt hb) e2 e3 (fun q hq => ?_) ?_) hk hl
  · exact ⟨if_neg hq, rfl⟩
  · rw [show (Su S a _).2 a = _ from if_pos rfl]
    exact ⟨hga, t_OB.to ⟨_, e1, q2, q3, t_set q4 hap hkN _⟩ (fun j _ => fV_ref hi none j)⟩
theorem X_putRF {a ci k idx : Nat} {r : Nat → Option Nat} {q : Nat} (hd : Dc mi.2.1 pc (.putfield idx) 3 nx) (hf : FL mi.1.cls idx ci k) (hb : S.2 a = some (kO ci r)) (hi : fI ci k = false) (hfin : (cT ci k).2.2.2 = true) (hin2 : mi.1.name = "<init>") (hdecl : (cT ci k).1 = mi.1.cls) (hnf : narrow (cTy ci k) (.ref q) = .ref q ∧ fits (cTy ci k) (.ref q) = true) (kk : X G mi d kc nx lv rest (Su S a (kO ci (va_up r k (some q)))) μ Q) : X G mi d kc pc lv (.ref q :: .ref a :: rest) S μ Q := by
  intro p l e R s m args below meth c mc Z C hZ H locs cells slots ls hR hk hl
  obtain ⟨hd, rfl⟩ := hd
  obtain ⟨hci, hkN, hlk⟩ := hf
  obtain ⟨hga, ce, q1, q2, q3, q4⟩ := hR.at hb
  have hts := C.2.2.2.2.2.1
  obtain ⟨hS, hfc, kC, hkC, hkind⟩ := u_Kn_moved C.2.2.2.2.2.2.2.2.2.1.alike (C.2.2.2.2.2.2.2.2.2.2.1 ci hci)
  obtain ⟨cf, kf, fi, f, hi2, hsl⟩ := hS k hkN
  have hap := cls_apart hci hts ⟨hS, hfc, kC, hkC, hkind⟩
  have hlay := hts _ (cls_gd hci _ (u_in_lay hkN))
  unfold u_lay at hlay
  have hst := (u_facts hfc hkC (u_lays hts (cls_gd hci) hkN) hi2).1
  rw [if_pos hfin] at hlay
  have hcf : m.cls = cf := by
    obtain ⟨_, _, c', _, _, _, -, -, hf', -, -, -, hown2, -⟩ := Cond.laysFinal_spec hlay
    have e1 : c' = cf := by have := hi2.symm.trans hf'; simp at this; exact this.1.symm
    rw [hdecl] at hown2
    rw [← e1]; exact Option.some.inj (C.2.2.2.2.1.symm.trans hown2)
  have h6 := u_fits hfc hkC hkind (Or.inr hlay) hi2 (cls_ty ci hci k hkN) hnf.1 hnf.2
  refine W.putFinK C.1 C.2.1 C.2.2.2.2.1 (hts _ hlk) hi2 hst hcf (C.2.2.2.2.2.2.2.1.trans hin2) (by rw [q2]; exact h6) q1 q3 (by rw [hsl]; exact k2_hasslot (q4 k hkN)) rfl rfl hd fun H1 e1 e2 e3 => ?_
  rw [hsl] at e1
  refine kk p l e R s m args below meth c mc Z C hZ H1 _ cells slots ls (hR.put rfl hga (hR.lt hb) e2 e3 (fun q hq => ?_) ?_) hk hl
  · exact ⟨if_neg hq, rfl⟩
  · rw [show (Su S a _).2 a = _ from if_pos rfl]
    exact ⟨hga, t_OB.to ⟨_, e1, q2, q3, t_set q4 hap hkN _⟩ (fun j _ => fV_ref hi (some q) j)⟩
theorem X_iald {a n : Nat} {i : Int32} (hd : Dc mi.2.1 pc .iaload 1 nx) (hb : S.2 a = some (kI n)) (hin : vp_in i n) (kk : X G mi d kc nx lv (.int (μ a i.toNatClampNeg) :: rest) S μ Q) : X G mi d kc pc lv (.int i :: .ref a :: rest) S μ Q := by
  intro p l e R s m args below meth c mc Z C hZ H locs cells slots ls hR hk hl
  obtain ⟨hd, rfl⟩ := hd
  obtain ⟨hga, cA, hA, q1⟩ := hR.at hb
  have hlt : i.toNatClampNeg < n := Nat.not_le.mp fun q => hin (Or.inr q)
  exact W.iald (v := .int (μ a i.toNatClampNeg)) C.1 C.2.1 q1 (arrOfT_moved C.2.2.2.2.2.2.2.2.2.1.alike hA n _) (fun q => by cases q) (by rw [arrV_size]; exact hin) (by rw [arrV_read _ _ hlt]) rfl rfl hd (kk p l e R s m args below meth c mc Z C hZ H locs cells slots ls hR hk hl)
theorem X_ialdC {a n : Nat} {i : Int32} (hd : Dc mi.2.1 pc .iaload 1 nx) (hb : S.2 a = some (kC n)) (hin : vp_in i n) (kk : X G mi d kc nx lv (.int (μ a i.toNatClampNeg) :: rest) S μ Q) : X G mi d kc pc lv (.int i :: .ref a :: rest) S μ Q := by
  intro p l e R s m args below meth c mc Z C hZ H locs cells slots ls hR hk hl
  obtain ⟨hd, rfl⟩ := hd
  obtain ⟨-, ce, q1, q2, q3, q4, q5, q6⟩ := hR.at hb
  have hlt : i.toNatClampNeg < n := Nat.not_le.mp fun q => hin (Or.inr q)
  exact W.iald (v := .int (μ a i.toNatClampNeg)) C.1 C.2.1 q1 (State.isArrayOf_alike C.2.2.2.2.2.2.2.2.2.1.alike q2) q3 (fun h => hin (h.elim Or.inl (fun z => Or.inr (Nat.le_trans q4 z)))) (q6 _ hlt) rfl rfl hd (kk p l e R s m args below meth c mc Z C hZ H locs cells slots ls hR hk hl)
theorem X_bald {a n : Nat} {i : Int32} (hd : Dc mi.2.1 pc .baload 1 nx) (hb : S.2 a = some (kB n)) (hin : vp_in i n) (kk : X G mi d kc nx lv (.int (μ a i.toNatClampNeg) :: rest) S μ Q) : X G mi d kc pc lv (.int i :: .ref a :: rest) S μ Q := by
  intro p l e R s m args below meth c mc Z C hZ H locs cells slots ls hR hk hl
  obtain ⟨hd, rfl⟩ := hd
  obtain ⟨-, ce, q1, q2, q3, q4, q5, q6⟩ := hR.at hb
  have hlt : i.toNatClampNeg < n := Nat.not_le.mp fun q => hin (Or.inr q)
  exact W.bald (v := .int (μ a i.toNatClampNeg)) C.1 C.2.1 q1 (State.isArrayOf_alike C.2.2.2.2.2.2.2.2.2.1.alike q2) q3 (fun h => hin (h.elim Or.inl (fun z => Or.inr (Nat.le_trans q4 z)))) (q6 _ hlt) rfl rfl hd (kk p l e R s m args below meth c mc Z C hZ H locs cells slots ls hR hk hl)
theorem X_alen {a n : Nat} (hd : Dc mi.2.1 pc .arraylength 1 nx) (hb : S.2 a = some (kI n)) (kk : X G mi d kc nx lv (.int (nI n) :: rest) S μ Q) : X G mi d kc pc lv (.ref a :: rest) S μ Q := by
  intro p l e R s m args below meth c mc Z C hZ H locs cells slots ls hR hk hl
  obtain ⟨hd, rfl⟩ := hd
  obtain ⟨hga, cA, hA, q1⟩ := hR.at hb
  exact W.alen (n := nI n) (ty := .int) C.1 C.2.1 q1 (arrOfT_moved C.2.2.2.2.2.2.2.2.2.1.alike hA n _) (by rw [arrV_size]; rfl) rfl rfl hd (kk p l e R s m args below meth c mc Z C hZ H locs cells slots ls hR hk hl)
theorem X_alenR {a j n : Nat} {r : Nat → Option Nat} (hd : Dc mi.2.1 pc .arraylength 1 nx) (hb : S.2 a = some (kR j n r)) (kk : X G mi d kc nx lv (.int (nI n) :: rest) S μ Q) : X G mi d kc pc lv (.ref a :: rest) S μ Q := by
  intro p l e R s m args below meth c mc Z C hZ H locs cells slots ls hR hk hl
  obtain ⟨hd, rfl⟩ := hd
  obtain ⟨hga, cA, hA, q1⟩ := hR.at hb
  exact W.alen (n := nI n) (ty := .object (rC j)) C.1 C.2.1 q1 (arrOfT_moved C.2.2.2.2.2.2.2.2.2.1.alike hA.1 n _) (by rw [arrV_size]; rfl) rfl rfl hd (kk p l e R s m args below meth c mc Z C hZ H locs cells slots ls hR hk hl)
theorem X_alenC {a n : Nat} (hd : Dc mi.2.1 pc .arraylength 1 nx) (hb : S.2 a = some (kC n)) (kk : X G mi d kc nx lv (.int (nI n) :: rest) S μ Q) : X G mi d kc pc lv (.ref a :: rest) S μ Q := by
  intro p l e R s m args below meth c mc Z C hZ H locs cells slots ls hR hk hl
  obtain ⟨hd, rfl⟩ := hd
  obtain ⟨-, ce, q1, q2, q3, q4, q5, q6⟩ := hR.at hb
  exact W.alen (n := nI n) (ty := .int) C.1 C.2.1 q1 (State.isArrayOf_alike C.2.2.2.2.2.2.2.2.2.1.alike q2) q5 rfl rfl hd (kk p l e R s m args below meth c mc Z C hZ H locs cells slots ls hR hk hl)
theorem X_alenB {a n : Nat} (hd : Dc mi.2.1 pc .arraylength 1 nx) (hb : S.2 a = some (kB n)) (kk : X G mi d kc nx lv (.int (nI n) :: rest) S μ Q) : X G mi d kc pc lv (.ref a :: rest) S μ Q := by
  intro p l e R s m args below meth c mc Z C hZ H locs cells slots ls hR hk hl
  obtain ⟨hd, rfl⟩ := hd
  obtain ⟨-, ce, q1, q2, q3, q4, q5, q6⟩ := hR.at hb
  exact W.alen (n := nI n) (ty := .byte) C.1 C.2.1 q1 (State.isArrayOf_alike C.2.2.2.2.2.2.2.2.2.1.alike q2) q5 rfl rfl hd (kk p l e R s m args below meth c mc Z C hZ H locs cells slots ls hR hk hl)
theorem X_iast {a n : Nat} {i x : Int32} (hd : Dc mi.2.1 pc .iastore 1 nx) (hb : S.2 a = some (kI n)) (hin : vp_in i n) (kk : X G mi d kc nx lv rest S (su μ a i.toNatClampNeg x) Q) : X G mi d kc pc lv (.int x :: .int i :: .ref a :: rest) S μ Q := by
  intro p l e R s m args below meth c mc Z C hZ H locs cells slots ls hR hk hl
  obtain ⟨hd, rfl⟩ := hd
  obtain ⟨hga, cA, hA, q1⟩ := hR.at hb
  refine W.iast C.1 C.2.1 q1 (arrOfT_moved C.2.2.2.2.2.2.2.2.2.1.alike hA n _) (fun q => by cases q) (by rw [arrV_size]; exact hin) rfl rfl hd fun H1 e1 e2 e3 => ?_
  refine kk p l e R s m args below meth c mc Z C hZ H1 _ cells slots ls (hR.put rfl hga (hR.lt hb) e2 e3 (fun q hq => ⟨rfl, su_ne hq⟩) ?_) hk hl
  rw [hb, su_same]
  refine ⟨hga, cA, hA, ?_⟩
  rw [e1, arrV_store]
  congr 2
  funext q
  by_cases hq : q = i.toNatClampNeg
  · subst hq; simp [updV, upd]
  · simp [updV, upd, hq]
theorem X_aald {a j n q : Nat} {r : Nat → Option Nat} {i : Int32} (hd : Dc mi.2.1 pc .aaload 1 nx) (hb : S.2 a = some (kR j n r)) (hin : vp_in i n) (hr : r i.toNatClampNeg = some q) (kk : X G mi d kc nx lv (.ref q :: rest) S μ Q) : X G mi d kc pc lv (.int i :: .ref a :: rest) S μ Q := by
  intro p l e R s m args below meth c mc Z C hZ H locs cells slots ls hR hk hl
  obtain ⟨hd, rfl⟩ := hd
  obtain ⟨hga, cA, hA, q1⟩ := hR.at hb
  have hlt : i.toNatClampNeg < n := Nat.not_le.mp fun q => hin (Or.inr q)
  exact W.aald (v := .ref q) (ty := .object (rC j)) C.1 C.2.1 q1 (arrOfT_moved C.2.2.2.2.2.2.2.2.2.1.alike hA.1 n _) rfl (fun q => by cases q) (by rw [arrV_size]; exact hin) (by rw [arrV_read _ _ hlt, hr]; rfl) rfl rfl hd (kk p l e R s m args below meth c mc Z C hZ H locs cells slots ls hR hk hl)
theorem X_aast {a j n v ci : Nat} {r rv : Nat → Option Nat} {i : Int32} (hd : Dc mi.2.1 pc .aastore 1 nx) (hb : S.2 a = some (kR j n r)) (hin : vp_in i n) (hv : S.2 v = some (kO ci rv)) (hci : ci < 11) (hj : cN ci = rC j) (kk : X G mi d kc nx lv rest (Su S a (kR j n (va_up r i.toNatClampNeg (some v)))) μ Q) : X G mi d kc pc lv (.ref v :: .int i :: .ref a :: rest) S μ Q := by
  intro p l e R s m args below meth c mc Z C hZ H locs cells slots ls hR hk hl
  obtain ⟨hd, rfl⟩ := hd
  obtain ⟨hga, cA, hA, q1⟩ := hR.at hb
  have hal := C.2.2.2.2.2.2.2.2.2.1.alike
  have hlt : i.toNatClampNeg < n := Nat.not_le.mp fun q => hin (Or.inr q)
  have h0 : ¬ i < 0 := fun q => hin (Or.inl q)
  obtain ⟨-, cv, g1, g2, g3, -⟩ := hR.at hv
  have hcls := (u_Kn_moved hal (C.2.2.2.2.2.2.2.2.2.2.1 ci hci)).2
  obtain ⟨kA, comp, k1, k2, k3, -⟩ := hA.2.moved hal
  rw [← hj] at k3
  have hcomp : comp = G.2.1 ci := Option.some.inj (k3.symm.trans hcls.1)
  subst hcomp
  obtain ⟨kC, hkC, -⟩ := hcls.2
  refine W.aast C.1 C.2.1 q1 (fun q h => by cases h) (fun h => by cases h) k1 k2 rfl hkC ⟨h0, by rw [arrV_size]; exact hlt⟩ g1 (fun q h => by rw [g3] at h; cases h) (by rw [g2]; exact hkC) (by rw [g2]; exact va_assign hcls) rfl rfl hd fun H1 e1 e2 e3 => ?_
  refine kk p l e R s m args below meth c mc Z C hZ H1 _ cells slots ls (hR.put rfl hga (hR.lt hb) e2 e3 (fun q hq => ⟨if_neg hq, rfl⟩) ?_) hk hl
  rw [show (Su S a _).2 a = _ from if_pos rfl]
  refine ⟨hga, cA, hA, ?_⟩
  rw [e1, arrV_store]
  congr 2
  funext q
  by_cases hq : q = i.toNatClampNeg
  · subst hq; simp [updV, va_up, va_rf]
  · simp [updV, va_up, hq]
theorem X_aastT {a j n v t : Nat} {r : Nat → Option Nat} {i : Int32} (hd : Dc mi.2.1 pc .aastore 1 nx) (hb : S.2 a = some (kR j n r)) (hin : vp_in i n) (hv : S.2 v = some (kT t)) (hj : rC j = "java/lang/String") (kk : X G mi d kc nx lv rest (Su S a (kR j n (va_up r i.toNatClampNeg (some v)))) μ Q) : X G mi d kc pc lv (.ref v :: .int i :: .ref a :: rest) S μ Q := by
  intro p l e R s m args below meth c mc Z C hZ H locs cells slots ls hR hk hl
  obtain ⟨hd, rfl⟩ := hd
  obtain ⟨hga, cA, hA, q1⟩ := hR.at hb
  have hal := C.2.2.2.2.2.2.2.2.2.1.alike
  have hlt : i.toNatClampNeg < n := Nat.not_le.mp fun q => hin (Or.inr q)
  have h0 : ¬ i < 0 := fun q => hin (Or.inl q)
  obtain ⟨-, -, cv, g1, g2, g3, -⟩ := hR.at hv
  obtain ⟨kA, comp, k1, k2, k3, -⟩ := hA.2.moved hal
  rw [hj] at k3
  obtain ⟨kE, hkE, -⟩ := Vm.findClass_spec k3
  have hcc : cv.cls = comp := by
    rw [← hal.findClass] at g3
    exact Option.some.inj (g3.symm.trans k3)
  refine W.aast C.1 C.2.1 q1 (fun q h => by cases h) (fun h => by cases h) k1 k2 rfl hkE ⟨h0, by rw [arrV_size]; exact hlt⟩ g1 (fun q h => by rw [h] at g2; cases g2) (by rw [hcc]; exact hkE) (by rw [hcc]; exact va_asg _ _) rfl rfl hd fun H1 e1 e2 e3 => ?_
  refine kk p l e R s m args below meth c mc Z C hZ H1 _ cells slots ls (hR.put rfl hga (hR.lt hb) e2 e3 (fun q hq => ⟨if_neg hq, rfl⟩) ?_) hk hl
  rw [show (Su S a _).2 a = _ from if_pos rfl]
  refine ⟨hga, cA, hA, ?_⟩
  rw [e1, arrV_store]
  congr 2
  funext q
  by_cases hq : q = i.toNatClampNeg
  · subst hq; simp [updV, va_up, va_rf]
  · simp [updV, va_up, hq]
theorem X_newI {n : Int32} {N : Nat} (hd : Dc mi.2.1 pc (.newarray .int) 2 nx) (hn : ¬ n < 0) (hN : n.toNatClampNeg = N) (hN4 : N ≤ 400) (kk : X G mi d kc nx lv (.ref S.1 :: rest) (Sx S (kI N)) (Mx μ S.1 (fun _ => 0)) Q) : X G mi d (kc + 1) pc lv (.int n :: rest) S μ Q := by
  intro p l e R s m args below meth c mc Z C hZ H locs cells slots ls hR hk hl
  obtain ⟨hd, rfl⟩ := hd
  have hroom := C.2.2.2.2.2.2.2.2.1
  refine va_newaK C.1 C.2.1 (atype := .int) (C.2.2.2.2.2.1 (.arrayClass .int) (gd (wk 61 (by decide +kernel)) rfl)) rfl hd rfl hn hN (by show N * 4 ≤ _; omega) (by omega) (by omega) hR.2.1 fun H1 cA e1 e2 e3 hA _ => ?_
  refine W.widen (k := cells + 1) (n := slots + 400) (by omega) (by omega) ?_
  exact kk p l e R s m args below meth c mc Z C hZ H1 locs (cells + 1) (slots + 400) ls (hR.push e2 (fun q hq => e3 q hq) ⟨by have := hR.1; have := hR.2.1; omega, cA, fun n z => State.isArrayOf_alike C.2.2.2.2.2.2.2.2.2.1.alike.symm (hA n z), e1⟩) (by omega) hl
theorem X_newO {ci idx : Nat} (hd : Dc mi.2.1 pc (.new idx) 3 nx) (hci : ci < 11) (h1 : Cond.classLink mi.1.cls idx (cN ci) ∈ lw_gd) (h2 : Cond.instantiable (cN ci) (fN ci) ∈ lw_gd) (h3 : Cond.initialized (cN ci) ∈ lw_gd) (hdf : ∀ j, j < fN ci → defaultValue (cTy ci j) = fV ci (fun _ => none) (fun _ => 0) j) (kk : X G mi d kc nx lv (.ref S.1 :: rest) (Sx S (kO ci (fun _ => none))) (Mx μ S.1 (fun _ => 0)) Q) : X G mi d (kc + 1) pc lv rest S μ Q := by
  intro p l e R s m args below meth c mc Z C hZ H locs cells slots ls hR hk hl
  obtain ⟨hd, rfl⟩ := hd
  have hroom := C.2.2.2.2.2.2.2.2.1
  have hts := C.2.2.2.2.2.1
  have hf4 : fN ci ≤ 400 := by unfold fN; split <;> decide
  have hKn := u_Kn_moved C.2.2.2.2.2.2.2.2.2.1.alike (C.2.2.2.2.2.2.2.2.2.2.1 ci hci)
  refine W.newcK C.1 C.2.1 C.2.2.2.2.1 (hts _ h1) (hts _ h2) (hts _ h3) rfl hd (by omega) (by omega) hKn.2.1 hR.2.1 fun H1 kC hkC e1 e2 e3 => ?_
  refine W.widen (k := cells + 1) (n := slots + 400) (by omega) (by omega) ?_
  exact kk p l e R s m args below meth c mc Z C hZ H1 locs (cells + 1) (slots + 400) ls (hR.push e2 (fun q hq => e3 q hq) ⟨by have := hR.1; have := hR.2.1; omega, (u_born (cTy ci) hts (cls_gd hci) hKn hkC e1 (cls_ty ci hci)).to hdf⟩) (by omega) hl
theorem X_newR {j idx : Nat} {n : Int32} {N : Nat} (hd : Dc mi.2.1 pc (.anewarray idx) 3 nx) (hj : j < 3) (h1 : Cond.classLink mi.1.cls idx (rC j) ∈ lw_gd) (hn : ¬ n < 0) (hN : n.toNatClampNeg = N) (hN4 : N ≤ 400) (kk : X G mi d kc nx lv (.ref S.1 :: rest) (Sx S (kR j N (fun _ => none))) (Mx μ S.1 (fun _ => 0)) Q) : X G mi d (kc + 1) pc lv (.int n :: rest) S μ Q := by
  intro p l e R s m args below meth c mc Z C hZ H locs cells slots ls hR hk hl
  obtain ⟨hd, rfl⟩ := hd
  have hroom := C.2.2.2.2.2.2.2.2.1
  have hts := C.2.2.2.2.2.1
  have hal := C.2.2.2.2.2.2.2.2.2.1.alike
  have hAO : va_AO (rC j) s := va_AO.moved hal (C.2.2.2.2.2.2.2.2.2.2.2.2.2.1 j hj)
  subst hN
  have hsz := hR.2.1
  refine W.anew C.1 C.2.1 C.2.2.2.2.1 (hts _ h1) (va_AO.use hAO) rfl hd rfl hn (by omega) (by omega) (by omega) fun cA kA comp f1 f2 f3 f4 => ?_
  rw [hsz]
  generalize hH1 : H.push ({ cls := cA, slots := Array.replicate n.toNatClampNeg .null, vm := .none } : Cell) = H1
  have z1 : H1.size = S.1 + 1 := by rw [← hH1, Array.size_push, hsz]
  have e1 : H1[S.1]? = some (arrV cA n.toNatClampNeg (fun _ => .null)) := by rw [← hH1, ← hsz, Array.getElem?_push_size, ← arrV_new]
  have o1 : ∀ q : Nat, q < S.1 → H1[q]? = H[q]? := fun q hq => by rw [← hH1, Array.getElem?_push, if_neg (by omega)]
  have hAr : ArrOfT s cA (.object (rC j)) := fun N z => ⟨(fun k h => by cases h), kA, f2, comp, f3⟩
  have hRA : va_RA s cA (.object (rC j)) := ⟨kA, comp, f2, f3, f4, f1⟩
  refine W.widen (k := cells + 1) (n := slots + 400) (by omega) (by omega) ?_
  exact kk p l e R s m args below meth c mc Z C hZ H1 locs (cells + 1) (slots + 400) ls (hR.push z1 o1 ⟨by have := hR.1; omega, cA, ⟨fun n z => State.isArrayOf_alike hal.symm (hAr n z), hRA.moved hal.symm⟩, e1⟩) (by omega) hl
theorem X_objInit {a idx : Nat} (hd : Dc mi.2.1 pc (.invokespecial idx) 3 nx) (h1 : Cond.methodLink mi.1.cls idx Lib.objectInit ∈ lw_gd) (hr : (rest.map fun v => v.category).sum ≤ 8) (kk : X G mi (d + 1) kc nx lv rest S μ Q) : X G mi (d + 1) kc pc lv (.ref a :: rest) S μ Q := by
  intro p l e R s m args below meth c mc Z C hZ H locs cells slots ls hR hk hl
  obtain ⟨hd, rfl⟩ := hd
  have hroom := C.2.2.2.2.2.2.2.2.1
  have hts := C.2.2.2.2.2.1
  exact W.objInit C.1 C.2.1 C.2.2.2.2.1 (hts _ h1) (hts (.instanceMethod Lib.objectInit) (gd (wk 27 (by decide +kernel)) rfl)) (hts (.code Lib.objectInit ⟨#[0xb1]⟩ 1 none) (gd (wk 28 (by decide +kernel)) rfl)) rfl (hl.1.trans C.2.2.2.1.symm) rfl hd (by omega) (by have := lv_room (m := m) (pc := pc) (ls := ls) (rest := .ref a :: rest) hr; omega) (kk p l e R s m args below meth c mc Z C hZ H locs cells slots ls hR hk hl)
theorem X_gets {j idx : Nat} (hd : Dc mi.2.1 pc (.getstatic idx) 3 nx) (hj : j < 8) (h1 : Cond.fieldLink mi.1.cls idx "RopesAtDawn" (sN j) "[I" ∈ lw_gd) (kk : X G mi d kc nx lv (.ref (G.2.2.2 j) :: rest) S μ Q) : X G mi d kc pc lv rest S μ Q := by
  intro p l e R s m args below meth c mc Z C hZ H locs cells slots ls hR hk hl
  obtain ⟨hd, rfl⟩ := hd
  obtain ⟨cf, kf, fi, f, a, ce, h1', h2, h3, h4, h5, h6, h7, h8⟩ := va_Z.moved C.2.2.2.2.2.2.2.2.2.1.alike (C.2.2.2.2.2.2.2.2.2.2.2.1 j hj)
  exact W.gets C.1 C.2.1 C.2.2.2.2.1 (C.2.2.2.2.2.1 _ h1) h1' h2 h3 h4 (by rw [hR.2.2.2.2.1 a (Nat.not_le.mp h8)]; exact h5) (fun e => by rw [e] at h6; cases h6) h7 rfl hd (kk p l e R s m args below meth c mc Z C hZ H locs cells slots ls hR hk hl)
theorem X_getsN {j idx : Nat} (hd : Dc mi.2.1 pc (.getstatic idx) 3 nx) (hj : j < 8) (h1 : Cond.fieldLinkNest mi.1.cls idx "RopesAtDawn" (sN j) "[I" "RopesAtDawn" ∈ gN) (kk : X G mi d kc nx lv (.ref (G.2.2.2 j) :: rest) S μ Q) : X G mi d kc pc lv rest S μ Q := by
  intro p l e R s m args below meth c mc Z C hZ H locs cells slots ls hR hk hl
  obtain ⟨hd, rfl⟩ := hd
  obtain ⟨cf, kf, fi, f, a, ce, h1', h2, h3, h4, h5, h6, h7, h8⟩ := va_Z.moved C.2.2.2.2.2.2.2.2.2.1.alike (C.2.2.2.2.2.2.2.2.2.2.2.1 j hj)
  exact va_WgetsN C.1 C.2.1 C.2.2.2.2.1 (va_Nw.use rfl (va_Nw.warmF C.2.2.2.2.2.2.2.2.2.1 (C.2.2.2.2.2.2.2.2.2.2.2.2.1 _ h1))) h1' h2 h3 h4 (by rw [hR.2.2.2.2.1 a (Nat.not_le.mp h8)]; exact h5) (fun e => by rw [e] at h6; cases h6) h7 rfl hd (kk p l e R s m args below meth c mc Z C hZ H locs cells slots ls hR hk hl)
theorem X_getsZ {idx : Nat} (hd : Dc mi.2.1 pc (.getstatic idx) 3 nx) (h1 : Cond.fieldLink mi.1.cls idx "java/lang/String" "COMPACT_STRINGS" "Z" ∈ lw_gd) (kk : X G mi d kc nx lv (.int 1 :: rest) S μ Q) : X G mi d kc pc lv rest S μ Q := by
  intro p l e R s m args below meth c mc Z C hZ H locs cells slots ls hR hk hl
  obtain ⟨hd, rfl⟩ := hd
  obtain ⟨cf, kf, fi, f, a, ce, h1', h2, h3, h4, h5, h6, h7, h8⟩ := va_Z.moved C.2.2.2.2.2.2.2.2.2.1.alike (C.2.2.2.2.2.2.2.2.2.2.2.2.2.2.1)
  exact W.gets C.1 C.2.1 C.2.2.2.2.1 (C.2.2.2.2.2.1 _ h1) h1' h2 h3 h4 (by rw [hR.2.2.2.2.1 a (Nat.not_le.mp h8)]; exact h5) (fun e => by rw [e] at h6; cases h6) h7 rfl hd (kk p l e R s m args below meth c mc Z C hZ H locs cells slots ls hR hk hl)
theorem X_ldcS {idx q : Nat} {tx : String} (hd : Dc mi.2.1 pc (.ldc idx) 2 nx) (h1 : Gok G → vk_R mi.1.cls idx tx q G.1) (kk : X G mi d kc nx lv (.ref q :: rest) S μ Q) : X G mi d kc pc lv rest S μ Q := by
  intro p l e R s m args below meth c mc Z C hZ H locs cells slots ls hR hk hl
  obtain ⟨hd, rfl⟩ := hd
  exact va_ldcS C.1 C.2.1 C.2.2.2.2.1 ((h1 C.2.2.2.2.2.2.2.2.2.2).warm C.2.2.2.2.2.2.2.2.2.1) hd (kk p l e R s m args below meth c mc Z C hZ H locs cells slots ls hR hk hl)
theorem X_getT {a t idx : Nat} (hd : Dc mi.2.1 pc (.getfield idx) 3 nx) (h1 : Cond.fieldLink mi.1.cls idx "java/lang/String" "value" "[B" ∈ lw_gd) (hb : S.2 a = some (kT t)) (kk : X G mi d kc nx lv (.ref (G.2.2.2 (t + 20)) :: rest) S μ Q) : X G mi d kc pc lv (.ref a :: rest) S μ Q := by
  intro p l e R s m args below meth c mc Z C hZ H locs cells slots ls hR hk hl
  obtain ⟨hd, rfl⟩ := hd
  obtain ⟨h, -, -⟩ := hR.at hb
  obtain ⟨cf, k, fi, f, ce, h1', h2, h3, h4, h5, h6⟩ := va_OF.moved C.2.2.2.2.2.2.2.2.2.1.alike h
  exact W.getf C.1 C.2.1 C.2.2.2.2.1 (C.2.2.2.2.2.1 _ h1) h1' h2 h3 h4 h5 rfl rfl hd (kk p l e R s m args below meth c mc Z C hZ H locs cells slots ls hR hk hl)
theorem X_getTc {a t idx : Nat} (hd : Dc mi.2.1 pc (.getfield idx) 3 nx) (h1 : Cond.fieldLink mi.1.cls idx "java/lang/String" "coder" "B" ∈ lw_gd) (hb : S.2 a = some (kT t)) (kk : X G mi d kc nx lv (.int 0 :: rest) S μ Q) : X G mi d kc pc lv (.ref a :: rest) S μ Q := by
  intro p l e R s m args below meth c mc Z C hZ H locs cells slots ls hR hk hl
  obtain ⟨hd, rfl⟩ := hd
  obtain ⟨-, h, -⟩ := hR.at hb
  obtain ⟨cf, k, fi, f, ce, h1', h2, h3, h4, h5, h6⟩ := va_OF.moved C.2.2.2.2.2.2.2.2.2.1.alike h
  exact W.getf C.1 C.2.1 C.2.2.2.2.1 (C.2.2.2.2.2.1 _ h1) h1' h2 h3 h4 h5 rfl rfl hd (kk p l e R s m args below meth c mc Z C hZ H locs cells slots ls hR hk hl)
end
end
section
/-! The layer's returns and calls. -/
def wsM (mi : MI) : List Cond := Cond.code mi.1 mi.2.1 mi.2.2.1 mi.2.2.2 :: lw_gd
def rmM (d kc : Nat) : Room := { frames := d, cells := kc, slots := 400 * kc, locals := 64 * d + 13 }
def Mok (mi : MI) : Prop := plainName mi.1.cls = true ∧ Cond.code mi.1 mi.2.1 mi.2.2.1 mi.2.2.2 ∈ lw_gd ∧ Cond.initialized mi.1.cls ∈ lw_gd ∧ mi.1.cls ≠ "java/lang/invoke/MethodHandle" ∧ mi.1.cls ≠ "java/lang/invoke/VarHandle" ∧ mi.2.2.1 ≤ 45
def MokV (mi : MI) : Prop := Mok mi ∧ Cond.instanceMethod mi.1 ∈ lw_gd ∧ Cond.selects mi.1.cls mi.1 mi.1 ∈ lw_gd
def MokS (mi : MI) : Prop := Mok mi ∧ Cond.static mi.1 ∈ lw_gd
def MokI (mi : MI) : Prop := Mok mi ∧ Cond.instanceMethod mi.1 ∈ lw_gd ∧ mi.1.name = "<init>" ∧ mi.2.2.2 = none
def nPar (y : MethodName) (n : Nat) : Prop := (parseMethodDescriptor y.desc).map (fun d => d.parameters.length) = some n
theorem wsM_good {mi : MI} (h : Mok mi) : GoodIn lw_gd (wsM mi) := by
  intro w hw
  rcases List.mem_cons.mp hw with e | hw
  · rw [e]; exact ⟨h.2.1, good_of_word (gd_good _ h.2.1)⟩
  · exact ⟨hw, good_of_word (gd_good _ hw)⟩
def PcM (G : Gl) (S : Sh) (μ : Mu) (av : List Value) : Array Value → State → Prop := va_Pc av (fun U => G.1.WarmedH U.vm ∧ Rp G S μ U.heap [])
def QcM (G : Gl) (Q : Option Value → Sh → Mu → Prop) : Array Value → State → Outcome → State → Prop := fun _ _ oc t => ∃ (v : Option Value) (S' : Sh) (μ' : Mu), oc = .returned v ∧ Q v S' μ' ∧ Rp G S' μ' t.heap []
/-- a method's walk from its entry is a contract -/
theorem met_of {G : Gl} (hG : Gok G) {mi : MI} {d kc : Nat} {av : List Value} {S : Sh} {μ : Mu} {Q : Option Value → Sh → Mu → Prop} (hm : Mok mi) (hlen : (lg_sl av).length ≤ mi.2.2.1) (h : X G mi d kc 0 (lv_args 0 av) [] S μ Q) (l : Launch) : Met l mi.1 (wsM mi) (rmM d kc) (PcM G S μ av) (QcM G Q) kc (400 * kc) (fun q => gb G ≤ q) := by
  refine Met.ofW (cc := mi.2.1) (maxL := mi.2.2.1) (ret := mi.2.2.2) hm.1 rfl ?_
  intro p e s m args below meth c s₁ B hml hv
  obtain ⟨rfl, hW, hR⟩ := hv
  have hts0 := atoms_spec (ws := wsM mi) B.pre
  have hlocks := B.notSynchronized
  have hrt := B.returns
  have hex := B.exec
  have hby := B.bytes
  rw [lg_entry_eq]
  refine h p l e _ s m _ below meth c kc _ ⟨hex, hby, hrt, hml, findClass_of_methodNamed B.named, fun w hw => hts0 w (List.mem_cons_of_mem _ hw), hlocks, (name_of_methodNamed B.named B.method).1, ⟨Nat.le_refl _, Nat.le_refl _, Nat.le_refl _, Nat.le_refl _⟩, hW, hG⟩ ?_ s.heap [] 0 0 _ hR ⟨by omega, by omega⟩ (lv_entry av hlen)
  intro v S' μ' H' locs' cells' slots' pc' ls' hq hR' hc hs hk
  refine W.widen hc hs ?_
  rcases hk with ⟨rfl, h1, h2⟩ | ⟨x, ty, rfl, h1, h2, h3⟩ | ⟨rt, w, rfl, h1, h2, h3, h4⟩
  · exact W.vret hex hby (hrt.trans h1) (fun t ht hw => ⟨none, S', μ', rfl, hq, by rw [ht]; exact hR'.nil⟩) hR'.2.2.2.2.2 h2
  · exact W.zret hex hby (hrt.trans h1) h2 (fun t ht hw => ⟨some (.int x), S', μ', rfl, hq, by rw [ht]; exact hR'.nil⟩) hR'.2.2.2.2.2 h3
  · exact W.aret hex hby (hrt.trans h2) h3 h1 (fun t ht hw => ⟨some w, S', μ', rfl, hq, by rw [ht]; exact hR'.nil⟩) hR'.2.2.2.2.2 h4
theorem PcM_blind {G : Gl} {S : Sh} {μ : Mu} {av : List Value} : FrameBlind (PcM G S μ av) := fun a U g mk q => ⟨q.1, q.2.1, q.2.2⟩
section
variable {G : Gl} {mi mj : MI} {d kc kd pc nx n idx : Nat} {lv lv2 : List (Nat × Value)} {st rest As : List Value} {S : Sh} {μ : Mu} {Q Q' : Option Value → Sh → Mu → Prop}
theorem X_ireturn {x : Int32} {ty : FieldType} (hd : Dc mi.2.1 pc .ireturn 1 nx) (hr : mi.2.2.2 = some ty) (hn : narrow ty (.int x) = .int x) {K : Int32 → Sh → Mu → Prop} (hq : K x S μ) : X G mi d kc pc lv [.int x] S μ (qi K) := by
  intro p l e R s m args below meth c mc Z C hZ H locs cells slots ls hR hk hl
  obtain ⟨hd, rfl⟩ := hd
  exact hZ (some (.int x)) S μ H locs cells slots pc ls ⟨x, rfl, hq⟩ hR (by omega) (by omega) (Or.inr (Or.inl ⟨x, ty, rfl, hr, hn, hd⟩))
theorem X_return (hd : Dc mi.2.1 pc .return_ 1 nx) (hr : mi.2.2.2 = none) {K : Sh → Mu → Prop} (hq : K S μ) : X G mi d kc pc lv [] S μ (qv K) := by
  intro p l e R s m args below meth c mc Z C hZ H locs cells slots ls hR hk hl
  obtain ⟨hd, rfl⟩ := hd
  exact hZ none S μ H locs cells slots pc ls ⟨rfl, hq⟩ hR (by omega) (by omega) (Or.inl ⟨rfl, hr, hd⟩)
theorem X_areturn {a : Nat} {rt : FieldType} (hd : Dc mi.2.1 pc .areturn 1 nx) (hr : mi.2.2.2 = some rt) (ho : (∃ n, rt = .object n) ∨ ∃ t, rt = .array t) {K : Option Nat → Sh → Mu → Prop} (hq : K (some a) S μ) : X G mi d kc pc lv [.ref a] S μ (qr K) := by
  intro p l e R s m args below meth c mc Z C hZ H locs cells slots ls hR hk hl
  obtain ⟨hd, rfl⟩ := hd
  exact hZ (some (.ref a)) S μ H locs cells slots pc ls ⟨some a, rfl, hq⟩ hR (by omega) (by omega) (Or.inr (Or.inr ⟨rt, .ref a, rfl, Or.inr ⟨a, rfl⟩, hr, ho, hd⟩))
theorem X_areturnN {rt : FieldType} (hd : Dc mi.2.1 pc .areturn 1 nx) (hr : mi.2.2.2 = some rt) (ho : (∃ n, rt = .object n) ∨ ∃ t, rt = .array t) {K : Option Nat → Sh → Mu → Prop} (hq : K none S μ) : X G mi d kc pc lv [.null] S μ (qr K) := by
  intro p l e R s m args below meth c mc Z C hZ H locs cells slots ls hR hk hl
  obtain ⟨hd, rfl⟩ := hd
  exact hZ (some .null) S μ H locs cells slots pc ls ⟨none, rfl, hq⟩ hR (by omega) (by omega) (Or.inr (Or.inr ⟨rt, .null, rfl, Or.inl rfl, hr, ho, hd⟩))
/-- fewer or other listed locals -/
theorem X_lv {lv3 : List (Nat × Value)} (h : ∀ q ∈ lv3, q ∈ lv) (k : X G mi d kc pc lv3 st S μ Q) : X G mi d kc pc lv st S μ Q := by
  intro p l e R s m args below meth c mc Z C hZ H locs cells slots ls hR hk hl
  exact k p l e R s m args below meth c mc Z C hZ H locs cells slots ls hR hk ⟨hl.1, hl.2.1, fun q hq => hl.2.2 q (h q hq)⟩
theorem X_post (h : ∀ v S μ, Q' v S μ → Q v S μ) (k : X G mi d kc pc lv st S μ Q') : X G mi d kc pc lv st S μ Q := by
  intro p l e R s m args below meth c mc Z C hZ H locs cells slots ls hR hk hl
  exact k p l e R s m args below meth c mc Z C (fun v S' μ' H' locs' cells' slots' pc' ls' hq => hZ v S' μ' H' locs' cells' slots' pc' ls' (h v S' μ' hq)) H locs cells slots ls hR hk hl
theorem X_kc (h : kd ≤ kc) (k : X G mi d kd pc lv st S μ Q) : X G mi d kc pc lv st S μ Q := by
  intro p l e R s m args below meth c mc Z C hZ H locs cells slots ls hR hk hl
  exact k p l e R s m args below meth c mc Z C hZ H locs cells slots ls hR (by omega) hl
/-- behind a call -/
theorem X_run (S0 : Sh) (hk0 : kc = kd + n) (cw : ∀ (p : Program) (l : Launch) (e : Env) (R : Room) (s : State) (m : MethodId) (args : Array Value) (below : List Frame) (meth : Method) (c : Code) (mc : Nat), Cx G mi (d + 1) mc p R s m args meth c → ∀ (H : Heap) (locs : List Loc) (cells slots : Nat) (ls : Array Slot), Rp G S μ H locs → cells + kc ≤ mc ∧ slots + 400 * kc ≤ 400 * mc → lv_has ls mi.2.2.1 lv → va_Run p l e R s m args below meth c H locs cells slots kd (400 * kd) (F0 m pc ls st) rest (fun st oc t => QcM G Q' #[] st oc t) (fun q => gb G ≤ q))
    (k : ∀ (v : Option Value) (S' : Sh) (μ' : Mu), Q' v S' μ' → X G mi (d + 1) n (pc + 3) lv (v.toList ++ rest) S' μ' Q) : X G mi (d + 1) kc pc lv st S μ Q := by
  intro p l e R s m args below meth c mc Z C hZ H locs cells slots ls hR hk hl T hT X
  obtain ⟨v, st₀, t, T', L, h0, X', hL, e1, e2, ⟨v', S', μ', hv, hq, hR'⟩, stp⟩ := cw p l e R s m args below meth c mc C H locs cells slots ls hR hk hl T hT X
  cases hv
  obtain ⟨t2, a1, b1⟩ := k v S' μ' hq p l e R s m args below meth c mc Z C hZ T'.heap (locs ++ L) (cells + kd) (slots + 400 * kd) ls (by rw [e1]; exact hR'.app hR.2.2.2.2.2 hL) (by omega) hl T' rfl X'
  exact ⟨t2, stp t2 a1, b1⟩
theorem X_callV (hd : Dc mi.2.1 pc (.invokevirtual idx) 3 nx) (hm : MokV mj) (hlk : Cond.methodLink mi.1.cls idx mj.1 ∈ lw_gd) (hn : nPar mj.1 As.length) {b ci : Nat} {r : Nat → Option Nat} (hb : S.2 b = some (kO ci r)) (hci : ci < 11) (hC : cN ci = mj.1.cls) (hst : st = As.reverse ++ .ref b :: rest) (hr : (rest.map fun v => v.category).sum ≤ 8) (hlen : (lg_sl (.ref b :: As)).length ≤ mj.2.2.1) (hk0 : kc = kd + n)
    (h : X G mj d kd 0 (lv_args 0 (.ref b :: As)) [] S μ Q') (k : ∀ (v : Option Value) (S' : Sh) (μ' : Mu), Q' v S' μ' → X G mi (d + 1) n nx lv (v.toList ++ rest) S' μ' Q) : X G mi (d + 1) kc pc lv st S μ Q := by
  obtain ⟨hd, rfl⟩ := hd
  refine X_run S hk0 ?_ k
  intro p l e R s m args below meth c mc C H locs cells slots ls hR hk hl
  have hts := C.2.2.2.2.2.1
  have hroom := C.2.2.2.2.2.2.2.2.1
  have hal := C.2.2.2.2.2.2.2.2.2.1
  have hG := C.2.2.2.2.2.2.2.2.2.2
  have cw : CallW R s args mi.1.cls mj.1.cls idx mj.1 mj.2.1 mj.2.2.1 mj.2.2.2 (wsM mj) (rmM d kd) kd (400 * kd) As.length := ⟨callB_of As.length hts (wsM_good hm.1) rfl rfl rfl (hts _ hm.1.2.2.1) (hts _ hlk) ⟨hm.1.2.2.2.1, hm.1.2.2.2.2.1, hn⟩ ⟨by show d + 1 ≤ _; omega, by show 8 + (mj.2.2.1 + 11) + (64 * d + 13) ≤ _; have := hm.1.2.2.2.2.2; omega⟩, hts _ hm.2.1, hts _ hm.2.2⟩
  obtain ⟨-, ce, q1, q2, q3, -⟩ := hR.at hb
  have hfc := (u_Kn_moved hal.alike (hG.1 ci hci)).2.1
  have hp : PreV s H mj.1.cls b (PcM G S μ (.ref b :: As)) As := ⟨PcM_blind, ⟨ce, q1, by rw [q3]; rfl, by rw [q2, ← hC]; exact hfc⟩, fun U hU hW => ⟨rfl, State.WarmedH.trans hal hW, by rw [hU]; exact hR.nil⟩⟩
  have hrun := va_runV (g := F0 m pc ls st) ⟨C.1, C.2.1, C.2.2.2.1, C.2.2.2.2.1, hts⟩ (met_of hG hm.1 hlen h l) cw hp rfl rfl hl.1 hst (lv_room hr) hd ⟨by omega, by omega⟩ (p := p) (e := e) (below := below) (meth := meth) (locs := locs) (cells := cells) (slots := slots)
  exact hrun
theorem X_callS (hd : Dc mi.2.1 pc (.invokestatic idx) 3 nx) (hm : MokS mj) (hlk : Cond.methodLink mi.1.cls idx mj.1 ∈ lw_gd) (hn : nPar mj.1 As.length) (hst : st = As.reverse ++ rest) (hr : (rest.map fun v => v.category).sum ≤ 8) (hlen : (lg_sl As).length ≤ mj.2.2.1) (hk0 : kc = kd + n)
    (h : X G mj d kd 0 (lv_args 0 As) [] S μ Q') (k : ∀ (v : Option Value) (S' : Sh) (μ' : Mu), Q' v S' μ' → X G mi (d + 1) n nx lv (v.toList ++ rest) S' μ' Q) : X G mi (d + 1) kc pc lv st S μ Q := by
  obtain ⟨hd, rfl⟩ := hd
  refine X_run S hk0 ?_ k
  intro p l e R s m args below meth c mc C H locs cells slots ls hR hk hl
  have hts := C.2.2.2.2.2.1
  have hroom := C.2.2.2.2.2.2.2.2.1
  have hal := C.2.2.2.2.2.2.2.2.2.1
  have hG := C.2.2.2.2.2.2.2.2.2.2
  have cw : CallB R s args mi.1.cls idx mj.1 mj.2.1 mj.2.2.1 mj.2.2.2 (wsM mj) (rmM d kd) kd (400 * kd) As.length ∧ (Cond.static mj.1).before args s = true := ⟨callB_of As.length hts (wsM_good hm.1) rfl rfl rfl (hts _ hm.1.2.2.1) (hts _ hlk) ⟨hm.1.2.2.2.1, hm.1.2.2.2.2.1, hn⟩ ⟨by show d + 1 ≤ _; omega, by show 8 + (mj.2.2.1 + 11) + (64 * d + 13) ≤ _; have := hm.1.2.2.2.2.2; omega⟩, hts _ hm.2⟩
  have hp : PreS s H (PcM G S μ As) As := ⟨PcM_blind, fun U hU hW => ⟨rfl, State.WarmedH.trans hal hW, by rw [hU]; exact hR.nil⟩⟩
  have hrun := va_runS (g := F0 m pc ls st) ⟨C.1, C.2.1, C.2.2.2.1, C.2.2.2.2.1, hts⟩ (met_of hG hm.1 hlen h l) cw hp rfl rfl hl.1 hst (lv_room hr) hd ⟨by omega, by omega⟩ (p := p) (e := e) (below := below) (meth := meth) (locs := locs) (cells := cells) (slots := slots)
  exact hrun
theorem X_callI (hd : Dc mi.2.1 pc (.invokespecial idx) 3 nx) (hm : MokI mj) (hlk : Cond.methodLink mi.1.cls idx mj.1 ∈ lw_gd) (hn : nPar mj.1 As.length) {b : Nat} (hst : st = As.reverse ++ .ref b :: rest) (hr : (rest.map fun v => v.category).sum ≤ 8) (hlen : (lg_sl (.ref b :: As)).length ≤ mj.2.2.1) (hk0 : kc = kd + n)
    (h : X G mj d kd 0 (lv_args 0 (.ref b :: As)) [] S μ Q') (k : ∀ (v : Option Value) (S' : Sh) (μ' : Mu), Q' v S' μ' → X G mi (d + 1) n nx lv (v.toList ++ rest) S' μ' Q) : X G mi (d + 1) kc pc lv st S μ Q := by
  obtain ⟨hd, rfl⟩ := hd
  refine X_run S hk0 ?_ k
  intro p l e R s m args below meth c mc C H locs cells slots ls hR hk hl
  have hts := C.2.2.2.2.2.1
  have hroom := C.2.2.2.2.2.2.2.2.1
  have hal := C.2.2.2.2.2.2.2.2.2.1
  have hG := C.2.2.2.2.2.2.2.2.2.2
  obtain ⟨y, cb, ml, rt⟩ := mj
  have hrn : rt = none := hm.2.2.2
  subst hrn
  have cw := cwI (R := R) (own := mi.1.cls) (index := idx) (y := y) (bytes := cb) (maxL := ml) (rm := rmM d kd) (mc := kd) (ms := 400 * kd) As.length hts (wsM_good hm.1) rfl rfl rfl (hts _ hm.1.2.2.1) (hts _ hlk) (hts _ hm.2.1) hm.2.2.1 ⟨hm.1.2.2.2.1, hm.1.2.2.2.2.1, hn⟩ ⟨by show d + 1 ≤ _; omega, by show 8 + (ml + 11) + (64 * d + 13) ≤ _; have h45 : ml ≤ 45 := hm.1.2.2.2.2.2; omega⟩
  have hp : PreS s H (PcM G S μ (.ref b :: As)) (.ref b :: As) := ⟨PcM_blind, fun U hU hW => ⟨rfl, State.WarmedH.trans hal hW, by rw [hU]; exact hR.nil⟩⟩
  have hrun := va_runI (g := F0 m pc ls st) ⟨C.1, C.2.1, C.2.2.2.1, C.2.2.2.2.1, hts⟩ (met_of hG hm.1 hlen h l) cw hp rfl rfl hl.1 hst (lv_room hr) hd ⟨by omega, by omega⟩ (p := p) (e := e) (below := below) (meth := meth) (locs := locs) (cells := cells) (slots := slots)
  exact hrun
/-- a method of a text -/
theorem X_callT (hd : Dc mi.2.1 pc (.invokevirtual idx) 3 nx) (hm : MokV mj) (hlk : Cond.methodLink mi.1.cls idx mj.1 ∈ lw_gd) (hn : nPar mj.1 As.length) {b t : Nat} (hb : S.2 b = some (kT t)) (hC : mj.1.cls = "java/lang/String") (hst : st = As.reverse ++ .ref b :: rest) (hr : (rest.map fun v => v.category).sum ≤ 8) (hlen : (lg_sl (.ref b :: As)).length ≤ mj.2.2.1) (hk0 : kc = kd + n)
    (h : X G mj d kd 0 (lv_args 0 (.ref b :: As)) [] S μ Q') (k : ∀ (v : Option Value) (S' : Sh) (μ' : Mu), Q' v S' μ' → X G mi (d + 1) n nx lv (v.toList ++ rest) S' μ' Q) : X G mi (d + 1) kc pc lv st S μ Q := by
  obtain ⟨hd, rfl⟩ := hd
  refine X_run S hk0 ?_ k
  intro p l e R s m args below meth c mc C H locs cells slots ls hR hk hl
  have hts := C.2.2.2.2.2.1
  have hroom := C.2.2.2.2.2.2.2.2.1
  have hal := C.2.2.2.2.2.2.2.2.2.1
  have hG := C.2.2.2.2.2.2.2.2.2.2
  have cw : CallW R s args mi.1.cls mj.1.cls idx mj.1 mj.2.1 mj.2.2.1 mj.2.2.2 (wsM mj) (rmM d kd) kd (400 * kd) As.length := ⟨callB_of As.length hts (wsM_good hm.1) rfl rfl rfl (hts _ hm.1.2.2.1) (hts _ hlk) ⟨hm.1.2.2.2.1, hm.1.2.2.2.2.1, hn⟩ ⟨by show d + 1 ≤ _; omega, by show 8 + (mj.2.2.1 + 11) + (64 * d + 13) ≤ _; have := hm.1.2.2.2.2.2; omega⟩, hts _ hm.2.1, hts _ hm.2.2⟩
  obtain ⟨-, -, hO⟩ := hR.at hb
  obtain ⟨ce, q1, q2, q3, -⟩ := va_O.moved hal.alike hO
  have hp : PreV s H mj.1.cls b (PcM G S μ (.ref b :: As)) As := ⟨PcM_blind, ⟨ce, q1, q2, by rw [hC]; exact q3⟩, fun U hU hW => ⟨rfl, State.WarmedH.trans hal hW, by rw [hU]; exact hR.nil⟩⟩
  have hrun := va_runV (g := F0 m pc ls st) ⟨C.1, C.2.1, C.2.2.2.1, C.2.2.2.2.1, hts⟩ (met_of hG hm.1 hlen h l) cw hp rfl rfl hl.1 hst (lv_room hr) hd ⟨by omega, by omega⟩ (p := p) (e := e) (below := below) (meth := meth) (locs := locs) (cells := cells) (slots := slots)
  exact hrun
theorem X_cV0i {b ci : Nat} {r : Nat → Option Nat} (hd : Dc mi.2.1 pc (.invokevirtual idx) 3 nx) (hm : MokV mj) (hlk : Cond.methodLink mi.1.cls idx mj.1 ∈ lw_gd) (hn : nPar mj.1 0) (hb : S.2 b = some (kO ci r)) (hci : ci < 11) (hC : cN ci = mj.1.cls) (hr : (rest.map fun v => v.category).sum ≤ 8) (hlen : (lg_sl (.ref b :: [])).length ≤ mj.2.2.1) (hl2 : lv_args 0 (.ref b :: []) = lv2) (h : X G mj d 0 0 lv2 [] S μ (qi (fun r S' μ' => X G mi (d + 1) kc nx lv (.int r :: rest) S' μ' Q))) : X G mi (d + 1) kc pc lv (.ref b :: rest) S μ Q := by
  subst hl2
  exact X_callV (As := []) hd hm hlk hn hb hci hC rfl hr hlen (Nat.zero_add kc).symm h (fun v S' μ' h => by obtain ⟨r, rfl, h⟩ := h; exact h)
theorem X_cV0v {b ci : Nat} {r : Nat → Option Nat} (hd : Dc mi.2.1 pc (.invokevirtual idx) 3 nx) (hm : MokV mj) (hlk : Cond.methodLink mi.1.cls idx mj.1 ∈ lw_gd) (hn : nPar mj.1 0) (hb : S.2 b = some (kO ci r)) (hci : ci < 11) (hC : cN ci = mj.1.cls) (hr : (rest.map fun v => v.category).sum ≤ 8) (hlen : (lg_sl (.ref b :: [])).length ≤ mj.2.2.1) (hl2 : lv_args 0 (.ref b :: []) = lv2) (h : X G mj d 0 0 lv2 [] S μ (qv (fun S' μ' => X G mi (d + 1) kc nx lv rest S' μ' Q))) : X G mi (d + 1) kc pc lv (.ref b :: rest) S μ Q := by
  subst hl2
  exact X_callV (As := []) hd hm hlk hn hb hci hC rfl hr hlen (Nat.zero_add kc).symm h (fun v S' μ' h => by obtain ⟨rfl, h⟩ := h; exact h)
theorem X_cV0r {b ci : Nat} {r : Nat → Option Nat} (hd : Dc mi.2.1 pc (.invokevirtual idx) 3 nx) (hm : MokV mj) (hlk : Cond.methodLink mi.1.cls idx mj.1 ∈ lw_gd) (hn : nPar mj.1 0) (hb : S.2 b = some (kO ci r)) (hci : ci < 11) (hC : cN ci = mj.1.cls) (hr : (rest.map fun v => v.category).sum ≤ 8) (hlen : (lg_sl (.ref b :: [])).length ≤ mj.2.2.1) (hl2 : lv_args 0 (.ref b :: []) = lv2) (h : X G mj d 0 0 lv2 [] S μ (qr (fun r S' μ' => X G mi (d + 1) kc nx lv (va_rf r :: rest) S' μ' Q))) : X G mi (d + 1) kc pc lv (.ref b :: rest) S μ Q := by
  subst hl2
  exact X_callV (As := []) hd hm hlk hn hb hci hC rfl hr hlen (Nat.zero_add kc).symm h (fun v S' μ' h => by obtain ⟨r, rfl, h⟩ := h; exact h)
theorem X_cV1i {b ci : Nat} {r : Nat → Option Nat} {v1 : Value} (hd : Dc mi.2.1 pc (.invokevirtual idx) 3 nx) (hm : MokV mj) (hlk : Cond.methodLink mi.1.cls idx mj.1 ∈ lw_gd) (hn : nPar mj.1 1) (hb : S.2 b = some (kO ci r)) (hci : ci < 11) (hC : cN ci = mj.1.cls) (hr : (rest.map fun v => v.category).sum ≤ 8) (hlen : (lg_sl (.ref b :: [v1])).length ≤ mj.2.2.1) (hl2 : lv_args 0 (.ref b :: [v1]) = lv2) (h : X G mj d 0 0 lv2 [] S μ (qi (fun r S' μ' => X G mi (d + 1) kc nx lv (.int r :: rest) S' μ' Q))) : X G mi (d + 1) kc pc lv (v1 :: .ref b :: rest) S μ Q := by
  subst hl2
  exact X_callV (As := [v1]) hd hm hlk hn hb hci hC rfl hr hlen (Nat.zero_add kc).symm h (fun v S' μ' h => by obtain ⟨r, rfl, h⟩ := h; exact h)
theorem X_cV1v {b ci : Nat} {r : Nat → Option Nat} {v1 : Value} (hd : Dc mi.2.1 pc (.invokevirtual idx) 3 nx) (hm : MokV mj) (hlk : Cond.methodLink mi.1.cls idx mj.1 ∈ lw_gd) (hn : nPar mj.1 1) (hb : S.2 b = some (kO ci r)) (hci : ci < 11) (hC : cN ci = mj.1.cls) (hr : (rest.map fun v => v.category).sum ≤ 8) (hlen : (lg_sl (.ref b :: [v1])).length ≤ mj.2.2.1) (hl2 : lv_args 0 (.ref b :: [v1]) = lv2) (h : X G mj d 0 0 lv2 [] S μ (qv (fun S' μ' => X G mi (d + 1) kc nx lv rest S' μ' Q))) : X G mi (d + 1) kc pc lv (v1 :: .ref b :: rest) S μ Q := by
  subst hl2
  exact X_callV (As := [v1]) hd hm hlk hn hb hci hC rfl hr hlen (Nat.zero_add kc).symm h (fun v S' μ' h => by obtain ⟨rfl, h⟩ := h; exact h)
theorem X_cV1r {b ci : Nat} {r : Nat → Option Nat} {v1 : Value} (hd : Dc mi.2.1 pc (.invokevirtual idx) 3 nx) (hm : MokV mj) (hlk : Cond.methodLink mi.1.cls idx mj.1 ∈ lw_gd) (hn : nPar mj.1 1) (hb : S.2 b = some (kO ci r)) (hci : ci < 11) (hC : cN ci = mj.1.cls) (hr : (rest.map fun v => v.category).sum ≤ 8) (hlen : (lg_sl (.ref b :: [v1])).length ≤ mj.2.2.1) (hl2 : lv_args 0 (.ref b :: [v1]) = lv2) (h : X G mj d 0 0 lv2 [] S μ (qr (fun r S' μ' => X G mi (d + 1) kc nx lv (va_rf r :: rest) S' μ' Q))) : X G mi (d + 1) kc pc lv (v1 :: .ref b :: rest) S μ Q := by
  subst hl2
  exact X_callV (As := [v1]) hd hm hlk hn hb hci hC rfl hr hlen (Nat.zero_add kc).symm h (fun v S' μ' h => by obtain ⟨r, rfl, h⟩ := h; exact h)
theorem X_cV2i {b ci : Nat} {r : Nat → Option Nat} {v1 v2 : Value} (hd : Dc mi.2.1 pc (.invokevirtual idx) 3 nx) (hm : MokV mj) (hlk : Cond.methodLink mi.1.cls idx mj.1 ∈ lw_gd) (hn : nPar mj.1 2) (hb : S.2 b = some (kO ci r)) (hci : ci < 11) (hC : cN ci = mj.1.cls) (hr : (rest.map fun v => v.category).sum ≤ 8) (hlen : (lg_sl (.ref b :: [v1, v2])).length ≤ mj.2.2.1) (hl2 : lv_args 0 (.ref b :: [v1, v2]) = lv2) (h : X G mj d 0 0 lv2 [] S μ (qi (fun r S' μ' => X G mi (d + 1) kc nx lv (.int r :: rest) S' μ' Q))) : X G mi (d + 1) kc pc lv (v2 :: v1 :: .ref b :: rest) S μ Q := by
  subst hl2
  exact X_callV (As := [v1, v2]) hd hm hlk hn hb hci hC rfl hr hlen (Nat.zero_add kc).symm h (fun v S' μ' h => by obtain ⟨r, rfl, h⟩ := h; exact h)
theorem X_cV2v {b ci : Nat} {r : Nat → Option Nat} {v1 v2 : Value} (hd : Dc mi.2.1 pc (.invokevirtual idx) 3 nx) (hm : MokV mj) (hlk : Cond.methodLink mi.1.cls idx mj.1 ∈ lw_gd) (hn : nPar mj.1 2) (hb : S.2 b = some (kO ci r)) (hci : ci < 11) (hC : cN ci = mj.1.cls) (hr : (rest.map fun v => v.category).sum ≤ 8) (hlen : (lg_sl (.ref b :: [v1, v2])).length ≤ mj.2.2.1) (hl2 : lv_args 0 (.ref b :: [v1, v2]) = lv2) (h : X G mj d 0 0 lv2 [] S μ (qv (fun S' μ' => X G mi (d + 1) kc nx lv rest S' μ' Q))) : X G mi (d + 1) kc pc lv (v2 :: v1 :: .ref b :: rest) S μ Q := by
  subst hl2
  exact X_callV (As := [v1, v2]) hd hm hlk hn hb hci hC rfl hr hlen (Nat.zero_add kc).symm h (fun v S' μ' h => by obtain ⟨rfl, h⟩ := h; exact h)
theorem X_cV2r {b ci : Nat} {r : Nat → Option Nat} {v1 v2 : Value} (hd : Dc mi.2.1 pc (.invokevirtual idx) 3 nx) (hm : MokV mj) (hlk : Cond.methodLink mi.1.cls idx mj.1 ∈ lw_gd) (hn : nPar mj.1 2) (hb : S.2 b = some (kO ci r)) (hci : ci < 11) (hC : cN ci = mj.1.cls) (hr : (rest.map fun v => v.category).sum ≤ 8) (hlen : (lg_sl (.ref b :: [v1, v2])).length ≤ mj.2.2.1) (hl2 : lv_args 0 (.ref b :: [v1, v2]) = lv2) (h : X G mj d 0 0 lv2 [] S μ (qr (fun r S' μ' => X G mi (d + 1) kc nx lv (va_rf r :: rest) S' μ' Q))) : X G mi (d + 1) kc pc lv (v2 :: v1 :: .ref b :: rest) S μ Q := by
  subst hl2
  exact X_callV (As := [v1, v2]) hd hm hlk hn hb hci hC rfl hr hlen (Nat.zero_add kc).symm h (fun v S' μ' h => by obtain ⟨r, rfl, h⟩ := h; exact h)
theorem X_cV3i {b ci : Nat} {r : Nat → Option Nat} {v1 v2 v3 : Value} (hd : Dc mi.2.1 pc (.invokevirtual idx) 3 nx) (hm : MokV mj) (hlk : Cond.methodLink mi.1.cls idx mj.1 ∈ lw_gd) (hn : nPar mj.1 3) (hb : S.2 b = some (kO ci r)) (hci : ci < 11) (hC : cN ci = mj.1.cls) (hr : (rest.map fun v => v.category).sum ≤ 8) (hlen : (lg_sl (.ref b :: [v1, v2, v3])).length ≤ mj.2.2.1) (hl2 : lv_args 0 (.ref b :: [v1, v2, v3]) = lv2) (h : X G mj d 0 0 lv2 [] S μ (qi (fun r S' μ' => X G mi (d + 1) kc nx lv (.int r :: rest) S' μ' Q))) : X G mi (d + 1) kc pc lv (v3 :: v2 :: v1 :: .ref b :: rest) S μ Q := by
  subst hl2
  exact X_callV (As := [v1, v2, v3]) hd hm hlk hn hb hci hC rfl hr hlen (Nat.zero_add kc).symm h (fun v S' μ' h => by obtain ⟨r, rfl, h⟩ := h; exact h)
theorem X_cV3v {b ci : Nat} {r : Nat → Option Nat} {v1 v2 v3 : Value} (hd : Dc mi.2.1 pc (.invokevirtual idx) 3 nx) (hm : MokV mj) (hlk : Cond.methodLink mi.1.cls idx mj.1 ∈ lw_gd) (hn : nPar mj.1 3) (hb : S.2 b = some (kO ci r)) (hci : ci < 11) (hC : cN ci = mj.1.cls) (hr : (rest.map fun v => v.category).sum ≤ 8) (hlen : (lg_sl (.ref b :: [v1, v2, v3])).length ≤ mj.2.2.1) (hl2 : lv_args 0 (.ref b :: [v1, v2, v3]) = lv2) (h : X G mj d 0 0 lv2 [] S μ (qv (fun S' μ' => X G mi (d + 1) kc nx lv rest S' μ' Q))) : X G mi (d + 1) kc pc lv (v3 :: v2 :: v1 :: .ref b :: rest) S μ Q := by
  subst hl2
  exact X_callV (As := [v1, v2, v3]) hd hm hlk hn hb hci hC rfl hr hlen (Nat.zero_add kc).symm h (fun v S' μ' h => by obtain ⟨rfl, h⟩ := h; exact h)
theorem X_cV3r {b ci : Nat} {r : Nat → Option Nat} {v1 v2 v3 : Value} (hd : Dc mi.2.1 pc (.invokevirtual idx) 3 nx) (hm : MokV mj) (hlk : Cond.methodLink mi.1.cls idx mj.1 ∈ lw_gd) (hn : nPar mj.1 3) (hb : S.2 b = some (kO ci r)) (hci : ci < 11) (hC : cN ci = mj.1.cls) (hr : (rest.map fun v => v.category).sum ≤ 8) (hlen : (lg_sl (.ref b :: [v1, v2, v3])).length ≤ mj.2.2.1) (hl2 : lv_args 0 (.ref b :: [v1, v2, v3]) = lv2) (h : X G mj d 0 0 lv2 [] S μ (qr (fun r S' μ' => X G mi (d + 1) kc nx lv (va_rf r :: rest) S' μ' Q))) : X G mi (d + 1) kc pc lv (v3 :: v2 :: v1 :: .ref b :: rest) S μ Q := by
  subst hl2
  exact X_callV (As := [v1, v2, v3]) hd hm hlk hn hb hci hC rfl hr hlen (Nat.zero_add kc).symm h (fun v S' μ' h => by obtain ⟨r, rfl, h⟩ := h; exact h)
theorem X_cV4i {b ci : Nat} {r : Nat → Option Nat} {v1 v2 v3 v4 : Value} (hd : Dc mi.2.1 pc (.invokevirtual idx) 3 nx) (hm : MokV mj) (hlk : Cond.methodLink mi.1.cls idx mj.1 ∈ lw_gd) (hn : nPar mj.1 4) (hb : S.2 b = some (kO ci r)) (hci : ci < 11) (hC : cN ci = mj.1.cls) (hr : (rest.map fun v => v.category).sum ≤ 8) (hlen : (lg_sl (.ref b :: [v1, v2, v3, v4])).length ≤ mj.2.2.1) (hl2 : lv_args 0 (.ref b :: [v1, v2, v3, v4]) = lv2) (h : X G mj d 0 0 lv2 [] S μ (qi (fun r S' μ' => X G mi (d + 1) kc nx lv (.int r :: rest) S' μ' Q))) : X G mi (d + 1) kc pc lv (v4 :: v3 :: v2 :: v1 :: .ref b :: rest) S μ Q := by
  subst hl2
  exact X_callV (As := [v1, v2, v3, v4]) hd hm hlk hn hb hci hC rfl hr hlen (Nat.zero_add kc).symm h (fun v S' μ' h => by obtain ⟨r, rfl, h⟩ := h; exact h)
theorem X_cV4v {b ci : Nat} {r : Nat → Option Nat} {v1 v2 v3 v4 : Value} (hd : Dc mi.2.1 pc (.invokevirtual idx) 3 nx) (hm : MokV mj) (hlk : Cond.methodLink mi.1.cls idx mj.1 ∈ lw_gd) (hn : nPar mj.1 4) (hb : S.2 b = some (kO ci r)) (hci : ci < 11) (hC : cN ci = mj.1.cls) (hr : (rest.map fun v => v.category).sum ≤ 8) (hlen : (lg_sl (.ref b :: [v1, v2, v3, v4])).length ≤ mj.2.2.1) (hl2 : lv_args 0 (.ref b :: [v1, v2, v3, v4]) = lv2) (h : X G mj d 0 0 lv2 [] S μ (qv (fun S' μ' => X G mi (d + 1) kc nx lv rest S' μ' Q))) : X G mi (d + 1) kc pc lv (v4 :: v3 :: v2 :: v1 :: .ref b :: rest) S μ Q := by
  subst hl2
  exact X_callV (As := [v1, v2, v3, v4]) hd hm hlk hn hb hci hC rfl hr hlen (Nat.zero_add kc).symm h (fun v S' μ' h => by obtain ⟨rfl, h⟩ := h; exact h)
theorem X_cV4r {b ci : Nat} {r : Nat → Option Nat} {v1 v2 v3 v4 : Value} (hd : Dc mi.2.1 pc (.invokevirtual idx) 3 nx) (hm : MokV mj) (hlk : Cond.methodLink mi.1.cls idx mj.1 ∈ lw_gd) (hn : nPar mj.1 4) (hb : S.2 b = some (kO ci r)) (hci : ci < 11) (hC : cN ci = mj.1.cls) (hr : (rest.map fun v => v.category).sum ≤ 8) (hlen : (lg_sl (.ref b :: [v1, v2, v3, v4])).length ≤ mj.2.2.1) (hl2 : lv_args 0 (.ref b :: [v1, v2, v3, v4]) = lv2) (h : X G mj d 0 0 lv2 [] S μ (qr (fun r S' μ' => X G mi (d + 1) kc nx lv (va_rf r :: rest) S' μ' Q))) : X G mi (d + 1) kc pc lv (v4 :: v3 :: v2 :: v1 :: .ref b :: rest) S μ Q := by
  subst hl2
  exact X_callV (As := [v1, v2, v3, v4]) hd hm hlk hn hb hci hC rfl hr hlen (Nat.zero_add kc).symm h (fun v S' μ' h => by obtain ⟨r, rfl, h⟩ := h; exact h)
theorem X_cV5i {b ci : Nat} {r : Nat → Option Nat} {v1 v2 v3 v4 v5 : Value} (hd : Dc mi.2.1 pc (.invokevirtual idx) 3 nx) (hm : MokV mj) (hlk : Cond.methodLink mi.1.cls idx mj.1 ∈ lw_gd) (hn : nPar mj.1 5) (hb : S.2 b = some (kO ci r)) (hci : ci < 11) (hC : cN ci = mj.1.cls) (hr : (rest.map fun v => v.category).sum ≤ 8) (hlen : (lg_sl (.ref b :: [v1, v2, v3, v4, v5])).length ≤ mj.2.2.1) (hl2 : lv_args 0 (.ref b :: [v1, v2, v3, v4, v5]) = lv2) (h : X G mj d 0 0 lv2 [] S μ (qi (fun r S' μ' => X G mi (d + 1) kc nx lv (.int r :: rest) S' μ' Q))) : X G mi (d + 1) kc pc lv (v5 :: v4 :: v3 :: v2 :: v1 :: .ref b :: rest) S μ Q := by
  subst hl2
  exact X_callV (As := [v1, v2, v3, v4, v5]) hd hm hlk hn hb hci hC rfl hr hlen (Nat.zero_add kc).symm h (fun v S' μ' h => by obtain ⟨r, rfl, h⟩ := h; exact h)
theorem X_cV5v {b ci : Nat} {r : Nat → Option Nat} {v1 v2 v3 v4 v5 : Value} (hd : Dc mi.2.1 pc (.invokevirtual idx) 3 nx) (hm : MokV mj) (hlk : Cond.methodLink mi.1.cls idx mj.1 ∈ lw_gd) (hn : nPar mj.1 5) (hb : S.2 b = some (kO ci r)) (hci : ci < 11) (hC : cN ci = mj.1.cls) (hr : (rest.map fun v => v.category).sum ≤ 8) (hlen : (lg_sl (.ref b :: [v1, v2, v3, v4, v5])).length ≤ mj.2.2.1) (hl2 : lv_args 0 (.ref b :: [v1, v2, v3, v4, v5]) = lv2) (h : X G mj d 0 0 lv2 [] S μ (qv (fun S' μ' => X G mi (d + 1) kc nx lv rest S' μ' Q))) : X G mi (d + 1) kc pc lv (v5 :: v4 :: v3 :: v2 :: v1 :: .ref b :: rest) S μ Q := by
  subst hl2
  exact X_callV (As := [v1, v2, v3, v4, v5]) hd hm hlk hn hb hci hC rfl hr hlen (Nat.zero_add kc).symm h (fun v S' μ' h => by obtain ⟨rfl, h⟩ := h; exact h)
theorem X_cV5r {b ci : Nat} {r : Nat → Option Nat} {v1 v2 v3 v4 v5 : Value} (hd : Dc mi.2.1 pc (.invokevirtual idx) 3 nx) (hm : MokV mj) (hlk : Cond.methodLink mi.1.cls idx mj.1 ∈ lw_gd) (hn : nPar mj.1 5) (hb : S.2 b = some (kO ci r)) (hci : ci < 11) (hC : cN ci = mj.1.cls) (hr : (rest.map fun v => v.category).sum ≤ 8) (hlen : (lg_sl (.ref b :: [v1, v2, v3, v4, v5])).length ≤ mj.2.2.1) (hl2 : lv_args 0 (.ref b :: [v1, v2, v3, v4, v5]) = lv2) (h : X G mj d 0 0 lv2 [] S μ (qr (fun r S' μ' => X G mi (d + 1) kc nx lv (va_rf r :: rest) S' μ' Q))) : X G mi (d + 1) kc pc lv (v5 :: v4 :: v3 :: v2 :: v1 :: .ref b :: rest) S μ Q := by
  subst hl2
  exact X_callV (As := [v1, v2, v3, v4, v5]) hd hm hlk hn hb hci hC rfl hr hlen (Nat.zero_add kc).symm h (fun v S' μ' h => by obtain ⟨r, rfl, h⟩ := h; exact h)
theorem X_cV6i {b ci : Nat} {r : Nat → Option Nat} {v1 v2 v3 v4 v5 v6 : Value} (hd : Dc mi.2.1 pc (.invokevirtual idx) 3 nx) (hm : MokV mj) (hlk : Cond.methodLink mi.1.cls idx mj.1 ∈ lw_gd) (hn : nPar mj.1 6) (hb : S.2 b = some (kO ci r)) (hci : ci < 11) (hC : cN ci = mj.1.cls) (hr : (rest.map fun v => v.category).sum ≤ 8) (hlen : (lg_sl (.ref b :: [v1, v2, v3, v4, v5, v6])).length ≤ mj.2.2.1) (hl2 : lv_args 0 (.ref b :: [v1, v2, v3, v4, v5, v6]) = lv2) (h : X G mj d 0 0 lv2 [] S μ (qi (fun r S' μ' => X G mi (d + 1) kc nx lv (.int r :: rest) S' μ' Q))) : X G mi (d + 1) kc pc lv (v6 :: v5 :: v4 :: v3 :: v2 :: v1 :: .ref b :: rest) S μ Q := by
  subst hl2
  exact X_callV (As := [v1, v2, v3, v4, v5, v6]) hd hm hlk hn hb hci hC rfl hr hlen (Nat.zero_add kc).symm h (fun v S' μ' h => by obtain ⟨r, rfl, h⟩ := h; exact h)
theorem X_cV6v {b ci : Nat} {r : Nat → Option Nat} {v1 v2 v3 v4 v5 v6 : Value} (hd : Dc mi.2.1 pc (.invokevirtual idx) 3 nx) (hm : MokV mj) (hlk : Cond.methodLink mi.1.cls idx mj.1 ∈ lw_gd) (hn : nPar mj.1 6) (hb : S.2 b = some (kO ci r)) (hci : ci < 11) (hC : cN ci = mj.1.cls) (hr : (rest.map fun v => v.category).sum ≤ 8) (hlen : (lg_sl (.ref b :: [v1, v2, v3, v4, v5, v6])).length ≤ mj.2.2.1) (hl2 : lv_args 0 (.ref b :: [v1, v2, v3, v4, v5, v6]) = lv2) (h : X G mj d 0 0 lv2 [] S μ (qv (fun S' μ' => X G mi (d + 1) kc nx lv rest S' μ' Q))) : X G mi (d + 1) kc pc lv (v6 :: v5 :: v4 :: v3 :: v2 :: v1 :: .ref b :: rest) S μ Q := by
  subst hl2
  exact X_callV (As := [v1, v2, v3, v4, v5, v6]) hd hm hlk hn hb hci hC rfl hr hlen (Nat.zero_add kc).symm h (fun v S' μ' h => by obtain ⟨rfl, h⟩ := h; exact h)
theorem X_cV6r {b ci : Nat} {r : Nat → Option Nat} {v1 v2 v3 v4 v5 v6 : Value} (hd : Dc mi.2.1 pc (.invokevirtual idx) 3 nx) (hm : MokV mj) (hlk : Cond.methodLink mi.1.cls idx mj.1 ∈ lw_gd) (hn : nPar mj.1 6) (hb : S.2 b = some (kO ci r)) (hci : ci < 11) (hC : cN ci = mj.1.cls) (hr : (rest.map fun v => v.category).sum ≤ 8) (hlen : (lg_sl (.ref b :: [v1, v2, v3, v4, v5, v6])).length ≤ mj.2.2.1) (hl2 : lv_args 0 (.ref b :: [v1, v2, v3, v4, v5, v6]) = lv2) (h : X G mj d 0 0 lv2 [] S μ (qr (fun r S' μ' => X G mi (d + 1) kc nx lv (va_rf r :: rest) S' μ' Q))) : X G mi (d + 1) kc pc lv (v6 :: v5 :: v4 :: v3 :: v2 :: v1 :: .ref b :: rest) S μ Q := by
  subst hl2
  exact X_callV (As := [v1, v2, v3, v4, v5, v6]) hd hm hlk hn hb hci hC rfl hr hlen (Nat.zero_add kc).symm h (fun v S' μ' h => by obtain ⟨r, rfl, h⟩ := h; exact h)
theorem X_cS0i (hd : Dc mi.2.1 pc (.invokestatic idx) 3 nx) (hm : MokS mj) (hlk : Cond.methodLink mi.1.cls idx mj.1 ∈ lw_gd) (hn : nPar mj.1 0) (hr : (rest.map fun v => v.category).sum ≤ 8) (hlen : (lg_sl []).length ≤ mj.2.2.1) (hl2 : lv_args 0 [] = lv2) (h : X G mj d 0 0 lv2 [] S μ (qi (fun r S' μ' => X G mi (d + 1) kc nx lv (.int r :: rest) S' μ' Q))) : X G mi (d + 1) kc pc lv (rest) S μ Q := by
  subst hl2
  exact X_callS (As := []) hd hm hlk hn rfl hr hlen (Nat.zero_add kc).symm h (fun v S' μ' h => by obtain ⟨r, rfl, h⟩ := h; exact h)
theorem X_cS0v (hd : Dc mi.2.1 pc (.invokestatic idx) 3 nx) (hm : MokS mj) (hlk : Cond.methodLink mi.1.cls idx mj.1 ∈ lw_gd) (hn : nPar mj.1 0) (hr : (rest.map fun v => v.category).sum ≤ 8) (hlen : (lg_sl []).length ≤ mj.2.2.1) (hl2 : lv_args 0 [] = lv2) (h : X G mj d 0 0 lv2 [] S μ (qv (fun S' μ' => X G mi (d + 1) kc nx lv rest S' μ' Q))) : X G mi (d + 1) kc pc lv (rest) S μ Q := by
  subst hl2
  exact X_callS (As := []) hd hm hlk hn rfl hr hlen (Nat.zero_add kc).symm h (fun v S' μ' h => by obtain ⟨rfl, h⟩ := h; exact h)
theorem X_cS0r (hd : Dc mi.2.1 pc (.invokestatic idx) 3 nx) (hm : MokS mj) (hlk : Cond.methodLink mi.1.cls idx mj.1 ∈ lw_gd) (hn : nPar mj.1 0) (hr : (rest.map fun v => v.category).sum ≤ 8) (hlen : (lg_sl []).length ≤ mj.2.2.1) (hl2 : lv_args 0 [] = lv2) (h : X G mj d 0 0 lv2 [] S μ (qr (fun r S' μ' => X G mi (d + 1) kc nx lv (va_rf r :: rest) S' μ' Q))) : X G mi (d + 1) kc pc lv (rest) S μ Q := by
  subst hl2
  exact X_callS (As := []) hd hm hlk hn rfl hr hlen (Nat.zero_add kc).symm h (fun v S' μ' h => by obtain ⟨r, rfl, h⟩ := h; exact h)
theorem X_cS1i {v1 : Value} (hd : Dc mi.2.1 pc (.invokestatic idx) 3 nx) (hm : MokS mj) (hlk : Cond.methodLink mi.1.cls idx mj.1 ∈ lw_gd) (hn : nPar mj.1 1) (hr : (rest.map fun v => v.category).sum ≤ 8) (hlen : (lg_sl [v1]).length ≤ mj.2.2.1) (hl2 : lv_args 0 [v1] = lv2) (h : X G mj d 0 0 lv2 [] S μ (qi (fun r S' μ' => X G mi (d + 1) kc nx lv (.int r :: rest) S' μ' Q))) : X G mi (d + 1) kc pc lv (v1 :: rest) S μ Q := by
  subst hl2
  exact X_callS (As := [v1]) hd hm hlk hn rfl hr hlen (Nat.zero_add kc).symm h (fun v S' μ' h => by obtain ⟨r, rfl, h⟩ := h; exact h)
theorem X_cS1v {v1 : Value} (hd : Dc mi.2.1 pc (.invokestatic idx) 3 nx) (hm : MokS mj) (hlk : Cond.methodLink mi.1.cls idx mj.1 ∈ lw_gd) (hn : nPar mj.1 1) (hr : (rest.map fun v => v.category).sum ≤ 8) (hlen : (lg_sl [v1]).length ≤ mj.2.2.1) (hl2 : lv_args 0 [v1] = lv2) (h : X G mj d 0 0 lv2 [] S μ (qv (fun S' μ' => X G mi (d + 1) kc nx lv rest S' μ' Q))) : X G mi (d + 1) kc pc lv (v1 :: rest) S μ Q := by
  subst hl2
  exact X_callS (As := [v1]) hd hm hlk hn rfl hr hlen (Nat.zero_add kc).symm h (fun v S' μ' h => by obtain ⟨rfl, h⟩ := h; exact h)
theorem X_cS1r {v1 : Value} (hd : Dc mi.2.1 pc (.invokestatic idx) 3 nx) (hm : MokS mj) (hlk : Cond.methodLink mi.1.cls idx mj.1 ∈ lw_gd) (hn : nPar mj.1 1) (hr : (rest.map fun v => v.category).sum ≤ 8) (hlen : (lg_sl [v1]).length ≤ mj.2.2.1) (hl2 : lv_args 0 [v1] = lv2) (h : X G mj d 0 0 lv2 [] S μ (qr (fun r S' μ' => X G mi (d + 1) kc nx lv (va_rf r :: rest) S' μ' Q))) : X G mi (d + 1) kc pc lv (v1 :: rest) S μ Q := by
  subst hl2
  exact X_callS (As := [v1]) hd hm hlk hn rfl hr hlen (Nat.zero_add kc).symm h (fun v S' μ' h => by obtain ⟨r, rfl, h⟩ := h; exact h)
theorem X_cS2i {v1 v2 : Value} (hd : Dc mi.2.1 pc (.invokestatic idx) 3 nx) (hm : MokS mj) (hlk : Cond.methodLink mi.1.cls idx mj.1 ∈ lw_gd) (hn : nPar mj.1 2) (hr : (rest.map fun v => v.category).sum ≤ 8) (hlen : (lg_sl [v1, v2]).length ≤ mj.2.2.1) (hl2 : lv_args 0 [v1, v2] = lv2) (h : X G mj d 0 0 lv2 [] S μ (qi (fun r S' μ' => X G mi (d + 1) kc nx lv (.int r :: rest) S' μ' Q))) : X G mi (d + 1) kc pc lv (v2 :: v1 :: rest) S μ Q := by
  subst hl2
  exact X_callS (As := [v1, v2]) hd hm hlk hn rfl hr hlen (Nat.zero_add kc).symm h (fun v S' μ' h => by obtain ⟨r, rfl, h⟩ := h; exact h)
theorem X_cS2v {v1 v2 : Value} (hd : Dc mi.2.1 pc (.invokestatic idx) 3 nx) (hm : MokS mj) (hlk : Cond.methodLink mi.1.cls idx mj.1 ∈ lw_gd) (hn : nPar mj.1 2) (hr : (rest.map fun v => v.category).sum ≤ 8) (hlen : (lg_sl [v1, v2]).length ≤ mj.2.2.1) (hl2 : lv_args 0 [v1, v2] = lv2) (h : X G mj d 0 0 lv2 [] S μ (qv (fun S' μ' => X G mi (d + 1) kc nx lv rest S' μ' Q))) : X G mi (d + 1) kc pc lv (v2 :: v1 :: rest) S μ Q := by
  subst hl2
  exact X_callS (As := [v1, v2]) hd hm hlk hn rfl hr hlen (Nat.zero_add kc).symm h (fun v S' μ' h => by obtain ⟨rfl, h⟩ := h; exact h)
theorem X_cS2r {v1 v2 : Value} (hd : Dc mi.2.1 pc (.invokestatic idx) 3 nx) (hm : MokS mj) (hlk : Cond.methodLink mi.1.cls idx mj.1 ∈ lw_gd) (hn : nPar mj.1 2) (hr : (rest.map fun v => v.category).sum ≤ 8) (hlen : (lg_sl [v1, v2]).length ≤ mj.2.2.1) (hl2 : lv_args 0 [v1, v2] = lv2) (h : X G mj d 0 0 lv2 [] S μ (qr (fun r S' μ' => X G mi (d + 1) kc nx lv (va_rf r :: rest) S' μ' Q))) : X G mi (d + 1) kc pc lv (v2 :: v1 :: rest) S μ Q := by
  subst hl2
  exact X_callS (As := [v1, v2]) hd hm hlk hn rfl hr hlen (Nat.zero_add kc).symm h (fun v S' μ' h => by obtain ⟨r, rfl, h⟩ := h; exact h)
theorem X_cS3i {v1 v2 v3 : Value} (hd : Dc mi.2.1 pc (.invokestatic idx) 3 nx) (hm : MokS mj) (hlk : Cond.methodLink mi.1.cls idx mj.1 ∈ lw_gd) (hn : nPar mj.1 3) (hr : (rest.map fun v => v.category).sum ≤ 8) (hlen : (lg_sl [v1, v2, v3]).length ≤ mj.2.2.1) (hl2 : lv_args 0 [v1, v2, v3] = lv2) (h : X G mj d 0 0 lv2 [] S μ (qi (fun r S' μ' => X G mi (d + 1) kc nx lv (.int r :: rest) S' μ' Q))) : X G mi (d + 1) kc pc lv (v3 :: v2 :: v1 :: rest) S μ Q := by
  subst hl2
  exact X_callS (As := [v1, v2, v3]) hd hm hlk hn rfl hr hlen (Nat.zero_add kc).symm h (fun v S' μ' h => by obtain ⟨r, rfl, h⟩ := h; exact h)
theorem X_cS3v {v1 v2 v3 : Value} (hd : Dc mi.2.1 pc (.invokestatic idx) 3 nx) (hm : MokS mj) (hlk : Cond.methodLink mi.1.cls idx mj.1 ∈ lw_gd) (hn : nPar mj.1 3) (hr : (rest.map fun v => v.category).sum ≤ 8) (hlen : (lg_sl [v1, v2, v3]).length ≤ mj.2.2.1) (hl2 : lv_args 0 [v1, v2, v3] = lv2) (h : X G mj d 0 0 lv2 [] S μ (qv (fun S' μ' => X G mi (d + 1) kc nx lv rest S' μ' Q))) : X G mi (d + 1) kc pc lv (v3 :: v2 :: v1 :: rest) S μ Q := by
  subst hl2
  exact X_callS (As := [v1, v2, v3]) hd hm hlk hn rfl hr hlen (Nat.zero_add kc).symm h (fun v S' μ' h => by obtain ⟨rfl, h⟩ := h; exact h)
theorem X_cS3r {v1 v2 v3 : Value} (hd : Dc mi.2.1 pc (.invokestatic idx) 3 nx) (hm : MokS mj) (hlk : Cond.methodLink mi.1.cls idx mj.1 ∈ lw_gd) (hn : nPar mj.1 3) (hr : (rest.map fun v => v.category).sum ≤ 8) (hlen : (lg_sl [v1, v2, v3]).length ≤ mj.2.2.1) (hl2 : lv_args 0 [v1, v2, v3] = lv2) (h : X G mj d 0 0 lv2 [] S μ (qr (fun r S' μ' => X G mi (d + 1) kc nx lv (va_rf r :: rest) S' μ' Q))) : X G mi (d + 1) kc pc lv (v3 :: v2 :: v1 :: rest) S μ Q := by
  subst hl2
  exact X_callS (As := [v1, v2, v3]) hd hm hlk hn rfl hr hlen (Nat.zero_add kc).symm h (fun v S' μ' h => by obtain ⟨r, rfl, h⟩ := h; exact h)
theorem X_cS4i {v1 v2 v3 v4 : Value} (hd : Dc mi.2.1 pc (.invokestatic idx) 3 nx) (hm : MokS mj) (hlk : Cond.methodLink mi.1.cls idx mj.1 ∈ lw_gd) (hn : nPar mj.1 4) (hr : (rest.map fun v => v.category).sum ≤ 8) (hlen : (lg_sl [v1, v2, v3, v4]).length ≤ mj.2.2.1) (hl2 : lv_args 0 [v1, v2, v3, v4] = lv2) (h : X G mj d 0 0 lv2 [] S μ (qi (fun r S' μ' => X G mi (d + 1) kc nx lv (.int r :: rest) S' μ' Q))) : X G mi (d + 1) kc pc lv (v4 :: v3 :: v2 :: v1 :: rest) S μ Q := by
  subst hl2
  exact X_callS (As := [v1, v2, v3, v4]) hd hm hlk hn rfl hr hlen (Nat.zero_add kc).symm h (fun v S' μ' h => by obtain ⟨r, rfl, h⟩ := h; exact h)
theorem X_cS4v {v1 v2 v3 v4 : Value} (hd : Dc mi.2.1 pc (.invokestatic idx) 3 nx) (hm : MokS mj) (hlk : Cond.methodLink mi.1.cls idx mj.1 ∈ lw_gd) (hn : nPar mj.1 4) (hr : (rest.map fun v => v.category).sum ≤ 8) (hlen : (lg_sl [v1, v2, v3, v4]).length ≤ mj.2.2.1) (hl2 : lv_args 0 [v1, v2, v3, v4] = lv2) (h : X G mj d 0 0 lv2 [] S μ (qv (fun S' μ' => X G mi (d + 1) kc nx lv rest S' μ' Q))) : X G mi (d + 1) kc pc lv (v4 :: v3 :: v2 :: v1 :: rest) S μ Q := by
  subst hl2
  exact X_callS (As := [v1, v2, v3, v4]) hd hm hlk hn rfl hr hlen (Nat.zero_add kc).symm h (fun v S' μ' h => by obtain ⟨rfl, h⟩ := h; exact h)
theorem X_cS4r {v1 v2 v3 v4 : Value} (hd : Dc mi.2.1 pc (.invokestatic idx) 3 nx) (hm : MokS mj) (hlk : Cond.methodLink mi.1.cls idx mj.1 ∈ lw_gd) (hn : nPar mj.1 4) (hr : (rest.map fun v => v.category).sum ≤ 8) (hlen : (lg_sl [v1, v2, v3, v4]).length ≤ mj.2.2.1) (hl2 : lv_args 0 [v1, v2, v3, v4] = lv2) (h : X G mj d 0 0 lv2 [] S μ (qr (fun r S' μ' => X G mi (d + 1) kc nx lv (va_rf r :: rest) S' μ' Q))) : X G mi (d + 1) kc pc lv (v4 :: v3 :: v2 :: v1 :: rest) S μ Q := by
  subst hl2
  exact X_callS (As := [v1, v2, v3, v4]) hd hm hlk hn rfl hr hlen (Nat.zero_add kc).symm h (fun v S' μ' h => by obtain ⟨r, rfl, h⟩ := h; exact h)
theorem X_cS5i {v1 v2 v3 v4 v5 : Value} (hd : Dc mi.2.1 pc (.invokestatic idx) 3 nx) (hm : MokS mj) (hlk : Cond.methodLink mi.1.cls idx mj.1 ∈ lw_gd) (hn : nPar mj.1 5) (hr : (rest.map fun v => v.category).sum ≤ 8) (hlen : (lg_sl [v1, v2, v3, v4, v5]).length ≤ mj.2.2.1) (hl2 : lv_args 0 [v1, v2, v3, v4, v5] = lv2) (h : X G mj d 0 0 lv2 [] S μ (qi (fun r S' μ' => X G mi (d + 1) kc nx lv (.int r :: rest) S' μ' Q))) : X G mi (d + 1) kc pc lv (v5 :: v4 :: v3 :: v2 :: v1 :: rest) S μ Q := by
  subst hl2
  exact X_callS (As := [v1, v2, v3, v4, v5]) hd hm hlk hn rfl hr hlen (Nat.zero_add kc).symm h (fun v S' μ' h => by obtain ⟨r, rfl, h⟩ := h; exact h)
theorem X_cS5v {v1 v2 v3 v4 v5 : Value} (hd : Dc mi.2.1 pc (.invokestatic idx) 3 nx) (hm : MokS mj) (hlk : Cond.methodLink mi.1.cls idx mj.1 ∈ lw_gd) (hn : nPar mj.1 5) (hr : (rest.map fun v => v.category).sum ≤ 8) (hlen : (lg_sl [v1, v2, v3, v4, v5]).length ≤ mj.2.2.1) (hl2 : lv_args 0 [v1, v2, v3, v4, v5] = lv2) (h : X G mj d 0 0 lv2 [] S μ (qv (fun S' μ' => X G mi (d + 1) kc nx lv rest S' μ' Q))) : X G mi (d + 1) kc pc lv (v5 :: v4 :: v3 :: v2 :: v1 :: rest) S μ Q := by
  subst hl2
  exact X_callS (As := [v1, v2, v3, v4, v5]) hd hm hlk hn rfl hr hlen (Nat.zero_add kc).symm h (fun v S' μ' h => by obtain ⟨rfl, h⟩ := h; exact h)
theorem X_cS5r {v1 v2 v3 v4 v5 : Value} (hd : Dc mi.2.1 pc (.invokestatic idx) 3 nx) (hm : MokS mj) (hlk : Cond.methodLink mi.1.cls idx mj.1 ∈ lw_gd) (hn : nPar mj.1 5) (hr : (rest.map fun v => v.category).sum ≤ 8) (hlen : (lg_sl [v1, v2, v3, v4, v5]).length ≤ mj.2.2.1) (hl2 : lv_args 0 [v1, v2, v3, v4, v5] = lv2) (h : X G mj d 0 0 lv2 [] S μ (qr (fun r S' μ' => X G mi (d + 1) kc nx lv (va_rf r :: rest) S' μ' Q))) : X G mi (d + 1) kc pc lv (v5 :: v4 :: v3 :: v2 :: v1 :: rest) S μ Q := by
  subst hl2
  exact X_callS (As := [v1, v2, v3, v4, v5]) hd hm hlk hn rfl hr hlen (Nat.zero_add kc).symm h (fun v S' μ' h => by obtain ⟨r, rfl, h⟩ := h; exact h)
theorem X_cS6i {v1 v2 v3 v4 v5 v6 : Value} (hd : Dc mi.2.1 pc (.invokestatic idx) 3 nx) (hm : MokS mj) (hlk : Cond.methodLink mi.1.cls idx mj.1 ∈ lw_gd) (hn : nPar mj.1 6) (hr : (rest.map fun v => v.category).sum ≤ 8) (hlen : (lg_sl [v1, v2, v3, v4, v5, v6]).length ≤ mj.2.2.1) (hl2 : lv_args 0 [v1, v2, v3, v4, v5, v6] = lv2) (h : X G mj d 0 0 lv2 [] S μ (qi (fun r S' μ' => X G mi (d + 1) kc nx lv (.int r :: rest) S' μ' Q))) : X G mi (d + 1) kc pc lv (v6 :: v5 :: v4 :: v3 :: v2 :: v1 :: rest) S μ Q := by
  subst hl2
  exact X_callS (As := [v1, v2, v3, v4, v5, v6]) hd hm hlk hn rfl hr hlen (Nat.zero_add kc).symm h (fun v S' μ' h => by obtain ⟨r, rfl, h⟩ := h; exact h)
theorem X_cS6v {v1 v2 v3 v4 v5 v6 : Value} (hd : Dc mi.2.1 pc (.invokestatic idx) 3 nx) (hm : MokS mj) (hlk : Cond.methodLink mi.1.cls idx mj.1 ∈ lw_gd) (hn : nPar mj.1 6) (hr : (rest.map fun v => v.category).sum ≤ 8) (hlen : (lg_sl [v1, v2, v3, v4, v5, v6]).length ≤ mj.2.2.1) (hl2 : lv_args 0 [v1, v2, v3, v4, v5, v6] = lv2) (h : X G mj d 0 0 lv2 [] S μ (qv (fun S' μ' => X G mi (d + 1) kc nx lv rest S' μ' Q))) : X G mi (d + 1) kc pc lv (v6 :: v5 :: v4 :: v3 :: v2 :: v1 :: rest) S μ Q := by
  subst hl2
  exact X_callS (As := [v1, v2, v3, v4, v5, v6]) hd hm hlk hn rfl hr hlen (Nat.zero_add kc).symm h (fun v S' μ' h => by obtain ⟨rfl, h⟩ := h; exact h)
theorem X_cS6r {v1 v2 v3 v4 v5 v6 : Value} (hd : Dc mi.2.1 pc (.invokestatic idx) 3 nx) (hm : MokS mj) (hlk : Cond.methodLink mi.1.cls idx mj.1 ∈ lw_gd) (hn : nPar mj.1 6) (hr : (rest.map fun v => v.category).sum ≤ 8) (hlen : (lg_sl [v1, v2, v3, v4, v5, v6]).length ≤ mj.2.2.1) (hl2 : lv_args 0 [v1, v2, v3, v4, v5, v6] = lv2) (h : X G mj d 0 0 lv2 [] S μ (qr (fun r S' μ' => X G mi (d + 1) kc nx lv (va_rf r :: rest) S' μ' Q))) : X G mi (d + 1) kc pc lv (v6 :: v5 :: v4 :: v3 :: v2 :: v1 :: rest) S μ Q := by
  subst hl2
  exact X_callS (As := [v1, v2, v3, v4, v5, v6]) hd hm hlk hn rfl hr hlen (Nat.zero_add kc).symm h (fun v S' μ' h => by obtain ⟨r, rfl, h⟩ := h; exact h)
theorem X_cI0v {b : Nat} (hd : Dc mi.2.1 pc (.invokespecial idx) 3 nx) (hm : MokI mj) (hlk : Cond.methodLink mi.1.cls idx mj.1 ∈ lw_gd) (hn : nPar mj.1 0) (hr : (rest.map fun v => v.category).sum ≤ 8) (hlen : (lg_sl (.ref b :: [])).length ≤ mj.2.2.1) (hl2 : lv_args 0 (.ref b :: []) = lv2) (h : X G mj d 0 0 lv2 [] S μ (qv (fun S' μ' => X G mi (d + 1) kc nx lv rest S' μ' Q))) : X G mi (d + 1) kc pc lv (.ref b :: rest) S μ Q := by
  subst hl2
  exact X_callI (As := []) hd hm hlk hn rfl hr hlen (Nat.zero_add kc).symm h (fun v S' μ' h => by obtain ⟨rfl, h⟩ := h; exact h)
theorem X_cI1v {b : Nat} {v1 : Value} (hd : Dc mi.2.1 pc (.invokespecial idx) 3 nx) (hm : MokI mj) (hlk : Cond.methodLink mi.1.cls idx mj.1 ∈ lw_gd) (hn : nPar mj.1 1) (hr : (rest.map fun v => v.category).sum ≤ 8) (hlen : (lg_sl (.ref b :: [v1])).length ≤ mj.2.2.1) (hl2 : lv_args 0 (.ref b :: [v1]) = lv2) (h : X G mj d 0 0 lv2 [] S μ (qv (fun S' μ' => X G mi (d + 1) kc nx lv rest S' μ' Q))) : X G mi (d + 1) kc pc lv (v1 :: .ref b :: rest) S μ Q := by
  subst hl2
  exact X_callI (As := [v1]) hd hm hlk hn rfl hr hlen (Nat.zero_add kc).symm h (fun v S' μ' h => by obtain ⟨rfl, h⟩ := h; exact h)
theorem X_cI2v {b : Nat} {v1 v2 : Value} (hd : Dc mi.2.1 pc (.invokespecial idx) 3 nx) (hm : MokI mj) (hlk : Cond.methodLink mi.1.cls idx mj.1 ∈ lw_gd) (hn : nPar mj.1 2) (hr : (rest.map fun v => v.category).sum ≤ 8) (hlen : (lg_sl (.ref b :: [v1, v2])).length ≤ mj.2.2.1) (hl2 : lv_args 0 (.ref b :: [v1, v2]) = lv2) (h : X G mj d 0 0 lv2 [] S μ (qv (fun S' μ' => X G mi (d + 1) kc nx lv rest S' μ' Q))) : X G mi (d + 1) kc pc lv (v2 :: v1 :: .ref b :: rest) S μ Q := by
  subst hl2
  exact X_callI (As := [v1, v2]) hd hm hlk hn rfl hr hlen (Nat.zero_add kc).symm h (fun v S' μ' h => by obtain ⟨rfl, h⟩ := h; exact h)
theorem X_cI3v {b : Nat} {v1 v2 v3 : Value} (hd : Dc mi.2.1 pc (.invokespecial idx) 3 nx) (hm : MokI mj) (hlk : Cond.methodLink mi.1.cls idx mj.1 ∈ lw_gd) (hn : nPar mj.1 3) (hr : (rest.map fun v => v.category).sum ≤ 8) (hlen : (lg_sl (.ref b :: [v1, v2, v3])).length ≤ mj.2.2.1) (hl2 : lv_args 0 (.ref b :: [v1, v2, v3]) = lv2) (h : X G mj d 0 0 lv2 [] S μ (qv (fun S' μ' => X G mi (d + 1) kc nx lv rest S' μ' Q))) : X G mi (d + 1) kc pc lv (v3 :: v2 :: v1 :: .ref b :: rest) S μ Q := by
  subst hl2
  exact X_callI (As := [v1, v2, v3]) hd hm hlk hn rfl hr hlen (Nat.zero_add kc).symm h (fun v S' μ' h => by obtain ⟨rfl, h⟩ := h; exact h)
theorem X_cT0i {b t : Nat} (hd : Dc mi.2.1 pc (.invokevirtual idx) 3 nx) (hm : MokV mj) (hlk : Cond.methodLink mi.1.cls idx mj.1 ∈ lw_gd) (hn : nPar mj.1 0) (hb : S.2 b = some (kT t)) (hC : mj.1.cls = "java/lang/String") (hr : (rest.map fun v => v.category).sum ≤ 8) (hlen : (lg_sl (.ref b :: [])).length ≤ mj.2.2.1) (hl2 : lv_args 0 (.ref b :: []) = lv2) (h : X G mj d 0 0 lv2 [] S μ (qi (fun r S' μ' => X G mi (d + 1) kc nx lv (.int r :: rest) S' μ' Q))) : X G mi (d + 1) kc pc lv (.ref b :: rest) S μ Q := by
  subst hl2
  exact X_callT (As := []) hd hm hlk hn hb hC rfl hr hlen (Nat.zero_add kc).symm h (fun v S' μ' h => by obtain ⟨r, rfl, h⟩ := h; exact h)
theorem X_cT1i {b t : Nat} {v1 : Value} (hd : Dc mi.2.1 pc (.invokevirtual idx) 3 nx) (hm : MokV mj) (hlk : Cond.methodLink mi.1.cls idx mj.1 ∈ lw_gd) (hn : nPar mj.1 1) (hb : S.2 b = some (kT t)) (hC : mj.1.cls = "java/lang/String") (hr : (rest.map fun v => v.category).sum ≤ 8) (hlen : (lg_sl (.ref b :: [v1])).length ≤ mj.2.2.1) (hl2 : lv_args 0 (.ref b :: [v1]) = lv2) (h : X G mj d 0 0 lv2 [] S μ (qi (fun r S' μ' => X G mi (d + 1) kc nx lv (.int r :: rest) S' μ' Q))) : X G mi (d + 1) kc pc lv (v1 :: .ref b :: rest) S μ Q := by
  subst hl2
  exact X_callT (As := [v1]) hd hm hlk hn hb hC rfl hr hlen (Nat.zero_add kc).symm h (fun v S' μ' h => by obtain ⟨r, rfl, h⟩ := h; exact h)
theorem X_cT2i {b t : Nat} {v1 v2 : Value} (hd : Dc mi.2.1 pc (.invokevirtual idx) 3 nx) (hm : MokV mj) (hlk : Cond.methodLink mi.1.cls idx mj.1 ∈ lw_gd) (hn : nPar mj.1 2) (hb : S.2 b = some (kT t)) (hC : mj.1.cls = "java/lang/String") (hr : (rest.map fun v => v.category).sum ≤ 8) (hlen : (lg_sl (.ref b :: [v1, v2])).length ≤ mj.2.2.1) (hl2 : lv_args 0 (.ref b :: [v1, v2]) = lv2) (h : X G mj d 0 0 lv2 [] S μ (qi (fun r S' μ' => X G mi (d + 1) kc nx lv (.int r :: rest) S' μ' Q))) : X G mi (d + 1) kc pc lv (v2 :: v1 :: .ref b :: rest) S μ Q := by
  subst hl2
  exact X_callT (As := [v1, v2]) hd hm hlk hn hb hC rfl hr hlen (Nat.zero_add kc).symm h (fun v S' μ' h => by obtain ⟨r, rfl, h⟩ := h; exact h)
theorem X_max {x y : Int32} (hd : Dc mi.2.1 pc (.invokestatic idx) 3 nx) (hlk : Cond.methodLink mi.1.cls idx Lib.Math.max.name ∈ lw_gd) (hr : (rest.map fun v => v.category).sum ≤ 8) (k : X G mi (d + 1) kc nx lv (.int (if x < y then y else x) :: rest) S μ Q) : X G mi (d + 1) kc pc lv (.int y :: .int x :: rest) S μ Q := by
  intro p l e R s m args below meth c mc Z C hZ H locs cells slots ls hR hk hl
  obtain ⟨hd, rfl⟩ := hd
  have hts := C.2.2.2.2.2.1
  have hroom := C.2.2.2.2.2.2.2.2.1
  exact va_mmax C.1 C.2.1 (C.2.2.2.1.trans hl.1.symm) C.2.2.2.2.1 (hts _ hlk) (hts _ (gd (wk 46 (by decide +kernel)) rfl)) (hts _ (gd (wk 4 (by decide +kernel)) rfl)) (hts _ (gd (wk 47 (by decide +kernel)) rfl)) (by omega) (by omega) (by omega) (by omega) hd (k p l e R s m args below meth c mc Z C hZ H locs cells slots ls hR hk hl)
theorem X_min {x y : Int32} (hd : Dc mi.2.1 pc (.invokestatic idx) 3 nx) (hlk : Cond.methodLink mi.1.cls idx Lib.Math.min.name ∈ lw_gd) (hr : (rest.map fun v => v.category).sum ≤ 8) (k : X G mi (d + 1) kc nx lv (.int (if y < x then y else x) :: rest) S μ Q) : X G mi (d + 1) kc pc lv (.int y :: .int x :: rest) S μ Q := by
  intro p l e R s m args below meth c mc Z C hZ H locs cells slots ls hR hk hl
  obtain ⟨hd, rfl⟩ := hd
  have hts := C.2.2.2.2.2.1
  have hroom := C.2.2.2.2.2.2.2.2.1
  exact va_mmin C.1 C.2.1 (C.2.2.2.1.trans hl.1.symm) C.2.2.2.2.1 (hts _ hlk) (hts _ (gd (wk 538 (by decide +kernel)) rfl)) (hts _ (gd (wk 4 (by decide +kernel)) rfl)) (hts _ (gd (wk 539 (by decide +kernel)) rfl)) (by omega) (by omega) (by omega) (by omega) hd (k p l e R s m args below meth c mc Z C hZ H locs cells slots ls hR hk hl)
theorem X_abs {x : Int32} (hd : Dc mi.2.1 pc (.invokestatic idx) 3 nx) (hlk : Cond.methodLink mi.1.cls idx Lib.Math.abs.name ∈ lw_gd) (hr : (rest.map fun v => v.category).sum ≤ 8) (k : X G mi (d + 1) kc nx lv (.int (if 0 ≤ x then x else 0 - x) :: rest) S μ Q) : X G mi (d + 1) kc pc lv (.int x :: rest) S μ Q := by
  intro p l e R s m args below meth c mc Z C hZ H locs cells slots ls hR hk hl
  obtain ⟨hd, rfl⟩ := hd
  have hts := C.2.2.2.2.2.1
  have hroom := C.2.2.2.2.2.2.2.2.1
  exact va_mabs C.1 C.2.1 (C.2.2.2.1.trans hl.1.symm) C.2.2.2.2.1 (hts _ hlk) (hts _ (gd (wk 478 (by decide +kernel)) rfl)) (hts _ (gd (wk 4 (by decide +kernel)) rfl)) (hts _ (gd (wk 479 (by decide +kernel)) rfl)) (by omega) (by omega) (by omega) (by omega) hd (k p l e R s m args below meth c mc Z C hZ H locs cells slots ls hR hk hl)
theorem X_lcmp {x y : Int64} (hd : Dc mi.2.1 pc .lcmp 1 nx) (k : X G mi d kc nx lv (.int (lg_cmp x y) :: rest) S μ Q) : X G mi d kc pc lv (.long y :: .long x :: rest) S μ Q := by
  intro p l e R s m args below meth c mc Z C hZ H locs cells slots ls hR hk hl
  obtain ⟨hd, rfl⟩ := hd
  exact W.lcmp C.1 C.2.1 hd (k p l e R s m args below meth c mc Z C hZ H locs cells slots ls hR hk hl)
theorem X_copy {a0 a n0 n1 : Nat} {sp dp n : Int32} (hd : Dc mi.2.1 pc (.invokestatic idx) 3 nx) (hlk : Cond.methodLink mi.1.cls idx arraycopyName ∈ lw_gd) (hb0 : S.2 a0 = some (kI n0)) (hb1 : S.2 a = some (kI n1)) (h1 : ¬ sp < 0) (h2 : ¬ dp < 0) (h3 : ¬ n < 0) (h4 : sp.toNatClampNeg + n.toNatClampNeg ≤ n0) (h5 : dp.toNatClampNeg + n.toNatClampNeg ≤ n1) (hr : (rest.map fun v => v.category).sum ≤ 8)
    (k : X G mi (d + 1) kc nx lv rest S (Mx μ a (va_cpy (μ a0) (μ a) sp.toNatClampNeg dp.toNatClampNeg n.toNatClampNeg)) Q) : X G mi (d + 1) kc pc lv (.int n :: .int dp :: .ref a :: .int sp :: .ref a0 :: rest) S μ Q := by
  intro p l e R s m args below meth c mc Z C hZ H locs cells slots ls hR hk hl
  obtain ⟨hd, rfl⟩ := hd
  have hts := C.2.2.2.2.2.1
  have hroom := C.2.2.2.2.2.2.2.2.1
  have hal := C.2.2.2.2.2.2.2.2.2.1.alike
  have nn : ∀ z : Int32, ¬ z < 0 → z.toInt = (z.toNatClampNeg : Int) := by
    intro z hz
    have hz0 : (0 : Int) ≤ z.toInt := by
      have := Int32.not_lt.mp hz
      simpa using Int32.le_iff_toInt_le.mp this
    show z.toInt = ((z.toInt.toNat : Nat) : Int)
    omega
  have hnw : nativeFrameWords "java/lang/System" "arraycopy" 5 = 7 := by decide +kernel
  intro T hT X
  obtain ⟨hga0, c0, hA0, hc0⟩ := hR.at hb0
  obtain ⟨hga, c1, hA1, hc1⟩ := hR.at hb1
  obtain ⟨-, k0, hk0, cm0, hkk0⟩ := arrOfT_moved hal hA0 n0 (fun j => .int (μ a0 j))
  obtain ⟨-, k1, hk1, cm1, hkk1⟩ := arrOfT_moved hal hA1 n1 (fun j => .int (μ a j))
  obtain ⟨vm', X', step⟩ := X.arraycopy C.1 C.2.2.2.2.1 (hts _ hlk) (hts (.native arraycopyName) (gd (wk 677 (by decide +kernel)) rfl)) (hts (.static arraycopyName) (gd (wk 676 (by decide +kernel)) rfl)) (hts (.initialized "java/lang/System") (gd (wk 18 (by decide +kernel)) rfl)) (src := a0) (dst := a) (cs := arrV c0 n0 (fun j => .int (μ a0 j))) (cd := arrV c1 n1 (fun j => .int (μ a j))) (srcPos := sp) (destPos := dp) (n := n) (by rw [hT]; exact hc0) (by rw [hT]; exact hc1)
    (fun _ h => by cases h) (fun _ h => by cases h) (fun h => by cases h) (fun h => by cases h) hk0 hk1 hkk0 hkk1 (by simp [refKind]) h1 h2 h3
    (by rw [nn sp h1, nn n h3, arrV_size]; omega)
    (by rw [nn dp h2, nn n h3, arrV_size]; omega)
    (fun vm₁ _ i hi => by
      have e : (arrV c0 n0 (fun j => .int (μ a0 j))).slots.getD (sp.toNatClampNeg + i) .null = .int (μ a0 (sp.toNatClampNeg + i)) := by
        rw [Array.getD_eq_getD_getElem?, arrV_read _ _ (by omega)]
        rfl
      refine ⟨?_, ?_⟩
      · rw [e]
        rfl
      · rw [e]
        exact trivial)
    (g := F0 m pc ls (.int n :: .int dp :: .ref a :: .int sp :: .ref a0 :: rest)) rfl (by rw [C.2.2.2.1]; exact hl.1) (rest := rest) rfl (by rw [C.2.1]; exact hd) (by omega) (by rw [hnw]; show 2 * 0 + _ + (7 + 11) ≤ _; omega)
  have e1 : copied (arrV c0 n0 (fun j => .int (μ a0 j))) (arrV c1 n1 (fun j => .int (μ a j))) sp dp n = arrV c1 n1 (fun j => .int (va_cpy (μ a0) (μ a) sp.toNatClampNeg dp.toNatClampNeg n.toNatClampNeg j)) := va_copied (fun z => .int z) c0 c1 (μ a0) (μ a) h4
  rw [e1] at X' step
  have hl1 : a < H.size := (Array.getElem?_eq_some_iff.mp hc1).1
  have hheap : ((T.setVm vm').setCell a (arrV c1 n1 (fun j => .int (va_cpy (μ a0) (μ a) sp.toNatClampNeg dp.toNatClampNeg n.toNatClampNeg j)))).heap = H.setIfInBounds a (arrV c1 n1 (fun j => .int (va_cpy (μ a0) (μ a) sp.toNatClampNeg dp.toNatClampNeg n.toNatClampNeg j))) := by rw [← hT]; rfl
  generalize hH1 : H.setIfInBounds a (arrV c1 n1 (fun j => .int (va_cpy (μ a0) (μ a) sp.toNatClampNeg dp.toNatClampNeg n.toNatClampNeg j))) = H1 at hheap
  have oq : ∀ q : Nat, q ≠ a → H1[q]? = H[q]? := fun q hq => by rw [← hH1]; simp [Array.getElem?_setIfInBounds, Ne.symm hq]
  have eq1 : H1[a]? = some (arrV c1 n1 (fun j => .int (va_cpy (μ a0) (μ a) sp.toNatClampNeg dp.toNatClampNeg n.toNatClampNeg j))) := by rw [← hH1]; simp [Array.getElem?_setIfInBounds, hl1]
  have hz : H1.size = H.size := by rw [← hH1]; simp
  have hR1 := (hR.put (S' := S) (μ' := Mx μ a (va_cpy (μ a0) (μ a) sp.toNatClampNeg dp.toNatClampNeg n.toNatClampNeg)) (i := 0) rfl hga (hR.lt hb1) hz oq (fun q hq => ⟨rfl, Mx_ne hq⟩) (by rw [hb1, Mx_same]; exact ⟨hga, c1, hA1, eq1⟩)).nil
  obtain ⟨t, a1, b1⟩ := k p l e R s m args below meth c mc Z C hZ H1 _ cells slots ls (hR1.app hR.2.2.2.2.2 (L := _) (fun q hq => by
      obtain ⟨z, -, hz⟩ := List.mem_map.mp hq
      rw [← hz]
      exact hga)) hk hl _ hheap X'
  exact ⟨t, step t a1, b1⟩
end
end
section
abbrev mi_X0_init : MI := (⟨"RopesAtDawn$Chooser", "<init>", "()V"⟩, prog_2_method_1_code, 1, none)
def tb_X0_init : List (Nat × Instr × Nat × Nat) := [(0, .aload_n 0, 1, 1), (1, .invokespecial 3, 3, 4), (4, .aload_n 0, 1, 5), (5, .new 9, 3, 8), (8, .dup, 1, 9), (9, .bipush 6, 2, 11), (11, .invokespecial 11, 3, 14), (14, .putfield 14, 3, 17), (17, .aload_n 0, 1, 18), (18, .iconst (-1), 1, 19), (19, .putfield 20, 3, 22), (22, .aload_n 0, 1, 23), (23, .iconst 0, 1, 24), (24, .putfield 24, 3, 27), (27, .aload_n 0, 1, 28), (28, .new 27, 3, 31), (31, .dup, 1, 32), (32, .invokespecial 29, 3, 35), (35, .putfield 30, 3, 38), (38, .aload_n 0, 1, 39), (39, .new 34, 3, 42), (42, .dup, 1, 43), (43, .invokespecial 36, 3, 46), (46, .putfield 37, 3, 49), (49, .return_, 1, 50)]
theorem tk_X0_init : Tk mi_X0_init.2.1 tb_X0_init := Tk.of (by decide +kernel)
abbrev mi_X0_begin : MI := (⟨"RopesAtDawn$Chooser", "begin", "(LRopesAtDawn$Dawn;)V"⟩, prog_2_method_2_code, 2, none)
def tb_X0_begin : List (Nat × Instr × Nat × Nat) := [(0, .aload_n 0, 1, 1), (1, .getfield 30, 3, 4), (4, .aload_n 1, 1, 5), (5, .invokevirtual 41, 3, 8), (8, .aload_n 0, 1, 9), (9, .iconst (-1), 1, 10), (10, .putfield 20, 3, 13), (13, .aload_n 0, 1, 14), (14, .ldc 45, 2, 16), (16, .putfield 24, 3, 19), (19, .return_, 1, 20)]
theorem tk_X0_begin : Tk mi_X0_begin.2.1 tb_X0_begin := Tk.of (by decide +kernel)
abbrev mi_X0_weigh : MI := (⟨"RopesAtDawn$Chooser", "weigh", "(II)V"⟩, prog_2_method_3_code, 3, none)
def tb_X0_weigh : List (Nat × Instr × Nat × Nat) := [(0, .iload_n 2, 1, 1), (1, .aload_n 0, 1, 2), (2, .getfield 24, 3, 5), (5, .if_icmp .ge 13, 3, 8), (8, .aload_n 0, 1, 9), (9, .iload_n 2, 1, 10), (10, .putfield 24, 3, 13), (13, .aload_n 0, 1, 14), (14, .iload_n 1, 1, 15), (15, .putfield 20, 3, 18), (18, .return_, 1, 19)]
theorem tk_X0_weigh : Tk mi_X0_weigh.2.1 tb_X0_weigh := Tk.of (by decide +kernel)
abbrev mi_X0_chooseOrder : MI := (⟨"RopesAtDawn$Chooser", "chooseOrder", "(LRopesAtDawn$Dawn;I)V"⟩, prog_2_method_4_code, 7, none)
def tb_X0_chooseOrder : List (Nat × Instr × Nat × Nat) := [(0, .aload_n 0, 1, 1), (1, .aload_n 1, 1, 2), (2, .invokevirtual 46, 3, 5), (5, .aload_n 0, 1, 6), (6, .getfield 30, 3, 9), (9, .iload_n 2, 1, 10), (10, .invokevirtual 49, 3, 13), (13, .astore_n 3, 1, 14), (14, .aload_n 3, 1, 15), (15, .invokevirtual 53, 3, 18), (18, .iconst 1, 1, 19), (19, .istore 4, 2, 21), (21, .iconst 0, 1, 22), (22, .istore 5, 2, 24), (24, .iload 5, 2, 26), (26, .bipush 120, 2, 28), (28, .if_icmp .ge 56, 3, 31), (31, .iload 4, 2, 33), (33, .ifCond .eq 51, 3, 36), (36, .aload_n 0, 1, 37), (37, .getfield 37, 3, 40), (40, .aload_n 0, 1, 41), (41, .getfield 30, 3, 44), (44, .invokevirtual 56, 3, 47), (47, .istore 6, 2, 49), (49, .iload 6, 2, 51), (51, .aload_n 0, 1, 52), (52, .getfield 24, 3, 55), (55, .if_icmp .ge 17, 3, 58), (58, .aload_n 0, 1, 59), (59, .iload 6, 2, 61), (61, .putfield 24, 3, 64), (64, .aload_n 0, 1, 65), (65, .getfield 14, 3, 68), (68, .aload_n 3, 1, 69), (69, .invokevirtual 60, 3, 72), (72, .aload_n 3, 1, 73), (73, .invokevirtual 63, 3, 76), (76, .istore 4, 2, 78), (78, .iinc 5 1, 3, 81), (81, .goto (-57), 3, 84), (84, .return_, 1, 85)]
theorem tk_X0_chooseOrder : Tk mi_X0_chooseOrder.2.1 tb_X0_chooseOrder := Tk.of (by decide +kernel)
abbrev mi_X0_chooseLine : MI := (⟨"RopesAtDawn$Chooser", "chooseLine", "(LRopesAtDawn$Dawn;)V"⟩, prog_2_method_5_code, 6, none)
def tb_X0_chooseLine : List (Nat × Instr × Nat × Nat) := [(0, .aload_n 0, 1, 1), (1, .aload_n 1, 1, 2), (2, .invokevirtual 46, 3, 5), (5, .aload_n 0, 1, 6), (6, .getfield 30, 3, 9), (9, .getfield 67, 3, 12), (12, .invokevirtual 53, 3, 15), (15, .ldc 45, 2, 17), (17, .istore_n 2, 1, 18), (18, .iconst 1, 1, 19), (19, .istore_n 3, 1, 20), (20, .iconst 0, 1, 21), (21, .istore 4, 2, 23), (23, .iload 4, 2, 25), (25, .sipush 720, 3, 28), (28, .if_icmp .ge 94, 3, 31), (31, .iload_n 3, 1, 32), (32, .ifCond .eq 90, 3, 35), (35, .aload_n 0, 1, 36), (36, .getfield 37, 3, 39), (39, .aload_n 0, 1, 40), (40, .getfield 30, 3, 43), (43, .invokevirtual 56, 3, 46), (46, .istore 5, 2, 48), (48, .iload 5, 2, 50), (50, .aload_n 0, 1, 51), (51, .getfield 24, 3, 54), (54, .if_icmp .lt 23, 3, 57), (57, .iload 5, 2, 59), (59, .aload_n 0, 1, 60), (60, .getfield 24, 3, 63), (63, .if_icmp .ne 42, 3, 66), (66, .aload_n 0, 1, 67), (67, .getfield 37, 3, 70), (70, .getfield 70, 3, 73), (73, .iload_n 2, 1, 74), (74, .if_icmp .ge 31, 3, 77), (77, .aload_n 0, 1, 78), (78, .iload 5, 2, 80), (80, .putfield 24, 3, 83), (83, .aload_n 0, 1, 84), (84, .getfield 37, 3, 87), (87, .getfield 70, 3, 90), (90, .istore_n 2, 1, 91), (91, .aload_n 0, 1, 92), (92, .getfield 14, 3, 95), (95, .aload_n 0, 1, 96), (96, .getfield 30, 3, 99), (99, .getfield 67, 3, 102), (102, .invokevirtual 60, 3, 105), (105, .aload_n 0, 1, 106), (106, .getfield 30, 3, 109), (109, .getfield 67, 3, 112), (112, .invokevirtual 63, 3, 115), (115, .istore_n 3, 1, 116), (116, .iinc 4 1, 3, 119), (119, .goto (-96), 3, 122), (122, .return_, 1, 123)]
theorem tk_X0_chooseLine : Tk mi_X0_chooseLine.2.1 tb_X0_chooseLine := Tk.of (by decide +kernel)
abbrev mi_X0_chooseSpace : MI := (⟨"RopesAtDawn$Chooser", "chooseSpace", "(LRopesAtDawn$Dawn;I)V"⟩, prog_2_method_6_code, 4, none)
def tb_X0_chooseSpace : List (Nat × Instr × Nat × Nat) := [(0, .aload_n 0, 1, 1), (1, .aload_n 1, 1, 2), (2, .invokevirtual 46, 3, 5), (5, .iconst 1, 1, 6), (6, .istore_n 3, 1, 7), (7, .iload_n 3, 1, 8), (8, .bipush 20, 2, 10), (10, .if_icmp .gt 38, 3, 13), (13, .aload_n 0, 1, 14), (14, .getfield 30, 3, 17), (17, .getfield 73, 3, 20), (20, .iload_n 2, 1, 21), (21, .iconst 1, 1, 22), (22, .iload_n 3, 1, 23), (23, .invokevirtual 77, 3, 26), (26, .aload_n 0, 1, 27), (27, .iload_n 3, 1, 28), (28, .aload_n 0, 1, 29), (29, .getfield 37, 3, 32), (32, .aload_n 0, 1, 33), (33, .getfield 30, 3, 36), (36, .invokevirtual 56, 3, 39), (39, .invokevirtual 83, 3, 42), (42, .iinc 3 1, 3, 45), (45, .goto (-38), 3, 48), (48, .return_, 1, 49)]
theorem tk_X0_chooseSpace : Tk mi_X0_chooseSpace.2.1 tb_X0_chooseSpace := Tk.of (by decide +kernel)
abbrev mi_X0_chooseParts : MI := (⟨"RopesAtDawn$Chooser", "chooseParts", "(LRopesAtDawn$Dawn;II)V"⟩, prog_2_method_7_code, 8, none)
def tb_X0_chooseParts : List (Nat × Instr × Nat × Nat) := [(0, .aload_n 0, 1, 1), (1, .aload_n 1, 1, 2), (2, .invokevirtual 46, 3, 5), (5, .aload_n 0, 1, 6), (6, .getfield 30, 3, 9), (9, .iload_n 2, 1, 10), (10, .invokevirtual 49, 3, 13), (13, .invokevirtual 87, 3, 16), (16, .aload_n 0, 1, 17), (17, .getfield 30, 3, 20), (20, .iload_n 3, 1, 21), (21, .invokevirtual 49, 3, 24), (24, .invokevirtual 87, 3, 27), (27, .ior, 1, 28), (28, .istore 4, 2, 30), (30, .iconst 0, 1, 31), (31, .istore 5, 2, 33), (33, .iload 5, 2, 35), (35, .iload 4, 2, 37), (37, .if_icmp .gt 101, 3, 40), (40, .iload 4, 2, 42), (42, .iload 5, 2, 44), (44, .iconst (-1), 1, 45), (45, .ixor, 1, 46), (46, .iand, 1, 47), (47, .istore 6, 2, 49), (49, .iload 5, 2, 51), (51, .invokestatic 91, 3, 54), (54, .iconst 5, 1, 55), (55, .if_icmp .gt 16, 3, 58), (58, .iload 6, 2, 60), (60, .invokestatic 91, 3, 63), (63, .iconst 5, 1, 64), (64, .if_icmp .gt 7, 3, 67), (67, .iconst 1, 1, 68), (68, .goto 4, 3, 71), (71, .iconst 0, 1, 72), (72, .istore 7, 2, 74), (74, .iload 5, 2, 76), (76, .iload 4, 2, 78), (78, .iconst (-1), 1, 79), (79, .ixor, 1, 80), (80, .iand, 1, 81), (81, .ifCond .ne 51, 3, 84), (84, .iload 7, 2, 86), (86, .ifCond .eq 46, 3, 89), (89, .aload_n 0, 1, 90), (90, .getfield 30, 3, 93), (93, .iload_n 2, 1, 94), (94, .invokevirtual 49, 3, 97), (97, .iload 5, 2, 99), (99, .invokevirtual 97, 3, 102), (102, .aload_n 0, 1, 103), (103, .getfield 30, 3, 106), (106, .iload_n 3, 1, 107), (107, .invokevirtual 49, 3, 110), (110, .iload 6, 2, 112), (112, .invokevirtual 97, 3, 115), (115, .aload_n 0, 1, 116), (116, .iload 5, 2, 118), (118, .aload_n 0, 1, 119), (119, .getfield 37, 3, 122), (122, .aload_n 0, 1, 123), (123, .getfield 30, 3, 126), (126, .invokevirtual 56, 3, 129), (129, .invokevirtual 83, 3, 132), (132, .iinc 5 1, 3, 135), (135, .goto (-102), 3, 138), (138, .return_, 1, 139)]
theorem tk_X0_chooseParts : Tk mi_X0_chooseParts.2.1 tb_X0_chooseParts := Tk.of (by decide +kernel)
abbrev mi_X0_chooseStart : MI := (⟨"RopesAtDawn$Chooser", "chooseStart", "(LRopesAtDawn$Dawn;II)V"⟩, prog_2_method_8_code, 5, none)
def tb_X0_chooseStart : List (Nat × Instr × Nat × Nat) := [(0, .aload_n 0, 1, 1), (1, .aload_n 1, 1, 2), (2, .invokevirtual 46, 3, 5), (5, .iload_n 2, 1, 6), (6, .istore 4, 2, 8), (8, .iload 4, 2, 10), (10, .iload_n 3, 1, 11), (11, .if_icmp .gt 74, 3, 14), (14, .iload 4, 2, 16), (16, .sipush 1439, 3, 19), (19, .if_icmp .gt 66, 3, 22), (22, .aload_n 0, 1, 23), (23, .getfield 30, 3, 26), (26, .iload 4, 2, 28), (28, .putfield 100, 3, 31), (31, .aload_n 0, 1, 32), (32, .getfield 37, 3, 35), (35, .aload_n 0, 1, 36), (36, .getfield 30, 3, 39), (39, .invokevirtual 103, 3, 42), (42, .iload 4, 2, 44), (44, .iload_n 2, 1, 45), (45, .if_icmp .eq 17, 3, 48), (48, .aload_n 0, 1, 49), (49, .getfield 37, 3, 52), (52, .aload_n 0, 1, 53), (53, .getfield 30, 3, 56), (56, .invokevirtual 106, 3, 59), (59, .ifCond .eq 20, 3, 62), (62, .aload_n 0, 1, 63), (63, .iload 4, 2, 65), (65, .aload_n 0, 1, 66), (66, .getfield 37, 3, 69), (69, .aload_n 0, 1, 70), (70, .getfield 30, 3, 73), (73, .invokevirtual 56, 3, 76), (76, .invokevirtual 83, 3, 79), (79, .iinc 4 1, 3, 82), (82, .goto (-74), 3, 85), (85, .return_, 1, 86)]
theorem tk_X0_chooseStart : Tk mi_X0_chooseStart.2.1 tb_X0_chooseStart := Tk.of (by decide +kernel)
abbrev mi_X0_chooseLeft : MI := (⟨"RopesAtDawn$Chooser", "chooseLeft", "(LRopesAtDawn$Dawn;)V"⟩, prog_2_method_9_code, 5, none)
def tb_X0_chooseLeft : List (Nat × Instr × Nat × Nat) := [(0, .aload_n 0, 1, 1), (1, .aload_n 1, 1, 2), (2, .invokevirtual 46, 3, 5), (5, .iconst 0, 1, 6), (6, .istore_n 2, 1, 7), (7, .iload_n 2, 1, 8), (8, .aload_n 1, 1, 9), (9, .getfield 110, 3, 12), (12, .invokevirtual 113, 3, 15), (15, .if_icmp .ge 69, 3, 18), (18, .aload_n 1, 1, 19), (19, .iload_n 2, 1, 20), (20, .invokevirtual 116, 3, 23), (23, .istore_n 3, 1, 24), (24, .aload_n 1, 1, 25), (25, .iload_n 3, 1, 26), (26, .invokevirtual 119, 3, 29), (29, .ifCond .eq 49, 3, 32), (32, .aload_n 0, 1, 33), (33, .getfield 30, 3, 36), (36, .iload_n 3, 1, 37), (37, .invokevirtual 49, 3, 40), (40, .astore 4, 2, 42), (42, .aload 4, 2, 44), (44, .aload_n 1, 1, 45), (45, .iload_n 2, 1, 46), (46, .invokevirtual 123, 3, 49), (49, .invokevirtual 126, 3, 52), (52, .aload_n 0, 1, 53), (53, .iload_n 2, 1, 54), (54, .aload_n 0, 1, 55), (55, .getfield 37, 3, 58), (58, .aload_n 0, 1, 59), (59, .getfield 30, 3, 62), (62, .invokevirtual 56, 3, 65), (65, .invokevirtual 83, 3, 68), (68, .aload 4, 2, 70), (70, .aload_n 1, 1, 71), (71, .iload_n 3, 1, 72), (72, .invokevirtual 49, 3, 75), (75, .invokevirtual 60, 3, 78), (78, .iinc 2 1, 3, 81), (81, .goto (-74), 3, 84), (84, .return_, 1, 85)]
theorem tk_X0_chooseLeft : Tk mi_X0_chooseLeft.2.1 tb_X0_chooseLeft := Tk.of (by decide +kernel)
abbrev mi_X0_chooseLead : MI := (⟨"RopesAtDawn$Chooser", "chooseLead", "(LRopesAtDawn$Dawn;I)V"⟩, prog_2_method_10_code, 5, none)
def tb_X0_chooseLead : List (Nat × Instr × Nat × Nat) := [(0, .aload_n 0, 1, 1), (1, .aload_n 1, 1, 2), (2, .invokevirtual 46, 3, 5), (5, .aload_n 0, 1, 6), (6, .getfield 30, 3, 9), (9, .aload_n 1, 1, 10), (10, .iload_n 2, 1, 11), (11, .invokevirtual 116, 3, 14), (14, .invokevirtual 49, 3, 17), (17, .astore_n 3, 1, 18), (18, .aload_n 1, 1, 19), (19, .iload_n 2, 1, 20), (20, .invokevirtual 123, 3, 23), (23, .istore 4, 2, 25), (25, .iload 4, 2, 27), (27, .ifCond .le 19, 3, 30), (30, .aload_n 3, 1, 31), (31, .iload 4, 2, 33), (33, .iload 4, 2, 35), (35, .iconst 1, 1, 36), (36, .isub, 1, 37), (37, .invokevirtual 129, 3, 40), (40, .iinc 4 (-1), 3, 43), (43, .goto (-18), 3, 46), (46, .iconst 0, 1, 47), (47, .istore 4, 2, 49), (49, .iload 4, 2, 51), (51, .aload_n 3, 1, 52), (52, .invokevirtual 132, 3, 55), (55, .if_icmp .ge 36, 3, 58), (58, .aload_n 0, 1, 59), (59, .iload 4, 2, 61), (61, .aload_n 0, 1, 62), (62, .getfield 37, 3, 65), (65, .aload_n 0, 1, 66), (66, .getfield 30, 3, 69), (69, .invokevirtual 56, 3, 72), (72, .invokevirtual 83, 3, 75), (75, .aload_n 3, 1, 76), (76, .iload 4, 2, 78), (78, .iload 4, 2, 80), (80, .iconst 1, 1, 81), (81, .iadd, 1, 82), (82, .invokevirtual 129, 3, 85), (85, .iinc 4 1, 3, 88), (88, .goto (-39), 3, 91), (91, .return_, 1, 92)]
theorem tk_X0_chooseLead : Tk mi_X0_chooseLead.2.1 tb_X0_chooseLead := Tk.of (by decide +kernel)
abbrev mi_X1_init : MI := (⟨"RopesAtDawn$Crossing", "<init>", "()V"⟩, prog_3_method_1_code, 1, none)
def tb_X1_init : List (Nat × Instr × Nat × Nat) := [(0, .aload_n 0, 1, 1), (1, .invokespecial 3, 3, 4), (4, .aload_n 0, 1, 5), (5, .new 9, 3, 8), (8, .dup, 1, 9), (9, .invokespecial 11, 3, 12), (12, .putfield 12, 3, 15), (15, .aload_n 0, 1, 16), (16, .bipush 48, 2, 18), (18, .newarray .int, 2, 20), (20, .putfield 18, 3, 23), (23, .aload_n 0, 1, 24), (24, .bipush 48, 2, 26), (26, .newarray .int, 2, 28), (28, .putfield 22, 3, 31), (31, .aload_n 0, 1, 32), (32, .iconst 0, 1, 33), (33, .putfield 25, 3, 36), (36, .return_, 1, 37)]
theorem tk_X1_init : Tk mi_X1_init.2.1 tb_X1_init := Tk.of (by decide +kernel)
abbrev mi_X1_cross : MI := (⟨"RopesAtDawn$Crossing", "cross", "(LRopesAtDawn$Dawn;)V"⟩, prog_3_method_2_code, 5, none)
def tb_X1_cross : List (Nat × Instr × Nat × Nat) := [(0, .aload_n 0, 1, 1), (1, .aload_n 1, 1, 2), (2, .getfield 29, 3, 5), (5, .putfield 25, 3, 8), (8, .iconst (-1), 1, 9), (9, .istore_n 2, 1, 10), (10, .iconst 0, 1, 11), (11, .istore_n 3, 1, 12), (12, .iload_n 3, 1, 13), (13, .aload_n 1, 1, 14), (14, .getfield 34, 3, 17), (17, .invokevirtual 38, 3, 20), (20, .if_icmp .ge 46, 3, 23), (23, .aload_n 1, 1, 24), (24, .getfield 34, 3, 27), (27, .iload_n 3, 1, 28), (28, .invokevirtual 44, 3, 31), (31, .istore 4, 2, 33), (33, .aload_n 1, 1, 34), (34, .iload 4, 2, 36), (36, .invokevirtual 48, 3, 39), (39, .invokevirtual 38, 3, 42), (42, .ifCond .le 18, 3, 45), (45, .aload_n 0, 1, 46), (46, .aload_n 0, 1, 47), (47, .aload_n 1, 1, 48), (48, .iload 4, 2, 50), (50, .iload_n 2, 1, 51), (51, .invokevirtual 52, 3, 54), (54, .putfield 25, 3, 57), (57, .iload 4, 2, 59), (59, .istore_n 2, 1, 60), (60, .iinc 3 1, 3, 63), (63, .goto (-51), 3, 66), (66, .return_, 1, 67)]
theorem tk_X1_cross : Tk mi_X1_cross.2.1 tb_X1_cross := Tk.of (by decide +kernel)
abbrev mi_X1_crossOne : MI := (⟨"RopesAtDawn$Crossing", "crossOne", "(LRopesAtDawn$Dawn;II)I"⟩, prog_3_method_3_code, 8, some (.int))
def tb_X1_crossOne : List (Nat × Instr × Nat × Nat) := [(0, .aload_n 1, 1, 1), (1, .iload_n 2, 1, 2), (2, .invokevirtual 56, 3, 5), (5, .istore 4, 2, 7), (7, .aload_n 1, 1, 8), (8, .getfield 29, 3, 11), (11, .istore 5, 2, 13), (13, .iconst 0, 1, 14), (14, .istore 6, 2, 16), (16, .iload 6, 2, 18), (18, .aload_n 1, 1, 19), (19, .getfield 59, 3, 22), (22, .invokevirtual 63, 3, 25), (25, .if_icmp .ge 68, 3, 28), (28, .iload_n 3, 1, 29), (29, .ifCond .lt 17, 3, 32), (32, .iload 5, 2, 34), (34, .aload_n 0, 1, 35), (35, .iload_n 3, 1, 36), (36, .iload 6, 2, 38), (38, .invokevirtual 66, 3, 41), (41, .invokestatic 70, 3, 44), (44, .istore 5, 2, 46), (46, .iload_n 2, 1, 47), (47, .iload 6, 2, 49), (49, .invokestatic 75, 3, 52), (52, .istore 7, 2, 54), (54, .iload 7, 2, 56), (56, .ifCond .lt 24, 3, 59), (59, .aload_n 0, 1, 60), (60, .getfield 18, 3, 63), (63, .iload 7, 2, 65), (65, .iload 5, 2, 67), (67, .iastore, 1, 68), (68, .aload_n 0, 1, 69), (69, .getfield 22, 3, 72), (72, .iload 7, 2, 74), (74, .iload 5, 2, 76), (76, .iload 4, 2, 78), (78, .iadd, 1, 79), (79, .iastore, 1, 80), (80, .iload 5, 2, 82), (82, .iload 4, 2, 84), (84, .iadd, 1, 85), (85, .istore 5, 2, 87), (87, .iinc 6 1, 3, 90), (90, .goto (-74), 3, 93), (93, .iload 5, 2, 95), (95, .ireturn, 1, 96)]
theorem tk_X1_crossOne : Tk mi_X1_crossOne.2.1 tb_X1_crossOne := Tk.of (by decide +kernel)
abbrev mi_X1_cellOf : MI := (⟨"RopesAtDawn$Crossing", "cellOf", "(II)I"⟩, prog_3_method_4_code, 2, some (.int))
def tb_X1_cellOf : List (Nat × Instr × Nat × Nat) := [(0, .iload_n 0, 1, 1), (1, .ifCond .lt 19, 3, 4), (4, .iload_n 0, 1, 5), (5, .bipush 6, 2, 7), (7, .if_icmp .ge 13, 3, 10), (10, .iload_n 1, 1, 11), (11, .ifCond .lt 9, 3, 14), (14, .iload_n 1, 1, 15), (15, .bipush 8, 2, 17), (17, .if_icmp .lt 5, 3, 20), (20, .iconst (-1), 1, 21), (21, .ireturn, 1, 22), (22, .iload_n 0, 1, 23), (23, .bipush 8, 2, 25), (25, .imul, 1, 26), (26, .iload_n 1, 1, 27), (27, .iadd, 1, 28), (28, .ireturn, 1, 29)]
theorem tk_X1_cellOf : Tk mi_X1_cellOf.2.1 tb_X1_cellOf := Tk.of (by decide +kernel)
abbrev mi_X1_comesTo : MI := (⟨"RopesAtDawn$Crossing", "comesTo", "(II)I"⟩, prog_3_method_5_code, 4, some (.int))
def tb_X1_comesTo : List (Nat × Instr × Nat × Nat) := [(0, .iload_n 1, 1, 1), (1, .iload_n 2, 1, 2), (2, .invokestatic 75, 3, 5), (5, .istore_n 3, 1, 6), (6, .iload_n 3, 1, 7), (7, .ifCond .ge 7, 3, 10), (10, .iconst 0, 1, 11), (11, .goto 9, 3, 14), (14, .aload_n 0, 1, 15), (15, .getfield 18, 3, 18), (18, .iload_n 3, 1, 19), (19, .iaload, 1, 20), (20, .ireturn, 1, 21)]
theorem tk_X1_comesTo : Tk mi_X1_comesTo.2.1 tb_X1_comesTo := Tk.of (by decide +kernel)
abbrev mi_X1_isOff : MI := (⟨"RopesAtDawn$Crossing", "isOff", "(II)I"⟩, prog_3_method_6_code, 4, some (.int))
def tb_X1_isOff : List (Nat × Instr × Nat × Nat) := [(0, .iload_n 1, 1, 1), (1, .iload_n 2, 1, 2), (2, .invokestatic 75, 3, 5), (5, .istore_n 3, 1, 6), (6, .iload_n 3, 1, 7), (7, .ifCond .ge 7, 3, 10), (10, .iconst 0, 1, 11), (11, .goto 9, 3, 14), (14, .aload_n 0, 1, 15), (15, .getfield 22, 3, 18), (18, .iload_n 3, 1, 19), (19, .iaload, 1, 20), (20, .ireturn, 1, 21)]
theorem tk_X1_isOff : Tk mi_X1_isOff.2.1 tb_X1_isOff := Tk.of (by decide +kernel)
abbrev mi_X1_turnsHour : MI := (⟨"RopesAtDawn$Crossing", "turnsHour", "(LRopesAtDawn$Dawn;)Z"⟩, prog_3_method_7_code, 6, some (.boolean))
def tb_X1_turnsHour : List (Nat × Instr × Nat × Nat) := [(0, .iconst 0, 1, 1), (1, .istore_n 2, 1, 2), (2, .iload_n 2, 1, 3), (3, .aload_n 1, 1, 4), (4, .getfield 34, 3, 7), (7, .invokevirtual 38, 3, 10), (10, .if_icmp .ge 77, 3, 13), (13, .aload_n 1, 1, 14), (14, .getfield 34, 3, 17), (17, .iload_n 2, 1, 18), (18, .invokevirtual 44, 3, 21), (21, .istore_n 3, 1, 22), (22, .aload_n 1, 1, 23), (23, .iload_n 3, 1, 24), (24, .invokevirtual 48, 3, 27), (27, .invokevirtual 38, 3, 30), (30, .ifCond .le 7, 3, 33), (33, .iconst 1, 1, 34), (34, .goto 4, 3, 37), (37, .iconst 0, 1, 38), (38, .istore 4, 2, 40), (40, .iconst 0, 1, 41), (41, .istore 5, 2, 43), (43, .iload 4, 2, 45), (45, .ifCond .eq 36, 3, 48), (48, .iload 5, 2, 50), (50, .aload_n 1, 1, 51), (51, .getfield 59, 3, 54), (54, .invokevirtual 63, 3, 57), (57, .if_icmp .ge 24, 3, 60), (60, .aload_n 0, 1, 61), (61, .iload_n 3, 1, 62), (62, .iload 5, 2, 64), (64, .invokevirtual 78, 3, 67), (67, .bipush 60, 2, 69), (69, .irem, 1, 70), (70, .ifCond .ne 5, 3, 73), (73, .iconst 1, 1, 74), (74, .ireturn, 1, 75), (75, .iinc 5 1, 3, 78), (78, .goto (-35), 3, 81), (81, .iinc 2 1, 3, 84), (84, .goto (-82), 3, 87), (87, .iconst 0, 1, 88), (88, .ireturn, 1, 89)]
theorem tk_X1_turnsHour : Tk mi_X1_turnsHour.2.1 tb_X1_turnsHour := Tk.of (by decide +kernel)
abbrev mi_X1_riskOf : MI := (⟨"RopesAtDawn$Crossing", "riskOf", "(LRopesAtDawn$Dawn;IIII)I"⟩, prog_3_method_8_code, 9, some (.int))
def tb_X1_riskOf : List (Nat × Instr × Nat × Nat) := [(0, .aload_n 0, 1, 1), (1, .iload_n 2, 1, 2), (2, .iload 4, 2, 4), (4, .invokevirtual 78, 3, 7), (7, .bipush 60, 2, 9), (9, .idiv, 1, 10), (10, .istore 6, 2, 12), (12, .aload_n 1, 1, 13), (13, .getfield 59, 3, 16), (16, .iload 4, 2, 18), (18, .iconst 1, 1, 19), (19, .invokevirtual 81, 3, 22), (22, .istore 7, 2, 24), (24, .aload_n 1, 1, 25), (25, .getfield 59, 3, 28), (28, .iload 4, 2, 30), (30, .iconst 2, 1, 31), (31, .invokevirtual 81, 3, 34), (34, .istore 8, 2, 36), (36, .aload_n 0, 1, 37), (37, .getfield 12, 3, 40), (40, .aload_n 1, 1, 41), (41, .getfield 84, 3, 44), (44, .iload_n 3, 1, 45), (45, .iconst 0, 1, 46), (46, .invokevirtual 81, 3, 49), (49, .iload 6, 2, 51), (51, .iload 5, 2, 53), (53, .iload 7, 2, 55), (55, .iload 8, 2, 57), (57, .invokevirtual 87, 3, 60), (60, .aload_n 0, 1, 61), (61, .getfield 12, 3, 64), (64, .iconst 0, 1, 65), (65, .aload_n 1, 1, 66), (66, .iconst 0, 1, 67), (67, .invokevirtual 91, 3, 70), (70, .invokevirtual 94, 3, 73), (73, .ireturn, 1, 74)]
theorem tk_X1_riskOf : Tk mi_X1_riskOf.2.1 tb_X1_riskOf := Tk.of (by decide +kernel)
abbrev mi_X1_tollOf : MI := (⟨"RopesAtDawn$Crossing", "tollOf", "(LRopesAtDawn$Dawn;)I"⟩, prog_3_method_9_code, 8, some (.int))
def tb_X1_tollOf : List (Nat × Instr × Nat × Nat) := [(0, .aload_n 0, 1, 1), (1, .aload_n 1, 1, 2), (2, .invokevirtual 98, 3, 5), (5, .iconst 0, 1, 6), (6, .istore_n 2, 1, 7), (7, .iconst 0, 1, 8), (8, .istore_n 3, 1, 9), (9, .iconst 0, 1, 10), (10, .istore 4, 2, 12), (12, .iload 4, 2, 14), (14, .aload_n 1, 1, 15), (15, .getfield 34, 3, 18), (18, .invokevirtual 38, 3, 21), (21, .if_icmp .ge 68, 3, 24), (24, .aload_n 1, 1, 25), (25, .getfield 34, 3, 28), (28, .iload 4, 2, 30), (30, .invokevirtual 44, 3, 33), (33, .istore 5, 2, 35), (35, .aload_n 1, 1, 36), (36, .iload 5, 2, 38), (38, .invokevirtual 48, 3, 41), (41, .invokevirtual 38, 3, 44), (44, .istore 6, 2, 46), (46, .iconst 0, 1, 47), (47, .istore 7, 2, 49), (49, .iload 7, 2, 51), (51, .iload 6, 2, 53), (53, .if_icmp .ge 25, 3, 56), (56, .iload_n 2, 1, 57), (57, .aload_n 0, 1, 58), (58, .aload_n 1, 1, 59), (59, .iload 5, 2, 61), (61, .iload 7, 2, 63), (63, .iload_n 3, 1, 64), (64, .iload 7, 2, 66), (66, .iadd, 1, 67), (67, .invokevirtual 102, 3, 70), (70, .iadd, 1, 71), (71, .istore_n 2, 1, 72), (72, .iinc 7 1, 3, 75), (75, .goto (-26), 3, 78), (78, .iload_n 3, 1, 79), (79, .iload 6, 2, 81), (81, .iadd, 1, 82), (82, .istore_n 3, 1, 83), (83, .iinc 4 1, 3, 86), (86, .goto (-74), 3, 89), (89, .iload_n 2, 1, 90), (90, .ireturn, 1, 91)]
theorem tk_X1_tollOf : Tk mi_X1_tollOf.2.1 tb_X1_tollOf := Tk.of (by decide +kernel)
abbrev mi_X1_tollAt : MI := (⟨"RopesAtDawn$Crossing", "tollAt", "(LRopesAtDawn$Dawn;III)I"⟩, prog_3_method_10_code, 9, some (.int))
def tb_X1_tollAt : List (Nat × Instr × Nat × Nat) := [(0, .aload_n 1, 1, 1), (1, .iload_n 2, 1, 2), (2, .invokevirtual 48, 3, 5), (5, .iload_n 3, 1, 6), (6, .invokevirtual 44, 3, 9), (9, .istore 5, 2, 11), (11, .aload_n 1, 1, 12), (12, .iload_n 2, 1, 13), (13, .iload_n 3, 1, 14), (14, .invokevirtual 106, 3, 17), (17, .istore 6, 2, 19), (19, .iconst 0, 1, 20), (20, .istore 7, 2, 22), (22, .iconst 0, 1, 23), (23, .istore 8, 2, 25), (25, .iload 8, 2, 27), (27, .aload_n 1, 1, 28), (28, .getfield 59, 3, 31), (31, .invokevirtual 63, 3, 34), (34, .if_icmp .ge 39, 3, 37), (37, .iload 6, 2, 39), (39, .aload_n 1, 1, 40), (40, .iload 5, 2, 42), (42, .iload 8, 2, 44), (44, .invokevirtual 109, 3, 47), (47, .if_icmp .ge 20, 3, 50), (50, .iload 7, 2, 52), (52, .aload_n 0, 1, 53), (53, .aload_n 1, 1, 54), (54, .iload_n 2, 1, 55), (55, .iload 5, 2, 57), (57, .iload 8, 2, 59), (59, .iload 4, 2, 61), (61, .invokevirtual 112, 3, 64), (64, .iadd, 1, 65), (65, .istore 7, 2, 67), (67, .iinc 8 1, 3, 70), (70, .goto (-45), 3, 73), (73, .iload 7, 2, 75), (75, .aload_n 1, 1, 76), (76, .iload_n 2, 1, 77), (77, .invokevirtual 116, 3, 80), (80, .imul, 1, 81), (81, .ireturn, 1, 82)]
theorem tk_X1_tollAt : Tk mi_X1_tollAt.2.1 tb_X1_tollAt := Tk.of (by decide +kernel)
abbrev mi_X2_init : MI := (⟨"RopesAtDawn$Dawn", "<init>", "()V"⟩, prog_4_method_1_code, 2, none)
def tb_X2_init : List (Nat × Instr × Nat × Nat) := [(0, .aload_n 0, 1, 1), (1, .invokespecial 3, 3, 4), (4, .aload_n 0, 1, 5), (5, .new 9, 3, 8), (8, .dup, 1, 9), (9, .bipush 10, 2, 11), (11, .getstatic 11, 3, 14), (14, .getstatic 15, 3, 17), (17, .invokespecial 18, 3, 20), (20, .putfield 21, 3, 23), (23, .aload_n 0, 1, 24), (24, .new 9, 3, 27), (27, .dup, 1, 28), (28, .bipush 8, 2, 30), (30, .getstatic 27, 3, 33), (33, .getstatic 30, 3, 36), (36, .invokespecial 18, 3, 39), (39, .putfield 33, 3, 42), (42, .aload_n 0, 1, 43), (43, .new 9, 3, 46), (46, .dup, 1, 47), (47, .bipush 6, 2, 49), (49, .getstatic 36, 3, 52), (52, .getstatic 39, 3, 55), (55, .invokespecial 18, 3, 58), (58, .putfield 42, 3, 61), (61, .aload_n 0, 1, 62), (62, .new 45, 3, 65), (65, .dup, 1, 66), (66, .bipush 6, 2, 68), (68, .invokespecial 47, 3, 71), (71, .putfield 50, 3, 74), (74, .aload_n 0, 1, 75), (75, .new 45, 3, 78), (78, .dup, 1, 79), (79, .bipush 50, 2, 81), (81, .invokespecial 47, 3, 84), (84, .putfield 54, 3, 87), (87, .aload_n 0, 1, 88), (88, .new 45, 3, 91), (91, .dup, 1, 92), (92, .bipush 20, 2, 94), (94, .invokespecial 47, 3, 97), (97, .putfield 57, 3, 100), (100, .aload_n 0, 1, 101), (101, .bipush 6, 2, 103), (103, .anewarray 45, 3, 106), (106, .putfield 60, 3, 109), (109, .aload_n 0, 1, 110), (110, .new 45, 3, 113), (113, .dup, 1, 114), (114, .iconst 0, 1, 115), (115, .invokespecial 47, 3, 118), (118, .putfield 64, 3, 121), (121, .aload_n 0, 1, 122), (122, .new 45, 3, 125), (125, .dup, 1, 126), (126, .bipush 50, 2, 128), (128, .invokespecial 47, 3, 131), (131, .putfield 67, 3, 134), (134, .aload_n 0, 1, 135), (135, .new 45, 3, 138), (138, .dup, 1, 139), (139, .bipush 50, 2, 141), (141, .invokespecial 47, 3, 144), (144, .putfield 70, 3, 147), (147, .aload_n 0, 1, 148), (148, .bipush 60, 2, 150), (150, .putfield 73, 3, 153), (153, .aload_n 0, 1, 154), (154, .iconst 1, 1, 155), (155, .putfield 77, 3, 158), (158, .iconst 0, 1, 159), (159, .istore_n 1, 1, 160), (160, .iload_n 1, 1, 161), (161, .aload_n 0, 1, 162), (162, .getfield 60, 3, 165), (165, .arraylength, 1, 166), (166, .if_icmp .ge 23, 3, 169), (169, .aload_n 0, 1, 170), (170, .getfield 60, 3, 173), (173, .iload_n 1, 1, 174), (174, .new 45, 3, 177), (177, .dup, 1, 178), (178, .iconst 5, 1, 179), (179, .invokespecial 47, 3, 182), (182, .aastore, 1, 183), (183, .iinc 1 1, 3, 186), (186, .goto (-26), 3, 189), (189, .return_, 1, 190)]
theorem tk_X2_init : Tk mi_X2_init.2.1 tb_X2_init := Tk.of (by decide +kernel)
abbrev mi_X2_copyFrom : MI := (⟨"RopesAtDawn$Dawn", "copyFrom", "(LRopesAtDawn$Dawn;)V"⟩, prog_4_method_2_code, 3, none)
def tb_X2_copyFrom : List (Nat × Instr × Nat × Nat) := [(0, .aload_n 0, 1, 1), (1, .getfield 21, 3, 4), (4, .aload_n 1, 1, 5), (5, .getfield 21, 3, 8), (8, .invokevirtual 80, 3, 11), (11, .aload_n 0, 1, 12), (12, .getfield 33, 3, 15), (15, .aload_n 1, 1, 16), (16, .getfield 33, 3, 19), (19, .invokevirtual 80, 3, 22), (22, .aload_n 0, 1, 23), (23, .getfield 42, 3, 26), (26, .aload_n 1, 1, 27), (27, .getfield 42, 3, 30), (30, .invokevirtual 80, 3, 33), (33, .aload_n 0, 1, 34), (34, .getfield 50, 3, 37), (37, .aload_n 1, 1, 38), (38, .getfield 50, 3, 41), (41, .invokevirtual 84, 3, 44), (44, .aload_n 0, 1, 45), (45, .getfield 54, 3, 48), (48, .aload_n 1, 1, 49), (49, .getfield 54, 3, 52), (52, .invokevirtual 84, 3, 55), (55, .aload_n 0, 1, 56), (56, .getfield 57, 3, 59), (59, .aload_n 1, 1, 60), (60, .getfield 57, 3, 63), (63, .invokevirtual 84, 3, 66), (66, .aload_n 0, 1, 67), (67, .getfield 67, 3, 70), (70, .aload_n 1, 1, 71), (71, .getfield 67, 3, 74), (74, .invokevirtual 84, 3, 77), (77, .aload_n 0, 1, 78), (78, .getfield 70, 3, 81), (81, .aload_n 1, 1, 82), (82, .getfield 70, 3, 85), (85, .invokevirtual 84, 3, 88), (88, .iconst 0, 1, 89), (89, .istore_n 2, 1, 90), (90, .iload_n 2, 1, 91), (91, .aload_n 0, 1, 92), (92, .getfield 60, 3, 95), (95, .arraylength, 1, 96), (96, .if_icmp .ge 23, 3, 99), (99, .aload_n 0, 1, 100), (100, .getfield 60, 3, 103), (103, .iload_n 2, 1, 104), (104, .aaload, 1, 105), (105, .aload_n 1, 1, 106), (106, .iload_n 2, 1, 107), (107, .invokevirtual 87, 3, 110), (110, .invokevirtual 84, 3, 113), (113, .iinc 2 1, 3, 116), (116, .goto (-26), 3, 119), (119, .aload_n 0, 1, 120), (120, .aload_n 1, 1, 121), (121, .getfield 73, 3, 124), (124, .putfield 73, 3, 127), (127, .aload_n 0, 1, 128), (128, .aload_n 1, 1, 129), (129, .getfield 77, 3, 132), (132, .putfield 77, 3, 135), (135, .return_, 1, 136)]
theorem tk_X2_copyFrom : Tk mi_X2_copyFrom.2.1 tb_X2_copyFrom := Tk.of (by decide +kernel)
abbrev mi_X2_rowOf : MI := (⟨"RopesAtDawn$Dawn", "rowOf", "(I)LRopesAtDawn$Row;"⟩, prog_4_method_3_code, 2, some (.object "RopesAtDawn$Row"))
def tb_X2_rowOf : List (Nat × Instr × Nat × Nat) := [(0, .iload_n 1, 1, 1), (1, .ifCond .lt 21, 3, 4), (4, .iload_n 1, 1, 5), (5, .aload_n 0, 1, 6), (6, .getfield 60, 3, 9), (9, .arraylength, 1, 10), (10, .if_icmp .ge 12, 3, 13), (13, .aload_n 0, 1, 14), (14, .getfield 60, 3, 17), (17, .iload_n 1, 1, 18), (18, .aaload, 1, 19), (19, .goto 7, 3, 22), (22, .aload_n 0, 1, 23), (23, .getfield 64, 3, 26), (26, .areturn, 1, 27)]
theorem tk_X2_rowOf : Tk mi_X2_rowOf.2.1 tb_X2_rowOf := Tk.of (by decide +kernel)
abbrev mi_X2_textOf : MI := (⟨"RopesAtDawn$Dawn", "textOf", "(I)LRopesAtDawn$Row;"⟩, prog_4_method_4_code, 2, some (.object "RopesAtDawn$Row"))
def tb_X2_textOf : List (Nat × Instr × Nat × Nat) := [(0, .iload_n 1, 1, 1), (1, .ifCond .ne 10, 3, 4), (4, .aload_n 0, 1, 5), (5, .getfield 67, 3, 8), (8, .goto 7, 3, 11), (11, .aload_n 0, 1, 12), (12, .getfield 70, 3, 15), (15, .areturn, 1, 16)]
theorem tk_X2_textOf : Tk mi_X2_textOf.2.1 tb_X2_textOf := Tk.of (by decide +kernel)
abbrev mi_X2_isInLine : MI := (⟨"RopesAtDawn$Dawn", "isInLine", "(I)Z"⟩, prog_4_method_5_code, 2, some (.boolean))
def tb_X2_isInLine : List (Nat × Instr × Nat × Nat) := [(0, .aload_n 0, 1, 1), (1, .getfield 50, 3, 4), (4, .iload_n 1, 1, 5), (5, .invokevirtual 91, 3, 8), (8, .ifCond .lt 7, 3, 11), (11, .iconst 1, 1, 12), (12, .goto 4, 3, 15), (15, .iconst 0, 1, 16), (16, .ireturn, 1, 17)]
theorem tk_X2_isInLine : Tk mi_X2_isInLine.2.1 tb_X2_isInLine := Tk.of (by decide +kernel)
abbrev mi_X2_ropeOf : MI := (⟨"RopesAtDawn$Dawn", "ropeOf", "(I)I"⟩, prog_4_method_6_code, 3, some (.int))
def tb_X2_ropeOf : List (Nat × Instr × Nat × Nat) := [(0, .iconst 0, 1, 1), (1, .istore_n 2, 1, 2), (2, .iload_n 2, 1, 3), (3, .aload_n 0, 1, 4), (4, .getfield 60, 3, 7), (7, .arraylength, 1, 8), (8, .if_icmp .ge 24, 3, 11), (11, .aload_n 0, 1, 12), (12, .getfield 60, 3, 15), (15, .iload_n 2, 1, 16), (16, .aaload, 1, 17), (17, .iload_n 1, 1, 18), (18, .invokevirtual 91, 3, 21), (21, .ifCond .lt 5, 3, 24), (24, .iload_n 2, 1, 25), (25, .ireturn, 1, 26), (26, .iinc 2 1, 3, 29), (29, .goto (-27), 3, 32), (32, .iconst (-1), 1, 33), (33, .ireturn, 1, 34)]
theorem tk_X2_ropeOf : Tk mi_X2_ropeOf.2.1 tb_X2_ropeOf := Tk.of (by decide +kernel)
abbrev mi_X2_placeOf : MI := (⟨"RopesAtDawn$Dawn", "placeOf", "(I)I"⟩, prog_4_method_7_code, 2, some (.int))
def tb_X2_placeOf : List (Nat × Instr × Nat × Nat) := [(0, .aload_n 0, 1, 1), (1, .aload_n 0, 1, 2), (2, .iload_n 1, 1, 3), (3, .invokevirtual 95, 3, 6), (6, .invokevirtual 87, 3, 9), (9, .iload_n 1, 1, 10), (10, .invokevirtual 91, 3, 13), (13, .ireturn, 1, 14)]
theorem tk_X2_placeOf : Tk mi_X2_placeOf.2.1 tb_X2_placeOf := Tk.of (by decide +kernel)
abbrev mi_X2_aheadOf : MI := (⟨"RopesAtDawn$Dawn", "aheadOf", "(I)I"⟩, prog_4_method_8_code, 4, some (.int))
def tb_X2_aheadOf : List (Nat × Instr × Nat × Nat) := [(0, .iconst 0, 1, 1), (1, .istore_n 2, 1, 2), (2, .iconst 0, 1, 3), (3, .istore_n 3, 1, 4), (4, .iload_n 3, 1, 5), (5, .aload_n 0, 1, 6), (6, .getfield 50, 3, 9), (9, .iload_n 1, 1, 10), (10, .invokevirtual 91, 3, 13), (13, .if_icmp .ge 27, 3, 16), (16, .iload_n 2, 1, 17), (17, .aload_n 0, 1, 18), (18, .aload_n 0, 1, 19), (19, .getfield 50, 3, 22), (22, .iload_n 3, 1, 23), (23, .invokevirtual 98, 3, 26), (26, .invokevirtual 87, 3, 29), (29, .invokevirtual 101, 3, 32), (32, .iadd, 1, 33), (33, .istore_n 2, 1, 34), (34, .iinc 3 1, 3, 37), (37, .goto (-33), 3, 40), (40, .iload_n 2, 1, 41), (41, .ireturn, 1, 42)]
theorem tk_X2_aheadOf : Tk mi_X2_aheadOf.2.1 tb_X2_aheadOf := Tk.of (by decide +kernel)
abbrev mi_X2_slowestPace : MI := (⟨"RopesAtDawn$Dawn", "slowestPace", "(I)I"⟩, prog_4_method_9_code, 5, some (.int))
def tb_X2_slowestPace : List (Nat × Instr × Nat × Nat) := [(0, .aload_n 0, 1, 1), (1, .iload_n 1, 1, 2), (2, .invokevirtual 87, 3, 5), (5, .astore_n 2, 1, 6), (6, .iconst 0, 1, 7), (7, .istore_n 3, 1, 8), (8, .iconst 0, 1, 9), (9, .istore 4, 2, 11), (11, .iload 4, 2, 13), (13, .aload_n 2, 1, 14), (14, .invokevirtual 101, 3, 17), (17, .if_icmp .ge 28, 3, 20), (20, .iload_n 3, 1, 21), (21, .aload_n 0, 1, 22), (22, .getfield 21, 3, 25), (25, .aload_n 2, 1, 26), (26, .iload 4, 2, 28), (28, .invokevirtual 98, 3, 31), (31, .iconst 2, 1, 32), (32, .invokevirtual 105, 3, 35), (35, .invokestatic 109, 3, 38), (38, .istore_n 3, 1, 39), (39, .iinc 4 1, 3, 42), (42, .goto (-31), 3, 45), (45, .iload_n 3, 1, 46), (46, .ireturn, 1, 47)]
theorem tk_X2_slowestPace : Tk mi_X2_slowestPace.2.1 tb_X2_slowestPace := Tk.of (by decide +kernel)
abbrev mi_X2_pullOf : MI := (⟨"RopesAtDawn$Dawn", "pullOf", "(II)I"⟩, prog_4_method_10_code, 3, some (.int))
def tb_X2_pullOf : List (Nat × Instr × Nat × Nat) := [(0, .aload_n 0, 1, 1), (1, .getfield 21, 3, 4), (4, .iload_n 1, 1, 5), (5, .iconst 0, 1, 6), (6, .invokevirtual 105, 3, 9), (9, .bipush 10, 2, 11), (11, .aload_n 0, 1, 12), (12, .getfield 33, 3, 15), (15, .iload_n 2, 1, 16), (16, .iconst 0, 1, 17), (17, .invokevirtual 105, 3, 20), (20, .iadd, 1, 21), (21, .imul, 1, 22), (22, .bipush 10, 2, 24), (24, .idiv, 1, 25), (25, .ireturn, 1, 26)]
theorem tk_X2_pullOf : Tk mi_X2_pullOf.2.1 tb_X2_pullOf := Tk.of (by decide +kernel)
abbrev mi_X2_gripAt : MI := (⟨"RopesAtDawn$Dawn", "gripAt", "(III)I"⟩, prog_4_method_11_code, 11, some (.int))
def tb_X2_gripAt : List (Nat × Instr × Nat × Nat) := [(0, .aload_n 0, 1, 1), (1, .iload_n 1, 1, 2), (2, .invokevirtual 87, 3, 5), (5, .astore 4, 2, 7), (7, .aload 4, 2, 9), (9, .iload_n 2, 1, 10), (10, .invokevirtual 98, 3, 13), (13, .istore 5, 2, 15), (15, .aload_n 0, 1, 16), (16, .getfield 21, 3, 19), (19, .iload 5, 2, 21), (21, .iconst 1, 1, 22), (22, .invokevirtual 105, 3, 25), (25, .istore 6, 2, 27), (27, .aload_n 0, 1, 28), (28, .getfield 21, 3, 31), (31, .iload 5, 2, 33), (33, .iconst 3, 1, 34), (34, .invokevirtual 105, 3, 37), (37, .iconst 1, 1, 38), (38, .if_icmp .ne 7, 3, 41), (41, .iconst 1, 1, 42), (42, .goto 4, 3, 45), (45, .iconst 0, 1, 46), (46, .istore 7, 2, 48), (48, .iload_n 3, 1, 49), (49, .ifCond .ne 7, 3, 52), (52, .iconst 0, 1, 53), (53, .goto 7, 3, 56), (56, .iload 6, 2, 58), (58, .iload_n 3, 1, 59), (59, .idiv, 1, 60), (60, .istore 8, 2, 62), (62, .iload 7, 2, 64), (64, .ifCond .eq 10, 3, 67), (67, .iconst 2, 1, 68), (68, .iload 8, 2, 70), (70, .imul, 1, 71), (71, .goto 5, 3, 74), (74, .iload 8, 2, 76), (76, .istore 9, 2, 78), (78, .iload 8, 2, 80), (80, .bipush 10, 2, 82), (82, .aload_n 0, 1, 83), (83, .getfield 42, 3, 86), (86, .iload_n 1, 1, 87), (87, .iconst 2, 1, 88), (88, .invokevirtual 105, 3, 91), (91, .imul, 1, 92), (92, .iadd, 1, 93), (93, .istore 10, 2, 95), (95, .aload_n 0, 1, 96), (96, .getfield 42, 3, 99), (99, .iload_n 1, 1, 100), (100, .iconst 0, 1, 101), (101, .invokevirtual 105, 3, 104), (104, .tableswitch 109 1 6 #[40, 55, 58, 77, 80, 107], 40, 144), (144, .iload 8, 2, 146), (146, .iconst 5, 1, 147), (147, .aload_n 0, 1, 148), (148, .getfield 42, 3, 151), (151, .iload_n 1, 1, 152), (152, .iconst 1, 1, 153), (153, .invokevirtual 105, 3, 156), (156, .imul, 1, 157), (157, .iadd, 1, 158), (158, .ireturn, 1, 159), (159, .iload 10, 2, 161), (161, .ireturn, 1, 162), (162, .iconst 0, 1, 163), (163, .iload 10, 2, 165), (165, .iconst 2, 1, 166), (166, .aload_n 0, 1, 167), (167, .getfield 42, 3, 170), (170, .iload_n 1, 1, 171), (171, .iconst 1, 1, 172), (172, .invokevirtual 105, 3, 175), (175, .imul, 1, 176), (176, .isub, 1, 177), (177, .invokestatic 109, 3, 180), (180, .ireturn, 1, 181), (181, .iload 9, 2, 183), (183, .ireturn, 1, 184), (184, .iload 7, 2, 186), (186, .ifCond .eq 22, 3, 189), (189, .iload_n 2, 1, 190), (190, .aload 4, 2, 192), (192, .invokevirtual 101, 3, 195), (195, .iconst 1, 1, 196), (196, .isub, 1, 197), (197, .if_icmp .ne 11, 3, 200), (200, .iload 9, 2, 202), (202, .iload 6, 2, 204), (204, .iadd, 1, 205), (205, .goto 5, 3, 208), (208, .iload 9, 2, 210), (210, .ireturn, 1, 211), (211, .iconst 0, 1, 212), (212, .ireturn, 1, 213), (213, .iload 8, 2, 215), (215, .ireturn, 1, 216)]
theorem tk_X2_gripAt : Tk mi_X2_gripAt.2.1 tb_X2_gripAt := Tk.of (by decide +kernel)
abbrev mi_X2_holdAt : MI := (⟨"RopesAtDawn$Dawn", "holdAt", "(II)I"⟩, prog_4_method_12_code, 6, some (.int))
def tb_X2_holdAt : List (Nat × Instr × Nat × Nat) := [(0, .aload_n 0, 1, 1), (1, .iload_n 1, 1, 2), (2, .invokevirtual 87, 3, 5), (5, .invokevirtual 101, 3, 8), (8, .istore_n 3, 1, 9), (9, .iconst 0, 1, 10), (10, .istore 4, 2, 12), (12, .iconst 0, 1, 13), (13, .istore 5, 2, 15), (15, .iload 5, 2, 17), (17, .iload_n 3, 1, 18), (18, .if_icmp .ge 34, 3, 21), (21, .iload 5, 2, 23), (23, .iload_n 2, 1, 24), (24, .if_icmp .eq 22, 3, 27), (27, .iload 4, 2, 29), (29, .aload_n 0, 1, 30), (30, .iload_n 1, 1, 31), (31, .iload 5, 2, 33), (33, .iload 5, 2, 35), (35, .iload_n 2, 1, 36), (36, .isub, 1, 37), (37, .invokestatic 114, 3, 40), (40, .invokevirtual 117, 3, 43), (43, .iadd, 1, 44), (44, .istore 4, 2, 46), (46, .iinc 5 1, 3, 49), (49, .goto (-34), 3, 52), (52, .iload 4, 2, 54), (54, .ireturn, 1, 55)]
theorem tk_X2_holdAt : Tk mi_X2_holdAt.2.1 tb_X2_holdAt := Tk.of (by decide +kernel)
abbrev mi_X2_isHeld : MI := (⟨"RopesAtDawn$Dawn", "isHeld", "(III)Z"⟩, prog_4_method_13_code, 4, some (.boolean))
def tb_X2_isHeld : List (Nat × Instr × Nat × Nat) := [(0, .aload_n 0, 1, 1), (1, .iload_n 1, 1, 2), (2, .iload_n 2, 1, 3), (3, .invokevirtual 121, 3, 6), (6, .aload_n 0, 1, 7), (7, .aload_n 0, 1, 8), (8, .iload_n 1, 1, 9), (9, .invokevirtual 87, 3, 12), (12, .iload_n 2, 1, 13), (13, .invokevirtual 98, 3, 16), (16, .iload_n 3, 1, 17), (17, .invokevirtual 124, 3, 20), (20, .if_icmp .lt 7, 3, 23), (23, .iconst 1, 1, 24), (24, .goto 4, 3, 27), (27, .iconst 0, 1, 28), (28, .ireturn, 1, 29)]
theorem tk_X2_isHeld : Tk mi_X2_isHeld.2.1 tb_X2_isHeld := Tk.of (by decide +kernel)
abbrev mi_X2_lostWithOne : MI := (⟨"RopesAtDawn$Dawn", "lostWithOne", "(I)I"⟩, prog_4_method_14_code, 2, some (.int))
def tb_X2_lostWithOne : List (Nat × Instr × Nat × Nat) := [(0, .aload_n 0, 1, 1), (1, .getfield 42, 3, 4), (4, .iload_n 1, 1, 5), (5, .iconst 0, 1, 6), (6, .invokevirtual 105, 3, 9), (9, .bipush 6, 2, 11), (11, .if_icmp .ne 7, 3, 14), (14, .iconst 1, 1, 15), (15, .goto 11, 3, 18), (18, .aload_n 0, 1, 19), (19, .iload_n 1, 1, 20), (20, .invokevirtual 87, 3, 23), (23, .invokevirtual 101, 3, 26), (26, .ireturn, 1, 27)]
theorem tk_X2_lostWithOne : Tk mi_X2_lostWithOne.2.1 tb_X2_lostWithOne := Tk.of (by decide +kernel)
abbrev mi_X2_draw : MI := (⟨"RopesAtDawn$Dawn", "draw", "()I"⟩, prog_4_method_15_code, 1, some (.int))
def tb_X2_draw : List (Nat × Instr × Nat × Nat) := [(0, .aload_n 0, 1, 1), (1, .aload_n 0, 1, 2), (2, .getfield 77, 3, 5), (5, .ldc 127, 2, 7), (7, .imul, 1, 8), (8, .sipush 12345, 3, 11), (11, .iadd, 1, 12), (12, .putfield 77, 3, 15), (15, .aload_n 0, 1, 16), (16, .getfield 77, 3, 19), (19, .bipush 8, 2, 21), (21, .iushr, 1, 22), (22, .ireturn, 1, 23)]
theorem tk_X2_draw : Tk mi_X2_draw.2.1 tb_X2_draw := Tk.of (by decide +kernel)
abbrev mi_X3_init : MI := (⟨"RopesAtDawn$Fours", "<init>", "(I[I[I)V"⟩, prog_5_method_1_code, 4, none)
def tb_X3_init : List (Nat × Instr × Nat × Nat) := [(0, .aload_n 0, 1, 1), (1, .invokespecial 3, 3, 4), (4, .aload_n 0, 1, 5), (5, .iconst 0, 1, 6), (6, .putfield 9, 3, 9), (9, .aload_n 0, 1, 10), (10, .aload_n 2, 1, 11), (11, .putfield 15, 3, 14), (14, .aload_n 0, 1, 15), (15, .aload_n 3, 1, 16), (16, .putfield 19, 3, 19), (19, .aload_n 0, 1, 20), (20, .iconst 0, 1, 21), (21, .iload_n 1, 1, 22), (22, .invokestatic 22, 3, 25), (25, .iconst 4, 1, 26), (26, .imul, 1, 27), (27, .newarray .int, 2, 29), (29, .putfield 28, 3, 32), (32, .return_, 1, 33)]
theorem tk_X3_init : Tk mi_X3_init.2.1 tb_X3_init := Tk.of (by decide +kernel)
abbrev mi_X3_size : MI := (⟨"RopesAtDawn$Fours", "size", "()I"⟩, prog_5_method_2_code, 1, some (.int))
def tb_X3_size : List (Nat × Instr × Nat × Nat) := [(0, .aload_n 0, 1, 1), (1, .getfield 9, 3, 4), (4, .ireturn, 1, 5)]
theorem tk_X3_size : Tk mi_X3_size.2.1 tb_X3_size := Tk.of (by decide +kernel)
abbrev mi_X3_has : MI := (⟨"RopesAtDawn$Fours", "has", "(I)Z"⟩, prog_5_method_3_code, 2, some (.boolean))
def tb_X3_has : List (Nat × Instr × Nat × Nat) := [(0, .iload_n 1, 1, 1), (1, .ifCond .lt 15, 3, 4), (4, .iload_n 1, 1, 5), (5, .aload_n 0, 1, 6), (6, .getfield 9, 3, 9), (9, .if_icmp .ge 7, 3, 12), (12, .iconst 1, 1, 13), (13, .goto 4, 3, 16), (16, .iconst 0, 1, 17), (17, .ireturn, 1, 18)]
theorem tk_X3_has : Tk mi_X3_has.2.1 tb_X3_has := Tk.of (by decide +kernel)
abbrev mi_X3_isFull : MI := (⟨"RopesAtDawn$Fours", "isFull", "()Z"⟩, prog_5_method_4_code, 1, some (.boolean))
def tb_X3_isFull : List (Nat × Instr × Nat × Nat) := [(0, .aload_n 0, 1, 1), (1, .getfield 9, 3, 4), (4, .iconst 1, 1, 5), (5, .iadd, 1, 6), (6, .iconst 4, 1, 7), (7, .imul, 1, 8), (8, .aload_n 0, 1, 9), (9, .getfield 28, 3, 12), (12, .arraylength, 1, 13), (13, .if_icmp .le 7, 3, 16), (16, .iconst 1, 1, 17), (17, .goto 4, 3, 20), (20, .iconst 0, 1, 21), (21, .ireturn, 1, 22)]
theorem tk_X3_isFull : Tk mi_X3_isFull.2.1 tb_X3_isFull := Tk.of (by decide +kernel)
abbrev mi_X3_fitsColumn : MI := (⟨"RopesAtDawn$Fours", "fitsColumn", "(II)Z"⟩, prog_5_method_5_code, 3, some (.boolean))
def tb_X3_fitsColumn : List (Nat × Instr × Nat × Nat) := [(0, .iload_n 1, 1, 1), (1, .ifCond .lt 21, 3, 4), (4, .iload_n 1, 1, 5), (5, .aload_n 0, 1, 6), (6, .getfield 15, 3, 9), (9, .arraylength, 1, 10), (10, .if_icmp .ge 12, 3, 13), (13, .iload_n 1, 1, 14), (14, .aload_n 0, 1, 15), (15, .getfield 19, 3, 18), (18, .arraylength, 1, 19), (19, .if_icmp .lt 5, 3, 22), (22, .iconst 0, 1, 23), (23, .ireturn, 1, 24), (24, .iload_n 2, 1, 25), (25, .aload_n 0, 1, 26), (26, .getfield 15, 3, 29), (29, .iload_n 1, 1, 30), (30, .iaload, 1, 31), (31, .if_icmp .lt 17, 3, 34), (34, .iload_n 2, 1, 35), (35, .aload_n 0, 1, 36), (36, .getfield 19, 3, 39), (39, .iload_n 1, 1, 40), (40, .iaload, 1, 41), (41, .if_icmp .gt 7, 3, 44), (44, .iconst 1, 1, 45), (45, .goto 4, 3, 48), (48, .iconst 0, 1, 49), (49, .ireturn, 1, 50)]
theorem tk_X3_fitsColumn : Tk mi_X3_fitsColumn.2.1 tb_X3_fitsColumn := Tk.of (by decide +kernel)
abbrev mi_X3_fits : MI := (⟨"RopesAtDawn$Fours", "fits", "(IIII)Z"⟩, prog_5_method_6_code, 5, some (.boolean))
def tb_X3_fits : List (Nat × Instr × Nat × Nat) := [(0, .aload_n 0, 1, 1), (1, .iconst 0, 1, 2), (2, .iload_n 1, 1, 3), (3, .invokevirtual 31, 3, 6), (6, .ifCond .eq 35, 3, 9), (9, .aload_n 0, 1, 10), (10, .iconst 1, 1, 11), (11, .iload_n 2, 1, 12), (12, .invokevirtual 31, 3, 15), (15, .ifCond .eq 26, 3, 18), (18, .aload_n 0, 1, 19), (19, .iconst 2, 1, 20), (20, .iload_n 3, 1, 21), (21, .invokevirtual 31, 3, 24), (24, .ifCond .eq 17, 3, 27), (27, .aload_n 0, 1, 28), (28, .iconst 3, 1, 29), (29, .iload 4, 2, 31), (31, .invokevirtual 31, 3, 34), (34, .ifCond .eq 7, 3, 37), (37, .iconst 1, 1, 38), (38, .goto 4, 3, 41), (41, .iconst 0, 1, 42), (42, .ireturn, 1, 43)]
theorem tk_X3_fits : Tk mi_X3_fits.2.1 tb_X3_fits := Tk.of (by decide +kernel)
abbrev mi_X3_add : MI := (⟨"RopesAtDawn$Fours", "add", "(IIII)V"⟩, prog_5_method_7_code, 5, none)
def tb_X3_add : List (Nat × Instr × Nat × Nat) := [(0, .aload_n 0, 1, 1), (1, .invokevirtual 35, 3, 4), (4, .ifCond .eq 4, 3, 7), (7, .return_, 1, 8), (8, .aload_n 0, 1, 9), (9, .dup, 1, 10), (10, .getfield 9, 3, 13), (13, .iconst 1, 1, 14), (14, .iadd, 1, 15), (15, .putfield 9, 3, 18), (18, .aload_n 0, 1, 19), (19, .aload_n 0, 1, 20), (20, .getfield 9, 3, 23), (23, .iconst 1, 1, 24), (24, .isub, 1, 25), (25, .iconst 0, 1, 26), (26, .iload_n 1, 1, 27), (27, .invokevirtual 39, 3, 30), (30, .aload_n 0, 1, 31), (31, .aload_n 0, 1, 32), (32, .getfield 9, 3, 35), (35, .iconst 1, 1, 36), (36, .isub, 1, 37), (37, .iconst 1, 1, 38), (38, .iload_n 2, 1, 39), (39, .invokevirtual 39, 3, 42), (42, .aload_n 0, 1, 43), (43, .aload_n 0, 1, 44), (44, .getfield 9, 3, 47), (47, .iconst 1, 1, 48), (48, .isub, 1, 49), (49, .iconst 2, 1, 50), (50, .iload_n 3, 1, 51), (51, .invokevirtual 39, 3, 54), (54, .aload_n 0, 1, 55), (55, .aload_n 0, 1, 56), (56, .getfield 9, 3, 59), (59, .iconst 1, 1, 60), (60, .isub, 1, 61), (61, .iconst 3, 1, 62), (62, .iload 4, 2, 64), (64, .invokevirtual 39, 3, 67), (67, .return_, 1, 68)]
theorem tk_X3_add : Tk mi_X3_add.2.1 tb_X3_add := Tk.of (by decide +kernel)
abbrev mi_X3_get : MI := (⟨"RopesAtDawn$Fours", "get", "(II)I"⟩, prog_5_method_8_code, 3, some (.int))
def tb_X3_get : List (Nat × Instr × Nat × Nat) := [(0, .iload_n 1, 1, 1), (1, .ifCond .lt 20, 3, 4), (4, .iload_n 1, 1, 5), (5, .aload_n 0, 1, 6), (6, .getfield 9, 3, 9), (9, .if_icmp .ge 12, 3, 12), (12, .iload_n 2, 1, 13), (13, .ifCond .lt 8, 3, 16), (16, .iload_n 2, 1, 17), (17, .iconst 4, 1, 18), (18, .if_icmp .lt 5, 3, 21), (21, .iconst 0, 1, 22), (22, .ireturn, 1, 23), (23, .aload_n 0, 1, 24), (24, .getfield 28, 3, 27), (27, .iload_n 1, 1, 28), (28, .iconst 4, 1, 29), (29, .imul, 1, 30), (30, .iload_n 2, 1, 31), (31, .iadd, 1, 32), (32, .iaload, 1, 33), (33, .ireturn, 1, 34)]
theorem tk_X3_get : Tk mi_X3_get.2.1 tb_X3_get := Tk.of (by decide +kernel)
abbrev mi_X3_change : MI := (⟨"RopesAtDawn$Fours", "change", "(III)V"⟩, prog_5_method_9_code, 4, none)
def tb_X3_change : List (Nat × Instr × Nat × Nat) := [(0, .aload_n 0, 1, 1), (1, .iload_n 1, 1, 2), (2, .invokevirtual 43, 3, 5), (5, .ifCond .eq 23, 3, 8), (8, .iload_n 2, 1, 9), (9, .ifCond .lt 19, 3, 12), (12, .iload_n 2, 1, 13), (13, .iconst 4, 1, 14), (14, .if_icmp .ge 14, 3, 17), (17, .aload_n 0, 1, 18), (18, .getfield 28, 3, 21), (21, .iload_n 1, 1, 22), (22, .iconst 4, 1, 23), (23, .imul, 1, 24), (24, .iload_n 2, 1, 25), (25, .iadd, 1, 26), (26, .iload_n 3, 1, 27), (27, .iastore, 1, 28), (28, .return_, 1, 29)]
theorem tk_X3_change : Tk mi_X3_change.2.1 tb_X3_change := Tk.of (by decide +kernel)
abbrev mi_X3_copyFrom : MI := (⟨"RopesAtDawn$Fours", "copyFrom", "(LRopesAtDawn$Fours;)V"⟩, prog_5_method_10_code, 2, none)
def tb_X3_copyFrom : List (Nat × Instr × Nat × Nat) := [(0, .aload_n 0, 1, 1), (1, .aload_n 1, 1, 2), (2, .getfield 9, 3, 5), (5, .aload_n 0, 1, 6), (6, .getfield 28, 3, 9), (9, .arraylength, 1, 10), (10, .iconst 4, 1, 11), (11, .idiv, 1, 12), (12, .invokestatic 47, 3, 15), (15, .putfield 9, 3, 18), (18, .aload_n 1, 1, 19), (19, .getfield 28, 3, 22), (22, .iconst 0, 1, 23), (23, .aload_n 0, 1, 24), (24, .getfield 28, 3, 27), (27, .iconst 0, 1, 28), (28, .aload_n 0, 1, 29), (29, .getfield 9, 3, 32), (32, .iconst 4, 1, 33), (33, .imul, 1, 34), (34, .invokestatic 50, 3, 37), (37, .return_, 1, 38)]
theorem tk_X3_copyFrom : Tk mi_X3_copyFrom.2.1 tb_X3_copyFrom := Tk.of (by decide +kernel)
abbrev mi_X4_init : MI := (⟨"RopesAtDawn$Reader", "<init>", "()V"⟩, prog_6_method_1_code, 1, none)
def tb_X4_init : List (Nat × Instr × Nat × Nat) := [(0, .aload_n 0, 1, 1), (1, .invokespecial 3, 3, 4), (4, .aload_n 0, 1, 5), (5, .new 9, 3, 8), (8, .dup, 1, 9), (9, .bipush 50, 2, 11), (11, .invokespecial 11, 3, 14), (14, .putfield 14, 3, 17), (17, .aload_n 0, 1, 18), (18, .new 9, 3, 21), (21, .dup, 1, 22), (22, .iconst 0, 1, 23), (23, .invokespecial 11, 3, 26), (26, .putfield 20, 3, 29), (29, .aload_n 0, 1, 30), (30, .ldc 23, 2, 32), (32, .putfield 25, 3, 35), (35, .aload_n 0, 1, 36), (36, .iconst 0, 1, 37), (37, .putfield 29, 3, 40), (40, .aload_n 0, 1, 41), (41, .iconst 0, 1, 42), (42, .putfield 33, 3, 45), (45, .return_, 1, 46)]
theorem tk_X4_init : Tk mi_X4_init.2.1 tb_X4_init := Tk.of (by decide +kernel)
abbrev mi_X4_read : MI := (⟨"RopesAtDawn$Reader", "read", "(LRopesAtDawn$Row;Ljava/lang/String;)I"⟩, prog_6_method_2_code, 3, some (.int))
def tb_X4_read : List (Nat × Instr × Nat × Nat) := [(0, .aload_n 0, 1, 1), (1, .aload_n 1, 1, 2), (2, .putfield 20, 3, 5), (5, .aload_n 0, 1, 6), (6, .aload_n 2, 1, 7), (7, .putfield 25, 3, 10), (10, .aload_n 0, 1, 11), (11, .iconst 0, 1, 12), (12, .putfield 29, 3, 15), (15, .aload_n 0, 1, 16), (16, .iconst 0, 1, 17), (17, .putfield 33, 3, 20), (20, .aload_n 0, 1, 21), (21, .getfield 14, 3, 24), (24, .invokevirtual 37, 3, 27), (27, .aload_n 0, 1, 28), (28, .iconst 0, 1, 29), (29, .iconst 0, 1, 30), (30, .invokevirtual 40, 3, 33), (33, .aload_n 0, 1, 34), (34, .getfield 33, 3, 37), (37, .ifCond .ne 17, 3, 40), (40, .aload_n 0, 1, 41), (41, .getfield 29, 3, 44), (44, .aload_n 0, 1, 45), (45, .getfield 20, 3, 48), (48, .invokevirtual 44, 3, 51), (51, .if_icmp .ge 8, 3, 54), (54, .aload_n 0, 1, 55), (55, .getfield 29, 3, 58), (58, .ireturn, 1, 59), (59, .iconst (-1), 1, 60), (60, .ireturn, 1, 61)]
theorem tk_X4_read : Tk mi_X4_read.2.1 tb_X4_read := Tk.of (by decide +kernel)
abbrev mi_X4_levelOf : MI := (⟨"RopesAtDawn$Reader", "levelOf", "(I)I"⟩, prog_6_method_3_code, 1, some (.int))
def tb_X4_levelOf : List (Nat × Instr × Nat × Nat) := [(0, .iload_n 0, 1, 1), (1, .lookupswitch 101 #[(37, 99), (38, 93), (42, 99), (43, 97), (45, 97), (47, 99), (60, 95), (61, 95), (62, 95), (124, 91)], 91, 92), (92, .iconst 0, 1, 93), (93, .ireturn, 1, 94), (94, .iconst 1, 1, 95), (95, .ireturn, 1, 96), (96, .iconst 2, 1, 97), (97, .ireturn, 1, 98), (98, .iconst 3, 1, 99), (99, .ireturn, 1, 100), (100, .iconst 4, 1, 101), (101, .ireturn, 1, 102), (102, .iconst (-1), 1, 103), (103, .ireturn, 1, 104)]
theorem tk_X4_levelOf : Tk mi_X4_levelOf.2.1 tb_X4_levelOf := Tk.of (by decide +kernel)
abbrev mi_X4_readLevel : MI := (⟨"RopesAtDawn$Reader", "readLevel", "(II)V"⟩, prog_6_method_4_code, 6, none)
def tb_X4_readLevel : List (Nat × Instr × Nat × Nat) := [(0, .iload_n 1, 1, 1), (1, .iconst 5, 1, 2), (2, .if_icmp .lt 9, 3, 5), (5, .aload_n 0, 1, 6), (6, .iload_n 2, 1, 7), (7, .invokevirtual 48, 3, 10), (10, .return_, 1, 11), (11, .aload_n 0, 1, 12), (12, .iload_n 1, 1, 13), (13, .iconst 1, 1, 14), (14, .iadd, 1, 15), (15, .iload_n 2, 1, 16), (16, .invokevirtual 40, 3, 19), (19, .iload_n 1, 1, 20), (20, .iconst 2, 1, 21), (21, .if_icmp .ne 7, 3, 24), (24, .iconst 1, 1, 25), (25, .goto 5, 3, 28), (28, .bipush 50, 2, 30), (30, .istore_n 3, 1, 31), (31, .iconst 0, 1, 32), (32, .istore 4, 2, 34), (34, .iload 4, 2, 36), (36, .iload_n 3, 1, 37), (37, .if_icmp .ge 78, 3, 40), (40, .aload_n 0, 1, 41), (41, .getfield 33, 3, 44), (44, .ifCond .ne 71, 3, 47), (47, .aload_n 0, 1, 48), (48, .getfield 20, 3, 51), (51, .aload_n 0, 1, 52), (52, .getfield 29, 3, 55), (55, .invokevirtual 51, 3, 58), (58, .invokestatic 55, 3, 61), (61, .iload_n 1, 1, 62), (62, .if_icmp .ne 53, 3, 65), (65, .aload_n 0, 1, 66), (66, .getfield 20, 3, 69), (69, .aload_n 0, 1, 70), (70, .getfield 29, 3, 73), (73, .invokevirtual 51, 3, 76), (76, .istore 5, 2, 78), (78, .aload_n 0, 1, 79), (79, .dup, 1, 80), (80, .getfield 29, 3, 83), (83, .iconst 1, 1, 84), (84, .iadd, 1, 85), (85, .putfield 29, 3, 88), (88, .aload_n 0, 1, 89), (89, .iload_n 1, 1, 90), (90, .iconst 1, 1, 91), (91, .iadd, 1, 92), (92, .iload_n 2, 1, 93), (93, .invokevirtual 40, 3, 96), (96, .aload_n 0, 1, 97), (97, .getfield 14, 3, 100), (100, .sipush 20000, 3, 103), (103, .iload 5, 2, 105), (105, .iadd, 1, 106), (106, .invokevirtual 58, 3, 109), (109, .iinc 4 1, 3, 112), (112, .goto (-78), 3, 115), (115, .return_, 1, 116)]
theorem tk_X4_readLevel : Tk mi_X4_readLevel.2.1 tb_X4_readLevel := Tk.of (by decide +kernel)
abbrev mi_X4_readFactor : MI := (⟨"RopesAtDawn$Reader", "readFactor", "(I)V"⟩, prog_6_method_5_code, 3, none)
def tb_X4_readFactor : List (Nat × Instr × Nat × Nat) := [(0, .aload_n 0, 1, 1), (1, .getfield 20, 3, 4), (4, .aload_n 0, 1, 5), (5, .getfield 29, 3, 8), (8, .invokevirtual 51, 3, 11), (11, .istore_n 2, 1, 12), (12, .iload_n 2, 1, 13), (13, .invokestatic 61, 3, 16), (16, .ifCond .eq 10, 3, 19), (19, .aload_n 0, 1, 20), (20, .invokevirtual 65, 3, 23), (23, .goto 95, 3, 26), (26, .iload_n 2, 1, 27), (27, .ifCond .lt 48, 3, 30), (30, .aload_n 0, 1, 31), (31, .getfield 25, 3, 34), (34, .iload_n 2, 1, 35), (35, .i2c, 1, 36), (36, .invokevirtual 68, 3, 39), (39, .ifCond .lt 36, 3, 42), (42, .aload_n 0, 1, 43), (43, .getfield 14, 3, 46), (46, .sipush 10000, 3, 49), (49, .aload_n 0, 1, 50), (50, .getfield 25, 3, 53), (53, .iload_n 2, 1, 54), (54, .i2c, 1, 55), (55, .invokevirtual 68, 3, 58), (58, .iadd, 1, 59), (59, .invokevirtual 58, 3, 62), (62, .aload_n 0, 1, 63), (63, .dup, 1, 64), (64, .getfield 29, 3, 67), (67, .iconst 1, 1, 68), (68, .iadd, 1, 69), (69, .putfield 29, 3, 72), (72, .goto 46, 3, 75), (75, .iload_n 2, 1, 76), (76, .bipush 33, 2, 78), (78, .if_icmp .eq 9, 3, 81), (81, .iload_n 2, 1, 82), (82, .bipush 40, 2, 84), (84, .if_icmp .ne 29, 3, 87), (87, .iload_n 1, 1, 88), (88, .iconst 5, 1, 89), (89, .if_icmp .ge 24, 3, 92), (92, .aload_n 0, 1, 93), (93, .dup, 1, 94), (94, .getfield 29, 3, 97), (97, .iconst 1, 1, 98), (98, .iadd, 1, 99), (99, .putfield 29, 3, 102), (102, .aload_n 0, 1, 103), (103, .iload_n 2, 1, 104), (104, .iload_n 1, 1, 105), (105, .iconst 1, 1, 106), (106, .iadd, 1, 107), (107, .invokevirtual 73, 3, 110), (110, .goto 8, 3, 113), (113, .aload_n 0, 1, 114), (114, .iconst 1, 1, 115), (115, .putfield 33, 3, 118), (118, .return_, 1, 119)]
theorem tk_X4_readFactor : Tk mi_X4_readFactor.2.1 tb_X4_readFactor := Tk.of (by decide +kernel)
abbrev mi_X4_readOpened : MI := (⟨"RopesAtDawn$Reader", "readOpened", "(II)V"⟩, prog_6_method_6_code, 3, none)
def tb_X4_readOpened : List (Nat × Instr × Nat × Nat) := [(0, .iload_n 1, 1, 1), (1, .bipush 33, 2, 3), (3, .if_icmp .ne 21, 3, 6), (6, .aload_n 0, 1, 7), (7, .iload_n 2, 1, 8), (8, .invokevirtual 48, 3, 11), (11, .aload_n 0, 1, 12), (12, .getfield 14, 3, 15), (15, .sipush 20000, 3, 18), (18, .iload_n 1, 1, 19), (19, .iadd, 1, 20), (20, .invokevirtual 58, 3, 23), (23, .return_, 1, 24), (24, .aload_n 0, 1, 25), (25, .iconst 0, 1, 26), (26, .iload_n 2, 1, 27), (27, .invokevirtual 40, 3, 30), (30, .aload_n 0, 1, 31), (31, .getfield 33, 3, 34), (34, .ifCond .eq 4, 3, 37), (37, .return_, 1, 38), (38, .aload_n 0, 1, 39), (39, .getfield 20, 3, 42), (42, .aload_n 0, 1, 43), (43, .getfield 29, 3, 46), (46, .invokevirtual 51, 3, 49), (49, .bipush 41, 2, 51), (51, .if_icmp .ne 16, 3, 54), (54, .aload_n 0, 1, 55), (55, .dup, 1, 56), (56, .getfield 29, 3, 59), (59, .iconst 1, 1, 60), (60, .iadd, 1, 61), (61, .putfield 29, 3, 64), (64, .goto 8, 3, 67), (67, .aload_n 0, 1, 68), (68, .iconst 1, 1, 69), (69, .putfield 33, 3, 72), (72, .return_, 1, 73)]
theorem tk_X4_readOpened : Tk mi_X4_readOpened.2.1 tb_X4_readOpened := Tk.of (by decide +kernel)
abbrev mi_X4_readNumber : MI := (⟨"RopesAtDawn$Reader", "readNumber", "()V"⟩, prog_6_method_7_code, 3, none)
def tb_X4_readNumber : List (Nat × Instr × Nat × Nat) := [(0, .iconst 0, 1, 1), (1, .istore_n 1, 1, 2), (2, .iconst 0, 1, 3), (3, .istore_n 2, 1, 4), (4, .iload_n 2, 1, 5), (5, .iconst 4, 1, 6), (6, .if_icmp .ge 56, 3, 9), (9, .aload_n 0, 1, 10), (10, .getfield 20, 3, 13), (13, .aload_n 0, 1, 14), (14, .getfield 29, 3, 17), (17, .invokevirtual 51, 3, 20), (20, .invokestatic 61, 3, 23), (23, .ifCond .eq 39, 3, 26), (26, .iload_n 1, 1, 27), (27, .bipush 10, 2, 29), (29, .imul, 1, 30), (30, .aload_n 0, 1, 31), (31, .getfield 20, 3, 34), (34, .aload_n 0, 1, 35), (35, .getfield 29, 3, 38), (38, .invokevirtual 51, 3, 41), (41, .iadd, 1, 42), (42, .bipush 48, 2, 44), (44, .isub, 1, 45), (45, .istore_n 1, 1, 46), (46, .aload_n 0, 1, 47), (47, .dup, 1, 48), (48, .getfield 29, 3, 51), (51, .iconst 1, 1, 52), (52, .iadd, 1, 53), (53, .putfield 29, 3, 56), (56, .iinc 2 1, 3, 59), (59, .goto (-55), 3, 62), (62, .aload_n 0, 1, 63), (63, .getfield 14, 3, 66), (66, .iload_n 1, 1, 67), (67, .invokevirtual 58, 3, 70), (70, .return_, 1, 71)]
theorem tk_X4_readNumber : Tk mi_X4_readNumber.2.1 tb_X4_readNumber := Tk.of (by decide +kernel)
abbrev mi_X4_isDigit : MI := (⟨"RopesAtDawn$Reader", "isDigit", "(I)Z"⟩, prog_6_method_8_code, 1, some (.boolean))
def tb_X4_isDigit : List (Nat × Instr × Nat × Nat) := [(0, .iload_n 0, 1, 1), (1, .bipush 48, 2, 3), (3, .if_icmp .lt 13, 3, 6), (6, .iload_n 0, 1, 7), (7, .bipush 57, 2, 9), (9, .if_icmp .gt 7, 3, 12), (12, .iconst 1, 1, 13), (13, .goto 4, 3, 16), (16, .iconst 0, 1, 17), (17, .ireturn, 1, 18)]
theorem tk_X4_isDigit : Tk mi_X4_isDigit.2.1 tb_X4_isDigit := Tk.of (by decide +kernel)
abbrev mi_X5_init : MI := (⟨"RopesAtDawn$Reckoner", "<init>", "()V"⟩, prog_7_method_1_code, 1, none)
def tb_X5_init : List (Nat × Instr × Nat × Nat) := [(0, .aload_n 0, 1, 1), (1, .invokespecial 3, 3, 4), (4, .aload_n 0, 1, 5), (5, .iconst 5, 1, 6), (6, .newarray .int, 2, 8), (8, .putfield 9, 3, 11), (11, .aload_n 0, 1, 12), (12, .bipush 50, 2, 14), (14, .newarray .int, 2, 16), (16, .putfield 15, 3, 19), (19, .return_, 1, 20)]
theorem tk_X5_init : Tk mi_X5_init.2.1 tb_X5_init := Tk.of (by decide +kernel)
abbrev mi_X5_name : MI := (⟨"RopesAtDawn$Reckoner", "name", "(IIIII)V"⟩, prog_7_method_2_code, 6, none)
def tb_X5_name : List (Nat × Instr × Nat × Nat) := [(0, .aload_n 0, 1, 1), (1, .getfield 9, 3, 4), (4, .iconst 0, 1, 5), (5, .iload_n 1, 1, 6), (6, .iastore, 1, 7), (7, .aload_n 0, 1, 8), (8, .getfield 9, 3, 11), (11, .iconst 1, 1, 12), (12, .iload_n 2, 1, 13), (13, .iastore, 1, 14), (14, .aload_n 0, 1, 15), (15, .getfield 9, 3, 18), (18, .iconst 2, 1, 19), (19, .iload_n 3, 1, 20), (20, .iastore, 1, 21), (21, .aload_n 0, 1, 22), (22, .getfield 9, 3, 25), (25, .iconst 3, 1, 26), (26, .iload 4, 2, 28), (28, .iastore, 1, 29), (29, .aload_n 0, 1, 30), (30, .getfield 9, 3, 33), (33, .iconst 4, 1, 34), (34, .iload 5, 2, 36), (36, .iastore, 1, 37), (37, .return_, 1, 38)]
theorem tk_X5_name : Tk mi_X5_name.2.1 tb_X5_name := Tk.of (by decide +kernel)
abbrev mi_X5_give : MI := (⟨"RopesAtDawn$Reckoner", "give", "(ILRopesAtDawn$Row;)I"⟩, prog_7_method_3_code, 4, some (.int))
def tb_X5_give : List (Nat × Instr × Nat × Nat) := [(0, .aload_n 2, 1, 1), (1, .invokevirtual 18, 3, 4), (4, .ifCond .le 12, 3, 7), (7, .aload_n 0, 1, 8), (8, .aload_n 2, 1, 9), (9, .invokevirtual 24, 3, 12), (12, .istore_n 3, 1, 13), (13, .goto 77, 3, 16), (16, .iload_n 1, 1, 17), (17, .ifCond .ne 44, 3, 20), (20, .aload_n 0, 1, 21), (21, .getfield 9, 3, 24), (24, .iconst 0, 1, 25), (25, .iaload, 1, 26), (26, .aload_n 0, 1, 27), (27, .getfield 9, 3, 30), (30, .iconst 4, 1, 31), (31, .iaload, 1, 32), (32, .aload_n 0, 1, 33), (33, .getfield 9, 3, 36), (36, .iconst 1, 1, 37), (37, .iaload, 1, 38), (38, .imul, 1, 39), (39, .iadd, 1, 40), (40, .bipush 10, 2, 42), (42, .aload_n 0, 1, 43), (43, .getfield 9, 3, 46), (46, .iconst 2, 1, 47), (47, .iaload, 1, 48), (48, .imul, 1, 49), (49, .iadd, 1, 50), (50, .aload_n 0, 1, 51), (51, .getfield 9, 3, 54), (54, .iconst 3, 1, 55), (55, .iaload, 1, 56), (56, .isub, 1, 57), (57, .istore_n 3, 1, 58), (58, .goto 32, 3, 61), (61, .bipush 47, 2, 63), (63, .aload_n 0, 1, 64), (64, .getfield 9, 3, 67), (67, .iconst 0, 1, 68), (68, .iaload, 1, 69), (69, .aload_n 0, 1, 70), (70, .getfield 9, 3, 73), (73, .iconst 1, 1, 74), (74, .iaload, 1, 75), (75, .imul, 1, 76), (76, .aload_n 0, 1, 77), (77, .getfield 9, 3, 80), (80, .iconst 2, 1, 81), (81, .iaload, 1, 82), (82, .iconst 1, 1, 83), (83, .iadd, 1, 84), (84, .invokestatic 28, 3, 87), (87, .iconst 5, 1, 88), (88, .iadd, 1, 89), (89, .istore_n 3, 1, 90), (90, .iconst 0, 1, 91), (91, .iload_n 3, 1, 92), (92, .iload_n 1, 1, 93), (93, .ifCond .ne 9, 3, 96), (96, .sipush 1000, 3, 99), (99, .goto 6, 3, 102), (102, .sipush 999, 3, 105), (105, .invokestatic 32, 3, 108), (108, .invokestatic 38, 3, 111), (111, .ireturn, 1, 112)]
theorem tk_X5_give : Tk mi_X5_give.2.1 tb_X5_give := Tk.of (by decide +kernel)
abbrev mi_X5_valueOf : MI := (⟨"RopesAtDawn$Reckoner", "valueOf", "(LRopesAtDawn$Row;)I"⟩, prog_7_method_4_code, 7, some (.int))
def tb_X5_valueOf : List (Nat × Instr × Nat × Nat) := [(0, .iconst 0, 1, 1), (1, .istore_n 2, 1, 2), (2, .iconst 0, 1, 3), (3, .istore_n 3, 1, 4), (4, .iload_n 3, 1, 5), (5, .aload_n 1, 1, 6), (6, .invokevirtual 18, 3, 9), (9, .if_icmp .ge 179, 3, 12), (12, .aload_n 1, 1, 13), (13, .iload_n 3, 1, 14), (14, .invokevirtual 41, 3, 17), (17, .istore 4, 2, 19), (19, .iload 4, 2, 21), (21, .sipush 20000, 3, 24), (24, .isub, 1, 25), (25, .istore 5, 2, 27), (27, .iload 5, 2, 29), (29, .bipush 33, 2, 31), (31, .if_icmp .ne 44, 3, 34), (34, .iload_n 2, 1, 35), (35, .iconst 1, 1, 36), (36, .if_icmp .lt 146, 3, 39), (39, .iload_n 2, 1, 40), (40, .aload_n 0, 1, 41), (41, .getfield 15, 3, 44), (44, .arraylength, 1, 45), (45, .if_icmp .gt 137, 3, 48), (48, .aload_n 0, 1, 49), (49, .getfield 15, 3, 52), (52, .iload_n 2, 1, 53), (53, .iconst 1, 1, 54), (54, .isub, 1, 55), (55, .aload_n 0, 1, 56), (56, .getfield 15, 3, 59), (59, .iload_n 2, 1, 60), (60, .iconst 1, 1, 61), (61, .isub, 1, 62), (62, .iaload, 1, 63), (63, .ifCond .ne 7, 3, 66), (66, .iconst 1, 1, 67), (67, .goto 4, 3, 70), (70, .iconst 0, 1, 71), (71, .iastore, 1, 72), (72, .goto 110, 3, 75), (75, .iload 5, 2, 77), (77, .ifCond .lt 52, 3, 80), (80, .iload_n 2, 1, 81), (81, .iconst 2, 1, 82), (82, .if_icmp .lt 100, 3, 85), (85, .iload_n 2, 1, 86), (86, .aload_n 0, 1, 87), (87, .getfield 15, 3, 90), (90, .arraylength, 1, 91), (91, .if_icmp .gt 91, 3, 94), (94, .aload_n 0, 1, 95), (95, .getfield 15, 3, 98), (98, .iload_n 2, 1, 99), (99, .iconst 2, 1, 100), (100, .isub, 1, 101), (101, .iload 5, 2, 103), (103, .aload_n 0, 1, 104), (104, .getfield 15, 3, 107), (107, .iload_n 2, 1, 108), (108, .iconst 2, 1, 109), (109, .isub, 1, 110), (110, .iaload, 1, 111), (111, .aload_n 0, 1, 112), (112, .getfield 15, 3, 115), (115, .iload_n 2, 1, 116), (116, .iconst 1, 1, 117), (117, .isub, 1, 118), (118, .iaload, 1, 119), (119, .invokestatic 28, 3, 122), (122, .iastore, 1, 123), (123, .iinc 2 (-1), 3, 126), (126, .goto 56, 3, 129), (129, .iload_n 2, 1, 130), (130, .aload_n 0, 1, 131), (131, .getfield 15, 3, 134), (134, .arraylength, 1, 135), (135, .if_icmp .ge 47, 3, 138), (138, .iload 4, 2, 140), (140, .sipush 10000, 3, 143), (143, .isub, 1, 144), (144, .istore 6, 2, 146), (146, .aload_n 0, 1, 147), (147, .getfield 15, 3, 150), (150, .iload_n 2, 1, 151), (151, .iload 6, 2, 153), (153, .ifCond .lt 23, 3, 156), (156, .iload 6, 2, 158), (158, .aload_n 0, 1, 159), (159, .getfield 9, 3, 162), (162, .arraylength, 1, 163), (163, .if_icmp .ge 13, 3, 166), (166, .aload_n 0, 1, 167), (167, .getfield 9, 3, 170), (170, .iload 6, 2, 172), (172, .iaload, 1, 173), (173, .goto 5, 3, 176), (176, .iload 4, 2, 178), (178, .iastore, 1, 179), (179, .iinc 2 1, 3, 182), (182, .iinc 3 1, 3, 185), (185, .goto (-181), 3, 188), (188, .aload_n 0, 1, 189), (189, .getfield 15, 3, 192), (192, .iconst 0, 1, 193), (193, .iaload, 1, 194), (194, .ireturn, 1, 195)]
theorem tk_X5_valueOf : Tk mi_X5_valueOf.2.1 tb_X5_valueOf := Tk.of (by decide +kernel)
abbrev mi_X5_applied : MI := (⟨"RopesAtDawn$Reckoner", "applied", "(III)I"⟩, prog_7_method_5_code, 3, some (.int))
def tb_X5_applied : List (Nat × Instr × Nat × Nat) := [(0, .iload_n 0, 1, 1), (1, .lookupswitch 188 #[(37, 176), (38, 105), (42, 160), (43, 152), (45, 156), (47, 164), (60, 119), (61, 130), (62, 141), (124, 91)], 91, 92), (92, .iload_n 1, 1, 93), (93, .ifCond .ne 7, 3, 96), (96, .iload_n 2, 1, 97), (97, .ifCond .eq 7, 3, 100), (100, .iconst 1, 1, 101), (101, .goto 4, 3, 104), (104, .iconst 0, 1, 105), (105, .ireturn, 1, 106), (106, .iload_n 1, 1, 107), (107, .ifCond .eq 11, 3, 110), (110, .iload_n 2, 1, 111), (111, .ifCond .eq 7, 3, 114), (114, .iconst 1, 1, 115), (115, .goto 4, 3, 118), (118, .iconst 0, 1, 119), (119, .ireturn, 1, 120), (120, .iload_n 1, 1, 121), (121, .iload_n 2, 1, 122), (122, .if_icmp .ge 7, 3, 125), (125, .iconst 1, 1, 126), (126, .goto 4, 3, 129), (129, .iconst 0, 1, 130), (130, .ireturn, 1, 131), (131, .iload_n 1, 1, 132), (132, .iload_n 2, 1, 133), (133, .if_icmp .ne 7, 3, 136), (136, .iconst 1, 1, 137), (137, .goto 4, 3, 140), (140, .iconst 0, 1, 141), (141, .ireturn, 1, 142), (142, .iload_n 1, 1, 143), (143, .iload_n 2, 1, 144), (144, .if_icmp .le 7, 3, 147), (147, .iconst 1, 1, 148), (148, .goto 4, 3, 151), (151, .iconst 0, 1, 152), (152, .ireturn, 1, 153), (153, .iload_n 1, 1, 154), (154, .iload_n 2, 1, 155), (155, .iadd, 1, 156), (156, .ireturn, 1, 157), (157, .iload_n 1, 1, 158), (158, .iload_n 2, 1, 159), (159, .isub, 1, 160), (160, .ireturn, 1, 161), (161, .iload_n 1, 1, 162), (162, .iload_n 2, 1, 163), (163, .imul, 1, 164), (164, .ireturn, 1, 165), (165, .iload_n 2, 1, 166), (166, .ifCond .ne 7, 3, 169), (169, .iconst 0, 1, 170), (170, .goto 6, 3, 173), (173, .iload_n 1, 1, 174), (174, .iload_n 2, 1, 175), (175, .idiv, 1, 176), (176, .ireturn, 1, 177), (177, .iload_n 2, 1, 178), (178, .ifCond .ne 7, 3, 181), (181, .iconst 0, 1, 182), (182, .goto 6, 3, 185), (185, .iload_n 1, 1, 186), (186, .iload_n 2, 1, 187), (187, .irem, 1, 188), (188, .ireturn, 1, 189), (189, .iconst 0, 1, 190), (190, .ireturn, 1, 191)]
theorem tk_X5_applied : Tk mi_X5_applied.2.1 tb_X5_applied := Tk.of (by decide +kernel)
abbrev mi_X6_init : MI := (⟨"RopesAtDawn$Row", "<init>", "(I)V"⟩, prog_8_method_1_code, 2, none)
def tb_X6_init : List (Nat × Instr × Nat × Nat) := [(0, .aload_n 0, 1, 1), (1, .invokespecial 3, 3, 4), (4, .aload_n 0, 1, 5), (5, .iconst 0, 1, 6), (6, .putfield 9, 3, 9), (9, .aload_n 0, 1, 10), (10, .iconst 0, 1, 11), (11, .iload_n 1, 1, 12), (12, .invokestatic 15, 3, 15), (15, .newarray .int, 2, 17), (17, .putfield 21, 3, 20), (20, .return_, 1, 21)]
theorem tk_X6_init : Tk mi_X6_init.2.1 tb_X6_init := Tk.of (by decide +kernel)
abbrev mi_X6_size : MI := (⟨"RopesAtDawn$Row", "size", "()I"⟩, prog_8_method_2_code, 1, some (.int))
def tb_X6_size : List (Nat × Instr × Nat × Nat) := [(0, .aload_n 0, 1, 1), (1, .getfield 9, 3, 4), (4, .ireturn, 1, 5)]
theorem tk_X6_size : Tk mi_X6_size.2.1 tb_X6_size := Tk.of (by decide +kernel)
abbrev mi_X6_isFull : MI := (⟨"RopesAtDawn$Row", "isFull", "()Z"⟩, prog_8_method_3_code, 1, some (.boolean))
def tb_X6_isFull : List (Nat × Instr × Nat × Nat) := [(0, .aload_n 0, 1, 1), (1, .getfield 9, 3, 4), (4, .aload_n 0, 1, 5), (5, .getfield 21, 3, 8), (8, .arraylength, 1, 9), (9, .if_icmp .lt 7, 3, 12), (12, .iconst 1, 1, 13), (13, .goto 4, 3, 16), (16, .iconst 0, 1, 17), (17, .ireturn, 1, 18)]
theorem tk_X6_isFull : Tk mi_X6_isFull.2.1 tb_X6_isFull := Tk.of (by decide +kernel)
abbrev mi_X6_at : MI := (⟨"RopesAtDawn$Row", "at", "(I)I"⟩, prog_8_method_4_code, 2, some (.int))
def tb_X6_at : List (Nat × Instr × Nat × Nat) := [(0, .iload_n 1, 1, 1), (1, .ifCond .lt 20, 3, 4), (4, .iload_n 1, 1, 5), (5, .aload_n 0, 1, 6), (6, .getfield 9, 3, 9), (9, .if_icmp .ge 12, 3, 12), (12, .aload_n 0, 1, 13), (13, .getfield 21, 3, 16), (16, .iload_n 1, 1, 17), (17, .iaload, 1, 18), (18, .goto 4, 3, 21), (21, .iconst (-1), 1, 22), (22, .ireturn, 1, 23)]
theorem tk_X6_at : Tk mi_X6_at.2.1 tb_X6_at := Tk.of (by decide +kernel)
abbrev mi_X6_add : MI := (⟨"RopesAtDawn$Row", "add", "(I)V"⟩, prog_8_method_5_code, 2, none)
def tb_X6_add : List (Nat × Instr × Nat × Nat) := [(0, .aload_n 0, 1, 1), (1, .getfield 9, 3, 4), (4, .aload_n 0, 1, 5), (5, .getfield 21, 3, 8), (8, .arraylength, 1, 9), (9, .if_icmp .ge 23, 3, 12), (12, .aload_n 0, 1, 13), (13, .getfield 21, 3, 16), (16, .aload_n 0, 1, 17), (17, .getfield 9, 3, 20), (20, .iload_n 1, 1, 21), (21, .iastore, 1, 22), (22, .aload_n 0, 1, 23), (23, .dup, 1, 24), (24, .getfield 9, 3, 27), (27, .iconst 1, 1, 28), (28, .iadd, 1, 29), (29, .putfield 9, 3, 32), (32, .return_, 1, 33)]
theorem tk_X6_add : Tk mi_X6_add.2.1 tb_X6_add := Tk.of (by decide +kernel)
abbrev mi_X6_change : MI := (⟨"RopesAtDawn$Row", "change", "(II)V"⟩, prog_8_method_6_code, 3, none)
def tb_X6_change : List (Nat × Instr × Nat × Nat) := [(0, .iload_n 1, 1, 1), (1, .ifCond .lt 18, 3, 4), (4, .iload_n 1, 1, 5), (5, .aload_n 0, 1, 6), (6, .getfield 9, 3, 9), (9, .if_icmp .ge 10, 3, 12), (12, .aload_n 0, 1, 13), (13, .getfield 21, 3, 16), (16, .iload_n 1, 1, 17), (17, .iload_n 2, 1, 18), (18, .iastore, 1, 19), (19, .return_, 1, 20)]
theorem tk_X6_change : Tk mi_X6_change.2.1 tb_X6_change := Tk.of (by decide +kernel)
abbrev mi_X6_empty : MI := (⟨"RopesAtDawn$Row", "empty", "()V"⟩, prog_8_method_7_code, 1, none)
def tb_X6_empty : List (Nat × Instr × Nat × Nat) := [(0, .aload_n 0, 1, 1), (1, .iconst 0, 1, 2), (2, .putfield 9, 3, 5), (5, .return_, 1, 6)]
theorem tk_X6_empty : Tk mi_X6_empty.2.1 tb_X6_empty := Tk.of (by decide +kernel)
abbrev mi_X6_placeOf : MI := (⟨"RopesAtDawn$Row", "placeOf", "(I)I"⟩, prog_8_method_8_code, 3, some (.int))
def tb_X6_placeOf : List (Nat × Instr × Nat × Nat) := [(0, .iconst 0, 1, 1), (1, .istore_n 2, 1, 2), (2, .iload_n 2, 1, 3), (3, .aload_n 0, 1, 4), (4, .getfield 9, 3, 7), (7, .if_icmp .ge 21, 3, 10), (10, .aload_n 0, 1, 11), (11, .getfield 21, 3, 14), (14, .iload_n 2, 1, 15), (15, .iaload, 1, 16), (16, .iload_n 1, 1, 17), (17, .if_icmp .ne 5, 3, 20), (20, .iload_n 2, 1, 21), (21, .ireturn, 1, 22), (22, .iinc 2 1, 3, 25), (25, .goto (-23), 3, 28), (28, .iconst (-1), 1, 29), (29, .ireturn, 1, 30)]
theorem tk_X6_placeOf : Tk mi_X6_placeOf.2.1 tb_X6_placeOf := Tk.of (by decide +kernel)
abbrev mi_X6_removeAt : MI := (⟨"RopesAtDawn$Row", "removeAt", "(I)V"⟩, prog_8_method_9_code, 3, none)
def tb_X6_removeAt : List (Nat × Instr × Nat × Nat) := [(0, .iload_n 1, 1, 1), (1, .ifCond .lt 11, 3, 4), (4, .iload_n 1, 1, 5), (5, .aload_n 0, 1, 6), (6, .getfield 9, 3, 9), (9, .if_icmp .lt 4, 3, 12), (12, .return_, 1, 13), (13, .iload_n 1, 1, 14), (14, .istore_n 2, 1, 15), (15, .iload_n 2, 1, 16), (16, .iconst 1, 1, 17), (17, .iadd, 1, 18), (18, .aload_n 0, 1, 19), (19, .getfield 9, 3, 22), (22, .if_icmp .ge 23, 3, 25), (25, .aload_n 0, 1, 26), (26, .getfield 21, 3, 29), (29, .iload_n 2, 1, 30), (30, .aload_n 0, 1, 31), (31, .getfield 21, 3, 34), (34, .iload_n 2, 1, 35), (35, .iconst 1, 1, 36), (36, .iadd, 1, 37), (37, .iaload, 1, 38), (38, .iastore, 1, 39), (39, .iinc 2 1, 3, 42), (42, .goto (-27), 3, 45), (45, .aload_n 0, 1, 46), (46, .dup, 1, 47), (47, .getfield 9, 3, 50), (50, .iconst 1, 1, 51), (51, .isub, 1, 52), (52, .putfield 9, 3, 55), (55, .return_, 1, 56)]
theorem tk_X6_removeAt : Tk mi_X6_removeAt.2.1 tb_X6_removeAt := Tk.of (by decide +kernel)
abbrev mi_X6_exchange : MI := (⟨"RopesAtDawn$Row", "exchange", "(II)V"⟩, prog_8_method_10_code, 4, none)
def tb_X6_exchange : List (Nat × Instr × Nat × Nat) := [(0, .iload_n 1, 1, 1), (1, .ifCond .lt 49, 3, 4), (4, .iload_n 1, 1, 5), (5, .aload_n 0, 1, 6), (6, .getfield 9, 3, 9), (9, .if_icmp .ge 41, 3, 12), (12, .iload_n 2, 1, 13), (13, .ifCond .lt 37, 3, 16), (16, .iload_n 2, 1, 17), (17, .aload_n 0, 1, 18), (18, .getfield 9, 3, 21), (21, .if_icmp .ge 29, 3, 24), (24, .aload_n 0, 1, 25), (25, .getfield 21, 3, 28), (28, .iload_n 1, 1, 29), (29, .iaload, 1, 30), (30, .istore_n 3, 1, 31), (31, .aload_n 0, 1, 32), (32, .getfield 21, 3, 35), (35, .iload_n 1, 1, 36), (36, .aload_n 0, 1, 37), (37, .getfield 21, 3, 40), (40, .iload_n 2, 1, 41), (41, .iaload, 1, 42), (42, .iastore, 1, 43), (43, .aload_n 0, 1, 44), (44, .getfield 21, 3, 47), (47, .iload_n 2, 1, 48), (48, .iload_n 3, 1, 49), (49, .iastore, 1, 50), (50, .return_, 1, 51)]
theorem tk_X6_exchange : Tk mi_X6_exchange.2.1 tb_X6_exchange := Tk.of (by decide +kernel)
abbrev mi_X6_copyFrom : MI := (⟨"RopesAtDawn$Row", "copyFrom", "(LRopesAtDawn$Row;)V"⟩, prog_8_method_11_code, 2, none)
def tb_X6_copyFrom : List (Nat × Instr × Nat × Nat) := [(0, .aload_n 0, 1, 1), (1, .aload_n 1, 1, 2), (2, .getfield 9, 3, 5), (5, .aload_n 0, 1, 6), (6, .getfield 21, 3, 9), (9, .arraylength, 1, 10), (10, .invokestatic 25, 3, 13), (13, .putfield 9, 3, 16), (16, .aload_n 1, 1, 17), (17, .getfield 21, 3, 20), (20, .iconst 0, 1, 21), (21, .aload_n 0, 1, 22), (22, .getfield 21, 3, 25), (25, .iconst 0, 1, 26), (26, .aload_n 0, 1, 27), (27, .getfield 9, 3, 30), (30, .invokestatic 28, 3, 33), (33, .return_, 1, 34)]
theorem tk_X6_copyFrom : Tk mi_X6_copyFrom.2.1 tb_X6_copyFrom := Tk.of (by decide +kernel)
abbrev mi_X6_bits : MI := (⟨"RopesAtDawn$Row", "bits", "()I"⟩, prog_8_method_12_code, 3, some (.int))
def tb_X6_bits : List (Nat × Instr × Nat × Nat) := [(0, .iconst 0, 1, 1), (1, .istore_n 1, 1, 2), (2, .iconst 0, 1, 3), (3, .istore_n 2, 1, 4), (4, .iload_n 2, 1, 5), (5, .aload_n 0, 1, 6), (6, .getfield 9, 3, 9), (9, .if_icmp .ge 20, 3, 12), (12, .iload_n 1, 1, 13), (13, .iconst 1, 1, 14), (14, .aload_n 0, 1, 15), (15, .getfield 21, 3, 18), (18, .iload_n 2, 1, 19), (19, .iaload, 1, 20), (20, .ishl, 1, 21), (21, .ior, 1, 22), (22, .istore_n 1, 1, 23), (23, .iinc 2 1, 3, 26), (26, .goto (-22), 3, 29), (29, .iload_n 1, 1, 30), (30, .ireturn, 1, 31)]
theorem tk_X6_bits : Tk mi_X6_bits.2.1 tb_X6_bits := Tk.of (by decide +kernel)
abbrev mi_X6_becomeBits : MI := (⟨"RopesAtDawn$Row", "becomeBits", "(I)V"⟩, prog_8_method_13_code, 3, none)
def tb_X6_becomeBits : List (Nat × Instr × Nat × Nat) := [(0, .aload_n 0, 1, 1), (1, .invokevirtual 34, 3, 4), (4, .iconst 0, 1, 5), (5, .istore_n 2, 1, 6), (6, .iload_n 2, 1, 7), (7, .bipush 10, 2, 9), (9, .if_icmp .ge 22, 3, 12), (12, .iload_n 1, 1, 13), (13, .iload_n 2, 1, 14), (14, .ishr, 1, 15), (15, .iconst 1, 1, 16), (16, .iand, 1, 17), (17, .ifCond .eq 8, 3, 20), (20, .aload_n 0, 1, 21), (21, .iload_n 2, 1, 22), (22, .invokevirtual 37, 3, 25), (25, .iinc 2 1, 3, 28), (28, .goto (-22), 3, 31), (31, .return_, 1, 32)]
theorem tk_X6_becomeBits : Tk mi_X6_becomeBits.2.1 tb_X6_becomeBits := Tk.of (by decide +kernel)
abbrev mi_X6_sort : MI := (⟨"RopesAtDawn$Row", "sort", "()V"⟩, prog_8_method_14_code, 3, none)
def tb_X6_sort : List (Nat × Instr × Nat × Nat) := [(0, .iconst 1, 1, 1), (1, .istore_n 1, 1, 2), (2, .iload_n 1, 1, 3), (3, .aload_n 0, 1, 4), (4, .getfield 9, 3, 7), (7, .if_icmp .ge 46, 3, 10), (10, .iload_n 1, 1, 11), (11, .istore_n 2, 1, 12), (12, .iload_n 2, 1, 13), (13, .ifCond .le 34, 3, 16), (16, .aload_n 0, 1, 17), (17, .getfield 21, 3, 20), (20, .iload_n 2, 1, 21), (21, .iaload, 1, 22), (22, .aload_n 0, 1, 23), (23, .getfield 21, 3, 26), (26, .iload_n 2, 1, 27), (27, .iconst 1, 1, 28), (28, .isub, 1, 29), (29, .iaload, 1, 30), (30, .if_icmp .ge 17, 3, 33), (33, .aload_n 0, 1, 34), (34, .iload_n 2, 1, 35), (35, .iload_n 2, 1, 36), (36, .iconst 1, 1, 37), (37, .isub, 1, 38), (38, .invokevirtual 41, 3, 41), (41, .iinc 2 (-1), 3, 44), (44, .goto (-32), 3, 47), (47, .iinc 1 1, 3, 50), (50, .goto (-48), 3, 53), (53, .return_, 1, 54)]
theorem tk_X6_sort : Tk mi_X6_sort.2.1 tb_X6_sort := Tk.of (by decide +kernel)
abbrev mi_X6_next : MI := (⟨"RopesAtDawn$Row", "next", "()Z"⟩, prog_8_method_15_code, 5, some (.boolean))
def tb_X6_next : List (Nat × Instr × Nat × Nat) := [(0, .aload_n 0, 1, 1), (1, .getfield 9, 3, 4), (4, .iconst 2, 1, 5), (5, .isub, 1, 6), (6, .istore_n 1, 1, 7), (7, .iload_n 1, 1, 8), (8, .ifCond .lt 26, 3, 11), (11, .aload_n 0, 1, 12), (12, .getfield 21, 3, 15), (15, .iload_n 1, 1, 16), (16, .iaload, 1, 17), (17, .aload_n 0, 1, 18), (18, .getfield 21, 3, 21), (21, .iload_n 1, 1, 22), (22, .iconst 1, 1, 23), (23, .iadd, 1, 24), (24, .iaload, 1, 25), (25, .if_icmp .lt 9, 3, 28), (28, .iinc 1 (-1), 3, 31), (31, .goto (-24), 3, 34), (34, .iload_n 1, 1, 35), (35, .ifCond .ge 5, 3, 38), (38, .iconst 0, 1, 39), (39, .ireturn, 1, 40), (40, .aload_n 0, 1, 41), (41, .getfield 9, 3, 44), (44, .iconst 1, 1, 45), (45, .isub, 1, 46), (46, .istore_n 2, 1, 47), (47, .iload_n 2, 1, 48), (48, .iload_n 1, 1, 49), (49, .if_icmp .le 24, 3, 52), (52, .aload_n 0, 1, 53), (53, .getfield 21, 3, 56), (56, .iload_n 2, 1, 57), (57, .iaload, 1, 58), (58, .aload_n 0, 1, 59), (59, .getfield 21, 3, 62), (62, .iload_n 1, 1, 63), (63, .iaload, 1, 64), (64, .if_icmp .gt 9, 3, 67), (67, .iinc 2 (-1), 3, 70), (70, .goto (-23), 3, 73), (73, .aload_n 0, 1, 74), (74, .iload_n 1, 1, 75), (75, .iload_n 2, 1, 76), (76, .invokevirtual 41, 3, 79), (79, .iload_n 1, 1, 80), (80, .iconst 1, 1, 81), (81, .iadd, 1, 82), (82, .istore_n 3, 1, 83), (83, .aload_n 0, 1, 84), (84, .getfield 9, 3, 87), (87, .iconst 1, 1, 88), (88, .isub, 1, 89), (89, .istore 4, 2, 91), (91, .iload_n 3, 1, 92), (92, .iload 4, 2, 94), (94, .if_icmp .ge 19, 3, 97), (97, .aload_n 0, 1, 98), (98, .iload_n 3, 1, 99), (99, .iload 4, 2, 101), (101, .invokevirtual 41, 3, 104), (104, .iinc 3 1, 3, 107), (107, .iinc 4 (-1), 3, 110), (110, .goto (-19), 3, 113), (113, .iconst 1, 1, 114), (114, .ireturn, 1, 115)]
theorem tk_X6_next : Tk mi_X6_next.2.1 tb_X6_next := Tk.of (by decide +kernel)
abbrev mi_X7_init : MI := (⟨"RopesAtDawn$Sheet", "<init>", "()V"⟩, prog_9_method_1_code, 1, none)
def tb_X7_init : List (Nat × Instr × Nat × Nat) := [(0, .aload_n 0, 1, 1), (1, .invokespecial 3, 3, 4), (4, .aload_n 0, 1, 5), (5, .bipush 40, 2, 7), (7, .newarray .int, 2, 9), (9, .putfield 9, 3, 12), (12, .aload_n 0, 1, 13), (13, .iconst 0, 1, 14), (14, .putfield 15, 3, 17), (17, .aload_n 0, 1, 18), (18, .iconst 0, 1, 19), (19, .putfield 19, 3, 22), (22, .return_, 1, 23)]
theorem tk_X7_init : Tk mi_X7_init.2.1 tb_X7_init := Tk.of (by decide +kernel)
abbrev mi_X7_isMissing : MI := (⟨"RopesAtDawn$Sheet", "isMissing", "()Z"⟩, prog_9_method_2_code, 1, some (.boolean))
def tb_X7_isMissing : List (Nat × Instr × Nat × Nat) := [(0, .aload_n 0, 1, 1), (1, .getfield 15, 3, 4), (4, .ifCond .ne 7, 3, 7), (7, .iconst 1, 1, 8), (8, .goto 4, 3, 11), (11, .iconst 0, 1, 12), (12, .ireturn, 1, 13)]
theorem tk_X7_isMissing : Tk mi_X7_isMissing.2.1 tb_X7_isMissing := Tk.of (by decide +kernel)
abbrev mi_X7_size : MI := (⟨"RopesAtDawn$Sheet", "size", "()I"⟩, prog_9_method_3_code, 1, some (.int))
def tb_X7_size : List (Nat × Instr × Nat × Nat) := [(0, .aload_n 0, 1, 1), (1, .getfield 19, 3, 4), (4, .ireturn, 1, 5)]
theorem tk_X7_size : Tk mi_X7_size.2.1 tb_X7_size := Tk.of (by decide +kernel)
abbrev mi_X7_become : MI := (⟨"RopesAtDawn$Sheet", "become", "(II)V"⟩, prog_9_method_4_code, 3, none)
def tb_X7_become : List (Nat × Instr × Nat × Nat) := [(0, .aload_n 0, 1, 1), (1, .iload_n 1, 1, 2), (2, .putfield 15, 3, 5), (5, .aload_n 0, 1, 6), (6, .iconst 0, 1, 7), (7, .iload_n 2, 1, 8), (8, .aload_n 0, 1, 9), (9, .getfield 9, 3, 12), (12, .arraylength, 1, 13), (13, .invokestatic 22, 3, 16), (16, .invokestatic 28, 3, 19), (19, .putfield 19, 3, 22), (22, .aload_n 0, 1, 23), (23, .getfield 9, 3, 26), (26, .iconst 0, 1, 27), (27, .invokestatic 31, 3, 30), (30, .return_, 1, 31)]
theorem tk_X7_become : Tk mi_X7_become.2.1 tb_X7_become := Tk.of (by decide +kernel)
abbrev mi_X7_stands : MI := (⟨"RopesAtDawn$Sheet", "stands", "(II)Z"⟩, prog_9_method_5_code, 3, some (.boolean))
def tb_X7_stands : List (Nat × Instr × Nat × Nat) := [(0, .iload_n 1, 1, 1), (1, .ifCond .lt 29, 3, 4), (4, .iload_n 2, 1, 5), (5, .ifCond .lt 25, 3, 8), (8, .iload_n 1, 1, 9), (9, .aload_n 0, 1, 10), (10, .getfield 19, 3, 13), (13, .if_icmp .gt 17, 3, 16), (16, .iload_n 2, 1, 17), (17, .aload_n 0, 1, 18), (18, .getfield 19, 3, 21), (21, .iload_n 1, 1, 22), (22, .isub, 1, 23), (23, .if_icmp .gt 7, 3, 26), (26, .iconst 1, 1, 27), (27, .goto 4, 3, 30), (30, .iconst 0, 1, 31), (31, .ireturn, 1, 32)]
theorem tk_X7_stands : Tk mi_X7_stands.2.1 tb_X7_stands := Tk.of (by decide +kernel)
abbrev mi_X7_at : MI := (⟨"RopesAtDawn$Sheet", "at", "(I)I"⟩, prog_9_method_6_code, 2, some (.int))
def tb_X7_at : List (Nat × Instr × Nat × Nat) := [(0, .iload_n 1, 1, 1), (1, .ifCond .lt 20, 3, 4), (4, .iload_n 1, 1, 5), (5, .aload_n 0, 1, 6), (6, .getfield 19, 3, 9), (9, .if_icmp .ge 12, 3, 12), (12, .aload_n 0, 1, 13), (13, .getfield 9, 3, 16), (16, .iload_n 1, 1, 17), (17, .iaload, 1, 18), (18, .goto 4, 3, 21), (21, .iconst 0, 1, 22), (22, .ireturn, 1, 23)]
theorem tk_X7_at : Tk mi_X7_at.2.1 tb_X7_at := Tk.of (by decide +kernel)
abbrev mi_X7_write : MI := (⟨"RopesAtDawn$Sheet", "write", "(II)V"⟩, prog_9_method_7_code, 3, none)
def tb_X7_write : List (Nat × Instr × Nat × Nat) := [(0, .iload_n 1, 1, 1), (1, .ifCond .lt 46, 3, 4), (4, .iload_n 1, 1, 5), (5, .aload_n 0, 1, 6), (6, .getfield 19, 3, 9), (9, .if_icmp .ge 38, 3, 12), (12, .aload_n 0, 1, 13), (13, .getfield 9, 3, 16), (16, .iload_n 1, 1, 17), (17, .aload_n 0, 1, 18), (18, .getfield 15, 3, 21), (21, .bipush 8, 2, 23), (23, .if_icmp .ne 8, 3, 26), (26, .iload_n 2, 1, 27), (27, .i2b, 1, 28), (28, .goto 18, 3, 31), (31, .aload_n 0, 1, 32), (32, .getfield 15, 3, 35), (35, .bipush 16, 2, 37), (37, .if_icmp .ne 8, 3, 40), (40, .iload_n 2, 1, 41), (41, .i2s, 1, 42), (42, .goto 4, 3, 45), (45, .iload_n 2, 1, 46), (46, .iastore, 1, 47), (47, .return_, 1, 48)]
theorem tk_X7_write : Tk mi_X7_write.2.1 tb_X7_write := Tk.of (by decide +kernel)
abbrev mi_X7_copyFrom : MI := (⟨"RopesAtDawn$Sheet", "copyFrom", "(ILRopesAtDawn$Sheet;II)V"⟩, prog_9_method_8_code, 5, none)
def tb_X7_copyFrom : List (Nat × Instr × Nat × Nat) := [(0, .aload_n 0, 1, 1), (1, .iload_n 1, 1, 2), (2, .iload 4, 2, 4), (4, .invokevirtual 37, 3, 7), (7, .ifCond .eq 28, 3, 10), (10, .aload_n 2, 1, 11), (11, .iload_n 3, 1, 12), (12, .iload 4, 2, 14), (14, .invokevirtual 37, 3, 17), (17, .ifCond .eq 18, 3, 20), (20, .aload_n 2, 1, 21), (21, .getfield 9, 3, 24), (24, .iload_n 3, 1, 25), (25, .aload_n 0, 1, 26), (26, .getfield 9, 3, 29), (29, .iload_n 1, 1, 30), (30, .iload 4, 2, 32), (32, .invokestatic 41, 3, 35), (35, .return_, 1, 36)]
theorem tk_X7_copyFrom : Tk mi_X7_copyFrom.2.1 tb_X7_copyFrom := Tk.of (by decide +kernel)
abbrev mi_X8_init : MI := (⟨"RopesAtDawn$Voices", "<init>", "()V"⟩, prog_10_method_1_code, 1, none)
def tb_X8_init : List (Nat × Instr × Nat × Nat) := [(0, .aload_n 0, 1, 1), (1, .invokespecial 3, 3, 4), (4, .aload_n 0, 1, 5), (5, .new 9, 3, 8), (8, .dup, 1, 9), (9, .bipush 40, 2, 11), (11, .invokespecial 11, 3, 14), (14, .putfield 14, 3, 17), (17, .aload_n 0, 1, 18), (18, .iconst 0, 1, 19), (19, .putfield 20, 3, 22), (22, .aload_n 0, 1, 23), (23, .iconst 0, 1, 24), (24, .putfield 24, 3, 27), (27, .aload_n 0, 1, 28), (28, .iconst 0, 1, 29), (29, .putfield 27, 3, 32), (32, .return_, 1, 33)]
theorem tk_X8_init : Tk mi_X8_init.2.1 tb_X8_init := Tk.of (by decide +kernel)
abbrev mi_X8_speak : MI := (⟨"RopesAtDawn$Voices", "speak", "(LRopesAtDawn$Fours;III)I"⟩, prog_10_method_2_code, 5, some (.int))
def tb_X8_speak : List (Nat × Instr × Nat × Nat) := [(0, .aload_n 0, 1, 1), (1, .aload_n 1, 1, 2), (2, .iload_n 2, 1, 3), (3, .iconst 0, 1, 4), (4, .invokevirtual 30, 3, 7), (7, .putfield 20, 3, 10), (10, .aload_n 0, 1, 11), (11, .iload_n 2, 1, 12), (12, .putfield 24, 3, 15), (15, .aload_n 0, 1, 16), (16, .aload_n 1, 1, 17), (17, .iload_n 2, 1, 18), (18, .iconst 2, 1, 19), (19, .invokevirtual 30, 3, 22), (22, .putfield 27, 3, 25), (25, .aload_n 0, 1, 26), (26, .getfield 14, 3, 29), (29, .invokevirtual 36, 3, 32), (32, .aload_n 0, 1, 33), (33, .aload_n 0, 1, 34), (34, .getfield 20, 3, 37), (37, .iload_n 3, 1, 38), (38, .iload 4, 2, 40), (40, .iconst 0, 1, 41), (41, .invokevirtual 39, 3, 44), (44, .ireturn, 1, 45)]
theorem tk_X8_speak : Tk mi_X8_speak.2.1 tb_X8_speak := Tk.of (by decide +kernel)
abbrev mi_X8_bearerOf : MI := (⟨"RopesAtDawn$Voices", "bearerOf", "(II)I"⟩, prog_10_method_3_code, 4, some (.int))
def tb_X8_bearerOf : List (Nat × Instr × Nat × Nat) := [(0, .iload_n 0, 1, 1), (1, .istore_n 2, 1, 2), (2, .iconst 0, 1, 3), (3, .istore_n 3, 1, 4), (4, .iload_n 3, 1, 5), (5, .bipush 7, 2, 7), (7, .if_icmp .ge 39, 3, 10), (10, .iload_n 2, 1, 11), (11, .iload_n 1, 1, 12), (12, .invokestatic 43, 3, 15), (15, .ifCond .ne 31, 3, 18), (18, .iload_n 2, 1, 19), (19, .ifCond .lt 19, 3, 22), (22, .iload_n 2, 1, 23), (23, .getstatic 46, 3, 26), (26, .arraylength, 1, 27), (27, .if_icmp .ge 11, 3, 30), (30, .getstatic 46, 3, 33), (33, .iload_n 2, 1, 34), (34, .iaload, 1, 35), (35, .goto 4, 3, 38), (38, .iconst 0, 1, 39), (39, .istore_n 2, 1, 40), (40, .iinc 3 1, 3, 43), (43, .goto (-39), 3, 46), (46, .iload_n 2, 1, 47), (47, .ireturn, 1, 48)]
theorem tk_X8_bearerOf : Tk mi_X8_bearerOf.2.1 tb_X8_bearerOf := Tk.of (by decide +kernel)
abbrev mi_X8_bodyOf : MI := (⟨"RopesAtDawn$Voices", "bodyOf", "(II)I"⟩, prog_10_method_4_code, 3, some (.int))
def tb_X8_bodyOf : List (Nat × Instr × Nat × Nat) := [(0, .iload_n 0, 1, 1), (1, .iconst 4, 1, 2), (2, .imul, 1, 3), (3, .iload_n 1, 1, 4), (4, .iadd, 1, 5), (5, .istore_n 2, 1, 6), (6, .iload_n 0, 1, 7), (7, .ifCond .lt 28, 3, 10), (10, .iload_n 1, 1, 11), (11, .ifCond .lt 24, 3, 14), (14, .iload_n 1, 1, 15), (15, .iconst 4, 1, 16), (16, .if_icmp .ge 19, 3, 19), (19, .iload_n 2, 1, 20), (20, .getstatic 50, 3, 23), (23, .arraylength, 1, 24), (24, .if_icmp .ge 11, 3, 27), (27, .getstatic 50, 3, 30), (30, .iload_n 2, 1, 31), (31, .iaload, 1, 32), (32, .goto 4, 3, 35), (35, .iconst 0, 1, 36), (36, .ireturn, 1, 37)]
theorem tk_X8_bodyOf : Tk mi_X8_bodyOf.2.1 tb_X8_bodyOf := Tk.of (by decide +kernel)
abbrev mi_X8_say : MI := (⟨"RopesAtDawn$Voices", "say", "(IIII)I"⟩, prog_10_method_5_code, 9, some (.int))
def tb_X8_say : List (Nat × Instr × Nat × Nat) := [(0, .iload 4, 2, 2), (2, .bipush 30, 2, 4), (4, .if_icmp .le 5, 3, 7), (7, .iconst 0, 1, 8), (8, .ireturn, 1, 9), (9, .iload_n 1, 1, 10), (10, .iload_n 2, 1, 11), (11, .invokestatic 53, 3, 14), (14, .istore 5, 2, 16), (16, .iload 5, 2, 18), (18, .iload_n 2, 1, 19), (19, .invokestatic 43, 3, 22), (22, .istore 6, 2, 24), (24, .iload 5, 2, 26), (26, .ifCond .lt 21, 3, 29), (29, .iload 5, 2, 31), (31, .getstatic 46, 3, 34), (34, .arraylength, 1, 35), (35, .if_icmp .ge 12, 3, 38), (38, .getstatic 46, 3, 41), (41, .iload 5, 2, 43), (43, .iaload, 1, 44), (44, .goto 4, 3, 47), (47, .iconst 0, 1, 48), (48, .istore 7, 2, 50), (50, .iload 4, 2, 52), (52, .iconst 1, 1, 53), (53, .iadd, 1, 54), (54, .istore 8, 2, 56), (56, .aload_n 0, 1, 57), (57, .getfield 14, 3, 60), (60, .iload 6, 2, 62), (62, .invokevirtual 56, 3, 65), (65, .iload 6, 2, 67), (67, .lookupswitch 291 #[(10, 105), (11, 112), (12, 127), (13, 134), (20, 160), (30, 184), (40, 197), (41, 209), (50, 222), (60, 246), (61, 262), (71, 275)], 105, 172), (172, .iload_n 3, 1, 173), (173, .aload_n 0, 1, 174), (174, .getfield 24, 3, 177), (177, .iadd, 1, 178), (178, .ireturn, 1, 179), (179, .aload_n 0, 1, 180), (180, .aload_n 0, 1, 181), (181, .getfield 20, 3, 184), (184, .iconst 0, 1, 185), (185, .iload_n 3, 1, 186), (186, .iload 8, 2, 188), (188, .invokevirtual 39, 3, 191), (191, .iconst 2, 1, 192), (192, .imul, 1, 193), (193, .ireturn, 1, 194), (194, .iload_n 3, 1, 195), (195, .aload_n 0, 1, 196), (196, .getfield 27, 3, 199), (199, .isub, 1, 200), (200, .ireturn, 1, 201), (201, .aload_n 0, 1, 202), (202, .aload_n 0, 1, 203), (203, .getfield 20, 3, 206), (206, .iconst 1, 1, 207), (207, .iload_n 3, 1, 208), (208, .iload 8, 2, 210), (210, .invokevirtual 39, 3, 213), (213, .aload_n 0, 1, 214), (214, .aload_n 0, 1, 215), (215, .getfield 20, 3, 218), (218, .iconst 2, 1, 219), (219, .iload_n 3, 1, 220), (220, .iload 8, 2, 222), (222, .invokevirtual 39, 3, 225), (225, .ixor, 1, 226), (226, .ireturn, 1, 227), (227, .aload_n 0, 1, 228), (228, .iload 7, 2, 230), (230, .iconst 1, 1, 231), (231, .iload_n 3, 1, 232), (232, .iload 8, 2, 234), (234, .invokevirtual 39, 3, 237), (237, .aload_n 0, 1, 238), (238, .aload_n 0, 1, 239), (239, .getfield 20, 3, 242), (242, .iconst 2, 1, 243), (243, .iconst 1, 1, 244), (244, .iload 8, 2, 246), (246, .invokevirtual 39, 3, 249), (249, .isub, 1, 250), (250, .ireturn, 1, 251), (251, .aload_n 0, 1, 252), (252, .iload 7, 2, 254), (254, .iconst 0, 1, 255), (255, .iload_n 3, 1, 256), (256, .iload 8, 2, 258), (258, .invokevirtual 39, 3, 261), (261, .iconst 3, 1, 262), (262, .imul, 1, 263), (263, .ireturn, 1, 264), (264, .aload_n 0, 1, 265), (265, .iload 7, 2, 267), (267, .iconst 2, 1, 268), (268, .iload_n 3, 1, 269), (269, .iload 8, 2, 271), (271, .invokevirtual 39, 3, 274), (274, .ineg, 1, 275), (275, .ireturn, 1, 276), (276, .aload_n 0, 1, 277), (277, .iload 7, 2, 279), (279, .iconst 0, 1, 280), (280, .iload_n 3, 1, 281), (281, .iconst 1, 1, 282), (282, .iadd, 1, 283), (283, .iload 8, 2, 285), (285, .invokevirtual 39, 3, 288), (288, .ireturn, 1, 289), (289, .aload_n 0, 1, 290), (290, .iload 7, 2, 292), (292, .iconst 3, 1, 293), (293, .iload_n 3, 1, 294), (294, .iload 8, 2, 296), (296, .invokevirtual 39, 3, 299), (299, .aload_n 0, 1, 300), (300, .aload_n 0, 1, 301), (301, .getfield 20, 3, 304), (304, .iconst 0, 1, 305), (305, .iconst 2, 1, 306), (306, .iload 8, 2, 308), (308, .invokevirtual 39, 3, 311), (311, .isub, 1, 312), (312, .ireturn, 1, 313), (313, .aload_n 0, 1, 314), (314, .iload 7, 2, 316), (316, .iconst 0, 1, 317), (317, .iload_n 3, 1, 318), (318, .iload 8, 2, 320), (320, .invokevirtual 39, 3, 323), (323, .aload_n 0, 1, 324), (324, .getfield 24, 3, 327), (327, .ixor, 1, 328), (328, .ireturn, 1, 329), (329, .aload_n 0, 1, 330), (330, .iload 7, 2, 332), (332, .iconst 3, 1, 333), (333, .iload_n 3, 1, 334), (334, .iload 8, 2, 336), (336, .invokevirtual 39, 3, 339), (339, .iconst 5, 1, 340), (340, .imul, 1, 341), (341, .ireturn, 1, 342), (342, .aload_n 0, 1, 343), (343, .iload 7, 2, 345), (345, .iconst 2, 1, 346), (346, .iload_n 3, 1, 347), (347, .iload 8, 2, 349), (349, .invokevirtual 39, 3, 352), (352, .aload_n 0, 1, 353), (353, .getfield 24, 3, 356), (356, .iadd, 1, 357), (357, .ireturn, 1, 358), (358, .iconst 0, 1, 359), (359, .ireturn, 1, 360)]
theorem tk_X8_say : Tk mi_X8_say.2.1 tb_X8_say := Tk.of (by decide +kernel)
abbrev mi_X9_init : MI := (⟨"RopesAtDawn", "<init>", "()V"⟩, prog_1_method_1_code, 2, none)
def tb_X9_init : List (Nat × Instr × Nat × Nat) := [(0, .aload_n 0, 1, 1), (1, .invokespecial 3, 3, 4), (4, .aload_n 0, 1, 5), (5, .new 9, 3, 8), (8, .dup, 1, 9), (9, .invokespecial 11, 3, 12), (12, .putfield 12, 3, 15), (15, .aload_n 0, 1, 16), (16, .new 16, 3, 19), (19, .dup, 1, 20), (20, .invokespecial 18, 3, 23), (23, .putfield 19, 3, 26), (26, .aload_n 0, 1, 27), (27, .new 23, 3, 30), (30, .dup, 1, 31), (31, .invokespecial 25, 3, 34), (34, .putfield 26, 3, 37), (37, .aload_n 0, 1, 38), (38, .new 30, 3, 41), (41, .dup, 1, 42), (42, .invokespecial 32, 3, 45), (45, .putfield 33, 3, 48), (48, .aload_n 0, 1, 49), (49, .new 37, 3, 52), (52, .dup, 1, 53), (53, .invokespecial 39, 3, 56), (56, .putfield 40, 3, 59), (59, .aload_n 0, 1, 60), (60, .iconst 4, 1, 61), (61, .anewarray 44, 3, 64), (64, .putfield 46, 3, 67), (67, .aload_n 0, 1, 68), (68, .bipush 6, 2, 70), (70, .newarray .int, 2, 72), (72, .putfield 50, 3, 75), (75, .aload_n 0, 1, 76), (76, .aconst_null, 1, 77), (77, .putfield 54, 3, 80), (80, .aload_n 0, 1, 81), (81, .iconst 0, 1, 82), (82, .putfield 57, 3, 85), (85, .iconst 0, 1, 86), (86, .istore_n 1, 1, 87), (87, .iload_n 1, 1, 88), (88, .aload_n 0, 1, 89), (89, .getfield 46, 3, 92), (92, .arraylength, 1, 93), (93, .if_icmp .ge 22, 3, 96), (96, .aload_n 0, 1, 97), (97, .getfield 46, 3, 100), (100, .iload_n 1, 1, 101), (101, .new 44, 3, 104), (104, .dup, 1, 105), (105, .invokespecial 61, 3, 108), (108, .aastore, 1, 109), (109, .iinc 1 1, 3, 112), (112, .goto (-25), 3, 115), (115, .return_, 1, 116)]
theorem tk_X9_init : Tk mi_X9_init.2.1 tb_X9_init := Tk.of (by decide +kernel)
abbrev mi_X9_person : MI := (⟨"RopesAtDawn", "person", "(IIII)I"⟩, prog_1_method_2_code, 5, some (.int))
def tb_X9_person : List (Nat × Instr × Nat × Nat) := [(0, .aload_n 0, 1, 1), (1, .aload_n 0, 1, 2), (2, .getfield 12, 3, 5), (5, .getfield 62, 3, 8), (8, .iload_n 1, 1, 9), (9, .iload_n 2, 1, 10), (10, .iload_n 3, 1, 11), (11, .iload 4, 2, 13), (13, .invokevirtual 66, 3, 16), (16, .ireturn, 1, 17)]
theorem tk_X9_person : Tk mi_X9_person.2.1 tb_X9_person := Tk.of (by decide +kernel)
abbrev mi_X9_ofPerson : MI := (⟨"RopesAtDawn", "ofPerson", "(II)I"⟩, prog_1_method_3_code, 3, some (.int))
def tb_X9_ofPerson : List (Nat × Instr × Nat × Nat) := [(0, .aload_n 0, 1, 1), (1, .getfield 12, 3, 4), (4, .getfield 62, 3, 7), (7, .iload_n 1, 1, 8), (8, .invokevirtual 70, 3, 11), (11, .ifCond .eq 12, 3, 14), (14, .iload_n 2, 1, 15), (15, .ifCond .lt 8, 3, 18), (18, .iload_n 2, 1, 19), (19, .iconst 5, 1, 20), (20, .if_icmp .le 10, 3, 23), (23, .aload_n 0, 1, 24), (24, .ldc 76, 2, 26), (26, .invokevirtual 77, 3, 29), (29, .ireturn, 1, 30), (30, .iload_n 2, 1, 31), (31, .iconst 4, 1, 32), (32, .if_icmp .ge 16, 3, 35), (35, .aload_n 0, 1, 36), (36, .getfield 12, 3, 39), (39, .getfield 62, 3, 42), (42, .iload_n 1, 1, 43), (43, .iload_n 2, 1, 44), (44, .invokevirtual 81, 3, 47), (47, .ireturn, 1, 48), (48, .iload_n 2, 1, 49), (49, .iconst 4, 1, 50), (50, .if_icmp .ne 14, 3, 53), (53, .aload_n 0, 1, 54), (54, .getfield 12, 3, 57), (57, .iload_n 1, 1, 58), (58, .invokevirtual 85, 3, 61), (61, .goto 11, 3, 64), (64, .aload_n 0, 1, 65), (65, .getfield 12, 3, 68), (68, .iload_n 1, 1, 69), (69, .invokevirtual 88, 3, 72), (72, .ireturn, 1, 73)]
theorem tk_X9_ofPerson : Tk mi_X9_ofPerson.2.1 tb_X9_ofPerson := Tk.of (by decide +kernel)
abbrev mi_X9_people : MI := (⟨"RopesAtDawn", "people", "(I)I"⟩, prog_1_method_4_code, 9, some (.int))
def tb_X9_people : List (Nat × Instr × Nat × Nat) := [(0, .aload_n 0, 1, 1), (1, .iload_n 1, 1, 2), (2, .invokevirtual 91, 3, 5), (5, .astore_n 2, 1, 6), (6, .aload_n 2, 1, 7), (7, .ifnonnull 10, 3, 10), (10, .aload_n 0, 1, 11), (11, .ldc 76, 2, 13), (13, .invokevirtual 77, 3, 16), (16, .ireturn, 1, 17), (17, .aload_n 2, 1, 18), (18, .invokevirtual 95, 3, 21), (21, .ifCond .eq 10, 3, 24), (24, .aload_n 0, 1, 25), (25, .ldc 99, 2, 27), (27, .invokevirtual 77, 3, 30), (30, .ireturn, 1, 31), (31, .iconst 0, 1, 32), (32, .istore_n 3, 1, 33), (33, .iconst 0, 1, 34), (34, .istore 4, 2, 36), (36, .iload 4, 2, 38), (38, .iconst 4, 1, 39), (39, .iadd, 1, 40), (40, .aload_n 2, 1, 41), (41, .invokevirtual 100, 3, 44), (44, .if_icmp .gt 105, 3, 47), (47, .aload_n 2, 1, 48), (48, .iload 4, 2, 50), (50, .invokevirtual 104, 3, 53), (53, .istore 5, 2, 55), (55, .aload_n 2, 1, 56), (56, .iload 4, 2, 58), (58, .iconst 1, 1, 59), (59, .iadd, 1, 60), (60, .invokevirtual 104, 3, 63), (63, .istore 6, 2, 65), (65, .aload_n 2, 1, 66), (66, .iload 4, 2, 68), (68, .iconst 2, 1, 69), (69, .iadd, 1, 70), (70, .invokevirtual 104, 3, 73), (73, .istore 7, 2, 75), (75, .aload_n 2, 1, 76), (76, .iload 4, 2, 78), (78, .iconst 3, 1, 79), (79, .iadd, 1, 80), (80, .invokevirtual 104, 3, 83), (83, .istore 8, 2, 85), (85, .aload_n 0, 1, 86), (86, .getfield 12, 3, 89), (89, .getfield 62, 3, 92), (92, .invokevirtual 107, 3, 95), (95, .ifCond .ne 54, 3, 98), (98, .aload_n 0, 1, 99), (99, .getfield 12, 3, 102), (102, .getfield 62, 3, 105), (105, .iload 5, 2, 107), (107, .iload 6, 2, 109), (109, .iload 7, 2, 111), (111, .iload 8, 2, 113), (113, .invokevirtual 110, 3, 116), (116, .ifCond .ne 6, 3, 119), (119, .goto 30, 3, 122), (122, .aload_n 0, 1, 123), (123, .getfield 12, 3, 126), (126, .getfield 62, 3, 129), (129, .iload 5, 2, 131), (131, .iload 6, 2, 133), (133, .iload 7, 2, 135), (135, .iload 8, 2, 137), (137, .invokevirtual 114, 3, 140), (140, .iinc 3 1, 3, 143), (143, .iinc 4 4, 3, 146), (146, .goto (-110), 3, 149), (149, .iload_n 3, 1, 150), (150, .ireturn, 1, 151)]
theorem tk_X9_people : Tk mi_X9_people.2.1 tb_X9_people := Tk.of (by decide +kernel)
abbrev mi_X9_piece : MI := (⟨"RopesAtDawn", "piece", "(IIII)I"⟩, prog_1_method_5_code, 5, some (.int))
def tb_X9_piece : List (Nat × Instr × Nat × Nat) := [(0, .aload_n 0, 1, 1), (1, .aload_n 0, 1, 2), (2, .getfield 12, 3, 5), (5, .getfield 118, 3, 8), (8, .iload_n 1, 1, 9), (9, .iload_n 2, 1, 10), (10, .iload_n 3, 1, 11), (11, .iload 4, 2, 13), (13, .invokevirtual 66, 3, 16), (16, .ireturn, 1, 17)]
theorem tk_X9_piece : Tk mi_X9_piece.2.1 tb_X9_piece := Tk.of (by decide +kernel)
abbrev mi_X9_ofPiece : MI := (⟨"RopesAtDawn", "ofPiece", "(II)I"⟩, prog_1_method_6_code, 3, some (.int))
def tb_X9_ofPiece : List (Nat × Instr × Nat × Nat) := [(0, .aload_n 0, 1, 1), (1, .getfield 12, 3, 4), (4, .getfield 118, 3, 7), (7, .iload_n 1, 1, 8), (8, .invokevirtual 70, 3, 11), (11, .ifCond .eq 12, 3, 14), (14, .iload_n 2, 1, 15), (15, .ifCond .lt 8, 3, 18), (18, .iload_n 2, 1, 19), (19, .iconst 4, 1, 20), (20, .if_icmp .lt 10, 3, 23), (23, .aload_n 0, 1, 24), (24, .ldc 76, 2, 26), (26, .invokevirtual 77, 3, 29), (29, .ireturn, 1, 30), (30, .aload_n 0, 1, 31), (31, .getfield 12, 3, 34), (34, .getfield 118, 3, 37), (37, .iload_n 1, 1, 38), (38, .iload_n 2, 1, 39), (39, .invokevirtual 81, 3, 42), (42, .ireturn, 1, 43)]
theorem tk_X9_ofPiece : Tk mi_X9_ofPiece.2.1 tb_X9_ofPiece := Tk.of (by decide +kernel)
abbrev mi_X9_start : MI := (⟨"RopesAtDawn", "start", "(I)I"⟩, prog_1_method_7_code, 3, some (.int))
def tb_X9_start : List (Nat × Instr × Nat × Nat) := [(0, .iload_n 1, 1, 1), (1, .invokestatic 121, 3, 4), (4, .ifCond .ne 10, 3, 7), (7, .aload_n 0, 1, 8), (8, .ldc 76, 2, 10), (10, .invokevirtual 77, 3, 13), (13, .ireturn, 1, 14), (14, .aload_n 0, 1, 15), (15, .getfield 12, 3, 18), (18, .getfield 124, 3, 21), (21, .istore_n 2, 1, 22), (22, .aload_n 0, 1, 23), (23, .getfield 12, 3, 26), (26, .iload_n 1, 1, 27), (27, .putfield 124, 3, 30), (30, .iload_n 2, 1, 31), (31, .ireturn, 1, 32)]
theorem tk_X9_start : Tk mi_X9_start.2.1 tb_X9_start := Tk.of (by decide +kernel)
abbrev mi_X9_rope : MI := (⟨"RopesAtDawn", "rope", "(III)I"⟩, prog_1_method_8_code, 4, some (.int))
def tb_X9_rope : List (Nat × Instr × Nat × Nat) := [(0, .aload_n 0, 1, 1), (1, .aload_n 0, 1, 2), (2, .getfield 12, 3, 5), (5, .getfield 127, 3, 8), (8, .iload_n 1, 1, 9), (9, .iload_n 2, 1, 10), (10, .iload_n 3, 1, 11), (11, .iconst 0, 1, 12), (12, .invokevirtual 66, 3, 15), (15, .ireturn, 1, 16)]
theorem tk_X9_rope : Tk mi_X9_rope.2.1 tb_X9_rope := Tk.of (by decide +kernel)
abbrev mi_X9_tie : MI := (⟨"RopesAtDawn", "tie", "(II)I"⟩, prog_1_method_9_code, 4, some (.int))
def tb_X9_tie : List (Nat × Instr × Nat × Nat) := [(0, .aload_n 0, 1, 1), (1, .getfield 12, 3, 4), (4, .getfield 127, 3, 7), (7, .iload_n 1, 1, 8), (8, .invokevirtual 70, 3, 11), (11, .ifCond .eq 17, 3, 14), (14, .aload_n 0, 1, 15), (15, .getfield 12, 3, 18), (18, .getfield 62, 3, 21), (21, .iload_n 2, 1, 22), (22, .invokevirtual 70, 3, 25), (25, .ifCond .ne 10, 3, 28), (28, .aload_n 0, 1, 29), (29, .ldc 76, 2, 31), (31, .invokevirtual 77, 3, 34), (34, .ireturn, 1, 35), (35, .aload_n 0, 1, 36), (36, .getfield 12, 3, 39), (39, .iload_n 2, 1, 40), (40, .invokevirtual 85, 3, 43), (43, .ifCond .lt 10, 3, 46), (46, .aload_n 0, 1, 47), (47, .ldc 130, 2, 49), (49, .invokevirtual 77, 3, 52), (52, .ireturn, 1, 53), (53, .aload_n 0, 1, 54), (54, .getfield 12, 3, 57), (57, .iload_n 1, 1, 58), (58, .invokevirtual 131, 3, 61), (61, .astore_n 3, 1, 62), (62, .aload_n 3, 1, 63), (63, .invokevirtual 135, 3, 66), (66, .ifCond .eq 10, 3, 69), (69, .aload_n 0, 1, 70), (70, .ldc 138, 2, 72), (72, .invokevirtual 77, 3, 75), (75, .ireturn, 1, 76), (76, .aload_n 3, 1, 77), (77, .iload_n 2, 1, 78), (78, .invokevirtual 139, 3, 81), (81, .aload_n 3, 1, 82), (82, .invokevirtual 142, 3, 85), (85, .iconst 1, 1, 86), (86, .isub, 1, 87), (87, .ireturn, 1, 88)]
theorem tk_X9_tie : Tk mi_X9_tie.2.1 tb_X9_tie := Tk.of (by decide +kernel)
abbrev mi_X9_untie : MI := (⟨"RopesAtDawn", "untie", "(I)I"⟩, prog_1_method_10_code, 3, some (.int))
def tb_X9_untie : List (Nat × Instr × Nat × Nat) := [(0, .aload_n 0, 1, 1), (1, .getfield 12, 3, 4), (4, .getfield 62, 3, 7), (7, .iload_n 1, 1, 8), (8, .invokevirtual 70, 3, 11), (11, .ifCond .ne 10, 3, 14), (14, .aload_n 0, 1, 15), (15, .ldc 76, 2, 17), (17, .invokevirtual 77, 3, 20), (20, .ireturn, 1, 21), (21, .aload_n 0, 1, 22), (22, .getfield 12, 3, 25), (25, .iload_n 1, 1, 26), (26, .invokevirtual 85, 3, 29), (29, .istore_n 2, 1, 30), (30, .iload_n 2, 1, 31), (31, .ifCond .ge 10, 3, 34), (34, .aload_n 0, 1, 35), (35, .ldc 99, 2, 37), (37, .invokevirtual 77, 3, 40), (40, .ireturn, 1, 41), (41, .aload_n 0, 1, 42), (42, .getfield 12, 3, 45), (45, .iload_n 2, 1, 46), (46, .invokevirtual 131, 3, 49), (49, .aload_n 0, 1, 50), (50, .getfield 12, 3, 53), (53, .iload_n 1, 1, 54), (54, .invokevirtual 88, 3, 57), (57, .invokevirtual 143, 3, 60), (60, .iload_n 2, 1, 61), (61, .ireturn, 1, 62)]
theorem tk_X9_untie : Tk mi_X9_untie.2.1 tb_X9_untie := Tk.of (by decide +kernel)
abbrev mi_X9_ofRope : MI := (⟨"RopesAtDawn", "ofRope", "(II)I"⟩, prog_1_method_11_code, 3, some (.int))
def tb_X9_ofRope : List (Nat × Instr × Nat × Nat) := [(0, .aload_n 0, 1, 1), (1, .getfield 12, 3, 4), (4, .getfield 127, 3, 7), (7, .iload_n 1, 1, 8), (8, .invokevirtual 70, 3, 11), (11, .ifCond .eq 13, 3, 14), (14, .iload_n 2, 1, 15), (15, .ifCond .lt 9, 3, 18), (18, .iload_n 2, 1, 19), (19, .bipush 10, 2, 21), (21, .if_icmp .lt 10, 3, 24), (24, .aload_n 0, 1, 25), (25, .ldc 76, 2, 27), (27, .invokevirtual 77, 3, 30), (30, .ireturn, 1, 31), (31, .iload_n 2, 1, 32), (32, .iconst 3, 1, 33), (33, .if_icmp .ge 16, 3, 36), (36, .aload_n 0, 1, 37), (37, .getfield 12, 3, 40), (40, .getfield 127, 3, 43), (43, .iload_n 1, 1, 44), (44, .iload_n 2, 1, 45), (45, .invokevirtual 81, 3, 48), (48, .ireturn, 1, 49), (49, .iload_n 2, 1, 50), (50, .iconst 3, 1, 51), (51, .if_icmp .ne 15, 3, 54), (54, .aload_n 0, 1, 55), (55, .getfield 12, 3, 58), (58, .iload_n 1, 1, 59), (59, .invokevirtual 131, 3, 62), (62, .invokevirtual 142, 3, 65), (65, .ireturn, 1, 66), (66, .iload_n 2, 1, 67), (67, .iconst 4, 1, 68), (68, .if_icmp .ne 15, 3, 71), (71, .aload_n 0, 1, 72), (72, .getfield 12, 3, 75), (75, .getfield 146, 3, 78), (78, .iload_n 1, 1, 79), (79, .invokevirtual 150, 3, 82), (82, .ireturn, 1, 83), (83, .aload_n 0, 1, 84), (84, .getfield 12, 3, 87), (87, .iload_n 1, 1, 88), (88, .invokevirtual 131, 3, 91), (91, .iload_n 2, 1, 92), (92, .iconst 5, 1, 93), (93, .isub, 1, 94), (94, .invokevirtual 151, 3, 97), (97, .ireturn, 1, 98)]
theorem tk_X9_ofRope : Tk mi_X9_ofRope.2.1 tb_X9_ofRope := Tk.of (by decide +kernel)
abbrev mi_X9_as : MI := (⟨"RopesAtDawn", "as", "(II)I"⟩, prog_1_method_12_code, 3, some (.int))
def tb_X9_as : List (Nat × Instr × Nat × Nat) := [(0, .aload_n 0, 1, 1), (1, .getfield 12, 3, 4), (4, .getfield 127, 3, 7), (7, .iload_n 1, 1, 8), (8, .invokevirtual 70, 3, 11), (11, .ifCond .eq 13, 3, 14), (14, .iload_n 2, 1, 15), (15, .ifCond .lt 9, 3, 18), (18, .iload_n 2, 1, 19), (19, .bipush 7, 2, 21), (21, .if_icmp .lt 10, 3, 24), (24, .aload_n 0, 1, 25), (25, .ldc 76, 2, 27), (27, .invokevirtual 77, 3, 30), (30, .ireturn, 1, 31), (31, .aload_n 0, 1, 32), (32, .getfield 12, 3, 35), (35, .getfield 127, 3, 38), (38, .iload_n 1, 1, 39), (39, .iconst 0, 1, 40), (40, .invokevirtual 81, 3, 43), (43, .iload_n 2, 1, 44), (44, .invokestatic 152, 3, 47), (47, .ifCond .ne 10, 3, 50), (50, .aload_n 0, 1, 51), (51, .ldc 156, 2, 53), (53, .invokevirtual 77, 3, 56), (56, .ireturn, 1, 57), (57, .aload_n 0, 1, 58), (58, .getfield 12, 3, 61), (61, .getfield 127, 3, 64), (64, .iload_n 1, 1, 65), (65, .iconst 2, 1, 66), (66, .invokevirtual 81, 3, 69), (69, .ireturn, 1, 70)]
theorem tk_X9_as : Tk mi_X9_as.2.1 tb_X9_as := Tk.of (by decide +kernel)
abbrev mi_X9_set : MI := (⟨"RopesAtDawn", "set", "(III)I"⟩, prog_1_method_13_code, 6, some (.int))
def tb_X9_set : List (Nat × Instr × Nat × Nat) := [(0, .aload_n 0, 1, 1), (1, .getfield 12, 3, 4), (4, .getfield 127, 3, 7), (7, .iload_n 1, 1, 8), (8, .invokevirtual 70, 3, 11), (11, .ifCond .eq 12, 3, 14), (14, .iload_n 2, 1, 15), (15, .ifCond .lt 8, 3, 18), (18, .iload_n 2, 1, 19), (19, .iconst 1, 1, 20), (20, .if_icmp .le 10, 3, 23), (23, .aload_n 0, 1, 24), (24, .ldc 76, 2, 26), (26, .invokevirtual 77, 3, 29), (29, .ireturn, 1, 30), (30, .iload_n 2, 1, 31), (31, .ifCond .ne 7, 3, 34), (34, .iconst 1, 1, 35), (35, .goto 4, 3, 38), (38, .iconst 2, 1, 39), (39, .istore 4, 2, 41), (41, .aload_n 0, 1, 42), (42, .getfield 12, 3, 45), (45, .getfield 127, 3, 48), (48, .iload 4, 2, 50), (50, .iload_n 3, 1, 51), (51, .invokevirtual 157, 3, 54), (54, .ifCond .ne 10, 3, 57), (57, .aload_n 0, 1, 58), (58, .ldc 76, 2, 60), (60, .invokevirtual 77, 3, 63), (63, .ireturn, 1, 64), (64, .aload_n 0, 1, 65), (65, .getfield 12, 3, 68), (68, .getfield 127, 3, 71), (71, .iload_n 1, 1, 72), (72, .iload 4, 2, 74), (74, .invokevirtual 81, 3, 77), (77, .istore 5, 2, 79), (79, .aload_n 0, 1, 80), (80, .getfield 12, 3, 83), (83, .getfield 127, 3, 86), (86, .iload_n 1, 1, 87), (87, .iload 4, 2, 89), (89, .iload_n 3, 1, 90), (90, .invokevirtual 160, 3, 93), (93, .iload 5, 2, 95), (95, .ireturn, 1, 96)]
theorem tk_X9_set : Tk mi_X9_set.2.1 tb_X9_set := Tk.of (by decide +kernel)
abbrev mi_X9_swap : MI := (⟨"RopesAtDawn", "swap", "(II)I"⟩, prog_1_method_14_code, 7, some (.int))
def tb_X9_swap : List (Nat × Instr × Nat × Nat) := [(0, .aload_n 0, 1, 1), (1, .getfield 12, 3, 4), (4, .getfield 62, 3, 7), (7, .iload_n 1, 1, 8), (8, .invokevirtual 70, 3, 11), (11, .ifCond .eq 22, 3, 14), (14, .aload_n 0, 1, 15), (15, .getfield 12, 3, 18), (18, .getfield 62, 3, 21), (21, .iload_n 2, 1, 22), (22, .invokevirtual 70, 3, 25), (25, .ifCond .eq 8, 3, 28), (28, .iload_n 1, 1, 29), (29, .iload_n 2, 1, 30), (30, .if_icmp .ne 10, 3, 33), (33, .aload_n 0, 1, 34), (34, .ldc 76, 2, 36), (36, .invokevirtual 77, 3, 39), (39, .ireturn, 1, 40), (40, .aload_n 0, 1, 41), (41, .getfield 12, 3, 44), (44, .iload_n 1, 1, 45), (45, .invokevirtual 85, 3, 48), (48, .istore_n 3, 1, 49), (49, .aload_n 0, 1, 50), (50, .getfield 12, 3, 53), (53, .iload_n 2, 1, 54), (54, .invokevirtual 85, 3, 57), (57, .istore 4, 2, 59), (59, .iload_n 3, 1, 60), (60, .ifCond .lt 8, 3, 63), (63, .iload 4, 2, 65), (65, .ifCond .ge 10, 3, 68), (68, .aload_n 0, 1, 69), (69, .ldc 99, 2, 71), (71, .invokevirtual 77, 3, 74), (74, .ireturn, 1, 75), (75, .aload_n 0, 1, 76), (76, .getfield 12, 3, 79), (79, .iload_n 1, 1, 80), (80, .invokevirtual 88, 3, 83), (83, .istore 5, 2, 85), (85, .aload_n 0, 1, 86), (86, .getfield 12, 3, 89), (89, .iload_n 2, 1, 90), (90, .invokevirtual 88, 3, 93), (93, .istore 6, 2, 95), (95, .aload_n 0, 1, 96), (96, .getfield 12, 3, 99), (99, .iload_n 3, 1, 100), (100, .invokevirtual 131, 3, 103), (103, .iload 5, 2, 105), (105, .iload_n 2, 1, 106), (106, .invokevirtual 164, 3, 109), (109, .aload_n 0, 1, 110), (110, .getfield 12, 3, 113), (113, .iload 4, 2, 115), (115, .invokevirtual 131, 3, 118), (118, .iload 6, 2, 120), (120, .iload_n 1, 1, 121), (121, .invokevirtual 164, 3, 124), (124, .iconst 1, 1, 125), (125, .ireturn, 1, 126)]
theorem tk_X9_swap : Tk mi_X9_swap.2.1 tb_X9_swap := Tk.of (by decide +kernel)
abbrev mi_X9_hold : MI := (⟨"RopesAtDawn", "hold", "(I)I"⟩, prog_1_method_15_code, 3, some (.int))
def tb_X9_hold : List (Nat × Instr × Nat × Nat) := [(0, .aload_n 0, 1, 1), (1, .getfield 12, 3, 4), (4, .getfield 62, 3, 7), (7, .iload_n 1, 1, 8), (8, .invokevirtual 70, 3, 11), (11, .ifCond .ne 10, 3, 14), (14, .aload_n 0, 1, 15), (15, .ldc 76, 2, 17), (17, .invokevirtual 77, 3, 20), (20, .ireturn, 1, 21), (21, .aload_n 0, 1, 22), (22, .getfield 12, 3, 25), (25, .iload_n 1, 1, 26), (26, .invokevirtual 85, 3, 29), (29, .istore_n 2, 1, 30), (30, .iload_n 2, 1, 31), (31, .ifCond .ge 10, 3, 34), (34, .aload_n 0, 1, 35), (35, .ldc 99, 2, 37), (37, .invokevirtual 77, 3, 40), (40, .ireturn, 1, 41), (41, .aload_n 0, 1, 42), (42, .getfield 12, 3, 45), (45, .iload_n 2, 1, 46), (46, .aload_n 0, 1, 47), (47, .getfield 12, 3, 50), (50, .iload_n 1, 1, 51), (51, .invokevirtual 88, 3, 54), (54, .invokevirtual 167, 3, 57), (57, .ireturn, 1, 58)]
theorem tk_X9_hold : Tk mi_X9_hold.2.1 tb_X9_hold := Tk.of (by decide +kernel)
abbrev mi_X9_held : MI := (⟨"RopesAtDawn", "held", "(II)I"⟩, prog_1_method_16_code, 4, some (.int))
def tb_X9_held : List (Nat × Instr × Nat × Nat) := [(0, .aload_n 0, 1, 1), (1, .iload_n 1, 1, 2), (2, .iload_n 2, 1, 3), (3, .invokevirtual 170, 3, 6), (6, .istore_n 3, 1, 7), (7, .iload_n 3, 1, 8), (8, .ifCond .ge 9, 3, 11), (11, .aload_n 0, 1, 12), (12, .iload_n 3, 1, 13), (13, .invokevirtual 77, 3, 16), (16, .ireturn, 1, 17), (17, .aload_n 0, 1, 18), (18, .getfield 12, 3, 21), (21, .aload_n 0, 1, 22), (22, .getfield 12, 3, 25), (25, .iload_n 1, 1, 26), (26, .invokevirtual 85, 3, 29), (29, .aload_n 0, 1, 30), (30, .getfield 12, 3, 33), (33, .iload_n 1, 1, 34), (34, .invokevirtual 88, 3, 37), (37, .iload_n 2, 1, 38), (38, .invokevirtual 173, 3, 41), (41, .ifCond .eq 7, 3, 44), (44, .iconst 1, 1, 45), (45, .goto 4, 3, 48), (48, .iconst 0, 1, 49), (49, .ireturn, 1, 50)]
theorem tk_X9_held : Tk mi_X9_held.2.1 tb_X9_held := Tk.of (by decide +kernel)
abbrev mi_X9_cost : MI := (⟨"RopesAtDawn", "cost", "(II)I"⟩, prog_1_method_17_code, 5, some (.int))
def tb_X9_cost : List (Nat × Instr × Nat × Nat) := [(0, .aload_n 0, 1, 1), (1, .iload_n 1, 1, 2), (2, .iload_n 2, 1, 3), (3, .invokevirtual 170, 3, 6), (6, .istore_n 3, 1, 7), (7, .iload_n 3, 1, 8), (8, .ifCond .ge 9, 3, 11), (11, .aload_n 0, 1, 12), (12, .iload_n 3, 1, 13), (13, .invokevirtual 77, 3, 16), (16, .ireturn, 1, 17), (17, .aload_n 0, 1, 18), (18, .getfield 12, 3, 21), (21, .iload_n 1, 1, 22), (22, .invokevirtual 85, 3, 25), (25, .istore 4, 2, 27), (27, .aload_n 0, 1, 28), (28, .getfield 12, 3, 31), (31, .iload 4, 2, 33), (33, .aload_n 0, 1, 34), (34, .getfield 12, 3, 37), (37, .iload_n 1, 1, 38), (38, .invokevirtual 88, 3, 41), (41, .iload_n 2, 1, 42), (42, .invokevirtual 173, 3, 45), (45, .ifCond .eq 7, 3, 48), (48, .iconst 0, 1, 49), (49, .goto 12, 3, 52), (52, .aload_n 0, 1, 53), (53, .getfield 12, 3, 56), (56, .iload 4, 2, 58), (58, .invokevirtual 177, 3, 61), (61, .ireturn, 1, 62)]
theorem tk_X9_cost : Tk mi_X9_cost.2.1 tb_X9_cost := Tk.of (by decide +kernel)
abbrev mi_X9_haul : MI := (⟨"RopesAtDawn", "haul", "(II)I"⟩, prog_1_method_18_code, 8, some (.int))
def tb_X9_haul : List (Nat × Instr × Nat × Nat) := [(0, .aload_n 0, 1, 1), (1, .iload_n 1, 1, 2), (2, .iload_n 2, 1, 3), (3, .invokevirtual 170, 3, 6), (6, .istore_n 3, 1, 7), (7, .iload_n 3, 1, 8), (8, .ifCond .ge 9, 3, 11), (11, .aload_n 0, 1, 12), (12, .iload_n 3, 1, 13), (13, .invokevirtual 77, 3, 16), (16, .ireturn, 1, 17), (17, .aload_n 0, 1, 18), (18, .getfield 12, 3, 21), (21, .aload_n 0, 1, 22), (22, .getfield 12, 3, 25), (25, .iload_n 1, 1, 26), (26, .invokevirtual 85, 3, 29), (29, .invokevirtual 131, 3, 32), (32, .astore 4, 2, 34), (34, .iconst 0, 1, 35), (35, .istore 5, 2, 37), (37, .iconst 0, 1, 38), (38, .istore 6, 2, 40), (40, .iload 6, 2, 42), (42, .aload 4, 2, 44), (44, .invokevirtual 142, 3, 47), (47, .if_icmp .ge 32, 3, 50), (50, .iload 5, 2, 52), (52, .aload_n 0, 1, 53), (53, .getfield 12, 3, 56), (56, .getfield 62, 3, 59), (59, .aload 4, 2, 61), (61, .iload 6, 2, 63), (63, .invokevirtual 151, 3, 66), (66, .iconst 1, 1, 67), (67, .invokevirtual 81, 3, 70), (70, .iadd, 1, 71), (71, .istore 5, 2, 73), (73, .iinc 6 1, 3, 76), (76, .goto (-36), 3, 79), (79, .iload 5, 2, 81), (81, .aload_n 0, 1, 82), (82, .getfield 12, 3, 85), (85, .getfield 62, 3, 88), (88, .iload_n 1, 1, 89), (89, .iconst 1, 1, 90), (90, .invokevirtual 81, 3, 93), (93, .isub, 1, 94), (94, .istore 6, 2, 96), (96, .aload_n 0, 1, 97), (97, .getfield 19, 3, 100), (100, .getfield 180, 3, 103), (103, .astore 7, 2, 105), (105, .aload 7, 2, 107), (107, .aload_n 0, 1, 108), (108, .getfield 12, 3, 111), (111, .getfield 62, 3, 114), (114, .iload_n 1, 1, 115), (115, .iconst 0, 1, 116), (116, .invokevirtual 81, 3, 119), (119, .aload_n 0, 1, 120), (120, .getfield 12, 3, 123), (123, .getfield 118, 3, 126), (126, .iload_n 2, 1, 127), (127, .iconst 3, 1, 128), (128, .invokevirtual 81, 3, 131), (131, .iload 6, 2, 133), (133, .aload 4, 2, 135), (135, .invokevirtual 142, 3, 138), (138, .iconst 1, 1, 139), (139, .isub, 1, 140), (140, .iconst 0, 1, 141), (141, .invokevirtual 184, 3, 144), (144, .aload 7, 2, 146), (146, .iconst 1, 1, 147), (147, .aload_n 0, 1, 148), (148, .getfield 12, 3, 151), (151, .iconst 1, 1, 152), (152, .invokevirtual 190, 3, 155), (155, .invokevirtual 193, 3, 158), (158, .ireturn, 1, 159)]
theorem tk_X9_haul : Tk mi_X9_haul.2.1 tb_X9_haul := Tk.of (by decide +kernel)
abbrev mi_X9_feed : MI := (⟨"RopesAtDawn", "feed", "(JI)I"⟩, prog_1_method_19_code, 5, some (.int))
def tb_X9_feed : List (Nat × Instr × Nat × Nat) := [(0, .iload_n 3, 1, 1), (1, .iconst 1, 1, 2), (2, .if_icmp .lt 9, 3, 5), (5, .iload_n 3, 1, 6), (6, .bipush 8, 2, 8), (8, .if_icmp .le 10, 3, 11), (11, .aload_n 0, 1, 12), (12, .ldc 76, 2, 14), (14, .invokevirtual 77, 3, 17), (17, .ireturn, 1, 18), (18, .aload_n 0, 1, 19), (19, .getfield 12, 3, 22), (22, .getfield 197, 3, 25), (25, .invokevirtual 142, 3, 28), (28, .iload_n 3, 1, 29), (29, .iadd, 1, 30), (30, .bipush 50, 2, 32), (32, .if_icmp .le 10, 3, 35), (35, .aload_n 0, 1, 36), (36, .ldc 138, 2, 38), (38, .invokevirtual 77, 3, 41), (41, .ireturn, 1, 42), (42, .iconst 0, 1, 43), (43, .istore 4, 2, 45), (45, .iload 4, 2, 47), (47, .iload_n 3, 1, 48), (48, .if_icmp .ge 31, 3, 51), (51, .aload_n 0, 1, 52), (52, .getfield 12, 3, 55), (55, .getfield 197, 3, 58), (58, .lload_n 1, 1, 59), (59, .bipush 8, 2, 61), (61, .iload 4, 2, 63), (63, .imul, 1, 64), (64, .lushr, 1, 65), (65, .l2i, 1, 66), (66, .sipush 255, 3, 69), (69, .iand, 1, 70), (70, .invokevirtual 139, 3, 73), (73, .iinc 4 1, 3, 76), (76, .goto (-31), 3, 79), (79, .aload_n 0, 1, 80), (80, .getfield 12, 3, 83), (83, .getfield 197, 3, 86), (86, .invokevirtual 142, 3, 89), (89, .ireturn, 1, 90)]
theorem tk_X9_feed : Tk mi_X9_feed.2.1 tb_X9_feed := Tk.of (by decide +kernel)
abbrev mi_X9_text : MI := (⟨"RopesAtDawn", "text", "(I)I"⟩, prog_1_method_20_code, 3, some (.int))
def tb_X9_text : List (Nat × Instr × Nat × Nat) := [(0, .iload_n 1, 1, 1), (1, .invokestatic 200, 3, 4), (4, .ifCond .ne 10, 3, 7), (7, .aload_n 0, 1, 8), (8, .ldc 76, 2, 10), (10, .invokevirtual 77, 3, 13), (13, .ireturn, 1, 14), (14, .aload_n 0, 1, 15), (15, .getfield 33, 3, 18), (18, .aload_n 0, 1, 19), (19, .getfield 12, 3, 22), (22, .getfield 197, 3, 25), (25, .iload_n 1, 1, 26), (26, .ifCond .ne 8, 3, 29), (29, .ldc 203, 2, 31), (31, .goto 5, 3, 34), (34, .ldc 205, 2, 36), (36, .invokevirtual 207, 3, 39), (39, .istore_n 2, 1, 40), (40, .aload_n 0, 1, 41), (41, .getfield 12, 3, 44), (44, .getfield 197, 3, 47), (47, .invokevirtual 211, 3, 50), (50, .iload_n 2, 1, 51), (51, .ifCond .lt 8, 3, 54), (54, .bipush (-10), 2, 56), (56, .iload_n 2, 1, 57), (57, .isub, 1, 58), (58, .ireturn, 1, 59), (59, .aload_n 0, 1, 60), (60, .getfield 12, 3, 63), (63, .iload_n 1, 1, 64), (64, .invokevirtual 190, 3, 67), (67, .aload_n 0, 1, 68), (68, .getfield 33, 3, 71), (71, .getfield 214, 3, 74), (74, .invokevirtual 217, 3, 77), (77, .iconst 1, 1, 78), (78, .ireturn, 1, 79)]
theorem tk_X9_text : Tk mi_X9_text.2.1 tb_X9_text := Tk.of (by decide +kernel)
abbrev mi_X9_law : MI := (⟨"RopesAtDawn", "law", "(IIIII)I"⟩, prog_1_method_21_code, 6, some (.int))
def tb_X9_law : List (Nat × Instr × Nat × Nat) := [(0, .iload_n 1, 1, 1), (1, .invokestatic 200, 3, 4), (4, .ifCond .ne 10, 3, 7), (7, .aload_n 0, 1, 8), (8, .ldc 76, 2, 10), (10, .invokevirtual 77, 3, 13), (13, .ireturn, 1, 14), (14, .aload_n 0, 1, 15), (15, .getfield 19, 3, 18), (18, .getfield 180, 3, 21), (21, .iload_n 2, 1, 22), (22, .iload_n 3, 1, 23), (23, .iload 4, 2, 25), (25, .iload 5, 2, 27), (27, .iconst 0, 1, 28), (28, .invokevirtual 184, 3, 31), (31, .aload_n 0, 1, 32), (32, .getfield 19, 3, 35), (35, .getfield 180, 3, 38), (38, .iload_n 1, 1, 39), (39, .aload_n 0, 1, 40), (40, .getfield 12, 3, 43), (43, .iload_n 1, 1, 44), (44, .invokevirtual 190, 3, 47), (47, .invokevirtual 193, 3, 50), (50, .ireturn, 1, 51)]
theorem tk_X9_law : Tk mi_X9_law.2.1 tb_X9_law := Tk.of (by decide +kernel)
abbrev mi_X9_join : MI := (⟨"RopesAtDawn", "join", "(I)I"⟩, prog_1_method_22_code, 2, some (.int))
def tb_X9_join : List (Nat × Instr × Nat × Nat) := [(0, .aload_n 0, 1, 1), (1, .getfield 12, 3, 4), (4, .getfield 127, 3, 7), (7, .iload_n 1, 1, 8), (8, .invokevirtual 70, 3, 11), (11, .ifCond .ne 10, 3, 14), (14, .aload_n 0, 1, 15), (15, .ldc 76, 2, 17), (17, .invokevirtual 77, 3, 20), (20, .ireturn, 1, 21), (21, .aload_n 0, 1, 22), (22, .getfield 12, 3, 25), (25, .iload_n 1, 1, 26), (26, .invokevirtual 221, 3, 29), (29, .ifCond .eq 10, 3, 32), (32, .aload_n 0, 1, 33), (33, .ldc 130, 2, 35), (35, .invokevirtual 77, 3, 38), (38, .ireturn, 1, 39), (39, .aload_n 0, 1, 40), (40, .getfield 12, 3, 43), (43, .getfield 146, 3, 46), (46, .iload_n 1, 1, 47), (47, .invokevirtual 139, 3, 50), (50, .aload_n 0, 1, 51), (51, .getfield 12, 3, 54), (54, .getfield 146, 3, 57), (57, .invokevirtual 142, 3, 60), (60, .iconst 1, 1, 61), (61, .isub, 1, 62), (62, .ireturn, 1, 63)]
theorem tk_X9_join : Tk mi_X9_join.2.1 tb_X9_join := Tk.of (by decide +kernel)
abbrev mi_X9_clear : MI := (⟨"RopesAtDawn", "clear", "()I"⟩, prog_1_method_23_code, 2, some (.int))
def tb_X9_clear : List (Nat × Instr × Nat × Nat) := [(0, .aload_n 0, 1, 1), (1, .getfield 12, 3, 4), (4, .getfield 146, 3, 7), (7, .invokevirtual 142, 3, 10), (10, .istore_n 1, 1, 11), (11, .aload_n 0, 1, 12), (12, .getfield 12, 3, 15), (15, .getfield 146, 3, 18), (18, .invokevirtual 211, 3, 21), (21, .iload_n 1, 1, 22), (22, .ireturn, 1, 23)]
theorem tk_X9_clear : Tk mi_X9_clear.2.1 tb_X9_clear := Tk.of (by decide +kernel)
abbrev mi_X9_when : MI := (⟨"RopesAtDawn", "when", "(III)I"⟩, prog_1_method_24_code, 4, some (.int))
def tb_X9_when : List (Nat × Instr × Nat × Nat) := [(0, .aload_n 0, 1, 1), (1, .getfield 12, 3, 4), (4, .getfield 127, 3, 7), (7, .iload_n 1, 1, 8), (8, .invokevirtual 70, 3, 11), (11, .ifCond .eq 26, 3, 14), (14, .aload_n 0, 1, 15), (15, .getfield 12, 3, 18), (18, .getfield 118, 3, 21), (21, .iload_n 2, 1, 22), (22, .invokevirtual 70, 3, 25), (25, .ifCond .eq 12, 3, 28), (28, .iload_n 3, 1, 29), (29, .ifCond .lt 8, 3, 32), (32, .iload_n 3, 1, 33), (33, .iconst 1, 1, 34), (34, .if_icmp .le 10, 3, 37), (37, .aload_n 0, 1, 38), (38, .ldc 76, 2, 40), (40, .invokevirtual 77, 3, 43), (43, .ireturn, 1, 44), (44, .aload_n 0, 1, 45), (45, .getfield 12, 3, 48), (48, .iload_n 1, 1, 49), (49, .invokevirtual 221, 3, 52), (52, .ifCond .eq 17, 3, 55), (55, .aload_n 0, 1, 56), (56, .getfield 12, 3, 59), (59, .iload_n 1, 1, 60), (60, .invokevirtual 131, 3, 63), (63, .invokevirtual 142, 3, 66), (66, .ifCond .ne 10, 3, 69), (69, .aload_n 0, 1, 70), (70, .ldc 99, 2, 72), (72, .invokevirtual 77, 3, 75), (75, .ireturn, 1, 76), (76, .aload_n 0, 1, 77), (77, .getfield 19, 3, 80), (80, .aload_n 0, 1, 81), (81, .getfield 12, 3, 84), (84, .invokevirtual 224, 3, 87), (87, .iload_n 3, 1, 88), (88, .ifCond .ne 15, 3, 91), (91, .aload_n 0, 1, 92), (92, .getfield 19, 3, 95), (95, .iload_n 1, 1, 96), (96, .iload_n 2, 1, 97), (97, .invokevirtual 228, 3, 100), (100, .goto 12, 3, 103), (103, .aload_n 0, 1, 104), (104, .getfield 19, 3, 107), (107, .iload_n 1, 1, 108), (108, .iload_n 2, 1, 109), (109, .invokevirtual 231, 3, 112), (112, .ireturn, 1, 113)]
theorem tk_X9_when : Tk mi_X9_when.2.1 tb_X9_when := Tk.of (by decide +kernel)
abbrev mi_X9_risk : MI := (⟨"RopesAtDawn", "risk", "(II)I"⟩, prog_1_method_25_code, 4, some (.int))
def tb_X9_risk : List (Nat × Instr × Nat × Nat) := [(0, .aload_n 0, 1, 1), (1, .getfield 12, 3, 4), (4, .getfield 62, 3, 7), (7, .iload_n 1, 1, 8), (8, .invokevirtual 70, 3, 11), (11, .ifCond .eq 17, 3, 14), (14, .aload_n 0, 1, 15), (15, .getfield 12, 3, 18), (18, .getfield 118, 3, 21), (21, .iload_n 2, 1, 22), (22, .invokevirtual 70, 3, 25), (25, .ifCond .ne 10, 3, 28), (28, .aload_n 0, 1, 29), (29, .ldc 76, 2, 31), (31, .invokevirtual 77, 3, 34), (34, .ireturn, 1, 35), (35, .aload_n 0, 1, 36), (36, .getfield 12, 3, 39), (39, .iload_n 1, 1, 40), (40, .invokevirtual 85, 3, 43), (43, .istore_n 3, 1, 44), (44, .aload_n 0, 1, 45), (45, .getfield 12, 3, 48), (48, .iload_n 3, 1, 49), (49, .invokevirtual 221, 3, 52), (52, .ifCond .ne 10, 3, 55), (55, .aload_n 0, 1, 56), (56, .ldc 99, 2, 58), (58, .invokevirtual 77, 3, 61), (61, .ireturn, 1, 62), (62, .aload_n 0, 1, 63), (63, .getfield 19, 3, 66), (66, .aload_n 0, 1, 67), (67, .getfield 12, 3, 70), (70, .invokevirtual 224, 3, 73), (73, .aload_n 0, 1, 74), (74, .getfield 19, 3, 77), (77, .aload_n 0, 1, 78), (78, .getfield 12, 3, 81), (81, .iload_n 3, 1, 82), (82, .iload_n 1, 1, 83), (83, .iload_n 2, 1, 84), (84, .aload_n 0, 1, 85), (85, .getfield 12, 3, 88), (88, .iload_n 3, 1, 89), (89, .invokevirtual 234, 3, 92), (92, .aload_n 0, 1, 93), (93, .getfield 12, 3, 96), (96, .iload_n 1, 1, 97), (97, .invokevirtual 88, 3, 100), (100, .iadd, 1, 101), (101, .invokevirtual 237, 3, 104), (104, .ireturn, 1, 105)]
theorem tk_X9_risk : Tk mi_X9_risk.2.1 tb_X9_risk := Tk.of (by decide +kernel)
abbrev mi_X9_over : MI := (⟨"RopesAtDawn", "over", "()I"⟩, prog_1_method_26_code, 1, some (.int))
def tb_X9_over : List (Nat × Instr × Nat × Nat) := [(0, .aload_n 0, 1, 1), (1, .getfield 19, 3, 4), (4, .aload_n 0, 1, 5), (5, .getfield 12, 3, 8), (8, .invokevirtual 224, 3, 11), (11, .aload_n 0, 1, 12), (12, .getfield 19, 3, 15), (15, .getfield 241, 3, 18), (18, .ireturn, 1, 19)]
theorem tk_X9_over : Tk mi_X9_over.2.1 tb_X9_over := Tk.of (by decide +kernel)
abbrev mi_X9_toll : MI := (⟨"RopesAtDawn", "toll", "()I"⟩, prog_1_method_27_code, 1, some (.int))
def tb_X9_toll : List (Nat × Instr × Nat × Nat) := [(0, .aload_n 0, 1, 1), (1, .getfield 19, 3, 4), (4, .aload_n 0, 1, 5), (5, .getfield 12, 3, 8), (8, .invokevirtual 244, 3, 11), (11, .ireturn, 1, 12)]
theorem tk_X9_toll : Tk mi_X9_toll.2.1 tb_X9_toll := Tk.of (by decide +kernel)
abbrev mi_X9_order : MI := (⟨"RopesAtDawn", "order", "(II)I"⟩, prog_1_method_28_code, 3, some (.int))
def tb_X9_order : List (Nat × Instr × Nat × Nat) := [(0, .aload_n 0, 1, 1), (1, .getfield 12, 3, 4), (4, .getfield 127, 3, 7), (7, .iload_n 1, 1, 8), (8, .invokevirtual 70, 3, 11), (11, .ifCond .eq 8, 3, 14), (14, .iload_n 2, 1, 15), (15, .iconst (-1), 1, 16), (16, .if_icmp .ge 10, 3, 19), (19, .aload_n 0, 1, 20), (20, .ldc 76, 2, 22), (22, .invokevirtual 77, 3, 25), (25, .ireturn, 1, 26), (26, .aload_n 0, 1, 27), (27, .getfield 12, 3, 30), (30, .iload_n 1, 1, 31), (31, .invokevirtual 221, 3, 34), (34, .ifCond .ne 10, 3, 37), (37, .aload_n 0, 1, 38), (38, .ldc 130, 2, 40), (40, .invokevirtual 77, 3, 43), (43, .ireturn, 1, 44), (44, .iload_n 2, 1, 45), (45, .aload_n 0, 1, 46), (46, .getfield 12, 3, 49), (49, .iload_n 1, 1, 50), (50, .invokevirtual 131, 3, 53), (53, .invokevirtual 142, 3, 56), (56, .if_icmp .lt 10, 3, 59), (59, .aload_n 0, 1, 60), (60, .ldc 99, 2, 62), (62, .invokevirtual 77, 3, 65), (65, .ireturn, 1, 66), (66, .aload_n 0, 1, 67), (67, .getfield 26, 3, 70), (70, .aload_n 0, 1, 71), (71, .getfield 12, 3, 74), (74, .iload_n 1, 1, 75), (75, .invokevirtual 248, 3, 78), (78, .iload_n 2, 1, 79), (79, .ifCond .ge 13, 3, 82), (82, .aload_n 0, 1, 83), (83, .getfield 26, 3, 86), (86, .getfield 252, 3, 89), (89, .goto 14, 3, 92), (92, .aload_n 0, 1, 93), (93, .getfield 26, 3, 96), (96, .getfield 255, 3, 99), (99, .iload_n 2, 1, 100), (100, .invokevirtual 151, 3, 103), (103, .ireturn, 1, 104)]
theorem tk_X9_order : Tk mi_X9_order.2.1 tb_X9_order := Tk.of (by decide +kernel)
abbrev mi_X9_space : MI := (⟨"RopesAtDawn", "space", "(I)I"⟩, prog_1_method_29_code, 2, some (.int))
def tb_X9_space : List (Nat × Instr × Nat × Nat) := [(0, .aload_n 0, 1, 1), (1, .getfield 12, 3, 4), (4, .getfield 127, 3, 7), (7, .iload_n 1, 1, 8), (8, .invokevirtual 70, 3, 11), (11, .ifCond .ne 10, 3, 14), (14, .aload_n 0, 1, 15), (15, .ldc 76, 2, 17), (17, .invokevirtual 77, 3, 20), (20, .ireturn, 1, 21), (21, .aload_n 0, 1, 22), (22, .getfield 12, 3, 25), (25, .iload_n 1, 1, 26), (26, .invokevirtual 221, 3, 29), (29, .ifCond .ne 10, 3, 32), (32, .aload_n 0, 1, 33), (33, .ldc 130, 2, 35), (35, .invokevirtual 77, 3, 38), (38, .ireturn, 1, 39), (39, .aload_n 0, 1, 40), (40, .getfield 26, 3, 43), (43, .aload_n 0, 1, 44), (44, .getfield 12, 3, 47), (47, .iload_n 1, 1, 48), (48, .invokevirtual 258, 3, 51), (51, .aload_n 0, 1, 52), (52, .getfield 26, 3, 55), (55, .getfield 261, 3, 58), (58, .ireturn, 1, 59)]
theorem tk_X9_space : Tk mi_X9_space.2.1 tb_X9_space := Tk.of (by decide +kernel)
abbrev mi_X9_line : MI := (⟨"RopesAtDawn", "line", "(I)I"⟩, prog_1_method_30_code, 2, some (.int))
def tb_X9_line : List (Nat × Instr × Nat × Nat) := [(0, .iload_n 1, 1, 1), (1, .iconst (-1), 1, 2), (2, .if_icmp .ge 10, 3, 5), (5, .aload_n 0, 1, 6), (6, .ldc 76, 2, 8), (8, .invokevirtual 77, 3, 11), (11, .ireturn, 1, 12), (12, .iload_n 1, 1, 13), (13, .aload_n 0, 1, 14), (14, .getfield 12, 3, 17), (17, .getfield 146, 3, 20), (20, .invokevirtual 142, 3, 23), (23, .if_icmp .lt 10, 3, 26), (26, .aload_n 0, 1, 27), (27, .ldc 99, 2, 29), (29, .invokevirtual 77, 3, 32), (32, .ireturn, 1, 33), (33, .aload_n 0, 1, 34), (34, .getfield 26, 3, 37), (37, .aload_n 0, 1, 38), (38, .getfield 12, 3, 41), (41, .invokevirtual 264, 3, 44), (44, .iload_n 1, 1, 45), (45, .ifCond .ge 13, 3, 48), (48, .aload_n 0, 1, 49), (49, .getfield 26, 3, 52), (52, .getfield 252, 3, 55), (55, .goto 14, 3, 58), (58, .aload_n 0, 1, 59), (59, .getfield 26, 3, 62), (62, .getfield 255, 3, 65), (65, .iload_n 1, 1, 66), (66, .invokevirtual 151, 3, 69), (69, .ireturn, 1, 70)]
theorem tk_X9_line : Tk mi_X9_line.2.1 tb_X9_line := Tk.of (by decide +kernel)
abbrev mi_X9_parts : MI := (⟨"RopesAtDawn", "parts", "(II)I"⟩, prog_1_method_31_code, 3, some (.int))
def tb_X9_parts : List (Nat × Instr × Nat × Nat) := [(0, .aload_n 0, 1, 1), (1, .getfield 12, 3, 4), (4, .getfield 127, 3, 7), (7, .iload_n 1, 1, 8), (8, .invokevirtual 70, 3, 11), (11, .ifCond .eq 22, 3, 14), (14, .aload_n 0, 1, 15), (15, .getfield 12, 3, 18), (18, .getfield 127, 3, 21), (21, .iload_n 2, 1, 22), (22, .invokevirtual 70, 3, 25), (25, .ifCond .eq 8, 3, 28), (28, .iload_n 1, 1, 29), (29, .iload_n 2, 1, 30), (30, .if_icmp .ne 10, 3, 33), (33, .aload_n 0, 1, 34), (34, .ldc 76, 2, 36), (36, .invokevirtual 77, 3, 39), (39, .ireturn, 1, 40), (40, .aload_n 0, 1, 41), (41, .getfield 12, 3, 44), (44, .iload_n 1, 1, 45), (45, .invokevirtual 221, 3, 48), (48, .ifCond .eq 14, 3, 51), (51, .aload_n 0, 1, 52), (52, .getfield 12, 3, 55), (55, .iload_n 2, 1, 56), (56, .invokevirtual 221, 3, 59), (59, .ifCond .ne 10, 3, 62), (62, .aload_n 0, 1, 63), (63, .ldc 130, 2, 65), (65, .invokevirtual 77, 3, 68), (68, .ireturn, 1, 69), (69, .aload_n 0, 1, 70), (70, .getfield 26, 3, 73), (73, .aload_n 0, 1, 74), (74, .getfield 12, 3, 77), (77, .iload_n 1, 1, 78), (78, .iload_n 2, 1, 79), (79, .invokevirtual 267, 3, 82), (82, .aload_n 0, 1, 83), (83, .getfield 26, 3, 86), (86, .getfield 261, 3, 89), (89, .ireturn, 1, 90)]
theorem tk_X9_parts : Tk mi_X9_parts.2.1 tb_X9_parts := Tk.of (by decide +kernel)
abbrev mi_X9_latest : MI := (⟨"RopesAtDawn", "latest", "(I)I"⟩, prog_1_method_32_code, 3, some (.int))
def tb_X9_latest : List (Nat × Instr × Nat × Nat) := [(0, .iload_n 1, 1, 1), (1, .ifCond .lt 10, 3, 4), (4, .iload_n 1, 1, 5), (5, .sipush 9999, 3, 8), (8, .if_icmp .le 10, 3, 11), (11, .aload_n 0, 1, 12), (12, .ldc 76, 2, 14), (14, .invokevirtual 77, 3, 17), (17, .ireturn, 1, 18), (18, .aload_n 0, 1, 19), (19, .getfield 19, 3, 22), (22, .aload_n 0, 1, 23), (23, .getfield 12, 3, 26), (26, .invokevirtual 224, 3, 29), (29, .aload_n 0, 1, 30), (30, .getfield 19, 3, 33), (33, .getfield 241, 3, 36), (36, .aload_n 0, 1, 37), (37, .getfield 12, 3, 40), (40, .getfield 124, 3, 43), (43, .isub, 1, 44), (44, .istore_n 2, 1, 45), (45, .iload_n 2, 1, 46), (46, .iload_n 1, 1, 47), (47, .if_icmp .le 10, 3, 50), (50, .aload_n 0, 1, 51), (51, .ldc 99, 2, 53), (53, .invokevirtual 77, 3, 56), (56, .ireturn, 1, 57), (57, .sipush 1439, 3, 60), (60, .iload_n 1, 1, 61), (61, .iload_n 2, 1, 62), (62, .isub, 1, 63), (63, .invokestatic 271, 3, 66), (66, .ireturn, 1, 67)]
theorem tk_X9_latest : Tk mi_X9_latest.2.1 tb_X9_latest := Tk.of (by decide +kernel)
abbrev mi_X9_best : MI := (⟨"RopesAtDawn", "best", "(II)I"⟩, prog_1_method_33_code, 3, some (.int))
def tb_X9_best : List (Nat × Instr × Nat × Nat) := [(0, .iload_n 1, 1, 1), (1, .invokestatic 121, 3, 4), (4, .ifCond .eq 15, 3, 7), (7, .iload_n 2, 1, 8), (8, .invokestatic 121, 3, 11), (11, .ifCond .eq 8, 3, 14), (14, .iload_n 1, 1, 15), (15, .iload_n 2, 1, 16), (16, .if_icmp .le 10, 3, 19), (19, .aload_n 0, 1, 20), (20, .ldc 76, 2, 22), (22, .invokevirtual 77, 3, 25), (25, .ireturn, 1, 26), (26, .aload_n 0, 1, 27), (27, .getfield 26, 3, 30), (30, .aload_n 0, 1, 31), (31, .getfield 12, 3, 34), (34, .iload_n 1, 1, 35), (35, .iload_n 2, 1, 36), (36, .invokevirtual 276, 3, 39), (39, .aload_n 0, 1, 40), (40, .getfield 26, 3, 43), (43, .getfield 261, 3, 46), (46, .ireturn, 1, 47)]
theorem tk_X9_best : Tk mi_X9_best.2.1 tb_X9_best := Tk.of (by decide +kernel)
abbrev mi_X9_left : MI := (⟨"RopesAtDawn", "left", "()I"⟩, prog_1_method_34_code, 1, some (.int))
def tb_X9_left : List (Nat × Instr × Nat × Nat) := [(0, .aload_n 0, 1, 1), (1, .getfield 26, 3, 4), (4, .aload_n 0, 1, 5), (5, .getfield 12, 3, 8), (8, .invokevirtual 279, 3, 11), (11, .aload_n 0, 1, 12), (12, .getfield 26, 3, 15), (15, .getfield 261, 3, 18), (18, .ifCond .ge 12, 3, 21), (21, .aload_n 0, 1, 22), (22, .ldc 99, 2, 24), (24, .invokevirtual 77, 3, 27), (27, .goto 10, 3, 30), (30, .aload_n 0, 1, 31), (31, .getfield 26, 3, 34), (34, .getfield 261, 3, 37), (37, .ireturn, 1, 38)]
theorem tk_X9_left : Tk mi_X9_left.2.1 tb_X9_left := Tk.of (by decide +kernel)
abbrev mi_X9_lead : MI := (⟨"RopesAtDawn", "lead", "(I)I"⟩, prog_1_method_35_code, 2, some (.int))
def tb_X9_lead : List (Nat × Instr × Nat × Nat) := [(0, .aload_n 0, 1, 1), (1, .getfield 12, 3, 4), (4, .getfield 62, 3, 7), (7, .iload_n 1, 1, 8), (8, .invokevirtual 70, 3, 11), (11, .ifCond .ne 10, 3, 14), (14, .aload_n 0, 1, 15), (15, .ldc 76, 2, 17), (17, .invokevirtual 77, 3, 20), (20, .ireturn, 1, 21), (21, .aload_n 0, 1, 22), (22, .getfield 12, 3, 25), (25, .aload_n 0, 1, 26), (26, .getfield 12, 3, 29), (29, .iload_n 1, 1, 30), (30, .invokevirtual 85, 3, 33), (33, .invokevirtual 221, 3, 36), (36, .ifCond .ne 10, 3, 39), (39, .aload_n 0, 1, 40), (40, .ldc 99, 2, 42), (42, .invokevirtual 77, 3, 45), (45, .ireturn, 1, 46), (46, .aload_n 0, 1, 47), (47, .getfield 26, 3, 50), (50, .aload_n 0, 1, 51), (51, .getfield 12, 3, 54), (54, .iload_n 1, 1, 55), (55, .invokevirtual 282, 3, 58), (58, .aload_n 0, 1, 59), (59, .getfield 26, 3, 62), (62, .getfield 261, 3, 65), (65, .ireturn, 1, 66)]
theorem tk_X9_lead : Tk mi_X9_lead.2.1 tb_X9_lead := Tk.of (by decide +kernel)
abbrev mi_X9_take : MI := (⟨"RopesAtDawn", "take", "(II)I"⟩, prog_1_method_36_code, 3, some (.int))
def tb_X9_take : List (Nat × Instr × Nat × Nat) := [(0, .iload_n 1, 1, 1), (1, .ifCond .lt 22, 3, 4), (4, .iload_n 1, 1, 5), (5, .iconst 2, 1, 6), (6, .if_icmp .gt 17, 3, 9), (9, .aload_n 0, 1, 10), (10, .getfield 12, 3, 13), (13, .getfield 127, 3, 16), (16, .iload_n 2, 1, 17), (17, .invokevirtual 70, 3, 20), (20, .ifCond .ne 10, 3, 23), (23, .aload_n 0, 1, 24), (24, .ldc 76, 2, 26), (26, .invokevirtual 77, 3, 29), (29, .ireturn, 1, 30), (30, .iload_n 1, 1, 31), (31, .iconst 2, 1, 32), (32, .if_icmp .ge 21, 3, 35), (35, .aload_n 0, 1, 36), (36, .getfield 12, 3, 39), (39, .iload_n 2, 1, 40), (40, .invokevirtual 221, 3, 43), (43, .ifCond .ne 10, 3, 46), (46, .aload_n 0, 1, 47), (47, .ldc 130, 2, 49), (49, .invokevirtual 77, 3, 52), (52, .ireturn, 1, 53), (53, .iload_n 1, 1, 54), (54, .ifCond .ne 36, 3, 57), (57, .aload_n 0, 1, 58), (58, .getfield 26, 3, 61), (61, .aload_n 0, 1, 62), (62, .getfield 12, 3, 65), (65, .iload_n 2, 1, 66), (66, .invokevirtual 248, 3, 69), (69, .aload_n 0, 1, 70), (70, .getfield 12, 3, 73), (73, .iload_n 2, 1, 74), (74, .invokevirtual 131, 3, 77), (77, .aload_n 0, 1, 78), (78, .getfield 26, 3, 81), (81, .getfield 255, 3, 84), (84, .invokevirtual 217, 3, 87), (87, .goto 70, 3, 90), (90, .iload_n 1, 1, 91), (91, .iconst 1, 1, 92), (92, .if_icmp .ne 37, 3, 95), (95, .aload_n 0, 1, 96), (96, .getfield 26, 3, 99), (99, .aload_n 0, 1, 100), (100, .getfield 12, 3, 103), (103, .iload_n 2, 1, 104), (104, .invokevirtual 258, 3, 107), (107, .aload_n 0, 1, 108), (108, .getfield 12, 3, 111), (111, .getfield 127, 3, 114), (114, .iload_n 2, 1, 115), (115, .iconst 1, 1, 116), (116, .aload_n 0, 1, 117), (117, .getfield 26, 3, 120), (120, .getfield 261, 3, 123), (123, .invokevirtual 160, 3, 126), (126, .goto 31, 3, 129), (129, .aload_n 0, 1, 130), (130, .getfield 26, 3, 133), (133, .aload_n 0, 1, 134), (134, .getfield 12, 3, 137), (137, .invokevirtual 264, 3, 140), (140, .aload_n 0, 1, 141), (141, .getfield 12, 3, 144), (144, .getfield 146, 3, 147), (147, .aload_n 0, 1, 148), (148, .getfield 26, 3, 151), (151, .getfield 255, 3, 154), (154, .invokevirtual 217, 3, 157), (157, .aload_n 0, 1, 158), (158, .getfield 26, 3, 161), (161, .getfield 252, 3, 164), (164, .ireturn, 1, 165)]
theorem tk_X9_take : Tk mi_X9_take.2.1 tb_X9_take := Tk.of (by decide +kernel)
abbrev mi_X9_morning : MI := (⟨"RopesAtDawn", "morning", "()I"⟩, prog_1_method_37_code, 1, some (.int))
def tb_X9_morning : List (Nat × Instr × Nat × Nat) := [(0, .aload_n 0, 1, 1), (1, .invokevirtual 285, 3, 4), (4, .ireturn, 1, 5)]
theorem tk_X9_morning : Tk mi_X9_morning.2.1 tb_X9_morning := Tk.of (by decide +kernel)
abbrev mi_X9_mornings : MI := (⟨"RopesAtDawn", "mornings", "(II)I"⟩, prog_1_method_38_code, 7, some (.int))
def tb_X9_mornings : List (Nat × Instr × Nat × Nat) := [(0, .iload_n 1, 1, 1), (1, .iconst 1, 1, 2), (2, .if_icmp .lt 18, 3, 5), (5, .iload_n 1, 1, 6), (6, .bipush 40, 2, 8), (8, .if_icmp .gt 12, 3, 11), (11, .iload_n 2, 1, 12), (12, .ifCond .lt 8, 3, 15), (15, .iload_n 2, 1, 16), (16, .iconst 1, 1, 17), (17, .if_icmp .le 10, 3, 20), (20, .aload_n 0, 1, 21), (21, .ldc 76, 2, 23), (23, .invokevirtual 77, 3, 26), (26, .ireturn, 1, 27), (27, .iconst 0, 1, 28), (28, .istore_n 3, 1, 29), (29, .iconst 0, 1, 30), (30, .istore 4, 2, 32), (32, .iconst 0, 1, 33), (33, .istore 5, 2, 35), (35, .iload 5, 2, 37), (37, .iload_n 1, 1, 38), (38, .if_icmp .ge 38, 3, 41), (41, .aload_n 0, 1, 42), (42, .invokevirtual 285, 3, 45), (45, .istore 6, 2, 47), (47, .iload_n 3, 1, 48), (48, .iload 6, 2, 50), (50, .ifCond .ne 7, 3, 53), (53, .iconst 1, 1, 54), (54, .goto 4, 3, 57), (57, .iconst 0, 1, 58), (58, .iadd, 1, 59), (59, .istore_n 3, 1, 60), (60, .iload 4, 2, 62), (62, .iload 6, 2, 64), (64, .invokestatic 288, 3, 67), (67, .iadd, 1, 68), (68, .istore 4, 2, 70), (70, .iinc 5 1, 3, 73), (73, .goto (-38), 3, 76), (76, .iload_n 2, 1, 77), (77, .ifCond .ne 7, 3, 80), (80, .iload_n 3, 1, 81), (81, .goto 5, 3, 84), (84, .iload 4, 2, 86), (86, .ireturn, 1, 87)]
theorem tk_X9_mornings : Tk mi_X9_mornings.2.1 tb_X9_mornings := Tk.of (by decide +kernel)
abbrev mi_X9_seed : MI := (⟨"RopesAtDawn", "seed", "(I)I"⟩, prog_1_method_39_code, 3, some (.int))
def tb_X9_seed : List (Nat × Instr × Nat × Nat) := [(0, .aload_n 0, 1, 1), (1, .getfield 12, 3, 4), (4, .getfield 293, 3, 7), (7, .istore_n 2, 1, 8), (8, .aload_n 0, 1, 9), (9, .getfield 12, 3, 12), (12, .iload_n 1, 1, 13), (13, .putfield 293, 3, 16), (16, .iload_n 2, 1, 17), (17, .ireturn, 1, 18)]
theorem tk_X9_seed : Tk mi_X9_seed.2.1 tb_X9_seed := Tk.of (by decide +kernel)
abbrev mi_X9_voice : MI := (⟨"RopesAtDawn", "voice", "(III)I"⟩, prog_1_method_40_code, 4, some (.int))
def tb_X9_voice : List (Nat × Instr × Nat × Nat) := [(0, .aload_n 0, 1, 1), (1, .getfield 12, 3, 4), (4, .getfield 127, 3, 7), (7, .iload_n 1, 1, 8), (8, .invokevirtual 70, 3, 11), (11, .ifCond .eq 12, 3, 14), (14, .iload_n 2, 1, 15), (15, .ifCond .lt 8, 3, 18), (18, .iload_n 2, 1, 19), (19, .iconst 4, 1, 20), (20, .if_icmp .lt 10, 3, 23), (23, .aload_n 0, 1, 24), (24, .ldc 76, 2, 26), (26, .invokevirtual 77, 3, 29), (29, .ireturn, 1, 30), (30, .aload_n 0, 1, 31), (31, .getfield 40, 3, 34), (34, .aload_n 0, 1, 35), (35, .getfield 12, 3, 38), (38, .getfield 127, 3, 41), (41, .iload_n 1, 1, 42), (42, .iload_n 2, 1, 43), (43, .iload_n 3, 1, 44), (44, .invokevirtual 296, 3, 47), (47, .ireturn, 1, 48)]
theorem tk_X9_voice : Tk mi_X9_voice.2.1 tb_X9_voice := Tk.of (by decide +kernel)
abbrev mi_X9_trace : MI := (⟨"RopesAtDawn", "trace", "(I)I"⟩, prog_1_method_41_code, 2, some (.int))
def tb_X9_trace : List (Nat × Instr × Nat × Nat) := [(0, .iload_n 1, 1, 1), (1, .ifCond .lt 17, 3, 4), (4, .iload_n 1, 1, 5), (5, .aload_n 0, 1, 6), (6, .getfield 40, 3, 9), (9, .getfield 300, 3, 12), (12, .invokevirtual 142, 3, 15), (15, .if_icmp .lt 10, 3, 18), (18, .aload_n 0, 1, 19), (19, .ldc 99, 2, 21), (21, .invokevirtual 77, 3, 24), (24, .ireturn, 1, 25), (25, .aload_n 0, 1, 26), (26, .getfield 40, 3, 29), (29, .getfield 300, 3, 32), (32, .iload_n 1, 1, 33), (33, .invokevirtual 151, 3, 36), (36, .ireturn, 1, 37)]
theorem tk_X9_trace : Tk mi_X9_trace.2.1 tb_X9_trace := Tk.of (by decide +kernel)
abbrev mi_X9_sheet : MI := (⟨"RopesAtDawn", "sheet", "(III)I"⟩, prog_1_method_42_code, 5, some (.int))
def tb_X9_sheet : List (Nat × Instr × Nat × Nat) := [(0, .aload_n 0, 1, 1), (1, .iload_n 1, 1, 2), (2, .invokevirtual 91, 3, 5), (5, .astore 4, 2, 7), (7, .aload 4, 2, 9), (9, .ifnull 25, 3, 12), (12, .iload_n 2, 1, 13), (13, .ifCond .eq 28, 3, 16), (16, .iload_n 2, 1, 17), (17, .bipush 8, 2, 19), (19, .if_icmp .eq 22, 3, 22), (22, .iload_n 2, 1, 23), (23, .bipush 16, 2, 25), (25, .if_icmp .eq 16, 3, 28), (28, .iload_n 2, 1, 29), (29, .bipush 32, 2, 31), (31, .if_icmp .eq 10, 3, 34), (34, .aload_n 0, 1, 35), (35, .ldc 76, 2, 37), (37, .invokevirtual 77, 3, 40), (40, .ireturn, 1, 41), (41, .iload_n 2, 1, 42), (42, .ifCond .eq 14, 3, 45), (45, .iload_n 3, 1, 46), (46, .ifCond .ge 10, 3, 49), (49, .aload_n 0, 1, 50), (50, .ldc 130, 2, 52), (52, .invokevirtual 77, 3, 55), (55, .ireturn, 1, 56), (56, .iload_n 2, 1, 57), (57, .ifCond .eq 16, 3, 60), (60, .iload_n 3, 1, 61), (61, .bipush 40, 2, 63), (63, .if_icmp .le 10, 3, 66), (66, .aload_n 0, 1, 67), (67, .ldc 76, 2, 69), (69, .invokevirtual 77, 3, 72), (72, .ireturn, 1, 73), (73, .aload 4, 2, 75), (75, .iload_n 2, 1, 76), (76, .iload_n 2, 1, 77), (77, .ifCond .ne 7, 3, 80), (80, .iconst 0, 1, 81), (81, .goto 4, 3, 84), (84, .iload_n 3, 1, 85), (85, .invokevirtual 303, 3, 88), (88, .iconst 1, 1, 89), (89, .ireturn, 1, 90)]
theorem tk_X9_sheet : Tk mi_X9_sheet.2.1 tb_X9_sheet := Tk.of (by decide +kernel)
abbrev mi_X9_put : MI := (⟨"RopesAtDawn", "put", "(III)I"⟩, prog_1_method_43_code, 5, some (.int))
def tb_X9_put : List (Nat × Instr × Nat × Nat) := [(0, .aload_n 0, 1, 1), (1, .iload_n 1, 1, 2), (2, .invokevirtual 91, 3, 5), (5, .astore 4, 2, 7), (7, .aload 4, 2, 9), (9, .ifnonnull 10, 3, 12), (12, .aload_n 0, 1, 13), (13, .ldc 76, 2, 15), (15, .invokevirtual 77, 3, 18), (18, .ireturn, 1, 19), (19, .aload 4, 2, 21), (21, .invokevirtual 95, 3, 24), (24, .ifCond .eq 10, 3, 27), (27, .aload_n 0, 1, 28), (28, .ldc 99, 2, 30), (30, .invokevirtual 77, 3, 33), (33, .ireturn, 1, 34), (34, .aload 4, 2, 36), (36, .iload_n 2, 1, 37), (37, .iconst 1, 1, 38), (38, .invokevirtual 306, 3, 41), (41, .ifCond .ne 10, 3, 44), (44, .aload_n 0, 1, 45), (45, .ldc 76, 2, 47), (47, .invokevirtual 77, 3, 50), (50, .ireturn, 1, 51), (51, .aload 4, 2, 53), (53, .iload_n 2, 1, 54), (54, .iload_n 3, 1, 55), (55, .invokevirtual 309, 3, 58), (58, .iconst 1, 1, 59), (59, .ireturn, 1, 60)]
theorem tk_X9_put : Tk mi_X9_put.2.1 tb_X9_put := Tk.of (by decide +kernel)
abbrev mi_X9_move : MI := (⟨"RopesAtDawn", "move", "(IIIII)I"⟩, prog_1_method_44_code, 8, some (.int))
def tb_X9_move : List (Nat × Instr × Nat × Nat) := [(0, .aload_n 0, 1, 1), (1, .iload_n 1, 1, 2), (2, .invokevirtual 91, 3, 5), (5, .astore 6, 2, 7), (7, .aload_n 0, 1, 8), (8, .iload_n 3, 1, 9), (9, .invokevirtual 91, 3, 12), (12, .astore 7, 2, 14), (14, .aload 6, 2, 16), (16, .ifnull 8, 3, 19), (19, .aload 7, 2, 21), (21, .ifnonnull 10, 3, 24), (24, .aload_n 0, 1, 25), (25, .ldc 76, 2, 27), (27, .invokevirtual 77, 3, 30), (30, .ireturn, 1, 31), (31, .aload 6, 2, 33), (33, .invokevirtual 95, 3, 36), (36, .ifCond .ne 11, 3, 39), (39, .aload 7, 2, 41), (41, .invokevirtual 95, 3, 44), (44, .ifCond .eq 10, 3, 47), (47, .aload_n 0, 1, 48), (48, .ldc 99, 2, 50), (50, .invokevirtual 77, 3, 53), (53, .ireturn, 1, 54), (54, .aload 6, 2, 56), (56, .getfield 312, 3, 59), (59, .aload 7, 2, 61), (61, .getfield 312, 3, 64), (64, .if_icmp .eq 10, 3, 67), (67, .aload_n 0, 1, 68), (68, .ldc 156, 2, 70), (70, .invokevirtual 77, 3, 73), (73, .ireturn, 1, 74), (74, .aload 6, 2, 76), (76, .iload_n 2, 1, 77), (77, .iload 5, 2, 79), (79, .invokevirtual 306, 3, 82), (82, .ifCond .eq 15, 3, 85), (85, .aload 7, 2, 87), (87, .iload 4, 2, 89), (89, .iload 5, 2, 91), (91, .invokevirtual 306, 3, 94), (94, .ifCond .ne 10, 3, 97), (97, .aload_n 0, 1, 98), (98, .ldc 76, 2, 100), (100, .invokevirtual 77, 3, 103), (103, .ireturn, 1, 104), (104, .aload 7, 2, 106), (106, .iload 4, 2, 108), (108, .aload 6, 2, 110), (110, .iload_n 2, 1, 111), (111, .iload 5, 2, 113), (113, .invokevirtual 315, 3, 116), (116, .iload 5, 2, 118), (118, .ireturn, 1, 119)]
theorem tk_X9_move : Tk mi_X9_move.2.1 tb_X9_move := Tk.of (by decide +kernel)
abbrev mi_X9_image : MI := (⟨"RopesAtDawn", "image", "()I"⟩, prog_1_method_45_code, 1, some (.int))
def tb_X9_image : List (Nat × Instr × Nat × Nat) := [(0, .aload_n 0, 1, 1), (1, .getfield 54, 3, 4), (4, .ifnonnull 14, 3, 7), (7, .aload_n 0, 1, 8), (8, .new 9, 3, 11), (11, .dup, 1, 12), (12, .invokespecial 11, 3, 15), (15, .putfield 54, 3, 18), (18, .aload_n 0, 1, 19), (19, .getfield 54, 3, 22), (22, .aload_n 0, 1, 23), (23, .getfield 12, 3, 26), (26, .invokevirtual 318, 3, 29), (29, .aload_n 0, 1, 30), (30, .dup, 1, 31), (31, .getfield 57, 3, 34), (34, .iconst 1, 1, 35), (35, .iadd, 1, 36), (36, .putfield 57, 3, 39), (39, .aload_n 0, 1, 40), (40, .getfield 57, 3, 43), (43, .ireturn, 1, 44)]
theorem tk_X9_image : Tk mi_X9_image.2.1 tb_X9_image := Tk.of (by decide +kernel)
abbrev mi_X9_restore : MI := (⟨"RopesAtDawn", "restore", "()I"⟩, prog_1_method_46_code, 1, some (.int))
def tb_X9_restore : List (Nat × Instr × Nat × Nat) := [(0, .aload_n 0, 1, 1), (1, .getfield 54, 3, 4), (4, .ifnonnull 10, 3, 7), (7, .aload_n 0, 1, 8), (8, .ldc 99, 2, 10), (10, .invokevirtual 77, 3, 13), (13, .ireturn, 1, 14), (14, .aload_n 0, 1, 15), (15, .getfield 12, 3, 18), (18, .aload_n 0, 1, 19), (19, .getfield 54, 3, 22), (22, .invokevirtual 318, 3, 25), (25, .aload_n 0, 1, 26), (26, .getfield 12, 3, 29), (29, .getfield 124, 3, 32), (32, .ireturn, 1, 33)]
theorem tk_X9_restore : Tk mi_X9_restore.2.1 tb_X9_restore := Tk.of (by decide +kernel)
abbrev mi_X9_tell : MI := (⟨"RopesAtDawn", "tell", "(I)I"⟩, prog_1_method_47_code, 2, some (.int))
def tb_X9_tell : List (Nat × Instr × Nat × Nat) := [(0, .aload_n 0, 1, 1), (1, .getfield 12, 3, 4), (4, .getfield 320, 3, 7), (7, .invokevirtual 135, 3, 10), (10, .ifCond .eq 10, 3, 13), (13, .aload_n 0, 1, 14), (14, .ldc 138, 2, 16), (16, .invokevirtual 77, 3, 19), (19, .ireturn, 1, 20), (20, .aload_n 0, 1, 21), (21, .getfield 12, 3, 24), (24, .getfield 320, 3, 27), (27, .iload_n 1, 1, 28), (28, .invokevirtual 139, 3, 31), (31, .aload_n 0, 1, 32), (32, .getfield 12, 3, 35), (35, .getfield 320, 3, 38), (38, .invokevirtual 142, 3, 41), (41, .ireturn, 1, 42)]
theorem tk_X9_tell : Tk mi_X9_tell.2.1 tb_X9_tell := Tk.of (by decide +kernel)
abbrev mi_X9_check : MI := (⟨"RopesAtDawn", "check", "()I"⟩, prog_1_method_48_code, 2, some (.int))
def tb_X9_check : List (Nat × Instr × Nat × Nat) := [(0, .aload_n 0, 1, 1), (1, .invokevirtual 323, 3, 4), (4, .istore_n 1, 1, 5), (5, .aload_n 0, 1, 6), (6, .getfield 12, 3, 9), (9, .getfield 320, 3, 12), (12, .invokevirtual 211, 3, 15), (15, .iload_n 1, 1, 16), (16, .iconst 1, 1, 17), (17, .iadd, 1, 18), (18, .ireturn, 1, 19)]
theorem tk_X9_check : Tk mi_X9_check.2.1 tb_X9_check := Tk.of (by decide +kernel)
abbrev mi_X9_count : MI := (⟨"RopesAtDawn", "count", "(I)I"⟩, prog_1_method_49_code, 2, some (.int))
def tb_X9_count : List (Nat × Instr × Nat × Nat) := [(0, .iload_n 1, 1, 1), (1, .tableswitch 144 0 8 #[51, 59, 70, 81, 92, 103, 114, 125, 136], 51, 52), (52, .aload_n 0, 1, 53), (53, .getfield 12, 3, 56), (56, .getfield 124, 3, 59), (59, .ireturn, 1, 60), (60, .aload_n 0, 1, 61), (61, .getfield 12, 3, 64), (64, .getfield 62, 3, 67), (67, .invokevirtual 326, 3, 70), (70, .ireturn, 1, 71), (71, .aload_n 0, 1, 72), (72, .getfield 12, 3, 75), (75, .getfield 118, 3, 78), (78, .invokevirtual 326, 3, 81), (81, .ireturn, 1, 82), (82, .aload_n 0, 1, 83), (83, .getfield 12, 3, 86), (86, .getfield 127, 3, 89), (89, .invokevirtual 326, 3, 92), (92, .ireturn, 1, 93), (93, .aload_n 0, 1, 94), (94, .getfield 12, 3, 97), (97, .getfield 146, 3, 100), (100, .invokevirtual 142, 3, 103), (103, .ireturn, 1, 104), (104, .aload_n 0, 1, 105), (105, .getfield 12, 3, 108), (108, .getfield 197, 3, 111), (111, .invokevirtual 142, 3, 114), (114, .ireturn, 1, 115), (115, .aload_n 0, 1, 116), (116, .getfield 12, 3, 119), (119, .getfield 320, 3, 122), (122, .invokevirtual 142, 3, 125), (125, .ireturn, 1, 126), (126, .aload_n 0, 1, 127), (127, .getfield 40, 3, 130), (130, .getfield 300, 3, 133), (133, .invokevirtual 142, 3, 136), (136, .ireturn, 1, 137), (137, .aload_n 0, 1, 138), (138, .getfield 12, 3, 141), (141, .getfield 293, 3, 144), (144, .ireturn, 1, 145), (145, .aload_n 0, 1, 146), (146, .ldc 76, 2, 148), (148, .invokevirtual 77, 3, 151), (151, .ireturn, 1, 152)]
theorem tk_X9_count : Tk mi_X9_count.2.1 tb_X9_count := Tk.of (by decide +kernel)
abbrev mi_X9_told : MI := (⟨"RopesAtDawn", "told", "(I)I"⟩, prog_1_method_50_code, 2, some (.int))
def tb_X9_told : List (Nat × Instr × Nat × Nat) := [(0, .iload_n 1, 1, 1), (1, .iconst 1, 1, 2), (2, .if_icmp .lt 17, 3, 5), (5, .iload_n 1, 1, 6), (6, .iconst 5, 1, 7), (7, .if_icmp .gt 12, 3, 10), (10, .iload_n 1, 1, 11), (11, .aload_n 0, 1, 12), (12, .getfield 50, 3, 15), (15, .arraylength, 1, 16), (16, .if_icmp .lt 10, 3, 19), (19, .aload_n 0, 1, 20), (20, .ldc 76, 2, 22), (22, .invokevirtual 77, 3, 25), (25, .ireturn, 1, 26), (26, .aload_n 0, 1, 27), (27, .getfield 50, 3, 30), (30, .iload_n 1, 1, 31), (31, .iaload, 1, 32), (32, .ireturn, 1, 33)]
theorem tk_X9_told : Tk mi_X9_told.2.1 tb_X9_told := Tk.of (by decide +kernel)
abbrev mi_X9_fail : MI := (⟨"RopesAtDawn", "fail", "(I)I"⟩, prog_1_method_51_code, 3, some (.int))
def tb_X9_fail : List (Nat × Instr × Nat × Nat) := [(0, .ldc_w 327, 3, 3), (3, .iload_n 1, 1, 4), (4, .isub, 1, 5), (5, .istore_n 2, 1, 6), (6, .iload_n 2, 1, 7), (7, .ifCond .lt 22, 3, 10), (10, .iload_n 2, 1, 11), (11, .aload_n 0, 1, 12), (12, .getfield 50, 3, 15), (15, .arraylength, 1, 16), (16, .if_icmp .ge 13, 3, 19), (19, .aload_n 0, 1, 20), (20, .getfield 50, 3, 23), (23, .iload_n 2, 1, 24), (24, .dup2, 1, 25), (25, .iaload, 1, 26), (26, .iconst 1, 1, 27), (27, .iadd, 1, 28), (28, .iastore, 1, 29), (29, .iload_n 1, 1, 30), (30, .ireturn, 1, 31)]
theorem tk_X9_fail : Tk mi_X9_fail.2.1 tb_X9_fail := Tk.of (by decide +kernel)
abbrev mi_X9_newFour : MI := (⟨"RopesAtDawn", "newFour", "(LRopesAtDawn$Fours;IIII)I"⟩, prog_1_method_52_code, 6, some (.int))
def tb_X9_newFour : List (Nat × Instr × Nat × Nat) := [(0, .aload_n 1, 1, 1), (1, .iload_n 2, 1, 2), (2, .iload_n 3, 1, 3), (3, .iload 4, 2, 5), (5, .iload 5, 2, 7), (7, .invokevirtual 110, 3, 10), (10, .ifCond .ne 10, 3, 13), (13, .aload_n 0, 1, 14), (14, .ldc 76, 2, 16), (16, .invokevirtual 77, 3, 19), (19, .ireturn, 1, 20), (20, .aload_n 1, 1, 21), (21, .invokevirtual 107, 3, 24), (24, .ifCond .eq 10, 3, 27), (27, .aload_n 0, 1, 28), (28, .ldc 138, 2, 30), (30, .invokevirtual 77, 3, 33), (33, .ireturn, 1, 34), (34, .aload_n 1, 1, 35), (35, .iload_n 2, 1, 36), (36, .iload_n 3, 1, 37), (37, .iload 4, 2, 39), (39, .iload 5, 2, 41), (41, .invokevirtual 114, 3, 44), (44, .aload_n 1, 1, 45), (45, .invokevirtual 326, 3, 48), (48, .iconst 1, 1, 49), (49, .isub, 1, 50), (50, .ireturn, 1, 51)]
theorem tk_X9_newFour : Tk mi_X9_newFour.2.1 tb_X9_newFour := Tk.of (by decide +kernel)
abbrev mi_X9_errorOnRope : MI := (⟨"RopesAtDawn", "errorOnRope", "(II)I"⟩, prog_1_method_53_code, 3, some (.int))
def tb_X9_errorOnRope : List (Nat × Instr × Nat × Nat) := [(0, .aload_n 0, 1, 1), (1, .getfield 12, 3, 4), (4, .getfield 62, 3, 7), (7, .iload_n 1, 1, 8), (8, .invokevirtual 70, 3, 11), (11, .ifCond .eq 17, 3, 14), (14, .aload_n 0, 1, 15), (15, .getfield 12, 3, 18), (18, .getfield 118, 3, 21), (21, .iload_n 2, 1, 22), (22, .invokevirtual 70, 3, 25), (25, .ifCond .ne 6, 3, 28), (28, .ldc 76, 2, 30), (30, .ireturn, 1, 31), (31, .aload_n 0, 1, 32), (32, .getfield 12, 3, 35), (35, .iload_n 1, 1, 36), (36, .invokevirtual 85, 3, 39), (39, .ifCond .ge 8, 3, 42), (42, .ldc 99, 2, 44), (44, .goto 4, 3, 47), (47, .iconst 0, 1, 48), (48, .ireturn, 1, 49)]
theorem tk_X9_errorOnRope : Tk mi_X9_errorOnRope.2.1 tb_X9_errorOnRope := Tk.of (by decide +kernel)
abbrev mi_X9_sheetOf : MI := (⟨"RopesAtDawn", "sheetOf", "(I)LRopesAtDawn$Sheet;"⟩, prog_1_method_54_code, 2, some (.object "RopesAtDawn$Sheet"))
def tb_X9_sheetOf : List (Nat × Instr × Nat × Nat) := [(0, .iload_n 1, 1, 1), (1, .ifCond .lt 21, 3, 4), (4, .iload_n 1, 1, 5), (5, .aload_n 0, 1, 6), (6, .getfield 46, 3, 9), (9, .arraylength, 1, 10), (10, .if_icmp .ge 12, 3, 13), (13, .aload_n 0, 1, 14), (14, .getfield 46, 3, 17), (17, .iload_n 1, 1, 18), (18, .aaload, 1, 19), (19, .goto 4, 3, 22), (22, .aconst_null, 1, 23), (23, .areturn, 1, 24)]
theorem tk_X9_sheetOf : Tk mi_X9_sheetOf.2.1 tb_X9_sheetOf := Tk.of (by decide +kernel)
abbrev mi_X9_isMinute : MI := (⟨"RopesAtDawn", "isMinute", "(I)Z"⟩, prog_1_method_55_code, 1, some (.boolean))
def tb_X9_isMinute : List (Nat × Instr × Nat × Nat) := [(0, .iload_n 0, 1, 1), (1, .ifCond .lt 14, 3, 4), (4, .iload_n 0, 1, 5), (5, .sipush 1439, 3, 8), (8, .if_icmp .gt 7, 3, 11), (11, .iconst 1, 1, 12), (12, .goto 4, 3, 15), (15, .iconst 0, 1, 16), (16, .ireturn, 1, 17)]
theorem tk_X9_isMinute : Tk mi_X9_isMinute.2.1 tb_X9_isMinute := Tk.of (by decide +kernel)
abbrev mi_X9_isUse : MI := (⟨"RopesAtDawn", "isUse", "(I)Z"⟩, prog_1_method_56_code, 1, some (.boolean))
def tb_X9_isUse : List (Nat × Instr × Nat × Nat) := [(0, .iload_n 0, 1, 1), (1, .ifCond .eq 8, 3, 4), (4, .iload_n 0, 1, 5), (5, .iconst 1, 1, 6), (6, .if_icmp .ne 7, 3, 9), (9, .iconst 1, 1, 10), (10, .goto 4, 3, 13), (13, .iconst 0, 1, 14), (14, .ireturn, 1, 15)]
theorem tk_X9_isUse : Tk mi_X9_isUse.2.1 tb_X9_isUse := Tk.of (by decide +kernel)
abbrev mi_X9_isUnder : MI := (⟨"RopesAtDawn", "isUnder", "(II)Z"⟩, prog_1_method_57_code, 4, some (.boolean))
def tb_X9_isUnder : List (Nat × Instr × Nat × Nat) := [(0, .iload_n 0, 1, 1), (1, .istore_n 2, 1, 2), (2, .iconst 0, 1, 3), (3, .istore_n 3, 1, 4), (4, .iload_n 3, 1, 5), (5, .bipush 7, 2, 7), (7, .if_icmp .ge 34, 3, 10), (10, .iload_n 2, 1, 11), (11, .ifCond .lt 30, 3, 14), (14, .iload_n 2, 1, 15), (15, .getstatic 328, 3, 18), (18, .arraylength, 1, 19), (19, .if_icmp .ge 22, 3, 22), (22, .iload_n 2, 1, 23), (23, .iload_n 1, 1, 24), (24, .if_icmp .ne 5, 3, 27), (27, .iconst 1, 1, 28), (28, .ireturn, 1, 29), (29, .getstatic 328, 3, 32), (32, .iload_n 2, 1, 33), (33, .iaload, 1, 34), (34, .istore_n 2, 1, 35), (35, .iinc 3 1, 3, 38), (38, .goto (-34), 3, 41), (41, .iconst 0, 1, 42), (42, .ireturn, 1, 43)]
theorem tk_X9_isUnder : Tk mi_X9_isUnder.2.1 tb_X9_isUnder := Tk.of (by decide +kernel)
abbrev mi_X9_placeOfWrong : MI := (⟨"RopesAtDawn", "placeOfWrong", "()I"⟩, prog_1_method_58_code, 5, some (.int))
def tb_X9_placeOfWrong : List (Nat × Instr × Nat × Nat) := [(0, .iconst 0, 1, 1), (1, .istore_n 1, 1, 2), (2, .iconst 0, 1, 3), (3, .istore_n 2, 1, 4), (4, .iload_n 2, 1, 5), (5, .aload_n 0, 1, 6), (6, .getfield 12, 3, 9), (9, .getfield 146, 3, 12), (12, .invokevirtual 142, 3, 15), (15, .if_icmp .ge 85, 3, 18), (18, .aload_n 0, 1, 19), (19, .getfield 12, 3, 22), (22, .aload_n 0, 1, 23), (23, .getfield 12, 3, 26), (26, .getfield 146, 3, 29), (29, .iload_n 2, 1, 30), (30, .invokevirtual 151, 3, 33), (33, .invokevirtual 131, 3, 36), (36, .astore_n 3, 1, 37), (37, .iconst 0, 1, 38), (38, .istore 4, 2, 40), (40, .iload 4, 2, 42), (42, .aload_n 3, 1, 43), (43, .invokevirtual 142, 3, 46), (46, .if_icmp .ge 48, 3, 49), (49, .iload_n 1, 1, 50), (50, .aload_n 0, 1, 51), (51, .getfield 12, 3, 54), (54, .getfield 320, 3, 57), (57, .invokevirtual 142, 3, 60), (60, .if_icmp .ge 23, 3, 63), (63, .aload_n 0, 1, 64), (64, .getfield 12, 3, 67), (67, .getfield 320, 3, 70), (70, .iload_n 1, 1, 71), (71, .invokevirtual 151, 3, 74), (74, .aload_n 3, 1, 75), (75, .iload 4, 2, 77), (77, .invokevirtual 151, 3, 80), (80, .if_icmp .eq 5, 3, 83), (83, .iload_n 1, 1, 84), (84, .ireturn, 1, 85), (85, .iinc 1 1, 3, 88), (88, .iinc 4 1, 3, 91), (91, .goto (-51), 3, 94), (94, .iinc 2 1, 3, 97), (97, .goto (-93), 3, 100), (100, .iload_n 1, 1, 101), (101, .aload_n 0, 1, 102), (102, .getfield 12, 3, 105), (105, .getfield 320, 3, 108), (108, .invokevirtual 142, 3, 111), (111, .if_icmp .ge 7, 3, 114), (114, .iload_n 1, 1, 115), (115, .goto 4, 3, 118), (118, .iconst (-1), 1, 119), (119, .ireturn, 1, 120)]
theorem tk_X9_placeOfWrong : Tk mi_X9_placeOfWrong.2.1 tb_X9_placeOfWrong := Tk.of (by decide +kernel)
abbrev mi_X9_runMorning : MI := (⟨"RopesAtDawn", "runMorning", "()I"⟩, prog_1_method_59_code, 5, some (.int))
def tb_X9_runMorning : List (Nat × Instr × Nat × Nat) := [(0, .aload_n 0, 1, 1), (1, .getfield 19, 3, 4), (4, .aload_n 0, 1, 5), (5, .getfield 12, 3, 8), (8, .invokevirtual 224, 3, 11), (11, .iconst 0, 1, 12), (12, .istore_n 1, 1, 13), (13, .iconst 0, 1, 14), (14, .istore_n 2, 1, 15), (15, .iconst 0, 1, 16), (16, .istore_n 3, 1, 17), (17, .iload_n 3, 1, 18), (18, .aload_n 0, 1, 19), (19, .getfield 12, 3, 22), (22, .getfield 146, 3, 25), (25, .invokevirtual 142, 3, 28), (28, .if_icmp .ge 47, 3, 31), (31, .aload_n 0, 1, 32), (32, .getfield 12, 3, 35), (35, .getfield 146, 3, 38), (38, .iload_n 3, 1, 39), (39, .invokevirtual 151, 3, 42), (42, .istore 4, 2, 44), (44, .iload_n 1, 1, 45), (45, .aload_n 0, 1, 46), (46, .iload 4, 2, 48), (48, .iload_n 2, 1, 49), (49, .invokevirtual 331, 3, 52), (52, .ior, 1, 53), (53, .istore_n 1, 1, 54), (54, .iload_n 2, 1, 55), (55, .aload_n 0, 1, 56), (56, .getfield 12, 3, 59), (59, .iload 4, 2, 61), (61, .invokevirtual 131, 3, 64), (64, .invokevirtual 142, 3, 67), (67, .iadd, 1, 68), (68, .istore_n 2, 1, 69), (69, .iinc 3 1, 3, 72), (72, .goto (-55), 3, 75), (75, .iload_n 1, 1, 76), (76, .ireturn, 1, 77)]
theorem tk_X9_runMorning : Tk mi_X9_runMorning.2.1 tb_X9_runMorning := Tk.of (by decide +kernel)
abbrev mi_X9_lostOn : MI := (⟨"RopesAtDawn", "lostOn", "(II)I"⟩, prog_1_method_60_code, 11, some (.int))
def tb_X9_lostOn : List (Nat × Instr × Nat × Nat) := [(0, .aload_n 0, 1, 1), (1, .getfield 12, 3, 4), (4, .iload_n 1, 1, 5), (5, .invokevirtual 131, 3, 8), (8, .astore_n 3, 1, 9), (9, .aload_n 0, 1, 10), (10, .getfield 12, 3, 13), (13, .getfield 127, 3, 16), (16, .iload_n 1, 1, 17), (17, .iconst 0, 1, 18), (18, .invokevirtual 81, 3, 21), (21, .bipush 6, 2, 23), (23, .if_icmp .ne 7, 3, 26), (26, .iconst 1, 1, 27), (27, .goto 4, 3, 30), (30, .iconst 0, 1, 31), (31, .istore 4, 2, 33), (33, .iconst 0, 1, 34), (34, .istore 5, 2, 36), (36, .iconst 0, 1, 37), (37, .istore 6, 2, 39), (39, .iload 6, 2, 41), (41, .aload_n 0, 1, 42), (42, .getfield 12, 3, 45), (45, .getfield 118, 3, 48), (48, .invokevirtual 326, 3, 51), (51, .if_icmp .ge 124, 3, 54), (54, .iconst 0, 1, 55), (55, .istore 7, 2, 57), (57, .iload 7, 2, 59), (59, .aload_n 3, 1, 60), (60, .invokevirtual 142, 3, 63), (63, .if_icmp .ge 106, 3, 66), (66, .aload_n 3, 1, 67), (67, .iload 7, 2, 69), (69, .invokevirtual 151, 3, 72), (72, .istore 8, 2, 74), (74, .iconst 1, 1, 75), (75, .iload 8, 2, 77), (77, .ishl, 1, 78), (78, .istore 9, 2, 80), (80, .iload 5, 2, 82), (82, .iload 9, 2, 84), (84, .iand, 1, 85), (85, .ifCond .eq 6, 3, 88), (88, .goto 75, 3, 91), (91, .aload_n 0, 1, 92), (92, .getfield 19, 3, 95), (95, .aload_n 0, 1, 96), (96, .getfield 12, 3, 99), (99, .iload_n 1, 1, 100), (100, .iload 8, 2, 102), (102, .iload 6, 2, 104), (104, .iload_n 2, 1, 105), (105, .iload 7, 2, 107), (107, .iadd, 1, 108), (108, .invokevirtual 237, 3, 111), (111, .istore 10, 2, 113), (113, .aload_n 0, 1, 114), (114, .getfield 12, 3, 117), (117, .invokevirtual 334, 3, 120), (120, .sipush 1000, 3, 123), (123, .irem, 1, 124), (124, .iload 10, 2, 126), (126, .if_icmp .ge 37, 3, 129), (129, .aload_n 0, 1, 130), (130, .getfield 12, 3, 133), (133, .iload_n 1, 1, 134), (134, .iload 7, 2, 136), (136, .iload 6, 2, 138), (138, .invokevirtual 173, 3, 141), (141, .ifCond .ne 22, 3, 144), (144, .iload 5, 2, 146), (146, .iload 4, 2, 148), (148, .ifCond .eq 8, 3, 151), (151, .iload 9, 2, 153), (153, .goto 7, 3, 156), (156, .aload_n 3, 1, 157), (157, .invokevirtual 337, 3, 160), (160, .ior, 1, 161), (161, .istore 5, 2, 163), (163, .iinc 7 1, 3, 166), (166, .goto (-109), 3, 169), (169, .iinc 6 1, 3, 172), (172, .goto (-133), 3, 175), (175, .iload 5, 2, 177), (177, .ireturn, 1, 178)]
theorem tk_X9_lostOn : Tk mi_X9_lostOn.2.1 tb_X9_lostOn := Tk.of (by decide +kernel)
abbrev mi_J6_bitCount_0f7a4 : MI := (⟨"java/lang/Integer", "bitCount", "(I)I"⟩, prog_14_method_49_code, 1, some (.int))
def tb_J6_bitCount_0f7a4 : List (Nat × Instr × Nat × Nat) := [(0, .iload_n 0, 1, 1), (1, .iload_n 0, 1, 2), (2, .iconst 1, 1, 3), (3, .iushr, 1, 4), (4, .ldc_w 265, 3, 7), (7, .iand, 1, 8), (8, .isub, 1, 9), (9, .istore_n 0, 1, 10), (10, .iload_n 0, 1, 11), (11, .ldc_w 266, 3, 14), (14, .iand, 1, 15), (15, .iload_n 0, 1, 16), (16, .iconst 2, 1, 17), (17, .iushr, 1, 18), (18, .ldc_w 266, 3, 21), (21, .iand, 1, 22), (22, .iadd, 1, 23), (23, .istore_n 0, 1, 24), (24, .iload_n 0, 1, 25), (25, .iload_n 0, 1, 26), (26, .iconst 4, 1, 27), (27, .iushr, 1, 28), (28, .iadd, 1, 29), (29, .ldc_w 267, 3, 32), (32, .iand, 1, 33), (33, .istore_n 0, 1, 34), (34, .iload_n 0, 1, 35), (35, .iload_n 0, 1, 36), (36, .bipush 8, 2, 38), (38, .iushr, 1, 39), (39, .iadd, 1, 40), (40, .istore_n 0, 1, 41), (41, .iload_n 0, 1, 42), (42, .iload_n 0, 1, 43), (43, .bipush 16, 2, 45), (45, .iushr, 1, 46), (46, .iadd, 1, 47), (47, .istore_n 0, 1, 48), (48, .iload_n 0, 1, 49), (49, .bipush 63, 2, 51), (51, .iand, 1, 52), (52, .ireturn, 1, 53)]
theorem tk_J6_bitCount_0f7a4 : Tk mi_J6_bitCount_0f7a4.2.1 tb_J6_bitCount_0f7a4 := Tk.of (by decide +kernel)
abbrev mi_J0_length_8abf5 : MI := (⟨"java/lang/String", "length", "()I"⟩, prog_16_method_54_code, 1, some (.int))
def tb_J0_length_8abf5 : List (Nat × Instr × Nat × Nat) := [(0, .aload_n 0, 1, 1), (1, .getfield 9, 3, 4), (4, .arraylength, 1, 5), (5, .aload_n 0, 1, 6), (6, .invokevirtual 335, 3, 9), (9, .ishr, 1, 10), (10, .ireturn, 1, 11)]
theorem tk_J0_length_8abf5 : Tk mi_J0_length_8abf5.2.1 tb_J0_length_8abf5 := Tk.of (by decide +kernel)
abbrev mi_J0_charAt_5068e : MI := (⟨"java/lang/String", "charAt", "(I)C"⟩, prog_16_method_56_code, 2, some (.char))
def tb_J0_charAt_5068e : List (Nat × Instr × Nat × Nat) := [(0, .aload_n 0, 1, 1), (1, .invokevirtual 492, 3, 4), (4, .ifCond .eq 12, 3, 7), (7, .aload_n 0, 1, 8), (8, .getfield 9, 3, 11), (11, .iload_n 1, 1, 12), (12, .invokestatic 495, 3, 15), (15, .ireturn, 1, 16), (16, .aload_n 0, 1, 17), (17, .getfield 9, 3, 20), (20, .iload_n 1, 1, 21), (21, .invokestatic 498, 3, 24), (24, .ireturn, 1, 25)]
theorem tk_J0_charAt_5068e : Tk mi_J0_charAt_5068e.2.1 tb_J0_charAt_5068e := Tk.of (by decide +kernel)
abbrev mi_J0_indexOf_0f7a4 : MI := (⟨"java/lang/String", "indexOf", "(I)I"⟩, prog_16_method_79_code, 2, some (.int))
def tb_J0_indexOf_0f7a4 : List (Nat × Instr × Nat × Nat) := [(0, .aload_n 0, 1, 1), (1, .iload_n 1, 1, 2), (2, .iconst 0, 1, 3), (3, .invokevirtual 633, 3, 6), (6, .ireturn, 1, 7)]
theorem tk_J0_indexOf_0f7a4 : Tk mi_J0_indexOf_0f7a4.2.1 tb_J0_indexOf_0f7a4 := Tk.of (by decide +kernel)
abbrev mi_J0_indexOf_7cf53 : MI := (⟨"java/lang/String", "indexOf", "(II)I"⟩, prog_16_method_80_code, 3, some (.int))
def tb_J0_indexOf_7cf53 : List (Nat × Instr × Nat × Nat) := [(0, .aload_n 0, 1, 1), (1, .invokevirtual 492, 3, 4), (4, .ifCond .eq 19, 3, 7), (7, .aload_n 0, 1, 8), (8, .getfield 9, 3, 11), (11, .iload_n 1, 1, 12), (12, .iload_n 2, 1, 13), (13, .aload_n 0, 1, 14), (14, .invokevirtual 505, 3, 17), (17, .invokestatic 637, 3, 20), (20, .goto 16, 3, 23), (23, .aload_n 0, 1, 24), (24, .getfield 9, 3, 27), (27, .iload_n 1, 1, 28), (28, .iload_n 2, 1, 29), (29, .aload_n 0, 1, 30), (30, .invokevirtual 505, 3, 33), (33, .invokestatic 640, 3, 36), (36, .ireturn, 1, 37)]
theorem tk_J0_indexOf_7cf53 : Tk mi_J0_indexOf_7cf53.2.1 tb_J0_indexOf_7cf53 := Tk.of (by decide +kernel)
abbrev mi_J0_coder_7d493 : MI := (⟨"java/lang/String", "coder", "()B"⟩, prog_16_method_152_code, 1, some (.byte))
def tb_J0_coder_7d493 : List (Nat × Instr × Nat × Nat) := [(0, .getstatic 38, 3, 3), (3, .ifCond .eq 10, 3, 6), (6, .aload_n 0, 1, 7), (7, .getfield 15, 3, 10), (10, .goto 4, 3, 13), (13, .iconst 1, 1, 14), (14, .ireturn, 1, 15)]
theorem tk_J0_coder_7d493 : Tk mi_J0_coder_7d493.2.1 tb_J0_coder_7d493 := Tk.of (by decide +kernel)
abbrev mi_J0_isLatin1_aae02 : MI := (⟨"java/lang/String", "isLatin1", "()Z"⟩, prog_16_method_154_code, 1, some (.boolean))
def tb_J0_isLatin1_aae02 : List (Nat × Instr × Nat × Nat) := [(0, .getstatic 38, 3, 3), (3, .ifCond .eq 14, 3, 6), (6, .aload_n 0, 1, 7), (7, .getfield 15, 3, 10), (10, .ifCond .ne 7, 3, 13), (13, .iconst 1, 1, 14), (14, .goto 4, 3, 17), (17, .iconst 0, 1, 18), (18, .ireturn, 1, 19)]
theorem tk_J0_isLatin1_aae02 : Tk mi_J0_isLatin1_aae02.2.1 tb_J0_isLatin1_aae02 := Tk.of (by decide +kernel)
abbrev mi_J0_checkIndex_df160 : MI := (⟨"java/lang/String", "checkIndex", "(II)V"⟩, prog_16_method_155_code, 2, none)
def tb_J0_checkIndex_df160 : List (Nat × Instr × Nat × Nat) := [(0, .iload_n 0, 1, 1), (1, .iload_n 1, 1, 2), (2, .getstatic 1053, 3, 5), (5, .invokestatic 1059, 3, 8), (8, .pop, 1, 9), (9, .return_, 1, 10)]
theorem tk_J0_checkIndex_df160 : Tk mi_J0_checkIndex_df160.2.1 tb_J0_checkIndex_df160 := Tk.of (by decide +kernel)
abbrev mi_J1_charAt_3b067 : MI := (⟨"java/lang/StringLatin1", "charAt", "([BI)C"⟩, prog_17_method_2_code, 2, some (.char))
def tb_J1_charAt_3b067 : List (Nat × Instr × Nat × Nat) := [(0, .iload_n 1, 1, 1), (1, .aload_n 0, 1, 2), (2, .arraylength, 1, 3), (3, .invokestatic 9, 3, 6), (6, .aload_n 0, 1, 7), (7, .iload_n 1, 1, 8), (8, .baload, 1, 9), (9, .sipush 255, 3, 12), (12, .iand, 1, 13), (13, .i2c, 1, 14), (14, .ireturn, 1, 15)]
theorem tk_J1_charAt_3b067 : Tk mi_J1_charAt_3b067.2.1 tb_J1_charAt_3b067 := Tk.of (by decide +kernel)
abbrev mi_J1_canEncode_9a6ad : MI := (⟨"java/lang/StringLatin1", "canEncode", "(I)Z"⟩, prog_17_method_4_code, 1, some (.boolean))
def tb_J1_canEncode_9a6ad : List (Nat × Instr × Nat × Nat) := [(0, .iload_n 0, 1, 1), (1, .ifCond .lt 14, 3, 4), (4, .iload_n 0, 1, 5), (5, .sipush 255, 3, 8), (8, .if_icmp .gt 7, 3, 11), (11, .iconst 1, 1, 12), (12, .goto 4, 3, 15), (15, .iconst 0, 1, 16), (16, .ireturn, 1, 17)]
theorem tk_J1_canEncode_9a6ad : Tk mi_J1_canEncode_9a6ad.2.1 tb_J1_canEncode_9a6ad := Tk.of (by decide +kernel)
abbrev mi_J1_indexOf_4cfef : MI := (⟨"java/lang/StringLatin1", "indexOf", "([BIII)I"⟩, prog_17_method_22_code, 4, some (.int))
def tb_J1_indexOf_4cfef : List (Nat × Instr × Nat × Nat) := [(0, .iload_n 1, 1, 1), (1, .invokestatic 88, 3, 4), (4, .ifCond .ne 5, 3, 7), (7, .iconst (-1), 1, 8), (8, .ireturn, 1, 9), (9, .iload_n 2, 1, 10), (10, .iconst 0, 1, 11), (11, .invokestatic 92, 3, 14), (14, .istore_n 2, 1, 15), (15, .iload_n 3, 1, 16), (16, .aload_n 0, 1, 17), (17, .arraylength, 1, 18), (18, .invokestatic 38, 3, 21), (21, .istore_n 3, 1, 22), (22, .iload_n 2, 1, 23), (23, .iload_n 3, 1, 24), (24, .if_icmp .lt 5, 3, 27), (27, .iconst (-1), 1, 28), (28, .ireturn, 1, 29), (29, .aload_n 0, 1, 30), (30, .iload_n 1, 1, 31), (31, .iload_n 2, 1, 32), (32, .iload_n 3, 1, 33), (33, .invokestatic 95, 3, 36), (36, .ireturn, 1, 37)]
theorem tk_J1_indexOf_4cfef : Tk mi_J1_indexOf_4cfef.2.1 tb_J1_indexOf_4cfef := Tk.of (by decide +kernel)
abbrev mi_J1_indexOfChar_4cfef : MI := (⟨"java/lang/StringLatin1", "indexOfChar", "([BIII)I"⟩, prog_17_method_23_code, 6, some (.int))
def tb_J1_indexOfChar_4cfef : List (Nat × Instr × Nat × Nat) := [(0, .iload_n 1, 1, 1), (1, .i2b, 1, 2), (2, .istore 4, 2, 4), (4, .iload_n 2, 1, 5), (5, .istore 5, 2, 7), (7, .iload 5, 2, 9), (9, .iload_n 3, 1, 10), (10, .if_icmp .ge 21, 3, 13), (13, .aload_n 0, 1, 14), (14, .iload 5, 2, 16), (16, .baload, 1, 17), (17, .iload 4, 2, 19), (19, .if_icmp .ne 6, 3, 22), (22, .iload 5, 2, 24), (24, .ireturn, 1, 25), (25, .iinc 5 1, 3, 28), (28, .goto (-21), 3, 31), (31, .iconst (-1), 1, 32), (32, .ireturn, 1, 33)]
theorem tk_J1_indexOfChar_4cfef : Tk mi_J1_indexOfChar_4cfef.2.1 tb_J1_indexOfChar_4cfef := Tk.of (by decide +kernel)
abbrev mi_J7_fill_53178 : MI := (⟨"java/util/Arrays", "fill", "([II)V"⟩, prog_20_method_103_code, 4, none)
def tb_J7_fill_53178 : List (Nat × Instr × Nat × Nat) := [(0, .iconst 0, 1, 1), (1, .istore_n 2, 1, 2), (2, .aload_n 0, 1, 3), (3, .arraylength, 1, 4), (4, .istore_n 3, 1, 5), (5, .iload_n 2, 1, 6), (6, .iload_n 3, 1, 7), (7, .if_icmp .ge 13, 3, 10), (10, .aload_n 0, 1, 11), (11, .iload_n 2, 1, 12), (12, .iload_n 1, 1, 13), (13, .iastore, 1, 14), (14, .iinc 2 1, 3, 17), (17, .goto (-12), 3, 20), (20, .return_, 1, 21)]
theorem tk_J7_fill_53178 : Tk mi_J7_fill_53178.2.1 tb_J7_fill_53178 := Tk.of (by decide +kernel)
abbrev mi_J3_checkIndex_8e157 : MI := (⟨"jdk/internal/util/Preconditions", "checkIndex", "(IILjava/util/function/BiFunction;)I"⟩, prog_21_method_11_code, 3, some (.int))
def tb_J3_checkIndex_8e157 : List (Nat × Instr × Nat × Nat) := [(0, .iload_n 0, 1, 1), (1, .ifCond .lt 8, 3, 4), (4, .iload_n 0, 1, 5), (5, .iload_n 1, 1, 6), (6, .if_icmp .lt 10, 3, 9), (9, .aload_n 2, 1, 10), (10, .iload_n 0, 1, 11), (11, .iload_n 1, 1, 12), (12, .invokestatic 95, 3, 15), (15, .athrow, 1, 16), (16, .iload_n 0, 1, 17), (17, .ireturn, 1, 18)]
theorem tk_J3_checkIndex_8e157 : Tk mi_J3_checkIndex_8e157.2.1 tb_J3_checkIndex_8e157 := Tk.of (by decide +kernel)
end
section
abbrev mi_X10_init : MI := (⟨"RopesAtDawnModel", "<init>", "()V"⟩, prog_12_method_1_code, 1, none)
def tb_X10_init : List (Nat × Instr × Nat × Nat) := [(0, .aload_n 0, 1, 1), (1, .invokespecial 3, 3, 4), (4, .aload_n 0, 1, 5), (5, .sipush 314, 3, 8), (8, .newarray .int, 2, 10), (10, .putfield 9, 3, 13), (13, .aload_n 0, 1, 14), (14, .sipush 314, 3, 17), (17, .newarray .int, 2, 19), (19, .putfield 13, 3, 22), (22, .aload_n 0, 1, 23), (23, .sipush 314, 3, 26), (26, .newarray .int, 2, 28), (28, .putfield 16, 3, 31), (31, .aload_n 0, 1, 32), (32, .bipush 6, 2, 34), (34, .newarray .int, 2, 36), (36, .putfield 19, 3, 39), (39, .aload_n 0, 1, 40), (40, .iconst 2, 1, 41), (41, .anewarray 22, 3, 44), (44, .dup, 1, 45), (45, .iconst 0, 1, 46), (46, .ldc 24, 2, 48), (48, .aastore, 1, 49), (49, .dup, 1, 50), (50, .iconst 1, 1, 51), (51, .ldc 26, 2, 53), (53, .aastore, 1, 54), (54, .putfield 28, 3, 57), (57, .aload_n 0, 1, 58), (58, .bipush 60, 2, 60), (60, .newarray .int, 2, 62), (62, .putfield 32, 3, 65), (65, .aload_n 0, 1, 66), (66, .iconst 5, 1, 67), (67, .newarray .int, 2, 69), (69, .putfield 35, 3, 72), (72, .aload_n 0, 1, 73), (73, .bipush 60, 2, 75), (75, .newarray .int, 2, 77), (77, .putfield 38, 3, 80), (80, .aload_n 0, 1, 81), (81, .bipush 48, 2, 83), (83, .newarray .int, 2, 85), (85, .putfield 41, 3, 88), (88, .aload_n 0, 1, 89), (89, .bipush 6, 2, 91), (91, .newarray .int, 2, 93), (93, .putfield 44, 3, 96), (96, .aload_n 0, 1, 97), (97, .bipush 6, 2, 99), (99, .newarray .int, 2, 101), (101, .putfield 47, 3, 104), (104, .aload_n 0, 1, 105), (105, .bipush 6, 2, 107), (107, .newarray .int, 2, 109), (109, .putfield 50, 3, 112), (112, .aload_n 0, 1, 113), (113, .bipush 40, 2, 115), (115, .newarray .int, 2, 117), (117, .putfield 53, 3, 120), (120, .aload_n 0, 1, 121), (121, .iconst 4, 1, 122), (122, .newarray .int, 2, 124), (124, .putfield 56, 3, 127), (127, .aload_n 0, 1, 128), (128, .iconst 4, 1, 129), (129, .newarray .int, 2, 131), (131, .putfield 59, 3, 134), (134, .aload_n 0, 1, 135), (135, .sipush 160, 3, 138), (138, .newarray .int, 2, 140), (140, .putfield 62, 3, 143), (143, .aload_n 0, 1, 144), (144, .bipush 40, 2, 146), (146, .newarray .int, 2, 148), (148, .putfield 65, 3, 151), (151, .aload_n 0, 1, 152), (152, .getfield 9, 3, 155), (155, .iconst 0, 1, 156), (156, .bipush 60, 2, 158), (158, .iastore, 1, 159), (159, .aload_n 0, 1, 160), (160, .getfield 9, 3, 163), (163, .bipush 7, 2, 165), (165, .iconst 1, 1, 166), (166, .iastore, 1, 167), (167, .return_, 1, 168)]
theorem tk_X10_init : Tk mi_X10_init.2.1 tb_X10_init := Tk.of (by decide +kernel)
abbrev mi_X10_finding : MI := (⟨"RopesAtDawnModel", "finding", "(I)I"⟩, prog_12_method_2_code, 2, some (.int))
def tb_X10_finding : List (Nat × Instr × Nat × Nat) := [(0, .aload_n 0, 1, 1), (1, .getfield 19, 3, 4), (4, .ldc 68, 2, 6), (6, .iload_n 1, 1, 7), (7, .isub, 1, 8), (8, .dup2, 1, 9), (9, .iaload, 1, 10), (10, .iconst 1, 1, 11), (11, .iadd, 1, 12), (12, .iastore, 1, 13), (13, .iload_n 1, 1, 14), (14, .ireturn, 1, 15)]
theorem tk_X10_finding : Tk mi_X10_finding.2.1 tb_X10_finding := Tk.of (by decide +kernel)
abbrev mi_X10_within : MI := (⟨"RopesAtDawnModel", "within", "(III)Z"⟩, prog_12_method_3_code, 3, some (.boolean))
def tb_X10_within : List (Nat × Instr × Nat × Nat) := [(0, .iload_n 0, 1, 1), (1, .iload_n 1, 1, 2), (2, .if_icmp .lt 12, 3, 5), (5, .iload_n 0, 1, 6), (6, .iload_n 2, 1, 7), (7, .if_icmp .gt 7, 3, 10), (10, .iconst 1, 1, 11), (11, .goto 4, 3, 14), (14, .iconst 0, 1, 15), (15, .ireturn, 1, 16)]
theorem tk_X10_within : Tk mi_X10_within.2.1 tb_X10_within := Tk.of (by decide +kernel)
abbrev mi_X10_is : MI := (⟨"RopesAtDawnModel", "is", "(II)Z"⟩, prog_12_method_4_code, 3, some (.boolean))
def tb_X10_is : List (Nat × Instr × Nat × Nat) := [(0, .iload_n 1, 1, 1), (1, .iconst 0, 1, 2), (2, .aload_n 0, 1, 3), (3, .getfield 9, 3, 6), (6, .iload_n 2, 1, 7), (7, .iaload, 1, 8), (8, .iconst 1, 1, 9), (9, .isub, 1, 10), (10, .invokestatic 69, 3, 13), (13, .ireturn, 1, 14)]
theorem tk_X10_is : Tk mi_X10_is.2.1 tb_X10_is := Tk.of (by decide +kernel)
abbrev mi_X10_has : MI := (⟨"RopesAtDawnModel", "has", "(II)Z"⟩, prog_12_method_5_code, 2, some (.boolean))
def tb_X10_has : List (Nat × Instr × Nat × Nat) := [(0, .iload_n 0, 1, 1), (1, .iload_n 1, 1, 2), (2, .ishr, 1, 3), (3, .iconst 1, 1, 4), (4, .iand, 1, 5), (5, .iconst 1, 1, 6), (6, .if_icmp .ne 7, 3, 9), (9, .iconst 1, 1, 10), (10, .goto 4, 3, 13), (13, .iconst 0, 1, 14), (14, .ireturn, 1, 15)]
theorem tk_X10_has : Tk mi_X10_has.2.1 tb_X10_has := Tk.of (by decide +kernel)
abbrev mi_X10_copy : MI := (⟨"RopesAtDawnModel", "copy", "([I[I)V"⟩, prog_12_method_6_code, 3, none)
def tb_X10_copy : List (Nat × Instr × Nat × Nat) := [(0, .iconst 0, 1, 1), (1, .istore_n 2, 1, 2), (2, .iload_n 2, 1, 3), (3, .sipush 314, 3, 6), (6, .if_icmp .ge 15, 3, 9), (9, .aload_n 1, 1, 10), (10, .iload_n 2, 1, 11), (11, .aload_n 0, 1, 12), (12, .iload_n 2, 1, 13), (13, .iaload, 1, 14), (14, .iastore, 1, 15), (15, .iinc 2 1, 3, 18), (18, .goto (-16), 3, 21), (21, .return_, 1, 22)]
theorem tk_X10_copy : Tk mi_X10_copy.2.1 tb_X10_copy := Tk.of (by decide +kernel)
abbrev mi_X10_become : MI := (⟨"RopesAtDawnModel", "become", "(II)I"⟩, prog_12_method_7_code, 4, some (.int))
def tb_X10_become : List (Nat × Instr × Nat × Nat) := [(0, .aload_n 0, 1, 1), (1, .getfield 9, 3, 4), (4, .iload_n 1, 1, 5), (5, .iaload, 1, 6), (6, .istore_n 3, 1, 7), (7, .aload_n 0, 1, 8), (8, .getfield 9, 3, 11), (11, .iload_n 1, 1, 12), (12, .iload_n 2, 1, 13), (13, .iastore, 1, 14), (14, .iload_n 3, 1, 15), (15, .ireturn, 1, 16)]
theorem tk_X10_become : Tk mi_X10_become.2.1 tb_X10_become := Tk.of (by decide +kernel)
abbrev mi_X10_back : MI := (⟨"RopesAtDawnModel", "back", "(I)I"⟩, prog_12_method_8_code, 2, some (.int))
def tb_X10_back : List (Nat × Instr × Nat × Nat) := [(0, .aload_n 0, 1, 1), (1, .getfield 16, 3, 4), (4, .aload_n 0, 1, 5), (5, .getfield 9, 3, 8), (8, .invokestatic 73, 3, 11), (11, .iload_n 1, 1, 12), (12, .ireturn, 1, 13)]
theorem tk_X10_back : Tk mi_X10_back.2.1 tb_X10_back := Tk.of (by decide +kernel)
abbrev mi_X10_of : MI := (⟨"RopesAtDawnModel", "of", "(II)I"⟩, prog_12_method_9_code, 3, some (.int))
def tb_X10_of : List (Nat × Instr × Nat × Nat) := [(0, .aload_n 0, 1, 1), (1, .getfield 9, 3, 4), (4, .bipush 8, 2, 6), (6, .iconst 4, 1, 7), (7, .iload_n 1, 1, 8), (8, .imul, 1, 9), (9, .iadd, 1, 10), (10, .iload_n 2, 1, 11), (11, .iadd, 1, 12), (12, .iaload, 1, 13), (13, .ireturn, 1, 14)]
theorem tk_X10_of : Tk mi_X10_of.2.1 tb_X10_of := Tk.of (by decide +kernel)
abbrev mi_X10_isAsTold : MI := (⟨"RopesAtDawnModel", "isAsTold", "(IIII)Z"⟩, prog_12_method_10_code, 4, some (.boolean))
def tb_X10_isAsTold : List (Nat × Instr × Nat × Nat) := [(0, .iload_n 0, 1, 1), (1, .bipush 30, 2, 3), (3, .sipush 300, 3, 6), (6, .invokestatic 69, 3, 9), (9, .ifCond .eq 37, 3, 12), (12, .iload_n 1, 1, 13), (13, .iconst 0, 1, 14), (14, .sipush 999, 3, 17), (17, .invokestatic 69, 3, 20), (20, .ifCond .eq 26, 3, 23), (23, .iload_n 2, 1, 24), (24, .iconst 1, 1, 25), (25, .bipush 60, 2, 27), (27, .invokestatic 69, 3, 30), (30, .ifCond .eq 16, 3, 33), (33, .iload_n 3, 1, 34), (34, .iconst 0, 1, 35), (35, .iconst 1, 1, 36), (36, .invokestatic 69, 3, 39), (39, .ifCond .eq 7, 3, 42), (42, .iconst 1, 1, 43), (43, .goto 4, 3, 46), (46, .iconst 0, 1, 47), (47, .ireturn, 1, 48)]
theorem tk_X10_isAsTold : Tk mi_X10_isAsTold.2.1 tb_X10_isAsTold := Tk.of (by decide +kernel)
abbrev mi_X10_comes : MI := (⟨"RopesAtDawnModel", "comes", "(IIII)V"⟩, prog_12_method_11_code, 6, none)
def tb_X10_comes : List (Nat × Instr × Nat × Nat) := [(0, .bipush 8, 2, 2), (2, .iconst 4, 1, 3), (3, .aload_n 0, 1, 4), (4, .getfield 9, 3, 7), (7, .iconst 1, 1, 8), (8, .iaload, 1, 9), (9, .imul, 1, 10), (10, .iadd, 1, 11), (11, .istore 5, 2, 13), (13, .aload_n 0, 1, 14), (14, .getfield 9, 3, 17), (17, .iload 5, 2, 19), (19, .iload_n 1, 1, 20), (20, .iastore, 1, 21), (21, .aload_n 0, 1, 22), (22, .getfield 9, 3, 25), (25, .iload 5, 2, 27), (27, .iconst 1, 1, 28), (28, .iadd, 1, 29), (29, .iload_n 2, 1, 30), (30, .iastore, 1, 31), (31, .aload_n 0, 1, 32), (32, .getfield 9, 3, 35), (35, .iload 5, 2, 37), (37, .iconst 2, 1, 38), (38, .iadd, 1, 39), (39, .iload_n 3, 1, 40), (40, .iastore, 1, 41), (41, .aload_n 0, 1, 42), (42, .getfield 9, 3, 45), (45, .iload 5, 2, 47), (47, .iconst 3, 1, 48), (48, .iadd, 1, 49), (49, .iload 4, 2, 51), (51, .iastore, 1, 52), (52, .aload_n 0, 1, 53), (53, .getfield 9, 3, 56), (56, .iconst 1, 1, 57), (57, .dup2, 1, 58), (58, .iaload, 1, 59), (59, .iconst 1, 1, 60), (60, .iadd, 1, 61), (61, .iastore, 1, 62), (62, .return_, 1, 63)]
theorem tk_X10_comes : Tk mi_X10_comes.2.1 tb_X10_comes := Tk.of (by decide +kernel)
abbrev mi_X10_person : MI := (⟨"RopesAtDawnModel", "person", "(IIII)I"⟩, prog_12_method_12_code, 5, some (.int))
def tb_X10_person : List (Nat × Instr × Nat × Nat) := [(0, .iload_n 1, 1, 1), (1, .iload_n 2, 1, 2), (2, .iload_n 3, 1, 3), (3, .iload 4, 2, 5), (5, .invokestatic 77, 3, 8), (8, .ifCond .ne 10, 3, 11), (11, .aload_n 0, 1, 12), (12, .ldc 81, 2, 14), (14, .invokevirtual 82, 3, 17), (17, .ireturn, 1, 18), (18, .aload_n 0, 1, 19), (19, .getfield 9, 3, 22), (22, .iconst 1, 1, 23), (23, .iaload, 1, 24), (24, .bipush 10, 2, 26), (26, .if_icmp .ne 10, 3, 29), (29, .aload_n 0, 1, 30), (30, .ldc 86, 2, 32), (32, .invokevirtual 82, 3, 35), (35, .ireturn, 1, 36), (36, .aload_n 0, 1, 37), (37, .iload_n 1, 1, 38), (38, .iload_n 2, 1, 39), (39, .iload_n 3, 1, 40), (40, .iload 4, 2, 42), (42, .invokevirtual 87, 3, 45), (45, .aload_n 0, 1, 46), (46, .getfield 9, 3, 49), (49, .iconst 1, 1, 50), (50, .iaload, 1, 51), (51, .iconst 1, 1, 52), (52, .isub, 1, 53), (53, .ireturn, 1, 54)]
theorem tk_X10_person : Tk mi_X10_person.2.1 tb_X10_person := Tk.of (by decide +kernel)
abbrev mi_X10_ofPerson : MI := (⟨"RopesAtDawnModel", "ofPerson", "(II)I"⟩, prog_12_method_13_code, 3, some (.int))
def tb_X10_ofPerson : List (Nat × Instr × Nat × Nat) := [(0, .aload_n 0, 1, 1), (1, .iload_n 1, 1, 2), (2, .iconst 1, 1, 3), (3, .invokevirtual 90, 3, 6), (6, .ifCond .eq 12, 3, 9), (9, .iload_n 2, 1, 10), (10, .iconst 0, 1, 11), (11, .iconst 5, 1, 12), (12, .invokestatic 69, 3, 15), (15, .ifCond .ne 10, 3, 18), (18, .aload_n 0, 1, 19), (19, .ldc 81, 2, 21), (21, .invokevirtual 82, 3, 24), (24, .ireturn, 1, 25), (25, .iload_n 2, 1, 26), (26, .iconst 4, 1, 27), (27, .if_icmp .ge 12, 3, 30), (30, .aload_n 0, 1, 31), (31, .iload_n 1, 1, 32), (32, .iload_n 2, 1, 33), (33, .invokevirtual 94, 3, 36), (36, .goto 21, 3, 39), (39, .iload_n 2, 1, 40), (40, .iconst 4, 1, 41), (41, .if_icmp .ne 11, 3, 44), (44, .aload_n 0, 1, 45), (45, .iload_n 1, 1, 46), (46, .invokevirtual 98, 3, 49), (49, .goto 8, 3, 52), (52, .aload_n 0, 1, 53), (53, .iload_n 1, 1, 54), (54, .invokevirtual 101, 3, 57), (57, .ireturn, 1, 58)]
theorem tk_X10_ofPerson : Tk mi_X10_ofPerson.2.1 tb_X10_ofPerson := Tk.of (by decide +kernel)
abbrev mi_X10_people : MI := (⟨"RopesAtDawnModel", "people", "(I)I"⟩, prog_12_method_14_code, 4, some (.int))
def tb_X10_people : List (Nat × Instr × Nat × Nat) := [(0, .iload_n 1, 1, 1), (1, .invokestatic 104, 3, 4), (4, .ifCond .ne 10, 3, 7), (7, .aload_n 0, 1, 8), (8, .ldc 81, 2, 10), (10, .invokevirtual 82, 3, 13), (13, .ireturn, 1, 14), (14, .aload_n 0, 1, 15), (15, .getfield 56, 3, 18), (18, .iload_n 1, 1, 19), (19, .iaload, 1, 20), (20, .ifCond .ne 10, 3, 23), (23, .aload_n 0, 1, 24), (24, .ldc 108, 2, 26), (26, .invokevirtual 82, 3, 29), (29, .ireturn, 1, 30), (30, .iconst 0, 1, 31), (31, .istore_n 2, 1, 32), (32, .bipush 40, 2, 34), (34, .iload_n 1, 1, 35), (35, .imul, 1, 36), (36, .istore_n 3, 1, 37), (37, .iconst 4, 1, 38), (38, .iload_n 2, 1, 39), (39, .imul, 1, 40), (40, .iconst 4, 1, 41), (41, .iadd, 1, 42), (42, .aload_n 0, 1, 43), (43, .getfield 59, 3, 46), (46, .iload_n 1, 1, 47), (47, .iaload, 1, 48), (48, .if_icmp .gt 95, 3, 51), (51, .aload_n 0, 1, 52), (52, .getfield 9, 3, 55), (55, .iconst 1, 1, 56), (56, .iaload, 1, 57), (57, .bipush 10, 2, 59), (59, .if_icmp .ge 84, 3, 62), (62, .aload_n 0, 1, 63), (63, .getfield 62, 3, 66), (66, .iload_n 3, 1, 67), (67, .iaload, 1, 68), (68, .aload_n 0, 1, 69), (69, .getfield 62, 3, 72), (72, .iload_n 3, 1, 73), (73, .iconst 1, 1, 74), (74, .iadd, 1, 75), (75, .iaload, 1, 76), (76, .aload_n 0, 1, 77), (77, .getfield 62, 3, 80), (80, .iload_n 3, 1, 81), (81, .iconst 2, 1, 82), (82, .iadd, 1, 83), (83, .iaload, 1, 84), (84, .aload_n 0, 1, 85), (85, .getfield 62, 3, 88), (88, .iload_n 3, 1, 89), (89, .iconst 3, 1, 90), (90, .iadd, 1, 91), (91, .iaload, 1, 92), (92, .invokestatic 77, 3, 95), (95, .ifCond .ne 5, 3, 98), (98, .iload_n 2, 1, 99), (99, .ireturn, 1, 100), (100, .aload_n 0, 1, 101), (101, .aload_n 0, 1, 102), (102, .getfield 62, 3, 105), (105, .iload_n 3, 1, 106), (106, .iaload, 1, 107), (107, .aload_n 0, 1, 108), (108, .getfield 62, 3, 111), (111, .iload_n 3, 1, 112), (112, .iconst 1, 1, 113), (113, .iadd, 1, 114), (114, .iaload, 1, 115), (115, .aload_n 0, 1, 116), (116, .getfield 62, 3, 119), (119, .iload_n 3, 1, 120), (120, .iconst 2, 1, 121), (121, .iadd, 1, 122), (122, .iaload, 1, 123), (123, .aload_n 0, 1, 124), (124, .getfield 62, 3, 127), (127, .iload_n 3, 1, 128), (128, .iconst 3, 1, 129), (129, .iadd, 1, 130), (130, .iaload, 1, 131), (131, .invokevirtual 87, 3, 134), (134, .iinc 2 1, 3, 137), (137, .iinc 3 4, 3, 140), (140, .goto (-103), 3, 143), (143, .iload_n 2, 1, 144), (144, .ireturn, 1, 145)]
theorem tk_X10_people : Tk mi_X10_people.2.1 tb_X10_people := Tk.of (by decide +kernel)
abbrev mi_X10_ofPieceAt : MI := (⟨"RopesAtDawnModel", "ofPieceAt", "(II)I"⟩, prog_12_method_15_code, 3, some (.int))
def tb_X10_ofPieceAt : List (Nat × Instr × Nat × Nat) := [(0, .aload_n 0, 1, 1), (1, .getfield 9, 3, 4), (4, .bipush 48, 2, 6), (6, .iconst 4, 1, 7), (7, .iload_n 1, 1, 8), (8, .imul, 1, 9), (9, .iadd, 1, 10), (10, .iload_n 2, 1, 11), (11, .iadd, 1, 12), (12, .iaload, 1, 13), (13, .ireturn, 1, 14)]
theorem tk_X10_ofPieceAt : Tk mi_X10_ofPieceAt.2.1 tb_X10_ofPieceAt := Tk.of (by decide +kernel)
abbrev mi_X10_piece : MI := (⟨"RopesAtDawnModel", "piece", "(IIII)I"⟩, prog_12_method_16_code, 6, some (.int))
def tb_X10_piece : List (Nat × Instr × Nat × Nat) := [(0, .iload_n 1, 1, 1), (1, .bipush (-5), 2, 3), (3, .iconst 5, 1, 4), (4, .invokestatic 69, 3, 7), (7, .ifCond .eq 35, 3, 10), (10, .iload_n 2, 1, 11), (11, .iconst 0, 1, 12), (12, .sipush 999, 3, 15), (15, .invokestatic 69, 3, 18), (18, .ifCond .eq 24, 3, 21), (21, .iload_n 3, 1, 22), (22, .iconst 0, 1, 23), (23, .bipush 99, 2, 25), (25, .invokestatic 69, 3, 28), (28, .ifCond .eq 14, 3, 31), (31, .iload 4, 2, 33), (33, .iconst 1, 1, 34), (34, .bipush 40, 2, 36), (36, .invokestatic 69, 3, 39), (39, .ifCond .ne 10, 3, 42), (42, .aload_n 0, 1, 43), (43, .ldc 81, 2, 45), (45, .invokevirtual 82, 3, 48), (48, .ireturn, 1, 49), (49, .aload_n 0, 1, 50), (50, .getfield 9, 3, 53), (53, .iconst 2, 1, 54), (54, .iaload, 1, 55), (55, .istore 5, 2, 57), (57, .iload 5, 2, 59), (59, .bipush 8, 2, 61), (61, .if_icmp .ne 10, 3, 64), (64, .aload_n 0, 1, 65), (65, .ldc 86, 2, 67), (67, .invokevirtual 82, 3, 70), (70, .ireturn, 1, 71), (71, .aload_n 0, 1, 72), (72, .getfield 9, 3, 75), (75, .bipush 48, 2, 77), (77, .iconst 4, 1, 78), (78, .iload 5, 2, 80), (80, .imul, 1, 81), (81, .iadd, 1, 82), (82, .iconst 0, 1, 83), (83, .iadd, 1, 84), (84, .iload_n 1, 1, 85), (85, .iastore, 1, 86), (86, .aload_n 0, 1, 87), (87, .getfield 9, 3, 90), (90, .bipush 48, 2, 92), (92, .iconst 4, 1, 93), (93, .iload 5, 2, 95), (95, .imul, 1, 96), (96, .iadd, 1, 97), (97, .iconst 1, 1, 98), (98, .iadd, 1, 99), (99, .iload_n 2, 1, 100), (100, .iastore, 1, 101), (101, .aload_n 0, 1, 102), (102, .getfield 9, 3, 105), (105, .bipush 48, 2, 107), (107, .iconst 4, 1, 108), (108, .iload 5, 2, 110), (110, .imul, 1, 111), (111, .iadd, 1, 112), (112, .iconst 2, 1, 113), (113, .iadd, 1, 114), (114, .iload_n 3, 1, 115), (115, .iastore, 1, 116), (116, .aload_n 0, 1, 117), (117, .getfield 9, 3, 120), (120, .bipush 48, 2, 122), (122, .iconst 4, 1, 123), (123, .iload 5, 2, 125), (125, .imul, 1, 126), (126, .iadd, 1, 127), (127, .iconst 3, 1, 128), (128, .iadd, 1, 129), (129, .iload 4, 2, 131), (131, .iastore, 1, 132), (132, .aload_n 0, 1, 133), (133, .getfield 9, 3, 136), (136, .iconst 2, 1, 137), (137, .dup2, 1, 138), (138, .iaload, 1, 139), (139, .iconst 1, 1, 140), (140, .iadd, 1, 141), (141, .iastore, 1, 142), (142, .iload 5, 2, 144), (144, .ireturn, 1, 145)]
theorem tk_X10_piece : Tk mi_X10_piece.2.1 tb_X10_piece := Tk.of (by decide +kernel)
abbrev mi_X10_ofPiece : MI := (⟨"RopesAtDawnModel", "ofPiece", "(II)I"⟩, prog_12_method_17_code, 3, some (.int))
def tb_X10_ofPiece : List (Nat × Instr × Nat × Nat) := [(0, .aload_n 0, 1, 1), (1, .iload_n 1, 1, 2), (2, .iconst 2, 1, 3), (3, .invokevirtual 90, 3, 6), (6, .ifCond .eq 21, 3, 9), (9, .iload_n 2, 1, 10), (10, .iconst 0, 1, 11), (11, .iconst 3, 1, 12), (12, .invokestatic 69, 3, 15), (15, .ifCond .eq 12, 3, 18), (18, .aload_n 0, 1, 19), (19, .iload_n 1, 1, 20), (20, .iload_n 2, 1, 21), (21, .invokevirtual 109, 3, 24), (24, .goto 9, 3, 27), (27, .aload_n 0, 1, 28), (28, .ldc 81, 2, 30), (30, .invokevirtual 82, 3, 33), (33, .ireturn, 1, 34)]
theorem tk_X10_ofPiece : Tk mi_X10_ofPiece.2.1 tb_X10_ofPiece := Tk.of (by decide +kernel)
abbrev mi_X10_start : MI := (⟨"RopesAtDawnModel", "start", "(I)I"⟩, prog_12_method_18_code, 2, some (.int))
def tb_X10_start : List (Nat × Instr × Nat × Nat) := [(0, .iload_n 1, 1, 1), (1, .iconst 0, 1, 2), (2, .sipush 1439, 3, 5), (5, .invokestatic 69, 3, 8), (8, .ifCond .eq 12, 3, 11), (11, .aload_n 0, 1, 12), (12, .iconst 0, 1, 13), (13, .iload_n 1, 1, 14), (14, .invokevirtual 112, 3, 17), (17, .goto 9, 3, 20), (20, .aload_n 0, 1, 21), (21, .ldc 81, 2, 23), (23, .invokevirtual 82, 3, 26), (26, .ireturn, 1, 27)]
theorem tk_X10_start : Tk mi_X10_start.2.1 tb_X10_start := Tk.of (by decide +kernel)
abbrev mi_X10_rope : MI := (⟨"RopesAtDawnModel", "rope", "(II)I"⟩, prog_12_method_19_code, 3, some (.int))
def tb_X10_rope : List (Nat × Instr × Nat × Nat) := [(0, .aload_n 0, 1, 1), (1, .getfield 9, 3, 4), (4, .bipush 80, 2, 6), (6, .bipush 9, 2, 8), (8, .iload_n 1, 1, 9), (9, .imul, 1, 10), (10, .iadd, 1, 11), (11, .iload_n 2, 1, 12), (12, .iadd, 1, 13), (13, .iaload, 1, 14), (14, .ireturn, 1, 15)]
theorem tk_X10_rope : Tk mi_X10_rope.2.1 tb_X10_rope := Tk.of (by decide +kernel)
abbrev mi_X10_many : MI := (⟨"RopesAtDawnModel", "many", "(I)I"⟩, prog_12_method_20_code, 2, some (.int))
def tb_X10_many : List (Nat × Instr × Nat × Nat) := [(0, .aload_n 0, 1, 1), (1, .iload_n 1, 1, 2), (2, .iconst 3, 1, 3), (3, .invokevirtual 115, 3, 6), (6, .ireturn, 1, 7)]
theorem tk_X10_many : Tk mi_X10_many.2.1 tb_X10_many := Tk.of (by decide +kernel)
abbrev mi_X10_who : MI := (⟨"RopesAtDawnModel", "who", "(II)I"⟩, prog_12_method_21_code, 3, some (.int))
def tb_X10_who : List (Nat × Instr × Nat × Nat) := [(0, .aload_n 0, 1, 1), (1, .iload_n 1, 1, 2), (2, .iconst 4, 1, 3), (3, .iload_n 2, 1, 4), (4, .iadd, 1, 5), (5, .invokevirtual 115, 3, 8), (8, .ireturn, 1, 9)]
theorem tk_X10_who : Tk mi_X10_who.2.1 tb_X10_who := Tk.of (by decide +kernel)
abbrev mi_X10_seats : MI := (⟨"RopesAtDawnModel", "seats", "(III)V"⟩, prog_12_method_22_code, 4, none)
def tb_X10_seats : List (Nat × Instr × Nat × Nat) := [(0, .aload_n 0, 1, 1), (1, .getfield 9, 3, 4), (4, .bipush 80, 2, 6), (6, .bipush 9, 2, 8), (8, .iload_n 1, 1, 9), (9, .imul, 1, 10), (10, .iadd, 1, 11), (11, .iconst 4, 1, 12), (12, .iadd, 1, 13), (13, .iload_n 2, 1, 14), (14, .iadd, 1, 15), (15, .iload_n 3, 1, 16), (16, .iastore, 1, 17), (17, .return_, 1, 18)]
theorem tk_X10_seats : Tk mi_X10_seats.2.1 tb_X10_seats := Tk.of (by decide +kernel)
abbrev mi_X10_ropeOf : MI := (⟨"RopesAtDawnModel", "ropeOf", "(I)I"⟩, prog_12_method_23_code, 5, some (.int))
def tb_X10_ropeOf : List (Nat × Instr × Nat × Nat) := [(0, .iconst (-1), 1, 1), (1, .istore_n 2, 1, 2), (2, .iconst 0, 1, 3), (3, .istore_n 3, 1, 4), (4, .iload_n 3, 1, 5), (5, .aload_n 0, 1, 6), (6, .getfield 9, 3, 9), (9, .iconst 3, 1, 10), (10, .iaload, 1, 11), (11, .if_icmp .ge 45, 3, 14), (14, .iconst 0, 1, 15), (15, .istore 4, 2, 17), (17, .iload 4, 2, 19), (19, .aload_n 0, 1, 20), (20, .iload_n 3, 1, 21), (21, .invokevirtual 118, 3, 24), (24, .if_icmp .ge 26, 3, 27), (27, .aload_n 0, 1, 28), (28, .iload_n 3, 1, 29), (29, .iload 4, 2, 31), (31, .invokevirtual 121, 3, 34), (34, .iload_n 1, 1, 35), (35, .if_icmp .ne 7, 3, 38), (38, .iload_n 3, 1, 39), (39, .goto 4, 3, 42), (42, .iload_n 2, 1, 43), (43, .istore_n 2, 1, 44), (44, .iinc 4 1, 3, 47), (47, .goto (-30), 3, 50), (50, .iinc 3 1, 3, 53), (53, .goto (-49), 3, 56), (56, .iload_n 2, 1, 57), (57, .ireturn, 1, 58)]
theorem tk_X10_ropeOf : Tk mi_X10_ropeOf.2.1 tb_X10_ropeOf := Tk.of (by decide +kernel)
abbrev mi_X10_placeOf : MI := (⟨"RopesAtDawnModel", "placeOf", "(I)I"⟩, prog_12_method_24_code, 5, some (.int))
def tb_X10_placeOf : List (Nat × Instr × Nat × Nat) := [(0, .aload_n 0, 1, 1), (1, .iload_n 1, 1, 2), (2, .invokevirtual 98, 3, 5), (5, .istore_n 2, 1, 6), (6, .iconst (-1), 1, 7), (7, .istore_n 3, 1, 8), (8, .iconst 0, 1, 9), (9, .istore 4, 2, 11), (11, .iload_n 2, 1, 12), (12, .ifCond .lt 37, 3, 15), (15, .iload 4, 2, 17), (17, .aload_n 0, 1, 18), (18, .iload_n 2, 1, 19), (19, .invokevirtual 118, 3, 22), (22, .if_icmp .ge 27, 3, 25), (25, .aload_n 0, 1, 26), (26, .iload_n 2, 1, 27), (27, .iload 4, 2, 29), (29, .invokevirtual 121, 3, 32), (32, .iload_n 1, 1, 33), (33, .if_icmp .ne 8, 3, 36), (36, .iload 4, 2, 38), (38, .goto 4, 3, 41), (41, .iload_n 3, 1, 42), (42, .istore_n 3, 1, 43), (43, .iinc 4 1, 3, 46), (46, .goto (-35), 3, 49), (49, .iload_n 3, 1, 50), (50, .ireturn, 1, 51)]
theorem tk_X10_placeOf : Tk mi_X10_placeOf.2.1 tb_X10_placeOf := Tk.of (by decide +kernel)
abbrev mi_X10_inLine : MI := (⟨"RopesAtDawnModel", "inLine", "(I)I"⟩, prog_12_method_25_code, 4, some (.int))
def tb_X10_inLine : List (Nat × Instr × Nat × Nat) := [(0, .iconst (-1), 1, 1), (1, .istore_n 2, 1, 2), (2, .iconst 0, 1, 3), (3, .istore_n 3, 1, 4), (4, .iload_n 3, 1, 5), (5, .aload_n 0, 1, 6), (6, .getfield 9, 3, 9), (9, .iconst 4, 1, 10), (10, .iaload, 1, 11), (11, .if_icmp .ge 29, 3, 14), (14, .aload_n 0, 1, 15), (15, .getfield 9, 3, 18), (18, .sipush 134, 3, 21), (21, .iload_n 3, 1, 22), (22, .iadd, 1, 23), (23, .iaload, 1, 24), (24, .iload_n 1, 1, 25), (25, .if_icmp .ne 7, 3, 28), (28, .iload_n 3, 1, 29), (29, .goto 4, 3, 32), (32, .iload_n 2, 1, 33), (33, .istore_n 2, 1, 34), (34, .iinc 3 1, 3, 37), (37, .goto (-33), 3, 40), (40, .iload_n 2, 1, 41), (41, .ireturn, 1, 42)]
theorem tk_X10_inLine : Tk mi_X10_inLine.2.1 tb_X10_inLine := Tk.of (by decide +kernel)
abbrev mi_X10_isSpace : MI := (⟨"RopesAtDawnModel", "isSpace", "(I)Z"⟩, prog_12_method_26_code, 1, some (.boolean))
def tb_X10_isSpace : List (Nat × Instr × Nat × Nat) := [(0, .iload_n 0, 1, 1), (1, .iconst 1, 1, 2), (2, .bipush 20, 2, 4), (4, .invokestatic 69, 3, 7), (7, .ireturn, 1, 8)]
theorem tk_X10_isSpace : Tk mi_X10_isSpace.2.1 tb_X10_isSpace := Tk.of (by decide +kernel)
abbrev mi_X10_rope_ : MI := (⟨"RopesAtDawnModel", "rope", "(III)I"⟩, prog_12_method_27_code, 6, some (.int))
def tb_X10_rope_ : List (Nat × Instr × Nat × Nat) := [(0, .iload_n 1, 1, 1), (1, .iconst 0, 1, 2), (2, .bipush 6, 2, 4), (4, .invokestatic 69, 3, 7), (7, .ifCond .eq 20, 3, 10), (10, .iload_n 2, 1, 11), (11, .invokestatic 124, 3, 14), (14, .ifCond .eq 13, 3, 17), (17, .iload_n 3, 1, 18), (18, .iconst 0, 1, 19), (19, .bipush 9, 2, 21), (21, .invokestatic 69, 3, 24), (24, .ifCond .ne 10, 3, 27), (27, .aload_n 0, 1, 28), (28, .ldc 81, 2, 30), (30, .invokevirtual 82, 3, 33), (33, .ireturn, 1, 34), (34, .aload_n 0, 1, 35), (35, .getfield 9, 3, 38), (38, .iconst 3, 1, 39), (39, .iaload, 1, 40), (40, .istore 4, 2, 42), (42, .iload 4, 2, 44), (44, .bipush 6, 2, 46), (46, .if_icmp .ne 10, 3, 49), (49, .aload_n 0, 1, 50), (50, .ldc 86, 2, 52), (52, .invokevirtual 82, 3, 55), (55, .ireturn, 1, 56), (56, .bipush 80, 2, 58), (58, .bipush 9, 2, 60), (60, .iload 4, 2, 62), (62, .imul, 1, 63), (63, .iadd, 1, 64), (64, .istore 5, 2, 66), (66, .aload_n 0, 1, 67), (67, .getfield 9, 3, 70), (70, .iload 5, 2, 72), (72, .iconst 0, 1, 73), (73, .iadd, 1, 74), (74, .iload_n 1, 1, 75), (75, .iastore, 1, 76), (76, .aload_n 0, 1, 77), (77, .getfield 9, 3, 80), (80, .iload 5, 2, 82), (82, .iconst 1, 1, 83), (83, .iadd, 1, 84), (84, .iload_n 2, 1, 85), (85, .iastore, 1, 86), (86, .aload_n 0, 1, 87), (87, .getfield 9, 3, 90), (90, .iload 5, 2, 92), (92, .iconst 2, 1, 93), (93, .iadd, 1, 94), (94, .iload_n 3, 1, 95), (95, .iastore, 1, 96), (96, .aload_n 0, 1, 97), (97, .getfield 9, 3, 100), (100, .iload 5, 2, 102), (102, .iconst 3, 1, 103), (103, .iadd, 1, 104), (104, .iconst 0, 1, 105), (105, .iastore, 1, 106), (106, .aload_n 0, 1, 107), (107, .getfield 9, 3, 110), (110, .iconst 3, 1, 111), (111, .dup2, 1, 112), (112, .iaload, 1, 113), (113, .iconst 1, 1, 114), (114, .iadd, 1, 115), (115, .iastore, 1, 116), (116, .iload 4, 2, 118), (118, .ireturn, 1, 119)]
theorem tk_X10_rope_ : Tk mi_X10_rope_.2.1 tb_X10_rope_ := Tk.of (by decide +kernel)
abbrev mi_X10_ties : MI := (⟨"RopesAtDawnModel", "ties", "(III)V"⟩, prog_12_method_28_code, 5, none)
def tb_X10_ties : List (Nat × Instr × Nat × Nat) := [(0, .aload_n 0, 1, 1), (1, .iload_n 1, 1, 2), (2, .invokevirtual 118, 3, 5), (5, .istore 4, 2, 7), (7, .iload 4, 2, 9), (9, .iload_n 2, 1, 10), (10, .if_icmp .le 25, 3, 13), (13, .aload_n 0, 1, 14), (14, .iload_n 1, 1, 15), (15, .iload 4, 2, 17), (17, .aload_n 0, 1, 18), (18, .iload_n 1, 1, 19), (19, .iload 4, 2, 21), (21, .iconst 1, 1, 22), (22, .isub, 1, 23), (23, .invokevirtual 121, 3, 26), (26, .invokevirtual 127, 3, 29), (29, .iinc 4 (-1), 3, 32), (32, .goto (-25), 3, 35), (35, .aload_n 0, 1, 36), (36, .iload_n 1, 1, 37), (37, .iload_n 2, 1, 38), (38, .iload_n 3, 1, 39), (39, .invokevirtual 127, 3, 42), (42, .aload_n 0, 1, 43), (43, .getfield 9, 3, 46), (46, .bipush 80, 2, 48), (48, .bipush 9, 2, 50), (50, .iload_n 1, 1, 51), (51, .imul, 1, 52), (52, .iadd, 1, 53), (53, .iconst 3, 1, 54), (54, .iadd, 1, 55), (55, .dup2, 1, 56), (56, .iaload, 1, 57), (57, .iconst 1, 1, 58), (58, .iadd, 1, 59), (59, .iastore, 1, 60), (60, .return_, 1, 61)]
theorem tk_X10_ties : Tk mi_X10_ties.2.1 tb_X10_ties := Tk.of (by decide +kernel)
abbrev mi_X10_unties : MI := (⟨"RopesAtDawnModel", "unties", "(I)V"⟩, prog_12_method_29_code, 5, none)
def tb_X10_unties : List (Nat × Instr × Nat × Nat) := [(0, .aload_n 0, 1, 1), (1, .iload_n 1, 1, 2), (2, .invokevirtual 98, 3, 5), (5, .istore_n 2, 1, 6), (6, .aload_n 0, 1, 7), (7, .iload_n 1, 1, 8), (8, .invokevirtual 101, 3, 11), (11, .istore_n 3, 1, 12), (12, .aload_n 0, 1, 13), (13, .getfield 9, 3, 16), (16, .bipush 80, 2, 18), (18, .bipush 9, 2, 20), (20, .iload_n 2, 1, 21), (21, .imul, 1, 22), (22, .iadd, 1, 23), (23, .iconst 3, 1, 24), (24, .iadd, 1, 25), (25, .dup2, 1, 26), (26, .iaload, 1, 27), (27, .iconst 1, 1, 28), (28, .isub, 1, 29), (29, .iastore, 1, 30), (30, .iload_n 3, 1, 31), (31, .istore 4, 2, 33), (33, .iload 4, 2, 35), (35, .aload_n 0, 1, 36), (36, .iload_n 2, 1, 37), (37, .invokevirtual 118, 3, 40), (40, .if_icmp .ge 25, 3, 43), (43, .aload_n 0, 1, 44), (44, .iload_n 2, 1, 45), (45, .iload 4, 2, 47), (47, .aload_n 0, 1, 48), (48, .iload_n 2, 1, 49), (49, .iload 4, 2, 51), (51, .iconst 1, 1, 52), (52, .iadd, 1, 53), (53, .invokevirtual 121, 3, 56), (56, .invokevirtual 127, 3, 59), (59, .iinc 4 1, 3, 62), (62, .goto (-29), 3, 65), (65, .return_, 1, 66)]
theorem tk_X10_unties : Tk mi_X10_unties.2.1 tb_X10_unties := Tk.of (by decide +kernel)
abbrev mi_X10_tie : MI := (⟨"RopesAtDawnModel", "tie", "(II)I"⟩, prog_12_method_30_code, 3, some (.int))
def tb_X10_tie : List (Nat × Instr × Nat × Nat) := [(0, .aload_n 0, 1, 1), (1, .iload_n 1, 1, 2), (2, .iconst 3, 1, 3), (3, .invokevirtual 90, 3, 6), (6, .ifCond .eq 12, 3, 9), (9, .aload_n 0, 1, 10), (10, .iload_n 2, 1, 11), (11, .iconst 1, 1, 12), (12, .invokevirtual 90, 3, 15), (15, .ifCond .ne 10, 3, 18), (18, .aload_n 0, 1, 19), (19, .ldc 81, 2, 21), (21, .invokevirtual 82, 3, 24), (24, .ireturn, 1, 25), (25, .aload_n 0, 1, 26), (26, .iload_n 2, 1, 27), (27, .invokevirtual 98, 3, 30), (30, .ifCond .lt 10, 3, 33), (33, .aload_n 0, 1, 34), (34, .ldc 131, 2, 36), (36, .invokevirtual 82, 3, 39), (39, .ireturn, 1, 40), (40, .aload_n 0, 1, 41), (41, .iload_n 1, 1, 42), (42, .invokevirtual 118, 3, 45), (45, .iconst 5, 1, 46), (46, .if_icmp .ne 10, 3, 49), (49, .aload_n 0, 1, 50), (50, .ldc 86, 2, 52), (52, .invokevirtual 82, 3, 55), (55, .ireturn, 1, 56), (56, .aload_n 0, 1, 57), (57, .iload_n 1, 1, 58), (58, .aload_n 0, 1, 59), (59, .iload_n 1, 1, 60), (60, .invokevirtual 118, 3, 63), (63, .iload_n 2, 1, 64), (64, .invokevirtual 132, 3, 67), (67, .aload_n 0, 1, 68), (68, .iload_n 1, 1, 69), (69, .invokevirtual 118, 3, 72), (72, .iconst 1, 1, 73), (73, .isub, 1, 74), (74, .ireturn, 1, 75)]
theorem tk_X10_tie : Tk mi_X10_tie.2.1 tb_X10_tie := Tk.of (by decide +kernel)
abbrev mi_X10_untie : MI := (⟨"RopesAtDawnModel", "untie", "(I)I"⟩, prog_12_method_31_code, 3, some (.int))
def tb_X10_untie : List (Nat × Instr × Nat × Nat) := [(0, .aload_n 0, 1, 1), (1, .iload_n 1, 1, 2), (2, .iconst 1, 1, 3), (3, .invokevirtual 90, 3, 6), (6, .ifCond .ne 10, 3, 9), (9, .aload_n 0, 1, 10), (10, .ldc 81, 2, 12), (12, .invokevirtual 82, 3, 15), (15, .ireturn, 1, 16), (16, .aload_n 0, 1, 17), (17, .iload_n 1, 1, 18), (18, .invokevirtual 98, 3, 21), (21, .istore_n 2, 1, 22), (22, .iload_n 2, 1, 23), (23, .ifCond .ge 10, 3, 26), (26, .aload_n 0, 1, 27), (27, .ldc 108, 2, 29), (29, .invokevirtual 82, 3, 32), (32, .ireturn, 1, 33), (33, .aload_n 0, 1, 34), (34, .iload_n 1, 1, 35), (35, .invokevirtual 135, 3, 38), (38, .iload_n 2, 1, 39), (39, .ireturn, 1, 40)]
theorem tk_X10_untie : Tk mi_X10_untie.2.1 tb_X10_untie := Tk.of (by decide +kernel)
abbrev mi_X10_ofRope : MI := (⟨"RopesAtDawnModel", "ofRope", "(II)I"⟩, prog_12_method_32_code, 3, some (.int))
def tb_X10_ofRope : List (Nat × Instr × Nat × Nat) := [(0, .aload_n 0, 1, 1), (1, .iload_n 1, 1, 2), (2, .iconst 3, 1, 3), (3, .invokevirtual 90, 3, 6), (6, .ifCond .eq 13, 3, 9), (9, .iload_n 2, 1, 10), (10, .iconst 0, 1, 11), (11, .bipush 9, 2, 13), (13, .invokestatic 69, 3, 16), (16, .ifCond .ne 10, 3, 19), (19, .aload_n 0, 1, 20), (20, .ldc 81, 2, 22), (22, .invokevirtual 82, 3, 25), (25, .ireturn, 1, 26), (26, .iload_n 2, 1, 27), (27, .iconst 4, 1, 28), (28, .if_icmp .ge 10, 3, 31), (31, .aload_n 0, 1, 32), (32, .iload_n 1, 1, 33), (33, .iload_n 2, 1, 34), (34, .invokevirtual 115, 3, 37), (37, .ireturn, 1, 38), (38, .iload_n 2, 1, 39), (39, .iconst 4, 1, 40), (40, .if_icmp .ne 11, 3, 43), (43, .aload_n 0, 1, 44), (44, .iload_n 1, 1, 45), (45, .invokevirtual 139, 3, 48), (48, .goto 26, 3, 51), (51, .iload_n 2, 1, 52), (52, .iconst 5, 1, 53), (53, .isub, 1, 54), (54, .aload_n 0, 1, 55), (55, .iload_n 1, 1, 56), (56, .invokevirtual 118, 3, 59), (59, .if_icmp .ge 14, 3, 62), (62, .aload_n 0, 1, 63), (63, .iload_n 1, 1, 64), (64, .iload_n 2, 1, 65), (65, .iconst 5, 1, 66), (66, .isub, 1, 67), (67, .invokevirtual 121, 3, 70), (70, .goto 4, 3, 73), (73, .iconst (-1), 1, 74), (74, .ireturn, 1, 75)]
theorem tk_X10_ofRope : Tk mi_X10_ofRope.2.1 tb_X10_ofRope := Tk.of (by decide +kernel)
abbrev mi_X10_above : MI := (⟨"RopesAtDawnModel", "above", "(I)I"⟩, prog_12_method_33_code, 1, some (.int))
def tb_X10_above : List (Nat × Instr × Nat × Nat) := [(0, .iload_n 0, 1, 1), (1, .ifCond .ne 7, 3, 4), (4, .iconst (-1), 1, 5), (5, .goto 22, 3, 8), (8, .iload_n 0, 1, 9), (9, .iconst 3, 1, 10), (10, .if_icmp .ne 7, 3, 13), (13, .iconst 2, 1, 14), (14, .goto 13, 3, 17), (17, .iload_n 0, 1, 18), (18, .iconst 5, 1, 19), (19, .if_icmp .ne 7, 3, 22), (22, .iconst 4, 1, 23), (23, .goto 4, 3, 26), (26, .iconst 0, 1, 27), (27, .ireturn, 1, 28)]
theorem tk_X10_above : Tk mi_X10_above.2.1 tb_X10_above := Tk.of (by decide +kernel)
abbrev mi_X10_as : MI := (⟨"RopesAtDawnModel", "as", "(II)I"⟩, prog_12_method_34_code, 4, some (.int))
def tb_X10_as : List (Nat × Instr × Nat × Nat) := [(0, .aload_n 0, 1, 1), (1, .iload_n 1, 1, 2), (2, .iconst 3, 1, 3), (3, .invokevirtual 90, 3, 6), (6, .ifCond .eq 13, 3, 9), (9, .iload_n 2, 1, 10), (10, .iconst 0, 1, 11), (11, .bipush 6, 2, 13), (13, .invokestatic 69, 3, 16), (16, .ifCond .ne 10, 3, 19), (19, .aload_n 0, 1, 20), (20, .ldc 81, 2, 22), (22, .invokevirtual 82, 3, 25), (25, .ireturn, 1, 26), (26, .aload_n 0, 1, 27), (27, .iload_n 1, 1, 28), (28, .iconst 0, 1, 29), (29, .invokevirtual 115, 3, 32), (32, .istore_n 3, 1, 33), (33, .iload_n 3, 1, 34), (34, .ifCond .lt 16, 3, 37), (37, .iload_n 3, 1, 38), (38, .iload_n 2, 1, 39), (39, .if_icmp .eq 11, 3, 42), (42, .iload_n 3, 1, 43), (43, .invokestatic 142, 3, 46), (46, .istore_n 3, 1, 47), (47, .goto (-14), 3, 50), (50, .iload_n 3, 1, 51), (51, .ifCond .ge 12, 3, 54), (54, .aload_n 0, 1, 55), (55, .ldc 145, 2, 57), (57, .invokevirtual 82, 3, 60), (60, .goto 9, 3, 63), (63, .aload_n 0, 1, 64), (64, .iload_n 1, 1, 65), (65, .iconst 2, 1, 66), (66, .invokevirtual 115, 3, 69), (69, .ireturn, 1, 70)]
theorem tk_X10_as : Tk mi_X10_as.2.1 tb_X10_as := Tk.of (by decide +kernel)
abbrev mi_X10_set : MI := (⟨"RopesAtDawnModel", "set", "(III)I"⟩, prog_12_method_35_code, 5, some (.int))
def tb_X10_set : List (Nat × Instr × Nat × Nat) := [(0, .aload_n 0, 1, 1), (1, .iload_n 1, 1, 2), (2, .iconst 3, 1, 3), (3, .invokevirtual 90, 3, 6), (6, .ifCond .eq 40, 3, 9), (9, .iload_n 2, 1, 10), (10, .iconst 0, 1, 11), (11, .iconst 1, 1, 12), (12, .invokestatic 69, 3, 15), (15, .ifCond .eq 31, 3, 18), (18, .iload_n 2, 1, 19), (19, .ifCond .ne 13, 3, 22), (22, .iload_n 3, 1, 23), (23, .invokestatic 124, 3, 26), (26, .ifCond .eq 20, 3, 29), (29, .goto 13, 3, 32), (32, .iload_n 3, 1, 33), (33, .iconst 0, 1, 34), (34, .bipush 9, 2, 36), (36, .invokestatic 69, 3, 39), (39, .ifCond .eq 7, 3, 42), (42, .iconst 1, 1, 43), (43, .goto 4, 3, 46), (46, .iconst 0, 1, 47), (47, .istore 4, 2, 49), (49, .iload 4, 2, 51), (51, .ifCond .eq 22, 3, 54), (54, .aload_n 0, 1, 55), (55, .bipush 80, 2, 57), (57, .bipush 9, 2, 59), (59, .iload_n 1, 1, 60), (60, .imul, 1, 61), (61, .iadd, 1, 62), (62, .iconst 1, 1, 63), (63, .iadd, 1, 64), (64, .iload_n 2, 1, 65), (65, .iadd, 1, 66), (66, .iload_n 3, 1, 67), (67, .invokevirtual 112, 3, 70), (70, .goto 9, 3, 73), (73, .aload_n 0, 1, 74), (74, .ldc 81, 2, 76), (76, .invokevirtual 82, 3, 79), (79, .ireturn, 1, 80)]
theorem tk_X10_set : Tk mi_X10_set.2.1 tb_X10_set := Tk.of (by decide +kernel)
abbrev mi_X10_swap : MI := (⟨"RopesAtDawnModel", "swap", "(II)I"⟩, prog_12_method_36_code, 7, some (.int))
def tb_X10_swap : List (Nat × Instr × Nat × Nat) := [(0, .aload_n 0, 1, 1), (1, .iload_n 1, 1, 2), (2, .iconst 1, 1, 3), (3, .invokevirtual 90, 3, 6), (6, .ifCond .eq 17, 3, 9), (9, .aload_n 0, 1, 10), (10, .iload_n 2, 1, 11), (11, .iconst 1, 1, 12), (12, .invokevirtual 90, 3, 15), (15, .ifCond .eq 8, 3, 18), (18, .iload_n 1, 1, 19), (19, .iload_n 2, 1, 20), (20, .if_icmp .ne 10, 3, 23), (23, .aload_n 0, 1, 24), (24, .ldc 81, 2, 26), (26, .invokevirtual 82, 3, 29), (29, .ireturn, 1, 30), (30, .aload_n 0, 1, 31), (31, .iload_n 1, 1, 32), (32, .invokevirtual 98, 3, 35), (35, .istore_n 3, 1, 36), (36, .aload_n 0, 1, 37), (37, .iload_n 2, 1, 38), (38, .invokevirtual 98, 3, 41), (41, .istore 4, 2, 43), (43, .iload_n 3, 1, 44), (44, .ifCond .lt 8, 3, 47), (47, .iload 4, 2, 49), (49, .ifCond .ge 10, 3, 52), (52, .aload_n 0, 1, 53), (53, .ldc 108, 2, 55), (55, .invokevirtual 82, 3, 58), (58, .ireturn, 1, 59), (59, .aload_n 0, 1, 60), (60, .iload_n 1, 1, 61), (61, .invokevirtual 101, 3, 64), (64, .istore 5, 2, 66), (66, .aload_n 0, 1, 67), (67, .iload_n 2, 1, 68), (68, .invokevirtual 101, 3, 71), (71, .istore 6, 2, 73), (73, .aload_n 0, 1, 74), (74, .iload_n 3, 1, 75), (75, .iload 5, 2, 77), (77, .iload_n 2, 1, 78), (78, .invokevirtual 127, 3, 81), (81, .aload_n 0, 1, 82), (82, .iload 4, 2, 84), (84, .iload 6, 2, 86), (86, .iload_n 1, 1, 87), (87, .invokevirtual 127, 3, 90), (90, .iconst 1, 1, 91), (91, .ireturn, 1, 92)]
theorem tk_X10_swap : Tk mi_X10_swap.2.1 tb_X10_swap := Tk.of (by decide +kernel)
abbrev mi_X10_place : MI := (⟨"RopesAtDawnModel", "place", "(II)I"⟩, prog_12_method_37_code, 5, some (.int))
def tb_X10_place : List (Nat × Instr × Nat × Nat) := [(0, .iconst 0, 1, 1), (1, .istore_n 3, 1, 2), (2, .iconst 0, 1, 3), (3, .istore 4, 2, 5), (5, .iload 4, 2, 7), (7, .iload_n 2, 1, 8), (8, .if_icmp .ge 34, 3, 11), (11, .iload_n 3, 1, 12), (12, .aload_n 0, 1, 13), (13, .getfield 146, 3, 16), (16, .aload_n 0, 1, 17), (17, .iload_n 1, 1, 18), (18, .iload 4, 2, 20), (20, .invokevirtual 121, 3, 23), (23, .invokestatic 150, 3, 26), (26, .ifCond .eq 7, 3, 29), (29, .iconst 0, 1, 30), (30, .goto 4, 3, 33), (33, .iconst 1, 1, 34), (34, .iadd, 1, 35), (35, .istore_n 3, 1, 36), (36, .iinc 4 1, 3, 39), (39, .goto (-34), 3, 42), (42, .iload_n 3, 1, 43), (43, .ireturn, 1, 44)]
theorem tk_X10_place : Tk mi_X10_place.2.1 tb_X10_place := Tk.of (by decide +kernel)
abbrev mi_X10_gripOf : MI := (⟨"RopesAtDawnModel", "gripOf", "(III)I"⟩, prog_12_method_38_code, 9, some (.int))
def tb_X10_gripOf : List (Nat × Instr × Nat × Nat) := [(0, .aload_n 0, 1, 1), (1, .iload_n 1, 1, 2), (2, .iload_n 2, 1, 3), (3, .invokevirtual 121, 3, 6), (6, .istore 4, 2, 8), (8, .aload_n 0, 1, 9), (9, .iload_n 1, 1, 10), (10, .iload_n 2, 1, 11), (11, .invokevirtual 153, 3, 14), (14, .aload_n 0, 1, 15), (15, .iload_n 1, 1, 16), (16, .iload_n 3, 1, 17), (17, .invokevirtual 153, 3, 20), (20, .isub, 1, 21), (21, .invokestatic 156, 3, 24), (24, .istore 5, 2, 26), (26, .aload_n 0, 1, 27), (27, .iload 4, 2, 29), (29, .iconst 1, 1, 30), (30, .invokevirtual 94, 3, 33), (33, .iload 5, 2, 35), (35, .idiv, 1, 36), (36, .istore 6, 2, 38), (38, .aload_n 0, 1, 39), (39, .iload 4, 2, 41), (41, .iconst 3, 1, 42), (42, .invokevirtual 94, 3, 45), (45, .iconst 1, 1, 46), (46, .if_icmp .ne 7, 3, 49), (49, .iconst 1, 1, 50), (50, .goto 4, 3, 53), (53, .iconst 0, 1, 54), (54, .istore 7, 2, 56), (56, .iload 6, 2, 58), (58, .istore 8, 2, 60), (60, .aload_n 0, 1, 61), (61, .iload_n 1, 1, 62), (62, .iconst 0, 1, 63), (63, .invokevirtual 115, 3, 66), (66, .tableswitch 171 1 6 #[38, 54, 71, 97, 116, 165], 38, 104), (104, .iload 8, 2, 106), (106, .iconst 5, 1, 107), (107, .aload_n 0, 1, 108), (108, .iload_n 1, 1, 109), (109, .iconst 1, 1, 110), (110, .invokevirtual 115, 3, 113), (113, .imul, 1, 114), (114, .iadd, 1, 115), (115, .istore 8, 2, 117), (117, .goto 120, 3, 120), (120, .iload 8, 2, 122), (122, .bipush 10, 2, 124), (124, .aload_n 0, 1, 125), (125, .iload_n 1, 1, 126), (126, .iconst 2, 1, 127), (127, .invokevirtual 115, 3, 130), (130, .imul, 1, 131), (131, .iadd, 1, 132), (132, .istore 8, 2, 134), (134, .goto 103, 3, 137), (137, .iload 8, 2, 139), (139, .bipush 10, 2, 141), (141, .aload_n 0, 1, 142), (142, .iload_n 1, 1, 143), (143, .iconst 2, 1, 144), (144, .invokevirtual 115, 3, 147), (147, .imul, 1, 148), (148, .iconst 2, 1, 149), (149, .aload_n 0, 1, 150), (150, .iload_n 1, 1, 151), (151, .iconst 1, 1, 152), (152, .invokevirtual 115, 3, 155), (155, .imul, 1, 156), (156, .isub, 1, 157), (157, .iadd, 1, 158), (158, .istore 8, 2, 160), (160, .goto 77, 3, 163), (163, .iload 8, 2, 165), (165, .iload 7, 2, 167), (167, .ifCond .eq 8, 3, 170), (170, .iload 6, 2, 172), (172, .goto 4, 3, 175), (175, .iconst 0, 1, 176), (176, .iadd, 1, 177), (177, .istore 8, 2, 179), (179, .goto 58, 3, 182), (182, .iload 8, 2, 184), (184, .iload 7, 2, 186), (186, .ifCond .eq 8, 3, 189), (189, .iload 6, 2, 191), (191, .goto 4, 3, 194), (194, .iconst 0, 1, 195), (195, .iadd, 1, 196), (196, .istore 8, 2, 198), (198, .iload 8, 2, 200), (200, .iload 7, 2, 202), (202, .ifCond .eq 22, 3, 205), (205, .aload_n 0, 1, 206), (206, .iload_n 1, 1, 207), (207, .iload_n 2, 1, 208), (208, .invokevirtual 161, 3, 211), (211, .ifCond .eq 13, 3, 214), (214, .aload_n 0, 1, 215), (215, .iload 4, 2, 217), (217, .iconst 1, 1, 218), (218, .invokevirtual 94, 3, 221), (221, .goto 4, 3, 224), (224, .iconst 0, 1, 225), (225, .iadd, 1, 226), (226, .istore 8, 2, 228), (228, .goto 9, 3, 231), (231, .iconst 0, 1, 232), (232, .istore 8, 2, 234), (234, .goto 3, 3, 237), (237, .iconst 0, 1, 238), (238, .iload 8, 2, 240), (240, .invokestatic 164, 3, 243), (243, .ireturn, 1, 244)]
theorem tk_X10_gripOf : Tk mi_X10_gripOf.2.1 tb_X10_gripOf := Tk.of (by decide +kernel)
abbrev mi_X10_isLast : MI := (⟨"RopesAtDawnModel", "isLast", "(II)Z"⟩, prog_12_method_39_code, 5, some (.boolean))
def tb_X10_isLast : List (Nat × Instr × Nat × Nat) := [(0, .iconst 1, 1, 1), (1, .istore_n 3, 1, 2), (2, .iload_n 2, 1, 3), (3, .iconst 1, 1, 4), (4, .iadd, 1, 5), (5, .istore 4, 2, 7), (7, .iload 4, 2, 9), (9, .aload_n 0, 1, 10), (10, .iload_n 1, 1, 11), (11, .invokevirtual 118, 3, 14), (14, .if_icmp .ge 36, 3, 17), (17, .iload_n 3, 1, 18), (18, .ifCond .eq 24, 3, 21), (21, .aload_n 0, 1, 22), (22, .getfield 146, 3, 25), (25, .aload_n 0, 1, 26), (26, .iload_n 1, 1, 27), (27, .iload 4, 2, 29), (29, .invokevirtual 121, 3, 32), (32, .invokestatic 150, 3, 35), (35, .ifCond .eq 7, 3, 38), (38, .iconst 1, 1, 39), (39, .goto 4, 3, 42), (42, .iconst 0, 1, 43), (43, .istore_n 3, 1, 44), (44, .iinc 4 1, 3, 47), (47, .goto (-40), 3, 50), (50, .iload_n 3, 1, 51), (51, .ireturn, 1, 52)]
theorem tk_X10_isLast : Tk mi_X10_isLast.2.1 tb_X10_isLast := Tk.of (by decide +kernel)
abbrev mi_X10_holdOf : MI := (⟨"RopesAtDawnModel", "holdOf", "(II)I"⟩, prog_12_method_40_code, 5, some (.int))
def tb_X10_holdOf : List (Nat × Instr × Nat × Nat) := [(0, .iconst 0, 1, 1), (1, .istore_n 3, 1, 2), (2, .iconst 0, 1, 3), (3, .istore 4, 2, 5), (5, .iload 4, 2, 7), (7, .aload_n 0, 1, 8), (8, .iload_n 1, 1, 9), (9, .invokevirtual 118, 3, 12), (12, .if_icmp .ge 47, 3, 15), (15, .iload_n 3, 1, 16), (16, .iload 4, 2, 18), (18, .iload_n 2, 1, 19), (19, .if_icmp .eq 20, 3, 22), (22, .aload_n 0, 1, 23), (23, .getfield 146, 3, 26), (26, .aload_n 0, 1, 27), (27, .iload_n 1, 1, 28), (28, .iload 4, 2, 30), (30, .invokevirtual 121, 3, 33), (33, .invokestatic 150, 3, 36), (36, .ifCond .eq 7, 3, 39), (39, .iconst 0, 1, 40), (40, .goto 11, 3, 43), (43, .aload_n 0, 1, 44), (44, .iload_n 1, 1, 45), (45, .iload 4, 2, 47), (47, .iload_n 2, 1, 48), (48, .invokevirtual 167, 3, 51), (51, .iadd, 1, 52), (52, .istore_n 3, 1, 53), (53, .iinc 4 1, 3, 56), (56, .goto (-51), 3, 59), (59, .iload_n 3, 1, 60), (60, .ireturn, 1, 61)]
theorem tk_X10_holdOf : Tk mi_X10_holdOf.2.1 tb_X10_holdOf := Tk.of (by decide +kernel)
abbrev mi_X10_isHeld : MI := (⟨"RopesAtDawnModel", "isHeld", "(III)Z"⟩, prog_12_method_41_code, 4, some (.boolean))
def tb_X10_isHeld : List (Nat × Instr × Nat × Nat) := [(0, .aload_n 0, 1, 1), (1, .iload_n 1, 1, 2), (2, .iload_n 2, 1, 3), (3, .invokevirtual 171, 3, 6), (6, .aload_n 0, 1, 7), (7, .aload_n 0, 1, 8), (8, .iload_n 1, 1, 9), (9, .iload_n 2, 1, 10), (10, .invokevirtual 121, 3, 13), (13, .iconst 0, 1, 14), (14, .invokevirtual 94, 3, 17), (17, .bipush 10, 2, 19), (19, .aload_n 0, 1, 20), (20, .iload_n 3, 1, 21), (21, .iconst 0, 1, 22), (22, .invokevirtual 109, 3, 25), (25, .iadd, 1, 26), (26, .imul, 1, 27), (27, .bipush 10, 2, 29), (29, .idiv, 1, 30), (30, .if_icmp .lt 7, 3, 33), (33, .iconst 1, 1, 34), (34, .goto 4, 3, 37), (37, .iconst 0, 1, 38), (38, .ireturn, 1, 39)]
theorem tk_X10_isHeld : Tk mi_X10_isHeld.2.1 tb_X10_isHeld := Tk.of (by decide +kernel)
abbrev mi_X10_costOf : MI := (⟨"RopesAtDawnModel", "costOf", "(III)I"⟩, prog_12_method_42_code, 4, some (.int))
def tb_X10_costOf : List (Nat × Instr × Nat × Nat) := [(0, .aload_n 0, 1, 1), (1, .iload_n 1, 1, 2), (2, .iload_n 2, 1, 3), (3, .iload_n 3, 1, 4), (4, .invokevirtual 174, 3, 7), (7, .ifCond .eq 7, 3, 10), (10, .iconst 0, 1, 11), (11, .goto 23, 3, 14), (14, .aload_n 0, 1, 15), (15, .iload_n 1, 1, 16), (16, .iconst 0, 1, 17), (17, .invokevirtual 115, 3, 20), (20, .bipush 6, 2, 22), (22, .if_icmp .ne 7, 3, 25), (25, .iconst 1, 1, 26), (26, .goto 8, 3, 29), (29, .aload_n 0, 1, 30), (30, .iload_n 1, 1, 31), (31, .invokevirtual 118, 3, 34), (34, .ireturn, 1, 35)]
theorem tk_X10_costOf : Tk mi_X10_costOf.2.1 tb_X10_costOf := Tk.of (by decide +kernel)
abbrev mi_X10_hold : MI := (⟨"RopesAtDawnModel", "hold", "(I)I"⟩, prog_12_method_43_code, 3, some (.int))
def tb_X10_hold : List (Nat × Instr × Nat × Nat) := [(0, .aload_n 0, 1, 1), (1, .iload_n 1, 1, 2), (2, .iconst 1, 1, 3), (3, .invokevirtual 90, 3, 6), (6, .ifCond .ne 10, 3, 9), (9, .aload_n 0, 1, 10), (10, .ldc 81, 2, 12), (12, .invokevirtual 82, 3, 15), (15, .ireturn, 1, 16), (16, .aload_n 0, 1, 17), (17, .iload_n 1, 1, 18), (18, .invokevirtual 98, 3, 21), (21, .istore_n 2, 1, 22), (22, .iload_n 2, 1, 23), (23, .ifCond .ge 12, 3, 26), (26, .aload_n 0, 1, 27), (27, .ldc 108, 2, 29), (29, .invokevirtual 82, 3, 32), (32, .goto 13, 3, 35), (35, .aload_n 0, 1, 36), (36, .iload_n 2, 1, 37), (37, .aload_n 0, 1, 38), (38, .iload_n 1, 1, 39), (39, .invokevirtual 101, 3, 42), (42, .invokevirtual 171, 3, 45), (45, .ireturn, 1, 46)]
theorem tk_X10_hold : Tk mi_X10_hold.2.1 tb_X10_hold := Tk.of (by decide +kernel)
abbrev mi_X10_held : MI := (⟨"RopesAtDawnModel", "held", "(II)I"⟩, prog_12_method_44_code, 4, some (.int))
def tb_X10_held : List (Nat × Instr × Nat × Nat) := [(0, .aload_n 0, 1, 1), (1, .iload_n 1, 1, 2), (2, .iconst 1, 1, 3), (3, .invokevirtual 90, 3, 6), (6, .ifCond .eq 12, 3, 9), (9, .aload_n 0, 1, 10), (10, .iload_n 2, 1, 11), (11, .iconst 2, 1, 12), (12, .invokevirtual 90, 3, 15), (15, .ifCond .ne 10, 3, 18), (18, .aload_n 0, 1, 19), (19, .ldc 81, 2, 21), (21, .invokevirtual 82, 3, 24), (24, .ireturn, 1, 25), (25, .aload_n 0, 1, 26), (26, .iload_n 1, 1, 27), (27, .invokevirtual 98, 3, 30), (30, .istore_n 3, 1, 31), (31, .iload_n 3, 1, 32), (32, .ifCond .ge 12, 3, 35), (35, .aload_n 0, 1, 36), (36, .ldc 108, 2, 38), (38, .invokevirtual 82, 3, 41), (41, .goto 22, 3, 44), (44, .aload_n 0, 1, 45), (45, .iload_n 3, 1, 46), (46, .aload_n 0, 1, 47), (47, .iload_n 1, 1, 48), (48, .invokevirtual 101, 3, 51), (51, .iload_n 2, 1, 52), (52, .invokevirtual 174, 3, 55), (55, .ifCond .eq 7, 3, 58), (58, .iconst 1, 1, 59), (59, .goto 4, 3, 62), (62, .iconst 0, 1, 63), (63, .ireturn, 1, 64)]
theorem tk_X10_held : Tk mi_X10_held.2.1 tb_X10_held := Tk.of (by decide +kernel)
abbrev mi_X10_cost : MI := (⟨"RopesAtDawnModel", "cost", "(II)I"⟩, prog_12_method_45_code, 4, some (.int))
def tb_X10_cost : List (Nat × Instr × Nat × Nat) := [(0, .aload_n 0, 1, 1), (1, .iload_n 1, 1, 2), (2, .iconst 1, 1, 3), (3, .invokevirtual 90, 3, 6), (6, .ifCond .eq 12, 3, 9), (9, .aload_n 0, 1, 10), (10, .iload_n 2, 1, 11), (11, .iconst 2, 1, 12), (12, .invokevirtual 90, 3, 15), (15, .ifCond .ne 10, 3, 18), (18, .aload_n 0, 1, 19), (19, .ldc 81, 2, 21), (21, .invokevirtual 82, 3, 24), (24, .ireturn, 1, 25), (25, .aload_n 0, 1, 26), (26, .iload_n 1, 1, 27), (27, .invokevirtual 98, 3, 30), (30, .istore_n 3, 1, 31), (31, .iload_n 3, 1, 32), (32, .ifCond .ge 12, 3, 35), (35, .aload_n 0, 1, 36), (36, .ldc 108, 2, 38), (38, .invokevirtual 82, 3, 41), (41, .goto 14, 3, 44), (44, .aload_n 0, 1, 45), (45, .iload_n 3, 1, 46), (46, .aload_n 0, 1, 47), (47, .iload_n 1, 1, 48), (48, .invokevirtual 101, 3, 51), (51, .iload_n 2, 1, 52), (52, .invokevirtual 177, 3, 55), (55, .ireturn, 1, 56)]
theorem tk_X10_cost : Tk mi_X10_cost.2.1 tb_X10_cost := Tk.of (by decide +kernel)
abbrev mi_X10_haul : MI := (⟨"RopesAtDawnModel", "haul", "(II)I"⟩, prog_12_method_46_code, 6, some (.int))
def tb_X10_haul : List (Nat × Instr × Nat × Nat) := [(0, .aload_n 0, 1, 1), (1, .iload_n 1, 1, 2), (2, .iconst 1, 1, 3), (3, .invokevirtual 90, 3, 6), (6, .ifCond .eq 12, 3, 9), (9, .aload_n 0, 1, 10), (10, .iload_n 2, 1, 11), (11, .iconst 2, 1, 12), (12, .invokevirtual 90, 3, 15), (15, .ifCond .ne 10, 3, 18), (18, .aload_n 0, 1, 19), (19, .ldc 81, 2, 21), (21, .invokevirtual 82, 3, 24), (24, .ireturn, 1, 25), (25, .aload_n 0, 1, 26), (26, .iload_n 1, 1, 27), (27, .invokevirtual 98, 3, 30), (30, .istore_n 3, 1, 31), (31, .iload_n 3, 1, 32), (32, .ifCond .ge 10, 3, 35), (35, .aload_n 0, 1, 36), (36, .ldc 108, 2, 38), (38, .invokevirtual 82, 3, 41), (41, .ireturn, 1, 42), (42, .aload_n 0, 1, 43), (43, .iload_n 1, 1, 44), (44, .iconst 1, 1, 45), (45, .invokevirtual 94, 3, 48), (48, .ineg, 1, 49), (49, .istore 4, 2, 51), (51, .iconst 0, 1, 52), (52, .istore 5, 2, 54), (54, .iload 5, 2, 56), (56, .aload_n 0, 1, 57), (57, .iload_n 3, 1, 58), (58, .invokevirtual 118, 3, 61), (61, .if_icmp .ge 26, 3, 64), (64, .iload 4, 2, 66), (66, .aload_n 0, 1, 67), (67, .aload_n 0, 1, 68), (68, .iload_n 3, 1, 69), (69, .iload 5, 2, 71), (71, .invokevirtual 121, 3, 74), (74, .iconst 1, 1, 75), (75, .invokevirtual 94, 3, 78), (78, .iadd, 1, 79), (79, .istore 4, 2, 81), (81, .iinc 5 1, 3, 84), (84, .goto (-30), 3, 87), (87, .aload_n 0, 1, 88), (88, .iconst 1, 1, 89), (89, .aload_n 0, 1, 90), (90, .iload_n 1, 1, 91), (91, .iconst 0, 1, 92), (92, .invokevirtual 94, 3, 95), (95, .aload_n 0, 1, 96), (96, .iload_n 2, 1, 97), (97, .iconst 3, 1, 98), (98, .invokevirtual 109, 3, 101), (101, .iload 4, 2, 103), (103, .aload_n 0, 1, 104), (104, .iload_n 3, 1, 105), (105, .invokevirtual 118, 3, 108), (108, .iconst 1, 1, 109), (109, .isub, 1, 110), (110, .iconst 0, 1, 111), (111, .invokevirtual 180, 3, 114), (114, .ireturn, 1, 115)]
theorem tk_X10_haul : Tk mi_X10_haul.2.1 tb_X10_haul := Tk.of (by decide +kernel)
abbrev mi_X10_feed : MI := (⟨"RopesAtDawnModel", "feed", "(JI)I"⟩, prog_12_method_47_code, 5, some (.int))
def tb_X10_feed : List (Nat × Instr × Nat × Nat) := [(0, .iload_n 3, 1, 1), (1, .iconst 1, 1, 2), (2, .bipush 8, 2, 4), (4, .invokestatic 69, 3, 7), (7, .ifCond .ne 10, 3, 10), (10, .aload_n 0, 1, 11), (11, .ldc 81, 2, 13), (13, .invokevirtual 82, 3, 16), (16, .ireturn, 1, 17), (17, .aload_n 0, 1, 18), (18, .getfield 9, 3, 21), (21, .iconst 5, 1, 22), (22, .iaload, 1, 23), (23, .iload_n 3, 1, 24), (24, .iadd, 1, 25), (25, .bipush 50, 2, 27), (27, .if_icmp .le 10, 3, 30), (30, .aload_n 0, 1, 31), (31, .ldc 86, 2, 33), (33, .invokevirtual 82, 3, 36), (36, .ireturn, 1, 37), (37, .iconst 0, 1, 38), (38, .istore 4, 2, 40), (40, .iload 4, 2, 42), (42, .iload_n 3, 1, 43), (43, .if_icmp .ge 46, 3, 46), (46, .aload_n 0, 1, 47), (47, .getfield 9, 3, 50), (50, .sipush 140, 3, 53), (53, .aload_n 0, 1, 54), (54, .getfield 9, 3, 57), (57, .iconst 5, 1, 58), (58, .iaload, 1, 59), (59, .iadd, 1, 60), (60, .lload_n 1, 1, 61), (61, .bipush 8, 2, 63), (63, .iload 4, 2, 65), (65, .imul, 1, 66), (66, .lshr, 1, 67), (67, .ldc2_w 184, 3, 70), (70, .land, 1, 71), (71, .l2i, 1, 72), (72, .iastore, 1, 73), (73, .aload_n 0, 1, 74), (74, .getfield 9, 3, 77), (77, .iconst 5, 1, 78), (78, .dup2, 1, 79), (79, .iaload, 1, 80), (80, .iconst 1, 1, 81), (81, .iadd, 1, 82), (82, .iastore, 1, 83), (83, .iinc 4 1, 3, 86), (86, .goto (-46), 3, 89), (89, .aload_n 0, 1, 90), (90, .getfield 9, 3, 93), (93, .iconst 5, 1, 94), (94, .iaload, 1, 95), (95, .ireturn, 1, 96)]
theorem tk_X10_feed : Tk mi_X10_feed.2.1 tb_X10_feed := Tk.of (by decide +kernel)
abbrev mi_X10_here : MI := (⟨"RopesAtDawnModel", "here", "()I"⟩, prog_12_method_48_code, 1, some (.int))
def tb_X10_here : List (Nat × Instr × Nat × Nat) := [(0, .aload_n 0, 1, 1), (1, .getfield 186, 3, 4), (4, .ifCond .ne 32, 3, 7), (7, .aload_n 0, 1, 8), (8, .getfield 190, 3, 11), (11, .aload_n 0, 1, 12), (12, .getfield 9, 3, 15), (15, .iconst 5, 1, 16), (16, .iaload, 1, 17), (17, .if_icmp .ge 19, 3, 20), (20, .aload_n 0, 1, 21), (21, .getfield 9, 3, 24), (24, .sipush 140, 3, 27), (27, .aload_n 0, 1, 28), (28, .getfield 190, 3, 31), (31, .iadd, 1, 32), (32, .iaload, 1, 33), (33, .goto 4, 3, 36), (36, .iconst (-1), 1, 37), (37, .ireturn, 1, 38)]
theorem tk_X10_here : Tk mi_X10_here.2.1 tb_X10_here := Tk.of (by decide +kernel)
abbrev mi_X10_takes : MI := (⟨"RopesAtDawnModel", "takes", "(I)Z"⟩, prog_12_method_49_code, 3, some (.boolean))
def tb_X10_takes : List (Nat × Instr × Nat × Nat) := [(0, .aload_n 0, 1, 1), (1, .invokevirtual 193, 3, 4), (4, .iload_n 1, 1, 5), (5, .if_icmp .ne 7, 3, 8), (8, .iconst 1, 1, 9), (9, .goto 4, 3, 12), (12, .iconst 0, 1, 13), (13, .istore_n 2, 1, 14), (14, .aload_n 0, 1, 15), (15, .dup, 1, 16), (16, .getfield 190, 3, 19), (19, .iload_n 2, 1, 20), (20, .ifCond .eq 7, 3, 23), (23, .iconst 1, 1, 24), (24, .goto 4, 3, 27), (27, .iconst 0, 1, 28), (28, .iadd, 1, 29), (29, .putfield 190, 3, 32), (32, .iload_n 2, 1, 33), (33, .ireturn, 1, 34)]
theorem tk_X10_takes : Tk mi_X10_takes.2.1 tb_X10_takes := Tk.of (by decide +kernel)
abbrev mi_X10_codes : MI := (⟨"RopesAtDawnModel", "codes", "(I)V"⟩, prog_12_method_50_code, 2, none)
def tb_X10_codes : List (Nat × Instr × Nat × Nat) := [(0, .aload_n 0, 1, 1), (1, .getfield 186, 3, 4), (4, .ifCond .ne 23, 3, 7), (7, .aload_n 0, 1, 8), (8, .getfield 32, 3, 11), (11, .aload_n 0, 1, 12), (12, .getfield 197, 3, 15), (15, .iload_n 1, 1, 16), (16, .iastore, 1, 17), (17, .aload_n 0, 1, 18), (18, .dup, 1, 19), (19, .getfield 197, 3, 22), (22, .iconst 1, 1, 23), (23, .iadd, 1, 24), (24, .putfield 197, 3, 27), (27, .return_, 1, 28)]
theorem tk_X10_codes : Tk mi_X10_codes.2.1 tb_X10_codes := Tk.of (by decide +kernel)
abbrev mi_X10_either : MI := (⟨"RopesAtDawnModel", "either", "()V"⟩, prog_12_method_51_code, 1, none)
def tb_X10_either : List (Nat × Instr × Nat × Nat) := [(0, .aload_n 0, 1, 1), (1, .invokevirtual 200, 3, 4), (4, .aload_n 0, 1, 5), (5, .bipush 124, 2, 7), (7, .invokevirtual 203, 3, 10), (10, .ifCond .eq 17, 3, 13), (13, .aload_n 0, 1, 14), (14, .invokevirtual 200, 3, 17), (17, .aload_n 0, 1, 18), (18, .sipush 20000, 3, 21), (21, .invokevirtual 206, 3, 24), (24, .goto (-20), 3, 27), (27, .return_, 1, 28)]
theorem tk_X10_either : Tk mi_X10_either.2.1 tb_X10_either := Tk.of (by decide +kernel)
abbrev mi_X10_both : MI := (⟨"RopesAtDawnModel", "both", "()V"⟩, prog_12_method_52_code, 1, none)
def tb_X10_both : List (Nat × Instr × Nat × Nat) := [(0, .aload_n 0, 1, 1), (1, .invokevirtual 209, 3, 4), (4, .aload_n 0, 1, 5), (5, .bipush 38, 2, 7), (7, .invokevirtual 203, 3, 10), (10, .ifCond .eq 17, 3, 13), (13, .aload_n 0, 1, 14), (14, .invokevirtual 209, 3, 17), (17, .aload_n 0, 1, 18), (18, .sipush 20001, 3, 21), (21, .invokevirtual 206, 3, 24), (24, .goto (-20), 3, 27), (27, .return_, 1, 28)]
theorem tk_X10_both : Tk mi_X10_both.2.1 tb_X10_both := Tk.of (by decide +kernel)
abbrev mi_X10_compared : MI := (⟨"RopesAtDawnModel", "compared", "()V"⟩, prog_12_method_53_code, 2, none)
def tb_X10_compared : List (Nat × Instr × Nat × Nat) := [(0, .aload_n 0, 1, 1), (1, .invokevirtual 212, 3, 4), (4, .aload_n 0, 1, 5), (5, .bipush 60, 2, 7), (7, .invokevirtual 203, 3, 10), (10, .ifCond .eq 9, 3, 13), (13, .sipush 20002, 3, 16), (16, .goto 34, 3, 19), (19, .aload_n 0, 1, 20), (20, .bipush 61, 2, 22), (22, .invokevirtual 203, 3, 25), (25, .ifCond .eq 9, 3, 28), (28, .sipush 20003, 3, 31), (31, .goto 19, 3, 34), (34, .aload_n 0, 1, 35), (35, .bipush 62, 2, 37), (37, .invokevirtual 203, 3, 40), (40, .ifCond .eq 9, 3, 43), (43, .sipush 20004, 3, 46), (46, .goto 4, 3, 49), (49, .iconst 0, 1, 50), (50, .istore_n 1, 1, 51), (51, .iload_n 1, 1, 52), (52, .ifCond .le 12, 3, 55), (55, .aload_n 0, 1, 56), (56, .invokevirtual 212, 3, 59), (59, .aload_n 0, 1, 60), (60, .iload_n 1, 1, 61), (61, .invokevirtual 206, 3, 64), (64, .return_, 1, 65)]
theorem tk_X10_compared : Tk mi_X10_compared.2.1 tb_X10_compared := Tk.of (by decide +kernel)
abbrev mi_X10_sum : MI := (⟨"RopesAtDawnModel", "sum", "()V"⟩, prog_12_method_54_code, 2, none)
def tb_X10_sum : List (Nat × Instr × Nat × Nat) := [(0, .aload_n 0, 1, 1), (1, .invokevirtual 215, 3, 4), (4, .aload_n 0, 1, 5), (5, .bipush 43, 2, 7), (7, .invokevirtual 203, 3, 10), (10, .ifCond .eq 9, 3, 13), (13, .sipush 20005, 3, 16), (16, .goto 19, 3, 19), (19, .aload_n 0, 1, 20), (20, .bipush 45, 2, 22), (22, .invokevirtual 203, 3, 25), (25, .ifCond .eq 9, 3, 28), (28, .sipush 20006, 3, 31), (31, .goto 4, 3, 34), (34, .iconst 0, 1, 35), (35, .istore_n 1, 1, 36), (36, .iload_n 1, 1, 37), (37, .ifCond .le 47, 3, 40), (40, .aload_n 0, 1, 41), (41, .invokevirtual 215, 3, 44), (44, .aload_n 0, 1, 45), (45, .iload_n 1, 1, 46), (46, .invokevirtual 206, 3, 49), (49, .aload_n 0, 1, 50), (50, .bipush 43, 2, 52), (52, .invokevirtual 203, 3, 55), (55, .ifCond .eq 9, 3, 58), (58, .sipush 20005, 3, 61), (61, .goto 19, 3, 64), (64, .aload_n 0, 1, 65), (65, .bipush 45, 2, 67), (67, .invokevirtual 203, 3, 70), (70, .ifCond .eq 9, 3, 73), (73, .sipush 20006, 3, 76), (76, .goto 4, 3, 79), (79, .iconst 0, 1, 80), (80, .istore_n 1, 1, 81), (81, .goto (-45), 3, 84), (84, .return_, 1, 85)]
theorem tk_X10_sum : Tk mi_X10_sum.2.1 tb_X10_sum := Tk.of (by decide +kernel)
abbrev mi_X10_product : MI := (⟨"RopesAtDawnModel", "product", "()V"⟩, prog_12_method_55_code, 2, none)
def tb_X10_product : List (Nat × Instr × Nat × Nat) := [(0, .aload_n 0, 1, 1), (1, .invokevirtual 218, 3, 4), (4, .aload_n 0, 1, 5), (5, .bipush 42, 2, 7), (7, .invokevirtual 203, 3, 10), (10, .ifCond .eq 9, 3, 13), (13, .sipush 20007, 3, 16), (16, .goto 34, 3, 19), (19, .aload_n 0, 1, 20), (20, .bipush 47, 2, 22), (22, .invokevirtual 203, 3, 25), (25, .ifCond .eq 9, 3, 28), (28, .sipush 20008, 3, 31), (31, .goto 19, 3, 34), (34, .aload_n 0, 1, 35), (35, .bipush 37, 2, 37), (37, .invokevirtual 203, 3, 40), (40, .ifCond .eq 9, 3, 43), (43, .sipush 20009, 3, 46), (46, .goto 4, 3, 49), (49, .iconst 0, 1, 50), (50, .istore_n 1, 1, 51), (51, .iload_n 1, 1, 52), (52, .ifCond .le 62, 3, 55), (55, .aload_n 0, 1, 56), (56, .invokevirtual 218, 3, 59), (59, .aload_n 0, 1, 60), (60, .iload_n 1, 1, 61), (61, .invokevirtual 206, 3, 64), (64, .aload_n 0, 1, 65), (65, .bipush 42, 2, 67), (67, .invokevirtual 203, 3, 70), (70, .ifCond .eq 9, 3, 73), (73, .sipush 20007, 3, 76), (76, .goto 34, 3, 79), (79, .aload_n 0, 1, 80), (80, .bipush 47, 2, 82), (82, .invokevirtual 203, 3, 85), (85, .ifCond .eq 9, 3, 88), (88, .sipush 20008, 3, 91), (91, .goto 19, 3, 94), (94, .aload_n 0, 1, 95), (95, .bipush 37, 2, 97), (97, .invokevirtual 203, 3, 100), (100, .ifCond .eq 9, 3, 103), (103, .sipush 20009, 3, 106), (106, .goto 4, 3, 109), (109, .iconst 0, 1, 110), (110, .istore_n 1, 1, 111), (111, .goto (-60), 3, 114), (114, .return_, 1, 115)]
theorem tk_X10_product : Tk mi_X10_product.2.1 tb_X10_product := Tk.of (by decide +kernel)
abbrev mi_X10_nameOf : MI := (⟨"RopesAtDawnModel", "nameOf", "(I)I"⟩, prog_12_method_56_code, 4, some (.int))
def tb_X10_nameOf : List (Nat × Instr × Nat × Nat) := [(0, .iconst (-1), 1, 1), (1, .istore_n 2, 1, 2), (2, .iconst 0, 1, 3), (3, .istore_n 3, 1, 4), (4, .iload_n 3, 1, 5), (5, .aload_n 0, 1, 6), (6, .getfield 28, 3, 9), (9, .aload_n 0, 1, 10), (10, .getfield 221, 3, 13), (13, .aaload, 1, 14), (14, .invokevirtual 224, 3, 17), (17, .if_icmp .ge 32, 3, 20), (20, .aload_n 0, 1, 21), (21, .getfield 28, 3, 24), (24, .aload_n 0, 1, 25), (25, .getfield 221, 3, 28), (28, .aaload, 1, 29), (29, .iload_n 3, 1, 30), (30, .invokevirtual 227, 3, 33), (33, .iload_n 1, 1, 34), (34, .if_icmp .ne 7, 3, 37), (37, .iload_n 3, 1, 38), (38, .goto 4, 3, 41), (41, .iload_n 2, 1, 42), (42, .istore_n 2, 1, 43), (43, .iinc 3 1, 3, 46), (46, .goto (-42), 3, 49), (49, .iload_n 2, 1, 50), (50, .ireturn, 1, 51)]
theorem tk_X10_nameOf : Tk mi_X10_nameOf.2.1 tb_X10_nameOf := Tk.of (by decide +kernel)
abbrev mi_X10_one : MI := (⟨"RopesAtDawnModel", "one", "()V"⟩, prog_12_method_57_code, 4, none)
def tb_X10_one : List (Nat × Instr × Nat × Nat) := [(0, .aload_n 0, 1, 1), (1, .invokevirtual 193, 3, 4), (4, .istore_n 1, 1, 5), (5, .iload_n 1, 1, 6), (6, .bipush 33, 2, 8), (8, .if_icmp .eq 9, 3, 11), (11, .iload_n 1, 1, 12), (12, .bipush 40, 2, 14), (14, .if_icmp .ne 102, 3, 17), (17, .aload_n 0, 1, 18), (18, .aload_n 0, 1, 19), (19, .getfield 231, 3, 22), (22, .iconst 5, 1, 23), (23, .if_icmp .ne 7, 3, 26), (26, .iconst 1, 1, 27), (27, .goto 4, 3, 30), (30, .iconst 0, 1, 31), (31, .putfield 186, 3, 34), (34, .aload_n 0, 1, 35), (35, .getfield 186, 3, 38), (38, .ifCond .ne 209, 3, 41), (41, .aload_n 0, 1, 42), (42, .dup, 1, 43), (43, .getfield 231, 3, 46), (46, .iconst 1, 1, 47), (47, .iadd, 1, 48), (48, .putfield 231, 3, 51), (51, .aload_n 0, 1, 52), (52, .dup, 1, 53), (53, .getfield 190, 3, 56), (56, .iconst 1, 1, 57), (57, .iadd, 1, 58), (58, .putfield 190, 3, 61), (61, .iload_n 1, 1, 62), (62, .bipush 33, 2, 64), (64, .if_icmp .ne 17, 3, 67), (67, .aload_n 0, 1, 68), (68, .invokevirtual 218, 3, 71), (71, .aload_n 0, 1, 72), (72, .sipush 20010, 3, 75), (75, .invokevirtual 206, 3, 78), (78, .goto 25, 3, 81), (81, .aload_n 0, 1, 82), (82, .invokevirtual 234, 3, 85), (85, .aload_n 0, 1, 86), (86, .aload_n 0, 1, 87), (87, .bipush 41, 2, 89), (89, .invokevirtual 203, 3, 92), (92, .ifCond .ne 7, 3, 95), (95, .iconst 1, 1, 96), (96, .goto 4, 3, 99), (99, .iconst 0, 1, 100), (100, .putfield 186, 3, 103), (103, .aload_n 0, 1, 104), (104, .dup, 1, 105), (105, .getfield 231, 3, 108), (108, .iconst 1, 1, 109), (109, .isub, 1, 110), (110, .putfield 231, 3, 113), (113, .goto 134, 3, 116), (116, .iload_n 1, 1, 117), (117, .bipush 48, 2, 119), (119, .bipush 57, 2, 121), (121, .invokestatic 69, 3, 124), (124, .ifCond .eq 63, 3, 127), (127, .iconst 0, 1, 128), (128, .istore_n 2, 1, 129), (129, .iconst 0, 1, 130), (130, .istore_n 3, 1, 131), (131, .iload_n 3, 1, 132), (132, .iconst 4, 1, 133), (133, .if_icmp .ge 46, 3, 136), (136, .aload_n 0, 1, 137), (137, .invokevirtual 193, 3, 140), (140, .bipush 48, 2, 142), (142, .bipush 57, 2, 144), (144, .invokestatic 69, 3, 147), (147, .ifCond .eq 32, 3, 150), (150, .bipush 10, 2, 152), (152, .iload_n 2, 1, 153), (153, .imul, 1, 154), (154, .aload_n 0, 1, 155), (155, .invokevirtual 193, 3, 158), (158, .iadd, 1, 159), (159, .bipush 48, 2, 161), (161, .isub, 1, 162), (162, .istore_n 2, 1, 163), (163, .aload_n 0, 1, 164), (164, .dup, 1, 165), (165, .getfield 190, 3, 168), (168, .iconst 1, 1, 169), (169, .iadd, 1, 170), (170, .putfield 190, 3, 173), (173, .iinc 3 1, 3, 176), (176, .goto (-45), 3, 179), (179, .aload_n 0, 1, 180), (180, .iload_n 2, 1, 181), (181, .invokevirtual 206, 3, 184), (184, .goto 63, 3, 187), (187, .iload_n 1, 1, 188), (188, .ifCond .ge 7, 3, 191), (191, .iconst (-1), 1, 192), (192, .goto 8, 3, 195), (195, .aload_n 0, 1, 196), (196, .iload_n 1, 1, 197), (197, .invokevirtual 237, 3, 200), (200, .istore_n 2, 1, 201), (201, .aload_n 0, 1, 202), (202, .aload_n 0, 1, 203), (203, .getfield 186, 3, 206), (206, .ifCond .ne 7, 3, 209), (209, .iload_n 2, 1, 210), (210, .ifCond .ge 7, 3, 213), (213, .iconst 1, 1, 214), (214, .goto 4, 3, 217), (217, .iconst 0, 1, 218), (218, .putfield 186, 3, 221), (221, .aload_n 0, 1, 222), (222, .getfield 186, 3, 225), (225, .ifCond .ne 22, 3, 228), (228, .aload_n 0, 1, 229), (229, .sipush 10000, 3, 232), (232, .iload_n 2, 1, 233), (233, .iadd, 1, 234), (234, .invokevirtual 206, 3, 237), (237, .aload_n 0, 1, 238), (238, .dup, 1, 239), (239, .getfield 190, 3, 242), (242, .iconst 1, 1, 243), (243, .iadd, 1, 244), (244, .putfield 190, 3, 247), (247, .return_, 1, 248)]
theorem tk_X10_one : Tk mi_X10_one.2.1 tb_X10_one := Tk.of (by decide +kernel)
abbrev mi_X10_text : MI := (⟨"RopesAtDawnModel", "text", "(I)I"⟩, prog_12_method_58_code, 3, some (.int))
def tb_X10_text : List (Nat × Instr × Nat × Nat) := [(0, .iload_n 1, 1, 1), (1, .iconst 0, 1, 2), (2, .iconst 1, 1, 3), (3, .invokestatic 69, 3, 6), (6, .ifCond .ne 10, 3, 9), (9, .aload_n 0, 1, 10), (10, .ldc 81, 2, 12), (12, .invokevirtual 82, 3, 15), (15, .ireturn, 1, 16), (16, .aload_n 0, 1, 17), (17, .iload_n 1, 1, 18), (18, .putfield 221, 3, 21), (21, .aload_n 0, 1, 22), (22, .iconst 0, 1, 23), (23, .putfield 190, 3, 26), (26, .aload_n 0, 1, 27), (27, .iconst 0, 1, 28), (28, .putfield 231, 3, 31), (31, .aload_n 0, 1, 32), (32, .iconst 0, 1, 33), (33, .putfield 186, 3, 36), (36, .aload_n 0, 1, 37), (37, .iconst 0, 1, 38), (38, .putfield 197, 3, 41), (41, .aload_n 0, 1, 42), (42, .invokevirtual 234, 3, 45), (45, .aload_n 0, 1, 46), (46, .aload_n 0, 1, 47), (47, .getfield 186, 3, 50), (50, .ifCond .ne 16, 3, 53), (53, .aload_n 0, 1, 54), (54, .getfield 190, 3, 57), (57, .aload_n 0, 1, 58), (58, .getfield 9, 3, 61), (61, .iconst 5, 1, 62), (62, .iaload, 1, 63), (63, .if_icmp .ge 7, 3, 66), (66, .iconst 1, 1, 67), (67, .goto 4, 3, 70), (70, .iconst 0, 1, 71), (71, .putfield 186, 3, 74), (74, .aload_n 0, 1, 75), (75, .getfield 9, 3, 78), (78, .iconst 5, 1, 79), (79, .iconst 0, 1, 80), (80, .iastore, 1, 81), (81, .aload_n 0, 1, 82), (82, .getfield 186, 3, 85), (85, .ifCond .eq 11, 3, 88), (88, .bipush (-10), 2, 90), (90, .aload_n 0, 1, 91), (91, .getfield 190, 3, 94), (94, .isub, 1, 95), (95, .ireturn, 1, 96), (96, .aload_n 0, 1, 97), (97, .getfield 9, 3, 100), (100, .sipush 210, 3, 103), (103, .bipush 52, 2, 105), (105, .aload_n 0, 1, 106), (106, .getfield 221, 3, 109), (109, .imul, 1, 110), (110, .iadd, 1, 111), (111, .aload_n 0, 1, 112), (112, .getfield 197, 3, 115), (115, .iastore, 1, 116), (116, .iconst 0, 1, 117), (117, .istore_n 2, 1, 118), (118, .iload_n 2, 1, 119), (119, .aload_n 0, 1, 120), (120, .getfield 197, 3, 123), (123, .if_icmp .ge 35, 3, 126), (126, .aload_n 0, 1, 127), (127, .getfield 9, 3, 130), (130, .sipush 210, 3, 133), (133, .bipush 52, 2, 135), (135, .aload_n 0, 1, 136), (136, .getfield 221, 3, 139), (139, .imul, 1, 140), (140, .iadd, 1, 141), (141, .iconst 1, 1, 142), (142, .iadd, 1, 143), (143, .iload_n 2, 1, 144), (144, .iadd, 1, 145), (145, .aload_n 0, 1, 146), (146, .getfield 32, 3, 149), (149, .iload_n 2, 1, 150), (150, .iaload, 1, 151), (151, .iastore, 1, 152), (152, .iinc 2 1, 3, 155), (155, .goto (-37), 3, 158), (158, .iconst 1, 1, 159), (159, .ireturn, 1, 160)]
theorem tk_X10_text : Tk mi_X10_text.2.1 tb_X10_text := Tk.of (by decide +kernel)
abbrev mi_X10_done : MI := (⟨"RopesAtDawnModel", "done", "(III)I"⟩, prog_12_method_59_code, 3, some (.int))
def tb_X10_done : List (Nat × Instr × Nat × Nat) := [(0, .iload_n 0, 1, 1), (1, .tableswitch 136 20000 20008 #[51, 65, 79, 90, 101, 112, 116, 120, 124], 51, 52), (52, .iload_n 1, 1, 53), (53, .ifCond .ne 7, 3, 56), (56, .iload_n 2, 1, 57), (57, .ifCond .eq 7, 3, 60), (60, .iconst 1, 1, 61), (61, .goto 4, 3, 64), (64, .iconst 0, 1, 65), (65, .ireturn, 1, 66), (66, .iload_n 1, 1, 67), (67, .ifCond .eq 11, 3, 70), (70, .iload_n 2, 1, 71), (71, .ifCond .eq 7, 3, 74), (74, .iconst 1, 1, 75), (75, .goto 4, 3, 78), (78, .iconst 0, 1, 79), (79, .ireturn, 1, 80), (80, .iload_n 1, 1, 81), (81, .iload_n 2, 1, 82), (82, .if_icmp .ge 7, 3, 85), (85, .iconst 1, 1, 86), (86, .goto 4, 3, 89), (89, .iconst 0, 1, 90), (90, .ireturn, 1, 91), (91, .iload_n 1, 1, 92), (92, .iload_n 2, 1, 93), (93, .if_icmp .ne 7, 3, 96), (96, .iconst 1, 1, 97), (97, .goto 4, 3, 100), (100, .iconst 0, 1, 101), (101, .ireturn, 1, 102), (102, .iload_n 1, 1, 103), (103, .iload_n 2, 1, 104), (104, .if_icmp .le 7, 3, 107), (107, .iconst 1, 1, 108), (108, .goto 4, 3, 111), (111, .iconst 0, 1, 112), (112, .ireturn, 1, 113), (113, .iload_n 1, 1, 114), (114, .iload_n 2, 1, 115), (115, .iadd, 1, 116), (116, .ireturn, 1, 117), (117, .iload_n 1, 1, 118), (118, .iload_n 2, 1, 119), (119, .isub, 1, 120), (120, .ireturn, 1, 121), (121, .iload_n 1, 1, 122), (122, .iload_n 2, 1, 123), (123, .imul, 1, 124), (124, .ireturn, 1, 125), (125, .iload_n 2, 1, 126), (126, .ifCond .ne 7, 3, 129), (129, .iconst 0, 1, 130), (130, .goto 6, 3, 133), (133, .iload_n 1, 1, 134), (134, .iload_n 2, 1, 135), (135, .idiv, 1, 136), (136, .ireturn, 1, 137), (137, .iload_n 2, 1, 138), (138, .ifCond .ne 7, 3, 141), (141, .iconst 0, 1, 142), (142, .goto 6, 3, 145), (145, .iload_n 1, 1, 146), (146, .iload_n 2, 1, 147), (147, .irem, 1, 148), (148, .ireturn, 1, 149)]
theorem tk_X10_done : Tk mi_X10_done.2.1 tb_X10_done := Tk.of (by decide +kernel)
abbrev mi_X10_worked : MI := (⟨"RopesAtDawnModel", "worked", "(I)I"⟩, prog_12_method_60_code, 5, some (.int))
def tb_X10_worked : List (Nat × Instr × Nat × Nat) := [(0, .iconst 0, 1, 1), (1, .istore_n 2, 1, 2), (2, .iload_n 1, 1, 3), (3, .istore_n 3, 1, 4), (4, .iload_n 3, 1, 5), (5, .iload_n 1, 1, 6), (6, .aload_n 0, 1, 7), (7, .getfield 9, 3, 10), (10, .iload_n 1, 1, 11), (11, .iconst 1, 1, 12), (12, .isub, 1, 13), (13, .iaload, 1, 14), (14, .iadd, 1, 15), (15, .if_icmp .ge 126, 3, 18), (18, .aload_n 0, 1, 19), (19, .getfield 9, 3, 22), (22, .iload_n 3, 1, 23), (23, .iaload, 1, 24), (24, .istore 4, 2, 26), (26, .iload 4, 2, 28), (28, .sipush 20000, 3, 31), (31, .if_icmp .ge 39, 3, 34), (34, .aload_n 0, 1, 35), (35, .getfield 38, 3, 38), (38, .iload_n 2, 1, 39), (39, .iload 4, 2, 41), (41, .sipush 10000, 3, 44), (44, .if_icmp .ge 8, 3, 47), (47, .iload 4, 2, 49), (49, .goto 14, 3, 52), (52, .aload_n 0, 1, 53), (53, .getfield 35, 3, 56), (56, .iload 4, 2, 58), (58, .sipush 10000, 3, 61), (61, .isub, 1, 62), (62, .iaload, 1, 63), (63, .iastore, 1, 64), (64, .iinc 2 1, 3, 67), (67, .goto 68, 3, 70), (70, .iload 4, 2, 72), (72, .sipush 20010, 3, 75), (75, .if_icmp .ne 30, 3, 78), (78, .aload_n 0, 1, 79), (79, .getfield 38, 3, 82), (82, .iload_n 2, 1, 83), (83, .iconst 1, 1, 84), (84, .isub, 1, 85), (85, .aload_n 0, 1, 86), (86, .getfield 38, 3, 89), (89, .iload_n 2, 1, 90), (90, .iconst 1, 1, 91), (91, .isub, 1, 92), (92, .iaload, 1, 93), (93, .ifCond .ne 7, 3, 96), (96, .iconst 1, 1, 97), (97, .goto 4, 3, 100), (100, .iconst 0, 1, 101), (101, .iastore, 1, 102), (102, .goto 33, 3, 105), (105, .iinc 2 (-1), 3, 108), (108, .aload_n 0, 1, 109), (109, .getfield 38, 3, 112), (112, .iload_n 2, 1, 113), (113, .iconst 1, 1, 114), (114, .isub, 1, 115), (115, .iload 4, 2, 117), (117, .aload_n 0, 1, 118), (118, .getfield 38, 3, 121), (121, .iload_n 2, 1, 122), (122, .iconst 1, 1, 123), (123, .isub, 1, 124), (124, .iaload, 1, 125), (125, .aload_n 0, 1, 126), (126, .getfield 38, 3, 129), (129, .iload_n 2, 1, 130), (130, .iaload, 1, 131), (131, .invokestatic 240, 3, 134), (134, .iastore, 1, 135), (135, .iinc 3 1, 3, 138), (138, .goto (-134), 3, 141), (141, .aload_n 0, 1, 142), (142, .getfield 38, 3, 145), (145, .iconst 0, 1, 146), (146, .iaload, 1, 147), (147, .ireturn, 1, 148)]
theorem tk_X10_worked : Tk mi_X10_worked.2.1 tb_X10_worked := Tk.of (by decide +kernel)
abbrev mi_X10_given : MI := (⟨"RopesAtDawnModel", "given", "(IIIIII)I"⟩, prog_12_method_61_code, 9, some (.int))
def tb_X10_given : List (Nat × Instr × Nat × Nat) := [(0, .aload_n 0, 1, 1), (1, .getfield 35, 3, 4), (4, .iconst 0, 1, 5), (5, .iload_n 2, 1, 6), (6, .iastore, 1, 7), (7, .aload_n 0, 1, 8), (8, .getfield 35, 3, 11), (11, .iconst 1, 1, 12), (12, .iload_n 3, 1, 13), (13, .iastore, 1, 14), (14, .aload_n 0, 1, 15), (15, .getfield 35, 3, 18), (18, .iconst 2, 1, 19), (19, .iload 4, 2, 21), (21, .iastore, 1, 22), (22, .aload_n 0, 1, 23), (23, .getfield 35, 3, 26), (26, .iconst 3, 1, 27), (27, .iload 5, 2, 29), (29, .iastore, 1, 30), (30, .aload_n 0, 1, 31), (31, .getfield 35, 3, 34), (34, .iconst 4, 1, 35), (35, .iload 6, 2, 37), (37, .iastore, 1, 38), (38, .sipush 210, 3, 41), (41, .bipush 52, 2, 43), (43, .iload_n 1, 1, 44), (44, .imul, 1, 45), (45, .iadd, 1, 46), (46, .iconst 1, 1, 47), (47, .iadd, 1, 48), (48, .istore 7, 2, 50), (50, .aload_n 0, 1, 51), (51, .getfield 9, 3, 54), (54, .iload 7, 2, 56), (56, .iconst 1, 1, 57), (57, .isub, 1, 58), (58, .iaload, 1, 59), (59, .ifCond .le 14, 3, 62), (62, .aload_n 0, 1, 63), (63, .iload 7, 2, 65), (65, .invokevirtual 243, 3, 68), (68, .istore 8, 2, 70), (70, .goto 42, 3, 73), (73, .iload_n 1, 1, 74), (74, .ifCond .ne 21, 3, 77), (77, .iload_n 2, 1, 78), (78, .iload 6, 2, 80), (80, .iload_n 3, 1, 81), (81, .imul, 1, 82), (82, .iadd, 1, 83), (83, .bipush 10, 2, 85), (85, .iload 4, 2, 87), (87, .imul, 1, 88), (88, .iadd, 1, 89), (89, .iload 5, 2, 91), (91, .isub, 1, 92), (92, .goto 18, 3, 95), (95, .sipush 20008, 3, 98), (98, .iload_n 2, 1, 99), (99, .iload_n 3, 1, 100), (100, .imul, 1, 101), (101, .iload 4, 2, 103), (103, .iconst 1, 1, 104), (104, .iadd, 1, 105), (105, .invokestatic 240, 3, 108), (108, .iconst 5, 1, 109), (109, .iadd, 1, 110), (110, .istore 8, 2, 112), (112, .iconst 0, 1, 113), (113, .iload_n 1, 1, 114), (114, .ifCond .ne 9, 3, 117), (117, .sipush 1000, 3, 120), (120, .goto 6, 3, 123), (123, .sipush 999, 3, 126), (126, .iload 8, 2, 128), (128, .invokestatic 246, 3, 131), (131, .invokestatic 164, 3, 134), (134, .ireturn, 1, 135)]
theorem tk_X10_given : Tk mi_X10_given.2.1 tb_X10_given := Tk.of (by decide +kernel)
abbrev mi_X10_law : MI := (⟨"RopesAtDawnModel", "law", "(IIIII)I"⟩, prog_12_method_62_code, 6, some (.int))
def tb_X10_law : List (Nat × Instr × Nat × Nat) := [(0, .iload_n 1, 1, 1), (1, .iconst 0, 1, 2), (2, .iconst 1, 1, 3), (3, .invokestatic 69, 3, 6), (6, .ifCond .eq 18, 3, 9), (9, .aload_n 0, 1, 10), (10, .iload_n 1, 1, 11), (11, .iload_n 2, 1, 12), (12, .iload_n 3, 1, 13), (13, .iload 4, 2, 15), (15, .iload 5, 2, 17), (17, .iconst 0, 1, 18), (18, .invokevirtual 180, 3, 21), (21, .goto 9, 3, 24), (24, .aload_n 0, 1, 25), (25, .ldc 81, 2, 27), (27, .invokevirtual 82, 3, 30), (30, .ireturn, 1, 31)]
theorem tk_X10_law : Tk mi_X10_law.2.1 tb_X10_law := Tk.of (by decide +kernel)
abbrev mi_X10_paceOf : MI := (⟨"RopesAtDawnModel", "paceOf", "(I)I"⟩, prog_12_method_63_code, 4, some (.int))
def tb_X10_paceOf : List (Nat × Instr × Nat × Nat) := [(0, .iconst 0, 1, 1), (1, .istore_n 2, 1, 2), (2, .iconst 0, 1, 3), (3, .istore_n 3, 1, 4), (4, .iload_n 3, 1, 5), (5, .aload_n 0, 1, 6), (6, .iload_n 1, 1, 7), (7, .invokevirtual 118, 3, 10), (10, .if_icmp .ge 25, 3, 13), (13, .iload_n 2, 1, 14), (14, .aload_n 0, 1, 15), (15, .aload_n 0, 1, 16), (16, .iload_n 1, 1, 17), (17, .iload_n 3, 1, 18), (18, .invokevirtual 121, 3, 21), (21, .iconst 2, 1, 22), (22, .invokevirtual 94, 3, 25), (25, .invokestatic 164, 3, 28), (28, .istore_n 2, 1, 29), (29, .iinc 3 1, 3, 32), (32, .goto (-28), 3, 35), (35, .iload_n 2, 1, 36), (36, .ireturn, 1, 37)]
theorem tk_X10_paceOf : Tk mi_X10_paceOf.2.1 tb_X10_paceOf := Tk.of (by decide +kernel)
abbrev mi_X10_cross : MI := (⟨"RopesAtDawnModel", "cross", "()V"⟩, prog_12_method_64_code, 8, none)
def tb_X10_cross : List (Nat × Instr × Nat × Nat) := [(0, .iconst 0, 1, 1), (1, .istore_n 1, 1, 2), (2, .iconst (-1), 1, 3), (3, .istore_n 2, 1, 4), (4, .aload_n 0, 1, 5), (5, .aload_n 0, 1, 6), (6, .getfield 9, 3, 9), (9, .iconst 0, 1, 10), (10, .iaload, 1, 11), (11, .putfield 249, 3, 14), (14, .iconst 0, 1, 15), (15, .istore_n 3, 1, 16), (16, .iload_n 3, 1, 17), (17, .aload_n 0, 1, 18), (18, .getfield 9, 3, 21), (21, .iconst 4, 1, 22), (22, .iaload, 1, 23), (23, .if_icmp .ge 163, 3, 26), (26, .aload_n 0, 1, 27), (27, .getfield 9, 3, 30), (30, .sipush 134, 3, 33), (33, .iload_n 3, 1, 34), (34, .iadd, 1, 35), (35, .iaload, 1, 36), (36, .istore 4, 2, 38), (38, .aload_n 0, 1, 39), (39, .getfield 44, 3, 42), (42, .iload 4, 2, 44), (44, .iload_n 1, 1, 45), (45, .iastore, 1, 46), (46, .iload_n 1, 1, 47), (47, .aload_n 0, 1, 48), (48, .iload 4, 2, 50), (50, .invokevirtual 118, 3, 53), (53, .iadd, 1, 54), (54, .istore_n 1, 1, 55), (55, .aload_n 0, 1, 56), (56, .getfield 9, 3, 59), (59, .iconst 0, 1, 60), (60, .iaload, 1, 61), (61, .istore 5, 2, 63), (63, .iconst 0, 1, 64), (64, .istore 6, 2, 66), (66, .iload 6, 2, 68), (68, .aload_n 0, 1, 69), (69, .getfield 9, 3, 72), (72, .iconst 2, 1, 73), (73, .iaload, 1, 74), (74, .if_icmp .ge 88, 3, 77), (77, .aload_n 0, 1, 78), (78, .iload 4, 2, 80), (80, .invokevirtual 118, 3, 83), (83, .ifCond .le 79, 3, 86), (86, .iload_n 2, 1, 87), (87, .ifCond .ge 7, 3, 90), (90, .iconst 0, 1, 91), (91, .goto 21, 3, 94), (94, .aload_n 0, 1, 95), (95, .getfield 41, 3, 98), (98, .bipush 8, 2, 100), (100, .iload_n 2, 1, 101), (101, .imul, 1, 102), (102, .iload 6, 2, 104), (104, .iadd, 1, 105), (105, .iaload, 1, 106), (106, .aload_n 0, 1, 107), (107, .iload_n 2, 1, 108), (108, .invokevirtual 252, 3, 111), (111, .iadd, 1, 112), (112, .istore 7, 2, 114), (114, .aload_n 0, 1, 115), (115, .getfield 41, 3, 118), (118, .bipush 8, 2, 120), (120, .iload 4, 2, 122), (122, .imul, 1, 123), (123, .iload 6, 2, 125), (125, .iadd, 1, 126), (126, .iload 5, 2, 128), (128, .iload 7, 2, 130), (130, .invokestatic 164, 3, 133), (133, .iastore, 1, 134), (134, .aload_n 0, 1, 135), (135, .getfield 41, 3, 138), (138, .bipush 8, 2, 140), (140, .iload 4, 2, 142), (142, .imul, 1, 143), (143, .iload 6, 2, 145), (145, .iadd, 1, 146), (146, .iaload, 1, 147), (147, .aload_n 0, 1, 148), (148, .iload 4, 2, 150), (150, .invokevirtual 252, 3, 153), (153, .iadd, 1, 154), (154, .istore 5, 2, 156), (156, .iinc 6 1, 3, 159), (159, .goto (-93), 3, 162), (162, .aload_n 0, 1, 163), (163, .iload 4, 2, 165), (165, .invokevirtual 118, 3, 168), (168, .ifCond .le 12, 3, 171), (171, .iload 4, 2, 173), (173, .istore_n 2, 1, 174), (174, .aload_n 0, 1, 175), (175, .iload 5, 2, 177), (177, .putfield 249, 3, 180), (180, .iinc 3 1, 3, 183), (183, .goto (-167), 3, 186), (186, .return_, 1, 187)]
theorem tk_X10_cross : Tk mi_X10_cross.2.1 tb_X10_cross := Tk.of (by decide +kernel)
abbrev mi_X10_riskOf : MI := (⟨"RopesAtDawnModel", "riskOf", "(III)I"⟩, prog_12_method_65_code, 5, some (.int))
def tb_X10_riskOf : List (Nat × Instr × Nat × Nat) := [(0, .aload_n 0, 1, 1), (1, .aload_n 0, 1, 2), (2, .iload_n 1, 1, 3), (3, .iload_n 2, 1, 4), (4, .invokevirtual 121, 3, 7), (7, .iconst 0, 1, 8), (8, .invokevirtual 94, 3, 11), (11, .istore 4, 2, 13), (13, .aload_n 0, 1, 14), (14, .iconst 0, 1, 15), (15, .iload 4, 2, 17), (17, .aload_n 0, 1, 18), (18, .getfield 41, 3, 21), (21, .bipush 8, 2, 23), (23, .iload_n 1, 1, 24), (24, .imul, 1, 25), (25, .iload_n 3, 1, 26), (26, .iadd, 1, 27), (27, .iaload, 1, 28), (28, .bipush 60, 2, 30), (30, .idiv, 1, 31), (31, .aload_n 0, 1, 32), (32, .getfield 44, 3, 35), (35, .iload_n 1, 1, 36), (36, .iaload, 1, 37), (37, .iload_n 2, 1, 38), (38, .iadd, 1, 39), (39, .aload_n 0, 1, 40), (40, .iload_n 3, 1, 41), (41, .iconst 1, 1, 42), (42, .invokevirtual 109, 3, 45), (45, .aload_n 0, 1, 46), (46, .iload_n 3, 1, 47), (47, .iconst 2, 1, 48), (48, .invokevirtual 109, 3, 51), (51, .invokevirtual 180, 3, 54), (54, .ireturn, 1, 55)]
theorem tk_X10_riskOf : Tk mi_X10_riskOf.2.1 tb_X10_riskOf := Tk.of (by decide +kernel)
abbrev mi_X10_tollOf : MI := (⟨"RopesAtDawnModel", "tollOf", "()I"⟩, prog_12_method_66_code, 7, some (.int))
def tb_X10_tollOf : List (Nat × Instr × Nat × Nat) := [(0, .aload_n 0, 1, 1), (1, .invokevirtual 255, 3, 4), (4, .iconst 0, 1, 5), (5, .istore_n 1, 1, 6), (6, .iconst 0, 1, 7), (7, .istore_n 2, 1, 8), (8, .iload_n 2, 1, 9), (9, .aload_n 0, 1, 10), (10, .getfield 9, 3, 13), (13, .iconst 4, 1, 14), (14, .iaload, 1, 15), (15, .if_icmp .ge 94, 3, 18), (18, .aload_n 0, 1, 19), (19, .getfield 9, 3, 22), (22, .sipush 134, 3, 25), (25, .iload_n 2, 1, 26), (26, .iadd, 1, 27), (27, .iaload, 1, 28), (28, .istore_n 3, 1, 29), (29, .iconst 0, 1, 30), (30, .istore 4, 2, 32), (32, .iload 4, 2, 34), (34, .aload_n 0, 1, 35), (35, .iload_n 3, 1, 36), (36, .invokevirtual 118, 3, 39), (39, .if_icmp .ge 64, 3, 42), (42, .iconst 0, 1, 43), (43, .istore 5, 2, 45), (45, .iload 5, 2, 47), (47, .aload_n 0, 1, 48), (48, .getfield 9, 3, 51), (51, .iconst 2, 1, 52), (52, .iaload, 1, 53), (53, .if_icmp .ge 44, 3, 56), (56, .aload_n 0, 1, 57), (57, .iload_n 3, 1, 58), (58, .iload 4, 2, 60), (60, .iload 5, 2, 62), (62, .invokevirtual 177, 3, 65), (65, .istore 6, 2, 67), (67, .iload_n 1, 1, 68), (68, .iload 6, 2, 70), (70, .ifCond .ne 7, 3, 73), (73, .iconst 0, 1, 74), (74, .goto 15, 3, 77), (77, .iload 6, 2, 79), (79, .aload_n 0, 1, 80), (80, .iload_n 3, 1, 81), (81, .iload 4, 2, 83), (83, .iload 5, 2, 85), (85, .invokevirtual 258, 3, 88), (88, .imul, 1, 89), (89, .iadd, 1, 90), (90, .istore_n 1, 1, 91), (91, .iinc 5 1, 3, 94), (94, .goto (-49), 3, 97), (97, .iinc 4 1, 3, 100), (100, .goto (-68), 3, 103), (103, .iinc 2 1, 3, 106), (106, .goto (-98), 3, 109), (109, .iload_n 1, 1, 110), (110, .ireturn, 1, 111)]
theorem tk_X10_tollOf : Tk mi_X10_tollOf.2.1 tb_X10_tollOf := Tk.of (by decide +kernel)
abbrev mi_X10_join : MI := (⟨"RopesAtDawnModel", "join", "(I)I"⟩, prog_12_method_67_code, 2, some (.int))
def tb_X10_join : List (Nat × Instr × Nat × Nat) := [(0, .aload_n 0, 1, 1), (1, .iload_n 1, 1, 2), (2, .iconst 3, 1, 3), (3, .invokevirtual 90, 3, 6), (6, .ifCond .ne 10, 3, 9), (9, .aload_n 0, 1, 10), (10, .ldc 81, 2, 12), (12, .invokevirtual 82, 3, 15), (15, .ireturn, 1, 16), (16, .aload_n 0, 1, 17), (17, .iload_n 1, 1, 18), (18, .invokevirtual 139, 3, 21), (21, .ifCond .lt 10, 3, 24), (24, .aload_n 0, 1, 25), (25, .ldc 131, 2, 27), (27, .invokevirtual 82, 3, 30), (30, .ireturn, 1, 31), (31, .aload_n 0, 1, 32), (32, .getfield 9, 3, 35), (35, .sipush 134, 3, 38), (38, .aload_n 0, 1, 39), (39, .getfield 9, 3, 42), (42, .iconst 4, 1, 43), (43, .iaload, 1, 44), (44, .iadd, 1, 45), (45, .iload_n 1, 1, 46), (46, .iastore, 1, 47), (47, .aload_n 0, 1, 48), (48, .getfield 9, 3, 51), (51, .iconst 4, 1, 52), (52, .dup2, 1, 53), (53, .iaload, 1, 54), (54, .iconst 1, 1, 55), (55, .iadd, 1, 56), (56, .iastore, 1, 57), (57, .aload_n 0, 1, 58), (58, .getfield 9, 3, 61), (61, .iconst 4, 1, 62), (62, .iaload, 1, 63), (63, .iconst 1, 1, 64), (64, .isub, 1, 65), (65, .ireturn, 1, 66)]
theorem tk_X10_join : Tk mi_X10_join.2.1 tb_X10_join := Tk.of (by decide +kernel)
abbrev mi_X10_clear : MI := (⟨"RopesAtDawnModel", "clear", "()I"⟩, prog_12_method_68_code, 1, some (.int))
def tb_X10_clear : List (Nat × Instr × Nat × Nat) := [(0, .aload_n 0, 1, 1), (1, .iconst 4, 1, 2), (2, .iconst 0, 1, 3), (3, .invokevirtual 112, 3, 6), (6, .ireturn, 1, 7)]
theorem tk_X10_clear : Tk mi_X10_clear.2.1 tb_X10_clear := Tk.of (by decide +kernel)
abbrev mi_X10_when : MI := (⟨"RopesAtDawnModel", "when", "(III)I"⟩, prog_12_method_69_code, 4, some (.int))
def tb_X10_when : List (Nat × Instr × Nat × Nat) := [(0, .aload_n 0, 1, 1), (1, .iload_n 1, 1, 2), (2, .iconst 3, 1, 3), (3, .invokevirtual 90, 3, 6), (6, .ifCond .eq 21, 3, 9), (9, .aload_n 0, 1, 10), (10, .iload_n 2, 1, 11), (11, .iconst 2, 1, 12), (12, .invokevirtual 90, 3, 15), (15, .ifCond .eq 12, 3, 18), (18, .iload_n 3, 1, 19), (19, .iconst 0, 1, 20), (20, .iconst 1, 1, 21), (21, .invokestatic 69, 3, 24), (24, .ifCond .ne 10, 3, 27), (27, .aload_n 0, 1, 28), (28, .ldc 81, 2, 30), (30, .invokevirtual 82, 3, 33), (33, .ireturn, 1, 34), (34, .aload_n 0, 1, 35), (35, .iload_n 1, 1, 36), (36, .invokevirtual 139, 3, 39), (39, .ifCond .lt 11, 3, 42), (42, .aload_n 0, 1, 43), (43, .iload_n 1, 1, 44), (44, .invokevirtual 118, 3, 47), (47, .ifCond .ne 10, 3, 50), (50, .aload_n 0, 1, 51), (51, .ldc 108, 2, 53), (53, .invokevirtual 82, 3, 56), (56, .ireturn, 1, 57), (57, .aload_n 0, 1, 58), (58, .invokevirtual 255, 3, 61), (61, .aload_n 0, 1, 62), (62, .getfield 41, 3, 65), (65, .bipush 8, 2, 67), (67, .iload_n 1, 1, 68), (68, .imul, 1, 69), (69, .iload_n 2, 1, 70), (70, .iadd, 1, 71), (71, .iaload, 1, 72), (72, .iload_n 3, 1, 73), (73, .iconst 1, 1, 74), (74, .if_icmp .ne 11, 3, 77), (77, .aload_n 0, 1, 78), (78, .iload_n 1, 1, 79), (79, .invokevirtual 252, 3, 82), (82, .goto 4, 3, 85), (85, .iconst 0, 1, 86), (86, .iadd, 1, 87), (87, .ireturn, 1, 88)]
theorem tk_X10_when : Tk mi_X10_when.2.1 tb_X10_when := Tk.of (by decide +kernel)
abbrev mi_X10_isInLine : MI := (⟨"RopesAtDawnModel", "isInLine", "(I)Z"⟩, prog_12_method_70_code, 2, some (.boolean))
def tb_X10_isInLine : List (Nat × Instr × Nat × Nat) := [(0, .aload_n 0, 1, 1), (1, .iload_n 1, 1, 2), (2, .invokevirtual 98, 3, 5), (5, .ifCond .lt 19, 3, 8), (8, .aload_n 0, 1, 9), (9, .aload_n 0, 1, 10), (10, .iload_n 1, 1, 11), (11, .invokevirtual 98, 3, 14), (14, .invokevirtual 139, 3, 17), (17, .ifCond .lt 7, 3, 20), (20, .iconst 1, 1, 21), (21, .goto 4, 3, 24), (24, .iconst 0, 1, 25), (25, .ireturn, 1, 26)]
theorem tk_X10_isInLine : Tk mi_X10_isInLine.2.1 tb_X10_isInLine := Tk.of (by decide +kernel)
abbrev mi_X10_risk : MI := (⟨"RopesAtDawnModel", "risk", "(II)I"⟩, prog_12_method_71_code, 3, some (.int))
def tb_X10_risk : List (Nat × Instr × Nat × Nat) := [(0, .aload_n 0, 1, 1), (1, .iload_n 1, 1, 2), (2, .iconst 1, 1, 3), (3, .invokevirtual 90, 3, 6), (6, .ifCond .eq 12, 3, 9), (9, .aload_n 0, 1, 10), (10, .iload_n 2, 1, 11), (11, .iconst 2, 1, 12), (12, .invokevirtual 90, 3, 15), (15, .ifCond .ne 10, 3, 18), (18, .aload_n 0, 1, 19), (19, .ldc 81, 2, 21), (21, .invokevirtual 82, 3, 24), (24, .ireturn, 1, 25), (25, .aload_n 0, 1, 26), (26, .iload_n 1, 1, 27), (27, .invokevirtual 261, 3, 30), (30, .ifCond .ne 10, 3, 33), (33, .aload_n 0, 1, 34), (34, .ldc 108, 2, 36), (36, .invokevirtual 82, 3, 39), (39, .ireturn, 1, 40), (40, .aload_n 0, 1, 41), (41, .invokevirtual 255, 3, 44), (44, .aload_n 0, 1, 45), (45, .aload_n 0, 1, 46), (46, .iload_n 1, 1, 47), (47, .invokevirtual 98, 3, 50), (50, .aload_n 0, 1, 51), (51, .iload_n 1, 1, 52), (52, .invokevirtual 101, 3, 55), (55, .iload_n 2, 1, 56), (56, .invokevirtual 258, 3, 59), (59, .ireturn, 1, 60)]
theorem tk_X10_risk : Tk mi_X10_risk.2.1 tb_X10_risk := Tk.of (by decide +kernel)
abbrev mi_X10_over : MI := (⟨"RopesAtDawnModel", "over", "()I"⟩, prog_12_method_72_code, 1, some (.int))
def tb_X10_over : List (Nat × Instr × Nat × Nat) := [(0, .aload_n 0, 1, 1), (1, .invokevirtual 255, 3, 4), (4, .aload_n 0, 1, 5), (5, .getfield 249, 3, 8), (8, .ireturn, 1, 9)]
theorem tk_X10_over : Tk mi_X10_over.2.1 tb_X10_over := Tk.of (by decide +kernel)
abbrev mi_X10_toll : MI := (⟨"RopesAtDawnModel", "toll", "()I"⟩, prog_12_method_73_code, 1, some (.int))
def tb_X10_toll : List (Nat × Instr × Nat × Nat) := [(0, .aload_n 0, 1, 1), (1, .invokevirtual 264, 3, 4), (4, .ireturn, 1, 5)]
theorem tk_X10_toll : Tk mi_X10_toll.2.1 tb_X10_toll := Tk.of (by decide +kernel)
abbrev mi_X10_nexts : MI := (⟨"RopesAtDawnModel", "nexts", "([II)Z"⟩, prog_12_method_74_code, 6, some (.boolean))
def tb_X10_nexts : List (Nat × Instr × Nat × Nat) := [(0, .iload_n 1, 1, 1), (1, .iconst 2, 1, 2), (2, .isub, 1, 3), (3, .istore_n 2, 1, 4), (4, .iload_n 2, 1, 5), (5, .ifCond .lt 20, 3, 8), (8, .aload_n 0, 1, 9), (9, .iload_n 2, 1, 10), (10, .iaload, 1, 11), (11, .aload_n 0, 1, 12), (12, .iload_n 2, 1, 13), (13, .iconst 1, 1, 14), (14, .iadd, 1, 15), (15, .iaload, 1, 16), (16, .if_icmp .le 9, 3, 19), (19, .iinc 2 (-1), 3, 22), (22, .goto (-18), 3, 25), (25, .iload_n 2, 1, 26), (26, .ifCond .ge 5, 3, 29), (29, .iconst 0, 1, 30), (30, .ireturn, 1, 31), (31, .iload_n 1, 1, 32), (32, .iconst 1, 1, 33), (33, .isub, 1, 34), (34, .istore_n 3, 1, 35), (35, .aload_n 0, 1, 36), (36, .iload_n 3, 1, 37), (37, .iaload, 1, 38), (38, .aload_n 0, 1, 39), (39, .iload_n 2, 1, 40), (40, .iaload, 1, 41), (41, .if_icmp .ge 9, 3, 44), (44, .iinc 3 (-1), 3, 47), (47, .goto (-12), 3, 50), (50, .aload_n 0, 1, 51), (51, .iload_n 2, 1, 52), (52, .iload_n 3, 1, 53), (53, .invokestatic 267, 3, 56), (56, .iload_n 2, 1, 57), (57, .iconst 1, 1, 58), (58, .iadd, 1, 59), (59, .istore 4, 2, 61), (61, .iload_n 1, 1, 62), (62, .iconst 1, 1, 63), (63, .isub, 1, 64), (64, .istore 5, 2, 66), (66, .iload 4, 2, 68), (68, .iload 5, 2, 70), (70, .if_icmp .ge 20, 3, 73), (73, .aload_n 0, 1, 74), (74, .iload 4, 2, 76), (76, .iload 5, 2, 78), (78, .invokestatic 267, 3, 81), (81, .iinc 4 1, 3, 84), (84, .iinc 5 (-1), 3, 87), (87, .goto (-21), 3, 90), (90, .iconst 1, 1, 91), (91, .ireturn, 1, 92)]
theorem tk_X10_nexts : Tk mi_X10_nexts.2.1 tb_X10_nexts := Tk.of (by decide +kernel)
abbrev mi_X10_swaps : MI := (⟨"RopesAtDawnModel", "swaps", "([III)V"⟩, prog_12_method_75_code, 4, none)
def tb_X10_swaps : List (Nat × Instr × Nat × Nat) := [(0, .aload_n 0, 1, 1), (1, .iload_n 1, 1, 2), (2, .iaload, 1, 3), (3, .istore_n 3, 1, 4), (4, .aload_n 0, 1, 5), (5, .iload_n 1, 1, 6), (6, .aload_n 0, 1, 7), (7, .iload_n 2, 1, 8), (8, .iaload, 1, 9), (9, .iastore, 1, 10), (10, .aload_n 0, 1, 11), (11, .iload_n 2, 1, 12), (12, .iload_n 3, 1, 13), (13, .iastore, 1, 14), (14, .return_, 1, 15)]
theorem tk_X10_swaps : Tk mi_X10_swaps.2.1 tb_X10_swaps := Tk.of (by decide +kernel)
abbrev mi_X10_sorts : MI := (⟨"RopesAtDawnModel", "sorts", "([II)V"⟩, prog_12_method_76_code, 4, none)
def tb_X10_sorts : List (Nat × Instr × Nat × Nat) := [(0, .iconst 0, 1, 1), (1, .istore_n 2, 1, 2), (2, .iload_n 2, 1, 3), (3, .iload_n 1, 1, 4), (4, .if_icmp .ge 39, 3, 7), (7, .iload_n 2, 1, 8), (8, .iconst 1, 1, 9), (9, .iadd, 1, 10), (10, .istore_n 3, 1, 11), (11, .iload_n 3, 1, 12), (12, .iload_n 1, 1, 13), (13, .if_icmp .ge 24, 3, 16), (16, .aload_n 0, 1, 17), (17, .iload_n 3, 1, 18), (18, .iaload, 1, 19), (19, .aload_n 0, 1, 20), (20, .iload_n 2, 1, 21), (21, .iaload, 1, 22), (22, .if_icmp .ge 9, 3, 25), (25, .aload_n 0, 1, 26), (26, .iload_n 2, 1, 27), (27, .iload_n 3, 1, 28), (28, .invokestatic 267, 3, 31), (31, .iinc 3 1, 3, 34), (34, .goto (-23), 3, 37), (37, .iinc 2 1, 3, 40), (40, .goto (-38), 3, 43), (43, .return_, 1, 44)]
theorem tk_X10_sorts : Tk mi_X10_sorts.2.1 tb_X10_sorts := Tk.of (by decide +kernel)
abbrev mi_X10_findOrder : MI := (⟨"RopesAtDawnModel", "findOrder", "(I)V"⟩, prog_12_method_77_code, 6, none)
def tb_X10_findOrder : List (Nat × Instr × Nat × Nat) := [(0, .aload_n 0, 1, 1), (1, .getfield 9, 3, 4), (4, .aload_n 0, 1, 5), (5, .getfield 16, 3, 8), (8, .invokestatic 73, 3, 11), (11, .aload_n 0, 1, 12), (12, .iload_n 1, 1, 13), (13, .invokevirtual 118, 3, 16), (16, .istore_n 2, 1, 17), (17, .iconst 0, 1, 18), (18, .istore_n 3, 1, 19), (19, .iload_n 3, 1, 20), (20, .iload_n 2, 1, 21), (21, .if_icmp .ge 21, 3, 24), (24, .aload_n 0, 1, 25), (25, .getfield 47, 3, 28), (28, .iload_n 3, 1, 29), (29, .aload_n 0, 1, 30), (30, .iload_n 1, 1, 31), (31, .iload_n 3, 1, 32), (32, .invokevirtual 121, 3, 35), (35, .iastore, 1, 36), (36, .iinc 3 1, 3, 39), (39, .goto (-20), 3, 42), (42, .aload_n 0, 1, 43), (43, .getfield 47, 3, 46), (46, .iload_n 2, 1, 47), (47, .invokestatic 271, 3, 50), (50, .aload_n 0, 1, 51), (51, .iconst (-1), 1, 52), (52, .putfield 275, 3, 55), (55, .iconst 1, 1, 56), (56, .istore_n 3, 1, 57), (57, .iload_n 3, 1, 58), (58, .ifCond .eq 101, 3, 61), (61, .iconst 0, 1, 62), (62, .istore 4, 2, 64), (64, .iload 4, 2, 66), (66, .iload_n 2, 1, 67), (67, .if_icmp .ge 23, 3, 70), (70, .aload_n 0, 1, 71), (71, .iload_n 1, 1, 72), (72, .iload 4, 2, 74), (74, .aload_n 0, 1, 75), (75, .getfield 47, 3, 78), (78, .iload 4, 2, 80), (80, .iaload, 1, 81), (81, .invokevirtual 127, 3, 84), (84, .iinc 4 1, 3, 87), (87, .goto (-23), 3, 90), (90, .aload_n 0, 1, 91), (91, .invokevirtual 264, 3, 94), (94, .istore 4, 2, 96), (96, .aload_n 0, 1, 97), (97, .getfield 275, 3, 100), (100, .ifCond .lt 12, 3, 103), (103, .iload 4, 2, 105), (105, .aload_n 0, 1, 106), (106, .getfield 275, 3, 109), (109, .if_icmp .ge 38, 3, 112), (112, .aload_n 0, 1, 113), (113, .iload 4, 2, 115), (115, .putfield 275, 3, 118), (118, .iconst 0, 1, 119), (119, .istore 5, 2, 121), (121, .iload 5, 2, 123), (123, .iload_n 2, 1, 124), (124, .if_icmp .ge 23, 3, 127), (127, .aload_n 0, 1, 128), (128, .getfield 50, 3, 131), (131, .iload 5, 2, 133), (133, .aload_n 0, 1, 134), (134, .getfield 47, 3, 137), (137, .iload 5, 2, 139), (139, .iaload, 1, 140), (140, .iastore, 1, 141), (141, .iinc 5 1, 3, 144), (144, .goto (-23), 3, 147), (147, .aload_n 0, 1, 148), (148, .getfield 47, 3, 151), (151, .iload_n 2, 1, 152), (152, .invokestatic 278, 3, 155), (155, .istore_n 3, 1, 156), (156, .goto (-99), 3, 159), (159, .aload_n 0, 1, 160), (160, .getfield 16, 3, 163), (163, .aload_n 0, 1, 164), (164, .getfield 9, 3, 167), (167, .invokestatic 73, 3, 170), (170, .return_, 1, 171)]
theorem tk_X10_findOrder : Tk mi_X10_findOrder.2.1 tb_X10_findOrder := Tk.of (by decide +kernel)
abbrev mi_X10_order : MI := (⟨"RopesAtDawnModel", "order", "(II)I"⟩, prog_12_method_78_code, 3, some (.int))
def tb_X10_order : List (Nat × Instr × Nat × Nat) := [(0, .aload_n 0, 1, 1), (1, .iload_n 1, 1, 2), (2, .iconst 3, 1, 3), (3, .invokevirtual 90, 3, 6), (6, .ifCond .eq 8, 3, 9), (9, .iload_n 2, 1, 10), (10, .iconst (-1), 1, 11), (11, .if_icmp .ge 10, 3, 14), (14, .aload_n 0, 1, 15), (15, .ldc 81, 2, 17), (17, .invokevirtual 82, 3, 20), (20, .ireturn, 1, 21), (21, .aload_n 0, 1, 22), (22, .iload_n 1, 1, 23), (23, .invokevirtual 139, 3, 26), (26, .ifCond .ge 10, 3, 29), (29, .aload_n 0, 1, 30), (30, .ldc 131, 2, 32), (32, .invokevirtual 82, 3, 35), (35, .ireturn, 1, 36), (36, .iload_n 2, 1, 37), (37, .aload_n 0, 1, 38), (38, .iload_n 1, 1, 39), (39, .invokevirtual 118, 3, 42), (42, .if_icmp .lt 10, 3, 45), (45, .aload_n 0, 1, 46), (46, .ldc 108, 2, 48), (48, .invokevirtual 82, 3, 51), (51, .ireturn, 1, 52), (52, .aload_n 0, 1, 53), (53, .iload_n 1, 1, 54), (54, .invokevirtual 282, 3, 57), (57, .iload_n 2, 1, 58), (58, .ifCond .ge 10, 3, 61), (61, .aload_n 0, 1, 62), (62, .getfield 275, 3, 65), (65, .goto 9, 3, 68), (68, .aload_n 0, 1, 69), (69, .getfield 50, 3, 72), (72, .iload_n 2, 1, 73), (73, .iaload, 1, 74), (74, .ireturn, 1, 75)]
theorem tk_X10_order : Tk mi_X10_order.2.1 tb_X10_order := Tk.of (by decide +kernel)
abbrev mi_X10_spaceOf : MI := (⟨"RopesAtDawnModel", "spaceOf", "(I)I"⟩, prog_12_method_79_code, 5, some (.int))
def tb_X10_spaceOf : List (Nat × Instr × Nat × Nat) := [(0, .aload_n 0, 1, 1), (1, .getfield 9, 3, 4), (4, .aload_n 0, 1, 5), (5, .getfield 16, 3, 8), (8, .invokestatic 73, 3, 11), (11, .iconst 0, 1, 12), (12, .istore_n 2, 1, 13), (13, .aload_n 0, 1, 14), (14, .iconst (-1), 1, 15), (15, .putfield 275, 3, 18), (18, .iconst 1, 1, 19), (19, .istore_n 3, 1, 20), (20, .iload_n 3, 1, 21), (21, .bipush 20, 2, 23), (23, .if_icmp .gt 54, 3, 26), (26, .aload_n 0, 1, 27), (27, .getfield 9, 3, 30), (30, .bipush 80, 2, 32), (32, .bipush 9, 2, 34), (34, .iload_n 1, 1, 35), (35, .imul, 1, 36), (36, .iadd, 1, 37), (37, .iconst 1, 1, 38), (38, .iadd, 1, 39), (39, .iload_n 3, 1, 40), (40, .iastore, 1, 41), (41, .aload_n 0, 1, 42), (42, .invokevirtual 264, 3, 45), (45, .istore 4, 2, 47), (47, .aload_n 0, 1, 48), (48, .getfield 275, 3, 51), (51, .ifCond .lt 12, 3, 54), (54, .iload 4, 2, 56), (56, .aload_n 0, 1, 57), (57, .getfield 275, 3, 60), (60, .if_icmp .ge 11, 3, 63), (63, .aload_n 0, 1, 64), (64, .iload 4, 2, 66), (66, .putfield 275, 3, 69), (69, .iload_n 3, 1, 70), (70, .istore_n 2, 1, 71), (71, .iinc 3 1, 3, 74), (74, .goto (-54), 3, 77), (77, .aload_n 0, 1, 78), (78, .iload_n 2, 1, 79), (79, .invokevirtual 285, 3, 82), (82, .ireturn, 1, 83)]
theorem tk_X10_spaceOf : Tk mi_X10_spaceOf.2.1 tb_X10_spaceOf := Tk.of (by decide +kernel)
abbrev mi_X10_space : MI := (⟨"RopesAtDawnModel", "space", "(I)I"⟩, prog_12_method_80_code, 2, some (.int))
def tb_X10_space : List (Nat × Instr × Nat × Nat) := [(0, .aload_n 0, 1, 1), (1, .iload_n 1, 1, 2), (2, .iconst 3, 1, 3), (3, .invokevirtual 90, 3, 6), (6, .ifCond .ne 10, 3, 9), (9, .aload_n 0, 1, 10), (10, .ldc 81, 2, 12), (12, .invokevirtual 82, 3, 15), (15, .ireturn, 1, 16), (16, .aload_n 0, 1, 17), (17, .iload_n 1, 1, 18), (18, .invokevirtual 139, 3, 21), (21, .ifCond .ge 12, 3, 24), (24, .aload_n 0, 1, 25), (25, .ldc 131, 2, 27), (27, .invokevirtual 82, 3, 30), (30, .goto 8, 3, 33), (33, .aload_n 0, 1, 34), (34, .iload_n 1, 1, 35), (35, .invokevirtual 288, 3, 38), (38, .ireturn, 1, 39)]
theorem tk_X10_space : Tk mi_X10_space.2.1 tb_X10_space := Tk.of (by decide +kernel)
abbrev mi_X10_findLine : MI := (⟨"RopesAtDawnModel", "findLine", "()V"⟩, prog_12_method_81_code, 6, none)
def tb_X10_findLine : List (Nat × Instr × Nat × Nat) := [(0, .aload_n 0, 1, 1), (1, .getfield 9, 3, 4), (4, .aload_n 0, 1, 5), (5, .getfield 16, 3, 8), (8, .invokestatic 73, 3, 11), (11, .aload_n 0, 1, 12), (12, .getfield 9, 3, 15), (15, .iconst 4, 1, 16), (16, .iaload, 1, 17), (17, .istore_n 1, 1, 18), (18, .iconst 0, 1, 19), (19, .istore_n 2, 1, 20), (20, .iload_n 2, 1, 21), (21, .iload_n 1, 1, 22), (22, .if_icmp .ge 25, 3, 25), (25, .aload_n 0, 1, 26), (26, .getfield 47, 3, 29), (29, .iload_n 2, 1, 30), (30, .aload_n 0, 1, 31), (31, .getfield 9, 3, 34), (34, .sipush 134, 3, 37), (37, .iload_n 2, 1, 38), (38, .iadd, 1, 39), (39, .iaload, 1, 40), (40, .iastore, 1, 41), (41, .iinc 2 1, 3, 44), (44, .goto (-24), 3, 47), (47, .aload_n 0, 1, 48), (48, .getfield 47, 3, 51), (51, .iload_n 1, 1, 52), (52, .invokestatic 271, 3, 55), (55, .aload_n 0, 1, 56), (56, .iconst (-1), 1, 57), (57, .putfield 275, 3, 60), (60, .iconst 0, 1, 61), (61, .istore_n 2, 1, 62), (62, .iconst 1, 1, 63), (63, .istore_n 3, 1, 64), (64, .iload_n 3, 1, 65), (65, .ifCond .eq 127, 3, 68), (68, .iconst 0, 1, 69), (69, .istore 4, 2, 71), (71, .iload 4, 2, 73), (73, .iload_n 1, 1, 74), (74, .if_icmp .ge 27, 3, 77), (77, .aload_n 0, 1, 78), (78, .getfield 9, 3, 81), (81, .sipush 134, 3, 84), (84, .iload 4, 2, 86), (86, .iadd, 1, 87), (87, .aload_n 0, 1, 88), (88, .getfield 47, 3, 91), (91, .iload 4, 2, 93), (93, .iaload, 1, 94), (94, .iastore, 1, 95), (95, .iinc 4 1, 3, 98), (98, .goto (-27), 3, 101), (101, .aload_n 0, 1, 102), (102, .invokevirtual 264, 3, 105), (105, .istore 4, 2, 107), (107, .aload_n 0, 1, 108), (108, .getfield 275, 3, 111), (111, .ifCond .lt 29, 3, 114), (114, .iload 4, 2, 116), (116, .aload_n 0, 1, 117), (117, .getfield 275, 3, 120), (120, .if_icmp .lt 20, 3, 123), (123, .iload 4, 2, 125), (125, .aload_n 0, 1, 126), (126, .getfield 275, 3, 129), (129, .if_icmp .ne 51, 3, 132), (132, .aload_n 0, 1, 133), (133, .getfield 249, 3, 136), (136, .iload_n 2, 1, 137), (137, .if_icmp .ge 43, 3, 140), (140, .aload_n 0, 1, 141), (141, .iload 4, 2, 143), (143, .putfield 275, 3, 146), (146, .aload_n 0, 1, 147), (147, .getfield 249, 3, 150), (150, .istore_n 2, 1, 151), (151, .iconst 0, 1, 152), (152, .istore 5, 2, 154), (154, .iload 5, 2, 156), (156, .iload_n 1, 1, 157), (157, .if_icmp .ge 23, 3, 160), (160, .aload_n 0, 1, 161), (161, .getfield 50, 3, 164), (164, .iload 5, 2, 166), (166, .aload_n 0, 1, 167), (167, .getfield 47, 3, 170), (170, .iload 5, 2, 172), (172, .iaload, 1, 173), (173, .iastore, 1, 174), (174, .iinc 5 1, 3, 177), (177, .goto (-23), 3, 180), (180, .aload_n 0, 1, 181), (181, .getfield 47, 3, 184), (184, .iload_n 1, 1, 185), (185, .invokestatic 278, 3, 188), (188, .istore_n 3, 1, 189), (189, .goto (-125), 3, 192), (192, .aload_n 0, 1, 193), (193, .getfield 16, 3, 196), (196, .aload_n 0, 1, 197), (197, .getfield 9, 3, 200), (200, .invokestatic 73, 3, 203), (203, .return_, 1, 204)]
theorem tk_X10_findLine : Tk mi_X10_findLine.2.1 tb_X10_findLine := Tk.of (by decide +kernel)
abbrev mi_X10_line : MI := (⟨"RopesAtDawnModel", "line", "(I)I"⟩, prog_12_method_82_code, 2, some (.int))
def tb_X10_line : List (Nat × Instr × Nat × Nat) := [(0, .iload_n 1, 1, 1), (1, .iconst (-1), 1, 2), (2, .if_icmp .ge 10, 3, 5), (5, .aload_n 0, 1, 6), (6, .ldc 81, 2, 8), (8, .invokevirtual 82, 3, 11), (11, .ireturn, 1, 12), (12, .iload_n 1, 1, 13), (13, .aload_n 0, 1, 14), (14, .getfield 9, 3, 17), (17, .iconst 4, 1, 18), (18, .iaload, 1, 19), (19, .if_icmp .lt 10, 3, 22), (22, .aload_n 0, 1, 23), (23, .ldc 108, 2, 25), (25, .invokevirtual 82, 3, 28), (28, .ireturn, 1, 29), (29, .aload_n 0, 1, 30), (30, .invokevirtual 291, 3, 33), (33, .iload_n 1, 1, 34), (34, .ifCond .ge 10, 3, 37), (37, .aload_n 0, 1, 38), (38, .getfield 275, 3, 41), (41, .goto 9, 3, 44), (44, .aload_n 0, 1, 45), (45, .getfield 50, 3, 48), (48, .iload_n 1, 1, 49), (49, .iaload, 1, 50), (50, .ireturn, 1, 51)]
theorem tk_X10_line : Tk mi_X10_line.2.1 tb_X10_line := Tk.of (by decide +kernel)
abbrev mi_X10_parts : MI := (⟨"RopesAtDawnModel", "parts", "(II)I"⟩, prog_12_method_83_code, 7, some (.int))
def tb_X10_parts : List (Nat × Instr × Nat × Nat) := [(0, .aload_n 0, 1, 1), (1, .iload_n 1, 1, 2), (2, .iconst 3, 1, 3), (3, .invokevirtual 90, 3, 6), (6, .ifCond .eq 17, 3, 9), (9, .aload_n 0, 1, 10), (10, .iload_n 2, 1, 11), (11, .iconst 3, 1, 12), (12, .invokevirtual 90, 3, 15), (15, .ifCond .eq 8, 3, 18), (18, .iload_n 1, 1, 19), (19, .iload_n 2, 1, 20), (20, .if_icmp .ne 10, 3, 23), (23, .aload_n 0, 1, 24), (24, .ldc 81, 2, 26), (26, .invokevirtual 82, 3, 29), (29, .ireturn, 1, 30), (30, .aload_n 0, 1, 31), (31, .iload_n 1, 1, 32), (32, .invokevirtual 139, 3, 35), (35, .ifCond .lt 11, 3, 38), (38, .aload_n 0, 1, 39), (39, .iload_n 2, 1, 40), (40, .invokevirtual 139, 3, 43), (43, .ifCond .ge 10, 3, 46), (46, .aload_n 0, 1, 47), (47, .ldc 131, 2, 49), (49, .invokevirtual 82, 3, 52), (52, .ireturn, 1, 53), (53, .aload_n 0, 1, 54), (54, .getfield 9, 3, 57), (57, .aload_n 0, 1, 58), (58, .getfield 16, 3, 61), (61, .invokestatic 73, 3, 64), (64, .iconst 0, 1, 65), (65, .istore_n 3, 1, 66), (66, .iconst 0, 1, 67), (67, .istore 4, 2, 69), (69, .iload 4, 2, 71), (71, .iconst 5, 1, 72), (72, .if_icmp .ge 61, 3, 75), (75, .iload_n 3, 1, 76), (76, .iload 4, 2, 78), (78, .aload_n 0, 1, 79), (79, .iload_n 1, 1, 80), (80, .invokevirtual 118, 3, 83), (83, .if_icmp .ge 15, 3, 86), (86, .iconst 1, 1, 87), (87, .aload_n 0, 1, 88), (88, .iload_n 1, 1, 89), (89, .iload 4, 2, 91), (91, .invokevirtual 121, 3, 94), (94, .ishl, 1, 95), (95, .goto 4, 3, 98), (98, .iconst 0, 1, 99), (99, .ior, 1, 100), (100, .istore_n 3, 1, 101), (101, .iload_n 3, 1, 102), (102, .iload 4, 2, 104), (104, .aload_n 0, 1, 105), (105, .iload_n 2, 1, 106), (106, .invokevirtual 118, 3, 109), (109, .if_icmp .ge 15, 3, 112), (112, .iconst 1, 1, 113), (113, .aload_n 0, 1, 114), (114, .iload_n 2, 1, 115), (115, .iload 4, 2, 117), (117, .invokevirtual 121, 3, 120), (120, .ishl, 1, 121), (121, .goto 4, 3, 124), (124, .iconst 0, 1, 125), (125, .ior, 1, 126), (126, .istore_n 3, 1, 127), (127, .iinc 4 1, 3, 130), (130, .goto (-61), 3, 133), (133, .iconst (-1), 1, 134), (134, .istore 4, 2, 136), (136, .aload_n 0, 1, 137), (137, .iconst 0, 1, 138), (138, .putfield 275, 3, 141), (141, .iconst 0, 1, 142), (142, .istore 5, 2, 144), (144, .iload 5, 2, 146), (146, .iload_n 3, 1, 147), (147, .if_icmp .gt 72, 3, 150), (150, .iload 5, 2, 152), (152, .iload_n 3, 1, 153), (153, .iconst (-1), 1, 154), (154, .ixor, 1, 155), (155, .iand, 1, 156), (156, .ifCond .ne 57, 3, 159), (159, .aload_n 0, 1, 160), (160, .iload_n 1, 1, 161), (161, .iload 5, 2, 163), (163, .invokevirtual 294, 3, 166), (166, .ifCond .eq 47, 3, 169), (169, .aload_n 0, 1, 170), (170, .iload_n 2, 1, 171), (171, .iload_n 3, 1, 172), (172, .iload 5, 2, 174), (174, .iconst (-1), 1, 175), (175, .ixor, 1, 176), (176, .iand, 1, 177), (177, .invokevirtual 294, 3, 180), (180, .ifCond .eq 33, 3, 183), (183, .aload_n 0, 1, 184), (184, .invokevirtual 264, 3, 187), (187, .istore 6, 2, 189), (189, .iload 4, 2, 191), (191, .ifCond .lt 12, 3, 194), (194, .iload 6, 2, 196), (196, .aload_n 0, 1, 197), (197, .getfield 275, 3, 200), (200, .if_icmp .ge 13, 3, 203), (203, .iload 5, 2, 205), (205, .istore 4, 2, 207), (207, .aload_n 0, 1, 208), (208, .iload 6, 2, 210), (210, .putfield 275, 3, 213), (213, .iinc 5 1, 3, 216), (216, .goto (-72), 3, 219), (219, .aload_n 0, 1, 220), (220, .iload 4, 2, 222), (222, .invokevirtual 285, 3, 225), (225, .ireturn, 1, 226)]
theorem tk_X10_parts : Tk mi_X10_parts.2.1 tb_X10_parts := Tk.of (by decide +kernel)
abbrev mi_X10_parted : MI := (⟨"RopesAtDawnModel", "parted", "(II)Z"⟩, prog_12_method_84_code, 5, some (.boolean))
def tb_X10_parted : List (Nat × Instr × Nat × Nat) := [(0, .iconst 0, 1, 1), (1, .istore_n 3, 1, 2), (2, .iconst 0, 1, 3), (3, .istore 4, 2, 5), (5, .iload 4, 2, 7), (7, .bipush 10, 2, 9), (9, .if_icmp .ge 40, 3, 12), (12, .iload_n 2, 1, 13), (13, .iload 4, 2, 15), (15, .invokestatic 150, 3, 18), (18, .ifCond .eq 25, 3, 21), (21, .iload_n 3, 1, 22), (22, .bipush 6, 2, 24), (24, .if_icmp .ge 19, 3, 27), (27, .iload_n 3, 1, 28), (28, .iconst 5, 1, 29), (29, .if_icmp .ge 11, 3, 32), (32, .aload_n 0, 1, 33), (33, .iload_n 1, 1, 34), (34, .iload_n 3, 1, 35), (35, .iload 4, 2, 37), (37, .invokevirtual 127, 3, 40), (40, .iinc 3 1, 3, 43), (43, .iinc 4 1, 3, 46), (46, .goto (-41), 3, 49), (49, .aload_n 0, 1, 50), (50, .getfield 9, 3, 53), (53, .bipush 80, 2, 55), (55, .bipush 9, 2, 57), (57, .iload_n 1, 1, 58), (58, .imul, 1, 59), (59, .iadd, 1, 60), (60, .iconst 3, 1, 61), (61, .iadd, 1, 62), (62, .iload_n 3, 1, 63), (63, .iconst 5, 1, 64), (64, .invokestatic 246, 3, 67), (67, .iastore, 1, 68), (68, .iload_n 3, 1, 69), (69, .iconst 5, 1, 70), (70, .if_icmp .gt 7, 3, 73), (73, .iconst 1, 1, 74), (74, .goto 4, 3, 77), (77, .iconst 0, 1, 78), (78, .ireturn, 1, 79)]
theorem tk_X10_parted : Tk mi_X10_parted.2.1 tb_X10_parted := Tk.of (by decide +kernel)
abbrev mi_X10_latest : MI := (⟨"RopesAtDawnModel", "latest", "(I)I"⟩, prog_12_method_85_code, 5, some (.int))
def tb_X10_latest : List (Nat × Instr × Nat × Nat) := [(0, .iload_n 1, 1, 1), (1, .iconst 0, 1, 2), (2, .sipush 9999, 3, 5), (5, .invokestatic 69, 3, 8), (8, .ifCond .ne 10, 3, 11), (11, .aload_n 0, 1, 12), (12, .ldc 81, 2, 14), (14, .invokevirtual 82, 3, 17), (17, .ireturn, 1, 18), (18, .aload_n 0, 1, 19), (19, .getfield 9, 3, 22), (22, .iconst 0, 1, 23), (23, .iaload, 1, 24), (24, .istore_n 2, 1, 25), (25, .iconst (-1), 1, 26), (26, .istore_n 3, 1, 27), (27, .iconst 0, 1, 28), (28, .istore 4, 2, 30), (30, .iload 4, 2, 32), (32, .sipush 1440, 3, 35), (35, .if_icmp .ge 36, 3, 38), (38, .aload_n 0, 1, 39), (39, .getfield 9, 3, 42), (42, .iconst 0, 1, 43), (43, .iload 4, 2, 45), (45, .iastore, 1, 46), (46, .aload_n 0, 1, 47), (47, .invokevirtual 255, 3, 50), (50, .aload_n 0, 1, 51), (51, .getfield 249, 3, 54), (54, .iload_n 1, 1, 55), (55, .if_icmp .gt 8, 3, 58), (58, .iload 4, 2, 60), (60, .goto 4, 3, 63), (63, .iload_n 3, 1, 64), (64, .istore_n 3, 1, 65), (65, .iinc 4 1, 3, 68), (68, .goto (-38), 3, 71), (71, .aload_n 0, 1, 72), (72, .getfield 9, 3, 75), (75, .iconst 0, 1, 76), (76, .iload_n 2, 1, 77), (77, .iastore, 1, 78), (78, .iload_n 3, 1, 79), (79, .ifCond .ge 12, 3, 82), (82, .aload_n 0, 1, 83), (83, .ldc 108, 2, 85), (85, .invokevirtual 82, 3, 88), (88, .goto 4, 3, 91), (91, .iload_n 3, 1, 92), (92, .ireturn, 1, 93)]
theorem tk_X10_latest : Tk mi_X10_latest.2.1 tb_X10_latest := Tk.of (by decide +kernel)
abbrev mi_X10_best : MI := (⟨"RopesAtDawnModel", "best", "(II)I"⟩, prog_12_method_86_code, 7, some (.int))
def tb_X10_best : List (Nat × Instr × Nat × Nat) := [(0, .iload_n 1, 1, 1), (1, .iconst 0, 1, 2), (2, .sipush 1439, 3, 5), (5, .invokestatic 69, 3, 8), (8, .ifCond .eq 14, 3, 11), (11, .iload_n 2, 1, 12), (12, .iload_n 1, 1, 13), (13, .sipush 1439, 3, 16), (16, .invokestatic 69, 3, 19), (19, .ifCond .ne 10, 3, 22), (22, .aload_n 0, 1, 23), (23, .ldc 81, 2, 25), (25, .invokevirtual 82, 3, 28), (28, .ireturn, 1, 29), (29, .aload_n 0, 1, 30), (30, .getfield 9, 3, 33), (33, .iconst 0, 1, 34), (34, .iaload, 1, 35), (35, .istore_n 3, 1, 36), (36, .iload_n 1, 1, 37), (37, .istore 4, 2, 39), (39, .aload_n 0, 1, 40), (40, .iconst (-1), 1, 41), (41, .putfield 275, 3, 44), (44, .iload_n 1, 1, 45), (45, .istore 5, 2, 47), (47, .iload 5, 2, 49), (49, .iload_n 2, 1, 50), (50, .if_icmp .gt 49, 3, 53), (53, .aload_n 0, 1, 54), (54, .getfield 9, 3, 57), (57, .iconst 0, 1, 58), (58, .iload 5, 2, 60), (60, .iastore, 1, 61), (61, .aload_n 0, 1, 62), (62, .invokevirtual 264, 3, 65), (65, .istore 6, 2, 67), (67, .aload_n 0, 1, 68), (68, .getfield 275, 3, 71), (71, .ifCond .lt 12, 3, 74), (74, .iload 6, 2, 76), (76, .aload_n 0, 1, 77), (77, .getfield 275, 3, 80), (80, .if_icmp .ge 13, 3, 83), (83, .iload 5, 2, 85), (85, .istore 4, 2, 87), (87, .aload_n 0, 1, 88), (88, .iload 6, 2, 90), (90, .putfield 275, 3, 93), (93, .iinc 5 1, 3, 96), (96, .goto (-49), 3, 99), (99, .aload_n 0, 1, 100), (100, .getfield 9, 3, 103), (103, .iconst 0, 1, 104), (104, .iload_n 3, 1, 105), (105, .iastore, 1, 106), (106, .iload 4, 2, 108), (108, .ireturn, 1, 109)]
theorem tk_X10_best : Tk mi_X10_best.2.1 tb_X10_best := Tk.of (by decide +kernel)
abbrev mi_X10_left : MI := (⟨"RopesAtDawnModel", "left", "()I"⟩, prog_12_method_87_code, 4, some (.int))
def tb_X10_left : List (Nat × Instr × Nat × Nat) := [(0, .aload_n 0, 1, 1), (1, .getfield 9, 3, 4), (4, .aload_n 0, 1, 5), (5, .getfield 16, 3, 8), (8, .invokestatic 73, 3, 11), (11, .iconst (-1), 1, 12), (12, .istore_n 1, 1, 13), (13, .aload_n 0, 1, 14), (14, .iconst 0, 1, 15), (15, .putfield 275, 3, 18), (18, .iconst 0, 1, 19), (19, .istore_n 2, 1, 20), (20, .iload_n 2, 1, 21), (21, .aload_n 0, 1, 22), (22, .getfield 16, 3, 25), (25, .iconst 1, 1, 26), (26, .iaload, 1, 27), (27, .if_icmp .ge 50, 3, 30), (30, .aload_n 0, 1, 31), (31, .iload_n 2, 1, 32), (32, .invokevirtual 261, 3, 35), (35, .ifCond .eq 36, 3, 38), (38, .aload_n 0, 1, 39), (39, .iload_n 2, 1, 40), (40, .invokevirtual 135, 3, 43), (43, .aload_n 0, 1, 44), (44, .aload_n 0, 1, 45), (45, .invokevirtual 264, 3, 48), (48, .invokevirtual 285, 3, 51), (51, .istore_n 3, 1, 52), (52, .iload_n 1, 1, 53), (53, .ifCond .lt 11, 3, 56), (56, .iload_n 3, 1, 57), (57, .aload_n 0, 1, 58), (58, .getfield 275, 3, 61), (61, .if_icmp .ge 10, 3, 64), (64, .iload_n 2, 1, 65), (65, .istore_n 1, 1, 66), (66, .aload_n 0, 1, 67), (67, .iload_n 3, 1, 68), (68, .putfield 275, 3, 71), (71, .iinc 2 1, 3, 74), (74, .goto (-54), 3, 77), (77, .iload_n 1, 1, 78), (78, .ifCond .ge 12, 3, 81), (81, .aload_n 0, 1, 82), (82, .ldc 108, 2, 84), (84, .invokevirtual 82, 3, 87), (87, .goto 4, 3, 90), (90, .iload_n 1, 1, 91), (91, .ireturn, 1, 92)]
theorem tk_X10_left : Tk mi_X10_left.2.1 tb_X10_left := Tk.of (by decide +kernel)
abbrev mi_X10_lead : MI := (⟨"RopesAtDawnModel", "lead", "(I)I"⟩, prog_12_method_88_code, 6, some (.int))
def tb_X10_lead : List (Nat × Instr × Nat × Nat) := [(0, .aload_n 0, 1, 1), (1, .iload_n 1, 1, 2), (2, .iconst 1, 1, 3), (3, .invokevirtual 90, 3, 6), (6, .ifCond .ne 10, 3, 9), (9, .aload_n 0, 1, 10), (10, .ldc 81, 2, 12), (12, .invokevirtual 82, 3, 15), (15, .ireturn, 1, 16), (16, .aload_n 0, 1, 17), (17, .iload_n 1, 1, 18), (18, .invokevirtual 261, 3, 21), (21, .ifCond .ne 10, 3, 24), (24, .aload_n 0, 1, 25), (25, .ldc 108, 2, 27), (27, .invokevirtual 82, 3, 30), (30, .ireturn, 1, 31), (31, .aload_n 0, 1, 32), (32, .getfield 9, 3, 35), (35, .aload_n 0, 1, 36), (36, .getfield 16, 3, 39), (39, .invokestatic 73, 3, 42), (42, .aload_n 0, 1, 43), (43, .iload_n 1, 1, 44), (44, .invokevirtual 98, 3, 47), (47, .istore_n 2, 1, 48), (48, .iconst (-1), 1, 49), (49, .istore_n 3, 1, 50), (50, .aload_n 0, 1, 51), (51, .iconst 0, 1, 52), (52, .putfield 275, 3, 55), (55, .iconst 0, 1, 56), (56, .istore 4, 2, 58), (58, .iload 4, 2, 60), (60, .aload_n 0, 1, 61), (61, .getfield 16, 3, 64), (64, .bipush 80, 2, 66), (66, .bipush 9, 2, 68), (68, .iload_n 2, 1, 69), (69, .imul, 1, 70), (70, .iadd, 1, 71), (71, .iconst 3, 1, 72), (72, .iadd, 1, 73), (73, .iaload, 1, 74), (74, .if_icmp .ge 54, 3, 77), (77, .aload_n 0, 1, 78), (78, .iload_n 1, 1, 79), (79, .invokevirtual 135, 3, 82), (82, .aload_n 0, 1, 83), (83, .iload_n 2, 1, 84), (84, .iload 4, 2, 86), (86, .iload_n 1, 1, 87), (87, .invokevirtual 132, 3, 90), (90, .aload_n 0, 1, 91), (91, .aload_n 0, 1, 92), (92, .invokevirtual 264, 3, 95), (95, .invokevirtual 285, 3, 98), (98, .istore 5, 2, 100), (100, .iload_n 3, 1, 101), (101, .ifCond .lt 12, 3, 104), (104, .iload 5, 2, 106), (106, .aload_n 0, 1, 107), (107, .getfield 275, 3, 110), (110, .if_icmp .ge 12, 3, 113), (113, .iload 4, 2, 115), (115, .istore_n 3, 1, 116), (116, .aload_n 0, 1, 117), (117, .iload 5, 2, 119), (119, .putfield 275, 3, 122), (122, .iinc 4 1, 3, 125), (125, .goto (-67), 3, 128), (128, .iload_n 3, 1, 129), (129, .ireturn, 1, 130)]
theorem tk_X10_lead : Tk mi_X10_lead.2.1 tb_X10_lead := Tk.of (by decide +kernel)
abbrev mi_X10_take : MI := (⟨"RopesAtDawnModel", "take", "(II)I"⟩, prog_12_method_89_code, 4, some (.int))
def tb_X10_take : List (Nat × Instr × Nat × Nat) := [(0, .iload_n 1, 1, 1), (1, .iconst 0, 1, 2), (2, .iconst 2, 1, 3), (3, .invokestatic 69, 3, 6), (6, .ifCond .eq 12, 3, 9), (9, .aload_n 0, 1, 10), (10, .iload_n 2, 1, 11), (11, .iconst 3, 1, 12), (12, .invokevirtual 90, 3, 15), (15, .ifCond .ne 10, 3, 18), (18, .aload_n 0, 1, 19), (19, .ldc 81, 2, 21), (21, .invokevirtual 82, 3, 24), (24, .ireturn, 1, 25), (25, .iload_n 1, 1, 26), (26, .iconst 2, 1, 27), (27, .if_icmp .ge 18, 3, 30), (30, .aload_n 0, 1, 31), (31, .iload_n 2, 1, 32), (32, .invokevirtual 139, 3, 35), (35, .ifCond .ge 10, 3, 38), (38, .aload_n 0, 1, 39), (39, .ldc 131, 2, 41), (41, .invokevirtual 82, 3, 44), (44, .ireturn, 1, 45), (45, .iload_n 1, 1, 46), (46, .iconst 1, 1, 47), (47, .if_icmp .ne 25, 3, 50), (50, .aload_n 0, 1, 51), (51, .getfield 9, 3, 54), (54, .bipush 80, 2, 56), (56, .bipush 9, 2, 58), (58, .iload_n 2, 1, 59), (59, .imul, 1, 60), (60, .iadd, 1, 61), (61, .iconst 1, 1, 62), (62, .iadd, 1, 63), (63, .aload_n 0, 1, 64), (64, .iload_n 2, 1, 65), (65, .invokevirtual 288, 3, 68), (68, .iastore, 1, 69), (69, .goto 82, 3, 72), (72, .iload_n 1, 1, 73), (73, .ifCond .ne 40, 3, 76), (76, .aload_n 0, 1, 77), (77, .iload_n 2, 1, 78), (78, .invokevirtual 282, 3, 81), (81, .iconst 0, 1, 82), (82, .istore_n 3, 1, 83), (83, .iload_n 3, 1, 84), (84, .aload_n 0, 1, 85), (85, .iload_n 2, 1, 86), (86, .invokevirtual 118, 3, 89), (89, .if_icmp .ge 21, 3, 92), (92, .aload_n 0, 1, 93), (93, .iload_n 2, 1, 94), (94, .iload_n 3, 1, 95), (95, .aload_n 0, 1, 96), (96, .getfield 50, 3, 99), (99, .iload_n 3, 1, 100), (100, .iaload, 1, 101), (101, .invokevirtual 127, 3, 104), (104, .iinc 3 1, 3, 107), (107, .goto (-24), 3, 110), (110, .goto 41, 3, 113), (113, .aload_n 0, 1, 114), (114, .invokevirtual 291, 3, 117), (117, .iconst 0, 1, 118), (118, .istore_n 3, 1, 119), (119, .iload_n 3, 1, 120), (120, .aload_n 0, 1, 121), (121, .getfield 9, 3, 124), (124, .iconst 4, 1, 125), (125, .iaload, 1, 126), (126, .if_icmp .ge 25, 3, 129), (129, .aload_n 0, 1, 130), (130, .getfield 9, 3, 133), (133, .sipush 134, 3, 136), (136, .iload_n 3, 1, 137), (137, .iadd, 1, 138), (138, .aload_n 0, 1, 139), (139, .getfield 50, 3, 142), (142, .iload_n 3, 1, 143), (143, .iaload, 1, 144), (144, .iastore, 1, 145), (145, .iinc 3 1, 3, 148), (148, .goto (-29), 3, 151), (151, .aload_n 0, 1, 152), (152, .invokevirtual 264, 3, 155), (155, .ireturn, 1, 156)]
theorem tk_X10_take : Tk mi_X10_take.2.1 tb_X10_take := Tk.of (by decide +kernel)
abbrev mi_X10_drawn : MI := (⟨"RopesAtDawnModel", "drawn", "(I)I"⟩, prog_12_method_90_code, 2, some (.int))
def tb_X10_drawn : List (Nat × Instr × Nat × Nat) := [(0, .aload_n 0, 1, 1), (1, .getfield 9, 3, 4), (4, .bipush 7, 2, 6), (6, .aload_n 0, 1, 7), (7, .getfield 9, 3, 10), (10, .bipush 7, 2, 12), (12, .iaload, 1, 13), (13, .ldc_w 297, 3, 16), (16, .imul, 1, 17), (17, .sipush 12345, 3, 20), (20, .iadd, 1, 21), (21, .iastore, 1, 22), (22, .aload_n 0, 1, 23), (23, .getfield 9, 3, 26), (26, .bipush 7, 2, 28), (28, .iaload, 1, 29), (29, .bipush 8, 2, 31), (31, .iushr, 1, 32), (32, .iload_n 1, 1, 33), (33, .irem, 1, 34), (34, .ireturn, 1, 35)]
theorem tk_X10_drawn : Tk mi_X10_drawn.2.1 tb_X10_drawn := Tk.of (by decide +kernel)
abbrev mi_X10_lostBy : MI := (⟨"RopesAtDawnModel", "lostBy", "()I"⟩, prog_12_method_91_code, 6, some (.int))
def tb_X10_lostBy : List (Nat × Instr × Nat × Nat) := [(0, .aload_n 0, 1, 1), (1, .invokevirtual 255, 3, 4), (4, .iconst 0, 1, 5), (5, .istore_n 1, 1, 6), (6, .iload_n 1, 1, 7), (7, .aload_n 0, 1, 8), (8, .getfield 9, 3, 11), (11, .iconst 4, 1, 12), (12, .iaload, 1, 13), (13, .if_icmp .ge 122, 3, 16), (16, .aload_n 0, 1, 17), (17, .getfield 9, 3, 20), (20, .sipush 134, 3, 23), (23, .iload_n 1, 1, 24), (24, .iadd, 1, 25), (25, .iaload, 1, 26), (26, .istore_n 2, 1, 27), (27, .iconst 0, 1, 28), (28, .istore_n 3, 1, 29), (29, .iload_n 3, 1, 30), (30, .aload_n 0, 1, 31), (31, .getfield 9, 3, 34), (34, .iconst 2, 1, 35), (35, .iaload, 1, 36), (36, .if_icmp .ge 93, 3, 39), (39, .iconst 0, 1, 40), (40, .istore 4, 2, 42), (42, .iload 4, 2, 44), (44, .aload_n 0, 1, 45), (45, .iload_n 2, 1, 46), (46, .invokevirtual 118, 3, 49), (49, .if_icmp .ge 74, 3, 52), (52, .aload_n 0, 1, 53), (53, .getfield 146, 3, 56), (56, .aload_n 0, 1, 57), (57, .iload_n 2, 1, 58), (58, .iload 4, 2, 60), (60, .invokevirtual 121, 3, 63), (63, .invokestatic 150, 3, 66), (66, .ifCond .ne 25, 3, 69), (69, .aload_n 0, 1, 70), (70, .sipush 1000, 3, 73), (73, .invokevirtual 298, 3, 76), (76, .aload_n 0, 1, 77), (77, .iload_n 2, 1, 78), (78, .iload 4, 2, 80), (80, .iload_n 3, 1, 81), (81, .invokevirtual 258, 3, 84), (84, .if_icmp .ge 7, 3, 87), (87, .iconst 1, 1, 88), (88, .goto 4, 3, 91), (91, .iconst 0, 1, 92), (92, .istore 5, 2, 94), (94, .iload 5, 2, 96), (96, .ifCond .eq 21, 3, 99), (99, .aload_n 0, 1, 100), (100, .iload_n 2, 1, 101), (101, .iload 4, 2, 103), (103, .iload_n 3, 1, 104), (104, .invokevirtual 174, 3, 107), (107, .ifCond .ne 10, 3, 110), (110, .aload_n 0, 1, 111), (111, .iload_n 2, 1, 112), (112, .iload 4, 2, 114), (114, .invokevirtual 301, 3, 117), (117, .iinc 4 1, 3, 120), (120, .goto (-78), 3, 123), (123, .iinc 3 1, 3, 126), (126, .goto (-97), 3, 129), (129, .iinc 1 1, 3, 132), (132, .goto (-126), 3, 135), (135, .aload_n 0, 1, 136), (136, .getfield 146, 3, 139), (139, .istore_n 1, 1, 140), (140, .aload_n 0, 1, 141), (141, .iconst 0, 1, 142), (142, .putfield 146, 3, 145), (145, .iload_n 1, 1, 146), (146, .ireturn, 1, 147)]
theorem tk_X10_lostBy : Tk mi_X10_lostBy.2.1 tb_X10_lostBy := Tk.of (by decide +kernel)
abbrev mi_X10_loses : MI := (⟨"RopesAtDawnModel", "loses", "(II)V"⟩, prog_12_method_92_code, 4, none)
def tb_X10_loses : List (Nat × Instr × Nat × Nat) := [(0, .iconst 0, 1, 1), (1, .istore_n 3, 1, 2), (2, .iload_n 3, 1, 3), (3, .aload_n 0, 1, 4), (4, .iload_n 1, 1, 5), (5, .invokevirtual 118, 3, 8), (8, .if_icmp .ge 46, 3, 11), (11, .aload_n 0, 1, 12), (12, .dup, 1, 13), (13, .getfield 146, 3, 16), (16, .iload_n 3, 1, 17), (17, .iload_n 2, 1, 18), (18, .if_icmp .eq 14, 3, 21), (21, .aload_n 0, 1, 22), (22, .iload_n 1, 1, 23), (23, .iconst 0, 1, 24), (24, .invokevirtual 115, 3, 27), (27, .bipush 6, 2, 29), (29, .if_icmp .eq 14, 3, 32), (32, .iconst 1, 1, 33), (33, .aload_n 0, 1, 34), (34, .iload_n 1, 1, 35), (35, .iload_n 3, 1, 36), (36, .invokevirtual 121, 3, 39), (39, .ishl, 1, 40), (40, .goto 4, 3, 43), (43, .iconst 0, 1, 44), (44, .ior, 1, 45), (45, .putfield 146, 3, 48), (48, .iinc 3 1, 3, 51), (51, .goto (-49), 3, 54), (54, .return_, 1, 55)]
theorem tk_X10_loses : Tk mi_X10_loses.2.1 tb_X10_loses := Tk.of (by decide +kernel)
abbrev mi_X10_morning : MI := (⟨"RopesAtDawnModel", "morning", "()I"⟩, prog_12_method_93_code, 1, some (.int))
def tb_X10_morning : List (Nat × Instr × Nat × Nat) := [(0, .aload_n 0, 1, 1), (1, .invokevirtual 305, 3, 4), (4, .ireturn, 1, 5)]
theorem tk_X10_morning : Tk mi_X10_morning.2.1 tb_X10_morning := Tk.of (by decide +kernel)
abbrev mi_X10_mornings : MI := (⟨"RopesAtDawnModel", "mornings", "(II)I"⟩, prog_12_method_94_code, 7, some (.int))
def tb_X10_mornings : List (Nat × Instr × Nat × Nat) := [(0, .iload_n 1, 1, 1), (1, .iconst 1, 1, 2), (2, .bipush 40, 2, 4), (4, .invokestatic 69, 3, 7), (7, .ifCond .eq 12, 3, 10), (10, .iload_n 2, 1, 11), (11, .iconst 0, 1, 12), (12, .iconst 1, 1, 13), (13, .invokestatic 69, 3, 16), (16, .ifCond .ne 10, 3, 19), (19, .aload_n 0, 1, 20), (20, .ldc 81, 2, 22), (22, .invokevirtual 82, 3, 25), (25, .ireturn, 1, 26), (26, .iconst 0, 1, 27), (27, .istore_n 3, 1, 28), (28, .iconst 0, 1, 29), (29, .istore 4, 2, 31), (31, .iload 4, 2, 33), (33, .iload_n 1, 1, 34), (34, .if_icmp .ge 63, 3, 37), (37, .aload_n 0, 1, 38), (38, .invokevirtual 305, 3, 41), (41, .istore 5, 2, 43), (43, .iload_n 2, 1, 44), (44, .ifCond .ne 16, 3, 47), (47, .iload_n 3, 1, 48), (48, .iload 5, 2, 50), (50, .ifCond .ne 7, 3, 53), (53, .iconst 1, 1, 54), (54, .goto 4, 3, 57), (57, .iconst 0, 1, 58), (58, .iadd, 1, 59), (59, .istore_n 3, 1, 60), (60, .iconst 0, 1, 61), (61, .istore 6, 2, 63), (63, .iload 6, 2, 65), (65, .bipush 10, 2, 67), (67, .if_icmp .ge 24, 3, 70), (70, .iload_n 2, 1, 71), (71, .iconst 1, 1, 72), (72, .if_icmp .ne 19, 3, 75), (75, .iload_n 3, 1, 76), (76, .iload 5, 2, 78), (78, .iload 6, 2, 80), (80, .ishr, 1, 81), (81, .iconst 1, 1, 82), (82, .iand, 1, 83), (83, .iadd, 1, 84), (84, .istore_n 3, 1, 85), (85, .iinc 6 1, 3, 88), (88, .goto (-25), 3, 91), (91, .iinc 4 1, 3, 94), (94, .goto (-63), 3, 97), (97, .iload_n 3, 1, 98), (98, .ireturn, 1, 99)]
theorem tk_X10_mornings : Tk mi_X10_mornings.2.1 tb_X10_mornings := Tk.of (by decide +kernel)
abbrev mi_X10_seed : MI := (⟨"RopesAtDawnModel", "seed", "(I)I"⟩, prog_12_method_95_code, 2, some (.int))
def tb_X10_seed : List (Nat × Instr × Nat × Nat) := [(0, .aload_n 0, 1, 1), (1, .bipush 7, 2, 3), (3, .iload_n 1, 1, 4), (4, .invokevirtual 112, 3, 7), (7, .ireturn, 1, 8)]
theorem tk_X10_seed : Tk mi_X10_seed.2.1 tb_X10_seed := Tk.of (by decide +kernel)
abbrev mi_X10_began : MI := (⟨"RopesAtDawnModel", "began", "(I)V"⟩, prog_12_method_96_code, 2, none)
def tb_X10_began : List (Nat × Instr × Nat × Nat) := [(0, .aload_n 0, 1, 1), (1, .getfield 308, 3, 4), (4, .bipush 40, 2, 6), (6, .if_icmp .ge 23, 3, 9), (9, .aload_n 0, 1, 10), (10, .getfield 53, 3, 13), (13, .aload_n 0, 1, 14), (14, .getfield 308, 3, 17), (17, .iload_n 1, 1, 18), (18, .iastore, 1, 19), (19, .aload_n 0, 1, 20), (20, .dup, 1, 21), (21, .getfield 308, 3, 24), (24, .iconst 1, 1, 25), (25, .iadd, 1, 26), (26, .putfield 308, 3, 29), (29, .return_, 1, 30)]
theorem tk_X10_began : Tk mi_X10_began.2.1 tb_X10_began := Tk.of (by decide +kernel)
abbrev mi_X10_hasOwn : MI := (⟨"RopesAtDawnModel", "hasOwn", "(II)Z"⟩, prog_12_method_97_code, 2, some (.boolean))
def tb_X10_hasOwn : List (Nat × Instr × Nat × Nat) := [(0, .iload_n 0, 1, 1), (1, .tableswitch 103 0 5 #[39, 41, 52, 62, 77, 88], 39, 40), (40, .iconst 1, 1, 41), (41, .ireturn, 1, 42), (42, .iload_n 1, 1, 43), (43, .iconst 1, 1, 44), (44, .if_icmp .ne 7, 3, 47), (47, .iconst 1, 1, 48), (48, .goto 4, 3, 51), (51, .iconst 0, 1, 52), (52, .ireturn, 1, 53), (53, .iload_n 1, 1, 54), (54, .ifCond .ne 7, 3, 57), (57, .iconst 1, 1, 58), (58, .goto 4, 3, 61), (61, .iconst 0, 1, 62), (62, .ireturn, 1, 63), (63, .iload_n 1, 1, 64), (64, .ifCond .eq 8, 3, 67), (67, .iload_n 1, 1, 68), (68, .iconst 2, 1, 69), (69, .if_icmp .ne 7, 3, 72), (72, .iconst 1, 1, 73), (73, .goto 4, 3, 76), (76, .iconst 0, 1, 77), (77, .ireturn, 1, 78), (78, .iload_n 1, 1, 79), (79, .iconst 3, 1, 80), (80, .if_icmp .ne 7, 3, 83), (83, .iconst 1, 1, 84), (84, .goto 4, 3, 87), (87, .iconst 0, 1, 88), (88, .ireturn, 1, 89), (89, .iload_n 1, 1, 90), (90, .ifCond .eq 8, 3, 93), (93, .iload_n 1, 1, 94), (94, .iconst 3, 1, 95), (95, .if_icmp .ne 7, 3, 98), (98, .iconst 1, 1, 99), (99, .goto 4, 3, 102), (102, .iconst 0, 1, 103), (103, .ireturn, 1, 104), (104, .iload_n 1, 1, 105), (105, .iconst 1, 1, 106), (106, .if_icmp .eq 8, 3, 109), (109, .iload_n 1, 1, 110), (110, .iconst 2, 1, 111), (111, .if_icmp .ne 7, 3, 114), (114, .iconst 1, 1, 115), (115, .goto 4, 3, 118), (118, .iconst 0, 1, 119), (119, .ireturn, 1, 120)]
theorem tk_X10_hasOwn : Tk mi_X10_hasOwn.2.1 tb_X10_hasOwn := Tk.of (by decide +kernel)
abbrev mi_X10_voiced : MI := (⟨"RopesAtDawnModel", "voiced", "(II)I"⟩, prog_12_method_98_code, 3, some (.int))
def tb_X10_voiced : List (Nat × Instr × Nat × Nat) := [(0, .aload_n 0, 1, 1), (1, .aload_n 0, 1, 2), (2, .aload_n 0, 1, 3), (3, .getfield 311, 3, 6), (6, .iconst 0, 1, 7), (7, .invokevirtual 115, 3, 10), (10, .iload_n 1, 1, 11), (11, .iload_n 2, 1, 12), (12, .invokevirtual 314, 3, 15), (15, .ireturn, 1, 16)]
theorem tk_X10_voiced : Tk mi_X10_voiced.2.1 tb_X10_voiced := Tk.of (by decide +kernel)
abbrev mi_X10_bodyFrom : MI := (⟨"RopesAtDawnModel", "bodyFrom", "(III)I"⟩, prog_12_method_99_code, 5, some (.int))
def tb_X10_bodyFrom : List (Nat × Instr × Nat × Nat) := [(0, .iload_n 1, 1, 1), (1, .istore 4, 2, 3), (3, .iload 4, 2, 5), (5, .iload_n 2, 1, 6), (6, .invokestatic 317, 3, 9), (9, .ifCond .ne 13, 3, 12), (12, .iload 4, 2, 14), (14, .invokestatic 142, 3, 17), (17, .istore 4, 2, 19), (19, .goto (-16), 3, 22), (22, .aload_n 0, 1, 23), (23, .iload 4, 2, 25), (25, .iload_n 2, 1, 26), (26, .iload_n 3, 1, 27), (27, .invokevirtual 320, 3, 30), (30, .ireturn, 1, 31)]
theorem tk_X10_bodyFrom : Tk mi_X10_bodyFrom.2.1 tb_X10_bodyFrom := Tk.of (by decide +kernel)
abbrev mi_X10_body : MI := (⟨"RopesAtDawnModel", "body", "(III)I"⟩, prog_12_method_100_code, 5, some (.int))
def tb_X10_body : List (Nat × Instr × Nat × Nat) := [(0, .iconst 4, 1, 1), (1, .iload_n 1, 1, 2), (2, .imul, 1, 3), (3, .iload_n 2, 1, 4), (4, .iadd, 1, 5), (5, .tableswitch 329 0 25 #[119, 132, 147, 165, 329, 189, 329, 329, 214, 329, 329, 329, 245, 329, 230, 329, 329, 329, 329, 261, 286, 329, 329, 305, 329, 321], 119, 124), (124, .aload_n 0, 1, 125), (125, .bipush 10, 2, 127), (127, .invokevirtual 323, 3, 130), (130, .iload_n 3, 1, 131), (131, .aload_n 0, 1, 132), (132, .getfield 311, 3, 135), (135, .iadd, 1, 136), (136, .ireturn, 1, 137), (137, .aload_n 0, 1, 138), (138, .bipush 11, 2, 140), (140, .invokevirtual 323, 3, 143), (143, .aload_n 0, 1, 144), (144, .iconst 0, 1, 145), (145, .iload_n 3, 1, 146), (146, .invokevirtual 326, 3, 149), (149, .iconst 2, 1, 150), (150, .imul, 1, 151), (151, .ireturn, 1, 152), (152, .aload_n 0, 1, 153), (153, .bipush 12, 2, 155), (155, .invokevirtual 323, 3, 158), (158, .iload_n 3, 1, 159), (159, .aload_n 0, 1, 160), (160, .aload_n 0, 1, 161), (161, .getfield 311, 3, 164), (164, .iconst 2, 1, 165), (165, .invokevirtual 115, 3, 168), (168, .isub, 1, 169), (169, .ireturn, 1, 170), (170, .aload_n 0, 1, 171), (171, .bipush 13, 2, 173), (173, .invokevirtual 323, 3, 176), (176, .aload_n 0, 1, 177), (177, .iconst 1, 1, 178), (178, .iload_n 3, 1, 179), (179, .invokevirtual 326, 3, 182), (182, .istore 4, 2, 184), (184, .iload 4, 2, 186), (186, .aload_n 0, 1, 187), (187, .iconst 2, 1, 188), (188, .iload_n 3, 1, 189), (189, .invokevirtual 326, 3, 192), (192, .ixor, 1, 193), (193, .ireturn, 1, 194), (194, .aload_n 0, 1, 195), (195, .bipush 20, 2, 197), (197, .invokevirtual 323, 3, 200), (200, .aload_n 0, 1, 201), (201, .iconst 0, 1, 202), (202, .iconst 1, 1, 203), (203, .iload_n 3, 1, 204), (204, .invokevirtual 314, 3, 207), (207, .istore 4, 2, 209), (209, .iload 4, 2, 211), (211, .aload_n 0, 1, 212), (212, .iconst 2, 1, 213), (213, .iconst 1, 1, 214), (214, .invokevirtual 326, 3, 217), (217, .isub, 1, 218), (218, .ireturn, 1, 219), (219, .aload_n 0, 1, 220), (220, .bipush 30, 2, 222), (222, .invokevirtual 323, 3, 225), (225, .aload_n 0, 1, 226), (226, .iconst 0, 1, 227), (227, .iconst 0, 1, 228), (228, .iload_n 3, 1, 229), (229, .invokevirtual 314, 3, 232), (232, .iconst 3, 1, 233), (233, .imul, 1, 234), (234, .ireturn, 1, 235), (235, .aload_n 0, 1, 236), (236, .bipush 40, 2, 238), (238, .invokevirtual 323, 3, 241), (241, .aload_n 0, 1, 242), (242, .iconst 2, 1, 243), (243, .iconst 2, 1, 244), (244, .iload_n 3, 1, 245), (245, .invokevirtual 314, 3, 248), (248, .ineg, 1, 249), (249, .ireturn, 1, 250), (250, .aload_n 0, 1, 251), (251, .bipush 41, 2, 253), (253, .invokevirtual 323, 3, 256), (256, .aload_n 0, 1, 257), (257, .iconst 2, 1, 258), (258, .iconst 0, 1, 259), (259, .iload_n 3, 1, 260), (260, .iconst 1, 1, 261), (261, .iadd, 1, 262), (262, .invokevirtual 314, 3, 265), (265, .ireturn, 1, 266), (266, .aload_n 0, 1, 267), (267, .bipush 50, 2, 269), (269, .invokevirtual 323, 3, 272), (272, .aload_n 0, 1, 273), (273, .iconst 0, 1, 274), (274, .iconst 3, 1, 275), (275, .iload_n 3, 1, 276), (276, .invokevirtual 314, 3, 279), (279, .istore 4, 2, 281), (281, .iload 4, 2, 283), (283, .aload_n 0, 1, 284), (284, .iconst 0, 1, 285), (285, .iconst 2, 1, 286), (286, .invokevirtual 326, 3, 289), (289, .isub, 1, 290), (290, .ireturn, 1, 291), (291, .aload_n 0, 1, 292), (292, .bipush 60, 2, 294), (294, .invokevirtual 323, 3, 297), (297, .aload_n 0, 1, 298), (298, .iconst 4, 1, 299), (299, .iconst 0, 1, 300), (300, .iload_n 3, 1, 301), (301, .invokevirtual 314, 3, 304), (304, .aload_n 0, 1, 305), (305, .getfield 311, 3, 308), (308, .ixor, 1, 309), (309, .ireturn, 1, 310), (310, .aload_n 0, 1, 311), (311, .bipush 61, 2, 313), (313, .invokevirtual 323, 3, 316), (316, .aload_n 0, 1, 317), (317, .iconst 4, 1, 318), (318, .iconst 3, 1, 319), (319, .iload_n 3, 1, 320), (320, .invokevirtual 314, 3, 323), (323, .iconst 5, 1, 324), (324, .imul, 1, 325), (325, .ireturn, 1, 326), (326, .aload_n 0, 1, 327), (327, .bipush 70, 2, 329), (329, .invokevirtual 323, 3, 332), (332, .iconst 0, 1, 333), (333, .ireturn, 1, 334), (334, .aload_n 0, 1, 335), (335, .bipush 71, 2, 337), (337, .invokevirtual 323, 3, 340), (340, .aload_n 0, 1, 341), (341, .iconst 0, 1, 342), (342, .iconst 2, 1, 343), (343, .iload_n 3, 1, 344), (344, .invokevirtual 314, 3, 347), (347, .aload_n 0, 1, 348), (348, .getfield 311, 3, 351), (351, .iadd, 1, 352), (352, .ireturn, 1, 353)]
theorem tk_X10_body : Tk mi_X10_body.2.1 tb_X10_body := Tk.of (by decide +kernel)
abbrev mi_X10_voice : MI := (⟨"RopesAtDawnModel", "voice", "(III)I"⟩, prog_12_method_101_code, 4, some (.int))
def tb_X10_voice : List (Nat × Instr × Nat × Nat) := [(0, .aload_n 0, 1, 1), (1, .iload_n 1, 1, 2), (2, .iconst 3, 1, 3), (3, .invokevirtual 90, 3, 6), (6, .ifCond .eq 12, 3, 9), (9, .iload_n 2, 1, 10), (10, .iconst 0, 1, 11), (11, .iconst 3, 1, 12), (12, .invokestatic 69, 3, 15), (15, .ifCond .ne 10, 3, 18), (18, .aload_n 0, 1, 19), (19, .ldc 81, 2, 21), (21, .invokevirtual 82, 3, 24), (24, .ireturn, 1, 25), (25, .aload_n 0, 1, 26), (26, .iconst 0, 1, 27), (27, .putfield 308, 3, 30), (30, .aload_n 0, 1, 31), (31, .iload_n 1, 1, 32), (32, .putfield 311, 3, 35), (35, .aload_n 0, 1, 36), (36, .iload_n 2, 1, 37), (37, .iload_n 3, 1, 38), (38, .invokevirtual 326, 3, 41), (41, .ireturn, 1, 42)]
theorem tk_X10_voice : Tk mi_X10_voice.2.1 tb_X10_voice := Tk.of (by decide +kernel)
abbrev mi_X10_trace : MI := (⟨"RopesAtDawnModel", "trace", "(I)I"⟩, prog_12_method_102_code, 2, some (.int))
def tb_X10_trace : List (Nat × Instr × Nat × Nat) := [(0, .iload_n 1, 1, 1), (1, .iconst 0, 1, 2), (2, .aload_n 0, 1, 3), (3, .getfield 308, 3, 6), (6, .iconst 1, 1, 7), (7, .isub, 1, 8), (8, .invokestatic 69, 3, 11), (11, .ifCond .eq 12, 3, 14), (14, .aload_n 0, 1, 15), (15, .getfield 53, 3, 18), (18, .iload_n 1, 1, 19), (19, .iaload, 1, 20), (20, .goto 9, 3, 23), (23, .aload_n 0, 1, 24), (24, .ldc 108, 2, 26), (26, .invokevirtual 82, 3, 29), (29, .ireturn, 1, 30)]
theorem tk_X10_trace : Tk mi_X10_trace.2.1 tb_X10_trace := Tk.of (by decide +kernel)
abbrev mi_X10_isSheet : MI := (⟨"RopesAtDawnModel", "isSheet", "(I)Z"⟩, prog_12_method_103_code, 1, some (.boolean))
def tb_X10_isSheet : List (Nat × Instr × Nat × Nat) := [(0, .iload_n 0, 1, 1), (1, .iconst 0, 1, 2), (2, .iconst 3, 1, 3), (3, .invokestatic 69, 3, 6), (6, .ireturn, 1, 7)]
theorem tk_X10_isSheet : Tk mi_X10_isSheet.2.1 tb_X10_isSheet := Tk.of (by decide +kernel)
abbrev mi_X10_sheet : MI := (⟨"RopesAtDawnModel", "sheet", "(III)I"⟩, prog_12_method_104_code, 5, some (.int))
def tb_X10_sheet : List (Nat × Instr × Nat × Nat) := [(0, .iload_n 1, 1, 1), (1, .invokestatic 104, 3, 4), (4, .ifCond .eq 25, 3, 7), (7, .iload_n 2, 1, 8), (8, .ifCond .eq 28, 3, 11), (11, .iload_n 2, 1, 12), (12, .bipush 8, 2, 14), (14, .if_icmp .eq 22, 3, 17), (17, .iload_n 2, 1, 18), (18, .bipush 16, 2, 20), (20, .if_icmp .eq 16, 3, 23), (23, .iload_n 2, 1, 24), (24, .bipush 32, 2, 26), (26, .if_icmp .eq 10, 3, 29), (29, .aload_n 0, 1, 30), (30, .ldc 81, 2, 32), (32, .invokevirtual 82, 3, 35), (35, .ireturn, 1, 36), (36, .iload_n 2, 1, 37), (37, .ifCond .eq 14, 3, 40), (40, .iload_n 3, 1, 41), (41, .ifCond .ge 10, 3, 44), (44, .aload_n 0, 1, 45), (45, .ldc 131, 2, 47), (47, .invokevirtual 82, 3, 50), (50, .ireturn, 1, 51), (51, .iload_n 2, 1, 52), (52, .ifCond .eq 16, 3, 55), (55, .iload_n 3, 1, 56), (56, .bipush 40, 2, 58), (58, .if_icmp .le 10, 3, 61), (61, .aload_n 0, 1, 62), (62, .ldc 81, 2, 64), (64, .invokevirtual 82, 3, 67), (67, .ireturn, 1, 68), (68, .aload_n 0, 1, 69), (69, .getfield 56, 3, 72), (72, .iload_n 1, 1, 73), (73, .iload_n 2, 1, 74), (74, .iastore, 1, 75), (75, .aload_n 0, 1, 76), (76, .getfield 59, 3, 79), (79, .iload_n 1, 1, 80), (80, .iload_n 2, 1, 81), (81, .ifCond .ne 7, 3, 84), (84, .iconst 0, 1, 85), (85, .goto 4, 3, 88), (88, .iload_n 3, 1, 89), (89, .iastore, 1, 90), (90, .iconst 0, 1, 91), (91, .istore 4, 2, 93), (93, .iload 4, 2, 95), (95, .bipush 40, 2, 97), (97, .if_icmp .ge 22, 3, 100), (100, .aload_n 0, 1, 101), (101, .getfield 62, 3, 104), (104, .bipush 40, 2, 106), (106, .iload_n 1, 1, 107), (107, .imul, 1, 108), (108, .iload 4, 2, 110), (110, .iadd, 1, 111), (111, .iconst 0, 1, 112), (112, .iastore, 1, 113), (113, .iinc 4 1, 3, 116), (116, .goto (-23), 3, 119), (119, .iconst 1, 1, 120), (120, .ireturn, 1, 121)]
theorem tk_X10_sheet : Tk mi_X10_sheet.2.1 tb_X10_sheet := Tk.of (by decide +kernel)
abbrev mi_X10_put : MI := (⟨"RopesAtDawnModel", "put", "(III)I"⟩, prog_12_method_105_code, 4, some (.int))
def tb_X10_put : List (Nat × Instr × Nat × Nat) := [(0, .iload_n 1, 1, 1), (1, .invokestatic 104, 3, 4), (4, .ifCond .ne 10, 3, 7), (7, .aload_n 0, 1, 8), (8, .ldc 81, 2, 10), (10, .invokevirtual 82, 3, 13), (13, .ireturn, 1, 14), (14, .aload_n 0, 1, 15), (15, .getfield 56, 3, 18), (18, .iload_n 1, 1, 19), (19, .iaload, 1, 20), (20, .ifCond .ne 10, 3, 23), (23, .aload_n 0, 1, 24), (24, .ldc 108, 2, 26), (26, .invokevirtual 82, 3, 29), (29, .ireturn, 1, 30), (30, .iload_n 2, 1, 31), (31, .iconst 0, 1, 32), (32, .aload_n 0, 1, 33), (33, .getfield 59, 3, 36), (36, .iload_n 1, 1, 37), (37, .iaload, 1, 38), (38, .iconst 1, 1, 39), (39, .isub, 1, 40), (40, .invokestatic 69, 3, 43), (43, .ifCond .ne 10, 3, 46), (46, .aload_n 0, 1, 47), (47, .ldc 81, 2, 49), (49, .invokevirtual 82, 3, 52), (52, .ireturn, 1, 53), (53, .aload_n 0, 1, 54), (54, .getfield 62, 3, 57), (57, .bipush 40, 2, 59), (59, .iload_n 1, 1, 60), (60, .imul, 1, 61), (61, .iload_n 2, 1, 62), (62, .iadd, 1, 63), (63, .aload_n 0, 1, 64), (64, .getfield 56, 3, 67), (67, .iload_n 1, 1, 68), (68, .iaload, 1, 69), (69, .bipush 8, 2, 71), (71, .if_icmp .ne 8, 3, 74), (74, .iload_n 3, 1, 75), (75, .i2b, 1, 76), (76, .goto 20, 3, 79), (79, .aload_n 0, 1, 80), (80, .getfield 56, 3, 83), (83, .iload_n 1, 1, 84), (84, .iaload, 1, 85), (85, .bipush 16, 2, 87), (87, .if_icmp .ne 8, 3, 90), (90, .iload_n 3, 1, 91), (91, .i2s, 1, 92), (92, .goto 4, 3, 95), (95, .iload_n 3, 1, 96), (96, .iastore, 1, 97), (97, .iconst 1, 1, 98), (98, .ireturn, 1, 99)]
theorem tk_X10_put : Tk mi_X10_put.2.1 tb_X10_put := Tk.of (by decide +kernel)
abbrev mi_X10_move : MI := (⟨"RopesAtDawnModel", "move", "(IIIII)I"⟩, prog_12_method_106_code, 7, some (.int))
def tb_X10_move : List (Nat × Instr × Nat × Nat) := [(0, .iload_n 1, 1, 1), (1, .invokestatic 104, 3, 4), (4, .ifCond .eq 10, 3, 7), (7, .iload_n 3, 1, 8), (8, .invokestatic 104, 3, 11), (11, .ifCond .ne 10, 3, 14), (14, .aload_n 0, 1, 15), (15, .ldc 81, 2, 17), (17, .invokevirtual 82, 3, 20), (20, .ireturn, 1, 21), (21, .aload_n 0, 1, 22), (22, .getfield 56, 3, 25), (25, .iload_n 1, 1, 26), (26, .iaload, 1, 27), (27, .ifCond .eq 12, 3, 30), (30, .aload_n 0, 1, 31), (31, .getfield 56, 3, 34), (34, .iload_n 3, 1, 35), (35, .iaload, 1, 36), (36, .ifCond .ne 10, 3, 39), (39, .aload_n 0, 1, 40), (40, .ldc 108, 2, 42), (42, .invokevirtual 82, 3, 45), (45, .ireturn, 1, 46), (46, .aload_n 0, 1, 47), (47, .getfield 56, 3, 50), (50, .iload_n 1, 1, 51), (51, .iaload, 1, 52), (52, .aload_n 0, 1, 53), (53, .getfield 56, 3, 56), (56, .iload_n 3, 1, 57), (57, .iaload, 1, 58), (58, .if_icmp .eq 10, 3, 61), (61, .aload_n 0, 1, 62), (62, .ldc 145, 2, 64), (64, .invokevirtual 82, 3, 67), (67, .ireturn, 1, 68), (68, .iload 5, 2, 70), (70, .ifCond .lt 47, 3, 73), (73, .iload_n 2, 1, 74), (74, .ifCond .lt 43, 3, 77), (77, .iload 4, 2, 79), (79, .ifCond .lt 38, 3, 82), (82, .iload_n 2, 1, 83), (83, .i2l, 1, 84), (84, .iload 5, 2, 86), (86, .i2l, 1, 87), (87, .ladd, 1, 88), (88, .aload_n 0, 1, 89), (89, .getfield 59, 3, 92), (92, .iload_n 1, 1, 93), (93, .iaload, 1, 94), (94, .i2l, 1, 95), (95, .lcmp, 1, 96), (96, .ifCond .gt 21, 3, 99), (99, .iload 4, 2, 101), (101, .i2l, 1, 102), (102, .iload 5, 2, 104), (104, .i2l, 1, 105), (105, .ladd, 1, 106), (106, .aload_n 0, 1, 107), (107, .getfield 59, 3, 110), (110, .iload_n 3, 1, 111), (111, .iaload, 1, 112), (112, .i2l, 1, 113), (113, .lcmp, 1, 114), (114, .ifCond .le 10, 3, 117), (117, .aload_n 0, 1, 118), (118, .ldc 81, 2, 120), (120, .invokevirtual 82, 3, 123), (123, .ireturn, 1, 124), (124, .iconst 0, 1, 125), (125, .istore 6, 2, 127), (127, .iload 6, 2, 129), (129, .iload 5, 2, 131), (131, .if_icmp .ge 30, 3, 134), (134, .aload_n 0, 1, 135), (135, .getfield 65, 3, 138), (138, .iload 6, 2, 140), (140, .aload_n 0, 1, 141), (141, .getfield 62, 3, 144), (144, .bipush 40, 2, 146), (146, .iload_n 1, 1, 147), (147, .imul, 1, 148), (148, .iload_n 2, 1, 149), (149, .iadd, 1, 150), (150, .iload 6, 2, 152), (152, .iadd, 1, 153), (153, .iaload, 1, 154), (154, .iastore, 1, 155), (155, .iinc 6 1, 3, 158), (158, .goto (-31), 3, 161), (161, .iconst 0, 1, 162), (162, .istore 6, 2, 164), (164, .iload 6, 2, 166), (166, .iload 5, 2, 168), (168, .if_icmp .ge 31, 3, 171), (171, .aload_n 0, 1, 172), (172, .getfield 62, 3, 175), (175, .bipush 40, 2, 177), (177, .iload_n 3, 1, 178), (178, .imul, 1, 179), (179, .iload 4, 2, 181), (181, .iadd, 1, 182), (182, .iload 6, 2, 184), (184, .iadd, 1, 185), (185, .aload_n 0, 1, 186), (186, .getfield 65, 3, 189), (189, .iload 6, 2, 191), (191, .iaload, 1, 192), (192, .iastore, 1, 193), (193, .iinc 6 1, 3, 196), (196, .goto (-32), 3, 199), (199, .iload 5, 2, 201), (201, .ireturn, 1, 202)]
theorem tk_X10_move : Tk mi_X10_move.2.1 tb_X10_move := Tk.of (by decide +kernel)
abbrev mi_X10_image : MI := (⟨"RopesAtDawnModel", "image", "()I"⟩, prog_12_method_107_code, 1, some (.int))
def tb_X10_image : List (Nat × Instr × Nat × Nat) := [(0, .aload_n 0, 1, 1), (1, .getfield 9, 3, 4), (4, .aload_n 0, 1, 5), (5, .getfield 13, 3, 8), (8, .invokestatic 73, 3, 11), (11, .aload_n 0, 1, 12), (12, .dup, 1, 13), (13, .getfield 329, 3, 16), (16, .iconst 1, 1, 17), (17, .iadd, 1, 18), (18, .putfield 329, 3, 21), (21, .aload_n 0, 1, 22), (22, .getfield 329, 3, 25), (25, .ireturn, 1, 26)]
theorem tk_X10_image : Tk mi_X10_image.2.1 tb_X10_image := Tk.of (by decide +kernel)
abbrev mi_X10_restore : MI := (⟨"RopesAtDawnModel", "restore", "()I"⟩, prog_12_method_108_code, 1, some (.int))
def tb_X10_restore : List (Nat × Instr × Nat × Nat) := [(0, .aload_n 0, 1, 1), (1, .getfield 329, 3, 4), (4, .ifCond .ne 10, 3, 7), (7, .aload_n 0, 1, 8), (8, .ldc 108, 2, 10), (10, .invokevirtual 82, 3, 13), (13, .ireturn, 1, 14), (14, .aload_n 0, 1, 15), (15, .getfield 13, 3, 18), (18, .aload_n 0, 1, 19), (19, .getfield 9, 3, 22), (22, .invokestatic 73, 3, 25), (25, .aload_n 0, 1, 26), (26, .getfield 9, 3, 29), (29, .iconst 0, 1, 30), (30, .iaload, 1, 31), (31, .ireturn, 1, 32)]
theorem tk_X10_restore : Tk mi_X10_restore.2.1 tb_X10_restore := Tk.of (by decide +kernel)
abbrev mi_X10_tell : MI := (⟨"RopesAtDawnModel", "tell", "(I)I"⟩, prog_12_method_109_code, 2, some (.int))
def tb_X10_tell : List (Nat × Instr × Nat × Nat) := [(0, .aload_n 0, 1, 1), (1, .getfield 9, 3, 4), (4, .bipush 6, 2, 6), (6, .iaload, 1, 7), (7, .bipush 20, 2, 9), (9, .if_icmp .ne 10, 3, 12), (12, .aload_n 0, 1, 13), (13, .ldc 86, 2, 15), (15, .invokevirtual 82, 3, 18), (18, .ireturn, 1, 19), (19, .aload_n 0, 1, 20), (20, .getfield 9, 3, 23), (23, .sipush 190, 3, 26), (26, .aload_n 0, 1, 27), (27, .getfield 9, 3, 30), (30, .bipush 6, 2, 32), (32, .iaload, 1, 33), (33, .iadd, 1, 34), (34, .iload_n 1, 1, 35), (35, .iastore, 1, 36), (36, .aload_n 0, 1, 37), (37, .getfield 9, 3, 40), (40, .bipush 6, 2, 42), (42, .dup2, 1, 43), (43, .iaload, 1, 44), (44, .iconst 1, 1, 45), (45, .iadd, 1, 46), (46, .iastore, 1, 47), (47, .aload_n 0, 1, 48), (48, .getfield 9, 3, 51), (51, .bipush 6, 2, 53), (53, .iaload, 1, 54), (54, .ireturn, 1, 55)]
theorem tk_X10_tell : Tk mi_X10_tell.2.1 tb_X10_tell := Tk.of (by decide +kernel)
abbrev mi_X10_check : MI := (⟨"RopesAtDawnModel", "check", "()I"⟩, prog_12_method_110_code, 5, some (.int))
def tb_X10_check : List (Nat × Instr × Nat × Nat) := [(0, .aload_n 0, 1, 1), (1, .getfield 9, 3, 4), (4, .bipush 6, 2, 6), (6, .iaload, 1, 7), (7, .istore_n 1, 1, 8), (8, .aload_n 0, 1, 9), (9, .getfield 9, 3, 12), (12, .bipush 6, 2, 14), (14, .iconst 0, 1, 15), (15, .iastore, 1, 16), (16, .iconst 0, 1, 17), (17, .istore_n 2, 1, 18), (18, .iconst 0, 1, 19), (19, .istore_n 3, 1, 20), (20, .iload_n 3, 1, 21), (21, .aload_n 0, 1, 22), (22, .getfield 9, 3, 25), (25, .iconst 4, 1, 26), (26, .iaload, 1, 27), (27, .if_icmp .ge 78, 3, 30), (30, .iconst 0, 1, 31), (31, .istore 4, 2, 33), (33, .iload 4, 2, 35), (35, .aload_n 0, 1, 36), (36, .aload_n 0, 1, 37), (37, .getfield 9, 3, 40), (40, .sipush 134, 3, 43), (43, .iload_n 3, 1, 44), (44, .iadd, 1, 45), (45, .iaload, 1, 46), (46, .invokevirtual 118, 3, 49), (49, .if_icmp .ge 50, 3, 52), (52, .iload_n 2, 1, 53), (53, .iload_n 1, 1, 54), (54, .if_icmp .ge 32, 3, 57), (57, .aload_n 0, 1, 58), (58, .getfield 9, 3, 61), (61, .sipush 190, 3, 64), (64, .iload_n 2, 1, 65), (65, .iadd, 1, 66), (66, .iaload, 1, 67), (67, .aload_n 0, 1, 68), (68, .aload_n 0, 1, 69), (69, .getfield 9, 3, 72), (72, .sipush 134, 3, 75), (75, .iload_n 3, 1, 76), (76, .iadd, 1, 77), (77, .iaload, 1, 78), (78, .iload 4, 2, 80), (80, .invokevirtual 121, 3, 83), (83, .if_icmp .eq 7, 3, 86), (86, .iconst 1, 1, 87), (87, .iload_n 2, 1, 88), (88, .iadd, 1, 89), (89, .ireturn, 1, 90), (90, .iinc 2 1, 3, 93), (93, .iinc 4 1, 3, 96), (96, .goto (-63), 3, 99), (99, .iinc 3 1, 3, 102), (102, .goto (-82), 3, 105), (105, .iload_n 1, 1, 106), (106, .iload_n 2, 1, 107), (107, .if_icmp .le 9, 3, 110), (110, .iconst 1, 1, 111), (111, .iload_n 2, 1, 112), (112, .iadd, 1, 113), (113, .goto 4, 3, 116), (116, .iconst 0, 1, 117), (117, .ireturn, 1, 118)]
theorem tk_X10_check : Tk mi_X10_check.2.1 tb_X10_check := Tk.of (by decide +kernel)
abbrev mi_X10_count : MI := (⟨"RopesAtDawnModel", "count", "(I)I"⟩, prog_12_method_111_code, 2, some (.int))
def tb_X10_count : List (Nat × Instr × Nat × Nat) := [(0, .iload_n 1, 1, 1), (1, .iconst 0, 1, 2), (2, .bipush 8, 2, 4), (4, .invokestatic 69, 3, 7), (7, .ifCond .ne 10, 3, 10), (10, .aload_n 0, 1, 11), (11, .ldc 81, 2, 13), (13, .invokevirtual 82, 3, 16), (16, .ireturn, 1, 17), (17, .iload_n 1, 1, 18), (18, .bipush 7, 2, 20), (20, .if_icmp .ge 12, 3, 23), (23, .aload_n 0, 1, 24), (24, .getfield 9, 3, 27), (27, .iload_n 1, 1, 28), (28, .iaload, 1, 29), (29, .goto 23, 3, 32), (32, .iload_n 1, 1, 33), (33, .bipush 7, 2, 35), (35, .if_icmp .ne 10, 3, 38), (38, .aload_n 0, 1, 39), (39, .getfield 308, 3, 42), (42, .goto 10, 3, 45), (45, .aload_n 0, 1, 46), (46, .getfield 9, 3, 49), (49, .bipush 7, 2, 51), (51, .iaload, 1, 52), (52, .ireturn, 1, 53)]
theorem tk_X10_count : Tk mi_X10_count.2.1 tb_X10_count := Tk.of (by decide +kernel)
abbrev mi_X10_told : MI := (⟨"RopesAtDawnModel", "told", "(I)I"⟩, prog_12_method_112_code, 2, some (.int))
def tb_X10_told : List (Nat × Instr × Nat × Nat) := [(0, .iload_n 1, 1, 1), (1, .iconst 1, 1, 2), (2, .iconst 5, 1, 3), (3, .invokestatic 69, 3, 6), (6, .ifCond .eq 12, 3, 9), (9, .aload_n 0, 1, 10), (10, .getfield 19, 3, 13), (13, .iload_n 1, 1, 14), (14, .iaload, 1, 15), (15, .goto 9, 3, 18), (18, .aload_n 0, 1, 19), (19, .ldc 81, 2, 21), (21, .invokevirtual 82, 3, 24), (24, .ireturn, 1, 25)]
theorem tk_X10_told : Tk mi_X10_told.2.1 tb_X10_told := Tk.of (by decide +kernel)
end
section
theorem mk_X0_init : Mok mi_X0_init := ⟨by decide +kernel, gd (wk 177 (by decide +kernel)) rfl, gd (wk 8 (by decide +kernel)) rfl, by decide +kernel, by decide +kernel, by decide⟩
theorem mn_X0_init : MokI mi_X0_init := ⟨mk_X0_init, gd (wk 176 (by decide +kernel)) rfl, rfl, rfl⟩
theorem mk_X0_begin : Mok mi_X0_begin := ⟨by decide +kernel, gd (wk 776 (by decide +kernel)) rfl, gd (wk 8 (by decide +kernel)) rfl, by decide +kernel, by decide +kernel, by decide⟩
theorem mv_X0_begin : MokV mi_X0_begin := ⟨mk_X0_begin, gd (wk 775 (by decide +kernel)) rfl, gd (List.mem_append_left _ (List.mem_of_getElem? (i := 12) (by decide +kernel))) rfl⟩
theorem mk_X0_weigh : Mok mi_X0_weigh := ⟨by decide +kernel, gd (wk 816 (by decide +kernel)) rfl, gd (wk 8 (by decide +kernel)) rfl, by decide +kernel, by decide +kernel, by decide⟩
theorem mv_X0_weigh : MokV mi_X0_weigh := ⟨mk_X0_weigh, gd (wk 815 (by decide +kernel)) rfl, gd (List.mem_append_left _ (List.mem_of_getElem? (i := 13) (by decide +kernel))) rfl⟩
theorem mk_X0_chooseOrder : Mok mi_X0_chooseOrder := ⟨by decide +kernel, gd (wk 772 (by decide +kernel)) rfl, gd (wk 8 (by decide +kernel)) rfl, by decide +kernel, by decide +kernel, by decide⟩
theorem mv_X0_chooseOrder : MokV mi_X0_chooseOrder := ⟨mk_X0_chooseOrder, gd (wk 770 (by decide +kernel)) rfl, gd (wk 771 (by decide +kernel)) rfl⟩
theorem mk_X0_chooseLine : Mok mi_X0_chooseLine := ⟨by decide +kernel, gd (wk 824 (by decide +kernel)) rfl, gd (wk 8 (by decide +kernel)) rfl, by decide +kernel, by decide +kernel, by decide⟩
theorem mv_X0_chooseLine : MokV mi_X0_chooseLine := ⟨mk_X0_chooseLine, gd (wk 822 (by decide +kernel)) rfl, gd (wk 823 (by decide +kernel)) rfl⟩
theorem mk_X0_chooseSpace : Mok mi_X0_chooseSpace := ⟨by decide +kernel, gd (wk 811 (by decide +kernel)) rfl, gd (wk 8 (by decide +kernel)) rfl, by decide +kernel, by decide +kernel, by decide⟩
theorem mv_X0_chooseSpace : MokV mi_X0_chooseSpace := ⟨mk_X0_chooseSpace, gd (wk 809 (by decide +kernel)) rfl, gd (wk 810 (by decide +kernel)) rfl⟩
theorem mk_X0_chooseParts : Mok mi_X0_chooseParts := ⟨by decide +kernel, gd (wk 832 (by decide +kernel)) rfl, gd (wk 8 (by decide +kernel)) rfl, by decide +kernel, by decide +kernel, by decide⟩
theorem mv_X0_chooseParts : MokV mi_X0_chooseParts := ⟨mk_X0_chooseParts, gd (wk 830 (by decide +kernel)) rfl, gd (wk 831 (by decide +kernel)) rfl⟩
theorem mk_X0_chooseStart : Mok mi_X0_chooseStart := ⟨by decide +kernel, gd (wk 861 (by decide +kernel)) rfl, gd (wk 8 (by decide +kernel)) rfl, by decide +kernel, by decide +kernel, by decide⟩
theorem mv_X0_chooseStart : MokV mi_X0_chooseStart := ⟨mk_X0_chooseStart, gd (wk 859 (by decide +kernel)) rfl, gd (wk 860 (by decide +kernel)) rfl⟩
theorem mk_X0_chooseLeft : Mok mi_X0_chooseLeft := ⟨by decide +kernel, gd (wk 874 (by decide +kernel)) rfl, gd (wk 8 (by decide +kernel)) rfl, by decide +kernel, by decide +kernel, by decide⟩
theorem mv_X0_chooseLeft : MokV mi_X0_chooseLeft := ⟨mk_X0_chooseLeft, gd (wk 872 (by decide +kernel)) rfl, gd (wk 873 (by decide +kernel)) rfl⟩
theorem mk_X0_chooseLead : Mok mi_X0_chooseLead := ⟨by decide +kernel, gd (wk 887 (by decide +kernel)) rfl, gd (wk 8 (by decide +kernel)) rfl, by decide +kernel, by decide +kernel, by decide⟩
theorem mv_X0_chooseLead : MokV mi_X0_chooseLead := ⟨mk_X0_chooseLead, gd (wk 885 (by decide +kernel)) rfl, gd (wk 886 (by decide +kernel)) rfl⟩
theorem mk_X1_init : Mok mi_X1_init := ⟨by decide +kernel, gd (wk 142 (by decide +kernel)) rfl, gd (wk 6 (by decide +kernel)) rfl, by decide +kernel, by decide +kernel, by decide⟩
theorem mn_X1_init : MokI mi_X1_init := ⟨mk_X1_init, gd (wk 141 (by decide +kernel)) rfl, rfl, rfl⟩
theorem mk_X1_cross : Mok mi_X1_cross := ⟨by decide +kernel, gd (wk 701 (by decide +kernel)) rfl, gd (wk 6 (by decide +kernel)) rfl, by decide +kernel, by decide +kernel, by decide⟩
theorem mv_X1_cross : MokV mi_X1_cross := ⟨mk_X1_cross, gd (wk 699 (by decide +kernel)) rfl, gd (wk 700 (by decide +kernel)) rfl⟩
theorem mk_X1_crossOne : Mok mi_X1_crossOne := ⟨by decide +kernel, gd (wk 708 (by decide +kernel)) rfl, gd (wk 6 (by decide +kernel)) rfl, by decide +kernel, by decide +kernel, by decide⟩
theorem mv_X1_crossOne : MokV mi_X1_crossOne := ⟨mk_X1_crossOne, gd (wk 707 (by decide +kernel)) rfl, gd (List.mem_append_left _ (List.mem_of_getElem? (i := 10) (by decide +kernel))) rfl⟩
theorem mk_X1_cellOf : Mok mi_X1_cellOf := ⟨by decide +kernel, gd (wk 720 (by decide +kernel)) rfl, gd (wk 6 (by decide +kernel)) rfl, by decide +kernel, by decide +kernel, by decide⟩
theorem ms_X1_cellOf : MokS mi_X1_cellOf := ⟨mk_X1_cellOf, gd (wk 719 (by decide +kernel)) rfl⟩
theorem mk_X1_comesTo : Mok mi_X1_comesTo := ⟨by decide +kernel, gd (wk 725 (by decide +kernel)) rfl, gd (wk 6 (by decide +kernel)) rfl, by decide +kernel, by decide +kernel, by decide⟩
theorem mv_X1_comesTo : MokV mi_X1_comesTo := ⟨mk_X1_comesTo, gd (wk 723 (by decide +kernel)) rfl, gd (wk 724 (by decide +kernel)) rfl⟩
theorem mk_X1_isOff : Mok mi_X1_isOff := ⟨by decide +kernel, gd (wk 717 (by decide +kernel)) rfl, gd (wk 6 (by decide +kernel)) rfl, by decide +kernel, by decide +kernel, by decide⟩
theorem mv_X1_isOff : MokV mi_X1_isOff := ⟨mk_X1_isOff, gd (wk 715 (by decide +kernel)) rfl, gd (wk 716 (by decide +kernel)) rfl⟩
theorem mk_X1_turnsHour : Mok mi_X1_turnsHour := ⟨by decide +kernel, gd (wk 866 (by decide +kernel)) rfl, gd (wk 6 (by decide +kernel)) rfl, by decide +kernel, by decide +kernel, by decide⟩
theorem mv_X1_turnsHour : MokV mi_X1_turnsHour := ⟨mk_X1_turnsHour, gd (wk 864 (by decide +kernel)) rfl, gd (wk 865 (by decide +kernel)) rfl⟩
theorem mk_X1_riskOf : Mok mi_X1_riskOf := ⟨by decide +kernel, gd (wk 738 (by decide +kernel)) rfl, gd (wk 6 (by decide +kernel)) rfl, by decide +kernel, by decide +kernel, by decide⟩
theorem mv_X1_riskOf : MokV mi_X1_riskOf := ⟨mk_X1_riskOf, gd (wk 736 (by decide +kernel)) rfl, gd (wk 737 (by decide +kernel)) rfl⟩
theorem mk_X1_tollOf : Mok mi_X1_tollOf := ⟨by decide +kernel, gd (wk 755 (by decide +kernel)) rfl, gd (wk 6 (by decide +kernel)) rfl, by decide +kernel, by decide +kernel, by decide⟩
theorem mv_X1_tollOf : MokV mi_X1_tollOf := ⟨mk_X1_tollOf, gd (wk 753 (by decide +kernel)) rfl, gd (wk 754 (by decide +kernel)) rfl⟩
theorem mk_X1_tollAt : Mok mi_X1_tollAt := ⟨by decide +kernel, gd (wk 760 (by decide +kernel)) rfl, gd (wk 6 (by decide +kernel)) rfl, by decide +kernel, by decide +kernel, by decide⟩
theorem mv_X1_tollAt : MokV mi_X1_tollAt := ⟨mk_X1_tollAt, gd (wk 759 (by decide +kernel)) rfl, gd (List.mem_append_left _ (List.mem_of_getElem? (i := 11) (by decide +kernel))) rfl⟩
theorem mk_X2_init : Mok mi_X2_init := ⟨by decide +kernel, gd (wk 33 (by decide +kernel)) rfl, gd (wk 2 (by decide +kernel)) rfl, by decide +kernel, by decide +kernel, by decide⟩
theorem mn_X2_init : MokI mi_X2_init := ⟨mk_X2_init, gd (wk 32 (by decide +kernel)) rfl, rfl, rfl⟩
theorem mk_X2_copyFrom : Mok mi_X2_copyFrom := ⟨by decide +kernel, gd (wk 780 (by decide +kernel)) rfl, gd (wk 2 (by decide +kernel)) rfl, by decide +kernel, by decide +kernel, by decide⟩
theorem mv_X2_copyFrom : MokV mi_X2_copyFrom := ⟨mk_X2_copyFrom, gd (wk 778 (by decide +kernel)) rfl, gd (wk 779 (by decide +kernel)) rfl⟩
theorem mk_X2_rowOf : Mok mi_X2_rowOf := ⟨by decide +kernel, gd (wk 368 (by decide +kernel)) rfl, gd (wk 2 (by decide +kernel)) rfl, by decide +kernel, by decide +kernel, by decide⟩
theorem mv_X2_rowOf : MokV mi_X2_rowOf := ⟨mk_X2_rowOf, gd (wk 366 (by decide +kernel)) rfl, gd (wk 367 (by decide +kernel)) rfl⟩
theorem mk_X2_textOf : Mok mi_X2_textOf := ⟨by decide +kernel, gd (wk 523 (by decide +kernel)) rfl, gd (wk 2 (by decide +kernel)) rfl, by decide +kernel, by decide +kernel, by decide⟩
theorem mv_X2_textOf : MokV mi_X2_textOf := ⟨mk_X2_textOf, gd (wk 521 (by decide +kernel)) rfl, gd (wk 522 (by decide +kernel)) rfl⟩
theorem mk_X2_isInLine : Mok mi_X2_isInLine := ⟨by decide +kernel, gd (wk 689 (by decide +kernel)) rfl, gd (wk 2 (by decide +kernel)) rfl, by decide +kernel, by decide +kernel, by decide⟩
theorem mv_X2_isInLine : MokV mi_X2_isInLine := ⟨mk_X2_isInLine, gd (wk 687 (by decide +kernel)) rfl, gd (wk 688 (by decide +kernel)) rfl⟩
theorem mk_X2_ropeOf : Mok mi_X2_ropeOf := ⟨by decide +kernel, gd (wk 355 (by decide +kernel)) rfl, gd (wk 2 (by decide +kernel)) rfl, by decide +kernel, by decide +kernel, by decide⟩
theorem mv_X2_ropeOf : MokV mi_X2_ropeOf := ⟨mk_X2_ropeOf, gd (wk 353 (by decide +kernel)) rfl, gd (wk 354 (by decide +kernel)) rfl⟩
theorem mk_X2_placeOf : Mok mi_X2_placeOf := ⟨by decide +kernel, gd (wk 363 (by decide +kernel)) rfl, gd (wk 2 (by decide +kernel)) rfl, by decide +kernel, by decide +kernel, by decide⟩
theorem mv_X2_placeOf : MokV mi_X2_placeOf := ⟨mk_X2_placeOf, gd (wk 361 (by decide +kernel)) rfl, gd (wk 362 (by decide +kernel)) rfl⟩
theorem mk_X2_aheadOf : Mok mi_X2_aheadOf := ⟨by decide +kernel, gd (wk 734 (by decide +kernel)) rfl, gd (wk 2 (by decide +kernel)) rfl, by decide +kernel, by decide +kernel, by decide⟩
theorem mv_X2_aheadOf : MokV mi_X2_aheadOf := ⟨mk_X2_aheadOf, gd (wk 732 (by decide +kernel)) rfl, gd (wk 733 (by decide +kernel)) rfl⟩
theorem mk_X2_slowestPace : Mok mi_X2_slowestPace := ⟨by decide +kernel, gd (wk 712 (by decide +kernel)) rfl, gd (wk 2 (by decide +kernel)) rfl, by decide +kernel, by decide +kernel, by decide⟩
theorem mv_X2_slowestPace : MokV mi_X2_slowestPace := ⟨mk_X2_slowestPace, gd (wk 710 (by decide +kernel)) rfl, gd (wk 711 (by decide +kernel)) rfl⟩
theorem mk_X2_pullOf : Mok mi_X2_pullOf := ⟨by decide +kernel, gd (wk 503 (by decide +kernel)) rfl, gd (wk 2 (by decide +kernel)) rfl, by decide +kernel, by decide +kernel, by decide⟩
theorem mv_X2_pullOf : MokV mi_X2_pullOf := ⟨mk_X2_pullOf, gd (wk 501 (by decide +kernel)) rfl, gd (wk 502 (by decide +kernel)) rfl⟩
theorem mk_X2_gripAt : Mok mi_X2_gripAt := ⟨by decide +kernel, gd (wk 483 (by decide +kernel)) rfl, gd (wk 2 (by decide +kernel)) rfl, by decide +kernel, by decide +kernel, by decide⟩
theorem mv_X2_gripAt : MokV mi_X2_gripAt := ⟨mk_X2_gripAt, gd (wk 482 (by decide +kernel)) rfl, gd (List.mem_append_left _ (List.mem_of_getElem? (i := 3) (by decide +kernel))) rfl⟩
theorem mk_X2_holdAt : Mok mi_X2_holdAt := ⟨by decide +kernel, gd (wk 475 (by decide +kernel)) rfl, gd (wk 2 (by decide +kernel)) rfl, by decide +kernel, by decide +kernel, by decide⟩
theorem mv_X2_holdAt : MokV mi_X2_holdAt := ⟨mk_X2_holdAt, gd (wk 473 (by decide +kernel)) rfl, gd (wk 474 (by decide +kernel)) rfl⟩
theorem mk_X2_isHeld : Mok mi_X2_isHeld := ⟨by decide +kernel, gd (wk 498 (by decide +kernel)) rfl, gd (wk 2 (by decide +kernel)) rfl, by decide +kernel, by decide +kernel, by decide⟩
theorem mv_X2_isHeld : MokV mi_X2_isHeld := ⟨mk_X2_isHeld, gd (wk 496 (by decide +kernel)) rfl, gd (wk 497 (by decide +kernel)) rfl⟩
theorem mk_X2_lostWithOne : Mok mi_X2_lostWithOne := ⟨by decide +kernel, gd (wk 511 (by decide +kernel)) rfl, gd (wk 2 (by decide +kernel)) rfl, by decide +kernel, by decide +kernel, by decide⟩
theorem mv_X2_lostWithOne : MokV mi_X2_lostWithOne := ⟨mk_X2_lostWithOne, gd (wk 509 (by decide +kernel)) rfl, gd (wk 510 (by decide +kernel)) rfl⟩
theorem mk_X2_draw : Mok mi_X2_draw := ⟨by decide +kernel, gd (wk 909 (by decide +kernel)) rfl, gd (wk 2 (by decide +kernel)) rfl, by decide +kernel, by decide +kernel, by decide⟩
theorem mv_X2_draw : MokV mi_X2_draw := ⟨mk_X2_draw, gd (wk 907 (by decide +kernel)) rfl, gd (wk 908 (by decide +kernel)) rfl⟩
theorem mk_X3_init : Mok mi_X3_init := ⟨by decide +kernel, gd (wk 43 (by decide +kernel)) rfl, gd (wk 3 (by decide +kernel)) rfl, by decide +kernel, by decide +kernel, by decide⟩
theorem mn_X3_init : MokI mi_X3_init := ⟨mk_X3_init, gd (wk 42 (by decide +kernel)) rfl, rfl, rfl⟩
theorem mk_X3_size : Mok mi_X3_size := ⟨by decide +kernel, gd (wk 342 (by decide +kernel)) rfl, gd (wk 3 (by decide +kernel)) rfl, by decide +kernel, by decide +kernel, by decide⟩
theorem mv_X3_size : MokV mi_X3_size := ⟨mk_X3_size, gd (wk 340 (by decide +kernel)) rfl, gd (wk 341 (by decide +kernel)) rfl⟩
theorem mk_X3_has : Mok mi_X3_has := ⟨by decide +kernel, gd (wk 338 (by decide +kernel)) rfl, gd (wk 3 (by decide +kernel)) rfl, by decide +kernel, by decide +kernel, by decide⟩
theorem mv_X3_has : MokV mi_X3_has := ⟨mk_X3_has, gd (wk 336 (by decide +kernel)) rfl, gd (wk 337 (by decide +kernel)) rfl⟩
theorem mk_X3_isFull : Mok mi_X3_isFull := ⟨by decide +kernel, gd (wk 324 (by decide +kernel)) rfl, gd (wk 3 (by decide +kernel)) rfl, by decide +kernel, by decide +kernel, by decide⟩
theorem mv_X3_isFull : MokV mi_X3_isFull := ⟨mk_X3_isFull, gd (wk 322 (by decide +kernel)) rfl, gd (wk 323 (by decide +kernel)) rfl⟩
theorem mk_X3_fitsColumn : Mok mi_X3_fitsColumn := ⟨by decide +kernel, gd (wk 314 (by decide +kernel)) rfl, gd (wk 3 (by decide +kernel)) rfl, by decide +kernel, by decide +kernel, by decide⟩
theorem mv_X3_fitsColumn : MokV mi_X3_fitsColumn := ⟨mk_X3_fitsColumn, gd (wk 312 (by decide +kernel)) rfl, gd (wk 313 (by decide +kernel)) rfl⟩
theorem mk_X3_fits : Mok mi_X3_fits := ⟨by decide +kernel, gd (wk 310 (by decide +kernel)) rfl, gd (wk 3 (by decide +kernel)) rfl, by decide +kernel, by decide +kernel, by decide⟩
theorem mv_X3_fits : MokV mi_X3_fits := ⟨mk_X3_fits, gd (wk 308 (by decide +kernel)) rfl, gd (wk 309 (by decide +kernel)) rfl⟩
theorem mk_X3_add : Mok mi_X3_add := ⟨by decide +kernel, gd (wk 329 (by decide +kernel)) rfl, gd (wk 3 (by decide +kernel)) rfl, by decide +kernel, by decide +kernel, by decide⟩
theorem mv_X3_add : MokV mi_X3_add := ⟨mk_X3_add, gd (wk 327 (by decide +kernel)) rfl, gd (wk 328 (by decide +kernel)) rfl⟩
theorem mk_X3_get : Mok mi_X3_get := ⟨by decide +kernel, gd (wk 351 (by decide +kernel)) rfl, gd (wk 3 (by decide +kernel)) rfl, by decide +kernel, by decide +kernel, by decide⟩
theorem mv_X3_get : MokV mi_X3_get := ⟨mk_X3_get, gd (wk 349 (by decide +kernel)) rfl, gd (wk 350 (by decide +kernel)) rfl⟩
theorem mk_X3_change : Mok mi_X3_change := ⟨by decide +kernel, gd (wk 334 (by decide +kernel)) rfl, gd (wk 3 (by decide +kernel)) rfl, by decide +kernel, by decide +kernel, by decide⟩
theorem mv_X3_change : MokV mi_X3_change := ⟨mk_X3_change, gd (wk 332 (by decide +kernel)) rfl, gd (wk 333 (by decide +kernel)) rfl⟩
theorem mk_X3_copyFrom : Mok mi_X3_copyFrom := ⟨by decide +kernel, gd (wk 784 (by decide +kernel)) rfl, gd (wk 3 (by decide +kernel)) rfl, by decide +kernel, by decide +kernel, by decide⟩
theorem mv_X3_copyFrom : MokV mi_X3_copyFrom := ⟨mk_X3_copyFrom, gd (wk 782 (by decide +kernel)) rfl, gd (wk 783 (by decide +kernel)) rfl⟩
theorem mk_X4_init : Mok mi_X4_init := ⟨by decide +kernel, gd (wk 208 (by decide +kernel)) rfl, gd (wk 9 (by decide +kernel)) rfl, by decide +kernel, by decide +kernel, by decide⟩
theorem mn_X4_init : MokI mi_X4_init := ⟨mk_X4_init, gd (wk 207 (by decide +kernel)) rfl, rfl, rfl⟩
theorem mk_X4_read : Mok mi_X4_read := ⟨by decide +kernel, gd (wk 557 (by decide +kernel)) rfl, gd (wk 9 (by decide +kernel)) rfl, by decide +kernel, by decide +kernel, by decide⟩
theorem mv_X4_read : MokV mi_X4_read := ⟨mk_X4_read, gd (wk 555 (by decide +kernel)) rfl, gd (wk 556 (by decide +kernel)) rfl⟩
theorem mk_X4_levelOf : Mok mi_X4_levelOf := ⟨by decide +kernel, gd (wk 667 (by decide +kernel)) rfl, gd (wk 9 (by decide +kernel)) rfl, by decide +kernel, by decide +kernel, by decide⟩
theorem ms_X4_levelOf : MokS mi_X4_levelOf := ⟨mk_X4_levelOf, gd (wk 666 (by decide +kernel)) rfl⟩
theorem mk_X4_readLevel : Mok mi_X4_readLevel := ⟨by decide +kernel, gd (wk 565 (by decide +kernel)) rfl, gd (wk 9 (by decide +kernel)) rfl, by decide +kernel, by decide +kernel, by decide⟩
theorem mv_X4_readLevel : MokV mi_X4_readLevel := ⟨mk_X4_readLevel, gd (wk 564 (by decide +kernel)) rfl, gd (List.mem_append_left _ (List.mem_of_getElem? (i := 6) (by decide +kernel))) rfl⟩
theorem mk_X4_readFactor : Mok mi_X4_readFactor := ⟨by decide +kernel, gd (wk 569 (by decide +kernel)) rfl, gd (wk 9 (by decide +kernel)) rfl, by decide +kernel, by decide +kernel, by decide⟩
theorem mv_X4_readFactor : MokV mi_X4_readFactor := ⟨mk_X4_readFactor, gd (wk 568 (by decide +kernel)) rfl, gd (List.mem_append_left _ (List.mem_of_getElem? (i := 7) (by decide +kernel))) rfl⟩
theorem mk_X4_readOpened : Mok mi_X4_readOpened := ⟨by decide +kernel, gd (wk 664 (by decide +kernel)) rfl, gd (wk 9 (by decide +kernel)) rfl, by decide +kernel, by decide +kernel, by decide⟩
theorem mv_X4_readOpened : MokV mi_X4_readOpened := ⟨mk_X4_readOpened, gd (wk 663 (by decide +kernel)) rfl, gd (List.mem_append_left _ (List.mem_of_getElem? (i := 9) (by decide +kernel))) rfl⟩
theorem mk_X4_readNumber : Mok mi_X4_readNumber := ⟨by decide +kernel, gd (wk 577 (by decide +kernel)) rfl, gd (wk 9 (by decide +kernel)) rfl, by decide +kernel, by decide +kernel, by decide⟩
theorem mv_X4_readNumber : MokV mi_X4_readNumber := ⟨mk_X4_readNumber, gd (wk 576 (by decide +kernel)) rfl, gd (List.mem_append_left _ (List.mem_of_getElem? (i := 8) (by decide +kernel))) rfl⟩
theorem mk_X4_isDigit : Mok mi_X4_isDigit := ⟨by decide +kernel, gd (wk 573 (by decide +kernel)) rfl, gd (wk 9 (by decide +kernel)) rfl, by decide +kernel, by decide +kernel, by decide⟩
theorem ms_X4_isDigit : MokS mi_X4_isDigit := ⟨mk_X4_isDigit, gd (wk 572 (by decide +kernel)) rfl⟩
theorem mk_X5_init : Mok mi_X5_init := ⟨by decide +kernel, gd (wk 148 (by decide +kernel)) rfl, gd (wk 7 (by decide +kernel)) rfl, by decide +kernel, by decide +kernel, by decide⟩
theorem mn_X5_init : MokI mi_X5_init := ⟨mk_X5_init, gd (wk 147 (by decide +kernel)) rfl, rfl, rfl⟩
theorem mk_X5_name : Mok mi_X5_name := ⟨by decide +kernel, gd (wk 519 (by decide +kernel)) rfl, gd (wk 7 (by decide +kernel)) rfl, by decide +kernel, by decide +kernel, by decide⟩
theorem mv_X5_name : MokV mi_X5_name := ⟨mk_X5_name, gd (wk 517 (by decide +kernel)) rfl, gd (wk 518 (by decide +kernel)) rfl⟩
theorem mk_X5_give : Mok mi_X5_give := ⟨by decide +kernel, gd (wk 527 (by decide +kernel)) rfl, gd (wk 7 (by decide +kernel)) rfl, by decide +kernel, by decide +kernel, by decide⟩
theorem mv_X5_give : MokV mi_X5_give := ⟨mk_X5_give, gd (wk 525 (by decide +kernel)) rfl, gd (wk 526 (by decide +kernel)) rfl⟩
theorem mk_X5_valueOf : Mok mi_X5_valueOf := ⟨by decide +kernel, gd (wk 532 (by decide +kernel)) rfl, gd (wk 7 (by decide +kernel)) rfl, by decide +kernel, by decide +kernel, by decide⟩
theorem mv_X5_valueOf : MokV mi_X5_valueOf := ⟨mk_X5_valueOf, gd (wk 531 (by decide +kernel)) rfl, gd (List.mem_append_left _ (List.mem_of_getElem? (i := 5) (by decide +kernel))) rfl⟩
theorem mk_X5_applied : Mok mi_X5_applied := ⟨by decide +kernel, gd (wk 536 (by decide +kernel)) rfl, gd (wk 7 (by decide +kernel)) rfl, by decide +kernel, by decide +kernel, by decide⟩
theorem ms_X5_applied : MokS mi_X5_applied := ⟨mk_X5_applied, gd (wk 535 (by decide +kernel)) rfl⟩
theorem mk_X6_init : Mok mi_X6_init := ⟨by decide +kernel, gd (wk 74 (by decide +kernel)) rfl, gd (wk 5 (by decide +kernel)) rfl, by decide +kernel, by decide +kernel, by decide⟩
theorem mn_X6_init : MokI mi_X6_init := ⟨mk_X6_init, gd (wk 73 (by decide +kernel)) rfl, rfl, rfl⟩
theorem mk_X6_size : Mok mi_X6_size := ⟨by decide +kernel, gd (wk 426 (by decide +kernel)) rfl, gd (wk 5 (by decide +kernel)) rfl, by decide +kernel, by decide +kernel, by decide⟩
theorem mv_X6_size : MokV mi_X6_size := ⟨mk_X6_size, gd (wk 424 (by decide +kernel)) rfl, gd (wk 425 (by decide +kernel)) rfl⟩
theorem mk_X6_isFull : Mok mi_X6_isFull := ⟨by decide +kernel, gd (wk 418 (by decide +kernel)) rfl, gd (wk 5 (by decide +kernel)) rfl, by decide +kernel, by decide +kernel, by decide⟩
theorem mv_X6_isFull : MokV mi_X6_isFull := ⟨mk_X6_isFull, gd (wk 416 (by decide +kernel)) rfl, gd (wk 417 (by decide +kernel)) rfl⟩
theorem mk_X6_at : Mok mi_X6_at := ⟨by decide +kernel, gd (wk 443 (by decide +kernel)) rfl, gd (wk 5 (by decide +kernel)) rfl, by decide +kernel, by decide +kernel, by decide⟩
theorem mv_X6_at : MokV mi_X6_at := ⟨mk_X6_at, gd (wk 441 (by decide +kernel)) rfl, gd (wk 442 (by decide +kernel)) rfl⟩
theorem mk_X6_add : Mok mi_X6_add := ⟨by decide +kernel, gd (wk 422 (by decide +kernel)) rfl, gd (wk 5 (by decide +kernel)) rfl, by decide +kernel, by decide +kernel, by decide⟩
theorem mv_X6_add : MokV mi_X6_add := ⟨mk_X6_add, gd (wk 420 (by decide +kernel)) rfl, gd (wk 421 (by decide +kernel)) rfl⟩
theorem mk_X6_change : Mok mi_X6_change := ⟨by decide +kernel, gd (wk 467 (by decide +kernel)) rfl, gd (wk 5 (by decide +kernel)) rfl, by decide +kernel, by decide +kernel, by decide⟩
theorem mv_X6_change : MokV mi_X6_change := ⟨mk_X6_change, gd (wk 465 (by decide +kernel)) rfl, gd (wk 466 (by decide +kernel)) rfl⟩
theorem mk_X6_empty : Mok mi_X6_empty := ⟨by decide +kernel, gd (wk 561 (by decide +kernel)) rfl, gd (wk 5 (by decide +kernel)) rfl, by decide +kernel, by decide +kernel, by decide⟩
theorem mv_X6_empty : MokV mi_X6_empty := ⟨mk_X6_empty, gd (wk 559 (by decide +kernel)) rfl, gd (wk 560 (by decide +kernel)) rfl⟩
theorem mk_X6_placeOf : Mok mi_X6_placeOf := ⟨by decide +kernel, gd (wk 359 (by decide +kernel)) rfl, gd (wk 5 (by decide +kernel)) rfl, by decide +kernel, by decide +kernel, by decide⟩
theorem mv_X6_placeOf : MokV mi_X6_placeOf := ⟨mk_X6_placeOf, gd (wk 357 (by decide +kernel)) rfl, gd (wk 358 (by decide +kernel)) rfl⟩
theorem mk_X6_removeAt : Mok mi_X6_removeAt := ⟨by decide +kernel, gd (wk 434 (by decide +kernel)) rfl, gd (wk 5 (by decide +kernel)) rfl, by decide +kernel, by decide +kernel, by decide⟩
theorem mv_X6_removeAt : MokV mi_X6_removeAt := ⟨mk_X6_removeAt, gd (wk 432 (by decide +kernel)) rfl, gd (wk 433 (by decide +kernel)) rfl⟩
theorem mk_X6_exchange : Mok mi_X6_exchange := ⟨by decide +kernel, gd (wk 797 (by decide +kernel)) rfl, gd (wk 5 (by decide +kernel)) rfl, by decide +kernel, by decide +kernel, by decide⟩
theorem mv_X6_exchange : MokV mi_X6_exchange := ⟨mk_X6_exchange, gd (wk 795 (by decide +kernel)) rfl, gd (wk 796 (by decide +kernel)) rfl⟩
theorem mk_X6_copyFrom : Mok mi_X6_copyFrom := ⟨by decide +kernel, gd (wk 673 (by decide +kernel)) rfl, gd (wk 5 (by decide +kernel)) rfl, by decide +kernel, by decide +kernel, by decide⟩
theorem mv_X6_copyFrom : MokV mi_X6_copyFrom := ⟨mk_X6_copyFrom, gd (wk 671 (by decide +kernel)) rfl, gd (wk 672 (by decide +kernel)) rfl⟩
theorem mk_X6_bits : Mok mi_X6_bits := ⟨by decide +kernel, gd (wk 836 (by decide +kernel)) rfl, gd (wk 5 (by decide +kernel)) rfl, by decide +kernel, by decide +kernel, by decide⟩
theorem mv_X6_bits : MokV mi_X6_bits := ⟨mk_X6_bits, gd (wk 834 (by decide +kernel)) rfl, gd (wk 835 (by decide +kernel)) rfl⟩
theorem mk_X6_becomeBits : Mok mi_X6_becomeBits := ⟨by decide +kernel, gd (wk 846 (by decide +kernel)) rfl, gd (wk 5 (by decide +kernel)) rfl, by decide +kernel, by decide +kernel, by decide⟩
theorem mv_X6_becomeBits : MokV mi_X6_becomeBits := ⟨mk_X6_becomeBits, gd (wk 844 (by decide +kernel)) rfl, gd (wk 845 (by decide +kernel)) rfl⟩
theorem mk_X6_sort : Mok mi_X6_sort := ⟨by decide +kernel, gd (wk 793 (by decide +kernel)) rfl, gd (wk 5 (by decide +kernel)) rfl, by decide +kernel, by decide +kernel, by decide⟩
theorem mv_X6_sort : MokV mi_X6_sort := ⟨mk_X6_sort, gd (wk 791 (by decide +kernel)) rfl, gd (wk 792 (by decide +kernel)) rfl⟩
theorem mk_X6_next : Mok mi_X6_next := ⟨by decide +kernel, gd (wk 803 (by decide +kernel)) rfl, gd (wk 5 (by decide +kernel)) rfl, by decide +kernel, by decide +kernel, by decide⟩
theorem mv_X6_next : MokV mi_X6_next := ⟨mk_X6_next, gd (wk 801 (by decide +kernel)) rfl, gd (wk 802 (by decide +kernel)) rfl⟩
theorem mk_X7_init : Mok mi_X7_init := ⟨by decide +kernel, gd (wk 258 (by decide +kernel)) rfl, gd (wk 11 (by decide +kernel)) rfl, by decide +kernel, by decide +kernel, by decide⟩
theorem mn_X7_init : MokI mi_X7_init := ⟨mk_X7_init, gd (wk 257 (by decide +kernel)) rfl, rfl, rfl⟩
theorem mk_X7_isMissing : Mok mi_X7_isMissing := ⟨by decide +kernel, gd (wk 380 (by decide +kernel)) rfl, gd (wk 11 (by decide +kernel)) rfl, by decide +kernel, by decide +kernel, by decide⟩
theorem mv_X7_isMissing : MokV mi_X7_isMissing := ⟨mk_X7_isMissing, gd (wk 378 (by decide +kernel)) rfl, gd (wk 379 (by decide +kernel)) rfl⟩
theorem mk_X7_size : Mok mi_X7_size := ⟨by decide +kernel, gd (wk 385 (by decide +kernel)) rfl, gd (wk 11 (by decide +kernel)) rfl, by decide +kernel, by decide +kernel, by decide⟩
theorem mv_X7_size : MokV mi_X7_size := ⟨mk_X7_size, gd (wk 383 (by decide +kernel)) rfl, gd (wk 384 (by decide +kernel)) rfl⟩
theorem mk_X7_become : Mok mi_X7_become := ⟨by decide +kernel, gd (wk 956 (by decide +kernel)) rfl, gd (wk 11 (by decide +kernel)) rfl, by decide +kernel, by decide +kernel, by decide⟩
theorem mv_X7_become : MokV mi_X7_become := ⟨mk_X7_become, gd (wk 954 (by decide +kernel)) rfl, gd (wk 955 (by decide +kernel)) rfl⟩
theorem mk_X7_stands : Mok mi_X7_stands := ⟨by decide +kernel, gd (wk 969 (by decide +kernel)) rfl, gd (wk 11 (by decide +kernel)) rfl, by decide +kernel, by decide +kernel, by decide⟩
theorem mv_X7_stands : MokV mi_X7_stands := ⟨mk_X7_stands, gd (wk 967 (by decide +kernel)) rfl, gd (wk 968 (by decide +kernel)) rfl⟩
theorem mk_X7_at : Mok mi_X7_at := ⟨by decide +kernel, gd (wk 389 (by decide +kernel)) rfl, gd (wk 11 (by decide +kernel)) rfl, by decide +kernel, by decide +kernel, by decide⟩
theorem mv_X7_at : MokV mi_X7_at := ⟨mk_X7_at, gd (wk 387 (by decide +kernel)) rfl, gd (wk 388 (by decide +kernel)) rfl⟩
theorem mk_X7_write : Mok mi_X7_write := ⟨by decide +kernel, gd (wk 973 (by decide +kernel)) rfl, gd (wk 11 (by decide +kernel)) rfl, by decide +kernel, by decide +kernel, by decide⟩
theorem mv_X7_write : MokV mi_X7_write := ⟨mk_X7_write, gd (wk 971 (by decide +kernel)) rfl, gd (wk 972 (by decide +kernel)) rfl⟩
theorem mk_X7_copyFrom : Mok mi_X7_copyFrom := ⟨by decide +kernel, gd (wk 981 (by decide +kernel)) rfl, gd (wk 11 (by decide +kernel)) rfl, by decide +kernel, by decide +kernel, by decide⟩
theorem mv_X7_copyFrom : MokV mi_X7_copyFrom := ⟨mk_X7_copyFrom, gd (wk 979 (by decide +kernel)) rfl, gd (wk 980 (by decide +kernel)) rfl⟩
theorem mk_X8_init : Mok mi_X8_init := ⟨by decide +kernel, gd (wk 235 (by decide +kernel)) rfl, gd (wk 10 (by decide +kernel)) rfl, by decide +kernel, by decide +kernel, by decide⟩
theorem mn_X8_init : MokI mi_X8_init := ⟨mk_X8_init, gd (wk 234 (by decide +kernel)) rfl, rfl, rfl⟩
theorem mk_X8_speak : Mok mi_X8_speak := ⟨by decide +kernel, gd (wk 928 (by decide +kernel)) rfl, gd (wk 10 (by decide +kernel)) rfl, by decide +kernel, by decide +kernel, by decide⟩
theorem mv_X8_speak : MokV mi_X8_speak := ⟨mk_X8_speak, gd (wk 926 (by decide +kernel)) rfl, gd (wk 927 (by decide +kernel)) rfl⟩
theorem mk_X8_bearerOf : Mok mi_X8_bearerOf := ⟨by decide +kernel, gd (wk 937 (by decide +kernel)) rfl, gd (wk 10 (by decide +kernel)) rfl, by decide +kernel, by decide +kernel, by decide⟩
theorem ms_X8_bearerOf : MokS mi_X8_bearerOf := ⟨mk_X8_bearerOf, gd (wk 936 (by decide +kernel)) rfl⟩
theorem mk_X8_bodyOf : Mok mi_X8_bodyOf := ⟨by decide +kernel, gd (wk 940 (by decide +kernel)) rfl, gd (wk 10 (by decide +kernel)) rfl, by decide +kernel, by decide +kernel, by decide⟩
theorem ms_X8_bodyOf : MokS mi_X8_bodyOf := ⟨mk_X8_bodyOf, gd (wk 939 (by decide +kernel)) rfl⟩
theorem mk_X8_say : Mok mi_X8_say := ⟨by decide +kernel, gd (wk 934 (by decide +kernel)) rfl, gd (wk 10 (by decide +kernel)) rfl, by decide +kernel, by decide +kernel, by decide⟩
theorem mv_X8_say : MokV mi_X8_say := ⟨mk_X8_say, gd (wk 933 (by decide +kernel)) rfl, gd (List.mem_append_left _ (List.mem_of_getElem? (i := 16) (by decide +kernel))) rfl⟩
theorem mk_X9_init : Mok mi_X9_init := ⟨by decide +kernel, gd (wk 25 (by decide +kernel)) rfl, gd (wk 1 (by decide +kernel)) rfl, by decide +kernel, by decide +kernel, by decide⟩
theorem mn_X9_init : MokI mi_X9_init := ⟨mk_X9_init, gd (wk 24 (by decide +kernel)) rfl, rfl, rfl⟩
theorem mk_X9_person : Mok mi_X9_person := ⟨by decide +kernel, gd (wk 302 (by decide +kernel)) rfl, gd (wk 1 (by decide +kernel)) rfl, by decide +kernel, by decide +kernel, by decide⟩
theorem mv_X9_person : MokV mi_X9_person := ⟨mk_X9_person, gd (wk 300 (by decide +kernel)) rfl, gd (wk 301 (by decide +kernel)) rfl⟩
theorem mk_X9_ofPerson : Mok mi_X9_ofPerson := ⟨by decide +kernel, gd (wk 346 (by decide +kernel)) rfl, gd (wk 1 (by decide +kernel)) rfl, by decide +kernel, by decide +kernel, by decide⟩
theorem mv_X9_ofPerson : MokV mi_X9_ofPerson := ⟨mk_X9_ofPerson, gd (wk 344 (by decide +kernel)) rfl, gd (wk 345 (by decide +kernel)) rfl⟩
theorem mk_X9_people : Mok mi_X9_people := ⟨by decide +kernel, gd (wk 372 (by decide +kernel)) rfl, gd (wk 1 (by decide +kernel)) rfl, by decide +kernel, by decide +kernel, by decide⟩
theorem mv_X9_people : MokV mi_X9_people := ⟨mk_X9_people, gd (wk 370 (by decide +kernel)) rfl, gd (wk 371 (by decide +kernel)) rfl⟩
theorem mk_X9_piece : Mok mi_X9_piece := ⟨by decide +kernel, gd (wk 393 (by decide +kernel)) rfl, gd (wk 1 (by decide +kernel)) rfl, by decide +kernel, by decide +kernel, by decide⟩
theorem mv_X9_piece : MokV mi_X9_piece := ⟨mk_X9_piece, gd (wk 391 (by decide +kernel)) rfl, gd (wk 392 (by decide +kernel)) rfl⟩
theorem mk_X9_ofPiece : Mok mi_X9_ofPiece := ⟨by decide +kernel, gd (wk 397 (by decide +kernel)) rfl, gd (wk 1 (by decide +kernel)) rfl, by decide +kernel, by decide +kernel, by decide⟩
theorem mv_X9_ofPiece : MokV mi_X9_ofPiece := ⟨mk_X9_ofPiece, gd (wk 395 (by decide +kernel)) rfl, gd (wk 396 (by decide +kernel)) rfl⟩
theorem mk_X9_start : Mok mi_X9_start := ⟨by decide +kernel, gd (wk 401 (by decide +kernel)) rfl, gd (wk 1 (by decide +kernel)) rfl, by decide +kernel, by decide +kernel, by decide⟩
theorem mv_X9_start : MokV mi_X9_start := ⟨mk_X9_start, gd (wk 399 (by decide +kernel)) rfl, gd (wk 400 (by decide +kernel)) rfl⟩
theorem mk_X9_rope : Mok mi_X9_rope := ⟨by decide +kernel, gd (wk 408 (by decide +kernel)) rfl, gd (wk 1 (by decide +kernel)) rfl, by decide +kernel, by decide +kernel, by decide⟩
theorem mv_X9_rope : MokV mi_X9_rope := ⟨mk_X9_rope, gd (wk 406 (by decide +kernel)) rfl, gd (wk 407 (by decide +kernel)) rfl⟩
theorem mk_X9_tie : Mok mi_X9_tie := ⟨by decide +kernel, gd (wk 412 (by decide +kernel)) rfl, gd (wk 1 (by decide +kernel)) rfl, by decide +kernel, by decide +kernel, by decide⟩
theorem mv_X9_tie : MokV mi_X9_tie := ⟨mk_X9_tie, gd (wk 410 (by decide +kernel)) rfl, gd (wk 411 (by decide +kernel)) rfl⟩
theorem mk_X9_untie : Mok mi_X9_untie := ⟨by decide +kernel, gd (wk 430 (by decide +kernel)) rfl, gd (wk 1 (by decide +kernel)) rfl, by decide +kernel, by decide +kernel, by decide⟩
theorem mv_X9_untie : MokV mi_X9_untie := ⟨mk_X9_untie, gd (wk 428 (by decide +kernel)) rfl, gd (wk 429 (by decide +kernel)) rfl⟩
theorem mk_X9_ofRope : Mok mi_X9_ofRope := ⟨by decide +kernel, gd (wk 438 (by decide +kernel)) rfl, gd (wk 1 (by decide +kernel)) rfl, by decide +kernel, by decide +kernel, by decide⟩
theorem mv_X9_ofRope : MokV mi_X9_ofRope := ⟨mk_X9_ofRope, gd (wk 436 (by decide +kernel)) rfl, gd (wk 437 (by decide +kernel)) rfl⟩
theorem mk_X9_as : Mok mi_X9_as := ⟨by decide +kernel, gd (wk 447 (by decide +kernel)) rfl, gd (wk 1 (by decide +kernel)) rfl, by decide +kernel, by decide +kernel, by decide⟩
theorem mv_X9_as : MokV mi_X9_as := ⟨mk_X9_as, gd (wk 445 (by decide +kernel)) rfl, gd (wk 446 (by decide +kernel)) rfl⟩
theorem mk_X9_set : Mok mi_X9_set := ⟨by decide +kernel, gd (wk 457 (by decide +kernel)) rfl, gd (wk 1 (by decide +kernel)) rfl, by decide +kernel, by decide +kernel, by decide⟩
theorem mv_X9_set : MokV mi_X9_set := ⟨mk_X9_set, gd (wk 455 (by decide +kernel)) rfl, gd (wk 456 (by decide +kernel)) rfl⟩
theorem mk_X9_swap : Mok mi_X9_swap := ⟨by decide +kernel, gd (wk 463 (by decide +kernel)) rfl, gd (wk 1 (by decide +kernel)) rfl, by decide +kernel, by decide +kernel, by decide⟩
theorem mv_X9_swap : MokV mi_X9_swap := ⟨mk_X9_swap, gd (wk 461 (by decide +kernel)) rfl, gd (wk 462 (by decide +kernel)) rfl⟩
theorem mk_X9_hold : Mok mi_X9_hold := ⟨by decide +kernel, gd (wk 471 (by decide +kernel)) rfl, gd (wk 1 (by decide +kernel)) rfl, by decide +kernel, by decide +kernel, by decide⟩
theorem mv_X9_hold : MokV mi_X9_hold := ⟨mk_X9_hold, gd (wk 469 (by decide +kernel)) rfl, gd (wk 470 (by decide +kernel)) rfl⟩
theorem mk_X9_held : Mok mi_X9_held := ⟨by decide +kernel, gd (wk 490 (by decide +kernel)) rfl, gd (wk 1 (by decide +kernel)) rfl, by decide +kernel, by decide +kernel, by decide⟩
theorem mv_X9_held : MokV mi_X9_held := ⟨mk_X9_held, gd (wk 488 (by decide +kernel)) rfl, gd (wk 489 (by decide +kernel)) rfl⟩
theorem mk_X9_cost : Mok mi_X9_cost := ⟨by decide +kernel, gd (wk 507 (by decide +kernel)) rfl, gd (wk 1 (by decide +kernel)) rfl, by decide +kernel, by decide +kernel, by decide⟩
theorem mv_X9_cost : MokV mi_X9_cost := ⟨mk_X9_cost, gd (wk 505 (by decide +kernel)) rfl, gd (wk 506 (by decide +kernel)) rfl⟩
theorem mk_X9_haul : Mok mi_X9_haul := ⟨by decide +kernel, gd (wk 515 (by decide +kernel)) rfl, gd (wk 1 (by decide +kernel)) rfl, by decide +kernel, by decide +kernel, by decide⟩
theorem mv_X9_haul : MokV mi_X9_haul := ⟨mk_X9_haul, gd (wk 513 (by decide +kernel)) rfl, gd (wk 514 (by decide +kernel)) rfl⟩
theorem mk_X9_feed : Mok mi_X9_feed := ⟨by decide +kernel, gd (wk 544 (by decide +kernel)) rfl, gd (wk 1 (by decide +kernel)) rfl, by decide +kernel, by decide +kernel, by decide⟩
theorem mv_X9_feed : MokV mi_X9_feed := ⟨mk_X9_feed, gd (wk 542 (by decide +kernel)) rfl, gd (wk 543 (by decide +kernel)) rfl⟩
theorem mk_X9_text : Mok mi_X9_text := ⟨by decide +kernel, gd (wk 548 (by decide +kernel)) rfl, gd (wk 1 (by decide +kernel)) rfl, by decide +kernel, by decide +kernel, by decide⟩
theorem mv_X9_text : MokV mi_X9_text := ⟨mk_X9_text, gd (wk 546 (by decide +kernel)) rfl, gd (wk 547 (by decide +kernel)) rfl⟩
theorem mk_X9_law : Mok mi_X9_law := ⟨by decide +kernel, gd (wk 681 (by decide +kernel)) rfl, gd (wk 1 (by decide +kernel)) rfl, by decide +kernel, by decide +kernel, by decide⟩
theorem mv_X9_law : MokV mi_X9_law := ⟨mk_X9_law, gd (wk 679 (by decide +kernel)) rfl, gd (wk 680 (by decide +kernel)) rfl⟩
theorem mk_X9_join : Mok mi_X9_join := ⟨by decide +kernel, gd (wk 685 (by decide +kernel)) rfl, gd (wk 1 (by decide +kernel)) rfl, by decide +kernel, by decide +kernel, by decide⟩
theorem mv_X9_join : MokV mi_X9_join := ⟨mk_X9_join, gd (wk 683 (by decide +kernel)) rfl, gd (wk 684 (by decide +kernel)) rfl⟩
theorem mk_X9_clear : Mok mi_X9_clear := ⟨by decide +kernel, gd (wk 693 (by decide +kernel)) rfl, gd (wk 1 (by decide +kernel)) rfl, by decide +kernel, by decide +kernel, by decide⟩
theorem mv_X9_clear : MokV mi_X9_clear := ⟨mk_X9_clear, gd (wk 691 (by decide +kernel)) rfl, gd (wk 692 (by decide +kernel)) rfl⟩
theorem mk_X9_when : Mok mi_X9_when := ⟨by decide +kernel, gd (wk 697 (by decide +kernel)) rfl, gd (wk 1 (by decide +kernel)) rfl, by decide +kernel, by decide +kernel, by decide⟩
theorem mv_X9_when : MokV mi_X9_when := ⟨mk_X9_when, gd (wk 695 (by decide +kernel)) rfl, gd (wk 696 (by decide +kernel)) rfl⟩
theorem mk_X9_risk : Mok mi_X9_risk := ⟨by decide +kernel, gd (wk 730 (by decide +kernel)) rfl, gd (wk 1 (by decide +kernel)) rfl, by decide +kernel, by decide +kernel, by decide⟩
theorem mv_X9_risk : MokV mi_X9_risk := ⟨mk_X9_risk, gd (wk 728 (by decide +kernel)) rfl, gd (wk 729 (by decide +kernel)) rfl⟩
theorem mk_X9_over : Mok mi_X9_over := ⟨by decide +kernel, gd (wk 747 (by decide +kernel)) rfl, gd (wk 1 (by decide +kernel)) rfl, by decide +kernel, by decide +kernel, by decide⟩
theorem mv_X9_over : MokV mi_X9_over := ⟨mk_X9_over, gd (wk 745 (by decide +kernel)) rfl, gd (wk 746 (by decide +kernel)) rfl⟩
theorem mk_X9_toll : Mok mi_X9_toll := ⟨by decide +kernel, gd (wk 751 (by decide +kernel)) rfl, gd (wk 1 (by decide +kernel)) rfl, by decide +kernel, by decide +kernel, by decide⟩
theorem mv_X9_toll : MokV mi_X9_toll := ⟨mk_X9_toll, gd (wk 749 (by decide +kernel)) rfl, gd (wk 750 (by decide +kernel)) rfl⟩
theorem mk_X9_order : Mok mi_X9_order := ⟨by decide +kernel, gd (wk 768 (by decide +kernel)) rfl, gd (wk 1 (by decide +kernel)) rfl, by decide +kernel, by decide +kernel, by decide⟩
theorem mv_X9_order : MokV mi_X9_order := ⟨mk_X9_order, gd (wk 766 (by decide +kernel)) rfl, gd (wk 767 (by decide +kernel)) rfl⟩
theorem mk_X9_space : Mok mi_X9_space := ⟨by decide +kernel, gd (wk 807 (by decide +kernel)) rfl, gd (wk 1 (by decide +kernel)) rfl, by decide +kernel, by decide +kernel, by decide⟩
theorem mv_X9_space : MokV mi_X9_space := ⟨mk_X9_space, gd (wk 805 (by decide +kernel)) rfl, gd (wk 806 (by decide +kernel)) rfl⟩
theorem mk_X9_line : Mok mi_X9_line := ⟨by decide +kernel, gd (wk 820 (by decide +kernel)) rfl, gd (wk 1 (by decide +kernel)) rfl, by decide +kernel, by decide +kernel, by decide⟩
theorem mv_X9_line : MokV mi_X9_line := ⟨mk_X9_line, gd (wk 818 (by decide +kernel)) rfl, gd (wk 819 (by decide +kernel)) rfl⟩
theorem mk_X9_parts : Mok mi_X9_parts := ⟨by decide +kernel, gd (wk 828 (by decide +kernel)) rfl, gd (wk 1 (by decide +kernel)) rfl, by decide +kernel, by decide +kernel, by decide⟩
theorem mv_X9_parts : MokV mi_X9_parts := ⟨mk_X9_parts, gd (wk 826 (by decide +kernel)) rfl, gd (wk 827 (by decide +kernel)) rfl⟩
theorem mk_X9_latest : Mok mi_X9_latest := ⟨by decide +kernel, gd (wk 852 (by decide +kernel)) rfl, gd (wk 1 (by decide +kernel)) rfl, by decide +kernel, by decide +kernel, by decide⟩
theorem mv_X9_latest : MokV mi_X9_latest := ⟨mk_X9_latest, gd (wk 850 (by decide +kernel)) rfl, gd (wk 851 (by decide +kernel)) rfl⟩
theorem mk_X9_best : Mok mi_X9_best := ⟨by decide +kernel, gd (wk 857 (by decide +kernel)) rfl, gd (wk 1 (by decide +kernel)) rfl, by decide +kernel, by decide +kernel, by decide⟩
theorem mv_X9_best : MokV mi_X9_best := ⟨mk_X9_best, gd (wk 855 (by decide +kernel)) rfl, gd (wk 856 (by decide +kernel)) rfl⟩
theorem mk_X9_left : Mok mi_X9_left := ⟨by decide +kernel, gd (wk 870 (by decide +kernel)) rfl, gd (wk 1 (by decide +kernel)) rfl, by decide +kernel, by decide +kernel, by decide⟩
theorem mv_X9_left : MokV mi_X9_left := ⟨mk_X9_left, gd (wk 868 (by decide +kernel)) rfl, gd (wk 869 (by decide +kernel)) rfl⟩
theorem mk_X9_lead : Mok mi_X9_lead := ⟨by decide +kernel, gd (wk 883 (by decide +kernel)) rfl, gd (wk 1 (by decide +kernel)) rfl, by decide +kernel, by decide +kernel, by decide⟩
theorem mv_X9_lead : MokV mi_X9_lead := ⟨mk_X9_lead, gd (wk 881 (by decide +kernel)) rfl, gd (wk 882 (by decide +kernel)) rfl⟩
theorem mk_X9_take : Mok mi_X9_take := ⟨by decide +kernel, gd (wk 893 (by decide +kernel)) rfl, gd (wk 1 (by decide +kernel)) rfl, by decide +kernel, by decide +kernel, by decide⟩
theorem mv_X9_take : MokV mi_X9_take := ⟨mk_X9_take, gd (wk 891 (by decide +kernel)) rfl, gd (wk 892 (by decide +kernel)) rfl⟩
theorem mk_X9_morning : Mok mi_X9_morning := ⟨by decide +kernel, gd (wk 897 (by decide +kernel)) rfl, gd (wk 1 (by decide +kernel)) rfl, by decide +kernel, by decide +kernel, by decide⟩
theorem mv_X9_morning : MokV mi_X9_morning := ⟨mk_X9_morning, gd (wk 895 (by decide +kernel)) rfl, gd (wk 896 (by decide +kernel)) rfl⟩
theorem mk_X9_mornings : Mok mi_X9_mornings := ⟨by decide +kernel, gd (wk 915 (by decide +kernel)) rfl, gd (wk 1 (by decide +kernel)) rfl, by decide +kernel, by decide +kernel, by decide⟩
theorem mv_X9_mornings : MokV mi_X9_mornings := ⟨mk_X9_mornings, gd (wk 913 (by decide +kernel)) rfl, gd (wk 914 (by decide +kernel)) rfl⟩
theorem mk_X9_seed : Mok mi_X9_seed := ⟨by decide +kernel, gd (wk 920 (by decide +kernel)) rfl, gd (wk 1 (by decide +kernel)) rfl, by decide +kernel, by decide +kernel, by decide⟩
theorem mv_X9_seed : MokV mi_X9_seed := ⟨mk_X9_seed, gd (wk 918 (by decide +kernel)) rfl, gd (wk 919 (by decide +kernel)) rfl⟩
theorem mk_X9_voice : Mok mi_X9_voice := ⟨by decide +kernel, gd (wk 924 (by decide +kernel)) rfl, gd (wk 1 (by decide +kernel)) rfl, by decide +kernel, by decide +kernel, by decide⟩
theorem mv_X9_voice : MokV mi_X9_voice := ⟨mk_X9_voice, gd (wk 922 (by decide +kernel)) rfl, gd (wk 923 (by decide +kernel)) rfl⟩
theorem mk_X9_trace : Mok mi_X9_trace := ⟨by decide +kernel, gd (wk 948 (by decide +kernel)) rfl, gd (wk 1 (by decide +kernel)) rfl, by decide +kernel, by decide +kernel, by decide⟩
theorem mv_X9_trace : MokV mi_X9_trace := ⟨mk_X9_trace, gd (wk 946 (by decide +kernel)) rfl, gd (wk 947 (by decide +kernel)) rfl⟩
theorem mk_X9_sheet : Mok mi_X9_sheet := ⟨by decide +kernel, gd (wk 952 (by decide +kernel)) rfl, gd (wk 1 (by decide +kernel)) rfl, by decide +kernel, by decide +kernel, by decide⟩
theorem mv_X9_sheet : MokV mi_X9_sheet := ⟨mk_X9_sheet, gd (wk 950 (by decide +kernel)) rfl, gd (wk 951 (by decide +kernel)) rfl⟩
theorem mk_X9_put : Mok mi_X9_put := ⟨by decide +kernel, gd (wk 965 (by decide +kernel)) rfl, gd (wk 1 (by decide +kernel)) rfl, by decide +kernel, by decide +kernel, by decide⟩
theorem mv_X9_put : MokV mi_X9_put := ⟨mk_X9_put, gd (wk 963 (by decide +kernel)) rfl, gd (wk 964 (by decide +kernel)) rfl⟩
theorem mk_X9_move : Mok mi_X9_move := ⟨by decide +kernel, gd (wk 977 (by decide +kernel)) rfl, gd (wk 1 (by decide +kernel)) rfl, by decide +kernel, by decide +kernel, by decide⟩
theorem mv_X9_move : MokV mi_X9_move := ⟨mk_X9_move, gd (wk 975 (by decide +kernel)) rfl, gd (wk 976 (by decide +kernel)) rfl⟩
theorem mk_X9_image : Mok mi_X9_image := ⟨by decide +kernel, gd (wk 987 (by decide +kernel)) rfl, gd (wk 1 (by decide +kernel)) rfl, by decide +kernel, by decide +kernel, by decide⟩
theorem mv_X9_image : MokV mi_X9_image := ⟨mk_X9_image, gd (wk 985 (by decide +kernel)) rfl, gd (wk 986 (by decide +kernel)) rfl⟩
theorem mk_X9_restore : Mok mi_X9_restore := ⟨by decide +kernel, gd (wk 992 (by decide +kernel)) rfl, gd (wk 1 (by decide +kernel)) rfl, by decide +kernel, by decide +kernel, by decide⟩
theorem mv_X9_restore : MokV mi_X9_restore := ⟨mk_X9_restore, gd (wk 990 (by decide +kernel)) rfl, gd (wk 991 (by decide +kernel)) rfl⟩
theorem mk_X9_tell : Mok mi_X9_tell := ⟨by decide +kernel, gd (wk 996 (by decide +kernel)) rfl, gd (wk 1 (by decide +kernel)) rfl, by decide +kernel, by decide +kernel, by decide⟩
theorem mv_X9_tell : MokV mi_X9_tell := ⟨mk_X9_tell, gd (wk 994 (by decide +kernel)) rfl, gd (wk 995 (by decide +kernel)) rfl⟩
theorem mk_X9_check : Mok mi_X9_check := ⟨by decide +kernel, gd (wk 1000 (by decide +kernel)) rfl, gd (wk 1 (by decide +kernel)) rfl, by decide +kernel, by decide +kernel, by decide⟩
theorem mv_X9_check : MokV mi_X9_check := ⟨mk_X9_check, gd (wk 998 (by decide +kernel)) rfl, gd (wk 999 (by decide +kernel)) rfl⟩
theorem mk_X9_count : Mok mi_X9_count := ⟨by decide +kernel, gd (wk 1008 (by decide +kernel)) rfl, gd (wk 1 (by decide +kernel)) rfl, by decide +kernel, by decide +kernel, by decide⟩
theorem mv_X9_count : MokV mi_X9_count := ⟨mk_X9_count, gd (wk 1006 (by decide +kernel)) rfl, gd (wk 1007 (by decide +kernel)) rfl⟩
theorem mk_X9_told : Mok mi_X9_told := ⟨by decide +kernel, gd (wk 1012 (by decide +kernel)) rfl, gd (wk 1 (by decide +kernel)) rfl, by decide +kernel, by decide +kernel, by decide⟩
theorem mv_X9_told : MokV mi_X9_told := ⟨mk_X9_told, gd (wk 1010 (by decide +kernel)) rfl, gd (wk 1011 (by decide +kernel)) rfl⟩
theorem mk_X9_fail : Mok mi_X9_fail := ⟨by decide +kernel, gd (wk 319 (by decide +kernel)) rfl, gd (wk 1 (by decide +kernel)) rfl, by decide +kernel, by decide +kernel, by decide⟩
theorem mv_X9_fail : MokV mi_X9_fail := ⟨mk_X9_fail, gd (wk 318 (by decide +kernel)) rfl, gd (List.mem_append_left _ (List.mem_of_getElem? (i := 1) (by decide +kernel))) rfl⟩
theorem mk_X9_newFour : Mok mi_X9_newFour := ⟨by decide +kernel, gd (wk 306 (by decide +kernel)) rfl, gd (wk 1 (by decide +kernel)) rfl, by decide +kernel, by decide +kernel, by decide⟩
theorem mv_X9_newFour : MokV mi_X9_newFour := ⟨mk_X9_newFour, gd (wk 305 (by decide +kernel)) rfl, gd (List.mem_append_left _ (List.mem_of_getElem? (i := 0) (by decide +kernel))) rfl⟩
theorem mk_X9_errorOnRope : Mok mi_X9_errorOnRope := ⟨by decide +kernel, gd (wk 494 (by decide +kernel)) rfl, gd (wk 1 (by decide +kernel)) rfl, by decide +kernel, by decide +kernel, by decide⟩
theorem mv_X9_errorOnRope : MokV mi_X9_errorOnRope := ⟨mk_X9_errorOnRope, gd (wk 493 (by decide +kernel)) rfl, gd (List.mem_append_left _ (List.mem_of_getElem? (i := 4) (by decide +kernel))) rfl⟩
theorem mk_X9_sheetOf : Mok mi_X9_sheetOf := ⟨by decide +kernel, gd (wk 376 (by decide +kernel)) rfl, gd (wk 1 (by decide +kernel)) rfl, by decide +kernel, by decide +kernel, by decide⟩
theorem mv_X9_sheetOf : MokV mi_X9_sheetOf := ⟨mk_X9_sheetOf, gd (wk 375 (by decide +kernel)) rfl, gd (List.mem_append_left _ (List.mem_of_getElem? (i := 2) (by decide +kernel))) rfl⟩
theorem mk_X9_isMinute : Mok mi_X9_isMinute := ⟨by decide +kernel, gd (wk 404 (by decide +kernel)) rfl, gd (wk 1 (by decide +kernel)) rfl, by decide +kernel, by decide +kernel, by decide⟩
theorem ms_X9_isMinute : MokS mi_X9_isMinute := ⟨mk_X9_isMinute, gd (wk 403 (by decide +kernel)) rfl⟩
theorem mk_X9_isUse : Mok mi_X9_isUse := ⟨by decide +kernel, gd (wk 551 (by decide +kernel)) rfl, gd (wk 1 (by decide +kernel)) rfl, by decide +kernel, by decide +kernel, by decide⟩
theorem ms_X9_isUse : MokS mi_X9_isUse := ⟨mk_X9_isUse, gd (wk 550 (by decide +kernel)) rfl⟩
theorem mk_X9_isUnder : Mok mi_X9_isUnder := ⟨by decide +kernel, gd (wk 450 (by decide +kernel)) rfl, gd (wk 1 (by decide +kernel)) rfl, by decide +kernel, by decide +kernel, by decide⟩
theorem ms_X9_isUnder : MokS mi_X9_isUnder := ⟨mk_X9_isUnder, gd (wk 449 (by decide +kernel)) rfl⟩
theorem mk_X9_placeOfWrong : Mok mi_X9_placeOfWrong := ⟨by decide +kernel, gd (wk 1004 (by decide +kernel)) rfl, gd (wk 1 (by decide +kernel)) rfl, by decide +kernel, by decide +kernel, by decide⟩
theorem mv_X9_placeOfWrong : MokV mi_X9_placeOfWrong := ⟨mk_X9_placeOfWrong, gd (wk 1003 (by decide +kernel)) rfl, gd (List.mem_append_left _ (List.mem_of_getElem? (i := 17) (by decide +kernel))) rfl⟩
theorem mk_X9_runMorning : Mok mi_X9_runMorning := ⟨by decide +kernel, gd (wk 901 (by decide +kernel)) rfl, gd (wk 1 (by decide +kernel)) rfl, by decide +kernel, by decide +kernel, by decide⟩
theorem mv_X9_runMorning : MokV mi_X9_runMorning := ⟨mk_X9_runMorning, gd (wk 900 (by decide +kernel)) rfl, gd (List.mem_append_left _ (List.mem_of_getElem? (i := 14) (by decide +kernel))) rfl⟩
theorem mk_X9_lostOn : Mok mi_X9_lostOn := ⟨by decide +kernel, gd (wk 905 (by decide +kernel)) rfl, gd (wk 1 (by decide +kernel)) rfl, by decide +kernel, by decide +kernel, by decide⟩
theorem mv_X9_lostOn : MokV mi_X9_lostOn := ⟨mk_X9_lostOn, gd (wk 904 (by decide +kernel)) rfl, gd (List.mem_append_left _ (List.mem_of_getElem? (i := 15) (by decide +kernel))) rfl⟩
theorem mk_X10_init : Mok mi_X10_init := ⟨by decide +kernel, gd (wk 1017 (by decide +kernel)) rfl, gd (wk 12 (by decide +kernel)) rfl, by decide +kernel, by decide +kernel, by decide⟩
theorem mn_X10_init : MokI mi_X10_init := ⟨mk_X10_init, gd (wk 1016 (by decide +kernel)) rfl, rfl, rfl⟩
theorem mk_X10_finding : Mok mi_X10_finding := ⟨by decide +kernel, gd (wk 1122 (by decide +kernel)) rfl, gd (wk 12 (by decide +kernel)) rfl, by decide +kernel, by decide +kernel, by decide⟩
theorem mv_X10_finding : MokV mi_X10_finding := ⟨mk_X10_finding, gd (wk 1121 (by decide +kernel)) rfl, gd (List.mem_append_left _ (List.mem_of_getElem? (i := 18) (by decide +kernel))) rfl⟩
theorem mk_X10_within : Mok mi_X10_within := ⟨by decide +kernel, gd (wk 1117 (by decide +kernel)) rfl, gd (wk 12 (by decide +kernel)) rfl, by decide +kernel, by decide +kernel, by decide⟩
theorem ms_X10_within : MokS mi_X10_within := ⟨mk_X10_within, gd (wk 1116 (by decide +kernel)) rfl⟩
theorem mk_X10_is : Mok mi_X10_is := ⟨by decide +kernel, gd (wk 1136 (by decide +kernel)) rfl, gd (wk 12 (by decide +kernel)) rfl, by decide +kernel, by decide +kernel, by decide⟩
theorem mv_X10_is : MokV mi_X10_is := ⟨mk_X10_is, gd (wk 1135 (by decide +kernel)) rfl, gd (List.mem_append_left _ (List.mem_of_getElem? (i := 20) (by decide +kernel))) rfl⟩
theorem mk_X10_has : Mok mi_X10_has := ⟨by decide +kernel, gd (wk 1251 (by decide +kernel)) rfl, gd (wk 12 (by decide +kernel)) rfl, by decide +kernel, by decide +kernel, by decide⟩
theorem ms_X10_has : MokS mi_X10_has := ⟨mk_X10_has, gd (wk 1250 (by decide +kernel)) rfl⟩
theorem mk_X10_copy : Mok mi_X10_copy := ⟨by decide +kernel, gd (wk 1426 (by decide +kernel)) rfl, gd (wk 12 (by decide +kernel)) rfl, by decide +kernel, by decide +kernel, by decide⟩
theorem ms_X10_copy : MokS mi_X10_copy := ⟨mk_X10_copy, gd (wk 1425 (by decide +kernel)) rfl⟩
theorem mk_X10_become : Mok mi_X10_become := ⟨by decide +kernel, gd (wk 1188 (by decide +kernel)) rfl, gd (wk 12 (by decide +kernel)) rfl, by decide +kernel, by decide +kernel, by decide⟩
theorem mv_X10_become : MokV mi_X10_become := ⟨mk_X10_become, gd (wk 1187 (by decide +kernel)) rfl, gd (List.mem_append_left _ (List.mem_of_getElem? (i := 28) (by decide +kernel))) rfl⟩
theorem mk_X10_back : Mok mi_X10_back := ⟨by decide +kernel, gd (wk 1447 (by decide +kernel)) rfl, gd (wk 12 (by decide +kernel)) rfl, by decide +kernel, by decide +kernel, by decide⟩
theorem mv_X10_back : MokV mi_X10_back := ⟨mk_X10_back, gd (wk 1446 (by decide +kernel)) rfl, gd (List.mem_append_left _ (List.mem_of_getElem? (i := 58) (by decide +kernel))) rfl⟩
theorem mk_X10_of : Mok mi_X10_of := ⟨by decide +kernel, gd (wk 1140 (by decide +kernel)) rfl, gd (wk 12 (by decide +kernel)) rfl, by decide +kernel, by decide +kernel, by decide⟩
theorem mv_X10_of : MokV mi_X10_of := ⟨mk_X10_of, gd (wk 1139 (by decide +kernel)) rfl, gd (List.mem_append_left _ (List.mem_of_getElem? (i := 21) (by decide +kernel))) rfl⟩
theorem mk_X10_isAsTold : Mok mi_X10_isAsTold := ⟨by decide +kernel, gd (wk 1114 (by decide +kernel)) rfl, gd (wk 12 (by decide +kernel)) rfl, by decide +kernel, by decide +kernel, by decide⟩
theorem ms_X10_isAsTold : MokS mi_X10_isAsTold := ⟨mk_X10_isAsTold, gd (wk 1113 (by decide +kernel)) rfl⟩
theorem mk_X10_comes : Mok mi_X10_comes := ⟨by decide +kernel, gd (wk 1128 (by decide +kernel)) rfl, gd (wk 12 (by decide +kernel)) rfl, by decide +kernel, by decide +kernel, by decide⟩
theorem mv_X10_comes : MokV mi_X10_comes := ⟨mk_X10_comes, gd (wk 1127 (by decide +kernel)) rfl, gd (List.mem_append_left _ (List.mem_of_getElem? (i := 19) (by decide +kernel))) rfl⟩
theorem mk_X10_person : Mok mi_X10_person := ⟨by decide +kernel, gd (wk 1111 (by decide +kernel)) rfl, gd (wk 12 (by decide +kernel)) rfl, by decide +kernel, by decide +kernel, by decide⟩
theorem mv_X10_person : MokV mi_X10_person := ⟨mk_X10_person, gd (wk 1109 (by decide +kernel)) rfl, gd (wk 1110 (by decide +kernel)) rfl⟩
theorem mk_X10_ofPerson : Mok mi_X10_ofPerson := ⟨by decide +kernel, gd (wk 1132 (by decide +kernel)) rfl, gd (wk 12 (by decide +kernel)) rfl, by decide +kernel, by decide +kernel, by decide⟩
theorem mv_X10_ofPerson : MokV mi_X10_ofPerson := ⟨mk_X10_ofPerson, gd (wk 1130 (by decide +kernel)) rfl, gd (wk 1131 (by decide +kernel)) rfl⟩
theorem mk_X10_people : Mok mi_X10_people := ⟨by decide +kernel, gd (wk 1164 (by decide +kernel)) rfl, gd (wk 12 (by decide +kernel)) rfl, by decide +kernel, by decide +kernel, by decide⟩
theorem mv_X10_people : MokV mi_X10_people := ⟨mk_X10_people, gd (wk 1162 (by decide +kernel)) rfl, gd (wk 1163 (by decide +kernel)) rfl⟩
theorem mk_X10_ofPieceAt : Mok mi_X10_ofPieceAt := ⟨by decide +kernel, gd (wk 1180 (by decide +kernel)) rfl, gd (wk 12 (by decide +kernel)) rfl, by decide +kernel, by decide +kernel, by decide⟩
theorem mv_X10_ofPieceAt : MokV mi_X10_ofPieceAt := ⟨mk_X10_ofPieceAt, gd (wk 1179 (by decide +kernel)) rfl, gd (List.mem_append_left _ (List.mem_of_getElem? (i := 27) (by decide +kernel))) rfl⟩
theorem mk_X10_piece : Mok mi_X10_piece := ⟨by decide +kernel, gd (wk 1172 (by decide +kernel)) rfl, gd (wk 12 (by decide +kernel)) rfl, by decide +kernel, by decide +kernel, by decide⟩
theorem mv_X10_piece : MokV mi_X10_piece := ⟨mk_X10_piece, gd (wk 1170 (by decide +kernel)) rfl, gd (wk 1171 (by decide +kernel)) rfl⟩
theorem mk_X10_ofPiece : Mok mi_X10_ofPiece := ⟨by decide +kernel, gd (wk 1176 (by decide +kernel)) rfl, gd (wk 12 (by decide +kernel)) rfl, by decide +kernel, by decide +kernel, by decide⟩
theorem mv_X10_ofPiece : MokV mi_X10_ofPiece := ⟨mk_X10_ofPiece, gd (wk 1174 (by decide +kernel)) rfl, gd (wk 1175 (by decide +kernel)) rfl⟩
theorem mk_X10_start : Mok mi_X10_start := ⟨by decide +kernel, gd (wk 1184 (by decide +kernel)) rfl, gd (wk 12 (by decide +kernel)) rfl, by decide +kernel, by decide +kernel, by decide⟩
theorem mv_X10_start : MokV mi_X10_start := ⟨mk_X10_start, gd (wk 1182 (by decide +kernel)) rfl, gd (wk 1183 (by decide +kernel)) rfl⟩
theorem mk_X10_rope : Mok mi_X10_rope := ⟨by decide +kernel, gd (wk 1152 (by decide +kernel)) rfl, gd (wk 12 (by decide +kernel)) rfl, by decide +kernel, by decide +kernel, by decide⟩
theorem mv_X10_rope : MokV mi_X10_rope := ⟨mk_X10_rope, gd (wk 1151 (by decide +kernel)) rfl, gd (List.mem_append_left _ (List.mem_of_getElem? (i := 24) (by decide +kernel))) rfl⟩
theorem mk_X10_many : Mok mi_X10_many := ⟨by decide +kernel, gd (wk 1148 (by decide +kernel)) rfl, gd (wk 12 (by decide +kernel)) rfl, by decide +kernel, by decide +kernel, by decide⟩
theorem mv_X10_many : MokV mi_X10_many := ⟨mk_X10_many, gd (wk 1147 (by decide +kernel)) rfl, gd (List.mem_append_left _ (List.mem_of_getElem? (i := 23) (by decide +kernel))) rfl⟩
theorem mk_X10_who : Mok mi_X10_who := ⟨by decide +kernel, gd (wk 1156 (by decide +kernel)) rfl, gd (wk 12 (by decide +kernel)) rfl, by decide +kernel, by decide +kernel, by decide⟩
theorem mv_X10_who : MokV mi_X10_who := ⟨mk_X10_who, gd (wk 1155 (by decide +kernel)) rfl, gd (List.mem_append_left _ (List.mem_of_getElem? (i := 25) (by decide +kernel))) rfl⟩
theorem mk_X10_seats : Mok mi_X10_seats := ⟨by decide +kernel, gd (wk 1208 (by decide +kernel)) rfl, gd (wk 12 (by decide +kernel)) rfl, by decide +kernel, by decide +kernel, by decide⟩
theorem mv_X10_seats : MokV mi_X10_seats := ⟨mk_X10_seats, gd (wk 1207 (by decide +kernel)) rfl, gd (List.mem_append_left _ (List.mem_of_getElem? (i := 30) (by decide +kernel))) rfl⟩
theorem mk_X10_ropeOf : Mok mi_X10_ropeOf := ⟨by decide +kernel, gd (wk 1144 (by decide +kernel)) rfl, gd (wk 12 (by decide +kernel)) rfl, by decide +kernel, by decide +kernel, by decide⟩
theorem mv_X10_ropeOf : MokV mi_X10_ropeOf := ⟨mk_X10_ropeOf, gd (wk 1143 (by decide +kernel)) rfl, gd (List.mem_append_left _ (List.mem_of_getElem? (i := 22) (by decide +kernel))) rfl⟩
theorem mk_X10_placeOf : Mok mi_X10_placeOf := ⟨by decide +kernel, gd (wk 1160 (by decide +kernel)) rfl, gd (wk 12 (by decide +kernel)) rfl, by decide +kernel, by decide +kernel, by decide⟩
theorem mv_X10_placeOf : MokV mi_X10_placeOf := ⟨mk_X10_placeOf, gd (wk 1159 (by decide +kernel)) rfl, gd (List.mem_append_left _ (List.mem_of_getElem? (i := 26) (by decide +kernel))) rfl⟩
theorem mk_X10_inLine : Mok mi_X10_inLine := ⟨by decide +kernel, gd (wk 1224 (by decide +kernel)) rfl, gd (wk 12 (by decide +kernel)) rfl, by decide +kernel, by decide +kernel, by decide⟩
theorem mv_X10_inLine : MokV mi_X10_inLine := ⟨mk_X10_inLine, gd (wk 1223 (by decide +kernel)) rfl, gd (List.mem_append_left _ (List.mem_of_getElem? (i := 32) (by decide +kernel))) rfl⟩
theorem mk_X10_isSpace : Mok mi_X10_isSpace := ⟨by decide +kernel, gd (wk 1195 (by decide +kernel)) rfl, gd (wk 12 (by decide +kernel)) rfl, by decide +kernel, by decide +kernel, by decide⟩
theorem ms_X10_isSpace : MokS mi_X10_isSpace := ⟨mk_X10_isSpace, gd (wk 1194 (by decide +kernel)) rfl⟩
theorem mk_X10_rope_ : Mok mi_X10_rope_ := ⟨by decide +kernel, gd (wk 1192 (by decide +kernel)) rfl, gd (wk 12 (by decide +kernel)) rfl, by decide +kernel, by decide +kernel, by decide⟩
theorem mv_X10_rope_ : MokV mi_X10_rope_ := ⟨mk_X10_rope_, gd (wk 1190 (by decide +kernel)) rfl, gd (wk 1191 (by decide +kernel)) rfl⟩
theorem mk_X10_ties : Mok mi_X10_ties := ⟨by decide +kernel, gd (wk 1204 (by decide +kernel)) rfl, gd (wk 12 (by decide +kernel)) rfl, by decide +kernel, by decide +kernel, by decide⟩
theorem mv_X10_ties : MokV mi_X10_ties := ⟨mk_X10_ties, gd (wk 1203 (by decide +kernel)) rfl, gd (List.mem_append_left _ (List.mem_of_getElem? (i := 29) (by decide +kernel))) rfl⟩
theorem mk_X10_unties : Mok mi_X10_unties := ⟨by decide +kernel, gd (wk 1216 (by decide +kernel)) rfl, gd (wk 12 (by decide +kernel)) rfl, by decide +kernel, by decide +kernel, by decide⟩
theorem mv_X10_unties : MokV mi_X10_unties := ⟨mk_X10_unties, gd (wk 1215 (by decide +kernel)) rfl, gd (List.mem_append_left _ (List.mem_of_getElem? (i := 31) (by decide +kernel))) rfl⟩
theorem mk_X10_tie : Mok mi_X10_tie := ⟨by decide +kernel, gd (wk 1199 (by decide +kernel)) rfl, gd (wk 12 (by decide +kernel)) rfl, by decide +kernel, by decide +kernel, by decide⟩
theorem mv_X10_tie : MokV mi_X10_tie := ⟨mk_X10_tie, gd (wk 1197 (by decide +kernel)) rfl, gd (wk 1198 (by decide +kernel)) rfl⟩
theorem mk_X10_untie : Mok mi_X10_untie := ⟨by decide +kernel, gd (wk 1212 (by decide +kernel)) rfl, gd (wk 12 (by decide +kernel)) rfl, by decide +kernel, by decide +kernel, by decide⟩
theorem mv_X10_untie : MokV mi_X10_untie := ⟨mk_X10_untie, gd (wk 1210 (by decide +kernel)) rfl, gd (wk 1211 (by decide +kernel)) rfl⟩
theorem mk_X10_ofRope : Mok mi_X10_ofRope := ⟨by decide +kernel, gd (wk 1220 (by decide +kernel)) rfl, gd (wk 12 (by decide +kernel)) rfl, by decide +kernel, by decide +kernel, by decide⟩
theorem mv_X10_ofRope : MokV mi_X10_ofRope := ⟨mk_X10_ofRope, gd (wk 1218 (by decide +kernel)) rfl, gd (wk 1219 (by decide +kernel)) rfl⟩
theorem mk_X10_above : Mok mi_X10_above := ⟨by decide +kernel, gd (wk 1231 (by decide +kernel)) rfl, gd (wk 12 (by decide +kernel)) rfl, by decide +kernel, by decide +kernel, by decide⟩
theorem ms_X10_above : MokS mi_X10_above := ⟨mk_X10_above, gd (wk 1230 (by decide +kernel)) rfl⟩
theorem mk_X10_as : Mok mi_X10_as := ⟨by decide +kernel, gd (wk 1228 (by decide +kernel)) rfl, gd (wk 12 (by decide +kernel)) rfl, by decide +kernel, by decide +kernel, by decide⟩
theorem mv_X10_as : MokV mi_X10_as := ⟨mk_X10_as, gd (wk 1226 (by decide +kernel)) rfl, gd (wk 1227 (by decide +kernel)) rfl⟩
theorem mk_X10_set : Mok mi_X10_set := ⟨by decide +kernel, gd (wk 1236 (by decide +kernel)) rfl, gd (wk 12 (by decide +kernel)) rfl, by decide +kernel, by decide +kernel, by decide⟩
theorem mv_X10_set : MokV mi_X10_set := ⟨mk_X10_set, gd (wk 1234 (by decide +kernel)) rfl, gd (wk 1235 (by decide +kernel)) rfl⟩
theorem mk_X10_swap : Mok mi_X10_swap := ⟨by decide +kernel, gd (wk 1240 (by decide +kernel)) rfl, gd (wk 12 (by decide +kernel)) rfl, by decide +kernel, by decide +kernel, by decide⟩
theorem mv_X10_swap : MokV mi_X10_swap := ⟨mk_X10_swap, gd (wk 1238 (by decide +kernel)) rfl, gd (wk 1239 (by decide +kernel)) rfl⟩
theorem mk_X10_place : Mok mi_X10_place := ⟨by decide +kernel, gd (wk 1259 (by decide +kernel)) rfl, gd (wk 12 (by decide +kernel)) rfl, by decide +kernel, by decide +kernel, by decide⟩
theorem mv_X10_place : MokV mi_X10_place := ⟨mk_X10_place, gd (wk 1258 (by decide +kernel)) rfl, gd (List.mem_append_left _ (List.mem_of_getElem? (i := 35) (by decide +kernel))) rfl⟩
theorem mk_X10_gripOf : Mok mi_X10_gripOf := ⟨by decide +kernel, gd (wk 1255 (by decide +kernel)) rfl, gd (wk 12 (by decide +kernel)) rfl, by decide +kernel, by decide +kernel, by decide⟩
theorem mv_X10_gripOf : MokV mi_X10_gripOf := ⟨mk_X10_gripOf, gd (wk 1254 (by decide +kernel)) rfl, gd (List.mem_append_left _ (List.mem_of_getElem? (i := 34) (by decide +kernel))) rfl⟩
theorem mk_X10_isLast : Mok mi_X10_isLast := ⟨by decide +kernel, gd (wk 1264 (by decide +kernel)) rfl, gd (wk 12 (by decide +kernel)) rfl, by decide +kernel, by decide +kernel, by decide⟩
theorem mv_X10_isLast : MokV mi_X10_isLast := ⟨mk_X10_isLast, gd (wk 1263 (by decide +kernel)) rfl, gd (List.mem_append_left _ (List.mem_of_getElem? (i := 36) (by decide +kernel))) rfl⟩
theorem mk_X10_holdOf : Mok mi_X10_holdOf := ⟨by decide +kernel, gd (wk 1248 (by decide +kernel)) rfl, gd (wk 12 (by decide +kernel)) rfl, by decide +kernel, by decide +kernel, by decide⟩
theorem mv_X10_holdOf : MokV mi_X10_holdOf := ⟨mk_X10_holdOf, gd (wk 1247 (by decide +kernel)) rfl, gd (List.mem_append_left _ (List.mem_of_getElem? (i := 33) (by decide +kernel))) rfl⟩
theorem mk_X10_isHeld : Mok mi_X10_isHeld := ⟨by decide +kernel, gd (wk 1273 (by decide +kernel)) rfl, gd (wk 12 (by decide +kernel)) rfl, by decide +kernel, by decide +kernel, by decide⟩
theorem mv_X10_isHeld : MokV mi_X10_isHeld := ⟨mk_X10_isHeld, gd (wk 1272 (by decide +kernel)) rfl, gd (List.mem_append_left _ (List.mem_of_getElem? (i := 37) (by decide +kernel))) rfl⟩
theorem mk_X10_costOf : Mok mi_X10_costOf := ⟨by decide +kernel, gd (wk 1281 (by decide +kernel)) rfl, gd (wk 12 (by decide +kernel)) rfl, by decide +kernel, by decide +kernel, by decide⟩
theorem mv_X10_costOf : MokV mi_X10_costOf := ⟨mk_X10_costOf, gd (wk 1280 (by decide +kernel)) rfl, gd (List.mem_append_left _ (List.mem_of_getElem? (i := 38) (by decide +kernel))) rfl⟩
theorem mk_X10_hold : Mok mi_X10_hold := ⟨by decide +kernel, gd (wk 1244 (by decide +kernel)) rfl, gd (wk 12 (by decide +kernel)) rfl, by decide +kernel, by decide +kernel, by decide⟩
theorem mv_X10_hold : MokV mi_X10_hold := ⟨mk_X10_hold, gd (wk 1242 (by decide +kernel)) rfl, gd (wk 1243 (by decide +kernel)) rfl⟩
theorem mk_X10_held : Mok mi_X10_held := ⟨by decide +kernel, gd (wk 1269 (by decide +kernel)) rfl, gd (wk 12 (by decide +kernel)) rfl, by decide +kernel, by decide +kernel, by decide⟩
theorem mv_X10_held : MokV mi_X10_held := ⟨mk_X10_held, gd (wk 1267 (by decide +kernel)) rfl, gd (wk 1268 (by decide +kernel)) rfl⟩
theorem mk_X10_cost : Mok mi_X10_cost := ⟨by decide +kernel, gd (wk 1277 (by decide +kernel)) rfl, gd (wk 12 (by decide +kernel)) rfl, by decide +kernel, by decide +kernel, by decide⟩
theorem mv_X10_cost : MokV mi_X10_cost := ⟨mk_X10_cost, gd (wk 1275 (by decide +kernel)) rfl, gd (wk 1276 (by decide +kernel)) rfl⟩
theorem mk_X10_haul : Mok mi_X10_haul := ⟨by decide +kernel, gd (wk 1285 (by decide +kernel)) rfl, gd (wk 12 (by decide +kernel)) rfl, by decide +kernel, by decide +kernel, by decide⟩
theorem mv_X10_haul : MokV mi_X10_haul := ⟨mk_X10_haul, gd (wk 1283 (by decide +kernel)) rfl, gd (wk 1284 (by decide +kernel)) rfl⟩
theorem mk_X10_feed : Mok mi_X10_feed := ⟨by decide +kernel, gd (wk 1301 (by decide +kernel)) rfl, gd (wk 12 (by decide +kernel)) rfl, by decide +kernel, by decide +kernel, by decide⟩
theorem mv_X10_feed : MokV mi_X10_feed := ⟨mk_X10_feed, gd (wk 1299 (by decide +kernel)) rfl, gd (wk 1300 (by decide +kernel)) rfl⟩
theorem mk_X10_here : Mok mi_X10_here := ⟨by decide +kernel, gd (wk 1334 (by decide +kernel)) rfl, gd (wk 12 (by decide +kernel)) rfl, by decide +kernel, by decide +kernel, by decide⟩
theorem mv_X10_here : MokV mi_X10_here := ⟨mk_X10_here, gd (wk 1333 (by decide +kernel)) rfl, gd (List.mem_append_left _ (List.mem_of_getElem? (i := 47) (by decide +kernel))) rfl⟩
theorem mk_X10_takes : Mok mi_X10_takes := ⟨by decide +kernel, gd (wk 1342 (by decide +kernel)) rfl, gd (wk 12 (by decide +kernel)) rfl, by decide +kernel, by decide +kernel, by decide⟩
theorem mv_X10_takes : MokV mi_X10_takes := ⟨mk_X10_takes, gd (wk 1341 (by decide +kernel)) rfl, gd (List.mem_append_left _ (List.mem_of_getElem? (i := 49) (by decide +kernel))) rfl⟩
theorem mk_X10_codes : Mok mi_X10_codes := ⟨by decide +kernel, gd (wk 1338 (by decide +kernel)) rfl, gd (wk 12 (by decide +kernel)) rfl, by decide +kernel, by decide +kernel, by decide⟩
theorem mv_X10_codes : MokV mi_X10_codes := ⟨mk_X10_codes, gd (wk 1337 (by decide +kernel)) rfl, gd (List.mem_append_left _ (List.mem_of_getElem? (i := 48) (by decide +kernel))) rfl⟩
theorem mk_X10_either : Mok mi_X10_either := ⟨by decide +kernel, gd (wk 1310 (by decide +kernel)) rfl, gd (wk 12 (by decide +kernel)) rfl, by decide +kernel, by decide +kernel, by decide⟩
theorem mv_X10_either : MokV mi_X10_either := ⟨mk_X10_either, gd (wk 1309 (by decide +kernel)) rfl, gd (List.mem_append_left _ (List.mem_of_getElem? (i := 41) (by decide +kernel))) rfl⟩
theorem mk_X10_both : Mok mi_X10_both := ⟨by decide +kernel, gd (wk 1314 (by decide +kernel)) rfl, gd (wk 12 (by decide +kernel)) rfl, by decide +kernel, by decide +kernel, by decide⟩
theorem mv_X10_both : MokV mi_X10_both := ⟨mk_X10_both, gd (wk 1313 (by decide +kernel)) rfl, gd (List.mem_append_left _ (List.mem_of_getElem? (i := 42) (by decide +kernel))) rfl⟩
theorem mk_X10_compared : Mok mi_X10_compared := ⟨by decide +kernel, gd (wk 1318 (by decide +kernel)) rfl, gd (wk 12 (by decide +kernel)) rfl, by decide +kernel, by decide +kernel, by decide⟩
theorem mv_X10_compared : MokV mi_X10_compared := ⟨mk_X10_compared, gd (wk 1317 (by decide +kernel)) rfl, gd (List.mem_append_left _ (List.mem_of_getElem? (i := 43) (by decide +kernel))) rfl⟩
theorem mk_X10_sum : Mok mi_X10_sum := ⟨by decide +kernel, gd (wk 1322 (by decide +kernel)) rfl, gd (wk 12 (by decide +kernel)) rfl, by decide +kernel, by decide +kernel, by decide⟩
theorem mv_X10_sum : MokV mi_X10_sum := ⟨mk_X10_sum, gd (wk 1321 (by decide +kernel)) rfl, gd (List.mem_append_left _ (List.mem_of_getElem? (i := 44) (by decide +kernel))) rfl⟩
theorem mk_X10_product : Mok mi_X10_product := ⟨by decide +kernel, gd (wk 1326 (by decide +kernel)) rfl, gd (wk 12 (by decide +kernel)) rfl, by decide +kernel, by decide +kernel, by decide⟩
theorem mv_X10_product : MokV mi_X10_product := ⟨mk_X10_product, gd (wk 1325 (by decide +kernel)) rfl, gd (List.mem_append_left _ (List.mem_of_getElem? (i := 45) (by decide +kernel))) rfl⟩
theorem mk_X10_nameOf : Mok mi_X10_nameOf := ⟨by decide +kernel, gd (wk 1346 (by decide +kernel)) rfl, gd (wk 12 (by decide +kernel)) rfl, by decide +kernel, by decide +kernel, by decide⟩
theorem mv_X10_nameOf : MokV mi_X10_nameOf := ⟨mk_X10_nameOf, gd (wk 1345 (by decide +kernel)) rfl, gd (List.mem_append_left _ (List.mem_of_getElem? (i := 50) (by decide +kernel))) rfl⟩
theorem mk_X10_one : Mok mi_X10_one := ⟨by decide +kernel, gd (wk 1330 (by decide +kernel)) rfl, gd (wk 12 (by decide +kernel)) rfl, by decide +kernel, by decide +kernel, by decide⟩
theorem mv_X10_one : MokV mi_X10_one := ⟨mk_X10_one, gd (wk 1329 (by decide +kernel)) rfl, gd (List.mem_append_left _ (List.mem_of_getElem? (i := 46) (by decide +kernel))) rfl⟩
theorem mk_X10_text : Mok mi_X10_text := ⟨by decide +kernel, gd (wk 1306 (by decide +kernel)) rfl, gd (wk 12 (by decide +kernel)) rfl, by decide +kernel, by decide +kernel, by decide⟩
theorem mv_X10_text : MokV mi_X10_text := ⟨mk_X10_text, gd (wk 1304 (by decide +kernel)) rfl, gd (wk 1305 (by decide +kernel)) rfl⟩
theorem mk_X10_done : Mok mi_X10_done := ⟨by decide +kernel, gd (wk 1296 (by decide +kernel)) rfl, gd (wk 12 (by decide +kernel)) rfl, by decide +kernel, by decide +kernel, by decide⟩
theorem ms_X10_done : MokS mi_X10_done := ⟨mk_X10_done, gd (wk 1295 (by decide +kernel)) rfl⟩
theorem mk_X10_worked : Mok mi_X10_worked := ⟨by decide +kernel, gd (wk 1293 (by decide +kernel)) rfl, gd (wk 12 (by decide +kernel)) rfl, by decide +kernel, by decide +kernel, by decide⟩
theorem mv_X10_worked : MokV mi_X10_worked := ⟨mk_X10_worked, gd (wk 1292 (by decide +kernel)) rfl, gd (List.mem_append_left _ (List.mem_of_getElem? (i := 40) (by decide +kernel))) rfl⟩
theorem mk_X10_given : Mok mi_X10_given := ⟨by decide +kernel, gd (wk 1289 (by decide +kernel)) rfl, gd (wk 12 (by decide +kernel)) rfl, by decide +kernel, by decide +kernel, by decide⟩
theorem mv_X10_given : MokV mi_X10_given := ⟨mk_X10_given, gd (wk 1288 (by decide +kernel)) rfl, gd (List.mem_append_left _ (List.mem_of_getElem? (i := 39) (by decide +kernel))) rfl⟩
theorem mk_X10_law : Mok mi_X10_law := ⟨by decide +kernel, gd (wk 1371 (by decide +kernel)) rfl, gd (wk 12 (by decide +kernel)) rfl, by decide +kernel, by decide +kernel, by decide⟩
theorem mv_X10_law : MokV mi_X10_law := ⟨mk_X10_law, gd (wk 1369 (by decide +kernel)) rfl, gd (wk 1370 (by decide +kernel)) rfl⟩
theorem mk_X10_paceOf : Mok mi_X10_paceOf := ⟨by decide +kernel, gd (wk 1391 (by decide +kernel)) rfl, gd (wk 12 (by decide +kernel)) rfl, by decide +kernel, by decide +kernel, by decide⟩
theorem mv_X10_paceOf : MokV mi_X10_paceOf := ⟨mk_X10_paceOf, gd (wk 1390 (by decide +kernel)) rfl, gd (List.mem_append_left _ (List.mem_of_getElem? (i := 52) (by decide +kernel))) rfl⟩
theorem mk_X10_cross : Mok mi_X10_cross := ⟨by decide +kernel, gd (wk 1387 (by decide +kernel)) rfl, gd (wk 12 (by decide +kernel)) rfl, by decide +kernel, by decide +kernel, by decide⟩
theorem mv_X10_cross : MokV mi_X10_cross := ⟨mk_X10_cross, gd (wk 1386 (by decide +kernel)) rfl, gd (List.mem_append_left _ (List.mem_of_getElem? (i := 51) (by decide +kernel))) rfl⟩
theorem mk_X10_riskOf : Mok mi_X10_riskOf := ⟨by decide +kernel, gd (wk 1403 (by decide +kernel)) rfl, gd (wk 12 (by decide +kernel)) rfl, by decide +kernel, by decide +kernel, by decide⟩
theorem mv_X10_riskOf : MokV mi_X10_riskOf := ⟨mk_X10_riskOf, gd (wk 1402 (by decide +kernel)) rfl, gd (List.mem_append_left _ (List.mem_of_getElem? (i := 54) (by decide +kernel))) rfl⟩
theorem mk_X10_tollOf : Mok mi_X10_tollOf := ⟨by decide +kernel, gd (wk 1415 (by decide +kernel)) rfl, gd (wk 12 (by decide +kernel)) rfl, by decide +kernel, by decide +kernel, by decide⟩
theorem mv_X10_tollOf : MokV mi_X10_tollOf := ⟨mk_X10_tollOf, gd (wk 1414 (by decide +kernel)) rfl, gd (List.mem_append_left _ (List.mem_of_getElem? (i := 55) (by decide +kernel))) rfl⟩
theorem mk_X10_join : Mok mi_X10_join := ⟨by decide +kernel, gd (wk 1375 (by decide +kernel)) rfl, gd (wk 12 (by decide +kernel)) rfl, by decide +kernel, by decide +kernel, by decide⟩
theorem mv_X10_join : MokV mi_X10_join := ⟨mk_X10_join, gd (wk 1373 (by decide +kernel)) rfl, gd (wk 1374 (by decide +kernel)) rfl⟩
theorem mk_X10_clear : Mok mi_X10_clear := ⟨by decide +kernel, gd (wk 1379 (by decide +kernel)) rfl, gd (wk 12 (by decide +kernel)) rfl, by decide +kernel, by decide +kernel, by decide⟩
theorem mv_X10_clear : MokV mi_X10_clear := ⟨mk_X10_clear, gd (wk 1377 (by decide +kernel)) rfl, gd (wk 1378 (by decide +kernel)) rfl⟩
theorem mk_X10_when : Mok mi_X10_when := ⟨by decide +kernel, gd (wk 1383 (by decide +kernel)) rfl, gd (wk 12 (by decide +kernel)) rfl, by decide +kernel, by decide +kernel, by decide⟩
theorem mv_X10_when : MokV mi_X10_when := ⟨mk_X10_when, gd (wk 1381 (by decide +kernel)) rfl, gd (wk 1382 (by decide +kernel)) rfl⟩
theorem mk_X10_isInLine : Mok mi_X10_isInLine := ⟨by decide +kernel, gd (wk 1399 (by decide +kernel)) rfl, gd (wk 12 (by decide +kernel)) rfl, by decide +kernel, by decide +kernel, by decide⟩
theorem mv_X10_isInLine : MokV mi_X10_isInLine := ⟨mk_X10_isInLine, gd (wk 1398 (by decide +kernel)) rfl, gd (List.mem_append_left _ (List.mem_of_getElem? (i := 53) (by decide +kernel))) rfl⟩
theorem mk_X10_risk : Mok mi_X10_risk := ⟨by decide +kernel, gd (wk 1395 (by decide +kernel)) rfl, gd (wk 12 (by decide +kernel)) rfl, by decide +kernel, by decide +kernel, by decide⟩
theorem mv_X10_risk : MokV mi_X10_risk := ⟨mk_X10_risk, gd (wk 1393 (by decide +kernel)) rfl, gd (wk 1394 (by decide +kernel)) rfl⟩
theorem mk_X10_over : Mok mi_X10_over := ⟨by decide +kernel, gd (wk 1407 (by decide +kernel)) rfl, gd (wk 12 (by decide +kernel)) rfl, by decide +kernel, by decide +kernel, by decide⟩
theorem mv_X10_over : MokV mi_X10_over := ⟨mk_X10_over, gd (wk 1405 (by decide +kernel)) rfl, gd (wk 1406 (by decide +kernel)) rfl⟩
theorem mk_X10_toll : Mok mi_X10_toll := ⟨by decide +kernel, gd (wk 1411 (by decide +kernel)) rfl, gd (wk 12 (by decide +kernel)) rfl, by decide +kernel, by decide +kernel, by decide⟩
theorem mv_X10_toll : MokV mi_X10_toll := ⟨mk_X10_toll, gd (wk 1409 (by decide +kernel)) rfl, gd (wk 1410 (by decide +kernel)) rfl⟩
theorem mk_X10_nexts : Mok mi_X10_nexts := ⟨by decide +kernel, gd (wk 1435 (by decide +kernel)) rfl, gd (wk 12 (by decide +kernel)) rfl, by decide +kernel, by decide +kernel, by decide⟩
theorem ms_X10_nexts : MokS mi_X10_nexts := ⟨mk_X10_nexts, gd (wk 1434 (by decide +kernel)) rfl⟩
theorem mk_X10_swaps : Mok mi_X10_swaps := ⟨by decide +kernel, gd (wk 1432 (by decide +kernel)) rfl, gd (wk 12 (by decide +kernel)) rfl, by decide +kernel, by decide +kernel, by decide⟩
theorem ms_X10_swaps : MokS mi_X10_swaps := ⟨mk_X10_swaps, gd (wk 1431 (by decide +kernel)) rfl⟩
theorem mk_X10_sorts : Mok mi_X10_sorts := ⟨by decide +kernel, gd (wk 1429 (by decide +kernel)) rfl, gd (wk 12 (by decide +kernel)) rfl, by decide +kernel, by decide +kernel, by decide⟩
theorem ms_X10_sorts : MokS mi_X10_sorts := ⟨mk_X10_sorts, gd (wk 1428 (by decide +kernel)) rfl⟩
theorem mk_X10_findOrder : Mok mi_X10_findOrder := ⟨by decide +kernel, gd (wk 1423 (by decide +kernel)) rfl, gd (wk 12 (by decide +kernel)) rfl, by decide +kernel, by decide +kernel, by decide⟩
theorem mv_X10_findOrder : MokV mi_X10_findOrder := ⟨mk_X10_findOrder, gd (wk 1422 (by decide +kernel)) rfl, gd (List.mem_append_left _ (List.mem_of_getElem? (i := 56) (by decide +kernel))) rfl⟩
theorem mk_X10_order : Mok mi_X10_order := ⟨by decide +kernel, gd (wk 1419 (by decide +kernel)) rfl, gd (wk 12 (by decide +kernel)) rfl, by decide +kernel, by decide +kernel, by decide⟩
theorem mv_X10_order : MokV mi_X10_order := ⟨mk_X10_order, gd (wk 1417 (by decide +kernel)) rfl, gd (wk 1418 (by decide +kernel)) rfl⟩
theorem mk_X10_spaceOf : Mok mi_X10_spaceOf := ⟨by decide +kernel, gd (wk 1443 (by decide +kernel)) rfl, gd (wk 12 (by decide +kernel)) rfl, by decide +kernel, by decide +kernel, by decide⟩
theorem mv_X10_spaceOf : MokV mi_X10_spaceOf := ⟨mk_X10_spaceOf, gd (wk 1442 (by decide +kernel)) rfl, gd (List.mem_append_left _ (List.mem_of_getElem? (i := 57) (by decide +kernel))) rfl⟩
theorem mk_X10_space : Mok mi_X10_space := ⟨by decide +kernel, gd (wk 1439 (by decide +kernel)) rfl, gd (wk 12 (by decide +kernel)) rfl, by decide +kernel, by decide +kernel, by decide⟩
theorem mv_X10_space : MokV mi_X10_space := ⟨mk_X10_space, gd (wk 1437 (by decide +kernel)) rfl, gd (wk 1438 (by decide +kernel)) rfl⟩
theorem mk_X10_findLine : Mok mi_X10_findLine := ⟨by decide +kernel, gd (wk 1455 (by decide +kernel)) rfl, gd (wk 12 (by decide +kernel)) rfl, by decide +kernel, by decide +kernel, by decide⟩
theorem mv_X10_findLine : MokV mi_X10_findLine := ⟨mk_X10_findLine, gd (wk 1454 (by decide +kernel)) rfl, gd (List.mem_append_left _ (List.mem_of_getElem? (i := 59) (by decide +kernel))) rfl⟩
theorem mk_X10_line : Mok mi_X10_line := ⟨by decide +kernel, gd (wk 1451 (by decide +kernel)) rfl, gd (wk 12 (by decide +kernel)) rfl, by decide +kernel, by decide +kernel, by decide⟩
theorem mv_X10_line : MokV mi_X10_line := ⟨mk_X10_line, gd (wk 1449 (by decide +kernel)) rfl, gd (wk 1450 (by decide +kernel)) rfl⟩
theorem mk_X10_parts : Mok mi_X10_parts := ⟨by decide +kernel, gd (wk 1459 (by decide +kernel)) rfl, gd (wk 12 (by decide +kernel)) rfl, by decide +kernel, by decide +kernel, by decide⟩
theorem mv_X10_parts : MokV mi_X10_parts := ⟨mk_X10_parts, gd (wk 1457 (by decide +kernel)) rfl, gd (wk 1458 (by decide +kernel)) rfl⟩
theorem mk_X10_parted : Mok mi_X10_parted := ⟨by decide +kernel, gd (wk 1463 (by decide +kernel)) rfl, gd (wk 12 (by decide +kernel)) rfl, by decide +kernel, by decide +kernel, by decide⟩
theorem mv_X10_parted : MokV mi_X10_parted := ⟨mk_X10_parted, gd (wk 1462 (by decide +kernel)) rfl, gd (List.mem_append_left _ (List.mem_of_getElem? (i := 60) (by decide +kernel))) rfl⟩
theorem mk_X10_latest : Mok mi_X10_latest := ⟨by decide +kernel, gd (wk 1467 (by decide +kernel)) rfl, gd (wk 12 (by decide +kernel)) rfl, by decide +kernel, by decide +kernel, by decide⟩
theorem mv_X10_latest : MokV mi_X10_latest := ⟨mk_X10_latest, gd (wk 1465 (by decide +kernel)) rfl, gd (wk 1466 (by decide +kernel)) rfl⟩
theorem mk_X10_best : Mok mi_X10_best := ⟨by decide +kernel, gd (wk 1471 (by decide +kernel)) rfl, gd (wk 12 (by decide +kernel)) rfl, by decide +kernel, by decide +kernel, by decide⟩
theorem mv_X10_best : MokV mi_X10_best := ⟨mk_X10_best, gd (wk 1469 (by decide +kernel)) rfl, gd (wk 1470 (by decide +kernel)) rfl⟩
theorem mk_X10_left : Mok mi_X10_left := ⟨by decide +kernel, gd (wk 1475 (by decide +kernel)) rfl, gd (wk 12 (by decide +kernel)) rfl, by decide +kernel, by decide +kernel, by decide⟩
theorem mv_X10_left : MokV mi_X10_left := ⟨mk_X10_left, gd (wk 1473 (by decide +kernel)) rfl, gd (wk 1474 (by decide +kernel)) rfl⟩
theorem mk_X10_lead : Mok mi_X10_lead := ⟨by decide +kernel, gd (wk 1479 (by decide +kernel)) rfl, gd (wk 12 (by decide +kernel)) rfl, by decide +kernel, by decide +kernel, by decide⟩
theorem mv_X10_lead : MokV mi_X10_lead := ⟨mk_X10_lead, gd (wk 1477 (by decide +kernel)) rfl, gd (wk 1478 (by decide +kernel)) rfl⟩
theorem mk_X10_take : Mok mi_X10_take := ⟨by decide +kernel, gd (wk 1483 (by decide +kernel)) rfl, gd (wk 12 (by decide +kernel)) rfl, by decide +kernel, by decide +kernel, by decide⟩
theorem mv_X10_take : MokV mi_X10_take := ⟨mk_X10_take, gd (wk 1481 (by decide +kernel)) rfl, gd (wk 1482 (by decide +kernel)) rfl⟩
theorem mk_X10_drawn : Mok mi_X10_drawn := ⟨by decide +kernel, gd (wk 1495 (by decide +kernel)) rfl, gd (wk 12 (by decide +kernel)) rfl, by decide +kernel, by decide +kernel, by decide⟩
theorem mv_X10_drawn : MokV mi_X10_drawn := ⟨mk_X10_drawn, gd (wk 1494 (by decide +kernel)) rfl, gd (List.mem_append_left _ (List.mem_of_getElem? (i := 62) (by decide +kernel))) rfl⟩
theorem mk_X10_lostBy : Mok mi_X10_lostBy := ⟨by decide +kernel, gd (wk 1491 (by decide +kernel)) rfl, gd (wk 12 (by decide +kernel)) rfl, by decide +kernel, by decide +kernel, by decide⟩
theorem mv_X10_lostBy : MokV mi_X10_lostBy := ⟨mk_X10_lostBy, gd (wk 1490 (by decide +kernel)) rfl, gd (List.mem_append_left _ (List.mem_of_getElem? (i := 61) (by decide +kernel))) rfl⟩
theorem mk_X10_loses : Mok mi_X10_loses := ⟨by decide +kernel, gd (wk 1500 (by decide +kernel)) rfl, gd (wk 12 (by decide +kernel)) rfl, by decide +kernel, by decide +kernel, by decide⟩
theorem mv_X10_loses : MokV mi_X10_loses := ⟨mk_X10_loses, gd (wk 1499 (by decide +kernel)) rfl, gd (List.mem_append_left _ (List.mem_of_getElem? (i := 63) (by decide +kernel))) rfl⟩
theorem mk_X10_morning : Mok mi_X10_morning := ⟨by decide +kernel, gd (wk 1487 (by decide +kernel)) rfl, gd (wk 12 (by decide +kernel)) rfl, by decide +kernel, by decide +kernel, by decide⟩
theorem mv_X10_morning : MokV mi_X10_morning := ⟨mk_X10_morning, gd (wk 1485 (by decide +kernel)) rfl, gd (wk 1486 (by decide +kernel)) rfl⟩
theorem mk_X10_mornings : Mok mi_X10_mornings := ⟨by decide +kernel, gd (wk 1504 (by decide +kernel)) rfl, gd (wk 12 (by decide +kernel)) rfl, by decide +kernel, by decide +kernel, by decide⟩
theorem mv_X10_mornings : MokV mi_X10_mornings := ⟨mk_X10_mornings, gd (wk 1502 (by decide +kernel)) rfl, gd (wk 1503 (by decide +kernel)) rfl⟩
theorem mk_X10_seed : Mok mi_X10_seed := ⟨by decide +kernel, gd (wk 1508 (by decide +kernel)) rfl, gd (wk 12 (by decide +kernel)) rfl, by decide +kernel, by decide +kernel, by decide⟩
theorem mv_X10_seed : MokV mi_X10_seed := ⟨mk_X10_seed, gd (wk 1506 (by decide +kernel)) rfl, gd (wk 1507 (by decide +kernel)) rfl⟩
theorem mk_X10_began : Mok mi_X10_began := ⟨by decide +kernel, gd (wk 1531 (by decide +kernel)) rfl, gd (wk 12 (by decide +kernel)) rfl, by decide +kernel, by decide +kernel, by decide⟩
theorem mv_X10_began : MokV mi_X10_began := ⟨mk_X10_began, gd (wk 1530 (by decide +kernel)) rfl, gd (List.mem_append_left _ (List.mem_of_getElem? (i := 67) (by decide +kernel))) rfl⟩
theorem mk_X10_hasOwn : Mok mi_X10_hasOwn := ⟨by decide +kernel, gd (wk 1523 (by decide +kernel)) rfl, gd (wk 12 (by decide +kernel)) rfl, by decide +kernel, by decide +kernel, by decide⟩
theorem ms_X10_hasOwn : MokS mi_X10_hasOwn := ⟨mk_X10_hasOwn, gd (wk 1522 (by decide +kernel)) rfl⟩
theorem mk_X10_voiced : Mok mi_X10_voiced := ⟨by decide +kernel, gd (wk 1516 (by decide +kernel)) rfl, gd (wk 12 (by decide +kernel)) rfl, by decide +kernel, by decide +kernel, by decide⟩
theorem mv_X10_voiced : MokV mi_X10_voiced := ⟨mk_X10_voiced, gd (wk 1515 (by decide +kernel)) rfl, gd (List.mem_append_left _ (List.mem_of_getElem? (i := 64) (by decide +kernel))) rfl⟩
theorem mk_X10_bodyFrom : Mok mi_X10_bodyFrom := ⟨by decide +kernel, gd (wk 1520 (by decide +kernel)) rfl, gd (wk 12 (by decide +kernel)) rfl, by decide +kernel, by decide +kernel, by decide⟩
theorem mv_X10_bodyFrom : MokV mi_X10_bodyFrom := ⟨mk_X10_bodyFrom, gd (wk 1519 (by decide +kernel)) rfl, gd (List.mem_append_left _ (List.mem_of_getElem? (i := 65) (by decide +kernel))) rfl⟩
theorem mk_X10_body : Mok mi_X10_body := ⟨by decide +kernel, gd (wk 1527 (by decide +kernel)) rfl, gd (wk 12 (by decide +kernel)) rfl, by decide +kernel, by decide +kernel, by decide⟩
theorem mv_X10_body : MokV mi_X10_body := ⟨mk_X10_body, gd (wk 1526 (by decide +kernel)) rfl, gd (List.mem_append_left _ (List.mem_of_getElem? (i := 66) (by decide +kernel))) rfl⟩
theorem mk_X10_voice : Mok mi_X10_voice := ⟨by decide +kernel, gd (wk 1512 (by decide +kernel)) rfl, gd (wk 12 (by decide +kernel)) rfl, by decide +kernel, by decide +kernel, by decide⟩
theorem mv_X10_voice : MokV mi_X10_voice := ⟨mk_X10_voice, gd (wk 1510 (by decide +kernel)) rfl, gd (wk 1511 (by decide +kernel)) rfl⟩
theorem mk_X10_trace : Mok mi_X10_trace := ⟨by decide +kernel, gd (wk 1535 (by decide +kernel)) rfl, gd (wk 12 (by decide +kernel)) rfl, by decide +kernel, by decide +kernel, by decide⟩
theorem mv_X10_trace : MokV mi_X10_trace := ⟨mk_X10_trace, gd (wk 1533 (by decide +kernel)) rfl, gd (wk 1534 (by decide +kernel)) rfl⟩
theorem mk_X10_isSheet : Mok mi_X10_isSheet := ⟨by decide +kernel, gd (wk 1167 (by decide +kernel)) rfl, gd (wk 12 (by decide +kernel)) rfl, by decide +kernel, by decide +kernel, by decide⟩
theorem ms_X10_isSheet : MokS mi_X10_isSheet := ⟨mk_X10_isSheet, gd (wk 1166 (by decide +kernel)) rfl⟩
theorem mk_X10_sheet : Mok mi_X10_sheet := ⟨by decide +kernel, gd (wk 1539 (by decide +kernel)) rfl, gd (wk 12 (by decide +kernel)) rfl, by decide +kernel, by decide +kernel, by decide⟩
theorem mv_X10_sheet : MokV mi_X10_sheet := ⟨mk_X10_sheet, gd (wk 1537 (by decide +kernel)) rfl, gd (wk 1538 (by decide +kernel)) rfl⟩
theorem mk_X10_put : Mok mi_X10_put := ⟨by decide +kernel, gd (wk 1543 (by decide +kernel)) rfl, gd (wk 12 (by decide +kernel)) rfl, by decide +kernel, by decide +kernel, by decide⟩
theorem mv_X10_put : MokV mi_X10_put := ⟨mk_X10_put, gd (wk 1541 (by decide +kernel)) rfl, gd (wk 1542 (by decide +kernel)) rfl⟩
theorem mk_X10_move : Mok mi_X10_move := ⟨by decide +kernel, gd (wk 1547 (by decide +kernel)) rfl, gd (wk 12 (by decide +kernel)) rfl, by decide +kernel, by decide +kernel, by decide⟩
theorem mv_X10_move : MokV mi_X10_move := ⟨mk_X10_move, gd (wk 1545 (by decide +kernel)) rfl, gd (wk 1546 (by decide +kernel)) rfl⟩
theorem mk_X10_image : Mok mi_X10_image := ⟨by decide +kernel, gd (wk 1551 (by decide +kernel)) rfl, gd (wk 12 (by decide +kernel)) rfl, by decide +kernel, by decide +kernel, by decide⟩
theorem mv_X10_image : MokV mi_X10_image := ⟨mk_X10_image, gd (wk 1549 (by decide +kernel)) rfl, gd (wk 1550 (by decide +kernel)) rfl⟩
theorem mk_X10_restore : Mok mi_X10_restore := ⟨by decide +kernel, gd (wk 1555 (by decide +kernel)) rfl, gd (wk 12 (by decide +kernel)) rfl, by decide +kernel, by decide +kernel, by decide⟩
theorem mv_X10_restore : MokV mi_X10_restore := ⟨mk_X10_restore, gd (wk 1553 (by decide +kernel)) rfl, gd (wk 1554 (by decide +kernel)) rfl⟩
theorem mk_X10_tell : Mok mi_X10_tell := ⟨by decide +kernel, gd (wk 1559 (by decide +kernel)) rfl, gd (wk 12 (by decide +kernel)) rfl, by decide +kernel, by decide +kernel, by decide⟩
theorem mv_X10_tell : MokV mi_X10_tell := ⟨mk_X10_tell, gd (wk 1557 (by decide +kernel)) rfl, gd (wk 1558 (by decide +kernel)) rfl⟩
theorem mk_X10_check : Mok mi_X10_check := ⟨by decide +kernel, gd (wk 1563 (by decide +kernel)) rfl, gd (wk 12 (by decide +kernel)) rfl, by decide +kernel, by decide +kernel, by decide⟩
theorem mv_X10_check : MokV mi_X10_check := ⟨mk_X10_check, gd (wk 1561 (by decide +kernel)) rfl, gd (wk 1562 (by decide +kernel)) rfl⟩
theorem mk_X10_count : Mok mi_X10_count := ⟨by decide +kernel, gd (wk 1567 (by decide +kernel)) rfl, gd (wk 12 (by decide +kernel)) rfl, by decide +kernel, by decide +kernel, by decide⟩
theorem mv_X10_count : MokV mi_X10_count := ⟨mk_X10_count, gd (wk 1565 (by decide +kernel)) rfl, gd (wk 1566 (by decide +kernel)) rfl⟩
theorem mk_X10_told : Mok mi_X10_told := ⟨by decide +kernel, gd (wk 1571 (by decide +kernel)) rfl, gd (wk 12 (by decide +kernel)) rfl, by decide +kernel, by decide +kernel, by decide⟩
theorem mv_X10_told : MokV mi_X10_told := ⟨mk_X10_told, gd (wk 1569 (by decide +kernel)) rfl, gd (wk 1570 (by decide +kernel)) rfl⟩
theorem mk_J6_bitCount_0f7a4 : Mok mi_J6_bitCount_0f7a4 := ⟨by decide +kernel, gd (wk 839 (by decide +kernel)) rfl, gd (wk 19 (by decide +kernel)) rfl, by decide +kernel, by decide +kernel, by decide⟩
theorem ms_J6_bitCount_0f7a4 : MokS mi_J6_bitCount_0f7a4 := ⟨mk_J6_bitCount_0f7a4, gd (wk 838 (by decide +kernel)) rfl⟩
theorem mk_J0_length_8abf5 : Mok mi_J0_length_8abf5 := ⟨by decide +kernel, gd (wk 596 (by decide +kernel)) rfl, gd (wk 13 (by decide +kernel)) rfl, by decide +kernel, by decide +kernel, by decide⟩
theorem mv_J0_length_8abf5 : MokV mi_J0_length_8abf5 := ⟨mk_J0_length_8abf5, gd (wk 594 (by decide +kernel)) rfl, gd (wk 595 (by decide +kernel)) rfl⟩
theorem mk_J0_charAt_5068e : Mok mi_J0_charAt_5068e := ⟨by decide +kernel, gd (wk 1351 (by decide +kernel)) rfl, gd (wk 13 (by decide +kernel)) rfl, by decide +kernel, by decide +kernel, by decide⟩
theorem mv_J0_charAt_5068e : MokV mi_J0_charAt_5068e := ⟨mk_J0_charAt_5068e, gd (wk 1349 (by decide +kernel)) rfl, gd (wk 1350 (by decide +kernel)) rfl⟩
theorem mk_J0_indexOf_0f7a4 : Mok mi_J0_indexOf_0f7a4 := ⟨by decide +kernel, gd (wk 582 (by decide +kernel)) rfl, gd (wk 13 (by decide +kernel)) rfl, by decide +kernel, by decide +kernel, by decide⟩
theorem mv_J0_indexOf_0f7a4 : MokV mi_J0_indexOf_0f7a4 := ⟨mk_J0_indexOf_0f7a4, gd (wk 580 (by decide +kernel)) rfl, gd (wk 581 (by decide +kernel)) rfl⟩
theorem mk_J0_indexOf_7cf53 : Mok mi_J0_indexOf_7cf53 := ⟨by decide +kernel, gd (wk 586 (by decide +kernel)) rfl, gd (wk 13 (by decide +kernel)) rfl, by decide +kernel, by decide +kernel, by decide⟩
theorem mv_J0_indexOf_7cf53 : MokV mi_J0_indexOf_7cf53 := ⟨mk_J0_indexOf_7cf53, gd (wk 584 (by decide +kernel)) rfl, gd (wk 585 (by decide +kernel)) rfl⟩
theorem mk_J0_coder_7d493 : Mok mi_J0_coder_7d493 := ⟨by decide +kernel, gd (wk 600 (by decide +kernel)) rfl, gd (wk 13 (by decide +kernel)) rfl, by decide +kernel, by decide +kernel, by decide⟩
theorem mv_J0_coder_7d493 : MokV mi_J0_coder_7d493 := ⟨mk_J0_coder_7d493, gd (wk 598 (by decide +kernel)) rfl, gd (wk 599 (by decide +kernel)) rfl⟩
theorem mk_J0_isLatin1_aae02 : Mok mi_J0_isLatin1_aae02 := ⟨by decide +kernel, gd (wk 590 (by decide +kernel)) rfl, gd (wk 13 (by decide +kernel)) rfl, by decide +kernel, by decide +kernel, by decide⟩
theorem mv_J0_isLatin1_aae02 : MokV mi_J0_isLatin1_aae02 := ⟨mk_J0_isLatin1_aae02, gd (wk 588 (by decide +kernel)) rfl, gd (wk 589 (by decide +kernel)) rfl⟩
theorem mk_J0_checkIndex_df160 : Mok mi_J0_checkIndex_df160 := ⟨by decide +kernel, gd (wk 1357 (by decide +kernel)) rfl, gd (wk 13 (by decide +kernel)) rfl, by decide +kernel, by decide +kernel, by decide⟩
theorem ms_J0_checkIndex_df160 : MokS mi_J0_checkIndex_df160 := ⟨mk_J0_checkIndex_df160, gd (wk 1356 (by decide +kernel)) rfl⟩
theorem mk_J1_charAt_3b067 : Mok mi_J1_charAt_3b067 := ⟨by decide +kernel, gd (wk 1354 (by decide +kernel)) rfl, gd (wk 14 (by decide +kernel)) rfl, by decide +kernel, by decide +kernel, by decide⟩
theorem ms_J1_charAt_3b067 : MokS mi_J1_charAt_3b067 := ⟨mk_J1_charAt_3b067, gd (wk 1353 (by decide +kernel)) rfl⟩
theorem mk_J1_canEncode_9a6ad : Mok mi_J1_canEncode_9a6ad := ⟨by decide +kernel, gd (wk 606 (by decide +kernel)) rfl, gd (wk 14 (by decide +kernel)) rfl, by decide +kernel, by decide +kernel, by decide⟩
theorem ms_J1_canEncode_9a6ad : MokS mi_J1_canEncode_9a6ad := ⟨mk_J1_canEncode_9a6ad, gd (wk 605 (by decide +kernel)) rfl⟩
theorem mk_J1_indexOf_4cfef : Mok mi_J1_indexOf_4cfef := ⟨by decide +kernel, gd (wk 603 (by decide +kernel)) rfl, gd (wk 14 (by decide +kernel)) rfl, by decide +kernel, by decide +kernel, by decide⟩
theorem ms_J1_indexOf_4cfef : MokS mi_J1_indexOf_4cfef := ⟨mk_J1_indexOf_4cfef, gd (wk 602 (by decide +kernel)) rfl⟩
theorem mk_J1_indexOfChar_4cfef : Mok mi_J1_indexOfChar_4cfef := ⟨by decide +kernel, gd (wk 611 (by decide +kernel)) rfl, gd (wk 14 (by decide +kernel)) rfl, by decide +kernel, by decide +kernel, by decide⟩
theorem ms_J1_indexOfChar_4cfef : MokS mi_J1_indexOfChar_4cfef := ⟨mk_J1_indexOfChar_4cfef, gd (wk 610 (by decide +kernel)) rfl⟩
theorem mk_J7_fill_53178 : Mok mi_J7_fill_53178 := ⟨by decide +kernel, gd (wk 961 (by decide +kernel)) rfl, gd (wk 20 (by decide +kernel)) rfl, by decide +kernel, by decide +kernel, by decide⟩
theorem ms_J7_fill_53178 : MokS mi_J7_fill_53178 := ⟨mk_J7_fill_53178, gd (wk 960 (by decide +kernel)) rfl⟩
theorem mk_J3_checkIndex_8e157 : Mok mi_J3_checkIndex_8e157 := ⟨by decide +kernel, gd (wk 1360 (by decide +kernel)) rfl, gd (wk 16 (by decide +kernel)) rfl, by decide +kernel, by decide +kernel, by decide⟩
theorem ms_J3_checkIndex_8e157 : MokS mi_J3_checkIndex_8e157 := ⟨mk_J3_checkIndex_8e157, gd (wk 1359 (by decide +kernel)) rfl⟩
theorem fl_x3_15 : FL "RopesAtDawn$Fours" 15 3 0 := ⟨by decide, by decide, gd (wk 48 (by decide +kernel)) rfl⟩
theorem fl_x3_19 : FL "RopesAtDawn$Fours" 19 3 1 := ⟨by decide, by decide, gd (wk 49 (by decide +kernel)) rfl⟩
theorem fl_x3_28 : FL "RopesAtDawn$Fours" 28 3 2 := ⟨by decide, by decide, gd (wk 50 (by decide +kernel)) rfl⟩
theorem fl_x3_9 : FL "RopesAtDawn$Fours" 9 3 3 := ⟨by decide, by decide, gd (wk 51 (by decide +kernel)) rfl⟩
theorem fl_x6_21 : FL "RopesAtDawn$Row" 21 6 0 := ⟨by decide, by decide, gd (wk 77 (by decide +kernel)) rfl⟩
theorem fl_x6_9 : FL "RopesAtDawn$Row" 9 6 1 := ⟨by decide, by decide, gd (wk 78 (by decide +kernel)) rfl⟩
theorem fl_x2_21 : FL "RopesAtDawn$Dawn" 21 2 0 := ⟨by decide, by decide, gd (wk 85 (by decide +kernel)) rfl⟩
theorem fl_x9_62 : FL "RopesAtDawn" 62 2 0 := ⟨by decide, by decide, gd (wk 86 (by decide +kernel)) rfl⟩
theorem fl_x1_84 : FL "RopesAtDawn$Crossing" 84 2 0 := ⟨by decide, by decide, gd (wk 87 (by decide +kernel)) rfl⟩
theorem fl_x0_110 : FL "RopesAtDawn$Chooser" 110 2 0 := ⟨by decide, by decide, gd (wk 88 (by decide +kernel)) rfl⟩
theorem fl_x2_33 : FL "RopesAtDawn$Dawn" 33 2 1 := ⟨by decide, by decide, gd (wk 89 (by decide +kernel)) rfl⟩
theorem fl_x1_59 : FL "RopesAtDawn$Crossing" 59 2 1 := ⟨by decide, by decide, gd (wk 90 (by decide +kernel)) rfl⟩
theorem fl_x9_118 : FL "RopesAtDawn" 118 2 1 := ⟨by decide, by decide, gd (wk 91 (by decide +kernel)) rfl⟩
theorem fl_x2_42 : FL "RopesAtDawn$Dawn" 42 2 2 := ⟨by decide, by decide, gd (wk 92 (by decide +kernel)) rfl⟩
theorem fl_x0_73 : FL "RopesAtDawn$Chooser" 73 2 2 := ⟨by decide, by decide, gd (wk 93 (by decide +kernel)) rfl⟩
theorem fl_x9_127 : FL "RopesAtDawn" 127 2 2 := ⟨by decide, by decide, gd (wk 94 (by decide +kernel)) rfl⟩
theorem fl_x2_50 : FL "RopesAtDawn$Dawn" 50 2 3 := ⟨by decide, by decide, gd (wk 95 (by decide +kernel)) rfl⟩
theorem fl_x1_34 : FL "RopesAtDawn$Crossing" 34 2 3 := ⟨by decide, by decide, gd (wk 96 (by decide +kernel)) rfl⟩
theorem fl_x0_67 : FL "RopesAtDawn$Chooser" 67 2 3 := ⟨by decide, by decide, gd (wk 97 (by decide +kernel)) rfl⟩
theorem fl_x9_146 : FL "RopesAtDawn" 146 2 3 := ⟨by decide, by decide, gd (wk 98 (by decide +kernel)) rfl⟩
theorem fl_x2_54 : FL "RopesAtDawn$Dawn" 54 2 4 := ⟨by decide, by decide, gd (wk 99 (by decide +kernel)) rfl⟩
theorem fl_x9_197 : FL "RopesAtDawn" 197 2 4 := ⟨by decide, by decide, gd (wk 100 (by decide +kernel)) rfl⟩
theorem fl_x2_57 : FL "RopesAtDawn$Dawn" 57 2 5 := ⟨by decide, by decide, gd (wk 101 (by decide +kernel)) rfl⟩
theorem fl_x9_320 : FL "RopesAtDawn" 320 2 5 := ⟨by decide, by decide, gd (wk 102 (by decide +kernel)) rfl⟩
theorem fl_x2_60 : FL "RopesAtDawn$Dawn" 60 2 6 := ⟨by decide, by decide, gd (wk 103 (by decide +kernel)) rfl⟩
theorem fl_x2_64 : FL "RopesAtDawn$Dawn" 64 2 7 := ⟨by decide, by decide, gd (wk 104 (by decide +kernel)) rfl⟩
theorem fl_x2_67 : FL "RopesAtDawn$Dawn" 67 2 8 := ⟨by decide, by decide, gd (wk 105 (by decide +kernel)) rfl⟩
theorem fl_x2_70 : FL "RopesAtDawn$Dawn" 70 2 9 := ⟨by decide, by decide, gd (wk 106 (by decide +kernel)) rfl⟩
theorem fl_x2_73 : FL "RopesAtDawn$Dawn" 73 2 10 := ⟨by decide, by decide, gd (wk 107 (by decide +kernel)) rfl⟩
theorem fl_x1_29 : FL "RopesAtDawn$Crossing" 29 2 10 := ⟨by decide, by decide, gd (wk 108 (by decide +kernel)) rfl⟩
theorem fl_x9_124 : FL "RopesAtDawn" 124 2 10 := ⟨by decide, by decide, gd (wk 109 (by decide +kernel)) rfl⟩
theorem fl_x0_100 : FL "RopesAtDawn$Chooser" 100 2 10 := ⟨by decide, by decide, gd (wk 110 (by decide +kernel)) rfl⟩
theorem fl_x2_77 : FL "RopesAtDawn$Dawn" 77 2 11 := ⟨by decide, by decide, gd (wk 111 (by decide +kernel)) rfl⟩
theorem fl_x9_293 : FL "RopesAtDawn" 293 2 11 := ⟨by decide, by decide, gd (wk 112 (by decide +kernel)) rfl⟩
theorem fl_x5_9 : FL "RopesAtDawn$Reckoner" 9 5 0 := ⟨by decide, by decide, gd (wk 150 (by decide +kernel)) rfl⟩
theorem fl_x5_15 : FL "RopesAtDawn$Reckoner" 15 5 1 := ⟨by decide, by decide, gd (wk 151 (by decide +kernel)) rfl⟩
theorem fl_x1_12 : FL "RopesAtDawn$Crossing" 12 1 0 := ⟨by decide, by decide, gd (wk 157 (by decide +kernel)) rfl⟩
theorem fl_x9_180 : FL "RopesAtDawn" 180 1 0 := ⟨by decide, by decide, gd (wk 158 (by decide +kernel)) rfl⟩
theorem fl_x1_18 : FL "RopesAtDawn$Crossing" 18 1 1 := ⟨by decide, by decide, gd (wk 159 (by decide +kernel)) rfl⟩
theorem fl_x1_22 : FL "RopesAtDawn$Crossing" 22 1 2 := ⟨by decide, by decide, gd (wk 160 (by decide +kernel)) rfl⟩
theorem fl_x1_25 : FL "RopesAtDawn$Crossing" 25 1 3 := ⟨by decide, by decide, gd (wk 161 (by decide +kernel)) rfl⟩
theorem fl_x0_70 : FL "RopesAtDawn$Chooser" 70 1 3 := ⟨by decide, by decide, gd (wk 162 (by decide +kernel)) rfl⟩
theorem fl_x9_241 : FL "RopesAtDawn" 241 1 3 := ⟨by decide, by decide, gd (wk 163 (by decide +kernel)) rfl⟩
theorem fl_x0_14 : FL "RopesAtDawn$Chooser" 14 0 0 := ⟨by decide, by decide, gd (wk 185 (by decide +kernel)) rfl⟩
theorem fl_x9_255 : FL "RopesAtDawn" 255 0 0 := ⟨by decide, by decide, gd (wk 186 (by decide +kernel)) rfl⟩
theorem fl_x0_20 : FL "RopesAtDawn$Chooser" 20 0 1 := ⟨by decide, by decide, gd (wk 187 (by decide +kernel)) rfl⟩
theorem fl_x9_261 : FL "RopesAtDawn" 261 0 1 := ⟨by decide, by decide, gd (wk 188 (by decide +kernel)) rfl⟩
theorem fl_x0_24 : FL "RopesAtDawn$Chooser" 24 0 2 := ⟨by decide, by decide, gd (wk 189 (by decide +kernel)) rfl⟩
theorem fl_x9_252 : FL "RopesAtDawn" 252 0 2 := ⟨by decide, by decide, gd (wk 190 (by decide +kernel)) rfl⟩
theorem fl_x0_30 : FL "RopesAtDawn$Chooser" 30 0 3 := ⟨by decide, by decide, gd (wk 191 (by decide +kernel)) rfl⟩
theorem fl_x0_37 : FL "RopesAtDawn$Chooser" 37 0 4 := ⟨by decide, by decide, gd (wk 192 (by decide +kernel)) rfl⟩
theorem fl_x4_14 : FL "RopesAtDawn$Reader" 14 4 0 := ⟨by decide, by decide, gd (wk 213 (by decide +kernel)) rfl⟩
theorem fl_x9_214 : FL "RopesAtDawn" 214 4 0 := ⟨by decide, by decide, gd (wk 214 (by decide +kernel)) rfl⟩
theorem fl_x4_20 : FL "RopesAtDawn$Reader" 20 4 1 := ⟨by decide, by decide, gd (wk 215 (by decide +kernel)) rfl⟩
theorem fl_x4_25 : FL "RopesAtDawn$Reader" 25 4 2 := ⟨by decide, by decide, gd (wk 216 (by decide +kernel)) rfl⟩
theorem fl_x4_29 : FL "RopesAtDawn$Reader" 29 4 3 := ⟨by decide, by decide, gd (wk 217 (by decide +kernel)) rfl⟩
theorem fl_x4_33 : FL "RopesAtDawn$Reader" 33 4 4 := ⟨by decide, by decide, gd (wk 218 (by decide +kernel)) rfl⟩
theorem fl_x8_14 : FL "RopesAtDawn$Voices" 14 8 0 := ⟨by decide, by decide, gd (wk 239 (by decide +kernel)) rfl⟩
theorem fl_x9_300 : FL "RopesAtDawn" 300 8 0 := ⟨by decide, by decide, gd (wk 240 (by decide +kernel)) rfl⟩
theorem fl_x8_20 : FL "RopesAtDawn$Voices" 20 8 1 := ⟨by decide, by decide, gd (wk 241 (by decide +kernel)) rfl⟩
theorem fl_x8_24 : FL "RopesAtDawn$Voices" 24 8 2 := ⟨by decide, by decide, gd (wk 242 (by decide +kernel)) rfl⟩
theorem fl_x8_27 : FL "RopesAtDawn$Voices" 27 8 3 := ⟨by decide, by decide, gd (wk 243 (by decide +kernel)) rfl⟩
theorem fl_x7_9 : FL "RopesAtDawn$Sheet" 9 7 0 := ⟨by decide, by decide, gd (wk 260 (by decide +kernel)) rfl⟩
theorem fl_x7_15 : FL "RopesAtDawn$Sheet" 15 7 1 := ⟨by decide, by decide, gd (wk 261 (by decide +kernel)) rfl⟩
theorem fl_x9_312 : FL "RopesAtDawn" 312 7 1 := ⟨by decide, by decide, gd (wk 262 (by decide +kernel)) rfl⟩
theorem fl_x7_19 : FL "RopesAtDawn$Sheet" 19 7 2 := ⟨by decide, by decide, gd (wk 263 (by decide +kernel)) rfl⟩
theorem fl_x9_12 : FL "RopesAtDawn" 12 9 0 := ⟨by decide, by decide, gd (wk 271 (by decide +kernel)) rfl⟩
theorem fl_x9_19 : FL "RopesAtDawn" 19 9 1 := ⟨by decide, by decide, gd (wk 272 (by decide +kernel)) rfl⟩
theorem fl_x9_26 : FL "RopesAtDawn" 26 9 2 := ⟨by decide, by decide, gd (wk 273 (by decide +kernel)) rfl⟩
theorem fl_x9_33 : FL "RopesAtDawn" 33 9 3 := ⟨by decide, by decide, gd (wk 274 (by decide +kernel)) rfl⟩
theorem fl_x9_40 : FL "RopesAtDawn" 40 9 4 := ⟨by decide, by decide, gd (wk 275 (by decide +kernel)) rfl⟩
theorem fl_x9_46 : FL "RopesAtDawn" 46 9 5 := ⟨by decide, by decide, gd (wk 276 (by decide +kernel)) rfl⟩
theorem fl_x9_50 : FL "RopesAtDawn" 50 9 6 := ⟨by decide, by decide, gd (wk 277 (by decide +kernel)) rfl⟩
theorem fl_x9_54 : FL "RopesAtDawn" 54 9 7 := ⟨by decide, by decide, gd (wk 278 (by decide +kernel)) rfl⟩
theorem fl_x9_57 : FL "RopesAtDawn" 57 9 8 := ⟨by decide, by decide, gd (wk 279 (by decide +kernel)) rfl⟩
theorem fl_x10_9 : FL "RopesAtDawnModel" 9 10 0 := ⟨by decide, by decide, gd (wk 1023 (by decide +kernel)) rfl⟩
theorem fl_x10_13 : FL "RopesAtDawnModel" 13 10 1 := ⟨by decide, by decide, gd (wk 1024 (by decide +kernel)) rfl⟩
theorem fl_x10_16 : FL "RopesAtDawnModel" 16 10 2 := ⟨by decide, by decide, gd (wk 1025 (by decide +kernel)) rfl⟩
theorem fl_x10_329 : FL "RopesAtDawnModel" 329 10 3 := ⟨by decide, by decide, gd (wk 1026 (by decide +kernel)) rfl⟩
theorem fl_x10_19 : FL "RopesAtDawnModel" 19 10 4 := ⟨by decide, by decide, gd (wk 1027 (by decide +kernel)) rfl⟩
theorem fl_x10_146 : FL "RopesAtDawnModel" 146 10 5 := ⟨by decide, by decide, gd (wk 1028 (by decide +kernel)) rfl⟩
theorem fl_x10_28 : FL "RopesAtDawnModel" 28 10 6 := ⟨by decide, by decide, gd (wk 1029 (by decide +kernel)) rfl⟩
theorem fl_x10_190 : FL "RopesAtDawnModel" 190 10 7 := ⟨by decide, by decide, gd (wk 1030 (by decide +kernel)) rfl⟩
theorem fl_x10_231 : FL "RopesAtDawnModel" 231 10 8 := ⟨by decide, by decide, gd (wk 1031 (by decide +kernel)) rfl⟩
theorem fl_x10_221 : FL "RopesAtDawnModel" 221 10 9 := ⟨by decide, by decide, gd (wk 1032 (by decide +kernel)) rfl⟩
theorem fl_x10_186 : FL "RopesAtDawnModel" 186 10 10 := ⟨by decide, by decide, gd (wk 1033 (by decide +kernel)) rfl⟩
theorem fl_x10_32 : FL "RopesAtDawnModel" 32 10 11 := ⟨by decide, by decide, gd (wk 1034 (by decide +kernel)) rfl⟩
theorem fl_x10_197 : FL "RopesAtDawnModel" 197 10 12 := ⟨by decide, by decide, gd (wk 1035 (by decide +kernel)) rfl⟩
theorem fl_x10_35 : FL "RopesAtDawnModel" 35 10 13 := ⟨by decide, by decide, gd (wk 1036 (by decide +kernel)) rfl⟩
theorem fl_x10_38 : FL "RopesAtDawnModel" 38 10 14 := ⟨by decide, by decide, gd (wk 1037 (by decide +kernel)) rfl⟩
theorem fl_x10_41 : FL "RopesAtDawnModel" 41 10 15 := ⟨by decide, by decide, gd (wk 1038 (by decide +kernel)) rfl⟩
theorem fl_x10_44 : FL "RopesAtDawnModel" 44 10 16 := ⟨by decide, by decide, gd (wk 1039 (by decide +kernel)) rfl⟩
theorem fl_x10_249 : FL "RopesAtDawnModel" 249 10 17 := ⟨by decide, by decide, gd (wk 1040 (by decide +kernel)) rfl⟩
theorem fl_x10_47 : FL "RopesAtDawnModel" 47 10 18 := ⟨by decide, by decide, gd (wk 1041 (by decide +kernel)) rfl⟩
theorem fl_x10_50 : FL "RopesAtDawnModel" 50 10 19 := ⟨by decide, by decide, gd (wk 1042 (by decide +kernel)) rfl⟩
theorem fl_x10_275 : FL "RopesAtDawnModel" 275 10 20 := ⟨by decide, by decide, gd (wk 1043 (by decide +kernel)) rfl⟩
theorem fl_x10_53 : FL "RopesAtDawnModel" 53 10 21 := ⟨by decide, by decide, gd (wk 1044 (by decide +kernel)) rfl⟩
theorem fl_x10_308 : FL "RopesAtDawnModel" 308 10 22 := ⟨by decide, by decide, gd (wk 1045 (by decide +kernel)) rfl⟩
theorem fl_x10_311 : FL "RopesAtDawnModel" 311 10 23 := ⟨by decide, by decide, gd (wk 1046 (by decide +kernel)) rfl⟩
theorem fl_x10_56 : FL "RopesAtDawnModel" 56 10 24 := ⟨by decide, by decide, gd (wk 1047 (by decide +kernel)) rfl⟩
theorem fl_x10_59 : FL "RopesAtDawnModel" 59 10 25 := ⟨by decide, by decide, gd (wk 1048 (by decide +kernel)) rfl⟩
theorem fl_x10_62 : FL "RopesAtDawnModel" 62 10 26 := ⟨by decide, by decide, gd (wk 1049 (by decide +kernel)) rfl⟩
theorem fl_x10_65 : FL "RopesAtDawnModel" 65 10 27 := ⟨by decide, by decide, gd (wk 1050 (by decide +kernel)) rfl⟩
theorem lk_l_9 : Cond.methodLink "RopesAtDawnLaw" 9 ⟨"RopesAtDawn", "<init>", "()V"⟩ ∈ lw_gd := gd (wk 23 (by decide +kernel)) rfl
theorem lk_x9_3 : Cond.methodLink "RopesAtDawn" 3 ⟨"java/lang/Object", "<init>", "()V"⟩ ∈ lw_gd := gd (wk 26 (by decide +kernel)) rfl
theorem lk_x9_11 : Cond.methodLink "RopesAtDawn" 11 ⟨"RopesAtDawn$Dawn", "<init>", "()V"⟩ ∈ lw_gd := gd (wk 31 (by decide +kernel)) rfl
theorem lk_x2_3 : Cond.methodLink "RopesAtDawn$Dawn" 3 ⟨"java/lang/Object", "<init>", "()V"⟩ ∈ lw_gd := gd (wk 34 (by decide +kernel)) rfl
theorem lk_x2_18 : Cond.methodLink "RopesAtDawn$Dawn" 18 ⟨"RopesAtDawn$Fours", "<init>", "(I[I[I)V"⟩ ∈ lw_gd := gd (wk 41 (by decide +kernel)) rfl
theorem lk_x3_3 : Cond.methodLink "RopesAtDawn$Fours" 3 ⟨"java/lang/Object", "<init>", "()V"⟩ ∈ lw_gd := gd (wk 44 (by decide +kernel)) rfl
theorem lk_x3_22 : Cond.methodLink "RopesAtDawn$Fours" 22 ⟨"java/lang/Math", "max", "(II)I"⟩ ∈ lw_gd := gd (wk 45 (by decide +kernel)) rfl
theorem lk_x2_47 : Cond.methodLink "RopesAtDawn$Dawn" 47 ⟨"RopesAtDawn$Row", "<init>", "(I)V"⟩ ∈ lw_gd := gd (wk 72 (by decide +kernel)) rfl
theorem lk_x6_3 : Cond.methodLink "RopesAtDawn$Row" 3 ⟨"java/lang/Object", "<init>", "()V"⟩ ∈ lw_gd := gd (wk 75 (by decide +kernel)) rfl
theorem lk_x6_15 : Cond.methodLink "RopesAtDawn$Row" 15 ⟨"java/lang/Math", "max", "(II)I"⟩ ∈ lw_gd := gd (wk 76 (by decide +kernel)) rfl
theorem lk_x9_18 : Cond.methodLink "RopesAtDawn" 18 ⟨"RopesAtDawn$Crossing", "<init>", "()V"⟩ ∈ lw_gd := gd (wk 140 (by decide +kernel)) rfl
theorem lk_x1_3 : Cond.methodLink "RopesAtDawn$Crossing" 3 ⟨"java/lang/Object", "<init>", "()V"⟩ ∈ lw_gd := gd (wk 143 (by decide +kernel)) rfl
theorem lk_x1_11 : Cond.methodLink "RopesAtDawn$Crossing" 11 ⟨"RopesAtDawn$Reckoner", "<init>", "()V"⟩ ∈ lw_gd := gd (wk 146 (by decide +kernel)) rfl
theorem lk_x5_3 : Cond.methodLink "RopesAtDawn$Reckoner" 3 ⟨"java/lang/Object", "<init>", "()V"⟩ ∈ lw_gd := gd (wk 149 (by decide +kernel)) rfl
theorem lk_x9_25 : Cond.methodLink "RopesAtDawn" 25 ⟨"RopesAtDawn$Chooser", "<init>", "()V"⟩ ∈ lw_gd := gd (wk 175 (by decide +kernel)) rfl
theorem lk_x0_3 : Cond.methodLink "RopesAtDawn$Chooser" 3 ⟨"java/lang/Object", "<init>", "()V"⟩ ∈ lw_gd := gd (wk 178 (by decide +kernel)) rfl
theorem lk_x0_11 : Cond.methodLink "RopesAtDawn$Chooser" 11 ⟨"RopesAtDawn$Row", "<init>", "(I)V"⟩ ∈ lw_gd := gd (wk 180 (by decide +kernel)) rfl
theorem lk_x0_29 : Cond.methodLink "RopesAtDawn$Chooser" 29 ⟨"RopesAtDawn$Dawn", "<init>", "()V"⟩ ∈ lw_gd := gd (wk 182 (by decide +kernel)) rfl
theorem lk_x0_36 : Cond.methodLink "RopesAtDawn$Chooser" 36 ⟨"RopesAtDawn$Crossing", "<init>", "()V"⟩ ∈ lw_gd := gd (wk 184 (by decide +kernel)) rfl
theorem lk_x9_32 : Cond.methodLink "RopesAtDawn" 32 ⟨"RopesAtDawn$Reader", "<init>", "()V"⟩ ∈ lw_gd := gd (wk 206 (by decide +kernel)) rfl
theorem lk_x4_3 : Cond.methodLink "RopesAtDawn$Reader" 3 ⟨"java/lang/Object", "<init>", "()V"⟩ ∈ lw_gd := gd (wk 209 (by decide +kernel)) rfl
theorem lk_x4_11 : Cond.methodLink "RopesAtDawn$Reader" 11 ⟨"RopesAtDawn$Row", "<init>", "(I)V"⟩ ∈ lw_gd := gd (wk 211 (by decide +kernel)) rfl
theorem lk_x9_39 : Cond.methodLink "RopesAtDawn" 39 ⟨"RopesAtDawn$Voices", "<init>", "()V"⟩ ∈ lw_gd := gd (wk 233 (by decide +kernel)) rfl
theorem lk_x8_3 : Cond.methodLink "RopesAtDawn$Voices" 3 ⟨"java/lang/Object", "<init>", "()V"⟩ ∈ lw_gd := gd (wk 236 (by decide +kernel)) rfl
theorem lk_x8_11 : Cond.methodLink "RopesAtDawn$Voices" 11 ⟨"RopesAtDawn$Row", "<init>", "(I)V"⟩ ∈ lw_gd := gd (wk 238 (by decide +kernel)) rfl
theorem lk_x9_61 : Cond.methodLink "RopesAtDawn" 61 ⟨"RopesAtDawn$Sheet", "<init>", "()V"⟩ ∈ lw_gd := gd (wk 256 (by decide +kernel)) rfl
theorem lk_x7_3 : Cond.methodLink "RopesAtDawn$Sheet" 3 ⟨"java/lang/Object", "<init>", "()V"⟩ ∈ lw_gd := gd (wk 259 (by decide +kernel)) rfl
theorem lk_l_13 : Cond.methodLink "RopesAtDawnLaw" 13 ⟨"RopesAtDawn", "person", "(IIII)I"⟩ ∈ lw_gd := gd (wk 299 (by decide +kernel)) rfl
theorem lk_x9_66 : Cond.methodLink "RopesAtDawn" 66 ⟨"RopesAtDawn", "newFour", "(LRopesAtDawn$Fours;IIII)I"⟩ ∈ lw_gd := gd (wk 303 (by decide +kernel)) rfl
theorem lk_x9_110 : Cond.methodLink "RopesAtDawn" 110 ⟨"RopesAtDawn$Fours", "fits", "(IIII)Z"⟩ ∈ lw_gd := gd (wk 307 (by decide +kernel)) rfl
theorem lk_x3_31 : Cond.methodLink "RopesAtDawn$Fours" 31 ⟨"RopesAtDawn$Fours", "fitsColumn", "(II)Z"⟩ ∈ lw_gd := gd (wk 311 (by decide +kernel)) rfl
theorem lk_x9_77 : Cond.methodLink "RopesAtDawn" 77 ⟨"RopesAtDawn", "fail", "(I)I"⟩ ∈ lw_gd := gd (wk 316 (by decide +kernel)) rfl
theorem lk_x9_107 : Cond.methodLink "RopesAtDawn" 107 ⟨"RopesAtDawn$Fours", "isFull", "()Z"⟩ ∈ lw_gd := gd (wk 321 (by decide +kernel)) rfl
theorem lk_x9_114 : Cond.methodLink "RopesAtDawn" 114 ⟨"RopesAtDawn$Fours", "add", "(IIII)V"⟩ ∈ lw_gd := gd (wk 326 (by decide +kernel)) rfl
theorem lk_x3_35 : Cond.methodLink "RopesAtDawn$Fours" 35 ⟨"RopesAtDawn$Fours", "isFull", "()Z"⟩ ∈ lw_gd := gd (wk 330 (by decide +kernel)) rfl
theorem lk_x3_39 : Cond.methodLink "RopesAtDawn$Fours" 39 ⟨"RopesAtDawn$Fours", "change", "(III)V"⟩ ∈ lw_gd := gd (wk 331 (by decide +kernel)) rfl
theorem lk_x3_43 : Cond.methodLink "RopesAtDawn$Fours" 43 ⟨"RopesAtDawn$Fours", "has", "(I)Z"⟩ ∈ lw_gd := gd (wk 335 (by decide +kernel)) rfl
theorem lk_x9_326 : Cond.methodLink "RopesAtDawn" 326 ⟨"RopesAtDawn$Fours", "size", "()I"⟩ ∈ lw_gd := gd (wk 339 (by decide +kernel)) rfl
theorem lk_l_18 : Cond.methodLink "RopesAtDawnLaw" 18 ⟨"RopesAtDawn", "ofPerson", "(II)I"⟩ ∈ lw_gd := gd (wk 343 (by decide +kernel)) rfl
theorem lk_x9_70 : Cond.methodLink "RopesAtDawn" 70 ⟨"RopesAtDawn$Fours", "has", "(I)Z"⟩ ∈ lw_gd := gd (wk 347 (by decide +kernel)) rfl
theorem lk_x9_81 : Cond.methodLink "RopesAtDawn" 81 ⟨"RopesAtDawn$Fours", "get", "(II)I"⟩ ∈ lw_gd := gd (wk 348 (by decide +kernel)) rfl
theorem lk_x9_85 : Cond.methodLink "RopesAtDawn" 85 ⟨"RopesAtDawn$Dawn", "ropeOf", "(I)I"⟩ ∈ lw_gd := gd (wk 352 (by decide +kernel)) rfl
theorem lk_x2_91 : Cond.methodLink "RopesAtDawn$Dawn" 91 ⟨"RopesAtDawn$Row", "placeOf", "(I)I"⟩ ∈ lw_gd := gd (wk 356 (by decide +kernel)) rfl
theorem lk_x9_88 : Cond.methodLink "RopesAtDawn" 88 ⟨"RopesAtDawn$Dawn", "placeOf", "(I)I"⟩ ∈ lw_gd := gd (wk 360 (by decide +kernel)) rfl
theorem lk_x2_95 : Cond.methodLink "RopesAtDawn$Dawn" 95 ⟨"RopesAtDawn$Dawn", "ropeOf", "(I)I"⟩ ∈ lw_gd := gd (wk 364 (by decide +kernel)) rfl
theorem lk_x2_87 : Cond.methodLink "RopesAtDawn$Dawn" 87 ⟨"RopesAtDawn$Dawn", "rowOf", "(I)LRopesAtDawn$Row;"⟩ ∈ lw_gd := gd (wk 365 (by decide +kernel)) rfl
theorem lk_l_23 : Cond.methodLink "RopesAtDawnLaw" 23 ⟨"RopesAtDawn", "people", "(I)I"⟩ ∈ lw_gd := gd (wk 369 (by decide +kernel)) rfl
theorem lk_x9_91 : Cond.methodLink "RopesAtDawn" 91 ⟨"RopesAtDawn", "sheetOf", "(I)LRopesAtDawn$Sheet;"⟩ ∈ lw_gd := gd (wk 373 (by decide +kernel)) rfl
theorem lk_x9_95 : Cond.methodLink "RopesAtDawn" 95 ⟨"RopesAtDawn$Sheet", "isMissing", "()Z"⟩ ∈ lw_gd := gd (wk 377 (by decide +kernel)) rfl
theorem lk_x9_100 : Cond.methodLink "RopesAtDawn" 100 ⟨"RopesAtDawn$Sheet", "size", "()I"⟩ ∈ lw_gd := gd (wk 382 (by decide +kernel)) rfl
theorem lk_x9_104 : Cond.methodLink "RopesAtDawn" 104 ⟨"RopesAtDawn$Sheet", "at", "(I)I"⟩ ∈ lw_gd := gd (wk 386 (by decide +kernel)) rfl
theorem lk_l_28 : Cond.methodLink "RopesAtDawnLaw" 28 ⟨"RopesAtDawn", "piece", "(IIII)I"⟩ ∈ lw_gd := gd (wk 390 (by decide +kernel)) rfl
theorem lk_l_32 : Cond.methodLink "RopesAtDawnLaw" 32 ⟨"RopesAtDawn", "ofPiece", "(II)I"⟩ ∈ lw_gd := gd (wk 394 (by decide +kernel)) rfl
theorem lk_l_36 : Cond.methodLink "RopesAtDawnLaw" 36 ⟨"RopesAtDawn", "start", "(I)I"⟩ ∈ lw_gd := gd (wk 398 (by decide +kernel)) rfl
theorem lk_x9_121 : Cond.methodLink "RopesAtDawn" 121 ⟨"RopesAtDawn", "isMinute", "(I)Z"⟩ ∈ lw_gd := gd (wk 402 (by decide +kernel)) rfl
theorem lk_l_40 : Cond.methodLink "RopesAtDawnLaw" 40 ⟨"RopesAtDawn", "rope", "(III)I"⟩ ∈ lw_gd := gd (wk 405 (by decide +kernel)) rfl
theorem lk_l_45 : Cond.methodLink "RopesAtDawnLaw" 45 ⟨"RopesAtDawn", "tie", "(II)I"⟩ ∈ lw_gd := gd (wk 409 (by decide +kernel)) rfl
theorem lk_x9_131 : Cond.methodLink "RopesAtDawn" 131 ⟨"RopesAtDawn$Dawn", "rowOf", "(I)LRopesAtDawn$Row;"⟩ ∈ lw_gd := gd (wk 414 (by decide +kernel)) rfl
theorem lk_x9_135 : Cond.methodLink "RopesAtDawn" 135 ⟨"RopesAtDawn$Row", "isFull", "()Z"⟩ ∈ lw_gd := gd (wk 415 (by decide +kernel)) rfl
theorem lk_x9_139 : Cond.methodLink "RopesAtDawn" 139 ⟨"RopesAtDawn$Row", "add", "(I)V"⟩ ∈ lw_gd := gd (wk 419 (by decide +kernel)) rfl
theorem lk_x9_142 : Cond.methodLink "RopesAtDawn" 142 ⟨"RopesAtDawn$Row", "size", "()I"⟩ ∈ lw_gd := gd (wk 423 (by decide +kernel)) rfl
theorem lk_l_49 : Cond.methodLink "RopesAtDawnLaw" 49 ⟨"RopesAtDawn", "untie", "(I)I"⟩ ∈ lw_gd := gd (wk 427 (by decide +kernel)) rfl
theorem lk_x9_143 : Cond.methodLink "RopesAtDawn" 143 ⟨"RopesAtDawn$Row", "removeAt", "(I)V"⟩ ∈ lw_gd := gd (wk 431 (by decide +kernel)) rfl
theorem lk_l_53 : Cond.methodLink "RopesAtDawnLaw" 53 ⟨"RopesAtDawn", "ofRope", "(II)I"⟩ ∈ lw_gd := gd (wk 435 (by decide +kernel)) rfl
theorem lk_x9_150 : Cond.methodLink "RopesAtDawn" 150 ⟨"RopesAtDawn$Row", "placeOf", "(I)I"⟩ ∈ lw_gd := gd (wk 439 (by decide +kernel)) rfl
theorem lk_x9_151 : Cond.methodLink "RopesAtDawn" 151 ⟨"RopesAtDawn$Row", "at", "(I)I"⟩ ∈ lw_gd := gd (wk 440 (by decide +kernel)) rfl
theorem lk_l_57 : Cond.methodLink "RopesAtDawnLaw" 57 ⟨"RopesAtDawn", "as", "(II)I"⟩ ∈ lw_gd := gd (wk 444 (by decide +kernel)) rfl
theorem lk_x9_152 : Cond.methodLink "RopesAtDawn" 152 ⟨"RopesAtDawn", "isUnder", "(II)Z"⟩ ∈ lw_gd := gd (wk 448 (by decide +kernel)) rfl
theorem lk_l_61 : Cond.methodLink "RopesAtDawnLaw" 61 ⟨"RopesAtDawn", "set", "(III)I"⟩ ∈ lw_gd := gd (wk 454 (by decide +kernel)) rfl
theorem lk_x9_157 : Cond.methodLink "RopesAtDawn" 157 ⟨"RopesAtDawn$Fours", "fitsColumn", "(II)Z"⟩ ∈ lw_gd := gd (wk 458 (by decide +kernel)) rfl
theorem lk_x9_160 : Cond.methodLink "RopesAtDawn" 160 ⟨"RopesAtDawn$Fours", "change", "(III)V"⟩ ∈ lw_gd := gd (wk 459 (by decide +kernel)) rfl
theorem lk_l_65 : Cond.methodLink "RopesAtDawnLaw" 65 ⟨"RopesAtDawn", "swap", "(II)I"⟩ ∈ lw_gd := gd (wk 460 (by decide +kernel)) rfl
theorem lk_x9_164 : Cond.methodLink "RopesAtDawn" 164 ⟨"RopesAtDawn$Row", "change", "(II)V"⟩ ∈ lw_gd := gd (wk 464 (by decide +kernel)) rfl
theorem lk_l_69 : Cond.methodLink "RopesAtDawnLaw" 69 ⟨"RopesAtDawn", "hold", "(I)I"⟩ ∈ lw_gd := gd (wk 468 (by decide +kernel)) rfl
theorem lk_x9_167 : Cond.methodLink "RopesAtDawn" 167 ⟨"RopesAtDawn$Dawn", "holdAt", "(II)I"⟩ ∈ lw_gd := gd (wk 472 (by decide +kernel)) rfl
theorem lk_x2_101 : Cond.methodLink "RopesAtDawn$Dawn" 101 ⟨"RopesAtDawn$Row", "size", "()I"⟩ ∈ lw_gd := gd (wk 476 (by decide +kernel)) rfl
theorem lk_x2_114 : Cond.methodLink "RopesAtDawn$Dawn" 114 ⟨"java/lang/Math", "abs", "(I)I"⟩ ∈ lw_gd := gd (wk 477 (by decide +kernel)) rfl
theorem lk_x2_117 : Cond.methodLink "RopesAtDawn$Dawn" 117 ⟨"RopesAtDawn$Dawn", "gripAt", "(III)I"⟩ ∈ lw_gd := gd (wk 480 (by decide +kernel)) rfl
theorem lk_x2_98 : Cond.methodLink "RopesAtDawn$Dawn" 98 ⟨"RopesAtDawn$Row", "at", "(I)I"⟩ ∈ lw_gd := gd (wk 484 (by decide +kernel)) rfl
theorem lk_x2_105 : Cond.methodLink "RopesAtDawn$Dawn" 105 ⟨"RopesAtDawn$Fours", "get", "(II)I"⟩ ∈ lw_gd := gd (wk 485 (by decide +kernel)) rfl
theorem lk_x2_109 : Cond.methodLink "RopesAtDawn$Dawn" 109 ⟨"java/lang/Math", "max", "(II)I"⟩ ∈ lw_gd := gd (wk 486 (by decide +kernel)) rfl
theorem lk_l_73 : Cond.methodLink "RopesAtDawnLaw" 73 ⟨"RopesAtDawn", "held", "(II)I"⟩ ∈ lw_gd := gd (wk 487 (by decide +kernel)) rfl
theorem lk_x9_170 : Cond.methodLink "RopesAtDawn" 170 ⟨"RopesAtDawn", "errorOnRope", "(II)I"⟩ ∈ lw_gd := gd (wk 491 (by decide +kernel)) rfl
theorem lk_x9_173 : Cond.methodLink "RopesAtDawn" 173 ⟨"RopesAtDawn$Dawn", "isHeld", "(III)Z"⟩ ∈ lw_gd := gd (wk 495 (by decide +kernel)) rfl
theorem lk_x2_121 : Cond.methodLink "RopesAtDawn$Dawn" 121 ⟨"RopesAtDawn$Dawn", "holdAt", "(II)I"⟩ ∈ lw_gd := gd (wk 499 (by decide +kernel)) rfl
theorem lk_x2_124 : Cond.methodLink "RopesAtDawn$Dawn" 124 ⟨"RopesAtDawn$Dawn", "pullOf", "(II)I"⟩ ∈ lw_gd := gd (wk 500 (by decide +kernel)) rfl
theorem lk_l_77 : Cond.methodLink "RopesAtDawnLaw" 77 ⟨"RopesAtDawn", "cost", "(II)I"⟩ ∈ lw_gd := gd (wk 504 (by decide +kernel)) rfl
theorem lk_x9_177 : Cond.methodLink "RopesAtDawn" 177 ⟨"RopesAtDawn$Dawn", "lostWithOne", "(I)I"⟩ ∈ lw_gd := gd (wk 508 (by decide +kernel)) rfl
theorem lk_l_81 : Cond.methodLink "RopesAtDawnLaw" 81 ⟨"RopesAtDawn", "haul", "(II)I"⟩ ∈ lw_gd := gd (wk 512 (by decide +kernel)) rfl
theorem lk_x9_184 : Cond.methodLink "RopesAtDawn" 184 ⟨"RopesAtDawn$Reckoner", "name", "(IIIII)V"⟩ ∈ lw_gd := gd (wk 516 (by decide +kernel)) rfl
theorem lk_x9_190 : Cond.methodLink "RopesAtDawn" 190 ⟨"RopesAtDawn$Dawn", "textOf", "(I)LRopesAtDawn$Row;"⟩ ∈ lw_gd := gd (wk 520 (by decide +kernel)) rfl
theorem lk_x9_193 : Cond.methodLink "RopesAtDawn" 193 ⟨"RopesAtDawn$Reckoner", "give", "(ILRopesAtDawn$Row;)I"⟩ ∈ lw_gd := gd (wk 524 (by decide +kernel)) rfl
theorem lk_x5_18 : Cond.methodLink "RopesAtDawn$Reckoner" 18 ⟨"RopesAtDawn$Row", "size", "()I"⟩ ∈ lw_gd := gd (wk 528 (by decide +kernel)) rfl
theorem lk_x5_24 : Cond.methodLink "RopesAtDawn$Reckoner" 24 ⟨"RopesAtDawn$Reckoner", "valueOf", "(LRopesAtDawn$Row;)I"⟩ ∈ lw_gd := gd (wk 529 (by decide +kernel)) rfl
theorem lk_x5_41 : Cond.methodLink "RopesAtDawn$Reckoner" 41 ⟨"RopesAtDawn$Row", "at", "(I)I"⟩ ∈ lw_gd := gd (wk 533 (by decide +kernel)) rfl
theorem lk_x5_28 : Cond.methodLink "RopesAtDawn$Reckoner" 28 ⟨"RopesAtDawn$Reckoner", "applied", "(III)I"⟩ ∈ lw_gd := gd (wk 534 (by decide +kernel)) rfl
theorem lk_x5_32 : Cond.methodLink "RopesAtDawn$Reckoner" 32 ⟨"java/lang/Math", "min", "(II)I"⟩ ∈ lw_gd := gd (wk 537 (by decide +kernel)) rfl
theorem lk_x5_38 : Cond.methodLink "RopesAtDawn$Reckoner" 38 ⟨"java/lang/Math", "max", "(II)I"⟩ ∈ lw_gd := gd (wk 540 (by decide +kernel)) rfl
theorem lk_l_87 : Cond.methodLink "RopesAtDawnLaw" 87 ⟨"RopesAtDawn", "feed", "(JI)I"⟩ ∈ lw_gd := gd (wk 541 (by decide +kernel)) rfl
theorem lk_l_92 : Cond.methodLink "RopesAtDawnLaw" 92 ⟨"RopesAtDawn", "text", "(I)I"⟩ ∈ lw_gd := gd (wk 545 (by decide +kernel)) rfl
theorem lk_x9_200 : Cond.methodLink "RopesAtDawn" 200 ⟨"RopesAtDawn", "isUse", "(I)Z"⟩ ∈ lw_gd := gd (wk 549 (by decide +kernel)) rfl
theorem lk_x9_207 : Cond.methodLink "RopesAtDawn" 207 ⟨"RopesAtDawn$Reader", "read", "(LRopesAtDawn$Row;Ljava/lang/String;)I"⟩ ∈ lw_gd := gd (wk 554 (by decide +kernel)) rfl
theorem lk_x4_37 : Cond.methodLink "RopesAtDawn$Reader" 37 ⟨"RopesAtDawn$Row", "empty", "()V"⟩ ∈ lw_gd := gd (wk 558 (by decide +kernel)) rfl
theorem lk_x4_40 : Cond.methodLink "RopesAtDawn$Reader" 40 ⟨"RopesAtDawn$Reader", "readLevel", "(II)V"⟩ ∈ lw_gd := gd (wk 562 (by decide +kernel)) rfl
theorem lk_x4_48 : Cond.methodLink "RopesAtDawn$Reader" 48 ⟨"RopesAtDawn$Reader", "readFactor", "(I)V"⟩ ∈ lw_gd := gd (wk 566 (by decide +kernel)) rfl
theorem lk_x4_51 : Cond.methodLink "RopesAtDawn$Reader" 51 ⟨"RopesAtDawn$Row", "at", "(I)I"⟩ ∈ lw_gd := gd (wk 570 (by decide +kernel)) rfl
theorem lk_x4_61 : Cond.methodLink "RopesAtDawn$Reader" 61 ⟨"RopesAtDawn$Reader", "isDigit", "(I)Z"⟩ ∈ lw_gd := gd (wk 571 (by decide +kernel)) rfl
theorem lk_x4_65 : Cond.methodLink "RopesAtDawn$Reader" 65 ⟨"RopesAtDawn$Reader", "readNumber", "()V"⟩ ∈ lw_gd := gd (wk 574 (by decide +kernel)) rfl
theorem lk_x4_58 : Cond.methodLink "RopesAtDawn$Reader" 58 ⟨"RopesAtDawn$Row", "add", "(I)V"⟩ ∈ lw_gd := gd (wk 578 (by decide +kernel)) rfl
theorem lk_x4_68 : Cond.methodLink "RopesAtDawn$Reader" 68 ⟨"java/lang/String", "indexOf", "(I)I"⟩ ∈ lw_gd := gd (wk 579 (by decide +kernel)) rfl
theorem lk_rj0_633 : Cond.methodLink "java/lang/String" 633 ⟨"java/lang/String", "indexOf", "(II)I"⟩ ∈ lw_gd := gd (wk 583 (by decide +kernel)) rfl
theorem lk_rj0_492 : Cond.methodLink "java/lang/String" 492 ⟨"java/lang/String", "isLatin1", "()Z"⟩ ∈ lw_gd := gd (wk 587 (by decide +kernel)) rfl
theorem lk_rj0_505 : Cond.methodLink "java/lang/String" 505 ⟨"java/lang/String", "length", "()I"⟩ ∈ lw_gd := gd (wk 593 (by decide +kernel)) rfl
theorem lk_rj0_335 : Cond.methodLink "java/lang/String" 335 ⟨"java/lang/String", "coder", "()B"⟩ ∈ lw_gd := gd (wk 597 (by decide +kernel)) rfl
theorem lk_rj0_637 : Cond.methodLink "java/lang/String" 637 ⟨"java/lang/StringLatin1", "indexOf", "([BIII)I"⟩ ∈ lw_gd := gd (wk 601 (by decide +kernel)) rfl
theorem lk_rj1_88 : Cond.methodLink "java/lang/StringLatin1" 88 ⟨"java/lang/StringLatin1", "canEncode", "(I)Z"⟩ ∈ lw_gd := gd (wk 604 (by decide +kernel)) rfl
theorem lk_rj1_92 : Cond.methodLink "java/lang/StringLatin1" 92 ⟨"java/lang/Math", "max", "(II)I"⟩ ∈ lw_gd := gd (wk 607 (by decide +kernel)) rfl
theorem lk_rj1_38 : Cond.methodLink "java/lang/StringLatin1" 38 ⟨"java/lang/Math", "min", "(II)I"⟩ ∈ lw_gd := gd (wk 608 (by decide +kernel)) rfl
theorem lk_rj1_95 : Cond.methodLink "java/lang/StringLatin1" 95 ⟨"java/lang/StringLatin1", "indexOfChar", "([BIII)I"⟩ ∈ lw_gd := gd (wk 609 (by decide +kernel)) rfl
theorem lk_rj2_224 : Cond.methodLink "java/lang/StringUTF16" 224 ⟨"java/lang/Math", "max", "(II)I"⟩ ∈ lw_gd := gd (wk 615 (by decide +kernel)) rfl
theorem lk_rj2_183 : Cond.methodLink "java/lang/StringUTF16" 183 ⟨"java/lang/Math", "min", "(II)I"⟩ ∈ lw_gd := gd (wk 616 (by decide +kernel)) rfl
theorem lk_x4_73 : Cond.methodLink "RopesAtDawn$Reader" 73 ⟨"RopesAtDawn$Reader", "readOpened", "(II)V"⟩ ∈ lw_gd := gd (wk 661 (by decide +kernel)) rfl
theorem lk_x4_55 : Cond.methodLink "RopesAtDawn$Reader" 55 ⟨"RopesAtDawn$Reader", "levelOf", "(I)I"⟩ ∈ lw_gd := gd (wk 665 (by decide +kernel)) rfl
theorem lk_x4_44 : Cond.methodLink "RopesAtDawn$Reader" 44 ⟨"RopesAtDawn$Row", "size", "()I"⟩ ∈ lw_gd := gd (wk 668 (by decide +kernel)) rfl
theorem lk_x9_211 : Cond.methodLink "RopesAtDawn" 211 ⟨"RopesAtDawn$Row", "empty", "()V"⟩ ∈ lw_gd := gd (wk 669 (by decide +kernel)) rfl
theorem lk_x9_217 : Cond.methodLink "RopesAtDawn" 217 ⟨"RopesAtDawn$Row", "copyFrom", "(LRopesAtDawn$Row;)V"⟩ ∈ lw_gd := gd (wk 670 (by decide +kernel)) rfl
theorem lk_x6_25 : Cond.methodLink "RopesAtDawn$Row" 25 ⟨"java/lang/Math", "min", "(II)I"⟩ ∈ lw_gd := gd (wk 674 (by decide +kernel)) rfl
theorem lk_x6_28 : Cond.methodLink "RopesAtDawn$Row" 28 ⟨"java/lang/System", "arraycopy", "(Ljava/lang/Object;ILjava/lang/Object;II)V"⟩ ∈ lw_gd := gd (wk 675 (by decide +kernel)) rfl
theorem lk_l_96 : Cond.methodLink "RopesAtDawnLaw" 96 ⟨"RopesAtDawn", "law", "(IIIII)I"⟩ ∈ lw_gd := gd (wk 678 (by decide +kernel)) rfl
theorem lk_l_101 : Cond.methodLink "RopesAtDawnLaw" 101 ⟨"RopesAtDawn", "join", "(I)I"⟩ ∈ lw_gd := gd (wk 682 (by decide +kernel)) rfl
theorem lk_x9_221 : Cond.methodLink "RopesAtDawn" 221 ⟨"RopesAtDawn$Dawn", "isInLine", "(I)Z"⟩ ∈ lw_gd := gd (wk 686 (by decide +kernel)) rfl
theorem lk_l_105 : Cond.methodLink "RopesAtDawnLaw" 105 ⟨"RopesAtDawn", "clear", "()I"⟩ ∈ lw_gd := gd (wk 690 (by decide +kernel)) rfl
theorem lk_l_110 : Cond.methodLink "RopesAtDawnLaw" 110 ⟨"RopesAtDawn", "when", "(III)I"⟩ ∈ lw_gd := gd (wk 694 (by decide +kernel)) rfl
theorem lk_x9_224 : Cond.methodLink "RopesAtDawn" 224 ⟨"RopesAtDawn$Crossing", "cross", "(LRopesAtDawn$Dawn;)V"⟩ ∈ lw_gd := gd (wk 698 (by decide +kernel)) rfl
theorem lk_x1_38 : Cond.methodLink "RopesAtDawn$Crossing" 38 ⟨"RopesAtDawn$Row", "size", "()I"⟩ ∈ lw_gd := gd (wk 702 (by decide +kernel)) rfl
theorem lk_x1_44 : Cond.methodLink "RopesAtDawn$Crossing" 44 ⟨"RopesAtDawn$Row", "at", "(I)I"⟩ ∈ lw_gd := gd (wk 703 (by decide +kernel)) rfl
theorem lk_x1_48 : Cond.methodLink "RopesAtDawn$Crossing" 48 ⟨"RopesAtDawn$Dawn", "rowOf", "(I)LRopesAtDawn$Row;"⟩ ∈ lw_gd := gd (wk 704 (by decide +kernel)) rfl
theorem lk_x1_52 : Cond.methodLink "RopesAtDawn$Crossing" 52 ⟨"RopesAtDawn$Crossing", "crossOne", "(LRopesAtDawn$Dawn;II)I"⟩ ∈ lw_gd := gd (wk 705 (by decide +kernel)) rfl
theorem lk_x1_56 : Cond.methodLink "RopesAtDawn$Crossing" 56 ⟨"RopesAtDawn$Dawn", "slowestPace", "(I)I"⟩ ∈ lw_gd := gd (wk 709 (by decide +kernel)) rfl
theorem lk_x1_63 : Cond.methodLink "RopesAtDawn$Crossing" 63 ⟨"RopesAtDawn$Fours", "size", "()I"⟩ ∈ lw_gd := gd (wk 713 (by decide +kernel)) rfl
theorem lk_x1_66 : Cond.methodLink "RopesAtDawn$Crossing" 66 ⟨"RopesAtDawn$Crossing", "isOff", "(II)I"⟩ ∈ lw_gd := gd (wk 714 (by decide +kernel)) rfl
theorem lk_x1_75 : Cond.methodLink "RopesAtDawn$Crossing" 75 ⟨"RopesAtDawn$Crossing", "cellOf", "(II)I"⟩ ∈ lw_gd := gd (wk 718 (by decide +kernel)) rfl
theorem lk_x1_70 : Cond.methodLink "RopesAtDawn$Crossing" 70 ⟨"java/lang/Math", "max", "(II)I"⟩ ∈ lw_gd := gd (wk 721 (by decide +kernel)) rfl
theorem lk_x9_228 : Cond.methodLink "RopesAtDawn" 228 ⟨"RopesAtDawn$Crossing", "comesTo", "(II)I"⟩ ∈ lw_gd := gd (wk 722 (by decide +kernel)) rfl
theorem lk_x9_231 : Cond.methodLink "RopesAtDawn" 231 ⟨"RopesAtDawn$Crossing", "isOff", "(II)I"⟩ ∈ lw_gd := gd (wk 726 (by decide +kernel)) rfl
theorem lk_l_114 : Cond.methodLink "RopesAtDawnLaw" 114 ⟨"RopesAtDawn", "risk", "(II)I"⟩ ∈ lw_gd := gd (wk 727 (by decide +kernel)) rfl
theorem lk_x9_234 : Cond.methodLink "RopesAtDawn" 234 ⟨"RopesAtDawn$Dawn", "aheadOf", "(I)I"⟩ ∈ lw_gd := gd (wk 731 (by decide +kernel)) rfl
theorem lk_x9_237 : Cond.methodLink "RopesAtDawn" 237 ⟨"RopesAtDawn$Crossing", "riskOf", "(LRopesAtDawn$Dawn;IIII)I"⟩ ∈ lw_gd := gd (wk 735 (by decide +kernel)) rfl
theorem lk_x1_78 : Cond.methodLink "RopesAtDawn$Crossing" 78 ⟨"RopesAtDawn$Crossing", "comesTo", "(II)I"⟩ ∈ lw_gd := gd (wk 739 (by decide +kernel)) rfl
theorem lk_x1_81 : Cond.methodLink "RopesAtDawn$Crossing" 81 ⟨"RopesAtDawn$Fours", "get", "(II)I"⟩ ∈ lw_gd := gd (wk 740 (by decide +kernel)) rfl
theorem lk_x1_87 : Cond.methodLink "RopesAtDawn$Crossing" 87 ⟨"RopesAtDawn$Reckoner", "name", "(IIIII)V"⟩ ∈ lw_gd := gd (wk 741 (by decide +kernel)) rfl
theorem lk_x1_91 : Cond.methodLink "RopesAtDawn$Crossing" 91 ⟨"RopesAtDawn$Dawn", "textOf", "(I)LRopesAtDawn$Row;"⟩ ∈ lw_gd := gd (wk 742 (by decide +kernel)) rfl
theorem lk_x1_94 : Cond.methodLink "RopesAtDawn$Crossing" 94 ⟨"RopesAtDawn$Reckoner", "give", "(ILRopesAtDawn$Row;)I"⟩ ∈ lw_gd := gd (wk 743 (by decide +kernel)) rfl
theorem lk_l_118 : Cond.methodLink "RopesAtDawnLaw" 118 ⟨"RopesAtDawn", "over", "()I"⟩ ∈ lw_gd := gd (wk 744 (by decide +kernel)) rfl
theorem lk_l_122 : Cond.methodLink "RopesAtDawnLaw" 122 ⟨"RopesAtDawn", "toll", "()I"⟩ ∈ lw_gd := gd (wk 748 (by decide +kernel)) rfl
theorem lk_x9_244 : Cond.methodLink "RopesAtDawn" 244 ⟨"RopesAtDawn$Crossing", "tollOf", "(LRopesAtDawn$Dawn;)I"⟩ ∈ lw_gd := gd (wk 752 (by decide +kernel)) rfl
theorem lk_x1_98 : Cond.methodLink "RopesAtDawn$Crossing" 98 ⟨"RopesAtDawn$Crossing", "cross", "(LRopesAtDawn$Dawn;)V"⟩ ∈ lw_gd := gd (wk 756 (by decide +kernel)) rfl
theorem lk_x1_102 : Cond.methodLink "RopesAtDawn$Crossing" 102 ⟨"RopesAtDawn$Crossing", "tollAt", "(LRopesAtDawn$Dawn;III)I"⟩ ∈ lw_gd := gd (wk 757 (by decide +kernel)) rfl
theorem lk_x1_106 : Cond.methodLink "RopesAtDawn$Crossing" 106 ⟨"RopesAtDawn$Dawn", "holdAt", "(II)I"⟩ ∈ lw_gd := gd (wk 761 (by decide +kernel)) rfl
theorem lk_x1_109 : Cond.methodLink "RopesAtDawn$Crossing" 109 ⟨"RopesAtDawn$Dawn", "pullOf", "(II)I"⟩ ∈ lw_gd := gd (wk 762 (by decide +kernel)) rfl
theorem lk_x1_112 : Cond.methodLink "RopesAtDawn$Crossing" 112 ⟨"RopesAtDawn$Crossing", "riskOf", "(LRopesAtDawn$Dawn;IIII)I"⟩ ∈ lw_gd := gd (wk 763 (by decide +kernel)) rfl
theorem lk_x1_116 : Cond.methodLink "RopesAtDawn$Crossing" 116 ⟨"RopesAtDawn$Dawn", "lostWithOne", "(I)I"⟩ ∈ lw_gd := gd (wk 764 (by decide +kernel)) rfl
theorem lk_l_126 : Cond.methodLink "RopesAtDawnLaw" 126 ⟨"RopesAtDawn", "order", "(II)I"⟩ ∈ lw_gd := gd (wk 765 (by decide +kernel)) rfl
theorem lk_x9_248 : Cond.methodLink "RopesAtDawn" 248 ⟨"RopesAtDawn$Chooser", "chooseOrder", "(LRopesAtDawn$Dawn;I)V"⟩ ∈ lw_gd := gd (wk 769 (by decide +kernel)) rfl
theorem lk_x0_46 : Cond.methodLink "RopesAtDawn$Chooser" 46 ⟨"RopesAtDawn$Chooser", "begin", "(LRopesAtDawn$Dawn;)V"⟩ ∈ lw_gd := gd (wk 773 (by decide +kernel)) rfl
theorem lk_x0_41 : Cond.methodLink "RopesAtDawn$Chooser" 41 ⟨"RopesAtDawn$Dawn", "copyFrom", "(LRopesAtDawn$Dawn;)V"⟩ ∈ lw_gd := gd (wk 777 (by decide +kernel)) rfl
theorem lk_x2_80 : Cond.methodLink "RopesAtDawn$Dawn" 80 ⟨"RopesAtDawn$Fours", "copyFrom", "(LRopesAtDawn$Fours;)V"⟩ ∈ lw_gd := gd (wk 781 (by decide +kernel)) rfl
theorem lk_x3_47 : Cond.methodLink "RopesAtDawn$Fours" 47 ⟨"java/lang/Math", "min", "(II)I"⟩ ∈ lw_gd := gd (wk 785 (by decide +kernel)) rfl
theorem lk_x3_50 : Cond.methodLink "RopesAtDawn$Fours" 50 ⟨"java/lang/System", "arraycopy", "(Ljava/lang/Object;ILjava/lang/Object;II)V"⟩ ∈ lw_gd := gd (wk 786 (by decide +kernel)) rfl
theorem lk_x2_84 : Cond.methodLink "RopesAtDawn$Dawn" 84 ⟨"RopesAtDawn$Row", "copyFrom", "(LRopesAtDawn$Row;)V"⟩ ∈ lw_gd := gd (wk 787 (by decide +kernel)) rfl
theorem lk_x0_49 : Cond.methodLink "RopesAtDawn$Chooser" 49 ⟨"RopesAtDawn$Dawn", "rowOf", "(I)LRopesAtDawn$Row;"⟩ ∈ lw_gd := gd (wk 789 (by decide +kernel)) rfl
theorem lk_x0_53 : Cond.methodLink "RopesAtDawn$Chooser" 53 ⟨"RopesAtDawn$Row", "sort", "()V"⟩ ∈ lw_gd := gd (wk 790 (by decide +kernel)) rfl
theorem lk_x6_41 : Cond.methodLink "RopesAtDawn$Row" 41 ⟨"RopesAtDawn$Row", "exchange", "(II)V"⟩ ∈ lw_gd := gd (wk 794 (by decide +kernel)) rfl
theorem lk_x0_56 : Cond.methodLink "RopesAtDawn$Chooser" 56 ⟨"RopesAtDawn$Crossing", "tollOf", "(LRopesAtDawn$Dawn;)I"⟩ ∈ lw_gd := gd (wk 798 (by decide +kernel)) rfl
theorem lk_x0_60 : Cond.methodLink "RopesAtDawn$Chooser" 60 ⟨"RopesAtDawn$Row", "copyFrom", "(LRopesAtDawn$Row;)V"⟩ ∈ lw_gd := gd (wk 799 (by decide +kernel)) rfl
theorem lk_x0_63 : Cond.methodLink "RopesAtDawn$Chooser" 63 ⟨"RopesAtDawn$Row", "next", "()Z"⟩ ∈ lw_gd := gd (wk 800 (by decide +kernel)) rfl
theorem lk_l_130 : Cond.methodLink "RopesAtDawnLaw" 130 ⟨"RopesAtDawn", "space", "(I)I"⟩ ∈ lw_gd := gd (wk 804 (by decide +kernel)) rfl
theorem lk_x9_258 : Cond.methodLink "RopesAtDawn" 258 ⟨"RopesAtDawn$Chooser", "chooseSpace", "(LRopesAtDawn$Dawn;I)V"⟩ ∈ lw_gd := gd (wk 808 (by decide +kernel)) rfl
theorem lk_x0_77 : Cond.methodLink "RopesAtDawn$Chooser" 77 ⟨"RopesAtDawn$Fours", "change", "(III)V"⟩ ∈ lw_gd := gd (wk 812 (by decide +kernel)) rfl
theorem lk_x0_83 : Cond.methodLink "RopesAtDawn$Chooser" 83 ⟨"RopesAtDawn$Chooser", "weigh", "(II)V"⟩ ∈ lw_gd := gd (wk 813 (by decide +kernel)) rfl
theorem lk_l_134 : Cond.methodLink "RopesAtDawnLaw" 134 ⟨"RopesAtDawn", "line", "(I)I"⟩ ∈ lw_gd := gd (wk 817 (by decide +kernel)) rfl
theorem lk_x9_264 : Cond.methodLink "RopesAtDawn" 264 ⟨"RopesAtDawn$Chooser", "chooseLine", "(LRopesAtDawn$Dawn;)V"⟩ ∈ lw_gd := gd (wk 821 (by decide +kernel)) rfl
theorem lk_l_138 : Cond.methodLink "RopesAtDawnLaw" 138 ⟨"RopesAtDawn", "parts", "(II)I"⟩ ∈ lw_gd := gd (wk 825 (by decide +kernel)) rfl
theorem lk_x9_267 : Cond.methodLink "RopesAtDawn" 267 ⟨"RopesAtDawn$Chooser", "chooseParts", "(LRopesAtDawn$Dawn;II)V"⟩ ∈ lw_gd := gd (wk 829 (by decide +kernel)) rfl
theorem lk_x0_87 : Cond.methodLink "RopesAtDawn$Chooser" 87 ⟨"RopesAtDawn$Row", "bits", "()I"⟩ ∈ lw_gd := gd (wk 833 (by decide +kernel)) rfl
theorem lk_x0_91 : Cond.methodLink "RopesAtDawn$Chooser" 91 ⟨"java/lang/Integer", "bitCount", "(I)I"⟩ ∈ lw_gd := gd (wk 837 (by decide +kernel)) rfl
theorem lk_x0_97 : Cond.methodLink "RopesAtDawn$Chooser" 97 ⟨"RopesAtDawn$Row", "becomeBits", "(I)V"⟩ ∈ lw_gd := gd (wk 843 (by decide +kernel)) rfl
theorem lk_x6_34 : Cond.methodLink "RopesAtDawn$Row" 34 ⟨"RopesAtDawn$Row", "empty", "()V"⟩ ∈ lw_gd := gd (wk 847 (by decide +kernel)) rfl
theorem lk_x6_37 : Cond.methodLink "RopesAtDawn$Row" 37 ⟨"RopesAtDawn$Row", "add", "(I)V"⟩ ∈ lw_gd := gd (wk 848 (by decide +kernel)) rfl
theorem lk_l_142 : Cond.methodLink "RopesAtDawnLaw" 142 ⟨"RopesAtDawn", "latest", "(I)I"⟩ ∈ lw_gd := gd (wk 849 (by decide +kernel)) rfl
theorem lk_x9_271 : Cond.methodLink "RopesAtDawn" 271 ⟨"java/lang/Math", "min", "(II)I"⟩ ∈ lw_gd := gd (wk 853 (by decide +kernel)) rfl
theorem lk_l_146 : Cond.methodLink "RopesAtDawnLaw" 146 ⟨"RopesAtDawn", "best", "(II)I"⟩ ∈ lw_gd := gd (wk 854 (by decide +kernel)) rfl
theorem lk_x9_276 : Cond.methodLink "RopesAtDawn" 276 ⟨"RopesAtDawn$Chooser", "chooseStart", "(LRopesAtDawn$Dawn;II)V"⟩ ∈ lw_gd := gd (wk 858 (by decide +kernel)) rfl
theorem lk_x0_103 : Cond.methodLink "RopesAtDawn$Chooser" 103 ⟨"RopesAtDawn$Crossing", "cross", "(LRopesAtDawn$Dawn;)V"⟩ ∈ lw_gd := gd (wk 862 (by decide +kernel)) rfl
theorem lk_x0_106 : Cond.methodLink "RopesAtDawn$Chooser" 106 ⟨"RopesAtDawn$Crossing", "turnsHour", "(LRopesAtDawn$Dawn;)Z"⟩ ∈ lw_gd := gd (wk 863 (by decide +kernel)) rfl
theorem lk_l_150 : Cond.methodLink "RopesAtDawnLaw" 150 ⟨"RopesAtDawn", "left", "()I"⟩ ∈ lw_gd := gd (wk 867 (by decide +kernel)) rfl
theorem lk_x9_279 : Cond.methodLink "RopesAtDawn" 279 ⟨"RopesAtDawn$Chooser", "chooseLeft", "(LRopesAtDawn$Dawn;)V"⟩ ∈ lw_gd := gd (wk 871 (by decide +kernel)) rfl
theorem lk_x0_113 : Cond.methodLink "RopesAtDawn$Chooser" 113 ⟨"RopesAtDawn$Fours", "size", "()I"⟩ ∈ lw_gd := gd (wk 875 (by decide +kernel)) rfl
theorem lk_x0_116 : Cond.methodLink "RopesAtDawn$Chooser" 116 ⟨"RopesAtDawn$Dawn", "ropeOf", "(I)I"⟩ ∈ lw_gd := gd (wk 876 (by decide +kernel)) rfl
theorem lk_x0_119 : Cond.methodLink "RopesAtDawn$Chooser" 119 ⟨"RopesAtDawn$Dawn", "isInLine", "(I)Z"⟩ ∈ lw_gd := gd (wk 877 (by decide +kernel)) rfl
theorem lk_x0_123 : Cond.methodLink "RopesAtDawn$Chooser" 123 ⟨"RopesAtDawn$Dawn", "placeOf", "(I)I"⟩ ∈ lw_gd := gd (wk 878 (by decide +kernel)) rfl
theorem lk_x0_126 : Cond.methodLink "RopesAtDawn$Chooser" 126 ⟨"RopesAtDawn$Row", "removeAt", "(I)V"⟩ ∈ lw_gd := gd (wk 879 (by decide +kernel)) rfl
theorem lk_l_154 : Cond.methodLink "RopesAtDawnLaw" 154 ⟨"RopesAtDawn", "lead", "(I)I"⟩ ∈ lw_gd := gd (wk 880 (by decide +kernel)) rfl
theorem lk_x9_282 : Cond.methodLink "RopesAtDawn" 282 ⟨"RopesAtDawn$Chooser", "chooseLead", "(LRopesAtDawn$Dawn;I)V"⟩ ∈ lw_gd := gd (wk 884 (by decide +kernel)) rfl
theorem lk_x0_129 : Cond.methodLink "RopesAtDawn$Chooser" 129 ⟨"RopesAtDawn$Row", "exchange", "(II)V"⟩ ∈ lw_gd := gd (wk 888 (by decide +kernel)) rfl
theorem lk_x0_132 : Cond.methodLink "RopesAtDawn$Chooser" 132 ⟨"RopesAtDawn$Row", "size", "()I"⟩ ∈ lw_gd := gd (wk 889 (by decide +kernel)) rfl
theorem lk_l_158 : Cond.methodLink "RopesAtDawnLaw" 158 ⟨"RopesAtDawn", "take", "(II)I"⟩ ∈ lw_gd := gd (wk 890 (by decide +kernel)) rfl
theorem lk_l_162 : Cond.methodLink "RopesAtDawnLaw" 162 ⟨"RopesAtDawn", "morning", "()I"⟩ ∈ lw_gd := gd (wk 894 (by decide +kernel)) rfl
theorem lk_x9_285 : Cond.methodLink "RopesAtDawn" 285 ⟨"RopesAtDawn", "runMorning", "()I"⟩ ∈ lw_gd := gd (wk 898 (by decide +kernel)) rfl
theorem lk_x9_331 : Cond.methodLink "RopesAtDawn" 331 ⟨"RopesAtDawn", "lostOn", "(II)I"⟩ ∈ lw_gd := gd (wk 902 (by decide +kernel)) rfl
theorem lk_x9_334 : Cond.methodLink "RopesAtDawn" 334 ⟨"RopesAtDawn$Dawn", "draw", "()I"⟩ ∈ lw_gd := gd (wk 906 (by decide +kernel)) rfl
theorem lk_x9_337 : Cond.methodLink "RopesAtDawn" 337 ⟨"RopesAtDawn$Row", "bits", "()I"⟩ ∈ lw_gd := gd (wk 911 (by decide +kernel)) rfl
theorem lk_l_166 : Cond.methodLink "RopesAtDawnLaw" 166 ⟨"RopesAtDawn", "mornings", "(II)I"⟩ ∈ lw_gd := gd (wk 912 (by decide +kernel)) rfl
theorem lk_x9_288 : Cond.methodLink "RopesAtDawn" 288 ⟨"java/lang/Integer", "bitCount", "(I)I"⟩ ∈ lw_gd := gd (wk 916 (by decide +kernel)) rfl
theorem lk_l_170 : Cond.methodLink "RopesAtDawnLaw" 170 ⟨"RopesAtDawn", "seed", "(I)I"⟩ ∈ lw_gd := gd (wk 917 (by decide +kernel)) rfl
theorem lk_l_174 : Cond.methodLink "RopesAtDawnLaw" 174 ⟨"RopesAtDawn", "voice", "(III)I"⟩ ∈ lw_gd := gd (wk 921 (by decide +kernel)) rfl
theorem lk_x9_296 : Cond.methodLink "RopesAtDawn" 296 ⟨"RopesAtDawn$Voices", "speak", "(LRopesAtDawn$Fours;III)I"⟩ ∈ lw_gd := gd (wk 925 (by decide +kernel)) rfl
theorem lk_x8_30 : Cond.methodLink "RopesAtDawn$Voices" 30 ⟨"RopesAtDawn$Fours", "get", "(II)I"⟩ ∈ lw_gd := gd (wk 929 (by decide +kernel)) rfl
theorem lk_x8_36 : Cond.methodLink "RopesAtDawn$Voices" 36 ⟨"RopesAtDawn$Row", "empty", "()V"⟩ ∈ lw_gd := gd (wk 930 (by decide +kernel)) rfl
theorem lk_x8_39 : Cond.methodLink "RopesAtDawn$Voices" 39 ⟨"RopesAtDawn$Voices", "say", "(IIII)I"⟩ ∈ lw_gd := gd (wk 931 (by decide +kernel)) rfl
theorem lk_x8_53 : Cond.methodLink "RopesAtDawn$Voices" 53 ⟨"RopesAtDawn$Voices", "bearerOf", "(II)I"⟩ ∈ lw_gd := gd (wk 935 (by decide +kernel)) rfl
theorem lk_x8_43 : Cond.methodLink "RopesAtDawn$Voices" 43 ⟨"RopesAtDawn$Voices", "bodyOf", "(II)I"⟩ ∈ lw_gd := gd (wk 938 (by decide +kernel)) rfl
theorem lk_x8_56 : Cond.methodLink "RopesAtDawn$Voices" 56 ⟨"RopesAtDawn$Row", "add", "(I)V"⟩ ∈ lw_gd := gd (wk 944 (by decide +kernel)) rfl
theorem lk_l_178 : Cond.methodLink "RopesAtDawnLaw" 178 ⟨"RopesAtDawn", "trace", "(I)I"⟩ ∈ lw_gd := gd (wk 945 (by decide +kernel)) rfl
theorem lk_l_182 : Cond.methodLink "RopesAtDawnLaw" 182 ⟨"RopesAtDawn", "sheet", "(III)I"⟩ ∈ lw_gd := gd (wk 949 (by decide +kernel)) rfl
theorem lk_x9_303 : Cond.methodLink "RopesAtDawn" 303 ⟨"RopesAtDawn$Sheet", "become", "(II)V"⟩ ∈ lw_gd := gd (wk 953 (by decide +kernel)) rfl
theorem lk_x7_22 : Cond.methodLink "RopesAtDawn$Sheet" 22 ⟨"java/lang/Math", "min", "(II)I"⟩ ∈ lw_gd := gd (wk 957 (by decide +kernel)) rfl
theorem lk_x7_28 : Cond.methodLink "RopesAtDawn$Sheet" 28 ⟨"java/lang/Math", "max", "(II)I"⟩ ∈ lw_gd := gd (wk 958 (by decide +kernel)) rfl
theorem lk_x7_31 : Cond.methodLink "RopesAtDawn$Sheet" 31 ⟨"java/util/Arrays", "fill", "([II)V"⟩ ∈ lw_gd := gd (wk 959 (by decide +kernel)) rfl
theorem lk_l_186 : Cond.methodLink "RopesAtDawnLaw" 186 ⟨"RopesAtDawn", "put", "(III)I"⟩ ∈ lw_gd := gd (wk 962 (by decide +kernel)) rfl
theorem lk_x9_306 : Cond.methodLink "RopesAtDawn" 306 ⟨"RopesAtDawn$Sheet", "stands", "(II)Z"⟩ ∈ lw_gd := gd (wk 966 (by decide +kernel)) rfl
theorem lk_x9_309 : Cond.methodLink "RopesAtDawn" 309 ⟨"RopesAtDawn$Sheet", "write", "(II)V"⟩ ∈ lw_gd := gd (wk 970 (by decide +kernel)) rfl
theorem lk_l_190 : Cond.methodLink "RopesAtDawnLaw" 190 ⟨"RopesAtDawn", "move", "(IIIII)I"⟩ ∈ lw_gd := gd (wk 974 (by decide +kernel)) rfl
theorem lk_x9_315 : Cond.methodLink "RopesAtDawn" 315 ⟨"RopesAtDawn$Sheet", "copyFrom", "(ILRopesAtDawn$Sheet;II)V"⟩ ∈ lw_gd := gd (wk 978 (by decide +kernel)) rfl
theorem lk_x7_37 : Cond.methodLink "RopesAtDawn$Sheet" 37 ⟨"RopesAtDawn$Sheet", "stands", "(II)Z"⟩ ∈ lw_gd := gd (wk 982 (by decide +kernel)) rfl
theorem lk_x7_41 : Cond.methodLink "RopesAtDawn$Sheet" 41 ⟨"java/lang/System", "arraycopy", "(Ljava/lang/Object;ILjava/lang/Object;II)V"⟩ ∈ lw_gd := gd (wk 983 (by decide +kernel)) rfl
theorem lk_l_194 : Cond.methodLink "RopesAtDawnLaw" 194 ⟨"RopesAtDawn", "image", "()I"⟩ ∈ lw_gd := gd (wk 984 (by decide +kernel)) rfl
theorem lk_x9_318 : Cond.methodLink "RopesAtDawn" 318 ⟨"RopesAtDawn$Dawn", "copyFrom", "(LRopesAtDawn$Dawn;)V"⟩ ∈ lw_gd := gd (wk 988 (by decide +kernel)) rfl
theorem lk_l_198 : Cond.methodLink "RopesAtDawnLaw" 198 ⟨"RopesAtDawn", "restore", "()I"⟩ ∈ lw_gd := gd (wk 989 (by decide +kernel)) rfl
theorem lk_l_202 : Cond.methodLink "RopesAtDawnLaw" 202 ⟨"RopesAtDawn", "tell", "(I)I"⟩ ∈ lw_gd := gd (wk 993 (by decide +kernel)) rfl
theorem lk_l_206 : Cond.methodLink "RopesAtDawnLaw" 206 ⟨"RopesAtDawn", "check", "()I"⟩ ∈ lw_gd := gd (wk 997 (by decide +kernel)) rfl
theorem lk_x9_323 : Cond.methodLink "RopesAtDawn" 323 ⟨"RopesAtDawn", "placeOfWrong", "()I"⟩ ∈ lw_gd := gd (wk 1001 (by decide +kernel)) rfl
theorem lk_l_210 : Cond.methodLink "RopesAtDawnLaw" 210 ⟨"RopesAtDawn", "count", "(I)I"⟩ ∈ lw_gd := gd (wk 1005 (by decide +kernel)) rfl
theorem lk_l_214 : Cond.methodLink "RopesAtDawnLaw" 214 ⟨"RopesAtDawn", "told", "(I)I"⟩ ∈ lw_gd := gd (wk 1009 (by decide +kernel)) rfl
theorem lk_l_12 : Cond.methodLink "RopesAtDawnLaw" 12 ⟨"RopesAtDawnModel", "<init>", "()V"⟩ ∈ lw_gd := gd (wk 1015 (by decide +kernel)) rfl
theorem lk_x10_3 : Cond.methodLink "RopesAtDawnModel" 3 ⟨"java/lang/Object", "<init>", "()V"⟩ ∈ lw_gd := gd (wk 1018 (by decide +kernel)) rfl
theorem lk_l_17 : Cond.methodLink "RopesAtDawnLaw" 17 ⟨"RopesAtDawnModel", "person", "(IIII)I"⟩ ∈ lw_gd := gd (wk 1108 (by decide +kernel)) rfl
theorem lk_x10_77 : Cond.methodLink "RopesAtDawnModel" 77 ⟨"RopesAtDawnModel", "isAsTold", "(IIII)Z"⟩ ∈ lw_gd := gd (wk 1112 (by decide +kernel)) rfl
theorem lk_x10_69 : Cond.methodLink "RopesAtDawnModel" 69 ⟨"RopesAtDawnModel", "within", "(III)Z"⟩ ∈ lw_gd := gd (wk 1115 (by decide +kernel)) rfl
theorem lk_x10_82 : Cond.methodLink "RopesAtDawnModel" 82 ⟨"RopesAtDawnModel", "finding", "(I)I"⟩ ∈ lw_gd := gd (wk 1119 (by decide +kernel)) rfl
theorem lk_x10_87 : Cond.methodLink "RopesAtDawnModel" 87 ⟨"RopesAtDawnModel", "comes", "(IIII)V"⟩ ∈ lw_gd := gd (wk 1125 (by decide +kernel)) rfl
theorem lk_l_22 : Cond.methodLink "RopesAtDawnLaw" 22 ⟨"RopesAtDawnModel", "ofPerson", "(II)I"⟩ ∈ lw_gd := gd (wk 1129 (by decide +kernel)) rfl
theorem lk_x10_90 : Cond.methodLink "RopesAtDawnModel" 90 ⟨"RopesAtDawnModel", "is", "(II)Z"⟩ ∈ lw_gd := gd (wk 1133 (by decide +kernel)) rfl
theorem lk_x10_94 : Cond.methodLink "RopesAtDawnModel" 94 ⟨"RopesAtDawnModel", "of", "(II)I"⟩ ∈ lw_gd := gd (wk 1137 (by decide +kernel)) rfl
theorem lk_x10_98 : Cond.methodLink "RopesAtDawnModel" 98 ⟨"RopesAtDawnModel", "ropeOf", "(I)I"⟩ ∈ lw_gd := gd (wk 1141 (by decide +kernel)) rfl
theorem lk_x10_118 : Cond.methodLink "RopesAtDawnModel" 118 ⟨"RopesAtDawnModel", "many", "(I)I"⟩ ∈ lw_gd := gd (wk 1145 (by decide +kernel)) rfl
theorem lk_x10_115 : Cond.methodLink "RopesAtDawnModel" 115 ⟨"RopesAtDawnModel", "rope", "(II)I"⟩ ∈ lw_gd := gd (wk 1149 (by decide +kernel)) rfl
theorem lk_x10_121 : Cond.methodLink "RopesAtDawnModel" 121 ⟨"RopesAtDawnModel", "who", "(II)I"⟩ ∈ lw_gd := gd (wk 1153 (by decide +kernel)) rfl
theorem lk_x10_101 : Cond.methodLink "RopesAtDawnModel" 101 ⟨"RopesAtDawnModel", "placeOf", "(I)I"⟩ ∈ lw_gd := gd (wk 1157 (by decide +kernel)) rfl
theorem lk_l_27 : Cond.methodLink "RopesAtDawnLaw" 27 ⟨"RopesAtDawnModel", "people", "(I)I"⟩ ∈ lw_gd := gd (wk 1161 (by decide +kernel)) rfl
theorem lk_x10_104 : Cond.methodLink "RopesAtDawnModel" 104 ⟨"RopesAtDawnModel", "isSheet", "(I)Z"⟩ ∈ lw_gd := gd (wk 1165 (by decide +kernel)) rfl
theorem lk_l_31 : Cond.methodLink "RopesAtDawnLaw" 31 ⟨"RopesAtDawnModel", "piece", "(IIII)I"⟩ ∈ lw_gd := gd (wk 1169 (by decide +kernel)) rfl
theorem lk_l_35 : Cond.methodLink "RopesAtDawnLaw" 35 ⟨"RopesAtDawnModel", "ofPiece", "(II)I"⟩ ∈ lw_gd := gd (wk 1173 (by decide +kernel)) rfl
theorem lk_x10_109 : Cond.methodLink "RopesAtDawnModel" 109 ⟨"RopesAtDawnModel", "ofPieceAt", "(II)I"⟩ ∈ lw_gd := gd (wk 1177 (by decide +kernel)) rfl
theorem lk_l_39 : Cond.methodLink "RopesAtDawnLaw" 39 ⟨"RopesAtDawnModel", "start", "(I)I"⟩ ∈ lw_gd := gd (wk 1181 (by decide +kernel)) rfl
theorem lk_x10_112 : Cond.methodLink "RopesAtDawnModel" 112 ⟨"RopesAtDawnModel", "become", "(II)I"⟩ ∈ lw_gd := gd (wk 1185 (by decide +kernel)) rfl
theorem lk_l_44 : Cond.methodLink "RopesAtDawnLaw" 44 ⟨"RopesAtDawnModel", "rope", "(III)I"⟩ ∈ lw_gd := gd (wk 1189 (by decide +kernel)) rfl
theorem lk_x10_124 : Cond.methodLink "RopesAtDawnModel" 124 ⟨"RopesAtDawnModel", "isSpace", "(I)Z"⟩ ∈ lw_gd := gd (wk 1193 (by decide +kernel)) rfl
theorem lk_l_48 : Cond.methodLink "RopesAtDawnLaw" 48 ⟨"RopesAtDawnModel", "tie", "(II)I"⟩ ∈ lw_gd := gd (wk 1196 (by decide +kernel)) rfl
theorem lk_x10_132 : Cond.methodLink "RopesAtDawnModel" 132 ⟨"RopesAtDawnModel", "ties", "(III)V"⟩ ∈ lw_gd := gd (wk 1201 (by decide +kernel)) rfl
theorem lk_x10_127 : Cond.methodLink "RopesAtDawnModel" 127 ⟨"RopesAtDawnModel", "seats", "(III)V"⟩ ∈ lw_gd := gd (wk 1205 (by decide +kernel)) rfl
theorem lk_l_52 : Cond.methodLink "RopesAtDawnLaw" 52 ⟨"RopesAtDawnModel", "untie", "(I)I"⟩ ∈ lw_gd := gd (wk 1209 (by decide +kernel)) rfl
theorem lk_x10_135 : Cond.methodLink "RopesAtDawnModel" 135 ⟨"RopesAtDawnModel", "unties", "(I)V"⟩ ∈ lw_gd := gd (wk 1213 (by decide +kernel)) rfl
theorem lk_l_56 : Cond.methodLink "RopesAtDawnLaw" 56 ⟨"RopesAtDawnModel", "ofRope", "(II)I"⟩ ∈ lw_gd := gd (wk 1217 (by decide +kernel)) rfl
theorem lk_x10_139 : Cond.methodLink "RopesAtDawnModel" 139 ⟨"RopesAtDawnModel", "inLine", "(I)I"⟩ ∈ lw_gd := gd (wk 1221 (by decide +kernel)) rfl
theorem lk_l_60 : Cond.methodLink "RopesAtDawnLaw" 60 ⟨"RopesAtDawnModel", "as", "(II)I"⟩ ∈ lw_gd := gd (wk 1225 (by decide +kernel)) rfl
theorem lk_x10_142 : Cond.methodLink "RopesAtDawnModel" 142 ⟨"RopesAtDawnModel", "above", "(I)I"⟩ ∈ lw_gd := gd (wk 1229 (by decide +kernel)) rfl
theorem lk_l_64 : Cond.methodLink "RopesAtDawnLaw" 64 ⟨"RopesAtDawnModel", "set", "(III)I"⟩ ∈ lw_gd := gd (wk 1233 (by decide +kernel)) rfl
theorem lk_l_68 : Cond.methodLink "RopesAtDawnLaw" 68 ⟨"RopesAtDawnModel", "swap", "(II)I"⟩ ∈ lw_gd := gd (wk 1237 (by decide +kernel)) rfl
theorem lk_l_72 : Cond.methodLink "RopesAtDawnLaw" 72 ⟨"RopesAtDawnModel", "hold", "(I)I"⟩ ∈ lw_gd := gd (wk 1241 (by decide +kernel)) rfl
theorem lk_x10_171 : Cond.methodLink "RopesAtDawnModel" 171 ⟨"RopesAtDawnModel", "holdOf", "(II)I"⟩ ∈ lw_gd := gd (wk 1245 (by decide +kernel)) rfl
theorem lk_x10_150 : Cond.methodLink "RopesAtDawnModel" 150 ⟨"RopesAtDawnModel", "has", "(II)Z"⟩ ∈ lw_gd := gd (wk 1249 (by decide +kernel)) rfl
theorem lk_x10_167 : Cond.methodLink "RopesAtDawnModel" 167 ⟨"RopesAtDawnModel", "gripOf", "(III)I"⟩ ∈ lw_gd := gd (wk 1252 (by decide +kernel)) rfl
theorem lk_x10_153 : Cond.methodLink "RopesAtDawnModel" 153 ⟨"RopesAtDawnModel", "place", "(II)I"⟩ ∈ lw_gd := gd (wk 1256 (by decide +kernel)) rfl
theorem lk_x10_156 : Cond.methodLink "RopesAtDawnModel" 156 ⟨"java/lang/Math", "abs", "(I)I"⟩ ∈ lw_gd := gd (wk 1260 (by decide +kernel)) rfl
theorem lk_x10_161 : Cond.methodLink "RopesAtDawnModel" 161 ⟨"RopesAtDawnModel", "isLast", "(II)Z"⟩ ∈ lw_gd := gd (wk 1261 (by decide +kernel)) rfl
theorem lk_x10_164 : Cond.methodLink "RopesAtDawnModel" 164 ⟨"java/lang/Math", "max", "(II)I"⟩ ∈ lw_gd := gd (wk 1265 (by decide +kernel)) rfl
theorem lk_l_76 : Cond.methodLink "RopesAtDawnLaw" 76 ⟨"RopesAtDawnModel", "held", "(II)I"⟩ ∈ lw_gd := gd (wk 1266 (by decide +kernel)) rfl
theorem lk_x10_174 : Cond.methodLink "RopesAtDawnModel" 174 ⟨"RopesAtDawnModel", "isHeld", "(III)Z"⟩ ∈ lw_gd := gd (wk 1270 (by decide +kernel)) rfl
theorem lk_l_80 : Cond.methodLink "RopesAtDawnLaw" 80 ⟨"RopesAtDawnModel", "cost", "(II)I"⟩ ∈ lw_gd := gd (wk 1274 (by decide +kernel)) rfl
theorem lk_x10_177 : Cond.methodLink "RopesAtDawnModel" 177 ⟨"RopesAtDawnModel", "costOf", "(III)I"⟩ ∈ lw_gd := gd (wk 1278 (by decide +kernel)) rfl
theorem lk_l_84 : Cond.methodLink "RopesAtDawnLaw" 84 ⟨"RopesAtDawnModel", "haul", "(II)I"⟩ ∈ lw_gd := gd (wk 1282 (by decide +kernel)) rfl
theorem lk_x10_180 : Cond.methodLink "RopesAtDawnModel" 180 ⟨"RopesAtDawnModel", "given", "(IIIIII)I"⟩ ∈ lw_gd := gd (wk 1286 (by decide +kernel)) rfl
theorem lk_x10_243 : Cond.methodLink "RopesAtDawnModel" 243 ⟨"RopesAtDawnModel", "worked", "(I)I"⟩ ∈ lw_gd := gd (wk 1290 (by decide +kernel)) rfl
theorem lk_x10_240 : Cond.methodLink "RopesAtDawnModel" 240 ⟨"RopesAtDawnModel", "done", "(III)I"⟩ ∈ lw_gd := gd (wk 1294 (by decide +kernel)) rfl
theorem lk_x10_246 : Cond.methodLink "RopesAtDawnModel" 246 ⟨"java/lang/Math", "min", "(II)I"⟩ ∈ lw_gd := gd (wk 1297 (by decide +kernel)) rfl
theorem lk_l_91 : Cond.methodLink "RopesAtDawnLaw" 91 ⟨"RopesAtDawnModel", "feed", "(JI)I"⟩ ∈ lw_gd := gd (wk 1298 (by decide +kernel)) rfl
theorem lk_l_95 : Cond.methodLink "RopesAtDawnLaw" 95 ⟨"RopesAtDawnModel", "text", "(I)I"⟩ ∈ lw_gd := gd (wk 1303 (by decide +kernel)) rfl
theorem lk_x10_234 : Cond.methodLink "RopesAtDawnModel" 234 ⟨"RopesAtDawnModel", "either", "()V"⟩ ∈ lw_gd := gd (wk 1307 (by decide +kernel)) rfl
theorem lk_x10_200 : Cond.methodLink "RopesAtDawnModel" 200 ⟨"RopesAtDawnModel", "both", "()V"⟩ ∈ lw_gd := gd (wk 1311 (by decide +kernel)) rfl
theorem lk_x10_209 : Cond.methodLink "RopesAtDawnModel" 209 ⟨"RopesAtDawnModel", "compared", "()V"⟩ ∈ lw_gd := gd (wk 1315 (by decide +kernel)) rfl
theorem lk_x10_212 : Cond.methodLink "RopesAtDawnModel" 212 ⟨"RopesAtDawnModel", "sum", "()V"⟩ ∈ lw_gd := gd (wk 1319 (by decide +kernel)) rfl
theorem lk_x10_215 : Cond.methodLink "RopesAtDawnModel" 215 ⟨"RopesAtDawnModel", "product", "()V"⟩ ∈ lw_gd := gd (wk 1323 (by decide +kernel)) rfl
theorem lk_x10_218 : Cond.methodLink "RopesAtDawnModel" 218 ⟨"RopesAtDawnModel", "one", "()V"⟩ ∈ lw_gd := gd (wk 1327 (by decide +kernel)) rfl
theorem lk_x10_193 : Cond.methodLink "RopesAtDawnModel" 193 ⟨"RopesAtDawnModel", "here", "()I"⟩ ∈ lw_gd := gd (wk 1331 (by decide +kernel)) rfl
theorem lk_x10_206 : Cond.methodLink "RopesAtDawnModel" 206 ⟨"RopesAtDawnModel", "codes", "(I)V"⟩ ∈ lw_gd := gd (wk 1335 (by decide +kernel)) rfl
theorem lk_x10_203 : Cond.methodLink "RopesAtDawnModel" 203 ⟨"RopesAtDawnModel", "takes", "(I)Z"⟩ ∈ lw_gd := gd (wk 1339 (by decide +kernel)) rfl
theorem lk_x10_237 : Cond.methodLink "RopesAtDawnModel" 237 ⟨"RopesAtDawnModel", "nameOf", "(I)I"⟩ ∈ lw_gd := gd (wk 1343 (by decide +kernel)) rfl
theorem lk_x10_224 : Cond.methodLink "RopesAtDawnModel" 224 ⟨"java/lang/String", "length", "()I"⟩ ∈ lw_gd := gd (wk 1347 (by decide +kernel)) rfl
theorem lk_x10_227 : Cond.methodLink "RopesAtDawnModel" 227 ⟨"java/lang/String", "charAt", "(I)C"⟩ ∈ lw_gd := gd (wk 1348 (by decide +kernel)) rfl
theorem lk_rj0_495 : Cond.methodLink "java/lang/String" 495 ⟨"java/lang/StringLatin1", "charAt", "([BI)C"⟩ ∈ lw_gd := gd (wk 1352 (by decide +kernel)) rfl
theorem lk_rj1_9 : Cond.methodLink "java/lang/StringLatin1" 9 ⟨"java/lang/String", "checkIndex", "(II)V"⟩ ∈ lw_gd := gd (wk 1355 (by decide +kernel)) rfl
theorem lk_rj0_1059 : Cond.methodLink "java/lang/String" 1059 ⟨"jdk/internal/util/Preconditions", "checkIndex", "(IILjava/util/function/BiFunction;)I"⟩ ∈ lw_gd := gd (wk 1358 (by decide +kernel)) rfl
theorem lk_rj2_414 : Cond.methodLink "java/lang/StringUTF16" 414 ⟨"java/lang/String", "checkIndex", "(II)V"⟩ ∈ lw_gd := gd (wk 1367 (by decide +kernel)) rfl
theorem lk_l_100 : Cond.methodLink "RopesAtDawnLaw" 100 ⟨"RopesAtDawnModel", "law", "(IIIII)I"⟩ ∈ lw_gd := gd (wk 1368 (by decide +kernel)) rfl
theorem lk_l_104 : Cond.methodLink "RopesAtDawnLaw" 104 ⟨"RopesAtDawnModel", "join", "(I)I"⟩ ∈ lw_gd := gd (wk 1372 (by decide +kernel)) rfl
theorem lk_l_109 : Cond.methodLink "RopesAtDawnLaw" 109 ⟨"RopesAtDawnModel", "clear", "()I"⟩ ∈ lw_gd := gd (wk 1376 (by decide +kernel)) rfl
theorem lk_l_113 : Cond.methodLink "RopesAtDawnLaw" 113 ⟨"RopesAtDawnModel", "when", "(III)I"⟩ ∈ lw_gd := gd (wk 1380 (by decide +kernel)) rfl
theorem lk_x10_255 : Cond.methodLink "RopesAtDawnModel" 255 ⟨"RopesAtDawnModel", "cross", "()V"⟩ ∈ lw_gd := gd (wk 1384 (by decide +kernel)) rfl
theorem lk_x10_252 : Cond.methodLink "RopesAtDawnModel" 252 ⟨"RopesAtDawnModel", "paceOf", "(I)I"⟩ ∈ lw_gd := gd (wk 1388 (by decide +kernel)) rfl
theorem lk_l_117 : Cond.methodLink "RopesAtDawnLaw" 117 ⟨"RopesAtDawnModel", "risk", "(II)I"⟩ ∈ lw_gd := gd (wk 1392 (by decide +kernel)) rfl
theorem lk_x10_261 : Cond.methodLink "RopesAtDawnModel" 261 ⟨"RopesAtDawnModel", "isInLine", "(I)Z"⟩ ∈ lw_gd := gd (wk 1396 (by decide +kernel)) rfl
theorem lk_x10_258 : Cond.methodLink "RopesAtDawnModel" 258 ⟨"RopesAtDawnModel", "riskOf", "(III)I"⟩ ∈ lw_gd := gd (wk 1400 (by decide +kernel)) rfl
theorem lk_l_121 : Cond.methodLink "RopesAtDawnLaw" 121 ⟨"RopesAtDawnModel", "over", "()I"⟩ ∈ lw_gd := gd (wk 1404 (by decide +kernel)) rfl
theorem lk_l_125 : Cond.methodLink "RopesAtDawnLaw" 125 ⟨"RopesAtDawnModel", "toll", "()I"⟩ ∈ lw_gd := gd (wk 1408 (by decide +kernel)) rfl
theorem lk_x10_264 : Cond.methodLink "RopesAtDawnModel" 264 ⟨"RopesAtDawnModel", "tollOf", "()I"⟩ ∈ lw_gd := gd (wk 1412 (by decide +kernel)) rfl
theorem lk_l_129 : Cond.methodLink "RopesAtDawnLaw" 129 ⟨"RopesAtDawnModel", "order", "(II)I"⟩ ∈ lw_gd := gd (wk 1416 (by decide +kernel)) rfl
theorem lk_x10_282 : Cond.methodLink "RopesAtDawnModel" 282 ⟨"RopesAtDawnModel", "findOrder", "(I)V"⟩ ∈ lw_gd := gd (wk 1420 (by decide +kernel)) rfl
theorem lk_x10_73 : Cond.methodLink "RopesAtDawnModel" 73 ⟨"RopesAtDawnModel", "copy", "([I[I)V"⟩ ∈ lw_gd := gd (wk 1424 (by decide +kernel)) rfl
theorem lk_x10_271 : Cond.methodLink "RopesAtDawnModel" 271 ⟨"RopesAtDawnModel", "sorts", "([II)V"⟩ ∈ lw_gd := gd (wk 1427 (by decide +kernel)) rfl
theorem lk_x10_267 : Cond.methodLink "RopesAtDawnModel" 267 ⟨"RopesAtDawnModel", "swaps", "([III)V"⟩ ∈ lw_gd := gd (wk 1430 (by decide +kernel)) rfl
theorem lk_x10_278 : Cond.methodLink "RopesAtDawnModel" 278 ⟨"RopesAtDawnModel", "nexts", "([II)Z"⟩ ∈ lw_gd := gd (wk 1433 (by decide +kernel)) rfl
theorem lk_l_133 : Cond.methodLink "RopesAtDawnLaw" 133 ⟨"RopesAtDawnModel", "space", "(I)I"⟩ ∈ lw_gd := gd (wk 1436 (by decide +kernel)) rfl
theorem lk_x10_288 : Cond.methodLink "RopesAtDawnModel" 288 ⟨"RopesAtDawnModel", "spaceOf", "(I)I"⟩ ∈ lw_gd := gd (wk 1440 (by decide +kernel)) rfl
theorem lk_x10_285 : Cond.methodLink "RopesAtDawnModel" 285 ⟨"RopesAtDawnModel", "back", "(I)I"⟩ ∈ lw_gd := gd (wk 1444 (by decide +kernel)) rfl
theorem lk_l_137 : Cond.methodLink "RopesAtDawnLaw" 137 ⟨"RopesAtDawnModel", "line", "(I)I"⟩ ∈ lw_gd := gd (wk 1448 (by decide +kernel)) rfl
theorem lk_x10_291 : Cond.methodLink "RopesAtDawnModel" 291 ⟨"RopesAtDawnModel", "findLine", "()V"⟩ ∈ lw_gd := gd (wk 1452 (by decide +kernel)) rfl
theorem lk_l_141 : Cond.methodLink "RopesAtDawnLaw" 141 ⟨"RopesAtDawnModel", "parts", "(II)I"⟩ ∈ lw_gd := gd (wk 1456 (by decide +kernel)) rfl
theorem lk_x10_294 : Cond.methodLink "RopesAtDawnModel" 294 ⟨"RopesAtDawnModel", "parted", "(II)Z"⟩ ∈ lw_gd := gd (wk 1460 (by decide +kernel)) rfl
theorem lk_l_145 : Cond.methodLink "RopesAtDawnLaw" 145 ⟨"RopesAtDawnModel", "latest", "(I)I"⟩ ∈ lw_gd := gd (wk 1464 (by decide +kernel)) rfl
theorem lk_l_149 : Cond.methodLink "RopesAtDawnLaw" 149 ⟨"RopesAtDawnModel", "best", "(II)I"⟩ ∈ lw_gd := gd (wk 1468 (by decide +kernel)) rfl
theorem lk_l_153 : Cond.methodLink "RopesAtDawnLaw" 153 ⟨"RopesAtDawnModel", "left", "()I"⟩ ∈ lw_gd := gd (wk 1472 (by decide +kernel)) rfl
theorem lk_l_157 : Cond.methodLink "RopesAtDawnLaw" 157 ⟨"RopesAtDawnModel", "lead", "(I)I"⟩ ∈ lw_gd := gd (wk 1476 (by decide +kernel)) rfl
theorem lk_l_161 : Cond.methodLink "RopesAtDawnLaw" 161 ⟨"RopesAtDawnModel", "take", "(II)I"⟩ ∈ lw_gd := gd (wk 1480 (by decide +kernel)) rfl
theorem lk_l_165 : Cond.methodLink "RopesAtDawnLaw" 165 ⟨"RopesAtDawnModel", "morning", "()I"⟩ ∈ lw_gd := gd (wk 1484 (by decide +kernel)) rfl
theorem lk_x10_305 : Cond.methodLink "RopesAtDawnModel" 305 ⟨"RopesAtDawnModel", "lostBy", "()I"⟩ ∈ lw_gd := gd (wk 1488 (by decide +kernel)) rfl
theorem lk_x10_298 : Cond.methodLink "RopesAtDawnModel" 298 ⟨"RopesAtDawnModel", "drawn", "(I)I"⟩ ∈ lw_gd := gd (wk 1492 (by decide +kernel)) rfl
theorem lk_x10_301 : Cond.methodLink "RopesAtDawnModel" 301 ⟨"RopesAtDawnModel", "loses", "(II)V"⟩ ∈ lw_gd := gd (wk 1497 (by decide +kernel)) rfl
theorem lk_l_169 : Cond.methodLink "RopesAtDawnLaw" 169 ⟨"RopesAtDawnModel", "mornings", "(II)I"⟩ ∈ lw_gd := gd (wk 1501 (by decide +kernel)) rfl
theorem lk_l_173 : Cond.methodLink "RopesAtDawnLaw" 173 ⟨"RopesAtDawnModel", "seed", "(I)I"⟩ ∈ lw_gd := gd (wk 1505 (by decide +kernel)) rfl
theorem lk_l_177 : Cond.methodLink "RopesAtDawnLaw" 177 ⟨"RopesAtDawnModel", "voice", "(III)I"⟩ ∈ lw_gd := gd (wk 1509 (by decide +kernel)) rfl
theorem lk_x10_326 : Cond.methodLink "RopesAtDawnModel" 326 ⟨"RopesAtDawnModel", "voiced", "(II)I"⟩ ∈ lw_gd := gd (wk 1513 (by decide +kernel)) rfl
theorem lk_x10_314 : Cond.methodLink "RopesAtDawnModel" 314 ⟨"RopesAtDawnModel", "bodyFrom", "(III)I"⟩ ∈ lw_gd := gd (wk 1517 (by decide +kernel)) rfl
theorem lk_x10_317 : Cond.methodLink "RopesAtDawnModel" 317 ⟨"RopesAtDawnModel", "hasOwn", "(II)Z"⟩ ∈ lw_gd := gd (wk 1521 (by decide +kernel)) rfl
theorem lk_x10_320 : Cond.methodLink "RopesAtDawnModel" 320 ⟨"RopesAtDawnModel", "body", "(III)I"⟩ ∈ lw_gd := gd (wk 1524 (by decide +kernel)) rfl
theorem lk_x10_323 : Cond.methodLink "RopesAtDawnModel" 323 ⟨"RopesAtDawnModel", "began", "(I)V"⟩ ∈ lw_gd := gd (wk 1528 (by decide +kernel)) rfl
theorem lk_l_181 : Cond.methodLink "RopesAtDawnLaw" 181 ⟨"RopesAtDawnModel", "trace", "(I)I"⟩ ∈ lw_gd := gd (wk 1532 (by decide +kernel)) rfl
theorem lk_l_185 : Cond.methodLink "RopesAtDawnLaw" 185 ⟨"RopesAtDawnModel", "sheet", "(III)I"⟩ ∈ lw_gd := gd (wk 1536 (by decide +kernel)) rfl
theorem lk_l_189 : Cond.methodLink "RopesAtDawnLaw" 189 ⟨"RopesAtDawnModel", "put", "(III)I"⟩ ∈ lw_gd := gd (wk 1540 (by decide +kernel)) rfl
theorem lk_l_193 : Cond.methodLink "RopesAtDawnLaw" 193 ⟨"RopesAtDawnModel", "move", "(IIIII)I"⟩ ∈ lw_gd := gd (wk 1544 (by decide +kernel)) rfl
theorem lk_l_197 : Cond.methodLink "RopesAtDawnLaw" 197 ⟨"RopesAtDawnModel", "image", "()I"⟩ ∈ lw_gd := gd (wk 1548 (by decide +kernel)) rfl
theorem lk_l_201 : Cond.methodLink "RopesAtDawnLaw" 201 ⟨"RopesAtDawnModel", "restore", "()I"⟩ ∈ lw_gd := gd (wk 1552 (by decide +kernel)) rfl
theorem lk_l_205 : Cond.methodLink "RopesAtDawnLaw" 205 ⟨"RopesAtDawnModel", "tell", "(I)I"⟩ ∈ lw_gd := gd (wk 1556 (by decide +kernel)) rfl
theorem lk_l_209 : Cond.methodLink "RopesAtDawnLaw" 209 ⟨"RopesAtDawnModel", "check", "()I"⟩ ∈ lw_gd := gd (wk 1560 (by decide +kernel)) rfl
theorem lk_l_213 : Cond.methodLink "RopesAtDawnLaw" 213 ⟨"RopesAtDawnModel", "count", "(I)I"⟩ ∈ lw_gd := gd (wk 1564 (by decide +kernel)) rfl
theorem lk_l_217 : Cond.methodLink "RopesAtDawnLaw" 217 ⟨"RopesAtDawnModel", "told", "(I)I"⟩ ∈ lw_gd := gd (wk 1568 (by decide +kernel)) rfl
theorem kn_x9_76 : Cond.constant "RopesAtDawn" 76 (-1000000001) ∈ lw_gd := gd (wk 315 (by decide +kernel)) rfl
theorem kn_x9_327 : Cond.constant "RopesAtDawn" 327 (-1000000000) ∈ lw_gd := gd (wk 320 (by decide +kernel)) rfl
theorem kn_x9_138 : Cond.constant "RopesAtDawn" 138 (-1000000004) ∈ lw_gd := gd (wk 325 (by decide +kernel)) rfl
theorem kn_x9_99 : Cond.constant "RopesAtDawn" 99 (-1000000002) ∈ lw_gd := gd (wk 381 (by decide +kernel)) rfl
theorem kn_x9_130 : Cond.constant "RopesAtDawn" 130 (-1000000003) ∈ lw_gd := gd (wk 413 (by decide +kernel)) rfl
theorem kn_x9_156 : Cond.constant "RopesAtDawn" 156 (-1000000005) ∈ lw_gd := gd (wk 453 (by decide +kernel)) rfl
theorem kn_x0_45 : Cond.constant "RopesAtDawn$Chooser" 45 (2147483647) ∈ lw_gd := gd (wk 788 (by decide +kernel)) rfl
theorem kn_x2_127 : Cond.constant "RopesAtDawn$Dawn" 127 (1103515245) ∈ lw_gd := gd (wk 910 (by decide +kernel)) rfl
theorem kn_x10_81 : Cond.constant "RopesAtDawnModel" 81 (-1000000001) ∈ lw_gd := gd (wk 1118 (by decide +kernel)) rfl
theorem kn_x10_68 : Cond.constant "RopesAtDawnModel" 68 (-1000000000) ∈ lw_gd := gd (wk 1123 (by decide +kernel)) rfl
theorem kn_x10_86 : Cond.constant "RopesAtDawnModel" 86 (-1000000004) ∈ lw_gd := gd (wk 1124 (by decide +kernel)) rfl
theorem kn_x10_108 : Cond.constant "RopesAtDawnModel" 108 (-1000000002) ∈ lw_gd := gd (wk 1168 (by decide +kernel)) rfl
theorem kn_x10_131 : Cond.constant "RopesAtDawnModel" 131 (-1000000003) ∈ lw_gd := gd (wk 1200 (by decide +kernel)) rfl
theorem kn_x10_145 : Cond.constant "RopesAtDawnModel" 145 (-1000000005) ∈ lw_gd := gd (wk 1232 (by decide +kernel)) rfl
theorem kn_x10_184 : Cond.constantLong "RopesAtDawnModel" 184 (255) ∈ lw_gd := gd (wk 1302 (by decide +kernel)) rfl
theorem kn_x10_297 : Cond.constant "RopesAtDawnModel" 297 (1103515245) ∈ lw_gd := gd (wk 1496 (by decide +kernel)) rfl
theorem kn_l_85 : Cond.constantLong "RopesAtDawnLaw" 85 (4294967295) ∈ lw_gd := gd (wk 1572 (by decide +kernel)) rfl
theorem cl_l_7 : Cond.classLink "RopesAtDawnLaw" 7 "RopesAtDawn" ∈ lw_gd := gd (wk 21 (by decide +kernel)) rfl
theorem cl_x9_9 : Cond.classLink "RopesAtDawn" 9 "RopesAtDawn$Dawn" ∈ lw_gd := gd (wk 29 (by decide +kernel)) rfl
theorem cl_x2_9 : Cond.classLink "RopesAtDawn$Dawn" 9 "RopesAtDawn$Fours" ∈ lw_gd := gd (wk 35 (by decide +kernel)) rfl
theorem cl_x2_45 : Cond.classLink "RopesAtDawn$Dawn" 45 "RopesAtDawn$Row" ∈ lw_gd := gd (wk 70 (by decide +kernel)) rfl
theorem cl_x9_16 : Cond.classLink "RopesAtDawn" 16 "RopesAtDawn$Crossing" ∈ lw_gd := gd (wk 138 (by decide +kernel)) rfl
theorem cl_x1_9 : Cond.classLink "RopesAtDawn$Crossing" 9 "RopesAtDawn$Reckoner" ∈ lw_gd := gd (wk 144 (by decide +kernel)) rfl
theorem cl_x9_23 : Cond.classLink "RopesAtDawn" 23 "RopesAtDawn$Chooser" ∈ lw_gd := gd (wk 173 (by decide +kernel)) rfl
theorem cl_x0_9 : Cond.classLink "RopesAtDawn$Chooser" 9 "RopesAtDawn$Row" ∈ lw_gd := gd (wk 179 (by decide +kernel)) rfl
theorem cl_x0_27 : Cond.classLink "RopesAtDawn$Chooser" 27 "RopesAtDawn$Dawn" ∈ lw_gd := gd (wk 181 (by decide +kernel)) rfl
theorem cl_x0_34 : Cond.classLink "RopesAtDawn$Chooser" 34 "RopesAtDawn$Crossing" ∈ lw_gd := gd (wk 183 (by decide +kernel)) rfl
theorem cl_x9_30 : Cond.classLink "RopesAtDawn" 30 "RopesAtDawn$Reader" ∈ lw_gd := gd (wk 204 (by decide +kernel)) rfl
theorem cl_x4_9 : Cond.classLink "RopesAtDawn$Reader" 9 "RopesAtDawn$Row" ∈ lw_gd := gd (wk 210 (by decide +kernel)) rfl
theorem cl_x9_37 : Cond.classLink "RopesAtDawn" 37 "RopesAtDawn$Voices" ∈ lw_gd := gd (wk 231 (by decide +kernel)) rfl
theorem cl_x8_9 : Cond.classLink "RopesAtDawn$Voices" 9 "RopesAtDawn$Row" ∈ lw_gd := gd (wk 237 (by decide +kernel)) rfl
theorem cl_x9_44 : Cond.classLink "RopesAtDawn" 44 "RopesAtDawn$Sheet" ∈ lw_gd := gd (wk 253 (by decide +kernel)) rfl
theorem cl_l_10 : Cond.classLink "RopesAtDawnLaw" 10 "RopesAtDawnModel" ∈ lw_gd := gd (wk 1013 (by decide +kernel)) rfl
theorem cl_x10_22 : Cond.classLink "RopesAtDawnModel" 22 "java/lang/String" ∈ lw_gd := gd (wk 1019 (by decide +kernel)) rfl
end
section
/-! Rules with numbers as naturals; the shape of the reference. -/
theorem pa {x y : Int32} {a b : Nat} (h : x = nI a) (g : y = nI b) : x + y = nI (a + b) := by rw [h, g]; exact nI_add a b
theorem pm {x y : Int32} {a b : Nat} (h : x = nI a) (g : y = nI b) : x * y = nI (a * b) := by rw [h, g]; exact pk_mul a b
theorem ps {x y : Int32} {a b : Nat} (h : x = nI a) (g : y = nI b) (l : b ≤ a) : x - y = nI (a - b) := by rw [h, g]; exact pk_sub l
theorem pm1 {x : Int32} {a : Nat} (h : x = nI a) (l : 1 ≤ a) : x + (-1) = nI (a - 1) := by
  obtain ⟨b, rfl⟩ : ∃ b, a = b + 1 := ⟨a - 1, by omega⟩
  rw [h]; exact pk_m1 b
theorem pl (n : Nat) {x : Int32} (h : x = nI n) : x = nI n := h
theorem pz {x : Int32} {a b : Nat} (h : x = nI a) (e : a = b) : x = nI b := by rw [h, e]
abbrev nv (x : Int32) : Nat := x.toNatClampNeg
theorem nv_nI {n : Nat} (h : n < 2 ^ 31) : nv (nI n) = n := nI_clamp h
theorem nv_eq {x : Int32} (h : ¬ x < 0) : x = nI (nv x) := by
  obtain ⟨j, hj, rfl⟩ := nI_of h
  rw [nv_nI hj]
section
variable {G : Gl} {mi : MI} {d kc pc nx : Nat} {lv lv' : List (Nat × Value)} {rest : List Value} {S : Sh} {μ : Mu} {Q : Option Value → Sh → Mu → Prop}
theorem X_ialdN {a n k : Nat} {i : Int32} (hd : Dc mi.2.1 pc .iaload 1 nx) (hb : S.2 a = some (kI n)) (hi : i = nI k) (hk : k < n) (hn : n < 2 ^ 31) (kk : X G mi d kc nx lv (.int (μ a k) :: rest) S μ Q) : X G mi d kc pc lv (.int i :: .ref a :: rest) S μ Q := by
  subst hi
  refine X_iald hd hb (vp_in_nI hk hn) ?_
  rw [nI_clamp (by omega)]
  exact kk
theorem X_ialdCN {a n k : Nat} {i : Int32} (hd : Dc mi.2.1 pc .iaload 1 nx) (hb : S.2 a = some (kC n)) (hi : i = nI k) (hk : k < n) (hn : n < 2 ^ 31) (kk : X G mi d kc nx lv (.int (μ a k) :: rest) S μ Q) : X G mi d kc pc lv (.int i :: .ref a :: rest) S μ Q := by
  subst hi
  refine X_ialdC hd hb (vp_in_nI hk hn) ?_
  rw [nI_clamp (by omega)]
  exact kk
theorem X_iastN {a n k : Nat} {i x : Int32} (hd : Dc mi.2.1 pc .iastore 1 nx) (hb : S.2 a = some (kI n)) (hi : i = nI k) (hk : k < n) (hn : n < 2 ^ 31) (kk : X G mi d kc nx lv rest S (su μ a k x) Q) : X G mi d kc pc lv (.int x :: .int i :: .ref a :: rest) S μ Q := by
  subst hi
  refine X_iast hd hb (vp_in_nI hk hn) ?_
  rw [nI_clamp (by omega)]
  exact kk
theorem X_aaldN {a j n q k : Nat} {r : Nat → Option Nat} {i : Int32} (hd : Dc mi.2.1 pc .aaload 1 nx) (hb : S.2 a = some (kR j n r)) (hi : i = nI k) (hk : k < n) (hn : n < 2 ^ 31) (hr : r k = some q) (kk : X G mi d kc nx lv (.ref q :: rest) S μ Q) : X G mi d kc pc lv (.int i :: .ref a :: rest) S μ Q := by
  subst hi
  exact X_aald hd hb (vp_in_nI hk hn) (by rw [nI_clamp (by omega)]; exact hr) kk
theorem X_lvp {st : List Value} (ks : List Nat) (h : lv_pick lv ks = lv') (k : X G mi d kc pc lv' st S μ Q) : X G mi d kc pc lv st S μ Q := by
  refine X_lv (fun q hq => ?_) k
  rw [← h] at hq
  obtain ⟨i, -, hi⟩ := List.mem_filterMap.mp hq
  exact List.mem_of_getElem? hi
theorem X_icmp_eqN {x y : Int32} {a b : Nat} {off : Int} {tgt : Nat} (hd : Dc mi.2.1 pc (.if_icmp .eq off) 3 nx) (ht : (pc : Int) + off = (tgt : Int)) (ha : x = nI a) (hb : y = nI b) (ga2 : a < 2 ^ 31) (gb2 : b < 2 ^ 31) (kt : a = b → X G mi d kc tgt lv rest S μ Q) (kf : ¬ a = b → X G mi d kc nx lv rest S μ Q) : X G mi d kc pc lv (.int y :: .int x :: rest) S μ Q := by
  subst ha hb
  exact X_icmp_eq hd ht (fun z => kt ((nI_eq ga2 gb2).mp z)) (fun z => kf (fun q => z ((nI_eq ga2 gb2).mpr q)))
theorem X_if_eqN {x : Int32} {a : Nat} {off : Int} {tgt : Nat} (hd : Dc mi.2.1 pc (.ifCond .eq off) 3 nx) (ht : (pc : Int) + off = (tgt : Int)) (ha : x = nI a) (ga2 : a < 2 ^ 31) (kt : a = 0 → X G mi d kc tgt lv rest S μ Q) (kf : ¬ a = 0 → X G mi d kc nx lv rest S μ Q) : X G mi d kc pc lv (.int x :: rest) S μ Q := by
  subst ha
  have e : nI a = 0 ↔ a = 0 := nI_eq (b := 0) ga2 (by omega)
  exact X_if_eq hd ht (fun z => kt (e.mp z)) (fun z => kf (fun q => z (e.mpr q)))
theorem X_icmp_neN {x y : Int32} {a b : Nat} {off : Int} {tgt : Nat} (hd : Dc mi.2.1 pc (.if_icmp .ne off) 3 nx) (ht : (pc : Int) + off = (tgt : Int)) (ha : x = nI a) (hb : y = nI b) (ga2 : a < 2 ^ 31) (gb2 : b < 2 ^ 31) (kt : ¬ a = b → X G mi d kc tgt lv rest S μ Q) (kf : a = b → X G mi d kc nx lv rest S μ Q) : X G mi d kc pc lv (.int y :: .int x :: rest) S μ Q := by
  subst ha hb
  exact X_icmp_ne hd ht (fun z => kt (fun q => z ((nI_eq ga2 gb2).mpr q))) (fun z => kf ((nI_eq ga2 gb2).mp z))
theorem X_if_neN {x : Int32} {a : Nat} {off : Int} {tgt : Nat} (hd : Dc mi.2.1 pc (.ifCond .ne off) 3 nx) (ht : (pc : Int) + off = (tgt : Int)) (ha : x = nI a) (ga2 : a < 2 ^ 31) (kt : ¬ a = 0 → X G mi d kc tgt lv rest S μ Q) (kf : a = 0 → X G mi d kc nx lv rest S μ Q) : X G mi d kc pc lv (.int x :: rest) S μ Q := by
  subst ha
  have e : nI a = 0 ↔ a = 0 := nI_eq (b := 0) ga2 (by omega)
  exact X_if_ne hd ht (fun z => kt (fun q => z (e.mpr q))) (fun z => kf (e.mp z))
theorem X_icmp_ltN {x y : Int32} {a b : Nat} {off : Int} {tgt : Nat} (hd : Dc mi.2.1 pc (.if_icmp .lt off) 3 nx) (ht : (pc : Int) + off = (tgt : Int)) (ha : x = nI a) (hb : y = nI b) (ga2 : a < 2 ^ 31) (gb2 : b < 2 ^ 31) (kt : a < b → X G mi d kc tgt lv rest S μ Q) (kf : b ≤ a → X G mi d kc nx lv rest S μ Q) : X G mi d kc pc lv (.int y :: .int x :: rest) S μ Q := by
  subst ha hb
  exact X_icmp_lt hd ht (fun z => kt ((nI_ltI ga2 gb2).mp z)) (fun z => kf (by have := mt (nI_ltI ga2 gb2).mpr z; omega))
theorem X_icmp_geN {x y : Int32} {a b : Nat} {off : Int} {tgt : Nat} (hd : Dc mi.2.1 pc (.if_icmp .ge off) 3 nx) (ht : (pc : Int) + off = (tgt : Int)) (ha : x = nI a) (hb : y = nI b) (ga2 : a < 2 ^ 31) (gb2 : b < 2 ^ 31) (kt : b ≤ a → X G mi d kc tgt lv rest S μ Q) (kf : a < b → X G mi d kc nx lv rest S μ Q) : X G mi d kc pc lv (.int y :: .int x :: rest) S μ Q := by
  subst ha hb
  exact X_icmp_ge hd ht (fun z => kt ((nI_leI gb2 ga2).mp z)) (fun z => kf (by have := mt (nI_leI gb2 ga2).mpr z; omega))
theorem X_icmp_gtN {x y : Int32} {a b : Nat} {off : Int} {tgt : Nat} (hd : Dc mi.2.1 pc (.if_icmp .gt off) 3 nx) (ht : (pc : Int) + off = (tgt : Int)) (ha : x = nI a) (hb : y = nI b) (ga2 : a < 2 ^ 31) (gb2 : b < 2 ^ 31) (kt : b < a → X G mi d kc tgt lv rest S μ Q) (kf : a ≤ b → X G mi d kc nx lv rest S μ Q) : X G mi d kc pc lv (.int y :: .int x :: rest) S μ Q := by
  subst ha hb
  exact X_icmp_gt hd ht (fun z => kt ((nI_ltI gb2 ga2).mp z)) (fun z => kf (by have := mt (nI_ltI gb2 ga2).mpr z; omega))
theorem X_icmp_leN {x y : Int32} {a b : Nat} {off : Int} {tgt : Nat} (hd : Dc mi.2.1 pc (.if_icmp .le off) 3 nx) (ht : (pc : Int) + off = (tgt : Int)) (ha : x = nI a) (hb : y = nI b) (ga2 : a < 2 ^ 31) (gb2 : b < 2 ^ 31) (kt : a ≤ b → X G mi d kc tgt lv rest S μ Q) (kf : b < a → X G mi d kc nx lv rest S μ Q) : X G mi d kc pc lv (.int y :: .int x :: rest) S μ Q := by
  subst ha hb
  exact X_icmp_le hd ht (fun z => kt ((nI_leI ga2 gb2).mp z)) (fun z => kf (by have := mt (nI_leI ga2 gb2).mpr z; omega))
theorem X_if_ltN {x : Int32} {a : Nat} {off : Int} {tgt : Nat} (hd : Dc mi.2.1 pc (.ifCond .lt off) 3 nx) (ht : (pc : Int) + off = (tgt : Int)) (ha : x = nI a) (ga2 : a < 2 ^ 31) (kf : X G mi d kc nx lv rest S μ Q) : X G mi d kc pc lv (.int x :: rest) S μ Q := by
  subst ha
  exact X_if_lt hd ht (fun z => absurd z (nI_pos ga2)) (fun _ => kf)
theorem X_if_geN {x : Int32} {a : Nat} {off : Int} {tgt : Nat} (hd : Dc mi.2.1 pc (.ifCond .ge off) 3 nx) (ht : (pc : Int) + off = (tgt : Int)) (ha : x = nI a) (ga2 : a < 2 ^ 31) (kt : X G mi d kc tgt lv rest S μ Q) : X G mi d kc pc lv (.int x :: rest) S μ Q := by
  subst ha
  exact X_if_ge hd ht (fun _ => kt) (fun z => absurd (nI_pos' ga2) z)
theorem X_if_leN {x : Int32} {a : Nat} {off : Int} {tgt : Nat} (hd : Dc mi.2.1 pc (.ifCond .le off) 3 nx) (ht : (pc : Int) + off = (tgt : Int)) (ha : x = nI a) (ga2 : a < 2 ^ 31) (kt : a = 0 → X G mi d kc tgt lv rest S μ Q) (kf : 0 < a → X G mi d kc nx lv rest S μ Q) : X G mi d kc pc lv (.int x :: rest) S μ Q := by
  subst ha
  exact X_if_le hd ht (fun z => kt ((nI_leI (b := 0) ga2 (by omega)).mp z |> Nat.le_zero.mp)) (fun z => kf (Nat.pos_of_ne_zero fun q => z (by rw [q]; decide)))
theorem X_if_gtN {x : Int32} {a : Nat} {off : Int} {tgt : Nat} (hd : Dc mi.2.1 pc (.ifCond .gt off) 3 nx) (ht : (pc : Int) + off = (tgt : Int)) (ha : x = nI a) (ga2 : a < 2 ^ 31) (kt : 0 < a → X G mi d kc tgt lv rest S μ Q) (kf : a = 0 → X G mi d kc nx lv rest S μ Q) : X G mi d kc pc lv (.int x :: rest) S μ Q := by
  subst ha
  exact X_if_gt hd ht (fun z => kt ((nI_ltI (a := 0) (by omega) ga2).mp z)) (fun z => kf (Nat.eq_zero_of_not_pos fun q => z ((nI_ltI (a := 0) (by omega) ga2).mpr q)))
end
def rM (o k : Nat) : Option Nat := match k with
  | 0 => some (o + 1)
  | 1 => some (o + 2)
  | 2 => some (o + 3)
  | 4 => some (o + 4)
  | 6 => some (o + 5)
  | 11 => some (o + 6)
  | 13 => some (o + 7)
  | 14 => some (o + 8)
  | 15 => some (o + 9)
  | 16 => some (o + 10)
  | 18 => some (o + 11)
  | 19 => some (o + 12)
  | 21 => some (o + 13)
  | 24 => some (o + 14)
  | 25 => some (o + 15)
  | 26 => some (o + 16)
  | 27 => some (o + 17)
  | _ => none
/-- the reference: its cells; q: the two texts of names -/
def MS (S : Sh) (o : Nat) (q : Nat → Nat) : Prop := S.2 o = some (kO 10 (rM o)) ∧ S.2 (o + 1) = some (kI 314) ∧ S.2 (o + 2) = some (kI 314) ∧ S.2 (o + 3) = some (kI 314) ∧ S.2 (o + 4) = some (kI 6) ∧ S.2 (o + 5) = some (kR 2 2 (fun k => some (q k))) ∧ S.2 (o + 6) = some (kI 60) ∧ S.2 (o + 7) = some (kI 5) ∧ S.2 (o + 8) = some (kI 60) ∧ S.2 (o + 9) = some (kI 48) ∧ S.2 (o + 10) = some (kI 6) ∧ S.2 (o + 11) = some (kI 6) ∧ S.2 (o + 12) = some (kI 6) ∧ S.2 (o + 13) = some (kI 40) ∧ S.2 (o + 14) = some (kI 4) ∧ S.2 (o + 15) = some (kI 4) ∧ S.2 (o + 16) = some (kI 160) ∧ S.2 (o + 17) = some (kI 40)
theorem MS.f0 {S : Sh} {o : Nat} {q : Nat → Nat} (h : MS S o q) : S.2 o = some (kO 10 (rM o)) := h.1
theorem MS.f1 {S : Sh} {o : Nat} {q : Nat → Nat} (h : MS S o q) : S.2 (o + 1) = some (kI 314) := h.2.1
theorem MS.f2 {S : Sh} {o : Nat} {q : Nat → Nat} (h : MS S o q) : S.2 (o + 2) = some (kI 314) := h.2.2.1
theorem MS.f3 {S : Sh} {o : Nat} {q : Nat → Nat} (h : MS S o q) : S.2 (o + 3) = some (kI 314) := h.2.2.2.1
theorem MS.f4 {S : Sh} {o : Nat} {q : Nat → Nat} (h : MS S o q) : S.2 (o + 4) = some (kI 6) := h.2.2.2.2.1
theorem MS.f5 {S : Sh} {o : Nat} {q : Nat → Nat} (h : MS S o q) : S.2 (o + 5) = some (kR 2 2 (fun k => some (q k))) := h.2.2.2.2.2.1
theorem MS.f6 {S : Sh} {o : Nat} {q : Nat → Nat} (h : MS S o q) : S.2 (o + 6) = some (kI 60) := h.2.2.2.2.2.2.1
theorem MS.f7 {S : Sh} {o : Nat} {q : Nat → Nat} (h : MS S o q) : S.2 (o + 7) = some (kI 5) := h.2.2.2.2.2.2.2.1
theorem MS.f8 {S : Sh} {o : Nat} {q : Nat → Nat} (h : MS S o q) : S.2 (o + 8) = some (kI 60) := h.2.2.2.2.2.2.2.2.1
theorem MS.f9 {S : Sh} {o : Nat} {q : Nat → Nat} (h : MS S o q) : S.2 (o + 9) = some (kI 48) := h.2.2.2.2.2.2.2.2.2.1
theorem MS.f10 {S : Sh} {o : Nat} {q : Nat → Nat} (h : MS S o q) : S.2 (o + 10) = some (kI 6) := h.2.2.2.2.2.2.2.2.2.2.1
theorem MS.f11 {S : Sh} {o : Nat} {q : Nat → Nat} (h : MS S o q) : S.2 (o + 11) = some (kI 6) := h.2.2.2.2.2.2.2.2.2.2.2.1
theorem MS.f12 {S : Sh} {o : Nat} {q : Nat → Nat} (h : MS S o q) : S.2 (o + 12) = some (kI 6) := h.2.2.2.2.2.2.2.2.2.2.2.2.1
theorem MS.f13 {S : Sh} {o : Nat} {q : Nat → Nat} (h : MS S o q) : S.2 (o + 13) = some (kI 40) := h.2.2.2.2.2.2.2.2.2.2.2.2.2.1
theorem MS.f14 {S : Sh} {o : Nat} {q : Nat → Nat} (h : MS S o q) : S.2 (o + 14) = some (kI 4) := h.2.2.2.2.2.2.2.2.2.2.2.2.2.2.1
theorem MS.f15 {S : Sh} {o : Nat} {q : Nat → Nat} (h : MS S o q) : S.2 (o + 15) = some (kI 4) := h.2.2.2.2.2.2.2.2.2.2.2.2.2.2.2.1
theorem MS.f16 {S : Sh} {o : Nat} {q : Nat → Nat} (h : MS S o q) : S.2 (o + 16) = some (kI 160) := h.2.2.2.2.2.2.2.2.2.2.2.2.2.2.2.2.1
theorem MS.f17 {S : Sh} {o : Nat} {q : Nat → Nat} (h : MS S o q) : S.2 (o + 17) = some (kI 40) := h.2.2.2.2.2.2.2.2.2.2.2.2.2.2.2.2.2
end
section
theorem cb_m10 : (Int8.ofInt (-10)).toInt32 = (-10) := by decide
theorem cb_m5 : (Int8.ofInt (-5)).toInt32 = (-5) := by decide
theorem cb_6 : (Int8.ofInt 6).toInt32 = 6 := by decide
theorem cb_7 : (Int8.ofInt 7).toInt32 = 7 := by decide
theorem cb_8 : (Int8.ofInt 8).toInt32 = 8 := by decide
theorem cb_9 : (Int8.ofInt 9).toInt32 = 9 := by decide
theorem cb_10 : (Int8.ofInt 10).toInt32 = 10 := by decide
theorem cb_11 : (Int8.ofInt 11).toInt32 = 11 := by decide
theorem cb_12 : (Int8.ofInt 12).toInt32 = 12 := by decide
theorem cb_13 : (Int8.ofInt 13).toInt32 = 13 := by decide
theorem cb_16 : (Int8.ofInt 16).toInt32 = 16 := by decide
theorem cb_20 : (Int8.ofInt 20).toInt32 = 20 := by decide
theorem cb_30 : (Int8.ofInt 30).toInt32 = 30 := by decide
theorem cb_32 : (Int8.ofInt 32).toInt32 = 32 := by decide
theorem cb_33 : (Int8.ofInt 33).toInt32 = 33 := by decide
theorem cb_37 : (Int8.ofInt 37).toInt32 = 37 := by decide
theorem cb_38 : (Int8.ofInt 38).toInt32 = 38 := by decide
theorem cb_40 : (Int8.ofInt 40).toInt32 = 40 := by decide
theorem cb_41 : (Int8.ofInt 41).toInt32 = 41 := by decide
theorem cb_42 : (Int8.ofInt 42).toInt32 = 42 := by decide
theorem cb_43 : (Int8.ofInt 43).toInt32 = 43 := by decide
theorem cb_45 : (Int8.ofInt 45).toInt32 = 45 := by decide
theorem cb_47 : (Int8.ofInt 47).toInt32 = 47 := by decide
theorem cb_48 : (Int8.ofInt 48).toInt32 = 48 := by decide
theorem cb_50 : (Int8.ofInt 50).toInt32 = 50 := by decide
theorem cb_52 : (Int8.ofInt 52).toInt32 = 52 := by decide
theorem cb_57 : (Int8.ofInt 57).toInt32 = 57 := by decide
theorem cb_60 : (Int8.ofInt 60).toInt32 = 60 := by decide
theorem cb_61 : (Int8.ofInt 61).toInt32 = 61 := by decide
theorem cb_62 : (Int8.ofInt 62).toInt32 = 62 := by decide
theorem cb_63 : (Int8.ofInt 63).toInt32 = 63 := by decide
theorem cb_70 : (Int8.ofInt 70).toInt32 = 70 := by decide
theorem cb_71 : (Int8.ofInt 71).toInt32 = 71 := by decide
theorem cb_80 : (Int8.ofInt 80).toInt32 = 80 := by decide
theorem cb_99 : (Int8.ofInt 99).toInt32 = 99 := by decide
theorem cb_120 : (Int8.ofInt 120).toInt32 = 120 := by decide
theorem cb_124 : (Int8.ofInt 124).toInt32 = 124 := by decide
theorem ci_m1 : Int32.ofInt (-1) = (-1) := by decide
theorem ci_0 : Int32.ofInt 0 = 0 := by decide
theorem ci_1 : Int32.ofInt 1 = 1 := by decide
theorem ci_2 : Int32.ofInt 2 = 2 := by decide
theorem ci_3 : Int32.ofInt 3 = 3 := by decide
theorem ci_4 : Int32.ofInt 4 = 4 := by decide
theorem ci_5 : Int32.ofInt 5 = 5 := by decide
theorem ci_6 : Int32.ofInt 6 = 6 := by decide
theorem cs_134 : (Int16.ofInt 134).toInt32 = 134 := by decide
theorem cs_140 : (Int16.ofInt 140).toInt32 = 140 := by decide
theorem cs_160 : (Int16.ofInt 160).toInt32 = 160 := by decide
theorem cs_190 : (Int16.ofInt 190).toInt32 = 190 := by decide
theorem cs_210 : (Int16.ofInt 210).toInt32 = 210 := by decide
theorem cs_255 : (Int16.ofInt 255).toInt32 = 255 := by decide
theorem cs_300 : (Int16.ofInt 300).toInt32 = 300 := by decide
theorem cs_314 : (Int16.ofInt 314).toInt32 = 314 := by decide
theorem cs_720 : (Int16.ofInt 720).toInt32 = 720 := by decide
theorem cs_999 : (Int16.ofInt 999).toInt32 = 999 := by decide
theorem cs_1000 : (Int16.ofInt 1000).toInt32 = 1000 := by decide
theorem cs_1439 : (Int16.ofInt 1439).toInt32 = 1439 := by decide
theorem cs_1440 : (Int16.ofInt 1440).toInt32 = 1440 := by decide
theorem cs_9999 : (Int16.ofInt 9999).toInt32 = 9999 := by decide
theorem cs_10000 : (Int16.ofInt 10000).toInt32 = 10000 := by decide
theorem cs_12345 : (Int16.ofInt 12345).toInt32 = 12345 := by decide
theorem cs_20000 : (Int16.ofInt 20000).toInt32 = 20000 := by decide
theorem cs_20001 : (Int16.ofInt 20001).toInt32 = 20001 := by decide
theorem cs_20002 : (Int16.ofInt 20002).toInt32 = 20002 := by decide
theorem cs_20003 : (Int16.ofInt 20003).toInt32 = 20003 := by decide
theorem cs_20004 : (Int16.ofInt 20004).toInt32 = 20004 := by decide
theorem cs_20005 : (Int16.ofInt 20005).toInt32 = 20005 := by decide
theorem cs_20006 : (Int16.ofInt 20006).toInt32 = 20006 := by decide
theorem cs_20007 : (Int16.ofInt 20007).toInt32 = 20007 := by decide
theorem cs_20008 : (Int16.ofInt 20008).toInt32 = 20008 := by decide
theorem cs_20009 : (Int16.ofInt 20009).toInt32 = 20009 := by decide
theorem cs_20010 : (Int16.ofInt 20010).toInt32 = 20010 := by decide
theorem np_X0_init : nPar mi_X0_init.1 0 := by unfold nPar; decide +kernel
theorem np_X0_begin : nPar mi_X0_begin.1 1 := by unfold nPar; decide +kernel
theorem np_X0_weigh : nPar mi_X0_weigh.1 2 := by unfold nPar; decide +kernel
theorem np_X0_chooseOrder : nPar mi_X0_chooseOrder.1 2 := by unfold nPar; decide +kernel
theorem np_X0_chooseLine : nPar mi_X0_chooseLine.1 1 := by unfold nPar; decide +kernel
theorem np_X0_chooseSpace : nPar mi_X0_chooseSpace.1 2 := by unfold nPar; decide +kernel
theorem np_X0_chooseParts : nPar mi_X0_chooseParts.1 3 := by unfold nPar; decide +kernel
theorem np_X0_chooseStart : nPar mi_X0_chooseStart.1 3 := by unfold nPar; decide +kernel
theorem np_X0_chooseLeft : nPar mi_X0_chooseLeft.1 1 := by unfold nPar; decide +kernel
theorem np_X0_chooseLead : nPar mi_X0_chooseLead.1 2 := by unfold nPar; decide +kernel
theorem np_X1_init : nPar mi_X1_init.1 0 := by unfold nPar; decide +kernel
theorem np_X1_cross : nPar mi_X1_cross.1 1 := by unfold nPar; decide +kernel
theorem np_X1_crossOne : nPar mi_X1_crossOne.1 3 := by unfold nPar; decide +kernel
theorem np_X1_cellOf : nPar mi_X1_cellOf.1 2 := by unfold nPar; decide +kernel
theorem np_X1_comesTo : nPar mi_X1_comesTo.1 2 := by unfold nPar; decide +kernel
theorem np_X1_isOff : nPar mi_X1_isOff.1 2 := by unfold nPar; decide +kernel
theorem np_X1_turnsHour : nPar mi_X1_turnsHour.1 1 := by unfold nPar; decide +kernel
theorem np_X1_riskOf : nPar mi_X1_riskOf.1 5 := by unfold nPar; decide +kernel
theorem np_X1_tollOf : nPar mi_X1_tollOf.1 1 := by unfold nPar; decide +kernel
theorem np_X1_tollAt : nPar mi_X1_tollAt.1 4 := by unfold nPar; decide +kernel
theorem np_X2_init : nPar mi_X2_init.1 0 := by unfold nPar; decide +kernel
theorem np_X2_copyFrom : nPar mi_X2_copyFrom.1 1 := by unfold nPar; decide +kernel
theorem np_X2_rowOf : nPar mi_X2_rowOf.1 1 := by unfold nPar; decide +kernel
theorem np_X2_textOf : nPar mi_X2_textOf.1 1 := by unfold nPar; decide +kernel
theorem np_X2_isInLine : nPar mi_X2_isInLine.1 1 := by unfold nPar; decide +kernel
theorem np_X2_ropeOf : nPar mi_X2_ropeOf.1 1 := by unfold nPar; decide +kernel
theorem np_X2_placeOf : nPar mi_X2_placeOf.1 1 := by unfold nPar; decide +kernel
theorem np_X2_aheadOf : nPar mi_X2_aheadOf.1 1 := by unfold nPar; decide +kernel
theorem np_X2_slowestPace : nPar mi_X2_slowestPace.1 1 := by unfold nPar; decide +kernel
theorem np_X2_pullOf : nPar mi_X2_pullOf.1 2 := by unfold nPar; decide +kernel
theorem np_X2_gripAt : nPar mi_X2_gripAt.1 3 := by unfold nPar; decide +kernel
theorem np_X2_holdAt : nPar mi_X2_holdAt.1 2 := by unfold nPar; decide +kernel
theorem np_X2_isHeld : nPar mi_X2_isHeld.1 3 := by unfold nPar; decide +kernel
theorem np_X2_lostWithOne : nPar mi_X2_lostWithOne.1 1 := by unfold nPar; decide +kernel
theorem np_X2_draw : nPar mi_X2_draw.1 0 := by unfold nPar; decide +kernel
theorem np_X3_init : nPar mi_X3_init.1 3 := by unfold nPar; decide +kernel
theorem np_X3_size : nPar mi_X3_size.1 0 := by unfold nPar; decide +kernel
theorem np_X3_has : nPar mi_X3_has.1 1 := by unfold nPar; decide +kernel
theorem np_X3_isFull : nPar mi_X3_isFull.1 0 := by unfold nPar; decide +kernel
theorem np_X3_fitsColumn : nPar mi_X3_fitsColumn.1 2 := by unfold nPar; decide +kernel
theorem np_X3_fits : nPar mi_X3_fits.1 4 := by unfold nPar; decide +kernel
theorem np_X3_add : nPar mi_X3_add.1 4 := by unfold nPar; decide +kernel
theorem np_X3_get : nPar mi_X3_get.1 2 := by unfold nPar; decide +kernel
theorem np_X3_change : nPar mi_X3_change.1 3 := by unfold nPar; decide +kernel
theorem np_X3_copyFrom : nPar mi_X3_copyFrom.1 1 := by unfold nPar; decide +kernel
theorem np_X4_init : nPar mi_X4_init.1 0 := by unfold nPar; decide +kernel
theorem np_X4_read : nPar mi_X4_read.1 2 := by unfold nPar; decide +kernel
theorem np_X4_levelOf : nPar mi_X4_levelOf.1 1 := by unfold nPar; decide +kernel
theorem np_X4_readLevel : nPar mi_X4_readLevel.1 2 := by unfold nPar; decide +kernel
theorem np_X4_readFactor : nPar mi_X4_readFactor.1 1 := by unfold nPar; decide +kernel
theorem np_X4_readOpened : nPar mi_X4_readOpened.1 2 := by unfold nPar; decide +kernel
theorem np_X4_readNumber : nPar mi_X4_readNumber.1 0 := by unfold nPar; decide +kernel
theorem np_X4_isDigit : nPar mi_X4_isDigit.1 1 := by unfold nPar; decide +kernel
theorem np_X5_init : nPar mi_X5_init.1 0 := by unfold nPar; decide +kernel
theorem np_X5_name : nPar mi_X5_name.1 5 := by unfold nPar; decide +kernel
theorem np_X5_give : nPar mi_X5_give.1 2 := by unfold nPar; decide +kernel
theorem np_X5_valueOf : nPar mi_X5_valueOf.1 1 := by unfold nPar; decide +kernel
theorem np_X5_applied : nPar mi_X5_applied.1 3 := by unfold nPar; decide +kernel
theorem np_X6_init : nPar mi_X6_init.1 1 := by unfold nPar; decide +kernel
theorem np_X6_size : nPar mi_X6_size.1 0 := by unfold nPar; decide +kernel
theorem np_X6_isFull : nPar mi_X6_isFull.1 0 := by unfold nPar; decide +kernel
theorem np_X6_at : nPar mi_X6_at.1 1 := by unfold nPar; decide +kernel
theorem np_X6_add : nPar mi_X6_add.1 1 := by unfold nPar; decide +kernel
theorem np_X6_change : nPar mi_X6_change.1 2 := by unfold nPar; decide +kernel
theorem np_X6_empty : nPar mi_X6_empty.1 0 := by unfold nPar; decide +kernel
theorem np_X6_placeOf : nPar mi_X6_placeOf.1 1 := by unfold nPar; decide +kernel
theorem np_X6_removeAt : nPar mi_X6_removeAt.1 1 := by unfold nPar; decide +kernel
theorem np_X6_exchange : nPar mi_X6_exchange.1 2 := by unfold nPar; decide +kernel
theorem np_X6_copyFrom : nPar mi_X6_copyFrom.1 1 := by unfold nPar; decide +kernel
theorem np_X6_bits : nPar mi_X6_bits.1 0 := by unfold nPar; decide +kernel
theorem np_X6_becomeBits : nPar mi_X6_becomeBits.1 1 := by unfold nPar; decide +kernel
theorem np_X6_sort : nPar mi_X6_sort.1 0 := by unfold nPar; decide +kernel
theorem np_X6_next : nPar mi_X6_next.1 0 := by unfold nPar; decide +kernel
theorem np_X7_init : nPar mi_X7_init.1 0 := by unfold nPar; decide +kernel
theorem np_X7_isMissing : nPar mi_X7_isMissing.1 0 := by unfold nPar; decide +kernel
theorem np_X7_size : nPar mi_X7_size.1 0 := by unfold nPar; decide +kernel
theorem np_X7_become : nPar mi_X7_become.1 2 := by unfold nPar; decide +kernel
theorem np_X7_stands : nPar mi_X7_stands.1 2 := by unfold nPar; decide +kernel
theorem np_X7_at : nPar mi_X7_at.1 1 := by unfold nPar; decide +kernel
theorem np_X7_write : nPar mi_X7_write.1 2 := by unfold nPar; decide +kernel
theorem np_X7_copyFrom : nPar mi_X7_copyFrom.1 4 := by unfold nPar; decide +kernel
theorem np_X8_init : nPar mi_X8_init.1 0 := by unfold nPar; decide +kernel
theorem np_X8_speak : nPar mi_X8_speak.1 4 := by unfold nPar; decide +kernel
theorem np_X8_bearerOf : nPar mi_X8_bearerOf.1 2 := by unfold nPar; decide +kernel
theorem np_X8_bodyOf : nPar mi_X8_bodyOf.1 2 := by unfold nPar; decide +kernel
theorem np_X8_say : nPar mi_X8_say.1 4 := by unfold nPar; decide +kernel
theorem np_X9_init : nPar mi_X9_init.1 0 := by unfold nPar; decide +kernel
theorem np_X9_person : nPar mi_X9_person.1 4 := by unfold nPar; decide +kernel
theorem np_X9_ofPerson : nPar mi_X9_ofPerson.1 2 := by unfold nPar; decide +kernel
theorem np_X9_people : nPar mi_X9_people.1 1 := by unfold nPar; decide +kernel
theorem np_X9_piece : nPar mi_X9_piece.1 4 := by unfold nPar; decide +kernel
theorem np_X9_ofPiece : nPar mi_X9_ofPiece.1 2 := by unfold nPar; decide +kernel
theorem np_X9_start : nPar mi_X9_start.1 1 := by unfold nPar; decide +kernel
theorem np_X9_rope : nPar mi_X9_rope.1 3 := by unfold nPar; decide +kernel
theorem np_X9_tie : nPar mi_X9_tie.1 2 := by unfold nPar; decide +kernel
theorem np_X9_untie : nPar mi_X9_untie.1 1 := by unfold nPar; decide +kernel
theorem np_X9_ofRope : nPar mi_X9_ofRope.1 2 := by unfold nPar; decide +kernel
theorem np_X9_as : nPar mi_X9_as.1 2 := by unfold nPar; decide +kernel
theorem np_X9_set : nPar mi_X9_set.1 3 := by unfold nPar; decide +kernel
theorem np_X9_swap : nPar mi_X9_swap.1 2 := by unfold nPar; decide +kernel
theorem np_X9_hold : nPar mi_X9_hold.1 1 := by unfold nPar; decide +kernel
theorem np_X9_held : nPar mi_X9_held.1 2 := by unfold nPar; decide +kernel
theorem np_X9_cost : nPar mi_X9_cost.1 2 := by unfold nPar; decide +kernel
theorem np_X9_haul : nPar mi_X9_haul.1 2 := by unfold nPar; decide +kernel
theorem np_X9_feed : nPar mi_X9_feed.1 2 := by unfold nPar; decide +kernel
theorem np_X9_text : nPar mi_X9_text.1 1 := by unfold nPar; decide +kernel
theorem np_X9_law : nPar mi_X9_law.1 5 := by unfold nPar; decide +kernel
theorem np_X9_join : nPar mi_X9_join.1 1 := by unfold nPar; decide +kernel
theorem np_X9_clear : nPar mi_X9_clear.1 0 := by unfold nPar; decide +kernel
theorem np_X9_when : nPar mi_X9_when.1 3 := by unfold nPar; decide +kernel
theorem np_X9_risk : nPar mi_X9_risk.1 2 := by unfold nPar; decide +kernel
theorem np_X9_over : nPar mi_X9_over.1 0 := by unfold nPar; decide +kernel
theorem np_X9_toll : nPar mi_X9_toll.1 0 := by unfold nPar; decide +kernel
theorem np_X9_order : nPar mi_X9_order.1 2 := by unfold nPar; decide +kernel
theorem np_X9_space : nPar mi_X9_space.1 1 := by unfold nPar; decide +kernel
theorem np_X9_line : nPar mi_X9_line.1 1 := by unfold nPar; decide +kernel
theorem np_X9_parts : nPar mi_X9_parts.1 2 := by unfold nPar; decide +kernel
theorem np_X9_latest : nPar mi_X9_latest.1 1 := by unfold nPar; decide +kernel
theorem np_X9_best : nPar mi_X9_best.1 2 := by unfold nPar; decide +kernel
theorem np_X9_left : nPar mi_X9_left.1 0 := by unfold nPar; decide +kernel
theorem np_X9_lead : nPar mi_X9_lead.1 1 := by unfold nPar; decide +kernel
theorem np_X9_take : nPar mi_X9_take.1 2 := by unfold nPar; decide +kernel
theorem np_X9_morning : nPar mi_X9_morning.1 0 := by unfold nPar; decide +kernel
theorem np_X9_mornings : nPar mi_X9_mornings.1 2 := by unfold nPar; decide +kernel
theorem np_X9_seed : nPar mi_X9_seed.1 1 := by unfold nPar; decide +kernel
theorem np_X9_voice : nPar mi_X9_voice.1 3 := by unfold nPar; decide +kernel
theorem np_X9_trace : nPar mi_X9_trace.1 1 := by unfold nPar; decide +kernel
theorem np_X9_sheet : nPar mi_X9_sheet.1 3 := by unfold nPar; decide +kernel
theorem np_X9_put : nPar mi_X9_put.1 3 := by unfold nPar; decide +kernel
theorem np_X9_move : nPar mi_X9_move.1 5 := by unfold nPar; decide +kernel
theorem np_X9_image : nPar mi_X9_image.1 0 := by unfold nPar; decide +kernel
theorem np_X9_restore : nPar mi_X9_restore.1 0 := by unfold nPar; decide +kernel
theorem np_X9_tell : nPar mi_X9_tell.1 1 := by unfold nPar; decide +kernel
theorem np_X9_check : nPar mi_X9_check.1 0 := by unfold nPar; decide +kernel
theorem np_X9_count : nPar mi_X9_count.1 1 := by unfold nPar; decide +kernel
theorem np_X9_told : nPar mi_X9_told.1 1 := by unfold nPar; decide +kernel
theorem np_X9_fail : nPar mi_X9_fail.1 1 := by unfold nPar; decide +kernel
theorem np_X9_newFour : nPar mi_X9_newFour.1 5 := by unfold nPar; decide +kernel
theorem np_X9_errorOnRope : nPar mi_X9_errorOnRope.1 2 := by unfold nPar; decide +kernel
theorem np_X9_sheetOf : nPar mi_X9_sheetOf.1 1 := by unfold nPar; decide +kernel
theorem np_X9_isMinute : nPar mi_X9_isMinute.1 1 := by unfold nPar; decide +kernel
theorem np_X9_isUse : nPar mi_X9_isUse.1 1 := by unfold nPar; decide +kernel
theorem np_X9_isUnder : nPar mi_X9_isUnder.1 2 := by unfold nPar; decide +kernel
theorem np_X9_placeOfWrong : nPar mi_X9_placeOfWrong.1 0 := by unfold nPar; decide +kernel
theorem np_X9_runMorning : nPar mi_X9_runMorning.1 0 := by unfold nPar; decide +kernel
theorem np_X9_lostOn : nPar mi_X9_lostOn.1 2 := by unfold nPar; decide +kernel
theorem np_X10_init : nPar mi_X10_init.1 0 := by unfold nPar; decide +kernel
theorem np_X10_finding : nPar mi_X10_finding.1 1 := by unfold nPar; decide +kernel
theorem np_X10_within : nPar mi_X10_within.1 3 := by unfold nPar; decide +kernel
theorem np_X10_is : nPar mi_X10_is.1 2 := by unfold nPar; decide +kernel
theorem np_X10_has : nPar mi_X10_has.1 2 := by unfold nPar; decide +kernel
theorem np_X10_copy : nPar mi_X10_copy.1 2 := by unfold nPar; decide +kernel
theorem np_X10_become : nPar mi_X10_become.1 2 := by unfold nPar; decide +kernel
theorem np_X10_back : nPar mi_X10_back.1 1 := by unfold nPar; decide +kernel
theorem np_X10_of : nPar mi_X10_of.1 2 := by unfold nPar; decide +kernel
theorem np_X10_isAsTold : nPar mi_X10_isAsTold.1 4 := by unfold nPar; decide +kernel
theorem np_X10_comes : nPar mi_X10_comes.1 4 := by unfold nPar; decide +kernel
theorem np_X10_person : nPar mi_X10_person.1 4 := by unfold nPar; decide +kernel
theorem np_X10_ofPerson : nPar mi_X10_ofPerson.1 2 := by unfold nPar; decide +kernel
theorem np_X10_people : nPar mi_X10_people.1 1 := by unfold nPar; decide +kernel
theorem np_X10_ofPieceAt : nPar mi_X10_ofPieceAt.1 2 := by unfold nPar; decide +kernel
theorem np_X10_piece : nPar mi_X10_piece.1 4 := by unfold nPar; decide +kernel
theorem np_X10_ofPiece : nPar mi_X10_ofPiece.1 2 := by unfold nPar; decide +kernel
theorem np_X10_start : nPar mi_X10_start.1 1 := by unfold nPar; decide +kernel
theorem np_X10_rope : nPar mi_X10_rope.1 2 := by unfold nPar; decide +kernel
theorem np_X10_many : nPar mi_X10_many.1 1 := by unfold nPar; decide +kernel
theorem np_X10_who : nPar mi_X10_who.1 2 := by unfold nPar; decide +kernel
theorem np_X10_seats : nPar mi_X10_seats.1 3 := by unfold nPar; decide +kernel
theorem np_X10_ropeOf : nPar mi_X10_ropeOf.1 1 := by unfold nPar; decide +kernel
theorem np_X10_placeOf : nPar mi_X10_placeOf.1 1 := by unfold nPar; decide +kernel
theorem np_X10_inLine : nPar mi_X10_inLine.1 1 := by unfold nPar; decide +kernel
theorem np_X10_isSpace : nPar mi_X10_isSpace.1 1 := by unfold nPar; decide +kernel
theorem np_X10_rope_ : nPar mi_X10_rope_.1 3 := by unfold nPar; decide +kernel
theorem np_X10_ties : nPar mi_X10_ties.1 3 := by unfold nPar; decide +kernel
theorem np_X10_unties : nPar mi_X10_unties.1 1 := by unfold nPar; decide +kernel
theorem np_X10_tie : nPar mi_X10_tie.1 2 := by unfold nPar; decide +kernel
theorem np_X10_untie : nPar mi_X10_untie.1 1 := by unfold nPar; decide +kernel
theorem np_X10_ofRope : nPar mi_X10_ofRope.1 2 := by unfold nPar; decide +kernel
theorem np_X10_above : nPar mi_X10_above.1 1 := by unfold nPar; decide +kernel
theorem np_X10_as : nPar mi_X10_as.1 2 := by unfold nPar; decide +kernel
theorem np_X10_set : nPar mi_X10_set.1 3 := by unfold nPar; decide +kernel
theorem np_X10_swap : nPar mi_X10_swap.1 2 := by unfold nPar; decide +kernel
theorem np_X10_place : nPar mi_X10_place.1 2 := by unfold nPar; decide +kernel
theorem np_X10_gripOf : nPar mi_X10_gripOf.1 3 := by unfold nPar; decide +kernel
theorem np_X10_isLast : nPar mi_X10_isLast.1 2 := by unfold nPar; decide +kernel
theorem np_X10_holdOf : nPar mi_X10_holdOf.1 2 := by unfold nPar; decide +kernel
theorem np_X10_isHeld : nPar mi_X10_isHeld.1 3 := by unfold nPar; decide +kernel
theorem np_X10_costOf : nPar mi_X10_costOf.1 3 := by unfold nPar; decide +kernel
theorem np_X10_hold : nPar mi_X10_hold.1 1 := by unfold nPar; decide +kernel
theorem np_X10_held : nPar mi_X10_held.1 2 := by unfold nPar; decide +kernel
theorem np_X10_cost : nPar mi_X10_cost.1 2 := by unfold nPar; decide +kernel
theorem np_X10_haul : nPar mi_X10_haul.1 2 := by unfold nPar; decide +kernel
theorem np_X10_feed : nPar mi_X10_feed.1 2 := by unfold nPar; decide +kernel
theorem np_X10_here : nPar mi_X10_here.1 0 := by unfold nPar; decide +kernel
theorem np_X10_takes : nPar mi_X10_takes.1 1 := by unfold nPar; decide +kernel
theorem np_X10_codes : nPar mi_X10_codes.1 1 := by unfold nPar; decide +kernel
theorem np_X10_either : nPar mi_X10_either.1 0 := by unfold nPar; decide +kernel
theorem np_X10_both : nPar mi_X10_both.1 0 := by unfold nPar; decide +kernel
theorem np_X10_compared : nPar mi_X10_compared.1 0 := by unfold nPar; decide +kernel
theorem np_X10_sum : nPar mi_X10_sum.1 0 := by unfold nPar; decide +kernel
theorem np_X10_product : nPar mi_X10_product.1 0 := by unfold nPar; decide +kernel
theorem np_X10_nameOf : nPar mi_X10_nameOf.1 1 := by unfold nPar; decide +kernel
theorem np_X10_one : nPar mi_X10_one.1 0 := by unfold nPar; decide +kernel
theorem np_X10_text : nPar mi_X10_text.1 1 := by unfold nPar; decide +kernel
theorem np_X10_done : nPar mi_X10_done.1 3 := by unfold nPar; decide +kernel
theorem np_X10_worked : nPar mi_X10_worked.1 1 := by unfold nPar; decide +kernel
theorem np_X10_given : nPar mi_X10_given.1 6 := by unfold nPar; decide +kernel
theorem np_X10_law : nPar mi_X10_law.1 5 := by unfold nPar; decide +kernel
theorem np_X10_paceOf : nPar mi_X10_paceOf.1 1 := by unfold nPar; decide +kernel
theorem np_X10_cross : nPar mi_X10_cross.1 0 := by unfold nPar; decide +kernel
theorem np_X10_riskOf : nPar mi_X10_riskOf.1 3 := by unfold nPar; decide +kernel
theorem np_X10_tollOf : nPar mi_X10_tollOf.1 0 := by unfold nPar; decide +kernel
theorem np_X10_join : nPar mi_X10_join.1 1 := by unfold nPar; decide +kernel
theorem np_X10_clear : nPar mi_X10_clear.1 0 := by unfold nPar; decide +kernel
theorem np_X10_when : nPar mi_X10_when.1 3 := by unfold nPar; decide +kernel
theorem np_X10_isInLine : nPar mi_X10_isInLine.1 1 := by unfold nPar; decide +kernel
theorem np_X10_risk : nPar mi_X10_risk.1 2 := by unfold nPar; decide +kernel
theorem np_X10_over : nPar mi_X10_over.1 0 := by unfold nPar; decide +kernel
theorem np_X10_toll : nPar mi_X10_toll.1 0 := by unfold nPar; decide +kernel
theorem np_X10_nexts : nPar mi_X10_nexts.1 2 := by unfold nPar; decide +kernel
theorem np_X10_swaps : nPar mi_X10_swaps.1 3 := by unfold nPar; decide +kernel
theorem np_X10_sorts : nPar mi_X10_sorts.1 2 := by unfold nPar; decide +kernel
theorem np_X10_findOrder : nPar mi_X10_findOrder.1 1 := by unfold nPar; decide +kernel
theorem np_X10_order : nPar mi_X10_order.1 2 := by unfold nPar; decide +kernel
theorem np_X10_spaceOf : nPar mi_X10_spaceOf.1 1 := by unfold nPar; decide +kernel
theorem np_X10_space : nPar mi_X10_space.1 1 := by unfold nPar; decide +kernel
theorem np_X10_findLine : nPar mi_X10_findLine.1 0 := by unfold nPar; decide +kernel
theorem np_X10_line : nPar mi_X10_line.1 1 := by unfold nPar; decide +kernel
theorem np_X10_parts : nPar mi_X10_parts.1 2 := by unfold nPar; decide +kernel
theorem np_X10_parted : nPar mi_X10_parted.1 2 := by unfold nPar; decide +kernel
theorem np_X10_latest : nPar mi_X10_latest.1 1 := by unfold nPar; decide +kernel
theorem np_X10_best : nPar mi_X10_best.1 2 := by unfold nPar; decide +kernel
theorem np_X10_left : nPar mi_X10_left.1 0 := by unfold nPar; decide +kernel
theorem np_X10_lead : nPar mi_X10_lead.1 1 := by unfold nPar; decide +kernel
theorem np_X10_take : nPar mi_X10_take.1 2 := by unfold nPar; decide +kernel
theorem np_X10_drawn : nPar mi_X10_drawn.1 1 := by unfold nPar; decide +kernel
theorem np_X10_lostBy : nPar mi_X10_lostBy.1 0 := by unfold nPar; decide +kernel
theorem np_X10_loses : nPar mi_X10_loses.1 2 := by unfold nPar; decide +kernel
theorem np_X10_morning : nPar mi_X10_morning.1 0 := by unfold nPar; decide +kernel
theorem np_X10_mornings : nPar mi_X10_mornings.1 2 := by unfold nPar; decide +kernel
theorem np_X10_seed : nPar mi_X10_seed.1 1 := by unfold nPar; decide +kernel
theorem np_X10_began : nPar mi_X10_began.1 1 := by unfold nPar; decide +kernel
theorem np_X10_hasOwn : nPar mi_X10_hasOwn.1 2 := by unfold nPar; decide +kernel
theorem np_X10_voiced : nPar mi_X10_voiced.1 2 := by unfold nPar; decide +kernel
theorem np_X10_bodyFrom : nPar mi_X10_bodyFrom.1 3 := by unfold nPar; decide +kernel
theorem np_X10_body : nPar mi_X10_body.1 3 := by unfold nPar; decide +kernel
theorem np_X10_voice : nPar mi_X10_voice.1 3 := by unfold nPar; decide +kernel
theorem np_X10_trace : nPar mi_X10_trace.1 1 := by unfold nPar; decide +kernel
theorem np_X10_isSheet : nPar mi_X10_isSheet.1 1 := by unfold nPar; decide +kernel
theorem np_X10_sheet : nPar mi_X10_sheet.1 3 := by unfold nPar; decide +kernel
theorem np_X10_put : nPar mi_X10_put.1 3 := by unfold nPar; decide +kernel
theorem np_X10_move : nPar mi_X10_move.1 5 := by unfold nPar; decide +kernel
theorem np_X10_image : nPar mi_X10_image.1 0 := by unfold nPar; decide +kernel
theorem np_X10_restore : nPar mi_X10_restore.1 0 := by unfold nPar; decide +kernel
theorem np_X10_tell : nPar mi_X10_tell.1 1 := by unfold nPar; decide +kernel
theorem np_X10_check : nPar mi_X10_check.1 0 := by unfold nPar; decide +kernel
theorem np_X10_count : nPar mi_X10_count.1 1 := by unfold nPar; decide +kernel
theorem np_X10_told : nPar mi_X10_told.1 1 := by unfold nPar; decide +kernel
theorem np_J6_bitCount_0f7a4 : nPar mi_J6_bitCount_0f7a4.1 1 := by unfold nPar; decide +kernel
theorem np_J0_length_8abf5 : nPar mi_J0_length_8abf5.1 0 := by unfold nPar; decide +kernel
theorem np_J0_charAt_5068e : nPar mi_J0_charAt_5068e.1 1 := by unfold nPar; decide +kernel
theorem np_J0_indexOf_0f7a4 : nPar mi_J0_indexOf_0f7a4.1 1 := by unfold nPar; decide +kernel
theorem np_J0_indexOf_7cf53 : nPar mi_J0_indexOf_7cf53.1 2 := by unfold nPar; decide +kernel
theorem np_J0_coder_7d493 : nPar mi_J0_coder_7d493.1 0 := by unfold nPar; decide +kernel
theorem np_J0_isLatin1_aae02 : nPar mi_J0_isLatin1_aae02.1 0 := by unfold nPar; decide +kernel
theorem np_J0_checkIndex_df160 : nPar mi_J0_checkIndex_df160.1 2 := by unfold nPar; decide +kernel
theorem np_J1_charAt_3b067 : nPar mi_J1_charAt_3b067.1 2 := by unfold nPar; decide +kernel
theorem np_J1_canEncode_9a6ad : nPar mi_J1_canEncode_9a6ad.1 1 := by unfold nPar; decide +kernel
theorem np_J1_indexOf_4cfef : nPar mi_J1_indexOf_4cfef.1 4 := by unfold nPar; decide +kernel
theorem np_J1_indexOfChar_4cfef : nPar mi_J1_indexOfChar_4cfef.1 4 := by unfold nPar; decide +kernel
theorem np_J7_fill_53178 : nPar mi_J7_fill_53178.1 2 := by unfold nPar; decide +kernel
theorem np_J3_checkIndex_8e157 : nPar mi_J3_checkIndex_8e157.1 3 := by unfold nPar; decide +kernel
end
section
set_option maxHeartbeats 1000000 in
theorem c10_rope {G : Gl} {d : Nat} {S : Sh} {μ : Mu} {o : Nat} {q : Nat → Nat} {r f : Int32} {rn fn k : Nat} {K : Int32 → Sh → Mu → Prop} (hM : MS S o q) (hr : r = nI rn) (hf : f = nI fn) (hb : rn < 6) (hb2 : fn < 9) (he : 80 + 9 * rn + fn = k) (hK : K (μ (o + 1) k) S μ) : X G mi_X10_rope d 0 0 [(0, .ref o), (1, .int r), (2, .int f)] [] S μ (qi K) := by
  subst he
  refine X_aload_n (tk_X10_rope.at 0 rfl) rfl ?_
  refine X_getR (tk_X10_rope.at 1 rfl) fl_x10_9 hM.f0 rfl rfl ?_
  refine X_bipush (tk_X10_rope.at 2 rfl) cb_80 ?_
  refine X_bipush (tk_X10_rope.at 3 rfl) cb_9 ?_
  refine X_iload_n (tk_X10_rope.at 4 rfl) rfl ?_
  refine X_imul (tk_X10_rope.at 5 rfl) ?_
  refine X_iadd (tk_X10_rope.at 6 rfl) ?_
  refine X_iload_n (tk_X10_rope.at 7 rfl) rfl ?_
  refine X_iadd (tk_X10_rope.at 8 rfl) ?_
  refine X_ialdN (k := 80 + 9 * rn + fn) (tk_X10_rope.at 9 rfl) hM.f1 (pz (pa (pa (pl 80 rfl) (pm (pl 9 rfl) hr)) hf) (by omega)) (by omega) (by decide) ?_
  refine X_ireturn (tk_X10_rope.at 10 rfl) rfl rfl ?_
  exact hK
set_option maxHeartbeats 1000000 in
theorem c10_many {G : Gl} {d : Nat} {S : Sh} {μ : Mu} {o : Nat} {q : Nat → Nat} {r : Int32} {rn : Nat} {K : Int32 → Sh → Mu → Prop} (hM : MS S o q) (hr : r = nI rn) (hb : rn < 6) (hK : K (μ (o + 1) (83 + 9 * rn)) S μ) : X G mi_X10_many (d + 1) 0 0 [(0, .ref o), (1, .int r)] [] S μ (qi K) := by
  refine X_aload_n (tk_X10_many.at 0 rfl) rfl ?_
  refine X_iload_n (tk_X10_many.at 1 rfl) rfl ?_
  refine X_iconst (tk_X10_many.at 2 rfl) ci_3 ?_
  refine X_cV2i (lv2 := [(0, _), (1, _), (2, _)]) (tk_X10_many.at 3 rfl) mv_X10_rope lk_x10_115 np_X10_rope hM.f0 (by decide) rfl (Nat.le_of_ble_eq_true rfl) (Nat.le_of_ble_eq_true rfl) rfl (c10_rope (k := 83 + 9 * rn) hM hr (pl 3 rfl) (by omega) (by omega) (by omega) ?_)
  refine X_ireturn (tk_X10_many.at 4 rfl) rfl rfl ?_
  exact hK
set_option maxHeartbeats 1000000 in
theorem c10_who {G : Gl} {d : Nat} {S : Sh} {μ : Mu} {o : Nat} {q : Nat → Nat} {r i : Int32} {rn j : Nat} {K : Int32 → Sh → Mu → Prop} (hM : MS S o q) (hr : r = nI rn) (hi : i = nI j) (hb : rn < 6) (hb2 : j < 5) (hK : K (μ (o + 1) (84 + 9 * rn + j)) S μ) : X G mi_X10_who (d + 1) 0 0 [(0, .ref o), (1, .int r), (2, .int i)] [] S μ (qi K) := by
  refine X_aload_n (tk_X10_who.at 0 rfl) rfl ?_
  refine X_iload_n (tk_X10_who.at 1 rfl) rfl ?_
  refine X_iconst (tk_X10_who.at 2 rfl) ci_4 ?_
  refine X_iload_n (tk_X10_who.at 3 rfl) rfl ?_
  refine X_iadd (tk_X10_who.at 4 rfl) ?_
  refine X_cV2i (lv2 := [(0, _), (1, _), (2, _)]) (tk_X10_who.at 5 rfl) mv_X10_rope lk_x10_115 np_X10_rope hM.f0 (by decide) rfl (Nat.le_of_ble_eq_true rfl) (Nat.le_of_ble_eq_true rfl) rfl (c10_rope (k := 84 + 9 * rn + j) hM hr (pa (pl 4 rfl) hi) (by omega) (by omega) (by omega) ?_)
  refine X_ireturn (tk_X10_who.at 6 rfl) rfl rfl ?_
  exact hK
set_option maxHeartbeats 1000000 in
theorem c10_seats {G : Gl} {d : Nat} {S : Sh} {μ : Mu} {o : Nat} {q : Nat → Nat} {r i x : Int32} {rn j : Nat} {K : Sh → Mu → Prop} (hM : MS S o q) (hr : r = nI rn) (hi : i = nI j) (hb : rn < 6) (hb2 : j < 5) (hK : K S (su μ (o + 1) (84 + 9 * rn + j) x)) : X G mi_X10_seats d 0 0 [(0, .ref o), (1, .int r), (2, .int i), (3, .int x)] [] S μ (qv K) := by
  refine X_aload_n (tk_X10_seats.at 0 rfl) rfl ?_
  refine X_getR (tk_X10_seats.at 1 rfl) fl_x10_9 hM.f0 rfl rfl ?_
  refine X_bipush (tk_X10_seats.at 2 rfl) cb_80 ?_
  refine X_bipush (tk_X10_seats.at 3 rfl) cb_9 ?_
  refine X_iload_n (tk_X10_seats.at 4 rfl) rfl ?_
  refine X_imul (tk_X10_seats.at 5 rfl) ?_
  refine X_iadd (tk_X10_seats.at 6 rfl) ?_
  refine X_iconst (tk_X10_seats.at 7 rfl) ci_4 ?_
  refine X_iadd (tk_X10_seats.at 8 rfl) ?_
  refine X_iload_n (tk_X10_seats.at 9 rfl) rfl ?_
  refine X_iadd (tk_X10_seats.at 10 rfl) ?_
  refine X_iload_n (tk_X10_seats.at 11 rfl) rfl ?_
  refine X_iastN (k := 84 + 9 * rn + j) (tk_X10_seats.at 12 rfl) hM.f1 (pz (pa (pa (pa (pl 80 rfl) (pm (pl 9 rfl) hr)) (pl 4 rfl)) hi) (by omega)) (by omega) (by decide) ?_
  refine X_return (tk_X10_seats.at 13 rfl) rfl ?_
  exact hK
set_option maxHeartbeats 1000000 in
theorem c10_of {G : Gl} {d : Nat} {S : Sh} {μ : Mu} {o : Nat} {q : Nat → Nat} {p f : Int32} {pn fn k : Nat} {K : Int32 → Sh → Mu → Prop} (hM : MS S o q) (hp : p = nI pn) (hf : f = nI fn) (hb : pn < 10) (hb2 : fn < 4) (he : 8 + 4 * pn + fn = k) (hK : K (μ (o + 1) k) S μ) : X G mi_X10_of d 0 0 [(0, .ref o), (1, .int p), (2, .int f)] [] S μ (qi K) := by
  subst he
  refine X_aload_n (tk_X10_of.at 0 rfl) rfl ?_
  refine X_getR (tk_X10_of.at 1 rfl) fl_x10_9 hM.f0 rfl rfl ?_
  refine X_bipush (tk_X10_of.at 2 rfl) cb_8 ?_
  refine X_iconst (tk_X10_of.at 3 rfl) ci_4 ?_
  refine X_iload_n (tk_X10_of.at 4 rfl) rfl ?_
  refine X_imul (tk_X10_of.at 5 rfl) ?_
  refine X_iadd (tk_X10_of.at 6 rfl) ?_
  refine X_iload_n (tk_X10_of.at 7 rfl) rfl ?_
  refine X_iadd (tk_X10_of.at 8 rfl) ?_
  refine X_ialdN (k := 8 + 4 * pn + fn) (tk_X10_of.at 9 rfl) hM.f1 (pz (pa (pa (pl 8 rfl) (pm (pl 4 rfl) hp)) hf) (by omega)) (by omega) (by decide) ?_
  refine X_ireturn (tk_X10_of.at 10 rfl) rfl rfl ?_
  exact hK
set_option maxHeartbeats 1000000 in
theorem c10_ofPieceAt {G : Gl} {d : Nat} {S : Sh} {μ : Mu} {o : Nat} {q : Nat → Nat} {p f : Int32} {pn fn k : Nat} {K : Int32 → Sh → Mu → Prop} (hM : MS S o q) (hp : p = nI pn) (hf : f = nI fn) (hb : pn < 8) (hb2 : fn < 4) (he : 48 + 4 * pn + fn = k) (hK : K (μ (o + 1) k) S μ) : X G mi_X10_ofPieceAt d 0 0 [(0, .ref o), (1, .int p), (2, .int f)] [] S μ (qi K) := by
  subst he
  refine X_aload_n (tk_X10_ofPieceAt.at 0 rfl) rfl ?_
  refine X_getR (tk_X10_ofPieceAt.at 1 rfl) fl_x10_9 hM.f0 rfl rfl ?_
  refine X_bipush (tk_X10_ofPieceAt.at 2 rfl) cb_48 ?_
  refine X_iconst (tk_X10_ofPieceAt.at 3 rfl) ci_4 ?_
  refine X_iload_n (tk_X10_ofPieceAt.at 4 rfl) rfl ?_
  refine X_imul (tk_X10_ofPieceAt.at 5 rfl) ?_
  refine X_iadd (tk_X10_ofPieceAt.at 6 rfl) ?_
  refine X_iload_n (tk_X10_ofPieceAt.at 7 rfl) rfl ?_
  refine X_iadd (tk_X10_ofPieceAt.at 8 rfl) ?_
  refine X_ialdN (k := 48 + 4 * pn + fn) (tk_X10_ofPieceAt.at 9 rfl) hM.f1 (pz (pa (pa (pl 48 rfl) (pm (pl 4 rfl) hp)) hf) (by omega)) (by omega) (by decide) ?_
  refine X_ireturn (tk_X10_ofPieceAt.at 10 rfl) rfl rfl ?_
  exact hK
set_option maxHeartbeats 1000000 in
theorem c10_become {G : Gl} {d : Nat} {S : Sh} {μ : Mu} {o : Nat} {q : Nat → Nat} {a x : Int32} {k : Nat} {K : Int32 → Sh → Mu → Prop} (hM : MS S o q) (ha : a = nI k) (hb : k < 314) (hK : K (μ (o + 1) k) S (su μ (o + 1) k x)) : X G mi_X10_become d 0 0 [(0, .ref o), (1, .int a), (2, .int x)] [] S μ (qi K) := by
  refine X_aload_n (tk_X10_become.at 0 rfl) rfl ?_
  refine X_getR (tk_X10_become.at 1 rfl) fl_x10_9 hM.f0 rfl rfl ?_
  refine X_iload_n (tk_X10_become.at 2 rfl) rfl ?_
  refine X_ialdN (k := k) (tk_X10_become.at 3 rfl) hM.f1 ha (by omega) (by decide) ?_
  refine X_istore_n (lv' := [(0, _), (1, _), (2, _), (3, _)]) (tk_X10_become.at 4 rfl) (by decide) rfl rfl ?_
  refine X_aload_n (tk_X10_become.at 5 rfl) rfl ?_
  refine X_getR (tk_X10_become.at 6 rfl) fl_x10_9 hM.f0 rfl rfl ?_
  refine X_iload_n (tk_X10_become.at 7 rfl) rfl ?_
  refine X_iload_n (tk_X10_become.at 8 rfl) rfl ?_
  refine X_iastN (k := k) (tk_X10_become.at 9 rfl) hM.f1 ha (by omega) (by decide) ?_
  refine X_iload_n (tk_X10_become.at 10 rfl) rfl ?_
  refine X_ireturn (tk_X10_become.at 11 rfl) rfl rfl ?_
  exact hK
set_option maxHeartbeats 1000000 in
theorem c10_finding {G : Gl} {d : Nat} {S : Sh} {μ : Mu} {o : Nat} {q : Nat → Nat} {w : Int32} {k : Nat} {K : Int32 → Sh → Mu → Prop} (hM : MS S o q) (hw : -1000000000 - w = nI k) (hb : k < 6) (hK : K w S (su μ (o + 4) k (μ (o + 4) k + 1))) : X G mi_X10_finding d 0 0 [(0, .ref o), (1, .int w)] [] S μ (qi K) := by
  refine X_aload_n (tk_X10_finding.at 0 rfl) rfl ?_
  refine X_getR (tk_X10_finding.at 1 rfl) fl_x10_19 hM.f0 rfl rfl ?_
  refine X_ldc (tk_X10_finding.at 2 rfl) kn_x10_68 ?_
  refine X_iload_n (tk_X10_finding.at 3 rfl) rfl ?_
  refine X_isub (tk_X10_finding.at 4 rfl) ?_
  refine X_dup2 (tk_X10_finding.at 5 rfl) rfl rfl ?_
  refine X_ialdN (k := k) (tk_X10_finding.at 6 rfl) hM.f4 hw (by omega) (by decide) ?_
  refine X_iconst (tk_X10_finding.at 7 rfl) ci_1 ?_
  refine X_iadd (tk_X10_finding.at 8 rfl) ?_
  refine X_iastN (k := k) (tk_X10_finding.at 9 rfl) hM.f4 hw (by omega) (by decide) ?_
  refine X_iload_n (tk_X10_finding.at 10 rfl) rfl ?_
  refine X_ireturn (tk_X10_finding.at 11 rfl) rfl rfl ?_
  exact hK
set_option maxHeartbeats 1000000 in
theorem c10_within {G : Gl} {d : Nat} {S : Sh} {μ : Mu} {v a b : Int32} {K : Int32 → Sh → Mu → Prop} (kt : a ≤ v → v ≤ b → K 1 S μ) (kf : ¬ (a ≤ v ∧ v ≤ b) → K 0 S μ) : X G mi_X10_within d 0 0 [(0, .int v), (1, .int a), (2, .int b)] [] S μ (qi K) := by
  refine X_iload_n (tk_X10_within.at 0 rfl) rfl ?_
  refine X_iload_n (tk_X10_within.at 1 rfl) rfl ?_
  refine X_icmp_lt (tgt := 14) (tk_X10_within.at 2 rfl) (by decide) (fun c1 => ?_) (fun c1 => ?_)
  · refine X_iconst (tk_X10_within.at 8 rfl) ci_0 ?_
    refine X_ireturn (tk_X10_within.at 9 rfl) rfl rfl ?_
    exact kf (fun h => absurd h.1 (Int32.not_le.mpr c1))
  · refine X_iload_n (tk_X10_within.at 3 rfl) rfl ?_
    refine X_iload_n (tk_X10_within.at 4 rfl) rfl ?_
    refine X_icmp_gt (tgt := 14) (tk_X10_within.at 5 rfl) (by decide) (fun c2 => ?_) (fun c2 => ?_)
    · refine X_iconst (tk_X10_within.at 8 rfl) ci_0 ?_
      refine X_ireturn (tk_X10_within.at 9 rfl) rfl rfl ?_
      exact kf (fun h => absurd h.2 (Int32.not_le.mpr c2))
    · refine X_iconst (tk_X10_within.at 6 rfl) ci_1 ?_
      refine X_goto (tgt := 15) (tk_X10_within.at 7 rfl) (by decide) ?_
      refine X_ireturn (tk_X10_within.at 9 rfl) rfl rfl ?_
      exact kt (Int32.not_lt.mp c1) (Int32.not_lt.mp c2)
set_option maxHeartbeats 1000000 in
theorem c10_has {G : Gl} {d : Nat} {S : Sh} {μ : Mu} {s k : Int32} {K : Int32 → Sh → Mu → Prop} (kt : (s >>> (k &&& 31)) &&& 1 = 1 → K 1 S μ) (kf : ¬ (s >>> (k &&& 31)) &&& 1 = 1 → K 0 S μ) : X G mi_X10_has d 0 0 [(0, .int s), (1, .int k)] [] S μ (qi K) := by
  refine X_iload_n (tk_X10_has.at 0 rfl) rfl ?_
  refine X_iload_n (tk_X10_has.at 1 rfl) rfl ?_
  refine X_ishr (tk_X10_has.at 2 rfl) ?_
  refine X_iconst (tk_X10_has.at 3 rfl) ci_1 ?_
  refine X_iand (tk_X10_has.at 4 rfl) ?_
  refine X_iconst (tk_X10_has.at 5 rfl) ci_1 ?_
  refine X_icmp_ne (tgt := 13) (tk_X10_has.at 6 rfl) (by decide) (fun c1 => ?_) (fun c1 => ?_)
  · refine X_iconst (tk_X10_has.at 9 rfl) ci_0 ?_
    refine X_ireturn (tk_X10_has.at 10 rfl) rfl rfl ?_
    exact kf c1
  · refine X_iconst (tk_X10_has.at 7 rfl) ci_1 ?_
    refine X_goto (tgt := 14) (tk_X10_has.at 8 rfl) (by decide) ?_
    refine X_ireturn (tk_X10_has.at 10 rfl) rfl rfl ?_
    exact kt c1
end
section
/-! Pure rows: stores; the reference's row of numbers and what is always so of it. -/
theorem su_eq (μ : Mu) (a i : Nat) (x : Int32) : su μ a i x = Mx μ a (upd (μ a) i x) := rfl
theorem Mx_Mx (μ : Mu) (a : Nat) (f g : Nat → Int32) : Mx (Mx μ a f) a g = Mx μ a g := by
  funext b
  unfold Mx
  by_cases h : b = a
  · simp [h]
  · simp [h]
theorem su_Mx (μ : Mu) (a i : Nat) (f : Nat → Int32) (x : Int32) : su (Mx μ a f) a i x = Mx μ a (upd f i x) := by
  rw [su_eq, Mx_same, Mx_Mx]
theorem Mx_comm (μ : Mu) {a b : Nat} (h : a ≠ b) (f g : Nat → Int32) : Mx (Mx μ a f) b g = Mx (Mx μ b g) a f := by
  funext c
  unfold Mx
  by_cases h1 : c = a
  · subst h1; simp [h]
  · simp [h1]
theorem Mx_self (μ : Mu) (a : Nat) : Mx μ a (μ a) = μ := by
  funext c
  unfold Mx
  by_cases h1 : c = a
  · subst h1; simp
  · simp [h1]
theorem upd_at (f : Nat → Int32) (k : Nat) (x : Int32) : upd f k x k = x := if_pos rfl
theorem upd_ne (f : Nat → Int32) {k j : Nat} (x : Int32) (h : j ≠ k) : upd f k x j = f j := if_neg h
theorem upd_upd (f : Nat → Int32) (k : Nat) (x y : Int32) : upd (upd f k x) k y = upd f k y := by
  funext j
  unfold upd
  by_cases h : j = k <;> simp [h]
theorem nI_m1 {n : Nat} (h : 1 ≤ n) : nI n - 1 = nI (n - 1) := by
  obtain ⟨m, rfl⟩ : ∃ m, n = m + 1 := ⟨n - 1, by omega⟩
  exact nI_pred m
theorem in_t {k : Int32} {n : Nat} (hn : n < 2 ^ 30) (h1 : 0 ≤ k) (h2 : k ≤ nI n - 1) : ∃ j, j < n ∧ k = nI j := by
  obtain ⟨j, hj, rfl⟩ := nI_of (Int32.not_lt.mpr h1)
  refine ⟨j, ?_, rfl⟩
  rw [Int32.le_iff_toInt_le, nI_toInt hj, show (1 : Int32) = nI 1 from rfl, pk_sub_toInt hn (by omega)] at h2
  omega
theorem in_f {k : Int32} {n : Nat} (hn : n < 2 ^ 30) (h : ¬ (0 ≤ k ∧ k ≤ nI n - 1)) : k < 0 ∨ nI n ≤ k := by
  rcases Classical.em (k < 0) with q | q
  · exact Or.inl q
  · refine Or.inr ?_
    obtain ⟨j, hj, rfl⟩ := nI_of q
    rw [nI_leI (by omega) hj]
    rcases Nat.lt_or_ge j n with z | z
    · exfalso
      refine h ⟨nI_pos' hj, ?_⟩
      rw [Int32.le_iff_toInt_le, nI_toInt hj, show (1 : Int32) = nI 1 from rfl, pk_sub_toInt hn (by omega)]
      omega
    · exact z
theorem out_no {k : Int32} {n j : Nat} (hn : n < 2 ^ 30) (hj : j < n) (h : k < 0 ∨ nI n ≤ k) : ¬ k = nI j := by
  rintro rfl
  rcases h with h | h
  · exact nI_pos (by omega) h
  · exact nI_ge hj (by omega) h
/-- between two written numbers -/
theorem le_lits {v : Int32} {a b : Nat} (hb : b < 2 ^ 31) (h1 : nI a ≤ v) (h2 : v ≤ nI b) (ha : a < 2 ^ 31) : v = nI (nv v) ∧ a ≤ nv v ∧ nv v ≤ b := by
  have h0 : ¬ v < 0 := by
    rw [Int32.lt_iff_toInt_lt, Int32.toInt_zero]
    rw [Int32.le_iff_toInt_le, nI_toInt ha] at h1
    omega
  obtain ⟨j, hj, rfl⟩ := nI_of h0
  rw [nv_nI hj]
  rw [nI_leI ha hj] at h1
  rw [nI_leI hj hb] at h2
  exact ⟨rfl, h1, h2⟩
def Told (w s p g : Int32) : Prop := ((30 ≤ w ∧ w ≤ 300) ∧ (0 ≤ s ∧ s ≤ 999)) ∧ ((1 ≤ p ∧ p ≤ 60) ∧ (0 ≤ g ∧ g ≤ 1))
def ToldC (s b f e : Int32) : Prop := ((-5 ≤ s ∧ s ≤ 5) ∧ (0 ≤ b ∧ b ≤ 999)) ∧ ((0 ≤ f ∧ f ≤ 99) ∧ (1 ≤ e ∧ e ≤ 40))
def ToldR (k s n : Int32) : Prop := (0 ≤ k ∧ k ≤ 6) ∧ (1 ≤ s ∧ s ≤ 20) ∧ (0 ≤ n ∧ n ≤ 9)
/-- four numbers more, the count at c -/
def addN (N : Nat → Int32) (b n : Nat) (w s p g : Int32) (c : Nat) : Nat → Int32 := upd (upd (upd (upd (upd N (b + 4 * n) w) (b + 1 + 4 * n) s) (b + 2 + 4 * n) p) (b + 3 + 4 * n) g) c (nI (n + 1))
def addR (N : Nat → Int32) (n : Nat) (k s t : Int32) : Nat → Int32 := upd (upd (upd (upd (upd N (80 + 9 * n) k) (81 + 9 * n) s) (82 + 9 * n) t) (83 + 9 * n) 0) 3 (nI (n + 1))
/-- an error more -/
def er (μ : Mu) (o k : Nat) : Mu := su μ (o + 4) k (μ (o + 4) k + 1)
/-- who stands where -/
def On (N : Nat → Int32) (r i p : Nat) : Prop := r < nv (N 3) ∧ i < nv (N (83 + 9 * r)) ∧ N (84 + 9 * r + i) = nI p
def okN (x : Int32) (b : Nat) : Prop := x = nI (nv x) ∧ nv x ≤ b
theorem okN.lt {x : Int32} {b : Nat} (h : okN x b) (hb : b < 2 ^ 31) : nv x < 2 ^ 31 := Nat.lt_of_le_of_lt h.2 hb
theorem okN_of {n b : Nat} (h : n ≤ b) (hb : b < 2 ^ 31) : okN (nI n) b := by
  have e : nv (nI n) = n := nv_nI (by omega)
  exact ⟨by rw [e], by rw [e]; exact h⟩
/-- a text's codes: how many numbers lie on the pile behind the first k codes -/
def dpt (C : Nat → Int32) : Nat → Nat
  | 0 => 0
  | k + 1 => if C k < 20000 then dpt C k + 1 else if C k = 20010 then dpt C k else dpt C k - 1
def okT (C : Nat → Int32) (n : Nat) : Prop := (∀ k, k < n → (C k < 20000 ∧ 0 ≤ C k ∧ C k < 10005) ∨ (C k = 20010 ∧ 1 ≤ dpt C k) ∨ (¬ C k < 20000 ∧ C k < 20010 ∧ 2 ≤ dpt C k)) ∧ (0 < n → 1 ≤ dpt C n)
def WF0 (N : Nat → Int32) : Prop := okN (N 0) 1439 ∧ okN (N 1) 10 ∧ okN (N 2) 8 ∧ okN (N 3) 6 ∧ okN (N 4) 6 ∧ okN (N 5) 50 ∧ okN (N 6) 20
def WFp (N : Nat → Int32) (p : Nat) : Prop := (okN (N (8 + 4 * p)) 300 ∧ 30 ≤ nv (N (8 + 4 * p))) ∧ okN (N (9 + 4 * p)) 999 ∧ (okN (N (10 + 4 * p)) 60 ∧ 1 ≤ nv (N (10 + 4 * p))) ∧ okN (N (11 + 4 * p)) 1
def WFc (N : Nat → Int32) (c : Nat) : Prop := (-5 ≤ N (48 + 4 * c) ∧ N (48 + 4 * c) ≤ 5) ∧ okN (N (49 + 4 * c)) 999 ∧ okN (N (50 + 4 * c)) 99 ∧ (okN (N (51 + 4 * c)) 40 ∧ 1 ≤ nv (N (51 + 4 * c)))
def WFr (N : Nat → Int32) (r : Nat) : Prop := okN (N (80 + 9 * r)) 6 ∧ (okN (N (81 + 9 * r)) 20 ∧ 1 ≤ nv (N (81 + 9 * r))) ∧ okN (N (82 + 9 * r)) 9 ∧ okN (N (83 + 9 * r)) 5 ∧ ∀ i, i < nv (N (83 + 9 * r)) → N (84 + 9 * r + i) = nI (nv (N (84 + 9 * r + i))) ∧ nv (N (84 + 9 * r + i)) < nv (N 1)
def WF (N : Nat → Int32) : Prop := WF0 N ∧ (∀ p, p < nv (N 1) → WFp N p) ∧ (∀ c, c < nv (N 2) → WFc N c) ∧ (∀ r, r < nv (N 3) → WFr N r) ∧
  (∀ r i r' i' p, On N r i p → On N r' i' p → r = r' ∧ i = i') ∧ (∀ k, k < nv (N 4) → N (134 + k) = nI (nv (N (134 + k))) ∧ nv (N (134 + k)) < nv (N 3)) ∧ (∀ k k', k < nv (N 4) → k' < nv (N 4) → N (134 + k) = N (134 + k') → k = k') ∧
  (∀ k, k < nv (N 5) → okN (N (140 + k)) 255) ∧ ∀ u, u < 2 → okN (N (210 + 52 * u)) 50 ∧ okT (fun k => N (211 + 52 * u + k)) (nv (N (210 + 52 * u)))
theorem WF.n0 {N : Nat → Int32} (h : WF N) : okN (N 0) 1439 := h.1.1
theorem WF.n1 {N : Nat → Int32} (h : WF N) : okN (N 1) 10 := h.1.2.1
theorem WF.n2 {N : Nat → Int32} (h : WF N) : okN (N 2) 8 := h.1.2.2.1
theorem WF.n3 {N : Nat → Int32} (h : WF N) : okN (N 3) 6 := h.1.2.2.2.1
theorem WF.n4 {N : Nat → Int32} (h : WF N) : okN (N 4) 6 := h.1.2.2.2.2.1
theorem WF.n5 {N : Nat → Int32} (h : WF N) : okN (N 5) 50 := h.1.2.2.2.2.2.1
theorem WF.n6 {N : Nat → Int32} (h : WF N) : okN (N 6) 20 := h.1.2.2.2.2.2.2
theorem WF.pe {N : Nat → Int32} (h : WF N) {p : Nat} (hp : p < nv (N 1)) : WFp N p := h.2.1 p hp
theorem WF.pc {N : Nat → Int32} (h : WF N) {p : Nat} (hp : p < nv (N 2)) : WFc N p := h.2.2.1 p hp
theorem WF.ro {N : Nat → Int32} (h : WF N) {p : Nat} (hp : p < nv (N 3)) : WFr N p := h.2.2.2.1 p hp
theorem WF.un {N : Nat → Int32} (h : WF N) {r i r' i' p : Nat} (h1 : On N r i p) (h2 : On N r' i' p) : r = r' ∧ i = i' := h.2.2.2.2.1 r i r' i' p h1 h2
theorem WF.li {N : Nat → Int32} (h : WF N) {k : Nat} (hk : k < nv (N 4)) : N (134 + k) = nI (nv (N (134 + k))) ∧ nv (N (134 + k)) < nv (N 3) := h.2.2.2.2.2.1 k hk
theorem WF.lu {N : Nat → Int32} (h : WF N) {k k' : Nat} (hk : k < nv (N 4)) (hk' : k' < nv (N 4)) (e : N (134 + k) = N (134 + k')) : k = k' := h.2.2.2.2.2.2.1 k k' hk hk' e
theorem WF.ta {N : Nat → Int32} (h : WF N) {k : Nat} (hk : k < nv (N 5)) : okN (N (140 + k)) 255 := h.2.2.2.2.2.2.2.1 k hk
theorem WF.tx {N : Nat → Int32} (h : WF N) {u : Nat} (hu : u < 2) : okN (N (210 + 52 * u)) 50 ∧ okT (fun k => N (211 + 52 * u + k)) (nv (N (210 + 52 * u))) := h.2.2.2.2.2.2.2.2 u hu
end
section
set_option maxHeartbeats 1000000 in
theorem c10_is {G : Gl} {d : Nat} {S : Sh} {μ : Mu} {o : Nat} {q : Nat → Nat} {k c : Int32} {cn n : Nat} {K : Int32 → Sh → Mu → Prop} (hM : MS S o q) (hc : c = nI cn) (hb : cn < 314) (hn : μ (o + 1) cn = nI n) (hn2 : n < 2 ^ 30) (kt : ∀ j, j < n → k = nI j → K 1 S μ) (kf : (k < 0 ∨ nI n ≤ k) → K 0 S μ) : X G mi_X10_is (d + 1) 0 0 [(0, .ref o), (1, .int k), (2, .int c)] [] S μ (qi K) := by
  refine X_iload_n (tk_X10_is.at 0 rfl) rfl ?_
  refine X_iconst (tk_X10_is.at 1 rfl) ci_0 ?_
  refine X_aload_n (tk_X10_is.at 2 rfl) rfl ?_
  refine X_getR (tk_X10_is.at 3 rfl) fl_x10_9 hM.f0 rfl rfl ?_
  refine X_iload_n (tk_X10_is.at 4 rfl) rfl ?_
  refine X_ialdN (k := cn) (tk_X10_is.at 5 rfl) hM.f1 hc (by omega) (by decide) ?_
  refine X_iconst (tk_X10_is.at 6 rfl) ci_1 ?_
  refine X_isub (tk_X10_is.at 7 rfl) ?_
  refine X_cS3i (lv2 := [(0, _), (1, _), (2, _)]) (tk_X10_is.at 8 rfl) ms_X10_within lk_x10_69 np_X10_within (Nat.le_of_ble_eq_true rfl) (Nat.le_of_ble_eq_true rfl) rfl (c10_within (fun h10 h1010 => ?_) (fun h10 => ?_))
  · refine X_ireturn (tk_X10_is.at 9 rfl) rfl rfl ?_
    rw [hn] at h1010
    obtain ⟨j, hj, e⟩ := in_t hn2 h10 h1010
    exact kt j hj e
  · refine X_ireturn (tk_X10_is.at 9 rfl) rfl rfl ?_
    rw [hn] at h10
    exact kf (in_f hn2 h10)
set_option maxHeartbeats 1000000 in
theorem c10_isAsTold {G : Gl} {d : Nat} {S : Sh} {μ : Mu} {w s p g : Int32} {K : Int32 → Sh → Mu → Prop} (kt : Told w s p g → K 1 S μ) (kf : ¬ Told w s p g → K 0 S μ) : X G mi_X10_isAsTold (d + 1) 0 0 [(0, .int w), (1, .int s), (2, .int p), (3, .int g)] [] S μ (qi K) := by
  refine X_iload_n (tk_X10_isAsTold.at 0 rfl) rfl ?_
  refine X_bipush (tk_X10_isAsTold.at 1 rfl) cb_30 ?_
  refine X_sipush (tk_X10_isAsTold.at 2 rfl) cs_300 ?_
  refine X_cS3i (lv2 := [(0, _), (1, _), (2, _)]) (tk_X10_isAsTold.at 3 rfl) ms_X10_within lk_x10_69 np_X10_within (Nat.le_of_ble_eq_true rfl) (Nat.le_of_ble_eq_true rfl) rfl (c10_within (fun h6 h1006 => ?_) (fun h6 => ?_))
  · obtain ⟨ew6, lw6, bw6⟩ := le_lits (a := 30) (b := 300) (by decide) h6 h1006 (by decide)
    refine X_if_eq (tgt := 46) (tk_X10_isAsTold.at 4 rfl) (by decide) (fun h => absurd h (by decide)) (fun _ => ?_)
    refine X_iload_n (tk_X10_isAsTold.at 5 rfl) rfl ?_
    refine X_iconst (tk_X10_isAsTold.at 6 rfl) ci_0 ?_
    refine X_sipush (tk_X10_isAsTold.at 7 rfl) cs_999 ?_
    refine X_cS3i (lv2 := [(0, _), (1, _), (2, _)]) (tk_X10_isAsTold.at 8 rfl) ms_X10_within lk_x10_69 np_X10_within (Nat.le_of_ble_eq_true rfl) (Nat.le_of_ble_eq_true rfl) rfl (c10_within (fun h17 h1017 => ?_) (fun h17 => ?_))
    · obtain ⟨ew17, lw17, bw17⟩ := le_lits (a := 0) (b := 999) (by decide) h17 h1017 (by decide)
      refine X_if_eq (tgt := 46) (tk_X10_isAsTold.at 9 rfl) (by decide) (fun h => absurd h (by decide)) (fun _ => ?_)
      refine X_iload_n (tk_X10_isAsTold.at 10 rfl) rfl ?_
      refine X_iconst (tk_X10_isAsTold.at 11 rfl) ci_1 ?_
      refine X_bipush (tk_X10_isAsTold.at 12 rfl) cb_60 ?_
      refine X_cS3i (lv2 := [(0, _), (1, _), (2, _)]) (tk_X10_isAsTold.at 13 rfl) ms_X10_within lk_x10_69 np_X10_within (Nat.le_of_ble_eq_true rfl) (Nat.le_of_ble_eq_true rfl) rfl (c10_within (fun h27 h1027 => ?_) (fun h27 => ?_))
      · obtain ⟨ew27, lw27, bw27⟩ := le_lits (a := 1) (b := 60) (by decide) h27 h1027 (by decide)
        refine X_if_eq (tgt := 46) (tk_X10_isAsTold.at 14 rfl) (by decide) (fun h => absurd h (by decide)) (fun _ => ?_)
        refine X_iload_n (tk_X10_isAsTold.at 15 rfl) rfl ?_
        refine X_iconst (tk_X10_isAsTold.at 16 rfl) ci_0 ?_
        refine X_iconst (tk_X10_isAsTold.at 17 rfl) ci_1 ?_
        refine X_cS3i (lv2 := [(0, _), (1, _), (2, _)]) (tk_X10_isAsTold.at 18 rfl) ms_X10_within lk_x10_69 np_X10_within (Nat.le_of_ble_eq_true rfl) (Nat.le_of_ble_eq_true rfl) rfl (c10_within (fun h36 h1036 => ?_) (fun h36 => ?_))
        · obtain ⟨ew36, lw36, bw36⟩ := le_lits (a := 0) (b := 1) (by decide) h36 h1036 (by decide)
          refine X_if_eq (tgt := 46) (tk_X10_isAsTold.at 19 rfl) (by decide) (fun h => absurd h (by decide)) (fun _ => ?_)
          refine X_iconst (tk_X10_isAsTold.at 20 rfl) ci_1 ?_
          refine X_goto (tgt := 47) (tk_X10_isAsTold.at 21 rfl) (by decide) ?_
          refine X_ireturn (tk_X10_isAsTold.at 23 rfl) rfl rfl ?_
          exact kt ⟨⟨⟨h6, h1006⟩, ⟨h17, h1017⟩⟩, ⟨⟨h27, h1027⟩, ⟨h36, h1036⟩⟩⟩
        · refine X_if_eq (tgt := 46) (tk_X10_isAsTold.at 19 rfl) (by decide) (fun _ => ?_) (fun h => absurd h (by decide))
          refine X_iconst (tk_X10_isAsTold.at 22 rfl) ci_0 ?_
          refine X_ireturn (tk_X10_isAsTold.at 23 rfl) rfl rfl ?_
          exact kf (fun h => by obtain ⟨⟨a1, a2⟩, a3, a4⟩ := h; first | exact h36 a4 | exact h27 a3 | exact h17 a2 | exact h6 a1)
      · refine X_if_eq (tgt := 46) (tk_X10_isAsTold.at 14 rfl) (by decide) (fun _ => ?_) (fun h => absurd h (by decide))
        refine X_iconst (tk_X10_isAsTold.at 22 rfl) ci_0 ?_
        refine X_ireturn (tk_X10_isAsTold.at 23 rfl) rfl rfl ?_
        exact kf (fun h => by obtain ⟨⟨a1, a2⟩, a3, a4⟩ := h; first | exact h36 a4 | exact h27 a3 | exact h17 a2 | exact h6 a1)
    · refine X_if_eq (tgt := 46) (tk_X10_isAsTold.at 9 rfl) (by decide) (fun _ => ?_) (fun h => absurd h (by decide))
      refine X_iconst (tk_X10_isAsTold.at 22 rfl) ci_0 ?_
      refine X_ireturn (tk_X10_isAsTold.at 23 rfl) rfl rfl ?_
      exact kf (fun h => by obtain ⟨⟨a1, a2⟩, a3, a4⟩ := h; first | exact h36 a4 | exact h27 a3 | exact h17 a2 | exact h6 a1)
  · refine X_if_eq (tgt := 46) (tk_X10_isAsTold.at 4 rfl) (by decide) (fun _ => ?_) (fun h => absurd h (by decide))
    refine X_iconst (tk_X10_isAsTold.at 22 rfl) ci_0 ?_
    refine X_ireturn (tk_X10_isAsTold.at 23 rfl) rfl rfl ?_
    exact kf (fun h => by obtain ⟨⟨a1, a2⟩, a3, a4⟩ := h; first | exact h36 a4 | exact h27 a3 | exact h17 a2 | exact h6 a1)
set_option maxHeartbeats 1000000 in
theorem c10_comes {G : Gl} {d : Nat} {S : Sh} {μ : Mu} {o : Nat} {q : Nat → Nat} {w s p g : Int32} {n : Nat} {K : Sh → Mu → Prop} (hM : MS S o q) (hn : μ (o + 1) 1 = nI n) (hb : n < 10) (hK : K S (Mx μ (o + 1) (addN (μ (o + 1)) 8 n w s p g 1))) : X G mi_X10_comes d 0 0 [(0, .ref o), (1, .int w), (2, .int s), (3, .int p), (4, .int g)] [] S μ (qv K) := by
  refine X_bipush (tk_X10_comes.at 0 rfl) cb_8 ?_
  refine X_iconst (tk_X10_comes.at 1 rfl) ci_4 ?_
  refine X_aload_n (tk_X10_comes.at 2 rfl) rfl ?_
  refine X_getR (tk_X10_comes.at 3 rfl) fl_x10_9 hM.f0 rfl rfl ?_
  refine X_iconst (tk_X10_comes.at 4 rfl) ci_1 ?_
  refine X_ialdN (k := 1) (tk_X10_comes.at 5 rfl) hM.f1 (pz (pl 1 rfl) (by omega)) (by omega) (by decide) ?_
  refine X_imul (tk_X10_comes.at 6 rfl) ?_
  refine X_iadd (tk_X10_comes.at 7 rfl) ?_
  refine X_istore (lv' := [(0, _), (1, _), (2, _), (3, _), (4, _), (5, _)]) (tk_X10_comes.at 8 rfl) (by decide) rfl rfl ?_
  refine X_aload_n (tk_X10_comes.at 9 rfl) rfl ?_
  refine X_getR (tk_X10_comes.at 10 rfl) fl_x10_9 hM.f0 rfl rfl ?_
  refine X_iload (tk_X10_comes.at 11 rfl) rfl ?_
  refine X_iload_n (tk_X10_comes.at 12 rfl) rfl ?_
  refine X_iastN (k := 8 + 4 * n) (tk_X10_comes.at 13 rfl) hM.f1 (pz (pa (pl 8 rfl) (pm (pl 4 rfl) hn)) (by omega)) (by omega) (by decide) ?_
  refine X_aload_n (tk_X10_comes.at 14 rfl) rfl ?_
  refine X_getR (tk_X10_comes.at 15 rfl) fl_x10_9 hM.f0 rfl rfl ?_
  refine X_iload (tk_X10_comes.at 16 rfl) rfl ?_
  refine X_iconst (tk_X10_comes.at 17 rfl) ci_1 ?_
  refine X_iadd (tk_X10_comes.at 18 rfl) ?_
  refine X_iload_n (tk_X10_comes.at 19 rfl) rfl ?_
  refine X_iastN (k := 9 + 4 * n) (tk_X10_comes.at 20 rfl) hM.f1 (pz (pa (pa (pl 8 rfl) (pm (pl 4 rfl) hn)) (pl 1 rfl)) (by omega)) (by omega) (by decide) ?_
  refine X_aload_n (tk_X10_comes.at 21 rfl) rfl ?_
  refine X_getR (tk_X10_comes.at 22 rfl) fl_x10_9 hM.f0 rfl rfl ?_
  refine X_iload (tk_X10_comes.at 23 rfl) rfl ?_
  refine X_iconst (tk_X10_comes.at 24 rfl) ci_2 ?_
  refine X_iadd (tk_X10_comes.at 25 rfl) ?_
  refine X_iload_n (tk_X10_comes.at 26 rfl) rfl ?_
  refine X_iastN (k := 10 + 4 * n) (tk_X10_comes.at 27 rfl) hM.f1 (pz (pa (pa (pl 8 rfl) (pm (pl 4 rfl) hn)) (pl 2 rfl)) (by omega)) (by omega) (by decide) ?_
  refine X_aload_n (tk_X10_comes.at 28 rfl) rfl ?_
  refine X_getR (tk_X10_comes.at 29 rfl) fl_x10_9 hM.f0 rfl rfl ?_
  refine X_iload (tk_X10_comes.at 30 rfl) rfl ?_
  refine X_iconst (tk_X10_comes.at 31 rfl) ci_3 ?_
  refine X_iadd (tk_X10_comes.at 32 rfl) ?_
  refine X_iload (tk_X10_comes.at 33 rfl) rfl ?_
  refine X_iastN (k := 11 + 4 * n) (tk_X10_comes.at 34 rfl) hM.f1 (pz (pa (pa (pl 8 rfl) (pm (pl 4 rfl) hn)) (pl 3 rfl)) (by omega)) (by omega) (by decide) ?_
  refine X_aload_n (tk_X10_comes.at 35 rfl) rfl ?_
  refine X_getR (tk_X10_comes.at 36 rfl) fl_x10_9 hM.f0 rfl rfl ?_
  refine X_iconst (tk_X10_comes.at 37 rfl) ci_1 ?_
  refine X_dup2 (tk_X10_comes.at 38 rfl) rfl rfl ?_
  refine X_ialdN (k := 1) (tk_X10_comes.at 39 rfl) hM.f1 (pz (pl 1 rfl) (by omega)) (by omega) (by decide) ?_
  refine X_iconst (tk_X10_comes.at 40 rfl) ci_1 ?_
  refine X_iadd (tk_X10_comes.at 41 rfl) ?_
  refine X_iastN (k := 1) (tk_X10_comes.at 42 rfl) hM.f1 (pz (pl 1 rfl) (by omega)) (by omega) (by decide) ?_
  refine X_return (tk_X10_comes.at 43 rfl) rfl ?_
  have e : (su (su (su (su (su μ (o + 1) (8 + 4 * n) w) (o + 1) (9 + 4 * n) s) (o + 1) (10 + 4 * n) p) (o + 1) (11 + 4 * n) g) (o + 1) 1 (((su (su (su (su μ (o + 1) (8 + 4 * n) w) (o + 1) (9 + 4 * n) s) (o + 1) (10 + 4 * n) p) (o + 1) (11 + 4 * n) g) (o + 1) 1) + 1)) = Mx μ (o + 1) (addN (μ (o + 1)) 8 n w s p g 1) := by
    have e1 : (upd (upd (upd (upd (μ (o + 1)) (8 + 4 * n) w) (9 + 4 * n) s) (10 + 4 * n) p) (11 + 4 * n) g) 1 = nI n := by
      rw [upd_ne _ _ (by omega), upd_ne _ _ (by omega), upd_ne _ _ (by omega), upd_ne _ _ (by omega)]; exact hn
    simp only [su_eq, Mx_same, Mx_Mx, addN, e1, ← nI_succ]
  rw [e]
  exact hK
def In (k : Int32) (n : Nat) : Prop := ∃ j, j < n ∧ k = nI j
theorem In_no {k : Int32} {n : Nat} (hn : n < 2 ^ 30) (h : k < 0 ∨ nI n ≤ k) : ¬ In k n := fun ⟨_, hj, e⟩ => out_no hn hj h e
set_option maxHeartbeats 1000000 in
theorem c10_person {G : Gl} {d : Nat} {S : Sh} {μ : Mu} {o : Nat} {q : Nat → Nat} {w s p g : Int32} {n : Nat} {K : Int32 → Sh → Mu → Prop} (hM : MS S o q) (hn : μ (o + 1) 1 = nI n) (hb : n ≤ 10) (k1 : ¬ Told w s p g → K (-1000000001) S (er μ o 1)) (k2 : Told w s p g → n = 10 → K (-1000000004) S (er μ o 4)) (k3 : Told w s p g → n < 10 → K (nI n) S (Mx μ (o + 1) (addN (μ (o + 1)) 8 n w s p g 1))) : X G mi_X10_person (d + 2) 0 0 [(0, .ref o), (1, .int w), (2, .int s), (3, .int p), (4, .int g)] [] S μ (qi K) := by
  refine X_iload_n (tk_X10_person.at 0 rfl) rfl ?_
  refine X_iload_n (tk_X10_person.at 1 rfl) rfl ?_
  refine X_iload_n (tk_X10_person.at 2 rfl) rfl ?_
  refine X_iload (tk_X10_person.at 3 rfl) rfl ?_
  refine X_cS4i (lv2 := [(0, _), (1, _), (2, _), (3, _)]) (tk_X10_person.at 4 rfl) ms_X10_isAsTold lk_x10_77 np_X10_isAsTold (Nat.le_of_ble_eq_true rfl) (Nat.le_of_ble_eq_true rfl) rfl (c10_isAsTold (fun h5 => ?_) (fun h5 => ?_))
  · refine X_if_ne (tgt := 18) (tk_X10_person.at 5 rfl) (by decide) (fun _ => ?_) (fun h => absurd h (by decide))
    refine X_aload_n (tk_X10_person.at 10 rfl) rfl ?_
    refine X_getR (tk_X10_person.at 11 rfl) fl_x10_9 hM.f0 rfl rfl ?_
    refine X_iconst (tk_X10_person.at 12 rfl) ci_1 ?_
    refine X_ialdN (k := 1) (tk_X10_person.at 13 rfl) hM.f1 (pz (pl 1 rfl) (by omega)) (by omega) (by decide) ?_
    refine X_bipush (tk_X10_person.at 14 rfl) cb_10 ?_
    refine X_icmp_neN (tgt := 36) (tk_X10_person.at 15 rfl) (by decide) hn (pl 10 rfl) (by omega) (by omega) (fun c2 => ?_) (fun c2 => ?_)
    · refine X_aload_n (tk_X10_person.at 20 rfl) rfl ?_
      refine X_iload_n (tk_X10_person.at 21 rfl) rfl ?_
      refine X_iload_n (tk_X10_person.at 22 rfl) rfl ?_
      refine X_iload_n (tk_X10_person.at 23 rfl) rfl ?_
      refine X_iload (tk_X10_person.at 24 rfl) rfl ?_
      refine X_cV4v (lv2 := [(0, _), (1, _), (2, _), (3, _), (4, _)]) (tk_X10_person.at 25 rfl) mv_X10_comes lk_x10_87 np_X10_comes hM.f0 (by decide) rfl (Nat.le_of_ble_eq_true rfl) (Nat.le_of_ble_eq_true rfl) rfl (c10_comes hM hn (by omega) ?_)
      refine X_aload_n (tk_X10_person.at 26 rfl) rfl ?_
      refine X_getR (tk_X10_person.at 27 rfl) fl_x10_9 hM.f0 rfl rfl ?_
      refine X_iconst (tk_X10_person.at 28 rfl) ci_1 ?_
      refine X_ialdN (k := 1) (tk_X10_person.at 29 rfl) hM.f1 (pz (pl 1 rfl) (by omega)) (by omega) (by decide) ?_
      refine X_iconst (tk_X10_person.at 30 rfl) ci_1 ?_
      refine X_isub (tk_X10_person.at 31 rfl) ?_
      refine X_ireturn (tk_X10_person.at 32 rfl) rfl rfl ?_
      have e : (Mx μ (o + 1) (addN (μ (o + 1)) 8 n w s p g 1)) (o + 1) 1 - 1 = nI n := by rw [Mx_same, addN, upd_at]; exact nI_pred n
      rw [e]
      exact k3 h5 (by omega)
    · refine X_aload_n (tk_X10_person.at 16 rfl) rfl ?_
      refine X_ldc (tk_X10_person.at 17 rfl) kn_x10_86 ?_
      refine X_cV1i (lv2 := [(0, _), (1, _)]) (tk_X10_person.at 18 rfl) mv_X10_finding lk_x10_82 np_X10_finding hM.f0 (by decide) rfl (Nat.le_of_ble_eq_true rfl) (Nat.le_of_ble_eq_true rfl) rfl (c10_finding (k := 4) hM (by decide) (by decide) ?_)
      refine X_ireturn (tk_X10_person.at 19 rfl) rfl rfl ?_
      exact k2 h5 c2
  · refine X_if_ne (tgt := 18) (tk_X10_person.at 5 rfl) (by decide) (fun h => absurd h (by decide)) (fun _ => ?_)
    refine X_aload_n (tk_X10_person.at 6 rfl) rfl ?_
    refine X_ldc (tk_X10_person.at 7 rfl) kn_x10_81 ?_
    refine X_cV1i (lv2 := [(0, _), (1, _)]) (tk_X10_person.at 8 rfl) mv_X10_finding lk_x10_82 np_X10_finding hM.f0 (by decide) rfl (Nat.le_of_ble_eq_true rfl) (Nat.le_of_ble_eq_true rfl) rfl (c10_finding (k := 1) hM (by decide) (by decide) ?_)
    refine X_ireturn (tk_X10_person.at 9 rfl) rfl rfl ?_
    exact k1 h5
set_option maxHeartbeats 1000000 in
theorem c10_piece {G : Gl} {d : Nat} {S : Sh} {μ : Mu} {o : Nat} {q : Nat → Nat} {w s p g : Int32} {n : Nat} {K : Int32 → Sh → Mu → Prop} (hM : MS S o q) (hn : μ (o + 1) 2 = nI n) (hb : n ≤ 8) (k1 : ¬ ToldC w s p g → K (-1000000001) S (er μ o 1)) (k2 : ToldC w s p g → n = 8 → K (-1000000004) S (er μ o 4)) (k3 : ToldC w s p g → n < 8 → K (nI n) S (Mx μ (o + 1) (addN (μ (o + 1)) 48 n w s p g 2))) : X G mi_X10_piece (d + 1) 0 0 [(0, .ref o), (1, .int w), (2, .int s), (3, .int p), (4, .int g)] [] S μ (qi K) := by
  refine X_iload_n (tk_X10_piece.at 0 rfl) rfl ?_
  refine X_bipush (tk_X10_piece.at 1 rfl) cb_m5 ?_
  refine X_iconst (tk_X10_piece.at 2 rfl) ci_5 ?_
  refine X_cS3i (lv2 := [(0, _), (1, _), (2, _)]) (tk_X10_piece.at 3 rfl) ms_X10_within lk_x10_69 np_X10_within (Nat.le_of_ble_eq_true rfl) (Nat.le_of_ble_eq_true rfl) rfl (c10_within (fun h4 h1004 => ?_) (fun h4 => ?_))
  · refine X_if_eq (tgt := 42) (tk_X10_piece.at 4 rfl) (by decide) (fun h => absurd h (by decide)) (fun _ => ?_)
    refine X_iload_n (tk_X10_piece.at 5 rfl) rfl ?_
    refine X_iconst (tk_X10_piece.at 6 rfl) ci_0 ?_
    refine X_sipush (tk_X10_piece.at 7 rfl) cs_999 ?_
    refine X_cS3i (lv2 := [(0, _), (1, _), (2, _)]) (tk_X10_piece.at 8 rfl) ms_X10_within lk_x10_69 np_X10_within (Nat.le_of_ble_eq_true rfl) (Nat.le_of_ble_eq_true rfl) rfl (c10_within (fun h15 h1015 => ?_) (fun h15 => ?_))
    · obtain ⟨ew15, lw15, bw15⟩ := le_lits (a := 0) (b := 999) (by decide) h15 h1015 (by decide)
      refine X_if_eq (tgt := 42) (tk_X10_piece.at 9 rfl) (by decide) (fun h => absurd h (by decide)) (fun _ => ?_)
      refine X_iload_n (tk_X10_piece.at 10 rfl) rfl ?_
      refine X_iconst (tk_X10_piece.at 11 rfl) ci_0 ?_
      refine X_bipush (tk_X10_piece.at 12 rfl) cb_99 ?_
      refine X_cS3i (lv2 := [(0, _), (1, _), (2, _)]) (tk_X10_piece.at 13 rfl) ms_X10_within lk_x10_69 np_X10_within (Nat.le_of_ble_eq_true rfl) (Nat.le_of_ble_eq_true rfl) rfl (c10_within (fun h25 h1025 => ?_) (fun h25 => ?_))
      · obtain ⟨ew25, lw25, bw25⟩ := le_lits (a := 0) (b := 99) (by decide) h25 h1025 (by decide)
        refine X_if_eq (tgt := 42) (tk_X10_piece.at 14 rfl) (by decide) (fun h => absurd h (by decide)) (fun _ => ?_)
        refine X_iload (tk_X10_piece.at 15 rfl) rfl ?_
        refine X_iconst (tk_X10_piece.at 16 rfl) ci_1 ?_
        refine X_bipush (tk_X10_piece.at 17 rfl) cb_40 ?_
        refine X_cS3i (lv2 := [(0, _), (1, _), (2, _)]) (tk_X10_piece.at 18 rfl) ms_X10_within lk_x10_69 np_X10_within (Nat.le_of_ble_eq_true rfl) (Nat.le_of_ble_eq_true rfl) rfl (c10_within (fun h36 h1036 => ?_) (fun h36 => ?_))
        · obtain ⟨ew36, lw36, bw36⟩ := le_lits (a := 1) (b := 40) (by decide) h36 h1036 (by decide)
          refine X_if_ne (tgt := 49) (tk_X10_piece.at 19 rfl) (by decide) (fun _ => ?_) (fun h => absurd h (by decide))
          refine X_aload_n (tk_X10_piece.at 24 rfl) rfl ?_
          refine X_getR (tk_X10_piece.at 25 rfl) fl_x10_9 hM.f0 rfl rfl ?_
          refine X_iconst (tk_X10_piece.at 26 rfl) ci_2 ?_
          refine X_ialdN (k := 2) (tk_X10_piece.at 27 rfl) hM.f1 (pz (pl 2 rfl) (by omega)) (by omega) (by decide) ?_
          refine X_istore (lv' := [(0, _), (1, _), (2, _), (3, _), (4, _), (5, _)]) (tk_X10_piece.at 28 rfl) (by decide) rfl rfl ?_
          refine X_iload (tk_X10_piece.at 29 rfl) rfl ?_
          refine X_bipush (tk_X10_piece.at 30 rfl) cb_8 ?_
          refine X_icmp_neN (tgt := 71) (tk_X10_piece.at 31 rfl) (by decide) hn (pl 8 rfl) (by omega) (by omega) (fun c5 => ?_) (fun c5 => ?_)
          · refine X_aload_n (tk_X10_piece.at 36 rfl) rfl ?_
            refine X_getR (tk_X10_piece.at 37 rfl) fl_x10_9 hM.f0 rfl rfl ?_
            refine X_bipush (tk_X10_piece.at 38 rfl) cb_48 ?_
            refine X_iconst (tk_X10_piece.at 39 rfl) ci_4 ?_
            refine X_iload (tk_X10_piece.at 40 rfl) rfl ?_
            refine X_imul (tk_X10_piece.at 41 rfl) ?_
            refine X_iadd (tk_X10_piece.at 42 rfl) ?_
            refine X_iconst (tk_X10_piece.at 43 rfl) ci_0 ?_
            refine X_iadd (tk_X10_piece.at 44 rfl) ?_
            refine X_iload_n (tk_X10_piece.at 45 rfl) rfl ?_
            refine X_iastN (k := 48 + 4 * n) (tk_X10_piece.at 46 rfl) hM.f1 (pz (pa (pa (pl 48 rfl) (pm (pl 4 rfl) hn)) (pl 0 rfl)) (by omega)) (by omega) (by decide) ?_
            refine X_aload_n (tk_X10_piece.at 47 rfl) rfl ?_
            refine X_getR (tk_X10_piece.at 48 rfl) fl_x10_9 hM.f0 rfl rfl ?_
            refine X_bipush (tk_X10_piece.at 49 rfl) cb_48 ?_
            refine X_iconst (tk_X10_piece.at 50 rfl) ci_4 ?_
            refine X_iload (tk_X10_piece.at 51 rfl) rfl ?_
            refine X_imul (tk_X10_piece.at 52 rfl) ?_
            refine X_iadd (tk_X10_piece.at 53 rfl) ?_
            refine X_iconst (tk_X10_piece.at 54 rfl) ci_1 ?_
            refine X_iadd (tk_X10_piece.at 55 rfl) ?_
            refine X_iload_n (tk_X10_piece.at 56 rfl) rfl ?_
            refine X_iastN (k := 49 + 4 * n) (tk_X10_piece.at 57 rfl) hM.f1 (pz (pa (pa (pl 48 rfl) (pm (pl 4 rfl) hn)) (pl 1 rfl)) (by omega)) (by omega) (by decide) ?_
            refine X_aload_n (tk_X10_piece.at 58 rfl) rfl ?_
            refine X_getR (tk_X10_piece.at 59 rfl) fl_x10_9 hM.f0 rfl rfl ?_
            refine X_bipush (tk_X10_piece.at 60 rfl) cb_48 ?_
            refine X_iconst (tk_X10_piece.at 61 rfl) ci_4 ?_
            refine X_iload (tk_X10_piece.at 62 rfl) rfl ?_
            refine X_imul (tk_X10_piece.at 63 rfl) ?_
            refine X_iadd (tk_X10_piece.at 64 rfl) ?_
            refine X_iconst (tk_X10_piece.at 65 rfl) ci_2 ?_
            refine X_iadd (tk_X10_piece.at 66 rfl) ?_
            refine X_iload_n (tk_X10_piece.at 67 rfl) rfl ?_
            refine X_iastN (k := 50 + 4 * n) (tk_X10_piece.at 68 rfl) hM.f1 (pz (pa (pa (pl 48 rfl) (pm (pl 4 rfl) hn)) (pl 2 rfl)) (by omega)) (by omega) (by decide) ?_
            refine X_aload_n (tk_X10_piece.at 69 rfl) rfl ?_
            refine X_getR (tk_X10_piece.at 70 rfl) fl_x10_9 hM.f0 rfl rfl ?_
            refine X_bipush (tk_X10_piece.at 71 rfl) cb_48 ?_
            refine X_iconst (tk_X10_piece.at 72 rfl) ci_4 ?_
            refine X_iload (tk_X10_piece.at 73 rfl) rfl ?_
            refine X_imul (tk_X10_piece.at 74 rfl) ?_
            refine X_iadd (tk_X10_piece.at 75 rfl) ?_
            refine X_iconst (tk_X10_piece.at 76 rfl) ci_3 ?_
            refine X_iadd (tk_X10_piece.at 77 rfl) ?_
            refine X_iload (tk_X10_piece.at 78 rfl) rfl ?_
            refine X_iastN (k := 51 + 4 * n) (tk_X10_piece.at 79 rfl) hM.f1 (pz (pa (pa (pl 48 rfl) (pm (pl 4 rfl) hn)) (pl 3 rfl)) (by omega)) (by omega) (by decide) ?_
            refine X_aload_n (tk_X10_piece.at 80 rfl) rfl ?_
            refine X_getR (tk_X10_piece.at 81 rfl) fl_x10_9 hM.f0 rfl rfl ?_
            refine X_iconst (tk_X10_piece.at 82 rfl) ci_2 ?_
            refine X_dup2 (tk_X10_piece.at 83 rfl) rfl rfl ?_
            refine X_ialdN (k := 2) (tk_X10_piece.at 84 rfl) hM.f1 (pz (pl 2 rfl) (by omega)) (by omega) (by decide) ?_
            refine X_iconst (tk_X10_piece.at 85 rfl) ci_1 ?_
            refine X_iadd (tk_X10_piece.at 86 rfl) ?_
            refine X_iastN (k := 2) (tk_X10_piece.at 87 rfl) hM.f1 (pz (pl 2 rfl) (by omega)) (by omega) (by decide) ?_
            refine X_iload (tk_X10_piece.at 88 rfl) rfl ?_
            refine X_ireturn (tk_X10_piece.at 89 rfl) rfl rfl ?_
            have e : (su (su (su (su (su μ (o + 1) (48 + 4 * n) w) (o + 1) (49 + 4 * n) s) (o + 1) (50 + 4 * n) p) (o + 1) (51 + 4 * n) g) (o + 1) 2 (((su (su (su (su μ (o + 1) (48 + 4 * n) w) (o + 1) (49 + 4 * n) s) (o + 1) (50 + 4 * n) p) (o + 1) (51 + 4 * n) g) (o + 1) 2) + 1)) = Mx μ (o + 1) (addN (μ (o + 1)) 48 n w s p g 2) := by
              have e1 : (upd (upd (upd (upd (μ (o + 1)) (48 + 4 * n) w) (49 + 4 * n) s) (50 + 4 * n) p) (51 + 4 * n) g) 2 = nI n := by
                rw [upd_ne _ _ (by omega), upd_ne _ _ (by omega), upd_ne _ _ (by omega), upd_ne _ _ (by omega)]; exact hn
              simp only [su_eq, Mx_same, Mx_Mx, addN, e1, ← nI_succ]
            rw [e, hn]
            exact k3 ⟨⟨⟨h4, h1004⟩, ⟨h15, h1015⟩⟩, ⟨⟨h25, h1025⟩, ⟨h36, h1036⟩⟩⟩ (by omega)
          · refine X_aload_n (tk_X10_piece.at 32 rfl) rfl ?_
            refine X_ldc (tk_X10_piece.at 33 rfl) kn_x10_86 ?_
            refine X_cV1i (lv2 := [(0, _), (1, _)]) (tk_X10_piece.at 34 rfl) mv_X10_finding lk_x10_82 np_X10_finding hM.f0 (by decide) rfl (Nat.le_of_ble_eq_true rfl) (Nat.le_of_ble_eq_true rfl) rfl (c10_finding (k := 4) hM (by decide) (by decide) ?_)
            refine X_ireturn (tk_X10_piece.at 35 rfl) rfl rfl ?_
            exact k2 ⟨⟨⟨h4, h1004⟩, ⟨h15, h1015⟩⟩, ⟨⟨h25, h1025⟩, ⟨h36, h1036⟩⟩⟩ c5
        · refine X_if_ne (tgt := 49) (tk_X10_piece.at 19 rfl) (by decide) (fun h => absurd h (by decide)) (fun _ => ?_)
          refine X_aload_n (tk_X10_piece.at 20 rfl) rfl ?_
          refine X_ldc (tk_X10_piece.at 21 rfl) kn_x10_81 ?_
          refine X_cV1i (lv2 := [(0, _), (1, _)]) (tk_X10_piece.at 22 rfl) mv_X10_finding lk_x10_82 np_X10_finding hM.f0 (by decide) rfl (Nat.le_of_ble_eq_true rfl) (Nat.le_of_ble_eq_true rfl) rfl (c10_finding (k := 1) hM (by decide) (by decide) ?_)
          refine X_ireturn (tk_X10_piece.at 23 rfl) rfl rfl ?_
          exact k1 (fun h => by obtain ⟨⟨a1, a2⟩, a3, a4⟩ := h; first | exact h36 a4 | exact h25 a3 | exact h15 a2 | exact h4 a1)
      · refine X_if_eq (tgt := 42) (tk_X10_piece.at 14 rfl) (by decide) (fun _ => ?_) (fun h => absurd h (by decide))
        refine X_aload_n (tk_X10_piece.at 20 rfl) rfl ?_
        refine X_ldc (tk_X10_piece.at 21 rfl) kn_x10_81 ?_
        refine X_cV1i (lv2 := [(0, _), (1, _)]) (tk_X10_piece.at 22 rfl) mv_X10_finding lk_x10_82 np_X10_finding hM.f0 (by decide) rfl (Nat.le_of_ble_eq_true rfl) (Nat.le_of_ble_eq_true rfl) rfl (c10_finding (k := 1) hM (by decide) (by decide) ?_)
        refine X_ireturn (tk_X10_piece.at 23 rfl) rfl rfl ?_
        exact k1 (fun h => by obtain ⟨⟨a1, a2⟩, a3, a4⟩ := h; first | exact h36 a4 | exact h25 a3 | exact h15 a2 | exact h4 a1)
    · refine X_if_eq (tgt := 42) (tk_X10_piece.at 9 rfl) (by decide) (fun _ => ?_) (fun h => absurd h (by decide))
      refine X_aload_n (tk_X10_piece.at 20 rfl) rfl ?_
      refine X_ldc (tk_X10_piece.at 21 rfl) kn_x10_81 ?_
      refine X_cV1i (lv2 := [(0, _), (1, _)]) (tk_X10_piece.at 22 rfl) mv_X10_finding lk_x10_82 np_X10_finding hM.f0 (by decide) rfl (Nat.le_of_ble_eq_true rfl) (Nat.le_of_ble_eq_true rfl) rfl (c10_finding (k := 1) hM (by decide) (by decide) ?_)
      refine X_ireturn (tk_X10_piece.at 23 rfl) rfl rfl ?_
      exact k1 (fun h => by obtain ⟨⟨a1, a2⟩, a3, a4⟩ := h; first | exact h36 a4 | exact h25 a3 | exact h15 a2 | exact h4 a1)
  · refine X_if_eq (tgt := 42) (tk_X10_piece.at 4 rfl) (by decide) (fun _ => ?_) (fun h => absurd h (by decide))
    refine X_aload_n (tk_X10_piece.at 20 rfl) rfl ?_
    refine X_ldc (tk_X10_piece.at 21 rfl) kn_x10_81 ?_
    refine X_cV1i (lv2 := [(0, _), (1, _)]) (tk_X10_piece.at 22 rfl) mv_X10_finding lk_x10_82 np_X10_finding hM.f0 (by decide) rfl (Nat.le_of_ble_eq_true rfl) (Nat.le_of_ble_eq_true rfl) rfl (c10_finding (k := 1) hM (by decide) (by decide) ?_)
    refine X_ireturn (tk_X10_piece.at 23 rfl) rfl rfl ?_
    exact k1 (fun h => by obtain ⟨⟨a1, a2⟩, a3, a4⟩ := h; first | exact h36 a4 | exact h25 a3 | exact h15 a2 | exact h4 a1)
set_option maxHeartbeats 1000000 in
theorem c10_ofPiece {G : Gl} {d : Nat} {S : Sh} {μ : Mu} {o : Nat} {q : Nat → Nat} {p w : Int32} {n : Nat} {K : Int32 → Sh → Mu → Prop} (hM : MS S o q) (hn : μ (o + 1) 2 = nI n) (hb : n ≤ 8) (k1 : ¬ (In p n ∧ (0 ≤ w ∧ w ≤ 3)) → K (-1000000001) S (er μ o 1)) (k2 : ∀ j f, j < n → f < 4 → p = nI j → w = nI f → K (μ (o + 1) (48 + 4 * j + f)) S μ) : X G mi_X10_ofPiece (d + 2) 0 0 [(0, .ref o), (1, .int p), (2, .int w)] [] S μ (qi K) := by
  refine X_aload_n (tk_X10_ofPiece.at 0 rfl) rfl ?_
  refine X_iload_n (tk_X10_ofPiece.at 1 rfl) rfl ?_
  refine X_iconst (tk_X10_ofPiece.at 2 rfl) ci_2 ?_
  refine X_cV2i (lv2 := [(0, _), (1, _), (2, _)]) (tk_X10_ofPiece.at 3 rfl) mv_X10_is lk_x10_90 np_X10_is hM.f0 (by decide) rfl (Nat.le_of_ble_eq_true rfl) (Nat.le_of_ble_eq_true rfl) rfl (c10_is hM (pl 2 rfl) (by decide) hn (by omega) (fun j3 hj3 ej3 => ?_) (fun hj3 => ?_))
  · refine X_if_eq (tgt := 27) (tk_X10_ofPiece.at 4 rfl) (by decide) (fun h => absurd h (by decide)) (fun _ => ?_)
    refine X_iload_n (tk_X10_ofPiece.at 5 rfl) rfl ?_
    refine X_iconst (tk_X10_ofPiece.at 6 rfl) ci_0 ?_
    refine X_iconst (tk_X10_ofPiece.at 7 rfl) ci_3 ?_
    refine X_cS3i (lv2 := [(0, _), (1, _), (2, _)]) (tk_X10_ofPiece.at 8 rfl) ms_X10_within lk_x10_69 np_X10_within (Nat.le_of_ble_eq_true rfl) (Nat.le_of_ble_eq_true rfl) rfl (c10_within (fun h12 h1012 => ?_) (fun h12 => ?_))
    · obtain ⟨ew12, lw12, bw12⟩ := le_lits (a := 0) (b := 3) (by decide) h12 h1012 (by decide)
      refine X_if_eq (tgt := 27) (tk_X10_ofPiece.at 9 rfl) (by decide) (fun h => absurd h (by decide)) (fun _ => ?_)
      refine X_aload_n (tk_X10_ofPiece.at 10 rfl) rfl ?_
      refine X_iload_n (tk_X10_ofPiece.at 11 rfl) rfl ?_
      refine X_iload_n (tk_X10_ofPiece.at 12 rfl) rfl ?_
      refine X_cV2i (lv2 := [(0, _), (1, _), (2, _)]) (tk_X10_ofPiece.at 13 rfl) mv_X10_ofPieceAt lk_x10_109 np_X10_ofPieceAt hM.f0 (by decide) rfl (Nat.le_of_ble_eq_true rfl) (Nat.le_of_ble_eq_true rfl) rfl (c10_ofPieceAt (k := 48 + 4 * j3 + (nv w)) hM ej3 ew12 (by omega) (by omega) (by omega) ?_)
      refine X_goto (tgt := 33) (tk_X10_ofPiece.at 14 rfl) (by decide) ?_
      refine X_ireturn (tk_X10_ofPiece.at 18 rfl) rfl rfl ?_
      exact k2 j3 (nv w) hj3 (by omega) ej3 ew12
    · refine X_if_eq (tgt := 27) (tk_X10_ofPiece.at 9 rfl) (by decide) (fun _ => ?_) (fun h => absurd h (by decide))
      refine X_aload_n (tk_X10_ofPiece.at 15 rfl) rfl ?_
      refine X_ldc (tk_X10_ofPiece.at 16 rfl) kn_x10_81 ?_
      refine X_cV1i (lv2 := [(0, _), (1, _)]) (tk_X10_ofPiece.at 17 rfl) mv_X10_finding lk_x10_82 np_X10_finding hM.f0 (by decide) rfl (Nat.le_of_ble_eq_true rfl) (Nat.le_of_ble_eq_true rfl) rfl (c10_finding (k := 1) hM (by decide) (by decide) ?_)
      refine X_ireturn (tk_X10_ofPiece.at 18 rfl) rfl rfl ?_
      exact k1 (fun h => by first | exact h12 h.2 | exact In_no (by omega) hj3 h.1)
  · refine X_if_eq (tgt := 27) (tk_X10_ofPiece.at 4 rfl) (by decide) (fun _ => ?_) (fun h => absurd h (by decide))
    refine X_aload_n (tk_X10_ofPiece.at 15 rfl) rfl ?_
    refine X_ldc (tk_X10_ofPiece.at 16 rfl) kn_x10_81 ?_
    refine X_cV1i (lv2 := [(0, _), (1, _)]) (tk_X10_ofPiece.at 17 rfl) mv_X10_finding lk_x10_82 np_X10_finding hM.f0 (by decide) rfl (Nat.le_of_ble_eq_true rfl) (Nat.le_of_ble_eq_true rfl) rfl (c10_finding (k := 1) hM (by decide) (by decide) ?_)
    refine X_ireturn (tk_X10_ofPiece.at 18 rfl) rfl rfl ?_
    exact k1 (fun h => by first | exact h12 h.2 | exact In_no (by omega) hj3 h.1)
set_option maxHeartbeats 1000000 in
theorem c10_start {G : Gl} {d : Nat} {S : Sh} {μ : Mu} {o : Nat} {q : Nat → Nat} {m : Int32} {K : Int32 → Sh → Mu → Prop} (hM : MS S o q) (k1 : ¬ (0 ≤ m ∧ m ≤ 1439) → K (-1000000001) S (er μ o 1)) (k2 : 0 ≤ m → m ≤ 1439 → K (μ (o + 1) 0) S (su μ (o + 1) 0 m)) : X G mi_X10_start (d + 1) 0 0 [(0, .ref o), (1, .int m)] [] S μ (qi K) := by
  refine X_iload_n (tk_X10_start.at 0 rfl) rfl ?_
  refine X_iconst (tk_X10_start.at 1 rfl) ci_0 ?_
  refine X_sipush (tk_X10_start.at 2 rfl) cs_1439 ?_
  refine X_cS3i (lv2 := [(0, _), (1, _), (2, _)]) (tk_X10_start.at 3 rfl) ms_X10_within lk_x10_69 np_X10_within (Nat.le_of_ble_eq_true rfl) (Nat.le_of_ble_eq_true rfl) rfl (c10_within (fun h5 h1005 => ?_) (fun h5 => ?_))
  · obtain ⟨ew5, lw5, bw5⟩ := le_lits (a := 0) (b := 1439) (by decide) h5 h1005 (by decide)
    refine X_if_eq (tgt := 20) (tk_X10_start.at 4 rfl) (by decide) (fun h => absurd h (by decide)) (fun _ => ?_)
    refine X_aload_n (tk_X10_start.at 5 rfl) rfl ?_
    refine X_iconst (tk_X10_start.at 6 rfl) ci_0 ?_
    refine X_iload_n (tk_X10_start.at 7 rfl) rfl ?_
    refine X_cV2i (lv2 := [(0, _), (1, _), (2, _)]) (tk_X10_start.at 8 rfl) mv_X10_become lk_x10_112 np_X10_become hM.f0 (by decide) rfl (Nat.le_of_ble_eq_true rfl) (Nat.le_of_ble_eq_true rfl) rfl (c10_become (k := 0) hM (pz (pl 0 rfl) (by omega)) (by omega) ?_)
    refine X_goto (tgt := 26) (tk_X10_start.at 9 rfl) (by decide) ?_
    refine X_ireturn (tk_X10_start.at 13 rfl) rfl rfl ?_
    exact k2 h5 h1005
  · refine X_if_eq (tgt := 20) (tk_X10_start.at 4 rfl) (by decide) (fun _ => ?_) (fun h => absurd h (by decide))
    refine X_aload_n (tk_X10_start.at 10 rfl) rfl ?_
    refine X_ldc (tk_X10_start.at 11 rfl) kn_x10_81 ?_
    refine X_cV1i (lv2 := [(0, _), (1, _)]) (tk_X10_start.at 12 rfl) mv_X10_finding lk_x10_82 np_X10_finding hM.f0 (by decide) rfl (Nat.le_of_ble_eq_true rfl) (Nat.le_of_ble_eq_true rfl) rfl (c10_finding (k := 1) hM (by decide) (by decide) ?_)
    refine X_ireturn (tk_X10_start.at 13 rfl) rfl rfl ?_
    exact k1 h5
set_option maxHeartbeats 1000000 in
theorem c10_isSpace {G : Gl} {d : Nat} {S : Sh} {μ : Mu} {v : Int32} {K : Int32 → Sh → Mu → Prop} (kt : 1 ≤ v → v ≤ 20 → K 1 S μ) (kf : ¬ (1 ≤ v ∧ v ≤ 20) → K 0 S μ) : X G mi_X10_isSpace (d + 1) 0 0 [(0, .int v)] [] S μ (qi K) := by
  refine X_iload_n (tk_X10_isSpace.at 0 rfl) rfl ?_
  refine X_iconst (tk_X10_isSpace.at 1 rfl) ci_1 ?_
  refine X_bipush (tk_X10_isSpace.at 2 rfl) cb_20 ?_
  refine X_cS3i (lv2 := [(0, _), (1, _), (2, _)]) (tk_X10_isSpace.at 3 rfl) ms_X10_within lk_x10_69 np_X10_within (Nat.le_of_ble_eq_true rfl) (Nat.le_of_ble_eq_true rfl) rfl (c10_within (fun h4 h1004 => ?_) (fun h4 => ?_))
  · obtain ⟨ew4, lw4, bw4⟩ := le_lits (a := 1) (b := 20) (by decide) h4 h1004 (by decide)
    refine X_ireturn (tk_X10_isSpace.at 4 rfl) rfl rfl ?_
    exact kt h4 h1004
  · refine X_ireturn (tk_X10_isSpace.at 4 rfl) rfl rfl ?_
    exact kf h4
set_option maxHeartbeats 1000000 in
theorem c10_ropeP {G : Gl} {d : Nat} {S : Sh} {μ : Mu} {o : Nat} {q : Nat → Nat} {k s t : Int32} {n : Nat} {K : Int32 → Sh → Mu → Prop} (hM : MS S o q) (hn : μ (o + 1) 3 = nI n) (hb : n ≤ 6) (k1 : ¬ ToldR k s t → K (-1000000001) S (er μ o 1)) (k2 : ToldR k s t → n = 6 → K (-1000000004) S (er μ o 4)) (k3 : ToldR k s t → n < 6 → K (nI n) S (Mx μ (o + 1) (addR (μ (o + 1)) n k s t))) : X G mi_X10_rope_ (d + 2) 0 0 [(0, .ref o), (1, .int k), (2, .int s), (3, .int t)] [] S μ (qi K) := by
  refine X_iload_n (tk_X10_rope_.at 0 rfl) rfl ?_
  refine X_iconst (tk_X10_rope_.at 1 rfl) ci_0 ?_
  refine X_bipush (tk_X10_rope_.at 2 rfl) cb_6 ?_
  refine X_cS3i (lv2 := [(0, _), (1, _), (2, _)]) (tk_X10_rope_.at 3 rfl) ms_X10_within lk_x10_69 np_X10_within (Nat.le_of_ble_eq_true rfl) (Nat.le_of_ble_eq_true rfl) rfl (c10_within (fun h4 h1004 => ?_) (fun h4 => ?_))
  · obtain ⟨ew4, lw4, bw4⟩ := le_lits (a := 0) (b := 6) (by decide) h4 h1004 (by decide)
    refine X_if_eq (tgt := 27) (tk_X10_rope_.at 4 rfl) (by decide) (fun h => absurd h (by decide)) (fun _ => ?_)
    refine X_iload_n (tk_X10_rope_.at 5 rfl) rfl ?_
    refine X_cS1i (lv2 := [(0, _)]) (tk_X10_rope_.at 6 rfl) ms_X10_isSpace lk_x10_124 np_X10_isSpace (Nat.le_of_ble_eq_true rfl) (Nat.le_of_ble_eq_true rfl) rfl (c10_isSpace (fun h11 h1011 => ?_) (fun h11 => ?_))
    · refine X_if_eq (tgt := 27) (tk_X10_rope_.at 7 rfl) (by decide) (fun h => absurd h (by decide)) (fun _ => ?_)
      refine X_iload_n (tk_X10_rope_.at 8 rfl) rfl ?_
      refine X_iconst (tk_X10_rope_.at 9 rfl) ci_0 ?_
      refine X_bipush (tk_X10_rope_.at 10 rfl) cb_9 ?_
      refine X_cS3i (lv2 := [(0, _), (1, _), (2, _)]) (tk_X10_rope_.at 11 rfl) ms_X10_within lk_x10_69 np_X10_within (Nat.le_of_ble_eq_true rfl) (Nat.le_of_ble_eq_true rfl) rfl (c10_within (fun h21 h1021 => ?_) (fun h21 => ?_))
      · obtain ⟨ew21, lw21, bw21⟩ := le_lits (a := 0) (b := 9) (by decide) h21 h1021 (by decide)
        refine X_if_ne (tgt := 34) (tk_X10_rope_.at 12 rfl) (by decide) (fun _ => ?_) (fun h => absurd h (by decide))
        refine X_aload_n (tk_X10_rope_.at 17 rfl) rfl ?_
        refine X_getR (tk_X10_rope_.at 18 rfl) fl_x10_9 hM.f0 rfl rfl ?_
        refine X_iconst (tk_X10_rope_.at 19 rfl) ci_3 ?_
        refine X_ialdN (k := 3) (tk_X10_rope_.at 20 rfl) hM.f1 (pz (pl 3 rfl) (by omega)) (by omega) (by decide) ?_
        refine X_istore (lv' := [(0, _), (1, _), (2, _), (3, _), (4, _)]) (tk_X10_rope_.at 21 rfl) (by decide) rfl rfl ?_
        refine X_iload (tk_X10_rope_.at 22 rfl) rfl ?_
        refine X_bipush (tk_X10_rope_.at 23 rfl) cb_6 ?_
        refine X_icmp_neN (tgt := 56) (tk_X10_rope_.at 24 rfl) (by decide) hn (pl 6 rfl) (by omega) (by omega) (fun c4 => ?_) (fun c4 => ?_)
        · refine X_bipush (tk_X10_rope_.at 29 rfl) cb_80 ?_
          refine X_bipush (tk_X10_rope_.at 30 rfl) cb_9 ?_
          refine X_iload (tk_X10_rope_.at 31 rfl) rfl ?_
          refine X_imul (tk_X10_rope_.at 32 rfl) ?_
          refine X_iadd (tk_X10_rope_.at 33 rfl) ?_
          refine X_istore (lv' := [(0, _), (1, _), (2, _), (3, _), (4, _), (5, _)]) (tk_X10_rope_.at 34 rfl) (by decide) rfl rfl ?_
          refine X_aload_n (tk_X10_rope_.at 35 rfl) rfl ?_
          refine X_getR (tk_X10_rope_.at 36 rfl) fl_x10_9 hM.f0 rfl rfl ?_
          refine X_iload (tk_X10_rope_.at 37 rfl) rfl ?_
          refine X_iconst (tk_X10_rope_.at 38 rfl) ci_0 ?_
          refine X_iadd (tk_X10_rope_.at 39 rfl) ?_
          refine X_iload_n (tk_X10_rope_.at 40 rfl) rfl ?_
          refine X_iastN (k := 80 + 9 * n) (tk_X10_rope_.at 41 rfl) hM.f1 (pz (pa (pa (pl 80 rfl) (pm (pl 9 rfl) hn)) (pl 0 rfl)) (by omega)) (by omega) (by decide) ?_
          refine X_aload_n (tk_X10_rope_.at 42 rfl) rfl ?_
          refine X_getR (tk_X10_rope_.at 43 rfl) fl_x10_9 hM.f0 rfl rfl ?_
          refine X_iload (tk_X10_rope_.at 44 rfl) rfl ?_
          refine X_iconst (tk_X10_rope_.at 45 rfl) ci_1 ?_
          refine X_iadd (tk_X10_rope_.at 46 rfl) ?_
          refine X_iload_n (tk_X10_rope_.at 47 rfl) rfl ?_
          refine X_iastN (k := 81 + 9 * n) (tk_X10_rope_.at 48 rfl) hM.f1 (pz (pa (pa (pl 80 rfl) (pm (pl 9 rfl) hn)) (pl 1 rfl)) (by omega)) (by omega) (by decide) ?_
          refine X_aload_n (tk_X10_rope_.at 49 rfl) rfl ?_
          refine X_getR (tk_X10_rope_.at 50 rfl) fl_x10_9 hM.f0 rfl rfl ?_
          refine X_iload (tk_X10_rope_.at 51 rfl) rfl ?_
          refine X_iconst (tk_X10_rope_.at 52 rfl) ci_2 ?_
          refine X_iadd (tk_X10_rope_.at 53 rfl) ?_
          refine X_iload_n (tk_X10_rope_.at 54 rfl) rfl ?_
          refine X_iastN (k := 82 + 9 * n) (tk_X10_rope_.at 55 rfl) hM.f1 (pz (pa (pa (pl 80 rfl) (pm (pl 9 rfl) hn)) (pl 2 rfl)) (by omega)) (by omega) (by decide) ?_
          refine X_aload_n (tk_X10_rope_.at 56 rfl) rfl ?_
          refine X_getR (tk_X10_rope_.at 57 rfl) fl_x10_9 hM.f0 rfl rfl ?_
          refine X_iload (tk_X10_rope_.at 58 rfl) rfl ?_
          refine X_iconst (tk_X10_rope_.at 59 rfl) ci_3 ?_
          refine X_iadd (tk_X10_rope_.at 60 rfl) ?_
          refine X_iconst (tk_X10_rope_.at 61 rfl) ci_0 ?_
          refine X_iastN (k := 83 + 9 * n) (tk_X10_rope_.at 62 rfl) hM.f1 (pz (pa (pa (pl 80 rfl) (pm (pl 9 rfl) hn)) (pl 3 rfl)) (by omega)) (by omega) (by decide) ?_
          refine X_aload_n (tk_X10_rope_.at 63 rfl) rfl ?_
          refine X_getR (tk_X10_rope_.at 64 rfl) fl_x10_9 hM.f0 rfl rfl ?_
          refine X_iconst (tk_X10_rope_.at 65 rfl) ci_3 ?_
          refine X_dup2 (tk_X10_rope_.at 66 rfl) rfl rfl ?_
          refine X_ialdN (k := 3) (tk_X10_rope_.at 67 rfl) hM.f1 (pz (pl 3 rfl) (by omega)) (by omega) (by decide) ?_
          refine X_iconst (tk_X10_rope_.at 68 rfl) ci_1 ?_
          refine X_iadd (tk_X10_rope_.at 69 rfl) ?_
          refine X_iastN (k := 3) (tk_X10_rope_.at 70 rfl) hM.f1 (pz (pl 3 rfl) (by omega)) (by omega) (by decide) ?_
          refine X_iload (tk_X10_rope_.at 71 rfl) rfl ?_
          refine X_ireturn (tk_X10_rope_.at 72 rfl) rfl rfl ?_
          have e : (su (su (su (su (su μ (o + 1) (80 + 9 * n) k) (o + 1) (81 + 9 * n) s) (o + 1) (82 + 9 * n) t) (o + 1) (83 + 9 * n) 0) (o + 1) 3 (((su (su (su (su μ (o + 1) (80 + 9 * n) k) (o + 1) (81 + 9 * n) s) (o + 1) (82 + 9 * n) t) (o + 1) (83 + 9 * n) 0) (o + 1) 3) + 1)) = Mx μ (o + 1) (addR (μ (o + 1)) n k s t) := by
            have e1 : (upd (upd (upd (upd (μ (o + 1)) (80 + 9 * n) k) (81 + 9 * n) s) (82 + 9 * n) t) (83 + 9 * n) 0) 3 = nI n := by
              rw [upd_ne _ _ (by omega), upd_ne _ _ (by omega), upd_ne _ _ (by omega), upd_ne _ _ (by omega)]; exact hn
            simp only [su_eq, Mx_same, Mx_Mx, addR, e1, ← nI_succ]
          rw [e, hn]
          exact k3 ⟨⟨h4, h1004⟩, ⟨h11, h1011⟩, ⟨h21, h1021⟩⟩ (by omega)
        · refine X_aload_n (tk_X10_rope_.at 25 rfl) rfl ?_
          refine X_ldc (tk_X10_rope_.at 26 rfl) kn_x10_86 ?_
          refine X_cV1i (lv2 := [(0, _), (1, _)]) (tk_X10_rope_.at 27 rfl) mv_X10_finding lk_x10_82 np_X10_finding hM.f0 (by decide) rfl (Nat.le_of_ble_eq_true rfl) (Nat.le_of_ble_eq_true rfl) rfl (c10_finding (k := 4) hM (by decide) (by decide) ?_)
          refine X_ireturn (tk_X10_rope_.at 28 rfl) rfl rfl ?_
          exact k2 ⟨⟨h4, h1004⟩, ⟨h11, h1011⟩, ⟨h21, h1021⟩⟩ c4
      · refine X_if_ne (tgt := 34) (tk_X10_rope_.at 12 rfl) (by decide) (fun h => absurd h (by decide)) (fun _ => ?_)
        refine X_aload_n (tk_X10_rope_.at 13 rfl) rfl ?_
        refine X_ldc (tk_X10_rope_.at 14 rfl) kn_x10_81 ?_
        refine X_cV1i (lv2 := [(0, _), (1, _)]) (tk_X10_rope_.at 15 rfl) mv_X10_finding lk_x10_82 np_X10_finding hM.f0 (by decide) rfl (Nat.le_of_ble_eq_true rfl) (Nat.le_of_ble_eq_true rfl) rfl (c10_finding (k := 1) hM (by decide) (by decide) ?_)
        refine X_ireturn (tk_X10_rope_.at 16 rfl) rfl rfl ?_
        exact k1 (fun h => by obtain ⟨a1, a2, a3⟩ := h; first | exact h21 a3 | exact h11 a2 | exact h4 a1)
    · refine X_if_eq (tgt := 27) (tk_X10_rope_.at 7 rfl) (by decide) (fun _ => ?_) (fun h => absurd h (by decide))
      refine X_aload_n (tk_X10_rope_.at 13 rfl) rfl ?_
      refine X_ldc (tk_X10_rope_.at 14 rfl) kn_x10_81 ?_
      refine X_cV1i (lv2 := [(0, _), (1, _)]) (tk_X10_rope_.at 15 rfl) mv_X10_finding lk_x10_82 np_X10_finding hM.f0 (by decide) rfl (Nat.le_of_ble_eq_true rfl) (Nat.le_of_ble_eq_true rfl) rfl (c10_finding (k := 1) hM (by decide) (by decide) ?_)
      refine X_ireturn (tk_X10_rope_.at 16 rfl) rfl rfl ?_
      exact k1 (fun h => by obtain ⟨a1, a2, a3⟩ := h; first | exact h21 a3 | exact h11 a2 | exact h4 a1)
  · refine X_if_eq (tgt := 27) (tk_X10_rope_.at 4 rfl) (by decide) (fun _ => ?_) (fun h => absurd h (by decide))
    refine X_aload_n (tk_X10_rope_.at 13 rfl) rfl ?_
    refine X_ldc (tk_X10_rope_.at 14 rfl) kn_x10_81 ?_
    refine X_cV1i (lv2 := [(0, _), (1, _)]) (tk_X10_rope_.at 15 rfl) mv_X10_finding lk_x10_82 np_X10_finding hM.f0 (by decide) rfl (Nat.le_of_ble_eq_true rfl) (Nat.le_of_ble_eq_true rfl) rfl (c10_finding (k := 1) hM (by decide) (by decide) ?_)
    refine X_ireturn (tk_X10_rope_.at 16 rfl) rfl rfl ?_
    exact k1 (fun h => by obtain ⟨a1, a2, a3⟩ := h; first | exact h21 a3 | exact h11 a2 | exact h4 a1)
set_option maxHeartbeats 1000000 in
theorem c10_set {G : Gl} {d : Nat} {S : Sh} {μ : Mu} {o : Nat} {q : Nat → Nat} {r w v : Int32} {n : Nat} {K : Int32 → Sh → Mu → Prop} (hM : MS S o q) (hn : μ (o + 1) 3 = nI n) (hb : n ≤ 6) (k1 : ¬ (In r n ∧ (0 ≤ w ∧ w ≤ 1) ∧ (if w = 0 then 1 ≤ v ∧ v ≤ 20 else 0 ≤ v ∧ v ≤ 9)) → K (-1000000001) S (er μ o 1)) (k2 : ∀ j f, j < n → f < 2 → r = nI j → w = nI f → (if w = 0 then 1 ≤ v ∧ v ≤ 20 else 0 ≤ v ∧ v ≤ 9) → K (μ (o + 1) (81 + 9 * j + f)) S (su μ (o + 1) (81 + 9 * j + f) v)) : X G mi_X10_set (d + 2) 0 0 [(0, .ref o), (1, .int r), (2, .int w), (3, .int v)] [] S μ (qi K) := by
  refine X_aload_n (tk_X10_set.at 0 rfl) rfl ?_
  refine X_iload_n (tk_X10_set.at 1 rfl) rfl ?_
  refine X_iconst (tk_X10_set.at 2 rfl) ci_3 ?_
  refine X_cV2i (lv2 := [(0, _), (1, _), (2, _)]) (tk_X10_set.at 3 rfl) mv_X10_is lk_x10_90 np_X10_is hM.f0 (by decide) rfl (Nat.le_of_ble_eq_true rfl) (Nat.le_of_ble_eq_true rfl) rfl (c10_is hM (pl 3 rfl) (by decide) hn (by omega) (fun j3 hj3 ej3 => ?_) (fun hj3 => ?_))
  · refine X_if_eq (tgt := 46) (tk_X10_set.at 4 rfl) (by decide) (fun h => absurd h (by decide)) (fun _ => ?_)
    refine X_iload_n (tk_X10_set.at 5 rfl) rfl ?_
    refine X_iconst (tk_X10_set.at 6 rfl) ci_0 ?_
    refine X_iconst (tk_X10_set.at 7 rfl) ci_1 ?_
    refine X_cS3i (lv2 := [(0, _), (1, _), (2, _)]) (tk_X10_set.at 8 rfl) ms_X10_within lk_x10_69 np_X10_within (Nat.le_of_ble_eq_true rfl) (Nat.le_of_ble_eq_true rfl) rfl (c10_within (fun h12 h1012 => ?_) (fun h12 => ?_))
    · obtain ⟨ew12, lw12, bw12⟩ := le_lits (a := 0) (b := 1) (by decide) h12 h1012 (by decide)
      refine X_if_eq (tgt := 46) (tk_X10_set.at 9 rfl) (by decide) (fun h => absurd h (by decide)) (fun _ => ?_)
      refine X_iload_n (tk_X10_set.at 10 rfl) rfl ?_
      refine X_if_ne (tgt := 32) (tk_X10_set.at 11 rfl) (by decide) (fun c3 => ?_) (fun c3 => ?_)
      · refine X_iload_n (tk_X10_set.at 16 rfl) rfl ?_
        refine X_iconst (tk_X10_set.at 17 rfl) ci_0 ?_
        refine X_bipush (tk_X10_set.at 18 rfl) cb_9 ?_
        refine X_cS3i (lv2 := [(0, _), (1, _), (2, _)]) (tk_X10_set.at 19 rfl) ms_X10_within lk_x10_69 np_X10_within (Nat.le_of_ble_eq_true rfl) (Nat.le_of_ble_eq_true rfl) rfl (c10_within (fun h36 h1036 => ?_) (fun h36 => ?_))
        · obtain ⟨ew36, lw36, bw36⟩ := le_lits (a := 0) (b := 9) (by decide) h36 h1036 (by decide)
          refine X_if_eq (tgt := 46) (tk_X10_set.at 20 rfl) (by decide) (fun h => absurd h (by decide)) (fun _ => ?_)
          refine X_iconst (tk_X10_set.at 21 rfl) ci_1 ?_
          refine X_goto (tgt := 47) (tk_X10_set.at 22 rfl) (by decide) ?_
          refine X_istore (lv' := [(0, _), (1, _), (2, _), (3, _), (4, _)]) (tk_X10_set.at 24 rfl) (by decide) rfl rfl ?_
          refine X_iload (tk_X10_set.at 25 rfl) rfl ?_
          refine X_if_eq (tgt := 73) (tk_X10_set.at 26 rfl) (by decide) (fun h => absurd h (by decide)) (fun _ => ?_)
          refine X_aload_n (tk_X10_set.at 27 rfl) rfl ?_
          refine X_bipush (tk_X10_set.at 28 rfl) cb_80 ?_
          refine X_bipush (tk_X10_set.at 29 rfl) cb_9 ?_
          refine X_iload_n (tk_X10_set.at 30 rfl) rfl ?_
          refine X_imul (tk_X10_set.at 31 rfl) ?_
          refine X_iadd (tk_X10_set.at 32 rfl) ?_
          refine X_iconst (tk_X10_set.at 33 rfl) ci_1 ?_
          refine X_iadd (tk_X10_set.at 34 rfl) ?_
          refine X_iload_n (tk_X10_set.at 35 rfl) rfl ?_
          refine X_iadd (tk_X10_set.at 36 rfl) ?_
          refine X_iload_n (tk_X10_set.at 37 rfl) rfl ?_
          refine X_cV2i (lv2 := [(0, _), (1, _), (2, _)]) (tk_X10_set.at 38 rfl) mv_X10_become lk_x10_112 np_X10_become hM.f0 (by decide) rfl (Nat.le_of_ble_eq_true rfl) (Nat.le_of_ble_eq_true rfl) rfl (c10_become (k := 81 + 9 * j3 + (nv w)) hM (pz (pa (pa (pa (pl 80 rfl) (pm (pl 9 rfl) ej3)) (pl 1 rfl)) ew12) (by omega)) (by omega) ?_)
          refine X_goto (tgt := 79) (tk_X10_set.at 39 rfl) (by decide) ?_
          refine X_ireturn (tk_X10_set.at 43 rfl) rfl rfl ?_
          exact k2 j3 (nv w) hj3 (by omega) ej3 ew12 (by first | (rw [if_pos (by assumption)]; exact ⟨h23, h1023⟩) | (rw [if_neg (by assumption)]; exact ⟨h36, h1036⟩))
        · refine X_if_eq (tgt := 46) (tk_X10_set.at 20 rfl) (by decide) (fun _ => ?_) (fun h => absurd h (by decide))
          refine X_iconst (tk_X10_set.at 23 rfl) ci_0 ?_
          refine X_istore (lv' := [(0, _), (1, _), (2, _), (3, _), (4, _)]) (tk_X10_set.at 24 rfl) (by decide) rfl rfl ?_
          refine X_iload (tk_X10_set.at 25 rfl) rfl ?_
          refine X_if_eq (tgt := 73) (tk_X10_set.at 26 rfl) (by decide) (fun _ => ?_) (fun h => absurd h (by decide))
          refine X_aload_n (tk_X10_set.at 40 rfl) rfl ?_
          refine X_ldc (tk_X10_set.at 41 rfl) kn_x10_81 ?_
          refine X_cV1i (lv2 := [(0, _), (1, _)]) (tk_X10_set.at 42 rfl) mv_X10_finding lk_x10_82 np_X10_finding hM.f0 (by decide) rfl (Nat.le_of_ble_eq_true rfl) (Nat.le_of_ble_eq_true rfl) rfl (c10_finding (k := 1) hM (by decide) (by decide) ?_)
          refine X_ireturn (tk_X10_set.at 43 rfl) rfl rfl ?_
          exact k1 (fun h => by obtain ⟨a1, a2, a3⟩ := h; first | exact In_no (by omega) hj3 a1 | exact h12 a2 | (rw [if_pos (by assumption)] at a3; exact h23 a3) | (rw [if_neg (by assumption)] at a3; exact h36 a3))
      · refine X_iload_n (tk_X10_set.at 12 rfl) rfl ?_
        refine X_cS1i (lv2 := [(0, _)]) (tk_X10_set.at 13 rfl) ms_X10_isSpace lk_x10_124 np_X10_isSpace (Nat.le_of_ble_eq_true rfl) (Nat.le_of_ble_eq_true rfl) rfl (c10_isSpace (fun h23 h1023 => ?_) (fun h23 => ?_))
        · refine X_if_eq (tgt := 46) (tk_X10_set.at 14 rfl) (by decide) (fun h => absurd h (by decide)) (fun _ => ?_)
          refine X_goto (tgt := 42) (tk_X10_set.at 15 rfl) (by decide) ?_
          refine X_iconst (tk_X10_set.at 21 rfl) ci_1 ?_
          refine X_goto (tgt := 47) (tk_X10_set.at 22 rfl) (by decide) ?_
          refine X_istore (lv' := [(0, _), (1, _), (2, _), (3, _), (4, _)]) (tk_X10_set.at 24 rfl) (by decide) rfl rfl ?_
          refine X_iload (tk_X10_set.at 25 rfl) rfl ?_
          refine X_if_eq (tgt := 73) (tk_X10_set.at 26 rfl) (by decide) (fun h => absurd h (by decide)) (fun _ => ?_)
          refine X_aload_n (tk_X10_set.at 27 rfl) rfl ?_
          refine X_bipush (tk_X10_set.at 28 rfl) cb_80 ?_
          refine X_bipush (tk_X10_set.at 29 rfl) cb_9 ?_
          refine X_iload_n (tk_X10_set.at 30 rfl) rfl ?_
          refine X_imul (tk_X10_set.at 31 rfl) ?_
          refine X_iadd (tk_X10_set.at 32 rfl) ?_
          refine X_iconst (tk_X10_set.at 33 rfl) ci_1 ?_
          refine X_iadd (tk_X10_set.at 34 rfl) ?_
          refine X_iload_n (tk_X10_set.at 35 rfl) rfl ?_
          refine X_iadd (tk_X10_set.at 36 rfl) ?_
          refine X_iload_n (tk_X10_set.at 37 rfl) rfl ?_
          refine X_cV2i (lv2 := [(0, _), (1, _), (2, _)]) (tk_X10_set.at 38 rfl) mv_X10_become lk_x10_112 np_X10_become hM.f0 (by decide) rfl (Nat.le_of_ble_eq_true rfl) (Nat.le_of_ble_eq_true rfl) rfl (c10_become (k := 81 + 9 * j3 + (nv w)) hM (pz (pa (pa (pa (pl 80 rfl) (pm (pl 9 rfl) ej3)) (pl 1 rfl)) ew12) (by omega)) (by omega) ?_)
          refine X_goto (tgt := 79) (tk_X10_set.at 39 rfl) (by decide) ?_
          refine X_ireturn (tk_X10_set.at 43 rfl) rfl rfl ?_
          exact k2 j3 (nv w) hj3 (by omega) ej3 ew12 (by first | (rw [if_pos (by assumption)]; exact ⟨h23, h1023⟩) | (rw [if_neg (by assumption)]; exact ⟨h36, h1036⟩))
        · refine X_if_eq (tgt := 46) (tk_X10_set.at 14 rfl) (by decide) (fun _ => ?_) (fun h => absurd h (by decide))
          refine X_iconst (tk_X10_set.at 23 rfl) ci_0 ?_
          refine X_istore (lv' := [(0, _), (1, _), (2, _), (3, _), (4, _)]) (tk_X10_set.at 24 rfl) (by decide) rfl rfl ?_
          refine X_iload (tk_X10_set.at 25 rfl) rfl ?_
          refine X_if_eq (tgt := 73) (tk_X10_set.at 26 rfl) (by decide) (fun _ => ?_) (fun h => absurd h (by decide))
          refine X_aload_n (tk_X10_set.at 40 rfl) rfl ?_
          refine X_ldc (tk_X10_set.at 41 rfl) kn_x10_81 ?_
          refine X_cV1i (lv2 := [(0, _), (1, _)]) (tk_X10_set.at 42 rfl) mv_X10_finding lk_x10_82 np_X10_finding hM.f0 (by decide) rfl (Nat.le_of_ble_eq_true rfl) (Nat.le_of_ble_eq_true rfl) rfl (c10_finding (k := 1) hM (by decide) (by decide) ?_)
          refine X_ireturn (tk_X10_set.at 43 rfl) rfl rfl ?_
          exact k1 (fun h => by obtain ⟨a1, a2, a3⟩ := h; first | exact In_no (by omega) hj3 a1 | exact h12 a2 | (rw [if_pos (by assumption)] at a3; exact h23 a3) | (rw [if_neg (by assumption)] at a3; exact h36 a3))
    · refine X_if_eq (tgt := 46) (tk_X10_set.at 9 rfl) (by decide) (fun _ => ?_) (fun h => absurd h (by decide))
      refine X_iconst (tk_X10_set.at 23 rfl) ci_0 ?_
      refine X_istore (lv' := [(0, _), (1, _), (2, _), (3, _), (4, _)]) (tk_X10_set.at 24 rfl) (by decide) rfl rfl ?_
      refine X_iload (tk_X10_set.at 25 rfl) rfl ?_
      refine X_if_eq (tgt := 73) (tk_X10_set.at 26 rfl) (by decide) (fun _ => ?_) (fun h => absurd h (by decide))
      refine X_aload_n (tk_X10_set.at 40 rfl) rfl ?_
      refine X_ldc (tk_X10_set.at 41 rfl) kn_x10_81 ?_
      refine X_cV1i (lv2 := [(0, _), (1, _)]) (tk_X10_set.at 42 rfl) mv_X10_finding lk_x10_82 np_X10_finding hM.f0 (by decide) rfl (Nat.le_of_ble_eq_true rfl) (Nat.le_of_ble_eq_true rfl) rfl (c10_finding (k := 1) hM (by decide) (by decide) ?_)
      refine X_ireturn (tk_X10_set.at 43 rfl) rfl rfl ?_
      exact k1 (fun h => by obtain ⟨a1, a2, a3⟩ := h; first | exact In_no (by omega) hj3 a1 | exact h12 a2 | (rw [if_pos (by assumption)] at a3; exact h23 a3) | (rw [if_neg (by assumption)] at a3; exact h36 a3))
  · refine X_if_eq (tgt := 46) (tk_X10_set.at 4 rfl) (by decide) (fun _ => ?_) (fun h => absurd h (by decide))
    refine X_iconst (tk_X10_set.at 23 rfl) ci_0 ?_
    refine X_istore (lv' := [(0, _), (1, _), (2, _), (3, _), (4, _)]) (tk_X10_set.at 24 rfl) (by decide) rfl rfl ?_
    refine X_iload (tk_X10_set.at 25 rfl) rfl ?_
    refine X_if_eq (tgt := 73) (tk_X10_set.at 26 rfl) (by decide) (fun _ => ?_) (fun h => absurd h (by decide))
    refine X_aload_n (tk_X10_set.at 40 rfl) rfl ?_
    refine X_ldc (tk_X10_set.at 41 rfl) kn_x10_81 ?_
    refine X_cV1i (lv2 := [(0, _), (1, _)]) (tk_X10_set.at 42 rfl) mv_X10_finding lk_x10_82 np_X10_finding hM.f0 (by decide) rfl (Nat.le_of_ble_eq_true rfl) (Nat.le_of_ble_eq_true rfl) rfl (c10_finding (k := 1) hM (by decide) (by decide) ?_)
    refine X_ireturn (tk_X10_set.at 43 rfl) rfl rfl ?_
    exact k1 (fun h => by obtain ⟨a1, a2, a3⟩ := h; first | exact In_no (by omega) hj3 a1 | exact h12 a2 | (rw [if_pos (by assumption)] at a3; exact h23 a3) | (rw [if_neg (by assumption)] at a3; exact h36 a3))
def abv (k : Nat) : Int32 := if k = 0 then -1 else if k = 3 then 2 else if k = 5 then 4 else 0
set_option maxHeartbeats 1000000 in
theorem c10_above {G : Gl} {d : Nat} {S : Sh} {μ : Mu} {k : Int32} {n : Nat} {K : Int32 → Sh → Mu → Prop} (hk : k = nI n) (hb : n < 7) (hK : K (abv n) S μ) : X G mi_X10_above d 0 0 [(0, .int k)] [] S μ (qi K) := by
  refine X_iload_n (tk_X10_above.at 0 rfl) rfl ?_
  refine X_if_neN (tgt := 8) (tk_X10_above.at 1 rfl) (by decide) hk (by omega) (fun c1 => ?_) (fun c1 => ?_)
  · refine X_iload_n (tk_X10_above.at 4 rfl) rfl ?_
    refine X_iconst (tk_X10_above.at 5 rfl) ci_3 ?_
    refine X_icmp_neN (tgt := 17) (tk_X10_above.at 6 rfl) (by decide) hk (pl 3 rfl) (by omega) (by omega) (fun c2 => ?_) (fun c2 => ?_)
    · refine X_iload_n (tk_X10_above.at 9 rfl) rfl ?_
      refine X_iconst (tk_X10_above.at 10 rfl) ci_5 ?_
      refine X_icmp_neN (tgt := 26) (tk_X10_above.at 11 rfl) (by decide) hk (pl 5 rfl) (by omega) (by omega) (fun c3 => ?_) (fun c3 => ?_)
      · refine X_iconst (tk_X10_above.at 14 rfl) ci_0 ?_
        refine X_ireturn (tk_X10_above.at 15 rfl) rfl rfl ?_
        have e : abv n = 0 := by unfold abv; simp [c1, c2, c3]
        rw [e] at hK
        exact hK
      · refine X_iconst (tk_X10_above.at 12 rfl) ci_4 ?_
        refine X_goto (tgt := 27) (tk_X10_above.at 13 rfl) (by decide) ?_
        refine X_ireturn (tk_X10_above.at 15 rfl) rfl rfl ?_
        have e : abv n = 4 := by unfold abv; simp [c1, c2, c3]
        rw [e] at hK
        exact hK
    · refine X_iconst (tk_X10_above.at 7 rfl) ci_2 ?_
      refine X_goto (tgt := 27) (tk_X10_above.at 8 rfl) (by decide) ?_
      refine X_ireturn (tk_X10_above.at 15 rfl) rfl rfl ?_
      have e : abv n = 2 := by unfold abv; simp [c1, c2]
      rw [e] at hK
      exact hK
  · refine X_iconst (tk_X10_above.at 2 rfl) ci_m1 ?_
    refine X_goto (tgt := 27) (tk_X10_above.at 3 rfl) (by decide) ?_
    refine X_ireturn (tk_X10_above.at 15 rfl) rfl rfl ?_
    have e : abv n = (-1) := by unfold abv; simp [c1]
    rw [e] at hK
    exact hK
end
section
/-- what a search has found so far: nobody before place i of rope r, or somebody -/
def Fnd (N : Nat → Int32) (p r i : Nat) (on : Int32) : Prop := (on = -1 ∧ ∀ r' i', On N r' i' p → r < r' ∨ (r = r' ∧ i ≤ i')) ∨ ∃ r0 i0, on = nI r0 ∧ On N r0 i0 p
theorem Fnd.next {N : Nat → Int32} {p r i : Nat} {on : Int32} (h : Fnd N p r i on) (hn : ¬ N (84 + 9 * r + i) = nI p) : Fnd N p r (i + 1) on := by
  rcases h with ⟨e, h⟩ | h
  · refine Or.inl ⟨e, fun r' i' h' => ?_⟩
    rcases h r' i' h' with q | ⟨rfl, q⟩
    · exact Or.inl q
    · refine Or.inr ⟨rfl, ?_⟩
      rcases Nat.lt_or_ge i i' with z | z
      · exact z
      · have e : i' = i := by omega
        subst e
        exact absurd h'.2.2 hn
  · exact Or.inr h
theorem Fnd.row {N : Nat → Int32} {p r i : Nat} {on : Int32} (h : Fnd N p r i on) (hi : nv (N (83 + 9 * r)) ≤ i) : Fnd N p (r + 1) 0 on := by
  rcases h with ⟨e, h⟩ | h
  · refine Or.inl ⟨e, fun r' i' h' => ?_⟩
    rcases h r' i' h' with q | ⟨rfl, q⟩
    · rcases Nat.lt_or_ge (r + 1) r' with z | z
      · exact Or.inl z
      · exact Or.inr ⟨by omega, by omega⟩
    · have := h'.2.1
      omega
  · exact Or.inr h
set_option maxHeartbeats 1000000 in
theorem c10_ropeOf {G : Gl} {d : Nat} {S : Sh} {μ : Mu} {o : Nat} {q : Nat → Nat} {p : Int32} {pn : Nat} {K : Int32 → Sh → Mu → Prop} (hM : MS S o q) (hw : WF (μ (o + 1))) (hp : p = nI pn) (k1 : ∀ r i, On (μ (o + 1)) r i pn → K (nI r) S μ) (k2 : (∀ r i, ¬ On (μ (o + 1)) r i pn) → K (-1) S μ) : X G mi_X10_ropeOf (d + 2) 0 0 [(0, .ref o), (1, .int p)] [] S μ (qi K) := by
  have w0 := hw.n0
  have w1 := hw.n1
  have w2 := hw.n2
  have w3 := hw.n3
  have w4 := hw.n4
  have w5 := hw.n5
  have w6 := hw.n6
  have b1 := w1.2
  have b2 := w2.2
  have b3 := w3.2
  have b4 := w4.2
  have b5 := w5.2
  have b6 := w6.2
  have b0 := w0.2
  have outer : ∀ (n r : Nat) (on : Int32), r + n = nv (μ (o + 1) 3) → Fnd (μ (o + 1)) pn r 0 on → ∀ v4 : List (Nat × Value), v4 = [] ∨ (∃ x, v4 = [(4, .int x)]) → X G mi_X10_ropeOf (d + 2) 0 4 ([(0, .ref o), (1, .int p), (2, .int on), (3, .int (nI r))] ++ v4) [] S μ (qi K) := by
    intro n
    induction n with
    | zero =>
      intro r on hr hF v4 hv4
      refine X_lvp [0, 1, 2, 3] (lv' := [(0, .ref o), (1, .int p), (2, .int on), (3, .int (nI r))]) rfl ?_
      refine X_iload_n (tk_X10_ropeOf.at 4 rfl) rfl ?_
      refine X_aload_n (tk_X10_ropeOf.at 5 rfl) rfl ?_
      refine X_getR (tk_X10_ropeOf.at 6 rfl) fl_x10_9 hM.f0 rfl rfl ?_
      refine X_iconst (tk_X10_ropeOf.at 7 rfl) ci_3 ?_
      refine X_ialdN (k := 3) (tk_X10_ropeOf.at 8 rfl) hM.f1 (pz (pl 3 rfl) (by omega)) (by omega) (by decide) ?_
      refine X_icmp_geN (tgt := 56) (tk_X10_ropeOf.at 9 rfl) (by decide) rfl w3.1 (by omega) (by omega) (fun c1 => ?_) (fun c1 => (by exfalso; omega))
      refine X_iload_n (tk_X10_ropeOf.at 31 rfl) rfl ?_
      refine X_ireturn (tk_X10_ropeOf.at 32 rfl) rfl rfl ?_
      rcases hF with ⟨e, h⟩ | ⟨r0, i0, e, h⟩
      · rw [e]
        refine k2 (fun r' i' z => ?_)
        rcases h r' i' z with q | ⟨rfl, -⟩
        · have := z.1; omega
        · have := z.1; omega
      · rw [e]; exact k1 r0 i0 h
    | succ n ih =>
      intro r on hr hF v4 hv4
      refine X_lvp [0, 1, 2, 3] (lv' := [(0, .ref o), (1, .int p), (2, .int on), (3, .int (nI r))]) rfl ?_
      have wr := hw.ro (p := r) (by omega)
      have wm := wr.2.2.2.1
      have bm := wm.2
      have inn : ∀ (m i : Nat) (on : Int32), i + m = (nv (μ (o + 1) (83 + 9 * r))) → Fnd (μ (o + 1)) pn r i on → X G mi_X10_ropeOf (d + 2) 0 17 [(0, .ref o), (1, .int p), (2, .int on), (3, .int (nI r)), (4, .int (nI i))] [] S μ (qi K) := by
        intro m
        induction m with
        | zero =>
          intro i on hi hF
          refine X_iload (tk_X10_ropeOf.at 12 rfl) rfl ?_
          refine X_aload_n (tk_X10_ropeOf.at 13 rfl) rfl ?_
          refine X_iload_n (tk_X10_ropeOf.at 14 rfl) rfl ?_
          refine X_cV1i (lv2 := [(0, _), (1, _)]) (tk_X10_ropeOf.at 15 rfl) mv_X10_many lk_x10_118 np_X10_many hM.f0 (by decide) rfl (Nat.le_of_ble_eq_true rfl) (Nat.le_of_ble_eq_true rfl) rfl (c10_many hM rfl (by omega) ?_)
          refine X_icmp_geN (tgt := 50) (tk_X10_ropeOf.at 16 rfl) (by decide) rfl wm.1 (by omega) (by omega) (fun c1 => ?_) (fun c1 => (by exfalso; omega))
          refine X_iinc (lv' := [(0, _), (1, _), (2, _), (3, _), (4, _)]) (tk_X10_ropeOf.at 29 rfl) rfl ci_1 (by decide) rfl rfl ?_
          refine X_goto (tgt := 4) (tk_X10_ropeOf.at 30 rfl) (by decide) ?_
          rw [show nI r + 1 = nI (r + 1) from nI_1 r]
          exact ih (r + 1) on (by omega) (hF.row (by omega)) _ (Or.inr ⟨_, rfl⟩)
        | succ m ihm =>
          intro i on hi hF
          refine X_iload (tk_X10_ropeOf.at 12 rfl) rfl ?_
          refine X_aload_n (tk_X10_ropeOf.at 13 rfl) rfl ?_
          refine X_iload_n (tk_X10_ropeOf.at 14 rfl) rfl ?_
          refine X_cV1i (lv2 := [(0, _), (1, _)]) (tk_X10_ropeOf.at 15 rfl) mv_X10_many lk_x10_118 np_X10_many hM.f0 (by decide) rfl (Nat.le_of_ble_eq_true rfl) (Nat.le_of_ble_eq_true rfl) rfl (c10_many hM rfl (by omega) ?_)
          refine X_icmp_geN (tgt := 50) (tk_X10_ropeOf.at 16 rfl) (by decide) rfl wm.1 (by omega) (by omega) (fun c1 => (by exfalso; omega)) (fun c1 => ?_)
          refine X_aload_n (tk_X10_ropeOf.at 17 rfl) rfl ?_
          refine X_iload_n (tk_X10_ropeOf.at 18 rfl) rfl ?_
          refine X_iload (tk_X10_ropeOf.at 19 rfl) rfl ?_
          refine X_cV2i (lv2 := [(0, _), (1, _), (2, _)]) (tk_X10_ropeOf.at 20 rfl) mv_X10_who lk_x10_121 np_X10_who hM.f0 (by decide) rfl (Nat.le_of_ble_eq_true rfl) (Nat.le_of_ble_eq_true rfl) rfl (c10_who hM rfl rfl (by omega) (by omega) ?_)
          refine X_iload_n (tk_X10_ropeOf.at 21 rfl) rfl ?_
          refine X_icmp_ne (tgt := 42) (tk_X10_ropeOf.at 22 rfl) (by decide) (fun c2 => ?_) (fun c2 => ?_)
          · refine X_iload_n (tk_X10_ropeOf.at 25 rfl) rfl ?_
            refine X_istore_n (lv' := [(0, _), (1, _), (2, _), (3, _), (4, _)]) (tk_X10_ropeOf.at 26 rfl) (by decide) rfl rfl ?_
            refine X_iinc (lv' := [(0, _), (1, _), (2, _), (3, _), (4, _)]) (tk_X10_ropeOf.at 27 rfl) rfl ci_1 (by decide) rfl rfl ?_
            refine X_goto (tgt := 17) (tk_X10_ropeOf.at 28 rfl) (by decide) ?_
            rw [show nI i + 1 = nI (i + 1) from nI_1 i]
            exact ihm (i + 1) on (by omega) (hF.next (by rw [← hp]; exact c2))
          · refine X_iload_n (tk_X10_ropeOf.at 23 rfl) rfl ?_
            refine X_goto (tgt := 43) (tk_X10_ropeOf.at 24 rfl) (by decide) ?_
            refine X_istore_n (lv' := [(0, _), (1, _), (2, _), (3, _), (4, _)]) (tk_X10_ropeOf.at 26 rfl) (by decide) rfl rfl ?_
            refine X_iinc (lv' := [(0, _), (1, _), (2, _), (3, _), (4, _)]) (tk_X10_ropeOf.at 27 rfl) rfl ci_1 (by decide) rfl rfl ?_
            refine X_goto (tgt := 17) (tk_X10_ropeOf.at 28 rfl) (by decide) ?_
            rw [show nI i + 1 = nI (i + 1) from nI_1 i]
            refine ihm (i + 1) (nI r) (by omega) (Or.inr ⟨r, i, rfl, by omega, by omega, ?_⟩)
            rw [← hp]; exact c2
      refine X_iload_n (tk_X10_ropeOf.at 4 rfl) rfl ?_
      refine X_aload_n (tk_X10_ropeOf.at 5 rfl) rfl ?_
      refine X_getR (tk_X10_ropeOf.at 6 rfl) fl_x10_9 hM.f0 rfl rfl ?_
      refine X_iconst (tk_X10_ropeOf.at 7 rfl) ci_3 ?_
      refine X_ialdN (k := 3) (tk_X10_ropeOf.at 8 rfl) hM.f1 (pz (pl 3 rfl) (by omega)) (by omega) (by decide) ?_
      refine X_icmp_geN (tgt := 56) (tk_X10_ropeOf.at 9 rfl) (by decide) rfl w3.1 (by omega) (by omega) (fun c1 => (by exfalso; omega)) (fun c1 => ?_)
      refine X_iconst (tk_X10_ropeOf.at 10 rfl) ci_0 ?_
      refine X_istore (lv' := [(0, _), (1, _), (2, _), (3, _), (4, _)]) (tk_X10_ropeOf.at 11 rfl) (by decide) rfl rfl ?_
      exact inn _ 0 on (Nat.zero_add _) hF
  refine X_iconst (tk_X10_ropeOf.at 0 rfl) ci_m1 ?_
  refine X_istore_n (lv' := [(0, _), (1, _), (2, _)]) (tk_X10_ropeOf.at 1 rfl) (by decide) rfl rfl ?_
  refine X_iconst (tk_X10_ropeOf.at 2 rfl) ci_0 ?_
  refine X_istore_n (lv' := [(0, _), (1, _), (2, _), (3, _)]) (tk_X10_ropeOf.at 3 rfl) (by decide) rfl rfl ?_
  exact outer _ 0 (-1) (Nat.zero_add _) (Or.inl ⟨rfl, fun r' i' _ => by omega⟩) [] (Or.inl rfl)
def Fnp (N : Nat → Int32) (p r i : Nat) (on : Int32) : Prop := (on = -1 ∧ ∀ i', On N r i' p → i ≤ i') ∨ ∃ i0, on = nI i0 ∧ On N r i0 p
set_option maxHeartbeats 1000000 in
theorem c10_placeOf {G : Gl} {d : Nat} {S : Sh} {μ : Mu} {o : Nat} {q : Nat → Nat} {p : Int32} {pn : Nat} {K : Int32 → Sh → Mu → Prop} (hM : MS S o q) (hw : WF (μ (o + 1))) (hp : p = nI pn) (k1 : ∀ r i, On (μ (o + 1)) r i pn → K (nI i) S μ) (k2 : (∀ r i, ¬ On (μ (o + 1)) r i pn) → K (-1) S μ) : X G mi_X10_placeOf (d + 3) 0 0 [(0, .ref o), (1, .int p)] [] S μ (qi K) := by
  have w0 := hw.n0
  have w1 := hw.n1
  have w2 := hw.n2
  have w3 := hw.n3
  have w4 := hw.n4
  have w5 := hw.n5
  have w6 := hw.n6
  have b1 := w1.2
  have b2 := w2.2
  have b3 := w3.2
  have b4 := w4.2
  have b5 := w5.2
  have b6 := w6.2
  have b0 := w0.2
  refine X_aload_n (tk_X10_placeOf.at 0 rfl) rfl ?_
  refine X_iload_n (tk_X10_placeOf.at 1 rfl) rfl ?_
  refine X_cV1i (lv2 := [(0, _), (1, _)]) (tk_X10_placeOf.at 2 rfl) mv_X10_ropeOf lk_x10_98 np_X10_ropeOf hM.f0 (by decide) rfl (Nat.le_of_ble_eq_true rfl) (Nat.le_of_ble_eq_true rfl) rfl (c10_ropeOf hM hw hp (fun r2 i2 h2 => ?_) (fun h2 => ?_))
  · have g2 := h2.1
    refine X_istore_n (lv' := [(0, _), (1, _), (2, _)]) (tk_X10_placeOf.at 3 rfl) (by decide) rfl rfl ?_
    refine X_iconst (tk_X10_placeOf.at 4 rfl) ci_m1 ?_
    refine X_istore_n (lv' := [(0, _), (1, _), (2, _), (3, _)]) (tk_X10_placeOf.at 5 rfl) (by decide) rfl rfl ?_
    refine X_iconst (tk_X10_placeOf.at 6 rfl) ci_0 ?_
    refine X_istore (lv' := [(0, _), (1, _), (2, _), (3, _), (4, _)]) (tk_X10_placeOf.at 7 rfl) (by decide) rfl rfl ?_
    have wr := hw.ro (p := r2) h2.1
    have wm := wr.2.2.2.1
    have bm := wm.2
    have loop : ∀ (m i : Nat) (on : Int32), i + m = (nv (μ (o + 1) (83 + 9 * r2))) → Fnp (μ (o + 1)) pn r2 i on → X G mi_X10_placeOf (d + 3) 0 11 [(0, .ref o), (1, .int p), (2, .int (nI r2)), (3, .int on), (4, .int (nI i))] [] S μ (qi K) := by
      intro m
      induction m with
      | zero =>
        intro i on hi hF
        refine X_iload_n (tk_X10_placeOf.at 8 rfl) rfl ?_
        refine X_if_ltN (tgt := 49) (tk_X10_placeOf.at 9 rfl) (by decide) (pl r2 rfl) (by omega) ?_
        refine X_iload (tk_X10_placeOf.at 10 rfl) rfl ?_
        refine X_aload_n (tk_X10_placeOf.at 11 rfl) rfl ?_
        refine X_iload_n (tk_X10_placeOf.at 12 rfl) rfl ?_
        refine X_cV1i (lv2 := [(0, _), (1, _)]) (tk_X10_placeOf.at 13 rfl) mv_X10_many lk_x10_118 np_X10_many hM.f0 (by decide) rfl (Nat.le_of_ble_eq_true rfl) (Nat.le_of_ble_eq_true rfl) rfl (c10_many hM (pl r2 rfl) (by omega) ?_)
        refine X_icmp_geN (tgt := 49) (tk_X10_placeOf.at 14 rfl) (by decide) (pl i rfl) wm.1 (by omega) (by omega) (fun c2 => ?_) (fun c2 => (by exfalso; omega))
        refine X_iload_n (tk_X10_placeOf.at 27 rfl) rfl ?_
        refine X_ireturn (tk_X10_placeOf.at 28 rfl) rfl rfl ?_
        rcases hF with ⟨e, h⟩ | ⟨i0, e, h⟩
        · exact absurd (h i2 h2) (by have := h2.2.1; omega)
        · rw [e]; exact k1 r2 i0 h
      | succ m ih =>
        intro i on hi hF
        refine X_iload_n (tk_X10_placeOf.at 8 rfl) rfl ?_
        refine X_if_ltN (tgt := 49) (tk_X10_placeOf.at 9 rfl) (by decide) (pl r2 rfl) (by omega) ?_
        refine X_iload (tk_X10_placeOf.at 10 rfl) rfl ?_
        refine X_aload_n (tk_X10_placeOf.at 11 rfl) rfl ?_
        refine X_iload_n (tk_X10_placeOf.at 12 rfl) rfl ?_
        refine X_cV1i (lv2 := [(0, _), (1, _)]) (tk_X10_placeOf.at 13 rfl) mv_X10_many lk_x10_118 np_X10_many hM.f0 (by decide) rfl (Nat.le_of_ble_eq_true rfl) (Nat.le_of_ble_eq_true rfl) rfl (c10_many hM (pl r2 rfl) (by omega) ?_)
        refine X_icmp_geN (tgt := 49) (tk_X10_placeOf.at 14 rfl) (by decide) (pl i rfl) wm.1 (by omega) (by omega) (fun c2 => (by exfalso; omega)) (fun c2 => ?_)
        refine X_aload_n (tk_X10_placeOf.at 15 rfl) rfl ?_
        refine X_iload_n (tk_X10_placeOf.at 16 rfl) rfl ?_
        refine X_iload (tk_X10_placeOf.at 17 rfl) rfl ?_
        refine X_cV2i (lv2 := [(0, _), (1, _), (2, _)]) (tk_X10_placeOf.at 18 rfl) mv_X10_who lk_x10_121 np_X10_who hM.f0 (by decide) rfl (Nat.le_of_ble_eq_true rfl) (Nat.le_of_ble_eq_true rfl) rfl (c10_who hM (pl r2 rfl) (pl i rfl) (by omega) (by omega) ?_)
        refine X_iload_n (tk_X10_placeOf.at 19 rfl) rfl ?_
        refine X_icmp_ne (tgt := 41) (tk_X10_placeOf.at 20 rfl) (by decide) (fun c3 => ?_) (fun c3 => ?_)
        · refine X_iload_n (tk_X10_placeOf.at 23 rfl) rfl ?_
          refine X_istore_n (lv' := [(0, _), (1, _), (2, _), (3, _), (4, _)]) (tk_X10_placeOf.at 24 rfl) (by decide) rfl rfl ?_
          refine X_iinc (lv' := [(0, _), (1, _), (2, _), (3, _), (4, _)]) (tk_X10_placeOf.at 25 rfl) rfl ci_1 (by decide) rfl rfl ?_
          refine X_goto (tgt := 11) (tk_X10_placeOf.at 26 rfl) (by decide) ?_
          rw [show nI i + 1 = nI (i + 1) from nI_1 i]
          refine ih (i + 1) on (by omega) ?_
          rcases hF with ⟨e, h⟩ | h
          · refine Or.inl ⟨e, fun i' z => ?_⟩
            have := h i' z
            rcases Nat.lt_or_ge i i' with y | y
            · exact y
            · have e2 : i' = i := by omega
              subst e2
              exact absurd z.2.2 (by rw [← hp]; exact c3)
          · exact Or.inr h
        · refine X_iload (tk_X10_placeOf.at 21 rfl) rfl ?_
          refine X_goto (tgt := 42) (tk_X10_placeOf.at 22 rfl) (by decide) ?_
          refine X_istore_n (lv' := [(0, _), (1, _), (2, _), (3, _), (4, _)]) (tk_X10_placeOf.at 24 rfl) (by decide) rfl rfl ?_
          refine X_iinc (lv' := [(0, _), (1, _), (2, _), (3, _), (4, _)]) (tk_X10_placeOf.at 25 rfl) rfl ci_1 (by decide) rfl rfl ?_
          refine X_goto (tgt := 11) (tk_X10_placeOf.at 26 rfl) (by decide) ?_
          rw [show nI i + 1 = nI (i + 1) from nI_1 i]
          refine ih (i + 1) (nI i) (by omega) (Or.inr ⟨i, rfl, h2.1, by omega, ?_⟩)
          rw [← hp]; exact c3
    exact loop _ 0 (-1) (Nat.zero_add _) (Or.inl ⟨rfl, fun i' _ => Nat.zero_le i'⟩)
  · refine X_istore_n (lv' := [(0, _), (1, _), (2, _)]) (tk_X10_placeOf.at 3 rfl) (by decide) rfl rfl ?_
    refine X_iconst (tk_X10_placeOf.at 4 rfl) ci_m1 ?_
    refine X_istore_n (lv' := [(0, _), (1, _), (2, _), (3, _)]) (tk_X10_placeOf.at 5 rfl) (by decide) rfl rfl ?_
    refine X_iconst (tk_X10_placeOf.at 6 rfl) ci_0 ?_
    refine X_istore (lv' := [(0, _), (1, _), (2, _), (3, _), (4, _)]) (tk_X10_placeOf.at 7 rfl) (by decide) rfl rfl ?_
    refine X_iload_n (tk_X10_placeOf.at 8 rfl) rfl ?_
    refine X_if_lt (tgt := 49) (tk_X10_placeOf.at 9 rfl) (by decide) (fun _ => ?_) (fun h => absurd h (by decide))
    refine X_iload_n (tk_X10_placeOf.at 27 rfl) rfl ?_
    refine X_ireturn (tk_X10_placeOf.at 28 rfl) rfl rfl ?_
    exact k2 h2
def Fnl (N : Nat → Int32) (r : Int32) (i : Nat) (on : Int32) : Prop := (on = -1 ∧ ∀ k, k < nv (N 4) → N (134 + k) = r → i ≤ k) ∨ ∃ k, on = nI k ∧ k < nv (N 4) ∧ N (134 + k) = r
set_option maxHeartbeats 1000000 in
theorem c10_inLine {G : Gl} {d : Nat} {S : Sh} {μ : Mu} {o : Nat} {q : Nat → Nat} {r : Int32} {K : Int32 → Sh → Mu → Prop} (hM : MS S o q) (hw : WF (μ (o + 1))) (k1 : ∀ k, k < nv (μ (o + 1) 4) → μ (o + 1) (134 + k) = r → K (nI k) S μ) (k2 : (∀ k, k < nv (μ (o + 1) 4) → ¬ μ (o + 1) (134 + k) = r) → K (-1) S μ) : X G mi_X10_inLine d 0 0 [(0, .ref o), (1, .int r)] [] S μ (qi K) := by
  have w0 := hw.n0
  have w1 := hw.n1
  have w2 := hw.n2
  have w3 := hw.n3
  have w4 := hw.n4
  have w5 := hw.n5
  have w6 := hw.n6
  have b1 := w1.2
  have b2 := w2.2
  have b3 := w3.2
  have b4 := w4.2
  have b5 := w5.2
  have b6 := w6.2
  have b0 := w0.2
  have loop : ∀ (m i : Nat) (on : Int32), i + m = nv (μ (o + 1) 4) → Fnl (μ (o + 1)) r i on → X G mi_X10_inLine d 0 4 [(0, .ref o), (1, .int r), (2, .int on), (3, .int (nI i))] [] S μ (qi K) := by
    intro m
    induction m with
    | zero =>
      intro i on hi hF
      refine X_iload_n (tk_X10_inLine.at 4 rfl) rfl ?_
      refine X_aload_n (tk_X10_inLine.at 5 rfl) rfl ?_
      refine X_getR (tk_X10_inLine.at 6 rfl) fl_x10_9 hM.f0 rfl rfl ?_
      refine X_iconst (tk_X10_inLine.at 7 rfl) ci_4 ?_
      refine X_ialdN (k := 4) (tk_X10_inLine.at 8 rfl) hM.f1 (pz (pl 4 rfl) (by omega)) (by omega) (by decide) ?_
      refine X_icmp_geN (tgt := 40) (tk_X10_inLine.at 9 rfl) (by decide) (pl i rfl) w4.1 (by omega) (by omega) (fun c1 => ?_) (fun c1 => (by exfalso; omega))
      refine X_iload_n (tk_X10_inLine.at 24 rfl) rfl ?_
      refine X_ireturn (tk_X10_inLine.at 25 rfl) rfl rfl ?_
      rcases hF with ⟨e, h⟩ | ⟨k, e, h1, h2⟩
      · rw [e]
        exact k2 (fun k hk z => absurd (h k hk z) (by omega))
      · rw [e]; exact k1 k h1 h2
    | succ m ih =>
      intro i on hi hF
      refine X_iload_n (tk_X10_inLine.at 4 rfl) rfl ?_
      refine X_aload_n (tk_X10_inLine.at 5 rfl) rfl ?_
      refine X_getR (tk_X10_inLine.at 6 rfl) fl_x10_9 hM.f0 rfl rfl ?_
      refine X_iconst (tk_X10_inLine.at 7 rfl) ci_4 ?_
      refine X_ialdN (k := 4) (tk_X10_inLine.at 8 rfl) hM.f1 (pz (pl 4 rfl) (by omega)) (by omega) (by decide) ?_
      refine X_icmp_geN (tgt := 40) (tk_X10_inLine.at 9 rfl) (by decide) (pl i rfl) w4.1 (by omega) (by omega) (fun c1 => (by exfalso; omega)) (fun c1 => ?_)
      refine X_aload_n (tk_X10_inLine.at 10 rfl) rfl ?_
      refine X_getR (tk_X10_inLine.at 11 rfl) fl_x10_9 hM.f0 rfl rfl ?_
      refine X_sipush (tk_X10_inLine.at 12 rfl) cs_134 ?_
      refine X_iload_n (tk_X10_inLine.at 13 rfl) rfl ?_
      refine X_iadd (tk_X10_inLine.at 14 rfl) ?_
      refine X_ialdN (k := 134 + i) (tk_X10_inLine.at 15 rfl) hM.f1 (pz (pa (pl 134 rfl) (pl i rfl)) (by omega)) (by omega) (by decide) ?_
      refine X_iload_n (tk_X10_inLine.at 16 rfl) rfl ?_
      refine X_icmp_ne (tgt := 32) (tk_X10_inLine.at 17 rfl) (by decide) (fun c2 => ?_) (fun c2 => ?_)
      · refine X_iload_n (tk_X10_inLine.at 20 rfl) rfl ?_
        refine X_istore_n (lv' := [(0, _), (1, _), (2, _), (3, _)]) (tk_X10_inLine.at 21 rfl) (by decide) rfl rfl ?_
        refine X_iinc (lv' := [(0, _), (1, _), (2, _), (3, _)]) (tk_X10_inLine.at 22 rfl) rfl ci_1 (by decide) rfl rfl ?_
        refine X_goto (tgt := 4) (tk_X10_inLine.at 23 rfl) (by decide) ?_
        rw [show nI i + 1 = nI (i + 1) from nI_1 i]
        refine ih (i + 1) on (by omega) ?_
        rcases hF with ⟨e, h⟩ | h
        · refine Or.inl ⟨e, fun k hk z => ?_⟩
          have := h k hk z
          rcases Nat.lt_or_ge i k with y | y
          · exact y
          · have e2 : k = i := by omega
            subst e2
            exact absurd z c2
        · exact Or.inr h
      · refine X_iload_n (tk_X10_inLine.at 18 rfl) rfl ?_
        refine X_goto (tgt := 33) (tk_X10_inLine.at 19 rfl) (by decide) ?_
        refine X_istore_n (lv' := [(0, _), (1, _), (2, _), (3, _)]) (tk_X10_inLine.at 21 rfl) (by decide) rfl rfl ?_
        refine X_iinc (lv' := [(0, _), (1, _), (2, _), (3, _)]) (tk_X10_inLine.at 22 rfl) rfl ci_1 (by decide) rfl rfl ?_
        refine X_goto (tgt := 4) (tk_X10_inLine.at 23 rfl) (by decide) ?_
        rw [show nI i + 1 = nI (i + 1) from nI_1 i]
        exact ih (i + 1) (nI i) (by omega) (Or.inr ⟨i, rfl, by omega, c2⟩)
  refine X_iconst (tk_X10_inLine.at 0 rfl) ci_m1 ?_
  refine X_istore_n (lv' := [(0, _), (1, _), (2, _)]) (tk_X10_inLine.at 1 rfl) (by decide) rfl rfl ?_
  refine X_iconst (tk_X10_inLine.at 2 rfl) ci_0 ?_
  refine X_istore_n (lv' := [(0, _), (1, _), (2, _), (3, _)]) (tk_X10_inLine.at 3 rfl) (by decide) rfl rfl ?_
  exact loop _ 0 (-1) (Nat.zero_add _) (Or.inl ⟨rfl, fun k _ _ => Nat.zero_le k⟩)
end
section
/-- places behind one, one further; somebody comes between; somebody goes -/
def shU (N : Nat → Int32) (r m i : Nat) : Nat → Int32 := fun a => if 84 + 9 * r + i < a ∧ a ≤ 84 + 9 * r + m then N (a - 1) else N a
def insN (N : Nat → Int32) (r m i : Nat) (x : Int32) : Nat → Int32 := upd (upd (shU N r m i) (84 + 9 * r + i) x) (83 + 9 * r) (nI (m + 1))
def shD (N : Nat → Int32) (r j i : Nat) : Nat → Int32 := fun a => if 84 + 9 * r + j ≤ a ∧ a < 84 + 9 * r + i then N (a + 1) else N a
def delN (N : Nat → Int32) (r m j : Nat) : Nat → Int32 := shD (upd N (83 + 9 * r) (nI (m - 1))) r j (m - 1)
theorem shU_m (N : Nat → Int32) (r m : Nat) : shU N r m m = N := by
  funext a
  unfold shU
  rw [if_neg (by omega)]
theorem shU_lo (N : Nat → Int32) {r m i a : Nat} (h : a ≤ 84 + 9 * r + i) : shU N r m i a = N a := if_neg (by omega)
theorem shU_st (N : Nat → Int32) {r m i : Nat} (h0 : 0 < i) (h : i ≤ m) : upd (shU N r m i) (84 + 9 * r + i) (N (84 + 9 * r + i - 1)) = shU N r m (i - 1) := by
  funext a
  unfold upd shU
  by_cases e : a = 84 + 9 * r + i
  · rw [if_pos e, if_pos (by omega), e]
  · rw [if_neg e]
    by_cases z : 84 + 9 * r + i < a ∧ a ≤ 84 + 9 * r + m
    · rw [if_pos z, if_pos (by omega)]
    · rw [if_neg z, if_neg (by omega)]
theorem shD_0 (N : Nat → Int32) (r j : Nat) : shD N r j j = N := by
  funext a
  unfold shD
  rw [if_neg (by omega)]
theorem shD_hi (N : Nat → Int32) {r j i a : Nat} (h : 84 + 9 * r + i ≤ a) : shD N r j i a = N a := if_neg (by omega)
theorem shD_lo (N : Nat → Int32) {r j i a : Nat} (h : a < 84 + 9 * r + j) : shD N r j i a = N a := if_neg (by omega)
theorem shD_st (N : Nat → Int32) {r j i : Nat} (h : j ≤ i) : upd (shD N r j i) (84 + 9 * r + i) (N (84 + 9 * r + i + 1)) = shD N r j (i + 1) := by
  funext a
  unfold upd shD
  by_cases e : a = 84 + 9 * r + i
  · rw [if_pos e, if_pos (by omega), e]
  · rw [if_neg e]
    by_cases z : 84 + 9 * r + j ≤ a ∧ a < 84 + 9 * r + i
    · rw [if_pos z, if_pos (by omega)]
    · rw [if_neg z, if_neg (by omega)]
set_option maxHeartbeats 1000000 in
theorem c10_ties {G : Gl} {d : Nat} {S : Sh} {μ : Mu} {o : Nat} {q : Nat → Nat} {r p x : Int32} {rn m j : Nat} {K : Sh → Mu → Prop} (hM : MS S o q) (hr : r = nI rn) (hb : rn < 6) (hm : μ (o + 1) (83 + 9 * rn) = nI m) (hb2 : m < 5) (hp : p = nI j) (hj : j ≤ m) (hK : K S (Mx μ (o + 1) (insN (μ (o + 1)) rn m j x))) : X G mi_X10_ties (d + 2) 0 0 [(0, .ref o), (1, .int r), (2, .int p), (3, .int x)] [] S μ (qv K) := by
  have loop : ∀ (n i : Nat), i = j + n → i ≤ m → X G mi_X10_ties (d + 2) 0 7 [(0, .ref o), (1, .int r), (2, .int p), (3, .int x), (4, .int (nI i))] [] S (Mx μ (o + 1) (shU (μ (o + 1)) rn m i)) (qv K) := by
    intro n
    induction n with
    | zero =>
      intro i hi him
      have e : i = j := by omega
      subst e
      refine X_iload (tk_X10_ties.at 4 rfl) rfl ?_
      refine X_iload_n (tk_X10_ties.at 5 rfl) rfl ?_
      refine X_icmp_leN (tgt := 35) (tk_X10_ties.at 6 rfl) (by decide) (pl i rfl) hp (by omega) (by omega) (fun c1 => ?_) (fun c1 => (by exfalso; omega))
      refine X_aload_n (tk_X10_ties.at 19 rfl) rfl ?_
      refine X_iload_n (tk_X10_ties.at 20 rfl) rfl ?_
      refine X_iload_n (tk_X10_ties.at 21 rfl) rfl ?_
      refine X_iload_n (tk_X10_ties.at 22 rfl) rfl ?_
      refine X_cV3v (lv2 := [(0, _), (1, _), (2, _), (3, _)]) (tk_X10_ties.at 23 rfl) mv_X10_seats lk_x10_127 np_X10_seats hM.f0 (by decide) rfl (Nat.le_of_ble_eq_true rfl) (Nat.le_of_ble_eq_true rfl) rfl (c10_seats hM hr hp (by omega) (by omega) ?_)
      refine X_aload_n (tk_X10_ties.at 24 rfl) rfl ?_
      refine X_getR (tk_X10_ties.at 25 rfl) fl_x10_9 hM.f0 rfl rfl ?_
      refine X_bipush (tk_X10_ties.at 26 rfl) cb_80 ?_
      refine X_bipush (tk_X10_ties.at 27 rfl) cb_9 ?_
      refine X_iload_n (tk_X10_ties.at 28 rfl) rfl ?_
      refine X_imul (tk_X10_ties.at 29 rfl) ?_
      refine X_iadd (tk_X10_ties.at 30 rfl) ?_
      refine X_iconst (tk_X10_ties.at 31 rfl) ci_3 ?_
      refine X_iadd (tk_X10_ties.at 32 rfl) ?_
      refine X_dup2 (tk_X10_ties.at 33 rfl) rfl rfl ?_
      refine X_ialdN (k := 83 + 9 * rn) (tk_X10_ties.at 34 rfl) hM.f1 (pz (pa (pa (pl 80 rfl) (pm (pl 9 rfl) hr)) (pl 3 rfl)) (by omega)) (by omega) (by decide) ?_
      refine X_iconst (tk_X10_ties.at 35 rfl) ci_1 ?_
      refine X_iadd (tk_X10_ties.at 36 rfl) ?_
      refine X_iastN (k := 83 + 9 * rn) (tk_X10_ties.at 37 rfl) hM.f1 (pz (pa (pa (pl 80 rfl) (pm (pl 9 rfl) hr)) (pl 3 rfl)) (by omega)) (by omega) (by decide) ?_
      refine X_return (tk_X10_ties.at 38 rfl) rfl ?_
      have e1 : su (Mx μ (o + 1) (shU (μ (o + 1)) rn m i)) (o + 1) (84 + 9 * rn + i) x (o + 1) (83 + 9 * rn) = nI m := by
        rw [su_Mx, Mx_same, upd_ne _ _ (by omega), shU_lo _ (by omega)]; exact hm
      rw [e1, su_Mx, su_Mx, ← nI_succ]
      exact hK
    | succ n ih =>
      intro i hi him
      refine X_iload (tk_X10_ties.at 4 rfl) rfl ?_
      refine X_iload_n (tk_X10_ties.at 5 rfl) rfl ?_
      refine X_icmp_leN (tgt := 35) (tk_X10_ties.at 6 rfl) (by decide) (pl i rfl) hp (by omega) (by omega) (fun c1 => (by exfalso; omega)) (fun c1 => ?_)
      refine X_aload_n (tk_X10_ties.at 7 rfl) rfl ?_
      refine X_iload_n (tk_X10_ties.at 8 rfl) rfl ?_
      refine X_iload (tk_X10_ties.at 9 rfl) rfl ?_
      refine X_aload_n (tk_X10_ties.at 10 rfl) rfl ?_
      refine X_iload_n (tk_X10_ties.at 11 rfl) rfl ?_
      refine X_iload (tk_X10_ties.at 12 rfl) rfl ?_
      refine X_iconst (tk_X10_ties.at 13 rfl) ci_1 ?_
      refine X_isub (tk_X10_ties.at 14 rfl) ?_
      refine X_cV2i (lv2 := [(0, _), (1, _), (2, _)]) (tk_X10_ties.at 15 rfl) mv_X10_who lk_x10_121 np_X10_who hM.f0 (by decide) rfl (Nat.le_of_ble_eq_true rfl) (Nat.le_of_ble_eq_true rfl) rfl (c10_who hM hr (ps (pl i rfl) (pl 1 rfl) (by omega)) (by omega) (by omega) ?_)
      refine X_cV3v (lv2 := [(0, _), (1, _), (2, _), (3, _)]) (tk_X10_ties.at 16 rfl) mv_X10_seats lk_x10_127 np_X10_seats hM.f0 (by decide) rfl (Nat.le_of_ble_eq_true rfl) (Nat.le_of_ble_eq_true rfl) rfl (c10_seats hM hr (pl i rfl) (by omega) (by omega) ?_)
      refine X_iinc (lv' := [(0, _), (1, _), (2, _), (3, _), (4, _)]) (tk_X10_ties.at 17 rfl) rfl ci_m1 (by decide) rfl rfl ?_
      refine X_goto (tgt := 7) (tk_X10_ties.at 18 rfl) (by decide) ?_
      have e1 : Mx μ (o + 1) (shU (μ (o + 1)) rn m i) (o + 1) (84 + 9 * rn + (i - 1)) = μ (o + 1) (84 + 9 * rn + i - 1) := by
        rw [Mx_same, shU_lo _ (by omega)]; congr 1; omega
      rw [e1, su_Mx, shU_st _ (by omega) him, show nI i + (-1) = nI (i - 1) from pm1 rfl (by omega)]
      exact ih (i - 1) (by omega) (by omega)
  refine X_aload_n (tk_X10_ties.at 0 rfl) rfl ?_
  refine X_iload_n (tk_X10_ties.at 1 rfl) rfl ?_
  refine X_cV1i (lv2 := [(0, _), (1, _)]) (tk_X10_ties.at 2 rfl) mv_X10_many lk_x10_118 np_X10_many hM.f0 (by decide) rfl (Nat.le_of_ble_eq_true rfl) (Nat.le_of_ble_eq_true rfl) rfl (c10_many hM hr (by omega) ?_)
  refine X_istore (lv' := [(0, _), (1, _), (2, _), (3, _), (4, _)]) (tk_X10_ties.at 3 rfl) (by decide) rfl rfl ?_
  have z := loop (m - j) m (by omega) (Nat.le_refl m)
  rw [shU_m, Mx_self] at z
  rw [hm]
  exact z
set_option maxHeartbeats 1000000 in
theorem c10_unties {G : Gl} {d : Nat} {S : Sh} {μ : Mu} {o : Nat} {q : Nat → Nat} {p : Int32} {pn r0 i0 : Nat} {K : Sh → Mu → Prop} (hM : MS S o q) (hw : WF (μ (o + 1))) (hp : p = nI pn) (hon : On (μ (o + 1)) r0 i0 pn) (hK : ∀ r j, On (μ (o + 1)) r j pn → K S (Mx μ (o + 1) (delN (μ (o + 1)) r (nv (μ (o + 1) (83 + 9 * r))) j))) : X G mi_X10_unties (d + 4) 0 0 [(0, .ref o), (1, .int p)] [] S μ (qv K) := by
  have w0 := hw.n0
  have w1 := hw.n1
  have w2 := hw.n2
  have w3 := hw.n3
  have w4 := hw.n4
  have w5 := hw.n5
  have w6 := hw.n6
  have b1 := w1.2
  have b2 := w2.2
  have b3 := w3.2
  have b4 := w4.2
  have b5 := w5.2
  have b6 := w6.2
  have b0 := w0.2
  refine X_aload_n (tk_X10_unties.at 0 rfl) rfl ?_
  refine X_iload_n (tk_X10_unties.at 1 rfl) rfl ?_
  refine X_cV1i (lv2 := [(0, _), (1, _)]) (tk_X10_unties.at 2 rfl) mv_X10_ropeOf lk_x10_98 np_X10_ropeOf hM.f0 (by decide) rfl (Nat.le_of_ble_eq_true rfl) (Nat.le_of_ble_eq_true rfl) rfl (c10_ropeOf hM hw hp (fun r i2 h2 => ?_) (fun h2 => absurd hon (h2 _ _)))
  refine X_istore_n (lv' := [(0, _), (1, _), (2, _)]) (tk_X10_unties.at 3 rfl) (by decide) rfl rfl ?_
  refine X_aload_n (tk_X10_unties.at 4 rfl) rfl ?_
  refine X_iload_n (tk_X10_unties.at 5 rfl) rfl ?_
  refine X_cV1i (lv2 := [(0, _), (1, _)]) (tk_X10_unties.at 6 rfl) mv_X10_placeOf lk_x10_101 np_X10_placeOf hM.f0 (by decide) rfl (Nat.le_of_ble_eq_true rfl) (Nat.le_of_ble_eq_true rfl) rfl (c10_placeOf hM hw hp (fun r1 j h8 => ?_) (fun h8 => absurd hon (h8 _ _)))
  have hrr : r1 = r := (hw.un h8 h2).1
  subst hrr
  have hOn := h8
  have hr6 := hOn.1
  obtain ⟨m, hm2⟩ : ∃ m, m = nv (μ (o + 1) (83 + 9 * r1)) := ⟨_, rfl⟩
  refine X_istore_n (lv' := [(0, _), (1, _), (2, _), (3, _)]) (tk_X10_unties.at 7 rfl) (by decide) rfl rfl ?_
  refine X_aload_n (tk_X10_unties.at 8 rfl) rfl ?_
  refine X_getR (tk_X10_unties.at 9 rfl) fl_x10_9 hM.f0 rfl rfl ?_
  refine X_bipush (tk_X10_unties.at 10 rfl) cb_80 ?_
  refine X_bipush (tk_X10_unties.at 11 rfl) cb_9 ?_
  refine X_iload_n (tk_X10_unties.at 12 rfl) rfl ?_
  refine X_imul (tk_X10_unties.at 13 rfl) ?_
  refine X_iadd (tk_X10_unties.at 14 rfl) ?_
  refine X_iconst (tk_X10_unties.at 15 rfl) ci_3 ?_
  refine X_iadd (tk_X10_unties.at 16 rfl) ?_
  refine X_dup2 (tk_X10_unties.at 17 rfl) rfl rfl ?_
  refine X_ialdN (k := 83 + 9 * r1) (tk_X10_unties.at 18 rfl) hM.f1 (pz (pa (pa (pl 80 rfl) (pm (pl 9 rfl) (pl r1 rfl))) (pl 3 rfl)) (by omega)) (by omega) (by decide) ?_
  refine X_iconst (tk_X10_unties.at 19 rfl) ci_1 ?_
  refine X_isub (tk_X10_unties.at 20 rfl) ?_
  refine X_iastN (k := 83 + 9 * r1) (tk_X10_unties.at 21 rfl) hM.f1 (pz (pa (pa (pl 80 rfl) (pm (pl 9 rfl) (pl r1 rfl))) (pl 3 rfl)) (by omega)) (by omega) (by decide) ?_
  refine X_iload_n (tk_X10_unties.at 22 rfl) rfl ?_
  refine X_istore (lv' := [(0, _), (1, _), (2, _), (3, _), (4, _)]) (tk_X10_unties.at 23 rfl) (by decide) rfl rfl ?_
  have wr := hw.ro (p := r1) hOn.1
  have wm := wr.2.2.2.1
  have bm := wm.2
  have hm : μ (o + 1) (83 + 9 * r1) = nI m := by rw [hm2]; exact wm.1
  have hmj : j < m := by rw [hm2]; exact hOn.2.1
  rw [← hm2] at bm
  have loop : ∀ (n i : Nat), i + n = m - 1 → j ≤ i → X G mi_X10_unties (d + 4) 0 33 [(0, .ref o), (1, .int p), (2, .int (nI r1)), (3, .int (nI j)), (4, .int (nI i))] [] S (Mx μ (o + 1) (shD (upd (μ (o + 1)) (83 + 9 * r1) (nI (m - 1))) r1 j i)) (qv K) := by
    intro n
    induction n with
    | zero =>
      intro i hi hji
      have e : i = m - 1 := by omega
      subst e
      refine X_iload (tk_X10_unties.at 24 rfl) rfl ?_
      refine X_aload_n (tk_X10_unties.at 25 rfl) rfl ?_
      refine X_iload_n (tk_X10_unties.at 26 rfl) rfl ?_
      refine X_cV1i (lv2 := [(0, _), (1, _)]) (tk_X10_unties.at 27 rfl) mv_X10_many lk_x10_118 np_X10_many hM.f0 (by decide) rfl (Nat.le_of_ble_eq_true rfl) (Nat.le_of_ble_eq_true rfl) rfl (c10_many hM (pl r1 rfl) (by omega) ?_)
      have emm : Mx μ (o + 1) (shD (upd (μ (o + 1)) (83 + 9 * r1) (nI (m - 1))) r1 j (m - 1)) (o + 1) (83 + 9 * r1) = nI (m - 1) := by rw [Mx_same, shD_lo _ (by omega), upd_at]
      refine X_icmp_geN (tgt := 65) (tk_X10_unties.at 28 rfl) (by decide) (pl (m - 1) rfl) emm (by omega) (by omega) (fun c1 => ?_) (fun c1 => (by exfalso; omega))
      refine X_return (tk_X10_unties.at 41 rfl) rfl ?_
      have zz := hK r1 j hOn
      rw [← hm2] at zz
      exact zz
    | succ n ih =>
      intro i hi hji
      refine X_iload (tk_X10_unties.at 24 rfl) rfl ?_
      refine X_aload_n (tk_X10_unties.at 25 rfl) rfl ?_
      refine X_iload_n (tk_X10_unties.at 26 rfl) rfl ?_
      refine X_cV1i (lv2 := [(0, _), (1, _)]) (tk_X10_unties.at 27 rfl) mv_X10_many lk_x10_118 np_X10_many hM.f0 (by decide) rfl (Nat.le_of_ble_eq_true rfl) (Nat.le_of_ble_eq_true rfl) rfl (c10_many hM (pl r1 rfl) (by omega) ?_)
      have emm : Mx μ (o + 1) (shD (upd (μ (o + 1)) (83 + 9 * r1) (nI (m - 1))) r1 j i) (o + 1) (83 + 9 * r1) = nI (m - 1) := by rw [Mx_same, shD_lo _ (by omega), upd_at]
      refine X_icmp_geN (tgt := 65) (tk_X10_unties.at 28 rfl) (by decide) (pl i rfl) emm (by omega) (by omega) (fun c1 => (by exfalso; omega)) (fun c1 => ?_)
      refine X_aload_n (tk_X10_unties.at 29 rfl) rfl ?_
      refine X_iload_n (tk_X10_unties.at 30 rfl) rfl ?_
      refine X_iload (tk_X10_unties.at 31 rfl) rfl ?_
      refine X_aload_n (tk_X10_unties.at 32 rfl) rfl ?_
      refine X_iload_n (tk_X10_unties.at 33 rfl) rfl ?_
      refine X_iload (tk_X10_unties.at 34 rfl) rfl ?_
      refine X_iconst (tk_X10_unties.at 35 rfl) ci_1 ?_
      refine X_iadd (tk_X10_unties.at 36 rfl) ?_
      refine X_cV2i (lv2 := [(0, _), (1, _), (2, _)]) (tk_X10_unties.at 37 rfl) mv_X10_who lk_x10_121 np_X10_who hM.f0 (by decide) rfl (Nat.le_of_ble_eq_true rfl) (Nat.le_of_ble_eq_true rfl) rfl (c10_who hM (pl r1 rfl) (pa (pl i rfl) (pl 1 rfl)) (by omega) (by omega) ?_)
      refine X_cV3v (lv2 := [(0, _), (1, _), (2, _), (3, _)]) (tk_X10_unties.at 38 rfl) mv_X10_seats lk_x10_127 np_X10_seats hM.f0 (by decide) rfl (Nat.le_of_ble_eq_true rfl) (Nat.le_of_ble_eq_true rfl) rfl (c10_seats hM (pl r1 rfl) (pl i rfl) (by omega) (by omega) ?_)
      refine X_iinc (lv' := [(0, _), (1, _), (2, _), (3, _), (4, _)]) (tk_X10_unties.at 39 rfl) rfl ci_1 (by decide) rfl rfl ?_
      refine X_goto (tgt := 33) (tk_X10_unties.at 40 rfl) (by decide) ?_
      have e1 : Mx μ (o + 1) (shD (upd (μ (o + 1)) (83 + 9 * r1) (nI (m - 1))) r1 j i) (o + 1) (84 + 9 * r1 + (i + 1)) = upd (μ (o + 1)) (83 + 9 * r1) (nI (m - 1)) (84 + 9 * r1 + i + 1) := by
        rw [Mx_same, shD_hi _ (by omega)]; rfl
      skip
      rw [e1, su_Mx, shD_st _ hji, nI_1 i]
      exact ih (i + 1) (by omega) (by omega)
  have z := loop (m - 1 - j) j (by omega) (Nat.le_refl j)
  rw [shD_0] at z
  have e2 : su μ (o + 1) (83 + 9 * r1) (μ (o + 1) (83 + 9 * r1) - 1) = Mx μ (o + 1) (upd (μ (o + 1)) (83 + 9 * r1) (nI (m - 1))) := by rw [su_eq, hm, nI_m1 (by omega)]
  rw [e2]
  exact z
end
section
set_option maxHeartbeats 1000000 in
theorem c10_tie {G : Gl} {d : Nat} {S : Sh} {μ : Mu} {o : Nat} {q : Nat → Nat} {r p : Int32} {K : Int32 → Sh → Mu → Prop} (hM : MS S o q) (hw : WF (μ (o + 1))) (k1 : ¬ (In r (nv (μ (o + 1) 3)) ∧ In p (nv (μ (o + 1) 1))) → K (-1000000001) S (er μ o 1)) (k2 : ∀ a b, a < nv (μ (o + 1) 3) → b < nv (μ (o + 1) 1) → r = nI a → p = nI b → (∃ r i, On (μ (o + 1)) r i b) → K (-1000000003) S (er μ o 3)) (k3 : ∀ a b, a < nv (μ (o + 1) 3) → b < nv (μ (o + 1) 1) → r = nI a → p = nI b → (∀ r i, ¬ On (μ (o + 1)) r i b) → nv (μ (o + 1) (83 + 9 * a)) = 5 → K (-1000000004) S (er μ o 4))
  (k4 : ∀ a b, a < nv (μ (o + 1) 3) → b < nv (μ (o + 1) 1) → r = nI a → p = nI b → (∀ r i, ¬ On (μ (o + 1)) r i b) → nv (μ (o + 1) (83 + 9 * a)) < 5 → K (nI (nv (μ (o + 1) (83 + 9 * a)))) S (Mx μ (o + 1) (insN (μ (o + 1)) a (nv (μ (o + 1) (83 + 9 * a))) (nv (μ (o + 1) (83 + 9 * a))) p))) : X G mi_X10_tie (d + 3) 0 0 [(0, .ref o), (1, .int r), (2, .int p)] [] S μ (qi K) := by
  have w0 := hw.n0
  have w1 := hw.n1
  have w2 := hw.n2
  have w3 := hw.n3
  have w4 := hw.n4
  have w5 := hw.n5
  have w6 := hw.n6
  have b1 := w1.2
  have b2 := w2.2
  have b3 := w3.2
  have b4 := w4.2
  have b5 := w5.2
  have b6 := w6.2
  have b0 := w0.2
  refine X_aload_n (tk_X10_tie.at 0 rfl) rfl ?_
  refine X_iload_n (tk_X10_tie.at 1 rfl) rfl ?_
  refine X_iconst (tk_X10_tie.at 2 rfl) ci_3 ?_
  refine X_cV2i (lv2 := [(0, _), (1, _), (2, _)]) (tk_X10_tie.at 3 rfl) mv_X10_is lk_x10_90 np_X10_is hM.f0 (by decide) rfl (Nat.le_of_ble_eq_true rfl) (Nat.le_of_ble_eq_true rfl) rfl (c10_is hM (pl 3 rfl) (by decide) w3.1 (by omega) (fun j3 hj3 ej3 => ?_) (fun hj3 => ?_))
  · refine X_if_eq (tgt := 18) (tk_X10_tie.at 4 rfl) (by decide) (fun h => absurd h (by decide)) (fun _ => ?_)
    refine X_aload_n (tk_X10_tie.at 5 rfl) rfl ?_
    refine X_iload_n (tk_X10_tie.at 6 rfl) rfl ?_
    refine X_iconst (tk_X10_tie.at 7 rfl) ci_1 ?_
    refine X_cV2i (lv2 := [(0, _), (1, _), (2, _)]) (tk_X10_tie.at 8 rfl) mv_X10_is lk_x10_90 np_X10_is hM.f0 (by decide) rfl (Nat.le_of_ble_eq_true rfl) (Nat.le_of_ble_eq_true rfl) rfl (c10_is hM (pl 1 rfl) (by decide) w1.1 (by omega) (fun j12 hj12 ej12 => ?_) (fun hj12 => ?_))
    · refine X_if_ne (tgt := 25) (tk_X10_tie.at 9 rfl) (by decide) (fun _ => ?_) (fun h => absurd h (by decide))
      refine X_aload_n (tk_X10_tie.at 14 rfl) rfl ?_
      refine X_iload_n (tk_X10_tie.at 15 rfl) rfl ?_
      refine X_cV1i (lv2 := [(0, _), (1, _)]) (tk_X10_tie.at 16 rfl) mv_X10_ropeOf lk_x10_98 np_X10_ropeOf hM.f0 (by decide) rfl (Nat.le_of_ble_eq_true rfl) (Nat.le_of_ble_eq_true rfl) rfl (c10_ropeOf hM hw ej12 (fun r27 i27 h27 => ?_) (fun h27 => ?_))
      · have g27 := h27.1
        refine X_if_ltN (tgt := 40) (tk_X10_tie.at 17 rfl) (by decide) (pl r27 rfl) (by omega) ?_
        refine X_aload_n (tk_X10_tie.at 18 rfl) rfl ?_
        refine X_ldc (tk_X10_tie.at 19 rfl) kn_x10_131 ?_
        refine X_cV1i (lv2 := [(0, _), (1, _)]) (tk_X10_tie.at 20 rfl) mv_X10_finding lk_x10_82 np_X10_finding hM.f0 (by decide) rfl (Nat.le_of_ble_eq_true rfl) (Nat.le_of_ble_eq_true rfl) rfl (c10_finding (k := 3) hM (by decide) (by decide) ?_)
        refine X_ireturn (tk_X10_tie.at 21 rfl) rfl rfl ?_
        exact k2 j3 j12 hj3 hj12 ej3 ej12 ⟨r27, i27, h27⟩
      · refine X_if_lt (tgt := 40) (tk_X10_tie.at 17 rfl) (by decide) (fun _ => ?_) (fun h => absurd h (by decide))
        have wm := (hw.ro (p := j3) hj3).2.2.2.1
        have bm := wm.2
        refine X_aload_n (tk_X10_tie.at 22 rfl) rfl ?_
        refine X_iload_n (tk_X10_tie.at 23 rfl) rfl ?_
        refine X_cV1i (lv2 := [(0, _), (1, _)]) (tk_X10_tie.at 24 rfl) mv_X10_many lk_x10_118 np_X10_many hM.f0 (by decide) rfl (Nat.le_of_ble_eq_true rfl) (Nat.le_of_ble_eq_true rfl) rfl (c10_many hM ej3 (by omega) ?_)
        refine X_iconst (tk_X10_tie.at 25 rfl) ci_5 ?_
        refine X_icmp_neN (tgt := 56) (tk_X10_tie.at 26 rfl) (by decide) wm.1 (pl 5 rfl) (by omega) (by omega) (fun c5 => ?_) (fun c5 => ?_)
        · refine X_aload_n (tk_X10_tie.at 31 rfl) rfl ?_
          refine X_iload_n (tk_X10_tie.at 32 rfl) rfl ?_
          refine X_aload_n (tk_X10_tie.at 33 rfl) rfl ?_
          refine X_iload_n (tk_X10_tie.at 34 rfl) rfl ?_
          refine X_cV1i (lv2 := [(0, _), (1, _)]) (tk_X10_tie.at 35 rfl) mv_X10_many lk_x10_118 np_X10_many hM.f0 (by decide) rfl (Nat.le_of_ble_eq_true rfl) (Nat.le_of_ble_eq_true rfl) rfl (c10_many hM ej3 (by omega) ?_)
          refine X_iload_n (tk_X10_tie.at 36 rfl) rfl ?_
          refine X_cV3v (lv2 := [(0, _), (1, _), (2, _), (3, _)]) (tk_X10_tie.at 37 rfl) mv_X10_ties lk_x10_132 np_X10_ties hM.f0 (by decide) rfl (Nat.le_of_ble_eq_true rfl) (Nat.le_of_ble_eq_true rfl) rfl (c10_ties hM ej3 (by omega) wm.1 (by omega) wm.1 (Nat.le_refl _) ?_)
          refine X_aload_n (tk_X10_tie.at 38 rfl) rfl ?_
          refine X_iload_n (tk_X10_tie.at 39 rfl) rfl ?_
          refine X_cV1i (lv2 := [(0, _), (1, _)]) (tk_X10_tie.at 40 rfl) mv_X10_many lk_x10_118 np_X10_many hM.f0 (by decide) rfl (Nat.le_of_ble_eq_true rfl) (Nat.le_of_ble_eq_true rfl) rfl (c10_many hM ej3 (by omega) ?_)
          refine X_iconst (tk_X10_tie.at 41 rfl) ci_1 ?_
          refine X_isub (tk_X10_tie.at 42 rfl) ?_
          refine X_ireturn (tk_X10_tie.at 43 rfl) rfl rfl ?_
          have e : Mx μ (o + 1) (insN (μ (o + 1)) j3 (nv (μ (o + 1) (83 + 9 * j3))) (nv (μ (o + 1) (83 + 9 * j3))) p) (o + 1) (83 + 9 * j3) - 1 = nI (nv (μ (o + 1) (83 + 9 * j3))) := by rw [Mx_same, insN, upd_at]; exact nI_pred _
          rw [e]
          exact k4 j3 j12 hj3 hj12 ej3 ej12 h27 (by omega)
        · refine X_aload_n (tk_X10_tie.at 27 rfl) rfl ?_
          refine X_ldc (tk_X10_tie.at 28 rfl) kn_x10_86 ?_
          refine X_cV1i (lv2 := [(0, _), (1, _)]) (tk_X10_tie.at 29 rfl) mv_X10_finding lk_x10_82 np_X10_finding hM.f0 (by decide) rfl (Nat.le_of_ble_eq_true rfl) (Nat.le_of_ble_eq_true rfl) rfl (c10_finding (k := 4) hM (by decide) (by decide) ?_)
          refine X_ireturn (tk_X10_tie.at 30 rfl) rfl rfl ?_
          exact k3 j3 j12 hj3 hj12 ej3 ej12 h27 c5
    · refine X_if_ne (tgt := 25) (tk_X10_tie.at 9 rfl) (by decide) (fun h => absurd h (by decide)) (fun _ => ?_)
      refine X_aload_n (tk_X10_tie.at 10 rfl) rfl ?_
      refine X_ldc (tk_X10_tie.at 11 rfl) kn_x10_81 ?_
      refine X_cV1i (lv2 := [(0, _), (1, _)]) (tk_X10_tie.at 12 rfl) mv_X10_finding lk_x10_82 np_X10_finding hM.f0 (by decide) rfl (Nat.le_of_ble_eq_true rfl) (Nat.le_of_ble_eq_true rfl) rfl (c10_finding (k := 1) hM (by decide) (by decide) ?_)
      refine X_ireturn (tk_X10_tie.at 13 rfl) rfl rfl ?_
      exact k1 (fun g => by first | exact In_no (by omega) hj12 g.2 | exact In_no (by omega) hj3 g.1)
  · refine X_if_eq (tgt := 18) (tk_X10_tie.at 4 rfl) (by decide) (fun _ => ?_) (fun h => absurd h (by decide))
    refine X_aload_n (tk_X10_tie.at 10 rfl) rfl ?_
    refine X_ldc (tk_X10_tie.at 11 rfl) kn_x10_81 ?_
    refine X_cV1i (lv2 := [(0, _), (1, _)]) (tk_X10_tie.at 12 rfl) mv_X10_finding lk_x10_82 np_X10_finding hM.f0 (by decide) rfl (Nat.le_of_ble_eq_true rfl) (Nat.le_of_ble_eq_true rfl) rfl (c10_finding (k := 1) hM (by decide) (by decide) ?_)
    refine X_ireturn (tk_X10_tie.at 13 rfl) rfl rfl ?_
    exact k1 (fun g => by first | exact In_no (by omega) hj12 g.2 | exact In_no (by omega) hj3 g.1)
set_option maxHeartbeats 1000000 in
theorem c10_untie {G : Gl} {d : Nat} {S : Sh} {μ : Mu} {o : Nat} {q : Nat → Nat} {p : Int32} {K : Int32 → Sh → Mu → Prop} (hM : MS S o q) (hw : WF (μ (o + 1))) (k1 : ¬ In p (nv (μ (o + 1) 1)) → K (-1000000001) S (er μ o 1)) (k2 : ∀ b, b < nv (μ (o + 1) 1) → p = nI b → (∀ r i, ¬ On (μ (o + 1)) r i b) → K (-1000000002) S (er μ o 2)) (k3 : ∀ b r i, b < nv (μ (o + 1) 1) → p = nI b → On (μ (o + 1)) r i b → K (nI r) S (Mx μ (o + 1) (delN (μ (o + 1)) r (nv (μ (o + 1) (83 + 9 * r))) i))) : X G mi_X10_untie (d + 5) 0 0 [(0, .ref o), (1, .int p)] [] S μ (qi K) := by
  have w0 := hw.n0
  have w1 := hw.n1
  have w2 := hw.n2
  have w3 := hw.n3
  have w4 := hw.n4
  have w5 := hw.n5
  have w6 := hw.n6
  have b1 := w1.2
  have b2 := w2.2
  have b3 := w3.2
  have b4 := w4.2
  have b5 := w5.2
  have b6 := w6.2
  have b0 := w0.2
  refine X_aload_n (tk_X10_untie.at 0 rfl) rfl ?_
  refine X_iload_n (tk_X10_untie.at 1 rfl) rfl ?_
  refine X_iconst (tk_X10_untie.at 2 rfl) ci_1 ?_
  refine X_cV2i (lv2 := [(0, _), (1, _), (2, _)]) (tk_X10_untie.at 3 rfl) mv_X10_is lk_x10_90 np_X10_is hM.f0 (by decide) rfl (Nat.le_of_ble_eq_true rfl) (Nat.le_of_ble_eq_true rfl) rfl (c10_is hM (pl 1 rfl) (by decide) w1.1 (by omega) (fun j3 hj3 ej3 => ?_) (fun hj3 => ?_))
  · refine X_if_ne (tgt := 16) (tk_X10_untie.at 4 rfl) (by decide) (fun _ => ?_) (fun h => absurd h (by decide))
    refine X_aload_n (tk_X10_untie.at 9 rfl) rfl ?_
    refine X_iload_n (tk_X10_untie.at 10 rfl) rfl ?_
    refine X_cV1i (lv2 := [(0, _), (1, _)]) (tk_X10_untie.at 11 rfl) mv_X10_ropeOf lk_x10_98 np_X10_ropeOf hM.f0 (by decide) rfl (Nat.le_of_ble_eq_true rfl) (Nat.le_of_ble_eq_true rfl) rfl (c10_ropeOf hM hw ej3 (fun r18 i18 h18 => ?_) (fun h18 => ?_))
    · have g18 := h18.1
      refine X_istore_n (lv' := [(0, _), (1, _), (2, _)]) (tk_X10_untie.at 12 rfl) (by decide) rfl rfl ?_
      refine X_iload_n (tk_X10_untie.at 13 rfl) rfl ?_
      refine X_if_geN (tgt := 33) (tk_X10_untie.at 14 rfl) (by decide) (pl r18 rfl) (by omega) ?_
      refine X_aload_n (tk_X10_untie.at 19 rfl) rfl ?_
      refine X_iload_n (tk_X10_untie.at 20 rfl) rfl ?_
      refine X_cV1v (lv2 := [(0, _), (1, _)]) (tk_X10_untie.at 21 rfl) mv_X10_unties lk_x10_135 np_X10_unties hM.f0 (by decide) rfl (Nat.le_of_ble_eq_true rfl) (Nat.le_of_ble_eq_true rfl) rfl (c10_unties hM hw ej3 h18 (fun r35 i35 h35 => ?_))
      refine X_iload_n (tk_X10_untie.at 22 rfl) rfl ?_
      refine X_ireturn (tk_X10_untie.at 23 rfl) rfl rfl ?_
      obtain ⟨rfl, rfl⟩ := hw.un h35 h18
      exact k3 j3 r35 i35 hj3 ej3 h35
    · refine X_istore_n (lv' := [(0, _), (1, _), (2, _)]) (tk_X10_untie.at 12 rfl) (by decide) rfl rfl ?_
      refine X_iload_n (tk_X10_untie.at 13 rfl) rfl ?_
      refine X_if_ge (tgt := 33) (tk_X10_untie.at 14 rfl) (by decide) (fun h => absurd h (by decide)) (fun _ => ?_)
      refine X_aload_n (tk_X10_untie.at 15 rfl) rfl ?_
      refine X_ldc (tk_X10_untie.at 16 rfl) kn_x10_108 ?_
      refine X_cV1i (lv2 := [(0, _), (1, _)]) (tk_X10_untie.at 17 rfl) mv_X10_finding lk_x10_82 np_X10_finding hM.f0 (by decide) rfl (Nat.le_of_ble_eq_true rfl) (Nat.le_of_ble_eq_true rfl) rfl (c10_finding (k := 2) hM (by decide) (by decide) ?_)
      refine X_ireturn (tk_X10_untie.at 18 rfl) rfl rfl ?_
      exact k2 j3 hj3 ej3 h18
  · refine X_if_ne (tgt := 16) (tk_X10_untie.at 4 rfl) (by decide) (fun h => absurd h (by decide)) (fun _ => ?_)
    refine X_aload_n (tk_X10_untie.at 5 rfl) rfl ?_
    refine X_ldc (tk_X10_untie.at 6 rfl) kn_x10_81 ?_
    refine X_cV1i (lv2 := [(0, _), (1, _)]) (tk_X10_untie.at 7 rfl) mv_X10_finding lk_x10_82 np_X10_finding hM.f0 (by decide) rfl (Nat.le_of_ble_eq_true rfl) (Nat.le_of_ble_eq_true rfl) rfl (c10_finding (k := 1) hM (by decide) (by decide) ?_)
    refine X_ireturn (tk_X10_untie.at 8 rfl) rfl rfl ?_
    exact k1 (In_no (by omega) hj3)
set_option maxHeartbeats 1000000 in
theorem c10_ofRope {G : Gl} {d : Nat} {S : Sh} {μ : Mu} {o : Nat} {q : Nat → Nat} {r w : Int32} {K : Int32 → Sh → Mu → Prop} (hM : MS S o q) (hw : WF (μ (o + 1))) (k1 : ¬ (In r (nv (μ (o + 1) 3)) ∧ (0 ≤ w ∧ w ≤ 9)) → K (-1000000001) S (er μ o 1)) (k2 : ∀ a f, a < nv (μ (o + 1) 3) → f < 4 → r = nI a → w = nI f → K (μ (o + 1) (80 + 9 * a + f)) S μ) (k3 : ∀ a k, a < nv (μ (o + 1) 3) → k < nv (μ (o + 1) 4) → r = nI a → w = nI 4 → μ (o + 1) (134 + k) = nI a → K (nI k) S μ) (k4 : ∀ a, a < nv (μ (o + 1) 3) → r = nI a → w = nI 4 → (∀ k, k < nv (μ (o + 1) 4) → ¬ μ (o + 1) (134 + k) = nI a) → K (-1) S μ)
  (k5 : ∀ a i, a < nv (μ (o + 1) 3) → i < 5 → r = nI a → w = nI (5 + i) → i < nv (μ (o + 1) (83 + 9 * a)) → K (μ (o + 1) (84 + 9 * a + i)) S μ) (k6 : ∀ a i, a < nv (μ (o + 1) 3) → i < 5 → r = nI a → w = nI (5 + i) → nv (μ (o + 1) (83 + 9 * a)) ≤ i → K (-1) S μ) : X G mi_X10_ofRope (d + 2) 0 0 [(0, .ref o), (1, .int r), (2, .int w)] [] S μ (qi K) := by
  have w0 := hw.n0
  have w1 := hw.n1
  have w2 := hw.n2
  have w3 := hw.n3
  have w4 := hw.n4
  have w5 := hw.n5
  have w6 := hw.n6
  have b1 := w1.2
  have b2 := w2.2
  have b3 := w3.2
  have b4 := w4.2
  have b5 := w5.2
  have b6 := w6.2
  have b0 := w0.2
  refine X_aload_n (tk_X10_ofRope.at 0 rfl) rfl ?_
  refine X_iload_n (tk_X10_ofRope.at 1 rfl) rfl ?_
  refine X_iconst (tk_X10_ofRope.at 2 rfl) ci_3 ?_
  refine X_cV2i (lv2 := [(0, _), (1, _), (2, _)]) (tk_X10_ofRope.at 3 rfl) mv_X10_is lk_x10_90 np_X10_is hM.f0 (by decide) rfl (Nat.le_of_ble_eq_true rfl) (Nat.le_of_ble_eq_true rfl) rfl (c10_is hM (pl 3 rfl) (by decide) w3.1 (by omega) (fun j3 hj3 ej3 => ?_) (fun hj3 => ?_))
  · refine X_if_eq (tgt := 19) (tk_X10_ofRope.at 4 rfl) (by decide) (fun h => absurd h (by decide)) (fun _ => ?_)
    refine X_iload_n (tk_X10_ofRope.at 5 rfl) rfl ?_
    refine X_iconst (tk_X10_ofRope.at 6 rfl) ci_0 ?_
    refine X_bipush (tk_X10_ofRope.at 7 rfl) cb_9 ?_
    refine X_cS3i (lv2 := [(0, _), (1, _), (2, _)]) (tk_X10_ofRope.at 8 rfl) ms_X10_within lk_x10_69 np_X10_within (Nat.le_of_ble_eq_true rfl) (Nat.le_of_ble_eq_true rfl) rfl (c10_within (fun h13 h1013 => ?_) (fun h13 => ?_))
    · obtain ⟨ew13, lw13, bw13⟩ := le_lits (a := 0) (b := 9) (by decide) h13 h1013 (by decide)
      refine X_if_ne (tgt := 26) (tk_X10_ofRope.at 9 rfl) (by decide) (fun _ => ?_) (fun h => absurd h (by decide))
      refine X_iload_n (tk_X10_ofRope.at 14 rfl) rfl ?_
      refine X_iconst (tk_X10_ofRope.at 15 rfl) ci_4 ?_
      refine X_icmp_geN (tgt := 38) (tk_X10_ofRope.at 16 rfl) (by decide) ew13 (pl 4 rfl) (by omega) (by omega) (fun c3 => ?_) (fun c3 => ?_)
      · refine X_iload_n (tk_X10_ofRope.at 22 rfl) rfl ?_
        refine X_iconst (tk_X10_ofRope.at 23 rfl) ci_4 ?_
        refine X_icmp_neN (tgt := 51) (tk_X10_ofRope.at 24 rfl) (by decide) ew13 (pl 4 rfl) (by omega) (by omega) (fun c4 => ?_) (fun c4 => ?_)
        · have wm := (hw.ro (p := j3) hj3).2.2.2.1
          have bm := wm.2
          refine X_iload_n (tk_X10_ofRope.at 29 rfl) rfl ?_
          refine X_iconst (tk_X10_ofRope.at 30 rfl) ci_5 ?_
          refine X_isub (tk_X10_ofRope.at 31 rfl) ?_
          refine X_aload_n (tk_X10_ofRope.at 32 rfl) rfl ?_
          refine X_iload_n (tk_X10_ofRope.at 33 rfl) rfl ?_
          refine X_cV1i (lv2 := [(0, _), (1, _)]) (tk_X10_ofRope.at 34 rfl) mv_X10_many lk_x10_118 np_X10_many hM.f0 (by decide) rfl (Nat.le_of_ble_eq_true rfl) (Nat.le_of_ble_eq_true rfl) rfl (c10_many hM ej3 (by omega) ?_)
          refine X_icmp_geN (tgt := 73) (tk_X10_ofRope.at 35 rfl) (by decide) (ps ew13 (pl 5 rfl) (by omega)) wm.1 (by omega) (by omega) (fun c5 => ?_) (fun c5 => ?_)
          · refine X_iconst (tk_X10_ofRope.at 43 rfl) ci_m1 ?_
            refine X_ireturn (tk_X10_ofRope.at 44 rfl) rfl rfl ?_
            exact k6 j3 (nv w - 5) hj3 (by omega) ej3 (pz ew13 (by omega)) (by omega)
          · refine X_aload_n (tk_X10_ofRope.at 36 rfl) rfl ?_
            refine X_iload_n (tk_X10_ofRope.at 37 rfl) rfl ?_
            refine X_iload_n (tk_X10_ofRope.at 38 rfl) rfl ?_
            refine X_iconst (tk_X10_ofRope.at 39 rfl) ci_5 ?_
            refine X_isub (tk_X10_ofRope.at 40 rfl) ?_
            refine X_cV2i (lv2 := [(0, _), (1, _), (2, _)]) (tk_X10_ofRope.at 41 rfl) mv_X10_who lk_x10_121 np_X10_who hM.f0 (by decide) rfl (Nat.le_of_ble_eq_true rfl) (Nat.le_of_ble_eq_true rfl) rfl (c10_who hM ej3 (ps ew13 (pl 5 rfl) (by omega)) (by omega) (by omega) ?_)
            refine X_goto (tgt := 74) (tk_X10_ofRope.at 42 rfl) (by decide) ?_
            refine X_ireturn (tk_X10_ofRope.at 44 rfl) rfl rfl ?_
            exact k5 j3 (nv w - 5) hj3 (by omega) ej3 (pz ew13 (by omega)) (by omega)
        · refine X_aload_n (tk_X10_ofRope.at 25 rfl) rfl ?_
          refine X_iload_n (tk_X10_ofRope.at 26 rfl) rfl ?_
          refine X_cV1i (lv2 := [(0, _), (1, _)]) (tk_X10_ofRope.at 27 rfl) mv_X10_inLine lk_x10_139 np_X10_inLine hM.f0 (by decide) rfl (Nat.le_of_ble_eq_true rfl) (Nat.le_of_ble_eq_true rfl) rfl (c10_inLine hM hw (fun k45 hk45 h45 => ?_) (fun h45 => ?_))
          · refine X_goto (tgt := 74) (tk_X10_ofRope.at 28 rfl) (by decide) ?_
            refine X_ireturn (tk_X10_ofRope.at 44 rfl) rfl rfl ?_
            exact k3 j3 k45 hj3 hk45 ej3 (pz ew13 c4) (by rw [← ej3]; exact h45)
          · refine X_goto (tgt := 74) (tk_X10_ofRope.at 28 rfl) (by decide) ?_
            refine X_ireturn (tk_X10_ofRope.at 44 rfl) rfl rfl ?_
            exact k4 j3 hj3 ej3 (pz ew13 c4) (fun k hk z => h45 k hk (by rw [ej3]; exact z))
      · refine X_aload_n (tk_X10_ofRope.at 17 rfl) rfl ?_
        refine X_iload_n (tk_X10_ofRope.at 18 rfl) rfl ?_
        refine X_iload_n (tk_X10_ofRope.at 19 rfl) rfl ?_
        refine X_cV2i (lv2 := [(0, _), (1, _), (2, _)]) (tk_X10_ofRope.at 20 rfl) mv_X10_rope lk_x10_115 np_X10_rope hM.f0 (by decide) rfl (Nat.le_of_ble_eq_true rfl) (Nat.le_of_ble_eq_true rfl) rfl (c10_rope (k := 80 + 9 * j3 + (nv w)) hM ej3 ew13 (by omega) (by omega) (by omega) ?_)
        refine X_ireturn (tk_X10_ofRope.at 21 rfl) rfl rfl ?_
        exact k2 j3 (nv w) hj3 (by omega) ej3 ew13
    · refine X_if_ne (tgt := 26) (tk_X10_ofRope.at 9 rfl) (by decide) (fun h => absurd h (by decide)) (fun _ => ?_)
      refine X_aload_n (tk_X10_ofRope.at 10 rfl) rfl ?_
      refine X_ldc (tk_X10_ofRope.at 11 rfl) kn_x10_81 ?_
      refine X_cV1i (lv2 := [(0, _), (1, _)]) (tk_X10_ofRope.at 12 rfl) mv_X10_finding lk_x10_82 np_X10_finding hM.f0 (by decide) rfl (Nat.le_of_ble_eq_true rfl) (Nat.le_of_ble_eq_true rfl) rfl (c10_finding (k := 1) hM (by decide) (by decide) ?_)
      refine X_ireturn (tk_X10_ofRope.at 13 rfl) rfl rfl ?_
      exact k1 (fun g => by first | exact h13 g.2 | exact In_no (by omega) hj3 g.1)
  · refine X_if_eq (tgt := 19) (tk_X10_ofRope.at 4 rfl) (by decide) (fun _ => ?_) (fun h => absurd h (by decide))
    refine X_aload_n (tk_X10_ofRope.at 10 rfl) rfl ?_
    refine X_ldc (tk_X10_ofRope.at 11 rfl) kn_x10_81 ?_
    refine X_cV1i (lv2 := [(0, _), (1, _)]) (tk_X10_ofRope.at 12 rfl) mv_X10_finding lk_x10_82 np_X10_finding hM.f0 (by decide) rfl (Nat.le_of_ble_eq_true rfl) (Nat.le_of_ble_eq_true rfl) rfl (c10_finding (k := 1) hM (by decide) (by decide) ?_)
    refine X_ireturn (tk_X10_ofRope.at 13 rfl) rfl rfl ?_
    exact k1 (fun g => by first | exact h13 g.2 | exact In_no (by omega) hj3 g.1)
set_option maxHeartbeats 1000000 in
theorem c10_ofPerson {G : Gl} {d : Nat} {S : Sh} {μ : Mu} {o : Nat} {q : Nat → Nat} {p w : Int32} {K : Int32 → Sh → Mu → Prop} (hM : MS S o q) (hw : WF (μ (o + 1))) (k1 : ¬ (In p (nv (μ (o + 1) 1)) ∧ (0 ≤ w ∧ w ≤ 5)) → K (-1000000001) S (er μ o 1)) (k2 : ∀ a f, a < nv (μ (o + 1) 1) → f < 4 → p = nI a → w = nI f → K (μ (o + 1) (8 + 4 * a + f)) S μ) (k3 : ∀ a r i, a < nv (μ (o + 1) 1) → p = nI a → w = nI 4 → On (μ (o + 1)) r i a → K (nI r) S μ) (k4 : ∀ a, a < nv (μ (o + 1) 1) → p = nI a → w = nI 4 → (∀ r i, ¬ On (μ (o + 1)) r i a) → K (-1) S μ)
  (k5 : ∀ a r i, a < nv (μ (o + 1) 1) → p = nI a → w = nI 5 → On (μ (o + 1)) r i a → K (nI i) S μ) (k6 : ∀ a, a < nv (μ (o + 1) 1) → p = nI a → w = nI 5 → (∀ r i, ¬ On (μ (o + 1)) r i a) → K (-1) S μ) : X G mi_X10_ofPerson (d + 4) 0 0 [(0, .ref o), (1, .int p), (2, .int w)] [] S μ (qi K) := by
  have w0 := hw.n0
  have w1 := hw.n1
  have w2 := hw.n2
  have w3 := hw.n3
  have w4 := hw.n4
  have w5 := hw.n5
  have w6 := hw.n6
  have b1 := w1.2
  have b2 := w2.2
  have b3 := w3.2
  have b4 := w4.2
  have b5 := w5.2
  have b6 := w6.2
  have b0 := w0.2
  refine X_aload_n (tk_X10_ofPerson.at 0 rfl) rfl ?_
  refine X_iload_n (tk_X10_ofPerson.at 1 rfl) rfl ?_
  refine X_iconst (tk_X10_ofPerson.at 2 rfl) ci_1 ?_
  refine X_cV2i (lv2 := [(0, _), (1, _), (2, _)]) (tk_X10_ofPerson.at 3 rfl) mv_X10_is lk_x10_90 np_X10_is hM.f0 (by decide) rfl (Nat.le_of_ble_eq_true rfl) (Nat.le_of_ble_eq_true rfl) rfl (c10_is hM (pl 1 rfl) (by decide) w1.1 (by omega) (fun j3 hj3 ej3 => ?_) (fun hj3 => ?_))
  · refine X_if_eq (tgt := 18) (tk_X10_ofPerson.at 4 rfl) (by decide) (fun h => absurd h (by decide)) (fun _ => ?_)
    refine X_iload_n (tk_X10_ofPerson.at 5 rfl) rfl ?_
    refine X_iconst (tk_X10_ofPerson.at 6 rfl) ci_0 ?_
    refine X_iconst (tk_X10_ofPerson.at 7 rfl) ci_5 ?_
    refine X_cS3i (lv2 := [(0, _), (1, _), (2, _)]) (tk_X10_ofPerson.at 8 rfl) ms_X10_within lk_x10_69 np_X10_within (Nat.le_of_ble_eq_true rfl) (Nat.le_of_ble_eq_true rfl) rfl (c10_within (fun h12 h1012 => ?_) (fun h12 => ?_))
    · obtain ⟨ew12, lw12, bw12⟩ := le_lits (a := 0) (b := 5) (by decide) h12 h1012 (by decide)
      refine X_if_ne (tgt := 25) (tk_X10_ofPerson.at 9 rfl) (by decide) (fun _ => ?_) (fun h => absurd h (by decide))
      refine X_iload_n (tk_X10_ofPerson.at 14 rfl) rfl ?_
      refine X_iconst (tk_X10_ofPerson.at 15 rfl) ci_4 ?_
      refine X_icmp_geN (tgt := 39) (tk_X10_ofPerson.at 16 rfl) (by decide) ew12 (pl 4 rfl) (by omega) (by omega) (fun c3 => ?_) (fun c3 => ?_)
      · refine X_iload_n (tk_X10_ofPerson.at 22 rfl) rfl ?_
        refine X_iconst (tk_X10_ofPerson.at 23 rfl) ci_4 ?_
        refine X_icmp_neN (tgt := 52) (tk_X10_ofPerson.at 24 rfl) (by decide) ew12 (pl 4 rfl) (by omega) (by omega) (fun c4 => ?_) (fun c4 => ?_)
        · refine X_aload_n (tk_X10_ofPerson.at 29 rfl) rfl ?_
          refine X_iload_n (tk_X10_ofPerson.at 30 rfl) rfl ?_
          refine X_cV1i (lv2 := [(0, _), (1, _)]) (tk_X10_ofPerson.at 31 rfl) mv_X10_placeOf lk_x10_101 np_X10_placeOf hM.f0 (by decide) rfl (Nat.le_of_ble_eq_true rfl) (Nat.le_of_ble_eq_true rfl) rfl (c10_placeOf hM hw ej3 (fun r54 i54 h54 => ?_) (fun h54 => ?_))
          · refine X_ireturn (tk_X10_ofPerson.at 32 rfl) rfl rfl ?_
            exact k5 j3 r54 i54 hj3 ej3 (pz ew12 (by omega)) h54
          · refine X_ireturn (tk_X10_ofPerson.at 32 rfl) rfl rfl ?_
            exact k6 j3 hj3 ej3 (pz ew12 (by omega)) h54
        · refine X_aload_n (tk_X10_ofPerson.at 25 rfl) rfl ?_
          refine X_iload_n (tk_X10_ofPerson.at 26 rfl) rfl ?_
          refine X_cV1i (lv2 := [(0, _), (1, _)]) (tk_X10_ofPerson.at 27 rfl) mv_X10_ropeOf lk_x10_98 np_X10_ropeOf hM.f0 (by decide) rfl (Nat.le_of_ble_eq_true rfl) (Nat.le_of_ble_eq_true rfl) rfl (c10_ropeOf hM hw ej3 (fun r46 i46 h46 => ?_) (fun h46 => ?_))
          · have g46 := h46.1
            refine X_goto (tgt := 57) (tk_X10_ofPerson.at 28 rfl) (by decide) ?_
            refine X_ireturn (tk_X10_ofPerson.at 32 rfl) rfl rfl ?_
            exact k3 j3 r46 i46 hj3 ej3 (pz ew12 c4) h46
          · refine X_goto (tgt := 57) (tk_X10_ofPerson.at 28 rfl) (by decide) ?_
            refine X_ireturn (tk_X10_ofPerson.at 32 rfl) rfl rfl ?_
            exact k4 j3 hj3 ej3 (pz ew12 c4) h46
      · refine X_aload_n (tk_X10_ofPerson.at 17 rfl) rfl ?_
        refine X_iload_n (tk_X10_ofPerson.at 18 rfl) rfl ?_
        refine X_iload_n (tk_X10_ofPerson.at 19 rfl) rfl ?_
        refine X_cV2i (lv2 := [(0, _), (1, _), (2, _)]) (tk_X10_ofPerson.at 20 rfl) mv_X10_of lk_x10_94 np_X10_of hM.f0 (by decide) rfl (Nat.le_of_ble_eq_true rfl) (Nat.le_of_ble_eq_true rfl) rfl (c10_of (k := 8 + 4 * j3 + (nv w)) hM ej3 ew12 (by omega) (by omega) (by omega) ?_)
        refine X_goto (tgt := 57) (tk_X10_ofPerson.at 21 rfl) (by decide) ?_
        refine X_ireturn (tk_X10_ofPerson.at 32 rfl) rfl rfl ?_
        exact k2 j3 (nv w) hj3 (by omega) ej3 ew12
    · refine X_if_ne (tgt := 25) (tk_X10_ofPerson.at 9 rfl) (by decide) (fun h => absurd h (by decide)) (fun _ => ?_)
      refine X_aload_n (tk_X10_ofPerson.at 10 rfl) rfl ?_
      refine X_ldc (tk_X10_ofPerson.at 11 rfl) kn_x10_81 ?_
      refine X_cV1i (lv2 := [(0, _), (1, _)]) (tk_X10_ofPerson.at 12 rfl) mv_X10_finding lk_x10_82 np_X10_finding hM.f0 (by decide) rfl (Nat.le_of_ble_eq_true rfl) (Nat.le_of_ble_eq_true rfl) rfl (c10_finding (k := 1) hM (by decide) (by decide) ?_)
      refine X_ireturn (tk_X10_ofPerson.at 13 rfl) rfl rfl ?_
      exact k1 (fun g => by first | exact h12 g.2 | exact In_no (by omega) hj3 g.1)
  · refine X_if_eq (tgt := 18) (tk_X10_ofPerson.at 4 rfl) (by decide) (fun _ => ?_) (fun h => absurd h (by decide))
    refine X_aload_n (tk_X10_ofPerson.at 10 rfl) rfl ?_
    refine X_ldc (tk_X10_ofPerson.at 11 rfl) kn_x10_81 ?_
    refine X_cV1i (lv2 := [(0, _), (1, _)]) (tk_X10_ofPerson.at 12 rfl) mv_X10_finding lk_x10_82 np_X10_finding hM.f0 (by decide) rfl (Nat.le_of_ble_eq_true rfl) (Nat.le_of_ble_eq_true rfl) rfl (c10_finding (k := 1) hM (by decide) (by decide) ?_)
    refine X_ireturn (tk_X10_ofPerson.at 13 rfl) rfl rfl ?_
    exact k1 (fun g => by first | exact h12 g.2 | exact In_no (by omega) hj3 g.1)
set_option maxHeartbeats 1000000 in
theorem c10_swap {G : Gl} {d : Nat} {S : Sh} {μ : Mu} {o : Nat} {q : Nat → Nat} {a b : Int32} {K : Int32 → Sh → Mu → Prop} (hM : MS S o q) (hw : WF (μ (o + 1))) (k1 : ¬ (In a (nv (μ (o + 1) 1)) ∧ In b (nv (μ (o + 1) 1)) ∧ ¬ a = b) → K (-1000000001) S (er μ o 1)) (k2 : ∀ x y, x < nv (μ (o + 1) 1) → y < nv (μ (o + 1) 1) → a = nI x → b = nI y → ¬ x = y → ((∀ r i, ¬ On (μ (o + 1)) r i x) ∨ (∀ r i, ¬ On (μ (o + 1)) r i y)) → K (-1000000002) S (er μ o 2))
  (k3 : ∀ x y r i r' i', x < nv (μ (o + 1) 1) → y < nv (μ (o + 1) 1) → a = nI x → b = nI y → ¬ x = y → On (μ (o + 1)) r i x → On (μ (o + 1)) r' i' y → K 1 S (Mx μ (o + 1) (upd (upd (μ (o + 1)) (84 + 9 * r + i) b) (84 + 9 * r' + i') a))) : X G mi_X10_swap (d + 4) 0 0 [(0, .ref o), (1, .int a), (2, .int b)] [] S μ (qi K) := by
  have w0 := hw.n0
  have w1 := hw.n1
  have w2 := hw.n2
  have w3 := hw.n3
  have w4 := hw.n4
  have w5 := hw.n5
  have w6 := hw.n6
  have b1 := w1.2
  have b2 := w2.2
  have b3 := w3.2
  have b4 := w4.2
  have b5 := w5.2
  have b6 := w6.2
  have b0 := w0.2
  refine X_aload_n (tk_X10_swap.at 0 rfl) rfl ?_
  refine X_iload_n (tk_X10_swap.at 1 rfl) rfl ?_
  refine X_iconst (tk_X10_swap.at 2 rfl) ci_1 ?_
  refine X_cV2i (lv2 := [(0, _), (1, _), (2, _)]) (tk_X10_swap.at 3 rfl) mv_X10_is lk_x10_90 np_X10_is hM.f0 (by decide) rfl (Nat.le_of_ble_eq_true rfl) (Nat.le_of_ble_eq_true rfl) rfl (c10_is hM (pl 1 rfl) (by decide) w1.1 (by omega) (fun j3 hj3 ej3 => ?_) (fun hj3 => ?_))
  · refine X_if_eq (tgt := 23) (tk_X10_swap.at 4 rfl) (by decide) (fun h => absurd h (by decide)) (fun _ => ?_)
    refine X_aload_n (tk_X10_swap.at 5 rfl) rfl ?_
    refine X_iload_n (tk_X10_swap.at 6 rfl) rfl ?_
    refine X_iconst (tk_X10_swap.at 7 rfl) ci_1 ?_
    refine X_cV2i (lv2 := [(0, _), (1, _), (2, _)]) (tk_X10_swap.at 8 rfl) mv_X10_is lk_x10_90 np_X10_is hM.f0 (by decide) rfl (Nat.le_of_ble_eq_true rfl) (Nat.le_of_ble_eq_true rfl) rfl (c10_is hM (pl 1 rfl) (by decide) w1.1 (by omega) (fun j12 hj12 ej12 => ?_) (fun hj12 => ?_))
    · refine X_if_eq (tgt := 23) (tk_X10_swap.at 9 rfl) (by decide) (fun h => absurd h (by decide)) (fun _ => ?_)
      refine X_iload_n (tk_X10_swap.at 10 rfl) rfl ?_
      refine X_iload_n (tk_X10_swap.at 11 rfl) rfl ?_
      refine X_icmp_neN (tgt := 30) (tk_X10_swap.at 12 rfl) (by decide) ej3 ej12 (by omega) (by omega) (fun c3 => ?_) (fun c3 => ?_)
      · refine X_aload_n (tk_X10_swap.at 17 rfl) rfl ?_
        refine X_iload_n (tk_X10_swap.at 18 rfl) rfl ?_
        refine X_cV1i (lv2 := [(0, _), (1, _)]) (tk_X10_swap.at 19 rfl) mv_X10_ropeOf lk_x10_98 np_X10_ropeOf hM.f0 (by decide) rfl (Nat.le_of_ble_eq_true rfl) (Nat.le_of_ble_eq_true rfl) rfl (c10_ropeOf hM hw ej3 (fun r32 i32 h32 => ?_) (fun h32 => ?_))
        · have g32 := h32.1
          refine X_istore_n (lv' := [(0, _), (1, _), (2, _), (3, _)]) (tk_X10_swap.at 20 rfl) (by decide) rfl rfl ?_
          refine X_aload_n (tk_X10_swap.at 21 rfl) rfl ?_
          refine X_iload_n (tk_X10_swap.at 22 rfl) rfl ?_
          refine X_cV1i (lv2 := [(0, _), (1, _)]) (tk_X10_swap.at 23 rfl) mv_X10_ropeOf lk_x10_98 np_X10_ropeOf hM.f0 (by decide) rfl (Nat.le_of_ble_eq_true rfl) (Nat.le_of_ble_eq_true rfl) rfl (c10_ropeOf hM hw ej12 (fun r38 i38 h38 => ?_) (fun h38 => ?_))
          · have g38 := h38.1
            refine X_istore (lv' := [(0, _), (1, _), (2, _), (3, _), (4, _)]) (tk_X10_swap.at 24 rfl) (by decide) rfl rfl ?_
            refine X_iload_n (tk_X10_swap.at 25 rfl) rfl ?_
            refine X_if_ltN (tgt := 52) (tk_X10_swap.at 26 rfl) (by decide) (pl r32 rfl) (by omega) ?_
            refine X_iload (tk_X10_swap.at 27 rfl) rfl ?_
            refine X_if_geN (tgt := 59) (tk_X10_swap.at 28 rfl) (by decide) (pl r38 rfl) (by omega) ?_
            refine X_aload_n (tk_X10_swap.at 33 rfl) rfl ?_
            refine X_iload_n (tk_X10_swap.at 34 rfl) rfl ?_
            refine X_cV1i (lv2 := [(0, _), (1, _)]) (tk_X10_swap.at 35 rfl) mv_X10_placeOf lk_x10_101 np_X10_placeOf hM.f0 (by decide) rfl (Nat.le_of_ble_eq_true rfl) (Nat.le_of_ble_eq_true rfl) rfl (c10_placeOf hM hw ej3 (fun r61 i61 h61 => ?_) (fun h61 => absurd h32 (h61 _ _)))
            refine X_istore (lv' := [(0, _), (1, _), (2, _), (3, _), (4, _), (5, _)]) (tk_X10_swap.at 36 rfl) (by decide) rfl rfl ?_
            refine X_aload_n (tk_X10_swap.at 37 rfl) rfl ?_
            refine X_iload_n (tk_X10_swap.at 38 rfl) rfl ?_
            refine X_cV1i (lv2 := [(0, _), (1, _)]) (tk_X10_swap.at 39 rfl) mv_X10_placeOf lk_x10_101 np_X10_placeOf hM.f0 (by decide) rfl (Nat.le_of_ble_eq_true rfl) (Nat.le_of_ble_eq_true rfl) rfl (c10_placeOf hM hw ej12 (fun r68 i68 h68 => ?_) (fun h68 => absurd h38 (h68 _ _)))
            refine X_istore (lv' := [(0, _), (1, _), (2, _), (3, _), (4, _), (5, _), (6, _)]) (tk_X10_swap.at 40 rfl) (by decide) rfl rfl ?_
            have g3 := hw.ro (p := r32) h32.1
            have g4 := hw.ro (p := r38) h38.1
            have b7 := g3.2.2.2.1.2
            have b8 := g4.2.2.2.1.2
            have b9 := h61.2.1
            have bb := h68.2.1
            have e61 := (hw.un h61 h32).1
            have e68 := (hw.un h68 h38).1
            rw [e61] at b9
            rw [e68] at bb
            refine X_aload_n (tk_X10_swap.at 41 rfl) rfl ?_
            refine X_iload_n (tk_X10_swap.at 42 rfl) rfl ?_
            refine X_iload (tk_X10_swap.at 43 rfl) rfl ?_
            refine X_iload_n (tk_X10_swap.at 44 rfl) rfl ?_
            refine X_cV3v (lv2 := [(0, _), (1, _), (2, _), (3, _)]) (tk_X10_swap.at 45 rfl) mv_X10_seats lk_x10_127 np_X10_seats hM.f0 (by decide) rfl (Nat.le_of_ble_eq_true rfl) (Nat.le_of_ble_eq_true rfl) rfl (c10_seats hM (pl r32 rfl) (pl i61 rfl) (by omega) (by omega) ?_)
            refine X_aload_n (tk_X10_swap.at 46 rfl) rfl ?_
            refine X_iload (tk_X10_swap.at 47 rfl) rfl ?_
            refine X_iload (tk_X10_swap.at 48 rfl) rfl ?_
            refine X_iload_n (tk_X10_swap.at 49 rfl) rfl ?_
            refine X_cV3v (lv2 := [(0, _), (1, _), (2, _), (3, _)]) (tk_X10_swap.at 50 rfl) mv_X10_seats lk_x10_127 np_X10_seats hM.f0 (by decide) rfl (Nat.le_of_ble_eq_true rfl) (Nat.le_of_ble_eq_true rfl) rfl (c10_seats hM (pl r38 rfl) (pl i68 rfl) (by omega) (by omega) ?_)
            refine X_iconst (tk_X10_swap.at 51 rfl) ci_1 ?_
            refine X_ireturn (tk_X10_swap.at 52 rfl) rfl rfl ?_
            obtain ⟨rfl, rfl⟩ := hw.un h61 h32
            obtain ⟨rfl, rfl⟩ := hw.un h68 h38
            simp only [su_eq, Mx_same, Mx_Mx]
            exact k3 j3 j12 r61 i61 r68 i68 hj3 hj12 ej3 ej12 c3 h61 h68
          · refine X_istore (lv' := [(0, _), (1, _), (2, _), (3, _), (4, _)]) (tk_X10_swap.at 24 rfl) (by decide) rfl rfl ?_
            refine X_iload_n (tk_X10_swap.at 25 rfl) rfl ?_
            refine X_if_ltN (tgt := 52) (tk_X10_swap.at 26 rfl) (by decide) (pl r32 rfl) (by omega) ?_
            refine X_iload (tk_X10_swap.at 27 rfl) rfl ?_
            refine X_if_ge (tgt := 59) (tk_X10_swap.at 28 rfl) (by decide) (fun h => absurd h (by decide)) (fun _ => ?_)
            refine X_aload_n (tk_X10_swap.at 29 rfl) rfl ?_
            refine X_ldc (tk_X10_swap.at 30 rfl) kn_x10_108 ?_
            refine X_cV1i (lv2 := [(0, _), (1, _)]) (tk_X10_swap.at 31 rfl) mv_X10_finding lk_x10_82 np_X10_finding hM.f0 (by decide) rfl (Nat.le_of_ble_eq_true rfl) (Nat.le_of_ble_eq_true rfl) rfl (c10_finding (k := 2) hM (by decide) (by decide) ?_)
            refine X_ireturn (tk_X10_swap.at 32 rfl) rfl rfl ?_
            exact k2 j3 j12 hj3 hj12 ej3 ej12 c3 (by first | exact Or.inl h32 | exact Or.inr h38)
        · refine X_istore_n (lv' := [(0, _), (1, _), (2, _), (3, _)]) (tk_X10_swap.at 20 rfl) (by decide) rfl rfl ?_
          refine X_aload_n (tk_X10_swap.at 21 rfl) rfl ?_
          refine X_iload_n (tk_X10_swap.at 22 rfl) rfl ?_
          refine X_cV1i (lv2 := [(0, _), (1, _)]) (tk_X10_swap.at 23 rfl) mv_X10_ropeOf lk_x10_98 np_X10_ropeOf hM.f0 (by decide) rfl (Nat.le_of_ble_eq_true rfl) (Nat.le_of_ble_eq_true rfl) rfl (c10_ropeOf hM hw ej12 (fun r38 i38 h38 => ?_) (fun h38 => ?_))
          · have g38 := h38.1
            refine X_istore (lv' := [(0, _), (1, _), (2, _), (3, _), (4, _)]) (tk_X10_swap.at 24 rfl) (by decide) rfl rfl ?_
            refine X_iload_n (tk_X10_swap.at 25 rfl) rfl ?_
            refine X_if_lt (tgt := 52) (tk_X10_swap.at 26 rfl) (by decide) (fun _ => ?_) (fun h => absurd h (by decide))
            refine X_aload_n (tk_X10_swap.at 29 rfl) rfl ?_
            refine X_ldc (tk_X10_swap.at 30 rfl) kn_x10_108 ?_
            refine X_cV1i (lv2 := [(0, _), (1, _)]) (tk_X10_swap.at 31 rfl) mv_X10_finding lk_x10_82 np_X10_finding hM.f0 (by decide) rfl (Nat.le_of_ble_eq_true rfl) (Nat.le_of_ble_eq_true rfl) rfl (c10_finding (k := 2) hM (by decide) (by decide) ?_)
            refine X_ireturn (tk_X10_swap.at 32 rfl) rfl rfl ?_
            exact k2 j3 j12 hj3 hj12 ej3 ej12 c3 (by first | exact Or.inl h32 | exact Or.inr h38)
          · refine X_istore (lv' := [(0, _), (1, _), (2, _), (3, _), (4, _)]) (tk_X10_swap.at 24 rfl) (by decide) rfl rfl ?_
            refine X_iload_n (tk_X10_swap.at 25 rfl) rfl ?_
            refine X_if_lt (tgt := 52) (tk_X10_swap.at 26 rfl) (by decide) (fun _ => ?_) (fun h => absurd h (by decide))
            refine X_aload_n (tk_X10_swap.at 29 rfl) rfl ?_
            refine X_ldc (tk_X10_swap.at 30 rfl) kn_x10_108 ?_
            refine X_cV1i (lv2 := [(0, _), (1, _)]) (tk_X10_swap.at 31 rfl) mv_X10_finding lk_x10_82 np_X10_finding hM.f0 (by decide) rfl (Nat.le_of_ble_eq_true rfl) (Nat.le_of_ble_eq_true rfl) rfl (c10_finding (k := 2) hM (by decide) (by decide) ?_)
            refine X_ireturn (tk_X10_swap.at 32 rfl) rfl rfl ?_
            exact k2 j3 j12 hj3 hj12 ej3 ej12 c3 (by first | exact Or.inl h32 | exact Or.inr h38)
      · refine X_aload_n (tk_X10_swap.at 13 rfl) rfl ?_
        refine X_ldc (tk_X10_swap.at 14 rfl) kn_x10_81 ?_
        refine X_cV1i (lv2 := [(0, _), (1, _)]) (tk_X10_swap.at 15 rfl) mv_X10_finding lk_x10_82 np_X10_finding hM.f0 (by decide) rfl (Nat.le_of_ble_eq_true rfl) (Nat.le_of_ble_eq_true rfl) rfl (c10_finding (k := 1) hM (by decide) (by decide) ?_)
        refine X_ireturn (tk_X10_swap.at 16 rfl) rfl rfl ?_
        exact k1 (fun g => by first | exact g.2.2 (by rw [ej3, ej12, c3]) | exact In_no (by omega) hj12 g.2.1 | exact In_no (by omega) hj3 g.1)
    · refine X_if_eq (tgt := 23) (tk_X10_swap.at 9 rfl) (by decide) (fun _ => ?_) (fun h => absurd h (by decide))
      refine X_aload_n (tk_X10_swap.at 13 rfl) rfl ?_
      refine X_ldc (tk_X10_swap.at 14 rfl) kn_x10_81 ?_
      refine X_cV1i (lv2 := [(0, _), (1, _)]) (tk_X10_swap.at 15 rfl) mv_X10_finding lk_x10_82 np_X10_finding hM.f0 (by decide) rfl (Nat.le_of_ble_eq_true rfl) (Nat.le_of_ble_eq_true rfl) rfl (c10_finding (k := 1) hM (by decide) (by decide) ?_)
      refine X_ireturn (tk_X10_swap.at 16 rfl) rfl rfl ?_
      exact k1 (fun g => by first | exact g.2.2 (by rw [ej3, ej12, h0]) | exact In_no (by omega) hj12 g.2.1 | exact In_no (by omega) hj3 g.1)
  · refine X_if_eq (tgt := 23) (tk_X10_swap.at 4 rfl) (by decide) (fun _ => ?_) (fun h => absurd h (by decide))
    refine X_aload_n (tk_X10_swap.at 13 rfl) rfl ?_
    refine X_ldc (tk_X10_swap.at 14 rfl) kn_x10_81 ?_
    refine X_cV1i (lv2 := [(0, _), (1, _)]) (tk_X10_swap.at 15 rfl) mv_X10_finding lk_x10_82 np_X10_finding hM.f0 (by decide) rfl (Nat.le_of_ble_eq_true rfl) (Nat.le_of_ble_eq_true rfl) rfl (c10_finding (k := 1) hM (by decide) (by decide) ?_)
    refine X_ireturn (tk_X10_swap.at 16 rfl) rfl rfl ?_
    exact k1 (fun g => by first | exact g.2.2 (by rw [ej3, ej12, h0]) | exact In_no (by omega) hj12 g.2.1 | exact In_no (by omega) hj3 g.1)
end
section
section
variable {G : Gl} {mi : MI} {d kc pc nx : Nat} {lv lv' : List (Nat × Value)} {rest : List Value} {S : Sh} {μ : Mu} {Q : Option Value → Sh → Mu → Prop}
theorem X_tableInN {dflt lo hi : Int} {offs : Array Int} {len n : Nat} {x : Int32} {off : Int} {tgt : Nat} (hd : Dc mi.2.1 pc (.tableswitch dflt lo hi offs) len nx) (hx : x = nI n) (hn : n < 2 ^ 31) (h1 : ¬ (n : Int) < lo) (h2 : ¬ hi < (n : Int)) (ho : offs[((n : Int) - lo).toNat]? = some off) (ht : (pc : Int) + off = (tgt : Int)) (k : X G mi d kc tgt lv rest S μ Q) : X G mi d kc pc lv (.int x :: rest) S μ Q := by
  have e : x.toInt = (n : Int) := by rw [hx]; exact nI_toInt hn
  exact X_tableIn hd (by rw [e]; exact h1) (by rw [e]; exact h2) (by rw [e]; exact ho) ht k
theorem X_tableOutN {dflt lo hi : Int} {offs : Array Int} {len n : Nat} {x : Int32} {tgt : Nat} (hd : Dc mi.2.1 pc (.tableswitch dflt lo hi offs) len nx) (hx : x = nI n) (hn : n < 2 ^ 31) (h : (n : Int) < lo ∨ hi < (n : Int)) (ht : (pc : Int) + dflt = (tgt : Int)) (k : X G mi d kc tgt lv rest S μ Q) : X G mi d kc pc lv (.int x :: rest) S μ Q := by
  have e : x.toInt = (n : Int) := by rw [hx]; exact nI_toInt hn
  exact X_tableOut hd (by rw [e]; exact h) ht k
theorem X_lookupN {dflt : Int} {ps : Array (Int × Int)} {len n : Nat} {x : Int32} {off : Int} {tgt : Nat} (hd : Dc mi.2.1 pc (.lookupswitch dflt ps) len nx) (hx : x = nI n) (hn : n < 2 ^ 31) (hp : (ps.toList.zip (ps.toList.drop 1)).all (fun (a, next) => a.1 < next.1) = true) (ho : Op.lookupswitch.offset ps.toList dflt (n : Int) = off) (ht : (pc : Int) + off = (tgt : Int)) (k : X G mi d kc tgt lv rest S μ Q) : X G mi d kc pc lv (.int x :: rest) S μ Q := by
  have e : x.toInt = (n : Int) := by rw [hx]; exact nI_toInt hn
  exact X_lookup hd hp (by rw [e]; exact ho) ht k
end
abbrev lb (L x : Int32) : Prop := (L >>> (x &&& 31)) &&& 1 = 1
/-- how many before a place aren't lost -/
def pcnt (N : Nat → Int32) (L : Int32) (r : Nat) : Nat → Nat
  | 0 => 0
  | i + 1 => pcnt N L r i + (if lb L (N (84 + 9 * r + i)) then 0 else 1)
theorem pcnt_le (N : Nat → Int32) (L : Int32) (r : Nat) : ∀ i, pcnt N L r i ≤ i
  | 0 => Nat.le_refl 0
  | i + 1 => by
    have h := pcnt_le N L r i
    unfold pcnt
    split <;> omega
theorem pcnt_mono (N : Nat → Int32) (L : Int32) (r i : Nat) : ∀ n, pcnt N L r i ≤ pcnt N L r (i + n)
  | 0 => Nat.le_refl _
  | n + 1 => by
    have h := pcnt_mono N L r i n
    have e : pcnt N L r (i + (n + 1)) = pcnt N L r (i + n) + (if lb L (N (84 + 9 * r + (i + n))) then 0 else 1) := rfl
    omega
theorem pcnt_lt {N : Nat → Int32} {L : Int32} {r i j : Nat} (h : i < j) (hi : ¬ lb L (N (84 + 9 * r + i))) : pcnt N L r i < pcnt N L r j := by
  obtain ⟨n, rfl⟩ : ∃ n, j = (i + 1) + n := ⟨j - (i + 1), by omega⟩
  have h1 := pcnt_mono N L r (i + 1) n
  have h2 : pcnt N L r (i + 1) = pcnt N L r i + 1 := by
    show pcnt N L r i + (if lb L (N (84 + 9 * r + i)) then 0 else 1) = _
    rw [if_neg hi]
  omega
abbrev lastp (N : Nat → Int32) (L : Int32) (r i : Nat) : Prop := ∀ k, k < nv (N (83 + 9 * r)) → (i < k → lb L (N (84 + 9 * r + k)))
def adf (a b : Nat) : Nat := if a ≤ b then b - a else a - b
theorem abs_nI {a b : Nat} (ha : a < 2 ^ 30) (hb : b < 2 ^ 30) : (if 0 ≤ nI a - nI b then nI a - nI b else 0 - (nI a - nI b)) = nI (adf a b) := by
  unfold adf
  by_cases h : a ≤ b
  · rw [if_pos h]
    by_cases e : a = b
    · subst e
      rw [pk_sub (Nat.le_refl a), Nat.sub_self]
      decide
    · rw [if_neg (Int32.not_le.mpr (pk_sneg hb (by omega)))]
      have e1 : nI b - nI a = nI (b - a) := pk_sub h
      rw [← e1]
      apply Int32.toBitVec_inj.mp
      simp only [Int32.toBitVec_sub]
      generalize (nI a).toBitVec = x
      generalize (nI b).toBitVec = y
      show (0 : Int32).toBitVec - (x - y) = y - x
      have e0 : (0 : Int32).toBitVec = 0#32 := by decide
      rw [e0]
      simp [BitVec.neg_sub]
      rw [BitVec.sub_eq_add_neg y x, BitVec.add_comm]
  · rw [if_neg h, pk_sub (by omega), if_pos (nI_pos' (by omega))]
def lastb (N : Nat → Int32) (L : Int32) (r i : Nat) : Bool := decide (lastp N L r i)
def gk (k pl sp kn st : Int32) (g : Prop) [Decidable g] (la : Bool) : Int32 :=
  if k = 1 then pl + 5 * sp else if k = 2 then pl + 10 * kn else if k = 3 then pl + (10 * kn - 2 * sp) else if k = 4 then pl + (if g then pl else 0) else if k = 5 then pl + (if g then pl else 0) + (if g ∧ la = true then st else 0) else if k = 6 then 0 else pl
def mx0 (x : Int32) : Int32 := if 0 < x then x else 0
def grp (N : Nat → Int32) (r p j : Nat) (la : Bool) : Int32 := mx0 (gk (N (80 + 9 * r)) (N (9 + 4 * p) / nI j) (N (81 + 9 * r)) (N (82 + 9 * r)) (N (9 + 4 * p)) (N (11 + 4 * p) = 1) la)
/-- who holds, up to a place; those lost don't -/
def hs (N : Nat → Int32) (L : Int32) (r f : Nat) : Nat → Int32
  | 0 => 0
  | i + 1 => hs N L r f i + (if i = f ∨ lb L (N (84 + 9 * r + i)) then 0 else grp N r (nv (N (84 + 9 * r + i))) (adf (pcnt N L r i) (pcnt N L r f)) (lastb N L r i))
theorem hs_s (N : Nat → Int32) (L : Int32) (r f i : Nat) : hs N L r f (i + 1) = hs N L r f i + (if i = f ∨ lb L (N (84 + 9 * r + i)) then 0 else grp N r (nv (N (84 + 9 * r + i))) (adf (pcnt N L r i) (pcnt N L r f)) (lastb N L r i)) := rfl
def pull (N : Nat → Int32) (p c : Nat) : Int32 := N (8 + 4 * p) * (10 + N (48 + 4 * c)) / 10
set_option maxHeartbeats 1000000 in
theorem c10_place {G : Gl} {d : Nat} {S : Sh} {μ : Mu} {o : Nat} {q : Nat → Nat} {r x : Int32} {rn j : Nat} {K : Int32 → Sh → Mu → Prop} (hM : MS S o q) (hr : r = nI rn) (hb : rn < 6) (hx : x = nI j) (hj : j ≤ 5) (hK : K (nI (pcnt (μ (o + 1)) (μ o 5) rn j)) S μ) : X G mi_X10_place (d + 2) 0 0 [(0, .ref o), (1, .int r), (2, .int x)] [] S μ (qi K) := by
  have loop : ∀ (n i : Nat), i + n = j → X G mi_X10_place (d + 2) 0 5 [(0, .ref o), (1, .int r), (2, .int x), (3, .int (nI (pcnt (μ (o + 1)) (μ o 5) rn i))), (4, .int (nI i))] [] S μ (qi K) := by
    intro n
    induction n with
    | zero =>
      intro i hi
      have e : i = j := by omega
      subst e
      refine X_iload (tk_X10_place.at 4 rfl) rfl ?_
      refine X_iload_n (tk_X10_place.at 5 rfl) rfl ?_
      refine X_icmp_geN (tgt := 42) (tk_X10_place.at 6 rfl) (by decide) (pl i rfl) hx (by omega) (by omega) (fun c1 => ?_) (fun c1 => (by exfalso; omega))
      refine X_iload_n (tk_X10_place.at 23 rfl) rfl ?_
      refine X_ireturn (tk_X10_place.at 24 rfl) rfl rfl ?_
      exact hK
    | succ n ih =>
      intro i hi
      have z := ih (i + 1) (by omega)
      refine X_iload (tk_X10_place.at 4 rfl) rfl ?_
      refine X_iload_n (tk_X10_place.at 5 rfl) rfl ?_
      refine X_icmp_geN (tgt := 42) (tk_X10_place.at 6 rfl) (by decide) (pl i rfl) hx (by omega) (by omega) (fun c1 => (by exfalso; omega)) (fun c1 => ?_)
      refine X_iload_n (tk_X10_place.at 7 rfl) rfl ?_
      refine X_aload_n (tk_X10_place.at 8 rfl) rfl ?_
      refine X_getI (tk_X10_place.at 9 rfl) fl_x10_146 hM.f0 rfl ?_
      refine X_aload_n (tk_X10_place.at 10 rfl) rfl ?_
      refine X_iload_n (tk_X10_place.at 11 rfl) rfl ?_
      refine X_iload (tk_X10_place.at 12 rfl) rfl ?_
      refine X_cV2i (lv2 := [(0, _), (1, _), (2, _)]) (tk_X10_place.at 13 rfl) mv_X10_who lk_x10_121 np_X10_who hM.f0 (by decide) rfl (Nat.le_of_ble_eq_true rfl) (Nat.le_of_ble_eq_true rfl) rfl (c10_who hM hr (pl i rfl) (by omega) (by omega) ?_)
      refine X_cS2i (lv2 := [(0, _), (1, _)]) (tk_X10_place.at 14 rfl) ms_X10_has lk_x10_150 np_X10_has (Nat.le_of_ble_eq_true rfl) (Nat.le_of_ble_eq_true rfl) rfl (c10_has (fun h23 => ?_) (fun h23 => ?_))
      · refine X_if_eq (tgt := 33) (tk_X10_place.at 15 rfl) (by decide) (fun h => absurd h (by decide)) (fun _ => ?_)
        refine X_iconst (tk_X10_place.at 16 rfl) ci_0 ?_
        refine X_goto (tgt := 34) (tk_X10_place.at 17 rfl) (by decide) ?_
        refine X_iadd (tk_X10_place.at 19 rfl) ?_
        refine X_istore_n (lv' := [(0, _), (1, _), (2, _), (3, _), (4, _)]) (tk_X10_place.at 20 rfl) (by decide) rfl rfl ?_
        refine X_iinc (lv' := [(0, _), (1, _), (2, _), (3, _), (4, _)]) (tk_X10_place.at 21 rfl) rfl ci_1 (by decide) rfl rfl ?_
        refine X_goto (tgt := 5) (tk_X10_place.at 22 rfl) (by decide) ?_
        have e : pcnt (μ (o + 1)) (μ o 5) rn (i + 1) = pcnt (μ (o + 1)) (μ o 5) rn i + 0 := by show _ + (if _ then 0 else 1) = _; rw [if_pos h23]
        rw [e] at z
        rw [nI_1 i]
        rw [show nI (pcnt (μ (o + 1)) (μ o 5) rn i) + 0 = nI (pcnt (μ (o + 1)) (μ o 5) rn i + 0) from nI_add _ 0]
        exact z
      · refine X_if_eq (tgt := 33) (tk_X10_place.at 15 rfl) (by decide) (fun _ => ?_) (fun h => absurd h (by decide))
        refine X_iconst (tk_X10_place.at 18 rfl) ci_1 ?_
        refine X_iadd (tk_X10_place.at 19 rfl) ?_
        refine X_istore_n (lv' := [(0, _), (1, _), (2, _), (3, _), (4, _)]) (tk_X10_place.at 20 rfl) (by decide) rfl rfl ?_
        refine X_iinc (lv' := [(0, _), (1, _), (2, _), (3, _), (4, _)]) (tk_X10_place.at 21 rfl) rfl ci_1 (by decide) rfl rfl ?_
        refine X_goto (tgt := 5) (tk_X10_place.at 22 rfl) (by decide) ?_
        have e : pcnt (μ (o + 1)) (μ o 5) rn (i + 1) = pcnt (μ (o + 1)) (μ o 5) rn i + 1 := by show _ + (if _ then 0 else 1) = _; rw [if_neg h23]
        rw [e] at z
        rw [nI_1 i, nI_1]
        exact z
  refine X_iconst (tk_X10_place.at 0 rfl) ci_0 ?_
  refine X_istore_n (lv' := [(0, _), (1, _), (2, _), (3, _)]) (tk_X10_place.at 1 rfl) (by decide) rfl rfl ?_
  refine X_iconst (tk_X10_place.at 2 rfl) ci_0 ?_
  refine X_istore (lv' := [(0, _), (1, _), (2, _), (3, _), (4, _)]) (tk_X10_place.at 3 rfl) (by decide) rfl rfl ?_
  exact loop j 0 (Nat.zero_add j)
set_option maxHeartbeats 1000000 in
theorem c10_isLast {G : Gl} {d : Nat} {S : Sh} {μ : Mu} {o : Nat} {q : Nat → Nat} {r x : Int32} {rn i : Nat} {K : Int32 → Sh → Mu → Prop} (hM : MS S o q) (hr : r = nI rn) (hb : rn < 6) (hx : x = nI i) (hi : i < 5) (hm : μ (o + 1) (83 + 9 * rn) = nI (nv (μ (o + 1) (83 + 9 * rn)))) (bm : (nv (μ (o + 1) (83 + 9 * rn))) ≤ 5) (kt : lastb (μ (o + 1)) (μ o 5) rn i = true → K 1 S μ) (kf : lastb (μ (o + 1)) (μ o 5) rn i = false → K 0 S μ) : X G mi_X10_isLast (d + 2) 0 0 [(0, .ref o), (1, .int r), (2, .int x)] [] S μ (qi K) := by
  have loop : ∀ (n k : Nat) (la : Int32), k + n = 6 → i < k → ((la = 1 ∧ ∀ z, z < k → i < z → z < (nv (μ (o + 1) (83 + 9 * rn))) → lb (μ o 5) (μ (o + 1) (84 + 9 * rn + z))) ∨ (la = 0 ∧ ¬ lastp (μ (o + 1)) (μ o 5) rn i)) → X G mi_X10_isLast (d + 2) 0 7 [(0, .ref o), (1, .int r), (2, .int x), (3, .int la), (4, .int (nI k))] [] S μ (qi K) := by
    intro n
    induction n with
    | zero =>
      intro k la hk hik hla
      refine X_iload (tk_X10_isLast.at 6 rfl) rfl ?_
      refine X_aload_n (tk_X10_isLast.at 7 rfl) rfl ?_
      refine X_iload_n (tk_X10_isLast.at 8 rfl) rfl ?_
      refine X_cV1i (lv2 := [(0, _), (1, _)]) (tk_X10_isLast.at 9 rfl) mv_X10_many lk_x10_118 np_X10_many hM.f0 (by decide) rfl (Nat.le_of_ble_eq_true rfl) (Nat.le_of_ble_eq_true rfl) rfl (c10_many hM hr (by omega) ?_)
      refine X_icmp_geN (tgt := 50) (tk_X10_isLast.at 10 rfl) (by decide) (pl k rfl) hm (by omega) (by omega) (fun c1 => ?_) (fun c1 => (by exfalso; omega))
      refine X_iload_n (tk_X10_isLast.at 27 rfl) rfl ?_
      rcases hla with ⟨e, h⟩ | ⟨e, h⟩
      · subst e
        refine X_ireturn (tk_X10_isLast.at 28 rfl) rfl rfl ?_
        exact kt (decide_eq_true (fun z hz hiz => h z (by omega) hiz hz))
      · subst e
        refine X_ireturn (tk_X10_isLast.at 28 rfl) rfl rfl ?_
        exact kf (decide_eq_false h)
    | succ n ih =>
      intro k la hk hik hla
      refine X_iload (tk_X10_isLast.at 6 rfl) rfl ?_
      refine X_aload_n (tk_X10_isLast.at 7 rfl) rfl ?_
      refine X_iload_n (tk_X10_isLast.at 8 rfl) rfl ?_
      refine X_cV1i (lv2 := [(0, _), (1, _)]) (tk_X10_isLast.at 9 rfl) mv_X10_many lk_x10_118 np_X10_many hM.f0 (by decide) rfl (Nat.le_of_ble_eq_true rfl) (Nat.le_of_ble_eq_true rfl) rfl (c10_many hM hr (by omega) ?_)
      refine X_icmp_geN (tgt := 50) (tk_X10_isLast.at 10 rfl) (by decide) (pl k rfl) hm (by omega) (by omega) (fun c1 => ?_) (fun c1 => ?_)
      · refine X_iload_n (tk_X10_isLast.at 27 rfl) rfl ?_
        rcases hla with ⟨e, h⟩ | ⟨e, h⟩
        · subst e
          refine X_ireturn (tk_X10_isLast.at 28 rfl) rfl rfl ?_
          exact kt (decide_eq_true (fun z hz hiz => h z (by omega) hiz hz))
        · subst e
          refine X_ireturn (tk_X10_isLast.at 28 rfl) rfl rfl ?_
          exact kf (decide_eq_false h)
      · refine X_iload_n (tk_X10_isLast.at 11 rfl) rfl ?_
        refine X_if_eq (tgt := 42) (tk_X10_isLast.at 12 rfl) (by decide) (fun c2 => ?_) (fun c2 => ?_)
        · refine X_iconst (tk_X10_isLast.at 23 rfl) ci_0 ?_
          refine X_istore_n (lv' := [(0, _), (1, _), (2, _), (3, _), (4, _)]) (tk_X10_isLast.at 24 rfl) (by decide) rfl rfl ?_
          refine X_iinc (lv' := [(0, _), (1, _), (2, _), (3, _), (4, _)]) (tk_X10_isLast.at 25 rfl) rfl ci_1 (by decide) rfl rfl ?_
          refine X_goto (tgt := 7) (tk_X10_isLast.at 26 rfl) (by decide) ?_
          rw [nI_1 k]
          refine ih (k + 1) 0 (by omega) (by omega) ?_
          rcases hla with ⟨e, h⟩ | ⟨e, h⟩
          · rw [c2] at e; exact absurd e (by decide)
          · exact Or.inr ⟨rfl, h⟩
        · refine X_aload_n (tk_X10_isLast.at 13 rfl) rfl ?_
          refine X_getI (tk_X10_isLast.at 14 rfl) fl_x10_146 hM.f0 rfl ?_
          refine X_aload_n (tk_X10_isLast.at 15 rfl) rfl ?_
          refine X_iload_n (tk_X10_isLast.at 16 rfl) rfl ?_
          refine X_iload (tk_X10_isLast.at 17 rfl) rfl ?_
          refine X_cV2i (lv2 := [(0, _), (1, _), (2, _)]) (tk_X10_isLast.at 18 rfl) mv_X10_who lk_x10_121 np_X10_who hM.f0 (by decide) rfl (Nat.le_of_ble_eq_true rfl) (Nat.le_of_ble_eq_true rfl) rfl (c10_who hM hr (pl k rfl) (by omega) (by omega) ?_)
          refine X_cS2i (lv2 := [(0, _), (1, _)]) (tk_X10_isLast.at 19 rfl) ms_X10_has lk_x10_150 np_X10_has (Nat.le_of_ble_eq_true rfl) (Nat.le_of_ble_eq_true rfl) rfl (c10_has (fun h32 => ?_) (fun h32 => ?_))
          · refine X_if_eq (tgt := 42) (tk_X10_isLast.at 20 rfl) (by decide) (fun h => absurd h (by decide)) (fun _ => ?_)
            refine X_iconst (tk_X10_isLast.at 21 rfl) ci_1 ?_
            refine X_goto (tgt := 43) (tk_X10_isLast.at 22 rfl) (by decide) ?_
            refine X_istore_n (lv' := [(0, _), (1, _), (2, _), (3, _), (4, _)]) (tk_X10_isLast.at 24 rfl) (by decide) rfl rfl ?_
            refine X_iinc (lv' := [(0, _), (1, _), (2, _), (3, _), (4, _)]) (tk_X10_isLast.at 25 rfl) rfl ci_1 (by decide) rfl rfl ?_
            refine X_goto (tgt := 7) (tk_X10_isLast.at 26 rfl) (by decide) ?_
            rw [nI_1 k]
            refine ih (k + 1) 1 (by omega) (by omega) ?_
            rcases hla with ⟨e, h⟩ | ⟨e, h⟩
            · refine Or.inl ⟨rfl, fun z hz hiz hzm => ?_⟩
              rcases Nat.lt_or_ge z k with y | y
              · exact h z y hiz hzm
              · have e2 : z = k := by omega
                subst e2
                exact h32
            · rw [e] at c2; exact absurd rfl c2
          · refine X_if_eq (tgt := 42) (tk_X10_isLast.at 20 rfl) (by decide) (fun _ => ?_) (fun h => absurd h (by decide))
            refine X_iconst (tk_X10_isLast.at 23 rfl) ci_0 ?_
            refine X_istore_n (lv' := [(0, _), (1, _), (2, _), (3, _), (4, _)]) (tk_X10_isLast.at 24 rfl) (by decide) rfl rfl ?_
            refine X_iinc (lv' := [(0, _), (1, _), (2, _), (3, _), (4, _)]) (tk_X10_isLast.at 25 rfl) rfl ci_1 (by decide) rfl rfl ?_
            refine X_goto (tgt := 7) (tk_X10_isLast.at 26 rfl) (by decide) ?_
            rw [nI_1 k]
            refine ih (k + 1) 0 (by omega) (by omega) ?_
            refine Or.inr ⟨rfl, fun h => ?_⟩
            exact h32 (h k (by omega) hik)
  refine X_iconst (tk_X10_isLast.at 0 rfl) ci_1 ?_
  refine X_istore_n (lv' := [(0, _), (1, _), (2, _), (3, _)]) (tk_X10_isLast.at 1 rfl) (by decide) rfl rfl ?_
  refine X_iload_n (tk_X10_isLast.at 2 rfl) rfl ?_
  refine X_iconst (tk_X10_isLast.at 3 rfl) ci_1 ?_
  refine X_iadd (tk_X10_isLast.at 4 rfl) ?_
  refine X_istore (lv' := [(0, _), (1, _), (2, _), (3, _), (4, _)]) (tk_X10_isLast.at 5 rfl) (by decide) rfl rfl ?_
  rw [show x + 1 = nI (i + 1) from by rw [hx]; exact nI_1 i]
  exact loop (5 - i) (i + 1) 1 (by omega) (by omega) (Or.inl ⟨rfl, fun z hz hiz _ => by omega⟩)
set_option maxHeartbeats 1000000 in
theorem c10_gripOf {G : Gl} {d : Nat} {S : Sh} {μ : Mu} {o : Nat} {q : Nat → Nat} {r x y : Int32} {rn a f : Nat} {K : Int32 → Sh → Mu → Prop} (hM : MS S o q) (hw : WF (μ (o + 1))) (hr : r = nI rn) (hrn : rn < nv (μ (o + 1) 3)) (hx : x = nI a) (hy : y = nI f) (ha : a < nv (μ (o + 1) (83 + 9 * rn))) (hf : f < nv (μ (o + 1) (83 + 9 * rn))) (haf : a ≠ f) (nla : ¬ lb (μ o 5) (μ (o + 1) (84 + 9 * rn + a))) (nlf : ¬ lb (μ o 5) (μ (o + 1) (84 + 9 * rn + f))) (hK : K (grp (μ (o + 1)) rn (nv (μ (o + 1) (84 + 9 * rn + a))) (adf (pcnt (μ (o + 1)) (μ o 5) rn a) (pcnt (μ (o + 1)) (μ o 5) rn f)) (lastb (μ (o + 1)) (μ o 5) rn a)) S μ) : X G mi_X10_gripOf (d + 3) 0 0 [(0, .ref o), (1, .int r), (2, .int x), (3, .int y)] [] S μ (qi K) := by
  have w0 := hw.n0
  have w1 := hw.n1
  have w2 := hw.n2
  have w3 := hw.n3
  have w4 := hw.n4
  have w5 := hw.n5
  have w6 := hw.n6
  have b1 := w1.2
  have b2 := w2.2
  have b3 := w3.2
  have b4 := w4.2
  have b5 := w5.2
  have b6 := w6.2
  have b0 := w0.2
  have wr := hw.ro (p := rn) hrn
  have wk := wr.1
  have bk := wk.2
  have hm := wr.2.2.2.1.1
  have bm := wr.2.2.2.1.2
  have wp := wr.2.2.2.2 a ha
  have bp := wp.2
  have pa1 := pcnt_le (μ (o + 1)) (μ o 5) rn a
  have pa2 := pcnt_le (μ (o + 1)) (μ o 5) rn f
  have hadf : 0 < adf (pcnt (μ (o + 1)) (μ o 5) rn a) (pcnt (μ (o + 1)) (μ o 5) rn f) := by
    unfold adf
    rcases Nat.lt_or_gt_of_ne haf with z | z
    · have := pcnt_lt (N := μ (o + 1)) (L := μ o 5) (r := rn) z nla
      split <;> omega
    · have := pcnt_lt (N := μ (o + 1)) (L := μ o 5) (r := rn) z nlf
      split <;> omega
  have hadf2 : adf (pcnt (μ (o + 1)) (μ o 5) rn a) (pcnt (μ (o + 1)) (μ o 5) rn f) ≤ 5 := by unfold adf; split <;> omega
  refine X_aload_n (tk_X10_gripOf.at 0 rfl) rfl ?_
  refine X_iload_n (tk_X10_gripOf.at 1 rfl) rfl ?_
  refine X_iload_n (tk_X10_gripOf.at 2 rfl) rfl ?_
  refine X_cV2i (lv2 := [(0, _), (1, _), (2, _)]) (tk_X10_gripOf.at 3 rfl) mv_X10_who lk_x10_121 np_X10_who hM.f0 (by decide) rfl (Nat.le_of_ble_eq_true rfl) (Nat.le_of_ble_eq_true rfl) rfl (c10_who hM hr hx (by omega) (by omega) ?_)
  refine X_istore (lv' := [(0, _), (1, _), (2, _), (3, _), (4, _)]) (tk_X10_gripOf.at 4 rfl) (by decide) rfl rfl ?_
  refine X_aload_n (tk_X10_gripOf.at 5 rfl) rfl ?_
  refine X_iload_n (tk_X10_gripOf.at 6 rfl) rfl ?_
  refine X_iload_n (tk_X10_gripOf.at 7 rfl) rfl ?_
  refine X_cV2i (lv2 := [(0, _), (1, _), (2, _)]) (tk_X10_gripOf.at 8 rfl) mv_X10_place lk_x10_153 np_X10_place hM.f0 (by decide) rfl (Nat.le_of_ble_eq_true rfl) (Nat.le_of_ble_eq_true rfl) rfl (c10_place hM hr (by omega) hx (by omega) ?_)
  refine X_aload_n (tk_X10_gripOf.at 9 rfl) rfl ?_
  refine X_iload_n (tk_X10_gripOf.at 10 rfl) rfl ?_
  refine X_iload_n (tk_X10_gripOf.at 11 rfl) rfl ?_
  refine X_cV2i (lv2 := [(0, _), (1, _), (2, _)]) (tk_X10_gripOf.at 12 rfl) mv_X10_place lk_x10_153 np_X10_place hM.f0 (by decide) rfl (Nat.le_of_ble_eq_true rfl) (Nat.le_of_ble_eq_true rfl) rfl (c10_place hM hr (by omega) hy (by omega) ?_)
  refine X_isub (tk_X10_gripOf.at 13 rfl) ?_
  refine X_abs (tk_X10_gripOf.at 14 rfl) lk_x10_156 (Nat.le_of_ble_eq_true rfl) ?_
  rw [abs_nI (a := (pcnt (μ (o + 1)) (μ o 5) rn a)) (b := (pcnt (μ (o + 1)) (μ o 5) rn f)) (by omega) (by omega)]
  refine X_istore (lv' := [(0, _), (1, _), (2, _), (3, _), (4, _), (5, _)]) (tk_X10_gripOf.at 15 rfl) (by decide) rfl rfl ?_
  refine X_aload_n (tk_X10_gripOf.at 16 rfl) rfl ?_
  refine X_iload (tk_X10_gripOf.at 17 rfl) rfl ?_
  refine X_iconst (tk_X10_gripOf.at 18 rfl) ci_1 ?_
  refine X_cV2i (lv2 := [(0, _), (1, _), (2, _)]) (tk_X10_gripOf.at 19 rfl) mv_X10_of lk_x10_94 np_X10_of hM.f0 (by decide) rfl (Nat.le_of_ble_eq_true rfl) (Nat.le_of_ble_eq_true rfl) rfl (c10_of (k := 9 + 4 * (nv (μ (o + 1) (84 + 9 * rn + a)))) hM wp.1 (pl 1 rfl) (by omega) (by omega) (by omega) ?_)
  refine X_iload (tk_X10_gripOf.at 20 rfl) rfl ?_
  refine X_idiv (tk_X10_gripOf.at 21 rfl) (nI_ne0 hadf (by omega)) ?_
  refine X_istore (lv' := [(0, _), (1, _), (2, _), (3, _), (4, _), (5, _), (6, _)]) (tk_X10_gripOf.at 22 rfl) (by decide) rfl rfl ?_
  refine X_aload_n (tk_X10_gripOf.at 23 rfl) rfl ?_
  refine X_iload (tk_X10_gripOf.at 24 rfl) rfl ?_
  refine X_iconst (tk_X10_gripOf.at 25 rfl) ci_3 ?_
  refine X_cV2i (lv2 := [(0, _), (1, _), (2, _)]) (tk_X10_gripOf.at 26 rfl) mv_X10_of lk_x10_94 np_X10_of hM.f0 (by decide) rfl (Nat.le_of_ble_eq_true rfl) (Nat.le_of_ble_eq_true rfl) rfl (c10_of (k := 11 + 4 * (nv (μ (o + 1) (84 + 9 * rn + a)))) hM wp.1 (pl 3 rfl) (by omega) (by omega) (by omega) ?_)
  refine X_iconst (tk_X10_gripOf.at 27 rfl) ci_1 ?_
  refine X_icmp_ne (tgt := 53) (tk_X10_gripOf.at 28 rfl) (by decide) (fun c1 => ?_) (fun c1 => ?_)
  · refine X_iconst (tk_X10_gripOf.at 31 rfl) ci_0 ?_
    refine X_istore (lv' := [(0, _), (1, _), (2, _), (3, _), (4, _), (5, _), (6, _), (7, _)]) (tk_X10_gripOf.at 32 rfl) (by decide) rfl rfl ?_
    refine X_iload (tk_X10_gripOf.at 33 rfl) rfl ?_
    refine X_istore (lv' := [(0, _), (1, _), (2, _), (3, _), (4, _), (5, _), (6, _), (7, _), (8, _)]) (tk_X10_gripOf.at 34 rfl) (by decide) rfl rfl ?_
    refine X_aload_n (tk_X10_gripOf.at 35 rfl) rfl ?_
    refine X_iload_n (tk_X10_gripOf.at 36 rfl) rfl ?_
    refine X_iconst (tk_X10_gripOf.at 37 rfl) ci_0 ?_
    refine X_cV2i (lv2 := [(0, _), (1, _), (2, _)]) (tk_X10_gripOf.at 38 rfl) mv_X10_rope lk_x10_115 np_X10_rope hM.f0 (by decide) rfl (Nat.le_of_ble_eq_true rfl) (Nat.le_of_ble_eq_true rfl) rfl (c10_rope (k := 80 + 9 * rn) hM hr (pl 0 rfl) (by omega) (by omega) (by omega) ?_)
    rcases (show nv (μ (o + 1) (80 + 9 * rn)) = 0 ∨ nv (μ (o + 1) (80 + 9 * rn)) = 1 ∨ nv (μ (o + 1) (80 + 9 * rn)) = 2 ∨ nv (μ (o + 1) (80 + 9 * rn)) = 3 ∨ nv (μ (o + 1) (80 + 9 * rn)) = 4 ∨ nv (μ (o + 1) (80 + 9 * rn)) = 5 ∨ nv (μ (o + 1) (80 + 9 * rn)) = 6 from by omega) with e66 | e66 | e66 | e66 | e66 | e66 | e66
    · refine X_tableOutN (n := 0) (tgt := 237) (tk_X10_gripOf.at 39 rfl) (pz wk.1 e66) (by decide) (by decide) (by decide) ?_
      refine X_iconst (tk_X10_gripOf.at 114 rfl) ci_0 ?_
      refine X_iload (tk_X10_gripOf.at 115 rfl) rfl ?_
      refine X_max (tk_X10_gripOf.at 116 rfl) lk_x10_164 (Nat.le_of_ble_eq_true rfl) ?_
      refine X_ireturn (tk_X10_gripOf.at 117 rfl) rfl rfl ?_
      have hk1 : μ (o + 1) (80 + 9 * rn) = 0 := by rw [wk.1, e66]; rfl
      refine Eq.mp (congrArg (fun z => K z S μ) ?_) hK
      simp [grp, gk, mx0, hk1, c1]
    · refine X_tableInN (n := 1) (tgt := 104) (tk_X10_gripOf.at 39 rfl) (pz wk.1 e66) (by decide) (by decide) (by decide) rfl (by decide) ?_
      refine X_iload (tk_X10_gripOf.at 40 rfl) rfl ?_
      refine X_iconst (tk_X10_gripOf.at 41 rfl) ci_5 ?_
      refine X_aload_n (tk_X10_gripOf.at 42 rfl) rfl ?_
      refine X_iload_n (tk_X10_gripOf.at 43 rfl) rfl ?_
      refine X_iconst (tk_X10_gripOf.at 44 rfl) ci_1 ?_
      refine X_cV2i (lv2 := [(0, _), (1, _), (2, _)]) (tk_X10_gripOf.at 45 rfl) mv_X10_rope lk_x10_115 np_X10_rope hM.f0 (by decide) rfl (Nat.le_of_ble_eq_true rfl) (Nat.le_of_ble_eq_true rfl) rfl (c10_rope (k := 81 + 9 * rn) hM hr (pl 1 rfl) (by omega) (by omega) (by omega) ?_)
      refine X_imul (tk_X10_gripOf.at 46 rfl) ?_
      refine X_iadd (tk_X10_gripOf.at 47 rfl) ?_
      refine X_istore (lv' := [(0, _), (1, _), (2, _), (3, _), (4, _), (5, _), (6, _), (7, _), (8, _)]) (tk_X10_gripOf.at 48 rfl) (by decide) rfl rfl ?_
      refine X_goto (tgt := 237) (tk_X10_gripOf.at 49 rfl) (by decide) ?_
      refine X_iconst (tk_X10_gripOf.at 114 rfl) ci_0 ?_
      refine X_iload (tk_X10_gripOf.at 115 rfl) rfl ?_
      refine X_max (tk_X10_gripOf.at 116 rfl) lk_x10_164 (Nat.le_of_ble_eq_true rfl) ?_
      refine X_ireturn (tk_X10_gripOf.at 117 rfl) rfl rfl ?_
      have hk1 : μ (o + 1) (80 + 9 * rn) = 1 := by rw [wk.1, e66]; rfl
      refine Eq.mp (congrArg (fun z => K z S μ) ?_) hK
      simp [grp, gk, mx0, hk1, c1]
    · refine X_tableInN (n := 2) (tgt := 120) (tk_X10_gripOf.at 39 rfl) (pz wk.1 e66) (by decide) (by decide) (by decide) rfl (by decide) ?_
      refine X_iload (tk_X10_gripOf.at 50 rfl) rfl ?_
      refine X_bipush (tk_X10_gripOf.at 51 rfl) cb_10 ?_
      refine X_aload_n (tk_X10_gripOf.at 52 rfl) rfl ?_
      refine X_iload_n (tk_X10_gripOf.at 53 rfl) rfl ?_
      refine X_iconst (tk_X10_gripOf.at 54 rfl) ci_2 ?_
      refine X_cV2i (lv2 := [(0, _), (1, _), (2, _)]) (tk_X10_gripOf.at 55 rfl) mv_X10_rope lk_x10_115 np_X10_rope hM.f0 (by decide) rfl (Nat.le_of_ble_eq_true rfl) (Nat.le_of_ble_eq_true rfl) rfl (c10_rope (k := 82 + 9 * rn) hM hr (pl 2 rfl) (by omega) (by omega) (by omega) ?_)
      refine X_imul (tk_X10_gripOf.at 56 rfl) ?_
      refine X_iadd (tk_X10_gripOf.at 57 rfl) ?_
      refine X_istore (lv' := [(0, _), (1, _), (2, _), (3, _), (4, _), (5, _), (6, _), (7, _), (8, _)]) (tk_X10_gripOf.at 58 rfl) (by decide) rfl rfl ?_
      refine X_goto (tgt := 237) (tk_X10_gripOf.at 59 rfl) (by decide) ?_
      refine X_iconst (tk_X10_gripOf.at 114 rfl) ci_0 ?_
      refine X_iload (tk_X10_gripOf.at 115 rfl) rfl ?_
      refine X_max (tk_X10_gripOf.at 116 rfl) lk_x10_164 (Nat.le_of_ble_eq_true rfl) ?_
      refine X_ireturn (tk_X10_gripOf.at 117 rfl) rfl rfl ?_
      have hk1 : μ (o + 1) (80 + 9 * rn) = 2 := by rw [wk.1, e66]; rfl
      refine Eq.mp (congrArg (fun z => K z S μ) ?_) hK
      simp [grp, gk, mx0, hk1, c1]
    · refine X_tableInN (n := 3) (tgt := 137) (tk_X10_gripOf.at 39 rfl) (pz wk.1 e66) (by decide) (by decide) (by decide) rfl (by decide) ?_
      refine X_iload (tk_X10_gripOf.at 60 rfl) rfl ?_
      refine X_bipush (tk_X10_gripOf.at 61 rfl) cb_10 ?_
      refine X_aload_n (tk_X10_gripOf.at 62 rfl) rfl ?_
      refine X_iload_n (tk_X10_gripOf.at 63 rfl) rfl ?_
      refine X_iconst (tk_X10_gripOf.at 64 rfl) ci_2 ?_
      refine X_cV2i (lv2 := [(0, _), (1, _), (2, _)]) (tk_X10_gripOf.at 65 rfl) mv_X10_rope lk_x10_115 np_X10_rope hM.f0 (by decide) rfl (Nat.le_of_ble_eq_true rfl) (Nat.le_of_ble_eq_true rfl) rfl (c10_rope (k := 82 + 9 * rn) hM hr (pl 2 rfl) (by omega) (by omega) (by omega) ?_)
      refine X_imul (tk_X10_gripOf.at 66 rfl) ?_
      refine X_iconst (tk_X10_gripOf.at 67 rfl) ci_2 ?_
      refine X_aload_n (tk_X10_gripOf.at 68 rfl) rfl ?_
      refine X_iload_n (tk_X10_gripOf.at 69 rfl) rfl ?_
      refine X_iconst (tk_X10_gripOf.at 70 rfl) ci_1 ?_
      refine X_cV2i (lv2 := [(0, _), (1, _), (2, _)]) (tk_X10_gripOf.at 71 rfl) mv_X10_rope lk_x10_115 np_X10_rope hM.f0 (by decide) rfl (Nat.le_of_ble_eq_true rfl) (Nat.le_of_ble_eq_true rfl) rfl (c10_rope (k := 81 + 9 * rn) hM hr (pl 1 rfl) (by omega) (by omega) (by omega) ?_)
      refine X_imul (tk_X10_gripOf.at 72 rfl) ?_
      refine X_isub (tk_X10_gripOf.at 73 rfl) ?_
      refine X_iadd (tk_X10_gripOf.at 74 rfl) ?_
      refine X_istore (lv' := [(0, _), (1, _), (2, _), (3, _), (4, _), (5, _), (6, _), (7, _), (8, _)]) (tk_X10_gripOf.at 75 rfl) (by decide) rfl rfl ?_
      refine X_goto (tgt := 237) (tk_X10_gripOf.at 76 rfl) (by decide) ?_
      refine X_iconst (tk_X10_gripOf.at 114 rfl) ci_0 ?_
      refine X_iload (tk_X10_gripOf.at 115 rfl) rfl ?_
      refine X_max (tk_X10_gripOf.at 116 rfl) lk_x10_164 (Nat.le_of_ble_eq_true rfl) ?_
      refine X_ireturn (tk_X10_gripOf.at 117 rfl) rfl rfl ?_
      have hk1 : μ (o + 1) (80 + 9 * rn) = 3 := by rw [wk.1, e66]; rfl
      refine Eq.mp (congrArg (fun z => K z S μ) ?_) hK
      simp [grp, gk, mx0, hk1, c1]
    · refine X_tableInN (n := 4) (tgt := 163) (tk_X10_gripOf.at 39 rfl) (pz wk.1 e66) (by decide) (by decide) (by decide) rfl (by decide) ?_
      refine X_iload (tk_X10_gripOf.at 77 rfl) rfl ?_
      refine X_iload (tk_X10_gripOf.at 78 rfl) rfl ?_
      refine X_if_eq (tgt := 175) (tk_X10_gripOf.at 79 rfl) (by decide) (fun _ => ?_) (fun h => absurd h (by decide))
      refine X_iconst (tk_X10_gripOf.at 82 rfl) ci_0 ?_
      refine X_iadd (tk_X10_gripOf.at 83 rfl) ?_
      refine X_istore (lv' := [(0, _), (1, _), (2, _), (3, _), (4, _), (5, _), (6, _), (7, _), (8, _)]) (tk_X10_gripOf.at 84 rfl) (by decide) rfl rfl ?_
      refine X_goto (tgt := 237) (tk_X10_gripOf.at 85 rfl) (by decide) ?_
      refine X_iconst (tk_X10_gripOf.at 114 rfl) ci_0 ?_
      refine X_iload (tk_X10_gripOf.at 115 rfl) rfl ?_
      refine X_max (tk_X10_gripOf.at 116 rfl) lk_x10_164 (Nat.le_of_ble_eq_true rfl) ?_
      refine X_ireturn (tk_X10_gripOf.at 117 rfl) rfl rfl ?_
      have hk1 : μ (o + 1) (80 + 9 * rn) = 4 := by rw [wk.1, e66]; rfl
      refine Eq.mp (congrArg (fun z => K z S μ) ?_) hK
      simp [grp, gk, mx0, hk1, c1]
    · refine X_tableInN (n := 5) (tgt := 182) (tk_X10_gripOf.at 39 rfl) (pz wk.1 e66) (by decide) (by decide) (by decide) rfl (by decide) ?_
      refine X_iload (tk_X10_gripOf.at 86 rfl) rfl ?_
      refine X_iload (tk_X10_gripOf.at 87 rfl) rfl ?_
      refine X_if_eq (tgt := 194) (tk_X10_gripOf.at 88 rfl) (by decide) (fun _ => ?_) (fun h => absurd h (by decide))
      refine X_iconst (tk_X10_gripOf.at 91 rfl) ci_0 ?_
      refine X_iadd (tk_X10_gripOf.at 92 rfl) ?_
      refine X_istore (lv' := [(0, _), (1, _), (2, _), (3, _), (4, _), (5, _), (6, _), (7, _), (8, _)]) (tk_X10_gripOf.at 93 rfl) (by decide) rfl rfl ?_
      refine X_iload (tk_X10_gripOf.at 94 rfl) rfl ?_
      refine X_iload (tk_X10_gripOf.at 95 rfl) rfl ?_
      refine X_if_eq (tgt := 224) (tk_X10_gripOf.at 96 rfl) (by decide) (fun _ => ?_) (fun h => absurd h (by decide))
      refine X_iconst (tk_X10_gripOf.at 107 rfl) ci_0 ?_
      refine X_iadd (tk_X10_gripOf.at 108 rfl) ?_
      refine X_istore (lv' := [(0, _), (1, _), (2, _), (3, _), (4, _), (5, _), (6, _), (7, _), (8, _)]) (tk_X10_gripOf.at 109 rfl) (by decide) rfl rfl ?_
      refine X_goto (tgt := 237) (tk_X10_gripOf.at 110 rfl) (by decide) ?_
      refine X_iconst (tk_X10_gripOf.at 114 rfl) ci_0 ?_
      refine X_iload (tk_X10_gripOf.at 115 rfl) rfl ?_
      refine X_max (tk_X10_gripOf.at 116 rfl) lk_x10_164 (Nat.le_of_ble_eq_true rfl) ?_
      refine X_ireturn (tk_X10_gripOf.at 117 rfl) rfl rfl ?_
      have hk1 : μ (o + 1) (80 + 9 * rn) = 5 := by rw [wk.1, e66]; rfl
      refine Eq.mp (congrArg (fun z => K z S μ) ?_) hK
      simp [grp, gk, mx0, hk1, c1]
    · refine X_tableInN (n := 6) (tgt := 231) (tk_X10_gripOf.at 39 rfl) (pz wk.1 e66) (by decide) (by decide) (by decide) rfl (by decide) ?_
      refine X_iconst (tk_X10_gripOf.at 111 rfl) ci_0 ?_
      refine X_istore (lv' := [(0, _), (1, _), (2, _), (3, _), (4, _), (5, _), (6, _), (7, _), (8, _)]) (tk_X10_gripOf.at 112 rfl) (by decide) rfl rfl ?_
      refine X_goto (tgt := 237) (tk_X10_gripOf.at 113 rfl) (by decide) ?_
      refine X_iconst (tk_X10_gripOf.at 114 rfl) ci_0 ?_
      refine X_iload (tk_X10_gripOf.at 115 rfl) rfl ?_
      refine X_max (tk_X10_gripOf.at 116 rfl) lk_x10_164 (Nat.le_of_ble_eq_true rfl) ?_
      refine X_ireturn (tk_X10_gripOf.at 117 rfl) rfl rfl ?_
      have hk1 : μ (o + 1) (80 + 9 * rn) = 6 := by rw [wk.1, e66]; rfl
      refine Eq.mp (congrArg (fun z => K z S μ) ?_) hK
      simp [grp, gk, mx0, hk1, c1]
  · refine X_iconst (tk_X10_gripOf.at 29 rfl) ci_1 ?_
    refine X_goto (tgt := 54) (tk_X10_gripOf.at 30 rfl) (by decide) ?_
    refine X_istore (lv' := [(0, _), (1, _), (2, _), (3, _), (4, _), (5, _), (6, _), (7, _)]) (tk_X10_gripOf.at 32 rfl) (by decide) rfl rfl ?_
    refine X_iload (tk_X10_gripOf.at 33 rfl) rfl ?_
    refine X_istore (lv' := [(0, _), (1, _), (2, _), (3, _), (4, _), (5, _), (6, _), (7, _), (8, _)]) (tk_X10_gripOf.at 34 rfl) (by decide) rfl rfl ?_
    refine X_aload_n (tk_X10_gripOf.at 35 rfl) rfl ?_
    refine X_iload_n (tk_X10_gripOf.at 36 rfl) rfl ?_
    refine X_iconst (tk_X10_gripOf.at 37 rfl) ci_0 ?_
    refine X_cV2i (lv2 := [(0, _), (1, _), (2, _)]) (tk_X10_gripOf.at 38 rfl) mv_X10_rope lk_x10_115 np_X10_rope hM.f0 (by decide) rfl (Nat.le_of_ble_eq_true rfl) (Nat.le_of_ble_eq_true rfl) rfl (c10_rope (k := 80 + 9 * rn) hM hr (pl 0 rfl) (by omega) (by omega) (by omega) ?_)
    rcases (show nv (μ (o + 1) (80 + 9 * rn)) = 0 ∨ nv (μ (o + 1) (80 + 9 * rn)) = 1 ∨ nv (μ (o + 1) (80 + 9 * rn)) = 2 ∨ nv (μ (o + 1) (80 + 9 * rn)) = 3 ∨ nv (μ (o + 1) (80 + 9 * rn)) = 4 ∨ nv (μ (o + 1) (80 + 9 * rn)) = 5 ∨ nv (μ (o + 1) (80 + 9 * rn)) = 6 from by omega) with e66 | e66 | e66 | e66 | e66 | e66 | e66
    · refine X_tableOutN (n := 0) (tgt := 237) (tk_X10_gripOf.at 39 rfl) (pz wk.1 e66) (by decide) (by decide) (by decide) ?_
      refine X_iconst (tk_X10_gripOf.at 114 rfl) ci_0 ?_
      refine X_iload (tk_X10_gripOf.at 115 rfl) rfl ?_
      refine X_max (tk_X10_gripOf.at 116 rfl) lk_x10_164 (Nat.le_of_ble_eq_true rfl) ?_
      refine X_ireturn (tk_X10_gripOf.at 117 rfl) rfl rfl ?_
      have hk1 : μ (o + 1) (80 + 9 * rn) = 0 := by rw [wk.1, e66]; rfl
      refine Eq.mp (congrArg (fun z => K z S μ) ?_) hK
      simp [grp, gk, mx0, hk1, c1]
    · refine X_tableInN (n := 1) (tgt := 104) (tk_X10_gripOf.at 39 rfl) (pz wk.1 e66) (by decide) (by decide) (by decide) rfl (by decide) ?_
      refine X_iload (tk_X10_gripOf.at 40 rfl) rfl ?_
      refine X_iconst (tk_X10_gripOf.at 41 rfl) ci_5 ?_
      refine X_aload_n (tk_X10_gripOf.at 42 rfl) rfl ?_
      refine X_iload_n (tk_X10_gripOf.at 43 rfl) rfl ?_
      refine X_iconst (tk_X10_gripOf.at 44 rfl) ci_1 ?_
      refine X_cV2i (lv2 := [(0, _), (1, _), (2, _)]) (tk_X10_gripOf.at 45 rfl) mv_X10_rope lk_x10_115 np_X10_rope hM.f0 (by decide) rfl (Nat.le_of_ble_eq_true rfl) (Nat.le_of_ble_eq_true rfl) rfl (c10_rope (k := 81 + 9 * rn) hM hr (pl 1 rfl) (by omega) (by omega) (by omega) ?_)
      refine X_imul (tk_X10_gripOf.at 46 rfl) ?_
      refine X_iadd (tk_X10_gripOf.at 47 rfl) ?_
      refine X_istore (lv' := [(0, _), (1, _), (2, _), (3, _), (4, _), (5, _), (6, _), (7, _), (8, _)]) (tk_X10_gripOf.at 48 rfl) (by decide) rfl rfl ?_
      refine X_goto (tgt := 237) (tk_X10_gripOf.at 49 rfl) (by decide) ?_
      refine X_iconst (tk_X10_gripOf.at 114 rfl) ci_0 ?_
      refine X_iload (tk_X10_gripOf.at 115 rfl) rfl ?_
      refine X_max (tk_X10_gripOf.at 116 rfl) lk_x10_164 (Nat.le_of_ble_eq_true rfl) ?_
      refine X_ireturn (tk_X10_gripOf.at 117 rfl) rfl rfl ?_
      have hk1 : μ (o + 1) (80 + 9 * rn) = 1 := by rw [wk.1, e66]; rfl
      refine Eq.mp (congrArg (fun z => K z S μ) ?_) hK
      simp [grp, gk, mx0, hk1, c1]
    · refine X_tableInN (n := 2) (tgt := 120) (tk_X10_gripOf.at 39 rfl) (pz wk.1 e66) (by decide) (by decide) (by decide) rfl (by decide) ?_
      refine X_iload (tk_X10_gripOf.at 50 rfl) rfl ?_
      refine X_bipush (tk_X10_gripOf.at 51 rfl) cb_10 ?_
      refine X_aload_n (tk_X10_gripOf.at 52 rfl) rfl ?_
      refine X_iload_n (tk_X10_gripOf.at 53 rfl) rfl ?_
      refine X_iconst (tk_X10_gripOf.at 54 rfl) ci_2 ?_
      refine X_cV2i (lv2 := [(0, _), (1, _), (2, _)]) (tk_X10_gripOf.at 55 rfl) mv_X10_rope lk_x10_115 np_X10_rope hM.f0 (by decide) rfl (Nat.le_of_ble_eq_true rfl) (Nat.le_of_ble_eq_true rfl) rfl (c10_rope (k := 82 + 9 * rn) hM hr (pl 2 rfl) (by omega) (by omega) (by omega) ?_)
      refine X_imul (tk_X10_gripOf.at 56 rfl) ?_
      refine X_iadd (tk_X10_gripOf.at 57 rfl) ?_
      refine X_istore (lv' := [(0, _), (1, _), (2, _), (3, _), (4, _), (5, _), (6, _), (7, _), (8, _)]) (tk_X10_gripOf.at 58 rfl) (by decide) rfl rfl ?_
      refine X_goto (tgt := 237) (tk_X10_gripOf.at 59 rfl) (by decide) ?_
      refine X_iconst (tk_X10_gripOf.at 114 rfl) ci_0 ?_
      refine X_iload (tk_X10_gripOf.at 115 rfl) rfl ?_
      refine X_max (tk_X10_gripOf.at 116 rfl) lk_x10_164 (Nat.le_of_ble_eq_true rfl) ?_
      refine X_ireturn (tk_X10_gripOf.at 117 rfl) rfl rfl ?_
      have hk1 : μ (o + 1) (80 + 9 * rn) = 2 := by rw [wk.1, e66]; rfl
      refine Eq.mp (congrArg (fun z => K z S μ) ?_) hK
      simp [grp, gk, mx0, hk1, c1]
    · refine X_tableInN (n := 3) (tgt := 137) (tk_X10_gripOf.at 39 rfl) (pz wk.1 e66) (by decide) (by decide) (by decide) rfl (by decide) ?_
      refine X_iload (tk_X10_gripOf.at 60 rfl) rfl ?_
      refine X_bipush (tk_X10_gripOf.at 61 rfl) cb_10 ?_
      refine X_aload_n (tk_X10_gripOf.at 62 rfl) rfl ?_
      refine X_iload_n (tk_X10_gripOf.at 63 rfl) rfl ?_
      refine X_iconst (tk_X10_gripOf.at 64 rfl) ci_2 ?_
      refine X_cV2i (lv2 := [(0, _), (1, _), (2, _)]) (tk_X10_gripOf.at 65 rfl) mv_X10_rope lk_x10_115 np_X10_rope hM.f0 (by decide) rfl (Nat.le_of_ble_eq_true rfl) (Nat.le_of_ble_eq_true rfl) rfl (c10_rope (k := 82 + 9 * rn) hM hr (pl 2 rfl) (by omega) (by omega) (by omega) ?_)
      refine X_imul (tk_X10_gripOf.at 66 rfl) ?_
      refine X_iconst (tk_X10_gripOf.at 67 rfl) ci_2 ?_
      refine X_aload_n (tk_X10_gripOf.at 68 rfl) rfl ?_
      refine X_iload_n (tk_X10_gripOf.at 69 rfl) rfl ?_
      refine X_iconst (tk_X10_gripOf.at 70 rfl) ci_1 ?_
      refine X_cV2i (lv2 := [(0, _), (1, _), (2, _)]) (tk_X10_gripOf.at 71 rfl) mv_X10_rope lk_x10_115 np_X10_rope hM.f0 (by decide) rfl (Nat.le_of_ble_eq_true rfl) (Nat.le_of_ble_eq_true rfl) rfl (c10_rope (k := 81 + 9 * rn) hM hr (pl 1 rfl) (by omega) (by omega) (by omega) ?_)
      refine X_imul (tk_X10_gripOf.at 72 rfl) ?_
      refine X_isub (tk_X10_gripOf.at 73 rfl) ?_
      refine X_iadd (tk_X10_gripOf.at 74 rfl) ?_
      refine X_istore (lv' := [(0, _), (1, _), (2, _), (3, _), (4, _), (5, _), (6, _), (7, _), (8, _)]) (tk_X10_gripOf.at 75 rfl) (by decide) rfl rfl ?_
      refine X_goto (tgt := 237) (tk_X10_gripOf.at 76 rfl) (by decide) ?_
      refine X_iconst (tk_X10_gripOf.at 114 rfl) ci_0 ?_
      refine X_iload (tk_X10_gripOf.at 115 rfl) rfl ?_
      refine X_max (tk_X10_gripOf.at 116 rfl) lk_x10_164 (Nat.le_of_ble_eq_true rfl) ?_
      refine X_ireturn (tk_X10_gripOf.at 117 rfl) rfl rfl ?_
      have hk1 : μ (o + 1) (80 + 9 * rn) = 3 := by rw [wk.1, e66]; rfl
      refine Eq.mp (congrArg (fun z => K z S μ) ?_) hK
      simp [grp, gk, mx0, hk1, c1]
    · refine X_tableInN (n := 4) (tgt := 163) (tk_X10_gripOf.at 39 rfl) (pz wk.1 e66) (by decide) (by decide) (by decide) rfl (by decide) ?_
      refine X_iload (tk_X10_gripOf.at 77 rfl) rfl ?_
      refine X_iload (tk_X10_gripOf.at 78 rfl) rfl ?_
      refine X_if_eq (tgt := 175) (tk_X10_gripOf.at 79 rfl) (by decide) (fun h => absurd h (by decide)) (fun _ => ?_)
      refine X_iload (tk_X10_gripOf.at 80 rfl) rfl ?_
      refine X_goto (tgt := 176) (tk_X10_gripOf.at 81 rfl) (by decide) ?_
      refine X_iadd (tk_X10_gripOf.at 83 rfl) ?_
      refine X_istore (lv' := [(0, _), (1, _), (2, _), (3, _), (4, _), (5, _), (6, _), (7, _), (8, _)]) (tk_X10_gripOf.at 84 rfl) (by decide) rfl rfl ?_
      refine X_goto (tgt := 237) (tk_X10_gripOf.at 85 rfl) (by decide) ?_
      refine X_iconst (tk_X10_gripOf.at 114 rfl) ci_0 ?_
      refine X_iload (tk_X10_gripOf.at 115 rfl) rfl ?_
      refine X_max (tk_X10_gripOf.at 116 rfl) lk_x10_164 (Nat.le_of_ble_eq_true rfl) ?_
      refine X_ireturn (tk_X10_gripOf.at 117 rfl) rfl rfl ?_
      have hk1 : μ (o + 1) (80 + 9 * rn) = 4 := by rw [wk.1, e66]; rfl
      refine Eq.mp (congrArg (fun z => K z S μ) ?_) hK
      simp [grp, gk, mx0, hk1, c1]
    · refine X_tableInN (n := 5) (tgt := 182) (tk_X10_gripOf.at 39 rfl) (pz wk.1 e66) (by decide) (by decide) (by decide) rfl (by decide) ?_
      refine X_iload (tk_X10_gripOf.at 86 rfl) rfl ?_
      refine X_iload (tk_X10_gripOf.at 87 rfl) rfl ?_
      refine X_if_eq (tgt := 194) (tk_X10_gripOf.at 88 rfl) (by decide) (fun h => absurd h (by decide)) (fun _ => ?_)
      refine X_iload (tk_X10_gripOf.at 89 rfl) rfl ?_
      refine X_goto (tgt := 195) (tk_X10_gripOf.at 90 rfl) (by decide) ?_
      refine X_iadd (tk_X10_gripOf.at 92 rfl) ?_
      refine X_istore (lv' := [(0, _), (1, _), (2, _), (3, _), (4, _), (5, _), (6, _), (7, _), (8, _)]) (tk_X10_gripOf.at 93 rfl) (by decide) rfl rfl ?_
      refine X_iload (tk_X10_gripOf.at 94 rfl) rfl ?_
      refine X_iload (tk_X10_gripOf.at 95 rfl) rfl ?_
      refine X_if_eq (tgt := 224) (tk_X10_gripOf.at 96 rfl) (by decide) (fun h => absurd h (by decide)) (fun _ => ?_)
      refine X_aload_n (tk_X10_gripOf.at 97 rfl) rfl ?_
      refine X_iload_n (tk_X10_gripOf.at 98 rfl) rfl ?_
      refine X_iload_n (tk_X10_gripOf.at 99 rfl) rfl ?_
      refine X_cV2i (lv2 := [(0, _), (1, _), (2, _)]) (tk_X10_gripOf.at 100 rfl) mv_X10_isLast lk_x10_161 np_X10_isLast hM.f0 (by decide) rfl (Nat.le_of_ble_eq_true rfl) (Nat.le_of_ble_eq_true rfl) rfl (c10_isLast hM hr (by omega) hx (by omega) hm bm (fun h208 => ?_) (fun h208 => ?_))
      · refine X_if_eq (tgt := 224) (tk_X10_gripOf.at 101 rfl) (by decide) (fun h => absurd h (by decide)) (fun _ => ?_)
        refine X_aload_n (tk_X10_gripOf.at 102 rfl) rfl ?_
        refine X_iload (tk_X10_gripOf.at 103 rfl) rfl ?_
        refine X_iconst (tk_X10_gripOf.at 104 rfl) ci_1 ?_
        refine X_cV2i (lv2 := [(0, _), (1, _), (2, _)]) (tk_X10_gripOf.at 105 rfl) mv_X10_of lk_x10_94 np_X10_of hM.f0 (by decide) rfl (Nat.le_of_ble_eq_true rfl) (Nat.le_of_ble_eq_true rfl) rfl (c10_of (k := 9 + 4 * (nv (μ (o + 1) (84 + 9 * rn + a)))) hM wp.1 (pl 1 rfl) (by omega) (by omega) (by omega) ?_)
        refine X_goto (tgt := 225) (tk_X10_gripOf.at 106 rfl) (by decide) ?_
        refine X_iadd (tk_X10_gripOf.at 108 rfl) ?_
        refine X_istore (lv' := [(0, _), (1, _), (2, _), (3, _), (4, _), (5, _), (6, _), (7, _), (8, _)]) (tk_X10_gripOf.at 109 rfl) (by decide) rfl rfl ?_
        refine X_goto (tgt := 237) (tk_X10_gripOf.at 110 rfl) (by decide) ?_
        refine X_iconst (tk_X10_gripOf.at 114 rfl) ci_0 ?_
        refine X_iload (tk_X10_gripOf.at 115 rfl) rfl ?_
        refine X_max (tk_X10_gripOf.at 116 rfl) lk_x10_164 (Nat.le_of_ble_eq_true rfl) ?_
        refine X_ireturn (tk_X10_gripOf.at 117 rfl) rfl rfl ?_
        have hk1 : μ (o + 1) (80 + 9 * rn) = 5 := by rw [wk.1, e66]; rfl
        refine Eq.mp (congrArg (fun z => K z S μ) ?_) hK
        simp [grp, gk, mx0, hk1, c1, h208]
      · refine X_if_eq (tgt := 224) (tk_X10_gripOf.at 101 rfl) (by decide) (fun _ => ?_) (fun h => absurd h (by decide))
        refine X_iconst (tk_X10_gripOf.at 107 rfl) ci_0 ?_
        refine X_iadd (tk_X10_gripOf.at 108 rfl) ?_
        refine X_istore (lv' := [(0, _), (1, _), (2, _), (3, _), (4, _), (5, _), (6, _), (7, _), (8, _)]) (tk_X10_gripOf.at 109 rfl) (by decide) rfl rfl ?_
        refine X_goto (tgt := 237) (tk_X10_gripOf.at 110 rfl) (by decide) ?_
        refine X_iconst (tk_X10_gripOf.at 114 rfl) ci_0 ?_
        refine X_iload (tk_X10_gripOf.at 115 rfl) rfl ?_
        refine X_max (tk_X10_gripOf.at 116 rfl) lk_x10_164 (Nat.le_of_ble_eq_true rfl) ?_
        refine X_ireturn (tk_X10_gripOf.at 117 rfl) rfl rfl ?_
        have hk1 : μ (o + 1) (80 + 9 * rn) = 5 := by rw [wk.1, e66]; rfl
        refine Eq.mp (congrArg (fun z => K z S μ) ?_) hK
        simp [grp, gk, mx0, hk1, c1, h208]
    · refine X_tableInN (n := 6) (tgt := 231) (tk_X10_gripOf.at 39 rfl) (pz wk.1 e66) (by decide) (by decide) (by decide) rfl (by decide) ?_
      refine X_iconst (tk_X10_gripOf.at 111 rfl) ci_0 ?_
      refine X_istore (lv' := [(0, _), (1, _), (2, _), (3, _), (4, _), (5, _), (6, _), (7, _), (8, _)]) (tk_X10_gripOf.at 112 rfl) (by decide) rfl rfl ?_
      refine X_goto (tgt := 237) (tk_X10_gripOf.at 113 rfl) (by decide) ?_
      refine X_iconst (tk_X10_gripOf.at 114 rfl) ci_0 ?_
      refine X_iload (tk_X10_gripOf.at 115 rfl) rfl ?_
      refine X_max (tk_X10_gripOf.at 116 rfl) lk_x10_164 (Nat.le_of_ble_eq_true rfl) ?_
      refine X_ireturn (tk_X10_gripOf.at 117 rfl) rfl rfl ?_
      have hk1 : μ (o + 1) (80 + 9 * rn) = 6 := by rw [wk.1, e66]; rfl
      refine Eq.mp (congrArg (fun z => K z S μ) ?_) hK
      simp [grp, gk, mx0, hk1, c1]
set_option maxHeartbeats 1000000 in
theorem c10_holdOf {G : Gl} {d : Nat} {S : Sh} {μ : Mu} {o : Nat} {q : Nat → Nat} {r y : Int32} {rn f : Nat} {K : Int32 → Sh → Mu → Prop} (hM : MS S o q) (hw : WF (μ (o + 1))) (hr : r = nI rn) (hrn : rn < nv (μ (o + 1) 3)) (hy : y = nI f) (hf : f < nv (μ (o + 1) (83 + 9 * rn))) (nlf : ¬ lb (μ o 5) (μ (o + 1) (84 + 9 * rn + f))) (hK : K (hs (μ (o + 1)) (μ o 5) rn f (nv (μ (o + 1) (83 + 9 * rn)))) S μ) : X G mi_X10_holdOf (d + 4) 0 0 [(0, .ref o), (1, .int r), (2, .int y)] [] S μ (qi K) := by
  have w0 := hw.n0
  have w1 := hw.n1
  have w2 := hw.n2
  have w3 := hw.n3
  have w4 := hw.n4
  have w5 := hw.n5
  have w6 := hw.n6
  have b1 := w1.2
  have b2 := w2.2
  have b3 := w3.2
  have b4 := w4.2
  have b5 := w5.2
  have b6 := w6.2
  have b0 := w0.2
  have wr := hw.ro (p := rn) hrn
  have hm := wr.2.2.2.1.1
  have bm := wr.2.2.2.1.2
  have loop : ∀ (n i : Nat), i + n = (nv (μ (o + 1) (83 + 9 * rn))) → X G mi_X10_holdOf (d + 4) 0 5 [(0, .ref o), (1, .int r), (2, .int y), (3, .int (hs (μ (o + 1)) (μ o 5) rn f i)), (4, .int (nI i))] [] S μ (qi K) := by
    intro n
    induction n with
    | zero =>
      intro i hi
      have e : i = (nv (μ (o + 1) (83 + 9 * rn))) := by omega
      refine X_iload (tk_X10_holdOf.at 4 rfl) rfl ?_
      refine X_aload_n (tk_X10_holdOf.at 5 rfl) rfl ?_
      refine X_iload_n (tk_X10_holdOf.at 6 rfl) rfl ?_
      refine X_cV1i (lv2 := [(0, _), (1, _)]) (tk_X10_holdOf.at 7 rfl) mv_X10_many lk_x10_118 np_X10_many hM.f0 (by decide) rfl (Nat.le_of_ble_eq_true rfl) (Nat.le_of_ble_eq_true rfl) rfl (c10_many hM hr (by omega) ?_)
      refine X_icmp_geN (tgt := 59) (tk_X10_holdOf.at 8 rfl) (by decide) (pl i rfl) hm (by omega) (by omega) (fun c1 => ?_) (fun c1 => (by exfalso; omega))
      refine X_iload_n (tk_X10_holdOf.at 32 rfl) rfl ?_
      refine X_ireturn (tk_X10_holdOf.at 33 rfl) rfl rfl ?_
      rw [e]
      exact hK
    | succ n ih =>
      intro i hi
      have z := ih (i + 1) (by omega)
      refine X_iload (tk_X10_holdOf.at 4 rfl) rfl ?_
      refine X_aload_n (tk_X10_holdOf.at 5 rfl) rfl ?_
      refine X_iload_n (tk_X10_holdOf.at 6 rfl) rfl ?_
      refine X_cV1i (lv2 := [(0, _), (1, _)]) (tk_X10_holdOf.at 7 rfl) mv_X10_many lk_x10_118 np_X10_many hM.f0 (by decide) rfl (Nat.le_of_ble_eq_true rfl) (Nat.le_of_ble_eq_true rfl) rfl (c10_many hM hr (by omega) ?_)
      refine X_icmp_geN (tgt := 59) (tk_X10_holdOf.at 8 rfl) (by decide) (pl i rfl) hm (by omega) (by omega) (fun c1 => (by exfalso; omega)) (fun c1 => ?_)
      refine X_iload_n (tk_X10_holdOf.at 9 rfl) rfl ?_
      refine X_iload (tk_X10_holdOf.at 10 rfl) rfl ?_
      refine X_iload_n (tk_X10_holdOf.at 11 rfl) rfl ?_
      refine X_icmp_eqN (tgt := 39) (tk_X10_holdOf.at 12 rfl) (by decide) (pl i rfl) hy (by omega) (by omega) (fun c2 => ?_) (fun c2 => ?_)
      · refine X_iconst (tk_X10_holdOf.at 21 rfl) ci_0 ?_
        refine X_goto (tgt := 51) (tk_X10_holdOf.at 22 rfl) (by decide) ?_
        refine X_iadd (tk_X10_holdOf.at 28 rfl) ?_
        refine X_istore_n (lv' := [(0, _), (1, _), (2, _), (3, _), (4, _)]) (tk_X10_holdOf.at 29 rfl) (by decide) rfl rfl ?_
        refine X_iinc (lv' := [(0, _), (1, _), (2, _), (3, _), (4, _)]) (tk_X10_holdOf.at 30 rfl) rfl ci_1 (by decide) rfl rfl ?_
        refine X_goto (tgt := 5) (tk_X10_holdOf.at 31 rfl) (by decide) ?_
        rw [hs_s, if_pos (Or.inl c2)] at z
        rw [nI_1 i]
        exact z
      · refine X_aload_n (tk_X10_holdOf.at 13 rfl) rfl ?_
        refine X_getI (tk_X10_holdOf.at 14 rfl) fl_x10_146 hM.f0 rfl ?_
        refine X_aload_n (tk_X10_holdOf.at 15 rfl) rfl ?_
        refine X_iload_n (tk_X10_holdOf.at 16 rfl) rfl ?_
        refine X_iload (tk_X10_holdOf.at 17 rfl) rfl ?_
        refine X_cV2i (lv2 := [(0, _), (1, _), (2, _)]) (tk_X10_holdOf.at 18 rfl) mv_X10_who lk_x10_121 np_X10_who hM.f0 (by decide) rfl (Nat.le_of_ble_eq_true rfl) (Nat.le_of_ble_eq_true rfl) rfl (c10_who hM hr (pl i rfl) (by omega) (by omega) ?_)
        refine X_cS2i (lv2 := [(0, _), (1, _)]) (tk_X10_holdOf.at 19 rfl) ms_X10_has lk_x10_150 np_X10_has (Nat.le_of_ble_eq_true rfl) (Nat.le_of_ble_eq_true rfl) rfl (c10_has (fun h33 => ?_) (fun h33 => ?_))
        · refine X_if_eq (tgt := 43) (tk_X10_holdOf.at 20 rfl) (by decide) (fun h => absurd h (by decide)) (fun _ => ?_)
          refine X_iconst (tk_X10_holdOf.at 21 rfl) ci_0 ?_
          refine X_goto (tgt := 51) (tk_X10_holdOf.at 22 rfl) (by decide) ?_
          refine X_iadd (tk_X10_holdOf.at 28 rfl) ?_
          refine X_istore_n (lv' := [(0, _), (1, _), (2, _), (3, _), (4, _)]) (tk_X10_holdOf.at 29 rfl) (by decide) rfl rfl ?_
          refine X_iinc (lv' := [(0, _), (1, _), (2, _), (3, _), (4, _)]) (tk_X10_holdOf.at 30 rfl) rfl ci_1 (by decide) rfl rfl ?_
          refine X_goto (tgt := 5) (tk_X10_holdOf.at 31 rfl) (by decide) ?_
          rw [hs_s, if_pos (Or.inr h33)] at z
          rw [nI_1 i]
          exact z
        · refine X_if_eq (tgt := 43) (tk_X10_holdOf.at 20 rfl) (by decide) (fun _ => ?_) (fun h => absurd h (by decide))
          refine X_aload_n (tk_X10_holdOf.at 23 rfl) rfl ?_
          refine X_iload_n (tk_X10_holdOf.at 24 rfl) rfl ?_
          refine X_iload (tk_X10_holdOf.at 25 rfl) rfl ?_
          refine X_iload_n (tk_X10_holdOf.at 26 rfl) rfl ?_
          refine X_cV3i (lv2 := [(0, _), (1, _), (2, _), (3, _)]) (tk_X10_holdOf.at 27 rfl) mv_X10_gripOf lk_x10_167 np_X10_gripOf hM.f0 (by decide) rfl (Nat.le_of_ble_eq_true rfl) (Nat.le_of_ble_eq_true rfl) rfl (c10_gripOf hM hw hr hrn (pl i rfl) hy (by omega) hf c2 h33 nlf ?_)
          refine X_iadd (tk_X10_holdOf.at 28 rfl) ?_
          refine X_istore_n (lv' := [(0, _), (1, _), (2, _), (3, _), (4, _)]) (tk_X10_holdOf.at 29 rfl) (by decide) rfl rfl ?_
          refine X_iinc (lv' := [(0, _), (1, _), (2, _), (3, _), (4, _)]) (tk_X10_holdOf.at 30 rfl) rfl ci_1 (by decide) rfl rfl ?_
          refine X_goto (tgt := 5) (tk_X10_holdOf.at 31 rfl) (by decide) ?_
          rw [hs_s, if_neg (fun g => g.elim c2 h33)] at z
          rw [nI_1 i]
          exact z
  refine X_iconst (tk_X10_holdOf.at 0 rfl) ci_0 ?_
  refine X_istore_n (lv' := [(0, _), (1, _), (2, _), (3, _)]) (tk_X10_holdOf.at 1 rfl) (by decide) rfl rfl ?_
  refine X_iconst (tk_X10_holdOf.at 2 rfl) ci_0 ?_
  refine X_istore (lv' := [(0, _), (1, _), (2, _), (3, _), (4, _)]) (tk_X10_holdOf.at 3 rfl) (by decide) rfl rfl ?_
  exact loop _ 0 (Nat.zero_add _)
end
section
def dn (op a b : Int32) : Int32 := if op = 20000 then (if ¬ a = 0 ∨ ¬ b = 0 then 1 else 0) else if op = 20001 then (if ¬ a = 0 ∧ ¬ b = 0 then 1 else 0) else if op = 20002 then (if a < b then 1 else 0) else if op = 20003 then (if a = b then 1 else 0) else if op = 20004 then (if b < a then 1 else 0) else if op = 20005 then a + b else if op = 20006 then a - b else if op = 20007 then a * b else if op = 20008 then (if b = 0 then 0 else a / b) else (if b = 0 then 0 else a - a / b * b)
/-- the pile behind the first k codes -/
def evf (C nm : Nat → Int32) : Nat → Nat → Int32
  | 0 => fun _ => 0
  | k + 1 => if C k < 20000 then upd (evf C nm k) (dpt C k) (if C k < 10000 then C k else nm (nv (C k) - 10000)) else if C k = 20010 then upd (evf C nm k) (dpt C k - 1) (if evf C nm k (dpt C k - 1) = 0 then 1 else 0) else upd (evf C nm k) (dpt C k - 2) (dn (C k) (evf C nm k (dpt C k - 2)) (evf C nm k (dpt C k - 1)))
theorem dpt_le (C : Nat → Int32) : ∀ k, dpt C k ≤ k
  | 0 => Nat.le_refl 0
  | k + 1 => by
    have h := dpt_le C k
    unfold dpt
    split
    · omega
    · split <;> omega
theorem lt_nI {n m : Nat} (h : n < m) (hm : m < 2 ^ 31) : nI n < nI m := nI_lt h hm
set_option maxHeartbeats 1000000 in
theorem c10_done {G : Gl} {d : Nat} {S : Sh} {μ : Mu} {op a b : Int32} {n : Nat} {K : Int32 → Sh → Mu → Prop} (hop : op = nI n) (h1 : 20000 ≤ n) (h2 : n ≤ 20009) (hK : K (dn op a b) S μ) : X G mi_X10_done d 0 0 [(0, .int op), (1, .int a), (2, .int b)] [] S μ (qi K) := by
  refine X_iload_n (tk_X10_done.at 0 rfl) rfl ?_
  rcases (show n = 20000 ∨ n = 20001 ∨ n = 20002 ∨ n = 20003 ∨ n = 20004 ∨ n = 20005 ∨ n = 20006 ∨ n = 20007 ∨ n = 20008 ∨ n = 20009 from by omega) with e1 | e1 | e1 | e1 | e1 | e1 | e1 | e1 | e1 | e1
  · refine X_tableInN (n := 20000) (tgt := 52) (tk_X10_done.at 1 rfl) (pz hop e1) (by decide) (by decide) (by decide) rfl (by decide) ?_
    refine X_iload_n (tk_X10_done.at 2 rfl) rfl ?_
    refine X_if_ne (tgt := 60) (tk_X10_done.at 3 rfl) (by decide) (fun c1 => ?_) (fun c1 => ?_)
    · refine X_iconst (tk_X10_done.at 6 rfl) ci_1 ?_
      refine X_goto (tgt := 65) (tk_X10_done.at 7 rfl) (by decide) ?_
      refine X_ireturn (tk_X10_done.at 9 rfl) rfl rfl ?_
      have hk1 : op = 20000 := by rw [hop, e1]; rfl
      refine Eq.mp (congrArg (fun z => K z S μ) ?_) hK
      subst hk1
      simp [dn, c1]
    · refine X_iload_n (tk_X10_done.at 4 rfl) rfl ?_
      refine X_if_eq (tgt := 64) (tk_X10_done.at 5 rfl) (by decide) (fun c2 => ?_) (fun c2 => ?_)
      · refine X_iconst (tk_X10_done.at 8 rfl) ci_0 ?_
        refine X_ireturn (tk_X10_done.at 9 rfl) rfl rfl ?_
        have hk1 : op = 20000 := by rw [hop, e1]; rfl
        refine Eq.mp (congrArg (fun z => K z S μ) ?_) hK
        subst hk1
        simp [dn, c1, c2]
      · refine X_iconst (tk_X10_done.at 6 rfl) ci_1 ?_
        refine X_goto (tgt := 65) (tk_X10_done.at 7 rfl) (by decide) ?_
        refine X_ireturn (tk_X10_done.at 9 rfl) rfl rfl ?_
        have hk1 : op = 20000 := by rw [hop, e1]; rfl
        refine Eq.mp (congrArg (fun z => K z S μ) ?_) hK
        subst hk1
        simp [dn, c1, c2]
  · refine X_tableInN (n := 20001) (tgt := 66) (tk_X10_done.at 1 rfl) (pz hop e1) (by decide) (by decide) (by decide) rfl (by decide) ?_
    refine X_iload_n (tk_X10_done.at 10 rfl) rfl ?_
    refine X_if_eq (tgt := 78) (tk_X10_done.at 11 rfl) (by decide) (fun c3 => ?_) (fun c3 => ?_)
    · refine X_iconst (tk_X10_done.at 16 rfl) ci_0 ?_
      refine X_ireturn (tk_X10_done.at 17 rfl) rfl rfl ?_
      have hk1 : op = 20001 := by rw [hop, e1]; rfl
      refine Eq.mp (congrArg (fun z => K z S μ) ?_) hK
      subst hk1
      simp [dn, c3]
    · refine X_iload_n (tk_X10_done.at 12 rfl) rfl ?_
      refine X_if_eq (tgt := 78) (tk_X10_done.at 13 rfl) (by decide) (fun c4 => ?_) (fun c4 => ?_)
      · refine X_iconst (tk_X10_done.at 16 rfl) ci_0 ?_
        refine X_ireturn (tk_X10_done.at 17 rfl) rfl rfl ?_
        have hk1 : op = 20001 := by rw [hop, e1]; rfl
        refine Eq.mp (congrArg (fun z => K z S μ) ?_) hK
        subst hk1
        simp [dn, c3, c4]
      · refine X_iconst (tk_X10_done.at 14 rfl) ci_1 ?_
        refine X_goto (tgt := 79) (tk_X10_done.at 15 rfl) (by decide) ?_
        refine X_ireturn (tk_X10_done.at 17 rfl) rfl rfl ?_
        have hk1 : op = 20001 := by rw [hop, e1]; rfl
        refine Eq.mp (congrArg (fun z => K z S μ) ?_) hK
        subst hk1
        simp [dn, c3, c4]
  · refine X_tableInN (n := 20002) (tgt := 80) (tk_X10_done.at 1 rfl) (pz hop e1) (by decide) (by decide) (by decide) rfl (by decide) ?_
    refine X_iload_n (tk_X10_done.at 18 rfl) rfl ?_
    refine X_iload_n (tk_X10_done.at 19 rfl) rfl ?_
    refine X_icmp_ge (tgt := 89) (tk_X10_done.at 20 rfl) (by decide) (fun c5 => ?_) (fun c5 => ?_)
    · refine X_iconst (tk_X10_done.at 23 rfl) ci_0 ?_
      refine X_ireturn (tk_X10_done.at 24 rfl) rfl rfl ?_
      have hk1 : op = 20002 := by rw [hop, e1]; rfl
      refine Eq.mp (congrArg (fun z => K z S μ) ?_) hK
      subst hk1
      simp [dn, Int32.not_lt.mpr c5]
    · refine X_iconst (tk_X10_done.at 21 rfl) ci_1 ?_
      refine X_goto (tgt := 90) (tk_X10_done.at 22 rfl) (by decide) ?_
      refine X_ireturn (tk_X10_done.at 24 rfl) rfl rfl ?_
      have hk1 : op = 20002 := by rw [hop, e1]; rfl
      refine Eq.mp (congrArg (fun z => K z S μ) ?_) hK
      subst hk1
      simp [dn, Int32.not_le.mp c5]
  · refine X_tableInN (n := 20003) (tgt := 91) (tk_X10_done.at 1 rfl) (pz hop e1) (by decide) (by decide) (by decide) rfl (by decide) ?_
    refine X_iload_n (tk_X10_done.at 25 rfl) rfl ?_
    refine X_iload_n (tk_X10_done.at 26 rfl) rfl ?_
    refine X_icmp_ne (tgt := 100) (tk_X10_done.at 27 rfl) (by decide) (fun c6 => ?_) (fun c6 => ?_)
    · refine X_iconst (tk_X10_done.at 30 rfl) ci_0 ?_
      refine X_ireturn (tk_X10_done.at 31 rfl) rfl rfl ?_
      have hk1 : op = 20003 := by rw [hop, e1]; rfl
      refine Eq.mp (congrArg (fun z => K z S μ) ?_) hK
      subst hk1
      simp [dn, c6]
    · refine X_iconst (tk_X10_done.at 28 rfl) ci_1 ?_
      refine X_goto (tgt := 101) (tk_X10_done.at 29 rfl) (by decide) ?_
      refine X_ireturn (tk_X10_done.at 31 rfl) rfl rfl ?_
      have hk1 : op = 20003 := by rw [hop, e1]; rfl
      refine Eq.mp (congrArg (fun z => K z S μ) ?_) hK
      subst hk1
      simp [dn, c6]
  · refine X_tableInN (n := 20004) (tgt := 102) (tk_X10_done.at 1 rfl) (pz hop e1) (by decide) (by decide) (by decide) rfl (by decide) ?_
    refine X_iload_n (tk_X10_done.at 32 rfl) rfl ?_
    refine X_iload_n (tk_X10_done.at 33 rfl) rfl ?_
    refine X_icmp_le (tgt := 111) (tk_X10_done.at 34 rfl) (by decide) (fun c7 => ?_) (fun c7 => ?_)
    · refine X_iconst (tk_X10_done.at 37 rfl) ci_0 ?_
      refine X_ireturn (tk_X10_done.at 38 rfl) rfl rfl ?_
      have hk1 : op = 20004 := by rw [hop, e1]; rfl
      refine Eq.mp (congrArg (fun z => K z S μ) ?_) hK
      subst hk1
      simp [dn, Int32.not_lt.mpr c7]
    · refine X_iconst (tk_X10_done.at 35 rfl) ci_1 ?_
      refine X_goto (tgt := 112) (tk_X10_done.at 36 rfl) (by decide) ?_
      refine X_ireturn (tk_X10_done.at 38 rfl) rfl rfl ?_
      have hk1 : op = 20004 := by rw [hop, e1]; rfl
      refine Eq.mp (congrArg (fun z => K z S μ) ?_) hK
      subst hk1
      simp [dn, Int32.not_le.mp c7]
  · refine X_tableInN (n := 20005) (tgt := 113) (tk_X10_done.at 1 rfl) (pz hop e1) (by decide) (by decide) (by decide) rfl (by decide) ?_
    refine X_iload_n (tk_X10_done.at 39 rfl) rfl ?_
    refine X_iload_n (tk_X10_done.at 40 rfl) rfl ?_
    refine X_iadd (tk_X10_done.at 41 rfl) ?_
    refine X_ireturn (tk_X10_done.at 42 rfl) rfl rfl ?_
    have hk1 : op = 20005 := by rw [hop, e1]; rfl
    refine Eq.mp (congrArg (fun z => K z S μ) ?_) hK
    subst hk1
    simp [dn]
  · refine X_tableInN (n := 20006) (tgt := 117) (tk_X10_done.at 1 rfl) (pz hop e1) (by decide) (by decide) (by decide) rfl (by decide) ?_
    refine X_iload_n (tk_X10_done.at 43 rfl) rfl ?_
    refine X_iload_n (tk_X10_done.at 44 rfl) rfl ?_
    refine X_isub (tk_X10_done.at 45 rfl) ?_
    refine X_ireturn (tk_X10_done.at 46 rfl) rfl rfl ?_
    have hk1 : op = 20006 := by rw [hop, e1]; rfl
    refine Eq.mp (congrArg (fun z => K z S μ) ?_) hK
    subst hk1
    simp [dn]
  · refine X_tableInN (n := 20007) (tgt := 121) (tk_X10_done.at 1 rfl) (pz hop e1) (by decide) (by decide) (by decide) rfl (by decide) ?_
    refine X_iload_n (tk_X10_done.at 47 rfl) rfl ?_
    refine X_iload_n (tk_X10_done.at 48 rfl) rfl ?_
    refine X_imul (tk_X10_done.at 49 rfl) ?_
    refine X_ireturn (tk_X10_done.at 50 rfl) rfl rfl ?_
    have hk1 : op = 20007 := by rw [hop, e1]; rfl
    refine Eq.mp (congrArg (fun z => K z S μ) ?_) hK
    subst hk1
    simp [dn]
  · refine X_tableInN (n := 20008) (tgt := 125) (tk_X10_done.at 1 rfl) (pz hop e1) (by decide) (by decide) (by decide) rfl (by decide) ?_
    refine X_iload_n (tk_X10_done.at 51 rfl) rfl ?_
    refine X_if_ne (tgt := 133) (tk_X10_done.at 52 rfl) (by decide) (fun c8 => ?_) (fun c8 => ?_)
    · refine X_iload_n (tk_X10_done.at 55 rfl) rfl ?_
      refine X_iload_n (tk_X10_done.at 56 rfl) rfl ?_
      refine X_idiv (tk_X10_done.at 57 rfl) c8 ?_
      refine X_ireturn (tk_X10_done.at 58 rfl) rfl rfl ?_
      have hk1 : op = 20008 := by rw [hop, e1]; rfl
      refine Eq.mp (congrArg (fun z => K z S μ) ?_) hK
      subst hk1
      simp [dn, c8]
    · refine X_iconst (tk_X10_done.at 53 rfl) ci_0 ?_
      refine X_goto (tgt := 136) (tk_X10_done.at 54 rfl) (by decide) ?_
      refine X_ireturn (tk_X10_done.at 58 rfl) rfl rfl ?_
      have hk1 : op = 20008 := by rw [hop, e1]; rfl
      refine Eq.mp (congrArg (fun z => K z S μ) ?_) hK
      subst hk1
      simp [dn, c8]
  · refine X_tableOutN (n := 20009) (tgt := 137) (tk_X10_done.at 1 rfl) (pz hop e1) (by decide) (by decide) (by decide) ?_
    refine X_iload_n (tk_X10_done.at 59 rfl) rfl ?_
    refine X_if_ne (tgt := 145) (tk_X10_done.at 60 rfl) (by decide) (fun c9 => ?_) (fun c9 => ?_)
    · refine X_iload_n (tk_X10_done.at 63 rfl) rfl ?_
      refine X_iload_n (tk_X10_done.at 64 rfl) rfl ?_
      refine X_irem (tk_X10_done.at 65 rfl) c9 ?_
      refine X_ireturn (tk_X10_done.at 66 rfl) rfl rfl ?_
      have hk1 : op = 20009 := by rw [hop, e1]; rfl
      refine Eq.mp (congrArg (fun z => K z S μ) ?_) hK
      subst hk1
      simp [dn, c9]
    · refine X_iconst (tk_X10_done.at 61 rfl) ci_0 ?_
      refine X_goto (tgt := 148) (tk_X10_done.at 62 rfl) (by decide) ?_
      refine X_ireturn (tk_X10_done.at 66 rfl) rfl rfl ?_
      have hk1 : op = 20009 := by rw [hop, e1]; rfl
      refine Eq.mp (congrArg (fun z => K z S μ) ?_) hK
      subst hk1
      simp [dn, c9]
set_option maxHeartbeats 1000000 in
theorem c10_worked {G : Gl} {d : Nat} {S : Sh} {μ : Mu} {o : Nat} {q : Nat → Nat} {x : Int32} {u : Nat} {K : Int32 → Sh → Mu → Prop} (hM : MS S o q) (hw : WF (μ (o + 1))) (hu : u < 2) (hx : x = nI (211 + 52 * u)) (hn : 0 < (nv (μ (o + 1) (210 + 52 * u)))) (hK : ∀ P, K (evf (fun k => μ (o + 1) (211 + 52 * u + k)) (μ (o + 7)) (nv (μ (o + 1) (210 + 52 * u))) 0) S (Mx μ (o + 8) P)) : X G mi_X10_worked (d + 1) 0 0 [(0, .ref o), (1, .int x)] [] S μ (qi K) := by
  obtain ⟨hlo, hok, hfin⟩ := hw.tx hu
  have hln := hlo.1
  have bln := hlo.2
  generalize hC : (fun k => μ (o + 1) (211 + 52 * u + k)) = C at hok hfin hK
  have hCk : ∀ k, μ (o + 1) (211 + 52 * u + k) = C k := fun k => by rw [← hC]
  have loop : ∀ (m k : Nat) (P : Nat → Int32), k + m = (nv (μ (o + 1) (210 + 52 * u))) → (∀ i, i < (dpt C k) → P i = (evf C (μ (o + 7)) k) i) → ∀ rest, X G mi_X10_worked (d + 1) 0 4 ([(0, .ref o), (1, .int x), (2, .int (nI (dpt C k))), (3, .int (nI (211 + 52 * u + k)))] ++ rest) [] S (Mx μ (o + 8) P) (qi K) := by
    intro m
    induction m with
    | zero =>
      intro k P hk hP rest
      refine X_lvp [0, 1, 2, 3] (lv' := [(0, _), (1, _), (2, _), (3, _)]) rfl ?_
      have hkk : k = (nv (μ (o + 1) (210 + 52 * u))) := by omega
      refine X_iload_n (tk_X10_worked.at 4 rfl) rfl ?_
      refine X_iload_n (tk_X10_worked.at 5 rfl) rfl ?_
      refine X_aload_n (tk_X10_worked.at 6 rfl) rfl ?_
      refine X_getR (tk_X10_worked.at 7 rfl) fl_x10_9 hM.f0 rfl rfl ?_
      refine X_iload_n (tk_X10_worked.at 8 rfl) rfl ?_
      refine X_iconst (tk_X10_worked.at 9 rfl) ci_1 ?_
      refine X_isub (tk_X10_worked.at 10 rfl) ?_
      refine X_ialdN (k := 210 + 52 * u) (tk_X10_worked.at 11 rfl) hM.f1 (pz (ps hx (pl 1 rfl) (by omega)) (by omega)) (by omega) (by decide) ?_
      rw [show Mx μ (o + 8) P (o + 1) = μ (o + 1) from Mx_ne (by omega)]
      refine X_iadd (tk_X10_worked.at 12 rfl) ?_
      refine X_icmp_geN (tgt := 141) (tk_X10_worked.at 13 rfl) (by decide) (pl (211 + 52 * u + k) rfl) (pa hx hln) (by omega) (by omega) (fun c1 => ?_) (fun c1 => (by exfalso; omega))
      refine X_aload_n (tk_X10_worked.at 80 rfl) rfl ?_
      refine X_getR (tk_X10_worked.at 81 rfl) fl_x10_38 hM.f0 rfl rfl ?_
      refine X_iconst (tk_X10_worked.at 82 rfl) ci_0 ?_
      refine X_ialdN (k := 0) (tk_X10_worked.at 83 rfl) hM.f8 (pz (pl 0 rfl) (by omega)) (by omega) (by decide) ?_
      refine X_ireturn (tk_X10_worked.at 84 rfl) rfl rfl ?_
      rw [Mx_same, hP 0 (by rw [hkk]; exact hfin (by omega)), hkk]
      exact hK P
    | succ m ih =>
      intro k P hk hP rest
      refine X_lvp [0, 1, 2, 3] (lv' := [(0, _), (1, _), (2, _), (3, _)]) rfl ?_
      have hd5 := dpt_le C k
      have z := fun P h => ih (k + 1) P (by omega) h
      rcases hok k (by omega) with ⟨h1, h2, h3⟩ | ⟨h1, h2⟩ | ⟨h1, h2, h3⟩
      · obtain ⟨iv, hiv, eiv⟩ := nI_of (Int32.not_lt.mpr h2)
        have hiv2 : iv < 10005 := by rw [eiv] at h3; exact (nI_ltI hiv (by decide)).mp h3
        have e1 : dpt C (k + 1) = dpt C k + 1 := if_pos h1
        rw [e1] at z
        refine X_iload_n (tk_X10_worked.at 4 rfl) rfl ?_
        refine X_iload_n (tk_X10_worked.at 5 rfl) rfl ?_
        refine X_aload_n (tk_X10_worked.at 6 rfl) rfl ?_
        refine X_getR (tk_X10_worked.at 7 rfl) fl_x10_9 hM.f0 rfl rfl ?_
        refine X_iload_n (tk_X10_worked.at 8 rfl) rfl ?_
        refine X_iconst (tk_X10_worked.at 9 rfl) ci_1 ?_
        refine X_isub (tk_X10_worked.at 10 rfl) ?_
        refine X_ialdN (k := 210 + 52 * u) (tk_X10_worked.at 11 rfl) hM.f1 (pz (ps hx (pl 1 rfl) (by omega)) (by omega)) (by omega) (by decide) ?_
        rw [show Mx μ (o + 8) P (o + 1) = μ (o + 1) from Mx_ne (by omega)]
        refine X_iadd (tk_X10_worked.at 12 rfl) ?_
        refine X_icmp_geN (tgt := 141) (tk_X10_worked.at 13 rfl) (by decide) (pl (211 + 52 * u + k) rfl) (pa hx hln) (by omega) (by omega) (fun c1 => (by exfalso; omega)) (fun c1 => ?_)
        refine X_aload_n (tk_X10_worked.at 14 rfl) rfl ?_
        refine X_getR (tk_X10_worked.at 15 rfl) fl_x10_9 hM.f0 rfl rfl ?_
        refine X_iload_n (tk_X10_worked.at 16 rfl) rfl ?_
        refine X_ialdN (k := 211 + 52 * u + k) (tk_X10_worked.at 17 rfl) hM.f1 (pz (pl (211 + 52 * u + k) rfl) (by omega)) (by omega) (by decide) ?_
        rw [show Mx μ (o + 8) P (o + 1) = μ (o + 1) from Mx_ne (by omega), hCk]
        refine X_istore (lv' := [(0, _), (1, _), (2, _), (3, _), (4, _)]) (tk_X10_worked.at 18 rfl) (by decide) rfl rfl ?_
        refine X_iload (tk_X10_worked.at 19 rfl) rfl ?_
        refine X_sipush (tk_X10_worked.at 20 rfl) cs_20000 ?_
        refine X_icmp_geN (tgt := 70) (tk_X10_worked.at 21 rfl) (by decide) eiv (pl 20000 rfl) (by omega) (by omega) (fun c2 => (by exfalso; omega)) (fun c2 => ?_)
        refine X_aload_n (tk_X10_worked.at 22 rfl) rfl ?_
        refine X_getR (tk_X10_worked.at 23 rfl) fl_x10_38 hM.f0 rfl rfl ?_
        refine X_iload_n (tk_X10_worked.at 24 rfl) rfl ?_
        refine X_iload (tk_X10_worked.at 25 rfl) rfl ?_
        refine X_sipush (tk_X10_worked.at 26 rfl) cs_10000 ?_
        refine X_icmp_geN (tgt := 52) (tk_X10_worked.at 27 rfl) (by decide) eiv (pl 10000 rfl) (by omega) (by omega) (fun c3 => ?_) (fun c3 => ?_)
        · refine X_aload_n (tk_X10_worked.at 30 rfl) rfl ?_
          refine X_getR (tk_X10_worked.at 31 rfl) fl_x10_35 hM.f0 rfl rfl ?_
          refine X_iload (tk_X10_worked.at 32 rfl) rfl ?_
          refine X_sipush (tk_X10_worked.at 33 rfl) cs_10000 ?_
          refine X_isub (tk_X10_worked.at 34 rfl) ?_
          refine X_ialdN (k := (iv) - (10000)) (tk_X10_worked.at 35 rfl) hM.f7 (pz (ps eiv (pl 10000 rfl) (by omega)) (by omega)) (by omega) (by decide) ?_
          refine X_iastN (k := (dpt C k)) (tk_X10_worked.at 36 rfl) hM.f8 (pz (pl (dpt C k) rfl) (by omega)) (by omega) (by decide) ?_
          refine X_iinc (lv' := [(0, _), (1, _), (2, _), (3, _), (4, _)]) (tk_X10_worked.at 37 rfl) rfl ci_1 (by decide) rfl rfl ?_
          refine X_goto (tgt := 135) (tk_X10_worked.at 38 rfl) (by decide) ?_
          refine X_iinc (lv' := [(0, _), (1, _), (2, _), (3, _), (4, _)]) (tk_X10_worked.at 78 rfl) rfl ci_1 (by decide) rfl rfl ?_
          refine X_goto (tgt := 4) (tk_X10_worked.at 79 rfl) (by decide) ?_
          rw [su_Mx, nI_1, show nI (211 + 52 * u + k) + 1 = nI (211 + 52 * u + (k + 1)) from nI_1 _]
          refine z _ (fun i hi => ?_) [(4, _)]
          have e2 : evf C (μ (o + 7)) (k + 1) = upd (evf C (μ (o + 7)) k) (dpt C k) (if C k < 10000 then C k else μ (o + 7) (nv (C k) - 10000)) := if_pos h1
          have e3 : C k < 10000 ↔ iv < 10000 := by rw [eiv]; exact nI_ltI hiv (by decide)
          have e4 : nv (C k) = iv := by rw [eiv]; exact nv_nI hiv
          rw [e2, e4]
          by_cases hd : i = (dpt C k)
          · rw [hd, upd_at, upd_at]
            simp only [e3]
            first | rw [if_pos (by omega)] | (rw [if_neg (by omega), Mx_ne (by omega)])
          · rw [upd_ne _ _ hd, upd_ne _ _ hd]; exact hP i (by omega)
        · refine X_iload (tk_X10_worked.at 28 rfl) rfl ?_
          refine X_goto (tgt := 63) (tk_X10_worked.at 29 rfl) (by decide) ?_
          refine X_iastN (k := (dpt C k)) (tk_X10_worked.at 36 rfl) hM.f8 (pz (pl (dpt C k) rfl) (by omega)) (by omega) (by decide) ?_
          refine X_iinc (lv' := [(0, _), (1, _), (2, _), (3, _), (4, _)]) (tk_X10_worked.at 37 rfl) rfl ci_1 (by decide) rfl rfl ?_
          refine X_goto (tgt := 135) (tk_X10_worked.at 38 rfl) (by decide) ?_
          refine X_iinc (lv' := [(0, _), (1, _), (2, _), (3, _), (4, _)]) (tk_X10_worked.at 78 rfl) rfl ci_1 (by decide) rfl rfl ?_
          refine X_goto (tgt := 4) (tk_X10_worked.at 79 rfl) (by decide) ?_
          rw [su_Mx, nI_1, show nI (211 + 52 * u + k) + 1 = nI (211 + 52 * u + (k + 1)) from nI_1 _]
          refine z _ (fun i hi => ?_) [(4, _)]
          have e2 : evf C (μ (o + 7)) (k + 1) = upd (evf C (μ (o + 7)) k) (dpt C k) (if C k < 10000 then C k else μ (o + 7) (nv (C k) - 10000)) := if_pos h1
          have e3 : C k < 10000 ↔ iv < 10000 := by rw [eiv]; exact nI_ltI hiv (by decide)
          have e4 : nv (C k) = iv := by rw [eiv]; exact nv_nI hiv
          rw [e2, e4]
          by_cases hd : i = (dpt C k)
          · rw [hd, upd_at, upd_at]
            simp only [e3]
            first | rw [if_pos (by omega)] | (rw [if_neg (by omega), Mx_ne (by omega)])
          · rw [upd_ne _ _ hd, upd_ne _ _ hd]; exact hP i (by omega)
      · have n1 : ¬ C k < 20000 := by rw [h1]; decide
        have e1 : dpt C (k + 1) = dpt C k := by show (if _ then _ else if _ then _ else _) = _; rw [if_neg n1, if_pos h1]
        rw [e1] at z
        have e2 : evf C (μ (o + 7)) (k + 1) = upd (evf C (μ (o + 7)) k) (dpt C k - 1) (if evf C (μ (o + 7)) k (dpt C k - 1) = 0 then 1 else 0) := by show (if _ then _ else if _ then _ else _) = _; rw [if_neg n1, if_pos h1]
        have e4 := hP (dpt C k - 1) (by omega)
        refine X_iload_n (tk_X10_worked.at 4 rfl) rfl ?_
        refine X_iload_n (tk_X10_worked.at 5 rfl) rfl ?_
        refine X_aload_n (tk_X10_worked.at 6 rfl) rfl ?_
        refine X_getR (tk_X10_worked.at 7 rfl) fl_x10_9 hM.f0 rfl rfl ?_
        refine X_iload_n (tk_X10_worked.at 8 rfl) rfl ?_
        refine X_iconst (tk_X10_worked.at 9 rfl) ci_1 ?_
        refine X_isub (tk_X10_worked.at 10 rfl) ?_
        refine X_ialdN (k := 210 + 52 * u) (tk_X10_worked.at 11 rfl) hM.f1 (pz (ps hx (pl 1 rfl) (by omega)) (by omega)) (by omega) (by decide) ?_
        rw [show Mx μ (o + 8) P (o + 1) = μ (o + 1) from Mx_ne (by omega)]
        refine X_iadd (tk_X10_worked.at 12 rfl) ?_
        refine X_icmp_geN (tgt := 141) (tk_X10_worked.at 13 rfl) (by decide) (pl (211 + 52 * u + k) rfl) (pa hx hln) (by omega) (by omega) (fun c1 => (by exfalso; omega)) (fun c1 => ?_)
        refine X_aload_n (tk_X10_worked.at 14 rfl) rfl ?_
        refine X_getR (tk_X10_worked.at 15 rfl) fl_x10_9 hM.f0 rfl rfl ?_
        refine X_iload_n (tk_X10_worked.at 16 rfl) rfl ?_
        refine X_ialdN (k := 211 + 52 * u + k) (tk_X10_worked.at 17 rfl) hM.f1 (pz (pl (211 + 52 * u + k) rfl) (by omega)) (by omega) (by decide) ?_
        rw [show Mx μ (o + 8) P (o + 1) = μ (o + 1) from Mx_ne (by omega), hCk]
        refine X_istore (lv' := [(0, _), (1, _), (2, _), (3, _), (4, _)]) (tk_X10_worked.at 18 rfl) (by decide) rfl rfl ?_
        refine X_iload (tk_X10_worked.at 19 rfl) rfl ?_
        refine X_sipush (tk_X10_worked.at 20 rfl) cs_20000 ?_
        refine X_icmp_geN (tgt := 70) (tk_X10_worked.at 21 rfl) (by decide) (pl 20010 h1) (pl 20000 rfl) (by omega) (by omega) (fun c2 => ?_) (fun c2 => (by exfalso; omega))
        refine X_iload (tk_X10_worked.at 39 rfl) rfl ?_
        refine X_sipush (tk_X10_worked.at 40 rfl) cs_20010 ?_
        refine X_icmp_neN (tgt := 105) (tk_X10_worked.at 41 rfl) (by decide) (pl 20010 h1) (pl 20010 rfl) (by omega) (by omega) (fun c3 => (by exfalso; omega)) (fun c3 => ?_)
        refine X_aload_n (tk_X10_worked.at 42 rfl) rfl ?_
        refine X_getR (tk_X10_worked.at 43 rfl) fl_x10_38 hM.f0 rfl rfl ?_
        refine X_iload_n (tk_X10_worked.at 44 rfl) rfl ?_
        refine X_iconst (tk_X10_worked.at 45 rfl) ci_1 ?_
        refine X_isub (tk_X10_worked.at 46 rfl) ?_
        refine X_aload_n (tk_X10_worked.at 47 rfl) rfl ?_
        refine X_getR (tk_X10_worked.at 48 rfl) fl_x10_38 hM.f0 rfl rfl ?_
        refine X_iload_n (tk_X10_worked.at 49 rfl) rfl ?_
        refine X_iconst (tk_X10_worked.at 50 rfl) ci_1 ?_
        refine X_isub (tk_X10_worked.at 51 rfl) ?_
        refine X_ialdN (k := ((dpt C k)) - (1)) (tk_X10_worked.at 52 rfl) hM.f8 (pz (ps (pl (dpt C k) rfl) (pl 1 rfl) (by omega)) (by omega)) (by omega) (by decide) ?_
        refine X_if_ne (tgt := 100) (tk_X10_worked.at 53 rfl) (by decide) (fun c4 => ?_) (fun c4 => ?_)
        · refine X_iconst (tk_X10_worked.at 56 rfl) ci_0 ?_
          refine X_iastN (k := ((dpt C k)) - (1)) (tk_X10_worked.at 57 rfl) hM.f8 (pz (ps (pl (dpt C k) rfl) (pl 1 rfl) (by omega)) (by omega)) (by omega) (by decide) ?_
          refine X_goto (tgt := 135) (tk_X10_worked.at 58 rfl) (by decide) ?_
          refine X_iinc (lv' := [(0, _), (1, _), (2, _), (3, _), (4, _)]) (tk_X10_worked.at 78 rfl) rfl ci_1 (by decide) rfl rfl ?_
          refine X_goto (tgt := 4) (tk_X10_worked.at 79 rfl) (by decide) ?_
          rw [su_Mx, show nI (211 + 52 * u + k) + 1 = nI (211 + 52 * u + (k + 1)) from nI_1 _]
          refine z _ (fun i hi => ?_) [(4, _)]
          rw [e2]
          by_cases hd : i = (dpt C k) - 1
          · rw [hd, upd_at, upd_at, ← e4]
            rw [Mx_same] at c4
            simp [c4]
          · rw [upd_ne _ _ hd, upd_ne _ _ hd]; exact hP i (by omega)
        · refine X_iconst (tk_X10_worked.at 54 rfl) ci_1 ?_
          refine X_goto (tgt := 101) (tk_X10_worked.at 55 rfl) (by decide) ?_
          refine X_iastN (k := ((dpt C k)) - (1)) (tk_X10_worked.at 57 rfl) hM.f8 (pz (ps (pl (dpt C k) rfl) (pl 1 rfl) (by omega)) (by omega)) (by omega) (by decide) ?_
          refine X_goto (tgt := 135) (tk_X10_worked.at 58 rfl) (by decide) ?_
          refine X_iinc (lv' := [(0, _), (1, _), (2, _), (3, _), (4, _)]) (tk_X10_worked.at 78 rfl) rfl ci_1 (by decide) rfl rfl ?_
          refine X_goto (tgt := 4) (tk_X10_worked.at 79 rfl) (by decide) ?_
          rw [su_Mx, show nI (211 + 52 * u + k) + 1 = nI (211 + 52 * u + (k + 1)) from nI_1 _]
          refine z _ (fun i hi => ?_) [(4, _)]
          rw [e2]
          by_cases hd : i = (dpt C k) - 1
          · rw [hd, upd_at, upd_at, ← e4]
            rw [Mx_same] at c4
            simp [c4]
          · rw [upd_ne _ _ hd, upd_ne _ _ hd]; exact hP i (by omega)
      · obtain ⟨iv, hiv, eiv⟩ := nI_of (x := C k) (fun zz => h1 (Int32.lt_trans zz (by decide)))
        have g1 : 20000 ≤ iv := by
          rcases Nat.lt_or_ge iv 20000 with y | y
          · exact absurd (by rw [eiv]; exact lt_nI y (by decide)) h1
          · exact y
        have g2 : iv < 20010 := by rw [eiv] at h2; exact (nI_ltI hiv (by decide)).mp h2
        have n2 : ¬ C k = 20010 := by rw [eiv]; exact fun y => absurd ((nI_eq (b := 20010) hiv (by decide)).mp y) (by omega)
        have e1 : dpt C (k + 1) = dpt C k - 1 := by show (if _ then _ else if _ then _ else _) = _; rw [if_neg h1, if_neg n2]
        rw [e1] at z
        have e2 : evf C (μ (o + 7)) (k + 1) = upd (evf C (μ (o + 7)) k) (dpt C k - 2) (dn (C k) (evf C (μ (o + 7)) k (dpt C k - 2)) (evf C (μ (o + 7)) k (dpt C k - 1))) := by show (if _ then _ else if _ then _ else _) = _; rw [if_neg h1, if_neg n2]
        have e4 := hP (dpt C k - 1) (by omega)
        have e5 := hP (dpt C k - 2) (by omega)
        have e6 : dpt C k - 1 - 1 = dpt C k - 2 := by omega
        refine X_iload_n (tk_X10_worked.at 4 rfl) rfl ?_
        refine X_iload_n (tk_X10_worked.at 5 rfl) rfl ?_
        refine X_aload_n (tk_X10_worked.at 6 rfl) rfl ?_
        refine X_getR (tk_X10_worked.at 7 rfl) fl_x10_9 hM.f0 rfl rfl ?_
        refine X_iload_n (tk_X10_worked.at 8 rfl) rfl ?_
        refine X_iconst (tk_X10_worked.at 9 rfl) ci_1 ?_
        refine X_isub (tk_X10_worked.at 10 rfl) ?_
        refine X_ialdN (k := 210 + 52 * u) (tk_X10_worked.at 11 rfl) hM.f1 (pz (ps hx (pl 1 rfl) (by omega)) (by omega)) (by omega) (by decide) ?_
        rw [show Mx μ (o + 8) P (o + 1) = μ (o + 1) from Mx_ne (by omega)]
        refine X_iadd (tk_X10_worked.at 12 rfl) ?_
        refine X_icmp_geN (tgt := 141) (tk_X10_worked.at 13 rfl) (by decide) (pl (211 + 52 * u + k) rfl) (pa hx hln) (by omega) (by omega) (fun c1 => (by exfalso; omega)) (fun c1 => ?_)
        refine X_aload_n (tk_X10_worked.at 14 rfl) rfl ?_
        refine X_getR (tk_X10_worked.at 15 rfl) fl_x10_9 hM.f0 rfl rfl ?_
        refine X_iload_n (tk_X10_worked.at 16 rfl) rfl ?_
        refine X_ialdN (k := 211 + 52 * u + k) (tk_X10_worked.at 17 rfl) hM.f1 (pz (pl (211 + 52 * u + k) rfl) (by omega)) (by omega) (by decide) ?_
        rw [show Mx μ (o + 8) P (o + 1) = μ (o + 1) from Mx_ne (by omega), hCk]
        refine X_istore (lv' := [(0, _), (1, _), (2, _), (3, _), (4, _)]) (tk_X10_worked.at 18 rfl) (by decide) rfl rfl ?_
        refine X_iload (tk_X10_worked.at 19 rfl) rfl ?_
        refine X_sipush (tk_X10_worked.at 20 rfl) cs_20000 ?_
        refine X_icmp_geN (tgt := 70) (tk_X10_worked.at 21 rfl) (by decide) eiv (pl 20000 rfl) (by omega) (by omega) (fun c2 => ?_) (fun c2 => (by exfalso; omega))
        refine X_iload (tk_X10_worked.at 39 rfl) rfl ?_
        refine X_sipush (tk_X10_worked.at 40 rfl) cs_20010 ?_
        refine X_icmp_neN (tgt := 105) (tk_X10_worked.at 41 rfl) (by decide) eiv (pl 20010 rfl) (by omega) (by omega) (fun c3 => ?_) (fun c3 => (by exfalso; omega))
        refine X_iinc (lv' := [(0, _), (1, _), (2, _), (3, _), (4, _)]) (tk_X10_worked.at 59 rfl) rfl ci_m1 (by decide) rfl rfl ?_
        refine X_aload_n (tk_X10_worked.at 60 rfl) rfl ?_
        refine X_getR (tk_X10_worked.at 61 rfl) fl_x10_38 hM.f0 rfl rfl ?_
        refine X_iload_n (tk_X10_worked.at 62 rfl) rfl ?_
        refine X_iconst (tk_X10_worked.at 63 rfl) ci_1 ?_
        refine X_isub (tk_X10_worked.at 64 rfl) ?_
        refine X_iload (tk_X10_worked.at 65 rfl) rfl ?_
        refine X_aload_n (tk_X10_worked.at 66 rfl) rfl ?_
        refine X_getR (tk_X10_worked.at 67 rfl) fl_x10_38 hM.f0 rfl rfl ?_
        refine X_iload_n (tk_X10_worked.at 68 rfl) rfl ?_
        refine X_iconst (tk_X10_worked.at 69 rfl) ci_1 ?_
        refine X_isub (tk_X10_worked.at 70 rfl) ?_
        refine X_ialdN (k := ((((dpt C k)) - 1)) - (1)) (tk_X10_worked.at 71 rfl) hM.f8 (pz (ps (pm1 (pl (dpt C k) rfl) (by omega)) (pl 1 rfl) (by omega)) (by omega)) (by omega) (by decide) ?_
        refine X_aload_n (tk_X10_worked.at 72 rfl) rfl ?_
        refine X_getR (tk_X10_worked.at 73 rfl) fl_x10_38 hM.f0 rfl rfl ?_
        refine X_iload_n (tk_X10_worked.at 74 rfl) rfl ?_
        refine X_ialdN (k := (((dpt C k)) - 1)) (tk_X10_worked.at 75 rfl) hM.f8 (pz (pm1 (pl (dpt C k) rfl) (by omega)) (by omega)) (by omega) (by decide) ?_
        refine X_cS3i (lv2 := [(0, _), (1, _), (2, _)]) (tk_X10_worked.at 76 rfl) ms_X10_done lk_x10_240 np_X10_done (Nat.le_of_ble_eq_true rfl) (Nat.le_of_ble_eq_true rfl) rfl (c10_done eiv (by omega) (by omega) ?_)
        refine X_iastN (k := ((((dpt C k)) - 1)) - (1)) (tk_X10_worked.at 77 rfl) hM.f8 (pz (ps (pm1 (pl (dpt C k) rfl) (by omega)) (pl 1 rfl) (by omega)) (by omega)) (by omega) (by decide) ?_
        refine X_iinc (lv' := [(0, _), (1, _), (2, _), (3, _), (4, _)]) (tk_X10_worked.at 78 rfl) rfl ci_1 (by decide) rfl rfl ?_
        refine X_goto (tgt := 4) (tk_X10_worked.at 79 rfl) (by decide) ?_
        rw [su_Mx, show nI (211 + 52 * u + k) + 1 = nI (211 + 52 * u + (k + 1)) from nI_1 _, Mx_same, e6, pm1 (pl (dpt C k) rfl) (by omega)]
        refine z _ (fun i hi => ?_) [(4, _)]
        rw [e2]
        by_cases hd : i = (dpt C k) - 2
        · rw [hd, upd_at, upd_at, e4, e5]
        · rw [upd_ne _ _ hd, upd_ne _ _ hd]; exact hP i (by omega)
  refine X_iconst (tk_X10_worked.at 0 rfl) ci_0 ?_
  refine X_istore_n (lv' := [(0, _), (1, _), (2, _)]) (tk_X10_worked.at 1 rfl) (by decide) rfl rfl ?_
  refine X_iload_n (tk_X10_worked.at 2 rfl) rfl ?_
  refine X_istore_n (lv' := [(0, _), (1, _), (2, _), (3, _)]) (tk_X10_worked.at 3 rfl) (by decide) rfl rfl ?_
  have z := loop _ 0 (μ (o + 8)) (Nat.zero_add _) (fun i hi => absurd hi (Nat.not_lt_zero i)) []
  rw [Mx_self] at z
  subst hx
  exact z
end
section
/-- the reference's scratch for crossings: over, comes, before, named, pile -/
def Tst (μ : Mu) (o : Nat) (ov : Int32) (cm bf f P : Nat → Int32) : Mu := fun a => if a = o then upd (μ o) 17 ov else if a = o + 7 then f else if a = o + 8 then P else if a = o + 9 then cm else if a = o + 10 then bf else μ a
section
variable (μ : Mu) (o : Nat) (ov : Int32) (cm bf f P : Nat → Int32)
theorem Tst1 : Tst μ o ov cm bf f P (o + 1) = μ (o + 1) := by unfold Tst; rw [if_neg (by omega), if_neg (by omega), if_neg (by omega), if_neg (by omega), if_neg (by omega)]
theorem Tst9 : Tst μ o ov cm bf f P (o + 9) = cm := by unfold Tst; rw [if_neg (by omega), if_neg (by omega), if_neg (by omega), if_pos rfl]
theorem Tst10 : Tst μ o ov cm bf f P (o + 10) = bf := by unfold Tst; rw [if_neg (by omega), if_neg (by omega), if_neg (by omega), if_neg (by omega), if_pos rfl]
theorem Tst7 : Tst μ o ov cm bf f P (o + 7) = f := by unfold Tst; rw [if_neg (by omega), if_pos rfl]
theorem Tst8 : Tst μ o ov cm bf f P (o + 8) = P := by unfold Tst; rw [if_neg (by omega), if_neg (by omega), if_pos rfl]
theorem Tsto : Tst μ o ov cm bf f P o = upd (μ o) 17 ov := by unfold Tst; rw [if_pos rfl]
theorem Tst5 : Tst μ o ov cm bf f P o 5 = μ o 5 := by rw [Tsto, upd_ne _ _ (by decide)]
theorem Tst17 : Tst μ o ov cm bf f P o 17 = ov := by rw [Tsto, upd_at]
theorem Tst_out {a : Nat} (h : a ≠ o ∧ a ≠ o + 7 ∧ a ≠ o + 8 ∧ a ≠ o + 9 ∧ a ≠ o + 10) : Tst μ o ov cm bf f P a = μ a := by
  unfold Tst
  rw [if_neg h.1, if_neg h.2.1, if_neg h.2.2.1, if_neg h.2.2.2.1, if_neg h.2.2.2.2]
theorem Tst_Tst (ov' : Int32) (cm' bf' f' P' : Nat → Int32) : Tst (Tst μ o ov cm bf f P) o ov' cm' bf' f' P' = Tst μ o ov' cm' bf' f' P' := by
  funext a
  by_cases h : a = o
  · subst h
    rw [Tsto, Tsto, Tsto, upd_upd]
  · unfold Tst
    simp only [h, if_false]
    split
    · rfl
    · split
      · rfl
      · split
        · rfl
        · split
          · rfl
          · rfl
theorem Tst_self : Tst μ o (μ o 17) (μ (o + 9)) (μ (o + 10)) (μ (o + 7)) (μ (o + 8)) = μ := by
  funext a
  unfold Tst
  by_cases h : a = o
  · subst h
    rw [if_pos rfl]
    funext i
    unfold upd
    by_cases e : i = 17
    · rw [if_pos e, e]
    · rw [if_neg e]
  · rw [if_neg h]
    split
    · next e => rw [e]
    · split
      · next e => rw [e]
      · split
        · next e => rw [e]
        · split
          · next e => rw [e]
          · rfl
theorem Tst_f (g : Nat → Int32) : Mx (Tst μ o ov cm bf f P) (o + 7) g = Tst μ o ov cm bf g P := by
  funext a
  unfold Mx
  by_cases h : a = o + 7
  · rw [if_pos h, h, Tst7]
  · rw [if_neg h]
    unfold Tst
    rw [if_neg h, if_neg h]
theorem Tst_P (g : Nat → Int32) : Mx (Tst μ o ov cm bf f P) (o + 8) g = Tst μ o ov cm bf f g := by
  funext a
  unfold Mx
  by_cases h : a = o + 8
  · rw [if_pos h, h, Tst8]
  · rw [if_neg h]
    unfold Tst
    rw [if_neg h, if_neg h]
theorem Tst_cm (g : Nat → Int32) : Mx (Tst μ o ov cm bf f P) (o + 9) g = Tst μ o ov g bf f P := by
  funext a
  unfold Mx
  by_cases h : a = o + 9
  · rw [if_pos h, h, Tst9]
  · rw [if_neg h]
    unfold Tst
    rw [if_neg h, if_neg h]
theorem Tst_bf (g : Nat → Int32) : Mx (Tst μ o ov cm bf f P) (o + 10) g = Tst μ o ov cm g f P := by
  funext a
  unfold Mx
  by_cases h : a = o + 10
  · rw [if_pos h, h, Tst10]
  · rw [if_neg h]
    unfold Tst
    rw [if_neg h, if_neg h]
theorem Tst_ov (x : Int32) : su (Tst μ o ov cm bf f P) o 17 x = Tst μ o x cm bf f P := by
  rw [su_eq, Tsto, upd_upd]
  funext a
  unfold Mx
  by_cases h : a = o
  · rw [if_pos h, h, Tsto]
  · rw [if_neg h]
    unfold Tst
    rw [if_neg h, if_neg h]
end
def nm5 (a b c d e : Int32) : Nat → Int32 := upd (upd (upd (upd (upd (fun _ => 0) 0 a) 1 b) 2 c) 3 d) 4 e
theorem evf_congr {C nm nm' : Nat → Int32} {n : Nat} (hok : ∀ k, k < n → (C k < 20000 ∧ 0 ≤ C k ∧ C k < 10005) ∨ (C k = 20010 ∧ 1 ≤ dpt C k) ∨ (¬ C k < 20000 ∧ C k < 20010 ∧ 2 ≤ dpt C k)) (h : ∀ i, i < 5 → nm i = nm' i) : ∀ k, k ≤ n → evf C nm k = evf C nm' k
  | 0, _ => rfl
  | k + 1, hk => by
    have ih := evf_congr hok h k (by omega)
    have hok' := hok k (by omega)
    unfold evf
    rw [ih]
    split
    · next h1 =>
      congr 1
      split
      · rfl
      · next h2 =>
        apply h
        rcases hok' with ⟨g1, g2, g3⟩ | ⟨g1, -⟩ | ⟨g1, -⟩
        · obtain ⟨j, hj, e⟩ := nI_of (Int32.not_lt.mpr g2)
          rw [e] at g3 h2 ⊢
          rw [nv_nI hj]
          have := (nI_ltI (b := 10005) hj (by decide)).mp g3
          omega
        · rw [g1] at h1; exact absurd h1 (by decide)
        · exact absurd h1 g1
    · rfl
def gvV (N : Nat → Int32) (u : Nat) (a b c d e : Int32) : Int32 := if 0 < nv (N (210 + 52 * u)) then evf (fun k => N (211 + 52 * u + k)) (nm5 a b c d e) (nv (N (210 + 52 * u))) 0 else if u = 0 then a + e * b + 10 * c - d else dn 20008 (a * b) (c + 1) + 5
def cap (u : Nat) : Int32 := if u = 0 then 1000 else 999
def gv (N : Nat → Int32) (u : Nat) (a b c d e : Int32) : Int32 := mx0 (if gvV N u a b c d e < cap u then gvV N u a b c d e else cap u)
theorem gv_ok (N : Nat → Int32) (u : Nat) (a b c d e : Int32) : okN (gv N u a b c d e) 1000 := by
  have h2 : (if gvV N u a b c d e < cap u then gvV N u a b c d e else cap u) ≤ nI 1000 := by
    have h3 : cap u ≤ nI 1000 := by unfold cap; split <;> decide
    split
    · next h => exact Int32.le_trans (Int32.le_of_lt h) h3
    · exact h3
  unfold gv mx0
  generalize (if gvV N u a b c d e < cap u then gvV N u a b c d e else cap u) = x at h2
  split
  · next h =>
    have h4 := le_lits (a := 0) (b := 1000) (by decide) (show nI 0 ≤ x from Int32.le_of_lt h) h2 (by decide)
    exact ⟨h4.1, h4.2.2⟩
  · exact okN_of (n := 0) (by decide) (by decide)
set_option maxHeartbeats 1000000 in
theorem c10_given {G : Gl} {d : Nat} {S : Sh} {μ : Mu} {o : Nat} {q : Nat → Nat} {x a b c e f : Int32} {u : Nat} {K : Int32 → Sh → Mu → Prop} (hM : MS S o q) (hw : WF (μ (o + 1))) (hu : u < 2) (hx : x = nI u) (hK : ∀ h P, K (gv (μ (o + 1)) u a b c e f) S (Tst μ o (μ o 17) (μ (o + 9)) (μ (o + 10)) h P)) : X G mi_X10_given (d + 2) 0 0 [(0, .ref o), (1, .int x), (2, .int a), (3, .int b), (4, .int c), (5, .int e), (6, .int f)] [] S μ (qi K) := by
  obtain ⟨hlo, hok, hfin⟩ := hw.tx hu
  have hln := hlo.1
  have bln := hlo.2
  have e7 : su (su (su (su (su μ (o + 7) 0 a) (o + 7) 1 b) (o + 7) 2 c) (o + 7) 3 e) (o + 7) 4 f = Mx μ (o + 7) (upd (upd (upd (upd (upd (μ (o + 7)) 0 a) 1 b) 2 c) 3 e) 4 f) := by simp only [su_eq, Mx_same, Mx_Mx]
  have tail : ∀ (V : Int32) (P : Nat → Int32), gvV (μ (o + 1)) u a b c e f = V → X G mi_X10_given (d + 2) 0 112 [(0, .ref o), (1, .int x), (2, .int a), (3, .int b), (4, .int c), (5, .int e), (6, .int f), (7, .int (nI (211 + 52 * u))), (8, .int V)] [] S (Tst μ o (μ o 17) (μ (o + 9)) (μ (o + 10)) (upd (upd (upd (upd (upd (μ (o + 7)) 0 a) 1 b) 2 c) 3 e) 4 f) P) (qi K) := by
    intro V P hV
    have z := hK (upd (upd (upd (upd (upd (μ (o + 7)) 0 a) 1 b) 2 c) 3 e) 4 f) P
    unfold gv at z
    rw [hV] at z
    refine X_iconst (tk_X10_given.at 70 rfl) ci_0 ?_
    refine X_iload_n (tk_X10_given.at 71 rfl) rfl ?_
    refine X_if_neN (tgt := 123) (tk_X10_given.at 72 rfl) (by decide) hx (by omega) (fun c1 => ?_) (fun c1 => ?_)
    · refine X_sipush (tk_X10_given.at 75 rfl) cs_999 ?_
      refine X_iload (tk_X10_given.at 76 rfl) rfl ?_
      refine X_min (tk_X10_given.at 77 rfl) lk_x10_246 (Nat.le_of_ble_eq_true rfl) ?_
      refine X_max (tk_X10_given.at 78 rfl) lk_x10_164 (Nat.le_of_ble_eq_true rfl) ?_
      refine X_ireturn (tk_X10_given.at 79 rfl) rfl rfl ?_
      rw [show cap u = 999 from if_neg c1] at z
      exact z
    · refine X_sipush (tk_X10_given.at 73 rfl) cs_1000 ?_
      refine X_goto (tgt := 126) (tk_X10_given.at 74 rfl) (by decide) ?_
      refine X_iload (tk_X10_given.at 76 rfl) rfl ?_
      refine X_min (tk_X10_given.at 77 rfl) lk_x10_246 (Nat.le_of_ble_eq_true rfl) ?_
      refine X_max (tk_X10_given.at 78 rfl) lk_x10_164 (Nat.le_of_ble_eq_true rfl) ?_
      refine X_ireturn (tk_X10_given.at 79 rfl) rfl rfl ?_
      rw [show cap u = 1000 from if_pos c1] at z
      exact z
  refine X_aload_n (tk_X10_given.at 0 rfl) rfl ?_
  refine X_getR (tk_X10_given.at 1 rfl) fl_x10_35 hM.f0 rfl rfl ?_
  refine X_iconst (tk_X10_given.at 2 rfl) ci_0 ?_
  refine X_iload_n (tk_X10_given.at 3 rfl) rfl ?_
  refine X_iastN (k := 0) (tk_X10_given.at 4 rfl) hM.f7 (pz (pl 0 rfl) (by omega)) (by omega) (by decide) ?_
  refine X_aload_n (tk_X10_given.at 5 rfl) rfl ?_
  refine X_getR (tk_X10_given.at 6 rfl) fl_x10_35 hM.f0 rfl rfl ?_
  refine X_iconst (tk_X10_given.at 7 rfl) ci_1 ?_
  refine X_iload_n (tk_X10_given.at 8 rfl) rfl ?_
  refine X_iastN (k := 1) (tk_X10_given.at 9 rfl) hM.f7 (pz (pl 1 rfl) (by omega)) (by omega) (by decide) ?_
  refine X_aload_n (tk_X10_given.at 10 rfl) rfl ?_
  refine X_getR (tk_X10_given.at 11 rfl) fl_x10_35 hM.f0 rfl rfl ?_
  refine X_iconst (tk_X10_given.at 12 rfl) ci_2 ?_
  refine X_iload (tk_X10_given.at 13 rfl) rfl ?_
  refine X_iastN (k := 2) (tk_X10_given.at 14 rfl) hM.f7 (pz (pl 2 rfl) (by omega)) (by omega) (by decide) ?_
  refine X_aload_n (tk_X10_given.at 15 rfl) rfl ?_
  refine X_getR (tk_X10_given.at 16 rfl) fl_x10_35 hM.f0 rfl rfl ?_
  refine X_iconst (tk_X10_given.at 17 rfl) ci_3 ?_
  refine X_iload (tk_X10_given.at 18 rfl) rfl ?_
  refine X_iastN (k := 3) (tk_X10_given.at 19 rfl) hM.f7 (pz (pl 3 rfl) (by omega)) (by omega) (by decide) ?_
  refine X_aload_n (tk_X10_given.at 20 rfl) rfl ?_
  refine X_getR (tk_X10_given.at 21 rfl) fl_x10_35 hM.f0 rfl rfl ?_
  refine X_iconst (tk_X10_given.at 22 rfl) ci_4 ?_
  refine X_iload (tk_X10_given.at 23 rfl) rfl ?_
  refine X_iastN (k := 4) (tk_X10_given.at 24 rfl) hM.f7 (pz (pl 4 rfl) (by omega)) (by omega) (by decide) ?_
  rw [e7]
  refine X_sipush (tk_X10_given.at 25 rfl) cs_210 ?_
  refine X_bipush (tk_X10_given.at 26 rfl) cb_52 ?_
  refine X_iload_n (tk_X10_given.at 27 rfl) rfl ?_
  refine X_imul (tk_X10_given.at 28 rfl) ?_
  refine X_iadd (tk_X10_given.at 29 rfl) ?_
  refine X_iconst (tk_X10_given.at 30 rfl) ci_1 ?_
  refine X_iadd (tk_X10_given.at 31 rfl) ?_
  refine X_istore (lv' := [(0, _), (1, _), (2, _), (3, _), (4, _), (5, _), (6, _), (7, _)]) (tk_X10_given.at 32 rfl) (by decide) rfl rfl ?_
  rw [show ((210 : Int32) + 52 * x + 1) = nI (211 + 52 * u) from pz (pa (pa (pl 210 rfl) (pm (pl 52 rfl) hx)) (pl 1 rfl)) (by omega)]
  refine X_aload_n (tk_X10_given.at 33 rfl) rfl ?_
  refine X_getR (tk_X10_given.at 34 rfl) fl_x10_9 hM.f0 rfl rfl ?_
  refine X_iload (tk_X10_given.at 35 rfl) rfl ?_
  refine X_iconst (tk_X10_given.at 36 rfl) ci_1 ?_
  refine X_isub (tk_X10_given.at 37 rfl) ?_
  refine X_ialdN (k := 210 + 52 * u) (tk_X10_given.at 38 rfl) hM.f1 (pz (ps (pl (211 + 52 * u) rfl) (pl 1 rfl) (by omega)) (by omega)) (by omega) (by decide) ?_
  rw [Mx_ne (show o + 1 ≠ o + 7 by omega)]
  refine X_if_leN (tgt := 73) (tk_X10_given.at 39 rfl) (by decide) hln (by omega) (fun c1 => ?_) (fun c1 => ?_)
  · refine X_iload_n (tk_X10_given.at 45 rfl) rfl ?_
    refine X_if_neN (tgt := 95) (tk_X10_given.at 46 rfl) (by decide) hx (by omega) (fun c2 => ?_) (fun c2 => ?_)
    · refine X_sipush (tk_X10_given.at 59 rfl) cs_20008 ?_
      refine X_iload_n (tk_X10_given.at 60 rfl) rfl ?_
      refine X_iload_n (tk_X10_given.at 61 rfl) rfl ?_
      refine X_imul (tk_X10_given.at 62 rfl) ?_
      refine X_iload (tk_X10_given.at 63 rfl) rfl ?_
      refine X_iconst (tk_X10_given.at 64 rfl) ci_1 ?_
      refine X_iadd (tk_X10_given.at 65 rfl) ?_
      refine X_cS3i (lv2 := [(0, _), (1, _), (2, _)]) (tk_X10_given.at 66 rfl) ms_X10_done lk_x10_240 np_X10_done (Nat.le_of_ble_eq_true rfl) (Nat.le_of_ble_eq_true rfl) rfl (c10_done (pl 20008 rfl) (by omega) (by omega) ?_)
      refine X_iconst (tk_X10_given.at 67 rfl) ci_5 ?_
      refine X_iadd (tk_X10_given.at 68 rfl) ?_
      refine X_istore (lv' := [(0, _), (1, _), (2, _), (3, _), (4, _), (5, _), (6, _), (7, _), (8, _)]) (tk_X10_given.at 69 rfl) (by decide) rfl rfl ?_
      have z := tail _ (μ (o + 8)) (show gvV (μ (o + 1)) u a b c e f = ((dn 20008 (a * b) (c + 1)) + 5) from ?_)
      · rw [show Tst μ o (μ o 17) (μ (o + 9)) (μ (o + 10)) (upd (upd (upd (upd (upd (μ (o + 7)) 0 a) 1 b) 2 c) 3 e) 4 f) (μ (o + 8)) = Mx μ (o + 7) (upd (upd (upd (upd (upd (μ (o + 7)) 0 a) 1 b) 2 c) 3 e) 4 f) from by rw [← Tst_f, Tst_self]] at z
        exact z
      · unfold gvV
        rw [if_neg (by omega)]
        exact if_neg c2
    · refine X_iload_n (tk_X10_given.at 47 rfl) rfl ?_
      refine X_iload (tk_X10_given.at 48 rfl) rfl ?_
      refine X_iload_n (tk_X10_given.at 49 rfl) rfl ?_
      refine X_imul (tk_X10_given.at 50 rfl) ?_
      refine X_iadd (tk_X10_given.at 51 rfl) ?_
      refine X_bipush (tk_X10_given.at 52 rfl) cb_10 ?_
      refine X_iload (tk_X10_given.at 53 rfl) rfl ?_
      refine X_imul (tk_X10_given.at 54 rfl) ?_
      refine X_iadd (tk_X10_given.at 55 rfl) ?_
      refine X_iload (tk_X10_given.at 56 rfl) rfl ?_
      refine X_isub (tk_X10_given.at 57 rfl) ?_
      refine X_goto (tgt := 110) (tk_X10_given.at 58 rfl) (by decide) ?_
      refine X_istore (lv' := [(0, _), (1, _), (2, _), (3, _), (4, _), (5, _), (6, _), (7, _), (8, _)]) (tk_X10_given.at 69 rfl) (by decide) rfl rfl ?_
      have z := tail _ (μ (o + 8)) (show gvV (μ (o + 1)) u a b c e f = (((a + (f * b)) + (10 * c)) - e) from ?_)
      · rw [show Tst μ o (μ o 17) (μ (o + 9)) (μ (o + 10)) (upd (upd (upd (upd (upd (μ (o + 7)) 0 a) 1 b) 2 c) 3 e) 4 f) (μ (o + 8)) = Mx μ (o + 7) (upd (upd (upd (upd (upd (μ (o + 7)) 0 a) 1 b) 2 c) 3 e) 4 f) from by rw [← Tst_f, Tst_self]] at z
        exact z
      · unfold gvV
        rw [if_neg (by omega)]
        exact if_pos c2
  · refine X_aload_n (tk_X10_given.at 40 rfl) rfl ?_
    refine X_iload (tk_X10_given.at 41 rfl) rfl ?_
    refine X_cV1i (lv2 := [(0, _), (1, _)]) (tk_X10_given.at 42 rfl) mv_X10_worked lk_x10_243 np_X10_worked hM.f0 (by decide) rfl (Nat.le_of_ble_eq_true rfl) (Nat.le_of_ble_eq_true rfl) rfl (c10_worked (μ := (Mx μ (o + 7) (upd (upd (upd (upd (upd (μ (o + 7)) 0 a) 1 b) 2 c) 3 e) 4 f))) hM (by rw [Mx_ne (by omega)]; exact hw) hu rfl (by rw [Mx_ne (by omega)]; omega) (fun P => ?_))
    rw [Mx_ne (show o + 1 ≠ o + 7 by omega), Mx_same]
    rw [show Mx (Mx μ (o + 7) (upd (upd (upd (upd (upd (μ (o + 7)) 0 a) 1 b) 2 c) 3 e) 4 f)) (o + 8) P = Tst μ o (μ o 17) (μ (o + 9)) (μ (o + 10)) (upd (upd (upd (upd (upd (μ (o + 7)) 0 a) 1 b) 2 c) 3 e) 4 f) P from by rw [← Tst_P, ← Tst_f, Tst_self]]
    refine X_istore (lv' := [(0, _), (1, _), (2, _), (3, _), (4, _), (5, _), (6, _), (7, _), (8, _)]) (tk_X10_given.at 43 rfl) (by decide) rfl rfl ?_
    refine X_goto (tgt := 112) (tk_X10_given.at 44 rfl) (by decide) ?_
    have z := tail _ P (show gvV (μ (o + 1)) u a b c e f = evf (fun k => μ (o + 1) (211 + 52 * u + k)) (upd (upd (upd (upd (upd (μ (o + 7)) 0 a) 1 b) 2 c) 3 e) 4 f) (nv (μ (o + 1) (210 + 52 * u))) 0 from ?_)
    · exact z
    · unfold gvV
      rw [if_pos c1]
      exact congrFun (evf_congr hok (fun i hi => by rcases (show i = 0 ∨ i = 1 ∨ i = 2 ∨ i = 3 ∨ i = 4 by omega) with rfl | rfl | rfl | rfl | rfl <;> rfl) _ (Nat.le_refl _)) 0
end
section
theorem lb0 (x : Int32) : ¬ lb 0 x := by
  unfold lb
  have e : (0 : Int32) >>> (x &&& 31) = 0 := by
    apply Int32.toBitVec_inj.mp
    simp
  rw [e]
  decide
def cst (N : Nat → Int32) (L : Int32) (r f c : Nat) : Nat := if pull N (nv (N (84 + 9 * r + f))) c ≤ hs N L r f (nv (N (83 + 9 * r))) then 0 else if nv (N (80 + 9 * r)) = 6 then 1 else nv (N (83 + 9 * r))
def ssum (N : Nat → Int32) (r : Nat) : Nat → Int32
  | 0 => 0
  | i + 1 => ssum N r i + N (9 + 4 * nv (N (84 + 9 * r + i)))
/-- the slowest pace of the first n on a rope -/
def pcn (N : Nat → Int32) (r : Nat) : Nat → Nat
  | 0 => 0
  | i + 1 => if pcn N r i < nv (N (10 + 4 * nv (N (84 + 9 * r + i)))) then nv (N (10 + 4 * nv (N (84 + 9 * r + i)))) else pcn N r i
theorem mx_nI {a b : Nat} (ha : a < 2 ^ 31) (hb : b < 2 ^ 31) : (if nI a < nI b then nI b else nI a) = nI (if a < b then b else a) := by
  by_cases h : a < b
  · rw [if_pos (nI_lt h hb), if_pos h]
  · rw [if_neg (nI_nlt (by omega) ha), if_neg h]
set_option maxHeartbeats 1000000 in
theorem c10_holdOfN {G : Gl} {d : Nat} {S : Sh} {μ : Mu} {o : Nat} {q : Nat → Nat} {r y : Int32} {rn f : Nat} {N : Nat → Int32} {L : Int32} {K : Int32 → Sh → Mu → Prop} (hM : MS S o q) (hN : μ (o + 1) = N) (hL : μ o 5 = L) (hw : WF N) (hr : r = nI rn) (hrn : rn < nv (N 3)) (hy : y = nI f) (hf : f < nv (N (83 + 9 * rn))) (nlf : ¬ lb L (N (84 + 9 * rn + f))) (hK : K (hs N L rn f (nv (N (83 + 9 * rn)))) S μ) : X G mi_X10_holdOf (d + 4) 0 0 [(0, .ref o), (1, .int r), (2, .int y)] [] S μ (qi K) := by
  subst hN
  subst hL
  exact c10_holdOf hM hw hr hrn hy hf nlf hK
set_option maxHeartbeats 1000000 in
theorem c10_isHeld {G : Gl} {d : Nat} {S : Sh} {μ : Mu} {o : Nat} {q : Nat → Nat} {r y z : Int32} {rn f cn : Nat} {N : Nat → Int32} {L : Int32} {K : Int32 → Sh → Mu → Prop} (hM : MS S o q) (hN : μ (o + 1) = N) (hL : μ o 5 = L) (hw : WF N) (hr : r = nI rn) (hrn : rn < nv (N 3)) (hy : y = nI f) (hf : f < nv (N (83 + 9 * rn))) (hz : z = nI cn) (hcn : cn < nv (N 2)) (nlf : ¬ lb L (N (84 + 9 * rn + f))) (kt : pull N (nv (N (84 + 9 * rn + f))) cn ≤ hs N L rn f (nv (N (83 + 9 * rn))) → K 1 S μ) (kf : ¬ pull N (nv (N (84 + 9 * rn + f))) cn ≤ hs N L rn f (nv (N (83 + 9 * rn))) → K 0 S μ) : X G mi_X10_isHeld (d + 5) 0 0 [(0, .ref o), (1, .int r), (2, .int y), (3, .int z)] [] S μ (qi K) := by
  subst hN
  subst hL
  have w0 := hw.n0
  have w1 := hw.n1
  have w2 := hw.n2
  have w3 := hw.n3
  have w4 := hw.n4
  have w5 := hw.n5
  have w6 := hw.n6
  have b1 := w1.2
  have b2 := w2.2
  have b3 := w3.2
  have b4 := w4.2
  have b5 := w5.2
  have b6 := w6.2
  have b0 := w0.2
  have wr := hw.ro (p := rn) hrn
  have wk := wr.1
  have bk := wk.2
  have hm := wr.2.2.2.1.1
  have bm := wr.2.2.2.1.2
  have wp := wr.2.2.2.2 f hf
  have bp := wp.2
  refine X_aload_n (tk_X10_isHeld.at 0 rfl) rfl ?_
  refine X_iload_n (tk_X10_isHeld.at 1 rfl) rfl ?_
  refine X_iload_n (tk_X10_isHeld.at 2 rfl) rfl ?_
  refine X_cV2i (lv2 := [(0, _), (1, _), (2, _)]) (tk_X10_isHeld.at 3 rfl) mv_X10_holdOf lk_x10_171 np_X10_holdOf hM.f0 (by decide) rfl (Nat.le_of_ble_eq_true rfl) (Nat.le_of_ble_eq_true rfl) rfl (c10_holdOf hM hw hr hrn hy hf nlf ?_)
  refine X_aload_n (tk_X10_isHeld.at 4 rfl) rfl ?_
  refine X_aload_n (tk_X10_isHeld.at 5 rfl) rfl ?_
  refine X_iload_n (tk_X10_isHeld.at 6 rfl) rfl ?_
  refine X_iload_n (tk_X10_isHeld.at 7 rfl) rfl ?_
  refine X_cV2i (lv2 := [(0, _), (1, _), (2, _)]) (tk_X10_isHeld.at 8 rfl) mv_X10_who lk_x10_121 np_X10_who hM.f0 (by decide) rfl (Nat.le_of_ble_eq_true rfl) (Nat.le_of_ble_eq_true rfl) rfl (c10_who hM hr hy (by omega) (by omega) ?_)
  refine X_iconst (tk_X10_isHeld.at 9 rfl) ci_0 ?_
  refine X_cV2i (lv2 := [(0, _), (1, _), (2, _)]) (tk_X10_isHeld.at 10 rfl) mv_X10_of lk_x10_94 np_X10_of hM.f0 (by decide) rfl (Nat.le_of_ble_eq_true rfl) (Nat.le_of_ble_eq_true rfl) rfl (c10_of (k := 8 + 4 * (nv (μ (o + 1) (84 + 9 * rn + f)))) hM wp.1 (pl 0 rfl) (by omega) (by omega) (by omega) ?_)
  refine X_bipush (tk_X10_isHeld.at 11 rfl) cb_10 ?_
  refine X_aload_n (tk_X10_isHeld.at 12 rfl) rfl ?_
  refine X_iload_n (tk_X10_isHeld.at 13 rfl) rfl ?_
  refine X_iconst (tk_X10_isHeld.at 14 rfl) ci_0 ?_
  refine X_cV2i (lv2 := [(0, _), (1, _), (2, _)]) (tk_X10_isHeld.at 15 rfl) mv_X10_ofPieceAt lk_x10_109 np_X10_ofPieceAt hM.f0 (by decide) rfl (Nat.le_of_ble_eq_true rfl) (Nat.le_of_ble_eq_true rfl) rfl (c10_ofPieceAt (k := 48 + 4 * cn) hM hz (pl 0 rfl) (by omega) (by omega) (by omega) ?_)
  refine X_iadd (tk_X10_isHeld.at 16 rfl) ?_
  refine X_imul (tk_X10_isHeld.at 17 rfl) ?_
  refine X_bipush (tk_X10_isHeld.at 18 rfl) cb_10 ?_
  refine X_idiv (tk_X10_isHeld.at 19 rfl) (by decide) ?_
  refine X_icmp_lt (tgt := 37) (tk_X10_isHeld.at 20 rfl) (by decide) (fun c1 => ?_) (fun c1 => ?_)
  · refine X_iconst (tk_X10_isHeld.at 23 rfl) ci_0 ?_
    refine X_ireturn (tk_X10_isHeld.at 24 rfl) rfl rfl ?_
    exact kf (Int32.not_le.mpr c1)
  · refine X_iconst (tk_X10_isHeld.at 21 rfl) ci_1 ?_
    refine X_goto (tgt := 38) (tk_X10_isHeld.at 22 rfl) (by decide) ?_
    refine X_ireturn (tk_X10_isHeld.at 24 rfl) rfl rfl ?_
    exact kt (Int32.not_lt.mp c1)
set_option maxHeartbeats 1000000 in
theorem c10_costOf {G : Gl} {d : Nat} {S : Sh} {μ : Mu} {o : Nat} {q : Nat → Nat} {r y z : Int32} {rn f cn : Nat} {N : Nat → Int32} {L : Int32} {K : Int32 → Sh → Mu → Prop} (hM : MS S o q) (hN : μ (o + 1) = N) (hL : μ o 5 = L) (hw : WF N) (hr : r = nI rn) (hrn : rn < nv (N 3)) (hy : y = nI f) (hf : f < nv (N (83 + 9 * rn))) (hz : z = nI cn) (hcn : cn < nv (N 2)) (nlf : ¬ lb L (N (84 + 9 * rn + f))) (hK : K (nI (cst N L rn f cn)) S μ) : X G mi_X10_costOf (d + 6) 0 0 [(0, .ref o), (1, .int r), (2, .int y), (3, .int z)] [] S μ (qi K) := by
  subst hN
  subst hL
  have w0 := hw.n0
  have w1 := hw.n1
  have w2 := hw.n2
  have w3 := hw.n3
  have w4 := hw.n4
  have w5 := hw.n5
  have w6 := hw.n6
  have b1 := w1.2
  have b2 := w2.2
  have b3 := w3.2
  have b4 := w4.2
  have b5 := w5.2
  have b6 := w6.2
  have b0 := w0.2
  have wr := hw.ro (p := rn) hrn
  have wk := wr.1
  have bk := wk.2
  have hm := wr.2.2.2.1.1
  have bm := wr.2.2.2.1.2
  refine X_aload_n (tk_X10_costOf.at 0 rfl) rfl ?_
  refine X_iload_n (tk_X10_costOf.at 1 rfl) rfl ?_
  refine X_iload_n (tk_X10_costOf.at 2 rfl) rfl ?_
  refine X_iload_n (tk_X10_costOf.at 3 rfl) rfl ?_
  refine X_cV3i (lv2 := [(0, _), (1, _), (2, _), (3, _)]) (tk_X10_costOf.at 4 rfl) mv_X10_isHeld lk_x10_174 np_X10_isHeld hM.f0 (by decide) rfl (Nat.le_of_ble_eq_true rfl) (Nat.le_of_ble_eq_true rfl) rfl (c10_isHeld hM rfl rfl hw hr hrn hy hf hz hcn nlf (fun h4 => ?_) (fun h4 => ?_))
  · refine X_if_eq (tgt := 14) (tk_X10_costOf.at 5 rfl) (by decide) (fun h => absurd h (by decide)) (fun _ => ?_)
    refine X_iconst (tk_X10_costOf.at 6 rfl) ci_0 ?_
    refine X_goto (tgt := 34) (tk_X10_costOf.at 7 rfl) (by decide) ?_
    refine X_ireturn (tk_X10_costOf.at 19 rfl) rfl rfl ?_
    have e : cst (μ (o + 1)) (μ o 5) rn f cn = 0 := if_pos h4
    rw [e] at hK
    exact hK
  · refine X_if_eq (tgt := 14) (tk_X10_costOf.at 5 rfl) (by decide) (fun _ => ?_) (fun h => absurd h (by decide))
    refine X_aload_n (tk_X10_costOf.at 8 rfl) rfl ?_
    refine X_iload_n (tk_X10_costOf.at 9 rfl) rfl ?_
    refine X_iconst (tk_X10_costOf.at 10 rfl) ci_0 ?_
    refine X_cV2i (lv2 := [(0, _), (1, _), (2, _)]) (tk_X10_costOf.at 11 rfl) mv_X10_rope lk_x10_115 np_X10_rope hM.f0 (by decide) rfl (Nat.le_of_ble_eq_true rfl) (Nat.le_of_ble_eq_true rfl) rfl (c10_rope (k := 80 + 9 * rn) hM hr (pl 0 rfl) (by omega) (by omega) (by omega) ?_)
    refine X_bipush (tk_X10_costOf.at 12 rfl) cb_6 ?_
    refine X_icmp_neN (tgt := 29) (tk_X10_costOf.at 13 rfl) (by decide) wk.1 (pl 6 rfl) (by omega) (by omega) (fun c3 => ?_) (fun c3 => ?_)
    · refine X_aload_n (tk_X10_costOf.at 16 rfl) rfl ?_
      refine X_iload_n (tk_X10_costOf.at 17 rfl) rfl ?_
      refine X_cV1i (lv2 := [(0, _), (1, _)]) (tk_X10_costOf.at 18 rfl) mv_X10_many lk_x10_118 np_X10_many hM.f0 (by decide) rfl (Nat.le_of_ble_eq_true rfl) (Nat.le_of_ble_eq_true rfl) rfl (c10_many hM hr (by omega) ?_)
      refine X_ireturn (tk_X10_costOf.at 19 rfl) rfl rfl ?_
      have e : cst (μ (o + 1)) (μ o 5) rn f cn = (nv (μ (o + 1) (83 + 9 * rn))) := by unfold cst; rw [if_neg h4, if_neg c3]
      rw [e, ← hm] at hK
      exact hK
    · refine X_iconst (tk_X10_costOf.at 14 rfl) ci_1 ?_
      refine X_goto (tgt := 34) (tk_X10_costOf.at 15 rfl) (by decide) ?_
      refine X_ireturn (tk_X10_costOf.at 19 rfl) rfl rfl ?_
      have e : cst (μ (o + 1)) (μ o 5) rn f cn = 1 := by unfold cst; rw [if_neg h4, if_pos c3]
      rw [e] at hK
      exact hK
set_option maxHeartbeats 1000000 in
theorem c10_hold {G : Gl} {d : Nat} {S : Sh} {μ : Mu} {o : Nat} {q : Nat → Nat} {p : Int32} {K : Int32 → Sh → Mu → Prop} (hM : MS S o q) (hw : WF (μ (o + 1))) (hl0 : μ o 5 = 0) (k1 : ¬ In p (nv (μ (o + 1) 1)) → K (-1000000001) S (er μ o 1)) (k2 : ∀ b, b < nv (μ (o + 1) 1) → p = nI b → (∀ r i, ¬ On (μ (o + 1)) r i b) → K (-1000000002) S (er μ o 2)) (k3 : ∀ b r i, b < nv (μ (o + 1) 1) → p = nI b → On (μ (o + 1)) r i b → K (hs (μ (o + 1)) 0 r i (nv (μ (o + 1) (83 + 9 * r)))) S μ) : X G mi_X10_hold (d + 5) 0 0 [(0, .ref o), (1, .int p)] [] S μ (qi K) := by
  have w0 := hw.n0
  have w1 := hw.n1
  have w2 := hw.n2
  have w3 := hw.n3
  have w4 := hw.n4
  have w5 := hw.n5
  have w6 := hw.n6
  have b1 := w1.2
  have b2 := w2.2
  have b3 := w3.2
  have b4 := w4.2
  have b5 := w5.2
  have b6 := w6.2
  have b0 := w0.2
  refine X_aload_n (tk_X10_hold.at 0 rfl) rfl ?_
  refine X_iload_n (tk_X10_hold.at 1 rfl) rfl ?_
  refine X_iconst (tk_X10_hold.at 2 rfl) ci_1 ?_
  refine X_cV2i (lv2 := [(0, _), (1, _), (2, _)]) (tk_X10_hold.at 3 rfl) mv_X10_is lk_x10_90 np_X10_is hM.f0 (by decide) rfl (Nat.le_of_ble_eq_true rfl) (Nat.le_of_ble_eq_true rfl) rfl (c10_is hM (pl 1 rfl) (by decide) w1.1 (by omega) (fun j3 hj3 ej3 => ?_) (fun hj3 => ?_))
  · refine X_if_ne (tgt := 16) (tk_X10_hold.at 4 rfl) (by decide) (fun _ => ?_) (fun h => absurd h (by decide))
    refine X_aload_n (tk_X10_hold.at 9 rfl) rfl ?_
    refine X_iload_n (tk_X10_hold.at 10 rfl) rfl ?_
    refine X_cV1i (lv2 := [(0, _), (1, _)]) (tk_X10_hold.at 11 rfl) mv_X10_ropeOf lk_x10_98 np_X10_ropeOf hM.f0 (by decide) rfl (Nat.le_of_ble_eq_true rfl) (Nat.le_of_ble_eq_true rfl) rfl (c10_ropeOf hM hw ej3 (fun r18 i18 h18 => ?_) (fun h18 => ?_))
    · have g18 := h18.1
      refine X_istore_n (lv' := [(0, _), (1, _), (2, _)]) (tk_X10_hold.at 12 rfl) (by decide) rfl rfl ?_
      refine X_iload_n (tk_X10_hold.at 13 rfl) rfl ?_
      refine X_if_geN (tgt := 35) (tk_X10_hold.at 14 rfl) (by decide) (pl r18 rfl) (by omega) ?_
      refine X_aload_n (tk_X10_hold.at 19 rfl) rfl ?_
      refine X_iload_n (tk_X10_hold.at 20 rfl) rfl ?_
      refine X_aload_n (tk_X10_hold.at 21 rfl) rfl ?_
      refine X_iload_n (tk_X10_hold.at 22 rfl) rfl ?_
      refine X_cV1i (lv2 := [(0, _), (1, _)]) (tk_X10_hold.at 23 rfl) mv_X10_placeOf lk_x10_101 np_X10_placeOf hM.f0 (by decide) rfl (Nat.le_of_ble_eq_true rfl) (Nat.le_of_ble_eq_true rfl) rfl (c10_placeOf hM hw ej3 (fun r39 i39 h39 => ?_) (fun h39 => absurd h18 (h39 _ _)))
      have e39 := (hw.un h39 h18).1
      subst e39
      refine X_cV2i (lv2 := [(0, _), (1, _), (2, _)]) (tk_X10_hold.at 24 rfl) mv_X10_holdOf lk_x10_171 np_X10_holdOf hM.f0 (by decide) rfl (Nat.le_of_ble_eq_true rfl) (Nat.le_of_ble_eq_true rfl) rfl (c10_holdOfN hM rfl hl0 hw (pl r39 rfl) h39.1 (pl i39 rfl) h39.2.1 (lb0 _) ?_)
      refine X_ireturn (tk_X10_hold.at 25 rfl) rfl rfl ?_
      exact k3 j3 r39 i39 hj3 ej3 h39
    · refine X_istore_n (lv' := [(0, _), (1, _), (2, _)]) (tk_X10_hold.at 12 rfl) (by decide) rfl rfl ?_
      refine X_iload_n (tk_X10_hold.at 13 rfl) rfl ?_
      refine X_if_ge (tgt := 35) (tk_X10_hold.at 14 rfl) (by decide) (fun h => absurd h (by decide)) (fun _ => ?_)
      refine X_aload_n (tk_X10_hold.at 15 rfl) rfl ?_
      refine X_ldc (tk_X10_hold.at 16 rfl) kn_x10_108 ?_
      refine X_cV1i (lv2 := [(0, _), (1, _)]) (tk_X10_hold.at 17 rfl) mv_X10_finding lk_x10_82 np_X10_finding hM.f0 (by decide) rfl (Nat.le_of_ble_eq_true rfl) (Nat.le_of_ble_eq_true rfl) rfl (c10_finding (k := 2) hM (by decide) (by decide) ?_)
      refine X_goto (tgt := 45) (tk_X10_hold.at 18 rfl) (by decide) ?_
      refine X_ireturn (tk_X10_hold.at 25 rfl) rfl rfl ?_
      exact k2 j3 hj3 ej3 h18
  · refine X_if_ne (tgt := 16) (tk_X10_hold.at 4 rfl) (by decide) (fun h => absurd h (by decide)) (fun _ => ?_)
    refine X_aload_n (tk_X10_hold.at 5 rfl) rfl ?_
    refine X_ldc (tk_X10_hold.at 6 rfl) kn_x10_81 ?_
    refine X_cV1i (lv2 := [(0, _), (1, _)]) (tk_X10_hold.at 7 rfl) mv_X10_finding lk_x10_82 np_X10_finding hM.f0 (by decide) rfl (Nat.le_of_ble_eq_true rfl) (Nat.le_of_ble_eq_true rfl) rfl (c10_finding (k := 1) hM (by decide) (by decide) ?_)
    refine X_ireturn (tk_X10_hold.at 8 rfl) rfl rfl ?_
    exact k1 (In_no (by omega) hj3)
set_option maxHeartbeats 1000000 in
theorem c10_held {G : Gl} {d : Nat} {S : Sh} {μ : Mu} {o : Nat} {q : Nat → Nat} {p c : Int32} {K : Int32 → Sh → Mu → Prop} (hM : MS S o q) (hw : WF (μ (o + 1))) (hl0 : μ o 5 = 0) (k1 : ¬ (In p (nv (μ (o + 1) 1)) ∧ In c (nv (μ (o + 1) 2))) → K (-1000000001) S (er μ o 1)) (k2 : ∀ b x, b < nv (μ (o + 1) 1) → x < nv (μ (o + 1) 2) → p = nI b → c = nI x → (∀ r i, ¬ On (μ (o + 1)) r i b) → K (-1000000002) S (er μ o 2)) (k3 : ∀ b x r i, b < nv (μ (o + 1) 1) → x < nv (μ (o + 1) 2) → p = nI b → c = nI x → On (μ (o + 1)) r i b → pull (μ (o + 1)) (nv (μ (o + 1) (84 + 9 * r + i))) x ≤ hs (μ (o + 1)) 0 r i (nv (μ (o + 1) (83 + 9 * r))) → K 1 S μ) (k4 : ∀ b x r i, b < nv (μ (o + 1) 1) → x < nv (μ (o + 1) 2) → p = nI b → c = nI x → On (μ (o + 1)) r i b → ¬ pull (μ (o + 1)) (nv (μ (o + 1) (84 + 9 * r + i))) x ≤ hs (μ (o + 1)) 0 r i (nv (μ (o + 1) (83 + 9 * r))) → K 0 S μ) : X G mi_X10_held (d + 6) 0 0 [(0, .ref o), (1, .int p), (2, .int c)] [] S μ (qi K) := by
  have w0 := hw.n0
  have w1 := hw.n1
  have w2 := hw.n2
  have w3 := hw.n3
  have w4 := hw.n4
  have w5 := hw.n5
  have w6 := hw.n6
  have b1 := w1.2
  have b2 := w2.2
  have b3 := w3.2
  have b4 := w4.2
  have b5 := w5.2
  have b6 := w6.2
  have b0 := w0.2
  refine X_aload_n (tk_X10_held.at 0 rfl) rfl ?_
  refine X_iload_n (tk_X10_held.at 1 rfl) rfl ?_
  refine X_iconst (tk_X10_held.at 2 rfl) ci_1 ?_
  refine X_cV2i (lv2 := [(0, _), (1, _), (2, _)]) (tk_X10_held.at 3 rfl) mv_X10_is lk_x10_90 np_X10_is hM.f0 (by decide) rfl (Nat.le_of_ble_eq_true rfl) (Nat.le_of_ble_eq_true rfl) rfl (c10_is hM (pl 1 rfl) (by decide) w1.1 (by omega) (fun j3 hj3 ej3 => ?_) (fun hj3 => ?_))
  · refine X_if_eq (tgt := 18) (tk_X10_held.at 4 rfl) (by decide) (fun h => absurd h (by decide)) (fun _ => ?_)
    refine X_aload_n (tk_X10_held.at 5 rfl) rfl ?_
    refine X_iload_n (tk_X10_held.at 6 rfl) rfl ?_
    refine X_iconst (tk_X10_held.at 7 rfl) ci_2 ?_
    refine X_cV2i (lv2 := [(0, _), (1, _), (2, _)]) (tk_X10_held.at 8 rfl) mv_X10_is lk_x10_90 np_X10_is hM.f0 (by decide) rfl (Nat.le_of_ble_eq_true rfl) (Nat.le_of_ble_eq_true rfl) rfl (c10_is hM (pl 2 rfl) (by decide) w2.1 (by omega) (fun j12 hj12 ej12 => ?_) (fun hj12 => ?_))
    · refine X_if_ne (tgt := 25) (tk_X10_held.at 9 rfl) (by decide) (fun _ => ?_) (fun h => absurd h (by decide))
      refine X_aload_n (tk_X10_held.at 14 rfl) rfl ?_
      refine X_iload_n (tk_X10_held.at 15 rfl) rfl ?_
      refine X_cV1i (lv2 := [(0, _), (1, _)]) (tk_X10_held.at 16 rfl) mv_X10_ropeOf lk_x10_98 np_X10_ropeOf hM.f0 (by decide) rfl (Nat.le_of_ble_eq_true rfl) (Nat.le_of_ble_eq_true rfl) rfl (c10_ropeOf hM hw ej3 (fun r27 i27 h27 => ?_) (fun h27 => ?_))
      · have g27 := h27.1
        refine X_istore_n (lv' := [(0, _), (1, _), (2, _), (3, _)]) (tk_X10_held.at 17 rfl) (by decide) rfl rfl ?_
        refine X_iload_n (tk_X10_held.at 18 rfl) rfl ?_
        refine X_if_geN (tgt := 44) (tk_X10_held.at 19 rfl) (by decide) (pl r27 rfl) (by omega) ?_
        refine X_aload_n (tk_X10_held.at 24 rfl) rfl ?_
        refine X_iload_n (tk_X10_held.at 25 rfl) rfl ?_
        refine X_aload_n (tk_X10_held.at 26 rfl) rfl ?_
        refine X_iload_n (tk_X10_held.at 27 rfl) rfl ?_
        refine X_cV1i (lv2 := [(0, _), (1, _)]) (tk_X10_held.at 28 rfl) mv_X10_placeOf lk_x10_101 np_X10_placeOf hM.f0 (by decide) rfl (Nat.le_of_ble_eq_true rfl) (Nat.le_of_ble_eq_true rfl) rfl (c10_placeOf hM hw ej3 (fun r48 i48 h48 => ?_) (fun h48 => absurd h27 (h48 _ _)))
        have e48 := (hw.un h48 h27).1
        subst e48
        refine X_iload_n (tk_X10_held.at 29 rfl) rfl ?_
        refine X_cV3i (lv2 := [(0, _), (1, _), (2, _), (3, _)]) (tk_X10_held.at 30 rfl) mv_X10_isHeld lk_x10_174 np_X10_isHeld hM.f0 (by decide) rfl (Nat.le_of_ble_eq_true rfl) (Nat.le_of_ble_eq_true rfl) rfl (c10_isHeld hM rfl hl0 hw (pl r48 rfl) h48.1 (pl i48 rfl) h48.2.1 ej12 hj12 (lb0 _) (fun h52 => ?_) (fun h52 => ?_))
        · refine X_if_eq (tgt := 62) (tk_X10_held.at 31 rfl) (by decide) (fun h => absurd h (by decide)) (fun _ => ?_)
          refine X_iconst (tk_X10_held.at 32 rfl) ci_1 ?_
          refine X_goto (tgt := 63) (tk_X10_held.at 33 rfl) (by decide) ?_
          refine X_ireturn (tk_X10_held.at 35 rfl) rfl rfl ?_
          exact k3 j3 j12 r48 i48 hj3 hj12 ej3 ej12 h48 h52
        · refine X_if_eq (tgt := 62) (tk_X10_held.at 31 rfl) (by decide) (fun _ => ?_) (fun h => absurd h (by decide))
          refine X_iconst (tk_X10_held.at 34 rfl) ci_0 ?_
          refine X_ireturn (tk_X10_held.at 35 rfl) rfl rfl ?_
          exact k4 j3 j12 r48 i48 hj3 hj12 ej3 ej12 h48 h52
      · refine X_istore_n (lv' := [(0, _), (1, _), (2, _), (3, _)]) (tk_X10_held.at 17 rfl) (by decide) rfl rfl ?_
        refine X_iload_n (tk_X10_held.at 18 rfl) rfl ?_
        refine X_if_ge (tgt := 44) (tk_X10_held.at 19 rfl) (by decide) (fun h => absurd h (by decide)) (fun _ => ?_)
        refine X_aload_n (tk_X10_held.at 20 rfl) rfl ?_
        refine X_ldc (tk_X10_held.at 21 rfl) kn_x10_108 ?_
        refine X_cV1i (lv2 := [(0, _), (1, _)]) (tk_X10_held.at 22 rfl) mv_X10_finding lk_x10_82 np_X10_finding hM.f0 (by decide) rfl (Nat.le_of_ble_eq_true rfl) (Nat.le_of_ble_eq_true rfl) rfl (c10_finding (k := 2) hM (by decide) (by decide) ?_)
        refine X_goto (tgt := 63) (tk_X10_held.at 23 rfl) (by decide) ?_
        refine X_ireturn (tk_X10_held.at 35 rfl) rfl rfl ?_
        exact k2 j3 j12 hj3 hj12 ej3 ej12 h27
    · refine X_if_ne (tgt := 25) (tk_X10_held.at 9 rfl) (by decide) (fun h => absurd h (by decide)) (fun _ => ?_)
      refine X_aload_n (tk_X10_held.at 10 rfl) rfl ?_
      refine X_ldc (tk_X10_held.at 11 rfl) kn_x10_81 ?_
      refine X_cV1i (lv2 := [(0, _), (1, _)]) (tk_X10_held.at 12 rfl) mv_X10_finding lk_x10_82 np_X10_finding hM.f0 (by decide) rfl (Nat.le_of_ble_eq_true rfl) (Nat.le_of_ble_eq_true rfl) rfl (c10_finding (k := 1) hM (by decide) (by decide) ?_)
      refine X_ireturn (tk_X10_held.at 13 rfl) rfl rfl ?_
      exact k1 (fun g => by first | exact In_no (by omega) hj12 g.2 | exact In_no (by omega) hj3 g.1)
  · refine X_if_eq (tgt := 18) (tk_X10_held.at 4 rfl) (by decide) (fun _ => ?_) (fun h => absurd h (by decide))
    refine X_aload_n (tk_X10_held.at 10 rfl) rfl ?_
    refine X_ldc (tk_X10_held.at 11 rfl) kn_x10_81 ?_
    refine X_cV1i (lv2 := [(0, _), (1, _)]) (tk_X10_held.at 12 rfl) mv_X10_finding lk_x10_82 np_X10_finding hM.f0 (by decide) rfl (Nat.le_of_ble_eq_true rfl) (Nat.le_of_ble_eq_true rfl) rfl (c10_finding (k := 1) hM (by decide) (by decide) ?_)
    refine X_ireturn (tk_X10_held.at 13 rfl) rfl rfl ?_
    exact k1 (fun g => by first | exact In_no (by omega) hj12 g.2 | exact In_no (by omega) hj3 g.1)
set_option maxHeartbeats 1000000 in
theorem c10_cost {G : Gl} {d : Nat} {S : Sh} {μ : Mu} {o : Nat} {q : Nat → Nat} {p c : Int32} {K : Int32 → Sh → Mu → Prop} (hM : MS S o q) (hw : WF (μ (o + 1))) (hl0 : μ o 5 = 0) (k1 : ¬ (In p (nv (μ (o + 1) 1)) ∧ In c (nv (μ (o + 1) 2))) → K (-1000000001) S (er μ o 1)) (k2 : ∀ b x, b < nv (μ (o + 1) 1) → x < nv (μ (o + 1) 2) → p = nI b → c = nI x → (∀ r i, ¬ On (μ (o + 1)) r i b) → K (-1000000002) S (er μ o 2)) (k3 : ∀ b x r i, b < nv (μ (o + 1) 1) → x < nv (μ (o + 1) 2) → p = nI b → c = nI x → On (μ (o + 1)) r i b → K (nI (cst (μ (o + 1)) 0 r i x)) S μ) : X G mi_X10_cost (d + 7) 0 0 [(0, .ref o), (1, .int p), (2, .int c)] [] S μ (qi K) := by
  have w0 := hw.n0
  have w1 := hw.n1
  have w2 := hw.n2
  have w3 := hw.n3
  have w4 := hw.n4
  have w5 := hw.n5
  have w6 := hw.n6
  have b1 := w1.2
  have b2 := w2.2
  have b3 := w3.2
  have b4 := w4.2
  have b5 := w5.2
  have b6 := w6.2
  have b0 := w0.2
  refine X_aload_n (tk_X10_cost.at 0 rfl) rfl ?_
  refine X_iload_n (tk_X10_cost.at 1 rfl) rfl ?_
  refine X_iconst (tk_X10_cost.at 2 rfl) ci_1 ?_
  refine X_cV2i (lv2 := [(0, _), (1, _), (2, _)]) (tk_X10_cost.at 3 rfl) mv_X10_is lk_x10_90 np_X10_is hM.f0 (by decide) rfl (Nat.le_of_ble_eq_true rfl) (Nat.le_of_ble_eq_true rfl) rfl (c10_is hM (pl 1 rfl) (by decide) w1.1 (by omega) (fun j3 hj3 ej3 => ?_) (fun hj3 => ?_))
  · refine X_if_eq (tgt := 18) (tk_X10_cost.at 4 rfl) (by decide) (fun h => absurd h (by decide)) (fun _ => ?_)
    refine X_aload_n (tk_X10_cost.at 5 rfl) rfl ?_
    refine X_iload_n (tk_X10_cost.at 6 rfl) rfl ?_
    refine X_iconst (tk_X10_cost.at 7 rfl) ci_2 ?_
    refine X_cV2i (lv2 := [(0, _), (1, _), (2, _)]) (tk_X10_cost.at 8 rfl) mv_X10_is lk_x10_90 np_X10_is hM.f0 (by decide) rfl (Nat.le_of_ble_eq_true rfl) (Nat.le_of_ble_eq_true rfl) rfl (c10_is hM (pl 2 rfl) (by decide) w2.1 (by omega) (fun j12 hj12 ej12 => ?_) (fun hj12 => ?_))
    · refine X_if_ne (tgt := 25) (tk_X10_cost.at 9 rfl) (by decide) (fun _ => ?_) (fun h => absurd h (by decide))
      refine X_aload_n (tk_X10_cost.at 14 rfl) rfl ?_
      refine X_iload_n (tk_X10_cost.at 15 rfl) rfl ?_
      refine X_cV1i (lv2 := [(0, _), (1, _)]) (tk_X10_cost.at 16 rfl) mv_X10_ropeOf lk_x10_98 np_X10_ropeOf hM.f0 (by decide) rfl (Nat.le_of_ble_eq_true rfl) (Nat.le_of_ble_eq_true rfl) rfl (c10_ropeOf hM hw ej3 (fun r27 i27 h27 => ?_) (fun h27 => ?_))
      · have g27 := h27.1
        refine X_istore_n (lv' := [(0, _), (1, _), (2, _), (3, _)]) (tk_X10_cost.at 17 rfl) (by decide) rfl rfl ?_
        refine X_iload_n (tk_X10_cost.at 18 rfl) rfl ?_
        refine X_if_geN (tgt := 44) (tk_X10_cost.at 19 rfl) (by decide) (pl r27 rfl) (by omega) ?_
        refine X_aload_n (tk_X10_cost.at 24 rfl) rfl ?_
        refine X_iload_n (tk_X10_cost.at 25 rfl) rfl ?_
        refine X_aload_n (tk_X10_cost.at 26 rfl) rfl ?_
        refine X_iload_n (tk_X10_cost.at 27 rfl) rfl ?_
        refine X_cV1i (lv2 := [(0, _), (1, _)]) (tk_X10_cost.at 28 rfl) mv_X10_placeOf lk_x10_101 np_X10_placeOf hM.f0 (by decide) rfl (Nat.le_of_ble_eq_true rfl) (Nat.le_of_ble_eq_true rfl) rfl (c10_placeOf hM hw ej3 (fun r48 i48 h48 => ?_) (fun h48 => absurd h27 (h48 _ _)))
        have e48 := (hw.un h48 h27).1
        subst e48
        refine X_iload_n (tk_X10_cost.at 29 rfl) rfl ?_
        refine X_cV3i (lv2 := [(0, _), (1, _), (2, _), (3, _)]) (tk_X10_cost.at 30 rfl) mv_X10_costOf lk_x10_177 np_X10_costOf hM.f0 (by decide) rfl (Nat.le_of_ble_eq_true rfl) (Nat.le_of_ble_eq_true rfl) rfl (c10_costOf hM rfl hl0 hw (pl r48 rfl) h48.1 (pl i48 rfl) h48.2.1 ej12 hj12 (lb0 _) ?_)
        refine X_ireturn (tk_X10_cost.at 31 rfl) rfl rfl ?_
        exact k3 j3 j12 r48 i48 hj3 hj12 ej3 ej12 h48
      · refine X_istore_n (lv' := [(0, _), (1, _), (2, _), (3, _)]) (tk_X10_cost.at 17 rfl) (by decide) rfl rfl ?_
        refine X_iload_n (tk_X10_cost.at 18 rfl) rfl ?_
        refine X_if_ge (tgt := 44) (tk_X10_cost.at 19 rfl) (by decide) (fun h => absurd h (by decide)) (fun _ => ?_)
        refine X_aload_n (tk_X10_cost.at 20 rfl) rfl ?_
        refine X_ldc (tk_X10_cost.at 21 rfl) kn_x10_108 ?_
        refine X_cV1i (lv2 := [(0, _), (1, _)]) (tk_X10_cost.at 22 rfl) mv_X10_finding lk_x10_82 np_X10_finding hM.f0 (by decide) rfl (Nat.le_of_ble_eq_true rfl) (Nat.le_of_ble_eq_true rfl) rfl (c10_finding (k := 2) hM (by decide) (by decide) ?_)
        refine X_goto (tgt := 55) (tk_X10_cost.at 23 rfl) (by decide) ?_
        refine X_ireturn (tk_X10_cost.at 31 rfl) rfl rfl ?_
        exact k2 j3 j12 hj3 hj12 ej3 ej12 h27
    · refine X_if_ne (tgt := 25) (tk_X10_cost.at 9 rfl) (by decide) (fun h => absurd h (by decide)) (fun _ => ?_)
      refine X_aload_n (tk_X10_cost.at 10 rfl) rfl ?_
      refine X_ldc (tk_X10_cost.at 11 rfl) kn_x10_81 ?_
      refine X_cV1i (lv2 := [(0, _), (1, _)]) (tk_X10_cost.at 12 rfl) mv_X10_finding lk_x10_82 np_X10_finding hM.f0 (by decide) rfl (Nat.le_of_ble_eq_true rfl) (Nat.le_of_ble_eq_true rfl) rfl (c10_finding (k := 1) hM (by decide) (by decide) ?_)
      refine X_ireturn (tk_X10_cost.at 13 rfl) rfl rfl ?_
      exact k1 (fun g => by first | exact In_no (by omega) hj12 g.2 | exact In_no (by omega) hj3 g.1)
  · refine X_if_eq (tgt := 18) (tk_X10_cost.at 4 rfl) (by decide) (fun _ => ?_) (fun h => absurd h (by decide))
    refine X_aload_n (tk_X10_cost.at 10 rfl) rfl ?_
    refine X_ldc (tk_X10_cost.at 11 rfl) kn_x10_81 ?_
    refine X_cV1i (lv2 := [(0, _), (1, _)]) (tk_X10_cost.at 12 rfl) mv_X10_finding lk_x10_82 np_X10_finding hM.f0 (by decide) rfl (Nat.le_of_ble_eq_true rfl) (Nat.le_of_ble_eq_true rfl) rfl (c10_finding (k := 1) hM (by decide) (by decide) ?_)
    refine X_ireturn (tk_X10_cost.at 13 rfl) rfl rfl ?_
    exact k1 (fun g => by first | exact In_no (by omega) hj12 g.2 | exact In_no (by omega) hj3 g.1)
set_option maxHeartbeats 1000000 in
theorem c10_law {G : Gl} {d : Nat} {S : Sh} {μ : Mu} {o : Nat} {q : Nat → Nat} {x a b c e : Int32} {K : Int32 → Sh → Mu → Prop} (hM : MS S o q) (hw : WF (μ (o + 1))) (k1 : ¬ (0 ≤ x ∧ x ≤ 1) → K (-1000000001) S (er μ o 1)) (k2 : ∀ u h P, u < 2 → x = nI u → K (gv (μ (o + 1)) u a b c e 0) S (Tst μ o (μ o 17) (μ (o + 9)) (μ (o + 10)) h P)) : X G mi_X10_law (d + 3) 0 0 [(0, .ref o), (1, .int x), (2, .int a), (3, .int b), (4, .int c), (5, .int e)] [] S μ (qi K) := by
  refine X_iload_n (tk_X10_law.at 0 rfl) rfl ?_
  refine X_iconst (tk_X10_law.at 1 rfl) ci_0 ?_
  refine X_iconst (tk_X10_law.at 2 rfl) ci_1 ?_
  refine X_cS3i (lv2 := [(0, _), (1, _), (2, _)]) (tk_X10_law.at 3 rfl) ms_X10_within lk_x10_69 np_X10_within (Nat.le_of_ble_eq_true rfl) (Nat.le_of_ble_eq_true rfl) rfl (c10_within (fun h3 h1003 => ?_) (fun h3 => ?_))
  · obtain ⟨ew3, lw3, bw3⟩ := le_lits (a := 0) (b := 1) (by decide) h3 h1003 (by decide)
    refine X_if_eq (tgt := 24) (tk_X10_law.at 4 rfl) (by decide) (fun h => absurd h (by decide)) (fun _ => ?_)
    refine X_aload_n (tk_X10_law.at 5 rfl) rfl ?_
    refine X_iload_n (tk_X10_law.at 6 rfl) rfl ?_
    refine X_iload_n (tk_X10_law.at 7 rfl) rfl ?_
    refine X_iload_n (tk_X10_law.at 8 rfl) rfl ?_
    refine X_iload (tk_X10_law.at 9 rfl) rfl ?_
    refine X_iload (tk_X10_law.at 10 rfl) rfl ?_
    refine X_iconst (tk_X10_law.at 11 rfl) ci_0 ?_
    refine X_cV6i (lv2 := [(0, _), (1, _), (2, _), (3, _), (4, _), (5, _), (6, _)]) (tk_X10_law.at 12 rfl) mv_X10_given lk_x10_180 np_X10_given hM.f0 (by decide) rfl (Nat.le_of_ble_eq_true rfl) (Nat.le_of_ble_eq_true rfl) rfl (c10_given hM hw (by omega) ew3 (fun h P => ?_))
    refine X_goto (tgt := 30) (tk_X10_law.at 13 rfl) (by decide) ?_
    refine X_ireturn (tk_X10_law.at 17 rfl) rfl rfl ?_
    exact k2 (nv x) h P (by omega) ew3
  · refine X_if_eq (tgt := 24) (tk_X10_law.at 4 rfl) (by decide) (fun _ => ?_) (fun h => absurd h (by decide))
    refine X_aload_n (tk_X10_law.at 14 rfl) rfl ?_
    refine X_ldc (tk_X10_law.at 15 rfl) kn_x10_81 ?_
    refine X_cV1i (lv2 := [(0, _), (1, _)]) (tk_X10_law.at 16 rfl) mv_X10_finding lk_x10_82 np_X10_finding hM.f0 (by decide) rfl (Nat.le_of_ble_eq_true rfl) (Nat.le_of_ble_eq_true rfl) rfl (c10_finding (k := 1) hM (by decide) (by decide) ?_)
    refine X_ireturn (tk_X10_law.at 17 rfl) rfl rfl ?_
    exact k1 h3
set_option maxHeartbeats 1000000 in
theorem c10_haul {G : Gl} {d : Nat} {S : Sh} {μ : Mu} {o : Nat} {q : Nat → Nat} {p c : Int32} {K : Int32 → Sh → Mu → Prop} (hM : MS S o q) (hw : WF (μ (o + 1))) (k1 : ¬ (In p (nv (μ (o + 1) 1)) ∧ In c (nv (μ (o + 1) 2))) → K (-1000000001) S (er μ o 1)) (k2 : ∀ b x, b < nv (μ (o + 1) 1) → x < nv (μ (o + 1) 2) → p = nI b → c = nI x → (∀ r i, ¬ On (μ (o + 1)) r i b) → K (-1000000002) S (er μ o 2)) (k3 : ∀ b x r i, b < nv (μ (o + 1) 1) → x < nv (μ (o + 1) 2) → p = nI b → c = nI x → On (μ (o + 1)) r i b → ∀ h P, K (gv (μ (o + 1)) 1 (μ (o + 1) (8 + 4 * b)) (μ (o + 1) (51 + 4 * x)) ((0 - μ (o + 1) (9 + 4 * b)) + ssum (μ (o + 1)) r (nv (μ (o + 1) (83 + 9 * r)))) (μ (o + 1) (83 + 9 * r) - 1) 0) S (Tst μ o (μ o 17) (μ (o + 9)) (μ (o + 10)) h P)) : X G mi_X10_haul (d + 3) 0 0 [(0, .ref o), (1, .int p), (2, .int c)] [] S μ (qi K) := by
  have w0 := hw.n0
  have w1 := hw.n1
  have w2 := hw.n2
  have w3 := hw.n3
  have w4 := hw.n4
  have w5 := hw.n5
  have w6 := hw.n6
  have b1 := w1.2
  have b2 := w2.2
  have b3 := w3.2
  have b4 := w4.2
  have b5 := w5.2
  have b6 := w6.2
  have b0 := w0.2
  refine X_aload_n (tk_X10_haul.at 0 rfl) rfl ?_
  refine X_iload_n (tk_X10_haul.at 1 rfl) rfl ?_
  refine X_iconst (tk_X10_haul.at 2 rfl) ci_1 ?_
  refine X_cV2i (lv2 := [(0, _), (1, _), (2, _)]) (tk_X10_haul.at 3 rfl) mv_X10_is lk_x10_90 np_X10_is hM.f0 (by decide) rfl (Nat.le_of_ble_eq_true rfl) (Nat.le_of_ble_eq_true rfl) rfl (c10_is hM (pl 1 rfl) (by decide) w1.1 (by omega) (fun j3 hj3 ej3 => ?_) (fun hj3 => ?_))
  · refine X_if_eq (tgt := 18) (tk_X10_haul.at 4 rfl) (by decide) (fun h => absurd h (by decide)) (fun _ => ?_)
    refine X_aload_n (tk_X10_haul.at 5 rfl) rfl ?_
    refine X_iload_n (tk_X10_haul.at 6 rfl) rfl ?_
    refine X_iconst (tk_X10_haul.at 7 rfl) ci_2 ?_
    refine X_cV2i (lv2 := [(0, _), (1, _), (2, _)]) (tk_X10_haul.at 8 rfl) mv_X10_is lk_x10_90 np_X10_is hM.f0 (by decide) rfl (Nat.le_of_ble_eq_true rfl) (Nat.le_of_ble_eq_true rfl) rfl (c10_is hM (pl 2 rfl) (by decide) w2.1 (by omega) (fun j12 hj12 ej12 => ?_) (fun hj12 => ?_))
    · refine X_if_ne (tgt := 25) (tk_X10_haul.at 9 rfl) (by decide) (fun _ => ?_) (fun h => absurd h (by decide))
      refine X_aload_n (tk_X10_haul.at 14 rfl) rfl ?_
      refine X_iload_n (tk_X10_haul.at 15 rfl) rfl ?_
      refine X_cV1i (lv2 := [(0, _), (1, _)]) (tk_X10_haul.at 16 rfl) mv_X10_ropeOf lk_x10_98 np_X10_ropeOf hM.f0 (by decide) rfl (Nat.le_of_ble_eq_true rfl) (Nat.le_of_ble_eq_true rfl) rfl (c10_ropeOf hM hw ej3 (fun r27 i27 h27 => ?_) (fun h27 => ?_))
      · have g27 := h27.1
        refine X_istore_n (lv' := [(0, _), (1, _), (2, _), (3, _)]) (tk_X10_haul.at 17 rfl) (by decide) rfl rfl ?_
        refine X_iload_n (tk_X10_haul.at 18 rfl) rfl ?_
        refine X_if_geN (tgt := 42) (tk_X10_haul.at 19 rfl) (by decide) (pl r27 rfl) (by omega) ?_
        refine X_aload_n (tk_X10_haul.at 24 rfl) rfl ?_
        refine X_iload_n (tk_X10_haul.at 25 rfl) rfl ?_
        refine X_iconst (tk_X10_haul.at 26 rfl) ci_1 ?_
        refine X_cV2i (lv2 := [(0, _), (1, _), (2, _)]) (tk_X10_haul.at 27 rfl) mv_X10_of lk_x10_94 np_X10_of hM.f0 (by decide) rfl (Nat.le_of_ble_eq_true rfl) (Nat.le_of_ble_eq_true rfl) rfl (c10_of (k := 9 + 4 * j3) hM ej3 (pl 1 rfl) (by omega) (by omega) (by omega) ?_)
        refine X_ineg (tk_X10_haul.at 28 rfl) ?_
        refine X_istore (lv' := [(0, _), (1, _), (2, _), (3, _), (4, _)]) (tk_X10_haul.at 29 rfl) (by decide) rfl rfl ?_
        refine X_iconst (tk_X10_haul.at 30 rfl) ci_0 ?_
        refine X_istore (lv' := [(0, _), (1, _), (2, _), (3, _), (4, _), (5, _)]) (tk_X10_haul.at 31 rfl) (by decide) rfl rfl ?_
        have wr := hw.ro (p := r27) h27.1
        have hm := wr.2.2.2.1.1
        have bm := wr.2.2.2.1.2
        have g27b := h27.1
        have loop : ∀ (n i : Nat), i + n = (nv (μ (o + 1) (83 + 9 * r27))) → X G mi_X10_haul (d + 3) 0 54 [(0, .ref o), (1, .int p), (2, .int c), (3, .int (nI r27)), (4, .int ((0 - μ (o + 1) (9 + 4 * j3)) + ssum (μ (o + 1)) r27 i)), (5, .int (nI i))] [] S μ (qi K) := by
          intro n
          induction n with
          | zero =>
            intro i hi
            have e : i = (nv (μ (o + 1) (83 + 9 * r27))) := by omega
            refine X_iload (tk_X10_haul.at 32 rfl) rfl ?_
            refine X_aload_n (tk_X10_haul.at 33 rfl) rfl ?_
            refine X_iload_n (tk_X10_haul.at 34 rfl) rfl ?_
            refine X_cV1i (lv2 := [(0, _), (1, _)]) (tk_X10_haul.at 35 rfl) mv_X10_many lk_x10_118 np_X10_many hM.f0 (by decide) rfl (Nat.le_of_ble_eq_true rfl) (Nat.le_of_ble_eq_true rfl) rfl (c10_many hM (pl r27 rfl) (by omega) ?_)
            refine X_icmp_geN (tgt := 87) (tk_X10_haul.at 36 rfl) (by decide) (pl i rfl) hm (by omega) (by omega) (fun c1 => ?_) (fun c1 => (by exfalso; omega))
            refine X_aload_n (tk_X10_haul.at 49 rfl) rfl ?_
            refine X_iconst (tk_X10_haul.at 50 rfl) ci_1 ?_
            refine X_aload_n (tk_X10_haul.at 51 rfl) rfl ?_
            refine X_iload_n (tk_X10_haul.at 52 rfl) rfl ?_
            refine X_iconst (tk_X10_haul.at 53 rfl) ci_0 ?_
            refine X_cV2i (lv2 := [(0, _), (1, _), (2, _)]) (tk_X10_haul.at 54 rfl) mv_X10_of lk_x10_94 np_X10_of hM.f0 (by decide) rfl (Nat.le_of_ble_eq_true rfl) (Nat.le_of_ble_eq_true rfl) rfl (c10_of (k := 8 + 4 * j3) hM ej3 (pl 0 rfl) (by omega) (by omega) (by omega) ?_)
            refine X_aload_n (tk_X10_haul.at 55 rfl) rfl ?_
            refine X_iload_n (tk_X10_haul.at 56 rfl) rfl ?_
            refine X_iconst (tk_X10_haul.at 57 rfl) ci_3 ?_
            refine X_cV2i (lv2 := [(0, _), (1, _), (2, _)]) (tk_X10_haul.at 58 rfl) mv_X10_ofPieceAt lk_x10_109 np_X10_ofPieceAt hM.f0 (by decide) rfl (Nat.le_of_ble_eq_true rfl) (Nat.le_of_ble_eq_true rfl) rfl (c10_ofPieceAt (k := 51 + 4 * j12) hM ej12 (pl 3 rfl) (by omega) (by omega) (by omega) ?_)
            refine X_iload (tk_X10_haul.at 59 rfl) rfl ?_
            refine X_aload_n (tk_X10_haul.at 60 rfl) rfl ?_
            refine X_iload_n (tk_X10_haul.at 61 rfl) rfl ?_
            refine X_cV1i (lv2 := [(0, _), (1, _)]) (tk_X10_haul.at 62 rfl) mv_X10_many lk_x10_118 np_X10_many hM.f0 (by decide) rfl (Nat.le_of_ble_eq_true rfl) (Nat.le_of_ble_eq_true rfl) rfl (c10_many hM (pl r27 rfl) (by omega) ?_)
            refine X_iconst (tk_X10_haul.at 63 rfl) ci_1 ?_
            refine X_isub (tk_X10_haul.at 64 rfl) ?_
            refine X_iconst (tk_X10_haul.at 65 rfl) ci_0 ?_
            refine X_cV6i (lv2 := [(0, _), (1, _), (2, _), (3, _), (4, _), (5, _), (6, _)]) (tk_X10_haul.at 66 rfl) mv_X10_given lk_x10_180 np_X10_given hM.f0 (by decide) rfl (Nat.le_of_ble_eq_true rfl) (Nat.le_of_ble_eq_true rfl) rfl (c10_given hM hw (by decide) (pl 1 rfl) (fun h P => ?_))
            refine X_ireturn (tk_X10_haul.at 67 rfl) rfl rfl ?_
            rw [e]
            exact k3 j3 j12 r27 i27 hj3 hj12 ej3 ej12 h27 h P
          | succ n ih =>
            intro i hi
            have wp := wr.2.2.2.2 i (by omega)
            have bp := wp.2
            have z := ih (i + 1) (by omega)
            rw [show ((0 - μ (o + 1) (9 + 4 * j3)) + ssum (μ (o + 1)) r27 (i + 1)) = ((0 - μ (o + 1) (9 + 4 * j3)) + ssum (μ (o + 1)) r27 i) + μ (o + 1) (9 + 4 * nv (μ (o + 1) (84 + 9 * r27 + i))) from by show _ + (_ + _) = _; rw [Int32.add_assoc]] at z
            refine X_iload (tk_X10_haul.at 32 rfl) rfl ?_
            refine X_aload_n (tk_X10_haul.at 33 rfl) rfl ?_
            refine X_iload_n (tk_X10_haul.at 34 rfl) rfl ?_
            refine X_cV1i (lv2 := [(0, _), (1, _)]) (tk_X10_haul.at 35 rfl) mv_X10_many lk_x10_118 np_X10_many hM.f0 (by decide) rfl (Nat.le_of_ble_eq_true rfl) (Nat.le_of_ble_eq_true rfl) rfl (c10_many hM (pl r27 rfl) (by omega) ?_)
            refine X_icmp_geN (tgt := 87) (tk_X10_haul.at 36 rfl) (by decide) (pl i rfl) hm (by omega) (by omega) (fun c1 => (by exfalso; omega)) (fun c1 => ?_)
            refine X_iload (tk_X10_haul.at 37 rfl) rfl ?_
            refine X_aload_n (tk_X10_haul.at 38 rfl) rfl ?_
            refine X_aload_n (tk_X10_haul.at 39 rfl) rfl ?_
            refine X_iload_n (tk_X10_haul.at 40 rfl) rfl ?_
            refine X_iload (tk_X10_haul.at 41 rfl) rfl ?_
            refine X_cV2i (lv2 := [(0, _), (1, _), (2, _)]) (tk_X10_haul.at 42 rfl) mv_X10_who lk_x10_121 np_X10_who hM.f0 (by decide) rfl (Nat.le_of_ble_eq_true rfl) (Nat.le_of_ble_eq_true rfl) rfl (c10_who hM (pl r27 rfl) (pl i rfl) (by omega) (by omega) ?_)
            refine X_iconst (tk_X10_haul.at 43 rfl) ci_1 ?_
            refine X_cV2i (lv2 := [(0, _), (1, _), (2, _)]) (tk_X10_haul.at 44 rfl) mv_X10_of lk_x10_94 np_X10_of hM.f0 (by decide) rfl (Nat.le_of_ble_eq_true rfl) (Nat.le_of_ble_eq_true rfl) rfl (c10_of (k := 9 + 4 * (nv (μ (o + 1) (84 + 9 * r27 + i)))) hM wp.1 (pl 1 rfl) (by omega) (by omega) (by omega) ?_)
            refine X_iadd (tk_X10_haul.at 45 rfl) ?_
            refine X_istore (lv' := [(0, _), (1, _), (2, _), (3, _), (4, _), (5, _)]) (tk_X10_haul.at 46 rfl) (by decide) rfl rfl ?_
            refine X_iinc (lv' := [(0, _), (1, _), (2, _), (3, _), (4, _), (5, _)]) (tk_X10_haul.at 47 rfl) rfl ci_1 (by decide) rfl rfl ?_
            refine X_goto (tgt := 54) (tk_X10_haul.at 48 rfl) (by decide) ?_
            rw [nI_1 i]
            exact z
        have z := loop _ 0 (Nat.zero_add _)
        rw [show ((0 - μ (o + 1) (9 + 4 * j3)) + ssum (μ (o + 1)) r27 0) = 0 - μ (o + 1) (9 + 4 * j3) from by show _ + 0 = _; rw [Int32.add_zero]] at z
        exact z
      · refine X_istore_n (lv' := [(0, _), (1, _), (2, _), (3, _)]) (tk_X10_haul.at 17 rfl) (by decide) rfl rfl ?_
        refine X_iload_n (tk_X10_haul.at 18 rfl) rfl ?_
        refine X_if_ge (tgt := 42) (tk_X10_haul.at 19 rfl) (by decide) (fun h => absurd h (by decide)) (fun _ => ?_)
        refine X_aload_n (tk_X10_haul.at 20 rfl) rfl ?_
        refine X_ldc (tk_X10_haul.at 21 rfl) kn_x10_108 ?_
        refine X_cV1i (lv2 := [(0, _), (1, _)]) (tk_X10_haul.at 22 rfl) mv_X10_finding lk_x10_82 np_X10_finding hM.f0 (by decide) rfl (Nat.le_of_ble_eq_true rfl) (Nat.le_of_ble_eq_true rfl) rfl (c10_finding (k := 2) hM (by decide) (by decide) ?_)
        refine X_ireturn (tk_X10_haul.at 23 rfl) rfl rfl ?_
        exact k2 j3 j12 hj3 hj12 ej3 ej12 h27
    · refine X_if_ne (tgt := 25) (tk_X10_haul.at 9 rfl) (by decide) (fun h => absurd h (by decide)) (fun _ => ?_)
      refine X_aload_n (tk_X10_haul.at 10 rfl) rfl ?_
      refine X_ldc (tk_X10_haul.at 11 rfl) kn_x10_81 ?_
      refine X_cV1i (lv2 := [(0, _), (1, _)]) (tk_X10_haul.at 12 rfl) mv_X10_finding lk_x10_82 np_X10_finding hM.f0 (by decide) rfl (Nat.le_of_ble_eq_true rfl) (Nat.le_of_ble_eq_true rfl) rfl (c10_finding (k := 1) hM (by decide) (by decide) ?_)
      refine X_ireturn (tk_X10_haul.at 13 rfl) rfl rfl ?_
      exact k1 (fun g => by first | exact In_no (by omega) hj12 g.2 | exact In_no (by omega) hj3 g.1)
  · refine X_if_eq (tgt := 18) (tk_X10_haul.at 4 rfl) (by decide) (fun _ => ?_) (fun h => absurd h (by decide))
    refine X_aload_n (tk_X10_haul.at 10 rfl) rfl ?_
    refine X_ldc (tk_X10_haul.at 11 rfl) kn_x10_81 ?_
    refine X_cV1i (lv2 := [(0, _), (1, _)]) (tk_X10_haul.at 12 rfl) mv_X10_finding lk_x10_82 np_X10_finding hM.f0 (by decide) rfl (Nat.le_of_ble_eq_true rfl) (Nat.le_of_ble_eq_true rfl) rfl (c10_finding (k := 1) hM (by decide) (by decide) ?_)
    refine X_ireturn (tk_X10_haul.at 13 rfl) rfl rfl ?_
    exact k1 (fun g => by first | exact In_no (by omega) hj12 g.2 | exact In_no (by omega) hj3 g.1)
set_option maxHeartbeats 1000000 in
theorem c10_paceOf {G : Gl} {d : Nat} {S : Sh} {μ : Mu} {o : Nat} {q : Nat → Nat} {r : Int32} {rn : Nat} {N : Nat → Int32} {K : Int32 → Sh → Mu → Prop} (hM : MS S o q) (hN : μ (o + 1) = N) (hw : WF N) (hr : r = nI rn) (hrn : rn < nv (N 3)) (hK : K (nI (pcn N rn (nv (N (83 + 9 * rn))))) S μ) : X G mi_X10_paceOf (d + 2) 0 0 [(0, .ref o), (1, .int r)] [] S μ (qi K) := by
  subst hN
  have w0 := hw.n0
  have w1 := hw.n1
  have w2 := hw.n2
  have w3 := hw.n3
  have w4 := hw.n4
  have w5 := hw.n5
  have w6 := hw.n6
  have b1 := w1.2
  have b2 := w2.2
  have b3 := w3.2
  have b4 := w4.2
  have b5 := w5.2
  have b6 := w6.2
  have b0 := w0.2
  have wr := hw.ro (p := rn) hrn
  have wk := wr.1
  have bk := wk.2
  have hm := wr.2.2.2.1.1
  have bm := wr.2.2.2.1.2
  have loop : ∀ (n i : Nat), i + n = (nv (μ (o + 1) (83 + 9 * rn))) → (pcn (μ (o + 1)) rn i) ≤ 60 → X G mi_X10_paceOf (d + 2) 0 4 [(0, .ref o), (1, .int r), (2, .int (nI (pcn (μ (o + 1)) rn i))), (3, .int (nI i))] [] S μ (qi K) := by
    intro n
    induction n with
    | zero =>
      intro i hi hb
      have e : i = (nv (μ (o + 1) (83 + 9 * rn))) := by omega
      refine X_iload_n (tk_X10_paceOf.at 4 rfl) rfl ?_
      refine X_aload_n (tk_X10_paceOf.at 5 rfl) rfl ?_
      refine X_iload_n (tk_X10_paceOf.at 6 rfl) rfl ?_
      refine X_cV1i (lv2 := [(0, _), (1, _)]) (tk_X10_paceOf.at 7 rfl) mv_X10_many lk_x10_118 np_X10_many hM.f0 (by decide) rfl (Nat.le_of_ble_eq_true rfl) (Nat.le_of_ble_eq_true rfl) rfl (c10_many hM hr (by omega) ?_)
      refine X_icmp_geN (tgt := 35) (tk_X10_paceOf.at 8 rfl) (by decide) (pl i rfl) hm (by omega) (by omega) (fun c1 => ?_) (fun c1 => (by exfalso; omega))
      refine X_iload_n (tk_X10_paceOf.at 21 rfl) rfl ?_
      refine X_ireturn (tk_X10_paceOf.at 22 rfl) rfl rfl ?_
      rw [e]
      exact hK
    | succ n ih =>
      intro i hi hb
      have wp := wr.2.2.2.2 i (by omega)
      have bp := wp.2
      have wq := hw.pe bp
      have bq := wq.2.2.1.1.2
      have z := ih (i + 1) (by omega) (by show (if (pcn (μ (o + 1)) rn i) < nv (μ (o + 1) (10 + 4 * nv (μ (o + 1) (84 + 9 * rn + i)))) then nv (μ (o + 1) (10 + 4 * nv (μ (o + 1) (84 + 9 * rn + i)))) else (pcn (μ (o + 1)) rn i)) ≤ 60; split <;> omega)
      refine X_iload_n (tk_X10_paceOf.at 4 rfl) rfl ?_
      refine X_aload_n (tk_X10_paceOf.at 5 rfl) rfl ?_
      refine X_iload_n (tk_X10_paceOf.at 6 rfl) rfl ?_
      refine X_cV1i (lv2 := [(0, _), (1, _)]) (tk_X10_paceOf.at 7 rfl) mv_X10_many lk_x10_118 np_X10_many hM.f0 (by decide) rfl (Nat.le_of_ble_eq_true rfl) (Nat.le_of_ble_eq_true rfl) rfl (c10_many hM hr (by omega) ?_)
      refine X_icmp_geN (tgt := 35) (tk_X10_paceOf.at 8 rfl) (by decide) (pl i rfl) hm (by omega) (by omega) (fun c1 => (by exfalso; omega)) (fun c1 => ?_)
      refine X_iload_n (tk_X10_paceOf.at 9 rfl) rfl ?_
      refine X_aload_n (tk_X10_paceOf.at 10 rfl) rfl ?_
      refine X_aload_n (tk_X10_paceOf.at 11 rfl) rfl ?_
      refine X_iload_n (tk_X10_paceOf.at 12 rfl) rfl ?_
      refine X_iload_n (tk_X10_paceOf.at 13 rfl) rfl ?_
      refine X_cV2i (lv2 := [(0, _), (1, _), (2, _)]) (tk_X10_paceOf.at 14 rfl) mv_X10_who lk_x10_121 np_X10_who hM.f0 (by decide) rfl (Nat.le_of_ble_eq_true rfl) (Nat.le_of_ble_eq_true rfl) rfl (c10_who hM hr (pl i rfl) (by omega) (by omega) ?_)
      refine X_iconst (tk_X10_paceOf.at 15 rfl) ci_2 ?_
      refine X_cV2i (lv2 := [(0, _), (1, _), (2, _)]) (tk_X10_paceOf.at 16 rfl) mv_X10_of lk_x10_94 np_X10_of hM.f0 (by decide) rfl (Nat.le_of_ble_eq_true rfl) (Nat.le_of_ble_eq_true rfl) rfl (c10_of (k := 10 + 4 * (nv (μ (o + 1) (84 + 9 * rn + i)))) hM wp.1 (pl 2 rfl) (by omega) (by omega) (by omega) ?_)
      refine X_max (tk_X10_paceOf.at 17 rfl) lk_x10_164 (Nat.le_of_ble_eq_true rfl) ?_
      rw [wq.2.2.1.1.1, mx_nI (by omega) (by omega)]
      refine X_istore_n (lv' := [(0, _), (1, _), (2, _), (3, _)]) (tk_X10_paceOf.at 18 rfl) (by decide) rfl rfl ?_
      refine X_iinc (lv' := [(0, _), (1, _), (2, _), (3, _)]) (tk_X10_paceOf.at 19 rfl) rfl ci_1 (by decide) rfl rfl ?_
      refine X_goto (tgt := 4) (tk_X10_paceOf.at 20 rfl) (by decide) ?_
      rw [nI_1 i]
      exact z
  refine X_iconst (tk_X10_paceOf.at 0 rfl) ci_0 ?_
  refine X_istore_n (lv' := [(0, _), (1, _), (2, _)]) (tk_X10_paceOf.at 1 rfl) (by decide) rfl rfl ?_
  refine X_iconst (tk_X10_paceOf.at 2 rfl) ci_0 ?_
  refine X_istore_n (lv' := [(0, _), (1, _), (2, _), (3, _)]) (tk_X10_paceOf.at 3 rfl) (by decide) rfl rfl ?_
  exact loop _ 0 (Nat.zero_add _) (Nat.zero_le _)
set_option maxHeartbeats 1000000 in
theorem c10_riskOf {G : Gl} {d : Nat} {S : Sh} {μ : Mu} {o : Nat} {q : Nat → Nat} {r x z : Int32} {rn i cn : Nat} {N : Nat → Int32} {K : Int32 → Sh → Mu → Prop} (hM : MS S o q) (hN : μ (o + 1) = N) (hw : WF N) (hr : r = nI rn) (hrn : rn < nv (N 3)) (hx : x = nI i) (hi : i < nv (N (83 + 9 * rn))) (hz : z = nI cn) (hcn : cn < nv (N 2)) (hK : ∀ h P, K (gv N 0 (N (8 + 4 * (nv (N (84 + 9 * rn + i))))) (μ (o + 9) (8 * rn + cn) / 60) (μ (o + 10) rn + x) (N (49 + 4 * cn)) (N (50 + 4 * cn))) S (Tst μ o (μ o 17) (μ (o + 9)) (μ (o + 10)) h P)) : X G mi_X10_riskOf (d + 3) 0 0 [(0, .ref o), (1, .int r), (2, .int x), (3, .int z)] [] S μ (qi K) := by
  subst hN
  have w0 := hw.n0
  have w1 := hw.n1
  have w2 := hw.n2
  have w3 := hw.n3
  have w4 := hw.n4
  have w5 := hw.n5
  have w6 := hw.n6
  have b1 := w1.2
  have b2 := w2.2
  have b3 := w3.2
  have b4 := w4.2
  have b5 := w5.2
  have b6 := w6.2
  have b0 := w0.2
  have wr := hw.ro (p := rn) hrn
  have wk := wr.1
  have bk := wk.2
  have hm := wr.2.2.2.1.1
  have bm := wr.2.2.2.1.2
  have wp := wr.2.2.2.2 i hi
  have bp := wp.2
  refine X_aload_n (tk_X10_riskOf.at 0 rfl) rfl ?_
  refine X_aload_n (tk_X10_riskOf.at 1 rfl) rfl ?_
  refine X_iload_n (tk_X10_riskOf.at 2 rfl) rfl ?_
  refine X_iload_n (tk_X10_riskOf.at 3 rfl) rfl ?_
  refine X_cV2i (lv2 := [(0, _), (1, _), (2, _)]) (tk_X10_riskOf.at 4 rfl) mv_X10_who lk_x10_121 np_X10_who hM.f0 (by decide) rfl (Nat.le_of_ble_eq_true rfl) (Nat.le_of_ble_eq_true rfl) rfl (c10_who hM hr hx (by omega) (by omega) ?_)
  refine X_iconst (tk_X10_riskOf.at 5 rfl) ci_0 ?_
  refine X_cV2i (lv2 := [(0, _), (1, _), (2, _)]) (tk_X10_riskOf.at 6 rfl) mv_X10_of lk_x10_94 np_X10_of hM.f0 (by decide) rfl (Nat.le_of_ble_eq_true rfl) (Nat.le_of_ble_eq_true rfl) rfl (c10_of (k := 8 + 4 * (nv (μ (o + 1) (84 + 9 * rn + i)))) hM wp.1 (pl 0 rfl) (by omega) (by omega) (by omega) ?_)
  refine X_istore (lv' := [(0, _), (1, _), (2, _), (3, _), (4, _)]) (tk_X10_riskOf.at 7 rfl) (by decide) rfl rfl ?_
  refine X_aload_n (tk_X10_riskOf.at 8 rfl) rfl ?_
  refine X_iconst (tk_X10_riskOf.at 9 rfl) ci_0 ?_
  refine X_iload (tk_X10_riskOf.at 10 rfl) rfl ?_
  refine X_aload_n (tk_X10_riskOf.at 11 rfl) rfl ?_
  refine X_getR (tk_X10_riskOf.at 12 rfl) fl_x10_41 hM.f0 rfl rfl ?_
  refine X_bipush (tk_X10_riskOf.at 13 rfl) cb_8 ?_
  refine X_iload_n (tk_X10_riskOf.at 14 rfl) rfl ?_
  refine X_imul (tk_X10_riskOf.at 15 rfl) ?_
  refine X_iload_n (tk_X10_riskOf.at 16 rfl) rfl ?_
  refine X_iadd (tk_X10_riskOf.at 17 rfl) ?_
  refine X_ialdN (k := 8 * rn + cn) (tk_X10_riskOf.at 18 rfl) hM.f9 (pz (pa (pm (pl 8 rfl) hr) hz) (by omega)) (by omega) (by decide) ?_
  refine X_bipush (tk_X10_riskOf.at 19 rfl) cb_60 ?_
  refine X_idiv (tk_X10_riskOf.at 20 rfl) (by decide) ?_
  refine X_aload_n (tk_X10_riskOf.at 21 rfl) rfl ?_
  refine X_getR (tk_X10_riskOf.at 22 rfl) fl_x10_44 hM.f0 rfl rfl ?_
  refine X_iload_n (tk_X10_riskOf.at 23 rfl) rfl ?_
  refine X_ialdN (k := rn) (tk_X10_riskOf.at 24 rfl) hM.f10 hr (by omega) (by decide) ?_
  refine X_iload_n (tk_X10_riskOf.at 25 rfl) rfl ?_
  refine X_iadd (tk_X10_riskOf.at 26 rfl) ?_
  refine X_aload_n (tk_X10_riskOf.at 27 rfl) rfl ?_
  refine X_iload_n (tk_X10_riskOf.at 28 rfl) rfl ?_
  refine X_iconst (tk_X10_riskOf.at 29 rfl) ci_1 ?_
  refine X_cV2i (lv2 := [(0, _), (1, _), (2, _)]) (tk_X10_riskOf.at 30 rfl) mv_X10_ofPieceAt lk_x10_109 np_X10_ofPieceAt hM.f0 (by decide) rfl (Nat.le_of_ble_eq_true rfl) (Nat.le_of_ble_eq_true rfl) rfl (c10_ofPieceAt (k := 49 + 4 * cn) hM hz (pl 1 rfl) (by omega) (by omega) (by omega) ?_)
  refine X_aload_n (tk_X10_riskOf.at 31 rfl) rfl ?_
  refine X_iload_n (tk_X10_riskOf.at 32 rfl) rfl ?_
  refine X_iconst (tk_X10_riskOf.at 33 rfl) ci_2 ?_
  refine X_cV2i (lv2 := [(0, _), (1, _), (2, _)]) (tk_X10_riskOf.at 34 rfl) mv_X10_ofPieceAt lk_x10_109 np_X10_ofPieceAt hM.f0 (by decide) rfl (Nat.le_of_ble_eq_true rfl) (Nat.le_of_ble_eq_true rfl) rfl (c10_ofPieceAt (k := 50 + 4 * cn) hM hz (pl 2 rfl) (by omega) (by omega) (by omega) ?_)
  refine X_cV6i (lv2 := [(0, _), (1, _), (2, _), (3, _), (4, _), (5, _), (6, _)]) (tk_X10_riskOf.at 35 rfl) mv_X10_given lk_x10_180 np_X10_given hM.f0 (by decide) rfl (Nat.le_of_ble_eq_true rfl) (Nat.le_of_ble_eq_true rfl) rfl (c10_given hM hw (by decide) (pl 0 rfl) (fun h P => ?_))
  refine X_ireturn (tk_X10_riskOf.at 36 rfl) rfl rfl ?_
  exact hK h P
end
section
abbrev lnA (N : Nat → Int32) (k : Nat) : Nat := nv (N (134 + k))
abbrev mny (N : Nat → Int32) (r : Nat) : Nat := nv (N (83 + 9 * r))
abbrev pac (N : Nat → Int32) (r : Nat) : Nat := pcn N r (nv (N (83 + 9 * r)))
def mxn (a b : Nat) : Nat := if a < b then b else a
def bef (N : Nat → Int32) : Nat → Nat
  | 0 => 0
  | k + 1 => bef N k + mny N (lnA N k)
def offs (fr : Nat → Nat) (st P : Nat) : Nat → Nat
  | 0 => st
  | c + 1 => mxn (offs fr st P c) (fr c) + P
/-- when a piece is free behind the first k of the line -/
def fre (N : Nat → Int32) : Nat → Nat → Nat
  | 0 => fun _ => 0
  | k + 1 => if mny N (lnA N k) = 0 then fre N k else fun c => offs (fre N k) (nv (N 0)) (pac N (lnA N k)) (c + 1)
abbrev ofk (N : Nat → Int32) (k c : Nat) : Nat := offs (fre N k) (nv (N 0)) (pac N (lnA N k)) c
/-- when the k-th of the line comes to a piece -/
def arv (N : Nat → Int32) (k c : Nat) : Nat := mxn (ofk N k c) (fre N k c)
def ovr (N : Nat → Int32) : Nat → Nat
  | 0 => nv (N 0)
  | k + 1 => if mny N (lnA N k) = 0 then ovr N k else ofk N k (nv (N 2))
theorem pcn_le {N : Nat → Int32} (hw : WF N) {r : Nat} (hr : r < nv (N 3)) : ∀ i, i ≤ mny N r → pcn N r i ≤ 60
  | 0, _ => Nat.zero_le _
  | i + 1, h => by
    have ih := pcn_le hw hr i (by omega)
    have wp := (hw.ro hr).2.2.2.2 i (Nat.lt_of_succ_le h)
    have wq := (hw.pe wp.2).2.2.1.1.2
    unfold pcn
    split <;> omega
theorem offs_le {fr : Nat → Nat} {st P B : Nat} (hf : ∀ c, c < 8 → fr c ≤ B) (hs : st ≤ B) (hP : P ≤ 60) : ∀ c, c ≤ 8 → offs fr st P c ≤ B + 60 * c
  | 0, _ => by show st ≤ _; omega
  | c + 1, h => by
    have ih := offs_le hf hs hP c (by omega)
    have h1 := hf c (by omega)
    show mxn _ _ + P ≤ _
    unfold mxn
    split <;> omega
theorem fre_le {N : Nat → Int32} (hw : WF N) : ∀ k, k ≤ nv (N 4) → ∀ c, c < 8 → fre N k c ≤ 1439 + 480 * k
  | 0, _, c, _ => Nat.zero_le _
  | k + 1, hk, c, hc => by
    have ih := fre_le hw k (by omega)
    have h0 := hw.n0.2
    have hl := hw.li (k := k) (by omega)
    have hp := pcn_le hw hl.2 _ (Nat.le_refl _)
    unfold fre
    split
    · have := ih c hc; omega
    · have := offs_le (fr := fre N k) (st := nv (N 0)) (P := pac N (lnA N k)) (B := 1439 + 480 * k) ih (by omega) hp (c + 1) (by omega)
      show offs _ _ _ (c + 1) ≤ _
      omega
theorem ofk_le {N : Nat → Int32} (hw : WF N) {k c : Nat} (hk : k < nv (N 4)) (hc : c ≤ 8) : ofk N k c ≤ 1919 + 480 * k := by
  have h0 := hw.n0.2
  have hl := hw.li hk
  have hp := pcn_le hw hl.2 _ (Nat.le_refl _)
  have := offs_le (fr := fre N k) (st := nv (N 0)) (P := pac N (lnA N k)) (B := 1439 + 480 * k) (fre_le hw k (by omega)) (by omega) hp c hc
  show offs _ _ _ c ≤ _
  omega
/-- what a crossing leaves in comes and before, up to the k-th of the line -/
def CrI (N : Nat → Int32) (cm bf : Nat → Int32) (k : Nat) : Prop := (∀ j, j < k → bf (lnA N j) = nI (bef N j)) ∧ ∀ j, j < k → 0 < mny N (lnA N j) → ∀ c, c < nv (N 2) → cm (8 * lnA N j + c) = nI (arv N j c)
def CrL (N : Nat → Int32) (k : Nat) (last : Int32) : Prop := (last = -1 ∧ ∀ c, fre N k c = 0) ∨ ∃ j, j < k ∧ last = nI (lnA N j) ∧ 0 < mny N (lnA N j) ∧ ∀ c, c < nv (N 2) → fre N k c = arv N j c + pac N (lnA N j)
set_option maxHeartbeats 1000000 in
theorem c10_cross {G : Gl} {d : Nat} {S : Sh} {μ : Mu} {o : Nat} {q : Nat → Nat} {N : Nat → Int32} {K : Sh → Mu → Prop} (hM : MS S o q) (hN : μ (o + 1) = N) (hw : WF N) (hK : ∀ cm bf, CrI N cm bf (nv (N 4)) → K S (Tst μ o (nI (ovr N (nv (N 4)))) cm bf (μ (o + 7)) (μ (o + 8)))) : X G mi_X10_cross (d + 3) 0 0 [(0, .ref o)] [] S μ (qv K) := by
  subst hN
  have w0 := hw.n0
  have w1 := hw.n1
  have w2 := hw.n2
  have w3 := hw.n3
  have w4 := hw.n4
  have w5 := hw.n5
  have w6 := hw.n6
  have b1 := w1.2
  have b2 := w2.2
  have b3 := w3.2
  have b4 := w4.2
  have b5 := w5.2
  have b6 := w6.2
  have b0 := w0.2
  have outer : ∀ (n k : Nat) (last : Int32) (cm bf : Nat → Int32), k + n = nv (μ (o + 1) 4) → CrI (μ (o + 1)) cm bf k → CrL (μ (o + 1)) k last → ∀ rest, X G mi_X10_cross (d + 3) 0 16 ([(0, .ref o), (1, .int (nI (bef (μ (o + 1)) k))), (2, .int last), (3, .int (nI k))] ++ rest) [] S (Tst μ o (nI (ovr (μ (o + 1)) k)) cm bf (μ (o + 7)) (μ (o + 8))) (qv K) := by
    intro n
    induction n with
    | zero =>
      intro k last cm bf hk hI hL rest
      refine X_lvp [0, 1, 2, 3] (lv' := [(0, _), (1, _), (2, _), (3, _)]) rfl ?_
      have e : k = nv (μ (o + 1) 4) := by omega
      refine X_iload_n (tk_X10_cross.at 12 rfl) rfl ?_
      refine X_aload_n (tk_X10_cross.at 13 rfl) rfl ?_
      refine X_getR (tk_X10_cross.at 14 rfl) fl_x10_9 hM.f0 rfl rfl ?_
      refine X_iconst (tk_X10_cross.at 15 rfl) ci_4 ?_
      refine X_ialdN (k := 4) (tk_X10_cross.at 16 rfl) hM.f1 (pz (pl 4 rfl) (by omega)) (by omega) (by decide) ?_
      rw [Tst1]
      refine X_icmp_geN (tgt := 186) (tk_X10_cross.at 17 rfl) (by decide) (pl k rfl) w4.1 (by omega) (by omega) (fun c1 => ?_) (fun c1 => (by exfalso; omega))
      refine X_return (tk_X10_cross.at 107 rfl) rfl ?_
      rw [e] at hI ⊢
      exact hK cm bf hI
    | succ n ih =>
      intro k last cm bf hk hI hL rest
      refine X_lvp [0, 1, 2, 3] (lv' := [(0, _), (1, _), (2, _), (3, _)]) rfl ?_
      have wl := hw.li (k := k) (by omega)
      have wr := hw.ro wl.2
      have bl : lnA (μ (o + 1)) k < nv (μ (o + 1) 3) := wl.2
      have hm : μ (o + 1) (83 + 9 * lnA (μ (o + 1)) k) = nI (mny (μ (o + 1)) (lnA (μ (o + 1)) k)) := wr.2.2.2.1.1
      have bm : mny (μ (o + 1)) (lnA (μ (o + 1)) k) ≤ 5 := wr.2.2.2.1.2
      have hp60 : pac (μ (o + 1)) (lnA (μ (o + 1)) k) ≤ 60 := pcn_le hw wl.2 _ (Nat.le_refl _)
      have hne : ∀ j, j < k → lnA (μ (o + 1)) j ≠ lnA (μ (o + 1)) k := by
        intro j hj e
        have := hw.lu (k := j) (k' := k) (by omega) (by omega) (by rw [(hw.li (k := j) (by omega)).1, wl.1]; exact congrArg nI e)
        omega
      have tail : ∀ (cm : Nat → Int32) (v6 : Int32) (rest : List (Nat × Value)), (∀ j, j < k → 0 < mny (μ (o + 1)) (lnA (μ (o + 1)) j) → ∀ c, c < nv (μ (o + 1) 2) → cm (8 * lnA (μ (o + 1)) j + c) = nI (arv (μ (o + 1)) j c)) → (0 < (mny (μ (o + 1)) (lnA (μ (o + 1)) k)) → ∀ c, c < nv (μ (o + 1) 2) → cm (8 * (lnA (μ (o + 1)) k) + c) = nI (arv (μ (o + 1)) k c)) → (0 < (mny (μ (o + 1)) (lnA (μ (o + 1)) k)) → v6 = nI (ofk (μ (o + 1)) k (nv (μ (o + 1) 2)))) → X G mi_X10_cross (d + 3) 0 162 ([(0, .ref o), (1, .int (nI (bef (μ (o + 1)) (k + 1)))), (2, .int last), (3, .int (nI k)), (4, .int (nI (lnA (μ (o + 1)) k))), (5, .int v6)] ++ rest) [] S (Tst μ o (nI (ovr (μ (o + 1)) k)) cm (upd bf (lnA (μ (o + 1)) k) (nI (bef (μ (o + 1)) k))) (μ (o + 7)) (μ (o + 8))) (qv K) := by
        intro cm v6 rest h1 h2 h3
        refine X_lvp [0, 1, 2, 3, 4, 5] (lv' := [(0, _), (1, _), (2, _), (3, _), (4, _), (5, _)]) rfl ?_
        have hI2 : (∀ j, j < k + 1 → (upd bf (lnA (μ (o + 1)) k) (nI (bef (μ (o + 1)) k))) (lnA (μ (o + 1)) j) = nI (bef (μ (o + 1)) j)) := by
          intro j hj
          by_cases e : j = k
          · subst e; exact upd_at _ _ _
          · rw [upd_ne _ _ (hne j (by omega))]; exact hI.1 j (by omega)
        have hI3 : ∀ j, j < k + 1 → 0 < mny (μ (o + 1)) (lnA (μ (o + 1)) j) → ∀ c, c < nv (μ (o + 1) 2) → cm (8 * lnA (μ (o + 1)) j + c) = nI (arv (μ (o + 1)) j c) := by
          intro j hj hp c hc
          by_cases e : j = k
          · subst e; exact h2 hp c hc
          · exact h1 j (by omega) hp c hc
        refine X_aload_n (tk_X10_cross.at 96 rfl) rfl ?_
        refine X_iload (tk_X10_cross.at 97 rfl) rfl ?_
        refine X_cV1i (lv2 := [(0, _), (1, _)]) (tk_X10_cross.at 98 rfl) mv_X10_many lk_x10_118 np_X10_many hM.f0 (by decide) rfl (Nat.le_of_ble_eq_true rfl) (Nat.le_of_ble_eq_true rfl) rfl (c10_many hM (pl (lnA (μ (o + 1)) k) rfl) (by omega) ?_)
        rw [Tst1]
        refine X_if_leN (tgt := 180) (tk_X10_cross.at 99 rfl) (by decide) hm (by omega) (fun c1 => ?_) (fun c1 => ?_)
        · refine X_iinc (lv' := [(0, _), (1, _), (2, _), (3, _), (4, _), (5, _)]) (tk_X10_cross.at 105 rfl) rfl ci_1 (by decide) rfl rfl ?_
          refine X_goto (tgt := 16) (tk_X10_cross.at 106 rfl) (by decide) ?_
          have ef : fre (μ (o + 1)) (k + 1) = fre (μ (o + 1)) k := by show (if _ then _ else _) = _; rw [if_pos c1]
          have eo : ovr (μ (o + 1)) (k + 1) = ovr (μ (o + 1)) k := by show (if _ then _ else _) = _; rw [if_pos c1]
          rw [nI_1 k]
          have z := ih (k + 1) last cm _ (by omega) ⟨hI2, hI3⟩ (by rcases hL with ⟨e, h⟩ | ⟨j, a1, a2, a3, a4⟩; exact Or.inl ⟨e, by rw [ef]; exact h⟩; exact Or.inr ⟨j, by omega, a2, a3, by rw [ef]; exact a4⟩) [(4, .int (nI (lnA (μ (o + 1)) k))), (5, .int v6)]
          rw [eo] at z
          exact z
        · refine X_iload (tk_X10_cross.at 100 rfl) rfl ?_
          refine X_istore_n (lv' := [(0, _), (1, _), (2, _), (3, _), (4, _), (5, _)]) (tk_X10_cross.at 101 rfl) (by decide) rfl rfl ?_
          refine X_aload_n (tk_X10_cross.at 102 rfl) rfl ?_
          refine X_iload (tk_X10_cross.at 103 rfl) rfl ?_
          refine X_putI (tk_X10_cross.at 104 rfl) fl_x10_249 hM.f0 rfl rfl ⟨rfl, rfl⟩ ?_
          refine X_iinc (lv' := [(0, _), (1, _), (2, _), (3, _), (4, _), (5, _)]) (tk_X10_cross.at 105 rfl) rfl ci_1 (by decide) rfl rfl ?_
          refine X_goto (tgt := 16) (tk_X10_cross.at 106 rfl) (by decide) ?_
          have ef : fre (μ (o + 1)) (k + 1) = fun c => ofk (μ (o + 1)) k (c + 1) := by show (if _ then _ else _) = _; rw [if_neg (Nat.ne_of_gt c1)]
          have eo : ovr (μ (o + 1)) (k + 1) = ofk (μ (o + 1)) k (nv (μ (o + 1) 2)) := by show (if _ then _ else _) = _; rw [if_neg (Nat.ne_of_gt c1)]
          rw [h3 (by omega), Tst_ov, nI_1 k]
          have z := ih (k + 1) (nI (lnA (μ (o + 1)) k)) cm _ (by omega) ⟨hI2, hI3⟩ (Or.inr ⟨k, by omega, rfl, by omega, fun c hc => by rw [ef]; rfl⟩) [(4, .int (nI (lnA (μ (o + 1)) k))), (5, .int v6)]
          rw [eo] at z
          rw [h3 (by omega)] at z
          exact z
      have inn : ∀ (m c : Nat) (cm : Nat → Int32), c + m = nv (μ (o + 1) 2) → 0 < (mny (μ (o + 1)) (lnA (μ (o + 1)) k)) → (∀ j, j < k → 0 < mny (μ (o + 1)) (lnA (μ (o + 1)) j) → ∀ c, c < nv (μ (o + 1) 2) → cm (8 * lnA (μ (o + 1)) j + c) = nI (arv (μ (o + 1)) j c)) → (∀ e, e < c → cm (8 * (lnA (μ (o + 1)) k) + e) = nI (arv (μ (o + 1)) k e)) → ∀ rest, X G mi_X10_cross (d + 3) 0 66 ([(0, .ref o), (1, .int (nI (bef (μ (o + 1)) (k + 1)))), (2, .int last), (3, .int (nI k)), (4, .int (nI (lnA (μ (o + 1)) k))), (5, .int (nI (ofk (μ (o + 1)) k c))), (6, .int (nI c))] ++ rest) [] S (Tst μ o (nI (ovr (μ (o + 1)) k)) cm (upd bf (lnA (μ (o + 1)) k) (nI (bef (μ (o + 1)) k))) (μ (o + 7)) (μ (o + 8))) (qv K) := by
        intro m
        induction m with
        | zero =>
          intro c cm hc hpos h1 h2 rest
          refine X_lvp [0, 1, 2, 3, 4, 5, 6] (lv' := [(0, _), (1, _), (2, _), (3, _), (4, _), (5, _), (6, _)]) rfl ?_
          have e : c = nv (μ (o + 1) 2) := by omega
          refine X_iload (tk_X10_cross.at 43 rfl) rfl ?_
          refine X_aload_n (tk_X10_cross.at 44 rfl) rfl ?_
          refine X_getR (tk_X10_cross.at 45 rfl) fl_x10_9 hM.f0 rfl rfl ?_
          refine X_iconst (tk_X10_cross.at 46 rfl) ci_2 ?_
          refine X_ialdN (k := 2) (tk_X10_cross.at 47 rfl) hM.f1 (pz (pl 2 rfl) (by omega)) (by omega) (by decide) ?_
          rw [Tst1]
          refine X_icmp_geN (tgt := 162) (tk_X10_cross.at 48 rfl) (by decide) (pl c rfl) w2.1 (by omega) (by omega) (fun c1 => ?_) (fun c1 => (by exfalso; omega))
          exact tail cm _ [(6, .int (nI c))] h1 (fun _ c2 hc2 => h2 c2 (by omega)) (fun _ => by rw [e])
        | succ m ihm =>
          intro c cm hc hpos h1 h2 rest
          refine X_lvp [0, 1, 2, 3, 4, 5, 6] (lv' := [(0, _), (1, _), (2, _), (3, _), (4, _), (5, _), (6, _)]) rfl ?_
          have bo := ofk_le hw (k := k) (c := c) (by omega) (by omega)
          have bf8 := fre_le hw k (by omega) c (by omega)
          have key : ∀ (fv : Int32), fv = nI (fre (μ (o + 1)) k c) → X G mi_X10_cross (d + 3) 0 112 [(0, .ref o), (1, .int (nI (bef (μ (o + 1)) (k + 1)))), (2, .int last), (3, .int (nI k)), (4, .int (nI (lnA (μ (o + 1)) k))), (5, .int (nI (ofk (μ (o + 1)) k c))), (6, .int (nI c))] [.int fv] S (Tst μ o (nI (ovr (μ (o + 1)) k)) cm (upd bf (lnA (μ (o + 1)) k) (nI (bef (μ (o + 1)) k))) (μ (o + 7)) (μ (o + 8))) (qv K) := by
            intro fv hfv
            subst hfv
            refine X_istore (lv' := [(0, _), (1, _), (2, _), (3, _), (4, _), (5, _), (6, _), (7, _)]) (tk_X10_cross.at 69 rfl) (by decide) rfl rfl ?_
            refine X_aload_n (tk_X10_cross.at 70 rfl) rfl ?_
            refine X_getR (tk_X10_cross.at 71 rfl) fl_x10_41 hM.f0 rfl rfl ?_
            refine X_bipush (tk_X10_cross.at 72 rfl) cb_8 ?_
            refine X_iload (tk_X10_cross.at 73 rfl) rfl ?_
            refine X_imul (tk_X10_cross.at 74 rfl) ?_
            refine X_iload (tk_X10_cross.at 75 rfl) rfl ?_
            refine X_iadd (tk_X10_cross.at 76 rfl) ?_
            refine X_iload (tk_X10_cross.at 77 rfl) rfl ?_
            refine X_iload (tk_X10_cross.at 78 rfl) rfl ?_
            refine X_max (tk_X10_cross.at 79 rfl) lk_x10_164 (Nat.le_of_ble_eq_true rfl) ?_
            rw [mx_nI (by omega) (by omega)]
            change X _ _ _ _ _ _ (.int (nI (arv (μ (o + 1)) k c)) :: _) _ _ _
            refine X_iastN (k := 8 * (lnA (μ (o + 1)) k) + c) (tk_X10_cross.at 80 rfl) hM.f9 (pz (pa (pm (pl 8 rfl) (pl (lnA (μ (o + 1)) k) rfl)) (pl c rfl)) (by omega)) (by omega) (by decide) ?_
            rw [su_eq, Tst9, Tst_cm]
            refine X_aload_n (tk_X10_cross.at 81 rfl) rfl ?_
            refine X_getR (tk_X10_cross.at 82 rfl) fl_x10_41 hM.f0 rfl rfl ?_
            refine X_bipush (tk_X10_cross.at 83 rfl) cb_8 ?_
            refine X_iload (tk_X10_cross.at 84 rfl) rfl ?_
            refine X_imul (tk_X10_cross.at 85 rfl) ?_
            refine X_iload (tk_X10_cross.at 86 rfl) rfl ?_
            refine X_iadd (tk_X10_cross.at 87 rfl) ?_
            refine X_ialdN (k := 8 * (lnA (μ (o + 1)) k) + c) (tk_X10_cross.at 88 rfl) hM.f9 (pz (pa (pm (pl 8 rfl) (pl (lnA (μ (o + 1)) k) rfl)) (pl c rfl)) (by omega)) (by omega) (by decide) ?_
            rw [Tst9, upd_at]
            refine X_aload_n (tk_X10_cross.at 89 rfl) rfl ?_
            refine X_iload (tk_X10_cross.at 90 rfl) rfl ?_
            refine X_cV1i (lv2 := [(0, _), (1, _)]) (tk_X10_cross.at 91 rfl) mv_X10_paceOf lk_x10_252 np_X10_paceOf hM.f0 (by decide) rfl (Nat.le_of_ble_eq_true rfl) (Nat.le_of_ble_eq_true rfl) rfl (c10_paceOf hM (Tst1 _ _ _ _ _ _ _) hw (pl (lnA (μ (o + 1)) k) rfl) wl.2 ?_)
            refine X_iadd (tk_X10_cross.at 92 rfl) ?_
            rw [nI_add]
            change X _ _ _ _ _ _ (.int (nI (ofk (μ (o + 1)) k (c + 1))) :: _) _ _ _
            refine X_istore (lv' := [(0, _), (1, _), (2, _), (3, _), (4, _), (5, _), (6, _), (7, _)]) (tk_X10_cross.at 93 rfl) (by decide) rfl rfl ?_
            refine X_iinc (lv' := [(0, _), (1, _), (2, _), (3, _), (4, _), (5, _), (6, _), (7, _)]) (tk_X10_cross.at 94 rfl) rfl ci_1 (by decide) rfl rfl ?_
            refine X_goto (tgt := 66) (tk_X10_cross.at 95 rfl) (by decide) ?_
            rw [nI_1 c]
            have z := ihm (c + 1) (upd cm (8 * (lnA (μ (o + 1)) k) + c) (nI (arv (μ (o + 1)) k c))) (by omega) hpos ?_ ?_ [(7, .int (nI (fre (μ (o + 1)) k c)))]
            · exact z
            · intro j hj hp c2 hc2
              have := hne j hj
              rw [upd_ne _ _ (by omega)]
              exact h1 j hj hp c2 hc2
            · intro e he
              by_cases ee : e = c
              · rw [ee]; exact upd_at _ _ _
              · rw [upd_ne _ _ (by omega)]; exact h2 e (by omega)
          rcases hL with ⟨el, h⟩ | ⟨j, a1, a2, a3, a4⟩
          · subst el
            refine X_iload (tk_X10_cross.at 43 rfl) rfl ?_
            refine X_aload_n (tk_X10_cross.at 44 rfl) rfl ?_
            refine X_getR (tk_X10_cross.at 45 rfl) fl_x10_9 hM.f0 rfl rfl ?_
            refine X_iconst (tk_X10_cross.at 46 rfl) ci_2 ?_
            refine X_ialdN (k := 2) (tk_X10_cross.at 47 rfl) hM.f1 (pz (pl 2 rfl) (by omega)) (by omega) (by decide) ?_
            rw [Tst1]
            refine X_icmp_geN (tgt := 162) (tk_X10_cross.at 48 rfl) (by decide) (pl c rfl) w2.1 (by omega) (by omega) (fun c1 => (by exfalso; omega)) (fun c1 => ?_)
            refine X_aload_n (tk_X10_cross.at 49 rfl) rfl ?_
            refine X_iload (tk_X10_cross.at 50 rfl) rfl ?_
            refine X_cV1i (lv2 := [(0, _), (1, _)]) (tk_X10_cross.at 51 rfl) mv_X10_many lk_x10_118 np_X10_many hM.f0 (by decide) rfl (Nat.le_of_ble_eq_true rfl) (Nat.le_of_ble_eq_true rfl) rfl (c10_many hM (pl (lnA (μ (o + 1)) k) rfl) (by omega) ?_)
            rw [Tst1]
            refine X_if_leN (tgt := 162) (tk_X10_cross.at 52 rfl) (by decide) hm (by omega) (fun c2 => (by exfalso; omega)) (fun c2 => ?_)
            refine X_iload_n (tk_X10_cross.at 53 rfl) rfl ?_
            refine X_if_ge (tgt := 94) (tk_X10_cross.at 54 rfl) (by decide) (fun h => absurd h (by decide)) (fun _ => ?_)
            refine X_iconst (tk_X10_cross.at 55 rfl) ci_0 ?_
            refine X_goto (tgt := 112) (tk_X10_cross.at 56 rfl) (by decide) ?_
            exact key _ (by rw [h c]; rfl)
          · subst a2
            have wj := hw.li (k := j) (by omega)
            have bj : lnA (μ (o + 1)) j < nv (μ (o + 1) 3) := wj.2
            refine X_iload (tk_X10_cross.at 43 rfl) rfl ?_
            refine X_aload_n (tk_X10_cross.at 44 rfl) rfl ?_
            refine X_getR (tk_X10_cross.at 45 rfl) fl_x10_9 hM.f0 rfl rfl ?_
            refine X_iconst (tk_X10_cross.at 46 rfl) ci_2 ?_
            refine X_ialdN (k := 2) (tk_X10_cross.at 47 rfl) hM.f1 (pz (pl 2 rfl) (by omega)) (by omega) (by decide) ?_
            rw [Tst1]
            refine X_icmp_geN (tgt := 162) (tk_X10_cross.at 48 rfl) (by decide) (pl c rfl) w2.1 (by omega) (by omega) (fun c1 => (by exfalso; omega)) (fun c1 => ?_)
            refine X_aload_n (tk_X10_cross.at 49 rfl) rfl ?_
            refine X_iload (tk_X10_cross.at 50 rfl) rfl ?_
            refine X_cV1i (lv2 := [(0, _), (1, _)]) (tk_X10_cross.at 51 rfl) mv_X10_many lk_x10_118 np_X10_many hM.f0 (by decide) rfl (Nat.le_of_ble_eq_true rfl) (Nat.le_of_ble_eq_true rfl) rfl (c10_many hM (pl (lnA (μ (o + 1)) k) rfl) (by omega) ?_)
            rw [Tst1]
            refine X_if_leN (tgt := 162) (tk_X10_cross.at 52 rfl) (by decide) hm (by omega) (fun c2 => (by exfalso; omega)) (fun c2 => ?_)
            refine X_iload_n (tk_X10_cross.at 53 rfl) rfl ?_
            refine X_if_geN (tgt := 94) (tk_X10_cross.at 54 rfl) (by decide) (pl (lnA (μ (o + 1)) j) rfl) (by omega) ?_
            refine X_aload_n (tk_X10_cross.at 57 rfl) rfl ?_
            refine X_getR (tk_X10_cross.at 58 rfl) fl_x10_41 hM.f0 rfl rfl ?_
            refine X_bipush (tk_X10_cross.at 59 rfl) cb_8 ?_
            refine X_iload_n (tk_X10_cross.at 60 rfl) rfl ?_
            refine X_imul (tk_X10_cross.at 61 rfl) ?_
            refine X_iload (tk_X10_cross.at 62 rfl) rfl ?_
            refine X_iadd (tk_X10_cross.at 63 rfl) ?_
            refine X_ialdN (k := 8 * (lnA (μ (o + 1)) j) + c) (tk_X10_cross.at 64 rfl) hM.f9 (pz (pa (pm (pl 8 rfl) (pl (lnA (μ (o + 1)) j) rfl)) (pl c rfl)) (by omega)) (by omega) (by decide) ?_
            rw [Tst9]
            refine X_aload_n (tk_X10_cross.at 65 rfl) rfl ?_
            refine X_iload_n (tk_X10_cross.at 66 rfl) rfl ?_
            refine X_cV1i (lv2 := [(0, _), (1, _)]) (tk_X10_cross.at 67 rfl) mv_X10_paceOf lk_x10_252 np_X10_paceOf hM.f0 (by decide) rfl (Nat.le_of_ble_eq_true rfl) (Nat.le_of_ble_eq_true rfl) rfl (c10_paceOf hM (Tst1 _ _ _ _ _ _ _) hw (pl (lnA (μ (o + 1)) j) rfl) wj.2 ?_)
            refine X_iadd (tk_X10_cross.at 68 rfl) ?_
            exact key _ (by rw [h1 j a1 a3 c (by omega), nI_add, a4 c (by omega)])
      refine X_iload_n (tk_X10_cross.at 12 rfl) rfl ?_
      refine X_aload_n (tk_X10_cross.at 13 rfl) rfl ?_
      refine X_getR (tk_X10_cross.at 14 rfl) fl_x10_9 hM.f0 rfl rfl ?_
      refine X_iconst (tk_X10_cross.at 15 rfl) ci_4 ?_
      refine X_ialdN (k := 4) (tk_X10_cross.at 16 rfl) hM.f1 (pz (pl 4 rfl) (by omega)) (by omega) (by decide) ?_
      rw [Tst1]
      refine X_icmp_geN (tgt := 186) (tk_X10_cross.at 17 rfl) (by decide) (pl k rfl) w4.1 (by omega) (by omega) (fun c1 => (by exfalso; omega)) (fun c1 => ?_)
      refine X_aload_n (tk_X10_cross.at 18 rfl) rfl ?_
      refine X_getR (tk_X10_cross.at 19 rfl) fl_x10_9 hM.f0 rfl rfl ?_
      refine X_sipush (tk_X10_cross.at 20 rfl) cs_134 ?_
      refine X_iload_n (tk_X10_cross.at 21 rfl) rfl ?_
      refine X_iadd (tk_X10_cross.at 22 rfl) ?_
      refine X_ialdN (k := 134 + k) (tk_X10_cross.at 23 rfl) hM.f1 (pz (pa (pl 134 rfl) (pl k rfl)) (by omega)) (by omega) (by decide) ?_
      rw [Tst1, wl.1]
      refine X_istore (lv' := [(0, _), (1, _), (2, _), (3, _), (4, _)]) (tk_X10_cross.at 24 rfl) (by decide) rfl rfl ?_
      refine X_aload_n (tk_X10_cross.at 25 rfl) rfl ?_
      refine X_getR (tk_X10_cross.at 26 rfl) fl_x10_44 hM.f0 rfl rfl ?_
      refine X_iload (tk_X10_cross.at 27 rfl) rfl ?_
      refine X_iload_n (tk_X10_cross.at 28 rfl) rfl ?_
      refine X_iastN (k := (lnA (μ (o + 1)) k)) (tk_X10_cross.at 29 rfl) hM.f10 (pz (pl (lnA (μ (o + 1)) k) rfl) (by omega)) (by omega) (by decide) ?_
      rw [su_eq, Tst10, Tst_bf]
      refine X_iload_n (tk_X10_cross.at 30 rfl) rfl ?_
      refine X_aload_n (tk_X10_cross.at 31 rfl) rfl ?_
      refine X_iload (tk_X10_cross.at 32 rfl) rfl ?_
      refine X_cV1i (lv2 := [(0, _), (1, _)]) (tk_X10_cross.at 33 rfl) mv_X10_many lk_x10_118 np_X10_many hM.f0 (by decide) rfl (Nat.le_of_ble_eq_true rfl) (Nat.le_of_ble_eq_true rfl) rfl (c10_many hM (pl (lnA (μ (o + 1)) k) rfl) (by omega) ?_)
      rw [Tst1]
      refine X_iadd (tk_X10_cross.at 34 rfl) ?_
      rw [hm, nI_add]
      change X _ _ _ _ _ _ (.int (nI (bef (μ (o + 1)) (k + 1))) :: _) _ _ _
      refine X_istore_n (lv' := [(0, _), (1, _), (2, _), (3, _), (4, _)]) (tk_X10_cross.at 35 rfl) (by decide) rfl rfl ?_
      refine X_aload_n (tk_X10_cross.at 36 rfl) rfl ?_
      refine X_getR (tk_X10_cross.at 37 rfl) fl_x10_9 hM.f0 rfl rfl ?_
      refine X_iconst (tk_X10_cross.at 38 rfl) ci_0 ?_
      refine X_ialdN (k := 0) (tk_X10_cross.at 39 rfl) hM.f1 (pz (pl 0 rfl) (by omega)) (by omega) (by decide) ?_
      rw [Tst1]
      refine X_istore (lv' := [(0, _), (1, _), (2, _), (3, _), (4, _), (5, _)]) (tk_X10_cross.at 40 rfl) (by decide) rfl rfl ?_
      refine X_iconst (tk_X10_cross.at 41 rfl) ci_0 ?_
      refine X_istore (lv' := [(0, _), (1, _), (2, _), (3, _), (4, _), (5, _), (6, _)]) (tk_X10_cross.at 42 rfl) (by decide) rfl rfl ?_
      by_cases hpos : 0 < (mny (μ (o + 1)) (lnA (μ (o + 1)) k))
      · have z := inn (nv (μ (o + 1) 2)) 0 cm (Nat.zero_add _) hpos hI.2 (fun e he => absurd he (Nat.not_lt_zero e)) []
        rw [show ofk (μ (o + 1)) k 0 = nv (μ (o + 1) 0) from rfl, ← w0.1] at z
        exact z
      · have z := tail cm (μ (o + 1) 0) [(6, .int 0)] hI.2 (fun h => absurd h hpos) (fun h => absurd h hpos)
        refine X_iload (tk_X10_cross.at 43 rfl) rfl ?_
        refine X_aload_n (tk_X10_cross.at 44 rfl) rfl ?_
        refine X_getR (tk_X10_cross.at 45 rfl) fl_x10_9 hM.f0 rfl rfl ?_
        refine X_iconst (tk_X10_cross.at 46 rfl) ci_2 ?_
        refine X_ialdN (k := 2) (tk_X10_cross.at 47 rfl) hM.f1 (pz (pl 2 rfl) (by omega)) (by omega) (by decide) ?_
        rw [Tst1]
        refine X_icmp_geN (tgt := 162) (tk_X10_cross.at 48 rfl) (by decide) (pl 0 rfl) w2.1 (by omega) (by omega) (fun c1 => ?_) (fun c1 => ?_)
        · exact z
        · refine X_aload_n (tk_X10_cross.at 49 rfl) rfl ?_
          refine X_iload (tk_X10_cross.at 50 rfl) rfl ?_
          refine X_cV1i (lv2 := [(0, _), (1, _)]) (tk_X10_cross.at 51 rfl) mv_X10_many lk_x10_118 np_X10_many hM.f0 (by decide) rfl (Nat.le_of_ble_eq_true rfl) (Nat.le_of_ble_eq_true rfl) rfl (c10_many hM (pl (lnA (μ (o + 1)) k) rfl) (by omega) ?_)
          rw [Tst1]
          refine X_if_leN (tgt := 162) (tk_X10_cross.at 52 rfl) (by decide) hm (by omega) (fun c2 => ?_) (fun c2 => (by exfalso; omega))
          exact z
  refine X_iconst (tk_X10_cross.at 0 rfl) ci_0 ?_
  refine X_istore_n (lv' := [(0, _), (1, _)]) (tk_X10_cross.at 1 rfl) (by decide) rfl rfl ?_
  refine X_iconst (tk_X10_cross.at 2 rfl) ci_m1 ?_
  refine X_istore_n (lv' := [(0, _), (1, _), (2, _)]) (tk_X10_cross.at 3 rfl) (by decide) rfl rfl ?_
  refine X_aload_n (tk_X10_cross.at 4 rfl) rfl ?_
  refine X_aload_n (tk_X10_cross.at 5 rfl) rfl ?_
  refine X_getR (tk_X10_cross.at 6 rfl) fl_x10_9 hM.f0 rfl rfl ?_
  refine X_iconst (tk_X10_cross.at 7 rfl) ci_0 ?_
  refine X_ialdN (k := 0) (tk_X10_cross.at 8 rfl) hM.f1 (pz (pl 0 rfl) (by omega)) (by omega) (by decide) ?_
  refine X_putI (tk_X10_cross.at 9 rfl) fl_x10_249 hM.f0 rfl rfl ⟨rfl, rfl⟩ ?_
  refine X_iconst (tk_X10_cross.at 10 rfl) ci_0 ?_
  refine X_istore_n (lv' := [(0, _), (1, _), (2, _), (3, _)]) (tk_X10_cross.at 11 rfl) (by decide) rfl rfl ?_
  have z := outer _ 0 (-1) (μ (o + 9)) (μ (o + 10)) (Nat.zero_add _) ⟨fun j hj => absurd hj (Nat.not_lt_zero j), fun j hj => absurd hj (Nat.not_lt_zero j)⟩ (Or.inl ⟨rfl, fun _ => rfl⟩) []
  rw [show su μ o 17 (μ (o + 1) 0) = Tst μ o (nI (ovr (μ (o + 1)) 0)) (μ (o + 9)) (μ (o + 10)) (μ (o + 7)) (μ (o + 8)) from by rw [show ovr (μ (o + 1)) 0 = nv (μ (o + 1) 0) from rfl, ← w0.1, ← Tst_ov μ o (μ o 17), Tst_self]]
  exact z
end
