section
-- ===== PART A: goes FIRST, ahead of the names: the tables' words, and 'selects' of the private methods out of them =====
/-- a private method of a class that the tables say can be made, by its rows of tables_1 -/
def lw_okq (q : MethodName × Nat) : Prop := (q.1.cls ≠ "java/lang/invoke/MethodHandle" ∧ q.1.cls ≠ "java/lang/invoke/VarHandle") ∧ Cond.instantiable q.1.cls q.2 ∈ tables_1 ∧ Cond.privateMethod q.1 ∈ tables_1 ∧ Cond.instanceMethod q.1 ∈ tables_1
theorem lw_p0 : lw_okq (⟨"FillAndGo", "isBus", "(I)Z"⟩, 18) := ⟨⟨by decide +kernel, by decide +kernel⟩, List.mem_of_getElem? (i := 22) (by decide +kernel), List.mem_of_getElem? (i := 383) (by decide +kernel), List.mem_of_getElem? (i := 384) (by decide +kernel)⟩
theorem lw_p1 : lw_okq (⟨"FillAndGo$Tape", "parseLine", "()LFillAndGo$Line;"⟩, 5) := ⟨⟨by decide +kernel, by decide +kernel⟩, List.mem_of_getElem? (i := 263) (by decide +kernel), List.mem_of_getElem? (i := 434) (by decide +kernel), List.mem_of_getElem? (i := 435) (by decide +kernel)⟩
theorem lw_p2 : lw_okq (⟨"FillAndGo$Tape", "parseWord", "(Ljava/lang/String;)I"⟩, 5) := ⟨⟨by decide +kernel, by decide +kernel⟩, List.mem_of_getElem? (i := 263) (by decide +kernel), List.mem_of_getElem? (i := 439) (by decide +kernel), List.mem_of_getElem? (i := 440) (by decide +kernel)⟩
theorem lw_p3 : lw_okq (⟨"FillAndGo$Tape", "byteAt", "(I)I"⟩, 5) := ⟨⟨by decide +kernel, by decide +kernel⟩, List.mem_of_getElem? (i := 263) (by decide +kernel), List.mem_of_getElem? (i := 491) (by decide +kernel), List.mem_of_getElem? (i := 492) (by decide +kernel)⟩
theorem lw_p4 : lw_okq (⟨"FillAndGo$Tape", "parseNumber", "()I"⟩, 5) := ⟨⟨by decide +kernel, by decide +kernel⟩, List.mem_of_getElem? (i := 263) (by decide +kernel), List.mem_of_getElem? (i := 498) (by decide +kernel), List.mem_of_getElem? (i := 499) (by decide +kernel)⟩
theorem lw_p5 : lw_okq (⟨"FillAndGo$Tape", "parseTest", "(LFillAndGo$Line;I)Z"⟩, 5) := ⟨⟨by decide +kernel, by decide +kernel⟩, List.mem_of_getElem? (i := 263) (by decide +kernel), List.mem_of_getElem? (i := 532) (by decide +kernel), List.mem_of_getElem? (i := 533) (by decide +kernel)⟩
theorem lw_p6 : lw_okq (⟨"FillAndGo$Town", "comeAndWalk", "(LFillAndGo$World;)V"⟩, 15) := ⟨⟨by decide +kernel, by decide +kernel⟩, List.mem_of_getElem? (i := 30) (by decide +kernel), List.mem_of_getElem? (i := 588) (by decide +kernel), List.mem_of_getElem? (i := 589) (by decide +kernel)⟩
theorem lw_p7 : lw_okq (⟨"FillAndGo$Town", "serve", "(LFillAndGo$World;I)V"⟩, 15) := ⟨⟨by decide +kernel, by decide +kernel⟩, List.mem_of_getElem? (i := 30) (by decide +kernel), List.mem_of_getElem? (i := 592) (by decide +kernel), List.mem_of_getElem? (i := 593) (by decide +kernel)⟩
theorem lw_p8 : lw_okq (⟨"FillAndGo$Town", "callUp", "(LFillAndGo$World;I)I"⟩, 15) := ⟨⟨by decide +kernel, by decide +kernel⟩, List.mem_of_getElem? (i := 30) (by decide +kernel), List.mem_of_getElem? (i := 600) (by decide +kernel), List.mem_of_getElem? (i := 601) (by decide +kernel)⟩
theorem lw_p9 : lw_okq (⟨"FillAndGo$Town", "letIn", "(LFillAndGo$World;I)V"⟩, 15) := ⟨⟨by decide +kernel, by decide +kernel⟩, List.mem_of_getElem? (i := 30) (by decide +kernel), List.mem_of_getElem? (i := 621) (by decide +kernel), List.mem_of_getElem? (i := 622) (by decide +kernel)⟩
theorem lw_p10 : lw_okq (⟨"FillAndGo$Town", "leave", "(LFillAndGo$World;II)V"⟩, 15) := ⟨⟨by decide +kernel, by decide +kernel⟩, List.mem_of_getElem? (i := 30) (by decide +kernel), List.mem_of_getElem? (i := 647) (by decide +kernel), List.mem_of_getElem? (i := 648) (by decide +kernel)⟩
theorem lw_p11 : lw_okq (⟨"FillAndGo$Town", "move", "(LFillAndGo$World;I)V"⟩, 15) := ⟨⟨by decide +kernel, by decide +kernel⟩, List.mem_of_getElem? (i := 30) (by decide +kernel), List.mem_of_getElem? (i := 714) (by decide +kernel), List.mem_of_getElem? (i := 715) (by decide +kernel)⟩
theorem lw_p12 : lw_okq (⟨"FillAndGo$Town", "arrive", "(LFillAndGo$World;I)V"⟩, 15) := ⟨⟨by decide +kernel, by decide +kernel⟩, List.mem_of_getElem? (i := 30) (by decide +kernel), List.mem_of_getElem? (i := 718) (by decide +kernel), List.mem_of_getElem? (i := 719) (by decide +kernel)⟩
theorem lw_p13 : lw_okq (⟨"FillAndGo$Town", "settle", "(LFillAndGo$World;I)V"⟩, 15) := ⟨⟨by decide +kernel, by decide +kernel⟩, List.mem_of_getElem? (i := 30) (by decide +kernel), List.mem_of_getElem? (i := 735) (by decide +kernel), List.mem_of_getElem? (i := 736) (by decide +kernel)⟩
theorem lw_p14 : lw_okq (⟨"FillAndGo", "tellsPlaces", "(I)Z"⟩, 18) := ⟨⟨by decide +kernel, by decide +kernel⟩, List.mem_of_getElem? (i := 22) (by decide +kernel), List.mem_of_getElem? (i := 805) (by decide +kernel), List.mem_of_getElem? (i := 806) (by decide +kernel)⟩
theorem lw_p15 : lw_okq (⟨"FillAndGo", "waitedWith", "([III)J"⟩, 18) := ⟨⟨by decide +kernel, by decide +kernel⟩, List.mem_of_getElem? (i := 22) (by decide +kernel), List.mem_of_getElem? (i := 816) (by decide +kernel), List.mem_of_getElem? (i := 817) (by decide +kernel)⟩
def lw_privs_1 : List (MethodName × Nat) := [(⟨"FillAndGo", "isBus", "(I)Z"⟩, 18), (⟨"FillAndGo$Tape", "parseLine", "()LFillAndGo$Line;"⟩, 5), (⟨"FillAndGo$Tape", "parseWord", "(Ljava/lang/String;)I"⟩, 5), (⟨"FillAndGo$Tape", "byteAt", "(I)I"⟩, 5), (⟨"FillAndGo$Tape", "parseNumber", "()I"⟩, 5), (⟨"FillAndGo$Tape", "parseTest", "(LFillAndGo$Line;I)Z"⟩, 5), (⟨"FillAndGo$Town", "comeAndWalk", "(LFillAndGo$World;)V"⟩, 15), (⟨"FillAndGo$Town", "serve", "(LFillAndGo$World;I)V"⟩, 15), (⟨"FillAndGo$Town", "callUp", "(LFillAndGo$World;I)I"⟩, 15), (⟨"FillAndGo$Town", "letIn", "(LFillAndGo$World;I)V"⟩, 15), (⟨"FillAndGo$Town", "leave", "(LFillAndGo$World;II)V"⟩, 15), (⟨"FillAndGo$Town", "move", "(LFillAndGo$World;I)V"⟩, 15), (⟨"FillAndGo$Town", "arrive", "(LFillAndGo$World;I)V"⟩, 15), (⟨"FillAndGo$Town", "settle", "(LFillAndGo$World;I)V"⟩, 15), (⟨"FillAndGo", "tellsPlaces", "(I)Z"⟩, 18), (⟨"FillAndGo", "waitedWith", "([III)J"⟩, 18)]
theorem lw_r1 : ∀ q ∈ lw_privs_1, lw_okq q := List.forall_mem_cons.mpr ⟨lw_p0, List.forall_mem_cons.mpr ⟨lw_p1, List.forall_mem_cons.mpr ⟨lw_p2, List.forall_mem_cons.mpr ⟨lw_p3, List.forall_mem_cons.mpr ⟨lw_p4, List.forall_mem_cons.mpr ⟨lw_p5, List.forall_mem_cons.mpr ⟨lw_p6, List.forall_mem_cons.mpr ⟨lw_p7, List.forall_mem_cons.mpr ⟨lw_p8, List.forall_mem_cons.mpr ⟨lw_p9, List.forall_mem_cons.mpr ⟨lw_p10, List.forall_mem_cons.mpr ⟨lw_p11, List.forall_mem_cons.mpr ⟨lw_p12, List.forall_mem_cons.mpr ⟨lw_p13, List.forall_mem_cons.mpr ⟨lw_p14, List.forall_mem_cons.mpr ⟨lw_p15, fun _ h => absurd h List.not_mem_nil⟩⟩⟩⟩⟩⟩⟩⟩⟩⟩⟩⟩⟩⟩⟩⟩
theorem lw_p16 : lw_okq (⟨"FillAndGo", "quietGain", "(IIII)I"⟩, 18) := ⟨⟨by decide +kernel, by decide +kernel⟩, List.mem_of_getElem? (i := 22) (by decide +kernel), List.mem_of_getElem? (i := 836) (by decide +kernel), List.mem_of_getElem? (i := 837) (by decide +kernel)⟩
theorem lw_p17 : lw_okq (⟨"FillAndGo", "isQuiet", "(III)Z"⟩, 18) := ⟨⟨by decide +kernel, by decide +kernel⟩, List.mem_of_getElem? (i := 22) (by decide +kernel), List.mem_of_getElem? (i := 843) (by decide +kernel), List.mem_of_getElem? (i := 844) (by decide +kernel)⟩
theorem lw_p18 : lw_okq (⟨"FillAndGo", "isMember", "(I)Z"⟩, 18) := ⟨⟨by decide +kernel, by decide +kernel⟩, List.mem_of_getElem? (i := 22) (by decide +kernel), List.mem_of_getElem? (i := 855) (by decide +kernel), List.mem_of_getElem? (i := 856) (by decide +kernel)⟩
theorem lw_p19 : lw_okq (⟨"FillAndGo", "taker", "()I"⟩, 18) := ⟨⟨by decide +kernel, by decide +kernel⟩, List.mem_of_getElem? (i := 22) (by decide +kernel), List.mem_of_getElem? (i := 863) (by decide +kernel), List.mem_of_getElem? (i := 864) (by decide +kernel)⟩
theorem lw_p20 : lw_okq (⟨"FillAndGo", "holdsAll", "(III)Z"⟩, 18) := ⟨⟨by decide +kernel, by decide +kernel⟩, List.mem_of_getElem? (i := 22) (by decide +kernel), List.mem_of_getElem? (i := 907) (by decide +kernel), List.mem_of_getElem? (i := 908) (by decide +kernel)⟩
theorem lw_p21 : lw_okq (⟨"FillAndGoModel", "isBus", "(I)Z"⟩, 50) := ⟨⟨by decide +kernel, by decide +kernel⟩, List.mem_of_getElem? (i := 945) (by decide +kernel), List.mem_of_getElem? (i := 1145) (by decide +kernel), List.mem_of_getElem? (i := 1146) (by decide +kernel)⟩
theorem lw_p22 : lw_okq (⟨"FillAndGoModel", "queuesAt", "(II)V"⟩, 50) := ⟨⟨by decide +kernel, by decide +kernel⟩, List.mem_of_getElem? (i := 945) (by decide +kernel), List.mem_of_getElem? (i := 1149) (by decide +kernel), List.mem_of_getElem? (i := 1150) (by decide +kernel)⟩
theorem lw_p23 : lw_okq (⟨"FillAndGoModel", "firstAt", "(I)I"⟩, 50) := ⟨⟨by decide +kernel, by decide +kernel⟩, List.mem_of_getElem? (i := 945) (by decide +kernel), List.mem_of_getElem? (i := 1161) (by decide +kernel), List.mem_of_getElem? (i := 1162) (by decide +kernel)⟩
theorem lw_p24 : lw_okq (⟨"FillAndGoModel", "line", "(I)Z"⟩, 50) := ⟨⟨by decide +kernel, by decide +kernel⟩, List.mem_of_getElem? (i := 945) (by decide +kernel), List.mem_of_getElem? (i := 1198) (by decide +kernel), List.mem_of_getElem? (i := 1199) (by decide +kernel)⟩
theorem lw_p25 : lw_okq (⟨"FillAndGoModel", "wordOf", "(II)I"⟩, 50) := ⟨⟨by decide +kernel, by decide +kernel⟩, List.mem_of_getElem? (i := 945) (by decide +kernel), List.mem_of_getElem? (i := 1202) (by decide +kernel), List.mem_of_getElem? (i := 1203) (by decide +kernel)⟩
theorem lw_p26 : lw_okq (⟨"FillAndGoModel", "byteHere", "()I"⟩, 50) := ⟨⟨by decide +kernel, by decide +kernel⟩, List.mem_of_getElem? (i := 945) (by decide +kernel), List.mem_of_getElem? (i := 1206) (by decide +kernel), List.mem_of_getElem? (i := 1207) (by decide +kernel)⟩
theorem lw_p27 : lw_okq (⟨"FillAndGoModel", "number", "()I"⟩, 50) := ⟨⟨by decide +kernel, by decide +kernel⟩, List.mem_of_getElem? (i := 945) (by decide +kernel), List.mem_of_getElem? (i := 1210) (by decide +kernel), List.mem_of_getElem? (i := 1211) (by decide +kernel)⟩
theorem lw_p28 : lw_okq (⟨"FillAndGoModel", "test", "(I)Z"⟩, 50) := ⟨⟨by decide +kernel, by decide +kernel⟩, List.mem_of_getElem? (i := 945) (by decide +kernel), List.mem_of_getElem? (i := 1214) (by decide +kernel), List.mem_of_getElem? (i := 1215) (by decide +kernel)⟩
theorem lw_p29 : lw_okq (⟨"FillAndGoModel", "lawOf", "(II)I"⟩, 50) := ⟨⟨by decide +kernel, by decide +kernel⟩, List.mem_of_getElem? (i := 945) (by decide +kernel), List.mem_of_getElem? (i := 1226) (by decide +kernel), List.mem_of_getElem? (i := 1227) (by decide +kernel)⟩
theorem lw_p30 : lw_okq (⟨"FillAndGoModel", "lineFor", "(II)I"⟩, 50) := ⟨⟨by decide +kernel, by decide +kernel⟩, List.mem_of_getElem? (i := 945) (by decide +kernel), List.mem_of_getElem? (i := 1230) (by decide +kernel), List.mem_of_getElem? (i := 1231) (by decide +kernel)⟩
theorem lw_p31 : lw_okq (⟨"FillAndGoModel", "holds", "(II)Z"⟩, 50) := ⟨⟨by decide +kernel, by decide +kernel⟩, List.mem_of_getElem? (i := 945) (by decide +kernel), List.mem_of_getElem? (i := 1234) (by decide +kernel), List.mem_of_getElem? (i := 1235) (by decide +kernel)⟩
def lw_privs_2 : List (MethodName × Nat) := [(⟨"FillAndGo", "quietGain", "(IIII)I"⟩, 18), (⟨"FillAndGo", "isQuiet", "(III)Z"⟩, 18), (⟨"FillAndGo", "isMember", "(I)Z"⟩, 18), (⟨"FillAndGo", "taker", "()I"⟩, 18), (⟨"FillAndGo", "holdsAll", "(III)Z"⟩, 18), (⟨"FillAndGoModel", "isBus", "(I)Z"⟩, 50), (⟨"FillAndGoModel", "queuesAt", "(II)V"⟩, 50), (⟨"FillAndGoModel", "firstAt", "(I)I"⟩, 50), (⟨"FillAndGoModel", "line", "(I)Z"⟩, 50), (⟨"FillAndGoModel", "wordOf", "(II)I"⟩, 50), (⟨"FillAndGoModel", "byteHere", "()I"⟩, 50), (⟨"FillAndGoModel", "number", "()I"⟩, 50), (⟨"FillAndGoModel", "test", "(I)Z"⟩, 50), (⟨"FillAndGoModel", "lawOf", "(II)I"⟩, 50), (⟨"FillAndGoModel", "lineFor", "(II)I"⟩, 50), (⟨"FillAndGoModel", "holds", "(II)Z"⟩, 50)]
theorem lw_r2 : ∀ q ∈ lw_privs_2, lw_okq q := List.forall_mem_cons.mpr ⟨lw_p16, List.forall_mem_cons.mpr ⟨lw_p17, List.forall_mem_cons.mpr ⟨lw_p18, List.forall_mem_cons.mpr ⟨lw_p19, List.forall_mem_cons.mpr ⟨lw_p20, List.forall_mem_cons.mpr ⟨lw_p21, List.forall_mem_cons.mpr ⟨lw_p22, List.forall_mem_cons.mpr ⟨lw_p23, List.forall_mem_cons.mpr ⟨lw_p24, List.forall_mem_cons.mpr ⟨lw_p25, List.forall_mem_cons.mpr ⟨lw_p26, List.forall_mem_cons.mpr ⟨lw_p27, List.forall_mem_cons.mpr ⟨lw_p28, List.forall_mem_cons.mpr ⟨lw_p29, List.forall_mem_cons.mpr ⟨lw_p30, List.forall_mem_cons.mpr ⟨lw_p31, fun _ h => absurd h List.not_mem_nil⟩⟩⟩⟩⟩⟩⟩⟩⟩⟩⟩⟩⟩⟩⟩⟩
theorem lw_p32 : lw_okq (⟨"FillAndGoModel", "fieldOf", "(II)I"⟩, 50) := ⟨⟨by decide +kernel, by decide +kernel⟩, List.mem_of_getElem? (i := 945) (by decide +kernel), List.mem_of_getElem? (i := 1238) (by decide +kernel), List.mem_of_getElem? (i := 1239) (by decide +kernel)⟩
theorem lw_p33 : lw_okq (⟨"FillAndGoModel", "hour", "()I"⟩, 50) := ⟨⟨by decide +kernel, by decide +kernel⟩, List.mem_of_getElem? (i := 945) (by decide +kernel), List.mem_of_getElem? (i := 1242) (by decide +kernel), List.mem_of_getElem? (i := 1243) (by decide +kernel)⟩
theorem lw_p34 : lw_okq (⟨"FillAndGoModel", "queueAt", "(I)I"⟩, 50) := ⟨⟨by decide +kernel, by decide +kernel⟩, List.mem_of_getElem? (i := 945) (by decide +kernel), List.mem_of_getElem? (i := 1246) (by decide +kernel), List.mem_of_getElem? (i := 1247) (by decide +kernel)⟩
theorem lw_p35 : lw_okq (⟨"FillAndGoModel", "goes", "()V"⟩, 50) := ⟨⟨by decide +kernel, by decide +kernel⟩, List.mem_of_getElem? (i := 945) (by decide +kernel), List.mem_of_getElem? (i := 1258) (by decide +kernel), List.mem_of_getElem? (i := 1259) (by decide +kernel)⟩
theorem lw_p36 : lw_okq (⟨"FillAndGoModel", "come", "()V"⟩, 50) := ⟨⟨by decide +kernel, by decide +kernel⟩, List.mem_of_getElem? (i := 945) (by decide +kernel), List.mem_of_getElem? (i := 1262) (by decide +kernel), List.mem_of_getElem? (i := 1263) (by decide +kernel)⟩
theorem lw_p37 : lw_okq (⟨"FillAndGoModel", "loads", "(I)V"⟩, 50) := ⟨⟨by decide +kernel, by decide +kernel⟩, List.mem_of_getElem? (i := 945) (by decide +kernel), List.mem_of_getElem? (i := 1266) (by decide +kernel), List.mem_of_getElem? (i := 1267) (by decide +kernel)⟩
theorem lw_p38 : lw_okq (⟨"FillAndGoModel", "loadsAt", "(I)I"⟩, 50) := ⟨⟨by decide +kernel, by decide +kernel⟩, List.mem_of_getElem? (i := 945) (by decide +kernel), List.mem_of_getElem? (i := 1270) (by decide +kernel), List.mem_of_getElem? (i := 1271) (by decide +kernel)⟩
theorem lw_p39 : lw_okq (⟨"FillAndGoModel", "aimOf", "(I)I"⟩, 50) := ⟨⟨by decide +kernel, by decide +kernel⟩, List.mem_of_getElem? (i := 945) (by decide +kernel), List.mem_of_getElem? (i := 1274) (by decide +kernel), List.mem_of_getElem? (i := 1275) (by decide +kernel)⟩
theorem lw_p40 : lw_okq (⟨"FillAndGoModel", "wayOf", "(II)I"⟩, 50) := ⟨⟨by decide +kernel, by decide +kernel⟩, List.mem_of_getElem? (i := 945) (by decide +kernel), List.mem_of_getElem? (i := 1278) (by decide +kernel), List.mem_of_getElem? (i := 1279) (by decide +kernel)⟩
theorem lw_p41 : lw_okq (⟨"FillAndGoModel", "goesBus", "(I)V"⟩, 50) := ⟨⟨by decide +kernel, by decide +kernel⟩, List.mem_of_getElem? (i := 945) (by decide +kernel), List.mem_of_getElem? (i := 1282) (by decide +kernel), List.mem_of_getElem? (i := 1283) (by decide +kernel)⟩
theorem lw_p42 : lw_okq (⟨"FillAndGoModel", "sum", "(II)I"⟩, 50) := ⟨⟨by decide +kernel, by decide +kernel⟩, List.mem_of_getElem? (i := 945) (by decide +kernel), List.mem_of_getElem? (i := 1286) (by decide +kernel), List.mem_of_getElem? (i := 1287) (by decide +kernel)⟩
theorem lw_p43 : lw_okq (⟨"FillAndGoModel", "settles", "(I)V"⟩, 50) := ⟨⟨by decide +kernel, by decide +kernel⟩, List.mem_of_getElem? (i := 945) (by decide +kernel), List.mem_of_getElem? (i := 1290) (by decide +kernel), List.mem_of_getElem? (i := 1291) (by decide +kernel)⟩
theorem lw_p44 : lw_okq (⟨"FillAndGoModel", "lays", "(Z)V"⟩, 50) := ⟨⟨by decide +kernel, by decide +kernel⟩, List.mem_of_getElem? (i := 945) (by decide +kernel), List.mem_of_getElem? (i := 1321) (by decide +kernel), List.mem_of_getElem? (i := 1322) (by decide +kernel)⟩
theorem lw_p45 : lw_okq (⟨"FillAndGoModel", "isPlan", "(III)Z"⟩, 50) := ⟨⟨by decide +kernel, by decide +kernel⟩, List.mem_of_getElem? (i := 945) (by decide +kernel), List.mem_of_getElem? (i := 1334) (by decide +kernel), List.mem_of_getElem? (i := 1335) (by decide +kernel)⟩
theorem lw_p46 : lw_okq (⟨"FillAndGoModel", "isQuiet", "(III)Z"⟩, 50) := ⟨⟨by decide +kernel, by decide +kernel⟩, List.mem_of_getElem? (i := 945) (by decide +kernel), List.mem_of_getElem? (i := 1359) (by decide +kernel), List.mem_of_getElem? (i := 1360) (by decide +kernel)⟩
theorem lw_p47 : lw_okq (⟨"FillAndGoModel", "isMember", "(I)Z"⟩, 50) := ⟨⟨by decide +kernel, by decide +kernel⟩, List.mem_of_getElem? (i := 945) (by decide +kernel), List.mem_of_getElem? (i := 1371) (by decide +kernel), List.mem_of_getElem? (i := 1372) (by decide +kernel)⟩
def lw_privs_3 : List (MethodName × Nat) := [(⟨"FillAndGoModel", "fieldOf", "(II)I"⟩, 50), (⟨"FillAndGoModel", "hour", "()I"⟩, 50), (⟨"FillAndGoModel", "queueAt", "(I)I"⟩, 50), (⟨"FillAndGoModel", "goes", "()V"⟩, 50), (⟨"FillAndGoModel", "come", "()V"⟩, 50), (⟨"FillAndGoModel", "loads", "(I)V"⟩, 50), (⟨"FillAndGoModel", "loadsAt", "(I)I"⟩, 50), (⟨"FillAndGoModel", "aimOf", "(I)I"⟩, 50), (⟨"FillAndGoModel", "wayOf", "(II)I"⟩, 50), (⟨"FillAndGoModel", "goesBus", "(I)V"⟩, 50), (⟨"FillAndGoModel", "sum", "(II)I"⟩, 50), (⟨"FillAndGoModel", "settles", "(I)V"⟩, 50), (⟨"FillAndGoModel", "lays", "(Z)V"⟩, 50), (⟨"FillAndGoModel", "isPlan", "(III)Z"⟩, 50), (⟨"FillAndGoModel", "isQuiet", "(III)Z"⟩, 50), (⟨"FillAndGoModel", "isMember", "(I)Z"⟩, 50)]
theorem lw_r3 : ∀ q ∈ lw_privs_3, lw_okq q := List.forall_mem_cons.mpr ⟨lw_p32, List.forall_mem_cons.mpr ⟨lw_p33, List.forall_mem_cons.mpr ⟨lw_p34, List.forall_mem_cons.mpr ⟨lw_p35, List.forall_mem_cons.mpr ⟨lw_p36, List.forall_mem_cons.mpr ⟨lw_p37, List.forall_mem_cons.mpr ⟨lw_p38, List.forall_mem_cons.mpr ⟨lw_p39, List.forall_mem_cons.mpr ⟨lw_p40, List.forall_mem_cons.mpr ⟨lw_p41, List.forall_mem_cons.mpr ⟨lw_p42, List.forall_mem_cons.mpr ⟨lw_p43, List.forall_mem_cons.mpr ⟨lw_p44, List.forall_mem_cons.mpr ⟨lw_p45, List.forall_mem_cons.mpr ⟨lw_p46, List.forall_mem_cons.mpr ⟨lw_p47, fun _ h => absurd h List.not_mem_nil⟩⟩⟩⟩⟩⟩⟩⟩⟩⟩⟩⟩⟩⟩⟩⟩
def lw_privs : List (MethodName × Nat) := lw_privs_1 ++ (lw_privs_2 ++ (lw_privs_3))
def lw_tbl : List Cond := k2_sels lw_privs ++ tables_1
theorem lw_privs_ok : ∀ q ∈ lw_privs, lw_okq q := by
  show ∀ q ∈ lw_privs_1 ++ (lw_privs_2 ++ (lw_privs_3)), lw_okq q
  exact List.forall_mem_append.mpr ⟨lw_r1, List.forall_mem_append.mpr ⟨lw_r2, lw_r3⟩⟩
end
section
def lw_good : List Cond := lw_tbl.filter goodWord
theorem gw (i : Nat) {w : Cond} (h : tables_1[i]? = some w) (hg : goodWord w = true) : w ∈ lw_good := List.mem_filter.mpr ⟨List.mem_append_right _ (List.mem_of_getElem? h), hg⟩
theorem gws (i : Nat) {w : Cond} (h : (k2_sels lw_privs)[i]? = some w) (hg : goodWord w = true) : w ∈ lw_good := List.mem_filter.mpr ⟨List.mem_append_left _ (List.mem_of_getElem? h), hg⟩
theorem gwl {ws : List Cond} (is : List Nat) (h : is.filterMap (fun i => tables_1[i]?) = ws) (hg : ws.all goodWord = true) : ∀ w ∈ ws, w ∈ lw_good := by
  intro w hw
  have h1 := List.all_eq_true.mp hg w hw
  rw [← h] at hw
  obtain ⟨i, -, hi⟩ := List.mem_filterMap.mp hw
  exact gw i hi h1
def RX0 : String := "FillAndGo$EarlyRun"
def TX0 : u_T := fun k => match k with
  | _ => ("", "", "", false)
def tyX0 : Nat → FieldType := fun k => match k with
  | _ => .int
theorem nmX0 : ∀ a, a < 0 → ∀ b, b < 0 → a ≠ b → (TX0 a).2.1 ≠ (TX0 b).2.1 := by decide +kernel
theorem tyX0_ok : ∀ k, k < 0 → parseFieldDescriptor (TX0 k).2.2.1 = some (tyX0 k) := by decide +kernel
def RX1 : String := "FillAndGo$EmptyRun"
def TX1 : u_T := fun k => match k with
  | _ => ("", "", "", false)
def tyX1 : Nat → FieldType := fun k => match k with
  | _ => .int
theorem nmX1 : ∀ a, a < 0 → ∀ b, b < 0 → a ≠ b → (TX1 a).2.1 ≠ (TX1 b).2.1 := by decide +kernel
theorem tyX1_ok : ∀ k, k < 0 → parseFieldDescriptor (TX1 k).2.2.1 = some (tyX1 k) := by decide +kernel
def RX2 : String := "FillAndGo$ExtraRun"
def TX2 : u_T := fun k => match k with
  | _ => ("", "", "", false)
def tyX2 : Nat → FieldType := fun k => match k with
  | _ => .int
theorem nmX2 : ∀ a, a < 0 → ∀ b, b < 0 → a ≠ b → (TX2 a).2.1 ≠ (TX2 b).2.1 := by decide +kernel
theorem tyX2_ok : ∀ k, k < 0 → parseFieldDescriptor (TX2 k).2.2.1 = some (tyX2 k) := by decide +kernel
def RX3 : String := "FillAndGo$HiredRun"
def TX3 : u_T := fun k => match k with
  | _ => ("", "", "", false)
def tyX3 : Nat → FieldType := fun k => match k with
  | _ => .int
theorem nmX3 : ∀ a, a < 0 → ∀ b, b < 0 → a ≠ b → (TX3 a).2.1 ≠ (TX3 b).2.1 := by decide +kernel
theorem tyX3_ok : ∀ k, k < 0 → parseFieldDescriptor (TX3 k).2.2.1 = some (tyX3 k) := by decide +kernel
def RX4 : String := "FillAndGo$Line"
def TX4 : u_T := fun k => match k with
  | 0 => ("FillAndGo$Line", "key", "I", true)
  | 1 => ("FillAndGo$Line", "number", "I", true)
  | 2 => ("FillAndGo$Line", "tests", "I", false)
  | 3 => ("FillAndGo$Line", "facts", "[I", true)
  | 4 => ("FillAndGo$Line", "signs", "[I", true)
  | _ => ("FillAndGo$Line", "bounds", "[I", true)
def tyX4 : Nat → FieldType := fun k => match k with
  | 0 => .int
  | 1 => .int
  | 2 => .int
  | 3 => .array .int
  | 4 => .array .int
  | _ => .array .int
theorem nmX4 : ∀ a, a < 6 → ∀ b, b < 6 → a ≠ b → (TX4 a).2.1 ≠ (TX4 b).2.1 := by decide +kernel
theorem tyX4_ok : ∀ k, k < 6 → parseFieldDescriptor (TX4 k).2.2.1 = some (tyX4 k) := by decide +kernel
def RX5 : String := "FillAndGo$Ride"
def TX5 : u_T := fun k => match k with
  | 0 => ("FillAndGo$Ride", "state", "I", false)
  | 1 => ("FillAndGo$Ride", "stage", "I", false)
  | 2 => ("FillAndGo$Ride", "number", "I", false)
  | 3 => ("FillAndGo$Ride", "aim", "I", false)
  | 4 => ("FillAndGo$Ride", "sold", "I", false)
  | 5 => ("FillAndGo$Ride", "left", "I", false)
  | 6 => ("FillAndGo$Ride", "since", "I", false)
  | 7 => ("FillAndGo$Ride", "kind", "I", false)
  | 8 => ("FillAndGo$Ride", "earned", "I", false)
  | 9 => ("FillAndGo$Ride", "spent", "I", false)
  | 10 => ("FillAndGo$Ride", "kept", "I", false)
  | 11 => ("FillAndGo$Ride", "owes", "I", false)
  | _ => ("FillAndGo$Ride", "runs", "I", false)
def tyX5 : Nat → FieldType := fun k => match k with
  | 0 => .int
  | 1 => .int
  | 2 => .int
  | 3 => .int
  | 4 => .int
  | 5 => .int
  | 6 => .int
  | 7 => .int
  | 8 => .int
  | 9 => .int
  | 10 => .int
  | 11 => .int
  | _ => .int
theorem nmX5 : ∀ a, a < 13 → ∀ b, b < 13 → a ≠ b → (TX5 a).2.1 ≠ (TX5 b).2.1 := by decide +kernel
theorem tyX5_ok : ∀ k, k < 13 → parseFieldDescriptor (TX5 k).2.2.1 = some (tyX5 k) := by decide +kernel
def RX6 : String := "FillAndGo$Run"
def TX6 : u_T := fun k => match k with
  | _ => ("", "", "", false)
def tyX6 : Nat → FieldType := fun k => match k with
  | _ => .int
theorem nmX6 : ∀ a, a < 0 → ∀ b, b < 0 → a ≠ b → (TX6 a).2.1 ≠ (TX6 b).2.1 := by decide +kernel
theorem tyX6_ok : ∀ k, k < 0 → parseFieldDescriptor (TX6 k).2.2.1 = some (tyX6 k) := by decide +kernel
def RX7 : String := "FillAndGo$ShortRun"
def TX7 : u_T := fun k => match k with
  | _ => ("", "", "", false)
def tyX7 : Nat → FieldType := fun k => match k with
  | _ => .int
theorem nmX7 : ∀ a, a < 0 → ∀ b, b < 0 → a ≠ b → (TX7 a).2.1 ≠ (TX7 b).2.1 := by decide +kernel
theorem tyX7_ok : ∀ k, k < 0 → parseFieldDescriptor (TX7 k).2.2.1 = some (tyX7 k) := by decide +kernel
def RX8 : String := "FillAndGo$Tape"
def TX8 : u_T := fun k => match k with
  | 0 => ("FillAndGo$Tape", "bytes", "[B", true)
  | 1 => ("FillAndGo$Tape", "length", "I", false)
  | 2 => ("FillAndGo$Tape", "place", "I", false)
  | 3 => ("FillAndGo$Tape", "draft", "[LFillAndGo$Line;", true)
  | _ => ("FillAndGo$Tape", "drafted", "I", false)
def tyX8 : Nat → FieldType := fun k => match k with
  | 0 => .array .byte
  | 1 => .int
  | 2 => .int
  | 3 => .array (.object "FillAndGo$Line")
  | _ => .int
theorem nmX8 : ∀ a, a < 5 → ∀ b, b < 5 → a ≠ b → (TX8 a).2.1 ≠ (TX8 b).2.1 := by decide +kernel
theorem tyX8_ok : ∀ k, k < 5 → parseFieldDescriptor (TX8 k).2.2.1 = some (tyX8 k) := by decide +kernel
def RX9 : String := "FillAndGo$Town"
def TX9 : u_T := fun k => match k with
  | 0 => ("FillAndGo$Town", "roads", "[I", true)
  | 1 => ("FillAndGo$Town", "rates", "[I", true)
  | 2 => ("FillAndGo$Town", "jams", "[I", true)
  | 3 => ("FillAndGo$Town", "seats", "[I", true)
  | 4 => ("FillAndGo$Town", "owners", "[I", true)
  | 5 => ("FillAndGo$Town", "targets", "[I", true)
  | 6 => ("FillAndGo$Town", "fuels", "[I", true)
  | 7 => ("FillAndGo$Town", "wanted", "[I", true)
  | 8 => ("FillAndGo$Town", "enrolled", "I", false)
  | 9 => ("FillAndGo$Town", "lines", "[LFillAndGo$Line;", true)
  | 10 => ("FillAndGo$Town", "customs", "I", false)
  | 11 => ("FillAndGo$Town", "forced", "[I", true)
  | 12 => ("FillAndGo$Town", "kinds", "[LFillAndGo$Run;", true)
  | 13 => ("FillAndGo$Town", "facts", "[I", true)
  | _ => ("FillAndGo$Town", "sums", "[I", true)
def tyX9 : Nat → FieldType := fun k => match k with
  | 0 => .array .int
  | 1 => .array .int
  | 2 => .array .int
  | 3 => .array .int
  | 4 => .array .int
  | 5 => .array .int
  | 6 => .array .int
  | 7 => .array .int
  | 8 => .int
  | 9 => .array (.object "FillAndGo$Line")
  | 10 => .int
  | 11 => .array .int
  | 12 => .array (.object "FillAndGo$Run")
  | 13 => .array .int
  | _ => .array .int
theorem nmX9 : ∀ a, a < 15 → ∀ b, b < 15 → a ≠ b → (TX9 a).2.1 ≠ (TX9 b).2.1 := by decide +kernel
theorem tyX9_ok : ∀ k, k < 15 → parseFieldDescriptor (TX9 k).2.2.1 = some (tyX9 k) := by decide +kernel
def RX10 : String := "FillAndGo$World"
def TX10 : u_T := fun k => match k with
  | 0 => ("FillAndGo$World", "minute", "I", false)
  | 1 => ("FillAndGo$World", "rain", "I", false)
  | 2 => ("FillAndGo$World", "walked", "I", false)
  | 3 => ("FillAndGo$World", "ridden", "I", false)
  | 4 => ("FillAndGo$World", "waited", "I", false)
  | 5 => ("FillAndGo$World", "crowds", "[I", true)
  | 6 => ("FillAndGo$World", "parts", "[I", true)
  | 7 => ("FillAndGo$World", "numbers", "[I", true)
  | _ => ("FillAndGo$World", "rides", "[LFillAndGo$Ride;", true)
def tyX10 : Nat → FieldType := fun k => match k with
  | 0 => .int
  | 1 => .int
  | 2 => .int
  | 3 => .int
  | 4 => .int
  | 5 => .array .int
  | 6 => .array .int
  | 7 => .array .int
  | _ => .array (.object "FillAndGo$Ride")
theorem nmX10 : ∀ a, a < 9 → ∀ b, b < 9 → a ≠ b → (TX10 a).2.1 ≠ (TX10 b).2.1 := by decide +kernel
theorem tyX10_ok : ∀ k, k < 9 → parseFieldDescriptor (TX10 k).2.2.1 = some (tyX10 k) := by decide +kernel
def RX11 : String := "FillAndGo"
def TX11 : u_T := fun k => match k with
  | 0 => ("FillAndGo", "town", "LFillAndGo$Town;", true)
  | 1 => ("FillAndGo", "now", "LFillAndGo$World;", true)
  | 2 => ("FillAndGo", "ahead", "LFillAndGo$World;", true)
  | 3 => ("FillAndGo", "kept", "LFillAndGo$World;", true)
  | 4 => ("FillAndGo", "hasImage", "Z", false)
  | 5 => ("FillAndGo", "tape", "LFillAndGo$Tape;", true)
  | 6 => ("FillAndGo", "bestSet", "I", false)
  | 7 => ("FillAndGo", "gains", "[[I", true)
  | 8 => ("FillAndGo", "fightCost", "I", false)
  | 9 => ("FillAndGo", "members", "I", false)
  | 10 => ("FillAndGo", "share", "I", false)
  | 11 => ("FillAndGo", "turn", "I", false)
  | 12 => ("FillAndGo", "purses", "[[I", true)
  | 13 => ("FillAndGo", "books", "[[I", true)
  | 14 => ("FillAndGo", "bookCount", "I", false)
  | 15 => ("FillAndGo", "rows", "[[I", true)
  | 16 => ("FillAndGo", "sizes", "[I", true)
  | _ => ("FillAndGo", "sorts", "[I", true)
def tyX11 : Nat → FieldType := fun k => match k with
  | 0 => .object "FillAndGo$Town"
  | 1 => .object "FillAndGo$World"
  | 2 => .object "FillAndGo$World"
  | 3 => .object "FillAndGo$World"
  | 4 => .boolean
  | 5 => .object "FillAndGo$Tape"
  | 6 => .int
  | 7 => .array (.array .int)
  | 8 => .int
  | 9 => .int
  | 10 => .int
  | 11 => .int
  | 12 => .array (.array .int)
  | 13 => .array (.array .int)
  | 14 => .int
  | 15 => .array (.array .int)
  | 16 => .array .int
  | _ => .array .int
theorem nmX11 : ∀ a, a < 18 → ∀ b, b < 18 → a ≠ b → (TX11 a).2.1 ≠ (TX11 b).2.1 := by decide +kernel
theorem tyX11_ok : ∀ k, k < 18 → parseFieldDescriptor (TX11 k).2.2.1 = some (tyX11 k) := by decide +kernel
def RX12 : String := "FillAndGoModel"
def TX12 : u_T := fun k => match k with
  | 0 => ("FillAndGoModel", "p", "[I", true)
  | 1 => ("FillAndGoModel", "kept", "[I", true)
  | 2 => ("FillAndGoModel", "imaged", "[I", true)
  | 3 => ("FillAndGoModel", "hasImage", "Z", false)
  | 4 => ("FillAndGoModel", "roads", "[I", true)
  | 5 => ("FillAndGoModel", "rates", "[I", true)
  | 6 => ("FillAndGoModel", "jams", "[I", true)
  | 7 => ("FillAndGoModel", "buses", "I", false)
  | 8 => ("FillAndGoModel", "seats", "[I", true)
  | 9 => ("FillAndGoModel", "owner", "[I", true)
  | 10 => ("FillAndGoModel", "target", "[I", true)
  | 11 => ("FillAndGoModel", "fuel", "[I", true)
  | 12 => ("FillAndGoModel", "wanted", "[I", true)
  | 13 => ("FillAndGoModel", "customOf", "[I", true)
  | 14 => ("FillAndGoModel", "planSet", "I", false)
  | 15 => ("FillAndGoModel", "gains", "[I", true)
  | 16 => ("FillAndGoModel", "fightCost", "I", false)
  | 17 => ("FillAndGoModel", "members", "I", false)
  | 18 => ("FillAndGoModel", "each", "I", false)
  | 19 => ("FillAndGoModel", "turn", "I", false)
  | 20 => ("FillAndGoModel", "paidIn", "[I", true)
  | 21 => ("FillAndGoModel", "took", "[I", true)
  | 22 => ("FillAndGoModel", "isStopped", "[Z", true)
  | 23 => ("FillAndGoModel", "books", "I", false)
  | 24 => ("FillAndGoModel", "bookOf", "[I", true)
  | 25 => ("FillAndGoModel", "bookDay", "[I", true)
  | 26 => ("FillAndGoModel", "bookIs", "[I", true)
  | 27 => ("FillAndGoModel", "bookTold", "[I", true)
  | 28 => ("FillAndGoModel", "bookAnew", "[I", true)
  | 29 => ("FillAndGoModel", "anewTold", "[I", true)
  | 30 => ("FillAndGoModel", "tape", "[I", true)
  | 31 => ("FillAndGoModel", "taped", "I", false)
  | 32 => ("FillAndGoModel", "customs", "I", false)
  | 33 => ("FillAndGoModel", "lineMany", "[I", true)
  | 34 => ("FillAndGoModel", "lineKey", "[I", true)
  | 35 => ("FillAndGoModel", "lineNumber", "[I", true)
  | 36 => ("FillAndGoModel", "testMany", "[I", true)
  | 37 => ("FillAndGoModel", "testField", "[I", true)
  | 38 => ("FillAndGoModel", "testSign", "[I", true)
  | 39 => ("FillAndGoModel", "testNumber", "[I", true)
  | 40 => ("FillAndGoModel", "sheetSort", "[I", true)
  | 41 => ("FillAndGoModel", "sheetSize", "[I", true)
  | 42 => ("FillAndGoModel", "cells", "[I", true)
  | 43 => ("FillAndGoModel", "words", "[J", true)
  | 44 => ("FillAndGoModel", "sizes", "[I", true)
  | 45 => ("FillAndGoModel", "at", "I", false)
  | 46 => ("FillAndGoModel", "far", "[I", true)
  | 47 => ("FillAndGoModel", "sides0", "[I", true)
  | 48 => ("FillAndGoModel", "bestSides", "[I", true)
  | _ => ("FillAndGoModel", "load", "[I", true)
def tyX12 : Nat → FieldType := fun k => match k with
  | 0 => .array .int
  | 1 => .array .int
  | 2 => .array .int
  | 3 => .boolean
  | 4 => .array .int
  | 5 => .array .int
  | 6 => .array .int
  | 7 => .int
  | 8 => .array .int
  | 9 => .array .int
  | 10 => .array .int
  | 11 => .array .int
  | 12 => .array .int
  | 13 => .array .int
  | 14 => .int
  | 15 => .array .int
  | 16 => .int
  | 17 => .int
  | 18 => .int
  | 19 => .int
  | 20 => .array .int
  | 21 => .array .int
  | 22 => .array .boolean
  | 23 => .int
  | 24 => .array .int
  | 25 => .array .int
  | 26 => .array .int
  | 27 => .array .int
  | 28 => .array .int
  | 29 => .array .int
  | 30 => .array .int
  | 31 => .int
  | 32 => .int
  | 33 => .array .int
  | 34 => .array .int
  | 35 => .array .int
  | 36 => .array .int
  | 37 => .array .int
  | 38 => .array .int
  | 39 => .array .int
  | 40 => .array .int
  | 41 => .array .int
  | 42 => .array .int
  | 43 => .array .long
  | 44 => .array .int
  | 45 => .int
  | 46 => .array .int
  | 47 => .array .int
  | 48 => .array .int
  | _ => .array .int
theorem nmX12 : ∀ a, a < 50 → ∀ b, b < 50 → a ≠ b → (TX12 a).2.1 ≠ (TX12 b).2.1 := by decide +kernel
theorem tyX12_ok : ∀ k, k < 50 → parseFieldDescriptor (TX12 k).2.2.1 = some (tyX12 k) := by decide +kernel
set_option maxRecDepth 20000 in
theorem inX0 : ∀ w ∈ u_ws RX0 TX0 0, w ∈ lw_good := gwl [] (by decide +kernel) (by decide +kernel)
set_option maxRecDepth 20000 in
theorem inX1 : ∀ w ∈ u_ws RX1 TX1 0, w ∈ lw_good := gwl [] (by decide +kernel) (by decide +kernel)
set_option maxRecDepth 20000 in
theorem inX2 : ∀ w ∈ u_ws RX2 TX2 0, w ∈ lw_good := gwl [] (by decide +kernel) (by decide +kernel)
set_option maxRecDepth 20000 in
theorem inX3 : ∀ w ∈ u_ws RX3 TX3 0, w ∈ lw_good := gwl [] (by decide +kernel) (by decide +kernel)
set_option maxRecDepth 20000 in
theorem inX4 : ∀ w ∈ u_ws RX4 TX4 6, w ∈ lw_good := gwl [518, 520, 522, 524, 526, 528] (by decide +kernel) (by decide +kernel)
set_option maxRecDepth 20000 in
theorem inX5 : ∀ w ∈ u_ws RX5 TX5 13, w ∈ lw_good := gwl [192, 194, 196, 198, 200, 202, 204, 206, 208, 210, 212, 214, 216] (by decide +kernel) (by decide +kernel)
set_option maxRecDepth 20000 in
theorem inX6 : ∀ w ∈ u_ws RX6 TX6 0, w ∈ lw_good := gwl [] (by decide +kernel) (by decide +kernel)
set_option maxRecDepth 20000 in
theorem inX7 : ∀ w ∈ u_ws RX7 TX7 0, w ∈ lw_good := gwl [] (by decide +kernel) (by decide +kernel)
set_option maxRecDepth 20000 in
theorem inX8 : ∀ w ∈ u_ws RX8 TX8 5, w ∈ lw_good := gwl [278, 280, 282, 284, 286] (by decide +kernel) (by decide +kernel)
set_option maxRecDepth 20000 in
theorem inX9 : ∀ w ∈ u_ws RX9 TX9 15, w ∈ lw_good := gwl [104, 106, 108, 110, 112, 114, 116, 118, 120, 122, 124, 126, 128, 130, 132] (by decide +kernel) (by decide +kernel)
set_option maxRecDepth 20000 in
theorem inX10 : ∀ w ∈ u_ws RX10 TX10 9, w ∈ lw_good := gwl [243, 245, 247, 249, 251, 253, 255, 257, 259] (by decide +kernel) (by decide +kernel)
set_option maxRecDepth 20000 in
theorem inX11 : ∀ w ∈ u_ws RX11 TX11 18, w ∈ lw_good := gwl [310, 312, 314, 316, 318, 320, 322, 324, 326, 328, 330, 332, 334, 336, 338, 340, 342, 344] (by decide +kernel) (by decide +kernel)
set_option maxRecDepth 20000 in
theorem inX12 : ∀ w ∈ u_ws RX12 TX12 50, w ∈ lw_good := gwl [1011, 1013, 1015, 1017, 1019, 1021, 1023, 1025, 1027, 1029, 1031, 1033, 1035, 1037, 1039, 1041, 1043, 1045, 1047, 1049, 1051, 1053, 1055, 1057, 1059, 1061, 1063, 1065, 1067, 1069, 1071, 1073, 1075, 1077, 1079, 1081, 1083, 1085, 1087, 1089, 1091, 1093, 1095, 1097, 1099, 1101, 1103, 1105, 1107, 1109] (by decide +kernel) (by decide +kernel)
abbrev classes : List vw_C := [(RX0, TX0, 0), (RX1, TX1, 0), (RX2, TX2, 0), (RX3, TX3, 0), (RX4, TX4, 6), (RX5, TX5, 13), (RX6, TX6, 0), (RX7, TX7, 0), (RX8, TX8, 5), (RX9, TX9, 15), (RX10, TX10, 9), (RX11, TX11, 18), (RX12, TX12, 50)]
end
section
abbrev MD : Type := MethodName × ByteArray × Nat × Option FieldType
abbrev xD : Type := va_G × (Nat → ClassId) × (Nat × (Nat → Nat) × (Nat → Nat))
def x_tys (cA : Nat → ClassId) : List (ClassId × FieldType) := [(cA 0, .int), (cA 1, .byte), (cA 2, .long), (cA 3, .boolean), (cA 4, .object "FillAndGo$Ride"), (cA 5, .object "FillAndGo$Line"), (cA 6, .object "FillAndGo$Run"), (cA 7, .array .int)]
def isNest : Cond → Bool
  | .fieldLinkNest _ _ _ _ _ _ => true
  | .methodLinkNest _ _ _ _ => true
  | _ => false
def nestw : List Cond := tables_1.filter isNest
theorem gn (i : Nat) {w : Cond} (h : tables_1[i]? = some w) (hg : isNest w = true) : w ∈ nestw := List.mem_filter.mpr ⟨List.mem_of_getElem? h, hg⟩
def plainI (j : Nat) : Int32 := if j = 0 then nI 100 else if j = 1 then nI 20 else nI 30
def txtLen : List Nat := [13, 47]
def txtB : List (List Int32) := [[103, 111, 32, 102, 97, 114, 101, 32, 107, 101, 101, 112, 32], [119, 97, 105, 116, 101, 100, 32, 115, 111, 108, 100, 32, 114, 97, 105, 110, 32, 104, 111, 117, 114, 32, 113, 117, 101, 117, 101, 32, 115, 116, 97, 103, 101, 32, 111, 119, 110, 101, 114, 32, 101, 97, 114, 110, 101, 100, 32]]
abbrev fr (N : Nat) : Nat → Prop := fun q => N ≤ q
def xSta (D : xD) (N : Nat) (U : State) : Prop :=
  va_Z "FillAndGo" "PLAIN" "[I" (.ref D.2.2.1) (fr N) U U.heap ∧ va_T .int D.2.2.1 3 (fun j => .int (plainI j)) (fr N) U U.heap ∧
  vk_S 2 txtLen txtB D.2.2.2.1 D.2.2.2.2 (fr N) U U.heap ∧ vk_R "FillAndGo$Tape" 39 "go fare keep " (D.2.2.2.1 0) U ∧ vk_R "FillAndGo$Tape" 56 "waited sold rain hour queue stage owner earned " (D.2.2.2.1 1) U ∧
  va_Z "java/lang/String" "COMPACT_STRINGS" "Z" (.int 1) (fr N) U U.heap
def xK (D : xD) (N : Nat) (U : State) : Prop := va_K D.1 classes (x_tys D.2.1) U ∧ (∀ w ∈ nestw, va_Nw w U) ∧ xSta D N U
theorem nest_warm {s U : State} (hW : s.WarmedH U.vm) (h : ∀ w ∈ nestw, va_Nw w s) : ∀ w ∈ nestw, va_Nw w U := by
  intro w hw
  have h1 := h w hw
  have h2 : isNest w = true := (List.mem_filter.mp hw).2
  cases w <;> first | exact va_Nw.warmF hW h1 | exact va_Nw.warmM hW h1 | cases h2
theorem nest_same {s U : State} (hv : U.vm = s.vm) (h : ∀ w ∈ nestw, va_Nw w s) : ∀ w ∈ nestw, va_Nw w U := by
  intro w hw
  have h1 := h w hw
  have h2 : isNest w = true := (List.mem_filter.mp hw).2
  cases w <;> first | exact va_Nw.same rfl hv.symm h1 | cases h2
theorem xSta.move {D : xD} {N : Nat} {s U : State} {H : Heap} {locs : List Loc} (h : xSta D N s) (hS : va_S (fr N) s.heap H locs) (hU : U.heap = H) (hW : s.WarmedH U.vm) : xSta D N U := by
  obtain ⟨h1, h2, h3, h4, h5, h6⟩ := h
  have hq : ∀ a : Nat, a < s.heap.size → ¬ fr N a → U.heap[a]? = s.heap[a]? := fun a h1 h2 => by rw [hU]; exact hS.2.1 a h1 h2
  have hA := hW.alike
  exact ⟨va_Z.moved hA (h1.kept hq), va_T.moved hA (h2.kept hq), vk_S.moved hA (h3.kept hq), vk_R.warm hW h4, vk_R.warm hW h5, va_Z.moved hA (h6.kept hq)⟩
theorem xK.move {D : xD} {N : Nat} {s U : State} {H : Heap} {locs : List Loc} (h : xK D N s) (hS : va_S (fr N) s.heap H locs) (hU : U.heap = H) (hW : s.WarmedH U.vm) : xK D N U :=
  ⟨va_K.moved hW.alike h.1, nest_warm hW h.2.1, h.2.2.move hS hU hW⟩
theorem xK.blind {D : xD} {N : Nat} {U U2 : State} (h : xK D N U) (hh : U2.heap = U.heap) (hv : U2.vm = U.vm) : xK D N U2 := by
  obtain ⟨h1, h2, h3⟩ := h
  have hA : U.vm.Alike U2.vm := by rw [hv]; exact Vm.Alike.refl U.vm
  refine ⟨va_K.moved hA h1, nest_same hv h2, ?_⟩
  obtain ⟨h1, h2, h3, h4, h5, h6⟩ := h3
  have hq : ∀ a : Nat, a < U.heap.size → ¬ fr N a → U2.heap[a]? = U.heap[a]? := fun a _ _ => by rw [hh]
  exact ⟨va_Z.moved hA (h1.kept hq), va_T.moved hA (h2.kept hq), vk_S.moved hA (h3.kept hq), vk_R.same hv h4, vk_R.same hv h5, va_Z.moved hA (h6.kept hq)⟩
/-- the heap from N on is the list g -/
def hs (D : va_G) (N : Nat) (g : List va_E) (H : Heap) : Prop := H.size = N + g.length ∧ ∀ (i : Nat) (e : va_E), g[i]? = some e → va_at D classes (N + i, e) H
theorem hs.one {D : va_G} {N i : Nat} {g : List va_E} {H : Heap} {e : va_E} (h : hs D N g H) (hi : g[i]? = some e) : va_P D classes [(N + i, e)] H := by
  intro k q hk
  have hz : k < 1 := (List.getElem?_eq_some_iff.mp hk).1
  rw [show k = 0 by omega] at hk
  cases hk
  exact h.2 i e hi
theorem hs.set {D : va_G} {N i : Nat} {g : List va_E} {H H1 : Heap} {e0 e : va_E} (h : hs D N g H) (hi : g[i]? = some e0) (he : va_at D classes (N + i, e) H1) (hz : H1.size = H.size) (oq : ∀ q : Nat, q ≠ N + i → H1[q]? = H[q]?) : hs D N (g.set i e) H1 := by
  have hl := (List.getElem?_eq_some_iff.mp hi).1
  refine ⟨by rw [hz, h.1, List.length_set], fun j x hj => ?_⟩
  by_cases hij : i = j
  · subst hij
    rw [List.getElem?_set_self hl] at hj
    cases hj
    exact he
  · rw [List.getElem?_set_ne hij] at hj
    exact (h.2 j x hj).kept (oq _ (by show N + j ≠ N + i; omega))
theorem hs.push {D : va_G} {N : Nat} {g : List va_E} {H H1 : Heap} {e : va_E} (h : hs D N g H) (he : va_at D classes (N + g.length, e) H1) (hz : H1.size = H.size + 1) (oq : ∀ q : Nat, q < H.size → H1[q]? = H[q]?) : hs D N (g ++ [e]) H1 := by
  refine ⟨by rw [hz, h.1, List.length_append]; simp; omega, fun j x hj => ?_⟩
  by_cases hl : j < g.length
  · rw [List.getElem?_append_left hl] at hj
    exact (h.2 j x hj).kept (oq _ (by have := h.1; show N + j < H.size; omega))
  · rw [List.getElem?_append_right (by omega)] at hj
    have hz : j - g.length < 1 := (List.getElem?_eq_some_iff.mp hj).1
    have hj0 : j = g.length := by omega
    subst hj0
    rw [Nat.sub_self] at hj
    cases hj
    exact he
def Qk (D : xD) (N : Nat) (K : Option Value → List va_E → Prop) : Array Value → State → Outcome → State → Prop := fun _ st oc t => (∃ (v : Option Value) (g' : List va_E), oc = .returned v ∧ K v g' ∧ hs D.1 N g' t.heap) ∧ va_F (fr N) st t
def Rm (d mc ms : Nat) : Room := { frames := d, cells := mc, slots := ms, locals := 37 * d }
def Ok (D : xD) (N : Nat) (l : Launch) (d : Nat) (M : MD) (as : List Value) (g : List va_E) (mc ms : Nat) (K : Option Value → List va_E → Prop) : Prop :=
  Met l M.1 (Cond.code M.1 M.2.1 M.2.2.1 M.2.2.2 :: lw_good) (Rm d mc ms) (va_Pc as (fun U => hs D.1 N g U.heap ∧ xK D N U ∧ N ≤ U.heap.size)) (Qk D N K) mc ms (fr N)
abbrev QF : Type := List Frame → Array Value → State → State → Prop
def Qm (D : xD) (N : Nat) (K : Option Value → List va_E → Prop) (mc ms : Nat) : QF := fun below args s => MQ below (Qk D N K) args s mc ms (fr N)
abbrev EX : Type := State → Array Value → Method → Prop
def Cx (D : xD) (N : Nat) (E : EX) (M : MD) (p : Program) (s : State) (m : MethodId) (args : Array Value) (meth : Method) (c : Code) : Prop :=
  p.tables.exec = Jvm.exec ∧ c.code = M.2.1 ∧ c.maxLocals = M.2.2.1 ∧ s.vm.findClass M.1.cls = some m.cls ∧ (∀ w ∈ lw_good, w.before args s = true) ∧ xK D N s ∧ meth.locks = false ∧ meth.sig.returnType = M.2.2.2 ∧ N ≤ s.heap.size ∧ E s args meth
def Wp (D : xD) (N : Nat) (l : Launch) (E : EX) (M : MD) (R : Room) (Qf : QF) (k n pc : Nat) (L : List (Nat × Value)) (st : List Value) (g : List va_E) : Prop :=
  ∀ (p : Program) (e : Env) (s : State) (m : MethodId) (args : Array Value) (below : List Frame) (meth : Method) (c : Code), Cx D N E M p s m args meth c → ∀ (H : Heap) (locs : List Loc) (ls : Array Slot), hs D.1 N g H → va_S (fr N) s.heap H locs → lv_has ls M.2.2.1 L → W p l e R s m args below meth c H locs k n (Qf below args s) (F0 m pc ls st)
section WP
variable {D : xD} {N : Nat} {l : Launch} {E : EX} {M : MD} {R : Room} {Qf : QF} {k n pc : Nat} {L : List (Nat × Value)} {st : List Value} {g : List va_E}
def EI (M : MD) : EX := fun _ _ meth => M.1.name = "<init>" → meth.name = "<init>"
theorem ok_of {d mc ms : Nat} {as : List Value} {K : Option Value → List va_E → Prop} (hy : plainName M.1.cls = true) (hlen : (lg_sl as).length ≤ M.2.2.1) (hL : lv_args 0 as = L) (h : Wp D N l (EI M) M (Rm d mc ms) (Qm D N K mc ms) 0 0 0 L [] g) : Ok D N l d M as g mc ms K := by
  subst hL
  refine Met.ofW (cc := M.2.1) (maxL := M.2.2.1) (ret := M.2.2.2) hy rfl ?_
  intro p e s m args below meth c s₁ B hml hv
  obtain ⟨rfl, hH, hK, hN⟩ := hv
  have hts := atoms_spec (ws := Cond.code M.1 M.2.1 M.2.2.1 M.2.2.2 :: lw_good) B.pre
  rw [lg_entry_eq]
  exact h p e s m _ below meth c ⟨B.exec, B.bytes, hml, findClass_of_methodNamed B.named, fun w hw => hts w (List.mem_cons_of_mem _ hw), hK, B.notSynchronized, B.returns, hN, fun hi => by rw [(name_of_methodNamed B.named B.method).1]; exact hi⟩ s.heap [] _ hH va_S.rf (lv_entry as hlen)
theorem wp_iconst {q : Nat} {z : Int} {v : Int32} (hd : decode M.2.1 pc = .ok (.iconst z, 1)) (hq : pc + 1 = q) (hv : Int32.ofInt z = v) (h : Wp D N l E M R Qf k n q L (.int v :: st) g) : Wp D N l E M R Qf k n pc L (st) g := by
  subst hq
  intro p e s m args below meth c C H locs ls hH hS hl
  exact lv_iconst C.1 C.2.1 hd hv (h p e s m args below meth c C H locs ls hH hS hl)
theorem wp_bipush {q : Nat} {z : Int} {v : Int32} (hd : decode M.2.1 pc = .ok (.bipush z, 2)) (hq : pc + 2 = q) (hv : (Int8.ofInt z).toInt32 = v) (h : Wp D N l E M R Qf k n q L (.int v :: st) g) : Wp D N l E M R Qf k n pc L (st) g := by
  subst hq
  intro p e s m args below meth c C H locs ls hH hS hl
  exact lv_bipush C.1 C.2.1 hd hv (h p e s m args below meth c C H locs ls hH hS hl)
theorem wp_sipush {q : Nat} {z : Int} {v : Int32} (hd : decode M.2.1 pc = .ok (.sipush z, 3)) (hq : pc + 3 = q) (hv : (Int16.ofInt z).toInt32 = v) (h : Wp D N l E M R Qf k n q L (.int v :: st) g) : Wp D N l E M R Qf k n pc L (st) g := by
  subst hq
  intro p e s m args below meth c C H locs ls hH hS hl
  exact lv_sipush C.1 C.2.1 hd hv (h p e s m args below meth c C H locs ls hH hS hl)
theorem wp_lconst {q : Nat} {z : Fin 2} {v : Int64} (hd : decode M.2.1 pc = .ok (.lconst z, 1)) (hq : pc + 1 = q) (hv : Int64.ofNat (z : Nat) = v) (h : Wp D N l E M R Qf k n q L (.long v :: st) g) : Wp D N l E M R Qf k n pc L (st) g := by
  subst hq
  intro p e s m args below meth c C H locs ls hH hS hl
  exact lv_lconst C.1 C.2.1 hd hv (h p e s m args below meth c C H locs ls hH hS hl)
theorem wp_ldc {q : Nat} {idx : Nat} {v : Int32} (hd : decode M.2.1 pc = .ok (.ldc idx, 2)) (hq : pc + 2 = q) (hw : Cond.constant M.1.cls idx v ∈ lw_good) (h : Wp D N l E M R Qf k n q L (.int v :: st) g) : Wp D N l E M R Qf k n pc L (st) g := by
  subst hq
  intro p e s m args below meth c C H locs ls hH hS hl
  exact lv_ldc C.1 C.2.1 C.2.2.2.1 (C.2.2.2.2.1 _ hw) hd (h p e s m args below meth c C H locs ls hH hS hl)
theorem wp_ldcw {q : Nat} {idx : Nat} {v : Int32} (hd : decode M.2.1 pc = .ok (.ldc_w idx, 3)) (hq : pc + 3 = q) (hw : Cond.constant M.1.cls idx v ∈ lw_good) (h : Wp D N l E M R Qf k n q L (.int v :: st) g) : Wp D N l E M R Qf k n pc L (st) g := by
  subst hq
  intro p e s m args below meth c C H locs ls hH hS hl
  exact lv_ldcw C.1 C.2.1 C.2.2.2.1 (C.2.2.2.2.1 _ hw) hd (h p e s m args below meth c C H locs ls hH hS hl)
theorem wp_ldc2 {q : Nat} {idx : Nat} {v : Int64} (hd : decode M.2.1 pc = .ok (.ldc2_w idx, 3)) (hq : pc + 3 = q) (hw : Cond.constantLong M.1.cls idx v ∈ lw_good) (h : Wp D N l E M R Qf k n q L (.long v :: st) g) : Wp D N l E M R Qf k n pc L (st) g := by
  subst hq
  intro p e s m args below meth c C H locs ls hH hS hl
  exact lv_ldc2 C.1 C.2.1 C.2.2.2.1 (C.2.2.2.2.1 _ hw) hd (h p e s m args below meth c C H locs ls hH hS hl)
theorem wp_null {q : Nat}  (hd : decode M.2.1 pc = .ok (.aconst_null, 1)) (hq : pc + 1 = q)  (h : Wp D N l E M R Qf k n q L (.null :: st) g) : Wp D N l E M R Qf k n pc L (st) g := by
  subst hq
  intro p e s m args below meth c C H locs ls hH hS hl
  exact lv_null C.1 C.2.1 hd (h p e s m args below meth c C H locs ls hH hS hl)
theorem lk_mem : ∀ {L : List (Nat × Value)} {i : Nat} {v : Value}, L.lookup i = some v → (i, v) ∈ L
  | [], i, v, h => by cases h
  | (j, w) :: L, i, v, h => by
    rw [List.lookup_cons] at h
    by_cases e : i = j
    · subst e
      simp at h
      subst h
      exact List.mem_cons_self
    · have e2 : (i == j) = false := by simpa using e
      rw [e2] at h
      exact List.mem_cons_of_mem _ (lk_mem h)
theorem wp_iload_n {q : Nat} {i : Fin 4} {x : Int32} (hd : decode M.2.1 pc = .ok (.iload_n i, 1)) (hq : pc + 1 = q) (hi : L.lookup (i : Nat) = some (.int x)) (h : Wp D N l E M R Qf k n q L (.int x :: st) g) : Wp D N l E M R Qf k n pc L (st) g := by
  subst hq
  intro p e s m args below meth c C H locs ls hH hS hl
  exact lv_iload_n C.1 C.2.1 hd rfl (hl.2.2 _ (lk_mem hi)) (h p e s m args below meth c C H locs ls hH hS hl)
theorem wp_iload {q : Nat} {i : Nat} {x : Int32} (hd : decode M.2.1 pc = .ok (.iload i, 2)) (hq : pc + 2 = q) (hi : L.lookup i = some (.int x)) (h : Wp D N l E M R Qf k n q L (.int x :: st) g) : Wp D N l E M R Qf k n pc L (st) g := by
  subst hq
  intro p e s m args below meth c C H locs ls hH hS hl
  exact lv_iload C.1 C.2.1 hd (hl.2.2 _ (lk_mem hi)) (h p e s m args below meth c C H locs ls hH hS hl)
theorem wp_lload_n {q : Nat} {i : Fin 4} {x : Int64} (hd : decode M.2.1 pc = .ok (.lload_n i, 1)) (hq : pc + 1 = q) (hi : L.lookup (i : Nat) = some (.long x)) (h : Wp D N l E M R Qf k n q L (.long x :: st) g) : Wp D N l E M R Qf k n pc L (st) g := by
  subst hq
  intro p e s m args below meth c C H locs ls hH hS hl
  exact lv_lload_n C.1 C.2.1 hd rfl (hl.2.2 _ (lk_mem hi)) (h p e s m args below meth c C H locs ls hH hS hl)
theorem wp_lload {q : Nat} {i : Nat} {x : Int64} (hd : decode M.2.1 pc = .ok (.lload i, 2)) (hq : pc + 2 = q) (hi : L.lookup i = some (.long x)) (h : Wp D N l E M R Qf k n q L (.long x :: st) g) : Wp D N l E M R Qf k n pc L (st) g := by
  subst hq
  intro p e s m args below meth c C H locs ls hH hS hl
  exact lv_lload C.1 C.2.1 hd (hl.2.2 _ (lk_mem hi)) (h p e s m args below meth c C H locs ls hH hS hl)
theorem wp_aload_n {q : Nat} {i : Fin 4} {x : Nat} (hd : decode M.2.1 pc = .ok (.aload_n i, 1)) (hq : pc + 1 = q) (hi : L.lookup (i : Nat) = some (.ref x)) (h : Wp D N l E M R Qf k n q L (.ref x :: st) g) : Wp D N l E M R Qf k n pc L (st) g := by
  subst hq
  intro p e s m args below meth c C H locs ls hH hS hl
  exact lv_aload_n C.1 C.2.1 hd rfl (hl.2.2 _ (lk_mem hi)) (h p e s m args below meth c C H locs ls hH hS hl)
theorem wp_aload {q : Nat} {i : Nat} {x : Nat} (hd : decode M.2.1 pc = .ok (.aload i, 2)) (hq : pc + 2 = q) (hi : L.lookup i = some (.ref x)) (h : Wp D N l E M R Qf k n q L (.ref x :: st) g) : Wp D N l E M R Qf k n pc L (st) g := by
  subst hq
  intro p e s m args below meth c C H locs ls hH hS hl
  exact lv_aload C.1 C.2.1 hd (hl.2.2 _ (lk_mem hi)) (h p e s m args below meth c C H locs ls hH hS hl)
theorem wp_istore_n {q : Nat} {i : Fin 4} {x : Int32} {L2 : List (Nat × Value)} (hd : decode M.2.1 pc = .ok (.istore_n i, 1)) (hq : pc + 1 = q) (hn : (i : Nat) < M.2.2.1) (hL : ((i : Nat), Value.int x) :: L.filter (fun q => !(q.1 == (i : Nat)) && !(q.1 + 1 == (i : Nat) && q.2.category == 2)) = L2) (h : Wp D N l E M R Qf k n q L2 st g) : Wp D N l E M R Qf k n pc L (.int x :: st) g := by
  subst hq
  intro p e s m args below meth c C H locs ls hH hS hl
  exact lv_istore_n C.1 C.2.1 hd rfl hl hn hL (fun ls' hl' => h p e s m args below meth c C H locs ls' hH hS hl')
theorem wp_istore {q : Nat} {i : Nat} {x : Int32} {L2 : List (Nat × Value)} (hd : decode M.2.1 pc = .ok (.istore i, 2)) (hq : pc + 2 = q) (hn : i < M.2.2.1) (hL : (i, Value.int x) :: L.filter (fun q => !(q.1 == i) && !(q.1 + 1 == i && q.2.category == 2)) = L2) (h : Wp D N l E M R Qf k n q L2 st g) : Wp D N l E M R Qf k n pc L (.int x :: st) g := by
  subst hq
  intro p e s m args below meth c C H locs ls hH hS hl
  exact lv_istore C.1 C.2.1 hd hl hn hL (fun ls' hl' => h p e s m args below meth c C H locs ls' hH hS hl')
theorem wp_astore_n {q : Nat} {i : Fin 4} {x : Nat} {L2 : List (Nat × Value)} (hd : decode M.2.1 pc = .ok (.astore_n i, 1)) (hq : pc + 1 = q) (hn : (i : Nat) < M.2.2.1) (hL : ((i : Nat), Value.ref x) :: L.filter (fun q => !(q.1 == (i : Nat)) && !(q.1 + 1 == (i : Nat) && q.2.category == 2)) = L2) (h : Wp D N l E M R Qf k n q L2 st g) : Wp D N l E M R Qf k n pc L (.ref x :: st) g := by
  subst hq
  intro p e s m args below meth c C H locs ls hH hS hl
  exact lv_astore_n C.1 C.2.1 hd rfl hl hn hL (fun ls' hl' => h p e s m args below meth c C H locs ls' hH hS hl')
theorem wp_astore {q : Nat} {i : Nat} {x : Nat} {L2 : List (Nat × Value)} (hd : decode M.2.1 pc = .ok (.astore i, 2)) (hq : pc + 2 = q) (hn : i < M.2.2.1) (hL : (i, Value.ref x) :: L.filter (fun q => !(q.1 == i) && !(q.1 + 1 == i && q.2.category == 2)) = L2) (h : Wp D N l E M R Qf k n q L2 st g) : Wp D N l E M R Qf k n pc L (.ref x :: st) g := by
  subst hq
  intro p e s m args below meth c C H locs ls hH hS hl
  exact lv_astore C.1 C.2.1 hd hl hn hL (fun ls' hl' => h p e s m args below meth c C H locs ls' hH hS hl')
theorem wp_lstore_n {q : Nat} {i : Fin 4} {x : Int64} {L2 : List (Nat × Value)} (hd : decode M.2.1 pc = .ok (.lstore_n i, 1)) (hq : pc + 1 = q) (hn : (i : Nat) + 1 < M.2.2.1) (hL : ((i : Nat), Value.long x) :: L.filter (fun q => !(q.1 == (i : Nat)) && (!(q.1 == (i : Nat) + 1) && !(q.1 + 1 == (i : Nat) && q.2.category == 2))) = L2) (h : Wp D N l E M R Qf k n q L2 st g) : Wp D N l E M R Qf k n pc L (.long x :: st) g := by
  subst hq
  intro p e s m args below meth c C H locs ls hH hS hl
  exact lv_lstore_n C.1 C.2.1 hd rfl hl hn hL (fun ls' hl' => h p e s m args below meth c C H locs ls' hH hS hl')
theorem wp_lstore {q : Nat} {i : Nat} {x : Int64} {L2 : List (Nat × Value)} (hd : decode M.2.1 pc = .ok (.lstore i, 2)) (hq : pc + 2 = q) (hn : i + 1 < M.2.2.1) (hL : (i, Value.long x) :: L.filter (fun q => !(q.1 == i) && (!(q.1 == i + 1) && !(q.1 + 1 == i && q.2.category == 2))) = L2) (h : Wp D N l E M R Qf k n q L2 st g) : Wp D N l E M R Qf k n pc L (.long x :: st) g := by
  subst hq
  intro p e s m args below meth c C H locs ls hH hS hl
  exact lv_lstore C.1 C.2.1 hd hl hn hL (fun ls' hl' => h p e s m args below meth c C H locs ls' hH hS hl')
theorem wp_iinc {q i : Nat} {z : Int} {x v : Int32} {L2 : List (Nat × Value)} (hd : decode M.2.1 pc = .ok (.iinc i z, 3)) (hq : pc + 3 = q) (hi : L.lookup i = some (.int x)) (hv : x + Int32.ofInt z = v) (hn : i < M.2.2.1) (hL : (i, Value.int v) :: L.filter (fun q => !(q.1 == i) && !(q.1 + 1 == i && q.2.category == 2)) = L2) (h : Wp D N l E M R Qf k n q L2 st g) : Wp D N l E M R Qf k n pc L st g := by
  subst hq
  intro p e s m args below meth c C H locs ls hH hS hl
  obtain ⟨j, hj⟩ := List.getElem?_of_mem (lk_mem hi)
  exact lv_iinc C.1 C.2.1 hd hl hj hv hn hL (fun ls' hl' => h p e s m args below meth c C H locs ls' hH hS hl')
theorem wp_iadd {q : Nat} {x y : Int32} (hd : decode M.2.1 pc = .ok (.iadd, 1)) (hq : pc + 1 = q)  (h : Wp D N l E M R Qf k n q L (.int (x + y) :: st) g) : Wp D N l E M R Qf k n pc L (.int y :: .int x :: st) g := by
  subst hq
  intro p e s m args below meth c C H locs ls hH hS hl
  exact lv_iadd C.1 C.2.1 hd (h p e s m args below meth c C H locs ls hH hS hl)
theorem wp_isub {q : Nat} {x y : Int32} (hd : decode M.2.1 pc = .ok (.isub, 1)) (hq : pc + 1 = q)  (h : Wp D N l E M R Qf k n q L (.int (x - y) :: st) g) : Wp D N l E M R Qf k n pc L (.int y :: .int x :: st) g := by
  subst hq
  intro p e s m args below meth c C H locs ls hH hS hl
  exact lv_isub C.1 C.2.1 hd (h p e s m args below meth c C H locs ls hH hS hl)
theorem wp_imul {q : Nat} {x y : Int32} (hd : decode M.2.1 pc = .ok (.imul, 1)) (hq : pc + 1 = q)  (h : Wp D N l E M R Qf k n q L (.int (x * y) :: st) g) : Wp D N l E M R Qf k n pc L (.int y :: .int x :: st) g := by
  subst hq
  intro p e s m args below meth c C H locs ls hH hS hl
  exact lv_imul C.1 C.2.1 hd (h p e s m args below meth c C H locs ls hH hS hl)
theorem wp_iand {q : Nat} {x y : Int32} (hd : decode M.2.1 pc = .ok (.iand, 1)) (hq : pc + 1 = q)  (h : Wp D N l E M R Qf k n q L (.int (x &&& y) :: st) g) : Wp D N l E M R Qf k n pc L (.int y :: .int x :: st) g := by
  subst hq
  intro p e s m args below meth c C H locs ls hH hS hl
  exact lv_iand C.1 C.2.1 hd (h p e s m args below meth c C H locs ls hH hS hl)
theorem wp_ior {q : Nat} {x y : Int32} (hd : decode M.2.1 pc = .ok (.ior, 1)) (hq : pc + 1 = q)  (h : Wp D N l E M R Qf k n q L (.int (x ||| y) :: st) g) : Wp D N l E M R Qf k n pc L (.int y :: .int x :: st) g := by
  subst hq
  intro p e s m args below meth c C H locs ls hH hS hl
  exact lv_ior C.1 C.2.1 hd (h p e s m args below meth c C H locs ls hH hS hl)
theorem wp_ishl {q : Nat} {x y : Int32} (hd : decode M.2.1 pc = .ok (.ishl, 1)) (hq : pc + 1 = q)  (h : Wp D N l E M R Qf k n q L (.int (x <<< (y &&& 31)) :: st) g) : Wp D N l E M R Qf k n pc L (.int y :: .int x :: st) g := by
  subst hq
  intro p e s m args below meth c C H locs ls hH hS hl
  exact lv_ishl C.1 C.2.1 hd (h p e s m args below meth c C H locs ls hH hS hl)
theorem wp_ishr {q : Nat} {x y : Int32} (hd : decode M.2.1 pc = .ok (.ishr, 1)) (hq : pc + 1 = q)  (h : Wp D N l E M R Qf k n q L (.int (x >>> (y &&& 31)) :: st) g) : Wp D N l E M R Qf k n pc L (.int y :: .int x :: st) g := by
  subst hq
  intro p e s m args below meth c C H locs ls hH hS hl
  exact lv_ishr C.1 C.2.1 hd (h p e s m args below meth c C H locs ls hH hS hl)
theorem wp_iaddN {q : Nat} {a b : Nat} (hd : decode M.2.1 pc = .ok (.iadd, 1)) (hq : pc + 1 = q)  (h : Wp D N l E M R Qf k n q L (.int (nI (a + b)) :: st) g) : Wp D N l E M R Qf k n pc L (.int (nI b) :: .int (nI a) :: st) g := by
  subst hq
  intro p e s m args below meth c C H locs ls hH hS hl
  exact lv_iadd C.1 C.2.1 hd (by rw [nI_add]; exact (h p e s m args below meth c C H locs ls hH hS hl))
theorem wp_imulN {q : Nat} {a b : Nat} (hd : decode M.2.1 pc = .ok (.imul, 1)) (hq : pc + 1 = q)  (h : Wp D N l E M R Qf k n q L (.int (nI (a * b)) :: st) g) : Wp D N l E M R Qf k n pc L (.int (nI b) :: .int (nI a) :: st) g := by
  subst hq
  intro p e s m args below meth c C H locs ls hH hS hl
  exact lv_imul C.1 C.2.1 hd (by rw [pk_mul]; exact (h p e s m args below meth c C H locs ls hH hS hl))
theorem wp_ladd {q : Nat} {x y : Int64} (hd : decode M.2.1 pc = .ok (.ladd, 1)) (hq : pc + 1 = q)  (h : Wp D N l E M R Qf k n q L (.long (x + y) :: st) g) : Wp D N l E M R Qf k n pc L (.long y :: .long x :: st) g := by
  subst hq
  intro p e s m args below meth c C H locs ls hH hS hl
  exact lv_ladd C.1 C.2.1 hd (h p e s m args below meth c C H locs ls hH hS hl)
theorem wp_lsub {q : Nat} {x y : Int64} (hd : decode M.2.1 pc = .ok (.lsub, 1)) (hq : pc + 1 = q)  (h : Wp D N l E M R Qf k n q L (.long (x - y) :: st) g) : Wp D N l E M R Qf k n pc L (.long y :: .long x :: st) g := by
  subst hq
  intro p e s m args below meth c C H locs ls hH hS hl
  exact lv_lsub C.1 C.2.1 hd (h p e s m args below meth c C H locs ls hH hS hl)
theorem wp_lmul {q : Nat} {x y : Int64} (hd : decode M.2.1 pc = .ok (.lmul, 1)) (hq : pc + 1 = q)  (h : Wp D N l E M R Qf k n q L (.long (x * y) :: st) g) : Wp D N l E M R Qf k n pc L (.long y :: .long x :: st) g := by
  subst hq
  intro p e s m args below meth c C H locs ls hH hS hl
  exact lv_lmul C.1 C.2.1 hd (h p e s m args below meth c C H locs ls hH hS hl)
theorem wp_land {q : Nat} {x y : Int64} (hd : decode M.2.1 pc = .ok (.land, 1)) (hq : pc + 1 = q)  (h : Wp D N l E M R Qf k n q L (.long (x &&& y) :: st) g) : Wp D N l E M R Qf k n pc L (.long y :: .long x :: st) g := by
  subst hq
  intro p e s m args below meth c C H locs ls hH hS hl
  exact lv_land C.1 C.2.1 hd (h p e s m args below meth c C H locs ls hH hS hl)
theorem wp_lor {q : Nat} {x y : Int64} (hd : decode M.2.1 pc = .ok (.lor, 1)) (hq : pc + 1 = q)  (h : Wp D N l E M R Qf k n q L (.long (x ||| y) :: st) g) : Wp D N l E M R Qf k n pc L (.long y :: .long x :: st) g := by
  subst hq
  intro p e s m args below meth c C H locs ls hH hS hl
  exact lv_lor C.1 C.2.1 hd (h p e s m args below meth c C H locs ls hH hS hl)
theorem wp_idiv {q : Nat} {x y : Int32} (hd : decode M.2.1 pc = .ok (.idiv, 1)) (hq : pc + 1 = q) (hne : ¬ y = 0) (h : Wp D N l E M R Qf k n q L (.int (x / y) :: st) g) : Wp D N l E M R Qf k n pc L (.int y :: .int x :: st) g := by
  subst hq
  intro p e s m args below meth c C H locs ls hH hS hl
  exact lv_idiv C.1 C.2.1 hd hne (h p e s m args below meth c C H locs ls hH hS hl)
theorem wp_irem {q : Nat} {x y : Int32} (hd : decode M.2.1 pc = .ok (.irem, 1)) (hq : pc + 1 = q) (hne : ¬ y = 0) (h : Wp D N l E M R Qf k n q L (.int (x - x / y * y) :: st) g) : Wp D N l E M R Qf k n pc L (.int y :: .int x :: st) g := by
  subst hq
  intro p e s m args below meth c C H locs ls hH hS hl
  exact lv_irem C.1 C.2.1 hd hne (h p e s m args below meth c C H locs ls hH hS hl)
theorem wp_idivN {q : Nat} {a b : Nat} (hd : decode M.2.1 pc = .ok (.idiv, 1)) (hq : pc + 1 = q) (ha : a < 2 ^ 31) (h0 : 0 < b) (hb : b < 2 ^ 31) (h : Wp D N l E M R Qf k n q L (.int (nI (a / b)) :: st) g) : Wp D N l E M R Qf k n pc L (.int (nI b) :: .int (nI a) :: st) g := by
  subst hq
  intro p e s m args below meth c C H locs ls hH hS hl
  exact lv_idiv C.1 C.2.1 hd (nI_ne0 h0 hb) (by rw [pk_div ha h0 hb]; exact (h p e s m args below meth c C H locs ls hH hS hl))
theorem wp_iremN {q : Nat} {a b : Nat} (hd : decode M.2.1 pc = .ok (.irem, 1)) (hq : pc + 1 = q) (ha : a < 2 ^ 31) (h0 : 0 < b) (hb : b < 2 ^ 31) (h : Wp D N l E M R Qf k n q L (.int (nI (a % b)) :: st) g) : Wp D N l E M R Qf k n pc L (.int (nI b) :: .int (nI a) :: st) g := by
  subst hq
  intro p e s m args below meth c C H locs ls hH hS hl
  exact lv_irem C.1 C.2.1 hd (nI_ne0 h0 hb) (by rw [pk_rem ha h0 hb]; exact (h p e s m args below meth c C H locs ls hH hS hl))
theorem wp_isubN {q : Nat} {a b : Nat} (hd : decode M.2.1 pc = .ok (.isub, 1)) (hq : pc + 1 = q) (hab : b ≤ a) (h : Wp D N l E M R Qf k n q L (.int (nI (a - b)) :: st) g) : Wp D N l E M R Qf k n pc L (.int (nI b) :: .int (nI a) :: st) g := by
  subst hq
  intro p e s m args below meth c C H locs ls hH hS hl
  exact lv_isub C.1 C.2.1 hd (by rw [pk_sub hab]; exact (h p e s m args below meth c C H locs ls hH hS hl))
theorem wp_ldiv {q : Nat} {x y : Int64} (hd : decode M.2.1 pc = .ok (.ldiv, 1)) (hq : pc + 1 = q) (hne : ¬ y = 0) (h : Wp D N l E M R Qf k n q L (.long (x / y) :: st) g) : Wp D N l E M R Qf k n pc L (.long y :: .long x :: st) g := by
  subst hq
  intro p e s m args below meth c C H locs ls hH hS hl
  exact lv_ldiv C.1 C.2.1 hd hne (h p e s m args below meth c C H locs ls hH hS hl)
theorem wp_iushr {q : Nat} {x y : Int32} (hd : decode M.2.1 pc = .ok (.iushr, 1)) (hq : pc + 1 = q)  (h : Wp D N l E M R Qf k n q L (.int (x.toUInt32 >>> (y.toUInt32 &&& Int32.toUInt32 31)).toInt32 :: st) g) : Wp D N l E M R Qf k n pc L (.int y :: .int x :: st) g := by
  subst hq
  intro p e s m args below meth c C H locs ls hH hS hl
  exact lv_iushr C.1 C.2.1 hd rfl (h p e s m args below meth c C H locs ls hH hS hl)
theorem wp_lshl {q : Nat} {x : Int64} {y : Int32} (hd : decode M.2.1 pc = .ok (.lshl, 1)) (hq : pc + 1 = q)  (h : Wp D N l E M R Qf k n q L (.long (x <<< (y.toInt64 &&& 63)) :: st) g) : Wp D N l E M R Qf k n pc L (.int y :: .long x :: st) g := by
  subst hq
  intro p e s m args below meth c C H locs ls hH hS hl
  exact lv_lshl C.1 C.2.1 hd rfl (h p e s m args below meth c C H locs ls hH hS hl)
theorem wp_lshr {q : Nat} {x : Int64} {y : Int32} (hd : decode M.2.1 pc = .ok (.lshr, 1)) (hq : pc + 1 = q)  (h : Wp D N l E M R Qf k n q L (.long (x >>> (y.toInt64 &&& 63)) :: st) g) : Wp D N l E M R Qf k n pc L (.int y :: .long x :: st) g := by
  subst hq
  intro p e s m args below meth c C H locs ls hH hS hl
  exact lv_lshr C.1 C.2.1 hd rfl (h p e s m args below meth c C H locs ls hH hS hl)
theorem wp_i2l {q : Nat} {x : Int32} (hd : decode M.2.1 pc = .ok (.i2l, 1)) (hq : pc + 1 = q)  (h : Wp D N l E M R Qf k n q L (.long x.toInt64 :: st) g) : Wp D N l E M R Qf k n pc L (.int x :: st) g := by
  subst hq
  intro p e s m args below meth c C H locs ls hH hS hl
  exact lv_i2l C.1 C.2.1 hd rfl (h p e s m args below meth c C H locs ls hH hS hl)
theorem wp_l2i {q : Nat} {x : Int64} (hd : decode M.2.1 pc = .ok (.l2i, 1)) (hq : pc + 1 = q)  (h : Wp D N l E M R Qf k n q L (.int x.toInt32 :: st) g) : Wp D N l E M R Qf k n pc L (.long x :: st) g := by
  subst hq
  intro p e s m args below meth c C H locs ls hH hS hl
  exact lv_l2i C.1 C.2.1 hd rfl (h p e s m args below meth c C H locs ls hH hS hl)
theorem wp_i2b {q : Nat} {x : Int32} (hd : decode M.2.1 pc = .ok (.i2b, 1)) (hq : pc + 1 = q)  (h : Wp D N l E M R Qf k n q L (.int x.toInt8.toInt32 :: st) g) : Wp D N l E M R Qf k n pc L (.int x :: st) g := by
  subst hq
  intro p e s m args below meth c C H locs ls hH hS hl
  exact lv_i2b C.1 C.2.1 hd rfl (h p e s m args below meth c C H locs ls hH hS hl)
theorem wp_i2s {q : Nat} {x : Int32} (hd : decode M.2.1 pc = .ok (.i2s, 1)) (hq : pc + 1 = q)  (h : Wp D N l E M R Qf k n q L (.int x.toInt16.toInt32 :: st) g) : Wp D N l E M R Qf k n pc L (.int x :: st) g := by
  subst hq
  intro p e s m args below meth c C H locs ls hH hS hl
  exact lv_i2s C.1 C.2.1 hd rfl (h p e s m args below meth c C H locs ls hH hS hl)
theorem wp_i2c {q : Nat} {x : Int32} (hd : decode M.2.1 pc = .ok (.i2c, 1)) (hq : pc + 1 = q)  (h : Wp D N l E M R Qf k n q L (.int (x.toUInt32 % 65536).toInt32 :: st) g) : Wp D N l E M R Qf k n pc L (.int x :: st) g := by
  subst hq
  intro p e s m args below meth c C H locs ls hH hS hl
  exact lv_i2c C.1 C.2.1 hd rfl (h p e s m args below meth c C H locs ls hH hS hl)
theorem wp_lcmp {q : Nat} {x y : Int64} (hd : decode M.2.1 pc = .ok (.lcmp, 1)) (hq : pc + 1 = q)  (h : Wp D N l E M R Qf k n q L (.int (lg_cmp x y) :: st) g) : Wp D N l E M R Qf k n pc L (.long y :: .long x :: st) g := by
  subst hq
  intro p e s m args below meth c C H locs ls hH hS hl
  exact W.lcmp C.1 C.2.1 hd (h p e s m args below meth c C H locs ls hH hS hl)
theorem wp_dup {q : Nat} {v : Value} (hd : decode M.2.1 pc = .ok (.dup, 1)) (hq : pc + 1 = q) (hv : v.category = 1) (h : Wp D N l E M R Qf k n q L (v :: v :: st) g) : Wp D N l E M R Qf k n pc L (v :: st) g := by
  subst hq
  intro p e s m args below meth c C H locs ls hH hS hl
  exact lv_dup C.1 C.2.1 hd hv (h p e s m args below meth c C H locs ls hH hS hl)
theorem wp_pop {q : Nat} {v : Value} (hd : decode M.2.1 pc = .ok (.pop, 1)) (hq : pc + 1 = q) (hv : v.category = 1) (h : Wp D N l E M R Qf k n q L (st) g) : Wp D N l E M R Qf k n pc L (v :: st) g := by
  subst hq
  intro p e s m args below meth c C H locs ls hH hS hl
  exact lv_pop C.1 C.2.1 hd hv (h p e s m args below meth c C H locs ls hH hS hl)
theorem wp_dup2 {q : Nat} {v w : Value} (hd : decode M.2.1 pc = .ok (.dup2, 1)) (hq : pc + 1 = q) (hv : v.category = 1) (hw : w.category = 1) (h : Wp D N l E M R Qf k n q L (v :: w :: v :: w :: st) g) : Wp D N l E M R Qf k n pc L (v :: w :: st) g := by
  subst hq
  intro p e s m args below meth c C H locs ls hH hS hl
  exact lv_dup2_11 C.1 C.2.1 hd hv hw (h p e s m args below meth c C H locs ls hH hS hl)
theorem wp_if_eq {q tgt : Nat} {off : Int} {x : Int32} (hd : decode M.2.1 pc = .ok (.ifCond .eq off, 3)) (ht : (pc : Int) + off = (tgt : Int)) (hq : pc + 3 = q) (kt : x = 0 → Wp D N l E M R Qf k n tgt L st g) (kf : ¬ x = 0 → Wp D N l E M R Qf k n q L st g) : Wp D N l E M R Qf k n pc L (.int x :: st) g := by
  subst hq
  intro p e s m args below meth c C H locs ls hH hS hl
  exact lv_if_eq C.1 C.2.1 hd ht (fun hc => (kt hc p e s m args below meth c C H locs ls hH hS hl)) (fun hc => (kf hc p e s m args below meth c C H locs ls hH hS hl))
theorem wp_if_eq_t {tgt : Nat} {off : Int} {x : Int32} (hd : decode M.2.1 pc = .ok (.ifCond .eq off, 3)) (ht : (pc : Int) + off = (tgt : Int)) (hc : x = 0) (kt : Wp D N l E M R Qf k n tgt L st g) : Wp D N l E M R Qf k n pc L (.int x :: st) g :=
  wp_if_eq hd ht rfl (fun _ => kt) (fun h => absurd hc h)
theorem wp_if_eq_f {q : Nat} {off : Int} {tgt : Nat} {x : Int32} (hd : decode M.2.1 pc = .ok (.ifCond .eq off, 3)) (ht : (pc : Int) + off = (tgt : Int)) (hq : pc + 3 = q) (hc : ¬ x = 0) (kf : Wp D N l E M R Qf k n q L st g) : Wp D N l E M R Qf k n pc L (.int x :: st) g :=
  wp_if_eq hd ht hq (fun h => absurd h hc) (fun _ => kf)
theorem wp_icmp_eq {q tgt : Nat} {off : Int} {x y : Int32} (hd : decode M.2.1 pc = .ok (.if_icmp .eq off, 3)) (ht : (pc : Int) + off = (tgt : Int)) (hq : pc + 3 = q) (kt : x = y → Wp D N l E M R Qf k n tgt L st g) (kf : ¬ x = y → Wp D N l E M R Qf k n q L st g) : Wp D N l E M R Qf k n pc L (.int y :: .int x :: st) g := by
  subst hq
  intro p e s m args below meth c C H locs ls hH hS hl
  exact lv_icmp_eq C.1 C.2.1 hd ht (fun hc => (kt hc p e s m args below meth c C H locs ls hH hS hl)) (fun hc => (kf hc p e s m args below meth c C H locs ls hH hS hl))
theorem wp_icmp_eq_t {tgt : Nat} {off : Int} {x y : Int32} (hd : decode M.2.1 pc = .ok (.if_icmp .eq off, 3)) (ht : (pc : Int) + off = (tgt : Int)) (hc : x = y) (kt : Wp D N l E M R Qf k n tgt L st g) : Wp D N l E M R Qf k n pc L (.int y :: .int x :: st) g :=
  wp_icmp_eq hd ht rfl (fun _ => kt) (fun h => absurd hc h)
theorem wp_icmp_eq_f {q : Nat} {off : Int} {tgt : Nat} {x y : Int32} (hd : decode M.2.1 pc = .ok (.if_icmp .eq off, 3)) (ht : (pc : Int) + off = (tgt : Int)) (hq : pc + 3 = q) (hc : ¬ x = y) (kf : Wp D N l E M R Qf k n q L st g) : Wp D N l E M R Qf k n pc L (.int y :: .int x :: st) g :=
  wp_icmp_eq hd ht hq (fun h => absurd h hc) (fun _ => kf)
theorem wp_if_ne {q tgt : Nat} {off : Int} {x : Int32} (hd : decode M.2.1 pc = .ok (.ifCond .ne off, 3)) (ht : (pc : Int) + off = (tgt : Int)) (hq : pc + 3 = q) (kt : ¬ x = 0 → Wp D N l E M R Qf k n tgt L st g) (kf : x = 0 → Wp D N l E M R Qf k n q L st g) : Wp D N l E M R Qf k n pc L (.int x :: st) g := by
  subst hq
  intro p e s m args below meth c C H locs ls hH hS hl
  exact lv_if_ne C.1 C.2.1 hd ht (fun hc => (kt hc p e s m args below meth c C H locs ls hH hS hl)) (fun hc => (kf hc p e s m args below meth c C H locs ls hH hS hl))
theorem wp_if_ne_t {tgt : Nat} {off : Int} {x : Int32} (hd : decode M.2.1 pc = .ok (.ifCond .ne off, 3)) (ht : (pc : Int) + off = (tgt : Int)) (hc : ¬ x = 0) (kt : Wp D N l E M R Qf k n tgt L st g) : Wp D N l E M R Qf k n pc L (.int x :: st) g :=
  wp_if_ne hd ht rfl (fun _ => kt) (fun h => absurd hc (fun z => z h))
theorem wp_if_ne_f {q : Nat} {off : Int} {tgt : Nat} {x : Int32} (hd : decode M.2.1 pc = .ok (.ifCond .ne off, 3)) (ht : (pc : Int) + off = (tgt : Int)) (hq : pc + 3 = q) (hc : x = 0) (kf : Wp D N l E M R Qf k n q L st g) : Wp D N l E M R Qf k n pc L (.int x :: st) g :=
  wp_if_ne hd ht hq (fun h => absurd hc h) (fun _ => kf)
theorem wp_icmp_ne {q tgt : Nat} {off : Int} {x y : Int32} (hd : decode M.2.1 pc = .ok (.if_icmp .ne off, 3)) (ht : (pc : Int) + off = (tgt : Int)) (hq : pc + 3 = q) (kt : ¬ x = y → Wp D N l E M R Qf k n tgt L st g) (kf : x = y → Wp D N l E M R Qf k n q L st g) : Wp D N l E M R Qf k n pc L (.int y :: .int x :: st) g := by
  subst hq
  intro p e s m args below meth c C H locs ls hH hS hl
  exact lv_icmp_ne C.1 C.2.1 hd ht (fun hc => (kt hc p e s m args below meth c C H locs ls hH hS hl)) (fun hc => (kf hc p e s m args below meth c C H locs ls hH hS hl))
theorem wp_icmp_ne_t {tgt : Nat} {off : Int} {x y : Int32} (hd : decode M.2.1 pc = .ok (.if_icmp .ne off, 3)) (ht : (pc : Int) + off = (tgt : Int)) (hc : ¬ x = y) (kt : Wp D N l E M R Qf k n tgt L st g) : Wp D N l E M R Qf k n pc L (.int y :: .int x :: st) g :=
  wp_icmp_ne hd ht rfl (fun _ => kt) (fun h => absurd hc (fun z => z h))
theorem wp_icmp_ne_f {q : Nat} {off : Int} {tgt : Nat} {x y : Int32} (hd : decode M.2.1 pc = .ok (.if_icmp .ne off, 3)) (ht : (pc : Int) + off = (tgt : Int)) (hq : pc + 3 = q) (hc : x = y) (kf : Wp D N l E M R Qf k n q L st g) : Wp D N l E M R Qf k n pc L (.int y :: .int x :: st) g :=
  wp_icmp_ne hd ht hq (fun h => absurd hc h) (fun _ => kf)
theorem wp_if_lt {q tgt : Nat} {off : Int} {x : Int32} (hd : decode M.2.1 pc = .ok (.ifCond .lt off, 3)) (ht : (pc : Int) + off = (tgt : Int)) (hq : pc + 3 = q) (kt : x < 0 → Wp D N l E M R Qf k n tgt L st g) (kf : ¬ x < 0 → Wp D N l E M R Qf k n q L st g) : Wp D N l E M R Qf k n pc L (.int x :: st) g := by
  subst hq
  intro p e s m args below meth c C H locs ls hH hS hl
  exact lv_if_lt C.1 C.2.1 hd ht (fun hc => (kt hc p e s m args below meth c C H locs ls hH hS hl)) (fun hc => (kf hc p e s m args below meth c C H locs ls hH hS hl))
theorem wp_if_lt_t {tgt : Nat} {off : Int} {x : Int32} (hd : decode M.2.1 pc = .ok (.ifCond .lt off, 3)) (ht : (pc : Int) + off = (tgt : Int)) (hc : x < 0) (kt : Wp D N l E M R Qf k n tgt L st g) : Wp D N l E M R Qf k n pc L (.int x :: st) g :=
  wp_if_lt hd ht rfl (fun _ => kt) (fun h => absurd hc h)
theorem wp_if_lt_f {q : Nat} {off : Int} {tgt : Nat} {x : Int32} (hd : decode M.2.1 pc = .ok (.ifCond .lt off, 3)) (ht : (pc : Int) + off = (tgt : Int)) (hq : pc + 3 = q) (hc : ¬ x < 0) (kf : Wp D N l E M R Qf k n q L st g) : Wp D N l E M R Qf k n pc L (.int x :: st) g :=
  wp_if_lt hd ht hq (fun h => absurd h hc) (fun _ => kf)
theorem wp_icmp_lt {q tgt : Nat} {off : Int} {x y : Int32} (hd : decode M.2.1 pc = .ok (.if_icmp .lt off, 3)) (ht : (pc : Int) + off = (tgt : Int)) (hq : pc + 3 = q) (kt : x < y → Wp D N l E M R Qf k n tgt L st g) (kf : ¬ x < y → Wp D N l E M R Qf k n q L st g) : Wp D N l E M R Qf k n pc L (.int y :: .int x :: st) g := by
  subst hq
  intro p e s m args below meth c C H locs ls hH hS hl
  exact lv_icmp_lt C.1 C.2.1 hd ht (fun hc => (kt hc p e s m args below meth c C H locs ls hH hS hl)) (fun hc => (kf hc p e s m args below meth c C H locs ls hH hS hl))
theorem wp_icmp_lt_t {tgt : Nat} {off : Int} {x y : Int32} (hd : decode M.2.1 pc = .ok (.if_icmp .lt off, 3)) (ht : (pc : Int) + off = (tgt : Int)) (hc : x < y) (kt : Wp D N l E M R Qf k n tgt L st g) : Wp D N l E M R Qf k n pc L (.int y :: .int x :: st) g :=
  wp_icmp_lt hd ht rfl (fun _ => kt) (fun h => absurd hc h)
theorem wp_icmp_lt_f {q : Nat} {off : Int} {tgt : Nat} {x y : Int32} (hd : decode M.2.1 pc = .ok (.if_icmp .lt off, 3)) (ht : (pc : Int) + off = (tgt : Int)) (hq : pc + 3 = q) (hc : ¬ x < y) (kf : Wp D N l E M R Qf k n q L st g) : Wp D N l E M R Qf k n pc L (.int y :: .int x :: st) g :=
  wp_icmp_lt hd ht hq (fun h => absurd h hc) (fun _ => kf)
theorem wp_if_ge {q tgt : Nat} {off : Int} {x : Int32} (hd : decode M.2.1 pc = .ok (.ifCond .ge off, 3)) (ht : (pc : Int) + off = (tgt : Int)) (hq : pc + 3 = q) (kt : 0 ≤ x → Wp D N l E M R Qf k n tgt L st g) (kf : ¬ 0 ≤ x → Wp D N l E M R Qf k n q L st g) : Wp D N l E M R Qf k n pc L (.int x :: st) g := by
  subst hq
  intro p e s m args below meth c C H locs ls hH hS hl
  exact lv_if_ge C.1 C.2.1 hd ht (fun hc => (kt hc p e s m args below meth c C H locs ls hH hS hl)) (fun hc => (kf hc p e s m args below meth c C H locs ls hH hS hl))
theorem wp_if_ge_t {tgt : Nat} {off : Int} {x : Int32} (hd : decode M.2.1 pc = .ok (.ifCond .ge off, 3)) (ht : (pc : Int) + off = (tgt : Int)) (hc : 0 ≤ x) (kt : Wp D N l E M R Qf k n tgt L st g) : Wp D N l E M R Qf k n pc L (.int x :: st) g :=
  wp_if_ge hd ht rfl (fun _ => kt) (fun h => absurd hc h)
theorem wp_if_ge_f {q : Nat} {off : Int} {tgt : Nat} {x : Int32} (hd : decode M.2.1 pc = .ok (.ifCond .ge off, 3)) (ht : (pc : Int) + off = (tgt : Int)) (hq : pc + 3 = q) (hc : ¬ 0 ≤ x) (kf : Wp D N l E M R Qf k n q L st g) : Wp D N l E M R Qf k n pc L (.int x :: st) g :=
  wp_if_ge hd ht hq (fun h => absurd h hc) (fun _ => kf)
theorem wp_icmp_ge {q tgt : Nat} {off : Int} {x y : Int32} (hd : decode M.2.1 pc = .ok (.if_icmp .ge off, 3)) (ht : (pc : Int) + off = (tgt : Int)) (hq : pc + 3 = q) (kt : y ≤ x → Wp D N l E M R Qf k n tgt L st g) (kf : ¬ y ≤ x → Wp D N l E M R Qf k n q L st g) : Wp D N l E M R Qf k n pc L (.int y :: .int x :: st) g := by
  subst hq
  intro p e s m args below meth c C H locs ls hH hS hl
  exact lv_icmp_ge C.1 C.2.1 hd ht (fun hc => (kt hc p e s m args below meth c C H locs ls hH hS hl)) (fun hc => (kf hc p e s m args below meth c C H locs ls hH hS hl))
theorem wp_icmp_ge_t {tgt : Nat} {off : Int} {x y : Int32} (hd : decode M.2.1 pc = .ok (.if_icmp .ge off, 3)) (ht : (pc : Int) + off = (tgt : Int)) (hc : y ≤ x) (kt : Wp D N l E M R Qf k n tgt L st g) : Wp D N l E M R Qf k n pc L (.int y :: .int x :: st) g :=
  wp_icmp_ge hd ht rfl (fun _ => kt) (fun h => absurd hc h)
theorem wp_icmp_ge_f {q : Nat} {off : Int} {tgt : Nat} {x y : Int32} (hd : decode M.2.1 pc = .ok (.if_icmp .ge off, 3)) (ht : (pc : Int) + off = (tgt : Int)) (hq : pc + 3 = q) (hc : ¬ y ≤ x) (kf : Wp D N l E M R Qf k n q L st g) : Wp D N l E M R Qf k n pc L (.int y :: .int x :: st) g :=
  wp_icmp_ge hd ht hq (fun h => absurd h hc) (fun _ => kf)
theorem wp_if_gt {q tgt : Nat} {off : Int} {x : Int32} (hd : decode M.2.1 pc = .ok (.ifCond .gt off, 3)) (ht : (pc : Int) + off = (tgt : Int)) (hq : pc + 3 = q) (kt : 0 < x → Wp D N l E M R Qf k n tgt L st g) (kf : ¬ 0 < x → Wp D N l E M R Qf k n q L st g) : Wp D N l E M R Qf k n pc L (.int x :: st) g := by
  subst hq
  intro p e s m args below meth c C H locs ls hH hS hl
  exact lv_if_gt C.1 C.2.1 hd ht (fun hc => (kt hc p e s m args below meth c C H locs ls hH hS hl)) (fun hc => (kf hc p e s m args below meth c C H locs ls hH hS hl))
theorem wp_if_gt_t {tgt : Nat} {off : Int} {x : Int32} (hd : decode M.2.1 pc = .ok (.ifCond .gt off, 3)) (ht : (pc : Int) + off = (tgt : Int)) (hc : 0 < x) (kt : Wp D N l E M R Qf k n tgt L st g) : Wp D N l E M R Qf k n pc L (.int x :: st) g :=
  wp_if_gt hd ht rfl (fun _ => kt) (fun h => absurd hc h)
theorem wp_if_gt_f {q : Nat} {off : Int} {tgt : Nat} {x : Int32} (hd : decode M.2.1 pc = .ok (.ifCond .gt off, 3)) (ht : (pc : Int) + off = (tgt : Int)) (hq : pc + 3 = q) (hc : ¬ 0 < x) (kf : Wp D N l E M R Qf k n q L st g) : Wp D N l E M R Qf k n pc L (.int x :: st) g :=
  wp_if_gt hd ht hq (fun h => absurd h hc) (fun _ => kf)
theorem wp_icmp_gt {q tgt : Nat} {off : Int} {x y : Int32} (hd : decode M.2.1 pc = .ok (.if_icmp .gt off, 3)) (ht : (pc : Int) + off = (tgt : Int)) (hq : pc + 3 = q) (kt : y < x → Wp D N l E M R Qf k n tgt L st g) (kf : ¬ y < x → Wp D N l E M R Qf k n q L st g) : Wp D N l E M R Qf k n pc L (.int y :: .int x :: st) g := by
  subst hq
  intro p e s m args below meth c C H locs ls hH hS hl
  exact lv_icmp_gt C.1 C.2.1 hd ht (fun hc => (kt hc p e s m args below meth c C H locs ls hH hS hl)) (fun hc => (kf hc p e s m args below meth c C H locs ls hH hS hl))
theorem wp_icmp_gt_t {tgt : Nat} {off : Int} {x y : Int32} (hd : decode M.2.1 pc = .ok (.if_icmp .gt off, 3)) (ht : (pc : Int) + off = (tgt : Int)) (hc : y < x) (kt : Wp D N l E M R Qf k n tgt L st g) : Wp D N l E M R Qf k n pc L (.int y :: .int x :: st) g :=
  wp_icmp_gt hd ht rfl (fun _ => kt) (fun h => absurd hc h)
theorem wp_icmp_gt_f {q : Nat} {off : Int} {tgt : Nat} {x y : Int32} (hd : decode M.2.1 pc = .ok (.if_icmp .gt off, 3)) (ht : (pc : Int) + off = (tgt : Int)) (hq : pc + 3 = q) (hc : ¬ y < x) (kf : Wp D N l E M R Qf k n q L st g) : Wp D N l E M R Qf k n pc L (.int y :: .int x :: st) g :=
  wp_icmp_gt hd ht hq (fun h => absurd h hc) (fun _ => kf)
theorem wp_if_le {q tgt : Nat} {off : Int} {x : Int32} (hd : decode M.2.1 pc = .ok (.ifCond .le off, 3)) (ht : (pc : Int) + off = (tgt : Int)) (hq : pc + 3 = q) (kt : x ≤ 0 → Wp D N l E M R Qf k n tgt L st g) (kf : ¬ x ≤ 0 → Wp D N l E M R Qf k n q L st g) : Wp D N l E M R Qf k n pc L (.int x :: st) g := by
  subst hq
  intro p e s m args below meth c C H locs ls hH hS hl
  exact lv_if_le C.1 C.2.1 hd ht (fun hc => (kt hc p e s m args below meth c C H locs ls hH hS hl)) (fun hc => (kf hc p e s m args below meth c C H locs ls hH hS hl))
theorem wp_if_le_t {tgt : Nat} {off : Int} {x : Int32} (hd : decode M.2.1 pc = .ok (.ifCond .le off, 3)) (ht : (pc : Int) + off = (tgt : Int)) (hc : x ≤ 0) (kt : Wp D N l E M R Qf k n tgt L st g) : Wp D N l E M R Qf k n pc L (.int x :: st) g :=
  wp_if_le hd ht rfl (fun _ => kt) (fun h => absurd hc h)
theorem wp_if_le_f {q : Nat} {off : Int} {tgt : Nat} {x : Int32} (hd : decode M.2.1 pc = .ok (.ifCond .le off, 3)) (ht : (pc : Int) + off = (tgt : Int)) (hq : pc + 3 = q) (hc : ¬ x ≤ 0) (kf : Wp D N l E M R Qf k n q L st g) : Wp D N l E M R Qf k n pc L (.int x :: st) g :=
  wp_if_le hd ht hq (fun h => absurd h hc) (fun _ => kf)
theorem wp_icmp_le {q tgt : Nat} {off : Int} {x y : Int32} (hd : decode M.2.1 pc = .ok (.if_icmp .le off, 3)) (ht : (pc : Int) + off = (tgt : Int)) (hq : pc + 3 = q) (kt : x ≤ y → Wp D N l E M R Qf k n tgt L st g) (kf : ¬ x ≤ y → Wp D N l E M R Qf k n q L st g) : Wp D N l E M R Qf k n pc L (.int y :: .int x :: st) g := by
  subst hq
  intro p e s m args below meth c C H locs ls hH hS hl
  exact lv_icmp_le C.1 C.2.1 hd ht (fun hc => (kt hc p e s m args below meth c C H locs ls hH hS hl)) (fun hc => (kf hc p e s m args below meth c C H locs ls hH hS hl))
theorem wp_icmp_le_t {tgt : Nat} {off : Int} {x y : Int32} (hd : decode M.2.1 pc = .ok (.if_icmp .le off, 3)) (ht : (pc : Int) + off = (tgt : Int)) (hc : x ≤ y) (kt : Wp D N l E M R Qf k n tgt L st g) : Wp D N l E M R Qf k n pc L (.int y :: .int x :: st) g :=
  wp_icmp_le hd ht rfl (fun _ => kt) (fun h => absurd hc h)
theorem wp_icmp_le_f {q : Nat} {off : Int} {tgt : Nat} {x y : Int32} (hd : decode M.2.1 pc = .ok (.if_icmp .le off, 3)) (ht : (pc : Int) + off = (tgt : Int)) (hq : pc + 3 = q) (hc : ¬ x ≤ y) (kf : Wp D N l E M R Qf k n q L st g) : Wp D N l E M R Qf k n pc L (.int y :: .int x :: st) g :=
  wp_icmp_le hd ht hq (fun h => absurd h hc) (fun _ => kf)
theorem wp_goto {tgt : Nat} {off : Int} (hd : decode M.2.1 pc = .ok (.goto off, 3)) (ht : (pc : Int) + off = (tgt : Int)) (h : Wp D N l E M R Qf k n tgt L st g) : Wp D N l E M R Qf k n pc L st g := by
  intro p e s m args below meth c C H locs ls hH hS hl
  exact lv_goto C.1 C.2.1 hd ht (h p e s m args below meth c C H locs ls hH hS hl)
theorem wp_tabIn {tgt : Nat} {dflt lo hi off : Int} {offs : Array Int} {len : Nat} {x : Int32} (hd : decode M.2.1 pc = .ok (.tableswitch dflt lo hi offs, len)) (h1 : ¬ x.toInt < lo) (h2 : ¬ hi < x.toInt) (ho : offs[(x.toInt - lo).toNat]? = some off) (ht : (pc : Int) + off = (tgt : Int)) (h : Wp D N l E M R Qf k n tgt L st g) : Wp D N l E M R Qf k n pc L (.int x :: st) g := by
  intro p e s m args below meth c C H locs ls hH hS hl
  exact lv_tableIn C.1 C.2.1 hd h1 h2 ho ht (h p e s m args below meth c C H locs ls hH hS hl)
theorem wp_tabOut {tgt : Nat} {dflt lo hi : Int} {offs : Array Int} {len : Nat} {x : Int32} (hd : decode M.2.1 pc = .ok (.tableswitch dflt lo hi offs, len)) (h1 : x.toInt < lo ∨ hi < x.toInt) (ht : (pc : Int) + dflt = (tgt : Int)) (h : Wp D N l E M R Qf k n tgt L st g) : Wp D N l E M R Qf k n pc L (.int x :: st) g := by
  intro p e s m args below meth c C H locs ls hH hS hl
  exact lv_tableOut C.1 C.2.1 hd h1 ht (h p e s m args below meth c C H locs ls hH hS hl)
theorem wp_ifnull {q : Nat} {off : Int} {x : Nat} (hd : decode M.2.1 pc = .ok (.ifnull off, 3)) (hq : pc + 3 = q) (h : Wp D N l E M R Qf k n q L st g) : Wp D N l E M R Qf k n pc L (.ref x :: st) g := by
  subst hq
  intro p e s m args below meth c C H locs ls hH hS hl
  exact lv_ifnull C.1 C.2.1 hd (h p e s m args below meth c C H locs ls hH hS hl)
theorem wp_ifnonnull {tgt : Nat} {off : Int} {x : Nat} (hd : decode M.2.1 pc = .ok (.ifnonnull off, 3)) (ht : (pc : Int) + off = (tgt : Int)) (h : Wp D N l E M R Qf k n tgt L st g) : Wp D N l E M R Qf k n pc L (.ref x :: st) g := by
  intro p e s m args below meth c C H locs ls hH hS hl
  exact lv_ifnonnull C.1 C.2.1 hd ht (h p e s m args below meth c C H locs ls hH hS hl)
theorem wp_iret {mc ms : Nat} {K : Option Value → List va_E → Prop} {v : Int32} (hd : decode M.2.1 pc = .ok (.ireturn, 1)) (hr : M.2.2.2 = some .int) (hk : k ≤ mc) (hn : n ≤ ms) (h : K (some (.int v)) g) : Wp D N l E M R (Qm D N K mc ms) k n pc L [.int v] g := by
  intro p e s m args below meth c C H locs ls hH hS hl
  refine W.widen hk hn ?_
  exact W.iret C.1 C.2.1 (C.2.2.2.2.2.2.2.1.trans hr) (fun t ht hW => ⟨⟨_, g, rfl, h, by rw [ht]; exact hH⟩, hS.F ht⟩) hS.2.2 hd C.2.2.2.2.2.2.1
theorem wp_zret {mc ms : Nat} {K : Option Value → List va_E → Prop} {v : Int32} {ty : FieldType} (hd : decode M.2.1 pc = .ok (.ireturn, 1)) (hr : M.2.2.2 = some ty) (hv : narrow ty (.int v) = .int v) (hk : k ≤ mc) (hn : n ≤ ms) (h : K (some (.int v)) g) : Wp D N l E M R (Qm D N K mc ms) k n pc L [.int v] g := by
  intro p e s m args below meth c C H locs ls hH hS hl
  refine W.widen hk hn ?_
  exact W.zret C.1 C.2.1 (C.2.2.2.2.2.2.2.1.trans hr) hv (fun t ht hW => ⟨⟨_, g, rfl, h, by rw [ht]; exact hH⟩, hS.F ht⟩) hS.2.2 hd C.2.2.2.2.2.2.1
theorem wp_lret {mc ms : Nat} {K : Option Value → List va_E → Prop} {v : Int64} (hd : decode M.2.1 pc = .ok (.lreturn, 1)) (hr : M.2.2.2 = some .long) (hk : k ≤ mc) (hn : n ≤ ms) (h : K (some (.long v)) g) : Wp D N l E M R (Qm D N K mc ms) k n pc L [.long v] g := by
  intro p e s m args below meth c C H locs ls hH hS hl
  refine W.widen hk hn ?_
  exact W.lret C.1 C.2.1 (C.2.2.2.2.2.2.2.1.trans hr) (fun t ht hW => ⟨⟨_, g, rfl, h, by rw [ht]; exact hH⟩, hS.F ht⟩) hS.2.2 hd C.2.2.2.2.2.2.1
theorem wp_vret {mc ms : Nat} {K : Option Value → List va_E → Prop}  (hd : decode M.2.1 pc = .ok (.return_, 1)) (hr : M.2.2.2 = none) (hk : k ≤ mc) (hn : n ≤ ms) (h : K none g) : Wp D N l E M R (Qm D N K mc ms) k n pc L [] g := by
  intro p e s m args below meth c C H locs ls hH hS hl
  refine W.widen hk hn ?_
  exact W.vret C.1 C.2.1 (C.2.2.2.2.2.2.2.1.trans hr) (fun t ht hW => ⟨⟨_, g, rfl, h, by rw [ht]; exact hH⟩, hS.F ht⟩) hS.2.2 hd C.2.2.2.2.2.2.1
theorem wp_aret {mc ms : Nat} {K : Option Value → List va_E → Prop} {v : Value} {ty : FieldType} (hd : decode M.2.1 pc = .ok (.areturn, 1)) (hr : M.2.2.2 = some ty) (hty : (∃ n, ty = .object n) ∨ ∃ t, ty = .array t) (hv : v = .null ∨ ∃ a, v = .ref a) (hk : k ≤ mc) (hn : n ≤ ms) (h : K (some v) g) : Wp D N l E M R (Qm D N K mc ms) k n pc L [v] g := by
  intro p e s m args below meth c C H locs ls hH hS hl
  refine W.widen hk hn ?_
  exact W.aret C.1 C.2.1 (C.2.2.2.2.2.2.2.1.trans hr) hty hv (fun t ht hW => ⟨⟨_, g, rfl, h, by rw [ht]; exact hH⟩, hS.F ht⟩) hS.2.2 hd C.2.2.2.2.2.2.1
end WP
end
section
def FL (own : String) (idx ci kf : Nat) (ty : FieldType) (fin : Bool) : Prop := ∃ (C : String) (T : u_T) (n : Nat) (ty0 : Nat → FieldType), classes[ci]? = some (C, T, n) ∧ kf < n ∧ Cond.fieldLink own idx (T kf).1 (T kf).2.1 (T kf).2.2.1 ∈ lw_good ∧ (∀ w ∈ u_ws C T n, w ∈ lw_good) ∧ (∀ k, k < n → parseFieldDescriptor (T k).2.2.1 = some (ty0 k)) ∧ (∀ a, a < n → ∀ b, b < n → a ≠ b → (T a).2.1 ≠ (T b).2.1) ∧ parseFieldDescriptor (T kf).2.2.1 = some ty ∧ (T kf).2.2.2 = fin ∧ (T kf).1 = C
section WH
variable {D : xD} {N : Nat} {l : Launch} {E : EX} {M : MD} {R : Room} {Qf : QF} {k n pc : Nat} {L : List (Nat × Value)} {st : List Value} {g : List va_E}
theorem wp_get {q i ci kf idx : Nat} {ty : FieldType} {fin : Bool} {fs : List Value} {v : Value} (hF : FL M.1.cls idx ci kf ty fin) (hd : decode M.2.1 pc = .ok (.getfield idx, 3)) (hq : pc + 3 = q) (hr : g[i]? = some (.inr (ci, fs))) (hv : fs[kf]? = some v) (h : Wp D N l E M R Qf k n q L (v :: st) g) : Wp D N l E M R Qf k n pc L (.ref (N + i) :: st) g := by
  subst hq
  intro p e s m args below meth c C H locs ls hH hS hl
  obtain ⟨Cn, T, nf, ty0, hc, hk, hlk, hin, hty, hnm, -⟩ := hF
  exact va_get (ws := [(N + i, .inr (ci, fs))]) C.1 C.2.1 C.2.2.2.2.1 hin C.2.2.2.1 C.2.2.2.2.2.1.1 (hH.one hr) 0 rfl hc kf hk (C.2.2.2.2.1 _ hlk) (fun _ h => h) hv hd (h p e s m args below meth c C H locs ls hH hS hl)
theorem wp_put {q i ci kf idx : Nat} {ty : FieldType} {fs : List Value} {v : Value} {g2 : List va_E} (hF : FL M.1.cls idx ci kf ty false) (hd : decode M.2.1 pc = .ok (.putfield idx, 3)) (hq : pc + 3 = q) (hr : g[i]? = some (.inr (ci, fs))) (hlt : kf < fs.length) (hn : narrow ty v = v) (hfit : fits ty v = true) (hg : g.set i (.inr (ci, fs.set kf v)) = g2) (h : Wp D N l E M R Qf k n q L st g2) : Wp D N l E M R Qf k n pc L (v :: .ref (N + i) :: st) g := by
  subst hq
  subst hg
  intro p e s m args below meth c C H locs ls hH hS hl
  obtain ⟨Cn, T, nf, ty0, hc, hk, hlk, hin, hty, hnm, hd1, hfin, -⟩ := hF
  have hK := C.2.2.2.2.2.1.1
  have hts := C.2.2.2.2.1
  have hap := va_apart (own := M.1.cls) hts hin ty0 hty hnm hK hc
  obtain ⟨r, h1, cell, q1, q2, q3, q4⟩ := hH.2 i _ hr
  have hr2 : r = (Cn, T, nf) := Option.some.inj (h1.symm.trans hc)
  subst hr2
  obtain ⟨hS2, hfc, kC, hkC, hkind⟩ := hK.1 ci _ hc
  obtain ⟨cf, kf2, fi, f, hi, hsl⟩ := hS2 kf hk
  have hlay := hts _ (hin _ (u_in_lay hk))
  unfold u_lay at hlay
  rw [if_neg (by rw [hfin]; decide)] at hlay
  have hst := (u_facts hfc hkC (u_lays hts hin hk) hi).1
  have h6 := u_store hfc hkC hkind hlay hi hd1 hn hfit
  refine W.putK C.1 C.2.1 (f := f) ⟨C.2.2.2.1, hts _ hlk, ⟨_, _, _, hi⟩, hst⟩ (by rw [q2]; exact h6) q1 q3 (by rw [hsl]; exact k2_hasslot (q4 kf hk)) rfl rfl hd fun H1 e1 e2 e3 => ?_
  rw [hsl] at e1 ⊢
  exact h p e s m args below meth c C H1 _ ls (hH.set hr ⟨_, hc, t_OB.to (V := updV (vp_V fs) kf v) ⟨_, e1, q2, q3, t_set q4 hap hk v⟩ (fun j _ => vp_updV_set hlt v j)⟩ e2 e3) (hS.put e2 e3 (Nat.le_add_right N i)) hl
theorem wp_putF {q i ci kf idx : Nat} {ty : FieldType} {fs : List Value} {v : Value} {g2 : List va_E} (hF : FL M.1.cls idx ci kf ty true) (hE : ∀ s a meth, E s a meth → meth.name = "<init>") (hown : classes[ci]?.map (fun r => r.1) = some M.1.cls) (hd : decode M.2.1 pc = .ok (.putfield idx, 3)) (hq : pc + 3 = q) (hr : g[i]? = some (.inr (ci, fs))) (hlt : kf < fs.length) (hn : narrow ty v = v) (hfit : fits ty v = true) (hg : g.set i (.inr (ci, fs.set kf v)) = g2) (h : Wp D N l E M R Qf k n q L st g2) : Wp D N l E M R Qf k n pc L (v :: .ref (N + i) :: st) g := by
  subst hq
  subst hg
  intro p e s m args below meth c C H locs ls hH hS hl
  obtain ⟨Cn, T, nf, ty0, hc, hk, hlk, hin, hty, hnm, hd1, hfin, hdc⟩ := hF
  have hK := C.2.2.2.2.2.1.1
  have hts := C.2.2.2.2.1
  have hap := va_apart (own := M.1.cls) hts hin ty0 hty hnm hK hc
  obtain ⟨r, h1, cell, q1, q2, q3, q4⟩ := hH.2 i _ hr
  have hr2 : r = (Cn, T, nf) := Option.some.inj (h1.symm.trans hc)
  subst hr2
  have hdecl : (T kf).1 = M.1.cls := by
    rw [hdc]
    rw [hc] at hown
    exact Option.some.inj hown
  obtain ⟨hS2, hfc, kC, hkC, hkind⟩ := hK.1 ci _ hc
  obtain ⟨cf, kf2, fi, f, hi, hsl⟩ := hS2 kf hk
  have hlay := hts _ (hin _ (u_in_lay hk))
  unfold u_lay at hlay
  rw [if_pos hfin] at hlay
  have hst := (u_facts hfc hkC (u_lays hts hin hk) hi).1
  have hcf : m.cls = cf := by
    obtain ⟨_, _, c', _, _, _, -, -, hf', -, -, -, hown2, -⟩ := Cond.laysFinal_spec hlay
    have e1 : c' = cf := by have := hi.symm.trans hf'; simp at this; exact this.1.symm
    rw [hdecl] at hown2
    rw [← e1]; exact Option.some.inj (C.2.2.2.1.symm.trans hown2)
  have h6 := u_fits hfc hkC hkind (Or.inr hlay) hi hd1 hn hfit
  refine W.putFinK C.1 C.2.1 C.2.2.2.1 (hts _ hlk) hi hst hcf (hE _ _ _ C.2.2.2.2.2.2.2.2.2) (by rw [q2]; exact h6) q1 q3 (by rw [hsl]; exact k2_hasslot (q4 kf hk)) rfl rfl hd fun H1 e1 e2 e3 => ?_
  rw [hsl] at e1 ⊢
  exact h p e s m args below meth c C H1 _ ls (hH.set hr ⟨_, hc, t_OB.to (V := updV (vp_V fs) kf v) ⟨_, e1, q2, q3, t_set q4 hap hk v⟩ (fun j _ => vp_updV_set hlt v j)⟩ e2 e3) (hS.put e2 e3 (Nat.le_add_right N i)) hl
theorem nI_vp {j m : Nat} (hj : j < m) (hm : m < 2147483648) : vp_in (nI j) m := vp_in_nI hj hm
theorem nI_cl {j m : Nat} (hj : j < m) (hm : m < 2147483648) : (nI j).toNatClampNeg = j := nI_clamp (by omega)
theorem wp_iald {q i j m' : Nat} {f : Nat → Int32} (hd : decode M.2.1 pc = .ok (.iaload, 1)) (hq : pc + 1 = q) (hr : g[i]? = some (.inl (D.2.1 0, m', .inl f))) (hj : j < m') (hm : m' < 2147483648) (h : Wp D N l E M R Qf k n q L (.int (f j) :: st) g) : Wp D N l E M R Qf k n pc L (.int (nI j) :: .ref (N + i) :: st) g := by
  subst hq
  intro p e s m args below meth c C H locs ls hH hS hl
  refine va_iald (ws := [(N + i, .inl (D.2.1 0, m', .inl f))]) C.1 C.2.1 C.2.2.2.2.2.1.1 (hH.one hr) 0 0 rfl rfl (nI_vp hj hm) hd ?_
  rw [nI_cl hj hm]
  exact (h p e s m args below meth c C H locs ls hH hS hl)
theorem wp_bald {q i j m' : Nat} {f : Nat → Int32} (hd : decode M.2.1 pc = .ok (.baload, 1)) (hq : pc + 1 = q) (hr : g[i]? = some (.inl (D.2.1 1, m', .inl f))) (hj : j < m') (hm : m' < 2147483648) (h : Wp D N l E M R Qf k n q L (.int (f j) :: st) g) : Wp D N l E M R Qf k n pc L (.int (nI j) :: .ref (N + i) :: st) g := by
  subst hq
  intro p e s m args below meth c C H locs ls hH hS hl
  refine va_bald (ws := [(N + i, .inl (D.2.1 1, m', .inl f))]) C.1 C.2.1 C.2.2.2.2.2.1.1 (hH.one hr) 0 1 rfl rfl (nI_vp hj hm) hd ?_
  rw [nI_cl hj hm]
  exact (h p e s m args below meth c C H locs ls hH hS hl)
theorem wp_zald {q i j m' : Nat} {f : Nat → Int32} (hd : decode M.2.1 pc = .ok (.baload, 1)) (hq : pc + 1 = q) (hr : g[i]? = some (.inl (D.2.1 3, m', .inl f))) (hj : j < m') (hm : m' < 2147483648) (h : Wp D N l E M R Qf k n q L (.int (f j) :: st) g) : Wp D N l E M R Qf k n pc L (.int (nI j) :: .ref (N + i) :: st) g := by
  subst hq
  intro p e s m args below meth c C H locs ls hH hS hl
  refine va_zald (ws := [(N + i, .inl (D.2.1 3, m', .inl f))]) C.1 C.2.1 C.2.2.2.2.2.1.1 (hH.one hr) 0 3 rfl rfl (nI_vp hj hm) hd ?_
  rw [nI_cl hj hm]
  exact (h p e s m args below meth c C H locs ls hH hS hl)
theorem wp_lald {q i j m' : Nat} {f : Nat → Int64} (hd : decode M.2.1 pc = .ok (.laload, 1)) (hq : pc + 1 = q) (hr : g[i]? = some (.inl (D.2.1 2, m', .inr (.inl f)))) (hj : j < m') (hm : m' < 2147483648) (h : Wp D N l E M R Qf k n q L (.long (f j) :: st) g) : Wp D N l E M R Qf k n pc L (.int (nI j) :: .ref (N + i) :: st) g := by
  subst hq
  intro p e s m args below meth c C H locs ls hH hS hl
  refine va_lald (ws := [(N + i, .inl (D.2.1 2, m', .inr (.inl f)))]) C.1 C.2.1 C.2.2.2.2.2.1.1 (hH.one hr) 0 2 rfl rfl (nI_vp hj hm) hd ?_
  rw [nI_cl hj hm]
  exact (h p e s m args below meth c C H locs ls hH hS hl)
theorem wp_aaldR {q i j m' : Nat} {f : Nat → Option Nat} (hd : decode M.2.1 pc = .ok (.aaload, 1)) (hq : pc + 1 = q) (hr : g[i]? = some (.inl (D.2.1 4, m', .inr (.inr (.inr (.inr f)))))) (hj : j < m') (hm : m' < 2147483648) (h : Wp D N l E M R Qf k n q L (va_rf (f j) :: st) g) : Wp D N l E M R Qf k n pc L (.int (nI j) :: .ref (N + i) :: st) g := by
  subst hq
  intro p e s m args below meth c C H locs ls hH hS hl
  have hin := nI_vp hj hm
  refine W.aald (v := va_rf (f j)) (ty := .object "FillAndGo$Ride") C.1 C.2.1 (hH.2 i _ hr) ((C.2.2.2.2.2.1.1.2 4 _ rfl).1 m' (fun j => va_rf (f j))) rfl (fun q => by cases q) (by show ¬ (nI j < 0 ∨ (arrV _ _ _).slots.size ≤ _); rw [arrV_size]; exact hin) (by show (arrV _ _ _).slots[_]? = _; rw [nI_cl hj hm, arrV_read _ _ hj]) rfl rfl hd (h p e s m args below meth c C H locs ls hH hS hl)
theorem wp_aaldL {q i j m' : Nat} {f : Nat → Option Nat} (hd : decode M.2.1 pc = .ok (.aaload, 1)) (hq : pc + 1 = q) (hr : g[i]? = some (.inl (D.2.1 5, m', .inr (.inr (.inr (.inr f)))))) (hj : j < m') (hm : m' < 2147483648) (h : Wp D N l E M R Qf k n q L (va_rf (f j) :: st) g) : Wp D N l E M R Qf k n pc L (.int (nI j) :: .ref (N + i) :: st) g := by
  subst hq
  intro p e s m args below meth c C H locs ls hH hS hl
  have hin := nI_vp hj hm
  refine W.aald (v := va_rf (f j)) (ty := .object "FillAndGo$Line") C.1 C.2.1 (hH.2 i _ hr) ((C.2.2.2.2.2.1.1.2 5 _ rfl).1 m' (fun j => va_rf (f j))) rfl (fun q => by cases q) (by show ¬ (nI j < 0 ∨ (arrV _ _ _).slots.size ≤ _); rw [arrV_size]; exact hin) (by show (arrV _ _ _).slots[_]? = _; rw [nI_cl hj hm, arrV_read _ _ hj]) rfl rfl hd (h p e s m args below meth c C H locs ls hH hS hl)
theorem wp_aaldK {q i j m' : Nat} {f : Nat → Option Nat} (hd : decode M.2.1 pc = .ok (.aaload, 1)) (hq : pc + 1 = q) (hr : g[i]? = some (.inl (D.2.1 6, m', .inr (.inr (.inr (.inr f)))))) (hj : j < m') (hm : m' < 2147483648) (h : Wp D N l E M R Qf k n q L (va_rf (f j) :: st) g) : Wp D N l E M R Qf k n pc L (.int (nI j) :: .ref (N + i) :: st) g := by
  subst hq
  intro p e s m args below meth c C H locs ls hH hS hl
  have hin := nI_vp hj hm
  refine W.aald (v := va_rf (f j)) (ty := .object "FillAndGo$Run") C.1 C.2.1 (hH.2 i _ hr) ((C.2.2.2.2.2.1.1.2 6 _ rfl).1 m' (fun j => va_rf (f j))) rfl (fun q => by cases q) (by show ¬ (nI j < 0 ∨ (arrV _ _ _).slots.size ≤ _); rw [arrV_size]; exact hin) (by show (arrV _ _ _).slots[_]? = _; rw [nI_cl hj hm, arrV_read _ _ hj]) rfl rfl hd (h p e s m args below meth c C H locs ls hH hS hl)
theorem wp_aaldA {q i j m' : Nat} {f : Nat → Option Nat} (hd : decode M.2.1 pc = .ok (.aaload, 1)) (hq : pc + 1 = q) (hr : g[i]? = some (.inl (D.2.1 7, m', .inr (.inr (.inr (.inr f)))))) (hj : j < m') (hm : m' < 2147483648) (h : Wp D N l E M R Qf k n q L (va_rf (f j) :: st) g) : Wp D N l E M R Qf k n pc L (.int (nI j) :: .ref (N + i) :: st) g := by
  subst hq
  intro p e s m args below meth c C H locs ls hH hS hl
  have hin := nI_vp hj hm
  refine W.aald (v := va_rf (f j)) (ty := .array .int) C.1 C.2.1 (hH.2 i _ hr) ((C.2.2.2.2.2.1.1.2 7 _ rfl).1 m' (fun j => va_rf (f j))) rfl (fun q => by cases q) (by show ¬ (nI j < 0 ∨ (arrV _ _ _).slots.size ≤ _); rw [arrV_size]; exact hin) (by show (arrV _ _ _).slots[_]? = _; rw [nI_cl hj hm, arrV_read _ _ hj]) rfl rfl hd (h p e s m args below meth c C H locs ls hH hS hl)
theorem wp_iast {q i j m' : Nat} {f : Nat → Int32} {x : Int32} {g2 : List va_E} (hd : decode M.2.1 pc = .ok (.iastore, 1)) (hq : pc + 1 = q) (hr : g[i]? = some (.inl (D.2.1 0, m', .inl f))) (hj : j < m') (hm : m' < 2147483648) (hg : g.set i (.inl (D.2.1 0, m', .inl (upd f j x))) = g2) (h : Wp D N l E M R Qf k n q L st g2) : Wp D N l E M R Qf k n pc L (.int x :: .int (nI j) :: .ref (N + i) :: st) g := by
  subst hq
  subst hg
  intro p e s m args below meth c C H locs ls hH hS hl
  have hin := nI_vp hj hm
  refine W.iast C.1 C.2.1 (hH.2 i _ hr) ((C.2.2.2.2.2.1.1.2 0 _ rfl).1 m' (fun j => .int (f j))) (fun q => by cases q) (by show ¬ (nI j < 0 ∨ (arrV _ _ _).slots.size ≤ _); rw [arrV_size]; exact hin) rfl rfl hd fun H1 e1 z oq => ?_
  refine h p e s m args below meth c C H1 _ ls (hH.set hr ?_ z oq) (hS.put z oq (Nat.le_add_right N i)) hl
  show H1[N + i]? = some (vp_cell _ _)
  rw [e1]
  rw [vp_cell_i, vp_cell_i, arrV_store, nI_cl hj hm]
  congr 2
  funext q
  by_cases hq : q = j
  · subst hq
    simp [updV, upd]
  · simp [updV, upd, hq]
theorem wp_last {q i j m' : Nat} {f : Nat → Int64} {x : Int64} {g2 : List va_E} (hd : decode M.2.1 pc = .ok (.lastore, 1)) (hq : pc + 1 = q) (hr : g[i]? = some (.inl (D.2.1 2, m', .inr (.inl f)))) (hj : j < m') (hm : m' < 2147483648) (hg : g.set i (.inl (D.2.1 2, m', .inr (.inl (vp_updL f j x)))) = g2) (h : Wp D N l E M R Qf k n q L st g2) : Wp D N l E M R Qf k n pc L (.long x :: .int (nI j) :: .ref (N + i) :: st) g := by
  subst hq
  subst hg
  intro p e s m args below meth c C H locs ls hH hS hl
  have hin := nI_vp hj hm
  refine W.last C.1 C.2.1 (hH.2 i _ hr) ((C.2.2.2.2.2.1.1.2 2 _ rfl).1 m' (fun j => .long (f j))) (fun q => by cases q) (by show ¬ (nI j < 0 ∨ (arrV _ _ _).slots.size ≤ _); rw [arrV_size]; exact hin) rfl rfl hd fun H1 e1 z oq => ?_
  refine h p e s m args below meth c C H1 _ ls (hH.set hr ?_ z oq) (hS.put z oq (Nat.le_add_right N i)) hl
  show H1[N + i]? = some (vp_cell _ _)
  rw [e1]
  rw [vp_cell_l, vp_cell_l, arrV_store, nI_cl hj hm]
  congr 2
  funext q
  by_cases hq : q = j
  · subst hq
    simp [updV, vp_updL]
  · simp [updV, vp_updL, hq]
theorem wp_bast {q i j m' : Nat} {f : Nat → Int32} {x x2 : Int32} {g2 : List va_E} (hd : decode M.2.1 pc = .ok (.bastore, 1)) (hq : pc + 1 = q) (hr : g[i]? = some (.inl (D.2.1 1, m', .inl f))) (hj : j < m') (hm : m' < 2147483648) (hx : narrow .byte (.int x) = .int x2) (hg : g.set i (.inl (D.2.1 1, m', .inl (upd f j x2))) = g2) (h : Wp D N l E M R Qf k n q L st g2) : Wp D N l E M R Qf k n pc L (.int x :: .int (nI j) :: .ref (N + i) :: st) g := by
  subst hq
  subst hg
  intro p e s m args below meth c C H locs ls hH hS hl
  have hin := nI_vp hj hm
  refine W.bast C.1 C.2.1 (hH.2 i _ hr) ((C.2.2.2.2.2.1.1.2 1 _ rfl).1 m' (fun j => .int (f j))) (fun q => by cases q) (by show ¬ (nI j < 0 ∨ (arrV _ _ _).slots.size ≤ _); rw [arrV_size]; exact hin) rfl rfl hd fun H1 e1 z oq => ?_
  refine h p e s m args below meth c C H1 _ ls (hH.set hr ?_ z oq) (hS.put z oq (Nat.le_add_right N i)) hl
  show H1[N + i]? = some (vp_cell _ _)
  rw [e1, hx]
  rw [vp_cell_i, vp_cell_i, arrV_store, nI_cl hj hm]
  congr 2
  funext q
  by_cases hq : q = j
  · subst hq
    simp [updV, upd]
  · simp [updV, upd, hq]
theorem wp_zast {q i j m' : Nat} {f : Nat → Int32} {x x2 : Int32} {g2 : List va_E} (hd : decode M.2.1 pc = .ok (.bastore, 1)) (hq : pc + 1 = q) (hr : g[i]? = some (.inl (D.2.1 3, m', .inl f))) (hj : j < m') (hm : m' < 2147483648) (hx : narrow .boolean (.int x) = .int x2) (hg : g.set i (.inl (D.2.1 3, m', .inl (upd f j x2))) = g2) (h : Wp D N l E M R Qf k n q L st g2) : Wp D N l E M R Qf k n pc L (.int x :: .int (nI j) :: .ref (N + i) :: st) g := by
  subst hq
  subst hg
  intro p e s m args below meth c C H locs ls hH hS hl
  have hin := nI_vp hj hm
  refine W.zast C.1 C.2.1 (hH.2 i _ hr) ((C.2.2.2.2.2.1.1.2 3 _ rfl).1 m' (fun j => .int (f j))) (fun q => by cases q) (by show ¬ (nI j < 0 ∨ (arrV _ _ _).slots.size ≤ _); rw [arrV_size]; exact hin) rfl rfl hd fun H1 e1 z oq => ?_
  refine h p e s m args below meth c C H1 _ ls (hH.set hr ?_ z oq) (hS.put z oq (Nat.le_add_right N i)) hl
  show H1[N + i]? = some (vp_cell _ _)
  rw [e1, hx]
  rw [vp_cell_i, vp_cell_i, arrV_store, nI_cl hj hm]
  congr 2
  funext q
  by_cases hq : q = j
  · subst hq
    simp [updV, upd]
  · simp [updV, upd, hq]
theorem wp_aast (t0 : Nat) {q i j i2 ci m' : Nat} {r : vw_C} {vs : List Value} {f : Nat → Option Nat} {g2 : List va_E} (ht : (x_tys D.2.1)[t0]? = some (D.2.1 t0, .object r.1)) (hd : decode M.2.1 pc = .ok (.aastore, 1)) (hq : pc + 1 = q) (hr : g[i]? = some (.inl (D.2.1 t0, m', .inr (.inr (.inr (.inr f)))))) (hr2 : g[i2]? = some (.inr (ci, vs))) (hc : classes[ci]? = some r) (hj : j < m') (hm : m' < 2147483648) (hg : g.set i (.inl (D.2.1 t0, m', .inr (.inr (.inr (.inr (va_up f j (some (N + i2)))))))) = g2) (h : Wp D N l E M R Qf k n q L st g2) : Wp D N l E M R Qf k n pc L (.ref (N + i2) :: .int (nI j) :: .ref (N + i) :: st) g := by
  subst hq
  subst hg
  intro p e s m args below meth c C H locs ls hH hS hl
  obtain ⟨r', hr', cellV, g1, g2, g3, -⟩ := hH.2 i2 _ hr2
  have hK := C.2.2.2.2.2.1.1
  have hcls := (hK.1 ci r hc).2
  obtain ⟨kA, comp, k1, k2, k3, -⟩ := (hK.2 t0 _ ht).2
  have hcomp : comp = D.1.1 ci := Option.some.inj (k3.symm.trans hcls.1)
  subst hcomp
  obtain ⟨kC, hkC, -⟩ := hcls.2
  refine W.aast C.1 C.2.1 (hH.2 i _ hr) (fun q h => by cases h) (fun h => by cases h) k1 k2 rfl hkC ⟨nI_pos (by omega), by show _ < (arrV _ _ _).slots.size; rw [arrV_size, nI_cl hj hm]; exact hj⟩ g1 (fun q h => by rw [g3] at h; cases h) (by rw [g2]; exact hkC) (by rw [g2]; exact va_assign hcls) rfl rfl hd fun H1 e1 z oq => ?_
  refine h p e s m args below meth c C H1 _ ls (hH.set hr ?_ z oq) (hS.put z oq (Nat.le_add_right N i)) hl
  show H1[N + i]? = some (vp_cell _ _)
  rw [e1]
  rw [vp_cell_q, vp_cell_q, arrV_store, nI_cl hj hm]
  congr 2
  funext q
  by_cases hq : q = j
  · subst hq
    simp [updV, va_up, va_rf]
  · simp [updV, va_up, hq]
theorem wp_aastN (t0 : Nat) {q i j m' : Nat} {Cn : String} {f : Nat → Option Nat} {g2 : List va_E} (ht : (x_tys D.2.1)[t0]? = some (D.2.1 t0, .object Cn)) (hd : decode M.2.1 pc = .ok (.aastore, 1)) (hq : pc + 1 = q) (hr : g[i]? = some (.inl (D.2.1 t0, m', .inr (.inr (.inr (.inr f)))))) (hj : j < m') (hm : m' < 2147483648) (hg : g.set i (.inl (D.2.1 t0, m', .inr (.inr (.inr (.inr (va_up f j none)))))) = g2) (h : Wp D N l E M R Qf k n q L st g2) : Wp D N l E M R Qf k n pc L (.null :: .int (nI j) :: .ref (N + i) :: st) g := by
  subst hq
  subst hg
  intro p e s m args below meth c C H locs ls hH hS hl
  have hin := nI_vp hj hm
  refine va_WaastN (C := Cn) C.1 C.2.1 (hH.2 i _ hr) ((C.2.2.2.2.2.1.1.2 t0 _ ht).1 m' (fun j => va_rf (f j))) (fun h => by cases h) (by show ¬ (nI j < 0 ∨ (arrV _ _ _).slots.size ≤ _); rw [arrV_size]; exact hin) rfl rfl hd fun H1 e1 z oq => ?_
  refine h p e s m args below meth c C H1 _ ls (hH.set hr ?_ z oq) (hS.put z oq (Nat.le_add_right N i)) hl
  show H1[N + i]? = some (vp_cell _ _)
  rw [e1]
  rw [vp_cell_q, vp_cell_q, arrV_store, nI_cl hj hm]
  congr 2
  funext q
  by_cases hq : q = j
  · subst hq
    simp [updV, va_up, va_rf]
  · simp [updV, va_up, hq]
theorem wp_new {q ci idx nf : Nat} {Cn : String} {T : u_T} {fs : List Value} {ty0 : Nat → FieldType} (hc : classes[ci]? = some (Cn, T, nf)) (hin : ∀ w ∈ u_ws Cn T nf, w ∈ lw_good) (hty : ∀ k, k < nf → parseFieldDescriptor (T k).2.2.1 = some (ty0 k)) (hcl : Cond.classLink M.1.cls idx Cn ∈ lw_good) (hins : Cond.instantiable Cn nf ∈ lw_good) (hini : Cond.initialized Cn ∈ lw_good) (hd : decode M.2.1 pc = .ok (.new idx, 3)) (hq : pc + 3 = q) (hfs : ∀ j, j < nf → defaultValue (ty0 j) = vp_V fs j) (hcells : k + 1 ≤ R.cells) (hslots : n + nf ≤ R.slots) (h : Wp D N l E M R Qf (k + 1) (n + nf) q L (.ref (N + g.length) :: st) (g ++ [.inr (ci, fs)])) : Wp D N l E M R Qf k n pc L st g := by
  subst hq
  intro p e s m args below meth c C H locs ls hH hS hl
  have hK := C.2.2.2.2.2.1.1
  have hts := C.2.2.2.2.1
  have hKn := hK.1 ci _ hc
  refine W.newcK C.1 C.2.1 C.2.2.2.1 (hts _ hcl) (hts _ hins) (hts _ hini) rfl hd hcells hslots hKn.2.1 hH.1 fun H1 kC hkC e1 z1 o1 => ?_
  rw [← hH.1] at z1
  have o1 : ∀ q, q < H.size → H1[q]? = H[q]? := fun q hq => o1 q (by rw [← hH.1]; exact hq)
  refine h p e s m args below meth c C H1 locs ls (hH.push ?_ z1 o1) ⟨Nat.le_trans hS.1 (by omega), fun x h1 h2 => (o1 x (Nat.lt_of_lt_of_le h1 hS.1)).trans (hS.2.1 x h1 h2), hS.2.2⟩ hl
  exact ⟨_, hc, (u_born ty0 hts hin hKn hkC e1 hty).to hfs⟩
theorem wp_newa (t0 : Nat) {q N' : Nat} {atype : ArrayType} {ty : FieldType} {a0 : vp_A} {z : Int32} (hz : z = nI N') (hty : newarray.typeOf atype = ty) (ht : (x_tys D.2.1)[t0]? = some (D.2.1 t0, ty)) (hw : Cond.arrayClass ty ∈ lw_good) (hd : decode M.2.1 pc = .ok (.newarray atype, 2)) (hq : pc + 2 = q) (ha : ∀ cA : ClassId, vp_cell cA a0 = arrV cA N' (fun _ => defaultValue ty)) (hb : N' * componentBytes ty ≤ 536870912) (hb2 : N' < 2147483648) (hcells : k + 1 ≤ R.cells) (hslots : n + N' ≤ R.slots) (h : Wp D N l E M R Qf (k + 1) (n + N') q L (.ref (N + g.length) :: st) (g ++ [.inl (D.2.1 t0, a0)])) : Wp D N l E M R Qf k n pc L (.int z :: st) g := by
  subst hq
  subst hz
  subst hty
  intro p e s m args below meth c C H locs ls hH hS hl
  have hK := C.2.2.2.2.2.1.1
  have hts := C.2.2.2.2.1
  refine va_newaK C.1 C.2.1 (hts _ hw) rfl hd rfl (nI_pos hb2) (nI_clamp hb2) hb hcells hslots hH.1 fun H1 cA e1 z1 o1 hAr hNm => ?_
  have hcA : cA = D.2.1 t0 := by
    have h2 := (hK.2 t0 _ ht).2
    have h3 : s.vm.findClass ("[" ++ (newarray.typeOf atype).toString) = some (D.2.1 t0) := by cases atype <;> exact h2
    exact Option.some.inj (hNm.symm.trans h3)
  subst hcA
  rw [← hH.1] at z1
  have o1 : ∀ q, q < H.size → H1[q]? = H[q]? := fun q hq => o1 q (by rw [← hH.1]; exact hq)
  refine h p e s m args below meth c C H1 locs ls (hH.push ?_ z1 o1) ⟨Nat.le_trans hS.1 (by omega), fun x h1 h2 => (o1 x (Nat.lt_of_lt_of_le h1 hS.1)).trans (hS.2.1 x h1 h2), hS.2.2⟩ hl
  show H1[N + g.length]? = some (vp_cell _ _)
  rw [ha]
  exact e1
theorem wp_anew (t0 : Nat) {q idx N' : Nat} {Cn : String} {z : Int32} (hz : z = nI N') (ht : (x_tys D.2.1)[t0]? = some (D.2.1 t0, .object Cn)) (hw : Cond.classLink M.1.cls idx Cn ∈ lw_good) (hw2 : Cond.arrayOver (.object Cn) ∈ lw_good) (hd : decode M.2.1 pc = .ok (.anewarray idx, 3)) (hq : pc + 3 = q) (hb : N' * 4 ≤ 536870912) (hb2 : N' < 2147483648) (hcells : k + 1 ≤ R.cells) (hslots : n + N' ≤ R.slots) (h : Wp D N l E M R Qf (k + 1) (n + N') q L (.ref (N + g.length) :: st) (g ++ [.inl (D.2.1 t0, N', .inr (.inr (.inr (.inr (fun _ => none)))))])) : Wp D N l E M R Qf k n pc L (.int z :: st) g := by
  subst hq
  subst hz
  intro p e s m args below meth c C H locs ls hH hS hl
  have hK := C.2.2.2.2.2.1.1
  have hts := C.2.2.2.2.1
  have hcl : (nI N').toNatClampNeg = N' := nI_clamp hb2
  refine W.anew C.1 C.2.1 C.2.2.2.1 (hts _ hw) (hts _ hw2) rfl hd rfl (nI_pos hb2) (by rw [hcl]; exact hb) hcells (by rw [hcl]; exact hslots) fun cA kA comp f1 f2 f3 f4 => ?_
  have hcA : cA = D.2.1 t0 := by
    obtain ⟨_, _, _, _, _, h3⟩ := (hK.2 t0 _ ht).2
    exact Option.some.inj (f1.symm.trans h3)
  subst hcA
  rw [hcl]
  generalize hH1 : H.push ({ cls := D.2.1 t0, slots := Array.replicate N' .null, vm := .none } : Cell) = H1
  have z1 : H1.size = H.size + 1 := by rw [← hH1, Array.size_push]
  have e1 : H1[H.size]? = some (arrV (D.2.1 t0) N' (fun _ => .null)) := by rw [← hH1, Array.getElem?_push_size, ← arrV_new]
  have o1 : ∀ q : Nat, q < H.size → H1[q]? = H[q]? := fun q hq => by rw [← hH1, Array.getElem?_push, if_neg (Nat.ne_of_lt hq)]
  have hsz := hH.1
  refine W.eq (g2 := F0 m (pc + 3) ls (.ref (N + g.length) :: st)) (by rw [hsz]) ?_
  refine h p e s m args below meth c C H1 locs ls (hH.push ?_ z1 o1) ⟨Nat.le_trans hS.1 (by omega), fun x h1 h2 => (o1 x (Nat.lt_of_lt_of_le h1 hS.1)).trans (hS.2.1 x h1 h2), hS.2.2⟩ hl
  show H1[N + g.length]? = some (vp_cell _ _)
  rw [vp_cell_q, ← hsz]
  exact e1
end WH
end
