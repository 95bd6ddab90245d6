section
-- ===== PART A: goes FIRST, ahead of the names: the tables' words, and 'selects' of the private methods out of them =====
/-- a private method of a class that the tables say can be made, by its rows of tables_1 -/
def lw_okq (q : MethodName × Nat) : Prop := (q.1.cls ≠ "java/lang/invoke/MethodHandle" ∧ q.1.cls ≠ "java/lang/invoke/VarHandle") ∧ Cond.instantiable q.1.cls q.2 ∈ tables_1 ∧ Cond.privateMethod q.1 ∈ tables_1 ∧ Cond.instanceMethod q.1 ∈ tables_1
theorem lw_p0 : lw_okq (⟨"FillAndGo", "isBus", "(I)Z"⟩, 18) := ⟨⟨by decide +kernel, by decide +kernel⟩, List.mem_of_getElem? (i := 22) (by decide +kernel), List.mem_of_getElem? (i := 383) (by decide +kernel), List.mem_of_getElem? (i := 384) (by decide +kernel)⟩
theorem lw_p1 : lw_okq (⟨"FillAndGo$Tape", "parseLine", "()LFillAndGo$Line;"⟩, 5) := ⟨⟨by decide +kernel, by decide +kernel⟩, List.mem_of_getElem? (i := 263) (by decide +kernel), List.mem_of_getElem? (i := 434) (by decide +kernel), List.mem_of_getElem? (i := 435) (by decide +kernel)⟩
theorem lw_p2 : lw_okq (⟨"FillAndGo$Tape", "parseWord", "(Ljava/lang/String;)I"⟩, 5) := ⟨⟨by decide +kernel, by decide +kernel⟩, List.mem_of_getElem? (i := 263) (by decide +kernel), List.mem_of_getElem? (i := 439) (by decide +kernel), List.mem_of_getElem? (i := 440) (by decide +kernel)⟩
theorem lw_p3 : lw_okq (⟨"FillAndGo$Tape", "byteAt", "(I)I"⟩, 5) := ⟨⟨by decide +kernel, by decide +kernel⟩, List.mem_of_getElem? (i := 263) (by decide +kernel), List.mem_of_getElem? (i := 491) (by decide +kernel), List.mem_of_getElem? (i := 492) (by decide +kernel)⟩
theorem lw_p4 : lw_okq (⟨"FillAndGo$Tape", "parseNumber", "()I"⟩, 5) := ⟨⟨by decide +kernel, by decide +kernel⟩, List.mem_of_getElem? (i := 263) (by decide +kernel), List.mem_of_getElem? (i := 498) (by decide +kernel), List.mem_of_getElem? (i := 499) (by decide +kernel)⟩
theorem lw_p5 : lw_okq (⟨"FillAndGo$Tape", "parseTest", "(LFillAndGo$Line;I)Z"⟩, 5) := ⟨⟨by decide +kernel, by decide +kernel⟩, List.mem_of_getElem? (i := 263) (by decide +kernel), List.mem_of_getElem? (i := 532) (by decide +kernel), List.mem_of_getElem? (i := 533) (by decide +kernel)⟩
theorem lw_p6 : lw_okq (⟨"FillAndGo$Town", "comeAndWalk", "(LFillAndGo$World;)V"⟩, 15) := ⟨⟨by decide +kernel, by decide +kernel⟩, List.mem_of_getElem? (i := 30) (by decide +kernel), List.mem_of_getElem? (i := 588) (by decide +kernel), List.mem_of_getElem? (i := 589) (by decide +kernel)⟩
theorem lw_p7 : lw_okq (⟨"FillAndGo$Town", "serve", "(LFillAndGo$World;I)V"⟩, 15) := ⟨⟨by decide +kernel, by decide +kernel⟩, List.mem_of_getElem? (i := 30) (by decide +kernel), List.mem_of_getElem? (i := 592) (by decide +kernel), List.mem_of_getElem? (i := 593) (by decide +kernel)⟩
theorem lw_p8 : lw_okq (⟨"FillAndGo$Town", "callUp", "(LFillAndGo$World;I)I"⟩, 15) := ⟨⟨by decide +kernel, by decide +kernel⟩, List.mem_of_getElem? (i := 30) (by decide +kernel), List.mem_of_getElem? (i := 600) (by decide +kernel), List.mem_of_getElem? (i := 601) (by decide +kernel)⟩
theorem lw_p9 : lw_okq (⟨"FillAndGo$Town", "letIn", "(LFillAndGo$World;I)V"⟩, 15) := ⟨⟨by decide +kernel, by decide +kernel⟩, List.mem_of_getElem? (i := 30) (by decide +kernel), List.mem_of_getElem? (i := 621) (by decide +kernel), List.mem_of_getElem? (i := 622) (by decide +kernel)⟩
theorem lw_p10 : lw_okq (⟨"FillAndGo$Town", "leave", "(LFillAndGo$World;II)V"⟩, 15) := ⟨⟨by decide +kernel, by decide +kernel⟩, List.mem_of_getElem? (i := 30) (by decide +kernel), List.mem_of_getElem? (i := 647) (by decide +kernel), List.mem_of_getElem? (i := 648) (by decide +kernel)⟩
theorem lw_p11 : lw_okq (⟨"FillAndGo$Town", "move", "(LFillAndGo$World;I)V"⟩, 15) := ⟨⟨by decide +kernel, by decide +kernel⟩, List.mem_of_getElem? (i := 30) (by decide +kernel), List.mem_of_getElem? (i := 714) (by decide +kernel), List.mem_of_getElem? (i := 715) (by decide +kernel)⟩
theorem lw_p12 : lw_okq (⟨"FillAndGo$Town", "arrive", "(LFillAndGo$World;I)V"⟩, 15) := ⟨⟨by decide +kernel, by decide +kernel⟩, List.mem_of_getElem? (i := 30) (by decide +kernel), List.mem_of_getElem? (i := 718) (by decide +kernel), List.mem_of_getElem? (i := 719) (by decide +kernel)⟩
theorem lw_p13 : lw_okq (⟨"FillAndGo$Town", "settle", "(LFillAndGo$World;I)V"⟩, 15) := ⟨⟨by decide +kernel, by decide +kernel⟩, List.mem_of_getElem? (i := 30) (by decide +kernel), List.mem_of_getElem? (i := 735) (by decide +kernel), List.mem_of_getElem? (i := 736) (by decide +kernel)⟩
theorem lw_p14 : lw_okq (⟨"FillAndGo", "tellsPlaces", "(I)Z"⟩, 18) := ⟨⟨by decide +kernel, by decide +kernel⟩, List.mem_of_getElem? (i := 22) (by decide +kernel), List.mem_of_getElem? (i := 805) (by decide +kernel), List.mem_of_getElem? (i := 806) (by decide +kernel)⟩
theorem lw_p15 : lw_okq (⟨"FillAndGo", "waitedWith", "([III)J"⟩, 18) := ⟨⟨by decide +kernel, by decide +kernel⟩, List.mem_of_getElem? (i := 22) (by decide +kernel), List.mem_of_getElem? (i := 816) (by decide +kernel), List.mem_of_getElem? (i := 817) (by decide +kernel)⟩
def lw_privs_1 : List (MethodName × Nat) := [(⟨"FillAndGo", "isBus", "(I)Z"⟩, 18), (⟨"FillAndGo$Tape", "parseLine", "()LFillAndGo$Line;"⟩, 5), (⟨"FillAndGo$Tape", "parseWord", "(Ljava/lang/String;)I"⟩, 5), (⟨"FillAndGo$Tape", "byteAt", "(I)I"⟩, 5), (⟨"FillAndGo$Tape", "parseNumber", "()I"⟩, 5), (⟨"FillAndGo$Tape", "parseTest", "(LFillAndGo$Line;I)Z"⟩, 5), (⟨"FillAndGo$Town", "comeAndWalk", "(LFillAndGo$World;)V"⟩, 15), (⟨"FillAndGo$Town", "serve", "(LFillAndGo$World;I)V"⟩, 15), (⟨"FillAndGo$Town", "callUp", "(LFillAndGo$World;I)I"⟩, 15), (⟨"FillAndGo$Town", "letIn", "(LFillAndGo$World;I)V"⟩, 15), (⟨"FillAndGo$Town", "leave", "(LFillAndGo$World;II)V"⟩, 15), (⟨"FillAndGo$Town", "move", "(LFillAndGo$World;I)V"⟩, 15), (⟨"FillAndGo$Town", "arrive", "(LFillAndGo$World;I)V"⟩, 15), (⟨"FillAndGo$Town", "settle", "(LFillAndGo$World;I)V"⟩, 15), (⟨"FillAndGo", "tellsPlaces", "(I)Z"⟩, 18), (⟨"FillAndGo", "waitedWith", "([III)J"⟩, 18)]
theorem lw_r1 : ∀ q ∈ lw_privs_1, lw_okq q := List.forall_mem_cons.mpr ⟨lw_p0, List.forall_mem_cons.mpr ⟨lw_p1, List.forall_mem_cons.mpr ⟨lw_p2, List.forall_mem_cons.mpr ⟨lw_p3, List.forall_mem_cons.mpr ⟨lw_p4, List.forall_mem_cons.mpr ⟨lw_p5, List.forall_mem_cons.mpr ⟨lw_p6, List.forall_mem_cons.mpr ⟨lw_p7, List.forall_mem_cons.mpr ⟨lw_p8, List.forall_mem_cons.mpr ⟨lw_p9, List.forall_mem_cons.mpr ⟨lw_p10, List.forall_mem_cons.mpr ⟨lw_p11, List.forall_mem_cons.mpr ⟨lw_p12, List.forall_mem_cons.mpr ⟨lw_p13, List.forall_mem_cons.mpr ⟨lw_p14, List.forall_mem_cons.mpr ⟨lw_p15, fun _ h => absurd h List.not_mem_nil⟩⟩⟩⟩⟩⟩⟩⟩⟩⟩⟩⟩⟩⟩⟩⟩
theorem lw_p16 : lw_okq (⟨"FillAndGo", "quietGain", "(IIII)I"⟩, 18) := ⟨⟨by decide +kernel, by decide +kernel⟩, List.mem_of_getElem? (i := 22) (by decide +kernel), List.mem_of_getElem? (i := 836) (by decide +kernel), List.mem_of_getElem? (i := 837) (by decide +kernel)⟩
theorem lw_p17 : lw_okq (⟨"FillAndGo", "isQuiet", "(III)Z"⟩, 18) := ⟨⟨by decide +kernel, by decide +kernel⟩, List.mem_of_getElem? (i := 22) (by decide +kernel), List.mem_of_getElem? (i := 843) (by decide +kernel), List.mem_of_getElem? (i := 844) (by decide +kernel)⟩
theorem lw_p18 : lw_okq (⟨"FillAndGo", "isMember", "(I)Z"⟩, 18) := ⟨⟨by decide +kernel, by decide +kernel⟩, List.mem_of_getElem? (i := 22) (by decide +kernel), List.mem_of_getElem? (i := 855) (by decide +kernel), List.mem_of_getElem? (i := 856) (by decide +kernel)⟩
theorem lw_p19 : lw_okq (⟨"FillAndGo", "taker", "()I"⟩, 18) := ⟨⟨by decide +kernel, by decide +kernel⟩, List.mem_of_getElem? (i := 22) (by decide +kernel), List.mem_of_getElem? (i := 863) (by decide +kernel), List.mem_of_getElem? (i := 864) (by decide +kernel)⟩
theorem lw_p20 : lw_okq (⟨"FillAndGo", "holdsAll", "(III)Z"⟩, 18) := ⟨⟨by decide +kernel, by decide +kernel⟩, List.mem_of_getElem? (i := 22) (by decide +kernel), List.mem_of_getElem? (i := 907) (by decide +kernel), List.mem_of_getElem? (i := 908) (by decide +kernel)⟩
theorem lw_p21 : lw_okq (⟨"FillAndGoModel", "isBus", "(I)Z"⟩, 50) := ⟨⟨by decide +kernel, by decide +kernel⟩, List.mem_of_getElem? (i := 945) (by decide +kernel), List.mem_of_getElem? (i := 1145) (by decide +kernel), List.mem_of_getElem? (i := 1146) (by decide +kernel)⟩
theorem lw_p22 : lw_okq (⟨"FillAndGoModel", "queuesAt", "(II)V"⟩, 50) := ⟨⟨by decide +kernel, by decide +kernel⟩, List.mem_of_getElem? (i := 945) (by decide +kernel), List.mem_of_getElem? (i := 1149) (by decide +kernel), List.mem_of_getElem? (i := 1150) (by decide +kernel)⟩
theorem lw_p23 : lw_okq (⟨"FillAndGoModel", "firstAt", "(I)I"⟩, 50) := ⟨⟨by decide +kernel, by decide +kernel⟩, List.mem_of_getElem? (i := 945) (by decide +kernel), List.mem_of_getElem? (i := 1161) (by decide +kernel), List.mem_of_getElem? (i := 1162) (by decide +kernel)⟩
theorem lw_p24 : lw_okq (⟨"FillAndGoModel", "line", "(I)Z"⟩, 50) := ⟨⟨by decide +kernel, by decide +kernel⟩, List.mem_of_getElem? (i := 945) (by decide +kernel), List.mem_of_getElem? (i := 1198) (by decide +kernel), List.mem_of_getElem? (i := 1199) (by decide +kernel)⟩
theorem lw_p25 : lw_okq (⟨"FillAndGoModel", "wordOf", "(II)I"⟩, 50) := ⟨⟨by decide +kernel, by decide +kernel⟩, List.mem_of_getElem? (i := 945) (by decide +kernel), List.mem_of_getElem? (i := 1202) (by decide +kernel), List.mem_of_getElem? (i := 1203) (by decide +kernel)⟩
theorem lw_p26 : lw_okq (⟨"FillAndGoModel", "byteHere", "()I"⟩, 50) := ⟨⟨by decide +kernel, by decide +kernel⟩, List.mem_of_getElem? (i := 945) (by decide +kernel), List.mem_of_getElem? (i := 1206) (by decide +kernel), List.mem_of_getElem? (i := 1207) (by decide +kernel)⟩
theorem lw_p27 : lw_okq (⟨"FillAndGoModel", "number", "()I"⟩, 50) := ⟨⟨by decide +kernel, by decide +kernel⟩, List.mem_of_getElem? (i := 945) (by decide +kernel), List.mem_of_getElem? (i := 1210) (by decide +kernel), List.mem_of_getElem? (i := 1211) (by decide +kernel)⟩
theorem lw_p28 : lw_okq (⟨"FillAndGoModel", "test", "(I)Z"⟩, 50) := ⟨⟨by decide +kernel, by decide +kernel⟩, List.mem_of_getElem? (i := 945) (by decide +kernel), List.mem_of_getElem? (i := 1214) (by decide +kernel), List.mem_of_getElem? (i := 1215) (by decide +kernel)⟩
theorem lw_p29 : lw_okq (⟨"FillAndGoModel", "lawOf", "(II)I"⟩, 50) := ⟨⟨by decide +kernel, by decide +kernel⟩, List.mem_of_getElem? (i := 945) (by decide +kernel), List.mem_of_getElem? (i := 1226) (by decide +kernel), List.mem_of_getElem? (i := 1227) (by decide +kernel)⟩
theorem lw_p30 : lw_okq (⟨"FillAndGoModel", "lineFor", "(II)I"⟩, 50) := ⟨⟨by decide +kernel, by decide +kernel⟩, List.mem_of_getElem? (i := 945) (by decide +kernel), List.mem_of_getElem? (i := 1230) (by decide +kernel), List.mem_of_getElem? (i := 1231) (by decide +kernel)⟩
theorem lw_p31 : lw_okq (⟨"FillAndGoModel", "holds", "(II)Z"⟩, 50) := ⟨⟨by decide +kernel, by decide +kernel⟩, List.mem_of_getElem? (i := 945) (by decide +kernel), List.mem_of_getElem? (i := 1234) (by decide +kernel), List.mem_of_getElem? (i := 1235) (by decide +kernel)⟩
def lw_privs_2 : List (MethodName × Nat) := [(⟨"FillAndGo", "quietGain", "(IIII)I"⟩, 18), (⟨"FillAndGo", "isQuiet", "(III)Z"⟩, 18), (⟨"FillAndGo", "isMember", "(I)Z"⟩, 18), (⟨"FillAndGo", "taker", "()I"⟩, 18), (⟨"FillAndGo", "holdsAll", "(III)Z"⟩, 18), (⟨"FillAndGoModel", "isBus", "(I)Z"⟩, 50), (⟨"FillAndGoModel", "queuesAt", "(II)V"⟩, 50), (⟨"FillAndGoModel", "firstAt", "(I)I"⟩, 50), (⟨"FillAndGoModel", "line", "(I)Z"⟩, 50), (⟨"FillAndGoModel", "wordOf", "(II)I"⟩, 50), (⟨"FillAndGoModel", "byteHere", "()I"⟩, 50), (⟨"FillAndGoModel", "number", "()I"⟩, 50), (⟨"FillAndGoModel", "test", "(I)Z"⟩, 50), (⟨"FillAndGoModel", "lawOf", "(II)I"⟩, 50), (⟨"FillAndGoModel", "lineFor", "(II)I"⟩, 50), (⟨"FillAndGoModel", "holds", "(II)Z"⟩, 50)]
theorem lw_r2 : ∀ q ∈ lw_privs_2, lw_okq q := List.forall_mem_cons.mpr ⟨lw_p16, List.forall_mem_cons.mpr ⟨lw_p17, List.forall_mem_cons.mpr ⟨lw_p18, List.forall_mem_cons.mpr ⟨lw_p19, List.forall_mem_cons.mpr ⟨lw_p20, List.forall_mem_cons.mpr ⟨lw_p21, List.forall_mem_cons.mpr ⟨lw_p22, List.forall_mem_cons.mpr ⟨lw_p23, List.forall_mem_cons.mpr ⟨lw_p24, List.forall_mem_cons.mpr ⟨lw_p25, List.forall_mem_cons.mpr ⟨lw_p26, List.forall_mem_cons.mpr ⟨lw_p27, List.forall_mem_cons.mpr ⟨lw_p28, List.forall_mem_cons.mpr ⟨lw_p29, List.forall_mem_cons.mpr ⟨lw_p30, List.forall_mem_cons.mpr ⟨lw_p31, fun _ h => absurd h List.not_mem_nil⟩⟩⟩⟩⟩⟩⟩⟩⟩⟩⟩⟩⟩⟩⟩⟩
theorem lw_p32 : lw_okq (⟨"FillAndGoModel", "fieldOf", "(II)I"⟩, 50) := ⟨⟨by decide +kernel, by decide +kernel⟩, List.mem_of_getElem? (i := 945) (by decide +kernel), List.mem_of_getElem? (i := 1238) (by decide +kernel), List.mem_of_getElem? (i := 1239) (by decide +kernel)⟩
theorem lw_p33 : lw_okq (⟨"FillAndGoModel", "hour", "()I"⟩, 50) := ⟨⟨by decide +kernel, by decide +kernel⟩, List.mem_of_getElem? (i := 945) (by decide +kernel), List.mem_of_getElem? (i := 1242) (by decide +kernel), List.mem_of_getElem? (i := 1243) (by decide +kernel)⟩
theorem lw_p34 : lw_okq (⟨"FillAndGoModel", "queueAt", "(I)I"⟩, 50) := ⟨⟨by decide +kernel, by decide +kernel⟩, List.mem_of_getElem? (i := 945) (by decide +kernel), List.mem_of_getElem? (i := 1246) (by decide +kernel), List.mem_of_getElem? (i := 1247) (by decide +kernel)⟩
theorem lw_p35 : lw_okq (⟨"FillAndGoModel", "goes", "()V"⟩, 50) := ⟨⟨by decide +kernel, by decide +kernel⟩, List.mem_of_getElem? (i := 945) (by decide +kernel), List.mem_of_getElem? (i := 1258) (by decide +kernel), List.mem_of_getElem? (i := 1259) (by decide +kernel)⟩
theorem lw_p36 : lw_okq (⟨"FillAndGoModel", "come", "()V"⟩, 50) := ⟨⟨by decide +kernel, by decide +kernel⟩, List.mem_of_getElem? (i := 945) (by decide +kernel), List.mem_of_getElem? (i := 1262) (by decide +kernel), List.mem_of_getElem? (i := 1263) (by decide +kernel)⟩
theorem lw_p37 : lw_okq (⟨"FillAndGoModel", "loads", "(I)V"⟩, 50) := ⟨⟨by decide +kernel, by decide +kernel⟩, List.mem_of_getElem? (i := 945) (by decide +kernel), List.mem_of_getElem? (i := 1266) (by decide +kernel), List.mem_of_getElem? (i := 1267) (by decide +kernel)⟩
theorem lw_p38 : lw_okq (⟨"FillAndGoModel", "loadsAt", "(I)I"⟩, 50) := ⟨⟨by decide +kernel, by decide +kernel⟩, List.mem_of_getElem? (i := 945) (by decide +kernel), List.mem_of_getElem? (i := 1270) (by decide +kernel), List.mem_of_getElem? (i := 1271) (by decide +kernel)⟩
theorem lw_p39 : lw_okq (⟨"FillAndGoModel", "aimOf", "(I)I"⟩, 50) := ⟨⟨by decide +kernel, by decide +kernel⟩, List.mem_of_getElem? (i := 945) (by decide +kernel), List.mem_of_getElem? (i := 1274) (by decide +kernel), List.mem_of_getElem? (i := 1275) (by decide +kernel)⟩
theorem lw_p40 : lw_okq (⟨"FillAndGoModel", "wayOf", "(II)I"⟩, 50) := ⟨⟨by decide +kernel, by decide +kernel⟩, List.mem_of_getElem? (i := 945) (by decide +kernel), List.mem_of_getElem? (i := 1278) (by decide +kernel), List.mem_of_getElem? (i := 1279) (by decide +kernel)⟩
theorem lw_p41 : lw_okq (⟨"FillAndGoModel", "goesBus", "(I)V"⟩, 50) := ⟨⟨by decide +kernel, by decide +kernel⟩, List.mem_of_getElem? (i := 945) (by decide +kernel), List.mem_of_getElem? (i := 1282) (by decide +kernel), List.mem_of_getElem? (i := 1283) (by decide +kernel)⟩
theorem lw_p42 : lw_okq (⟨"FillAndGoModel", "sum", "(II)I"⟩, 50) := ⟨⟨by decide +kernel, by decide +kernel⟩, List.mem_of_getElem? (i := 945) (by decide +kernel), List.mem_of_getElem? (i := 1286) (by decide +kernel), List.mem_of_getElem? (i := 1287) (by decide +kernel)⟩
theorem lw_p43 : lw_okq (⟨"FillAndGoModel", "settles", "(I)V"⟩, 50) := ⟨⟨by decide +kernel, by decide +kernel⟩, List.mem_of_getElem? (i := 945) (by decide +kernel), List.mem_of_getElem? (i := 1290) (by decide +kernel), List.mem_of_getElem? (i := 1291) (by decide +kernel)⟩
theorem lw_p44 : lw_okq (⟨"FillAndGoModel", "lays", "(Z)V"⟩, 50) := ⟨⟨by decide +kernel, by decide +kernel⟩, List.mem_of_getElem? (i := 945) (by decide +kernel), List.mem_of_getElem? (i := 1321) (by decide +kernel), List.mem_of_getElem? (i := 1322) (by decide +kernel)⟩
theorem lw_p45 : lw_okq (⟨"FillAndGoModel", "isPlan", "(III)Z"⟩, 50) := ⟨⟨by decide +kernel, by decide +kernel⟩, List.mem_of_getElem? (i := 945) (by decide +kernel), List.mem_of_getElem? (i := 1334) (by decide +kernel), List.mem_of_getElem? (i := 1335) (by decide +kernel)⟩
theorem lw_p46 : lw_okq (⟨"FillAndGoModel", "isQuiet", "(III)Z"⟩, 50) := ⟨⟨by decide +kernel, by decide +kernel⟩, List.mem_of_getElem? (i := 945) (by decide +kernel), List.mem_of_getElem? (i := 1359) (by decide +kernel), List.mem_of_getElem? (i := 1360) (by decide +kernel)⟩
theorem lw_p47 : lw_okq (⟨"FillAndGoModel", "isMember", "(I)Z"⟩, 50) := ⟨⟨by decide +kernel, by decide +kernel⟩, List.mem_of_getElem? (i := 945) (by decide +kernel), List.mem_of_getElem? (i := 1371) (by decide +kernel), List.mem_of_getElem? (i := 1372) (by decide +kernel)⟩
def lw_privs_3 : List (MethodName × Nat) := [(⟨"FillAndGoModel", "fieldOf", "(II)I"⟩, 50), (⟨"FillAndGoModel", "hour", "()I"⟩, 50), (⟨"FillAndGoModel", "queueAt", "(I)I"⟩, 50), (⟨"FillAndGoModel", "goes", "()V"⟩, 50), (⟨"FillAndGoModel", "come", "()V"⟩, 50), (⟨"FillAndGoModel", "loads", "(I)V"⟩, 50), (⟨"FillAndGoModel", "loadsAt", "(I)I"⟩, 50), (⟨"FillAndGoModel", "aimOf", "(I)I"⟩, 50), (⟨"FillAndGoModel", "wayOf", "(II)I"⟩, 50), (⟨"FillAndGoModel", "goesBus", "(I)V"⟩, 50), (⟨"FillAndGoModel", "sum", "(II)I"⟩, 50), (⟨"FillAndGoModel", "settles", "(I)V"⟩, 50), (⟨"FillAndGoModel", "lays", "(Z)V"⟩, 50), (⟨"FillAndGoModel", "isPlan", "(III)Z"⟩, 50), (⟨"FillAndGoModel", "isQuiet", "(III)Z"⟩, 50), (⟨"FillAndGoModel", "isMember", "(I)Z"⟩, 50)]
theorem lw_r3 : ∀ q ∈ lw_privs_3, lw_okq q := List.forall_mem_cons.mpr ⟨lw_p32, List.forall_mem_cons.mpr ⟨lw_p33, List.forall_mem_cons.mpr ⟨lw_p34, List.forall_mem_cons.mpr ⟨lw_p35, List.forall_mem_cons.mpr ⟨lw_p36, List.forall_mem_cons.mpr ⟨lw_p37, List.forall_mem_cons.mpr ⟨lw_p38, List.forall_mem_cons.mpr ⟨lw_p39, List.forall_mem_cons.mpr ⟨lw_p40, List.forall_mem_cons.mpr ⟨lw_p41, List.forall_mem_cons.mpr ⟨lw_p42, List.forall_mem_cons.mpr ⟨lw_p43, List.forall_mem_cons.mpr ⟨lw_p44, List.forall_mem_cons.mpr ⟨lw_p45, List.forall_mem_cons.mpr ⟨lw_p46, List.forall_mem_cons.mpr ⟨lw_p47, fun _ h => absurd h List.not_mem_nil⟩⟩⟩⟩⟩⟩⟩⟩⟩⟩⟩⟩⟩⟩⟩⟩
def lw_privs : List (MethodName × Nat) := lw_privs_1 ++ (lw_privs_2 ++ (lw_privs_3))
def lw_tbl : List Cond := k2_sels lw_privs ++ tables_1
theorem lw_privs_ok : ∀ q ∈ lw_privs, lw_okq q := by
  show ∀ q ∈ lw_privs_1 ++ (lw_privs_2 ++ (lw_privs_3)), lw_okq q
  exact List.forall_mem_append.mpr ⟨lw_r1, List.forall_mem_append.mpr ⟨lw_r2, lw_r3⟩⟩
end
section
def lw_good : List Cond := lw_tbl.filter goodWord
theorem gw (i : Nat) {w : Cond} (h : tables_1[i]? = some w) (hg : goodWord w = true) : w ∈ lw_good := List.mem_filter.mpr ⟨List.mem_append_right _ (List.mem_of_getElem? h), hg⟩
theorem gws (i : Nat) {w : Cond} (h : (k2_sels lw_privs)[i]? = some w) (hg : goodWord w = true) : w ∈ lw_good := List.mem_filter.mpr ⟨List.mem_append_left _ (List.mem_of_getElem? h), hg⟩
theorem gwl {ws : List Cond} (is : List Nat) (h : is.filterMap (fun i => tables_1[i]?) = ws) (hg : ws.all goodWord = true) : ∀ w ∈ ws, w ∈ lw_good := by
  intro w hw
  have h1 := List.all_eq_true.mp hg w hw
  rw [← h] at hw
  obtain ⟨i, -, hi⟩ := List.mem_filterMap.mp hw
  exact gw i hi h1
def RX0 : String := "FillAndGo$EarlyRun"
def TX0 : u_T := fun k => match k with
  | _ => ("", "", "", false)
def tyX0 : Nat → FieldType := fun k => match k with
  | _ => .int
theorem nmX0 : ∀ a, a < 0 → ∀ b, b < 0 → a ≠ b → (TX0 a).2.1 ≠ (TX0 b).2.1 := by decide +kernel
theorem tyX0_ok : ∀ k, k < 0 → parseFieldDescriptor (TX0 k).2.2.1 = some (tyX0 k) := by decide +kernel
def RX1 : String := "FillAndGo$EmptyRun"
def TX1 : u_T := fun k => match k with
  | _ => ("", "", "", false)
def tyX1 : Nat → FieldType := fun k => match k with
  | _ => .int
theorem nmX1 : ∀ a, a < 0 → ∀ b, b < 0 → a ≠ b → (TX1 a).2.1 ≠ (TX1 b).2.1 := by decide +kernel
theorem tyX1_ok : ∀ k, k < 0 → parseFieldDescriptor (TX1 k).2.2.1 = some (tyX1 k) := by decide +kernel
def RX2 : String := "FillAndGo$ExtraRun"
def TX2 : u_T := fun k => match k with
  | _ => ("", "", "", false)
def tyX2 : Nat → FieldType := fun k => match k with
  | _ => .int
theorem nmX2 : ∀ a, a < 0 → ∀ b, b < 0 → a ≠ b → (TX2 a).2.1 ≠ (TX2 b).2.1 := by decide +kernel
theorem tyX2_ok : ∀ k, k < 0 → parseFieldDescriptor (TX2 k).2.2.1 = some (tyX2 k) := by decide +kernel
def RX3 : String := "FillAndGo$HiredRun"
def TX3 : u_T := fun k => match k with
  | _ => ("", "", "", false)
def tyX3 : Nat → FieldType := fun k => match k with
  | _ => .int
theorem nmX3 : ∀ a, a < 0 → ∀ b, b < 0 → a ≠ b → (TX3 a).2.1 ≠ (TX3 b).2.1 := by decide +kernel
theorem tyX3_ok : ∀ k, k < 0 → parseFieldDescriptor (TX3 k).2.2.1 = some (tyX3 k) := by decide +kernel
def RX4 : String := "FillAndGo$Line"
def TX4 : u_T := fun k => match k with
  | 0 => ("FillAndGo$Line", "key", "I", true)
  | 1 => ("FillAndGo$Line", "number", "I", true)
  | 2 => ("FillAndGo$Line", "tests", "I", false)
  | 3 => ("FillAndGo$Line", "facts", "[I", true)
  | 4 => ("FillAndGo$Line", "signs", "[I", true)
  | _ => ("FillAndGo$Line", "bounds", "[I", true)
def tyX4 : Nat → FieldType := fun k => match k with
  | 0 => .int
  | 1 => .int
  | 2 => .int
  | 3 => .array .int
  | 4 => .array .int
  | _ => .array .int
theorem nmX4 : ∀ a, a < 6 → ∀ b, b < 6 → a ≠ b → (TX4 a).2.1 ≠ (TX4 b).2.1 := by decide +kernel
theorem tyX4_ok : ∀ k, k < 6 → parseFieldDescriptor (TX4 k).2.2.1 = some (tyX4 k) := by decide +kernel
def RX5 : String := "FillAndGo$Ride"
def TX5 : u_T := fun k => match k with
  | 0 => ("FillAndGo$Ride", "state", "I", false)
  | 1 => ("FillAndGo$Ride", "stage", "I", false)
  | 2 => ("FillAndGo$Ride", "number", "I", false)
  | 3 => ("FillAndGo$Ride", "aim", "I", false)
  | 4 => ("FillAndGo$Ride", "sold", "I", false)
  | 5 => ("FillAndGo$Ride", "left", "I", false)
  | 6 => ("FillAndGo$Ride", "since", "I", false)
  | 7 => ("FillAndGo$Ride", "kind", "I", false)
  | 8 => ("FillAndGo$Ride", "earned", "I", false)
  | 9 => ("FillAndGo$Ride", "spent", "I", false)
  | 10 => ("FillAndGo$Ride", "kept", "I", false)
  | 11 => ("FillAndGo$Ride", "owes", "I", false)
  | _ => ("FillAndGo$Ride", "runs", "I", false)
def tyX5 : Nat → FieldType := fun k => match k with
  | 0 => .int
  | 1 => .int
  | 2 => .int
  | 3 => .int
  | 4 => .int
  | 5 => .int
  | 6 => .int
  | 7 => .int
  | 8 => .int
  | 9 => .int
  | 10 => .int
  | 11 => .int
  | _ => .int
theorem nmX5 : ∀ a, a < 13 → ∀ b, b < 13 → a ≠ b → (TX5 a).2.1 ≠ (TX5 b).2.1 := by decide +kernel
theorem tyX5_ok : ∀ k, k < 13 → parseFieldDescriptor (TX5 k).2.2.1 = some (tyX5 k) := by decide +kernel
def RX6 : String := "FillAndGo$Run"
def TX6 : u_T := fun k => match k with
  | _ => ("", "", "", false)
def tyX6 : Nat → FieldType := fun k => match k with
  | _ => .int
theorem nmX6 : ∀ a, a < 0 → ∀ b, b < 0 → a ≠ b → (TX6 a).2.1 ≠ (TX6 b).2.1 := by decide +kernel
theorem tyX6_ok : ∀ k, k < 0 → parseFieldDescriptor (TX6 k).2.2.1 = some (tyX6 k) := by decide +kernel
def RX7 : String := "FillAndGo$ShortRun"
def TX7 : u_T := fun k => match k with
  | _ => ("", "", "", false)
def tyX7 : Nat → FieldType := fun k => match k with
  | _ => .int
theorem nmX7 : ∀ a, a < 0 → ∀ b, b < 0 → a ≠ b → (TX7 a).2.1 ≠ (TX7 b).2.1 := by decide +kernel
theorem tyX7_ok : ∀ k, k < 0 → parseFieldDescriptor (TX7 k).2.2.1 = some (tyX7 k) := by decide +kernel
def RX8 : String := "FillAndGo$Tape"
def TX8 : u_T := fun k => match k with
  | 0 => ("FillAndGo$Tape", "bytes", "[B", true)
  | 1 => ("FillAndGo$Tape", "length", "I", false)
  | 2 => ("FillAndGo$Tape", "place", "I", false)
  | 3 => ("FillAndGo$Tape", "draft", "[LFillAndGo$Line;", true)
  | _ => ("FillAndGo$Tape", "drafted", "I", false)
def tyX8 : Nat → FieldType := fun k => match k with
  | 0 => .array .byte
  | 1 => .int
  | 2 => .int
  | 3 => .array (.object "FillAndGo$Line")
  | _ => .int
theorem nmX8 : ∀ a, a < 5 → ∀ b, b < 5 → a ≠ b → (TX8 a).2.1 ≠ (TX8 b).2.1 := by decide +kernel
theorem tyX8_ok : ∀ k, k < 5 → parseFieldDescriptor (TX8 k).2.2.1 = some (tyX8 k) := by decide +kernel
def RX9 : String := "FillAndGo$Town"
def TX9 : u_T := fun k => match k with
  | 0 => ("FillAndGo$Town", "roads", "[I", true)
  | 1 => ("FillAndGo$Town", "rates", "[I", true)
  | 2 => ("FillAndGo$Town", "jams", "[I", true)
  | 3 => ("FillAndGo$Town", "seats", "[I", true)
  | 4 => ("FillAndGo$Town", "owners", "[I", true)
  | 5 => ("FillAndGo$Town", "targets", "[I", true)
  | 6 => ("FillAndGo$Town", "fuels", "[I", true)
  | 7 => ("FillAndGo$Town", "wanted", "[I", true)
  | 8 => ("FillAndGo$Town", "enrolled", "I", false)
  | 9 => ("FillAndGo$Town", "lines", "[LFillAndGo$Line;", true)
  | 10 => ("FillAndGo$Town", "customs", "I", false)
  | 11 => ("FillAndGo$Town", "forced", "[I", true)
  | 12 => ("FillAndGo$Town", "kinds", "[LFillAndGo$Run;", true)
  | 13 => ("FillAndGo$Town", "facts", "[I", true)
  | _ => ("FillAndGo$Town", "sums", "[I", true)
def tyX9 : Nat → FieldType := fun k => match k with
  | 0 => .array .int
  | 1 => .array .int
  | 2 => .array .int
  | 3 => .array .int
  | 4 => .array .int
  | 5 => .array .int
  | 6 => .array .int
  | 7 => .array .int
  | 8 => .int
  | 9 => .array (.object "FillAndGo$Line")
  | 10 => .int
  | 11 => .array .int
  | 12 => .array (.object "FillAndGo$Run")
  | 13 => .array .int
  | _ => .array .int
theorem nmX9 : ∀ a, a < 15 → ∀ b, b < 15 → a ≠ b → (TX9 a).2.1 ≠ (TX9 b).2.1 := by decide +kernel
theorem tyX9_ok : ∀ k, k < 15 → parseFieldDescriptor (TX9 k).2.2.1 = some (tyX9 k) := by decide +kernel
def RX10 : String := "FillAndGo$World"
def TX10 : u_T := fun k => match k with
  | 0 => ("FillAndGo$World", "minute", "I", false)
  | 1 => ("FillAndGo$World", "rain", "I", false)
  | 2 => ("FillAndGo$World", "walked", "I", false)
  | 3 => ("FillAndGo$World", "ridden", "I", false)
  | 4 => ("FillAndGo$World", "waited", "I", false)
  | 5 => ("FillAndGo$World", "crowds", "[I", true)
  | 6 => ("FillAndGo$World", "parts", "[I", true)
  | 7 => ("FillAndGo$World", "numbers", "[I", true)
  | _ => ("FillAndGo$World", "rides", "[LFillAndGo$Ride;", true)
def tyX10 : Nat → FieldType := fun k => match k with
  | 0 => .int
  | 1 => .int
  | 2 => .int
  | 3 => .int
  | 4 => .int
  | 5 => .array .int
  | 6 => .array .int
  | 7 => .array .int
  | _ => .array (.object "FillAndGo$Ride")
theorem nmX10 : ∀ a, a < 9 → ∀ b, b < 9 → a ≠ b → (TX10 a).2.1 ≠ (TX10 b).2.1 := by decide +kernel
theorem tyX10_ok : ∀ k, k < 9 → parseFieldDescriptor (TX10 k).2.2.1 = some (tyX10 k) := by decide +kernel
def RX11 : String := "FillAndGo"
def TX11 : u_T := fun k => match k with
  | 0 => ("FillAndGo", "town", "LFillAndGo$Town;", true)
  | 1 => ("FillAndGo", "now", "LFillAndGo$World;", true)
  | 2 => ("FillAndGo", "ahead", "LFillAndGo$World;", true)
  | 3 => ("FillAndGo", "kept", "LFillAndGo$World;", true)
  | 4 => ("FillAndGo", "hasImage", "Z", false)
  | 5 => ("FillAndGo", "tape", "LFillAndGo$Tape;", true)
  | 6 => ("FillAndGo", "bestSet", "I", false)
  | 7 => ("FillAndGo", "gains", "[[I", true)
  | 8 => ("FillAndGo", "fightCost", "I", false)
  | 9 => ("FillAndGo", "members", "I", false)
  | 10 => ("FillAndGo", "share", "I", false)
  | 11 => ("FillAndGo", "turn", "I", false)
  | 12 => ("FillAndGo", "purses", "[[I", true)
  | 13 => ("FillAndGo", "books", "[[I", true)
  | 14 => ("FillAndGo", "bookCount", "I", false)
  | 15 => ("FillAndGo", "rows", "[[I", true)
  | 16 => ("FillAndGo", "sizes", "[I", true)
  | _ => ("FillAndGo", "sorts", "[I", true)
def tyX11 : Nat → FieldType := fun k => match k with
  | 0 => .object "FillAndGo$Town"
  | 1 => .object "FillAndGo$World"
  | 2 => .object "FillAndGo$World"
  | 3 => .object "FillAndGo$World"
  | 4 => .boolean
  | 5 => .object "FillAndGo$Tape"
  | 6 => .int
  | 7 => .array (.array .int)
  | 8 => .int
  | 9 => .int
  | 10 => .int
  | 11 => .int
  | 12 => .array (.array .int)
  | 13 => .array (.array .int)
  | 14 => .int
  | 15 => .array (.array .int)
  | 16 => .array .int
  | _ => .array .int
theorem nmX11 : ∀ a, a < 18 → ∀ b, b < 18 → a ≠ b → (TX11 a).2.1 ≠ (TX11 b).2.1 := by decide +kernel
theorem tyX11_ok : ∀ k, k < 18 → parseFieldDescriptor (TX11 k).2.2.1 = some (tyX11 k) := by decide +kernel
def RX12 : String := "FillAndGoModel"
def TX12 : u_T := fun k => match k with
  | 0 => ("FillAndGoModel", "p", "[I", true)
  | 1 => ("FillAndGoModel", "kept", "[I", true)
  | 2 => ("FillAndGoModel", "imaged", "[I", true)
  | 3 => ("FillAndGoModel", "hasImage", "Z", false)
  | 4 => ("FillAndGoModel", "roads", "[I", true)
  | 5 => ("FillAndGoModel", "rates", "[I", true)
  | 6 => ("FillAndGoModel", "jams", "[I", true)
  | 7 => ("FillAndGoModel", "buses", "I", false)
  | 8 => ("FillAndGoModel", "seats", "[I", true)
  | 9 => ("FillAndGoModel", "owner", "[I", true)
  | 10 => ("FillAndGoModel", "target", "[I", true)
  | 11 => ("FillAndGoModel", "fuel", "[I", true)
  | 12 => ("FillAndGoModel", "wanted", "[I", true)
  | 13 => ("FillAndGoModel", "customOf", "[I", true)
  | 14 => ("FillAndGoModel", "planSet", "I", false)
  | 15 => ("FillAndGoModel", "gains", "[I", true)
  | 16 => ("FillAndGoModel", "fightCost", "I", false)
  | 17 => ("FillAndGoModel", "members", "I", false)
  | 18 => ("FillAndGoModel", "each", "I", false)
  | 19 => ("FillAndGoModel", "turn", "I", false)
  | 20 => ("FillAndGoModel", "paidIn", "[I", true)
  | 21 => ("FillAndGoModel", "took", "[I", true)
  | 22 => ("FillAndGoModel", "isStopped", "[Z", true)
  | 23 => ("FillAndGoModel", "books", "I", false)
  | 24 => ("FillAndGoModel", "bookOf", "[I", true)
  | 25 => ("FillAndGoModel", "bookDay", "[I", true)
  | 26 => ("FillAndGoModel", "bookIs", "[I", true)
  | 27 => ("FillAndGoModel", "bookTold", "[I", true)
  | 28 => ("FillAndGoModel", "bookAnew", "[I", true)
  | 29 => ("FillAndGoModel", "anewTold", "[I", true)
  | 30 => ("FillAndGoModel", "tape", "[I", true)
  | 31 => ("FillAndGoModel", "taped", "I", false)
  | 32 => ("FillAndGoModel", "customs", "I", false)
  | 33 => ("FillAndGoModel", "lineMany", "[I", true)
  | 34 => ("FillAndGoModel", "lineKey", "[I", true)
  | 35 => ("FillAndGoModel", "lineNumber", "[I", true)
  | 36 => ("FillAndGoModel", "testMany", "[I", true)
  | 37 => ("FillAndGoModel", "testField", "[I", true)
  | 38 => ("FillAndGoModel", "testSign", "[I", true)
  | 39 => ("FillAndGoModel", "testNumber", "[I", true)
  | 40 => ("FillAndGoModel", "sheetSort", "[I", true)
  | 41 => ("FillAndGoModel", "sheetSize", "[I", true)
  | 42 => ("FillAndGoModel", "cells", "[I", true)
  | 43 => ("FillAndGoModel", "words", "[J", true)
  | 44 => ("FillAndGoModel", "sizes", "[I", true)
  | 45 => ("FillAndGoModel", "at", "I", false)
  | 46 => ("FillAndGoModel", "far", "[I", true)
  | 47 => ("FillAndGoModel", "sides0", "[I", true)
  | 48 => ("FillAndGoModel", "bestSides", "[I", true)
  | _ => ("FillAndGoModel", "load", "[I", true)
def tyX12 : Nat → FieldType := fun k => match k with
  | 0 => .array .int
  | 1 => .array .int
  | 2 => .array .int
  | 3 => .boolean
  | 4 => .array .int
  | 5 => .array .int
  | 6 => .array .int
  | 7 => .int
  | 8 => .array .int
  | 9 => .array .int
  | 10 => .array .int
  | 11 => .array .int
  | 12 => .array .int
  | 13 => .array .int
  | 14 => .int
  | 15 => .array .int
  | 16 => .int
  | 17 => .int
  | 18 => .int
  | 19 => .int
  | 20 => .array .int
  | 21 => .array .int
  | 22 => .array .boolean
  | 23 => .int
  | 24 => .array .int
  | 25 => .array .int
  | 26 => .array .int
  | 27 => .array .int
  | 28 => .array .int
  | 29 => .array .int
  | 30 => .array .int
  | 31 => .int
  | 32 => .int
  | 33 => .array .int
  | 34 => .array .int
  | 35 => .array .int
  | 36 => .array .int
  | 37 => .array .int
  | 38 => .array .int
  | 39 => .array .int
  | 40 => .array .int
  | 41 => .array .int
  | 42 => .array .int
  | 43 => .array .long
  | 44 => .array .int
  | 45 => .int
  | 46 => .array .int
  | 47 => .array .int
  | 48 => .array .int
  | _ => .array .int
theorem nmX12 : ∀ a, a < 50 → ∀ b, b < 50 → a ≠ b → (TX12 a).2.1 ≠ (TX12 b).2.1 := by decide +kernel
theorem tyX12_ok : ∀ k, k < 50 → parseFieldDescriptor (TX12 k).2.2.1 = some (tyX12 k) := by decide +kernel
set_option maxRecDepth 20000 in
theorem inX0 : ∀ w ∈ u_ws RX0 TX0 0, w ∈ lw_good := gwl [] (by decide +kernel) (by decide +kernel)
set_option maxRecDepth 20000 in
theorem inX1 : ∀ w ∈ u_ws RX1 TX1 0, w ∈ lw_good := gwl [] (by decide +kernel) (by decide +kernel)
set_option maxRecDepth 20000 in
theorem inX2 : ∀ w ∈ u_ws RX2 TX2 0, w ∈ lw_good := gwl [] (by decide +kernel) (by decide +kernel)
set_option maxRecDepth 20000 in
theorem inX3 : ∀ w ∈ u_ws RX3 TX3 0, w ∈ lw_good := gwl [] (by decide +kernel) (by decide +kernel)
set_option maxRecDepth 20000 in
theorem inX4 : ∀ w ∈ u_ws RX4 TX4 6, w ∈ lw_good := gwl [518, 520, 522, 524, 526, 528] (by decide +kernel) (by decide +kernel)
set_option maxRecDepth 20000 in
theorem inX5 : ∀ w ∈ u_ws RX5 TX5 13, w ∈ lw_good := gwl [192, 194, 196, 198, 200, 202, 204, 206, 208, 210, 212, 214, 216] (by decide +kernel) (by decide +kernel)
set_option maxRecDepth 20000 in
theorem inX6 : ∀ w ∈ u_ws RX6 TX6 0, w ∈ lw_good := gwl [] (by decide +kernel) (by decide +kernel)
set_option maxRecDepth 20000 in
theorem inX7 : ∀ w ∈ u_ws RX7 TX7 0, w ∈ lw_good := gwl [] (by decide +kernel) (by decide +kernel)
set_option maxRecDepth 20000 in
theorem inX8 : ∀ w ∈ u_ws RX8 TX8 5, w ∈ lw_good := gwl [278, 280, 282, 284, 286] (by decide +kernel) (by decide +kernel)
set_option maxRecDepth 20000 in
theorem inX9 : ∀ w ∈ u_ws RX9 TX9 15, w ∈ lw_good := gwl [104, 106, 108, 110, 112, 114, 116, 118, 120, 122, 124, 126, 128, 130, 132] (by decide +kernel) (by decide +kernel)
set_option maxRecDepth 20000 in
theorem inX10 : ∀ w ∈ u_ws RX10 TX10 9, w ∈ lw_good := gwl [243, 245, 247, 249, 251, 253, 255, 257, 259] (by decide +kernel) (by decide +kernel)
set_option maxRecDepth 20000 in
theorem inX11 : ∀ w ∈ u_ws RX11 TX11 18, w ∈ lw_good := gwl [310, 312, 314, 316, 318, 320, 322, 324, 326, 328, 330, 332, 334, 336, 338, 340, 342, 344] (by decide +kernel) (by decide +kernel)
set_option maxRecDepth 20000 in
theorem inX12 : ∀ w ∈ u_ws RX12 TX12 50, w ∈ lw_good := gwl [1011, 1013, 1015, 1017, 1019, 1021, 1023, 1025, 1027, 1029, 1031, 1033, 1035, 1037, 1039, 1041, 1043, 1045, 1047, 1049, 1051, 1053, 1055, 1057, 1059, 1061, 1063, 1065, 1067, 1069, 1071, 1073, 1075, 1077, 1079, 1081, 1083, 1085, 1087, 1089, 1091, 1093, 1095, 1097, 1099, 1101, 1103, 1105, 1107, 1109] (by decide +kernel) (by decide +kernel)
abbrev classes : List vw_C := [(RX0, TX0, 0), (RX1, TX1, 0), (RX2, TX2, 0), (RX3, TX3, 0), (RX4, TX4, 6), (RX5, TX5, 13), (RX6, TX6, 0), (RX7, TX7, 0), (RX8, TX8, 5), (RX9, TX9, 15), (RX10, TX10, 9), (RX11, TX11, 18), (RX12, TX12, 50)]
end
section
abbrev MD : Type := MethodName × ByteArray × Nat × Option FieldType
abbrev xD : Type := va_G × (Nat → ClassId) × (Nat × (Nat → Nat) × (Nat → Nat))
def x_tys (cA : Nat → ClassId) : List (ClassId × FieldType) := [(cA 0, .int), (cA 1, .byte), (cA 2, .long), (cA 3, .boolean), (cA 4, .object "FillAndGo$Ride"), (cA 5, .object "FillAndGo$Line"), (cA 6, .object "FillAndGo$Run"), (cA 7, .array .int)]
def isNest : Cond → Bool
  | .fieldLinkNest _ _ _ _ _ _ => true
  | .methodLinkNest _ _ _ _ => true
  | _ => false
def nestw : List Cond := tables_1.filter isNest
theorem gn (i : Nat) {w : Cond} (h : tables_1[i]? = some w) (hg : isNest w = true) : w ∈ nestw := List.mem_filter.mpr ⟨List.mem_of_getElem? h, hg⟩
def plainI (j : Nat) : Int32 := if j = 0 then nI 100 else if j = 1 then nI 20 else nI 30
def txtLen : List Nat := [13, 47]
def txtB : List (List Int32) := [[103, 111, 32, 102, 97, 114, 101, 32, 107, 101, 101, 112, 32], [119, 97, 105, 116, 101, 100, 32, 115, 111, 108, 100, 32, 114, 97, 105, 110, 32, 104, 111, 117, 114, 32, 113, 117, 101, 117, 101, 32, 115, 116, 97, 103, 101, 32, 111, 119, 110, 101, 114, 32, 101, 97, 114, 110, 101, 100, 32]]
abbrev fr (N : Nat) : Nat → Prop := fun q => N ≤ q
def xSta (D : xD) (N : Nat) (U : State) : Prop :=
  va_Z "FillAndGo" "PLAIN" "[I" (.ref D.2.2.1) (fr N) U U.heap ∧ va_T .int D.2.2.1 3 (fun j => .int (plainI j)) (fr N) U U.heap ∧
  vk_S 2 txtLen txtB D.2.2.2.1 D.2.2.2.2 (fr N) U U.heap ∧ vk_R "FillAndGo$Tape" 39 "go fare keep " (D.2.2.2.1 0) U ∧ vk_R "FillAndGo$Tape" 56 "waited sold rain hour queue stage owner earned " (D.2.2.2.1 1) U ∧
  va_Z "java/lang/String" "COMPACT_STRINGS" "Z" (.int 1) (fr N) U U.heap
def xK (D : xD) (N : Nat) (U : State) : Prop := va_K D.1 classes (x_tys D.2.1) U ∧ (∀ w ∈ nestw, va_Nw w U) ∧ xSta D N U
theorem nest_warm {s U : State} (hW : s.WarmedH U.vm) (h : ∀ w ∈ nestw, va_Nw w s) : ∀ w ∈ nestw, va_Nw w U := by
  intro w hw
  have h1 := h w hw
  have h2 : isNest w = true := (List.mem_filter.mp hw).2
  cases w <;> first | exact va_Nw.warmF hW h1 | exact va_Nw.warmM hW h1 | cases h2
theorem nest_same {s U : State} (hv : U.vm = s.vm) (h : ∀ w ∈ nestw, va_Nw w s) : ∀ w ∈ nestw, va_Nw w U := by
  intro w hw
  have h1 := h w hw
  have h2 : isNest w = true := (List.mem_filter.mp hw).2
  cases w <;> first | exact va_Nw.same rfl hv.symm h1 | cases h2
theorem xSta.move {D : xD} {N : Nat} {s U : State} {H : Heap} {locs : List Loc} (h : xSta D N s) (hS : va_S (fr N) s.heap H locs) (hU : U.heap = H) (hW : s.WarmedH U.vm) : xSta D N U := by
  obtain ⟨h1, h2, h3, h4, h5, h6⟩ := h
  have hq : ∀ a : Nat, a < s.heap.size → ¬ fr N a → U.heap[a]? = s.heap[a]? := fun a h1 h2 => by rw [hU]; exact hS.2.1 a h1 h2
  have hA := hW.alike
  exact ⟨va_Z.moved hA (h1.kept hq), va_T.moved hA (h2.kept hq), vk_S.moved hA (h3.kept hq), vk_R.warm hW h4, vk_R.warm hW h5, va_Z.moved hA (h6.kept hq)⟩
theorem xK.move {D : xD} {N : Nat} {s U : State} {H : Heap} {locs : List Loc} (h : xK D N s) (hS : va_S (fr N) s.heap H locs) (hU : U.heap = H) (hW : s.WarmedH U.vm) : xK D N U :=
  ⟨va_K.moved hW.alike h.1, nest_warm hW h.2.1, h.2.2.move hS hU hW⟩
theorem xK.blind {D : xD} {N : Nat} {U U2 : State} (h : xK D N U) (hh : U2.heap = U.heap) (hv : U2.vm = U.vm) : xK D N U2 := by
  obtain ⟨h1, h2, h3⟩ := h
  have hA : U.vm.Alike U2.vm := by rw [hv]; exact Vm.Alike.refl U.vm
  refine ⟨va_K.moved hA h1, nest_same hv h2, ?_⟩
  obtain ⟨h1, h2, h3, h4, h5, h6⟩ := h3
  have hq : ∀ a : Nat, a < U.heap.size → ¬ fr N a → U2.heap[a]? = U.heap[a]? := fun a _ _ => by rw [hh]
  exact ⟨va_Z.moved hA (h1.kept hq), va_T.moved hA (h2.kept hq), vk_S.moved hA (h3.kept hq), vk_R.same hv h4, vk_R.same hv h5, va_Z.moved hA (h6.kept hq)⟩
/-- the heap from N on is the list g -/
def hs (D : va_G) (N : Nat) (g : List va_E) (H : Heap) : Prop := H.size = N + g.length ∧ ∀ (i : Nat) (e : va_E), g[i]? = some e → va_at D classes (N + i, e) H
theorem hs.one {D : va_G} {N i : Nat} {g : List va_E} {H : Heap} {e : va_E} (h : hs D N g H) (hi : g[i]? = some e) : va_P D classes [(N + i, e)] H := by
  intro k q hk
  have hz : k < 1 := (List.getElem?_eq_some_iff.mp hk).1
  rw [show k = 0 by omega] at hk
  cases hk
  exact h.2 i e hi
theorem hs.set {D : va_G} {N i : Nat} {g : List va_E} {H H1 : Heap} {e0 e : va_E} (h : hs D N g H) (hi : g[i]? = some e0) (he : va_at D classes (N + i, e) H1) (hz : H1.size = H.size) (oq : ∀ q : Nat, q ≠ N + i → H1[q]? = H[q]?) : hs D N (g.set i e) H1 := by
  have hl := (List.getElem?_eq_some_iff.mp hi).1
  refine ⟨by rw [hz, h.1, List.length_set], fun j x hj => ?_⟩
  by_cases hij : i = j
  · subst hij
    rw [List.getElem?_set_self hl] at hj
    cases hj
    exact he
  · rw [List.getElem?_set_ne hij] at hj
    exact (h.2 j x hj).kept (oq _ (by show N + j ≠ N + i; omega))
theorem hs.push {D : va_G} {N : Nat} {g : List va_E} {H H1 : Heap} {e : va_E} (h : hs D N g H) (he : va_at D classes (N + g.length, e) H1) (hz : H1.size = H.size + 1) (oq : ∀ q : Nat, q < H.size → H1[q]? = H[q]?) : hs D N (g ++ [e]) H1 := by
  refine ⟨by rw [hz, h.1, List.length_append]; simp; omega, fun j x hj => ?_⟩
  by_cases hl : j < g.length
  · rw [List.getElem?_append_left hl] at hj
    exact (h.2 j x hj).kept (oq _ (by have := h.1; show N + j < H.size; omega))
  · rw [List.getElem?_append_right (by omega)] at hj
    have hz : j - g.length < 1 := (List.getElem?_eq_some_iff.mp hj).1
    have hj0 : j = g.length := by omega
    subst hj0
    rw [Nat.sub_self] at hj
    cases hj
    exact he
def Qk (D : xD) (N : Nat) (K : Option Value → List va_E → Prop) : Array Value → State → Outcome → State → Prop := fun _ st oc t => (∃ (v : Option Value) (g' : List va_E), oc = .returned v ∧ K v g' ∧ hs D.1 N g' t.heap) ∧ va_F (fr N) st t
def Rm (d mc ms : Nat) : Room := { frames := d, cells := mc, slots := ms, locals := 37 * d }
def Ok (D : xD) (N : Nat) (l : Launch) (d : Nat) (M : MD) (as : List Value) (g : List va_E) (mc ms : Nat) (K : Option Value → List va_E → Prop) : Prop :=
  Met l M.1 (Cond.code M.1 M.2.1 M.2.2.1 M.2.2.2 :: lw_good) (Rm d mc ms) (va_Pc as (fun U => hs D.1 N g U.heap ∧ xK D N U ∧ N ≤ U.heap.size)) (Qk D N K) mc ms (fr N)
abbrev QF : Type := List Frame → Array Value → State → State → Prop
def Qm (D : xD) (N : Nat) (K : Option Value → List va_E → Prop) (mc ms : Nat) : QF := fun below args s => MQ below (Qk D N K) args s mc ms (fr N)
abbrev EX : Type := State → Array Value → Method → Prop
def Cx (D : xD) (N : Nat) (E : EX) (M : MD) (p : Program) (s : State) (m : MethodId) (args : Array Value) (meth : Method) (c : Code) : Prop :=
  p.tables.exec = Jvm.exec ∧ c.code = M.2.1 ∧ c.maxLocals = M.2.2.1 ∧ s.vm.findClass M.1.cls = some m.cls ∧ (∀ w ∈ lw_good, w.before args s = true) ∧ xK D N s ∧ meth.locks = false ∧ meth.sig.returnType = M.2.2.2 ∧ N ≤ s.heap.size ∧ E s args meth
def Wp (D : xD) (N : Nat) (l : Launch) (E : EX) (M : MD) (R : Room) (Qf : QF) (k n pc : Nat) (L : List (Nat × Value)) (st : List Value) (g : List va_E) : Prop :=
  ∀ (p : Program) (e : Env) (s : State) (m : MethodId) (args : Array Value) (below : List Frame) (meth : Method) (c : Code), Cx D N E M p s m args meth c → ∀ (H : Heap) (locs : List Loc) (ls : Array Slot), hs D.1 N g H → va_S (fr N) s.heap H locs → lv_has ls M.2.2.1 L → W p l e R s m args below meth c H locs k n (Qf below args s) (F0 m pc ls st)
section WP
variable {D : xD} {N : Nat} {l : Launch} {E : EX} {M : MD} {R : Room} {Qf : QF} {k n pc : Nat} {L : List (Nat × Value)} {st : List Value} {g : List va_E}
def EI (M : MD) : EX := fun _ _ meth => M.1.name = "<init>" → meth.name = "<init>"
theorem ok_of {d mc ms : Nat} {as : List Value} {K : Option Value → List va_E → Prop} (hy : plainName M.1.cls = true) (hlen : (lg_sl as).length ≤ M.2.2.1) (hL : lv_args 0 as = L) (h : Wp D N l (EI M) M (Rm d mc ms) (Qm D N K mc ms) 0 0 0 L [] g) : Ok D N l d M as g mc ms K := by
  subst hL
  refine Met.ofW (cc := M.2.1) (maxL := M.2.2.1) (ret := M.2.2.2) hy rfl ?_
  intro p e s m args below meth c s₁ B hml hv
  obtain ⟨rfl, hH, hK, hN⟩ := hv
  have hts := atoms_spec (ws := Cond.code M.1 M.2.1 M.2.2.1 M.2.2.2 :: lw_good) B.pre
  rw [lg_entry_eq]
  exact h p e s m _ below meth c ⟨B.exec, B.bytes, hml, findClass_of_methodNamed B.named, fun w hw => hts w (List.mem_cons_of_mem _ hw), hK, B.notSynchronized, B.returns, hN, fun hi => by rw [(name_of_methodNamed B.named B.method).1]; exact hi⟩ s.heap [] _ hH va_S.rf (lv_entry as hlen)
theorem wp_iconst {q : Nat} {z : Int} {v : Int32} (hd : decode M.2.1 pc = .ok (.iconst z, 1)) (hq : pc + 1 = q) (hv : Int32.ofInt z = v) (h : Wp D N l E M R Qf k n q L (.int v :: st) g) : Wp D N l E M R Qf k n pc L (st) g := by
  subst hq
  intro p e s m args below meth c C H locs ls hH hS hl
  exact lv_iconst C.1 C.2.1 hd hv (h p e s m args below meth c C H locs ls hH hS hl)
theorem wp_bipush {q : Nat} {z : Int} {v : Int32} (hd : decode M.2.1 pc = .ok (.bipush z, 2)) (hq : pc + 2 = q) (hv : (Int8.ofInt z).toInt32 = v) (h : Wp D N l E M R Qf k n q L (.int v :: st) g) : Wp D N l E M R Qf k n pc L (st) g := by
  subst hq
  intro p e s m args below meth c C H locs ls hH hS hl
  exact lv_bipush C.1 C.2.1 hd hv (h p e s m args below meth c C H locs ls hH hS hl)
theorem wp_sipush {q : Nat} {z : Int} {v : Int32} (hd : decode M.2.1 pc = .ok (.sipush z, 3)) (hq : pc + 3 = q) (hv : (Int16.ofInt z).toInt32 = v) (h : Wp D N l E M R Qf k n q L (.int v :: st) g) : Wp D N l E M R Qf k n pc L (st) g := by
  subst hq
  intro p e s m args below meth c C H locs ls hH hS hl
  exact lv_sipush C.1 C.2.1 hd hv (h p e s m args below meth c C H locs ls hH hS hl)
theorem wp_lconst {q : Nat} {z : Fin 2} {v : Int64} (hd : decode M.2.1 pc = .ok (.lconst z, 1)) (hq : pc + 1 = q) (hv : Int64.ofNat (z : Nat) = v) (h : Wp D N l E M R Qf k n q L (.long v :: st) g) : Wp D N l E M R Qf k n pc L (st) g := by
  subst hq
  intro p e s m args below meth c C H locs ls hH hS hl
  exact lv_lconst C.1 C.2.1 hd hv (h p e s m args below meth c C H locs ls hH hS hl)
theorem wp_ldc {q : Nat} {idx : Nat} {v : Int32} (hd : decode M.2.1 pc = .ok (.ldc idx, 2)) (hq : pc + 2 = q) (hw : Cond.constant M.1.cls idx v ∈ lw_good) (h : Wp D N l E M R Qf k n q L (.int v :: st) g) : Wp D N l E M R Qf k n pc L (st) g := by
  subst hq
  intro p e s m args below meth c C H locs ls hH hS hl
  exact lv_ldc C.1 C.2.1 C.2.2.2.1 (C.2.2.2.2.1 _ hw) hd (h p e s m args below meth c C H locs ls hH hS hl)
theorem wp_ldcw {q : Nat} {idx : Nat} {v : Int32} (hd : decode M.2.1 pc = .ok (.ldc_w idx, 3)) (hq : pc + 3 = q) (hw : Cond.constant M.1.cls idx v ∈ lw_good) (h : Wp D N l E M R Qf k n q L (.int v :: st) g) : Wp D N l E M R Qf k n pc L (st) g := by
  subst hq
  intro p e s m args below meth c C H locs ls hH hS hl
  exact lv_ldcw C.1 C.2.1 C.2.2.2.1 (C.2.2.2.2.1 _ hw) hd (h p e s m args below meth c C H locs ls hH hS hl)
theorem wp_ldc2 {q : Nat} {idx : Nat} {v : Int64} (hd : decode M.2.1 pc = .ok (.ldc2_w idx, 3)) (hq : pc + 3 = q) (hw : Cond.constantLong M.1.cls idx v ∈ lw_good) (h : Wp D N l E M R Qf k n q L (.long v :: st) g) : Wp D N l E M R Qf k n pc L (st) g := by
  subst hq
  intro p e s m args below meth c C H locs ls hH hS hl
  exact lv_ldc2 C.1 C.2.1 C.2.2.2.1 (C.2.2.2.2.1 _ hw) hd (h p e s m args below meth c C H locs ls hH hS hl)
theorem wp_null {q : Nat}  (hd : decode M.2.1 pc = .ok (.aconst_null, 1)) (hq : pc + 1 = q)  (h : Wp D N l E M R Qf k n q L (.null :: st) g) : Wp D N l E M R Qf k n pc L (st) g := by
  subst hq
  intro p e s m args below meth c C H locs ls hH hS hl
  exact lv_null C.1 C.2.1 hd (h p e s m args below meth c C H locs ls hH hS hl)
theorem lk_mem : ∀ {L : List (Nat × Value)} {i : Nat} {v : Value}, L.lookup i = some v → (i, v) ∈ L
  | [], i, v, h => by cases h
  | (j, w) :: L, i, v, h => by
    rw [List.lookup_cons] at h
    by_cases e : i = j
    · subst e
      simp at h
      subst h
      exact List.mem_cons_self
    · have e2 : (i == j) = false := by simpa using e
      rw [e2] at h
      exact List.mem_cons_of_mem _ (lk_mem h)
theorem wp_iload_n {q : Nat} {i : Fin 4} {x : Int32} (hd : decode M.2.1 pc = .ok (.iload_n i, 1)) (hq : pc + 1 = q) (hi : L.lookup (i : Nat) = some (.int x)) (h : Wp D N l E M R Qf k n q L (.int x :: st) g) : Wp D N l E M R Qf k n pc L (st) g := by
  subst hq
  intro p e s m args below meth c C H locs ls hH hS hl
  exact lv_iload_n C.1 C.2.1 hd rfl (hl.2.2 _ (lk_mem hi)) (h p e s m args below meth c C H locs ls hH hS hl)
theorem wp_iload {q : Nat} {i : Nat} {x : Int32} (hd : decode M.2.1 pc = .ok (.iload i, 2)) (hq : pc + 2 = q) (hi : L.lookup i = some (.int x)) (h : Wp D N l E M R Qf k n q L (.int x :: st) g) : Wp D N l E M R Qf k n pc L (st) g := by
  subst hq
  intro p e s m args below meth c C H locs ls hH hS hl
  exact lv_iload C.1 C.2.1 hd (hl.2.2 _ (lk_mem hi)) (h p e s m args below meth c C H locs ls hH hS hl)
theorem wp_lload_n {q : Nat} {i : Fin 4} {x : Int64} (hd : decode M.2.1 pc = .ok (.lload_n i, 1)) (hq : pc + 1 = q) (hi : L.lookup (i : Nat) = some (.long x)) (h : Wp D N l E M R Qf k n q L (.long x :: st) g) : Wp D N l E M R Qf k n pc L (st) g := by
  subst hq
  intro p e s m args below meth c C H locs ls hH hS hl
  exact lv_lload_n C.1 C.2.1 hd rfl (hl.2.2 _ (lk_mem hi)) (h p e s m args below meth c C H locs ls hH hS hl)
theorem wp_lload {q : Nat} {i : Nat} {x : Int64} (hd : decode M.2.1 pc = .ok (.lload i, 2)) (hq : pc + 2 = q) (hi : L.lookup i = some (.long x)) (h : Wp D N l E M R Qf k n q L (.long x :: st) g) : Wp D N l E M R Qf k n pc L (st) g := by
  subst hq
  intro p e s m args below meth c C H locs ls hH hS hl
  exact lv_lload C.1 C.2.1 hd (hl.2.2 _ (lk_mem hi)) (h p e s m args below meth c C H locs ls hH hS hl)
theorem wp_aload_n {q : Nat} {i : Fin 4} {x : Nat} (hd : decode M.2.1 pc = .ok (.aload_n i, 1)) (hq : pc + 1 = q) (hi : L.lookup (i : Nat) = some (.ref x)) (h : Wp D N l E M R Qf k n q L (.ref x :: st) g) : Wp D N l E M R Qf k n pc L (st) g := by
  subst hq
  intro p e s m args below meth c C H locs ls hH hS hl
  exact lv_aload_n C.1 C.2.1 hd rfl (hl.2.2 _ (lk_mem hi)) (h p e s m args below meth c C H locs ls hH hS hl)
theorem wp_aload {q : Nat} {i : Nat} {x : Nat} (hd : decode M.2.1 pc = .ok (.aload i, 2)) (hq : pc + 2 = q) (hi : L.lookup i = some (.ref x)) (h : Wp D N l E M R Qf k n q L (.ref x :: st) g) : Wp D N l E M R Qf k n pc L (st) g := by
  subst hq
  intro p e s m args below meth c C H locs ls hH hS hl
  exact lv_aload C.1 C.2.1 hd (hl.2.2 _ (lk_mem hi)) (h p e s m args below meth c C H locs ls hH hS hl)
theorem wp_istore_n {q : Nat} {i : Fin 4} {x : Int32} {L2 : List (Nat × Value)} (hd : decode M.2.1 pc = .ok (.istore_n i, 1)) (hq : pc + 1 = q) (hn : (i : Nat) < M.2.2.1) (hL : ((i : Nat), Value.int x) :: L.filter (fun q => !(q.1 == (i : Nat)) && !(q.1 + 1 == (i : Nat) && q.2.category == 2)) = L2) (h : Wp D N l E M R Qf k n q L2 st g) : Wp D N l E M R Qf k n pc L (.int x :: st) g := by
  subst hq
  intro p e s m args below meth c C H locs ls hH hS hl
  exact lv_istore_n C.1 C.2.1 hd rfl hl hn hL (fun ls' hl' => h p e s m args below meth c C H locs ls' hH hS hl')
theorem wp_istore {q : Nat} {i : Nat} {x : Int32} {L2 : List (Nat × Value)} (hd : decode M.2.1 pc = .ok (.istore i, 2)) (hq : pc + 2 = q) (hn : i < M.2.2.1) (hL : (i, Value.int x) :: L.filter (fun q => !(q.1 == i) && !(q.1 + 1 == i && q.2.category == 2)) = L2) (h : Wp D N l E M R Qf k n q L2 st g) : Wp D N l E M R Qf k n pc L (.int x :: st) g := by
  subst hq
  intro p e s m args below meth c C H locs ls hH hS hl
  exact lv_istore C.1 C.2.1 hd hl hn hL (fun ls' hl' => h p e s m args below meth c C H locs ls' hH hS hl')
theorem wp_astore_n {q : Nat} {i : Fin 4} {x : Nat} {L2 : List (Nat × Value)} (hd : decode M.2.1 pc = .ok (.astore_n i, 1)) (hq : pc + 1 = q) (hn : (i : Nat) < M.2.2.1) (hL : ((i : Nat), Value.ref x) :: L.filter (fun q => !(q.1 == (i : Nat)) && !(q.1 + 1 == (i : Nat) && q.2.category == 2)) = L2) (h : Wp D N l E M R Qf k n q L2 st g) : Wp D N l E M R Qf k n pc L (.ref x :: st) g := by
  subst hq
  intro p e s m args below meth c C H locs ls hH hS hl
  exact lv_astore_n C.1 C.2.1 hd rfl hl hn hL (fun ls' hl' => h p e s m args below meth c C H locs ls' hH hS hl')
theorem wp_astore {q : Nat} {i : Nat} {x : Nat} {L2 : List (Nat × Value)} (hd : decode M.2.1 pc = .ok (.astore i, 2)) (hq : pc + 2 = q) (hn : i < M.2.2.1) (hL : (i, Value.ref x) :: L.filter (fun q => !(q.1 == i) && !(q.1 + 1 == i && q.2.category == 2)) = L2) (h : Wp D N l E M R Qf k n q L2 st g) : Wp D N l E M R Qf k n pc L (.ref x :: st) g := by
  subst hq
  intro p e s m args below meth c C H locs ls hH hS hl
  exact lv_astore C.1 C.2.1 hd hl hn hL (fun ls' hl' => h p e s m args below meth c C H locs ls' hH hS hl')
theorem wp_lstore_n {q : Nat} {i : Fin 4} {x : Int64} {L2 : List (Nat × Value)} (hd : decode M.2.1 pc = .ok (.lstore_n i, 1)) (hq : pc + 1 = q) (hn : (i : Nat) + 1 < M.2.2.1) (hL : ((i : Nat), Value.long x) :: L.filter (fun q => !(q.1 == (i : Nat)) && (!(q.1 == (i : Nat) + 1) && !(q.1 + 1 == (i : Nat) && q.2.category == 2))) = L2) (h : Wp D N l E M R Qf k n q L2 st g) : Wp D N l E M R Qf k n pc L (.long x :: st) g := by
  subst hq
  intro p e s m args below meth c C H locs ls hH hS hl
  exact lv_lstore_n C.1 C.2.1 hd rfl hl hn hL (fun ls' hl' => h p e s m args below meth c C H locs ls' hH hS hl')
theorem wp_lstore {q : Nat} {i : Nat} {x : Int64} {L2 : List (Nat × Value)} (hd : decode M.2.1 pc = .ok (.lstore i, 2)) (hq : pc + 2 = q) (hn : i + 1 < M.2.2.1) (hL : (i, Value.long x) :: L.filter (fun q => !(q.1 == i) && (!(q.1 == i + 1) && !(q.1 + 1 == i && q.2.category == 2))) = L2) (h : Wp D N l E M R Qf k n q L2 st g) : Wp D N l E M R Qf k n pc L (.long x :: st) g := by
  subst hq
  intro p e s m args below meth c C H locs ls hH hS hl
  exact lv_lstore C.1 C.2.1 hd hl hn hL (fun ls' hl' => h p e s m args below meth c C H locs ls' hH hS hl')
theorem wp_iinc {q i : Nat} {z : Int} {x v : Int32} {L2 : List (Nat × Value)} (hd : decode M.2.1 pc = .ok (.iinc i z, 3)) (hq : pc + 3 = q) (hi : L.lookup i = some (.int x)) (hv : x + Int32.ofInt z = v) (hn : i < M.2.2.1) (hL : (i, Value.int v) :: L.filter (fun q => !(q.1 == i) && !(q.1 + 1 == i && q.2.category == 2)) = L2) (h : Wp D N l E M R Qf k n q L2 st g) : Wp D N l E M R Qf k n pc L st g := by
  subst hq
  intro p e s m args below meth c C H locs ls hH hS hl
  obtain ⟨j, hj⟩ := List.getElem?_of_mem (lk_mem hi)
  exact lv_iinc C.1 C.2.1 hd hl hj hv hn hL (fun ls' hl' => h p e s m args below meth c C H locs ls' hH hS hl')
theorem wp_iadd {q : Nat} {x y : Int32} (hd : decode M.2.1 pc = .ok (.iadd, 1)) (hq : pc + 1 = q)  (h : Wp D N l E M R Qf k n q L (.int (x + y) :: st) g) : Wp D N l E M R Qf k n pc L (.int y :: .int x :: st) g := by
  subst hq
  intro p e s m args below meth c C H locs ls hH hS hl
  exact lv_iadd C.1 C.2.1 hd (h p e s m args below meth c C H locs ls hH hS hl)
theorem wp_isub {q : Nat} {x y : Int32} (hd : decode M.2.1 pc = .ok (.isub, 1)) (hq : pc + 1 = q)  (h : Wp D N l E M R Qf k n q L (.int (x - y) :: st) g) : Wp D N l E M R Qf k n pc L (.int y :: .int x :: st) g := by
  subst hq
  intro p e s m args below meth c C H locs ls hH hS hl
  exact lv_isub C.1 C.2.1 hd (h p e s m args below meth c C H locs ls hH hS hl)
theorem wp_imul {q : Nat} {x y : Int32} (hd : decode M.2.1 pc = .ok (.imul, 1)) (hq : pc + 1 = q)  (h : Wp D N l E M R Qf k n q L (.int (x * y) :: st) g) : Wp D N l E M R Qf k n pc L (.int y :: .int x :: st) g := by
  subst hq
  intro p e s m args below meth c C H locs ls hH hS hl
  exact lv_imul C.1 C.2.1 hd (h p e s m args below meth c C H locs ls hH hS hl)
theorem wp_iand {q : Nat} {x y : Int32} (hd : decode M.2.1 pc = .ok (.iand, 1)) (hq : pc + 1 = q)  (h : Wp D N l E M R Qf k n q L (.int (x &&& y) :: st) g) : Wp D N l E M R Qf k n pc L (.int y :: .int x :: st) g := by
  subst hq
  intro p e s m args below meth c C H locs ls hH hS hl
  exact lv_iand C.1 C.2.1 hd (h p e s m args below meth c C H locs ls hH hS hl)
theorem wp_ior {q : Nat} {x y : Int32} (hd : decode M.2.1 pc = .ok (.ior, 1)) (hq : pc + 1 = q)  (h : Wp D N l E M R Qf k n q L (.int (x ||| y) :: st) g) : Wp D N l E M R Qf k n pc L (.int y :: .int x :: st) g := by
  subst hq
  intro p e s m args below meth c C H locs ls hH hS hl
  exact lv_ior C.1 C.2.1 hd (h p e s m args below meth c C H locs ls hH hS hl)
theorem wp_ishl {q : Nat} {x y : Int32} (hd : decode M.2.1 pc = .ok (.ishl, 1)) (hq : pc + 1 = q)  (h : Wp D N l E M R Qf k n q L (.int (x <<< (y &&& 31)) :: st) g) : Wp D N l E M R Qf k n pc L (.int y :: .int x :: st) g := by
  subst hq
  intro p e s m args below meth c C H locs ls hH hS hl
  exact lv_ishl C.1 C.2.1 hd (h p e s m args below meth c C H locs ls hH hS hl)
theorem wp_ishr {q : Nat} {x y : Int32} (hd : decode M.2.1 pc = .ok (.ishr, 1)) (hq : pc + 1 = q)  (h : Wp D N l E M R Qf k n q L (.int (x >>> (y &&& 31)) :: st) g) : Wp D N l E M R Qf k n pc L (.int y :: .int x :: st) g := by
  subst hq
  intro p e s m args below meth c C H locs ls hH hS hl
  exact lv_ishr C.1 C.2.1 hd (h p e s m args below meth c C H locs ls hH hS hl)
theorem wp_iaddN {q : Nat} {a b : Nat} (hd : decode M.2.1 pc = .ok (.iadd, 1)) (hq : pc + 1 = q)  (h : Wp D N l E M R Qf k n q L (.int (nI (a + b)) :: st) g) : Wp D N l E M R Qf k n pc L (.int (nI b) :: .int (nI a) :: st) g := by
  subst hq
  intro p e s m args below meth c C H locs ls hH hS hl
  exact lv_iadd C.1 C.2.1 hd (by rw [nI_add]; exact (h p e s m args below meth c C H locs ls hH hS hl))
theorem wp_imulN {q : Nat} {a b : Nat} (hd : decode M.2.1 pc = .ok (.imul, 1)) (hq : pc + 1 = q)  (h : Wp D N l E M R Qf k n q L (.int (nI (a * b)) :: st) g) : Wp D N l E M R Qf k n pc L (.int (nI b) :: .int (nI a) :: st) g := by
  subst hq
  intro p e s m args below meth c C H locs ls hH hS hl
  exact lv_imul C.1 C.2.1 hd (by rw [pk_mul]; exact (h p e s m args below meth c C H locs ls hH hS hl))
theorem wp_ladd {q : Nat} {x y : Int64} (hd : decode M.2.1 pc = .ok (.ladd, 1)) (hq : pc + 1 = q)  (h : Wp D N l E M R Qf k n q L (.long (x + y) :: st) g) : Wp D N l E M R Qf k n pc L (.long y :: .long x :: st) g := by
  subst hq
  intro p e s m args below meth c C H locs ls hH hS hl
  exact lv_ladd C.1 C.2.1 hd (h p e s m args below meth c C H locs ls hH hS hl)
theorem wp_lsub {q : Nat} {x y : Int64} (hd : decode M.2.1 pc = .ok (.lsub, 1)) (hq : pc + 1 = q)  (h : Wp D N l E M R Qf k n q L (.long (x - y) :: st) g) : Wp D N l E M R Qf k n pc L (.long y :: .long x :: st) g := by
  subst hq
  intro p e s m args below meth c C H locs ls hH hS hl
  exact lv_lsub C.1 C.2.1 hd (h p e s m args below meth c C H locs ls hH hS hl)
theorem wp_lmul {q : Nat} {x y : Int64} (hd : decode M.2.1 pc = .ok (.lmul, 1)) (hq : pc + 1 = q)  (h : Wp D N l E M R Qf k n q L (.long (x * y) :: st) g) : Wp D N l E M R Qf k n pc L (.long y :: .long x :: st) g := by
  subst hq
  intro p e s m args below meth c C H locs ls hH hS hl
  exact lv_lmul C.1 C.2.1 hd (h p e s m args below meth c C H locs ls hH hS hl)
theorem wp_land {q : Nat} {x y : Int64} (hd : decode M.2.1 pc = .ok (.land, 1)) (hq : pc + 1 = q)  (h : Wp D N l E M R Qf k n q L (.long (x &&& y) :: st) g) : Wp D N l E M R Qf k n pc L (.long y :: .long x :: st) g := by
  subst hq
  intro p e s m args below meth c C H locs ls hH hS hl
  exact lv_land C.1 C.2.1 hd (h p e s m args below meth c C H locs ls hH hS hl)
theorem wp_lor {q : Nat} {x y : Int64} (hd : decode M.2.1 pc = .ok (.lor, 1)) (hq : pc + 1 = q)  (h : Wp D N l E M R Qf k n q L (.long (x ||| y) :: st) g) : Wp D N l E M R Qf k n pc L (.long y :: .long x :: st) g := by
  subst hq
  intro p e s m args below meth c C H locs ls hH hS hl
  exact lv_lor C.1 C.2.1 hd (h p e s m args below meth c C H locs ls hH hS hl)
theorem wp_idiv {q : Nat} {x y : Int32} (hd : decode M.2.1 pc = .ok (.idiv, 1)) (hq : pc + 1 = q) (hne : ¬ y = 0) (h : Wp D N l E M R Qf k n q L (.int (x / y) :: st) g) : Wp D N l E M R Qf k n pc L (.int y :: .int x :: st) g := by
  subst hq
  intro p e s m args below meth c C H locs ls hH hS hl
  exact lv_idiv C.1 C.2.1 hd hne (h p e s m args below meth c C H locs ls hH hS hl)
theorem wp_irem {q : Nat} {x y : Int32} (hd : decode M.2.1 pc = .ok (.irem, 1)) (hq : pc + 1 = q) (hne : ¬ y = 0) (h : Wp D N l E M R Qf k n q L (.int (x - x / y * y) :: st) g) : Wp D N l E M R Qf k n pc L (.int y :: .int x :: st) g := by
  subst hq
  intro p e s m args below meth c C H locs ls hH hS hl
  exact lv_irem C.1 C.2.1 hd hne (h p e s m args below meth c C H locs ls hH hS hl)
theorem wp_idivN {q : Nat} {a b : Nat} (hd : decode M.2.1 pc = .ok (.idiv, 1)) (hq : pc + 1 = q) (ha : a < 2 ^ 31) (h0 : 0 < b) (hb : b < 2 ^ 31) (h : Wp D N l E M R Qf k n q L (.int (nI (a / b)) :: st) g) : Wp D N l E M R Qf k n pc L (.int (nI b) :: .int (nI a) :: st) g := by
  subst hq
  intro p e s m args below meth c C H locs ls hH hS hl
  exact lv_idiv C.1 C.2.1 hd (nI_ne0 h0 hb) (by rw [pk_div ha h0 hb]; exact (h p e s m args below meth c C H locs ls hH hS hl))
theorem wp_iremN {q : Nat} {a b : Nat} (hd : decode M.2.1 pc = .ok (.irem, 1)) (hq : pc + 1 = q) (ha : a < 2 ^ 31) (h0 : 0 < b) (hb : b < 2 ^ 31) (h : Wp D N l E M R Qf k n q L (.int (nI (a % b)) :: st) g) : Wp D N l E M R Qf k n pc L (.int (nI b) :: .int (nI a) :: st) g := by
  subst hq
  intro p e s m args below meth c C H locs ls hH hS hl
  exact lv_irem C.1 C.2.1 hd (nI_ne0 h0 hb) (by rw [pk_rem ha h0 hb]; exact (h p e s m args below meth c C H locs ls hH hS hl))
theorem wp_isubN {q : Nat} {a b : Nat} (hd : decode M.2.1 pc = .ok (.isub, 1)) (hq : pc + 1 = q) (hab : b ≤ a) (h : Wp D N l E M R Qf k n q L (.int (nI (a - b)) :: st) g) : Wp D N l E M R Qf k n pc L (.int (nI b) :: .int (nI a) :: st) g := by
  subst hq
  intro p e s m args below meth c C H locs ls hH hS hl
  exact lv_isub C.1 C.2.1 hd (by rw [pk_sub hab]; exact (h p e s m args below meth c C H locs ls hH hS hl))
theorem wp_ldiv {q : Nat} {x y : Int64} (hd : decode M.2.1 pc = .ok (.ldiv, 1)) (hq : pc + 1 = q) (hne : ¬ y = 0) (h : Wp D N l E M R Qf k n q L (.long (x / y) :: st) g) : Wp D N l E M R Qf k n pc L (.long y :: .long x :: st) g := by
  subst hq
  intro p e s m args below meth c C H locs ls hH hS hl
  exact lv_ldiv C.1 C.2.1 hd hne (h p e s m args below meth c C H locs ls hH hS hl)
theorem wp_iushr {q : Nat} {x y : Int32} (hd : decode M.2.1 pc = .ok (.iushr, 1)) (hq : pc + 1 = q)  (h : Wp D N l E M R Qf k n q L (.int (x.toUInt32 >>> (y.toUInt32 &&& Int32.toUInt32 31)).toInt32 :: st) g) : Wp D N l E M R Qf k n pc L (.int y :: .int x :: st) g := by
  subst hq
  intro p e s m args below meth c C H locs ls hH hS hl
  exact lv_iushr C.1 C.2.1 hd rfl (h p e s m args below meth c C H locs ls hH hS hl)
theorem wp_lshl {q : Nat} {x : Int64} {y : Int32} (hd : decode M.2.1 pc = .ok (.lshl, 1)) (hq : pc + 1 = q)  (h : Wp D N l E M R Qf k n q L (.long (x <<< (y.toInt64 &&& 63)) :: st) g) : Wp D N l E M R Qf k n pc L (.int y :: .long x :: st) g := by
  subst hq
  intro p e s m args below meth c C H locs ls hH hS hl
  exact lv_lshl C.1 C.2.1 hd rfl (h p e s m args below meth c C H locs ls hH hS hl)
theorem wp_lshr {q : Nat} {x : Int64} {y : Int32} (hd : decode M.2.1 pc = .ok (.lshr, 1)) (hq : pc + 1 = q)  (h : Wp D N l E M R Qf k n q L (.long (x >>> (y.toInt64 &&& 63)) :: st) g) : Wp D N l E M R Qf k n pc L (.int y :: .long x :: st) g := by
  subst hq
  intro p e s m args below meth c C H locs ls hH hS hl
  exact lv_lshr C.1 C.2.1 hd rfl (h p e s m args below meth c C H locs ls hH hS hl)
theorem wp_i2l {q : Nat} {x : Int32} (hd : decode M.2.1 pc = .ok (.i2l, 1)) (hq : pc + 1 = q)  (h : Wp D N l E M R Qf k n q L (.long x.toInt64 :: st) g) : Wp D N l E M R Qf k n pc L (.int x :: st) g := by
  subst hq
  intro p e s m args below meth c C H locs ls hH hS hl
  exact lv_i2l C.1 C.2.1 hd rfl (h p e s m args below meth c C H locs ls hH hS hl)
theorem wp_l2i {q : Nat} {x : Int64} (hd : decode M.2.1 pc = .ok (.l2i, 1)) (hq : pc + 1 = q)  (h : Wp D N l E M R Qf k n q L (.int x.toInt32 :: st) g) : Wp D N l E M R Qf k n pc L (.long x :: st) g := by
  subst hq
  intro p e s m args below meth c C H locs ls hH hS hl
  exact lv_l2i C.1 C.2.1 hd rfl (h p e s m args below meth c C H locs ls hH hS hl)
theorem wp_i2b {q : Nat} {x : Int32} (hd : decode M.2.1 pc = .ok (.i2b, 1)) (hq : pc + 1 = q)  (h : Wp D N l E M R Qf k n q L (.int x.toInt8.toInt32 :: st) g) : Wp D N l E M R Qf k n pc L (.int x :: st) g := by
  subst hq
  intro p e s m args below meth c C H locs ls hH hS hl
  exact lv_i2b C.1 C.2.1 hd rfl (h p e s m args below meth c C H locs ls hH hS hl)
theorem wp_i2s {q : Nat} {x : Int32} (hd : decode M.2.1 pc = .ok (.i2s, 1)) (hq : pc + 1 = q)  (h : Wp D N l E M R Qf k n q L (.int x.toInt16.toInt32 :: st) g) : Wp D N l E M R Qf k n pc L (.int x :: st) g := by
  subst hq
  intro p e s m args below meth c C H locs ls hH hS hl
  exact lv_i2s C.1 C.2.1 hd rfl (h p e s m args below meth c C H locs ls hH hS hl)
theorem wp_i2c {q : Nat} {x : Int32} (hd : decode M.2.1 pc = .ok (.i2c, 1)) (hq : pc + 1 = q)  (h : Wp D N l E M R Qf k n q L (.int (x.toUInt32 % 65536).toInt32 :: st) g) : Wp D N l E M R Qf k n pc L (.int x :: st) g := by
  subst hq
  intro p e s m args below meth c C H locs ls hH hS hl
  exact lv_i2c C.1 C.2.1 hd rfl (h p e s m args below meth c C H locs ls hH hS hl)
theorem wp_lcmp {q : Nat} {x y : Int64} (hd : decode M.2.1 pc = .ok (.lcmp, 1)) (hq : pc + 1 = q)  (h : Wp D N l E M R Qf k n q L (.int (lg_cmp x y) :: st) g) : Wp D N l E M R Qf k n pc L (.long y :: .long x :: st) g := by
  subst hq
  intro p e s m args below meth c C H locs ls hH hS hl
  exact W.lcmp C.1 C.2.1 hd (h p e s m args below meth c C H locs ls hH hS hl)
theorem wp_dup {q : Nat} {v : Value} (hd : decode M.2.1 pc = .ok (.dup, 1)) (hq : pc + 1 = q) (hv : v.category = 1) (h : Wp D N l E M R Qf k n q L (v :: v :: st) g) : Wp D N l E M R Qf k n pc L (v :: st) g := by
  subst hq
  intro p e s m args below meth c C H locs ls hH hS hl
  exact lv_dup C.1 C.2.1 hd hv (h p e s m args below meth c C H locs ls hH hS hl)
theorem wp_pop {q : Nat} {v : Value} (hd : decode M.2.1 pc = .ok (.pop, 1)) (hq : pc + 1 = q) (hv : v.category = 1) (h : Wp D N l E M R Qf k n q L (st) g) : Wp D N l E M R Qf k n pc L (v :: st) g := by
  subst hq
  intro p e s m args below meth c C H locs ls hH hS hl
  exact lv_pop C.1 C.2.1 hd hv (h p e s m args below meth c C H locs ls hH hS hl)
theorem wp_dup2 {q : Nat} {v w : Value} (hd : decode M.2.1 pc = .ok (.dup2, 1)) (hq : pc + 1 = q) (hv : v.category = 1) (hw : w.category = 1) (h : Wp D N l E M R Qf k n q L (v :: w :: v :: w :: st) g) : Wp D N l E M R Qf k n pc L (v :: w :: st) g := by
  subst hq
  intro p e s m args below meth c C H locs ls hH hS hl
  exact lv_dup2_11 C.1 C.2.1 hd hv hw (h p e s m args below meth c C H locs ls hH hS hl)
theorem wp_if_eq {q tgt : Nat} {off : Int} {x : Int32} (hd : decode M.2.1 pc = .ok (.ifCond .eq off, 3)) (ht : (pc : Int) + off = (tgt : Int)) (hq : pc + 3 = q) (kt : x = 0 → Wp D N l E M R Qf k n tgt L st g) (kf : ¬ x = 0 → Wp D N l E M R Qf k n q L st g) : Wp D N l E M R Qf k n pc L (.int x :: st) g := by
  subst hq
  intro p e s m args below meth c C H locs ls hH hS hl
  exact lv_if_eq C.1 C.2.1 hd ht (fun hc => (kt hc p e s m args below meth c C H locs ls hH hS hl)) (fun hc => (kf hc p e s m args below meth c C H locs ls hH hS hl))
theorem wp_if_eq_t {tgt : Nat} {off : Int} {x : Int32} (hd : decode M.2.1 pc = .ok (.ifCond .eq off, 3)) (ht : (pc : Int) + off = (tgt : Int)) (hc : x = 0) (kt : Wp D N l E M R Qf k n tgt L st g) : Wp D N l E M R Qf k n pc L (.int x :: st) g :=
  wp_if_eq hd ht rfl (fun _ => kt) (fun h => absurd hc h)
theorem wp_if_eq_f {q : Nat} {off : Int} {tgt : Nat} {x : Int32} (hd : decode M.2.1 pc = .ok (.ifCond .eq off, 3)) (ht : (pc : Int) + off = (tgt : Int)) (hq : pc + 3 = q) (hc : ¬ x = 0) (kf : Wp D N l E M R Qf k n q L st g) : Wp D N l E M R Qf k n pc L (.int x :: st) g :=
  wp_if_eq hd ht hq (fun h => absurd h hc) (fun _ => kf)
theorem wp_icmp_eq {q tgt : Nat} {off : Int} {x y : Int32} (hd : decode M.2.1 pc = .ok (.if_icmp .eq off, 3)) (ht : (pc : Int) + off = (tgt : Int)) (hq : pc + 3 = q) (kt : x = y → Wp D N l E M R Qf k n tgt L st g) (kf : ¬ x = y → Wp D N l E M R Qf k n q L st g) : Wp D N l E M R Qf k n pc L (.int y :: .int x :: st) g := by
  subst hq
  intro p e s m args below meth c C H locs ls hH hS hl
  exact lv_icmp_eq C.1 C.2.1 hd ht (fun hc => (kt hc p e s m args below meth c C H locs ls hH hS hl)) (fun hc => (kf hc p e s m args below meth c C H locs ls hH hS hl))
theorem wp_icmp_eq_t {tgt : Nat} {off : Int} {x y : Int32} (hd : decode M.2.1 pc = .ok (.if_icmp .eq off, 3)) (ht : (pc : Int) + off = (tgt : Int)) (hc : x = y) (kt : Wp D N l E M R Qf k n tgt L st g) : Wp D N l E M R Qf k n pc L (.int y :: .int x :: st) g :=
  wp_icmp_eq hd ht rfl (fun _ => kt) (fun h => absurd hc h)
theorem wp_icmp_eq_f {q : Nat} {off : Int} {tgt : Nat} {x y : Int32} (hd : decode M.2.1 pc = .ok (.if_icmp .eq off, 3)) (ht : (pc : Int) + off = (tgt : Int)) (hq : pc + 3 = q) (hc : ¬ x = y) (kf : Wp D N l E M R Qf k n q L st g) : Wp D N l E M R Qf k n pc L (.int y :: .int x :: st) g :=
  wp_icmp_eq hd ht hq (fun h => absurd h hc) (fun _ => kf)
theorem wp_if_ne {q tgt : Nat} {off : Int} {x : Int32} (hd : decode M.2.1 pc = .ok (.ifCond .ne off, 3)) (ht : (pc : Int) + off = (tgt : Int)) (hq : pc + 3 = q) (kt : ¬ x = 0 → Wp D N l E M R Qf k n tgt L st g) (kf : x = 0 → Wp D N l E M R Qf k n q L st g) : Wp D N l E M R Qf k n pc L (.int x :: st) g := by
  subst hq
  intro p e s m args below meth c C H locs ls hH hS hl
  exact lv_if_ne C.1 C.2.1 hd ht (fun hc => (kt hc p e s m args below meth c C H locs ls hH hS hl)) (fun hc => (kf hc p e s m args below meth c C H locs ls hH hS hl))
theorem wp_if_ne_t {tgt : Nat} {off : Int} {x : Int32} (hd : decode M.2.1 pc = .ok (.ifCond .ne off, 3)) (ht : (pc : Int) + off = (tgt : Int)) (hc : ¬ x = 0) (kt : Wp D N l E M R Qf k n tgt L st g) : Wp D N l E M R Qf k n pc L (.int x :: st) g :=
  wp_if_ne hd ht rfl (fun _ => kt) (fun h => absurd hc (fun z => z h))
theorem wp_if_ne_f {q : Nat} {off : Int} {tgt : Nat} {x : Int32} (hd : decode M.2.1 pc = .ok (.ifCond .ne off, 3)) (ht : (pc : Int) + off = (tgt : Int)) (hq : pc + 3 = q) (hc : x = 0) (kf : Wp D N l E M R Qf k n q L st g) : Wp D N l E M R Qf k n pc L (.int x :: st) g :=
  wp_if_ne hd ht hq (fun h => absurd hc h) (fun _ => kf)
theorem wp_icmp_ne {q tgt : Nat} {off : Int} {x y : Int32} (hd : decode M.2.1 pc = .ok (.if_icmp .ne off, 3)) (ht : (pc : Int) + off = (tgt : Int)) (hq : pc + 3 = q) (kt : ¬ x = y → Wp D N l E M R Qf k n tgt L st g) (kf : x = y → Wp D N l E M R Qf k n q L st g) : Wp D N l E M R Qf k n pc L (.int y :: .int x :: st) g := by
  subst hq
  intro p e s m args below meth c C H locs ls hH hS hl
  exact lv_icmp_ne C.1 C.2.1 hd ht (fun hc => (kt hc p e s m args below meth c C H locs ls hH hS hl)) (fun hc => (kf hc p e s m args below meth c C H locs ls hH hS hl))
theorem wp_icmp_ne_t {tgt : Nat} {off : Int} {x y : Int32} (hd : decode M.2.1 pc = .ok (.if_icmp .ne off, 3)) (ht : (pc : Int) + off = (tgt : Int)) (hc : ¬ x = y) (kt : Wp D N l E M R Qf k n tgt L st g) : Wp D N l E M R Qf k n pc L (.int y :: .int x :: st) g :=
  wp_icmp_ne hd ht rfl (fun _ => kt) (fun h => absurd hc (fun z => z h))
theorem wp_icmp_ne_f {q : Nat} {off : Int} {tgt : Nat} {x y : Int32} (hd : decode M.2.1 pc = .ok (.if_icmp .ne off, 3)) (ht : (pc : Int) + off = (tgt : Int)) (hq : pc + 3 = q) (hc : x = y) (kf : Wp D N l E M R Qf k n q L st g) : Wp D N l E M R Qf k n pc L (.int y :: .int x :: st) g :=
  wp_icmp_ne hd ht hq (fun h => absurd hc h) (fun _ => kf)
theorem wp_if_lt {q tgt : Nat} {off : Int} {x : Int32} (hd : decode M.2.1 pc = .ok (.ifCond .lt off, 3)) (ht : (pc : Int) + off = (tgt : Int)) (hq : pc + 3 = q) (kt : x < 0 → Wp D N l E M R Qf k n tgt L st g) (kf : ¬ x < 0 → Wp D N l E M R Qf k n q L st g) : Wp D N l E M R Qf k n pc L (.int x :: st) g := by
  subst hq
  intro p e s m args below meth c C H locs ls hH hS hl
  exact lv_if_lt C.1 C.2.1 hd ht (fun hc => (kt hc p e s m args below meth c C H locs ls hH hS hl)) (fun hc => (kf hc p e s m args below meth c C H locs ls hH hS hl))
theorem wp_if_lt_t {tgt : Nat} {off : Int} {x : Int32} (hd : decode M.2.1 pc = .ok (.ifCond .lt off, 3)) (ht : (pc : Int) + off = (tgt : Int)) (hc : x < 0) (kt : Wp D N l E M R Qf k n tgt L st g) : Wp D N l E M R Qf k n pc L (.int x :: st) g :=
  wp_if_lt hd ht rfl (fun _ => kt) (fun h => absurd hc h)
theorem wp_if_lt_f {q : Nat} {off : Int} {tgt : Nat} {x : Int32} (hd : decode M.2.1 pc = .ok (.ifCond .lt off, 3)) (ht : (pc : Int) + off = (tgt : Int)) (hq : pc + 3 = q) (hc : ¬ x < 0) (kf : Wp D N l E M R Qf k n q L st g) : Wp D N l E M R Qf k n pc L (.int x :: st) g :=
  wp_if_lt hd ht hq (fun h => absurd h hc) (fun _ => kf)
theorem wp_icmp_lt {q tgt : Nat} {off : Int} {x y : Int32} (hd : decode M.2.1 pc = .ok (.if_icmp .lt off, 3)) (ht : (pc : Int) + off = (tgt : Int)) (hq : pc + 3 = q) (kt : x < y → Wp D N l E M R Qf k n tgt L st g) (kf : ¬ x < y → Wp D N l E M R Qf k n q L st g) : Wp D N l E M R Qf k n pc L (.int y :: .int x :: st) g := by
  subst hq
  intro p e s m args below meth c C H locs ls hH hS hl
  exact lv_icmp_lt C.1 C.2.1 hd ht (fun hc => (kt hc p e s m args below meth c C H locs ls hH hS hl)) (fun hc => (kf hc p e s m args below meth c C H locs ls hH hS hl))
theorem wp_icmp_lt_t {tgt : Nat} {off : Int} {x y : Int32} (hd : decode M.2.1 pc = .ok (.if_icmp .lt off, 3)) (ht : (pc : Int) + off = (tgt : Int)) (hc : x < y) (kt : Wp D N l E M R Qf k n tgt L st g) : Wp D N l E M R Qf k n pc L (.int y :: .int x :: st) g :=
  wp_icmp_lt hd ht rfl (fun _ => kt) (fun h => absurd hc h)
theorem wp_icmp_lt_f {q : Nat} {off : Int} {tgt : Nat} {x y : Int32} (hd : decode M.2.1 pc = .ok (.if_icmp .lt off, 3)) (ht : (pc : Int) + off = (tgt : Int)) (hq : pc + 3 = q) (hc : ¬ x < y) (kf : Wp D N l E M R Qf k n q L st g) : Wp D N l E M R Qf k n pc L (.int y :: .int x :: st) g :=
  wp_icmp_lt hd ht hq (fun h => absurd h hc) (fun _ => kf)
theorem wp_if_ge {q tgt : Nat} {off : Int} {x : Int32} (hd : decode M.2.1 pc = .ok (.ifCond .ge off, 3)) (ht : (pc : Int) + off = (tgt : Int)) (hq : pc + 3 = q) (kt : 0 ≤ x → Wp D N l E M R Qf k n tgt L st g) (kf : ¬ 0 ≤ x → Wp D N l E M R Qf k n q L st g) : Wp D N l E M R Qf k n pc L (.int x :: st) g := by
  subst hq
  intro p e s m args below meth c C H locs ls hH hS hl
  exact lv_if_ge C.1 C.2.1 hd ht (fun hc => (kt hc p e s m args below meth c C H locs ls hH hS hl)) (fun hc => (kf hc p e s m args below meth c C H locs ls hH hS hl))
theorem wp_if_ge_t {tgt : Nat} {off : Int} {x : Int32} (hd : decode M.2.1 pc = .ok (.ifCond .ge off, 3)) (ht : (pc : Int) + off = (tgt : Int)) (hc : 0 ≤ x) (kt : Wp D N l E M R Qf k n tgt L st g) : Wp D N l E M R Qf k n pc L (.int x :: st) g :=
  wp_if_ge hd ht rfl (fun _ => kt) (fun h => absurd hc h)
theorem wp_if_ge_f {q : Nat} {off : Int} {tgt : Nat} {x : Int32} (hd : decode M.2.1 pc = .ok (.ifCond .ge off, 3)) (ht : (pc : Int) + off = (tgt : Int)) (hq : pc + 3 = q) (hc : ¬ 0 ≤ x) (kf : Wp D N l E M R Qf k n q L st g) : Wp D N l E M R Qf k n pc L (.int x :: st) g :=
  wp_if_ge hd ht hq (fun h => absurd h hc) (fun _ => kf)
theorem wp_icmp_ge {q tgt : Nat} {off : Int} {x y : Int32} (hd : decode M.2.1 pc = .ok (.if_icmp .ge off, 3)) (ht : (pc : Int) + off = (tgt : Int)) (hq : pc + 3 = q) (kt : y ≤ x → Wp D N l E M R Qf k n tgt L st g) (kf : ¬ y ≤ x → Wp D N l E M R Qf k n q L st g) : Wp D N l E M R Qf k n pc L (.int y :: .int x :: st) g := by
  subst hq
  intro p e s m args below meth c C H locs ls hH hS hl
  exact lv_icmp_ge C.1 C.2.1 hd ht (fun hc => (kt hc p e s m args below meth c C H locs ls hH hS hl)) (fun hc => (kf hc p e s m args below meth c C H locs ls hH hS hl))
theorem wp_icmp_ge_t {tgt : Nat} {off : Int} {x y : Int32} (hd : decode M.2.1 pc = .ok (.if_icmp .ge off, 3)) (ht : (pc : Int) + off = (tgt : Int)) (hc : y ≤ x) (kt : Wp D N l E M R Qf k n tgt L st g) : Wp D N l E M R Qf k n pc L (.int y :: .int x :: st) g :=
  wp_icmp_ge hd ht rfl (fun _ => kt) (fun h => absurd hc h)
theorem wp_icmp_ge_f {q : Nat} {off : Int} {tgt : Nat} {x y : Int32} (hd : decode M.2.1 pc = .ok (.if_icmp .ge off, 3)) (ht : (pc : Int) + off = (tgt : Int)) (hq : pc + 3 = q) (hc : ¬ y ≤ x) (kf : Wp D N l E M R Qf k n q L st g) : Wp D N l E M R Qf k n pc L (.int y :: .int x :: st) g :=
  wp_icmp_ge hd ht hq (fun h => absurd h hc) (fun _ => kf)
theorem wp_if_gt {q tgt : Nat} {off : Int} {x : Int32} (hd : decode M.2.1 pc = .ok (.ifCond .gt off, 3)) (ht : (pc : Int) + off = (tgt : Int)) (hq : pc + 3 = q) (kt : 0 < x → Wp D N l E M R Qf k n tgt L st g) (kf : ¬ 0 < x → Wp D N l E M R Qf k n q L st g) : Wp D N l E M R Qf k n pc L (.int x :: st) g := by
  subst hq
  intro p e s m args below meth c C H locs ls hH hS hl
  exact lv_if_gt C.1 C.2.1 hd ht (fun hc => (kt hc p e s m args below meth c C H locs ls hH hS hl)) (fun hc => (kf hc p e s m args below meth c C H locs ls hH hS hl))
theorem wp_if_gt_t {tgt : Nat} {off : Int} {x : Int32} (hd : decode M.2.1 pc = .ok (.ifCond .gt off, 3)) (ht : (pc : Int) + off = (tgt : Int)) (hc : 0 < x) (kt : Wp D N l E M R Qf k n tgt L st g) : Wp D N l E M R Qf k n pc L (.int x :: st) g :=
  wp_if_gt hd ht rfl (fun _ => kt) (fun h => absurd hc h)
theorem wp_if_gt_f {q : Nat} {off : Int} {tgt : Nat} {x : Int32} (hd : decode M.2.1 pc = .ok (.ifCond .gt off, 3)) (ht : (pc : Int) + off = (tgt : Int)) (hq : pc + 3 = q) (hc : ¬ 0 < x) (kf : Wp D N l E M R Qf k n q L st g) : Wp D N l E M R Qf k n pc L (.int x :: st) g :=
  wp_if_gt hd ht hq (fun h => absurd h hc) (fun _ => kf)
theorem wp_icmp_gt {q tgt : Nat} {off : Int} {x y : Int32} (hd : decode M.2.1 pc = .ok (.if_icmp .gt off, 3)) (ht : (pc : Int) + off = (tgt : Int)) (hq : pc + 3 = q) (kt : y < x → Wp D N l E M R Qf k n tgt L st g) (kf : ¬ y < x → Wp D N l E M R Qf k n q L st g) : Wp D N l E M R Qf k n pc L (.int y :: .int x :: st) g := by
  subst hq
  intro p e s m args below meth c C H locs ls hH hS hl
  exact lv_icmp_gt C.1 C.2.1 hd ht (fun hc => (kt hc p e s m args below meth c C H locs ls hH hS hl)) (fun hc => (kf hc p e s m args below meth c C H locs ls hH hS hl))
theorem wp_icmp_gt_t {tgt : Nat} {off : Int} {x y : Int32} (hd : decode M.2.1 pc = .ok (.if_icmp .gt off, 3)) (ht : (pc : Int) + off = (tgt : Int)) (hc : y < x) (kt : Wp D N l E M R Qf k n tgt L st g) : Wp D N l E M R Qf k n pc L (.int y :: .int x :: st) g :=
  wp_icmp_gt hd ht rfl (fun _ => kt) (fun h => absurd hc h)
theorem wp_icmp_gt_f {q : Nat} {off : Int} {tgt : Nat} {x y : Int32} (hd : decode M.2.1 pc = .ok (.if_icmp .gt off, 3)) (ht : (pc : Int) + off = (tgt : Int)) (hq : pc + 3 = q) (hc : ¬ y < x) (kf : Wp D N l E M R Qf k n q L st g) : Wp D N l E M R Qf k n pc L (.int y :: .int x :: st) g :=
  wp_icmp_gt hd ht hq (fun h => absurd h hc) (fun _ => kf)
theorem wp_if_le {q tgt : Nat} {off : Int} {x : Int32} (hd : decode M.2.1 pc = .ok (.ifCond .le off, 3)) (ht : (pc : Int) + off = (tgt : Int)) (hq : pc + 3 = q) (kt : x ≤ 0 → Wp D N l E M R Qf k n tgt L st g) (kf : ¬ x ≤ 0 → Wp D N l E M R Qf k n q L st g) : Wp D N l E M R Qf k n pc L (.int x :: st) g := by
  subst hq
  intro p e s m args below meth c C H locs ls hH hS hl
  exact lv_if_le C.1 C.2.1 hd ht (fun hc => (kt hc p e s m args below meth c C H locs ls hH hS hl)) (fun hc => (kf hc p e s m args below meth c C H locs ls hH hS hl))
theorem wp_if_le_t {tgt : Nat} {off : Int} {x : Int32} (hd : decode M.2.1 pc = .ok (.ifCond .le off, 3)) (ht : (pc : Int) + off = (tgt : Int)) (hc : x ≤ 0) (kt : Wp D N l E M R Qf k n tgt L st g) : Wp D N l E M R Qf k n pc L (.int x :: st) g :=
  wp_if_le hd ht rfl (fun _ => kt) (fun h => absurd hc h)
theorem wp_if_le_f {q : Nat} {off : Int} {tgt : Nat} {x : Int32} (hd : decode M.2.1 pc = .ok (.ifCond .le off, 3)) (ht : (pc : Int) + off = (tgt : Int)) (hq : pc + 3 = q) (hc : ¬ x ≤ 0) (kf : Wp D N l E M R Qf k n q L st g) : Wp D N l E M R Qf k n pc L (.int x :: st) g :=
  wp_if_le hd ht hq (fun h => absurd h hc) (fun _ => kf)
theorem wp_icmp_le {q tgt : Nat} {off : Int} {x y : Int32} (hd : decode M.2.1 pc = .ok (.if_icmp .le off, 3)) (ht : (pc : Int) + off = (tgt : Int)) (hq : pc + 3 = q) (kt : x ≤ y → Wp D N l E M R Qf k n tgt L st g) (kf : ¬ x ≤ y → Wp D N l E M R Qf k n q L st g) : Wp D N l E M R Qf k n pc L (.int y :: .int x :: st) g := by
  subst hq
  intro p e s m args below meth c C H locs ls hH hS hl
  exact lv_icmp_le C.1 C.2.1 hd ht (fun hc => (kt hc p e s m args below meth c C H locs ls hH hS hl)) (fun hc => (kf hc p e s m args below meth c C H locs ls hH hS hl))
theorem wp_icmp_le_t {tgt : Nat} {off : Int} {x y : Int32} (hd : decode M.2.1 pc = .ok (.if_icmp .le off, 3)) (ht : (pc : Int) + off = (tgt : Int)) (hc : x ≤ y) (kt : Wp D N l E M R Qf k n tgt L st g) : Wp D N l E M R Qf k n pc L (.int y :: .int x :: st) g :=
  wp_icmp_le hd ht rfl (fun _ => kt) (fun h => absurd hc h)
theorem wp_icmp_le_f {q : Nat} {off : Int} {tgt : Nat} {x y : Int32} (hd : decode M.2.1 pc = .ok (.if_icmp .le off, 3)) (ht : (pc : Int) + off = (tgt : Int)) (hq : pc + 3 = q) (hc : ¬ x ≤ y) (kf : Wp D N l E M R Qf k n q L st g) : Wp D N l E M R Qf k n pc L (.int y :: .int x :: st) g :=
  wp_icmp_le hd ht hq (fun h => absurd h hc) (fun _ => kf)
theorem wp_goto {tgt : Nat} {off : Int} (hd : decode M.2.1 pc = .ok (.goto off, 3)) (ht : (pc : Int) + off = (tgt : Int)) (h : Wp D N l E M R Qf k n tgt L st g) : Wp D N l E M R Qf k n pc L st g := by
  intro p e s m args below meth c C H locs ls hH hS hl
  exact lv_goto C.1 C.2.1 hd ht (h p e s m args below meth c C H locs ls hH hS hl)
theorem wp_tabIn {tgt : Nat} {dflt lo hi off : Int} {offs : Array Int} {len : Nat} {x : Int32} (hd : decode M.2.1 pc = .ok (.tableswitch dflt lo hi offs, len)) (h1 : ¬ x.toInt < lo) (h2 : ¬ hi < x.toInt) (ho : offs[(x.toInt - lo).toNat]? = some off) (ht : (pc : Int) + off = (tgt : Int)) (h : Wp D N l E M R Qf k n tgt L st g) : Wp D N l E M R Qf k n pc L (.int x :: st) g := by
  intro p e s m args below meth c C H locs ls hH hS hl
  exact lv_tableIn C.1 C.2.1 hd h1 h2 ho ht (h p e s m args below meth c C H locs ls hH hS hl)
theorem wp_tabOut {tgt : Nat} {dflt lo hi : Int} {offs : Array Int} {len : Nat} {x : Int32} (hd : decode M.2.1 pc = .ok (.tableswitch dflt lo hi offs, len)) (h1 : x.toInt < lo ∨ hi < x.toInt) (ht : (pc : Int) + dflt = (tgt : Int)) (h : Wp D N l E M R Qf k n tgt L st g) : Wp D N l E M R Qf k n pc L (.int x :: st) g := by
  intro p e s m args below meth c C H locs ls hH hS hl
  exact lv_tableOut C.1 C.2.1 hd h1 ht (h p e s m args below meth c C H locs ls hH hS hl)
theorem wp_ifnull {q : Nat} {off : Int} {x : Nat} (hd : decode M.2.1 pc = .ok (.ifnull off, 3)) (hq : pc + 3 = q) (h : Wp D N l E M R Qf k n q L st g) : Wp D N l E M R Qf k n pc L (.ref x :: st) g := by
  subst hq
  intro p e s m args below meth c C H locs ls hH hS hl
  exact lv_ifnull C.1 C.2.1 hd (h p e s m args below meth c C H locs ls hH hS hl)
theorem wp_ifnonnull {tgt : Nat} {off : Int} {x : Nat} (hd : decode M.2.1 pc = .ok (.ifnonnull off, 3)) (ht : (pc : Int) + off = (tgt : Int)) (h : Wp D N l E M R Qf k n tgt L st g) : Wp D N l E M R Qf k n pc L (.ref x :: st) g := by
  intro p e s m args below meth c C H locs ls hH hS hl
  exact lv_ifnonnull C.1 C.2.1 hd ht (h p e s m args below meth c C H locs ls hH hS hl)
theorem wp_iret {mc ms : Nat} {K : Option Value → List va_E → Prop} {v : Int32} (hd : decode M.2.1 pc = .ok (.ireturn, 1)) (hr : M.2.2.2 = some .int) (hk : k ≤ mc) (hn : n ≤ ms) (h : K (some (.int v)) g) : Wp D N l E M R (Qm D N K mc ms) k n pc L [.int v] g := by
  intro p e s m args below meth c C H locs ls hH hS hl
  refine W.widen hk hn ?_
  exact W.iret C.1 C.2.1 (C.2.2.2.2.2.2.2.1.trans hr) (fun t ht hW => ⟨⟨_, g, rfl, h, by rw [ht]; exact hH⟩, hS.F ht⟩) hS.2.2 hd C.2.2.2.2.2.2.1
theorem wp_zret {mc ms : Nat} {K : Option Value → List va_E → Prop} {v : Int32} {ty : FieldType} (hd : decode M.2.1 pc = .ok (.ireturn, 1)) (hr : M.2.2.2 = some ty) (hv : narrow ty (.int v) = .int v) (hk : k ≤ mc) (hn : n ≤ ms) (h : K (some (.int v)) g) : Wp D N l E M R (Qm D N K mc ms) k n pc L [.int v] g := by
  intro p e s m args below meth c C H locs ls hH hS hl
  refine W.widen hk hn ?_
  exact W.zret C.1 C.2.1 (C.2.2.2.2.2.2.2.1.trans hr) hv (fun t ht hW => ⟨⟨_, g, rfl, h, by rw [ht]; exact hH⟩, hS.F ht⟩) hS.2.2 hd C.2.2.2.2.2.2.1
theorem wp_lret {mc ms : Nat} {K : Option Value → List va_E → Prop} {v : Int64} (hd : decode M.2.1 pc = .ok (.lreturn, 1)) (hr : M.2.2.2 = some .long) (hk : k ≤ mc) (hn : n ≤ ms) (h : K (some (.long v)) g) : Wp D N l E M R (Qm D N K mc ms) k n pc L [.long v] g := by
  intro p e s m args below meth c C H locs ls hH hS hl
  refine W.widen hk hn ?_
  exact W.lret C.1 C.2.1 (C.2.2.2.2.2.2.2.1.trans hr) (fun t ht hW => ⟨⟨_, g, rfl, h, by rw [ht]; exact hH⟩, hS.F ht⟩) hS.2.2 hd C.2.2.2.2.2.2.1
theorem wp_vret {mc ms : Nat} {K : Option Value → List va_E → Prop}  (hd : decode M.2.1 pc = .ok (.return_, 1)) (hr : M.2.2.2 = none) (hk : k ≤ mc) (hn : n ≤ ms) (h : K none g) : Wp D N l E M R (Qm D N K mc ms) k n pc L [] g := by
  intro p e s m args below meth c C H locs ls hH hS hl
  refine W.widen hk hn ?_
  exact W.vret C.1 C.2.1 (C.2.2.2.2.2.2.2.1.trans hr) (fun t ht hW => ⟨⟨_, g, rfl, h, by rw [ht]; exact hH⟩, hS.F ht⟩) hS.2.2 hd C.2.2.2.2.2.2.1
theorem wp_aret {mc ms : Nat} {K : Option Value → List va_E → Prop} {v : Value} {ty : FieldType} (hd : decode M.2.1 pc = .ok (.areturn, 1)) (hr : M.2.2.2 = some ty) (hty : (∃ n, ty = .object n) ∨ ∃ t, ty = .array t) (hv : v = .null ∨ ∃ a, v = .ref a) (hk : k ≤ mc) (hn : n ≤ ms) (h : K (some v) g) : Wp D N l E M R (Qm D N K mc ms) k n pc L [v] g := by
  intro p e s m args below meth c C H locs ls hH hS hl
  refine W.widen hk hn ?_
  exact W.aret C.1 C.2.1 (C.2.2.2.2.2.2.2.1.trans hr) hty hv (fun t ht hW => ⟨⟨_, g, rfl, h, by rw [ht]; exact hH⟩, hS.F ht⟩) hS.2.2 hd C.2.2.2.2.2.2.1
end WP
end
section
def FL (own : String) (idx ci kf : Nat) (ty : FieldType) (fin : Bool) : Prop := ∃ (C : String) (T : u_T) (n : Nat) (ty0 : Nat → FieldType), classes[ci]? = some (C, T, n) ∧ kf < n ∧ Cond.fieldLink own idx (T kf).1 (T kf).2.1 (T kf).2.2.1 ∈ lw_good ∧ (∀ w ∈ u_ws C T n, w ∈ lw_good) ∧ (∀ k, k < n → parseFieldDescriptor (T k).2.2.1 = some (ty0 k)) ∧ (∀ a, a < n → ∀ b, b < n → a ≠ b → (T a).2.1 ≠ (T b).2.1) ∧ parseFieldDescriptor (T kf).2.2.1 = some ty ∧ (T kf).2.2.2 = fin ∧ (T kf).1 = C
section WH
variable {D : xD} {N : Nat} {l : Launch} {E : EX} {M : MD} {R : Room} {Qf : QF} {k n pc : Nat} {L : List (Nat × Value)} {st : List Value} {g : List va_E}
theorem wp_get {q i ci kf idx : Nat} {ty : FieldType} {fin : Bool} {fs : List Value} {v : Value} (hF : FL M.1.cls idx ci kf ty fin) (hd : decode M.2.1 pc = .ok (.getfield idx, 3)) (hq : pc + 3 = q) (hr : g[i]? = some (.inr (ci, fs))) (hv : fs[kf]? = some v) (h : Wp D N l E M R Qf k n q L (v :: st) g) : Wp D N l E M R Qf k n pc L (.ref (N + i) :: st) g := by
  subst hq
  intro p e s m args below meth c C H locs ls hH hS hl
  obtain ⟨Cn, T, nf, ty0, hc, hk, hlk, hin, hty, hnm, -⟩ := hF
  exact va_get (ws := [(N + i, .inr (ci, fs))]) C.1 C.2.1 C.2.2.2.2.1 hin C.2.2.2.1 C.2.2.2.2.2.1.1 (hH.one hr) 0 rfl hc kf hk (C.2.2.2.2.1 _ hlk) (fun _ h => h) hv hd (h p e s m args below meth c C H locs ls hH hS hl)
theorem wp_put {q i ci kf idx : Nat} {ty : FieldType} {fs : List Value} {v : Value} {g2 : List va_E} (hF : FL M.1.cls idx ci kf ty false) (hd : decode M.2.1 pc = .ok (.putfield idx, 3)) (hq : pc + 3 = q) (hr : g[i]? = some (.inr (ci, fs))) (hlt : kf < fs.length) (hn : narrow ty v = v) (hfit : fits ty v = true) (hg : g.set i (.inr (ci, fs.set kf v)) = g2) (h : Wp D N l E M R Qf k n q L st g2) : Wp D N l E M R Qf k n pc L (v :: .ref (N + i) :: st) g := by
  subst hq
  subst hg
  intro p e s m args below meth c C H locs ls hH hS hl
  obtain ⟨Cn, T, nf, ty0, hc, hk, hlk, hin, hty, hnm, hd1, hfin, -⟩ := hF
  have hK := C.2.2.2.2.2.1.1
  have hts := C.2.2.2.2.1
  have hap := va_apart (own := M.1.cls) hts hin ty0 hty hnm hK hc
  obtain ⟨r, h1, cell, q1, q2, q3, q4⟩ := hH.2 i _ hr
  have hr2 : r = (Cn, T, nf) := Option.some.inj (h1.symm.trans hc)
  subst hr2
  obtain ⟨hS2, hfc, kC, hkC, hkind⟩ := hK.1 ci _ hc
  obtain ⟨cf, kf2, fi, f, hi, hsl⟩ := hS2 kf hk
  have hlay := hts _ (hin _ (u_in_lay hk))
  unfold u_lay at hlay
  rw [if_neg (by rw [hfin]; decide)] at hlay
  have hst := (u_facts hfc hkC (u_lays hts hin hk) hi).1
  have h6 := u_store hfc hkC hkind hlay hi hd1 hn hfit
  refine W.putK C.1 C.2.1 (f := f) ⟨C.2.2.2.1, hts _ hlk, ⟨_, _, _, hi⟩, hst⟩ (by rw [q2]; exact h6) q1 q3 (by rw [hsl]; exact k2_hasslot (q4 kf hk)) rfl rfl hd fun H1 e1 e2 e3 => ?_
  rw [hsl] at e1 ⊢
  exact h p e s m args below meth c C H1 _ ls (hH.set hr ⟨_, hc, t_OB.to (V := updV (vp_V fs) kf v) ⟨_, e1, q2, q3, t_set q4 hap hk v⟩ (fun j _ => vp_updV_set hlt v j)⟩ e2 e3) (hS.put e2 e3 (Nat.le_add_right N i)) hl
theorem wp_putF {q i ci kf idx : Nat} {ty : FieldType} {fs : List Value} {v : Value} {g2 : List va_E} (hF : FL M.1.cls idx ci kf ty true) (hE : ∀ s a meth, E s a meth → meth.name = "<init>") (hown : classes[ci]?.map (fun r => r.1) = some M.1.cls) (hd : decode M.2.1 pc = .ok (.putfield idx, 3)) (hq : pc + 3 = q) (hr : g[i]? = some (.inr (ci, fs))) (hlt : kf < fs.length) (hn : narrow ty v = v) (hfit : fits ty v = true) (hg : g.set i (.inr (ci, fs.set kf v)) = g2) (h : Wp D N l E M R Qf k n q L st g2) : Wp D N l E M R Qf k n pc L (v :: .ref (N + i) :: st) g := by
  subst hq
  subst hg
  intro p e s m args below meth c C H locs ls hH hS hl
  obtain ⟨Cn, T, nf, ty0, hc, hk, hlk, hin, hty, hnm, hd1, hfin, hdc⟩ := hF
  have hK := C.2.2.2.2.2.1.1
  have hts := C.2.2.2.2.1
  have hap := va_apart (own := M.1.cls) hts hin ty0 hty hnm hK hc
  obtain ⟨r, h1, cell, q1, q2, q3, q4⟩ := hH.2 i _ hr
  have hr2 : r = (Cn, T, nf) := Option.some.inj (h1.symm.trans hc)
  subst hr2
  have hdecl : (T kf).1 = M.1.cls := by
    rw [hdc]
    rw [hc] at hown
    exact Option.some.inj hown
  obtain ⟨hS2, hfc, kC, hkC, hkind⟩ := hK.1 ci _ hc
  obtain ⟨cf, kf2, fi, f, hi, hsl⟩ := hS2 kf hk
  have hlay := hts _ (hin _ (u_in_lay hk))
  unfold u_lay at hlay
  rw [if_pos hfin] at hlay
  have hst := (u_facts hfc hkC (u_lays hts hin hk) hi).1
  have hcf : m.cls = cf := by
    obtain ⟨_, _, c', _, _, _, -, -, hf', -, -, -, hown2, -⟩ := Cond.laysFinal_spec hlay
    have e1 : c' = cf := by have := hi.symm.trans hf'; simp at this; exact this.1.symm
    rw [hdecl] at hown2
    rw [← e1]; exact Option.some.inj (C.2.2.2.1.symm.trans hown2)
  have h6 := u_fits hfc hkC hkind (Or.inr hlay) hi hd1 hn hfit
  refine W.putFinK C.1 C.2.1 C.2.2.2.1 (hts _ hlk) hi hst hcf (hE _ _ _ C.2.2.2.2.2.2.2.2.2) (by rw [q2]; exact h6) q1 q3 (by rw [hsl]; exact k2_hasslot (q4 kf hk)) rfl rfl hd fun H1 e1 e2 e3 => ?_
  rw [hsl] at e1 ⊢
  exact h p e s m args below meth c C H1 _ ls (hH.set hr ⟨_, hc, t_OB.to (V := updV (vp_V fs) kf v) ⟨_, e1, q2, q3, t_set q4 hap hk v⟩ (fun j _ => vp_updV_set hlt v j)⟩ e2 e3) (hS.put e2 e3 (Nat.le_add_right N i)) hl
theorem nI_vp {j m : Nat} (hj : j < m) (hm : m < 2147483648) : vp_in (nI j) m := vp_in_nI hj hm
theorem nI_cl {j m : Nat} (hj : j < m) (hm : m < 2147483648) : (nI j).toNatClampNeg = j := nI_clamp (by omega)
theorem wp_iald {q i j m' : Nat} {f : Nat → Int32} (hd : decode M.2.1 pc = .ok (.iaload, 1)) (hq : pc + 1 = q) (hr : g[i]? = some (.inl (D.2.1 0, m', .inl f))) (hj : j < m') (hm : m' < 2147483648) (h : Wp D N l E M R Qf k n q L (.int (f j) :: st) g) : Wp D N l E M R Qf k n pc L (.int (nI j) :: .ref (N + i) :: st) g := by
  subst hq
  intro p e s m args below meth c C H locs ls hH hS hl
  refine va_iald (ws := [(N + i, .inl (D.2.1 0, m', .inl f))]) C.1 C.2.1 C.2.2.2.2.2.1.1 (hH.one hr) 0 0 rfl rfl (nI_vp hj hm) hd ?_
  rw [nI_cl hj hm]
  exact (h p e s m args below meth c C H locs ls hH hS hl)
theorem wp_bald {q i j m' : Nat} {f : Nat → Int32} (hd : decode M.2.1 pc = .ok (.baload, 1)) (hq : pc + 1 = q) (hr : g[i]? = some (.inl (D.2.1 1, m', .inl f))) (hj : j < m') (hm : m' < 2147483648) (h : Wp D N l E M R Qf k n q L (.int (f j) :: st) g) : Wp D N l E M R Qf k n pc L (.int (nI j) :: .ref (N + i) :: st) g := by
  subst hq
  intro p e s m args below meth c C H locs ls hH hS hl
  refine va_bald (ws := [(N + i, .inl (D.2.1 1, m', .inl f))]) C.1 C.2.1 C.2.2.2.2.2.1.1 (hH.one hr) 0 1 rfl rfl (nI_vp hj hm) hd ?_
  rw [nI_cl hj hm]
  exact (h p e s m args below meth c C H locs ls hH hS hl)
theorem wp_zald {q i j m' : Nat} {f : Nat → Int32} (hd : decode M.2.1 pc = .ok (.baload, 1)) (hq : pc + 1 = q) (hr : g[i]? = some (.inl (D.2.1 3, m', .inl f))) (hj : j < m') (hm : m' < 2147483648) (h : Wp D N l E M R Qf k n q L (.int (f j) :: st) g) : Wp D N l E M R Qf k n pc L (.int (nI j) :: .ref (N + i) :: st) g := by
  subst hq
  intro p e s m args below meth c C H locs ls hH hS hl
  refine va_zald (ws := [(N + i, .inl (D.2.1 3, m', .inl f))]) C.1 C.2.1 C.2.2.2.2.2.1.1 (hH.one hr) 0 3 rfl rfl (nI_vp hj hm) hd ?_
  rw [nI_cl hj hm]
  exact (h p e s m args below meth c C H locs ls hH hS hl)
theorem wp_lald {q i j m' : Nat} {f : Nat → Int64} (hd : decode M.2.1 pc = .ok (.laload, 1)) (hq : pc + 1 = q) (hr : g[i]? = some (.inl (D.2.1 2, m', .inr (.inl f)))) (hj : j < m') (hm : m' < 2147483648) (h : Wp D N l E M R Qf k n q L (.long (f j) :: st) g) : Wp D N l E M R Qf k n pc L (.int (nI j) :: .ref (N + i) :: st) g := by
  subst hq
  intro p e s m args below meth c C H locs ls hH hS hl
  refine va_lald (ws := [(N + i, .inl (D.2.1 2, m', .inr (.inl f)))]) C.1 C.2.1 C.2.2.2.2.2.1.1 (hH.one hr) 0 2 rfl rfl (nI_vp hj hm) hd ?_
  rw [nI_cl hj hm]
  exact (h p e s m args below meth c C H locs ls hH hS hl)
theorem wp_aaldR {q i j m' : Nat} {f : Nat → Option Nat} (hd : decode M.2.1 pc = .ok (.aaload, 1)) (hq : pc + 1 = q) (hr : g[i]? = some (.inl (D.2.1 4, m', .inr (.inr (.inr (.inr f)))))) (hj : j < m') (hm : m' < 2147483648) (h : Wp D N l E M R Qf k n q L (va_rf (f j) :: st) g) : Wp D N l E M R Qf k n pc L (.int (nI j) :: .ref (N + i) :: st) g := by
  subst hq
  intro p e s m args below meth c C H locs ls hH hS hl
  have hin := nI_vp hj hm
  refine W.aald (v := va_rf (f j)) (ty := .object "FillAndGo$Ride") C.1 C.2.1 (hH.2 i _ hr) ((C.2.2.2.2.2.1.1.2 4 _ rfl).1 m' (fun j => va_rf (f j))) rfl (fun q => by cases q) (by show ¬ (nI j < 0 ∨ (arrV _ _ _).slots.size ≤ _); rw [arrV_size]; exact hin) (by show (arrV _ _ _).slots[_]? = _; rw [nI_cl hj hm, arrV_read _ _ hj]) rfl rfl hd (h p e s m args below meth c C H locs ls hH hS hl)
theorem wp_aaldL {q i j m' : Nat} {f : Nat → Option Nat} (hd : decode M.2.1 pc = .ok (.aaload, 1)) (hq : pc + 1 = q) (hr : g[i]? = some (.inl (D.2.1 5, m', .inr (.inr (.inr (.inr f)))))) (hj : j < m') (hm : m' < 2147483648) (h : Wp D N l E M R Qf k n q L (va_rf (f j) :: st) g) : Wp D N l E M R Qf k n pc L (.int (nI j) :: .ref (N + i) :: st) g := by
  subst hq
  intro p e s m args below meth c C H locs ls hH hS hl
  have hin := nI_vp hj hm
  refine W.aald (v := va_rf (f j)) (ty := .object "FillAndGo$Line") C.1 C.2.1 (hH.2 i _ hr) ((C.2.2.2.2.2.1.1.2 5 _ rfl).1 m' (fun j => va_rf (f j))) rfl (fun q => by cases q) (by show ¬ (nI j < 0 ∨ (arrV _ _ _).slots.size ≤ _); rw [arrV_size]; exact hin) (by show (arrV _ _ _).slots[_]? = _; rw [nI_cl hj hm, arrV_read _ _ hj]) rfl rfl hd (h p e s m args below meth c C H locs ls hH hS hl)
theorem wp_aaldK {q i j m' : Nat} {f : Nat → Option Nat} (hd : decode M.2.1 pc = .ok (.aaload, 1)) (hq : pc + 1 = q) (hr : g[i]? = some (.inl (D.2.1 6, m', .inr (.inr (.inr (.inr f)))))) (hj : j < m') (hm : m' < 2147483648) (h : Wp D N l E M R Qf k n q L (va_rf (f j) :: st) g) : Wp D N l E M R Qf k n pc L (.int (nI j) :: .ref (N + i) :: st) g := by
  subst hq
  intro p e s m args below meth c C H locs ls hH hS hl
  have hin := nI_vp hj hm
  refine W.aald (v := va_rf (f j)) (ty := .object "FillAndGo$Run") C.1 C.2.1 (hH.2 i _ hr) ((C.2.2.2.2.2.1.1.2 6 _ rfl).1 m' (fun j => va_rf (f j))) rfl (fun q => by cases q) (by show ¬ (nI j < 0 ∨ (arrV _ _ _).slots.size ≤ _); rw [arrV_size]; exact hin) (by show (arrV _ _ _).slots[_]? = _; rw [nI_cl hj hm, arrV_read _ _ hj]) rfl rfl hd (h p e s m args below meth c C H locs ls hH hS hl)
theorem wp_aaldA {q i j m' : Nat} {f : Nat → Option Nat} (hd : decode M.2.1 pc = .ok (.aaload, 1)) (hq : pc + 1 = q) (hr : g[i]? = some (.inl (D.2.1 7, m', .inr (.inr (.inr (.inr f)))))) (hj : j < m') (hm : m' < 2147483648) (h : Wp D N l E M R Qf k n q L (va_rf (f j) :: st) g) : Wp D N l E M R Qf k n pc L (.int (nI j) :: .ref (N + i) :: st) g := by
  subst hq
  intro p e s m args below meth c C H locs ls hH hS hl
  have hin := nI_vp hj hm
  refine W.aald (v := va_rf (f j)) (ty := .array .int) C.1 C.2.1 (hH.2 i _ hr) ((C.2.2.2.2.2.1.1.2 7 _ rfl).1 m' (fun j => va_rf (f j))) rfl (fun q => by cases q) (by show ¬ (nI j < 0 ∨ (arrV _ _ _).slots.size ≤ _); rw [arrV_size]; exact hin) (by show (arrV _ _ _).slots[_]? = _; rw [nI_cl hj hm, arrV_read _ _ hj]) rfl rfl hd (h p e s m args below meth c C H locs ls hH hS hl)
theorem wp_iast {q i j m' : Nat} {f : Nat → Int32} {x : Int32} {g2 : List va_E} (hd : decode M.2.1 pc = .ok (.iastore, 1)) (hq : pc + 1 = q) (hr : g[i]? = some (.inl (D.2.1 0, m', .inl f))) (hj : j < m') (hm : m' < 2147483648) (hg : g.set i (.inl (D.2.1 0, m', .inl (upd f j x))) = g2) (h : Wp D N l E M R Qf k n q L st g2) : Wp D N l E M R Qf k n pc L (.int x :: .int (nI j) :: .ref (N + i) :: st) g := by
  subst hq
  subst hg
  intro p e s m args below meth c C H locs ls hH hS hl
  have hin := nI_vp hj hm
  refine W.iast C.1 C.2.1 (hH.2 i _ hr) ((C.2.2.2.2.2.1.1.2 0 _ rfl).1 m' (fun j => .int (f j))) (fun q => by cases q) (by show ¬ (nI j < 0 ∨ (arrV _ _ _).slots.size ≤ _); rw [arrV_size]; exact hin) rfl rfl hd fun H1 e1 z oq => ?_
  refine h p e s m args below meth c C H1 _ ls (hH.set hr ?_ z oq) (hS.put z oq (Nat.le_add_right N i)) hl
  show H1[N + i]? = some (vp_cell _ _)
  rw [e1]
  rw [vp_cell_i, vp_cell_i, arrV_store, nI_cl hj hm]
  congr 2
  funext q
  by_cases hq : q = j
  · subst hq
    simp [updV, upd]
  · simp [updV, upd, hq]
theorem wp_last {q i j m' : Nat} {f : Nat → Int64} {x : Int64} {g2 : List va_E} (hd : decode M.2.1 pc = .ok (.lastore, 1)) (hq : pc + 1 = q) (hr : g[i]? = some (.inl (D.2.1 2, m', .inr (.inl f)))) (hj : j < m') (hm : m' < 2147483648) (hg : g.set i (.inl (D.2.1 2, m', .inr (.inl (vp_updL f j x)))) = g2) (h : Wp D N l E M R Qf k n q L st g2) : Wp D N l E M R Qf k n pc L (.long x :: .int (nI j) :: .ref (N + i) :: st) g := by
  subst hq
  subst hg
  intro p e s m args below meth c C H locs ls hH hS hl
  have hin := nI_vp hj hm
  refine W.last C.1 C.2.1 (hH.2 i _ hr) ((C.2.2.2.2.2.1.1.2 2 _ rfl).1 m' (fun j => .long (f j))) (fun q => by cases q) (by show ¬ (nI j < 0 ∨ (arrV _ _ _).slots.size ≤ _); rw [arrV_size]; exact hin) rfl rfl hd fun H1 e1 z oq => ?_
  refine h p e s m args below meth c C H1 _ ls (hH.set hr ?_ z oq) (hS.put z oq (Nat.le_add_right N i)) hl
  show H1[N + i]? = some (vp_cell _ _)
  rw [e1]
  rw [vp_cell_l, vp_cell_l, arrV_store, nI_cl hj hm]
  congr 2
  funext q
  by_cases hq : q = j
  · subst hq
    simp [updV, vp_updL]
  · simp [updV, vp_updL, hq]
theorem wp_bast {q i j m' : Nat} {f : Nat → Int32} {x x2 : Int32} {g2 : List va_E} (hd : decode M.2.1 pc = .ok (.bastore, 1)) (hq : pc + 1 = q) (hr : g[i]? = some (.inl (D.2.1 1, m', .inl f))) (hj : j < m') (hm : m' < 2147483648) (hx : narrow .byte (.int x) = .int x2) (hg : g.set i (.inl (D.2.1 1, m', .inl (upd f j x2))) = g2) (h : Wp D N l E M R Qf k n q L st g2) : Wp D N l E M R Qf k n pc L (.int x :: .int (nI j) :: .ref (N + i) :: st) g := by
  subst hq
  subst hg
  intro p e s m args below meth c C H locs ls hH hS hl
  have hin := nI_vp hj hm
  refine W.bast C.1 C.2.1 (hH.2 i _ hr) ((C.2.2.2.2.2.1.1.2 1 _ rfl).1 m' (fun j => .int (f j))) (fun q => by cases q) (by show ¬ (nI j < 0 ∨ (arrV _ _ _).slots.size ≤ _); rw [arrV_size]; exact hin) rfl rfl hd fun H1 e1 z oq => ?_
  refine h p e s m args below meth c C H1 _ ls (hH.set hr ?_ z oq) (hS.put z oq (Nat.le_add_right N i)) hl
  show H1[N + i]? = some (vp_cell _ _)
  rw [e1, hx]
  rw [vp_cell_i, vp_cell_i, arrV_store, nI_cl hj hm]
  congr 2
  funext q
  by_cases hq : q = j
  · subst hq
    simp [updV, upd]
  · simp [updV, upd, hq]
theorem wp_zast {q i j m' : Nat} {f : Nat → Int32} {x x2 : Int32} {g2 : List va_E} (hd : decode M.2.1 pc = .ok (.bastore, 1)) (hq : pc + 1 = q) (hr : g[i]? = some (.inl (D.2.1 3, m', .inl f))) (hj : j < m') (hm : m' < 2147483648) (hx : narrow .boolean (.int x) = .int x2) (hg : g.set i (.inl (D.2.1 3, m', .inl (upd f j x2))) = g2) (h : Wp D N l E M R Qf k n q L st g2) : Wp D N l E M R Qf k n pc L (.int x :: .int (nI j) :: .ref (N + i) :: st) g := by
  subst hq
  subst hg
  intro p e s m args below meth c C H locs ls hH hS hl
  have hin := nI_vp hj hm
  refine W.zast C.1 C.2.1 (hH.2 i _ hr) ((C.2.2.2.2.2.1.1.2 3 _ rfl).1 m' (fun j => .int (f j))) (fun q => by cases q) (by show ¬ (nI j < 0 ∨ (arrV _ _ _).slots.size ≤ _); rw [arrV_size]; exact hin) rfl rfl hd fun H1 e1 z oq => ?_
  refine h p e s m args below meth c C H1 _ ls (hH.set hr ?_ z oq) (hS.put z oq (Nat.le_add_right N i)) hl
  show H1[N + i]? = some (vp_cell _ _)
  rw [e1, hx]
  rw [vp_cell_i, vp_cell_i, arrV_store, nI_cl hj hm]
  congr 2
  funext q
  by_cases hq : q = j
  · subst hq
    simp [updV, upd]
  · simp [updV, upd, hq]
theorem wp_aast (t0 : Nat) {q i j i2 ci m' : Nat} {r : vw_C} {vs : List Value} {f : Nat → Option Nat} {g2 : List va_E} (ht : (x_tys D.2.1)[t0]? = some (D.2.1 t0, .object r.1)) (hd : decode M.2.1 pc = .ok (.aastore, 1)) (hq : pc + 1 = q) (hr : g[i]? = some (.inl (D.2.1 t0, m', .inr (.inr (.inr (.inr f)))))) (hr2 : g[i2]? = some (.inr (ci, vs))) (hc : classes[ci]? = some r) (hj : j < m') (hm : m' < 2147483648) (hg : g.set i (.inl (D.2.1 t0, m', .inr (.inr (.inr (.inr (va_up f j (some (N + i2)))))))) = g2) (h : Wp D N l E M R Qf k n q L st g2) : Wp D N l E M R Qf k n pc L (.ref (N + i2) :: .int (nI j) :: .ref (N + i) :: st) g := by
  subst hq
  subst hg
  intro p e s m args below meth c C H locs ls hH hS hl
  obtain ⟨r', hr', cellV, g1, g2, g3, -⟩ := hH.2 i2 _ hr2
  have hK := C.2.2.2.2.2.1.1
  have hcls := (hK.1 ci r hc).2
  obtain ⟨kA, comp, k1, k2, k3, -⟩ := (hK.2 t0 _ ht).2
  have hcomp : comp = D.1.1 ci := Option.some.inj (k3.symm.trans hcls.1)
  subst hcomp
  obtain ⟨kC, hkC, -⟩ := hcls.2
  refine W.aast C.1 C.2.1 (hH.2 i _ hr) (fun q h => by cases h) (fun h => by cases h) k1 k2 rfl hkC ⟨nI_pos (by omega), by show _ < (arrV _ _ _).slots.size; rw [arrV_size, nI_cl hj hm]; exact hj⟩ g1 (fun q h => by rw [g3] at h; cases h) (by rw [g2]; exact hkC) (by rw [g2]; exact va_assign hcls) rfl rfl hd fun H1 e1 z oq => ?_
  refine h p e s m args below meth c C H1 _ ls (hH.set hr ?_ z oq) (hS.put z oq (Nat.le_add_right N i)) hl
  show H1[N + i]? = some (vp_cell _ _)
  rw [e1]
  rw [vp_cell_q, vp_cell_q, arrV_store, nI_cl hj hm]
  congr 2
  funext q
  by_cases hq : q = j
  · subst hq
    simp [updV, va_up, va_rf]
  · simp [updV, va_up, hq]
theorem wp_aastN (t0 : Nat) {q i j m' : Nat} {Cn : String} {f : Nat → Option Nat} {g2 : List va_E} (ht : (x_tys D.2.1)[t0]? = some (D.2.1 t0, .object Cn)) (hd : decode M.2.1 pc = .ok (.aastore, 1)) (hq : pc + 1 = q) (hr : g[i]? = some (.inl (D.2.1 t0, m', .inr (.inr (.inr (.inr f)))))) (hj : j < m') (hm : m' < 2147483648) (hg : g.set i (.inl (D.2.1 t0, m', .inr (.inr (.inr (.inr (va_up f j none)))))) = g2) (h : Wp D N l E M R Qf k n q L st g2) : Wp D N l E M R Qf k n pc L (.null :: .int (nI j) :: .ref (N + i) :: st) g := by
  subst hq
  subst hg
  intro p e s m args below meth c C H locs ls hH hS hl
  have hin := nI_vp hj hm
  refine va_WaastN (C := Cn) C.1 C.2.1 (hH.2 i _ hr) ((C.2.2.2.2.2.1.1.2 t0 _ ht).1 m' (fun j => va_rf (f j))) (fun h => by cases h) (by show ¬ (nI j < 0 ∨ (arrV _ _ _).slots.size ≤ _); rw [arrV_size]; exact hin) rfl rfl hd fun H1 e1 z oq => ?_
  refine h p e s m args below meth c C H1 _ ls (hH.set hr ?_ z oq) (hS.put z oq (Nat.le_add_right N i)) hl
  show H1[N + i]? = some (vp_cell _ _)
  rw [e1]
  rw [vp_cell_q, vp_cell_q, arrV_store, nI_cl hj hm]
  congr 2
  funext q
  by_cases hq : q = j
  · subst hq
    simp [updV, va_up, va_rf]
  · simp [updV, va_up, hq]
theorem wp_new {q ci idx nf : Nat} {Cn : String} {T : u_T} {fs : List Value} {ty0 : Nat → FieldType} (hc : classes[ci]? = some (Cn, T, nf)) (hin : ∀ w ∈ u_ws Cn T nf, w ∈ lw_good) (hty : ∀ k, k < nf → parseFieldDescriptor (T k).2.2.1 = some (ty0 k)) (hcl : Cond.classLink M.1.cls idx Cn ∈ lw_good) (hins : Cond.instantiable Cn nf ∈ lw_good) (hini : Cond.initialized Cn ∈ lw_good) (hd : decode M.2.1 pc = .ok (.new idx, 3)) (hq : pc + 3 = q) (hfs : ∀ j, j < nf → defaultValue (ty0 j) = vp_V fs j) (hcells : k + 1 ≤ R.cells) (hslots : n + nf ≤ R.slots) (h : Wp D N l E M R Qf (k + 1) (n + nf) q L (.ref (N + g.length) :: st) (g ++ [.inr (ci, fs)])) : Wp D N l E M R Qf k n pc L st g := by
  subst hq
  intro p e s m args below meth c C H locs ls hH hS hl
  have hK := C.2.2.2.2.2.1.1
  have hts := C.2.2.2.2.1
  have hKn := hK.1 ci _ hc
  refine W.newcK C.1 C.2.1 C.2.2.2.1 (hts _ hcl) (hts _ hins) (hts _ hini) rfl hd hcells hslots hKn.2.1 hH.1 fun H1 kC hkC e1 z1 o1 => ?_
  rw [← hH.1] at z1
  have o1 : ∀ q, q < H.size → H1[q]? = H[q]? := fun q hq => o1 q (by rw [← hH.1]; exact hq)
  refine h p e s m args below meth c C H1 locs ls (hH.push ?_ z1 o1) ⟨Nat.le_trans hS.1 (by omega), fun x h1 h2 => (o1 x (Nat.lt_of_lt_of_le h1 hS.1)).trans (hS.2.1 x h1 h2), hS.2.2⟩ hl
  exact ⟨_, hc, (u_born ty0 hts hin hKn hkC e1 hty).to hfs⟩
theorem wp_newa (t0 : Nat) {q N' : Nat} {atype : ArrayType} {ty : FieldType} {a0 : vp_A} {z : Int32} (hz : z = nI N') (hty : newarray.typeOf atype = ty) (ht : (x_tys D.2.1)[t0]? = some (D.2.1 t0, ty)) (hw : Cond.arrayClass ty ∈ lw_good) (hd : decode M.2.1 pc = .ok (.newarray atype, 2)) (hq : pc + 2 = q) (ha : ∀ cA : ClassId, vp_cell cA a0 = arrV cA N' (fun _ => defaultValue ty)) (hb : N' * componentBytes ty ≤ 536870912) (hb2 : N' < 2147483648) (hcells : k + 1 ≤ R.cells) (hslots : n + N' ≤ R.slots) (h : Wp D N l E M R Qf (k + 1) (n + N') q L (.ref (N + g.length) :: st) (g ++ [.inl (D.2.1 t0, a0)])) : Wp D N l E M R Qf k n pc L (.int z :: st) g := by
  subst hq
  subst hz
  subst hty
  intro p e s m args below meth c C H locs ls hH hS hl
  have hK := C.2.2.2.2.2.1.1
  have hts := C.2.2.2.2.1
  refine va_newaK C.1 C.2.1 (hts _ hw) rfl hd rfl (nI_pos hb2) (nI_clamp hb2) hb hcells hslots hH.1 fun H1 cA e1 z1 o1 hAr hNm => ?_
  have hcA : cA = D.2.1 t0 := by
    have h2 := (hK.2 t0 _ ht).2
    have h3 : s.vm.findClass ("[" ++ (newarray.typeOf atype).toString) = some (D.2.1 t0) := by cases atype <;> exact h2
    exact Option.some.inj (hNm.symm.trans h3)
  subst hcA
  rw [← hH.1] at z1
  have o1 : ∀ q, q < H.size → H1[q]? = H[q]? := fun q hq => o1 q (by rw [← hH.1]; exact hq)
  refine h p e s m args below meth c C H1 locs ls (hH.push ?_ z1 o1) ⟨Nat.le_trans hS.1 (by omega), fun x h1 h2 => (o1 x (Nat.lt_of_lt_of_le h1 hS.1)).trans (hS.2.1 x h1 h2), hS.2.2⟩ hl
  show H1[N + g.length]? = some (vp_cell _ _)
  rw [ha]
  exact e1
theorem wp_anew (t0 : Nat) {q idx N' : Nat} {Cn : String} {z : Int32} (hz : z = nI N') (ht : (x_tys D.2.1)[t0]? = some (D.2.1 t0, .object Cn)) (hw : Cond.classLink M.1.cls idx Cn ∈ lw_good) (hw2 : Cond.arrayOver (.object Cn) ∈ lw_good) (hd : decode M.2.1 pc = .ok (.anewarray idx, 3)) (hq : pc + 3 = q) (hb : N' * 4 ≤ 536870912) (hb2 : N' < 2147483648) (hcells : k + 1 ≤ R.cells) (hslots : n + N' ≤ R.slots) (h : Wp D N l E M R Qf (k + 1) (n + N') q L (.ref (N + g.length) :: st) (g ++ [.inl (D.2.1 t0, N', .inr (.inr (.inr (.inr (fun _ => none)))))])) : Wp D N l E M R Qf k n pc L (.int z :: st) g := by
  subst hq
  subst hz
  intro p e s m args below meth c C H locs ls hH hS hl
  have hK := C.2.2.2.2.2.1.1
  have hts := C.2.2.2.2.1
  have hcl : (nI N').toNatClampNeg = N' := nI_clamp hb2
  refine W.anew C.1 C.2.1 C.2.2.2.1 (hts _ hw) (hts _ hw2) rfl hd rfl (nI_pos hb2) (by rw [hcl]; exact hb) hcells (by rw [hcl]; exact hslots) fun cA kA comp f1 f2 f3 f4 => ?_
  have hcA : cA = D.2.1 t0 := by
    obtain ⟨_, _, _, _, _, h3⟩ := (hK.2 t0 _ ht).2
    exact Option.some.inj (f1.symm.trans h3)
  subst hcA
  rw [hcl]
  generalize hH1 : H.push ({ cls := D.2.1 t0, slots := Array.replicate N' .null, vm := .none } : Cell) = H1
  have z1 : H1.size = H.size + 1 := by rw [← hH1, Array.size_push]
  have e1 : H1[H.size]? = some (arrV (D.2.1 t0) N' (fun _ => .null)) := by rw [← hH1, Array.getElem?_push_size, ← arrV_new]
  have o1 : ∀ q : Nat, q < H.size → H1[q]? = H[q]? := fun q hq => by rw [← hH1, Array.getElem?_push, if_neg (Nat.ne_of_lt hq)]
  have hsz := hH.1
  refine W.eq (g2 := F0 m (pc + 3) ls (.ref (N + g.length) :: st)) (by rw [hsz]) ?_
  refine h p e s m args below meth c C H1 locs ls (hH.push ?_ z1 o1) ⟨Nat.le_trans hS.1 (by omega), fun x h1 h2 => (o1 x (Nat.lt_of_lt_of_le h1 hS.1)).trans (hS.2.1 x h1 h2), hS.2.2⟩ hl
  show H1[N + g.length]? = some (vp_cell _ _)
  rw [vp_cell_q, ← hsz]
  exact e1
end WH
end
section
def pv (v : Option Value) (st : List Value) : List Value := match v with
  | some x => x :: st
  | none => st
def RO (R : Room) (d : Nat) : Prop := d + 1 ≤ R.frames ∧ 37 * (d + 1) ≤ R.locals
theorem ro (d mc ms : Nat) : RO (Rm (d + 1) mc ms) d := ⟨Nat.le_refl _, Nat.le_refl _⟩
def CW (M2 : MD) (np : Nat) : Prop := Cond.code M2.1 M2.2.1 M2.2.2.1 M2.2.2.2 ∈ lw_good ∧ Cond.initialized M2.1.cls ∈ lw_good ∧ (M2.1.cls ≠ "java/lang/invoke/MethodHandle" ∧ M2.1.cls ≠ "java/lang/invoke/VarHandle" ∧ (parseMethodDescriptor M2.1.desc).map (fun d => d.parameters.length) = some np) ∧ M2.2.2.1 ≤ 18
def LkS (own : String) (idx : Nat) (M2 : MD) (np : Nat) : Prop := CW M2 np ∧ Cond.methodLink own idx M2.1 ∈ lw_good ∧ Cond.static M2.1 ∈ lw_good
def LV (own : String) (idx : Nat) (M2 : MD) (np : Nat) : Prop := CW M2 np ∧ Cond.methodLink own idx M2.1 ∈ lw_good ∧ Cond.instanceMethod M2.1 ∈ lw_good ∧ Cond.selects M2.1.cls M2.1 M2.1 ∈ lw_good
def LI (own : String) (idx : Nat) (M2 : MD) (np : Nat) : Prop := CW M2 np ∧ Cond.methodLink own idx M2.1 ∈ lw_good ∧ Cond.instanceMethod M2.1 ∈ lw_good ∧ M2.1.name = "<init>" ∧ M2.2.2.2 = none
def LSN (own : String) (idx : Nat) (M2 : MD) (np : Nat) (host : String) : Prop := CW M2 np ∧ Cond.methodLinkNest own idx M2.1 host ∈ nestw ∧ Cond.static M2.1 ∈ lw_good
def LIN (own : String) (idx : Nat) (M2 : MD) (np : Nat) (host : String) : Prop := CW M2 np ∧ Cond.methodLinkNest own idx M2.1 host ∈ nestw ∧ Cond.instanceMethod M2.1 ∈ lw_good ∧ M2.1.name = "<init>" ∧ M2.2.2.2 = none
def LU (own : String) (idx : Nat) (Cn : String) (x : MethodName) (M2 : MD) (np : Nat) : Prop := CW M2 np ∧ Cond.methodLink own idx x ∈ lw_good ∧ Cond.sameMethod x.cls x.cls x.name x.desc ∈ lw_good ∧ Cond.selects Cn x M2.1 ∈ lw_good ∧ Cond.instanceMethod M2.1 ∈ lw_good ∧ Cond.instanceMethod ⟨x.cls, x.name, x.desc⟩ ∈ lw_good ∧ (∃ (b0 : ByteArray) (m0 : Nat) (r0 : Option FieldType), Cond.code ⟨x.cls, x.name, x.desc⟩ b0 m0 r0 ∈ lw_good) ∧ (x.cls ≠ "java/lang/invoke/MethodHandle" ∧ x.cls ≠ "java/lang/invoke/VarHandle" ∧ (parseMethodDescriptor x.desc).map (fun d => d.parameters.length) = some np)
def LSU (own : String) (idx : Nat) (M2 : MD) (np : Nat) : Prop := CW M2 np ∧ Cond.methodLink own idx M2.1 ∈ lw_good ∧ Cond.sameMethod M2.1.cls M2.1.cls M2.1.name M2.1.desc ∈ lw_good ∧ Cond.superclass own M2.1.cls ∈ lw_good ∧ Cond.instanceMethod M2.1 ∈ lw_good ∧ M2.1.name ≠ "<init>"
theorem good_ws {c : Cond} (h : c ∈ lw_good) : GoodIn lw_good (c :: lw_good) := by
  intro w hw
  have hw2 : w ∈ lw_good := by
    rcases List.mem_cons.mp hw with e | e
    · rw [e]; exact h
    · exact e
  exact ⟨hw2, good_of_word (List.mem_filter.mp hw2).2⟩
section WC
variable {D : xD} {N : Nat} {l : Launch} {E : EX} {M : MD} {R : Room} {Qf : QF} {k n pc : Nat} {L : List (Nat × Value)} {st : List Value} {g : List va_E}
theorem ok_blind {as : List Value} : FrameBlind (va_Pc as (fun U => hs D.1 N g U.heap ∧ xK D N U ∧ N ≤ U.heap.size)) := by
  intro a U g2 mk h
  obtain ⟨h1, h2, h3, h4⟩ := h
  exact ⟨h1, h2, xK.blind h3 rfl rfl, h4⟩
theorem ok_pre {as : List Value} {p : Program} {s : State} {m : MethodId} {args : Array Value} {meth : Method} {c : Code} (C : Cx D N E M p s m args meth c) {H : Heap} {locs : List Loc} (hH : hs D.1 N g H) (hS : va_S (fr N) s.heap H locs) : PreS s H (va_Pc as (fun U => hs D.1 N g U.heap ∧ xK D N U ∧ N ≤ U.heap.size)) as :=
  ⟨ok_blind, fun U hU hW => ⟨rfl, by rw [hU]; exact hH, C.2.2.2.2.2.1.move hS hU hW, by rw [hU, hH.1]; exact Nat.le_add_right _ _⟩⟩
theorem ok_preV {as : List Value} {Cn : String} {p : Program} {s : State} {m : MethodId} {args : Array Value} {meth : Method} {c : Code} (C : Cx D N E M p s m args meth c) {H : Heap} {locs : List Loc} (hH : hs D.1 N g H) (hS : va_S (fr N) s.heap H locs) {i ci : Nat} {fs : List Value} (hr : g[i]? = some (.inr (ci, fs))) (hc : classes[ci]?.map (fun r => r.1) = some Cn) : PreV s H Cn (N + i) (va_Pc (.ref (N + i) :: as) (fun U => hs D.1 N g U.heap ∧ xK D N U ∧ N ≤ U.heap.size)) as := by
  refine ⟨ok_blind, ?_, fun U hU hW => ⟨rfl, by rw [hU]; exact hH, C.2.2.2.2.2.1.move hS hU hW, by rw [hU, hH.1]; exact Nat.le_add_right _ _⟩⟩
  obtain ⟨r, hr2, e⟩ : ∃ r, classes[ci]? = some r ∧ r.1 = Cn := by
    cases hh : classes[ci]? with
    | none => rw [hh] at hc; cases hc
    | some r => rw [hh] at hc; exact ⟨r, rfl, Option.some.inj hc⟩
  subst e
  exact va_recv C.2.2.2.2.2.1.1 (hH.one hr) hr2 (q0 := 0) rfl
theorem wp_run {q : Nat} {rest st0 : List Value} {p : Program} {e : Env} {s : State} {m : MethodId} {args : Array Value} {below : List Frame} {meth : Method} {c : Code} {H : Heap} {locs : List Loc} {ls : Array Slot} {mc ms : Nat} {a : Array Value} (C : Cx D N E M p s m args meth c) (hq : pc + 3 = q) (hr : va_Run p l e R s m args below meth c H locs k n mc ms (F0 m pc ls st0) rest (Qk D N (fun v g2 => Wp D N l E M R Qf (k + mc) (n + ms) q L (pv v rest) g2) a) (fr N)) (hS : va_S (fr N) s.heap H locs) (hl : lv_has ls M.2.2.1 L) : W p l e R s m args below meth c H locs k n (Qf below args s) (F0 m pc ls st0) := by
  subst hq
  intro T hT X
  obtain ⟨v, st₀, t, T', L', h0, X', hL, e1, e2, ⟨⟨v2, g2, hv, hp, hb⟩, hz, hk⟩, stp⟩ := hr T hT X
  cases hv
  rw [h0] at hz hk
  obtain ⟨t2, a1, b1⟩ := hp p e s m args below meth c C T'.heap (locs ++ L') ls (by rw [e1]; exact hb)
    ⟨Nat.le_trans hS.1 (by rw [e1]; exact hz), fun q h1 h2 => by rw [e1, hk q (Nat.lt_of_lt_of_le h1 hS.1) h2]; exact hS.2.1 q h1 h2, fun q hq => by
      rcases List.mem_append.mp hq with h | h
      · exact hS.2.2 q h
      · exact hL q h⟩ hl T' rfl X'
  refine ⟨t2, stp t2 ?_, b1⟩
  have e3 : (v.toList ++ rest : List Value) = pv v rest := by cases v <;> rfl
  rw [e3]
  exact a1
theorem ro_call {d ml : Nat} (hR : RO R d) (hm : ml ≤ 18) (mc ms : Nat) : (Rm d mc ms).frames + 1 ≤ R.frames ∧ 8 + (ml + 11) + (Rm d mc ms).locals ≤ R.locals := ⟨hR.1, by have := hR.2; show 8 + (ml + 11) + 37 * d ≤ _; omega⟩
theorem wp_callS {q d np idx mc ms : Nat} {M2 : MD} (as : List Value) {st0 : List Value} (hL : LkS M.1.cls idx M2 np) (hR : RO R d) (hd : decode M.2.1 pc = .ok (.invokestatic idx, 3)) (hq : pc + 3 = q) (hn : as.length = np) (hst : st0 = as.reverse ++ st) (hcat : (st.map fun v => v.category).sum ≤ 8) (hc : k + mc ≤ R.cells) (hs : n + ms ≤ R.slots) (hok : Ok D N l d M2 as g mc ms (fun v g2 => Wp D N l E M R Qf (k + mc) (n + ms) q L (pv v st) g2)) : Wp D N l E M R Qf k n pc L st0 g := by
  intro p e s m args below meth c C H locs ls hH hS hl
  obtain ⟨⟨c1, c2, c3, c4⟩, l1, l2⟩ := hL
  have hts := C.2.2.2.2.1
  subst hst
  exact wp_run C hq (va_runS (As := as) (rest := st) ⟨C.1, C.2.1, C.2.2.1, C.2.2.2.1, hts⟩ hok ⟨callB_of np hts (good_ws c1) rfl rfl rfl (hts _ c2) (hts _ l1) c3 (ro_call hR c4 mc ms), hts _ l2⟩ (ok_pre C hH hS) rfl hn hl.1 rfl (lv_room hcat) hd ⟨hc, hs⟩) hS hl
theorem wp_callV {q d np idx mc ms i ci : Nat} {M2 : MD} {fs : List Value} (as : List Value) {st0 : List Value} (hL : LV M.1.cls idx M2 np) (hR : RO R d) (hd : decode M.2.1 pc = .ok (.invokevirtual idx, 3)) (hq : pc + 3 = q) (hn : as.length = np) (hst : st0 = as.reverse ++ .ref (N + i) :: st) (hcat : (st.map fun v => v.category).sum ≤ 8) (hr : g[i]? = some (.inr (ci, fs))) (hcl : classes[ci]?.map (fun r => r.1) = some M2.1.cls) (hc : k + mc ≤ R.cells) (hs : n + ms ≤ R.slots) (hok : Ok D N l d M2 (.ref (N + i) :: as) g mc ms (fun v g2 => Wp D N l E M R Qf (k + mc) (n + ms) q L (pv v st) g2)) : Wp D N l E M R Qf k n pc L st0 g := by
  intro p e s m args below meth c C H locs ls hH hS hl
  obtain ⟨⟨c1, c2, c3, c4⟩, l1, l2, l3⟩ := hL
  have hts := C.2.2.2.2.1
  subst hst
  exact wp_run C hq (va_runV (As := as) (rest := st) ⟨C.1, C.2.1, C.2.2.1, C.2.2.2.1, hts⟩ hok ⟨callB_of np hts (good_ws c1) rfl rfl rfl (hts _ c2) (hts _ l1) c3 (ro_call hR c4 mc ms), hts _ l2, hts _ l3⟩ (ok_preV C hH hS hr hcl) rfl hn hl.1 rfl (lv_room hcat) hd ⟨hc, hs⟩) hS hl
theorem wp_callI {q d np idx mc ms i : Nat} {M2 : MD} (as : List Value) {st0 : List Value} (hL : LI M.1.cls idx M2 np) (hR : RO R d) (hd : decode M.2.1 pc = .ok (.invokespecial idx, 3)) (hq : pc + 3 = q) (hn : as.length = np) (hst : st0 = as.reverse ++ .ref (N + i) :: st) (hcat : (st.map fun v => v.category).sum ≤ 8) (hc : k + mc ≤ R.cells) (hs : n + ms ≤ R.slots) (hok : Ok D N l d M2 (.ref (N + i) :: as) g mc ms (fun v g2 => Wp D N l E M R Qf (k + mc) (n + ms) q L (pv v st) g2)) : Wp D N l E M R Qf k n pc L st0 g := by
  intro p e s m args below meth c C H locs ls hH hS hl
  obtain ⟨⟨c1, c2, c3, c4⟩, l1, l2, l3, l4⟩ := hL
  have hts := C.2.2.2.2.1
  subst hst
  unfold Ok at hok
  rw [l4] at hok c1
  exact wp_run C hq (va_runI (As := as) (rest := st) ⟨C.1, C.2.1, C.2.2.1, C.2.2.2.1, hts⟩ hok ⟨callB_of np hts (good_ws c1) rfl rfl rfl (hts _ c2) (hts _ l1) c3 (ro_call hR c4 mc ms), l3, hts _ l2⟩ (ok_pre C hH hS) rfl hn hl.1 rfl (lv_room hcat) hd ⟨hc, hs⟩) hS hl
theorem wp_callSN {q d np idx mc ms : Nat} {M2 : MD} {host : String} (as : List Value) {st0 : List Value} (hL : LSN M.1.cls idx M2 np host) (hR : RO R d) (hd : decode M.2.1 pc = .ok (.invokestatic idx, 3)) (hq : pc + 3 = q) (hn : as.length = np) (hst : st0 = as.reverse ++ st) (hcat : (st.map fun v => v.category).sum ≤ 8) (hc : k + mc ≤ R.cells) (hs : n + ms ≤ R.slots) (hok : Ok D N l d M2 as g mc ms (fun v g2 => Wp D N l E M R Qf (k + mc) (n + ms) q L (pv v st) g2)) : Wp D N l E M R Qf k n pc L st0 g := by
  intro p e s m args below meth c C H locs ls hH hS hl
  obtain ⟨⟨c1, c2, c3, c4⟩, l1, l2⟩ := hL
  have hts := C.2.2.2.2.1
  subst hst
  exact wp_run C hq (va_runSN (As := as) (rest := st) ⟨C.1, C.2.1, C.2.2.1, C.2.2.2.1, hts⟩ hok ⟨va_cnB np hts (good_ws c1) rfl rfl rfl (C.2.2.2.2.2.1.2.1 _ l1) (hts _ c2) c3 (ro_call hR c4 mc ms), hts _ l2, trivial⟩ (ok_pre C hH hS) rfl hn hl.1 rfl (lv_room hcat) hd ⟨hc, hs⟩) hS hl
theorem wp_callIN {q d np idx mc ms i : Nat} {M2 : MD} {host : String} (as : List Value) {st0 : List Value} (hL : LIN M.1.cls idx M2 np host) (hR : RO R d) (hd : decode M.2.1 pc = .ok (.invokespecial idx, 3)) (hq : pc + 3 = q) (hn : as.length = np) (hst : st0 = as.reverse ++ .ref (N + i) :: st) (hcat : (st.map fun v => v.category).sum ≤ 8) (hc : k + mc ≤ R.cells) (hs : n + ms ≤ R.slots) (hok : Ok D N l d M2 (.ref (N + i) :: as) g mc ms (fun v g2 => Wp D N l E M R Qf (k + mc) (n + ms) q L (pv v st) g2)) : Wp D N l E M R Qf k n pc L st0 g := by
  intro p e s m args below meth c C H locs ls hH hS hl
  obtain ⟨⟨c1, c2, c3, c4⟩, l1, l2, l3, l4⟩ := hL
  have hts := C.2.2.2.2.1
  subst hst
  unfold Ok at hok
  rw [l4] at hok c1
  exact wp_run C hq (va_runIN (As := as) (rest := st) ⟨C.1, C.2.1, C.2.2.1, C.2.2.2.1, hts⟩ hok ⟨va_cnB np hts (good_ws c1) rfl rfl rfl (C.2.2.2.2.2.1.2.1 _ l1) (hts _ c2) c3 (ro_call hR c4 mc ms), l3, hts _ l2⟩ (ok_pre C hH hS) rfl hn hl.1 rfl (lv_room hcat) hd ⟨hc, hs⟩) hS hl
theorem wp_callU {q d np idx mc ms i ci : Nat} {M2 : MD} {Cn : String} {x : MethodName} {fs : List Value} (as : List Value) {st0 : List Value} (hL : LU M.1.cls idx Cn x M2 np) (hR : RO R d) (hd : decode M.2.1 pc = .ok (.invokevirtual idx, 3)) (hq : pc + 3 = q) (hn : as.length = np) (hst : st0 = as.reverse ++ .ref (N + i) :: st) (hcat : (st.map fun v => v.category).sum ≤ 8) (hr : g[i]? = some (.inr (ci, fs))) (hcl : classes[ci]?.map (fun r => r.1) = some Cn) (hc : k + mc ≤ R.cells) (hs : n + ms ≤ R.slots) (hok : Ok D N l d M2 (.ref (N + i) :: as) g mc ms (fun v g2 => Wp D N l E M R Qf (k + mc) (n + ms) q L (pv v st) g2)) : Wp D N l E M R Qf k n pc L st0 g := by
  intro p e s m args below meth c C H locs ls hH hS hl
  obtain ⟨⟨c1, c2, c3, c4⟩, l1, l2, l3, l4, l5, ⟨b0, m0, r0, l6⟩, l7⟩ := hL
  have hts := C.2.2.2.2.1
  subst hst
  have hG : GoodIn lw_good (va_wsO M.1.cls idx Cn x.cls x M2.1 (Cond.code M2.1 M2.2.1 M2.2.2.1 M2.2.2.2 :: lw_good)) := by
    intro w hw
    have hw2 : w ∈ lw_good := by
      rcases List.mem_append.mp hw with h | h
      · simp only [List.mem_cons, List.not_mem_nil, or_false] at h
        rcases h with h | h | h | h | h | h <;> rw [h] <;> assumption
      · exact (good_ws c1 w h).1
    exact ⟨hw2, good_of_word (List.mem_filter.mp hw2).2⟩
  exact wp_run C hq (va_runU (As := as) (rest := st) ⟨C.1, C.2.1, C.2.2.1, C.2.2.2.1, hts⟩ hok (va_cwO np hts hG rfl rfl rfl l6 l7 (ro_call hR c4 mc ms)) (ok_preV C hH hS hr hcl) rfl hn hl.1 rfl (lv_room hcat) hd ⟨hc, hs⟩) hS hl
theorem wp_callSU {q d np idx mc ms i ci : Nat} {M2 : MD} {fs : List Value} (as : List Value) {st0 : List Value} (hL : LSU M.1.cls idx M2 np) (hR : RO R d) (hd : decode M.2.1 pc = .ok (.invokespecial idx, 3)) (hq : pc + 3 = q) (hn : as.length = np) (hst : st0 = as.reverse ++ .ref (N + i) :: st) (hcat : (st.map fun v => v.category).sum ≤ 8) (hr : g[i]? = some (.inr (ci, fs))) (hc : k + mc ≤ R.cells) (hs : n + ms ≤ R.slots) (hok : Ok D N l d M2 (.ref (N + i) :: as) g mc ms (fun v g2 => Wp D N l E M R Qf (k + mc) (n + ms) q L (pv v st) g2)) : Wp D N l E M R Qf k n pc L st0 g := by
  intro p e s m args below meth c C H locs ls hH hS hl
  obtain ⟨⟨c1, c2, c3, c4⟩, l1, l2, l3, l4, l5⟩ := hL
  have hts := C.2.2.2.2.1
  subst hst
  have hG : GoodIn lw_good (va_wsSU M.1.cls idx M2.1 (Cond.code M2.1 M2.2.1 M2.2.2.1 M2.2.2.2 :: lw_good)) := by
    intro w hw
    have hw2 : w ∈ lw_good := by
      rcases List.mem_append.mp hw with h | h
      · simp only [List.mem_cons, List.not_mem_nil, or_false] at h
        rcases h with h | h | h | h | h <;> rw [h] <;> assumption
      · exact (good_ws c1 w h).1
    exact ⟨hw2, good_of_word (List.mem_filter.mp hw2).2⟩
  obtain ⟨r, hrc, -⟩ := hH.2 i _ hr
  have hat := (C.2.2.2.2.2.1.1.1 ci r hrc).2
  exact wp_run C hq (va_runSU (As := as) (rest := st) hat ⟨C.1, C.2.1, C.2.2.1, C.2.2.2.1, hts⟩ hok (va_cwSU np hts hG rfl rfl rfl ⟨l5, c3.2.2⟩ (ro_call hR c4 mc ms)) (ok_preV C hH hS hr (by rw [hrc]; rfl)) rfl hn hl.1 rfl (lv_room hcat) hd ⟨hc, hs⟩) hS hl
theorem wp_objInit {q idx i : Nat} (hl1 : Cond.methodLink M.1.cls idx objectInit ∈ lw_good) (hl2 : Cond.instanceMethod objectInit ∈ lw_good) (hl3 : Cond.code objectInit ⟨#[0xb1]⟩ 1 none ∈ lw_good) (hR : RO R 0) (hd : decode M.2.1 pc = .ok (.invokespecial idx, 3)) (hq : pc + 3 = q) (hcat : (st.map fun v => v.category).sum ≤ 8) (h : Wp D N l E M R Qf k n q L st g) : Wp D N l E M R Qf k n pc L (.ref (N + i) :: st) g := by
  subst hq
  intro p e s m args below meth c C H locs ls hH hS hl
  have hts := C.2.2.2.2.1
  refine W.objInit C.1 C.2.1 C.2.2.2.1 (hts _ hl1) (hts _ hl2) (hts _ hl3) rfl (by rw [C.2.2.1]; exact hl.1) rfl hd hR.1 (by have := hR.2; show 2 * 0 + _ + 12 ≤ _; omega) ?_
  exact h p e s m args below meth c C H locs ls hH hS hl
theorem wp_widen {k2 n2 : Nat} (h1 : k ≤ k2) (h2 : n ≤ n2) (h : Wp D N l E M R Qf k2 n2 pc L st g) : Wp D N l E M R Qf k n pc L st g := by
  intro p e s m args below meth c C H locs ls hH hS hl
  exact W.widen h1 h2 (h p e s m args below meth c C H locs ls hH hS hl)
theorem wp_cs0 {q d idx : Nat} {M2 : MD} (hL : LkS M.1.cls idx M2 0) (hR : RO R d) (hd : decode M.2.1 pc = .ok (.invokestatic idx, 3)) (hq : pc + 3 = q) (hcat : (st.map fun v => v.category).sum ≤ 8) (hc : k ≤ R.cells) (hs : n ≤ R.slots) (hok : Ok D N l d M2 [] g 0 0 (fun v g2 => Wp D N l E M R Qf k n q L (pv v st) g2)) : Wp D N l E M R Qf k n pc L (st) g := wp_callS [] hL hR hd hq rfl rfl hcat hc hs hok
theorem wp_csn0 {q d idx : Nat} {M2 : MD} {host : String} (hL : LSN M.1.cls idx M2 0 host) (hR : RO R d) (hd : decode M.2.1 pc = .ok (.invokestatic idx, 3)) (hq : pc + 3 = q) (hcat : (st.map fun v => v.category).sum ≤ 8) (hc : k ≤ R.cells) (hs : n ≤ R.slots) (hok : Ok D N l d M2 [] g 0 0 (fun v g2 => Wp D N l E M R Qf k n q L (pv v st) g2)) : Wp D N l E M R Qf k n pc L (st) g := wp_callSN [] hL hR hd hq rfl rfl hcat hc hs hok
theorem wp_cv0 {q d idx i ci : Nat} {M2 : MD} {fs : List Value} (hL : LV M.1.cls idx M2 0) (hR : RO R d) (hd : decode M.2.1 pc = .ok (.invokevirtual idx, 3)) (hq : pc + 3 = q) (hcat : (st.map fun v => v.category).sum ≤ 8) (hr : g[i]? = some (.inr (ci, fs))) (hcl : classes[ci]?.map (fun r => r.1) = some M2.1.cls) (hc : k ≤ R.cells) (hs : n ≤ R.slots) (hok : Ok D N l d M2 (.ref (N + i) :: []) g 0 0 (fun v g2 => Wp D N l E M R Qf k n q L (pv v st) g2)) : Wp D N l E M R Qf k n pc L (.ref (N + i) :: st) g := wp_callV [] hL hR hd hq rfl rfl hcat hr hcl hc hs hok
theorem wp_cu0 {q d idx i ci : Nat} {M2 : MD} {Cn : String} {x : MethodName} {fs : List Value} (hL : LU M.1.cls idx Cn x M2 0) (hR : RO R d) (hd : decode M.2.1 pc = .ok (.invokevirtual idx, 3)) (hq : pc + 3 = q) (hcat : (st.map fun v => v.category).sum ≤ 8) (hr : g[i]? = some (.inr (ci, fs))) (hcl : classes[ci]?.map (fun r => r.1) = some Cn) (hc : k ≤ R.cells) (hs : n ≤ R.slots) (hok : Ok D N l d M2 (.ref (N + i) :: []) g 0 0 (fun v g2 => Wp D N l E M R Qf k n q L (pv v st) g2)) : Wp D N l E M R Qf k n pc L (.ref (N + i) :: st) g := wp_callU [] hL hR hd hq rfl rfl hcat hr hcl hc hs hok
theorem wp_csu0 {q d idx i ci : Nat} {M2 : MD} {fs : List Value} (hL : LSU M.1.cls idx M2 0) (hR : RO R d) (hd : decode M.2.1 pc = .ok (.invokespecial idx, 3)) (hq : pc + 3 = q) (hcat : (st.map fun v => v.category).sum ≤ 8) (hr : g[i]? = some (.inr (ci, fs))) (hc : k ≤ R.cells) (hs : n ≤ R.slots) (hok : Ok D N l d M2 (.ref (N + i) :: []) g 0 0 (fun v g2 => Wp D N l E M R Qf k n q L (pv v st) g2)) : Wp D N l E M R Qf k n pc L (.ref (N + i) :: st) g := wp_callSU [] hL hR hd hq rfl rfl hcat hr hc hs hok
theorem wp_cs1 {q d idx : Nat} {M2 : MD} {a1 : Value} (hL : LkS M.1.cls idx M2 1) (hR : RO R d) (hd : decode M.2.1 pc = .ok (.invokestatic idx, 3)) (hq : pc + 3 = q) (hcat : (st.map fun v => v.category).sum ≤ 8) (hc : k ≤ R.cells) (hs : n ≤ R.slots) (hok : Ok D N l d M2 [a1] g 0 0 (fun v g2 => Wp D N l E M R Qf k n q L (pv v st) g2)) : Wp D N l E M R Qf k n pc L (a1 :: st) g := wp_callS [a1] hL hR hd hq rfl rfl hcat hc hs hok
theorem wp_csn1 {q d idx : Nat} {M2 : MD} {host : String} {a1 : Value} (hL : LSN M.1.cls idx M2 1 host) (hR : RO R d) (hd : decode M.2.1 pc = .ok (.invokestatic idx, 3)) (hq : pc + 3 = q) (hcat : (st.map fun v => v.category).sum ≤ 8) (hc : k ≤ R.cells) (hs : n ≤ R.slots) (hok : Ok D N l d M2 [a1] g 0 0 (fun v g2 => Wp D N l E M R Qf k n q L (pv v st) g2)) : Wp D N l E M R Qf k n pc L (a1 :: st) g := wp_callSN [a1] hL hR hd hq rfl rfl hcat hc hs hok
theorem wp_cv1 {q d idx i ci : Nat} {M2 : MD} {fs : List Value} {a1 : Value} (hL : LV M.1.cls idx M2 1) (hR : RO R d) (hd : decode M.2.1 pc = .ok (.invokevirtual idx, 3)) (hq : pc + 3 = q) (hcat : (st.map fun v => v.category).sum ≤ 8) (hr : g[i]? = some (.inr (ci, fs))) (hcl : classes[ci]?.map (fun r => r.1) = some M2.1.cls) (hc : k ≤ R.cells) (hs : n ≤ R.slots) (hok : Ok D N l d M2 (.ref (N + i) :: [a1]) g 0 0 (fun v g2 => Wp D N l E M R Qf k n q L (pv v st) g2)) : Wp D N l E M R Qf k n pc L (a1 :: .ref (N + i) :: st) g := wp_callV [a1] hL hR hd hq rfl rfl hcat hr hcl hc hs hok
theorem wp_cu1 {q d idx i ci : Nat} {M2 : MD} {Cn : String} {x : MethodName} {fs : List Value} {a1 : Value} (hL : LU M.1.cls idx Cn x M2 1) (hR : RO R d) (hd : decode M.2.1 pc = .ok (.invokevirtual idx, 3)) (hq : pc + 3 = q) (hcat : (st.map fun v => v.category).sum ≤ 8) (hr : g[i]? = some (.inr (ci, fs))) (hcl : classes[ci]?.map (fun r => r.1) = some Cn) (hc : k ≤ R.cells) (hs : n ≤ R.slots) (hok : Ok D N l d M2 (.ref (N + i) :: [a1]) g 0 0 (fun v g2 => Wp D N l E M R Qf k n q L (pv v st) g2)) : Wp D N l E M R Qf k n pc L (a1 :: .ref (N + i) :: st) g := wp_callU [a1] hL hR hd hq rfl rfl hcat hr hcl hc hs hok
theorem wp_csu1 {q d idx i ci : Nat} {M2 : MD} {fs : List Value} {a1 : Value} (hL : LSU M.1.cls idx M2 1) (hR : RO R d) (hd : decode M.2.1 pc = .ok (.invokespecial idx, 3)) (hq : pc + 3 = q) (hcat : (st.map fun v => v.category).sum ≤ 8) (hr : g[i]? = some (.inr (ci, fs))) (hc : k ≤ R.cells) (hs : n ≤ R.slots) (hok : Ok D N l d M2 (.ref (N + i) :: [a1]) g 0 0 (fun v g2 => Wp D N l E M R Qf k n q L (pv v st) g2)) : Wp D N l E M R Qf k n pc L (a1 :: .ref (N + i) :: st) g := wp_callSU [a1] hL hR hd hq rfl rfl hcat hr hc hs hok
theorem wp_cs2 {q d idx : Nat} {M2 : MD} {a1 a2 : Value} (hL : LkS M.1.cls idx M2 2) (hR : RO R d) (hd : decode M.2.1 pc = .ok (.invokestatic idx, 3)) (hq : pc + 3 = q) (hcat : (st.map fun v => v.category).sum ≤ 8) (hc : k ≤ R.cells) (hs : n ≤ R.slots) (hok : Ok D N l d M2 [a1, a2] g 0 0 (fun v g2 => Wp D N l E M R Qf k n q L (pv v st) g2)) : Wp D N l E M R Qf k n pc L (a2 :: a1 :: st) g := wp_callS [a1, a2] hL hR hd hq rfl rfl hcat hc hs hok
theorem wp_csn2 {q d idx : Nat} {M2 : MD} {host : String} {a1 a2 : Value} (hL : LSN M.1.cls idx M2 2 host) (hR : RO R d) (hd : decode M.2.1 pc = .ok (.invokestatic idx, 3)) (hq : pc + 3 = q) (hcat : (st.map fun v => v.category).sum ≤ 8) (hc : k ≤ R.cells) (hs : n ≤ R.slots) (hok : Ok D N l d M2 [a1, a2] g 0 0 (fun v g2 => Wp D N l E M R Qf k n q L (pv v st) g2)) : Wp D N l E M R Qf k n pc L (a2 :: a1 :: st) g := wp_callSN [a1, a2] hL hR hd hq rfl rfl hcat hc hs hok
theorem wp_cv2 {q d idx i ci : Nat} {M2 : MD} {fs : List Value} {a1 a2 : Value} (hL : LV M.1.cls idx M2 2) (hR : RO R d) (hd : decode M.2.1 pc = .ok (.invokevirtual idx, 3)) (hq : pc + 3 = q) (hcat : (st.map fun v => v.category).sum ≤ 8) (hr : g[i]? = some (.inr (ci, fs))) (hcl : classes[ci]?.map (fun r => r.1) = some M2.1.cls) (hc : k ≤ R.cells) (hs : n ≤ R.slots) (hok : Ok D N l d M2 (.ref (N + i) :: [a1, a2]) g 0 0 (fun v g2 => Wp D N l E M R Qf k n q L (pv v st) g2)) : Wp D N l E M R Qf k n pc L (a2 :: a1 :: .ref (N + i) :: st) g := wp_callV [a1, a2] hL hR hd hq rfl rfl hcat hr hcl hc hs hok
theorem wp_cu2 {q d idx i ci : Nat} {M2 : MD} {Cn : String} {x : MethodName} {fs : List Value} {a1 a2 : Value} (hL : LU M.1.cls idx Cn x M2 2) (hR : RO R d) (hd : decode M.2.1 pc = .ok (.invokevirtual idx, 3)) (hq : pc + 3 = q) (hcat : (st.map fun v => v.category).sum ≤ 8) (hr : g[i]? = some (.inr (ci, fs))) (hcl : classes[ci]?.map (fun r => r.1) = some Cn) (hc : k ≤ R.cells) (hs : n ≤ R.slots) (hok : Ok D N l d M2 (.ref (N + i) :: [a1, a2]) g 0 0 (fun v g2 => Wp D N l E M R Qf k n q L (pv v st) g2)) : Wp D N l E M R Qf k n pc L (a2 :: a1 :: .ref (N + i) :: st) g := wp_callU [a1, a2] hL hR hd hq rfl rfl hcat hr hcl hc hs hok
theorem wp_csu2 {q d idx i ci : Nat} {M2 : MD} {fs : List Value} {a1 a2 : Value} (hL : LSU M.1.cls idx M2 2) (hR : RO R d) (hd : decode M.2.1 pc = .ok (.invokespecial idx, 3)) (hq : pc + 3 = q) (hcat : (st.map fun v => v.category).sum ≤ 8) (hr : g[i]? = some (.inr (ci, fs))) (hc : k ≤ R.cells) (hs : n ≤ R.slots) (hok : Ok D N l d M2 (.ref (N + i) :: [a1, a2]) g 0 0 (fun v g2 => Wp D N l E M R Qf k n q L (pv v st) g2)) : Wp D N l E M R Qf k n pc L (a2 :: a1 :: .ref (N + i) :: st) g := wp_callSU [a1, a2] hL hR hd hq rfl rfl hcat hr hc hs hok
theorem wp_cs3 {q d idx : Nat} {M2 : MD} {a1 a2 a3 : Value} (hL : LkS M.1.cls idx M2 3) (hR : RO R d) (hd : decode M.2.1 pc = .ok (.invokestatic idx, 3)) (hq : pc + 3 = q) (hcat : (st.map fun v => v.category).sum ≤ 8) (hc : k ≤ R.cells) (hs : n ≤ R.slots) (hok : Ok D N l d M2 [a1, a2, a3] g 0 0 (fun v g2 => Wp D N l E M R Qf k n q L (pv v st) g2)) : Wp D N l E M R Qf k n pc L (a3 :: a2 :: a1 :: st) g := wp_callS [a1, a2, a3] hL hR hd hq rfl rfl hcat hc hs hok
theorem wp_csn3 {q d idx : Nat} {M2 : MD} {host : String} {a1 a2 a3 : Value} (hL : LSN M.1.cls idx M2 3 host) (hR : RO R d) (hd : decode M.2.1 pc = .ok (.invokestatic idx, 3)) (hq : pc + 3 = q) (hcat : (st.map fun v => v.category).sum ≤ 8) (hc : k ≤ R.cells) (hs : n ≤ R.slots) (hok : Ok D N l d M2 [a1, a2, a3] g 0 0 (fun v g2 => Wp D N l E M R Qf k n q L (pv v st) g2)) : Wp D N l E M R Qf k n pc L (a3 :: a2 :: a1 :: st) g := wp_callSN [a1, a2, a3] hL hR hd hq rfl rfl hcat hc hs hok
theorem wp_cv3 {q d idx i ci : Nat} {M2 : MD} {fs : List Value} {a1 a2 a3 : Value} (hL : LV M.1.cls idx M2 3) (hR : RO R d) (hd : decode M.2.1 pc = .ok (.invokevirtual idx, 3)) (hq : pc + 3 = q) (hcat : (st.map fun v => v.category).sum ≤ 8) (hr : g[i]? = some (.inr (ci, fs))) (hcl : classes[ci]?.map (fun r => r.1) = some M2.1.cls) (hc : k ≤ R.cells) (hs : n ≤ R.slots) (hok : Ok D N l d M2 (.ref (N + i) :: [a1, a2, a3]) g 0 0 (fun v g2 => Wp D N l E M R Qf k n q L (pv v st) g2)) : Wp D N l E M R Qf k n pc L (a3 :: a2 :: a1 :: .ref (N + i) :: st) g := wp_callV [a1, a2, a3] hL hR hd hq rfl rfl hcat hr hcl hc hs hok
theorem wp_cu3 {q d idx i ci : Nat} {M2 : MD} {Cn : String} {x : MethodName} {fs : List Value} {a1 a2 a3 : Value} (hL : LU M.1.cls idx Cn x M2 3) (hR : RO R d) (hd : decode M.2.1 pc = .ok (.invokevirtual idx, 3)) (hq : pc + 3 = q) (hcat : (st.map fun v => v.category).sum ≤ 8) (hr : g[i]? = some (.inr (ci, fs))) (hcl : classes[ci]?.map (fun r => r.1) = some Cn) (hc : k ≤ R.cells) (hs : n ≤ R.slots) (hok : Ok D N l d M2 (.ref (N + i) :: [a1, a2, a3]) g 0 0 (fun v g2 => Wp D N l E M R Qf k n q L (pv v st) g2)) : Wp D N l E M R Qf k n pc L (a3 :: a2 :: a1 :: .ref (N + i) :: st) g := wp_callU [a1, a2, a3] hL hR hd hq rfl rfl hcat hr hcl hc hs hok
theorem wp_csu3 {q d idx i ci : Nat} {M2 : MD} {fs : List Value} {a1 a2 a3 : Value} (hL : LSU M.1.cls idx M2 3) (hR : RO R d) (hd : decode M.2.1 pc = .ok (.invokespecial idx, 3)) (hq : pc + 3 = q) (hcat : (st.map fun v => v.category).sum ≤ 8) (hr : g[i]? = some (.inr (ci, fs))) (hc : k ≤ R.cells) (hs : n ≤ R.slots) (hok : Ok D N l d M2 (.ref (N + i) :: [a1, a2, a3]) g 0 0 (fun v g2 => Wp D N l E M R Qf k n q L (pv v st) g2)) : Wp D N l E M R Qf k n pc L (a3 :: a2 :: a1 :: .ref (N + i) :: st) g := wp_callSU [a1, a2, a3] hL hR hd hq rfl rfl hcat hr hc hs hok
theorem wp_cs4 {q d idx : Nat} {M2 : MD} {a1 a2 a3 a4 : Value} (hL : LkS M.1.cls idx M2 4) (hR : RO R d) (hd : decode M.2.1 pc = .ok (.invokestatic idx, 3)) (hq : pc + 3 = q) (hcat : (st.map fun v => v.category).sum ≤ 8) (hc : k ≤ R.cells) (hs : n ≤ R.slots) (hok : Ok D N l d M2 [a1, a2, a3, a4] g 0 0 (fun v g2 => Wp D N l E M R Qf k n q L (pv v st) g2)) : Wp D N l E M R Qf k n pc L (a4 :: a3 :: a2 :: a1 :: st) g := wp_callS [a1, a2, a3, a4] hL hR hd hq rfl rfl hcat hc hs hok
theorem wp_csn4 {q d idx : Nat} {M2 : MD} {host : String} {a1 a2 a3 a4 : Value} (hL : LSN M.1.cls idx M2 4 host) (hR : RO R d) (hd : decode M.2.1 pc = .ok (.invokestatic idx, 3)) (hq : pc + 3 = q) (hcat : (st.map fun v => v.category).sum ≤ 8) (hc : k ≤ R.cells) (hs : n ≤ R.slots) (hok : Ok D N l d M2 [a1, a2, a3, a4] g 0 0 (fun v g2 => Wp D N l E M R Qf k n q L (pv v st) g2)) : Wp D N l E M R Qf k n pc L (a4 :: a3 :: a2 :: a1 :: st) g := wp_callSN [a1, a2, a3, a4] hL hR hd hq rfl rfl hcat hc hs hok
theorem wp_cv4 {q d idx i ci : Nat} {M2 : MD} {fs : List Value} {a1 a2 a3 a4 : Value} (hL : LV M.1.cls idx M2 4) (hR : RO R d) (hd : decode M.2.1 pc = .ok (.invokevirtual idx, 3)) (hq : pc + 3 = q) (hcat : (st.map fun v => v.category).sum ≤ 8) (hr : g[i]? = some (.inr (ci, fs))) (hcl : classes[ci]?.map (fun r => r.1) = some M2.1.cls) (hc : k ≤ R.cells) (hs : n ≤ R.slots) (hok : Ok D N l d M2 (.ref (N + i) :: [a1, a2, a3, a4]) g 0 0 (fun v g2 => Wp D N l E M R Qf k n q L (pv v st) g2)) : Wp D N l E M R Qf k n pc L (a4 :: a3 :: a2 :: a1 :: .ref (N + i) :: st) g := wp_callV [a1, a2, a3, a4] hL hR hd hq rfl rfl hcat hr hcl hc hs hok
theorem wp_cu4 {q d idx i ci : Nat} {M2 : MD} {Cn : String} {x : MethodName} {fs : List Value} {a1 a2 a3 a4 : Value} (hL : LU M.1.cls idx Cn x M2 4) (hR : RO R d) (hd : decode M.2.1 pc = .ok (.invokevirtual idx, 3)) (hq : pc + 3 = q) (hcat : (st.map fun v => v.category).sum ≤ 8) (hr : g[i]? = some (.inr (ci, fs))) (hcl : classes[ci]?.map (fun r => r.1) = some Cn) (hc : k ≤ R.cells) (hs : n ≤ R.slots) (hok : Ok D N l d M2 (.ref (N + i) :: [a1, a2, a3, a4]) g 0 0 (fun v g2 => Wp D N l E M R Qf k n q L (pv v st) g2)) : Wp D N l E M R Qf k n pc L (a4 :: a3 :: a2 :: a1 :: .ref (N + i) :: st) g := wp_callU [a1, a2, a3, a4] hL hR hd hq rfl rfl hcat hr hcl hc hs hok
theorem wp_csu4 {q d idx i ci : Nat} {M2 : MD} {fs : List Value} {a1 a2 a3 a4 : Value} (hL : LSU M.1.cls idx M2 4) (hR : RO R d) (hd : decode M.2.1 pc = .ok (.invokespecial idx, 3)) (hq : pc + 3 = q) (hcat : (st.map fun v => v.category).sum ≤ 8) (hr : g[i]? = some (.inr (ci, fs))) (hc : k ≤ R.cells) (hs : n ≤ R.slots) (hok : Ok D N l d M2 (.ref (N + i) :: [a1, a2, a3, a4]) g 0 0 (fun v g2 => Wp D N l E M R Qf k n q L (pv v st) g2)) : Wp D N l E M R Qf k n pc L (a4 :: a3 :: a2 :: a1 :: .ref (N + i) :: st) g := wp_callSU [a1, a2, a3, a4] hL hR hd hq rfl rfl hcat hr hc hs hok
theorem wp_cs5 {q d idx : Nat} {M2 : MD} {a1 a2 a3 a4 a5 : Value} (hL : LkS M.1.cls idx M2 5) (hR : RO R d) (hd : decode M.2.1 pc = .ok (.invokestatic idx, 3)) (hq : pc + 3 = q) (hcat : (st.map fun v => v.category).sum ≤ 8) (hc : k ≤ R.cells) (hs : n ≤ R.slots) (hok : Ok D N l d M2 [a1, a2, a3, a4, a5] g 0 0 (fun v g2 => Wp D N l E M R Qf k n q L (pv v st) g2)) : Wp D N l E M R Qf k n pc L (a5 :: a4 :: a3 :: a2 :: a1 :: st) g := wp_callS [a1, a2, a3, a4, a5] hL hR hd hq rfl rfl hcat hc hs hok
theorem wp_csn5 {q d idx : Nat} {M2 : MD} {host : String} {a1 a2 a3 a4 a5 : Value} (hL : LSN M.1.cls idx M2 5 host) (hR : RO R d) (hd : decode M.2.1 pc = .ok (.invokestatic idx, 3)) (hq : pc + 3 = q) (hcat : (st.map fun v => v.category).sum ≤ 8) (hc : k ≤ R.cells) (hs : n ≤ R.slots) (hok : Ok D N l d M2 [a1, a2, a3, a4, a5] g 0 0 (fun v g2 => Wp D N l E M R Qf k n q L (pv v st) g2)) : Wp D N l E M R Qf k n pc L (a5 :: a4 :: a3 :: a2 :: a1 :: st) g := wp_callSN [a1, a2, a3, a4, a5] hL hR hd hq rfl rfl hcat hc hs hok
theorem wp_cv5 {q d idx i ci : Nat} {M2 : MD} {fs : List Value} {a1 a2 a3 a4 a5 : Value} (hL : LV M.1.cls idx M2 5) (hR : RO R d) (hd : decode M.2.1 pc = .ok (.invokevirtual idx, 3)) (hq : pc + 3 = q) (hcat : (st.map fun v => v.category).sum ≤ 8) (hr : g[i]? = some (.inr (ci, fs))) (hcl : classes[ci]?.map (fun r => r.1) = some M2.1.cls) (hc : k ≤ R.cells) (hs : n ≤ R.slots) (hok : Ok D N l d M2 (.ref (N + i) :: [a1, a2, a3, a4, a5]) g 0 0 (fun v g2 => Wp D N l E M R Qf k n q L (pv v st) g2)) : Wp D N l E M R Qf k n pc L (a5 :: a4 :: a3 :: a2 :: a1 :: .ref (N + i) :: st) g := wp_callV [a1, a2, a3, a4, a5] hL hR hd hq rfl rfl hcat hr hcl hc hs hok
theorem wp_cu5 {q d idx i ci : Nat} {M2 : MD} {Cn : String} {x : MethodName} {fs : List Value} {a1 a2 a3 a4 a5 : Value} (hL : LU M.1.cls idx Cn x M2 5) (hR : RO R d) (hd : decode M.2.1 pc = .ok (.invokevirtual idx, 3)) (hq : pc + 3 = q) (hcat : (st.map fun v => v.category).sum ≤ 8) (hr : g[i]? = some (.inr (ci, fs))) (hcl : classes[ci]?.map (fun r => r.1) = some Cn) (hc : k ≤ R.cells) (hs : n ≤ R.slots) (hok : Ok D N l d M2 (.ref (N + i) :: [a1, a2, a3, a4, a5]) g 0 0 (fun v g2 => Wp D N l E M R Qf k n q L (pv v st) g2)) : Wp D N l E M R Qf k n pc L (a5 :: a4 :: a3 :: a2 :: a1 :: .ref (N + i) :: st) g := wp_callU [a1, a2, a3, a4, a5] hL hR hd hq rfl rfl hcat hr hcl hc hs hok
theorem wp_csu5 {q d idx i ci : Nat} {M2 : MD} {fs : List Value} {a1 a2 a3 a4 a5 : Value} (hL : LSU M.1.cls idx M2 5) (hR : RO R d) (hd : decode M.2.1 pc = .ok (.invokespecial idx, 3)) (hq : pc + 3 = q) (hcat : (st.map fun v => v.category).sum ≤ 8) (hr : g[i]? = some (.inr (ci, fs))) (hc : k ≤ R.cells) (hs : n ≤ R.slots) (hok : Ok D N l d M2 (.ref (N + i) :: [a1, a2, a3, a4, a5]) g 0 0 (fun v g2 => Wp D N l E M R Qf k n q L (pv v st) g2)) : Wp D N l E M R Qf k n pc L (a5 :: a4 :: a3 :: a2 :: a1 :: .ref (N + i) :: st) g := wp_callSU [a1, a2, a3, a4, a5] hL hR hd hq rfl rfl hcat hr hc hs hok
end WC
end
section
theorem gt1 {w : Cond} (h : w ∈ tables_1_1) : w ∈ tables_1 := List.mem_append_left _ h
theorem gc1 (i : Nat) {w : Cond} (h : tables_1_1[i]? = some w) (hg : goodWord w = true) : w ∈ lw_good := List.mem_filter.mpr ⟨List.mem_append_right _ (gt1 (List.mem_of_getElem? h)), hg⟩
theorem gt2 {w : Cond} (h : w ∈ tables_1_2) : w ∈ tables_1 := List.mem_append_right _ (List.mem_append_left _ h)
theorem gc2 (i : Nat) {w : Cond} (h : tables_1_2[i]? = some w) (hg : goodWord w = true) : w ∈ lw_good := List.mem_filter.mpr ⟨List.mem_append_right _ (gt2 (List.mem_of_getElem? h)), hg⟩
theorem gt3 {w : Cond} (h : w ∈ tables_1_3) : w ∈ tables_1 := List.mem_append_right _ (List.mem_append_right _ (List.mem_append_left _ h))
theorem gc3 (i : Nat) {w : Cond} (h : tables_1_3[i]? = some w) (hg : goodWord w = true) : w ∈ lw_good := List.mem_filter.mpr ⟨List.mem_append_right _ (gt3 (List.mem_of_getElem? h)), hg⟩
theorem gt4 {w : Cond} (h : w ∈ tables_1_4) : w ∈ tables_1 := List.mem_append_right _ (List.mem_append_right _ (List.mem_append_right _ (List.mem_append_left _ h)))
theorem gc4 (i : Nat) {w : Cond} (h : tables_1_4[i]? = some w) (hg : goodWord w = true) : w ∈ lw_good := List.mem_filter.mpr ⟨List.mem_append_right _ (gt4 (List.mem_of_getElem? h)), hg⟩
theorem gt5 {w : Cond} (h : w ∈ tables_1_5) : w ∈ tables_1 := List.mem_append_right _ (List.mem_append_right _ (List.mem_append_right _ (List.mem_append_right _ (List.mem_append_left _ h))))
theorem gc5 (i : Nat) {w : Cond} (h : tables_1_5[i]? = some w) (hg : goodWord w = true) : w ∈ lw_good := List.mem_filter.mpr ⟨List.mem_append_right _ (gt5 (List.mem_of_getElem? h)), hg⟩
theorem gt6 {w : Cond} (h : w ∈ tables_1_6) : w ∈ tables_1 := List.mem_append_right _ (List.mem_append_right _ (List.mem_append_right _ (List.mem_append_right _ (List.mem_append_right _ (h)))))
theorem gc6 (i : Nat) {w : Cond} (h : tables_1_6[i]? = some w) (hg : goodWord w = true) : w ∈ lw_good := List.mem_filter.mpr ⟨List.mem_append_right _ (gt6 (List.mem_of_getElem? h)), hg⟩
def M_FG_init : MD := (⟨RX11, "<init>", "()V"⟩, prog_1_method_1_code, 1, none)
def M_JO_init : MD := (⟨"java/lang/Object", "<init>", "()V"⟩, object_method_1_code, 1, none)
def M_Tn_init : MD := (⟨RX9, "<init>", "()V"⟩, prog_11_method_1_code, 2, none)
def M_Rn_init : MD := (⟨RX6, "<init>", "()V"⟩, prog_8_method_1_code, 1, none)
def M_Sh_init : MD := (⟨RX7, "<init>", "()V"⟩, prog_9_method_1_code, 1, none)
def M_Em_init : MD := (⟨RX1, "<init>", "()V"⟩, prog_3_method_1_code, 1, none)
def M_Ea_init : MD := (⟨RX0, "<init>", "()V"⟩, prog_2_method_1_code, 1, none)
def M_Ex_init : MD := (⟨RX2, "<init>", "()V"⟩, prog_4_method_1_code, 1, none)
def M_Hi_init : MD := (⟨RX3, "<init>", "()V"⟩, prog_5_method_1_code, 1, none)
def M_Wd_init : MD := (⟨RX10, "<init>", "()V"⟩, prog_12_method_1_code, 2, none)
def M_Rd_init : MD := (⟨RX5, "<init>", "()V"⟩, prog_7_method_1_code, 1, none)
def M_Tp_init : MD := (⟨RX8, "<init>", "()V"⟩, prog_10_method_1_code, 1, none)
def M_FG_road : MD := (⟨RX11, "road", "(III)I"⟩, prog_1_method_2_code, 5, (some .int))
def M_FG_isStage : MD := (⟨RX11, "isStage", "(I)Z"⟩, prog_1_method_46_code, 1, (some .boolean))
def M_FG_within : MD := (⟨RX11, "within", "(III)Z"⟩, prog_1_method_45_code, 3, (some .boolean))
def M_FG_jam : MD := (⟨RX11, "jam", "(II)I"⟩, prog_1_method_3_code, 4, (some .int))
def M_FG_people : MD := (⟨RX11, "people", "(III)I"⟩, prog_1_method_4_code, 5, (some .int))
def M_FG_rain : MD := (⟨RX11, "rain", "(I)I"⟩, prog_1_method_5_code, 3, (some .int))
def M_FG_bus : MD := (⟨RX11, "bus", "(IIII)I"⟩, prog_1_method_6_code, 5, (some .int))
def M_Tn_enrol : MD := (⟨RX9, "enrol", "(IIII)I"⟩, prog_11_method_2_code, 6, (some .int))
def M_FG_queue : MD := (⟨RX11, "queue", "(II)I"⟩, prog_1_method_7_code, 3, (some .int))
def M_FG_isBus : MD := (⟨RX11, "isBus", "(I)Z"⟩, prog_1_method_49_code, 2, (some .boolean))
def M_Wd_lineUp : MD := (⟨RX10, "lineUp", "(II)I"⟩, prog_12_method_4_code, 4, (some .int))
def M_FG_rest : MD := (⟨RX11, "rest", "(I)I"⟩, prog_1_method_8_code, 3, (some .int))
def M_FG_jump : MD := (⟨RX11, "jump", "(II)I"⟩, prog_1_method_9_code, 5, (some .int))
def M_Wd_firstInLine : MD := (⟨RX10, "firstInLine", "(I)I"⟩, prog_12_method_6_code, 4, (some .int))
def M_Rd_isIn : MD := (⟨RX5, "isIn", "(II)Z"⟩, prog_7_method_2_code, 3, (some .boolean))
def M_FG_hold : MD := (⟨RX11, "hold", "(II)I"⟩, prog_1_method_10_code, 4, (some .int))
def M_FG_wants : MD := (⟨RX11, "wants", "(II)I"⟩, prog_1_method_11_code, 4, (some .int))
def M_FG_isKind : MD := (⟨RX11, "isKind", "(I)Z"⟩, prog_1_method_47_code, 1, (some .boolean))
def M_FG_feed : MD := (⟨RX11, "feed", "(JI)I"⟩, prog_1_method_12_code, 4, (some .int))
def M_Tp_append : MD := (⟨RX8, "append", "(JI)I"⟩, prog_10_method_2_code, 5, (some .int))
def M_FG_custom : MD := (⟨RX11, "custom", "()I"⟩, prog_1_method_13_code, 2, (some .int))
def M_Tp_parse : MD := (⟨RX8, "parse", "()Z"⟩, prog_10_method_3_code, 2, (some .boolean))
def M_Tp_parseLine : MD := (⟨RX8, "parseLine", "()LFillAndGo$Line;"⟩, prog_10_method_4_code, 5, (some (FieldType.object "FillAndGo$Line")))
def M_Tp_parseWord : MD := (⟨RX8, "parseWord", "(Ljava/lang/String;)I"⟩, prog_10_method_6_code, 8, (some .int))
def M_JS_length : MD := (⟨"java/lang/String", "length", "()I"⟩, prog_17_method_54_code, 1, (some .int))
def M_JS_coder : MD := (⟨"java/lang/String", "coder", "()B"⟩, prog_17_method_152_code, 1, (some .byte))
def M_JS_charAt : MD := (⟨"java/lang/String", "charAt", "(I)C"⟩, prog_17_method_56_code, 2, (some .char))
def M_JS_isLatin1 : MD := (⟨"java/lang/String", "isLatin1", "()Z"⟩, prog_17_method_154_code, 1, (some .boolean))
def M_JL_charAt : MD := (⟨"java/lang/StringLatin1", "charAt", "([BI)C"⟩, prog_18_method_2_code, 2, (some .char))
def M_JS_checkIndex : MD := (⟨"java/lang/String", "checkIndex", "(II)V"⟩, prog_17_method_155_code, 2, none)
def M_JU_charAt : MD := (⟨"java/lang/StringUTF16", "charAt", "([BI)C"⟩, prog_19_method_83_code, 2, (some .char))
def M_JU_checkIndex : MD := (⟨"java/lang/StringUTF16", "checkIndex", "(I[B)V"⟩, prog_19_method_91_code, 2, none)
def M_JU_length : MD := (⟨"java/lang/StringUTF16", "length", "([B)I"⟩, prog_19_method_6_code, 1, (some .int))
def M_JU_getChar : MD := (⟨"java/lang/StringUTF16", "getChar", "([BI)C"⟩, prog_19_method_5_code, 2, (some .char))
def M_Tp_byteAt : MD := (⟨RX8, "byteAt", "(I)I"⟩, prog_10_method_8_code, 2, (some .int))
def M_JM_max : MD := (⟨"java/lang/Math", "max", "(II)I"⟩, prog_16_method_65_code, 2, (some .int))
def M_Tp_parseNumber : MD := (⟨RX8, "parseNumber", "()I"⟩, prog_10_method_7_code, 3, (some .int))
def M_Ln_init : MD := (⟨RX4, "<init>", "(II)V"⟩, prog_6_method_1_code, 3, none)
def M_Tp_parseTest : MD := (⟨RX8, "parseTest", "(LFillAndGo$Line;I)Z"⟩, prog_10_method_5_code, 6, (some .boolean))
def M_Tn_adopt : MD := (⟨RX9, "adopt", "([LFillAndGo$Line;I)I"⟩, prog_11_method_3_code, 5, (some .int))
def M_FG_force : MD := (⟨RX11, "force", "(II)I"⟩, prog_1_method_14_code, 4, (some .int))
def M_FG_law : MD := (⟨RX11, "law", "(II)I"⟩, prog_1_method_15_code, 3, (some .int))
def M_Tn_factsOf : MD := (⟨RX9, "factsOf", "(LFillAndGo$World;I)[I"⟩, prog_11_method_8_code, 4, (some (FieldType.array FieldType.int)))
def M_Wd_hour : MD := (⟨RX10, "hour", "()I"⟩, prog_12_method_3_code, 1, (some .int))
def M_Wd_inLine : MD := (⟨RX10, "inLine", "(I)I"⟩, prog_12_method_5_code, 4, (some .int))
def M_Tn_says : MD := (⟨RX9, "says", "([II)I"⟩, prog_11_method_6_code, 5, (some .int))
def M_Tn_linePlace : MD := (⟨RX9, "linePlace", "([II)I"⟩, prog_11_method_7_code, 7, (some .int))
def M_Ln_holds : MD := (⟨RX4, "holds", "([I)Z"⟩, prog_6_method_2_code, 5, (some .boolean))
def M_FG_why : MD := (⟨RX11, "why", "(II)I"⟩, prog_1_method_16_code, 4, (some .int))
def M_FG_minutes : MD := (⟨RX11, "minutes", "(I)I"⟩, prog_1_method_17_code, 3, (some .int))
def M_Tn_pass : MD := (⟨RX9, "pass", "(LFillAndGo$World;)V"⟩, prog_11_method_10_code, 3, none)
def M_Tn_comeAndWalk : MD := (⟨RX9, "comeAndWalk", "(LFillAndGo$World;)V"⟩, prog_11_method_11_code, 5, none)
def M_Tn_serve : MD := (⟨RX9, "serve", "(LFillAndGo$World;I)V"⟩, prog_11_method_12_code, 7, none)
def M_Wd_loadingAt : MD := (⟨RX10, "loadingAt", "(I)I"⟩, prog_12_method_7_code, 3, (some .int))
def M_Tn_callUp : MD := (⟨RX9, "callUp", "(LFillAndGo$World;I)I"⟩, prog_11_method_13_code, 6, (some .int))
def M_Tn_mostWanted : MD := (⟨RX9, "mostWanted", "(LFillAndGo$World;I)I"⟩, prog_11_method_9_code, 5, (some .int))
def M_Em_carries : MD := (⟨RX1, "carries", "()Z"⟩, prog_3_method_4_code, 1, (some .boolean))
def M_Rn_carries : MD := (⟨RX6, "carries", "()Z"⟩, prog_8_method_7_code, 1, (some .boolean))
def M_Tn_letIn : MD := (⟨RX9, "letIn", "(LFillAndGo$World;I)V"⟩, prog_11_method_14_code, 6, none)
def M_JM_min : MD := (⟨"java/lang/Math", "min", "(II)I"⟩, prog_16_method_69_code, 2, (some .int))
def M_Ea_needOf : MD := (⟨RX0, "needOf", "(I)I"⟩, prog_2_method_2_code, 2, (some .int))
def M_Em_needOf : MD := (⟨RX1, "needOf", "(I)I"⟩, prog_3_method_2_code, 2, (some .int))
def M_Rn_needOf : MD := (⟨RX6, "needOf", "(I)I"⟩, prog_8_method_2_code, 2, (some .int))
def M_Tn_leave : MD := (⟨RX9, "leave", "(LFillAndGo$World;II)V"⟩, prog_11_method_15_code, 6, none)
def M_Hi_takings : MD := (⟨RX3, "takings", "(II)I"⟩, prog_5_method_4_code, 3, (some .int))
def M_Hi_fareOf : MD := (⟨RX3, "fareOf", "(I)I"⟩, prog_5_method_2_code, 2, (some .int))
def M_Rn_takings : MD := (⟨RX6, "takings", "(II)I"⟩, prog_8_method_6_code, 3, (some .int))
def M_Em_fareOf : MD := (⟨RX1, "fareOf", "(I)I"⟩, prog_3_method_3_code, 2, (some .int))
def M_Ex_fareOf : MD := (⟨RX2, "fareOf", "(I)I"⟩, prog_4_method_2_code, 2, (some .int))
def M_Sh_fareOf : MD := (⟨RX7, "fareOf", "(I)I"⟩, prog_9_method_2_code, 2, (some .int))
def M_Rn_fareOf : MD := (⟨RX6, "fareOf", "(I)I"⟩, prog_8_method_3_code, 2, (some .int))
def M_Tn_wayOf : MD := (⟨RX9, "wayOf", "(III)I"⟩, prog_11_method_4_code, 4, (some .int))
def M_Hi_minutesOf : MD := (⟨RX3, "minutesOf", "(I)I"⟩, prog_5_method_3_code, 2, (some .int))
def M_Sh_minutesOf : MD := (⟨RX7, "minutesOf", "(I)I"⟩, prog_9_method_3_code, 2, (some .int))
def M_Rn_minutesOf : MD := (⟨RX6, "minutesOf", "(I)I"⟩, prog_8_method_4_code, 2, (some .int))
def M_Ex_fuelOf : MD := (⟨RX2, "fuelOf", "(I)I"⟩, prog_4_method_3_code, 2, (some .int))
def M_Rn_fuelOf : MD := (⟨RX6, "fuelOf", "(I)I"⟩, prog_8_method_5_code, 2, (some .int))
def M_Tn_move : MD := (⟨RX9, "move", "(LFillAndGo$World;I)V"⟩, prog_11_method_16_code, 4, none)
def M_Tn_arrive : MD := (⟨RX9, "arrive", "(LFillAndGo$World;I)V"⟩, prog_11_method_17_code, 6, none)
def M_Sh_turnsBack : MD := (⟨RX7, "turnsBack", "()Z"⟩, prog_9_method_4_code, 1, (some .boolean))
def M_Rn_turnsBack : MD := (⟨RX6, "turnsBack", "()Z"⟩, prog_8_method_8_code, 1, (some .boolean))
def M_Tn_settle : MD := (⟨RX9, "settle", "(LFillAndGo$World;I)V"⟩, prog_11_method_18_code, 8, none)
def M_FG_busTold : MD := (⟨RX11, "busTold", "(II)I"⟩, prog_1_method_18_code, 4, (some .int))
def M_FG_waiting : MD := (⟨RX11, "waiting", "(II)I"⟩, prog_1_method_19_code, 3, (some .int))
def M_FG_stageTold : MD := (⟨RX11, "stageTold", "(II)I"⟩, prog_1_method_20_code, 3, (some .int))
def M_FG_kindTold : MD := (⟨RX11, "kindTold", "(III)I"⟩, prog_1_method_21_code, 5, (some .int))
def M_FG_count : MD := (⟨RX11, "count", "(I)I"⟩, prog_1_method_22_code, 2, (some .int))
def M_FG_trip : MD := (⟨RX11, "trip", "(II)I"⟩, prog_1_method_23_code, 3, (some .int))
def M_Tn_leastTrip : MD := (⟨RX9, "leastTrip", "(III)I"⟩, prog_11_method_5_code, 8, (some .int))
def M_FG_foretell : MD := (⟨RX11, "foretell", "(II)I"⟩, prog_1_method_24_code, 5, (some .int))
def M_Wd_become : MD := (⟨RX10, "become", "(LFillAndGo$World;)V"⟩, prog_12_method_2_code, 3, none)
def M_Rd_follow : MD := (⟨RX5, "follow", "(LFillAndGo$Ride;)V"⟩, prog_7_method_3_code, 2, none)
def M_FG_beside : MD := (⟨RX11, "beside", "(III)J"⟩, prog_1_method_25_code, 5, (some .long))
def M_FG_plan : MD := (⟨RX11, "plan", "(III)J"⟩, prog_1_method_26_code, 10, (some .long))
def M_FG_isSheet : MD := (⟨RX11, "isSheet", "(I)Z"⟩, prog_1_method_48_code, 1, (some .boolean))
def M_FG_tellsPlaces : MD := (⟨RX11, "tellsPlaces", "(I)Z"⟩, prog_1_method_52_code, 3, (some .boolean))
def M_JI_bitCount : MD := (⟨"java/lang/Integer", "bitCount", "(I)I"⟩, prog_15_method_49_code, 1, (some .int))
def M_FG_waitedWith : MD := (⟨RX11, "waitedWith", "([III)J"⟩, prog_1_method_53_code, 6, (some .long))
def M_FG_planned : MD := (⟨RX11, "planned", "()I"⟩, prog_1_method_27_code, 1, (some .int))
def M_FG_gain : MD := (⟨RX11, "gain", "(III)I"⟩, prog_1_method_28_code, 5, (some .int))
def M_FG_fights : MD := (⟨RX11, "fights", "(I)I"⟩, prog_1_method_29_code, 3, (some .int))
def M_FG_part : MD := (⟨RX11, "part", "(IIII)I"⟩, prog_1_method_30_code, 10, (some .int))
def M_FG_quietGain : MD := (⟨RX11, "quietGain", "(IIII)I"⟩, prog_1_method_55_code, 9, (some .int))
def M_FG_sideIn : MD := (⟨RX11, "sideIn", "(III)I"⟩, prog_1_method_54_code, 3, (some .int))
def M_FG_isQuiet : MD := (⟨RX11, "isQuiet", "(III)Z"⟩, prog_1_method_56_code, 5, (some .boolean))
def M_FG_round : MD := (⟨RX11, "round", "(II)I"⟩, prog_1_method_31_code, 3, (some .int))
def M_FG_stops : MD := (⟨RX11, "stops", "(I)I"⟩, prog_1_method_32_code, 2, (some .int))
def M_FG_isMember : MD := (⟨RX11, "isMember", "(I)Z"⟩, prog_1_method_50_code, 2, (some .boolean))
def M_FG_turns : MD := (⟨RX11, "turns", "()I"⟩, prog_1_method_33_code, 3, (some .int))
def M_FG_taker : MD := (⟨RX11, "taker", "()I"⟩, prog_1_method_57_code, 3, (some .int))
def M_FG_saved : MD := (⟨RX11, "saved", "(II)I"⟩, prog_1_method_34_code, 3, (some .int))
def M_FG_book : MD := (⟨RX11, "book", "(III)I"⟩, prog_1_method_35_code, 5, (some .int))
def M_FG_mend : MD := (⟨RX11, "mend", "(II)I"⟩, prog_1_method_36_code, 4, (some .int))
def M_FG_told : MD := (⟨RX11, "told", "(III)J"⟩, prog_1_method_37_code, 8, (some .long))
def M_FG_sumKnown : MD := (⟨RX11, "sumKnown", "([II)I"⟩, prog_1_method_58_code, 3, (some .int))
def M_FG_image : MD := (⟨RX11, "image", "()I"⟩, prog_1_method_38_code, 1, (some .int))
def M_FG_back : MD := (⟨RX11, "back", "()I"⟩, prog_1_method_39_code, 1, (some .int))
def M_FG_sheet : MD := (⟨RX11, "sheet", "(III)I"⟩, prog_1_method_40_code, 5, (some .int))
def M_FG_cell : MD := (⟨RX11, "cell", "(III)I"⟩, prog_1_method_41_code, 4, (some .int))
def M_FG_copy : MD := (⟨RX11, "copy", "(IIIII)I"⟩, prog_1_method_42_code, 6, (some .int))
def M_FG_holdsAll : MD := (⟨RX11, "holdsAll", "(III)Z"⟩, prog_1_method_51_code, 4, (some .boolean))
def M_FG_buses : MD := (⟨RX11, "buses", "(IIII)I"⟩, prog_1_method_43_code, 9, (some .int))
def M_FG_taken : MD := (⟨RX11, "taken", "(II)I"⟩, prog_1_method_44_code, 4, (some .int))
def M_Ea_isOf : MD := (⟨RX0, "isOf", "(I)Z"⟩, prog_2_method_3_code, 2, (some .boolean))
def M_Em_isOf : MD := (⟨RX1, "isOf", "(I)Z"⟩, prog_3_method_5_code, 2, (some .boolean))
def M_Ex_isOf : MD := (⟨RX2, "isOf", "(I)Z"⟩, prog_4_method_4_code, 2, (some .boolean))
def M_Hi_isOf : MD := (⟨RX3, "isOf", "(I)Z"⟩, prog_5_method_5_code, 2, (some .boolean))
def M_Sh_isOf : MD := (⟨RX7, "isOf", "(I)Z"⟩, prog_9_method_5_code, 2, (some .boolean))
def M_Rn_isOf : MD := (⟨RX6, "isOf", "(I)Z"⟩, prog_8_method_9_code, 2, (some .boolean))
def M_Rf_init : MD := (⟨RX12, "<init>", "()V"⟩, prog_14_method_1_code, 1, none)
def M_Rf_road : MD := (⟨RX12, "road", "(III)I"⟩, prog_14_method_8_code, 5, (some .int))
def M_Rf_isStage : MD := (⟨RX12, "isStage", "(I)Z"⟩, prog_14_method_4_code, 1, (some .boolean))
def M_Rf_in : MD := (⟨RX12, "in", "(III)Z"⟩, prog_14_method_3_code, 3, (some .boolean))
def M_Rf_jam : MD := (⟨RX12, "jam", "(II)I"⟩, prog_14_method_9_code, 4, (some .int))
def M_Rf_people : MD := (⟨RX12, "people", "(III)I"⟩, prog_14_method_10_code, 5, (some .int))
def M_Rf_rain : MD := (⟨RX12, "rain", "(I)I"⟩, prog_14_method_11_code, 3, (some .int))
def M_Rf_bus : MD := (⟨RX12, "bus", "(IIII)I"⟩, prog_14_method_12_code, 5, (some .int))
def M_Rf_queue : MD := (⟨RX12, "queue", "(II)I"⟩, prog_14_method_14_code, 3, (some .int))
def M_Rf_isBus : MD := (⟨RX12, "isBus", "(I)Z"⟩, prog_14_method_5_code, 2, (some .boolean))
def M_Rf_queuesAt : MD := (⟨RX12, "queuesAt", "(II)V"⟩, prog_14_method_13_code, 3, none)
def M_Rf_rest : MD := (⟨RX12, "rest", "(I)I"⟩, prog_14_method_15_code, 2, (some .int))
def M_Rf_jump : MD := (⟨RX12, "jump", "(II)I"⟩, prog_14_method_17_code, 4, (some .int))
def M_Rf_firstAt : MD := (⟨RX12, "firstAt", "(I)I"⟩, prog_14_method_16_code, 5, (some .int))
def M_Rf_hold : MD := (⟨RX12, "hold", "(II)I"⟩, prog_14_method_18_code, 3, (some .int))
def M_Rf_wants : MD := (⟨RX12, "wants", "(II)I"⟩, prog_14_method_19_code, 4, (some .int))
def M_Rf_kindTold : MD := (⟨RX12, "kindTold", "(III)I"⟩, prog_14_method_24_code, 4, (some .int))
def M_Rf_needOf : MD := (⟨RX12, "needOf", "(II)I"⟩, prog_14_method_20_code, 3, (some .int))
def M_Rf_fareOf : MD := (⟨RX12, "fareOf", "(II)I"⟩, prog_14_method_21_code, 2, (some .int))
def M_Rf_minutesOf : MD := (⟨RX12, "minutesOf", "(II)I"⟩, prog_14_method_22_code, 2, (some .int))
def M_Rf_fuelOf : MD := (⟨RX12, "fuelOf", "(II)I"⟩, prog_14_method_23_code, 2, (some .int))
def M_Rf_feed : MD := (⟨RX12, "feed", "(JI)I"⟩, prog_14_method_25_code, 5, (some .int))
def M_Rf_custom : MD := (⟨RX12, "custom", "()I"⟩, prog_14_method_31_code, 3, (some .int))
def M_Rf_line : MD := (⟨RX12, "line", "(I)Z"⟩, prog_14_method_30_code, 2, (some .boolean))
def M_Rf_wordOf : MD := (⟨RX12, "wordOf", "(II)I"⟩, prog_14_method_27_code, 7, (some .int))
def M_Rf_byteHere : MD := (⟨RX12, "byteHere", "()I"⟩, prog_14_method_26_code, 1, (some .int))
def M_Rf_number : MD := (⟨RX12, "number", "()I"⟩, prog_14_method_28_code, 3, (some .int))
def M_Rf_test : MD := (⟨RX12, "test", "(I)Z"⟩, prog_14_method_29_code, 3, (some .boolean))
def M_Rf_force : MD := (⟨RX12, "force", "(II)I"⟩, prog_14_method_32_code, 4, (some .int))
def M_Rf_law : MD := (⟨RX12, "law", "(II)I"⟩, prog_14_method_38_code, 3, (some .int))
def M_Rf_lawOf : MD := (⟨RX12, "lawOf", "(II)I"⟩, prog_14_method_37_code, 4, (some .int))
def M_Rf_lineFor : MD := (⟨RX12, "lineFor", "(II)I"⟩, prog_14_method_36_code, 6, (some .int))
def M_Rf_holds : MD := (⟨RX12, "holds", "(II)Z"⟩, prog_14_method_35_code, 5, (some .boolean))
def M_Rf_fieldOf : MD := (⟨RX12, "fieldOf", "(II)I"⟩, prog_14_method_34_code, 3, (some .int))
def M_Rf_hour : MD := (⟨RX12, "hour", "()I"⟩, prog_14_method_6_code, 1, (some .int))
def M_Rf_queueAt : MD := (⟨RX12, "queueAt", "(I)I"⟩, prog_14_method_33_code, 4, (some .int))
def M_Rf_why : MD := (⟨RX12, "why", "(II)I"⟩, prog_14_method_39_code, 3, (some .int))
def M_Rf_minutes : MD := (⟨RX12, "minutes", "(I)I"⟩, prog_14_method_48_code, 3, (some .int))
def M_Rf_goes : MD := (⟨RX12, "goes", "()V"⟩, prog_14_method_47_code, 2, none)
def M_Rf_come : MD := (⟨RX12, "come", "()V"⟩, prog_14_method_40_code, 3, none)
def M_Rf_loads : MD := (⟨RX12, "loads", "(I)V"⟩, prog_14_method_43_code, 7, none)
def M_Rf_loadsAt : MD := (⟨RX12, "loadsAt", "(I)I"⟩, prog_14_method_41_code, 3, (some .int))
def M_Rf_aimOf : MD := (⟨RX12, "aimOf", "(I)I"⟩, prog_14_method_42_code, 5, (some .int))
def M_Rf_wayOf : MD := (⟨RX12, "wayOf", "(II)I"⟩, prog_14_method_7_code, 4, (some .int))
def M_Rf_goesBus : MD := (⟨RX12, "goesBus", "(I)V"⟩, prog_14_method_44_code, 3, none)
def M_Rf_sum : MD := (⟨RX12, "sum", "(II)I"⟩, prog_14_method_46_code, 5, (some .int))
def M_Rf_settles : MD := (⟨RX12, "settles", "(I)V"⟩, prog_14_method_45_code, 5, none)
def M_Rf_busTold : MD := (⟨RX12, "busTold", "(II)I"⟩, prog_14_method_49_code, 3, (some .int))
def M_Rf_waiting : MD := (⟨RX12, "waiting", "(II)I"⟩, prog_14_method_50_code, 3, (some .int))
def M_Rf_stageTold : MD := (⟨RX12, "stageTold", "(II)I"⟩, prog_14_method_51_code, 3, (some .int))
def M_Rf_count : MD := (⟨RX12, "count", "(I)I"⟩, prog_14_method_52_code, 2, (some .int))
def M_Rf_trip : MD := (⟨RX12, "trip", "(II)I"⟩, prog_14_method_53_code, 6, (some .int))
def M_Rf_foretell : MD := (⟨RX12, "foretell", "(II)I"⟩, prog_14_method_55_code, 7, (some .int))
def M_Rf_lays : MD := (⟨RX12, "lays", "(Z)V"⟩, prog_14_method_54_code, 3, none)
def M_Rf_beside : MD := (⟨RX12, "beside", "(III)J"⟩, prog_14_method_56_code, 7, (some .long))
def M_Rf_plan : MD := (⟨RX12, "plan", "(III)J"⟩, prog_14_method_59_code, 11, (some .long))
def M_Rf_isPlan : MD := (⟨RX12, "isPlan", "(III)Z"⟩, prog_14_method_58_code, 5, (some .boolean))
def M_Rf_many : MD := (⟨RX12, "many", "(I)I"⟩, prog_14_method_57_code, 3, (some .int))
def M_Rf_planned : MD := (⟨RX12, "planned", "()I"⟩, prog_14_method_60_code, 1, (some .int))
def M_Rf_gain : MD := (⟨RX12, "gain", "(III)I"⟩, prog_14_method_61_code, 5, (some .int))
def M_Rf_fights : MD := (⟨RX12, "fights", "(I)I"⟩, prog_14_method_62_code, 3, (some .int))
def M_Rf_part : MD := (⟨RX12, "part", "(IIII)I"⟩, prog_14_method_64_code, 12, (some .int))
def M_Rf_isQuiet : MD := (⟨RX12, "isQuiet", "(III)Z"⟩, prog_14_method_63_code, 6, (some .boolean))
def M_Rf_round : MD := (⟨RX12, "round", "(II)I"⟩, prog_14_method_65_code, 3, (some .int))
def M_Rf_stops : MD := (⟨RX12, "stops", "(I)I"⟩, prog_14_method_67_code, 2, (some .int))
def M_Rf_isMember : MD := (⟨RX12, "isMember", "(I)Z"⟩, prog_14_method_66_code, 2, (some .boolean))
def M_Rf_turns : MD := (⟨RX12, "turns", "()I"⟩, prog_14_method_68_code, 3, (some .int))
def M_Rf_saved : MD := (⟨RX12, "saved", "(II)I"⟩, prog_14_method_69_code, 3, (some .int))
def M_Rf_book : MD := (⟨RX12, "book", "(III)I"⟩, prog_14_method_70_code, 4, (some .int))
def M_Rf_mend : MD := (⟨RX12, "mend", "(II)I"⟩, prog_14_method_71_code, 3, (some .int))
def M_Rf_told : MD := (⟨RX12, "told", "(III)J"⟩, prog_14_method_72_code, 7, (some .long))
def M_Rf_image : MD := (⟨RX12, "image", "()I"⟩, prog_14_method_73_code, 2, (some .int))
def M_Rf_back : MD := (⟨RX12, "back", "()I"⟩, prog_14_method_74_code, 2, (some .int))
def M_Rf_sheet : MD := (⟨RX12, "sheet", "(III)I"⟩, prog_14_method_75_code, 5, (some .int))
def M_Rf_cell : MD := (⟨RX12, "cell", "(III)I"⟩, prog_14_method_76_code, 4, (some .int))
def M_Rf_copy : MD := (⟨RX12, "copy", "(IIIII)I"⟩, prog_14_method_77_code, 10, (some .int))
def M_Rf_buses : MD := (⟨RX12, "buses", "(IIII)I"⟩, prog_14_method_78_code, 9, (some .int))
def M_Rf_taken : MD := (⟨RX12, "taken", "(II)I"⟩, prog_14_method_80_code, 3, (some .int))
def M_Rf_isUnder : MD := (⟨RX12, "isUnder", "(II)Z"⟩, prog_14_method_79_code, 2, (some .boolean))
def M_Lw_law : MD := (⟨"FillAndGoLaw", "law", "([I)Z"⟩, code, 4, (some .boolean))
theorem ic_m1 : Int32.ofInt (-1) = (-1) := by decide
theorem ic_0 : Int32.ofInt (0) = (nI 0) := by decide
theorem ic_1 : Int32.ofInt (1) = (nI 1) := by decide
theorem ic_2 : Int32.ofInt (2) = (nI 2) := by decide
theorem ic_3 : Int32.ofInt (3) = (nI 3) := by decide
theorem ic_4 : Int32.ofInt (4) = (nI 4) := by decide
theorem ic_5 : Int32.ofInt (5) = (nI 5) := by decide
theorem bp_m100 : (Int8.ofInt (-100)).toInt32 = (-100) := by decide
theorem bp_m14 : (Int8.ofInt (-14)).toInt32 = (-14) := by decide
theorem bp_m13 : (Int8.ofInt (-13)).toInt32 = (-13) := by decide
theorem bp_m12 : (Int8.ofInt (-12)).toInt32 = (-12) := by decide
theorem bp_m11 : (Int8.ofInt (-11)).toInt32 = (-11) := by decide
theorem bp_m7 : (Int8.ofInt (-7)).toInt32 = (-7) := by decide
theorem bp_m6 : (Int8.ofInt (-6)).toInt32 = (-6) := by decide
theorem bp_m5 : (Int8.ofInt (-5)).toInt32 = (-5) := by decide
theorem bp_m4 : (Int8.ofInt (-4)).toInt32 = (-4) := by decide
theorem bp_m3 : (Int8.ofInt (-3)).toInt32 = (-3) := by decide
theorem bp_m2 : (Int8.ofInt (-2)).toInt32 = (-2) := by decide
theorem bp_6 : (Int8.ofInt (6)).toInt32 = (nI 6) := by decide
theorem bp_7 : (Int8.ofInt (7)).toInt32 = (nI 7) := by decide
theorem bp_8 : (Int8.ofInt (8)).toInt32 = (nI 8) := by decide
theorem bp_9 : (Int8.ofInt (9)).toInt32 = (nI 9) := by decide
theorem bp_10 : (Int8.ofInt (10)).toInt32 = (nI 10) := by decide
theorem bp_11 : (Int8.ofInt (11)).toInt32 = (nI 11) := by decide
theorem bp_12 : (Int8.ofInt (12)).toInt32 = (nI 12) := by decide
theorem bp_13 : (Int8.ofInt (13)).toInt32 = (nI 13) := by decide
theorem bp_14 : (Int8.ofInt (14)).toInt32 = (nI 14) := by decide
theorem bp_15 : (Int8.ofInt (15)).toInt32 = (nI 15) := by decide
theorem bp_16 : (Int8.ofInt (16)).toInt32 = (nI 16) := by decide
theorem bp_17 : (Int8.ofInt (17)).toInt32 = (nI 17) := by decide
theorem bp_18 : (Int8.ofInt (18)).toInt32 = (nI 18) := by decide
theorem bp_19 : (Int8.ofInt (19)).toInt32 = (nI 19) := by decide
theorem bp_20 : (Int8.ofInt (20)).toInt32 = (nI 20) := by decide
theorem bp_21 : (Int8.ofInt (21)).toInt32 = (nI 21) := by decide
theorem bp_22 : (Int8.ofInt (22)).toInt32 = (nI 22) := by decide
theorem bp_23 : (Int8.ofInt (23)).toInt32 = (nI 23) := by decide
theorem bp_24 : (Int8.ofInt (24)).toInt32 = (nI 24) := by decide
theorem bp_25 : (Int8.ofInt (25)).toInt32 = (nI 25) := by decide
theorem bp_26 : (Int8.ofInt (26)).toInt32 = (nI 26) := by decide
theorem bp_27 : (Int8.ofInt (27)).toInt32 = (nI 27) := by decide
theorem bp_28 : (Int8.ofInt (28)).toInt32 = (nI 28) := by decide
theorem bp_29 : (Int8.ofInt (29)).toInt32 = (nI 29) := by decide
theorem bp_30 : (Int8.ofInt (30)).toInt32 = (nI 30) := by decide
theorem bp_32 : (Int8.ofInt (32)).toInt32 = (nI 32) := by decide
theorem bp_36 : (Int8.ofInt (36)).toInt32 = (nI 36) := by decide
theorem bp_40 : (Int8.ofInt (40)).toInt32 = (nI 40) := by decide
theorem bp_47 : (Int8.ofInt (47)).toInt32 = (nI 47) := by decide
theorem bp_48 : (Int8.ofInt (48)).toInt32 = (nI 48) := by decide
theorem bp_50 : (Int8.ofInt (50)).toInt32 = (nI 50) := by decide
theorem bp_57 : (Int8.ofInt (57)).toInt32 = (nI 57) := by decide
theorem bp_60 : (Int8.ofInt (60)).toInt32 = (nI 60) := by decide
theorem bp_61 : (Int8.ofInt (61)).toInt32 = (nI 61) := by decide
theorem bp_62 : (Int8.ofInt (62)).toInt32 = (nI 62) := by decide
theorem bp_63 : (Int8.ofInt (63)).toInt32 = (nI 63) := by decide
theorem bp_72 : (Int8.ofInt (72)).toInt32 = (nI 72) := by decide
theorem bp_84 : (Int8.ofInt (84)).toInt32 = (nI 84) := by decide
theorem bp_96 : (Int8.ofInt (96)).toInt32 = (nI 96) := by decide
theorem bp_99 : (Int8.ofInt (99)).toInt32 = (nI 99) := by decide
theorem bp_100 : (Int8.ofInt (100)).toInt32 = (nI 100) := by decide
theorem bp_108 : (Int8.ofInt (108)).toInt32 = (nI 108) := by decide
theorem bp_120 : (Int8.ofInt (120)).toInt32 = (nI 120) := by decide
theorem sp_132 : (Int16.ofInt (132)).toInt32 = (nI 132) := by decide
theorem sp_144 : (Int16.ofInt (144)).toInt32 = (nI 144) := by decide
theorem sp_156 : (Int16.ofInt (156)).toInt32 = (nI 156) := by decide
theorem sp_160 : (Int16.ofInt (160)).toInt32 = (nI 160) := by decide
theorem sp_168 : (Int16.ofInt (168)).toInt32 = (nI 168) := by decide
theorem sp_180 : (Int16.ofInt (180)).toInt32 = (nI 180) := by decide
theorem sp_192 : (Int16.ofInt (192)).toInt32 = (nI 192) := by decide
theorem sp_200 : (Int16.ofInt (200)).toInt32 = (nI 200) := by decide
theorem sp_204 : (Int16.ofInt (204)).toInt32 = (nI 204) := by decide
theorem sp_216 : (Int16.ofInt (216)).toInt32 = (nI 216) := by decide
theorem sp_228 : (Int16.ofInt (228)).toInt32 = (nI 228) := by decide
theorem sp_234 : (Int16.ofInt (234)).toInt32 = (nI 234) := by decide
theorem sp_235 : (Int16.ofInt (235)).toInt32 = (nI 235) := by decide
theorem sp_236 : (Int16.ofInt (236)).toInt32 = (nI 236) := by decide
theorem sp_237 : (Int16.ofInt (237)).toInt32 = (nI 237) := by decide
theorem sp_238 : (Int16.ofInt (238)).toInt32 = (nI 238) := by decide
theorem sp_239 : (Int16.ofInt (239)).toInt32 = (nI 239) := by decide
theorem sp_240 : (Int16.ofInt (240)).toInt32 = (nI 240) := by decide
theorem sp_255 : (Int16.ofInt (255)).toInt32 = (nI 255) := by decide
theorem sp_600 : (Int16.ofInt (600)).toInt32 = (nI 600) := by decide
theorem sp_999 : (Int16.ofInt (999)).toInt32 = (nI 999) := by decide
theorem sp_1439 : (Int16.ofInt (1439)).toInt32 = (nI 1439) := by decide
theorem sp_1440 : (Int16.ofInt (1440)).toInt32 = (nI 1440) := by decide
theorem sp_9999 : (Int16.ofInt (9999)).toInt32 = (nI 9999) := by decide
theorem sp_14400 : (Int16.ofInt (14400)).toInt32 = (nI 14400) := by decide
theorem iinc_1 {a : Nat} : nI a + Int32.ofInt 1 = nI (a + 1) := nI_1 a
theorem iinc_g {x : Int32} {z : Int} : x + Int32.ofInt z = x + Int32.ofInt z := rfl
theorem RO0 {d mc ms : Nat} (_ : Unit) : RO (Rm (d + 1) mc ms) 0 := ⟨Nat.succ_le_succ (Nat.zero_le d), Nat.mul_le_mul_left 37 (Nat.succ_le_succ (Nat.zero_le d))⟩
theorem kc_FG_172 : Cond.constant RX11 172 (-1000000) ∈ lw_good := gw 743 (by decide +kernel) (by decide +kernel)
theorem kc_FG_296 : Cond.constant RX11 296 (nI 1000000) ∈ lw_good := gw 874 (by decide +kernel) (by decide +kernel)
theorem kc_Tn_90 : Cond.constant RX9 90 (nI 1000000) ∈ lw_good := gw 776 (by decide +kernel) (by decide +kernel)
theorem kc_Rf_263 : Cond.constant RX12 263 (-1000000) ∈ lw_good := gw 1298 (by decide +kernel) (by decide +kernel)
theorem kc_Rf_270 : Cond.constant RX12 270 (nI 1000000) ∈ lw_good := gw 1315 (by decide +kernel) (by decide +kernel)
theorem kc_JI_265 : Cond.constant "java/lang/Integer" 265 (nI 1431655765) ∈ lw_good := gw 812 (by decide +kernel) (by decide +kernel)
theorem kc_JI_266 : Cond.constant "java/lang/Integer" 266 (nI 858993459) ∈ lw_good := gw 813 (by decide +kernel) (by decide +kernel)
theorem kc_JI_267 : Cond.constant "java/lang/Integer" 267 (nI 252645135) ∈ lw_good := gw 814 (by decide +kernel) (by decide +kernel)
theorem kl_FG_253 : Cond.constantLong RX11 253 (-4611686018427387904) ∈ lw_good := gw 796 (by decide +kernel) (by decide +kernel)
theorem kl_FG_261 : Cond.constantLong RX11 261 (-1) ∈ lw_good := gw 808 (by decide +kernel) (by decide +kernel)
theorem kl_Tn_254 : Cond.constantLong RX9 254 (100) ∈ lw_good := gw 738 (by decide +kernel) (by decide +kernel)
theorem kl_Lw_57 : Cond.constantLong "FillAndGoLaw" 57 (4294967295) ∈ lw_good := gw 1426 (by decide +kernel) (by decide +kernel)
theorem kl_Rf_110 : Cond.constantLong RX12 110 (26479) ∈ lw_good := gw 950 (by decide +kernel) (by decide +kernel)
theorem kl_Rf_112 : Cond.constantLong RX12 112 (1717662309) ∈ lw_good := gw 951 (by decide +kernel) (by decide +kernel)
theorem kl_Rf_114 : Cond.constantLong RX12 114 (1801807216) ∈ lw_good := gw 952 (by decide +kernel) (by decide +kernel)
theorem kl_Rf_116 : Cond.constantLong RX12 116 (131260264768868) ∈ lw_good := gw 953 (by decide +kernel) (by decide +kernel)
theorem kl_Rf_118 : Cond.constantLong RX12 118 (1936682084) ∈ lw_good := gw 954 (by decide +kernel) (by decide +kernel)
theorem kl_Rf_120 : Cond.constantLong RX12 120 (1918986606) ∈ lw_good := gw 955 (by decide +kernel) (by decide +kernel)
theorem kl_Rf_122 : Cond.constantLong RX12 122 (1752135026) ∈ lw_good := gw 956 (by decide +kernel) (by decide +kernel)
theorem kl_Rf_124 : Cond.constantLong RX12 124 (487300887909) ∈ lw_good := gw 957 (by decide +kernel) (by decide +kernel)
theorem kl_Rf_126 : Cond.constantLong RX12 126 (495873779557) ∈ lw_good := gw 958 (by decide +kernel) (by decide +kernel)
theorem kl_Rf_128 : Cond.constantLong RX12 128 (478745093490) ∈ lw_good := gw 959 (by decide +kernel) (by decide +kernel)
theorem kl_Rf_130 : Cond.constantLong RX12 130 (111469206070628) ∈ lw_good := gw 960 (by decide +kernel) (by decide +kernel)
theorem kl_Rf_194 : Cond.constantLong RX12 194 (255) ∈ lw_good := gw 1192 (by decide +kernel) (by decide +kernel)
theorem kl_Rf_242 : Cond.constantLong RX12 242 (100) ∈ lw_good := gw 1293 (by decide +kernel) (by decide +kernel)
theorem kl_Rf_275 : Cond.constantLong RX12 275 (-4611686018427387904) ∈ lw_good := gw 1328 (by decide +kernel) (by decide +kernel)
theorem kl_Rf_280 : Cond.constantLong RX12 280 (4611686018427387903) ∈ lw_good := gw 1337 (by decide +kernel) (by decide +kernel)
theorem fl_FG_10 : FL RX11 10 11 0 (.object "FillAndGo$Town") true := ⟨RX11, TX11, 18, tyX11, rfl, by decide, gw 292 (by decide +kernel) (by decide +kernel), inX11, tyX11_ok, nmX11, by decide +kernel, rfl, rfl⟩
theorem fl_FG_19 : FL RX11 19 11 1 (.object "FillAndGo$World") true := ⟨RX11, TX11, 18, tyX11, rfl, by decide, gw 293 (by decide +kernel) (by decide +kernel), inX11, tyX11_ok, nmX11, by decide +kernel, rfl, rfl⟩
theorem fl_FG_23 : FL RX11 23 11 2 (.object "FillAndGo$World") true := ⟨RX11, TX11, 18, tyX11, rfl, by decide, gw 294 (by decide +kernel) (by decide +kernel), inX11, tyX11_ok, nmX11, by decide +kernel, rfl, rfl⟩
theorem fl_FG_26 : FL RX11 26 11 3 (.object "FillAndGo$World") true := ⟨RX11, TX11, 18, tyX11, rfl, by decide, gw 295 (by decide +kernel) (by decide +kernel), inX11, tyX11_ok, nmX11, by decide +kernel, rfl, rfl⟩
theorem fl_FG_32 : FL RX11 32 11 5 (.object "FillAndGo$Tape") true := ⟨RX11, TX11, 18, tyX11, rfl, by decide, gw 297 (by decide +kernel) (by decide +kernel), inX11, tyX11_ok, nmX11, by decide +kernel, rfl, rfl⟩
theorem fl_FG_38 : FL RX11 38 11 7 (.array (.array .int)) true := ⟨RX11, TX11, 18, tyX11, rfl, by decide, gw 299 (by decide +kernel) (by decide +kernel), inX11, tyX11_ok, nmX11, by decide +kernel, rfl, rfl⟩
theorem fl_FG_41 : FL RX11 41 11 12 (.array (.array .int)) true := ⟨RX11, TX11, 18, tyX11, rfl, by decide, gw 304 (by decide +kernel) (by decide +kernel), inX11, tyX11_ok, nmX11, by decide +kernel, rfl, rfl⟩
theorem fl_FG_44 : FL RX11 44 11 13 (.array (.array .int)) true := ⟨RX11, TX11, 18, tyX11, rfl, by decide, gw 305 (by decide +kernel) (by decide +kernel), inX11, tyX11_ok, nmX11, by decide +kernel, rfl, rfl⟩
theorem fl_FG_47 : FL RX11 47 11 15 (.array (.array .int)) true := ⟨RX11, TX11, 18, tyX11, rfl, by decide, gw 307 (by decide +kernel) (by decide +kernel), inX11, tyX11_ok, nmX11, by decide +kernel, rfl, rfl⟩
theorem fl_FG_50 : FL RX11 50 11 16 (.array .int) true := ⟨RX11, TX11, 18, tyX11, rfl, by decide, gw 308 (by decide +kernel) (by decide +kernel), inX11, tyX11_ok, nmX11, by decide +kernel, rfl, rfl⟩
theorem fl_FG_54 : FL RX11 54 11 17 (.array .int) true := ⟨RX11, TX11, 18, tyX11, rfl, by decide, gw 309 (by decide +kernel) (by decide +kernel), inX11, tyX11_ok, nmX11, by decide +kernel, rfl, rfl⟩
theorem fl_FG_65 : FL RX11 65 9 0 (.array .int) true := ⟨RX9, TX9, 15, tyX9, rfl, by decide, gw 82 (by decide +kernel) (by decide +kernel), inX9, tyX9_ok, nmX9, by decide +kernel, rfl, rfl⟩
theorem fl_FG_68 : FL RX11 68 9 2 (.array .int) true := ⟨RX9, TX9, 15, tyX9, rfl, by decide, gw 86 (by decide +kernel) (by decide +kernel), inX9, tyX9_ok, nmX9, by decide +kernel, rfl, rfl⟩
theorem fl_FG_71 : FL RX11 71 9 1 (.array .int) true := ⟨RX9, TX9, 15, tyX9, rfl, by decide, gw 84 (by decide +kernel) (by decide +kernel), inX9, tyX9_ok, nmX9, by decide +kernel, rfl, rfl⟩
theorem fl_FG_74 : FL RX11 74 10 1 .int false := ⟨RX10, TX10, 9, tyX10, rfl, by decide, gw 223 (by decide +kernel) (by decide +kernel), inX10, tyX10_ok, nmX10, by decide +kernel, rfl, rfl⟩
theorem fl_FG_85 : FL RX11 85 10 8 (.array (.object "FillAndGo$Ride")) true := ⟨RX10, TX10, 9, tyX10, rfl, by decide, gw 241 (by decide +kernel) (by decide +kernel), inX10, tyX10_ok, nmX10, by decide +kernel, rfl, rfl⟩
theorem fl_FG_89 : FL RX11 89 5 0 .int false := ⟨RX5, TX5, 13, tyX5, rfl, by decide, gw 150 (by decide +kernel) (by decide +kernel), inX5, tyX5_ok, nmX5, by decide +kernel, rfl, rfl⟩
theorem fl_FG_98 : FL RX11 98 5 1 .int false := ⟨RX5, TX5, 13, tyX5, rfl, by decide, gw 154 (by decide +kernel) (by decide +kernel), inX5, tyX5_ok, nmX5, by decide +kernel, rfl, rfl⟩
theorem fl_FG_105 : FL RX11 105 5 2 .int false := ⟨RX5, TX5, 13, tyX5, rfl, by decide, gw 158 (by decide +kernel) (by decide +kernel), inX5, tyX5_ok, nmX5, by decide +kernel, rfl, rfl⟩
theorem fl_FG_108 : FL RX11 108 5 9 .int false := ⟨RX5, TX5, 13, tyX5, rfl, by decide, gw 181 (by decide +kernel) (by decide +kernel), inX5, tyX5_ok, nmX5, by decide +kernel, rfl, rfl⟩
theorem fl_FG_111 : FL RX11 111 10 0 .int false := ⟨RX10, TX10, 9, tyX10, rfl, by decide, gw 221 (by decide +kernel) (by decide +kernel), inX10, tyX10_ok, nmX10, by decide +kernel, rfl, rfl⟩
theorem fl_FG_114 : FL RX11 114 5 6 .int false := ⟨RX5, TX5, 13, tyX5, rfl, by decide, gw 173 (by decide +kernel) (by decide +kernel), inX5, tyX5_ok, nmX5, by decide +kernel, rfl, rfl⟩
theorem fl_FG_117 : FL RX11 117 5 5 .int false := ⟨RX5, TX5, 13, tyX5, rfl, by decide, gw 168 (by decide +kernel) (by decide +kernel), inX5, tyX5_ok, nmX5, by decide +kernel, rfl, rfl⟩
theorem fl_FG_123 : FL RX11 123 9 7 (.array .int) true := ⟨RX9, TX9, 15, tyX9, rfl, by decide, gw 92 (by decide +kernel) (by decide +kernel), inX9, tyX9_ok, nmX9, by decide +kernel, rfl, rfl⟩
theorem fl_FG_126 : FL RX11 126 8 1 .int false := ⟨RX8, TX8, 5, tyX8, rfl, by decide, gw 271 (by decide +kernel) (by decide +kernel), inX8, tyX8_ok, nmX8, by decide +kernel, rfl, rfl⟩
theorem fl_FG_133 : FL RX11 133 9 10 .int false := ⟨RX9, TX9, 15, tyX9, rfl, by decide, gw 97 (by decide +kernel) (by decide +kernel), inX9, tyX9_ok, nmX9, by decide +kernel, rfl, rfl⟩
theorem fl_FG_140 : FL RX11 140 8 3 (.array (.object "FillAndGo$Line")) true := ⟨RX8, TX8, 5, tyX8, rfl, by decide, gw 275 (by decide +kernel) (by decide +kernel), inX8, tyX8_ok, nmX8, by decide +kernel, rfl, rfl⟩
theorem fl_FG_144 : FL RX11 144 8 4 .int false := ⟨RX8, TX8, 5, tyX8, rfl, by decide, gw 277 (by decide +kernel) (by decide +kernel), inX8, tyX8_ok, nmX8, by decide +kernel, rfl, rfl⟩
theorem fl_FG_151 : FL RX11 151 8 2 .int false := ⟨RX8, TX8, 5, tyX8, rfl, by decide, gw 273 (by decide +kernel) (by decide +kernel), inX8, tyX8_ok, nmX8, by decide +kernel, rfl, rfl⟩
theorem fl_FG_154 : FL RX11 154 9 11 (.array .int) true := ⟨RX9, TX9, 15, tyX9, rfl, by decide, gw 99 (by decide +kernel) (by decide +kernel), inX9, tyX9_ok, nmX9, by decide +kernel, rfl, rfl⟩
theorem fl_FG_173 : FL RX11 173 5 3 .int false := ⟨RX5, TX5, 13, tyX5, rfl, by decide, gw 161 (by decide +kernel) (by decide +kernel), inX5, tyX5_ok, nmX5, by decide +kernel, rfl, rfl⟩
theorem fl_FG_176 : FL RX11 176 5 4 .int false := ⟨RX5, TX5, 13, tyX5, rfl, by decide, gw 165 (by decide +kernel) (by decide +kernel), inX5, tyX5_ok, nmX5, by decide +kernel, rfl, rfl⟩
theorem fl_FG_179 : FL RX11 179 5 8 .int false := ⟨RX5, TX5, 13, tyX5, rfl, by decide, gw 179 (by decide +kernel) (by decide +kernel), inX5, tyX5_ok, nmX5, by decide +kernel, rfl, rfl⟩
theorem fl_FG_182 : FL RX11 182 5 10 .int false := ⟨RX5, TX5, 13, tyX5, rfl, by decide, gw 185 (by decide +kernel) (by decide +kernel), inX5, tyX5_ok, nmX5, by decide +kernel, rfl, rfl⟩
theorem fl_FG_184 : FL RX11 184 5 11 .int false := ⟨RX5, TX5, 13, tyX5, rfl, by decide, gw 188 (by decide +kernel) (by decide +kernel), inX5, tyX5_ok, nmX5, by decide +kernel, rfl, rfl⟩
theorem fl_FG_187 : FL RX11 187 5 12 .int false := ⟨RX5, TX5, 13, tyX5, rfl, by decide, gw 191 (by decide +kernel) (by decide +kernel), inX5, tyX5_ok, nmX5, by decide +kernel, rfl, rfl⟩
theorem fl_FG_190 : FL RX11 190 5 7 .int false := ⟨RX5, TX5, 13, tyX5, rfl, by decide, gw 176 (by decide +kernel) (by decide +kernel), inX5, tyX5_ok, nmX5, by decide +kernel, rfl, rfl⟩
theorem fl_FG_193 : FL RX11 193 10 5 (.array .int) true := ⟨RX10, TX10, 9, tyX10, rfl, by decide, gw 236 (by decide +kernel) (by decide +kernel), inX10, tyX10_ok, nmX10, by decide +kernel, rfl, rfl⟩
theorem fl_FG_206 : FL RX11 206 9 12 (.array (.object "FillAndGo$Run")) true := ⟨RX9, TX9, 15, tyX9, rfl, by decide, gw 101 (by decide +kernel) (by decide +kernel), inX9, tyX9_ok, nmX9, by decide +kernel, rfl, rfl⟩
theorem fl_FG_224 : FL RX11 224 9 8 .int false := ⟨RX9, TX9, 15, tyX9, rfl, by decide, gw 94 (by decide +kernel) (by decide +kernel), inX9, tyX9_ok, nmX9, by decide +kernel, rfl, rfl⟩
theorem fl_FG_227 : FL RX11 227 10 2 .int false := ⟨RX10, TX10, 9, tyX10, rfl, by decide, gw 227 (by decide +kernel) (by decide +kernel), inX10, tyX10_ok, nmX10, by decide +kernel, rfl, rfl⟩
theorem fl_FG_230 : FL RX11 230 10 3 .int false := ⟨RX10, TX10, 9, tyX10, rfl, by decide, gw 230 (by decide +kernel) (by decide +kernel), inX10, tyX10_ok, nmX10, by decide +kernel, rfl, rfl⟩
theorem fl_FG_233 : FL RX11 233 10 4 .int false := ⟨RX10, TX10, 9, tyX10, rfl, by decide, gw 233 (by decide +kernel) (by decide +kernel), inX10, tyX10_ok, nmX10, by decide +kernel, rfl, rfl⟩
theorem fl_FG_236 : FL RX11 236 11 14 .int false := ⟨RX11, TX11, 18, tyX11, rfl, by decide, gw 306 (by decide +kernel) (by decide +kernel), inX11, tyX11_ok, nmX11, by decide +kernel, rfl, rfl⟩
theorem fl_FG_239 : FL RX11 239 11 9 .int false := ⟨RX11, TX11, 18, tyX11, rfl, by decide, gw 301 (by decide +kernel) (by decide +kernel), inX11, tyX11_ok, nmX11, by decide +kernel, rfl, rfl⟩
theorem fl_FG_272 : FL RX11 272 11 6 .int false := ⟨RX11, TX11, 18, tyX11, rfl, by decide, gw 298 (by decide +kernel) (by decide +kernel), inX11, tyX11_ok, nmX11, by decide +kernel, rfl, rfl⟩
theorem fl_FG_275 : FL RX11 275 11 8 .int false := ⟨RX11, TX11, 18, tyX11, rfl, by decide, gw 300 (by decide +kernel) (by decide +kernel), inX11, tyX11_ok, nmX11, by decide +kernel, rfl, rfl⟩
theorem fl_FG_284 : FL RX11 284 11 10 .int false := ⟨RX11, TX11, 18, tyX11, rfl, by decide, gw 302 (by decide +kernel) (by decide +kernel), inX11, tyX11_ok, nmX11, by decide +kernel, rfl, rfl⟩
theorem fl_FG_293 : FL RX11 293 11 11 .int false := ⟨RX11, TX11, 18, tyX11, rfl, by decide, gw 303 (by decide +kernel) (by decide +kernel), inX11, tyX11_ok, nmX11, by decide +kernel, rfl, rfl⟩
theorem fl_FG_300 : FL RX11 300 11 4 .boolean false := ⟨RX11, TX11, 18, tyX11, rfl, by decide, gw 296 (by decide +kernel) (by decide +kernel), inX11, tyX11_ok, nmX11, by decide +kernel, rfl, rfl⟩
theorem fl_Ln_9 : FL RX4 9 4 3 (.array .int) true := ⟨RX4, TX4, 6, tyX4, rfl, by decide, gw 512 (by decide +kernel) (by decide +kernel), inX4, tyX4_ok, nmX4, by decide +kernel, rfl, rfl⟩
theorem fl_Ln_15 : FL RX4 15 4 4 (.array .int) true := ⟨RX4, TX4, 6, tyX4, rfl, by decide, gw 514 (by decide +kernel) (by decide +kernel), inX4, tyX4_ok, nmX4, by decide +kernel, rfl, rfl⟩
theorem fl_Ln_18 : FL RX4 18 4 5 (.array .int) true := ⟨RX4, TX4, 6, tyX4, rfl, by decide, gw 516 (by decide +kernel) (by decide +kernel), inX4, tyX4_ok, nmX4, by decide +kernel, rfl, rfl⟩
theorem fl_Ln_21 : FL RX4 21 4 0 .int true := ⟨RX4, TX4, 6, tyX4, rfl, by decide, gw 506 (by decide +kernel) (by decide +kernel), inX4, tyX4_ok, nmX4, by decide +kernel, rfl, rfl⟩
theorem fl_Ln_25 : FL RX4 25 4 1 .int true := ⟨RX4, TX4, 6, tyX4, rfl, by decide, gw 508 (by decide +kernel) (by decide +kernel), inX4, tyX4_ok, nmX4, by decide +kernel, rfl, rfl⟩
theorem fl_Ln_28 : FL RX4 28 4 2 .int false := ⟨RX4, TX4, 6, tyX4, rfl, by decide, gw 510 (by decide +kernel) (by decide +kernel), inX4, tyX4_ok, nmX4, by decide +kernel, rfl, rfl⟩
theorem fl_Rd_7 : FL RX5 7 5 0 .int false := ⟨RX5, TX5, 13, tyX5, rfl, by decide, gw 148 (by decide +kernel) (by decide +kernel), inX5, tyX5_ok, nmX5, by decide +kernel, rfl, rfl⟩
theorem fl_Rd_13 : FL RX5 13 5 1 .int false := ⟨RX5, TX5, 13, tyX5, rfl, by decide, gw 152 (by decide +kernel) (by decide +kernel), inX5, tyX5_ok, nmX5, by decide +kernel, rfl, rfl⟩
theorem fl_Rd_16 : FL RX5 16 5 2 .int false := ⟨RX5, TX5, 13, tyX5, rfl, by decide, gw 156 (by decide +kernel) (by decide +kernel), inX5, tyX5_ok, nmX5, by decide +kernel, rfl, rfl⟩
theorem fl_Rd_19 : FL RX5 19 5 3 .int false := ⟨RX5, TX5, 13, tyX5, rfl, by decide, gw 159 (by decide +kernel) (by decide +kernel), inX5, tyX5_ok, nmX5, by decide +kernel, rfl, rfl⟩
theorem fl_Rd_22 : FL RX5 22 5 4 .int false := ⟨RX5, TX5, 13, tyX5, rfl, by decide, gw 162 (by decide +kernel) (by decide +kernel), inX5, tyX5_ok, nmX5, by decide +kernel, rfl, rfl⟩
theorem fl_Rd_25 : FL RX5 25 5 5 .int false := ⟨RX5, TX5, 13, tyX5, rfl, by decide, gw 166 (by decide +kernel) (by decide +kernel), inX5, tyX5_ok, nmX5, by decide +kernel, rfl, rfl⟩
theorem fl_Rd_28 : FL RX5 28 5 6 .int false := ⟨RX5, TX5, 13, tyX5, rfl, by decide, gw 170 (by decide +kernel) (by decide +kernel), inX5, tyX5_ok, nmX5, by decide +kernel, rfl, rfl⟩
theorem fl_Rd_31 : FL RX5 31 5 7 .int false := ⟨RX5, TX5, 13, tyX5, rfl, by decide, gw 174 (by decide +kernel) (by decide +kernel), inX5, tyX5_ok, nmX5, by decide +kernel, rfl, rfl⟩
theorem fl_Rd_34 : FL RX5 34 5 8 .int false := ⟨RX5, TX5, 13, tyX5, rfl, by decide, gw 177 (by decide +kernel) (by decide +kernel), inX5, tyX5_ok, nmX5, by decide +kernel, rfl, rfl⟩
theorem fl_Rd_37 : FL RX5 37 5 9 .int false := ⟨RX5, TX5, 13, tyX5, rfl, by decide, gw 180 (by decide +kernel) (by decide +kernel), inX5, tyX5_ok, nmX5, by decide +kernel, rfl, rfl⟩
theorem fl_Rd_40 : FL RX5 40 5 10 .int false := ⟨RX5, TX5, 13, tyX5, rfl, by decide, gw 183 (by decide +kernel) (by decide +kernel), inX5, tyX5_ok, nmX5, by decide +kernel, rfl, rfl⟩
theorem fl_Rd_43 : FL RX5 43 5 11 .int false := ⟨RX5, TX5, 13, tyX5, rfl, by decide, gw 186 (by decide +kernel) (by decide +kernel), inX5, tyX5_ok, nmX5, by decide +kernel, rfl, rfl⟩
theorem fl_Rd_46 : FL RX5 46 5 12 .int false := ⟨RX5, TX5, 13, tyX5, rfl, by decide, gw 189 (by decide +kernel) (by decide +kernel), inX5, tyX5_ok, nmX5, by decide +kernel, rfl, rfl⟩
theorem fl_Tp_9 : FL RX8 9 8 0 (.array .byte) true := ⟨RX8, TX8, 5, tyX8, rfl, by decide, gw 269 (by decide +kernel) (by decide +kernel), inX8, tyX8_ok, nmX8, by decide +kernel, rfl, rfl⟩
theorem fl_Tp_17 : FL RX8 17 8 3 (.array (.object "FillAndGo$Line")) true := ⟨RX8, TX8, 5, tyX8, rfl, by decide, gw 274 (by decide +kernel) (by decide +kernel), inX8, tyX8_ok, nmX8, by decide +kernel, rfl, rfl⟩
theorem fl_Tp_21 : FL RX8 21 8 1 .int false := ⟨RX8, TX8, 5, tyX8, rfl, by decide, gw 270 (by decide +kernel) (by decide +kernel), inX8, tyX8_ok, nmX8, by decide +kernel, rfl, rfl⟩
theorem fl_Tp_25 : FL RX8 25 8 2 .int false := ⟨RX8, TX8, 5, tyX8, rfl, by decide, gw 272 (by decide +kernel) (by decide +kernel), inX8, tyX8_ok, nmX8, by decide +kernel, rfl, rfl⟩
theorem fl_Tp_32 : FL RX8 32 8 4 .int false := ⟨RX8, TX8, 5, tyX8, rfl, by decide, gw 276 (by decide +kernel) (by decide +kernel), inX8, tyX8_ok, nmX8, by decide +kernel, rfl, rfl⟩
theorem fl_Tp_58 : FL RX8 58 4 3 (.array .int) true := ⟨RX4, TX4, 6, tyX4, rfl, by decide, gw 513 (by decide +kernel) (by decide +kernel), inX4, tyX4_ok, nmX4, by decide +kernel, rfl, rfl⟩
theorem fl_Tp_62 : FL RX8 62 4 4 (.array .int) true := ⟨RX4, TX4, 6, tyX4, rfl, by decide, gw 515 (by decide +kernel) (by decide +kernel), inX4, tyX4_ok, nmX4, by decide +kernel, rfl, rfl⟩
theorem fl_Tp_65 : FL RX8 65 4 5 (.array .int) true := ⟨RX4, TX4, 6, tyX4, rfl, by decide, gw 517 (by decide +kernel) (by decide +kernel), inX4, tyX4_ok, nmX4, by decide +kernel, rfl, rfl⟩
theorem fl_Tp_68 : FL RX8 68 4 2 .int false := ⟨RX4, TX4, 6, tyX4, rfl, by decide, gw 511 (by decide +kernel) (by decide +kernel), inX4, tyX4_ok, nmX4, by decide +kernel, rfl, rfl⟩
theorem fl_Tn_9 : FL RX9 9 9 0 (.array .int) true := ⟨RX9, TX9, 15, tyX9, rfl, by decide, gw 81 (by decide +kernel) (by decide +kernel), inX9, tyX9_ok, nmX9, by decide +kernel, rfl, rfl⟩
theorem fl_Tn_15 : FL RX9 15 9 1 (.array .int) true := ⟨RX9, TX9, 15, tyX9, rfl, by decide, gw 83 (by decide +kernel) (by decide +kernel), inX9, tyX9_ok, nmX9, by decide +kernel, rfl, rfl⟩
theorem fl_Tn_18 : FL RX9 18 9 2 (.array .int) true := ⟨RX9, TX9, 15, tyX9, rfl, by decide, gw 85 (by decide +kernel) (by decide +kernel), inX9, tyX9_ok, nmX9, by decide +kernel, rfl, rfl⟩
theorem fl_Tn_21 : FL RX9 21 9 3 (.array .int) true := ⟨RX9, TX9, 15, tyX9, rfl, by decide, gw 87 (by decide +kernel) (by decide +kernel), inX9, tyX9_ok, nmX9, by decide +kernel, rfl, rfl⟩
theorem fl_Tn_24 : FL RX9 24 9 4 (.array .int) true := ⟨RX9, TX9, 15, tyX9, rfl, by decide, gw 88 (by decide +kernel) (by decide +kernel), inX9, tyX9_ok, nmX9, by decide +kernel, rfl, rfl⟩
theorem fl_Tn_27 : FL RX9 27 9 5 (.array .int) true := ⟨RX9, TX9, 15, tyX9, rfl, by decide, gw 89 (by decide +kernel) (by decide +kernel), inX9, tyX9_ok, nmX9, by decide +kernel, rfl, rfl⟩
theorem fl_Tn_30 : FL RX9 30 9 6 (.array .int) true := ⟨RX9, TX9, 15, tyX9, rfl, by decide, gw 90 (by decide +kernel) (by decide +kernel), inX9, tyX9_ok, nmX9, by decide +kernel, rfl, rfl⟩
theorem fl_Tn_33 : FL RX9 33 9 7 (.array .int) true := ⟨RX9, TX9, 15, tyX9, rfl, by decide, gw 91 (by decide +kernel) (by decide +kernel), inX9, tyX9_ok, nmX9, by decide +kernel, rfl, rfl⟩
theorem fl_Tn_38 : FL RX9 38 9 9 (.array (.object "FillAndGo$Line")) true := ⟨RX9, TX9, 15, tyX9, rfl, by decide, gw 95 (by decide +kernel) (by decide +kernel), inX9, tyX9_ok, nmX9, by decide +kernel, rfl, rfl⟩
theorem fl_Tn_42 : FL RX9 42 9 11 (.array .int) true := ⟨RX9, TX9, 15, tyX9, rfl, by decide, gw 98 (by decide +kernel) (by decide +kernel), inX9, tyX9_ok, nmX9, by decide +kernel, rfl, rfl⟩
theorem fl_Tn_47 : FL RX9 47 9 12 (.array (.object "FillAndGo$Run")) true := ⟨RX9, TX9, 15, tyX9, rfl, by decide, gw 100 (by decide +kernel) (by decide +kernel), inX9, tyX9_ok, nmX9, by decide +kernel, rfl, rfl⟩
theorem fl_Tn_51 : FL RX9 51 9 13 (.array .int) true := ⟨RX9, TX9, 15, tyX9, rfl, by decide, gw 102 (by decide +kernel) (by decide +kernel), inX9, tyX9_ok, nmX9, by decide +kernel, rfl, rfl⟩
theorem fl_Tn_54 : FL RX9 54 9 14 (.array .int) true := ⟨RX9, TX9, 15, tyX9, rfl, by decide, gw 103 (by decide +kernel) (by decide +kernel), inX9, tyX9_ok, nmX9, by decide +kernel, rfl, rfl⟩
theorem fl_Tn_77 : FL RX9 77 9 8 .int false := ⟨RX9, TX9, 15, tyX9, rfl, by decide, gw 93 (by decide +kernel) (by decide +kernel), inX9, tyX9_ok, nmX9, by decide +kernel, rfl, rfl⟩
theorem fl_Tn_81 : FL RX9 81 9 10 .int false := ⟨RX9, TX9, 15, tyX9, rfl, by decide, gw 96 (by decide +kernel) (by decide +kernel), inX9, tyX9_ok, nmX9, by decide +kernel, rfl, rfl⟩
theorem fl_Tn_105 : FL RX9 105 4 1 .int true := ⟨RX4, TX4, 6, tyX4, rfl, by decide, gw 509 (by decide +kernel) (by decide +kernel), inX4, tyX4_ok, nmX4, by decide +kernel, rfl, rfl⟩
theorem fl_Tn_108 : FL RX9 108 4 0 .int true := ⟨RX4, TX4, 6, tyX4, rfl, by decide, gw 507 (by decide +kernel) (by decide +kernel), inX4, tyX4_ok, nmX4, by decide +kernel, rfl, rfl⟩
theorem fl_Tn_115 : FL RX9 115 10 8 (.array (.object "FillAndGo$Ride")) true := ⟨RX10, TX10, 9, tyX10, rfl, by decide, gw 242 (by decide +kernel) (by decide +kernel), inX10, tyX10_ok, nmX10, by decide +kernel, rfl, rfl⟩
theorem fl_Tn_121 : FL RX9 121 10 0 .int false := ⟨RX10, TX10, 9, tyX10, rfl, by decide, gw 220 (by decide +kernel) (by decide +kernel), inX10, tyX10_ok, nmX10, by decide +kernel, rfl, rfl⟩
theorem fl_Tn_124 : FL RX9 124 5 6 .int false := ⟨RX5, TX5, 13, tyX5, rfl, by decide, gw 172 (by decide +kernel) (by decide +kernel), inX5, tyX5_ok, nmX5, by decide +kernel, rfl, rfl⟩
theorem fl_Tn_129 : FL RX9 129 5 4 .int false := ⟨RX5, TX5, 13, tyX5, rfl, by decide, gw 164 (by decide +kernel) (by decide +kernel), inX5, tyX5_ok, nmX5, by decide +kernel, rfl, rfl⟩
theorem fl_Tn_132 : FL RX9 132 10 1 .int false := ⟨RX10, TX10, 9, tyX10, rfl, by decide, gw 224 (by decide +kernel) (by decide +kernel), inX10, tyX10_ok, nmX10, by decide +kernel, rfl, rfl⟩
theorem fl_Tn_139 : FL RX9 139 5 1 .int false := ⟨RX5, TX5, 13, tyX5, rfl, by decide, gw 155 (by decide +kernel) (by decide +kernel), inX5, tyX5_ok, nmX5, by decide +kernel, rfl, rfl⟩
theorem fl_Tn_146 : FL RX9 146 5 8 .int false := ⟨RX5, TX5, 13, tyX5, rfl, by decide, gw 178 (by decide +kernel) (by decide +kernel), inX5, tyX5_ok, nmX5, by decide +kernel, rfl, rfl⟩
theorem fl_Tn_149 : FL RX9 149 10 5 (.array .int) true := ⟨RX10, TX10, 9, tyX10, rfl, by decide, gw 235 (by decide +kernel) (by decide +kernel), inX10, tyX10_ok, nmX10, by decide +kernel, rfl, rfl⟩
theorem fl_Tn_163 : FL RX9 163 10 4 .int false := ⟨RX10, TX10, 9, tyX10, rfl, by decide, gw 232 (by decide +kernel) (by decide +kernel), inX10, tyX10_ok, nmX10, by decide +kernel, rfl, rfl⟩
theorem fl_Tn_169 : FL RX9 169 10 6 (.array .int) true := ⟨RX10, TX10, 9, tyX10, rfl, by decide, gw 238 (by decide +kernel) (by decide +kernel), inX10, tyX10_ok, nmX10, by decide +kernel, rfl, rfl⟩
theorem fl_Tn_172 : FL RX9 172 10 2 .int false := ⟨RX10, TX10, 9, tyX10, rfl, by decide, gw 226 (by decide +kernel) (by decide +kernel), inX10, tyX10_ok, nmX10, by decide +kernel, rfl, rfl⟩
theorem fl_Tn_182 : FL RX9 182 5 7 .int false := ⟨RX5, TX5, 13, tyX5, rfl, by decide, gw 175 (by decide +kernel) (by decide +kernel), inX5, tyX5_ok, nmX5, by decide +kernel, rfl, rfl⟩
theorem fl_Tn_212 : FL RX9 212 5 0 .int false := ⟨RX5, TX5, 13, tyX5, rfl, by decide, gw 151 (by decide +kernel) (by decide +kernel), inX5, tyX5_ok, nmX5, by decide +kernel, rfl, rfl⟩
theorem fl_Tn_215 : FL RX9 215 5 3 .int false := ⟨RX5, TX5, 13, tyX5, rfl, by decide, gw 160 (by decide +kernel) (by decide +kernel), inX5, tyX5_ok, nmX5, by decide +kernel, rfl, rfl⟩
theorem fl_Tn_224 : FL RX9 224 5 5 .int false := ⟨RX5, TX5, 13, tyX5, rfl, by decide, gw 169 (by decide +kernel) (by decide +kernel), inX5, tyX5_ok, nmX5, by decide +kernel, rfl, rfl⟩
theorem fl_Tn_227 : FL RX9 227 5 9 .int false := ⟨RX5, TX5, 13, tyX5, rfl, by decide, gw 182 (by decide +kernel) (by decide +kernel), inX5, tyX5_ok, nmX5, by decide +kernel, rfl, rfl⟩
theorem fl_Tn_233 : FL RX9 233 5 12 .int false := ⟨RX5, TX5, 13, tyX5, rfl, by decide, gw 190 (by decide +kernel) (by decide +kernel), inX5, tyX5_ok, nmX5, by decide +kernel, rfl, rfl⟩
theorem fl_Tn_242 : FL RX9 242 10 3 .int false := ⟨RX10, TX10, 9, tyX10, rfl, by decide, gw 229 (by decide +kernel) (by decide +kernel), inX10, tyX10_ok, nmX10, by decide +kernel, rfl, rfl⟩
theorem fl_Tn_248 : FL RX9 248 5 11 .int false := ⟨RX5, TX5, 13, tyX5, rfl, by decide, gw 187 (by decide +kernel) (by decide +kernel), inX5, tyX5_ok, nmX5, by decide +kernel, rfl, rfl⟩
theorem fl_Tn_251 : FL RX9 251 5 10 .int false := ⟨RX5, TX5, 13, tyX5, rfl, by decide, gw 184 (by decide +kernel) (by decide +kernel), inX5, tyX5_ok, nmX5, by decide +kernel, rfl, rfl⟩
theorem fl_Wd_9 : FL RX10 9 10 5 (.array .int) true := ⟨RX10, TX10, 9, tyX10, rfl, by decide, gw 234 (by decide +kernel) (by decide +kernel), inX10, tyX10_ok, nmX10, by decide +kernel, rfl, rfl⟩
theorem fl_Wd_15 : FL RX10 15 10 6 (.array .int) true := ⟨RX10, TX10, 9, tyX10, rfl, by decide, gw 237 (by decide +kernel) (by decide +kernel), inX10, tyX10_ok, nmX10, by decide +kernel, rfl, rfl⟩
theorem fl_Wd_18 : FL RX10 18 10 7 (.array .int) true := ⟨RX10, TX10, 9, tyX10, rfl, by decide, gw 239 (by decide +kernel) (by decide +kernel), inX10, tyX10_ok, nmX10, by decide +kernel, rfl, rfl⟩
theorem fl_Wd_23 : FL RX10 23 10 8 (.array (.object "FillAndGo$Ride")) true := ⟨RX10, TX10, 9, tyX10, rfl, by decide, gw 240 (by decide +kernel) (by decide +kernel), inX10, tyX10_ok, nmX10, by decide +kernel, rfl, rfl⟩
theorem fl_Wd_28 : FL RX10 28 10 0 .int false := ⟨RX10, TX10, 9, tyX10, rfl, by decide, gw 219 (by decide +kernel) (by decide +kernel), inX10, tyX10_ok, nmX10, by decide +kernel, rfl, rfl⟩
theorem fl_Wd_32 : FL RX10 32 10 1 .int false := ⟨RX10, TX10, 9, tyX10, rfl, by decide, gw 222 (by decide +kernel) (by decide +kernel), inX10, tyX10_ok, nmX10, by decide +kernel, rfl, rfl⟩
theorem fl_Wd_35 : FL RX10 35 10 2 .int false := ⟨RX10, TX10, 9, tyX10, rfl, by decide, gw 225 (by decide +kernel) (by decide +kernel), inX10, tyX10_ok, nmX10, by decide +kernel, rfl, rfl⟩
theorem fl_Wd_38 : FL RX10 38 10 3 .int false := ⟨RX10, TX10, 9, tyX10, rfl, by decide, gw 228 (by decide +kernel) (by decide +kernel), inX10, tyX10_ok, nmX10, by decide +kernel, rfl, rfl⟩
theorem fl_Wd_41 : FL RX10 41 10 4 .int false := ⟨RX10, TX10, 9, tyX10, rfl, by decide, gw 231 (by decide +kernel) (by decide +kernel), inX10, tyX10_ok, nmX10, by decide +kernel, rfl, rfl⟩
theorem fl_Wd_54 : FL RX10 54 5 0 .int false := ⟨RX5, TX5, 13, tyX5, rfl, by decide, gw 149 (by decide +kernel) (by decide +kernel), inX5, tyX5_ok, nmX5, by decide +kernel, rfl, rfl⟩
theorem fl_Wd_57 : FL RX10 57 5 1 .int false := ⟨RX5, TX5, 13, tyX5, rfl, by decide, gw 153 (by decide +kernel) (by decide +kernel), inX5, tyX5_ok, nmX5, by decide +kernel, rfl, rfl⟩
theorem fl_Wd_60 : FL RX10 60 5 2 .int false := ⟨RX5, TX5, 13, tyX5, rfl, by decide, gw 157 (by decide +kernel) (by decide +kernel), inX5, tyX5_ok, nmX5, by decide +kernel, rfl, rfl⟩
theorem fl_Wd_63 : FL RX10 63 5 6 .int false := ⟨RX5, TX5, 13, tyX5, rfl, by decide, gw 171 (by decide +kernel) (by decide +kernel), inX5, tyX5_ok, nmX5, by decide +kernel, rfl, rfl⟩
theorem fl_Wd_66 : FL RX10 66 5 4 .int false := ⟨RX5, TX5, 13, tyX5, rfl, by decide, gw 163 (by decide +kernel) (by decide +kernel), inX5, tyX5_ok, nmX5, by decide +kernel, rfl, rfl⟩
theorem fl_Wd_69 : FL RX10 69 5 5 .int false := ⟨RX5, TX5, 13, tyX5, rfl, by decide, gw 167 (by decide +kernel) (by decide +kernel), inX5, tyX5_ok, nmX5, by decide +kernel, rfl, rfl⟩
theorem fl_Rf_7 : FL RX12 7 12 0 (.array .int) true := ⟨RX12, TX12, 50, tyX12, rfl, by decide, gw 961 (by decide +kernel) (by decide +kernel), inX12, tyX12_ok, nmX12, by decide +kernel, rfl, rfl⟩
theorem fl_Rf_13 : FL RX12 13 12 1 (.array .int) true := ⟨RX12, TX12, 50, tyX12, rfl, by decide, gw 962 (by decide +kernel) (by decide +kernel), inX12, tyX12_ok, nmX12, by decide +kernel, rfl, rfl⟩
theorem fl_Rf_16 : FL RX12 16 12 2 (.array .int) true := ⟨RX12, TX12, 50, tyX12, rfl, by decide, gw 963 (by decide +kernel) (by decide +kernel), inX12, tyX12_ok, nmX12, by decide +kernel, rfl, rfl⟩
theorem fl_Rf_19 : FL RX12 19 12 4 (.array .int) true := ⟨RX12, TX12, 50, tyX12, rfl, by decide, gw 965 (by decide +kernel) (by decide +kernel), inX12, tyX12_ok, nmX12, by decide +kernel, rfl, rfl⟩
theorem fl_Rf_22 : FL RX12 22 12 5 (.array .int) true := ⟨RX12, TX12, 50, tyX12, rfl, by decide, gw 966 (by decide +kernel) (by decide +kernel), inX12, tyX12_ok, nmX12, by decide +kernel, rfl, rfl⟩
theorem fl_Rf_25 : FL RX12 25 12 6 (.array .int) true := ⟨RX12, TX12, 50, tyX12, rfl, by decide, gw 967 (by decide +kernel) (by decide +kernel), inX12, tyX12_ok, nmX12, by decide +kernel, rfl, rfl⟩
theorem fl_Rf_28 : FL RX12 28 12 8 (.array .int) true := ⟨RX12, TX12, 50, tyX12, rfl, by decide, gw 969 (by decide +kernel) (by decide +kernel), inX12, tyX12_ok, nmX12, by decide +kernel, rfl, rfl⟩
theorem fl_Rf_31 : FL RX12 31 12 9 (.array .int) true := ⟨RX12, TX12, 50, tyX12, rfl, by decide, gw 970 (by decide +kernel) (by decide +kernel), inX12, tyX12_ok, nmX12, by decide +kernel, rfl, rfl⟩
theorem fl_Rf_34 : FL RX12 34 12 10 (.array .int) true := ⟨RX12, TX12, 50, tyX12, rfl, by decide, gw 971 (by decide +kernel) (by decide +kernel), inX12, tyX12_ok, nmX12, by decide +kernel, rfl, rfl⟩
theorem fl_Rf_37 : FL RX12 37 12 11 (.array .int) true := ⟨RX12, TX12, 50, tyX12, rfl, by decide, gw 972 (by decide +kernel) (by decide +kernel), inX12, tyX12_ok, nmX12, by decide +kernel, rfl, rfl⟩
theorem fl_Rf_40 : FL RX12 40 12 12 (.array .int) true := ⟨RX12, TX12, 50, tyX12, rfl, by decide, gw 973 (by decide +kernel) (by decide +kernel), inX12, tyX12_ok, nmX12, by decide +kernel, rfl, rfl⟩
theorem fl_Rf_43 : FL RX12 43 12 13 (.array .int) true := ⟨RX12, TX12, 50, tyX12, rfl, by decide, gw 974 (by decide +kernel) (by decide +kernel), inX12, tyX12_ok, nmX12, by decide +kernel, rfl, rfl⟩
theorem fl_Rf_46 : FL RX12 46 12 15 (.array .int) true := ⟨RX12, TX12, 50, tyX12, rfl, by decide, gw 976 (by decide +kernel) (by decide +kernel), inX12, tyX12_ok, nmX12, by decide +kernel, rfl, rfl⟩
theorem fl_Rf_49 : FL RX12 49 12 20 (.array .int) true := ⟨RX12, TX12, 50, tyX12, rfl, by decide, gw 981 (by decide +kernel) (by decide +kernel), inX12, tyX12_ok, nmX12, by decide +kernel, rfl, rfl⟩
theorem fl_Rf_52 : FL RX12 52 12 21 (.array .int) true := ⟨RX12, TX12, 50, tyX12, rfl, by decide, gw 982 (by decide +kernel) (by decide +kernel), inX12, tyX12_ok, nmX12, by decide +kernel, rfl, rfl⟩
theorem fl_Rf_55 : FL RX12 55 12 22 (.array .boolean) true := ⟨RX12, TX12, 50, tyX12, rfl, by decide, gw 983 (by decide +kernel) (by decide +kernel), inX12, tyX12_ok, nmX12, by decide +kernel, rfl, rfl⟩
theorem fl_Rf_59 : FL RX12 59 12 24 (.array .int) true := ⟨RX12, TX12, 50, tyX12, rfl, by decide, gw 985 (by decide +kernel) (by decide +kernel), inX12, tyX12_ok, nmX12, by decide +kernel, rfl, rfl⟩
theorem fl_Rf_62 : FL RX12 62 12 25 (.array .int) true := ⟨RX12, TX12, 50, tyX12, rfl, by decide, gw 986 (by decide +kernel) (by decide +kernel), inX12, tyX12_ok, nmX12, by decide +kernel, rfl, rfl⟩
theorem fl_Rf_65 : FL RX12 65 12 26 (.array .int) true := ⟨RX12, TX12, 50, tyX12, rfl, by decide, gw 987 (by decide +kernel) (by decide +kernel), inX12, tyX12_ok, nmX12, by decide +kernel, rfl, rfl⟩
theorem fl_Rf_68 : FL RX12 68 12 27 (.array .int) true := ⟨RX12, TX12, 50, tyX12, rfl, by decide, gw 988 (by decide +kernel) (by decide +kernel), inX12, tyX12_ok, nmX12, by decide +kernel, rfl, rfl⟩
theorem fl_Rf_71 : FL RX12 71 12 28 (.array .int) true := ⟨RX12, TX12, 50, tyX12, rfl, by decide, gw 989 (by decide +kernel) (by decide +kernel), inX12, tyX12_ok, nmX12, by decide +kernel, rfl, rfl⟩
theorem fl_Rf_74 : FL RX12 74 12 29 (.array .int) true := ⟨RX12, TX12, 50, tyX12, rfl, by decide, gw 990 (by decide +kernel) (by decide +kernel), inX12, tyX12_ok, nmX12, by decide +kernel, rfl, rfl⟩
theorem fl_Rf_77 : FL RX12 77 12 30 (.array .int) true := ⟨RX12, TX12, 50, tyX12, rfl, by decide, gw 991 (by decide +kernel) (by decide +kernel), inX12, tyX12_ok, nmX12, by decide +kernel, rfl, rfl⟩
theorem fl_Rf_80 : FL RX12 80 12 33 (.array .int) true := ⟨RX12, TX12, 50, tyX12, rfl, by decide, gw 994 (by decide +kernel) (by decide +kernel), inX12, tyX12_ok, nmX12, by decide +kernel, rfl, rfl⟩
theorem fl_Rf_83 : FL RX12 83 12 34 (.array .int) true := ⟨RX12, TX12, 50, tyX12, rfl, by decide, gw 995 (by decide +kernel) (by decide +kernel), inX12, tyX12_ok, nmX12, by decide +kernel, rfl, rfl⟩
theorem fl_Rf_86 : FL RX12 86 12 35 (.array .int) true := ⟨RX12, TX12, 50, tyX12, rfl, by decide, gw 996 (by decide +kernel) (by decide +kernel), inX12, tyX12_ok, nmX12, by decide +kernel, rfl, rfl⟩
theorem fl_Rf_89 : FL RX12 89 12 36 (.array .int) true := ⟨RX12, TX12, 50, tyX12, rfl, by decide, gw 997 (by decide +kernel) (by decide +kernel), inX12, tyX12_ok, nmX12, by decide +kernel, rfl, rfl⟩
theorem fl_Rf_92 : FL RX12 92 12 37 (.array .int) true := ⟨RX12, TX12, 50, tyX12, rfl, by decide, gw 998 (by decide +kernel) (by decide +kernel), inX12, tyX12_ok, nmX12, by decide +kernel, rfl, rfl⟩
theorem fl_Rf_95 : FL RX12 95 12 38 (.array .int) true := ⟨RX12, TX12, 50, tyX12, rfl, by decide, gw 999 (by decide +kernel) (by decide +kernel), inX12, tyX12_ok, nmX12, by decide +kernel, rfl, rfl⟩
theorem fl_Rf_98 : FL RX12 98 12 39 (.array .int) true := ⟨RX12, TX12, 50, tyX12, rfl, by decide, gw 1000 (by decide +kernel) (by decide +kernel), inX12, tyX12_ok, nmX12, by decide +kernel, rfl, rfl⟩
theorem fl_Rf_101 : FL RX12 101 12 40 (.array .int) true := ⟨RX12, TX12, 50, tyX12, rfl, by decide, gw 1001 (by decide +kernel) (by decide +kernel), inX12, tyX12_ok, nmX12, by decide +kernel, rfl, rfl⟩
theorem fl_Rf_104 : FL RX12 104 12 41 (.array .int) true := ⟨RX12, TX12, 50, tyX12, rfl, by decide, gw 1002 (by decide +kernel) (by decide +kernel), inX12, tyX12_ok, nmX12, by decide +kernel, rfl, rfl⟩
theorem fl_Rf_107 : FL RX12 107 12 42 (.array .int) true := ⟨RX12, TX12, 50, tyX12, rfl, by decide, gw 1003 (by decide +kernel) (by decide +kernel), inX12, tyX12_ok, nmX12, by decide +kernel, rfl, rfl⟩
theorem fl_Rf_132 : FL RX12 132 12 43 (.array .long) true := ⟨RX12, TX12, 50, tyX12, rfl, by decide, gw 1004 (by decide +kernel) (by decide +kernel), inX12, tyX12_ok, nmX12, by decide +kernel, rfl, rfl⟩
theorem fl_Rf_136 : FL RX12 136 12 44 (.array .int) true := ⟨RX12, TX12, 50, tyX12, rfl, by decide, gw 1005 (by decide +kernel) (by decide +kernel), inX12, tyX12_ok, nmX12, by decide +kernel, rfl, rfl⟩
theorem fl_Rf_139 : FL RX12 139 12 46 (.array .int) true := ⟨RX12, TX12, 50, tyX12, rfl, by decide, gw 1007 (by decide +kernel) (by decide +kernel), inX12, tyX12_ok, nmX12, by decide +kernel, rfl, rfl⟩
theorem fl_Rf_142 : FL RX12 142 12 47 (.array .int) true := ⟨RX12, TX12, 50, tyX12, rfl, by decide, gw 1008 (by decide +kernel) (by decide +kernel), inX12, tyX12_ok, nmX12, by decide +kernel, rfl, rfl⟩
theorem fl_Rf_145 : FL RX12 145 12 48 (.array .int) true := ⟨RX12, TX12, 50, tyX12, rfl, by decide, gw 1009 (by decide +kernel) (by decide +kernel), inX12, tyX12_ok, nmX12, by decide +kernel, rfl, rfl⟩
theorem fl_Rf_148 : FL RX12 148 12 49 (.array .int) true := ⟨RX12, TX12, 50, tyX12, rfl, by decide, gw 1010 (by decide +kernel) (by decide +kernel), inX12, tyX12_ok, nmX12, by decide +kernel, rfl, rfl⟩
theorem fl_Rf_155 : FL RX12 155 12 7 .int false := ⟨RX12, TX12, 50, tyX12, rfl, by decide, gw 968 (by decide +kernel) (by decide +kernel), inX12, tyX12_ok, nmX12, by decide +kernel, rfl, rfl⟩
theorem fl_Rf_191 : FL RX12 191 12 31 .int false := ⟨RX12, TX12, 50, tyX12, rfl, by decide, gw 992 (by decide +kernel) (by decide +kernel), inX12, tyX12_ok, nmX12, by decide +kernel, rfl, rfl⟩
theorem fl_Rf_196 : FL RX12 196 12 45 .int false := ⟨RX12, TX12, 50, tyX12, rfl, by decide, gw 1006 (by decide +kernel) (by decide +kernel), inX12, tyX12_ok, nmX12, by decide +kernel, rfl, rfl⟩
theorem fl_Rf_211 : FL RX12 211 12 32 .int false := ⟨RX12, TX12, 50, tyX12, rfl, by decide, gw 993 (by decide +kernel) (by decide +kernel), inX12, tyX12_ok, nmX12, by decide +kernel, rfl, rfl⟩
theorem fl_Rf_264 : FL RX12 264 12 23 .int false := ⟨RX12, TX12, 50, tyX12, rfl, by decide, gw 984 (by decide +kernel) (by decide +kernel), inX12, tyX12_ok, nmX12, by decide +kernel, rfl, rfl⟩
theorem fl_Rf_267 : FL RX12 267 12 17 .int false := ⟨RX12, TX12, 50, tyX12, rfl, by decide, gw 978 (by decide +kernel) (by decide +kernel), inX12, tyX12_ok, nmX12, by decide +kernel, rfl, rfl⟩
theorem fl_Rf_288 : FL RX12 288 12 14 .int false := ⟨RX12, TX12, 50, tyX12, rfl, by decide, gw 975 (by decide +kernel) (by decide +kernel), inX12, tyX12_ok, nmX12, by decide +kernel, rfl, rfl⟩
theorem fl_Rf_291 : FL RX12 291 12 16 .int false := ⟨RX12, TX12, 50, tyX12, rfl, by decide, gw 977 (by decide +kernel) (by decide +kernel), inX12, tyX12_ok, nmX12, by decide +kernel, rfl, rfl⟩
theorem fl_Rf_297 : FL RX12 297 12 18 .int false := ⟨RX12, TX12, 50, tyX12, rfl, by decide, gw 979 (by decide +kernel) (by decide +kernel), inX12, tyX12_ok, nmX12, by decide +kernel, rfl, rfl⟩
theorem fl_Rf_303 : FL RX12 303 12 19 .int false := ⟨RX12, TX12, 50, tyX12, rfl, by decide, gw 980 (by decide +kernel) (by decide +kernel), inX12, tyX12_ok, nmX12, by decide +kernel, rfl, rfl⟩
theorem fl_Rf_306 : FL RX12 306 12 3 .boolean false := ⟨RX12, TX12, 50, tyX12, rfl, by decide, gw 964 (by decide +kernel) (by decide +kernel), inX12, tyX12_ok, nmX12, by decide +kernel, rfl, rfl⟩
theorem cw_FG_init : CW M_FG_init 0 := ⟨gc1 25 rfl rfl, gw 1 (by decide +kernel) (by decide +kernel), ⟨by decide +kernel, by decide +kernel, by decide +kernel⟩, by decide⟩
theorem cw_Tn_init : CW M_Tn_init 0 := ⟨gc1 33 rfl rfl, gw 2 (by decide +kernel) (by decide +kernel), ⟨by decide +kernel, by decide +kernel, by decide +kernel⟩, by decide⟩
theorem cw_Rn_init : CW M_Rn_init 0 := ⟨gc1 42 rfl rfl, gw 3 (by decide +kernel) (by decide +kernel), ⟨by decide +kernel, by decide +kernel, by decide +kernel⟩, by decide⟩
theorem cw_Sh_init : CW M_Sh_init 0 := ⟨gc1 50 rfl rfl, gw 4 (by decide +kernel) (by decide +kernel), ⟨by decide +kernel, by decide +kernel, by decide +kernel⟩, by decide⟩
theorem cw_Em_init : CW M_Em_init 0 := ⟨gc1 57 rfl rfl, gw 5 (by decide +kernel) (by decide +kernel), ⟨by decide +kernel, by decide +kernel, by decide +kernel⟩, by decide⟩
theorem cw_Ea_init : CW M_Ea_init 0 := ⟨gc1 64 rfl rfl, gw 6 (by decide +kernel) (by decide +kernel), ⟨by decide +kernel, by decide +kernel, by decide +kernel⟩, by decide⟩
theorem cw_Ex_init : CW M_Ex_init 0 := ⟨gc1 71 rfl rfl, gw 7 (by decide +kernel) (by decide +kernel), ⟨by decide +kernel, by decide +kernel, by decide +kernel⟩, by decide⟩
theorem cw_Hi_init : CW M_Hi_init 0 := ⟨gc1 78 rfl rfl, gw 8 (by decide +kernel) (by decide +kernel), ⟨by decide +kernel, by decide +kernel, by decide +kernel⟩, by decide⟩
theorem cw_Wd_init : CW M_Wd_init 0 := ⟨gc1 139 rfl rfl, gw 9 (by decide +kernel) (by decide +kernel), ⟨by decide +kernel, by decide +kernel, by decide +kernel⟩, by decide⟩
theorem cw_Rd_init : CW M_Rd_init 0 := ⟨gc1 146 rfl rfl, gw 10 (by decide +kernel) (by decide +kernel), ⟨by decide +kernel, by decide +kernel, by decide +kernel⟩, by decide⟩
theorem cw_Tp_init : CW M_Tp_init 0 := ⟨gc2 26 rfl rfl, gw 11 (by decide +kernel) (by decide +kernel), ⟨by decide +kernel, by decide +kernel, by decide +kernel⟩, by decide⟩
theorem cw_FG_road : CW M_FG_road 3 := ⟨gc2 110 rfl rfl, gw 1 (by decide +kernel) (by decide +kernel), ⟨by decide +kernel, by decide +kernel, by decide +kernel⟩, by decide⟩
theorem cw_FG_isStage : CW M_FG_isStage 1 := ⟨gc2 113 rfl rfl, gw 1 (by decide +kernel) (by decide +kernel), ⟨by decide +kernel, by decide +kernel, by decide +kernel⟩, by decide⟩
theorem cw_FG_within : CW M_FG_within 3 := ⟨gc2 116 rfl rfl, gw 1 (by decide +kernel) (by decide +kernel), ⟨by decide +kernel, by decide +kernel, by decide +kernel⟩, by decide⟩
theorem cw_FG_jam : CW M_FG_jam 2 := ⟨gc2 120 rfl rfl, gw 1 (by decide +kernel) (by decide +kernel), ⟨by decide +kernel, by decide +kernel, by decide +kernel⟩, by decide⟩
theorem cw_FG_people : CW M_FG_people 3 := ⟨gc2 124 rfl rfl, gw 1 (by decide +kernel) (by decide +kernel), ⟨by decide +kernel, by decide +kernel, by decide +kernel⟩, by decide⟩
theorem cw_FG_rain : CW M_FG_rain 1 := ⟨gc2 128 rfl rfl, gw 1 (by decide +kernel) (by decide +kernel), ⟨by decide +kernel, by decide +kernel, by decide +kernel⟩, by decide⟩
theorem cw_FG_bus : CW M_FG_bus 4 := ⟨gc2 132 rfl rfl, gw 1 (by decide +kernel) (by decide +kernel), ⟨by decide +kernel, by decide +kernel, by decide +kernel⟩, by decide⟩
theorem cw_Tn_enrol : CW M_Tn_enrol 4 := ⟨gc2 136 rfl rfl, gw 2 (by decide +kernel) (by decide +kernel), ⟨by decide +kernel, by decide +kernel, by decide +kernel⟩, by decide⟩
theorem cw_FG_queue : CW M_FG_queue 2 := ⟨gc2 141 rfl rfl, gw 1 (by decide +kernel) (by decide +kernel), ⟨by decide +kernel, by decide +kernel, by decide +kernel⟩, by decide⟩
theorem cw_FG_isBus : CW M_FG_isBus 1 := ⟨gc2 145 rfl rfl, gw 1 (by decide +kernel) (by decide +kernel), ⟨by decide +kernel, by decide +kernel, by decide +kernel⟩, by decide⟩
theorem cw_Wd_lineUp : CW M_Wd_lineUp 2 := ⟨gc2 149 rfl rfl, gw 9 (by decide +kernel) (by decide +kernel), ⟨by decide +kernel, by decide +kernel, by decide +kernel⟩, by decide⟩
theorem cw_FG_rest : CW M_FG_rest 1 := ⟨gc2 153 rfl rfl, gw 1 (by decide +kernel) (by decide +kernel), ⟨by decide +kernel, by decide +kernel, by decide +kernel⟩, by decide⟩
theorem cw_FG_jump : CW M_FG_jump 2 := ⟨gc2 157 rfl rfl, gw 1 (by decide +kernel) (by decide +kernel), ⟨by decide +kernel, by decide +kernel, by decide +kernel⟩, by decide⟩
theorem cw_Wd_firstInLine : CW M_Wd_firstInLine 1 := ⟨gc2 161 rfl rfl, gw 9 (by decide +kernel) (by decide +kernel), ⟨by decide +kernel, by decide +kernel, by decide +kernel⟩, by decide⟩
theorem cw_Rd_isIn : CW M_Rd_isIn 2 := ⟨gc2 165 rfl rfl, gw 10 (by decide +kernel) (by decide +kernel), ⟨by decide +kernel, by decide +kernel, by decide +kernel⟩, by decide⟩
theorem cw_FG_hold : CW M_FG_hold 2 := ⟨gc2 169 rfl rfl, gw 1 (by decide +kernel) (by decide +kernel), ⟨by decide +kernel, by decide +kernel, by decide +kernel⟩, by decide⟩
theorem cw_FG_wants : CW M_FG_wants 2 := ⟨gc2 173 rfl rfl, gw 1 (by decide +kernel) (by decide +kernel), ⟨by decide +kernel, by decide +kernel, by decide +kernel⟩, by decide⟩
theorem cw_FG_isKind : CW M_FG_isKind 1 := ⟨gc2 176 rfl rfl, gw 1 (by decide +kernel) (by decide +kernel), ⟨by decide +kernel, by decide +kernel, by decide +kernel⟩, by decide⟩
theorem cw_FG_feed : CW M_FG_feed 2 := ⟨gc2 180 rfl rfl, gw 1 (by decide +kernel) (by decide +kernel), ⟨by decide +kernel, by decide +kernel, by decide +kernel⟩, by decide⟩
theorem cw_Tp_append : CW M_Tp_append 2 := ⟨gc2 184 rfl rfl, gw 11 (by decide +kernel) (by decide +kernel), ⟨by decide +kernel, by decide +kernel, by decide +kernel⟩, by decide⟩
theorem cw_FG_custom : CW M_FG_custom 0 := ⟨gc2 188 rfl rfl, gw 1 (by decide +kernel) (by decide +kernel), ⟨by decide +kernel, by decide +kernel, by decide +kernel⟩, by decide⟩
theorem cw_Tp_parse : CW M_Tp_parse 0 := ⟨gc2 192 rfl rfl, gw 11 (by decide +kernel) (by decide +kernel), ⟨by decide +kernel, by decide +kernel, by decide +kernel⟩, by decide⟩
theorem cw_Tp_parseLine : CW M_Tp_parseLine 0 := ⟨gc2 196 rfl rfl, gw 11 (by decide +kernel) (by decide +kernel), ⟨by decide +kernel, by decide +kernel, by decide +kernel⟩, by decide⟩
theorem cw_Tp_parseWord : CW M_Tp_parseWord 1 := ⟨gc2 201 rfl rfl, gw 11 (by decide +kernel) (by decide +kernel), ⟨by decide +kernel, by decide +kernel, by decide +kernel⟩, by decide⟩
theorem cw_JS_length : CW M_JS_length 0 := ⟨gc2 205 rfl rfl, gw 13 (by decide +kernel) (by decide +kernel), ⟨by decide +kernel, by decide +kernel, by decide +kernel⟩, by decide⟩
theorem cw_JS_coder : CW M_JS_coder 0 := ⟨gc2 209 rfl rfl, gw 13 (by decide +kernel) (by decide +kernel), ⟨by decide +kernel, by decide +kernel, by decide +kernel⟩, by decide⟩
theorem cw_JS_charAt : CW M_JS_charAt 1 := ⟨gc2 215 rfl rfl, gw 13 (by decide +kernel) (by decide +kernel), ⟨by decide +kernel, by decide +kernel, by decide +kernel⟩, by decide⟩
theorem cw_JS_isLatin1 : CW M_JS_isLatin1 0 := ⟨gc2 219 rfl rfl, gw 13 (by decide +kernel) (by decide +kernel), ⟨by decide +kernel, by decide +kernel, by decide +kernel⟩, by decide⟩
theorem cw_JL_charAt : CW M_JL_charAt 2 := ⟨gc2 222 rfl rfl, gw 14 (by decide +kernel) (by decide +kernel), ⟨by decide +kernel, by decide +kernel, by decide +kernel⟩, by decide⟩
theorem cw_JS_checkIndex : CW M_JS_checkIndex 2 := ⟨gc2 225 rfl rfl, gw 13 (by decide +kernel) (by decide +kernel), ⟨by decide +kernel, by decide +kernel, by decide +kernel⟩, by decide⟩
theorem cw_JU_charAt : CW M_JU_charAt 2 := ⟨gc2 233 rfl rfl, gw 16 (by decide +kernel) (by decide +kernel), ⟨by decide +kernel, by decide +kernel, by decide +kernel⟩, by decide⟩
theorem cw_JU_checkIndex : CW M_JU_checkIndex 2 := ⟨gc2 236 rfl rfl, gw 16 (by decide +kernel) (by decide +kernel), ⟨by decide +kernel, by decide +kernel, by decide +kernel⟩, by decide⟩
theorem cw_JU_length : CW M_JU_length 1 := ⟨gc2 239 rfl rfl, gw 16 (by decide +kernel) (by decide +kernel), ⟨by decide +kernel, by decide +kernel, by decide +kernel⟩, by decide⟩
theorem cw_JU_getChar : CW M_JU_getChar 2 := ⟨gc3 3 rfl rfl, gw 16 (by decide +kernel) (by decide +kernel), ⟨by decide +kernel, by decide +kernel, by decide +kernel⟩, by decide⟩
theorem cw_Tp_byteAt : CW M_Tp_byteAt 1 := ⟨gc3 13 rfl rfl, gw 11 (by decide +kernel) (by decide +kernel), ⟨by decide +kernel, by decide +kernel, by decide +kernel⟩, by decide⟩
theorem cw_JM_max : CW M_JM_max 2 := ⟨gc3 16 rfl rfl, gw 17 (by decide +kernel) (by decide +kernel), ⟨by decide +kernel, by decide +kernel, by decide +kernel⟩, by decide⟩
theorem cw_Tp_parseNumber : CW M_Tp_parseNumber 0 := ⟨gc3 20 rfl rfl, gw 11 (by decide +kernel) (by decide +kernel), ⟨by decide +kernel, by decide +kernel, by decide +kernel⟩, by decide⟩
theorem cw_Ln_init : CW M_Ln_init 2 := ⟨gc3 24 rfl rfl, gw 18 (by decide +kernel) (by decide +kernel), ⟨by decide +kernel, by decide +kernel, by decide +kernel⟩, by decide⟩
theorem cw_Tp_parseTest : CW M_Tp_parseTest 2 := ⟨gc3 54 rfl rfl, gw 11 (by decide +kernel) (by decide +kernel), ⟨by decide +kernel, by decide +kernel, by decide +kernel⟩, by decide⟩
theorem cw_Tn_adopt : CW M_Tn_adopt 2 := ⟨gc3 59 rfl rfl, gw 2 (by decide +kernel) (by decide +kernel), ⟨by decide +kernel, by decide +kernel, by decide +kernel⟩, by decide⟩
theorem cw_FG_force : CW M_FG_force 2 := ⟨gc3 63 rfl rfl, gw 1 (by decide +kernel) (by decide +kernel), ⟨by decide +kernel, by decide +kernel, by decide +kernel⟩, by decide⟩
theorem cw_FG_law : CW M_FG_law 2 := ⟨gc3 67 rfl rfl, gw 1 (by decide +kernel) (by decide +kernel), ⟨by decide +kernel, by decide +kernel, by decide +kernel⟩, by decide⟩
theorem cw_Tn_factsOf : CW M_Tn_factsOf 2 := ⟨gc3 71 rfl rfl, gw 2 (by decide +kernel) (by decide +kernel), ⟨by decide +kernel, by decide +kernel, by decide +kernel⟩, by decide⟩
theorem cw_Wd_hour : CW M_Wd_hour 0 := ⟨gc3 75 rfl rfl, gw 9 (by decide +kernel) (by decide +kernel), ⟨by decide +kernel, by decide +kernel, by decide +kernel⟩, by decide⟩
theorem cw_Wd_inLine : CW M_Wd_inLine 1 := ⟨gc3 79 rfl rfl, gw 9 (by decide +kernel) (by decide +kernel), ⟨by decide +kernel, by decide +kernel, by decide +kernel⟩, by decide⟩
theorem cw_Tn_says : CW M_Tn_says 2 := ⟨gc3 83 rfl rfl, gw 2 (by decide +kernel) (by decide +kernel), ⟨by decide +kernel, by decide +kernel, by decide +kernel⟩, by decide⟩
theorem cw_Tn_linePlace : CW M_Tn_linePlace 2 := ⟨gc3 87 rfl rfl, gw 2 (by decide +kernel) (by decide +kernel), ⟨by decide +kernel, by decide +kernel, by decide +kernel⟩, by decide⟩
theorem cw_Ln_holds : CW M_Ln_holds 1 := ⟨gc3 91 rfl rfl, gw 18 (by decide +kernel) (by decide +kernel), ⟨by decide +kernel, by decide +kernel, by decide +kernel⟩, by decide⟩
theorem cw_FG_why : CW M_FG_why 2 := ⟨gc3 97 rfl rfl, gw 1 (by decide +kernel) (by decide +kernel), ⟨by decide +kernel, by decide +kernel, by decide +kernel⟩, by decide⟩
theorem cw_FG_minutes : CW M_FG_minutes 1 := ⟨gc3 102 rfl rfl, gw 1 (by decide +kernel) (by decide +kernel), ⟨by decide +kernel, by decide +kernel, by decide +kernel⟩, by decide⟩
theorem cw_Tn_pass : CW M_Tn_pass 1 := ⟨gc3 106 rfl rfl, gw 2 (by decide +kernel) (by decide +kernel), ⟨by decide +kernel, by decide +kernel, by decide +kernel⟩, by decide⟩
theorem cw_Tn_comeAndWalk : CW M_Tn_comeAndWalk 1 := ⟨gc3 110 rfl rfl, gw 2 (by decide +kernel) (by decide +kernel), ⟨by decide +kernel, by decide +kernel, by decide +kernel⟩, by decide⟩
theorem cw_Tn_serve : CW M_Tn_serve 2 := ⟨gc3 114 rfl rfl, gw 2 (by decide +kernel) (by decide +kernel), ⟨by decide +kernel, by decide +kernel, by decide +kernel⟩, by decide⟩
theorem cw_Wd_loadingAt : CW M_Wd_loadingAt 1 := ⟨gc3 118 rfl rfl, gw 9 (by decide +kernel) (by decide +kernel), ⟨by decide +kernel, by decide +kernel, by decide +kernel⟩, by decide⟩
theorem cw_Tn_callUp : CW M_Tn_callUp 2 := ⟨gc3 122 rfl rfl, gw 2 (by decide +kernel) (by decide +kernel), ⟨by decide +kernel, by decide +kernel, by decide +kernel⟩, by decide⟩
theorem cw_Tn_mostWanted : CW M_Tn_mostWanted 2 := ⟨gc3 127 rfl rfl, gw 2 (by decide +kernel) (by decide +kernel), ⟨by decide +kernel, by decide +kernel, by decide +kernel⟩, by decide⟩
theorem cw_Em_carries : CW M_Em_carries 0 := ⟨gc3 135 rfl rfl, gw 5 (by decide +kernel) (by decide +kernel), ⟨by decide +kernel, by decide +kernel, by decide +kernel⟩, by decide⟩
theorem cw_Rn_carries : CW M_Rn_carries 0 := ⟨gc3 139 rfl rfl, gw 3 (by decide +kernel) (by decide +kernel), ⟨by decide +kernel, by decide +kernel, by decide +kernel⟩, by decide⟩
theorem cw_Tn_letIn : CW M_Tn_letIn 2 := ⟨gc3 143 rfl rfl, gw 2 (by decide +kernel) (by decide +kernel), ⟨by decide +kernel, by decide +kernel, by decide +kernel⟩, by decide⟩
theorem cw_JM_min : CW M_JM_min 2 := ⟨gc3 146 rfl rfl, gw 17 (by decide +kernel) (by decide +kernel), ⟨by decide +kernel, by decide +kernel, by decide +kernel⟩, by decide⟩
theorem cw_Ea_needOf : CW M_Ea_needOf 1 := ⟨gc3 155 rfl rfl, gw 6 (by decide +kernel) (by decide +kernel), ⟨by decide +kernel, by decide +kernel, by decide +kernel⟩, by decide⟩
theorem cw_Em_needOf : CW M_Em_needOf 1 := ⟨gc3 159 rfl rfl, gw 5 (by decide +kernel) (by decide +kernel), ⟨by decide +kernel, by decide +kernel, by decide +kernel⟩, by decide⟩
theorem cw_Rn_needOf : CW M_Rn_needOf 1 := ⟨gc3 163 rfl rfl, gw 3 (by decide +kernel) (by decide +kernel), ⟨by decide +kernel, by decide +kernel, by decide +kernel⟩, by decide⟩
theorem cw_Tn_leave : CW M_Tn_leave 3 := ⟨gc3 169 rfl rfl, gw 2 (by decide +kernel) (by decide +kernel), ⟨by decide +kernel, by decide +kernel, by decide +kernel⟩, by decide⟩
theorem cw_Hi_takings : CW M_Hi_takings 2 := ⟨gc3 179 rfl rfl, gw 8 (by decide +kernel) (by decide +kernel), ⟨by decide +kernel, by decide +kernel, by decide +kernel⟩, by decide⟩
theorem cw_Hi_fareOf : CW M_Hi_fareOf 1 := ⟨gc3 183 rfl rfl, gw 8 (by decide +kernel) (by decide +kernel), ⟨by decide +kernel, by decide +kernel, by decide +kernel⟩, by decide⟩
theorem cw_Rn_takings : CW M_Rn_takings 2 := ⟨gc3 185 rfl rfl, gw 3 (by decide +kernel) (by decide +kernel), ⟨by decide +kernel, by decide +kernel, by decide +kernel⟩, by decide⟩
theorem cw_Em_fareOf : CW M_Em_fareOf 1 := ⟨gc3 193 rfl rfl, gw 5 (by decide +kernel) (by decide +kernel), ⟨by decide +kernel, by decide +kernel, by decide +kernel⟩, by decide⟩
theorem cw_Ex_fareOf : CW M_Ex_fareOf 1 := ⟨gc3 196 rfl rfl, gw 7 (by decide +kernel) (by decide +kernel), ⟨by decide +kernel, by decide +kernel, by decide +kernel⟩, by decide⟩
theorem cw_Sh_fareOf : CW M_Sh_fareOf 1 := ⟨gc3 200 rfl rfl, gw 4 (by decide +kernel) (by decide +kernel), ⟨by decide +kernel, by decide +kernel, by decide +kernel⟩, by decide⟩
theorem cw_Rn_fareOf : CW M_Rn_fareOf 1 := ⟨gc3 201 rfl rfl, gw 3 (by decide +kernel) (by decide +kernel), ⟨by decide +kernel, by decide +kernel, by decide +kernel⟩, by decide⟩
theorem cw_Tn_wayOf : CW M_Tn_wayOf 3 := ⟨gc3 205 rfl rfl, gw 2 (by decide +kernel) (by decide +kernel), ⟨by decide +kernel, by decide +kernel, by decide +kernel⟩, by decide⟩
theorem cw_Hi_minutesOf : CW M_Hi_minutesOf 1 := ⟨gc3 216 rfl rfl, gw 8 (by decide +kernel) (by decide +kernel), ⟨by decide +kernel, by decide +kernel, by decide +kernel⟩, by decide⟩
theorem cw_Sh_minutesOf : CW M_Sh_minutesOf 1 := ⟨gc3 219 rfl rfl, gw 4 (by decide +kernel) (by decide +kernel), ⟨by decide +kernel, by decide +kernel, by decide +kernel⟩, by decide⟩
theorem cw_Rn_minutesOf : CW M_Rn_minutesOf 1 := ⟨gc3 220 rfl rfl, gw 3 (by decide +kernel) (by decide +kernel), ⟨by decide +kernel, by decide +kernel, by decide +kernel⟩, by decide⟩
theorem cw_Ex_fuelOf : CW M_Ex_fuelOf 1 := ⟨gc3 229 rfl rfl, gw 7 (by decide +kernel) (by decide +kernel), ⟨by decide +kernel, by decide +kernel, by decide +kernel⟩, by decide⟩
theorem cw_Rn_fuelOf : CW M_Rn_fuelOf 1 := ⟨gc3 232 rfl rfl, gw 3 (by decide +kernel) (by decide +kernel), ⟨by decide +kernel, by decide +kernel, by decide +kernel⟩, by decide⟩
theorem cw_Tn_move : CW M_Tn_move 2 := ⟨gc3 236 rfl rfl, gw 2 (by decide +kernel) (by decide +kernel), ⟨by decide +kernel, by decide +kernel, by decide +kernel⟩, by decide⟩
theorem cw_Tn_arrive : CW M_Tn_arrive 2 := ⟨gc4 0 rfl rfl, gw 2 (by decide +kernel) (by decide +kernel), ⟨by decide +kernel, by decide +kernel, by decide +kernel⟩, by decide⟩
theorem cw_Sh_turnsBack : CW M_Sh_turnsBack 0 := ⟨gc4 11 rfl rfl, gw 4 (by decide +kernel) (by decide +kernel), ⟨by decide +kernel, by decide +kernel, by decide +kernel⟩, by decide⟩
theorem cw_Rn_turnsBack : CW M_Rn_turnsBack 0 := ⟨gc4 12 rfl rfl, gw 3 (by decide +kernel) (by decide +kernel), ⟨by decide +kernel, by decide +kernel, by decide +kernel⟩, by decide⟩
theorem cw_Tn_settle : CW M_Tn_settle 2 := ⟨gc4 17 rfl rfl, gw 2 (by decide +kernel) (by decide +kernel), ⟨by decide +kernel, by decide +kernel, by decide +kernel⟩, by decide⟩
theorem cw_FG_busTold : CW M_FG_busTold 2 := ⟨gc4 22 rfl rfl, gw 1 (by decide +kernel) (by decide +kernel), ⟨by decide +kernel, by decide +kernel, by decide +kernel⟩, by decide⟩
theorem cw_FG_waiting : CW M_FG_waiting 2 := ⟨gc4 27 rfl rfl, gw 1 (by decide +kernel) (by decide +kernel), ⟨by decide +kernel, by decide +kernel, by decide +kernel⟩, by decide⟩
theorem cw_FG_stageTold : CW M_FG_stageTold 2 := ⟨gc4 31 rfl rfl, gw 1 (by decide +kernel) (by decide +kernel), ⟨by decide +kernel, by decide +kernel, by decide +kernel⟩, by decide⟩
theorem cw_FG_kindTold : CW M_FG_kindTold 3 := ⟨gc4 38 rfl rfl, gw 1 (by decide +kernel) (by decide +kernel), ⟨by decide +kernel, by decide +kernel, by decide +kernel⟩, by decide⟩
theorem cw_FG_count : CW M_FG_count 1 := ⟨gc4 46 rfl rfl, gw 1 (by decide +kernel) (by decide +kernel), ⟨by decide +kernel, by decide +kernel, by decide +kernel⟩, by decide⟩
theorem cw_FG_trip : CW M_FG_trip 2 := ⟨gc4 50 rfl rfl, gw 1 (by decide +kernel) (by decide +kernel), ⟨by decide +kernel, by decide +kernel, by decide +kernel⟩, by decide⟩
theorem cw_Tn_leastTrip : CW M_Tn_leastTrip 3 := ⟨gc4 55 rfl rfl, gw 2 (by decide +kernel) (by decide +kernel), ⟨by decide +kernel, by decide +kernel, by decide +kernel⟩, by decide⟩
theorem cw_FG_foretell : CW M_FG_foretell 2 := ⟨gc4 60 rfl rfl, gw 1 (by decide +kernel) (by decide +kernel), ⟨by decide +kernel, by decide +kernel, by decide +kernel⟩, by decide⟩
theorem cw_Wd_become : CW M_Wd_become 1 := ⟨gc4 64 rfl rfl, gw 9 (by decide +kernel) (by decide +kernel), ⟨by decide +kernel, by decide +kernel, by decide +kernel⟩, by decide⟩
theorem cw_Rd_follow : CW M_Rd_follow 1 := ⟨gc4 71 rfl rfl, gw 10 (by decide +kernel) (by decide +kernel), ⟨by decide +kernel, by decide +kernel, by decide +kernel⟩, by decide⟩
theorem cw_FG_beside : CW M_FG_beside 3 := ⟨gc4 75 rfl rfl, gw 1 (by decide +kernel) (by decide +kernel), ⟨by decide +kernel, by decide +kernel, by decide +kernel⟩, by decide⟩
theorem cw_FG_plan : CW M_FG_plan 3 := ⟨gc4 80 rfl rfl, gw 1 (by decide +kernel) (by decide +kernel), ⟨by decide +kernel, by decide +kernel, by decide +kernel⟩, by decide⟩
theorem cw_FG_isSheet : CW M_FG_isSheet 1 := ⟨gc4 83 rfl rfl, gw 1 (by decide +kernel) (by decide +kernel), ⟨by decide +kernel, by decide +kernel, by decide +kernel⟩, by decide⟩
theorem cw_FG_tellsPlaces : CW M_FG_tellsPlaces 1 := ⟨gc4 87 rfl rfl, gw 1 (by decide +kernel) (by decide +kernel), ⟨by decide +kernel, by decide +kernel, by decide +kernel⟩, by decide⟩
theorem cw_JI_bitCount : CW M_JI_bitCount 1 := ⟨gc4 91 rfl rfl, gw 20 (by decide +kernel) (by decide +kernel), ⟨by decide +kernel, by decide +kernel, by decide +kernel⟩, by decide⟩
theorem cw_FG_waitedWith : CW M_FG_waitedWith 3 := ⟨gc4 98 rfl rfl, gw 1 (by decide +kernel) (by decide +kernel), ⟨by decide +kernel, by decide +kernel, by decide +kernel⟩, by decide⟩
theorem cw_FG_planned : CW M_FG_planned 0 := ⟨gc4 102 rfl rfl, gw 1 (by decide +kernel) (by decide +kernel), ⟨by decide +kernel, by decide +kernel, by decide +kernel⟩, by decide⟩
theorem cw_FG_gain : CW M_FG_gain 3 := ⟨gc4 106 rfl rfl, gw 1 (by decide +kernel) (by decide +kernel), ⟨by decide +kernel, by decide +kernel, by decide +kernel⟩, by decide⟩
theorem cw_FG_fights : CW M_FG_fights 1 := ⟨gc4 110 rfl rfl, gw 1 (by decide +kernel) (by decide +kernel), ⟨by decide +kernel, by decide +kernel, by decide +kernel⟩, by decide⟩
theorem cw_FG_part : CW M_FG_part 4 := ⟨gc4 114 rfl rfl, gw 1 (by decide +kernel) (by decide +kernel), ⟨by decide +kernel, by decide +kernel, by decide +kernel⟩, by decide⟩
theorem cw_FG_quietGain : CW M_FG_quietGain 4 := ⟨gc4 118 rfl rfl, gw 1 (by decide +kernel) (by decide +kernel), ⟨by decide +kernel, by decide +kernel, by decide +kernel⟩, by decide⟩
theorem cw_FG_sideIn : CW M_FG_sideIn 3 := ⟨gc4 121 rfl rfl, gw 1 (by decide +kernel) (by decide +kernel), ⟨by decide +kernel, by decide +kernel, by decide +kernel⟩, by decide⟩
theorem cw_FG_isQuiet : CW M_FG_isQuiet 3 := ⟨gc4 125 rfl rfl, gw 1 (by decide +kernel) (by decide +kernel), ⟨by decide +kernel, by decide +kernel, by decide +kernel⟩, by decide⟩
theorem cw_FG_round : CW M_FG_round 2 := ⟨gc4 129 rfl rfl, gw 1 (by decide +kernel) (by decide +kernel), ⟨by decide +kernel, by decide +kernel, by decide +kernel⟩, by decide⟩
theorem cw_FG_stops : CW M_FG_stops 1 := ⟨gc4 133 rfl rfl, gw 1 (by decide +kernel) (by decide +kernel), ⟨by decide +kernel, by decide +kernel, by decide +kernel⟩, by decide⟩
theorem cw_FG_isMember : CW M_FG_isMember 1 := ⟨gc4 137 rfl rfl, gw 1 (by decide +kernel) (by decide +kernel), ⟨by decide +kernel, by decide +kernel, by decide +kernel⟩, by decide⟩
theorem cw_FG_turns : CW M_FG_turns 0 := ⟨gc4 141 rfl rfl, gw 1 (by decide +kernel) (by decide +kernel), ⟨by decide +kernel, by decide +kernel, by decide +kernel⟩, by decide⟩
theorem cw_FG_taker : CW M_FG_taker 0 := ⟨gc4 145 rfl rfl, gw 1 (by decide +kernel) (by decide +kernel), ⟨by decide +kernel, by decide +kernel, by decide +kernel⟩, by decide⟩
theorem cw_FG_saved : CW M_FG_saved 2 := ⟨gc4 149 rfl rfl, gw 1 (by decide +kernel) (by decide +kernel), ⟨by decide +kernel, by decide +kernel, by decide +kernel⟩, by decide⟩
theorem cw_FG_book : CW M_FG_book 3 := ⟨gc4 153 rfl rfl, gw 1 (by decide +kernel) (by decide +kernel), ⟨by decide +kernel, by decide +kernel, by decide +kernel⟩, by decide⟩
theorem cw_FG_mend : CW M_FG_mend 2 := ⟨gc4 158 rfl rfl, gw 1 (by decide +kernel) (by decide +kernel), ⟨by decide +kernel, by decide +kernel, by decide +kernel⟩, by decide⟩
theorem cw_FG_told : CW M_FG_told 3 := ⟨gc4 162 rfl rfl, gw 1 (by decide +kernel) (by decide +kernel), ⟨by decide +kernel, by decide +kernel, by decide +kernel⟩, by decide⟩
theorem cw_FG_sumKnown : CW M_FG_sumKnown 2 := ⟨gc4 165 rfl rfl, gw 1 (by decide +kernel) (by decide +kernel), ⟨by decide +kernel, by decide +kernel, by decide +kernel⟩, by decide⟩
theorem cw_FG_image : CW M_FG_image 0 := ⟨gc4 169 rfl rfl, gw 1 (by decide +kernel) (by decide +kernel), ⟨by decide +kernel, by decide +kernel, by decide +kernel⟩, by decide⟩
theorem cw_FG_back : CW M_FG_back 0 := ⟨gc4 173 rfl rfl, gw 1 (by decide +kernel) (by decide +kernel), ⟨by decide +kernel, by decide +kernel, by decide +kernel⟩, by decide⟩
theorem cw_FG_sheet : CW M_FG_sheet 3 := ⟨gc4 177 rfl rfl, gw 1 (by decide +kernel) (by decide +kernel), ⟨by decide +kernel, by decide +kernel, by decide +kernel⟩, by decide⟩
theorem cw_FG_cell : CW M_FG_cell 3 := ⟨gc4 181 rfl rfl, gw 1 (by decide +kernel) (by decide +kernel), ⟨by decide +kernel, by decide +kernel, by decide +kernel⟩, by decide⟩
theorem cw_FG_copy : CW M_FG_copy 5 := ⟨gc4 185 rfl rfl, gw 1 (by decide +kernel) (by decide +kernel), ⟨by decide +kernel, by decide +kernel, by decide +kernel⟩, by decide⟩
theorem cw_FG_holdsAll : CW M_FG_holdsAll 3 := ⟨gc4 189 rfl rfl, gw 1 (by decide +kernel) (by decide +kernel), ⟨by decide +kernel, by decide +kernel, by decide +kernel⟩, by decide⟩
theorem cw_FG_buses : CW M_FG_buses 4 := ⟨gc4 194 rfl rfl, gw 1 (by decide +kernel) (by decide +kernel), ⟨by decide +kernel, by decide +kernel, by decide +kernel⟩, by decide⟩
theorem cw_FG_taken : CW M_FG_taken 2 := ⟨gc4 198 rfl rfl, gw 1 (by decide +kernel) (by decide +kernel), ⟨by decide +kernel, by decide +kernel, by decide +kernel⟩, by decide⟩
theorem cw_Ea_isOf : CW M_Ea_isOf 1 := ⟨gc4 205 rfl rfl, gw 6 (by decide +kernel) (by decide +kernel), ⟨by decide +kernel, by decide +kernel, by decide +kernel⟩, by decide⟩
theorem cw_Em_isOf : CW M_Em_isOf 1 := ⟨gc4 209 rfl rfl, gw 5 (by decide +kernel) (by decide +kernel), ⟨by decide +kernel, by decide +kernel, by decide +kernel⟩, by decide⟩
theorem cw_Ex_isOf : CW M_Ex_isOf 1 := ⟨gc4 213 rfl rfl, gw 7 (by decide +kernel) (by decide +kernel), ⟨by decide +kernel, by decide +kernel, by decide +kernel⟩, by decide⟩
theorem cw_Hi_isOf : CW M_Hi_isOf 1 := ⟨gc4 217 rfl rfl, gw 8 (by decide +kernel) (by decide +kernel), ⟨by decide +kernel, by decide +kernel, by decide +kernel⟩, by decide⟩
theorem cw_Sh_isOf : CW M_Sh_isOf 1 := ⟨gc4 221 rfl rfl, gw 4 (by decide +kernel) (by decide +kernel), ⟨by decide +kernel, by decide +kernel, by decide +kernel⟩, by decide⟩
theorem cw_Rn_isOf : CW M_Rn_isOf 1 := ⟨gc4 223 rfl rfl, gw 3 (by decide +kernel) (by decide +kernel), ⟨by decide +kernel, by decide +kernel, by decide +kernel⟩, by decide⟩
theorem cw_Rf_init : CW M_Rf_init 0 := ⟨gc4 228 rfl rfl, gw 12 (by decide +kernel) (by decide +kernel), ⟨by decide +kernel, by decide +kernel, by decide +kernel⟩, by decide⟩
theorem cw_Rf_road : CW M_Rf_road 3 := ⟨gc5 157 rfl rfl, gw 12 (by decide +kernel) (by decide +kernel), ⟨by decide +kernel, by decide +kernel, by decide +kernel⟩, by decide⟩
theorem cw_Rf_isStage : CW M_Rf_isStage 1 := ⟨gc5 160 rfl rfl, gw 12 (by decide +kernel) (by decide +kernel), ⟨by decide +kernel, by decide +kernel, by decide +kernel⟩, by decide⟩
theorem cw_Rf_in : CW M_Rf_in 3 := ⟨gc5 163 rfl rfl, gw 12 (by decide +kernel) (by decide +kernel), ⟨by decide +kernel, by decide +kernel, by decide +kernel⟩, by decide⟩
theorem cw_Rf_jam : CW M_Rf_jam 2 := ⟨gc5 167 rfl rfl, gw 12 (by decide +kernel) (by decide +kernel), ⟨by decide +kernel, by decide +kernel, by decide +kernel⟩, by decide⟩
theorem cw_Rf_people : CW M_Rf_people 3 := ⟨gc5 171 rfl rfl, gw 12 (by decide +kernel) (by decide +kernel), ⟨by decide +kernel, by decide +kernel, by decide +kernel⟩, by decide⟩
theorem cw_Rf_rain : CW M_Rf_rain 1 := ⟨gc5 175 rfl rfl, gw 12 (by decide +kernel) (by decide +kernel), ⟨by decide +kernel, by decide +kernel, by decide +kernel⟩, by decide⟩
theorem cw_Rf_bus : CW M_Rf_bus 4 := ⟨gc5 179 rfl rfl, gw 12 (by decide +kernel) (by decide +kernel), ⟨by decide +kernel, by decide +kernel, by decide +kernel⟩, by decide⟩
theorem cw_Rf_queue : CW M_Rf_queue 2 := ⟨gc5 183 rfl rfl, gw 12 (by decide +kernel) (by decide +kernel), ⟨by decide +kernel, by decide +kernel, by decide +kernel⟩, by decide⟩
theorem cw_Rf_isBus : CW M_Rf_isBus 1 := ⟨gc5 187 rfl rfl, gw 12 (by decide +kernel) (by decide +kernel), ⟨by decide +kernel, by decide +kernel, by decide +kernel⟩, by decide⟩
theorem cw_Rf_queuesAt : CW M_Rf_queuesAt 2 := ⟨gc5 191 rfl rfl, gw 12 (by decide +kernel) (by decide +kernel), ⟨by decide +kernel, by decide +kernel, by decide +kernel⟩, by decide⟩
theorem cw_Rf_rest : CW M_Rf_rest 1 := ⟨gc5 195 rfl rfl, gw 12 (by decide +kernel) (by decide +kernel), ⟨by decide +kernel, by decide +kernel, by decide +kernel⟩, by decide⟩
theorem cw_Rf_jump : CW M_Rf_jump 2 := ⟨gc5 199 rfl rfl, gw 12 (by decide +kernel) (by decide +kernel), ⟨by decide +kernel, by decide +kernel, by decide +kernel⟩, by decide⟩
theorem cw_Rf_firstAt : CW M_Rf_firstAt 1 := ⟨gc5 203 rfl rfl, gw 12 (by decide +kernel) (by decide +kernel), ⟨by decide +kernel, by decide +kernel, by decide +kernel⟩, by decide⟩
theorem cw_Rf_hold : CW M_Rf_hold 2 := ⟨gc5 207 rfl rfl, gw 12 (by decide +kernel) (by decide +kernel), ⟨by decide +kernel, by decide +kernel, by decide +kernel⟩, by decide⟩
theorem cw_Rf_wants : CW M_Rf_wants 2 := ⟨gc5 211 rfl rfl, gw 12 (by decide +kernel) (by decide +kernel), ⟨by decide +kernel, by decide +kernel, by decide +kernel⟩, by decide⟩
theorem cw_Rf_kindTold : CW M_Rf_kindTold 3 := ⟨gc5 215 rfl rfl, gw 12 (by decide +kernel) (by decide +kernel), ⟨by decide +kernel, by decide +kernel, by decide +kernel⟩, by decide⟩
theorem cw_Rf_needOf : CW M_Rf_needOf 2 := ⟨gc5 218 rfl rfl, gw 12 (by decide +kernel) (by decide +kernel), ⟨by decide +kernel, by decide +kernel, by decide +kernel⟩, by decide⟩
theorem cw_Rf_fareOf : CW M_Rf_fareOf 2 := ⟨gc5 221 rfl rfl, gw 12 (by decide +kernel) (by decide +kernel), ⟨by decide +kernel, by decide +kernel, by decide +kernel⟩, by decide⟩
theorem cw_Rf_minutesOf : CW M_Rf_minutesOf 2 := ⟨gc5 224 rfl rfl, gw 12 (by decide +kernel) (by decide +kernel), ⟨by decide +kernel, by decide +kernel, by decide +kernel⟩, by decide⟩
theorem cw_Rf_fuelOf : CW M_Rf_fuelOf 2 := ⟨gc5 227 rfl rfl, gw 12 (by decide +kernel) (by decide +kernel), ⟨by decide +kernel, by decide +kernel, by decide +kernel⟩, by decide⟩
theorem cw_Rf_feed : CW M_Rf_feed 2 := ⟨gc5 231 rfl rfl, gw 12 (by decide +kernel) (by decide +kernel), ⟨by decide +kernel, by decide +kernel, by decide +kernel⟩, by decide⟩
theorem cw_Rf_custom : CW M_Rf_custom 0 := ⟨gc5 236 rfl rfl, gw 12 (by decide +kernel) (by decide +kernel), ⟨by decide +kernel, by decide +kernel, by decide +kernel⟩, by decide⟩
theorem cw_Rf_line : CW M_Rf_line 1 := ⟨gc6 0 rfl rfl, gw 12 (by decide +kernel) (by decide +kernel), ⟨by decide +kernel, by decide +kernel, by decide +kernel⟩, by decide⟩
theorem cw_Rf_wordOf : CW M_Rf_wordOf 2 := ⟨gc6 4 rfl rfl, gw 12 (by decide +kernel) (by decide +kernel), ⟨by decide +kernel, by decide +kernel, by decide +kernel⟩, by decide⟩
theorem cw_Rf_byteHere : CW M_Rf_byteHere 0 := ⟨gc6 8 rfl rfl, gw 12 (by decide +kernel) (by decide +kernel), ⟨by decide +kernel, by decide +kernel, by decide +kernel⟩, by decide⟩
theorem cw_Rf_number : CW M_Rf_number 0 := ⟨gc6 12 rfl rfl, gw 12 (by decide +kernel) (by decide +kernel), ⟨by decide +kernel, by decide +kernel, by decide +kernel⟩, by decide⟩
theorem cw_Rf_test : CW M_Rf_test 1 := ⟨gc6 16 rfl rfl, gw 12 (by decide +kernel) (by decide +kernel), ⟨by decide +kernel, by decide +kernel, by decide +kernel⟩, by decide⟩
theorem cw_Rf_force : CW M_Rf_force 2 := ⟨gc6 20 rfl rfl, gw 12 (by decide +kernel) (by decide +kernel), ⟨by decide +kernel, by decide +kernel, by decide +kernel⟩, by decide⟩
theorem cw_Rf_law : CW M_Rf_law 2 := ⟨gc6 24 rfl rfl, gw 12 (by decide +kernel) (by decide +kernel), ⟨by decide +kernel, by decide +kernel, by decide +kernel⟩, by decide⟩
theorem cw_Rf_lawOf : CW M_Rf_lawOf 2 := ⟨gc6 28 rfl rfl, gw 12 (by decide +kernel) (by decide +kernel), ⟨by decide +kernel, by decide +kernel, by decide +kernel⟩, by decide⟩
theorem cw_Rf_lineFor : CW M_Rf_lineFor 2 := ⟨gc6 32 rfl rfl, gw 12 (by decide +kernel) (by decide +kernel), ⟨by decide +kernel, by decide +kernel, by decide +kernel⟩, by decide⟩
theorem cw_Rf_holds : CW M_Rf_holds 2 := ⟨gc6 36 rfl rfl, gw 12 (by decide +kernel) (by decide +kernel), ⟨by decide +kernel, by decide +kernel, by decide +kernel⟩, by decide⟩
theorem cw_Rf_fieldOf : CW M_Rf_fieldOf 2 := ⟨gc6 40 rfl rfl, gw 12 (by decide +kernel) (by decide +kernel), ⟨by decide +kernel, by decide +kernel, by decide +kernel⟩, by decide⟩
theorem cw_Rf_hour : CW M_Rf_hour 0 := ⟨gc6 44 rfl rfl, gw 12 (by decide +kernel) (by decide +kernel), ⟨by decide +kernel, by decide +kernel, by decide +kernel⟩, by decide⟩
theorem cw_Rf_queueAt : CW M_Rf_queueAt 1 := ⟨gc6 48 rfl rfl, gw 12 (by decide +kernel) (by decide +kernel), ⟨by decide +kernel, by decide +kernel, by decide +kernel⟩, by decide⟩
theorem cw_Rf_why : CW M_Rf_why 2 := ⟨gc6 52 rfl rfl, gw 12 (by decide +kernel) (by decide +kernel), ⟨by decide +kernel, by decide +kernel, by decide +kernel⟩, by decide⟩
theorem cw_Rf_minutes : CW M_Rf_minutes 1 := ⟨gc6 56 rfl rfl, gw 12 (by decide +kernel) (by decide +kernel), ⟨by decide +kernel, by decide +kernel, by decide +kernel⟩, by decide⟩
theorem cw_Rf_goes : CW M_Rf_goes 0 := ⟨gc6 60 rfl rfl, gw 12 (by decide +kernel) (by decide +kernel), ⟨by decide +kernel, by decide +kernel, by decide +kernel⟩, by decide⟩
theorem cw_Rf_come : CW M_Rf_come 0 := ⟨gc6 64 rfl rfl, gw 12 (by decide +kernel) (by decide +kernel), ⟨by decide +kernel, by decide +kernel, by decide +kernel⟩, by decide⟩
theorem cw_Rf_loads : CW M_Rf_loads 1 := ⟨gc6 68 rfl rfl, gw 12 (by decide +kernel) (by decide +kernel), ⟨by decide +kernel, by decide +kernel, by decide +kernel⟩, by decide⟩
theorem cw_Rf_loadsAt : CW M_Rf_loadsAt 1 := ⟨gc6 72 rfl rfl, gw 12 (by decide +kernel) (by decide +kernel), ⟨by decide +kernel, by decide +kernel, by decide +kernel⟩, by decide⟩
theorem cw_Rf_aimOf : CW M_Rf_aimOf 1 := ⟨gc6 76 rfl rfl, gw 12 (by decide +kernel) (by decide +kernel), ⟨by decide +kernel, by decide +kernel, by decide +kernel⟩, by decide⟩
theorem cw_Rf_wayOf : CW M_Rf_wayOf 2 := ⟨gc6 80 rfl rfl, gw 12 (by decide +kernel) (by decide +kernel), ⟨by decide +kernel, by decide +kernel, by decide +kernel⟩, by decide⟩
theorem cw_Rf_goesBus : CW M_Rf_goesBus 1 := ⟨gc6 84 rfl rfl, gw 12 (by decide +kernel) (by decide +kernel), ⟨by decide +kernel, by decide +kernel, by decide +kernel⟩, by decide⟩
theorem cw_Rf_sum : CW M_Rf_sum 2 := ⟨gc6 88 rfl rfl, gw 12 (by decide +kernel) (by decide +kernel), ⟨by decide +kernel, by decide +kernel, by decide +kernel⟩, by decide⟩
theorem cw_Rf_settles : CW M_Rf_settles 1 := ⟨gc6 92 rfl rfl, gw 12 (by decide +kernel) (by decide +kernel), ⟨by decide +kernel, by decide +kernel, by decide +kernel⟩, by decide⟩
theorem cw_Rf_busTold : CW M_Rf_busTold 2 := ⟨gc6 97 rfl rfl, gw 12 (by decide +kernel) (by decide +kernel), ⟨by decide +kernel, by decide +kernel, by decide +kernel⟩, by decide⟩
theorem cw_Rf_waiting : CW M_Rf_waiting 2 := ⟨gc6 102 rfl rfl, gw 12 (by decide +kernel) (by decide +kernel), ⟨by decide +kernel, by decide +kernel, by decide +kernel⟩, by decide⟩
theorem cw_Rf_stageTold : CW M_Rf_stageTold 2 := ⟨gc6 106 rfl rfl, gw 12 (by decide +kernel) (by decide +kernel), ⟨by decide +kernel, by decide +kernel, by decide +kernel⟩, by decide⟩
theorem cw_Rf_count : CW M_Rf_count 1 := ⟨gc6 110 rfl rfl, gw 12 (by decide +kernel) (by decide +kernel), ⟨by decide +kernel, by decide +kernel, by decide +kernel⟩, by decide⟩
theorem cw_Rf_trip : CW M_Rf_trip 2 := ⟨gc6 114 rfl rfl, gw 12 (by decide +kernel) (by decide +kernel), ⟨by decide +kernel, by decide +kernel, by decide +kernel⟩, by decide⟩
theorem cw_Rf_foretell : CW M_Rf_foretell 2 := ⟨gc6 119 rfl rfl, gw 12 (by decide +kernel) (by decide +kernel), ⟨by decide +kernel, by decide +kernel, by decide +kernel⟩, by decide⟩
theorem cw_Rf_lays : CW M_Rf_lays 1 := ⟨gc6 123 rfl rfl, gw 12 (by decide +kernel) (by decide +kernel), ⟨by decide +kernel, by decide +kernel, by decide +kernel⟩, by decide⟩
theorem cw_Rf_beside : CW M_Rf_beside 3 := ⟨gc6 127 rfl rfl, gw 12 (by decide +kernel) (by decide +kernel), ⟨by decide +kernel, by decide +kernel, by decide +kernel⟩, by decide⟩
theorem cw_Rf_plan : CW M_Rf_plan 3 := ⟨gc6 132 rfl rfl, gw 12 (by decide +kernel) (by decide +kernel), ⟨by decide +kernel, by decide +kernel, by decide +kernel⟩, by decide⟩
theorem cw_Rf_isPlan : CW M_Rf_isPlan 3 := ⟨gc6 136 rfl rfl, gw 12 (by decide +kernel) (by decide +kernel), ⟨by decide +kernel, by decide +kernel, by decide +kernel⟩, by decide⟩
theorem cw_Rf_many : CW M_Rf_many 1 := ⟨gc6 140 rfl rfl, gw 12 (by decide +kernel) (by decide +kernel), ⟨by decide +kernel, by decide +kernel, by decide +kernel⟩, by decide⟩
theorem cw_Rf_planned : CW M_Rf_planned 0 := ⟨gc6 145 rfl rfl, gw 12 (by decide +kernel) (by decide +kernel), ⟨by decide +kernel, by decide +kernel, by decide +kernel⟩, by decide⟩
theorem cw_Rf_gain : CW M_Rf_gain 3 := ⟨gc6 149 rfl rfl, gw 12 (by decide +kernel) (by decide +kernel), ⟨by decide +kernel, by decide +kernel, by decide +kernel⟩, by decide⟩
theorem cw_Rf_fights : CW M_Rf_fights 1 := ⟨gc6 153 rfl rfl, gw 12 (by decide +kernel) (by decide +kernel), ⟨by decide +kernel, by decide +kernel, by decide +kernel⟩, by decide⟩
theorem cw_Rf_part : CW M_Rf_part 4 := ⟨gc6 157 rfl rfl, gw 12 (by decide +kernel) (by decide +kernel), ⟨by decide +kernel, by decide +kernel, by decide +kernel⟩, by decide⟩
theorem cw_Rf_isQuiet : CW M_Rf_isQuiet 3 := ⟨gc6 161 rfl rfl, gw 12 (by decide +kernel) (by decide +kernel), ⟨by decide +kernel, by decide +kernel, by decide +kernel⟩, by decide⟩
theorem cw_Rf_round : CW M_Rf_round 2 := ⟨gc6 165 rfl rfl, gw 12 (by decide +kernel) (by decide +kernel), ⟨by decide +kernel, by decide +kernel, by decide +kernel⟩, by decide⟩
theorem cw_Rf_stops : CW M_Rf_stops 1 := ⟨gc6 169 rfl rfl, gw 12 (by decide +kernel) (by decide +kernel), ⟨by decide +kernel, by decide +kernel, by decide +kernel⟩, by decide⟩
theorem cw_Rf_isMember : CW M_Rf_isMember 1 := ⟨gc6 173 rfl rfl, gw 12 (by decide +kernel) (by decide +kernel), ⟨by decide +kernel, by decide +kernel, by decide +kernel⟩, by decide⟩
theorem cw_Rf_turns : CW M_Rf_turns 0 := ⟨gc6 177 rfl rfl, gw 12 (by decide +kernel) (by decide +kernel), ⟨by decide +kernel, by decide +kernel, by decide +kernel⟩, by decide⟩
theorem cw_Rf_saved : CW M_Rf_saved 2 := ⟨gc6 181 rfl rfl, gw 12 (by decide +kernel) (by decide +kernel), ⟨by decide +kernel, by decide +kernel, by decide +kernel⟩, by decide⟩
theorem cw_Rf_book : CW M_Rf_book 3 := ⟨gc6 185 rfl rfl, gw 12 (by decide +kernel) (by decide +kernel), ⟨by decide +kernel, by decide +kernel, by decide +kernel⟩, by decide⟩
theorem cw_Rf_mend : CW M_Rf_mend 2 := ⟨gc6 189 rfl rfl, gw 12 (by decide +kernel) (by decide +kernel), ⟨by decide +kernel, by decide +kernel, by decide +kernel⟩, by decide⟩
theorem cw_Rf_told : CW M_Rf_told 3 := ⟨gc6 193 rfl rfl, gw 12 (by decide +kernel) (by decide +kernel), ⟨by decide +kernel, by decide +kernel, by decide +kernel⟩, by decide⟩
theorem cw_Rf_image : CW M_Rf_image 0 := ⟨gc6 197 rfl rfl, gw 12 (by decide +kernel) (by decide +kernel), ⟨by decide +kernel, by decide +kernel, by decide +kernel⟩, by decide⟩
theorem cw_Rf_back : CW M_Rf_back 0 := ⟨gc6 201 rfl rfl, gw 12 (by decide +kernel) (by decide +kernel), ⟨by decide +kernel, by decide +kernel, by decide +kernel⟩, by decide⟩
theorem cw_Rf_sheet : CW M_Rf_sheet 3 := ⟨gc6 205 rfl rfl, gw 12 (by decide +kernel) (by decide +kernel), ⟨by decide +kernel, by decide +kernel, by decide +kernel⟩, by decide⟩
theorem cw_Rf_cell : CW M_Rf_cell 3 := ⟨gc6 209 rfl rfl, gw 12 (by decide +kernel) (by decide +kernel), ⟨by decide +kernel, by decide +kernel, by decide +kernel⟩, by decide⟩
theorem cw_Rf_copy : CW M_Rf_copy 5 := ⟨gc6 213 rfl rfl, gw 12 (by decide +kernel) (by decide +kernel), ⟨by decide +kernel, by decide +kernel, by decide +kernel⟩, by decide⟩
theorem cw_Rf_buses : CW M_Rf_buses 4 := ⟨gc6 217 rfl rfl, gw 12 (by decide +kernel) (by decide +kernel), ⟨by decide +kernel, by decide +kernel, by decide +kernel⟩, by decide⟩
theorem cw_Rf_taken : CW M_Rf_taken 2 := ⟨gc6 222 rfl rfl, gw 12 (by decide +kernel) (by decide +kernel), ⟨by decide +kernel, by decide +kernel, by decide +kernel⟩, by decide⟩
theorem cw_Rf_isUnder : CW M_Rf_isUnder 2 := ⟨gc6 225 rfl rfl, gw 12 (by decide +kernel) (by decide +kernel), ⟨by decide +kernel, by decide +kernel, by decide +kernel⟩, by decide⟩
theorem ko_FG_1 : Cond.methodLink RX11 1 objectInit ∈ lw_good := gw 26 (by decide +kernel) (by decide +kernel)
theorem lk_FG_9 : LI RX11 9 M_Tn_init 0 := ⟨cw_Tn_init, gw 31 (by decide +kernel) (by decide +kernel), gw 32 (by decide +kernel) (by decide +kernel), rfl, rfl⟩
theorem lk_FG_18 : LI RX11 18 M_Wd_init 0 := ⟨cw_Wd_init, gw 137 (by decide +kernel) (by decide +kernel), gw 138 (by decide +kernel) (by decide +kernel), rfl, rfl⟩
theorem lk_FG_57 : LkS RX11 57 M_FG_isStage 1 := ⟨cw_FG_isStage, gw 351 (by decide +kernel) (by decide +kernel), gw 352 (by decide +kernel) (by decide +kernel)⟩
theorem lk_FG_61 : LkS RX11 61 M_FG_within 3 := ⟨cw_FG_within, gw 354 (by decide +kernel) (by decide +kernel), gw 355 (by decide +kernel) (by decide +kernel)⟩
theorem lk_FG_78 : LV RX11 78 M_Tn_enrol 4 := ⟨cw_Tn_enrol, gw 373 (by decide +kernel) (by decide +kernel), gw 374 (by decide +kernel) (by decide +kernel), gw 375 (by decide +kernel) (by decide +kernel)⟩
theorem lk_FG_82 : LV RX11 82 M_FG_isBus 1 := ⟨cw_FG_isBus, gw 382 (by decide +kernel) (by decide +kernel), gw 384 (by decide +kernel) (by decide +kernel), gws 0 (by decide +kernel) (by decide +kernel)⟩
theorem lk_FG_94 : LV RX11 94 M_Wd_lineUp 2 := ⟨cw_Wd_lineUp, gw 386 (by decide +kernel) (by decide +kernel), gw 387 (by decide +kernel) (by decide +kernel), gw 388 (by decide +kernel) (by decide +kernel)⟩
theorem lk_FG_101 : LV RX11 101 M_Wd_firstInLine 1 := ⟨cw_Wd_firstInLine, gw 398 (by decide +kernel) (by decide +kernel), gw 399 (by decide +kernel) (by decide +kernel), gw 400 (by decide +kernel) (by decide +kernel)⟩
theorem lk_FG_120 : LkS RX11 120 M_FG_isKind 1 := ⟨cw_FG_isKind, gw 414 (by decide +kernel) (by decide +kernel), gw 415 (by decide +kernel) (by decide +kernel)⟩
theorem lk_FG_129 : LV RX11 129 M_Tp_append 2 := ⟨cw_Tp_append, gw 421 (by decide +kernel) (by decide +kernel), gw 422 (by decide +kernel) (by decide +kernel), gw 423 (by decide +kernel) (by decide +kernel)⟩
theorem lk_FG_136 : LV RX11 136 M_Tp_parse 0 := ⟨cw_Tp_parse, gw 429 (by decide +kernel) (by decide +kernel), gw 430 (by decide +kernel) (by decide +kernel), gw 431 (by decide +kernel) (by decide +kernel)⟩
theorem lk_FG_147 : LV RX11 147 M_Tn_adopt 2 := ⟨cw_Tn_adopt, gw 536 (by decide +kernel) (by decide +kernel), gw 537 (by decide +kernel) (by decide +kernel), gw 538 (by decide +kernel) (by decide +kernel)⟩
theorem lk_FG_157 : LV RX11 157 M_Tn_factsOf 2 := ⟨cw_Tn_factsOf, gw 548 (by decide +kernel) (by decide +kernel), gw 549 (by decide +kernel) (by decide +kernel), gw 550 (by decide +kernel) (by decide +kernel)⟩
theorem lk_FG_161 : LV RX11 161 M_Tn_says 2 := ⟨cw_Tn_says, gw 560 (by decide +kernel) (by decide +kernel), gw 561 (by decide +kernel) (by decide +kernel), gw 562 (by decide +kernel) (by decide +kernel)⟩
theorem lk_FG_165 : LV RX11 165 M_Tn_linePlace 2 := ⟨cw_Tn_linePlace, gw 578 (by decide +kernel) (by decide +kernel), gw 565 (by decide +kernel) (by decide +kernel), gw 566 (by decide +kernel) (by decide +kernel)⟩
theorem lk_FG_168 : LV RX11 168 M_Tn_pass 1 := ⟨cw_Tn_pass, gw 583 (by decide +kernel) (by decide +kernel), gw 584 (by decide +kernel) (by decide +kernel), gw 585 (by decide +kernel) (by decide +kernel)⟩
theorem lk_FG_196 : LV RX11 196 M_Wd_inLine 1 := ⟨cw_Wd_inLine, gw 752 (by decide +kernel) (by decide +kernel), gw 557 (by decide +kernel) (by decide +kernel), gw 558 (by decide +kernel) (by decide +kernel)⟩
theorem lk_FG_199 : LV RX11 199 M_Wd_loadingAt 1 := ⟨cw_Wd_loadingAt, gw 753 (by decide +kernel) (by decide +kernel), gw 596 (by decide +kernel) (by decide +kernel), gw 597 (by decide +kernel) (by decide +kernel)⟩
theorem lk_FG_202 : LV RX11 202 M_Tn_mostWanted 2 := ⟨cw_Tn_mostWanted, gw 754 (by decide +kernel) (by decide +kernel), gw 605 (by decide +kernel) (by decide +kernel), gw 606 (by decide +kernel) (by decide +kernel)⟩
theorem lk_FG_210 : LV RX11 210 M_Rn_needOf 1 := ⟨cw_Rn_needOf, gw 759 (by decide +kernel) (by decide +kernel), gw 630 (by decide +kernel) (by decide +kernel), gw 631 (by decide +kernel) (by decide +kernel)⟩
theorem lk_FG_215 : LV RX11 215 M_Rn_fareOf 1 := ⟨cw_Rn_fareOf, gw 760 (by decide +kernel) (by decide +kernel), gw 667 (by decide +kernel) (by decide +kernel), gw 668 (by decide +kernel) (by decide +kernel)⟩
theorem lk_FG_218 : LV RX11 218 M_Rn_minutesOf 1 := ⟨cw_Rn_minutesOf, gw 761 (by decide +kernel) (by decide +kernel), gw 688 (by decide +kernel) (by decide +kernel), gw 689 (by decide +kernel) (by decide +kernel)⟩
theorem lk_FG_221 : LV RX11 221 M_Rn_fuelOf 1 := ⟨cw_Rn_fuelOf, gw 762 (by decide +kernel) (by decide +kernel), gw 702 (by decide +kernel) (by decide +kernel), gw 703 (by decide +kernel) (by decide +kernel)⟩
theorem lk_FG_242 : LV RX11 242 M_Wd_hour 0 := ⟨cw_Wd_hour, gw 771 (by decide +kernel) (by decide +kernel), gw 553 (by decide +kernel) (by decide +kernel), gw 554 (by decide +kernel) (by decide +kernel)⟩
theorem lk_FG_246 : LV RX11 246 M_Tn_leastTrip 3 := ⟨cw_Tn_leastTrip, gw 772 (by decide +kernel) (by decide +kernel), gw 773 (by decide +kernel) (by decide +kernel), gw 774 (by decide +kernel) (by decide +kernel)⟩
theorem lk_FG_250 : LV RX11 250 M_Wd_become 1 := ⟨cw_Wd_become, gw 781 (by decide +kernel) (by decide +kernel), gw 782 (by decide +kernel) (by decide +kernel), gw 783 (by decide +kernel) (by decide +kernel)⟩
theorem lk_FG_255 : LkS RX11 255 M_FG_isSheet 1 := ⟨cw_FG_isSheet, gw 801 (by decide +kernel) (by decide +kernel), gw 802 (by decide +kernel) (by decide +kernel)⟩
theorem lk_FG_258 : LV RX11 258 M_FG_tellsPlaces 1 := ⟨cw_FG_tellsPlaces, gw 804 (by decide +kernel) (by decide +kernel), gw 806 (by decide +kernel) (by decide +kernel), gws 14 (by decide +kernel) (by decide +kernel)⟩
theorem lk_FG_263 : LkS RX11 263 M_JI_bitCount 1 := ⟨cw_JI_bitCount, gw 809 (by decide +kernel) (by decide +kernel), gw 810 (by decide +kernel) (by decide +kernel)⟩
theorem lk_FG_268 : LV RX11 268 M_FG_waitedWith 3 := ⟨cw_FG_waitedWith, gw 815 (by decide +kernel) (by decide +kernel), gw 817 (by decide +kernel) (by decide +kernel), gws 15 (by decide +kernel) (by decide +kernel)⟩
theorem lk_FG_278 : LV RX11 278 M_FG_quietGain 4 := ⟨cw_FG_quietGain, gw 835 (by decide +kernel) (by decide +kernel), gw 837 (by decide +kernel) (by decide +kernel), gws 16 (by decide +kernel) (by decide +kernel)⟩
theorem lk_FG_281 : LkS RX11 281 M_FG_sideIn 3 := ⟨cw_FG_sideIn, gw 839 (by decide +kernel) (by decide +kernel), gw 840 (by decide +kernel) (by decide +kernel)⟩
theorem lk_FG_287 : LV RX11 287 M_FG_isMember 1 := ⟨cw_FG_isMember, gw 854 (by decide +kernel) (by decide +kernel), gw 856 (by decide +kernel) (by decide +kernel), gws 18 (by decide +kernel) (by decide +kernel)⟩
theorem lk_FG_290 : LV RX11 290 M_FG_taker 0 := ⟨cw_FG_taker, gw 862 (by decide +kernel) (by decide +kernel), gw 864 (by decide +kernel) (by decide +kernel), gws 19 (by decide +kernel) (by decide +kernel)⟩
theorem lk_FG_297 : LkS RX11 297 M_FG_sumKnown 2 := ⟨cw_FG_sumKnown, gw 883 (by decide +kernel) (by decide +kernel), gw 884 (by decide +kernel) (by decide +kernel)⟩
theorem lk_FG_304 : LV RX11 304 M_FG_holdsAll 3 := ⟨cw_FG_holdsAll, gw 906 (by decide +kernel) (by decide +kernel), gw 908 (by decide +kernel) (by decide +kernel), gws 20 (by decide +kernel) (by decide +kernel)⟩
theorem lk_FG_313 : LV RX11 313 M_Rn_isOf 1 := ⟨cw_Rn_isOf, gw 919 (by decide +kernel) (by decide +kernel), gw 920 (by decide +kernel) (by decide +kernel), gw 921 (by decide +kernel) (by decide +kernel)⟩
theorem lk_FG_316 : LV RX11 316 M_FG_isQuiet 3 := ⟨cw_FG_isQuiet, gw 842 (by decide +kernel) (by decide +kernel), gw 844 (by decide +kernel) (by decide +kernel), gws 17 (by decide +kernel) (by decide +kernel)⟩
theorem lk_Ea_9 : LV RX0 9 M_Rn_needOf 1 := ⟨cw_Rn_needOf, gw 636 (by decide +kernel) (by decide +kernel), gw 630 (by decide +kernel) (by decide +kernel), gw 631 (by decide +kernel) (by decide +kernel)⟩
theorem lk_Ea_13 : LV RX0 13 M_Rn_isOf 1 := ⟨cw_Rn_isOf, gw 926 (by decide +kernel) (by decide +kernel), gw 920 (by decide +kernel) (by decide +kernel), gw 921 (by decide +kernel) (by decide +kernel)⟩
theorem lk_Em_9 : LV RX1 9 M_Rn_isOf 1 := ⟨cw_Rn_isOf, gw 930 (by decide +kernel) (by decide +kernel), gw 920 (by decide +kernel) (by decide +kernel), gw 921 (by decide +kernel) (by decide +kernel)⟩
theorem lk_Hi_9 : LV RX3 9 M_Hi_fareOf 1 := ⟨cw_Hi_fareOf, gw 660 (by decide +kernel) (by decide +kernel), gw 661 (by decide +kernel) (by decide +kernel), gw 662 (by decide +kernel) (by decide +kernel)⟩
theorem ko_Ln_3 : Cond.methodLink RX4 3 objectInit ∈ lw_good := gw 505 (by decide +kernel) (by decide +kernel)
theorem ko_Rd_1 : Cond.methodLink RX5 1 objectInit ∈ lw_good := gw 147 (by decide +kernel) (by decide +kernel)
theorem ko_Rn_3 : Cond.methodLink RX6 3 objectInit ∈ lw_good := gw 43 (by decide +kernel) (by decide +kernel)
theorem lk_Rn_9 : LkS RX6 9 M_JM_min 2 := ⟨cw_JM_min, gw 644 (by decide +kernel) (by decide +kernel), gw 625 (by decide +kernel) (by decide +kernel)⟩
theorem lk_Rn_15 : LkS RX6 15 M_JM_max 2 := ⟨cw_JM_max, gw 645 (by decide +kernel) (by decide +kernel), gw 495 (by decide +kernel) (by decide +kernel)⟩
theorem lk_Rn_18 : LV RX6 18 M_Rn_fareOf 1 := ⟨cw_Rn_fareOf, gw 666 (by decide +kernel) (by decide +kernel), gw 667 (by decide +kernel) (by decide +kernel), gw 668 (by decide +kernel) (by decide +kernel)⟩
theorem lk_Sh_9 : LV RX7 9 M_Rn_isOf 1 := ⟨cw_Rn_isOf, gw 942 (by decide +kernel) (by decide +kernel), gw 920 (by decide +kernel) (by decide +kernel), gw 921 (by decide +kernel) (by decide +kernel)⟩
theorem ko_Tp_3 : Cond.methodLink RX8 3 objectInit ∈ lw_good := gw 267 (by decide +kernel) (by decide +kernel)
theorem lk_Tp_28 : LV RX8 28 M_Tp_parseLine 0 := ⟨cw_Tp_parseLine, gw 433 (by decide +kernel) (by decide +kernel), gw 435 (by decide +kernel) (by decide +kernel), gws 1 (by decide +kernel) (by decide +kernel)⟩
theorem lk_Tp_35 : LV RX8 35 M_Tp_byteAt 1 := ⟨cw_Tp_byteAt, gw 490 (by decide +kernel) (by decide +kernel), gw 492 (by decide +kernel) (by decide +kernel), gws 3 (by decide +kernel) (by decide +kernel)⟩
theorem lk_Tp_41 : LV RX8 41 M_Tp_parseWord 1 := ⟨cw_Tp_parseWord, gw 438 (by decide +kernel) (by decide +kernel), gw 440 (by decide +kernel) (by decide +kernel), gws 2 (by decide +kernel) (by decide +kernel)⟩
theorem lk_Tp_45 : LV RX8 45 M_Tp_parseNumber 0 := ⟨cw_Tp_parseNumber, gw 497 (by decide +kernel) (by decide +kernel), gw 499 (by decide +kernel) (by decide +kernel), gws 4 (by decide +kernel) (by decide +kernel)⟩
theorem lk_Tp_49 : LI RX8 49 M_Ln_init 2 := ⟨cw_Ln_init, gw 502 (by decide +kernel) (by decide +kernel), gw 503 (by decide +kernel) (by decide +kernel), rfl, rfl⟩
theorem lk_Tp_52 : LV RX8 52 M_Tp_parseTest 2 := ⟨cw_Tp_parseTest, gw 531 (by decide +kernel) (by decide +kernel), gw 533 (by decide +kernel) (by decide +kernel), gws 5 (by decide +kernel) (by decide +kernel)⟩
theorem lk_Tp_71 : LV RX8 71 M_JS_length 0 := ⟨cw_JS_length, gw 442 (by decide +kernel) (by decide +kernel), gw 443 (by decide +kernel) (by decide +kernel), gw 444 (by decide +kernel) (by decide +kernel)⟩
theorem lk_Tp_75 : LV RX8 75 M_JS_charAt 1 := ⟨cw_JS_charAt, gw 452 (by decide +kernel) (by decide +kernel), gw 453 (by decide +kernel) (by decide +kernel), gw 454 (by decide +kernel) (by decide +kernel)⟩
theorem lk_Tp_79 : LkS RX8 79 M_JM_max 2 := ⟨cw_JM_max, gw 494 (by decide +kernel) (by decide +kernel), gw 495 (by decide +kernel) (by decide +kernel)⟩
theorem ko_Tn_3 : Cond.methodLink RX9 3 objectInit ∈ lw_good := gw 34 (by decide +kernel) (by decide +kernel)
theorem lk_Tn_84 : LkS RX9 84 M_JM_max 2 := ⟨cw_JM_max, gw 686 (by decide +kernel) (by decide +kernel), gw 495 (by decide +kernel) (by decide +kernel)⟩
theorem lk_Tn_91 : LV RX9 91 M_Tn_wayOf 3 := ⟨cw_Tn_wayOf, gw 682 (by decide +kernel) (by decide +kernel), gw 683 (by decide +kernel) (by decide +kernel), gw 684 (by decide +kernel) (by decide +kernel)⟩
theorem lk_Tn_95 : LkS RX9 95 M_JM_min 2 := ⟨cw_JM_min, gw 624 (by decide +kernel) (by decide +kernel), gw 625 (by decide +kernel) (by decide +kernel)⟩
theorem lk_Tn_98 : LV RX9 98 M_Tn_linePlace 2 := ⟨cw_Tn_linePlace, gw 564 (by decide +kernel) (by decide +kernel), gw 565 (by decide +kernel) (by decide +kernel), gw 566 (by decide +kernel) (by decide +kernel)⟩
theorem lk_Tn_111 : LV RX9 111 M_Ln_holds 1 := ⟨cw_Ln_holds, gw 568 (by decide +kernel) (by decide +kernel), gw 569 (by decide +kernel) (by decide +kernel), gw 570 (by decide +kernel) (by decide +kernel)⟩
theorem lk_Tn_135 : LV RX9 135 M_Wd_hour 0 := ⟨cw_Wd_hour, gw 552 (by decide +kernel) (by decide +kernel), gw 553 (by decide +kernel) (by decide +kernel), gw 554 (by decide +kernel) (by decide +kernel)⟩
theorem lk_Tn_142 : LV RX9 142 M_Wd_inLine 1 := ⟨cw_Wd_inLine, gw 556 (by decide +kernel) (by decide +kernel), gw 557 (by decide +kernel) (by decide +kernel), gw 558 (by decide +kernel) (by decide +kernel)⟩
theorem lk_Tn_152 : LV RX9 152 M_Tn_comeAndWalk 1 := ⟨cw_Tn_comeAndWalk, gw 587 (by decide +kernel) (by decide +kernel), gw 589 (by decide +kernel) (by decide +kernel), gws 6 (by decide +kernel) (by decide +kernel)⟩
theorem lk_Tn_156 : LV RX9 156 M_Tn_serve 2 := ⟨cw_Tn_serve, gw 591 (by decide +kernel) (by decide +kernel), gw 593 (by decide +kernel) (by decide +kernel), gws 7 (by decide +kernel) (by decide +kernel)⟩
theorem lk_Tn_160 : LV RX9 160 M_Tn_move 2 := ⟨cw_Tn_move, gw 713 (by decide +kernel) (by decide +kernel), gw 715 (by decide +kernel) (by decide +kernel), gws 11 (by decide +kernel) (by decide +kernel)⟩
theorem lk_Tn_166 : LV RX9 166 M_Tn_settle 2 := ⟨cw_Tn_settle, gw 734 (by decide +kernel) (by decide +kernel), gw 736 (by decide +kernel) (by decide +kernel), gws 13 (by decide +kernel) (by decide +kernel)⟩
theorem lk_Tn_175 : LV RX9 175 M_Wd_loadingAt 1 := ⟨cw_Wd_loadingAt, gw 595 (by decide +kernel) (by decide +kernel), gw 596 (by decide +kernel) (by decide +kernel), gw 597 (by decide +kernel) (by decide +kernel)⟩
theorem lk_Tn_178 : LV RX9 178 M_Tn_callUp 2 := ⟨cw_Tn_callUp, gw 599 (by decide +kernel) (by decide +kernel), gw 601 (by decide +kernel) (by decide +kernel), gws 8 (by decide +kernel) (by decide +kernel)⟩
theorem lk_Tn_185 : LV RX9 185 M_Rn_carries 0 := ⟨cw_Rn_carries, gw 608 (by decide +kernel) (by decide +kernel), gw 609 (by decide +kernel) (by decide +kernel), gw 610 (by decide +kernel) (by decide +kernel)⟩
theorem lk_Tn_189 : LV RX9 189 M_Tn_letIn 2 := ⟨cw_Tn_letIn, gw 620 (by decide +kernel) (by decide +kernel), gw 622 (by decide +kernel) (by decide +kernel), gws 9 (by decide +kernel) (by decide +kernel)⟩
theorem lk_Tn_192 : LV RX9 192 M_Tn_factsOf 2 := ⟨cw_Tn_factsOf, gw 627 (by decide +kernel) (by decide +kernel), gw 549 (by decide +kernel) (by decide +kernel), gw 550 (by decide +kernel) (by decide +kernel)⟩
theorem lk_Tn_196 : LV RX9 196 M_Tn_says 2 := ⟨cw_Tn_says, gw 628 (by decide +kernel) (by decide +kernel), gw 561 (by decide +kernel) (by decide +kernel), gw 562 (by decide +kernel) (by decide +kernel)⟩
theorem lk_Tn_199 : LV RX9 199 M_Rn_needOf 1 := ⟨cw_Rn_needOf, gw 629 (by decide +kernel) (by decide +kernel), gw 630 (by decide +kernel) (by decide +kernel), gw 631 (by decide +kernel) (by decide +kernel)⟩
theorem lk_Tn_202 : LV RX9 202 M_Tn_leave 3 := ⟨cw_Tn_leave, gw 646 (by decide +kernel) (by decide +kernel), gw 648 (by decide +kernel) (by decide +kernel), gws 10 (by decide +kernel) (by decide +kernel)⟩
theorem lk_Tn_206 : LV RX9 206 M_Wd_firstInLine 1 := ⟨cw_Wd_firstInLine, gw 603 (by decide +kernel) (by decide +kernel), gw 399 (by decide +kernel) (by decide +kernel), gw 400 (by decide +kernel) (by decide +kernel)⟩
theorem lk_Tn_209 : LV RX9 209 M_Tn_mostWanted 2 := ⟨cw_Tn_mostWanted, gw 604 (by decide +kernel) (by decide +kernel), gw 605 (by decide +kernel) (by decide +kernel), gw 606 (by decide +kernel) (by decide +kernel)⟩
theorem lk_Tn_218 : LV RX9 218 M_Rn_takings 2 := ⟨cw_Rn_takings, gw 650 (by decide +kernel) (by decide +kernel), gw 651 (by decide +kernel) (by decide +kernel), gw 652 (by decide +kernel) (by decide +kernel)⟩
theorem lk_Tn_221 : LV RX9 221 M_Rn_minutesOf 1 := ⟨cw_Rn_minutesOf, gw 687 (by decide +kernel) (by decide +kernel), gw 688 (by decide +kernel) (by decide +kernel), gw 689 (by decide +kernel) (by decide +kernel)⟩
theorem lk_Tn_230 : LV RX9 230 M_Rn_fuelOf 1 := ⟨cw_Rn_fuelOf, gw 701 (by decide +kernel) (by decide +kernel), gw 702 (by decide +kernel) (by decide +kernel), gw 703 (by decide +kernel) (by decide +kernel)⟩
theorem lk_Tn_236 : LV RX9 236 M_Tn_arrive 2 := ⟨cw_Tn_arrive, gw 717 (by decide +kernel) (by decide +kernel), gw 719 (by decide +kernel) (by decide +kernel), gws 12 (by decide +kernel) (by decide +kernel)⟩
theorem lk_Tn_239 : LV RX9 239 M_Rn_turnsBack 0 := ⟨cw_Rn_turnsBack, gw 721 (by decide +kernel) (by decide +kernel), gw 722 (by decide +kernel) (by decide +kernel), gw 723 (by decide +kernel) (by decide +kernel)⟩
theorem lk_Tn_245 : LV RX9 245 M_Wd_lineUp 2 := ⟨cw_Wd_lineUp, gw 733 (by decide +kernel) (by decide +kernel), gw 387 (by decide +kernel) (by decide +kernel), gw 388 (by decide +kernel) (by decide +kernel)⟩
theorem ko_Wd_3 : Cond.methodLink RX10 3 objectInit ∈ lw_good := gw 140 (by decide +kernel) (by decide +kernel)
theorem lk_Wd_50 : LV RX10 50 M_Rd_follow 1 := ⟨cw_Rd_follow, gw 788 (by decide +kernel) (by decide +kernel), gw 789 (by decide +kernel) (by decide +kernel), gw 790 (by decide +kernel) (by decide +kernel)⟩
theorem lk_Wd_72 : LV RX10 72 M_Rd_isIn 2 := ⟨cw_Rd_isIn, gw 402 (by decide +kernel) (by decide +kernel), gw 403 (by decide +kernel) (by decide +kernel), gw 404 (by decide +kernel) (by decide +kernel)⟩
theorem lk_Lw_9 : LI "FillAndGoLaw" 9 M_FG_init 0 := ⟨cw_FG_init, gw 23 (by decide +kernel) (by decide +kernel), gw 24 (by decide +kernel) (by decide +kernel), rfl, rfl⟩
theorem lk_Lw_12 : LI "FillAndGoLaw" 12 M_Rf_init 0 := ⟨cw_Rf_init, gw 946 (by decide +kernel) (by decide +kernel), gw 947 (by decide +kernel) (by decide +kernel), rfl, rfl⟩
theorem lk_Lw_13 : LV "FillAndGoLaw" 13 M_FG_road 3 := ⟨cw_FG_road, gw 347 (by decide +kernel) (by decide +kernel), gw 348 (by decide +kernel) (by decide +kernel), gw 349 (by decide +kernel) (by decide +kernel)⟩
theorem lk_Lw_17 : LV "FillAndGoLaw" 17 M_Rf_road 3 := ⟨cw_Rf_road, gw 1114 (by decide +kernel) (by decide +kernel), gw 1115 (by decide +kernel) (by decide +kernel), gw 1116 (by decide +kernel) (by decide +kernel)⟩
theorem lk_Lw_18 : LV "FillAndGoLaw" 18 M_FG_jam 2 := ⟨cw_FG_jam, gw 357 (by decide +kernel) (by decide +kernel), gw 358 (by decide +kernel) (by decide +kernel), gw 359 (by decide +kernel) (by decide +kernel)⟩
theorem lk_Lw_22 : LV "FillAndGoLaw" 22 M_Rf_jam 2 := ⟨cw_Rf_jam, gw 1124 (by decide +kernel) (by decide +kernel), gw 1125 (by decide +kernel) (by decide +kernel), gw 1126 (by decide +kernel) (by decide +kernel)⟩
theorem lk_Lw_23 : LV "FillAndGoLaw" 23 M_FG_people 3 := ⟨cw_FG_people, gw 361 (by decide +kernel) (by decide +kernel), gw 362 (by decide +kernel) (by decide +kernel), gw 363 (by decide +kernel) (by decide +kernel)⟩
theorem lk_Lw_26 : LV "FillAndGoLaw" 26 M_Rf_people 3 := ⟨cw_Rf_people, gw 1128 (by decide +kernel) (by decide +kernel), gw 1129 (by decide +kernel) (by decide +kernel), gw 1130 (by decide +kernel) (by decide +kernel)⟩
theorem lk_Lw_27 : LV "FillAndGoLaw" 27 M_FG_rain 1 := ⟨cw_FG_rain, gw 365 (by decide +kernel) (by decide +kernel), gw 366 (by decide +kernel) (by decide +kernel), gw 367 (by decide +kernel) (by decide +kernel)⟩
theorem lk_Lw_31 : LV "FillAndGoLaw" 31 M_Rf_rain 1 := ⟨cw_Rf_rain, gw 1132 (by decide +kernel) (by decide +kernel), gw 1133 (by decide +kernel) (by decide +kernel), gw 1134 (by decide +kernel) (by decide +kernel)⟩
theorem lk_Lw_32 : LV "FillAndGoLaw" 32 M_FG_bus 4 := ⟨cw_FG_bus, gw 369 (by decide +kernel) (by decide +kernel), gw 370 (by decide +kernel) (by decide +kernel), gw 371 (by decide +kernel) (by decide +kernel)⟩
theorem lk_Lw_36 : LV "FillAndGoLaw" 36 M_Rf_bus 4 := ⟨cw_Rf_bus, gw 1136 (by decide +kernel) (by decide +kernel), gw 1137 (by decide +kernel) (by decide +kernel), gw 1138 (by decide +kernel) (by decide +kernel)⟩
theorem lk_Lw_37 : LV "FillAndGoLaw" 37 M_FG_queue 2 := ⟨cw_FG_queue, gw 378 (by decide +kernel) (by decide +kernel), gw 379 (by decide +kernel) (by decide +kernel), gw 380 (by decide +kernel) (by decide +kernel)⟩
theorem lk_Lw_40 : LV "FillAndGoLaw" 40 M_Rf_queue 2 := ⟨cw_Rf_queue, gw 1140 (by decide +kernel) (by decide +kernel), gw 1141 (by decide +kernel) (by decide +kernel), gw 1142 (by decide +kernel) (by decide +kernel)⟩
theorem lk_Lw_41 : LV "FillAndGoLaw" 41 M_FG_rest 1 := ⟨cw_FG_rest, gw 390 (by decide +kernel) (by decide +kernel), gw 391 (by decide +kernel) (by decide +kernel), gw 392 (by decide +kernel) (by decide +kernel)⟩
theorem lk_Lw_44 : LV "FillAndGoLaw" 44 M_Rf_rest 1 := ⟨cw_Rf_rest, gw 1152 (by decide +kernel) (by decide +kernel), gw 1153 (by decide +kernel) (by decide +kernel), gw 1154 (by decide +kernel) (by decide +kernel)⟩
theorem lk_Lw_45 : LV "FillAndGoLaw" 45 M_FG_jump 2 := ⟨cw_FG_jump, gw 394 (by decide +kernel) (by decide +kernel), gw 395 (by decide +kernel) (by decide +kernel), gw 396 (by decide +kernel) (by decide +kernel)⟩
theorem lk_Lw_48 : LV "FillAndGoLaw" 48 M_Rf_jump 2 := ⟨cw_Rf_jump, gw 1156 (by decide +kernel) (by decide +kernel), gw 1157 (by decide +kernel) (by decide +kernel), gw 1158 (by decide +kernel) (by decide +kernel)⟩
theorem lk_Lw_49 : LV "FillAndGoLaw" 49 M_FG_hold 2 := ⟨cw_FG_hold, gw 406 (by decide +kernel) (by decide +kernel), gw 407 (by decide +kernel) (by decide +kernel), gw 408 (by decide +kernel) (by decide +kernel)⟩
theorem lk_Lw_52 : LV "FillAndGoLaw" 52 M_Rf_hold 2 := ⟨cw_Rf_hold, gw 1164 (by decide +kernel) (by decide +kernel), gw 1165 (by decide +kernel) (by decide +kernel), gw 1166 (by decide +kernel) (by decide +kernel)⟩
theorem lk_Lw_53 : LV "FillAndGoLaw" 53 M_FG_wants 2 := ⟨cw_FG_wants, gw 410 (by decide +kernel) (by decide +kernel), gw 411 (by decide +kernel) (by decide +kernel), gw 412 (by decide +kernel) (by decide +kernel)⟩
theorem lk_Lw_56 : LV "FillAndGoLaw" 56 M_Rf_wants 2 := ⟨cw_Rf_wants, gw 1168 (by decide +kernel) (by decide +kernel), gw 1169 (by decide +kernel) (by decide +kernel), gw 1170 (by decide +kernel) (by decide +kernel)⟩
theorem lk_Lw_59 : LV "FillAndGoLaw" 59 M_FG_feed 2 := ⟨cw_FG_feed, gw 417 (by decide +kernel) (by decide +kernel), gw 418 (by decide +kernel) (by decide +kernel), gw 419 (by decide +kernel) (by decide +kernel)⟩
theorem lk_Lw_63 : LV "FillAndGoLaw" 63 M_Rf_feed 2 := ⟨cw_Rf_feed, gw 1188 (by decide +kernel) (by decide +kernel), gw 1189 (by decide +kernel) (by decide +kernel), gw 1190 (by decide +kernel) (by decide +kernel)⟩
theorem lk_Lw_64 : LV "FillAndGoLaw" 64 M_FG_custom 0 := ⟨cw_FG_custom, gw 425 (by decide +kernel) (by decide +kernel), gw 426 (by decide +kernel) (by decide +kernel), gw 427 (by decide +kernel) (by decide +kernel)⟩
theorem lk_Lw_68 : LV "FillAndGoLaw" 68 M_Rf_custom 0 := ⟨cw_Rf_custom, gw 1193 (by decide +kernel) (by decide +kernel), gw 1194 (by decide +kernel) (by decide +kernel), gw 1195 (by decide +kernel) (by decide +kernel)⟩
theorem lk_Lw_69 : LV "FillAndGoLaw" 69 M_FG_force 2 := ⟨cw_FG_force, gw 540 (by decide +kernel) (by decide +kernel), gw 541 (by decide +kernel) (by decide +kernel), gw 542 (by decide +kernel) (by decide +kernel)⟩
theorem lk_Lw_72 : LV "FillAndGoLaw" 72 M_Rf_force 2 := ⟨cw_Rf_force, gw 1217 (by decide +kernel) (by decide +kernel), gw 1218 (by decide +kernel) (by decide +kernel), gw 1219 (by decide +kernel) (by decide +kernel)⟩
theorem lk_Lw_73 : LV "FillAndGoLaw" 73 M_FG_law 2 := ⟨cw_FG_law, gw 544 (by decide +kernel) (by decide +kernel), gw 545 (by decide +kernel) (by decide +kernel), gw 546 (by decide +kernel) (by decide +kernel)⟩
theorem lk_Lw_76 : LV "FillAndGoLaw" 76 M_Rf_law 2 := ⟨cw_Rf_law, gw 1221 (by decide +kernel) (by decide +kernel), gw 1222 (by decide +kernel) (by decide +kernel), gw 1223 (by decide +kernel) (by decide +kernel)⟩
theorem lk_Lw_77 : LV "FillAndGoLaw" 77 M_FG_why 2 := ⟨cw_FG_why, gw 574 (by decide +kernel) (by decide +kernel), gw 575 (by decide +kernel) (by decide +kernel), gw 576 (by decide +kernel) (by decide +kernel)⟩
theorem lk_Lw_80 : LV "FillAndGoLaw" 80 M_Rf_why 2 := ⟨cw_Rf_why, gw 1249 (by decide +kernel) (by decide +kernel), gw 1250 (by decide +kernel) (by decide +kernel), gw 1251 (by decide +kernel) (by decide +kernel)⟩
theorem lk_Lw_81 : LV "FillAndGoLaw" 81 M_FG_minutes 1 := ⟨cw_FG_minutes, gw 579 (by decide +kernel) (by decide +kernel), gw 580 (by decide +kernel) (by decide +kernel), gw 581 (by decide +kernel) (by decide +kernel)⟩
theorem lk_Lw_84 : LV "FillAndGoLaw" 84 M_Rf_minutes 1 := ⟨cw_Rf_minutes, gw 1253 (by decide +kernel) (by decide +kernel), gw 1254 (by decide +kernel) (by decide +kernel), gw 1255 (by decide +kernel) (by decide +kernel)⟩
theorem lk_Lw_85 : LV "FillAndGoLaw" 85 M_FG_busTold 2 := ⟨cw_FG_busTold, gw 739 (by decide +kernel) (by decide +kernel), gw 740 (by decide +kernel) (by decide +kernel), gw 741 (by decide +kernel) (by decide +kernel)⟩
theorem lk_Lw_88 : LV "FillAndGoLaw" 88 M_Rf_busTold 2 := ⟨cw_Rf_busTold, gw 1294 (by decide +kernel) (by decide +kernel), gw 1295 (by decide +kernel) (by decide +kernel), gw 1296 (by decide +kernel) (by decide +kernel)⟩
theorem lk_Lw_89 : LV "FillAndGoLaw" 89 M_FG_waiting 2 := ⟨cw_FG_waiting, gw 744 (by decide +kernel) (by decide +kernel), gw 745 (by decide +kernel) (by decide +kernel), gw 746 (by decide +kernel) (by decide +kernel)⟩
theorem lk_Lw_92 : LV "FillAndGoLaw" 92 M_Rf_waiting 2 := ⟨cw_Rf_waiting, gw 1299 (by decide +kernel) (by decide +kernel), gw 1300 (by decide +kernel) (by decide +kernel), gw 1301 (by decide +kernel) (by decide +kernel)⟩
theorem lk_Lw_93 : LV "FillAndGoLaw" 93 M_FG_stageTold 2 := ⟨cw_FG_stageTold, gw 748 (by decide +kernel) (by decide +kernel), gw 749 (by decide +kernel) (by decide +kernel), gw 750 (by decide +kernel) (by decide +kernel)⟩
theorem lk_Lw_96 : LV "FillAndGoLaw" 96 M_Rf_stageTold 2 := ⟨cw_Rf_stageTold, gw 1303 (by decide +kernel) (by decide +kernel), gw 1304 (by decide +kernel) (by decide +kernel), gw 1305 (by decide +kernel) (by decide +kernel)⟩
theorem lk_Lw_97 : LV "FillAndGoLaw" 97 M_FG_kindTold 3 := ⟨cw_FG_kindTold, gw 755 (by decide +kernel) (by decide +kernel), gw 756 (by decide +kernel) (by decide +kernel), gw 757 (by decide +kernel) (by decide +kernel)⟩
theorem lk_Lw_100 : LV "FillAndGoLaw" 100 M_Rf_kindTold 3 := ⟨cw_Rf_kindTold, gw 1172 (by decide +kernel) (by decide +kernel), gw 1173 (by decide +kernel) (by decide +kernel), gw 1174 (by decide +kernel) (by decide +kernel)⟩
theorem lk_Lw_101 : LV "FillAndGoLaw" 101 M_FG_count 1 := ⟨cw_FG_count, gw 763 (by decide +kernel) (by decide +kernel), gw 764 (by decide +kernel) (by decide +kernel), gw 765 (by decide +kernel) (by decide +kernel)⟩
theorem lk_Lw_104 : LV "FillAndGoLaw" 104 M_Rf_count 1 := ⟨cw_Rf_count, gw 1307 (by decide +kernel) (by decide +kernel), gw 1308 (by decide +kernel) (by decide +kernel), gw 1309 (by decide +kernel) (by decide +kernel)⟩
theorem lk_Lw_105 : LV "FillAndGoLaw" 105 M_FG_trip 2 := ⟨cw_FG_trip, gw 767 (by decide +kernel) (by decide +kernel), gw 768 (by decide +kernel) (by decide +kernel), gw 769 (by decide +kernel) (by decide +kernel)⟩
theorem lk_Lw_108 : LV "FillAndGoLaw" 108 M_Rf_trip 2 := ⟨cw_Rf_trip, gw 1311 (by decide +kernel) (by decide +kernel), gw 1312 (by decide +kernel) (by decide +kernel), gw 1313 (by decide +kernel) (by decide +kernel)⟩
theorem lk_Lw_109 : LV "FillAndGoLaw" 109 M_FG_foretell 2 := ⟨cw_FG_foretell, gw 777 (by decide +kernel) (by decide +kernel), gw 778 (by decide +kernel) (by decide +kernel), gw 779 (by decide +kernel) (by decide +kernel)⟩
theorem lk_Lw_112 : LV "FillAndGoLaw" 112 M_Rf_foretell 2 := ⟨cw_Rf_foretell, gw 1316 (by decide +kernel) (by decide +kernel), gw 1317 (by decide +kernel) (by decide +kernel), gw 1318 (by decide +kernel) (by decide +kernel)⟩
theorem lk_Lw_113 : LV "FillAndGoLaw" 113 M_FG_beside 3 := ⟨cw_FG_beside, gw 792 (by decide +kernel) (by decide +kernel), gw 793 (by decide +kernel) (by decide +kernel), gw 794 (by decide +kernel) (by decide +kernel)⟩
theorem lk_Lw_117 : LV "FillAndGoLaw" 117 M_Rf_beside 3 := ⟨cw_Rf_beside, gw 1324 (by decide +kernel) (by decide +kernel), gw 1325 (by decide +kernel) (by decide +kernel), gw 1326 (by decide +kernel) (by decide +kernel)⟩
theorem lk_Lw_118 : LV "FillAndGoLaw" 118 M_FG_plan 3 := ⟨cw_FG_plan, gw 797 (by decide +kernel) (by decide +kernel), gw 798 (by decide +kernel) (by decide +kernel), gw 799 (by decide +kernel) (by decide +kernel)⟩
theorem lk_Lw_121 : LV "FillAndGoLaw" 121 M_Rf_plan 3 := ⟨cw_Rf_plan, gw 1329 (by decide +kernel) (by decide +kernel), gw 1330 (by decide +kernel) (by decide +kernel), gw 1331 (by decide +kernel) (by decide +kernel)⟩
theorem lk_Lw_122 : LV "FillAndGoLaw" 122 M_FG_planned 0 := ⟨cw_FG_planned, gw 819 (by decide +kernel) (by decide +kernel), gw 820 (by decide +kernel) (by decide +kernel), gw 821 (by decide +kernel) (by decide +kernel)⟩
theorem lk_Lw_125 : LV "FillAndGoLaw" 125 M_Rf_planned 0 := ⟨cw_Rf_planned, gw 1342 (by decide +kernel) (by decide +kernel), gw 1343 (by decide +kernel) (by decide +kernel), gw 1344 (by decide +kernel) (by decide +kernel)⟩
theorem lk_Lw_126 : LV "FillAndGoLaw" 126 M_FG_gain 3 := ⟨cw_FG_gain, gw 823 (by decide +kernel) (by decide +kernel), gw 824 (by decide +kernel) (by decide +kernel), gw 825 (by decide +kernel) (by decide +kernel)⟩
theorem lk_Lw_129 : LV "FillAndGoLaw" 129 M_Rf_gain 3 := ⟨cw_Rf_gain, gw 1346 (by decide +kernel) (by decide +kernel), gw 1347 (by decide +kernel) (by decide +kernel), gw 1348 (by decide +kernel) (by decide +kernel)⟩
theorem lk_Lw_130 : LV "FillAndGoLaw" 130 M_FG_fights 1 := ⟨cw_FG_fights, gw 827 (by decide +kernel) (by decide +kernel), gw 828 (by decide +kernel) (by decide +kernel), gw 829 (by decide +kernel) (by decide +kernel)⟩
theorem lk_Lw_133 : LV "FillAndGoLaw" 133 M_Rf_fights 1 := ⟨cw_Rf_fights, gw 1350 (by decide +kernel) (by decide +kernel), gw 1351 (by decide +kernel) (by decide +kernel), gw 1352 (by decide +kernel) (by decide +kernel)⟩
theorem lk_Lw_134 : LV "FillAndGoLaw" 134 M_FG_part 4 := ⟨cw_FG_part, gw 831 (by decide +kernel) (by decide +kernel), gw 832 (by decide +kernel) (by decide +kernel), gw 833 (by decide +kernel) (by decide +kernel)⟩
theorem lk_Lw_137 : LV "FillAndGoLaw" 137 M_Rf_part 4 := ⟨cw_Rf_part, gw 1354 (by decide +kernel) (by decide +kernel), gw 1355 (by decide +kernel) (by decide +kernel), gw 1356 (by decide +kernel) (by decide +kernel)⟩
theorem lk_Lw_138 : LV "FillAndGoLaw" 138 M_FG_round 2 := ⟨cw_FG_round, gw 846 (by decide +kernel) (by decide +kernel), gw 847 (by decide +kernel) (by decide +kernel), gw 848 (by decide +kernel) (by decide +kernel)⟩
theorem lk_Lw_141 : LV "FillAndGoLaw" 141 M_Rf_round 2 := ⟨cw_Rf_round, gw 1362 (by decide +kernel) (by decide +kernel), gw 1363 (by decide +kernel) (by decide +kernel), gw 1364 (by decide +kernel) (by decide +kernel)⟩
theorem lk_Lw_142 : LV "FillAndGoLaw" 142 M_FG_stops 1 := ⟨cw_FG_stops, gw 850 (by decide +kernel) (by decide +kernel), gw 851 (by decide +kernel) (by decide +kernel), gw 852 (by decide +kernel) (by decide +kernel)⟩
theorem lk_Lw_145 : LV "FillAndGoLaw" 145 M_Rf_stops 1 := ⟨cw_Rf_stops, gw 1366 (by decide +kernel) (by decide +kernel), gw 1367 (by decide +kernel) (by decide +kernel), gw 1368 (by decide +kernel) (by decide +kernel)⟩
theorem lk_Lw_146 : LV "FillAndGoLaw" 146 M_FG_turns 0 := ⟨cw_FG_turns, gw 858 (by decide +kernel) (by decide +kernel), gw 859 (by decide +kernel) (by decide +kernel), gw 860 (by decide +kernel) (by decide +kernel)⟩
theorem lk_Lw_149 : LV "FillAndGoLaw" 149 M_Rf_turns 0 := ⟨cw_Rf_turns, gw 1374 (by decide +kernel) (by decide +kernel), gw 1375 (by decide +kernel) (by decide +kernel), gw 1376 (by decide +kernel) (by decide +kernel)⟩
theorem lk_Lw_150 : LV "FillAndGoLaw" 150 M_FG_saved 2 := ⟨cw_FG_saved, gw 866 (by decide +kernel) (by decide +kernel), gw 867 (by decide +kernel) (by decide +kernel), gw 868 (by decide +kernel) (by decide +kernel)⟩
theorem lk_Lw_153 : LV "FillAndGoLaw" 153 M_Rf_saved 2 := ⟨cw_Rf_saved, gw 1378 (by decide +kernel) (by decide +kernel), gw 1379 (by decide +kernel) (by decide +kernel), gw 1380 (by decide +kernel) (by decide +kernel)⟩
theorem lk_Lw_154 : LV "FillAndGoLaw" 154 M_FG_book 3 := ⟨cw_FG_book, gw 870 (by decide +kernel) (by decide +kernel), gw 871 (by decide +kernel) (by decide +kernel), gw 872 (by decide +kernel) (by decide +kernel)⟩
theorem lk_Lw_157 : LV "FillAndGoLaw" 157 M_Rf_book 3 := ⟨cw_Rf_book, gw 1382 (by decide +kernel) (by decide +kernel), gw 1383 (by decide +kernel) (by decide +kernel), gw 1384 (by decide +kernel) (by decide +kernel)⟩
theorem lk_Lw_158 : LV "FillAndGoLaw" 158 M_FG_mend 2 := ⟨cw_FG_mend, gw 875 (by decide +kernel) (by decide +kernel), gw 876 (by decide +kernel) (by decide +kernel), gw 877 (by decide +kernel) (by decide +kernel)⟩
theorem lk_Lw_161 : LV "FillAndGoLaw" 161 M_Rf_mend 2 := ⟨cw_Rf_mend, gw 1386 (by decide +kernel) (by decide +kernel), gw 1387 (by decide +kernel) (by decide +kernel), gw 1388 (by decide +kernel) (by decide +kernel)⟩
theorem lk_Lw_162 : LV "FillAndGoLaw" 162 M_FG_told 3 := ⟨cw_FG_told, gw 879 (by decide +kernel) (by decide +kernel), gw 880 (by decide +kernel) (by decide +kernel), gw 881 (by decide +kernel) (by decide +kernel)⟩
theorem lk_Lw_165 : LV "FillAndGoLaw" 165 M_Rf_told 3 := ⟨cw_Rf_told, gw 1390 (by decide +kernel) (by decide +kernel), gw 1391 (by decide +kernel) (by decide +kernel), gw 1392 (by decide +kernel) (by decide +kernel)⟩
theorem lk_Lw_166 : LV "FillAndGoLaw" 166 M_FG_image 0 := ⟨cw_FG_image, gw 886 (by decide +kernel) (by decide +kernel), gw 887 (by decide +kernel) (by decide +kernel), gw 888 (by decide +kernel) (by decide +kernel)⟩
theorem lk_Lw_169 : LV "FillAndGoLaw" 169 M_Rf_image 0 := ⟨cw_Rf_image, gw 1394 (by decide +kernel) (by decide +kernel), gw 1395 (by decide +kernel) (by decide +kernel), gw 1396 (by decide +kernel) (by decide +kernel)⟩
theorem lk_Lw_170 : LV "FillAndGoLaw" 170 M_FG_back 0 := ⟨cw_FG_back, gw 890 (by decide +kernel) (by decide +kernel), gw 891 (by decide +kernel) (by decide +kernel), gw 892 (by decide +kernel) (by decide +kernel)⟩
theorem lk_Lw_173 : LV "FillAndGoLaw" 173 M_Rf_back 0 := ⟨cw_Rf_back, gw 1398 (by decide +kernel) (by decide +kernel), gw 1399 (by decide +kernel) (by decide +kernel), gw 1400 (by decide +kernel) (by decide +kernel)⟩
theorem lk_Lw_174 : LV "FillAndGoLaw" 174 M_FG_sheet 3 := ⟨cw_FG_sheet, gw 894 (by decide +kernel) (by decide +kernel), gw 895 (by decide +kernel) (by decide +kernel), gw 896 (by decide +kernel) (by decide +kernel)⟩
theorem lk_Lw_177 : LV "FillAndGoLaw" 177 M_Rf_sheet 3 := ⟨cw_Rf_sheet, gw 1402 (by decide +kernel) (by decide +kernel), gw 1403 (by decide +kernel) (by decide +kernel), gw 1404 (by decide +kernel) (by decide +kernel)⟩
theorem lk_Lw_178 : LV "FillAndGoLaw" 178 M_FG_cell 3 := ⟨cw_FG_cell, gw 898 (by decide +kernel) (by decide +kernel), gw 899 (by decide +kernel) (by decide +kernel), gw 900 (by decide +kernel) (by decide +kernel)⟩
theorem lk_Lw_181 : LV "FillAndGoLaw" 181 M_Rf_cell 3 := ⟨cw_Rf_cell, gw 1406 (by decide +kernel) (by decide +kernel), gw 1407 (by decide +kernel) (by decide +kernel), gw 1408 (by decide +kernel) (by decide +kernel)⟩
theorem lk_Lw_182 : LV "FillAndGoLaw" 182 M_FG_copy 5 := ⟨cw_FG_copy, gw 902 (by decide +kernel) (by decide +kernel), gw 903 (by decide +kernel) (by decide +kernel), gw 904 (by decide +kernel) (by decide +kernel)⟩
theorem lk_Lw_186 : LV "FillAndGoLaw" 186 M_Rf_copy 5 := ⟨cw_Rf_copy, gw 1410 (by decide +kernel) (by decide +kernel), gw 1411 (by decide +kernel) (by decide +kernel), gw 1412 (by decide +kernel) (by decide +kernel)⟩
theorem lk_Lw_187 : LV "FillAndGoLaw" 187 M_FG_buses 4 := ⟨cw_FG_buses, gw 911 (by decide +kernel) (by decide +kernel), gw 912 (by decide +kernel) (by decide +kernel), gw 913 (by decide +kernel) (by decide +kernel)⟩
theorem lk_Lw_190 : LV "FillAndGoLaw" 190 M_Rf_buses 4 := ⟨cw_Rf_buses, gw 1414 (by decide +kernel) (by decide +kernel), gw 1415 (by decide +kernel) (by decide +kernel), gw 1416 (by decide +kernel) (by decide +kernel)⟩
theorem lk_Lw_191 : LV "FillAndGoLaw" 191 M_FG_taken 2 := ⟨cw_FG_taken, gw 915 (by decide +kernel) (by decide +kernel), gw 916 (by decide +kernel) (by decide +kernel), gw 917 (by decide +kernel) (by decide +kernel)⟩
theorem lk_Lw_194 : LV "FillAndGoLaw" 194 M_Rf_taken 2 := ⟨cw_Rf_taken, gw 1419 (by decide +kernel) (by decide +kernel), gw 1420 (by decide +kernel) (by decide +kernel), gw 1421 (by decide +kernel) (by decide +kernel)⟩
theorem ko_Rf_1 : Cond.methodLink RX12 1 objectInit ∈ lw_good := gw 949 (by decide +kernel) (by decide +kernel)
theorem lk_Rf_151 : LkS RX12 151 M_Rf_in 3 := ⟨cw_Rf_in, gw 1121 (by decide +kernel) (by decide +kernel), gw 1122 (by decide +kernel) (by decide +kernel)⟩
theorem lk_Rf_159 : LV RX12 159 M_Rf_hour 0 := ⟨cw_Rf_hour, gw 1241 (by decide +kernel) (by decide +kernel), gw 1243 (by decide +kernel) (by decide +kernel), gws 33 (by decide +kernel) (by decide +kernel)⟩
theorem lk_Rf_163 : LkS RX12 163 M_Rf_isStage 1 := ⟨cw_Rf_isStage, gw 1118 (by decide +kernel) (by decide +kernel), gw 1119 (by decide +kernel) (by decide +kernel)⟩
theorem lk_Rf_167 : LV RX12 167 M_Rf_isBus 1 := ⟨cw_Rf_isBus, gw 1144 (by decide +kernel) (by decide +kernel), gw 1146 (by decide +kernel) (by decide +kernel), gws 21 (by decide +kernel) (by decide +kernel)⟩
theorem lk_Rf_170 : LV RX12 170 M_Rf_queuesAt 2 := ⟨cw_Rf_queuesAt, gw 1148 (by decide +kernel) (by decide +kernel), gw 1150 (by decide +kernel) (by decide +kernel), gws 22 (by decide +kernel) (by decide +kernel)⟩
theorem lk_Rf_174 : LV RX12 174 M_Rf_firstAt 1 := ⟨cw_Rf_firstAt, gw 1160 (by decide +kernel) (by decide +kernel), gw 1162 (by decide +kernel) (by decide +kernel), gws 23 (by decide +kernel) (by decide +kernel)⟩
theorem lk_Rf_178 : LkS RX12 178 M_Rf_needOf 2 := ⟨cw_Rf_needOf, gw 1176 (by decide +kernel) (by decide +kernel), gw 1177 (by decide +kernel) (by decide +kernel)⟩
theorem lk_Rf_182 : LkS RX12 182 M_Rf_fareOf 2 := ⟨cw_Rf_fareOf, gw 1179 (by decide +kernel) (by decide +kernel), gw 1180 (by decide +kernel) (by decide +kernel)⟩
theorem lk_Rf_185 : LkS RX12 185 M_Rf_minutesOf 2 := ⟨cw_Rf_minutesOf, gw 1182 (by decide +kernel) (by decide +kernel), gw 1183 (by decide +kernel) (by decide +kernel)⟩
theorem lk_Rf_188 : LkS RX12 188 M_Rf_fuelOf 2 := ⟨cw_Rf_fuelOf, gw 1185 (by decide +kernel) (by decide +kernel), gw 1186 (by decide +kernel) (by decide +kernel)⟩
theorem lk_Rf_199 : LV RX12 199 M_Rf_byteHere 0 := ⟨cw_Rf_byteHere, gw 1205 (by decide +kernel) (by decide +kernel), gw 1207 (by decide +kernel) (by decide +kernel), gws 26 (by decide +kernel) (by decide +kernel)⟩
theorem lk_Rf_202 : LV RX12 202 M_Rf_wordOf 2 := ⟨cw_Rf_wordOf, gw 1201 (by decide +kernel) (by decide +kernel), gw 1203 (by decide +kernel) (by decide +kernel), gws 25 (by decide +kernel) (by decide +kernel)⟩
theorem lk_Rf_205 : LV RX12 205 M_Rf_number 0 := ⟨cw_Rf_number, gw 1209 (by decide +kernel) (by decide +kernel), gw 1211 (by decide +kernel) (by decide +kernel), gws 27 (by decide +kernel) (by decide +kernel)⟩
theorem lk_Rf_208 : LV RX12 208 M_Rf_test 1 := ⟨cw_Rf_test, gw 1213 (by decide +kernel) (by decide +kernel), gw 1215 (by decide +kernel) (by decide +kernel), gws 28 (by decide +kernel) (by decide +kernel)⟩
theorem lk_Rf_214 : LV RX12 214 M_Rf_line 1 := ⟨cw_Rf_line, gw 1197 (by decide +kernel) (by decide +kernel), gw 1199 (by decide +kernel) (by decide +kernel), gws 24 (by decide +kernel) (by decide +kernel)⟩
theorem lk_Rf_217 : LV RX12 217 M_Rf_queueAt 1 := ⟨cw_Rf_queueAt, gw 1245 (by decide +kernel) (by decide +kernel), gw 1247 (by decide +kernel) (by decide +kernel), gws 34 (by decide +kernel) (by decide +kernel)⟩
theorem lk_Rf_220 : LV RX12 220 M_Rf_fieldOf 2 := ⟨cw_Rf_fieldOf, gw 1237 (by decide +kernel) (by decide +kernel), gw 1239 (by decide +kernel) (by decide +kernel), gws 32 (by decide +kernel) (by decide +kernel)⟩
theorem lk_Rf_223 : LV RX12 223 M_Rf_holds 2 := ⟨cw_Rf_holds, gw 1233 (by decide +kernel) (by decide +kernel), gw 1235 (by decide +kernel) (by decide +kernel), gws 31 (by decide +kernel) (by decide +kernel)⟩
theorem lk_Rf_227 : LV RX12 227 M_Rf_lineFor 2 := ⟨cw_Rf_lineFor, gw 1229 (by decide +kernel) (by decide +kernel), gw 1231 (by decide +kernel) (by decide +kernel), gws 30 (by decide +kernel) (by decide +kernel)⟩
theorem lk_Rf_230 : LV RX12 230 M_Rf_lawOf 2 := ⟨cw_Rf_lawOf, gw 1225 (by decide +kernel) (by decide +kernel), gw 1227 (by decide +kernel) (by decide +kernel), gws 29 (by decide +kernel) (by decide +kernel)⟩
theorem lk_Rf_233 : LV RX12 233 M_Rf_loadsAt 1 := ⟨cw_Rf_loadsAt, gw 1269 (by decide +kernel) (by decide +kernel), gw 1271 (by decide +kernel) (by decide +kernel), gws 38 (by decide +kernel) (by decide +kernel)⟩
theorem lk_Rf_236 : LV RX12 236 M_Rf_aimOf 1 := ⟨cw_Rf_aimOf, gw 1273 (by decide +kernel) (by decide +kernel), gw 1275 (by decide +kernel) (by decide +kernel), gws 39 (by decide +kernel) (by decide +kernel)⟩
theorem lk_Rf_239 : LV RX12 239 M_Rf_wayOf 2 := ⟨cw_Rf_wayOf, gw 1277 (by decide +kernel) (by decide +kernel), gw 1279 (by decide +kernel) (by decide +kernel), gws 40 (by decide +kernel) (by decide +kernel)⟩
theorem lk_Rf_244 : LV RX12 244 M_Rf_come 0 := ⟨cw_Rf_come, gw 1261 (by decide +kernel) (by decide +kernel), gw 1263 (by decide +kernel) (by decide +kernel), gws 36 (by decide +kernel) (by decide +kernel)⟩
theorem lk_Rf_247 : LV RX12 247 M_Rf_loads 1 := ⟨cw_Rf_loads, gw 1265 (by decide +kernel) (by decide +kernel), gw 1267 (by decide +kernel) (by decide +kernel), gws 37 (by decide +kernel) (by decide +kernel)⟩
theorem lk_Rf_251 : LV RX12 251 M_Rf_goesBus 1 := ⟨cw_Rf_goesBus, gw 1281 (by decide +kernel) (by decide +kernel), gw 1283 (by decide +kernel) (by decide +kernel), gws 41 (by decide +kernel) (by decide +kernel)⟩
theorem lk_Rf_254 : LV RX12 254 M_Rf_sum 2 := ⟨cw_Rf_sum, gw 1285 (by decide +kernel) (by decide +kernel), gw 1287 (by decide +kernel) (by decide +kernel), gws 42 (by decide +kernel) (by decide +kernel)⟩
theorem lk_Rf_257 : LV RX12 257 M_Rf_settles 1 := ⟨cw_Rf_settles, gw 1289 (by decide +kernel) (by decide +kernel), gw 1291 (by decide +kernel) (by decide +kernel), gws 43 (by decide +kernel) (by decide +kernel)⟩
theorem lk_Rf_260 : LV RX12 260 M_Rf_goes 0 := ⟨cw_Rf_goes, gw 1257 (by decide +kernel) (by decide +kernel), gw 1259 (by decide +kernel) (by decide +kernel), gws 35 (by decide +kernel) (by decide +kernel)⟩
theorem lk_Rf_271 : LV RX12 271 M_Rf_lays 1 := ⟨cw_Rf_lays, gw 1320 (by decide +kernel) (by decide +kernel), gw 1322 (by decide +kernel) (by decide +kernel), gws 44 (by decide +kernel) (by decide +kernel)⟩
theorem lk_Rf_277 : LV RX12 277 M_Rf_isPlan 3 := ⟨cw_Rf_isPlan, gw 1333 (by decide +kernel) (by decide +kernel), gw 1335 (by decide +kernel) (by decide +kernel), gws 45 (by decide +kernel) (by decide +kernel)⟩
theorem lk_Rf_282 : LkS RX12 282 M_Rf_many 1 := ⟨cw_Rf_many, gw 1338 (by decide +kernel) (by decide +kernel), gw 1339 (by decide +kernel) (by decide +kernel)⟩
theorem lk_Rf_285 : LV RX12 285 M_Rf_queue 2 := ⟨cw_Rf_queue, gw 1341 (by decide +kernel) (by decide +kernel), gw 1141 (by decide +kernel) (by decide +kernel), gw 1142 (by decide +kernel) (by decide +kernel)⟩
theorem lk_Rf_294 : LV RX12 294 M_Rf_isQuiet 3 := ⟨cw_Rf_isQuiet, gw 1358 (by decide +kernel) (by decide +kernel), gw 1360 (by decide +kernel) (by decide +kernel), gws 46 (by decide +kernel) (by decide +kernel)⟩
theorem lk_Rf_300 : LV RX12 300 M_Rf_isMember 1 := ⟨cw_Rf_isMember, gw 1370 (by decide +kernel) (by decide +kernel), gw 1372 (by decide +kernel) (by decide +kernel), gws 47 (by decide +kernel) (by decide +kernel)⟩
theorem lk_Rf_310 : LV RX12 310 M_Rf_bus 4 := ⟨cw_Rf_bus, gw 1418 (by decide +kernel) (by decide +kernel), gw 1137 (by decide +kernel) (by decide +kernel), gw 1138 (by decide +kernel) (by decide +kernel)⟩
theorem lk_Rf_314 : LkS RX12 314 M_Rf_isUnder 2 := ⟨cw_Rf_isUnder, gw 1423 (by decide +kernel) (by decide +kernel), gw 1424 (by decide +kernel) (by decide +kernel)⟩
theorem lk_JS_335 : LV "java/lang/String" 335 M_JS_coder 0 := ⟨cw_JS_coder, gw 446 (by decide +kernel) (by decide +kernel), gw 447 (by decide +kernel) (by decide +kernel), gw 448 (by decide +kernel) (by decide +kernel)⟩
theorem lk_JS_492 : LV "java/lang/String" 492 M_JS_isLatin1 0 := ⟨cw_JS_isLatin1, gw 456 (by decide +kernel) (by decide +kernel), gw 457 (by decide +kernel) (by decide +kernel), gw 458 (by decide +kernel) (by decide +kernel)⟩
theorem lk_JS_495 : LkS "java/lang/String" 495 M_JL_charAt 2 := ⟨cw_JL_charAt, gw 460 (by decide +kernel) (by decide +kernel), gw 461 (by decide +kernel) (by decide +kernel)⟩
theorem lk_JS_498 : LkS "java/lang/String" 498 M_JU_charAt 2 := ⟨cw_JU_charAt, gw 471 (by decide +kernel) (by decide +kernel), gw 472 (by decide +kernel) (by decide +kernel)⟩
theorem lk_JL_9 : LkS "java/lang/StringLatin1" 9 M_JS_checkIndex 2 := ⟨cw_JS_checkIndex, gw 463 (by decide +kernel) (by decide +kernel), gw 464 (by decide +kernel) (by decide +kernel)⟩
theorem lk_JU_48 : LkS "java/lang/StringUTF16" 48 M_JU_length 1 := ⟨cw_JU_length, gw 477 (by decide +kernel) (by decide +kernel), gw 478 (by decide +kernel) (by decide +kernel)⟩
theorem lk_JU_67 : LkS "java/lang/StringUTF16" 67 M_JU_checkIndex 2 := ⟨cw_JU_checkIndex, gw 474 (by decide +kernel) (by decide +kernel), gw 475 (by decide +kernel) (by decide +kernel)⟩
theorem lk_JU_71 : LkS "java/lang/StringUTF16" 71 M_JU_getChar 2 := ⟨cw_JU_getChar, gw 481 (by decide +kernel) (by decide +kernel), gw 482 (by decide +kernel) (by decide +kernel)⟩
theorem lk_JU_414 : LkS "java/lang/StringUTF16" 414 M_JS_checkIndex 2 := ⟨cw_JS_checkIndex, gw 480 (by decide +kernel) (by decide +kernel), gw 464 (by decide +kernel) (by decide +kernel)⟩
theorem lk_FG_31 : LIN RX11 31 M_Tp_init 0 "FillAndGo" := ⟨cw_Tp_init, gn 264 (by decide +kernel) (by decide +kernel), gw 265 (by decide +kernel) (by decide +kernel), rfl, rfl⟩
theorem lk_Ea_3 : LIN RX0 3 M_Rn_init 0 "FillAndGo" := ⟨cw_Rn_init, gn 65 (by decide +kernel) (by decide +kernel), gw 41 (by decide +kernel) (by decide +kernel), rfl, rfl⟩
theorem lk_Em_3 : LIN RX1 3 M_Rn_init 0 "FillAndGo" := ⟨cw_Rn_init, gn 58 (by decide +kernel) (by decide +kernel), gw 41 (by decide +kernel) (by decide +kernel), rfl, rfl⟩
theorem lk_Ex_3 : LIN RX2 3 M_Ea_init 0 "FillAndGo" := ⟨cw_Ea_init, gn 72 (by decide +kernel) (by decide +kernel), gw 63 (by decide +kernel) (by decide +kernel), rfl, rfl⟩
theorem lk_Hi_3 : LIN RX3 3 M_Em_init 0 "FillAndGo" := ⟨cw_Em_init, gn 79 (by decide +kernel) (by decide +kernel), gw 56 (by decide +kernel) (by decide +kernel), rfl, rfl⟩
theorem lk_Sh_3 : LIN RX7 3 M_Rn_init 0 "FillAndGo" := ⟨cw_Rn_init, gn 51 (by decide +kernel) (by decide +kernel), gw 41 (by decide +kernel) (by decide +kernel), rfl, rfl⟩
theorem lk_Tn_57 : LIN RX9 57 M_Rn_init 0 "FillAndGo" := ⟨cw_Rn_init, gn 40 (by decide +kernel) (by decide +kernel), gw 41 (by decide +kernel) (by decide +kernel), rfl, rfl⟩
theorem lk_Tn_60 : LIN RX9 60 M_Sh_init 0 "FillAndGo" := ⟨cw_Sh_init, gn 48 (by decide +kernel) (by decide +kernel), gw 49 (by decide +kernel) (by decide +kernel), rfl, rfl⟩
theorem lk_Tn_63 : LIN RX9 63 M_Em_init 0 "FillAndGo" := ⟨cw_Em_init, gn 55 (by decide +kernel) (by decide +kernel), gw 56 (by decide +kernel) (by decide +kernel), rfl, rfl⟩
theorem lk_Tn_66 : LIN RX9 66 M_Ea_init 0 "FillAndGo" := ⟨cw_Ea_init, gn 62 (by decide +kernel) (by decide +kernel), gw 63 (by decide +kernel) (by decide +kernel), rfl, rfl⟩
theorem lk_Tn_69 : LIN RX9 69 M_Ex_init 0 "FillAndGo" := ⟨cw_Ex_init, gn 69 (by decide +kernel) (by decide +kernel), gw 70 (by decide +kernel) (by decide +kernel), rfl, rfl⟩
theorem lk_Tn_72 : LIN RX9 72 M_Hi_init 0 "FillAndGo" := ⟨cw_Hi_init, gn 76 (by decide +kernel) (by decide +kernel), gw 77 (by decide +kernel) (by decide +kernel), rfl, rfl⟩
theorem lk_Tn_73 : LSN RX9 73 M_FG_within 3 "FillAndGo" := ⟨cw_FG_within, gn 377 (by decide +kernel) (by decide +kernel), gw 355 (by decide +kernel) (by decide +kernel)⟩
theorem lk_Wd_27 : LIN RX10 27 M_Rd_init 0 "FillAndGo" := ⟨cw_Rd_init, gn 144 (by decide +kernel) (by decide +kernel), gw 145 (by decide +kernel) (by decide +kernel), rfl, rfl⟩
theorem ko_inst : Cond.instanceMethod objectInit ∈ lw_good := gw 27 (by decide +kernel) (by decide +kernel)
theorem ko_code : Cond.code objectInit ⟨#[0xb1]⟩ 1 none ∈ lw_good := gc1 28 rfl rfl
end
section
abbrev T2 : Type := Nat → Nat → Int32
def tput (c : T2) (k : Nat) (f : Nat → Int32) : T2 := fun a => if a = k then f else c a
theorem tput_eq (c : T2) (k : Nat) (f : Nat → Int32) : tput c k f k = f := by simp [tput]
theorem tput_ne (c : T2) {k a : Nat} (f : Nat → Int32) (h : a ≠ k) : tput c k f a = c a := by simp [tput, h]
theorem upd_eq (f : Nat → Int32) (k : Nat) (x : Int32) : upd f k x k = x := by simp [upd]
theorem upd_ne (f : Nat → Int32) {k a : Nat} (x : Int32) (h : a ≠ k) : upd f k x a = f a := by simp [upd, h]
def sl (P : Nat → Int32) (o n : Nat) : Nat → Int32 := fun i => if i < n then P (o + i) else 0
theorem sl_at {P : Nat → Int32} {o n i : Nat} (h : i < n) : sl P o n i = P (o + i) := by simp [sl, h]
theorem sl_in {P : Nat → Int32} {o n j : Nat} {v : Int32} (h : j < n) : upd (sl P o n) j v = sl (upd P (o + j) v) o n := by
  funext i
  by_cases e : i = j
  · subst e; simp [upd, sl, h]
  · by_cases e2 : i < n
    · simp [upd, sl, e, e2]
    · simp [upd, sl, e, e2]
theorem sl_out {P : Nat → Int32} {o n k : Nat} {v : Int32} (h : k < o ∨ o + n ≤ k) : sl (upd P k v) o n = sl P o n := by
  funext i
  by_cases e2 : i < n
  · have : ¬ o + i = k := by omega
    simp [upd, sl, e2, this]
  · simp [sl, e2]
abbrev iA (D : xD) (n : Nat) (f : Nat → Int32) : va_E := .inl (D.2.1 0, n, .inl f)
abbrev bA (D : xD) (n : Nat) (f : Nat → Int32) : va_E := .inl (D.2.1 1, n, .inl f)
abbrev lA (D : xD) (n : Nat) (f : Nat → Int64) : va_E := .inl (D.2.1 2, n, .inr (.inl f))
abbrev zA (D : xD) (n : Nat) (f : Nat → Int32) : va_E := .inl (D.2.1 3, n, .inl f)
abbrev oA (D : xD) (t n : Nat) (f : Nat → Option Nat) : va_E := .inl (D.2.1 t, n, .inr (.inr (.inr (.inr f))))
/-- n addresses from a on -/
def rows (N a n : Nat) : Nat → Option Nat := fun i => if i < n then some (N + (a + i)) else none
theorem rows_at {N a n i : Nat} (h : i < n) : rows N a n i = some (N + (a + i)) := by simp [rows, h]
def rowsW (N wb : Nat) : Nat → Option Nat := fun i => if i < 12 then some (N + (wb + (5 + i))) else none
theorem rowsW_at {N wb i : Nat} (h : i < 12) : rowsW N wb i = some (N + (wb + (5 + i))) := by simp [rowsW, h]
abbrev wA (w : Nat) : Nat := 21 + 17 * w
abbrev rideC (P : Nat → Int32) (b : Nat) : va_E := .inr (5, [.int (P (72 + b)), .int (P (84 + b)), .int (P (96 + b)), .int (P (108 + b)), .int (P (120 + b)), .int (P (132 + b)), .int (P (144 + b)), .int (P (156 + b)), .int (P (168 + b)), .int (P (180 + b)), .int (P (192 + b)), .int (P (204 + b)), .int (P (216 + b))])
abbrev wObj (N wb : Nat) (P : Nat → Int32) : va_E := .inr (10, [.int (P 234), .int (P 235), .int (P 236), .int (P 237), .int (P 238), .ref (N + (wb + 1)), .ref (N + (wb + 2)), .ref (N + (wb + 3)), .ref (N + (wb + 4))])
def wcells (D : xD) (N wb : Nat) (P : Nat → Int32) : List va_E := wObj N wb P :: iA D 36 (sl P 0 36) :: iA D 36 (sl P 36 36) :: iA D 6 (sl P 228 6) :: oA D 4 12 (rowsW N wb) :: (List.range 12).map (rideC P)
/-- the row of a book: what is told of it, as far as it is one -/
def bookC (c : T2) (k : Nat) : Nat → Int32 := fun i => if i = 0 then c 15 k else if i = 1 then c 16 k else if i = 2 then c 17 k else if i = 3 then c 18 k else if i = 4 then c 19 k else if i = 5 then (if k < (c 32 7).toNatClampNeg then c 20 k else 0) else 0
def encA (D : xD) (N : Nat) (c x : T2) (ln : Nat → Option Nat) : List va_E := [.inr (11, [.ref (N + 1), .ref (N + 21), .ref (N + 38), .ref (N + 55), .int (c 32 0), .ref (N + 72), .int (c 32 2), .ref (N + 75), .int (c 32 3), .int (c 32 4), .int (c 32 5), .int (c 32 6), .ref (N + 82), .ref (N + 86), .int (c 32 7), .ref (N + 117), .ref (N + 122), .ref (N + 123)]),
  .inr (9, [.ref (N + 2), .ref (N + 3), .ref (N + 4), .ref (N + 5), .ref (N + 6), .ref (N + 7), .ref (N + 8), .ref (N + 9), .int (c 32 1), .ref (N + 10), .int (c 32 9), .ref (N + 11), .ref (N + 12), .ref (N + 13), .ref (N + 14)]),
  iA D 36 (c 2),
  iA D 36 (c 3),
  iA D 24 (c 4),
  iA D 12 (c 5),
  iA D 12 (c 6),
  iA D 12 (c 7),
  iA D 12 (c 8),
  iA D 12 (c 9),
  oA D 5 48 ln,
  iA D 6 (c 10),
  oA D 6 6 (rows N 15 6),
  iA D 8 (x 1),
  iA D 6 (x 2),
  .inr (6, []),
  .inr (7, []),
  .inr (1, []),
  .inr (0, []),
  .inr (2, []),
  .inr (3, [])]
def encB (D : xD) (N : Nat) (c x : T2) (df : Nat → Option Nat) : List va_E := [.inr (8, [.ref (N + 73), .int (c 32 8), .int (x 3 0), .ref (N + 74), .int (x 3 1)]),
  bA D 160 (fun i => (c 21 i).toInt8.toInt32),
  oA D 5 8 df,
  oA D 7 6 (rows N 76 6),
  iA D 4 (sl (c 11) 0 4),
  iA D 4 (sl (c 11) 4 4),
  iA D 4 (sl (c 11) 8 4),
  iA D 4 (sl (c 11) 12 4),
  iA D 4 (sl (c 11) 16 4),
  iA D 4 (sl (c 11) 20 4),
  oA D 7 3 (rows N 83 3),
  iA D 6 (c 12),
  iA D 6 (c 13),
  iA D 6 (c 14),
  oA D 7 30 (rows N 87 30)] ++ ((List.range 30).map (fun k => iA D 6 (bookC c k)) ++ [oA D 7 4 (rows N 118 4),
  iA D 40 (sl (c 31) 0 40),
  iA D 40 (sl (c 31) 40 40),
  iA D 40 (sl (c 31) 80 40),
  iA D 40 (sl (c 31) 120 40),
  iA D 4 (c 30),
  iA D 4 (c 29)])
def encC (D : xD) (N : Nat) (c x V : T2) (ln df : Nat → Option Nat) : List va_E := encA D N c x ln ++ (wcells D N 21 (V 0) ++ (wcells D N 38 (V 1) ++ (wcells D N 55 (V 2) ++ encB D N c x df)))
def wordsF : Nat → Int64 := (vp_updL (vp_updL (vp_updL (vp_updL (vp_updL (vp_updL (vp_updL (vp_updL (vp_updL (vp_updL (vp_updL (fun _ => 0) 0 26479) 1 1717662309) 2 1801807216) 3 131260264768868) 4 1936682084) 5 1918986606) 6 1752135026) 7 487300887909) 8 495873779557) 9 478745093490) 10 111469206070628)
def sizesF : Nat → Int32 := (upd (upd (upd (upd (upd (upd (upd (upd (upd (upd (upd (fun _ => 0) 0 (nI 2)) 1 (nI 4)) 2 (nI 4)) 3 (nI 6)) 4 (nI 4)) 5 (nI 4)) 6 (nI 4)) 7 (nI 5)) 8 (nI 5)) 9 (nI 5)) 10 (nI 6))
def encR (D : xD) (N : Nat) (c z : T2) (P Q : Nat → Int32) : List va_E := [.inr (12, [.ref (N + 1), .ref (N + 2), .ref (N + 3), .int (c 32 0), .ref (N + 4), .ref (N + 5), .ref (N + 6), .int (c 32 1), .ref (N + 7), .ref (N + 8), .ref (N + 9), .ref (N + 10), .ref (N + 11), .ref (N + 12), .int (c 32 2), .ref (N + 13), .int (c 32 3), .int (c 32 4), .int (c 32 5), .int (c 32 6), .ref (N + 14), .ref (N + 15), .ref (N + 16), .int (c 32 7), .ref (N + 17), .ref (N + 18), .ref (N + 19), .ref (N + 20), .ref (N + 21), .ref (N + 22), .ref (N + 23), .int (c 32 8), .int (c 32 9), .ref (N + 24), .ref (N + 25), .ref (N + 26), .ref (N + 27), .ref (N + 28), .ref (N + 29), .ref (N + 30), .ref (N + 31), .ref (N + 32), .ref (N + 33), .ref (N + 34), .ref (N + 35), .int (z 5 0), .ref (N + 36), .ref (N + 37), .ref (N + 38), .ref (N + 39)]),
  iA D 239 P,
  iA D 239 (z 0),
  iA D 239 Q,
  iA D 36 (c 2),
  iA D 36 (c 3),
  iA D 24 (c 4),
  iA D 12 (c 5),
  iA D 12 (c 6),
  iA D 12 (c 7),
  iA D 12 (c 8),
  iA D 12 (c 9),
  iA D 6 (c 10),
  iA D 24 (c 11),
  iA D 6 (c 12),
  iA D 6 (c 13),
  zA D 6 (c 14),
  iA D 30 (c 15),
  iA D 30 (c 16),
  iA D 30 (c 17),
  iA D 30 (c 18),
  iA D 30 (c 19),
  iA D 30 (c 20),
  iA D 160 (c 21),
  iA D 6 (c 22),
  iA D 48 (c 23),
  iA D 48 (c 24),
  iA D 48 (c 25),
  iA D 144 (c 26),
  iA D 144 (c 27),
  iA D 144 (c 28),
  iA D 4 (c 29),
  iA D 4 (c 30),
  iA D 160 (c 31),
  lA D 11 wordsF,
  iA D 11 sizesF,
  iA D 6 (z 1),
  iA D 6 (z 2),
  iA D 6 (z 3),
  iA D 4 (z 4)]
theorem fr_4 {D : xD} {N : Nat} {c z : T2} {P Q f : Nat → Int32} {rest : List va_E} : (encR D N c z P Q ++ rest).set 4 (iA D 36 f) = encR D N (tput c 2 f) z P Q ++ rest := rfl
theorem fr_5 {D : xD} {N : Nat} {c z : T2} {P Q f : Nat → Int32} {rest : List va_E} : (encR D N c z P Q ++ rest).set 5 (iA D 36 f) = encR D N (tput c 3 f) z P Q ++ rest := rfl
theorem fr_6 {D : xD} {N : Nat} {c z : T2} {P Q f : Nat → Int32} {rest : List va_E} : (encR D N c z P Q ++ rest).set 6 (iA D 24 f) = encR D N (tput c 4 f) z P Q ++ rest := rfl
theorem fr_7 {D : xD} {N : Nat} {c z : T2} {P Q f : Nat → Int32} {rest : List va_E} : (encR D N c z P Q ++ rest).set 7 (iA D 12 f) = encR D N (tput c 5 f) z P Q ++ rest := rfl
theorem fr_8 {D : xD} {N : Nat} {c z : T2} {P Q f : Nat → Int32} {rest : List va_E} : (encR D N c z P Q ++ rest).set 8 (iA D 12 f) = encR D N (tput c 6 f) z P Q ++ rest := rfl
theorem fr_9 {D : xD} {N : Nat} {c z : T2} {P Q f : Nat → Int32} {rest : List va_E} : (encR D N c z P Q ++ rest).set 9 (iA D 12 f) = encR D N (tput c 7 f) z P Q ++ rest := rfl
theorem fr_10 {D : xD} {N : Nat} {c z : T2} {P Q f : Nat → Int32} {rest : List va_E} : (encR D N c z P Q ++ rest).set 10 (iA D 12 f) = encR D N (tput c 8 f) z P Q ++ rest := rfl
theorem fr_11 {D : xD} {N : Nat} {c z : T2} {P Q f : Nat → Int32} {rest : List va_E} : (encR D N c z P Q ++ rest).set 11 (iA D 12 f) = encR D N (tput c 9 f) z P Q ++ rest := rfl
theorem fr_12 {D : xD} {N : Nat} {c z : T2} {P Q f : Nat → Int32} {rest : List va_E} : (encR D N c z P Q ++ rest).set 12 (iA D 6 f) = encR D N (tput c 10 f) z P Q ++ rest := rfl
theorem fr_13 {D : xD} {N : Nat} {c z : T2} {P Q f : Nat → Int32} {rest : List va_E} : (encR D N c z P Q ++ rest).set 13 (iA D 24 f) = encR D N (tput c 11 f) z P Q ++ rest := rfl
theorem fr_14 {D : xD} {N : Nat} {c z : T2} {P Q f : Nat → Int32} {rest : List va_E} : (encR D N c z P Q ++ rest).set 14 (iA D 6 f) = encR D N (tput c 12 f) z P Q ++ rest := rfl
theorem fr_15 {D : xD} {N : Nat} {c z : T2} {P Q f : Nat → Int32} {rest : List va_E} : (encR D N c z P Q ++ rest).set 15 (iA D 6 f) = encR D N (tput c 13 f) z P Q ++ rest := rfl
theorem fr_17 {D : xD} {N : Nat} {c z : T2} {P Q f : Nat → Int32} {rest : List va_E} : (encR D N c z P Q ++ rest).set 17 (iA D 30 f) = encR D N (tput c 15 f) z P Q ++ rest := rfl
theorem fr_18 {D : xD} {N : Nat} {c z : T2} {P Q f : Nat → Int32} {rest : List va_E} : (encR D N c z P Q ++ rest).set 18 (iA D 30 f) = encR D N (tput c 16 f) z P Q ++ rest := rfl
theorem fr_19 {D : xD} {N : Nat} {c z : T2} {P Q f : Nat → Int32} {rest : List va_E} : (encR D N c z P Q ++ rest).set 19 (iA D 30 f) = encR D N (tput c 17 f) z P Q ++ rest := rfl
theorem fr_20 {D : xD} {N : Nat} {c z : T2} {P Q f : Nat → Int32} {rest : List va_E} : (encR D N c z P Q ++ rest).set 20 (iA D 30 f) = encR D N (tput c 18 f) z P Q ++ rest := rfl
theorem fr_21 {D : xD} {N : Nat} {c z : T2} {P Q f : Nat → Int32} {rest : List va_E} : (encR D N c z P Q ++ rest).set 21 (iA D 30 f) = encR D N (tput c 19 f) z P Q ++ rest := rfl
theorem fr_22 {D : xD} {N : Nat} {c z : T2} {P Q f : Nat → Int32} {rest : List va_E} : (encR D N c z P Q ++ rest).set 22 (iA D 30 f) = encR D N (tput c 20 f) z P Q ++ rest := rfl
theorem fr_23 {D : xD} {N : Nat} {c z : T2} {P Q f : Nat → Int32} {rest : List va_E} : (encR D N c z P Q ++ rest).set 23 (iA D 160 f) = encR D N (tput c 21 f) z P Q ++ rest := rfl
theorem fr_24 {D : xD} {N : Nat} {c z : T2} {P Q f : Nat → Int32} {rest : List va_E} : (encR D N c z P Q ++ rest).set 24 (iA D 6 f) = encR D N (tput c 22 f) z P Q ++ rest := rfl
theorem fr_25 {D : xD} {N : Nat} {c z : T2} {P Q f : Nat → Int32} {rest : List va_E} : (encR D N c z P Q ++ rest).set 25 (iA D 48 f) = encR D N (tput c 23 f) z P Q ++ rest := rfl
theorem fr_26 {D : xD} {N : Nat} {c z : T2} {P Q f : Nat → Int32} {rest : List va_E} : (encR D N c z P Q ++ rest).set 26 (iA D 48 f) = encR D N (tput c 24 f) z P Q ++ rest := rfl
theorem fr_27 {D : xD} {N : Nat} {c z : T2} {P Q f : Nat → Int32} {rest : List va_E} : (encR D N c z P Q ++ rest).set 27 (iA D 48 f) = encR D N (tput c 25 f) z P Q ++ rest := rfl
theorem fr_28 {D : xD} {N : Nat} {c z : T2} {P Q f : Nat → Int32} {rest : List va_E} : (encR D N c z P Q ++ rest).set 28 (iA D 144 f) = encR D N (tput c 26 f) z P Q ++ rest := rfl
theorem fr_29 {D : xD} {N : Nat} {c z : T2} {P Q f : Nat → Int32} {rest : List va_E} : (encR D N c z P Q ++ rest).set 29 (iA D 144 f) = encR D N (tput c 27 f) z P Q ++ rest := rfl
theorem fr_30 {D : xD} {N : Nat} {c z : T2} {P Q f : Nat → Int32} {rest : List va_E} : (encR D N c z P Q ++ rest).set 30 (iA D 144 f) = encR D N (tput c 28 f) z P Q ++ rest := rfl
theorem fr_31 {D : xD} {N : Nat} {c z : T2} {P Q f : Nat → Int32} {rest : List va_E} : (encR D N c z P Q ++ rest).set 31 (iA D 4 f) = encR D N (tput c 29 f) z P Q ++ rest := rfl
theorem fr_32 {D : xD} {N : Nat} {c z : T2} {P Q f : Nat → Int32} {rest : List va_E} : (encR D N c z P Q ++ rest).set 32 (iA D 4 f) = encR D N (tput c 30 f) z P Q ++ rest := rfl
theorem fr_33 {D : xD} {N : Nat} {c z : T2} {P Q f : Nat → Int32} {rest : List va_E} : (encR D N c z P Q ++ rest).set 33 (iA D 160 f) = encR D N (tput c 31 f) z P Q ++ rest := rfl
theorem fr_16 {D : xD} {N : Nat} {c z : T2} {P Q f : Nat → Int32} {rest : List va_E} : (encR D N c z P Q ++ rest).set 16 (zA D 6 f) = encR D N (tput c 14 f) z P Q ++ rest := rfl
theorem fr_P {D : xD} {N : Nat} {c z : T2} {P Q f : Nat → Int32} {rest : List va_E} : (encR D N c z P Q ++ rest).set 1 (iA D 239 f) = encR D N c z f Q ++ rest := rfl
theorem fr_Q {D : xD} {N : Nat} {c z : T2} {P Q f : Nat → Int32} {rest : List va_E} : (encR D N c z P Q ++ rest).set 3 (iA D 239 f) = encR D N c z P f ++ rest := rfl
theorem fr_z0 {D : xD} {N : Nat} {c z : T2} {P Q f : Nat → Int32} {rest : List va_E} : (encR D N c z P Q ++ rest).set 2 (iA D 239 f) = encR D N c (tput z 0 f) P Q ++ rest := rfl
theorem fr_z1 {D : xD} {N : Nat} {c z : T2} {P Q f : Nat → Int32} {rest : List va_E} : (encR D N c z P Q ++ rest).set 36 (iA D 6 f) = encR D N c (tput z 1 f) P Q ++ rest := rfl
theorem fr_z2 {D : xD} {N : Nat} {c z : T2} {P Q f : Nat → Int32} {rest : List va_E} : (encR D N c z P Q ++ rest).set 37 (iA D 6 f) = encR D N c (tput z 2 f) P Q ++ rest := rfl
theorem fr_z3 {D : xD} {N : Nat} {c z : T2} {P Q f : Nat → Int32} {rest : List va_E} : (encR D N c z P Q ++ rest).set 38 (iA D 6 f) = encR D N c (tput z 3 f) P Q ++ rest := rfl
theorem fr_z4 {D : xD} {N : Nat} {c z : T2} {P Q f : Nat → Int32} {rest : List va_E} : (encR D N c z P Q ++ rest).set 39 (iA D 4 f) = encR D N c (tput z 4 f) P Q ++ rest := rfl
theorem fr_s0 {D : xD} {N : Nat} {c z : T2} {P Q : Nat → Int32} {v : Int32} {rest : List va_E} : (encR D N c z P Q ++ rest).set 0 (.inr (12, [.ref (N + 1), .ref (N + 2), .ref (N + 3), .int (c 32 0), .ref (N + 4), .ref (N + 5), .ref (N + 6), .int (c 32 1), .ref (N + 7), .ref (N + 8), .ref (N + 9), .ref (N + 10), .ref (N + 11), .ref (N + 12), .int (c 32 2), .ref (N + 13), .int (c 32 3), .int (c 32 4), .int (c 32 5), .int (c 32 6), .ref (N + 14), .ref (N + 15), .ref (N + 16), .int (c 32 7), .ref (N + 17), .ref (N + 18), .ref (N + 19), .ref (N + 20), .ref (N + 21), .ref (N + 22), .ref (N + 23), .int (c 32 8), .int (c 32 9), .ref (N + 24), .ref (N + 25), .ref (N + 26), .ref (N + 27), .ref (N + 28), .ref (N + 29), .ref (N + 30), .ref (N + 31), .ref (N + 32), .ref (N + 33), .ref (N + 34), .ref (N + 35), .int (z 5 0), .ref (N + 36), .ref (N + 37), .ref (N + 38), .ref (N + 39)].set 3 (.int v))) = encR D N (tput c 32 (upd (c 32) 0 v)) z P Q ++ rest := rfl
theorem fr_s1 {D : xD} {N : Nat} {c z : T2} {P Q : Nat → Int32} {v : Int32} {rest : List va_E} : (encR D N c z P Q ++ rest).set 0 (.inr (12, [.ref (N + 1), .ref (N + 2), .ref (N + 3), .int (c 32 0), .ref (N + 4), .ref (N + 5), .ref (N + 6), .int (c 32 1), .ref (N + 7), .ref (N + 8), .ref (N + 9), .ref (N + 10), .ref (N + 11), .ref (N + 12), .int (c 32 2), .ref (N + 13), .int (c 32 3), .int (c 32 4), .int (c 32 5), .int (c 32 6), .ref (N + 14), .ref (N + 15), .ref (N + 16), .int (c 32 7), .ref (N + 17), .ref (N + 18), .ref (N + 19), .ref (N + 20), .ref (N + 21), .ref (N + 22), .ref (N + 23), .int (c 32 8), .int (c 32 9), .ref (N + 24), .ref (N + 25), .ref (N + 26), .ref (N + 27), .ref (N + 28), .ref (N + 29), .ref (N + 30), .ref (N + 31), .ref (N + 32), .ref (N + 33), .ref (N + 34), .ref (N + 35), .int (z 5 0), .ref (N + 36), .ref (N + 37), .ref (N + 38), .ref (N + 39)].set 7 (.int v))) = encR D N (tput c 32 (upd (c 32) 1 v)) z P Q ++ rest := rfl
theorem fr_s2 {D : xD} {N : Nat} {c z : T2} {P Q : Nat → Int32} {v : Int32} {rest : List va_E} : (encR D N c z P Q ++ rest).set 0 (.inr (12, [.ref (N + 1), .ref (N + 2), .ref (N + 3), .int (c 32 0), .ref (N + 4), .ref (N + 5), .ref (N + 6), .int (c 32 1), .ref (N + 7), .ref (N + 8), .ref (N + 9), .ref (N + 10), .ref (N + 11), .ref (N + 12), .int (c 32 2), .ref (N + 13), .int (c 32 3), .int (c 32 4), .int (c 32 5), .int (c 32 6), .ref (N + 14), .ref (N + 15), .ref (N + 16), .int (c 32 7), .ref (N + 17), .ref (N + 18), .ref (N + 19), .ref (N + 20), .ref (N + 21), .ref (N + 22), .ref (N + 23), .int (c 32 8), .int (c 32 9), .ref (N + 24), .ref (N + 25), .ref (N + 26), .ref (N + 27), .ref (N + 28), .ref (N + 29), .ref (N + 30), .ref (N + 31), .ref (N + 32), .ref (N + 33), .ref (N + 34), .ref (N + 35), .int (z 5 0), .ref (N + 36), .ref (N + 37), .ref (N + 38), .ref (N + 39)].set 14 (.int v))) = encR D N (tput c 32 (upd (c 32) 2 v)) z P Q ++ rest := rfl
theorem fr_s3 {D : xD} {N : Nat} {c z : T2} {P Q : Nat → Int32} {v : Int32} {rest : List va_E} : (encR D N c z P Q ++ rest).set 0 (.inr (12, [.ref (N + 1), .ref (N + 2), .ref (N + 3), .int (c 32 0), .ref (N + 4), .ref (N + 5), .ref (N + 6), .int (c 32 1), .ref (N + 7), .ref (N + 8), .ref (N + 9), .ref (N + 10), .ref (N + 11), .ref (N + 12), .int (c 32 2), .ref (N + 13), .int (c 32 3), .int (c 32 4), .int (c 32 5), .int (c 32 6), .ref (N + 14), .ref (N + 15), .ref (N + 16), .int (c 32 7), .ref (N + 17), .ref (N + 18), .ref (N + 19), .ref (N + 20), .ref (N + 21), .ref (N + 22), .ref (N + 23), .int (c 32 8), .int (c 32 9), .ref (N + 24), .ref (N + 25), .ref (N + 26), .ref (N + 27), .ref (N + 28), .ref (N + 29), .ref (N + 30), .ref (N + 31), .ref (N + 32), .ref (N + 33), .ref (N + 34), .ref (N + 35), .int (z 5 0), .ref (N + 36), .ref (N + 37), .ref (N + 38), .ref (N + 39)].set 16 (.int v))) = encR D N (tput c 32 (upd (c 32) 3 v)) z P Q ++ rest := rfl
theorem fr_s4 {D : xD} {N : Nat} {c z : T2} {P Q : Nat → Int32} {v : Int32} {rest : List va_E} : (encR D N c z P Q ++ rest).set 0 (.inr (12, [.ref (N + 1), .ref (N + 2), .ref (N + 3), .int (c 32 0), .ref (N + 4), .ref (N + 5), .ref (N + 6), .int (c 32 1), .ref (N + 7), .ref (N + 8), .ref (N + 9), .ref (N + 10), .ref (N + 11), .ref (N + 12), .int (c 32 2), .ref (N + 13), .int (c 32 3), .int (c 32 4), .int (c 32 5), .int (c 32 6), .ref (N + 14), .ref (N + 15), .ref (N + 16), .int (c 32 7), .ref (N + 17), .ref (N + 18), .ref (N + 19), .ref (N + 20), .ref (N + 21), .ref (N + 22), .ref (N + 23), .int (c 32 8), .int (c 32 9), .ref (N + 24), .ref (N + 25), .ref (N + 26), .ref (N + 27), .ref (N + 28), .ref (N + 29), .ref (N + 30), .ref (N + 31), .ref (N + 32), .ref (N + 33), .ref (N + 34), .ref (N + 35), .int (z 5 0), .ref (N + 36), .ref (N + 37), .ref (N + 38), .ref (N + 39)].set 17 (.int v))) = encR D N (tput c 32 (upd (c 32) 4 v)) z P Q ++ rest := rfl
theorem fr_s5 {D : xD} {N : Nat} {c z : T2} {P Q : Nat → Int32} {v : Int32} {rest : List va_E} : (encR D N c z P Q ++ rest).set 0 (.inr (12, [.ref (N + 1), .ref (N + 2), .ref (N + 3), .int (c 32 0), .ref (N + 4), .ref (N + 5), .ref (N + 6), .int (c 32 1), .ref (N + 7), .ref (N + 8), .ref (N + 9), .ref (N + 10), .ref (N + 11), .ref (N + 12), .int (c 32 2), .ref (N + 13), .int (c 32 3), .int (c 32 4), .int (c 32 5), .int (c 32 6), .ref (N + 14), .ref (N + 15), .ref (N + 16), .int (c 32 7), .ref (N + 17), .ref (N + 18), .ref (N + 19), .ref (N + 20), .ref (N + 21), .ref (N + 22), .ref (N + 23), .int (c 32 8), .int (c 32 9), .ref (N + 24), .ref (N + 25), .ref (N + 26), .ref (N + 27), .ref (N + 28), .ref (N + 29), .ref (N + 30), .ref (N + 31), .ref (N + 32), .ref (N + 33), .ref (N + 34), .ref (N + 35), .int (z 5 0), .ref (N + 36), .ref (N + 37), .ref (N + 38), .ref (N + 39)].set 18 (.int v))) = encR D N (tput c 32 (upd (c 32) 5 v)) z P Q ++ rest := rfl
theorem fr_s6 {D : xD} {N : Nat} {c z : T2} {P Q : Nat → Int32} {v : Int32} {rest : List va_E} : (encR D N c z P Q ++ rest).set 0 (.inr (12, [.ref (N + 1), .ref (N + 2), .ref (N + 3), .int (c 32 0), .ref (N + 4), .ref (N + 5), .ref (N + 6), .int (c 32 1), .ref (N + 7), .ref (N + 8), .ref (N + 9), .ref (N + 10), .ref (N + 11), .ref (N + 12), .int (c 32 2), .ref (N + 13), .int (c 32 3), .int (c 32 4), .int (c 32 5), .int (c 32 6), .ref (N + 14), .ref (N + 15), .ref (N + 16), .int (c 32 7), .ref (N + 17), .ref (N + 18), .ref (N + 19), .ref (N + 20), .ref (N + 21), .ref (N + 22), .ref (N + 23), .int (c 32 8), .int (c 32 9), .ref (N + 24), .ref (N + 25), .ref (N + 26), .ref (N + 27), .ref (N + 28), .ref (N + 29), .ref (N + 30), .ref (N + 31), .ref (N + 32), .ref (N + 33), .ref (N + 34), .ref (N + 35), .int (z 5 0), .ref (N + 36), .ref (N + 37), .ref (N + 38), .ref (N + 39)].set 19 (.int v))) = encR D N (tput c 32 (upd (c 32) 6 v)) z P Q ++ rest := rfl
theorem fr_s7 {D : xD} {N : Nat} {c z : T2} {P Q : Nat → Int32} {v : Int32} {rest : List va_E} : (encR D N c z P Q ++ rest).set 0 (.inr (12, [.ref (N + 1), .ref (N + 2), .ref (N + 3), .int (c 32 0), .ref (N + 4), .ref (N + 5), .ref (N + 6), .int (c 32 1), .ref (N + 7), .ref (N + 8), .ref (N + 9), .ref (N + 10), .ref (N + 11), .ref (N + 12), .int (c 32 2), .ref (N + 13), .int (c 32 3), .int (c 32 4), .int (c 32 5), .int (c 32 6), .ref (N + 14), .ref (N + 15), .ref (N + 16), .int (c 32 7), .ref (N + 17), .ref (N + 18), .ref (N + 19), .ref (N + 20), .ref (N + 21), .ref (N + 22), .ref (N + 23), .int (c 32 8), .int (c 32 9), .ref (N + 24), .ref (N + 25), .ref (N + 26), .ref (N + 27), .ref (N + 28), .ref (N + 29), .ref (N + 30), .ref (N + 31), .ref (N + 32), .ref (N + 33), .ref (N + 34), .ref (N + 35), .int (z 5 0), .ref (N + 36), .ref (N + 37), .ref (N + 38), .ref (N + 39)].set 23 (.int v))) = encR D N (tput c 32 (upd (c 32) 7 v)) z P Q ++ rest := rfl
theorem fr_s8 {D : xD} {N : Nat} {c z : T2} {P Q : Nat → Int32} {v : Int32} {rest : List va_E} : (encR D N c z P Q ++ rest).set 0 (.inr (12, [.ref (N + 1), .ref (N + 2), .ref (N + 3), .int (c 32 0), .ref (N + 4), .ref (N + 5), .ref (N + 6), .int (c 32 1), .ref (N + 7), .ref (N + 8), .ref (N + 9), .ref (N + 10), .ref (N + 11), .ref (N + 12), .int (c 32 2), .ref (N + 13), .int (c 32 3), .int (c 32 4), .int (c 32 5), .int (c 32 6), .ref (N + 14), .ref (N + 15), .ref (N + 16), .int (c 32 7), .ref (N + 17), .ref (N + 18), .ref (N + 19), .ref (N + 20), .ref (N + 21), .ref (N + 22), .ref (N + 23), .int (c 32 8), .int (c 32 9), .ref (N + 24), .ref (N + 25), .ref (N + 26), .ref (N + 27), .ref (N + 28), .ref (N + 29), .ref (N + 30), .ref (N + 31), .ref (N + 32), .ref (N + 33), .ref (N + 34), .ref (N + 35), .int (z 5 0), .ref (N + 36), .ref (N + 37), .ref (N + 38), .ref (N + 39)].set 31 (.int v))) = encR D N (tput c 32 (upd (c 32) 8 v)) z P Q ++ rest := rfl
theorem fr_s9 {D : xD} {N : Nat} {c z : T2} {P Q : Nat → Int32} {v : Int32} {rest : List va_E} : (encR D N c z P Q ++ rest).set 0 (.inr (12, [.ref (N + 1), .ref (N + 2), .ref (N + 3), .int (c 32 0), .ref (N + 4), .ref (N + 5), .ref (N + 6), .int (c 32 1), .ref (N + 7), .ref (N + 8), .ref (N + 9), .ref (N + 10), .ref (N + 11), .ref (N + 12), .int (c 32 2), .ref (N + 13), .int (c 32 3), .int (c 32 4), .int (c 32 5), .int (c 32 6), .ref (N + 14), .ref (N + 15), .ref (N + 16), .int (c 32 7), .ref (N + 17), .ref (N + 18), .ref (N + 19), .ref (N + 20), .ref (N + 21), .ref (N + 22), .ref (N + 23), .int (c 32 8), .int (c 32 9), .ref (N + 24), .ref (N + 25), .ref (N + 26), .ref (N + 27), .ref (N + 28), .ref (N + 29), .ref (N + 30), .ref (N + 31), .ref (N + 32), .ref (N + 33), .ref (N + 34), .ref (N + 35), .int (z 5 0), .ref (N + 36), .ref (N + 37), .ref (N + 38), .ref (N + 39)].set 32 (.int v))) = encR D N (tput c 32 (upd (c 32) 9 v)) z P Q ++ rest := rfl
theorem fr_at {D : xD} {N : Nat} {c z : T2} {P Q : Nat → Int32} {v : Int32} {rest : List va_E} : (encR D N c z P Q ++ rest).set 0 (.inr (12, [.ref (N + 1), .ref (N + 2), .ref (N + 3), .int (c 32 0), .ref (N + 4), .ref (N + 5), .ref (N + 6), .int (c 32 1), .ref (N + 7), .ref (N + 8), .ref (N + 9), .ref (N + 10), .ref (N + 11), .ref (N + 12), .int (c 32 2), .ref (N + 13), .int (c 32 3), .int (c 32 4), .int (c 32 5), .int (c 32 6), .ref (N + 14), .ref (N + 15), .ref (N + 16), .int (c 32 7), .ref (N + 17), .ref (N + 18), .ref (N + 19), .ref (N + 20), .ref (N + 21), .ref (N + 22), .ref (N + 23), .int (c 32 8), .int (c 32 9), .ref (N + 24), .ref (N + 25), .ref (N + 26), .ref (N + 27), .ref (N + 28), .ref (N + 29), .ref (N + 30), .ref (N + 31), .ref (N + 32), .ref (N + 33), .ref (N + 34), .ref (N + 35), .int (z 5 0), .ref (N + 36), .ref (N + 37), .ref (N + 38), .ref (N + 39)].set 45 (.int v))) = encR D N c (tput z 5 (upd (z 5) 0 v)) P Q ++ rest := rfl
end
section
section WX
variable {D : xD} {N : Nat} {l : Launch} {E : EX} {M : MD} {R : Room} {Qf : QF} {k n pc : Nat} {L : List (Nat × Value)} {st : List Value} {g : List va_E}
theorem km_max_s : Cond.static Lib.Math.max.name ∈ lw_good := gw 495 (by decide +kernel) (by decide +kernel)
theorem km_max_i : Cond.initialized "java/lang/Math" ∈ lw_good := gw 17 (by decide +kernel) (by decide +kernel)
theorem km_max_c : Cond.code Lib.Math.max.name Lib.Math.max.code 2 (some .int) ∈ lw_good := gc3 16 rfl rfl
theorem wp_mmax {q idx : Nat} {x y : Int32} (hw : Cond.methodLink M.1.cls idx Lib.Math.max.name ∈ lw_good) (hR : RO R 0) (hd : decode M.2.1 pc = .ok (.invokestatic idx, 3)) (hq : pc + 3 = q) (hcat : (st.map fun v => v.category).sum ≤ 8) (hc : k ≤ R.cells) (hs : n ≤ R.slots) (h : Wp D N l E M R Qf k n q L (.int (if x < y then y else x) :: st) g) : Wp D N l E M R Qf k n pc L (.int y :: .int x :: st) g := by
  subst hq
  intro p e s m args below meth c C H locs ls hH hS hl
  have hts := C.2.2.2.2.1
  exact va_mmax C.1 C.2.1 (by rw [C.2.2.1]; exact hl.1.symm) C.2.2.2.1 (hts _ hw) (hts _ km_max_s) (hts _ km_max_i) (hts _ km_max_c) hR.1 (by have := hR.2; omega) hc hs hd (h p e s m args below meth c C H locs ls hH hS hl)
theorem km_min_s : Cond.static Lib.Math.min.name ∈ lw_good := gw 625 (by decide +kernel) (by decide +kernel)
theorem km_min_i : Cond.initialized "java/lang/Math" ∈ lw_good := gw 17 (by decide +kernel) (by decide +kernel)
theorem km_min_c : Cond.code Lib.Math.min.name Lib.Math.min.code 2 (some .int) ∈ lw_good := gc3 146 rfl rfl
theorem wp_mmin {q idx : Nat} {x y : Int32} (hw : Cond.methodLink M.1.cls idx Lib.Math.min.name ∈ lw_good) (hR : RO R 0) (hd : decode M.2.1 pc = .ok (.invokestatic idx, 3)) (hq : pc + 3 = q) (hcat : (st.map fun v => v.category).sum ≤ 8) (hc : k ≤ R.cells) (hs : n ≤ R.slots) (h : Wp D N l E M R Qf k n q L (.int (if y < x then y else x) :: st) g) : Wp D N l E M R Qf k n pc L (.int y :: .int x :: st) g := by
  subst hq
  intro p e s m args below meth c C H locs ls hH hS hl
  have hts := C.2.2.2.2.1
  exact va_mmin C.1 C.2.1 (by rw [C.2.2.1]; exact hl.1.symm) C.2.2.2.1 (hts _ hw) (hts _ km_min_s) (hts _ km_min_i) (hts _ km_min_c) hR.1 (by have := hR.2; omega) hc hs hd (h p e s m args below meth c C H locs ls hH hS hl)
theorem km_Rn_9 : Cond.methodLink RX6 9 Lib.Math.min.name ∈ lw_good := gw 644 (by decide +kernel) (by decide +kernel)
theorem km_Rn_15 : Cond.methodLink RX6 15 Lib.Math.max.name ∈ lw_good := gw 645 (by decide +kernel) (by decide +kernel)
theorem km_Tp_79 : Cond.methodLink RX8 79 Lib.Math.max.name ∈ lw_good := gw 494 (by decide +kernel) (by decide +kernel)
theorem km_Tn_84 : Cond.methodLink RX9 84 Lib.Math.max.name ∈ lw_good := gw 686 (by decide +kernel) (by decide +kernel)
theorem km_Tn_95 : Cond.methodLink RX9 95 Lib.Math.min.name ∈ lw_good := gw 624 (by decide +kernel) (by decide +kernel)
theorem wp_aldR {q i j m' a : Nat} {f : Nat → Option Nat} (hd : decode M.2.1 pc = .ok (.aaload, 1)) (hq : pc + 1 = q) (hr : g[i]? = some (oA D 4 m' f)) (hj : j < m') (hm : m' < 2147483648) (hv : f j = some a) (h : Wp D N l E M R Qf k n q L (.ref a :: st) g) : Wp D N l E M R Qf k n pc L (.int (nI j) :: .ref (N + i) :: st) g :=
  wp_aaldR hd hq hr hj hm (by rw [hv]; exact h)
theorem wp_aldRn {q i j m' : Nat} {f : Nat → Option Nat} (hd : decode M.2.1 pc = .ok (.aaload, 1)) (hq : pc + 1 = q) (hr : g[i]? = some (oA D 4 m' f)) (hj : j < m') (hm : m' < 2147483648) (hv : f j = none) (h : Wp D N l E M R Qf k n q L (.null :: st) g) : Wp D N l E M R Qf k n pc L (.int (nI j) :: .ref (N + i) :: st) g :=
  wp_aaldR hd hq hr hj hm (by rw [hv]; exact h)
theorem wp_aldL {q i j m' a : Nat} {f : Nat → Option Nat} (hd : decode M.2.1 pc = .ok (.aaload, 1)) (hq : pc + 1 = q) (hr : g[i]? = some (oA D 5 m' f)) (hj : j < m') (hm : m' < 2147483648) (hv : f j = some a) (h : Wp D N l E M R Qf k n q L (.ref a :: st) g) : Wp D N l E M R Qf k n pc L (.int (nI j) :: .ref (N + i) :: st) g :=
  wp_aaldL hd hq hr hj hm (by rw [hv]; exact h)
theorem wp_aldLn {q i j m' : Nat} {f : Nat → Option Nat} (hd : decode M.2.1 pc = .ok (.aaload, 1)) (hq : pc + 1 = q) (hr : g[i]? = some (oA D 5 m' f)) (hj : j < m') (hm : m' < 2147483648) (hv : f j = none) (h : Wp D N l E M R Qf k n q L (.null :: st) g) : Wp D N l E M R Qf k n pc L (.int (nI j) :: .ref (N + i) :: st) g :=
  wp_aaldL hd hq hr hj hm (by rw [hv]; exact h)
theorem wp_aldK {q i j m' a : Nat} {f : Nat → Option Nat} (hd : decode M.2.1 pc = .ok (.aaload, 1)) (hq : pc + 1 = q) (hr : g[i]? = some (oA D 6 m' f)) (hj : j < m') (hm : m' < 2147483648) (hv : f j = some a) (h : Wp D N l E M R Qf k n q L (.ref a :: st) g) : Wp D N l E M R Qf k n pc L (.int (nI j) :: .ref (N + i) :: st) g :=
  wp_aaldK hd hq hr hj hm (by rw [hv]; exact h)
theorem wp_aldKn {q i j m' : Nat} {f : Nat → Option Nat} (hd : decode M.2.1 pc = .ok (.aaload, 1)) (hq : pc + 1 = q) (hr : g[i]? = some (oA D 6 m' f)) (hj : j < m') (hm : m' < 2147483648) (hv : f j = none) (h : Wp D N l E M R Qf k n q L (.null :: st) g) : Wp D N l E M R Qf k n pc L (.int (nI j) :: .ref (N + i) :: st) g :=
  wp_aaldK hd hq hr hj hm (by rw [hv]; exact h)
theorem wp_aldA {q i j m' a : Nat} {f : Nat → Option Nat} (hd : decode M.2.1 pc = .ok (.aaload, 1)) (hq : pc + 1 = q) (hr : g[i]? = some (oA D 7 m' f)) (hj : j < m') (hm : m' < 2147483648) (hv : f j = some a) (h : Wp D N l E M R Qf k n q L (.ref a :: st) g) : Wp D N l E M R Qf k n pc L (.int (nI j) :: .ref (N + i) :: st) g :=
  wp_aaldA hd hq hr hj hm (by rw [hv]; exact h)
theorem wp_aldAn {q i j m' : Nat} {f : Nat → Option Nat} (hd : decode M.2.1 pc = .ok (.aaload, 1)) (hq : pc + 1 = q) (hr : g[i]? = some (oA D 7 m' f)) (hj : j < m') (hm : m' < 2147483648) (hv : f j = none) (h : Wp D N l E M R Qf k n q L (.null :: st) g) : Wp D N l E M R Qf k n pc L (.int (nI j) :: .ref (N + i) :: st) g :=
  wp_aaldA hd hq hr hj hm (by rw [hv]; exact h)
end WX
set_option maxRecDepth 100000 in
theorem fc_2 {D : xD} {N : Nat} {c x V : T2} {ln df : Nat → Option Nat} {rest : List va_E} {f : Nat → Int32} : (encC D N c x V ln df ++ rest).set 2 (iA D 36 f) = encC D N (tput c 2 f) x V ln df ++ rest := rfl
set_option maxRecDepth 100000 in
theorem fc_3 {D : xD} {N : Nat} {c x V : T2} {ln df : Nat → Option Nat} {rest : List va_E} {f : Nat → Int32} : (encC D N c x V ln df ++ rest).set 3 (iA D 36 f) = encC D N (tput c 3 f) x V ln df ++ rest := rfl
set_option maxRecDepth 100000 in
theorem fc_4 {D : xD} {N : Nat} {c x V : T2} {ln df : Nat → Option Nat} {rest : List va_E} {f : Nat → Int32} : (encC D N c x V ln df ++ rest).set 4 (iA D 24 f) = encC D N (tput c 4 f) x V ln df ++ rest := rfl
set_option maxRecDepth 100000 in
theorem fc_5 {D : xD} {N : Nat} {c x V : T2} {ln df : Nat → Option Nat} {rest : List va_E} {f : Nat → Int32} : (encC D N c x V ln df ++ rest).set 5 (iA D 12 f) = encC D N (tput c 5 f) x V ln df ++ rest := rfl
set_option maxRecDepth 100000 in
theorem fc_6 {D : xD} {N : Nat} {c x V : T2} {ln df : Nat → Option Nat} {rest : List va_E} {f : Nat → Int32} : (encC D N c x V ln df ++ rest).set 6 (iA D 12 f) = encC D N (tput c 6 f) x V ln df ++ rest := rfl
set_option maxRecDepth 100000 in
theorem fc_7 {D : xD} {N : Nat} {c x V : T2} {ln df : Nat → Option Nat} {rest : List va_E} {f : Nat → Int32} : (encC D N c x V ln df ++ rest).set 7 (iA D 12 f) = encC D N (tput c 7 f) x V ln df ++ rest := rfl
set_option maxRecDepth 100000 in
theorem fc_8 {D : xD} {N : Nat} {c x V : T2} {ln df : Nat → Option Nat} {rest : List va_E} {f : Nat → Int32} : (encC D N c x V ln df ++ rest).set 8 (iA D 12 f) = encC D N (tput c 8 f) x V ln df ++ rest := rfl
set_option maxRecDepth 100000 in
theorem fc_9 {D : xD} {N : Nat} {c x V : T2} {ln df : Nat → Option Nat} {rest : List va_E} {f : Nat → Int32} : (encC D N c x V ln df ++ rest).set 9 (iA D 12 f) = encC D N (tput c 9 f) x V ln df ++ rest := rfl
set_option maxRecDepth 100000 in
theorem fc_11 {D : xD} {N : Nat} {c x V : T2} {ln df : Nat → Option Nat} {rest : List va_E} {f : Nat → Int32} : (encC D N c x V ln df ++ rest).set 11 (iA D 6 f) = encC D N (tput c 10 f) x V ln df ++ rest := rfl
set_option maxRecDepth 100000 in
theorem fc_122 {D : xD} {N : Nat} {c x V : T2} {ln df : Nat → Option Nat} {rest : List va_E} {f : Nat → Int32} : (encC D N c x V ln df ++ rest).set 122 (iA D 4 f) = encC D N (tput c 30 f) x V ln df ++ rest := rfl
set_option maxRecDepth 100000 in
theorem fc_123 {D : xD} {N : Nat} {c x V : T2} {ln df : Nat → Option Nat} {rest : List va_E} {f : Nat → Int32} : (encC D N c x V ln df ++ rest).set 123 (iA D 4 f) = encC D N (tput c 29 f) x V ln df ++ rest := rfl
set_option maxRecDepth 100000 in
theorem fc_83 {D : xD} {N : Nat} {c x V : T2} {ln df : Nat → Option Nat} {rest : List va_E} {f : Nat → Int32} : (encC D N c x V ln df ++ rest).set 83 (iA D 6 f) = encC D N (tput c 12 f) x V ln df ++ rest := rfl
set_option maxRecDepth 100000 in
theorem fc_84 {D : xD} {N : Nat} {c x V : T2} {ln df : Nat → Option Nat} {rest : List va_E} {f : Nat → Int32} : (encC D N c x V ln df ++ rest).set 84 (iA D 6 f) = encC D N (tput c 13 f) x V ln df ++ rest := rfl
set_option maxRecDepth 100000 in
theorem fc_85 {D : xD} {N : Nat} {c x V : T2} {ln df : Nat → Option Nat} {rest : List va_E} {f : Nat → Int32} : (encC D N c x V ln df ++ rest).set 85 (iA D 6 f) = encC D N (tput c 14 f) x V ln df ++ rest := rfl
set_option maxRecDepth 100000 in
theorem fc_13 {D : xD} {N : Nat} {c x V : T2} {ln df : Nat → Option Nat} {rest : List va_E} {f : Nat → Int32} : (encC D N c x V ln df ++ rest).set 13 (iA D 8 f) = encC D N c (tput x 1 f) V ln df ++ rest := rfl
set_option maxRecDepth 100000 in
theorem fc_14 {D : xD} {N : Nat} {c x V : T2} {ln df : Nat → Option Nat} {rest : List va_E} {f : Nat → Int32} : (encC D N c x V ln df ++ rest).set 14 (iA D 6 f) = encC D N c (tput x 2 f) V ln df ++ rest := rfl
set_option maxRecDepth 100000 in
theorem fc_10 {D : xD} {N : Nat} {c x V : T2} {ln df : Nat → Option Nat} {rest : List va_E} {f : Nat → Option Nat} : (encC D N c x V ln df ++ rest).set 10 (oA D 5 48 f) = encC D N c x V f df ++ rest := rfl
set_option maxRecDepth 100000 in
theorem fc_74 {D : xD} {N : Nat} {c x V : T2} {ln df : Nat → Option Nat} {rest : List va_E} {f : Nat → Option Nat} : (encC D N c x V ln df ++ rest).set 74 (oA D 5 8 f) = encC D N c x V ln f ++ rest := rfl
set_option maxRecDepth 100000 in
theorem fc_s0 {D : xD} {N : Nat} {c x V : T2} {ln df : Nat → Option Nat} {rest : List va_E} {v : Int32} : (encC D N c x V ln df ++ rest).set 0 (.inr (11, [.ref (N + 1), .ref (N + 21), .ref (N + 38), .ref (N + 55), .int (c 32 0), .ref (N + 72), .int (c 32 2), .ref (N + 75), .int (c 32 3), .int (c 32 4), .int (c 32 5), .int (c 32 6), .ref (N + 82), .ref (N + 86), .int (c 32 7), .ref (N + 117), .ref (N + 122), .ref (N + 123)].set 4 (.int v))) = encC D N (tput c 32 (upd (c 32) 0 v)) x V ln df ++ rest := rfl
set_option maxRecDepth 100000 in
theorem fc_s2 {D : xD} {N : Nat} {c x V : T2} {ln df : Nat → Option Nat} {rest : List va_E} {v : Int32} : (encC D N c x V ln df ++ rest).set 0 (.inr (11, [.ref (N + 1), .ref (N + 21), .ref (N + 38), .ref (N + 55), .int (c 32 0), .ref (N + 72), .int (c 32 2), .ref (N + 75), .int (c 32 3), .int (c 32 4), .int (c 32 5), .int (c 32 6), .ref (N + 82), .ref (N + 86), .int (c 32 7), .ref (N + 117), .ref (N + 122), .ref (N + 123)].set 6 (.int v))) = encC D N (tput c 32 (upd (c 32) 2 v)) x V ln df ++ rest := rfl
set_option maxRecDepth 100000 in
theorem fc_s3 {D : xD} {N : Nat} {c x V : T2} {ln df : Nat → Option Nat} {rest : List va_E} {v : Int32} : (encC D N c x V ln df ++ rest).set 0 (.inr (11, [.ref (N + 1), .ref (N + 21), .ref (N + 38), .ref (N + 55), .int (c 32 0), .ref (N + 72), .int (c 32 2), .ref (N + 75), .int (c 32 3), .int (c 32 4), .int (c 32 5), .int (c 32 6), .ref (N + 82), .ref (N + 86), .int (c 32 7), .ref (N + 117), .ref (N + 122), .ref (N + 123)].set 8 (.int v))) = encC D N (tput c 32 (upd (c 32) 3 v)) x V ln df ++ rest := rfl
set_option maxRecDepth 100000 in
theorem fc_s4 {D : xD} {N : Nat} {c x V : T2} {ln df : Nat → Option Nat} {rest : List va_E} {v : Int32} : (encC D N c x V ln df ++ rest).set 0 (.inr (11, [.ref (N + 1), .ref (N + 21), .ref (N + 38), .ref (N + 55), .int (c 32 0), .ref (N + 72), .int (c 32 2), .ref (N + 75), .int (c 32 3), .int (c 32 4), .int (c 32 5), .int (c 32 6), .ref (N + 82), .ref (N + 86), .int (c 32 7), .ref (N + 117), .ref (N + 122), .ref (N + 123)].set 9 (.int v))) = encC D N (tput c 32 (upd (c 32) 4 v)) x V ln df ++ rest := rfl
set_option maxRecDepth 100000 in
theorem fc_s5 {D : xD} {N : Nat} {c x V : T2} {ln df : Nat → Option Nat} {rest : List va_E} {v : Int32} : (encC D N c x V ln df ++ rest).set 0 (.inr (11, [.ref (N + 1), .ref (N + 21), .ref (N + 38), .ref (N + 55), .int (c 32 0), .ref (N + 72), .int (c 32 2), .ref (N + 75), .int (c 32 3), .int (c 32 4), .int (c 32 5), .int (c 32 6), .ref (N + 82), .ref (N + 86), .int (c 32 7), .ref (N + 117), .ref (N + 122), .ref (N + 123)].set 10 (.int v))) = encC D N (tput c 32 (upd (c 32) 5 v)) x V ln df ++ rest := rfl
set_option maxRecDepth 100000 in
theorem fc_s6 {D : xD} {N : Nat} {c x V : T2} {ln df : Nat → Option Nat} {rest : List va_E} {v : Int32} : (encC D N c x V ln df ++ rest).set 0 (.inr (11, [.ref (N + 1), .ref (N + 21), .ref (N + 38), .ref (N + 55), .int (c 32 0), .ref (N + 72), .int (c 32 2), .ref (N + 75), .int (c 32 3), .int (c 32 4), .int (c 32 5), .int (c 32 6), .ref (N + 82), .ref (N + 86), .int (c 32 7), .ref (N + 117), .ref (N + 122), .ref (N + 123)].set 11 (.int v))) = encC D N (tput c 32 (upd (c 32) 6 v)) x V ln df ++ rest := rfl
set_option maxRecDepth 100000 in
theorem fc_s1 {D : xD} {N : Nat} {c x V : T2} {ln df : Nat → Option Nat} {rest : List va_E} {v : Int32} : (encC D N c x V ln df ++ rest).set 1 (.inr (9, [.ref (N + 2), .ref (N + 3), .ref (N + 4), .ref (N + 5), .ref (N + 6), .ref (N + 7), .ref (N + 8), .ref (N + 9), .int (c 32 1), .ref (N + 10), .int (c 32 9), .ref (N + 11), .ref (N + 12), .ref (N + 13), .ref (N + 14)].set 8 (.int v))) = encC D N (tput c 32 (upd (c 32) 1 v)) x V ln df ++ rest := rfl
set_option maxRecDepth 100000 in
theorem fc_s9 {D : xD} {N : Nat} {c x V : T2} {ln df : Nat → Option Nat} {rest : List va_E} {v : Int32} : (encC D N c x V ln df ++ rest).set 1 (.inr (9, [.ref (N + 2), .ref (N + 3), .ref (N + 4), .ref (N + 5), .ref (N + 6), .ref (N + 7), .ref (N + 8), .ref (N + 9), .int (c 32 1), .ref (N + 10), .int (c 32 9), .ref (N + 11), .ref (N + 12), .ref (N + 13), .ref (N + 14)].set 10 (.int v))) = encC D N (tput c 32 (upd (c 32) 9 v)) x V ln df ++ rest := rfl
set_option maxRecDepth 100000 in
theorem fc_s8 {D : xD} {N : Nat} {c x V : T2} {ln df : Nat → Option Nat} {rest : List va_E} {v : Int32} : (encC D N c x V ln df ++ rest).set 72 (.inr (8, [.ref (N + 73), .int (c 32 8), .int (x 3 0), .ref (N + 74), .int (x 3 1)].set 1 (.int v))) = encC D N (tput c 32 (upd (c 32) 8 v)) x V ln df ++ rest := rfl
set_option maxRecDepth 100000 in
theorem fc_x30 {D : xD} {N : Nat} {c x V : T2} {ln df : Nat → Option Nat} {rest : List va_E} {v : Int32} : (encC D N c x V ln df ++ rest).set 72 (.inr (8, [.ref (N + 73), .int (c 32 8), .int (x 3 0), .ref (N + 74), .int (x 3 1)].set 2 (.int v))) = encC D N c (tput x 3 (upd (x 3) 0 v)) V ln df ++ rest := rfl
set_option maxRecDepth 100000 in
theorem fc_x31 {D : xD} {N : Nat} {c x V : T2} {ln df : Nat → Option Nat} {rest : List va_E} {v : Int32} : (encC D N c x V ln df ++ rest).set 72 (.inr (8, [.ref (N + 73), .int (c 32 8), .int (x 3 0), .ref (N + 74), .int (x 3 1)].set 4 (.int v))) = encC D N c (tput x 3 (upd (x 3) 1 v)) V ln df ++ rest := rfl
set_option maxRecDepth 100000 in
theorem fc_73 {D : xD} {N : Nat} {c x V : T2} {ln df : Nat → Option Nat} {rest : List va_E} {j : Nat} {v b : Int32} (hb : b = v.toInt8.toInt32) : (encC D N c x V ln df ++ rest).set 73 (bA D 160 (upd (fun i => (c 21 i).toInt8.toInt32) j b)) = encC D N (tput c 21 (upd (c 21) j v)) x V ln df ++ rest := by
  have e : upd (fun i => (c 21 i).toInt8.toInt32) j b = fun i => ((tput c 21 (upd (c 21) j v)) 21 i).toInt8.toInt32 := by
    rw [tput_eq]
    funext i
    by_cases h : i = j
    · subst h; simp [upd, hb]
    · simp [upd, h]
  rw [e]
  rfl
theorem wc_len {D : xD} {N wb : Nat} {P : Nat → Int32} : (wcells D N wb P).length = 17 := rfl
theorem encA_len {D : xD} {N : Nat} {c x : T2} {ln : Nat → Option Nat} : (encA D N c x ln).length = 21 := rfl
theorem encC_len {D : xD} {N : Nat} {c x V : T2} {ln df : Nat → Option Nat} : (encC D N c x V ln df).length = 124 := rfl
theorem rd_w {D : xD} {N : Nat} {c x V : T2} {ln df : Nat → Option Nat} {rest : List va_E} {w i : Nat} (hw : w < 3) (hi : i < 17) : (encC D N c x V ln df ++ rest)[wA w + i]? = (wcells D N (wA w) (V w))[i]? := by
  unfold encC
  match w, hw with
  | 0, _ =>
    rw [show wA 0 + i = 21 + i from rfl, List.append_assoc, List.getElem?_append_right (by rw [encA_len]; omega), encA_len, show 21 + i - 21 = i by omega, List.append_assoc, List.getElem?_append_left (by rw [wc_len]; exact hi)]
  | 1, _ =>
    rw [show wA 1 + i = 38 + i from rfl, List.append_assoc, List.getElem?_append_right (by rw [encA_len]; omega), encA_len, List.append_assoc, List.getElem?_append_right (by rw [wc_len]; omega), wc_len, show 38 + i - 21 - 17 = i by omega, List.append_assoc, List.getElem?_append_left (by rw [wc_len]; exact hi)]
  | 2, _ =>
    rw [show wA 2 + i = 55 + i from rfl, List.append_assoc, List.getElem?_append_right (by rw [encA_len]; omega), encA_len, List.append_assoc, List.getElem?_append_right (by rw [wc_len]; omega), wc_len, List.append_assoc, List.getElem?_append_right (by rw [wc_len]; omega), wc_len, show 55 + i - 21 - 17 - 17 = i by omega, List.append_assoc, List.getElem?_append_left (by rw [wc_len]; exact hi)]
theorem fd_w {D : xD} {N : Nat} {c x V : T2} {ln df : Nat → Option Nat} {rest : List va_E} {w i : Nat} {e : va_E} {P2 : Nat → Int32} (hw : w < 3) (hi : i < 17) (h : (wcells D N (wA w) (V w)).set i e = wcells D N (wA w) P2) : (encC D N c x V ln df ++ rest).set (wA w + i) e = encC D N c x (va_up V w P2) ln df ++ rest := by
  unfold encC
  match w, hw with
  | 0, _ =>
    rw [show wA 0 + i = 21 + i from rfl, List.append_assoc, List.set_append_right _ _ (by rw [encA_len]; omega), encA_len, show 21 + i - 21 = i by omega, List.append_assoc, List.set_append_left _ _ (by rw [wc_len]; exact hi)]
    rw [show wcells D N 21 (V 0) = wcells D N (wA 0) (V 0) from rfl, h]
    simp [va_up]
  | 1, _ =>
    rw [show wA 1 + i = 38 + i from rfl, List.append_assoc, List.set_append_right _ _ (by rw [encA_len]; omega), encA_len, List.append_assoc, List.set_append_right _ _ (by rw [wc_len]; omega), wc_len, show 38 + i - 21 - 17 = i by omega, List.append_assoc, List.set_append_left _ _ (by rw [wc_len]; exact hi)]
    rw [show wcells D N 38 (V 1) = wcells D N (wA 1) (V 1) from rfl, h]
    simp [va_up]
  | 2, _ =>
    rw [show wA 2 + i = 55 + i from rfl, List.append_assoc, List.set_append_right _ _ (by rw [encA_len]; omega), encA_len, List.append_assoc, List.set_append_right _ _ (by rw [wc_len]; omega), wc_len, List.append_assoc, List.set_append_right _ _ (by rw [wc_len]; omega), wc_len, show 55 + i - 21 - 17 - 17 = i by omega, List.append_assoc, List.set_append_left _ _ (by rw [wc_len]; exact hi)]
    rw [show wcells D N 55 (V 2) = wcells D N (wA 2) (V 2) from rfl, h]
    simp [va_up]
theorem rdg {D : xD} {N : Nat} {c x V : T2} {P : Nat → Int32} {ln df : Nat → Option Nat} {rest : List va_E} {w i : Nat} (hw : w < 3) (hi : i < 17) : (encC D N c x (va_up V w P) ln df ++ rest)[wA w + i]? = (wcells D N (wA w) P)[i]? := by
  rw [rd_w hw hi, va_up_self]
theorem fdw {D : xD} {N : Nat} {c x V : T2} {P P2 : Nat → Int32} {ln df : Nat → Option Nat} {rest : List va_E} {w i : Nat} {e : va_E} (hw : w < 3) (hi : i < 17) (h : (wcells D N (wA w) P).set i e = wcells D N (wA w) P2) : (encC D N c x (va_up V w P) ln df ++ rest).set (wA w + i) e = encC D N c x (va_up V w P2) ln df ++ rest := by
  rw [fd_w hw hi (P2 := P2) (by rw [va_up_self]; exact h), bx_uu]
theorem rdO {D : xD} {N : Nat} {c x V : T2} {P : Nat → Int32} {ln df : Nat → Option Nat} {rest : List va_E} {w : Nat} (hw : w < 3) : (encC D N c x (va_up V w P) ln df ++ rest)[wA w]? = some (wObj N (wA w) P) := (rdg (i := 0) hw (by decide)).trans rfl
theorem rd1 {D : xD} {N : Nat} {c x V : T2} {P : Nat → Int32} {ln df : Nat → Option Nat} {rest : List va_E} {w : Nat} (hw : w < 3) : (encC D N c x (va_up V w P) ln df ++ rest)[wA w + 1]? = some (iA D 36 (sl P 0 36)) := (rdg (i := 1) hw (by decide)).trans rfl
theorem rd2 {D : xD} {N : Nat} {c x V : T2} {P : Nat → Int32} {ln df : Nat → Option Nat} {rest : List va_E} {w : Nat} (hw : w < 3) : (encC D N c x (va_up V w P) ln df ++ rest)[wA w + 2]? = some (iA D 36 (sl P 36 36)) := (rdg (i := 2) hw (by decide)).trans rfl
theorem rd3 {D : xD} {N : Nat} {c x V : T2} {P : Nat → Int32} {ln df : Nat → Option Nat} {rest : List va_E} {w : Nat} (hw : w < 3) : (encC D N c x (va_up V w P) ln df ++ rest)[wA w + 3]? = some (iA D 6 (sl P 228 6)) := (rdg (i := 3) hw (by decide)).trans rfl
theorem rd4 {D : xD} {N : Nat} {c x V : T2} {P : Nat → Int32} {ln df : Nat → Option Nat} {rest : List va_E} {w : Nat} (hw : w < 3) : (encC D N c x (va_up V w P) ln df ++ rest)[wA w + 4]? = some (oA D 4 12 (rowsW N (wA w))) := (rdg (i := 4) hw (by decide)).trans rfl
theorem rdR {D : xD} {N : Nat} {c x V : T2} {P : Nat → Int32} {ln df : Nat → Option Nat} {rest : List va_E} {w b : Nat} (hw : w < 3) (hb : b < 12) : (encC D N c x (va_up V w P) ln df ++ rest)[wA w + (5 + b)]? = some (rideC P b) := by
  rw [rdg hw (by omega)]
  show (_ :: _ :: _ :: _ :: _ :: (List.range 12).map (rideC P))[5 + b]? = _
  rw [show 5 + b = b + 1 + 1 + 1 + 1 + 1 by omega]
  simp only [List.getElem?_cons_succ, List.getElem?_map, List.getElem?_range hb, Option.map_some]
theorem map_set {α : Type} {f f2 : Nat → α} {n b : Nat} (h : ∀ i, i ≠ b → f2 i = f i) : ((List.range n).map f).set b (f2 b) = (List.range n).map f2 := by
  apply List.ext_getElem?
  intro i
  by_cases hb : b < n
  · by_cases e : b = i
    · subst e
      rw [List.getElem?_set_self (by simpa using hb)]
      simp [hb]
    · rw [List.getElem?_set_ne e]
      by_cases hi : i < n
      · simp [hi, h i (Ne.symm e)]
      · simp [hi]
  · rw [List.set_eq_of_length_le (by simpa using hb)]
    by_cases hi : i < n
    · simp [hi, h i (by omega)]
    · simp [hi]
theorem map_set2 {α : Type} {f f2 : Nat → α} {n b : Nat} (h : ∀ i, i ≠ b → i < n → f2 i = f i) : ((List.range n).map f).set b (f2 b) = (List.range n).map f2 := by
  apply List.ext_getElem?
  intro i
  by_cases hb : b < n
  · by_cases e : b = i
    · subst e
      rw [List.getElem?_set_self (by simpa using hb)]
      simp [hb]
    · rw [List.getElem?_set_ne e]
      by_cases hi : i < n
      · simp [hi, h i (Ne.symm e) hi]
      · simp [hi]
  · rw [List.set_eq_of_length_le (by simpa using hb)]
    by_cases hi : i < n
    · simp [hi, h i (by omega) hi]
    · simp [hi]
theorem ride_out {P : Nat → Int32} {k : Nat} {v : Int32} (h : k < 72 ∨ 228 ≤ k) : (List.range 12).map (rideC (upd P k v)) = (List.range 12).map (rideC P) := by
  apply List.map_congr_left
  intro b hb
  have hb : b < 12 := List.mem_range.mp hb
  simp only [rideC]
  rw [upd_ne (a := 72 + b) _ _ (by omega), upd_ne (a := 84 + b) _ _ (by omega), upd_ne (a := 96 + b) _ _ (by omega), upd_ne (a := 108 + b) _ _ (by omega), upd_ne (a := 120 + b) _ _ (by omega), upd_ne (a := 132 + b) _ _ (by omega), upd_ne (a := 144 + b) _ _ (by omega), upd_ne (a := 156 + b) _ _ (by omega), upd_ne (a := 168 + b) _ _ (by omega), upd_ne (a := 180 + b) _ _ (by omega), upd_ne (a := 192 + b) _ _ (by omega), upd_ne (a := 204 + b) _ _ (by omega), upd_ne (a := 216 + b) _ _ (by omega)]
theorem ws_o0 {D : xD} {N wb : Nat} {P : Nat → Int32} {v : Int32} : (wcells D N wb P).set 0 (.inr (10, [.int (P 234), .int (P 235), .int (P 236), .int (P 237), .int (P 238), .ref (N + (wb + 1)), .ref (N + (wb + 2)), .ref (N + (wb + 3)), .ref (N + (wb + 4))].set 0 (.int v))) = wcells D N wb (upd P 234 v) := by
  unfold wcells
  rw [ride_out (Or.inr (by decide)), sl_out (Or.inr (by decide)), sl_out (Or.inr (by decide)), sl_out (Or.inr (by decide))]
  rfl
theorem ws_o1 {D : xD} {N wb : Nat} {P : Nat → Int32} {v : Int32} : (wcells D N wb P).set 0 (.inr (10, [.int (P 234), .int (P 235), .int (P 236), .int (P 237), .int (P 238), .ref (N + (wb + 1)), .ref (N + (wb + 2)), .ref (N + (wb + 3)), .ref (N + (wb + 4))].set 1 (.int v))) = wcells D N wb (upd P 235 v) := by
  unfold wcells
  rw [ride_out (Or.inr (by decide)), sl_out (Or.inr (by decide)), sl_out (Or.inr (by decide)), sl_out (Or.inr (by decide))]
  rfl
theorem ws_o2 {D : xD} {N wb : Nat} {P : Nat → Int32} {v : Int32} : (wcells D N wb P).set 0 (.inr (10, [.int (P 234), .int (P 235), .int (P 236), .int (P 237), .int (P 238), .ref (N + (wb + 1)), .ref (N + (wb + 2)), .ref (N + (wb + 3)), .ref (N + (wb + 4))].set 2 (.int v))) = wcells D N wb (upd P 236 v) := by
  unfold wcells
  rw [ride_out (Or.inr (by decide)), sl_out (Or.inr (by decide)), sl_out (Or.inr (by decide)), sl_out (Or.inr (by decide))]
  rfl
theorem ws_o3 {D : xD} {N wb : Nat} {P : Nat → Int32} {v : Int32} : (wcells D N wb P).set 0 (.inr (10, [.int (P 234), .int (P 235), .int (P 236), .int (P 237), .int (P 238), .ref (N + (wb + 1)), .ref (N + (wb + 2)), .ref (N + (wb + 3)), .ref (N + (wb + 4))].set 3 (.int v))) = wcells D N wb (upd P 237 v) := by
  unfold wcells
  rw [ride_out (Or.inr (by decide)), sl_out (Or.inr (by decide)), sl_out (Or.inr (by decide)), sl_out (Or.inr (by decide))]
  rfl
theorem ws_o4 {D : xD} {N wb : Nat} {P : Nat → Int32} {v : Int32} : (wcells D N wb P).set 0 (.inr (10, [.int (P 234), .int (P 235), .int (P 236), .int (P 237), .int (P 238), .ref (N + (wb + 1)), .ref (N + (wb + 2)), .ref (N + (wb + 3)), .ref (N + (wb + 4))].set 4 (.int v))) = wcells D N wb (upd P 238 v) := by
  unfold wcells
  rw [ride_out (Or.inr (by decide)), sl_out (Or.inr (by decide)), sl_out (Or.inr (by decide)), sl_out (Or.inr (by decide))]
  rfl
theorem ws_c {D : xD} {N wb j : Nat} {P : Nat → Int32} {v : Int32} (hj : j < 36) : (wcells D N wb P).set 1 (iA D 36 (upd (sl P 0 36) j v)) = wcells D N wb (upd P (0 + j) v) := by
  unfold wcells
  rw [ride_out (by omega), sl_in hj]
  rw [sl_out (o := 36) (by omega), sl_out (o := 228) (by omega)]
  simp only [List.set_cons_succ, List.set_cons_zero, wObj]
  rw [upd_ne (a := 234) _ _ (by omega), upd_ne (a := 235) _ _ (by omega), upd_ne (a := 236) _ _ (by omega), upd_ne (a := 237) _ _ (by omega), upd_ne (a := 238) _ _ (by omega)]
theorem ws_p {D : xD} {N wb j : Nat} {P : Nat → Int32} {v : Int32} (hj : j < 36) : (wcells D N wb P).set 2 (iA D 36 (upd (sl P 36 36) j v)) = wcells D N wb (upd P (36 + j) v) := by
  unfold wcells
  rw [ride_out (by omega), sl_in hj]
  rw [sl_out (o := 0) (by omega), sl_out (o := 228) (by omega)]
  simp only [List.set_cons_succ, List.set_cons_zero, wObj]
  rw [upd_ne (a := 234) _ _ (by omega), upd_ne (a := 235) _ _ (by omega), upd_ne (a := 236) _ _ (by omega), upd_ne (a := 237) _ _ (by omega), upd_ne (a := 238) _ _ (by omega)]
theorem ws_n {D : xD} {N wb j : Nat} {P : Nat → Int32} {v : Int32} (hj : j < 6) : (wcells D N wb P).set 3 (iA D 6 (upd (sl P 228 6) j v)) = wcells D N wb (upd P (228 + j) v) := by
  unfold wcells
  rw [ride_out (by omega), sl_in hj]
  rw [sl_out (o := 0) (by omega), sl_out (o := 36) (by omega)]
  simp only [List.set_cons_succ, List.set_cons_zero, wObj]
  rw [upd_ne (a := 234) _ _ (by omega), upd_ne (a := 235) _ _ (by omega), upd_ne (a := 236) _ _ (by omega), upd_ne (a := 237) _ _ (by omega), upd_ne (a := 238) _ _ (by omega)]
theorem ws_r0 {D : xD} {N wb b : Nat} {P : Nat → Int32} {v : Int32} (hb : b < 12) : (wcells D N wb P).set (5 + b) (.inr (5, [.int (P (72 + b)), .int (P (84 + b)), .int (P (96 + b)), .int (P (108 + b)), .int (P (120 + b)), .int (P (132 + b)), .int (P (144 + b)), .int (P (156 + b)), .int (P (168 + b)), .int (P (180 + b)), .int (P (192 + b)), .int (P (204 + b)), .int (P (216 + b))].set 0 (.int v))) = wcells D N wb (upd P (72 + b) v) := by
  unfold wcells
  rw [sl_out (o := 0) (by omega), sl_out (o := 36) (by omega), sl_out (o := 228) (by omega)]
  rw [show 5 + b = b + 1 + 1 + 1 + 1 + 1 by omega]
  simp only [List.set_cons_succ, List.set_cons_zero, wObj]
  rw [upd_ne (a := 234) _ _ (by omega), upd_ne (a := 235) _ _ (by omega), upd_ne (a := 236) _ _ (by omega), upd_ne (a := 237) _ _ (by omega), upd_ne (a := 238) _ _ (by omega)]
  have h2 : (Sum.inr (5, [.int v, .int (P (84 + b)), .int (P (96 + b)), .int (P (108 + b)), .int (P (120 + b)), .int (P (132 + b)), .int (P (144 + b)), .int (P (156 + b)), .int (P (168 + b)), .int (P (180 + b)), .int (P (192 + b)), .int (P (204 + b)), .int (P (216 + b))]) : va_E) = rideC (upd P (72 + b) v) b := by
    simp only [rideC]
    rw [upd_eq, upd_ne (a := 84 + b) _ _ (by omega), upd_ne (a := 96 + b) _ _ (by omega), upd_ne (a := 108 + b) _ _ (by omega), upd_ne (a := 120 + b) _ _ (by omega), upd_ne (a := 132 + b) _ _ (by omega), upd_ne (a := 144 + b) _ _ (by omega), upd_ne (a := 156 + b) _ _ (by omega), upd_ne (a := 168 + b) _ _ (by omega), upd_ne (a := 180 + b) _ _ (by omega), upd_ne (a := 192 + b) _ _ (by omega), upd_ne (a := 204 + b) _ _ (by omega), upd_ne (a := 216 + b) _ _ (by omega)]
  rw [h2, map_set2 (f := rideC P) (f2 := rideC (upd P (72 + b) v))]
  intro i hi hi2
  simp only [rideC]
  rw [upd_ne (a := 72 + i) _ _ (by omega), upd_ne (a := 84 + i) _ _ (by omega), upd_ne (a := 96 + i) _ _ (by omega), upd_ne (a := 108 + i) _ _ (by omega), upd_ne (a := 120 + i) _ _ (by omega), upd_ne (a := 132 + i) _ _ (by omega), upd_ne (a := 144 + i) _ _ (by omega), upd_ne (a := 156 + i) _ _ (by omega), upd_ne (a := 168 + i) _ _ (by omega), upd_ne (a := 180 + i) _ _ (by omega), upd_ne (a := 192 + i) _ _ (by omega), upd_ne (a := 204 + i) _ _ (by omega), upd_ne (a := 216 + i) _ _ (by omega)]
theorem ws_r1 {D : xD} {N wb b : Nat} {P : Nat → Int32} {v : Int32} (hb : b < 12) : (wcells D N wb P).set (5 + b) (.inr (5, [.int (P (72 + b)), .int (P (84 + b)), .int (P (96 + b)), .int (P (108 + b)), .int (P (120 + b)), .int (P (132 + b)), .int (P (144 + b)), .int (P (156 + b)), .int (P (168 + b)), .int (P (180 + b)), .int (P (192 + b)), .int (P (204 + b)), .int (P (216 + b))].set 1 (.int v))) = wcells D N wb (upd P (84 + b) v) := by
  unfold wcells
  rw [sl_out (o := 0) (by omega), sl_out (o := 36) (by omega), sl_out (o := 228) (by omega)]
  rw [show 5 + b = b + 1 + 1 + 1 + 1 + 1 by omega]
  simp only [List.set_cons_succ, List.set_cons_zero, wObj]
  rw [upd_ne (a := 234) _ _ (by omega), upd_ne (a := 235) _ _ (by omega), upd_ne (a := 236) _ _ (by omega), upd_ne (a := 237) _ _ (by omega), upd_ne (a := 238) _ _ (by omega)]
  have h2 : (Sum.inr (5, [.int (P (72 + b)), .int v, .int (P (96 + b)), .int (P (108 + b)), .int (P (120 + b)), .int (P (132 + b)), .int (P (144 + b)), .int (P (156 + b)), .int (P (168 + b)), .int (P (180 + b)), .int (P (192 + b)), .int (P (204 + b)), .int (P (216 + b))]) : va_E) = rideC (upd P (84 + b) v) b := by
    simp only [rideC]
    rw [upd_ne (a := 72 + b) _ _ (by omega), upd_eq, upd_ne (a := 96 + b) _ _ (by omega), upd_ne (a := 108 + b) _ _ (by omega), upd_ne (a := 120 + b) _ _ (by omega), upd_ne (a := 132 + b) _ _ (by omega), upd_ne (a := 144 + b) _ _ (by omega), upd_ne (a := 156 + b) _ _ (by omega), upd_ne (a := 168 + b) _ _ (by omega), upd_ne (a := 180 + b) _ _ (by omega), upd_ne (a := 192 + b) _ _ (by omega), upd_ne (a := 204 + b) _ _ (by omega), upd_ne (a := 216 + b) _ _ (by omega)]
  rw [h2, map_set2 (f := rideC P) (f2 := rideC (upd P (84 + b) v))]
  intro i hi hi2
  simp only [rideC]
  rw [upd_ne (a := 72 + i) _ _ (by omega), upd_ne (a := 84 + i) _ _ (by omega), upd_ne (a := 96 + i) _ _ (by omega), upd_ne (a := 108 + i) _ _ (by omega), upd_ne (a := 120 + i) _ _ (by omega), upd_ne (a := 132 + i) _ _ (by omega), upd_ne (a := 144 + i) _ _ (by omega), upd_ne (a := 156 + i) _ _ (by omega), upd_ne (a := 168 + i) _ _ (by omega), upd_ne (a := 180 + i) _ _ (by omega), upd_ne (a := 192 + i) _ _ (by omega), upd_ne (a := 204 + i) _ _ (by omega), upd_ne (a := 216 + i) _ _ (by omega)]
theorem ws_r2 {D : xD} {N wb b : Nat} {P : Nat → Int32} {v : Int32} (hb : b < 12) : (wcells D N wb P).set (5 + b) (.inr (5, [.int (P (72 + b)), .int (P (84 + b)), .int (P (96 + b)), .int (P (108 + b)), .int (P (120 + b)), .int (P (132 + b)), .int (P (144 + b)), .int (P (156 + b)), .int (P (168 + b)), .int (P (180 + b)), .int (P (192 + b)), .int (P (204 + b)), .int (P (216 + b))].set 2 (.int v))) = wcells D N wb (upd P (96 + b) v) := by
  unfold wcells
  rw [sl_out (o := 0) (by omega), sl_out (o := 36) (by omega), sl_out (o := 228) (by omega)]
  rw [show 5 + b = b + 1 + 1 + 1 + 1 + 1 by omega]
  simp only [List.set_cons_succ, List.set_cons_zero, wObj]
  rw [upd_ne (a := 234) _ _ (by omega), upd_ne (a := 235) _ _ (by omega), upd_ne (a := 236) _ _ (by omega), upd_ne (a := 237) _ _ (by omega), upd_ne (a := 238) _ _ (by omega)]
  have h2 : (Sum.inr (5, [.int (P (72 + b)), .int (P (84 + b)), .int v, .int (P (108 + b)), .int (P (120 + b)), .int (P (132 + b)), .int (P (144 + b)), .int (P (156 + b)), .int (P (168 + b)), .int (P (180 + b)), .int (P (192 + b)), .int (P (204 + b)), .int (P (216 + b))]) : va_E) = rideC (upd P (96 + b) v) b := by
    simp only [rideC]
    rw [upd_ne (a := 72 + b) _ _ (by omega), upd_ne (a := 84 + b) _ _ (by omega), upd_eq, upd_ne (a := 108 + b) _ _ (by omega), upd_ne (a := 120 + b) _ _ (by omega), upd_ne (a := 132 + b) _ _ (by omega), upd_ne (a := 144 + b) _ _ (by omega), upd_ne (a := 156 + b) _ _ (by omega), upd_ne (a := 168 + b) _ _ (by omega), upd_ne (a := 180 + b) _ _ (by omega), upd_ne (a := 192 + b) _ _ (by omega), upd_ne (a := 204 + b) _ _ (by omega), upd_ne (a := 216 + b) _ _ (by omega)]
  rw [h2, map_set2 (f := rideC P) (f2 := rideC (upd P (96 + b) v))]
  intro i hi hi2
  simp only [rideC]
  rw [upd_ne (a := 72 + i) _ _ (by omega), upd_ne (a := 84 + i) _ _ (by omega), upd_ne (a := 96 + i) _ _ (by omega), upd_ne (a := 108 + i) _ _ (by omega), upd_ne (a := 120 + i) _ _ (by omega), upd_ne (a := 132 + i) _ _ (by omega), upd_ne (a := 144 + i) _ _ (by omega), upd_ne (a := 156 + i) _ _ (by omega), upd_ne (a := 168 + i) _ _ (by omega), upd_ne (a := 180 + i) _ _ (by omega), upd_ne (a := 192 + i) _ _ (by omega), upd_ne (a := 204 + i) _ _ (by omega), upd_ne (a := 216 + i) _ _ (by omega)]
theorem ws_r3 {D : xD} {N wb b : Nat} {P : Nat → Int32} {v : Int32} (hb : b < 12) : (wcells D N wb P).set (5 + b) (.inr (5, [.int (P (72 + b)), .int (P (84 + b)), .int (P (96 + b)), .int (P (108 + b)), .int (P (120 + b)), .int (P (132 + b)), .int (P (144 + b)), .int (P (156 + b)), .int (P (168 + b)), .int (P (180 + b)), .int (P (192 + b)), .int (P (204 + b)), .int (P (216 + b))].set 3 (.int v))) = wcells D N wb (upd P (108 + b) v) := by
  unfold wcells
  rw [sl_out (o := 0) (by omega), sl_out (o := 36) (by omega), sl_out (o := 228) (by omega)]
  rw [show 5 + b = b + 1 + 1 + 1 + 1 + 1 by omega]
  simp only [List.set_cons_succ, List.set_cons_zero, wObj]
  rw [upd_ne (a := 234) _ _ (by omega), upd_ne (a := 235) _ _ (by omega), upd_ne (a := 236) _ _ (by omega), upd_ne (a := 237) _ _ (by omega), upd_ne (a := 238) _ _ (by omega)]
  have h2 : (Sum.inr (5, [.int (P (72 + b)), .int (P (84 + b)), .int (P (96 + b)), .int v, .int (P (120 + b)), .int (P (132 + b)), .int (P (144 + b)), .int (P (156 + b)), .int (P (168 + b)), .int (P (180 + b)), .int (P (192 + b)), .int (P (204 + b)), .int (P (216 + b))]) : va_E) = rideC (upd P (108 + b) v) b := by
    simp only [rideC]
    rw [upd_ne (a := 72 + b) _ _ (by omega), upd_ne (a := 84 + b) _ _ (by omega), upd_ne (a := 96 + b) _ _ (by omega), upd_eq, upd_ne (a := 120 + b) _ _ (by omega), upd_ne (a := 132 + b) _ _ (by omega), upd_ne (a := 144 + b) _ _ (by omega), upd_ne (a := 156 + b) _ _ (by omega), upd_ne (a := 168 + b) _ _ (by omega), upd_ne (a := 180 + b) _ _ (by omega), upd_ne (a := 192 + b) _ _ (by omega), upd_ne (a := 204 + b) _ _ (by omega), upd_ne (a := 216 + b) _ _ (by omega)]
  rw [h2, map_set2 (f := rideC P) (f2 := rideC (upd P (108 + b) v))]
  intro i hi hi2
  simp only [rideC]
  rw [upd_ne (a := 72 + i) _ _ (by omega), upd_ne (a := 84 + i) _ _ (by omega), upd_ne (a := 96 + i) _ _ (by omega), upd_ne (a := 108 + i) _ _ (by omega), upd_ne (a := 120 + i) _ _ (by omega), upd_ne (a := 132 + i) _ _ (by omega), upd_ne (a := 144 + i) _ _ (by omega), upd_ne (a := 156 + i) _ _ (by omega), upd_ne (a := 168 + i) _ _ (by omega), upd_ne (a := 180 + i) _ _ (by omega), upd_ne (a := 192 + i) _ _ (by omega), upd_ne (a := 204 + i) _ _ (by omega), upd_ne (a := 216 + i) _ _ (by omega)]
theorem ws_r4 {D : xD} {N wb b : Nat} {P : Nat → Int32} {v : Int32} (hb : b < 12) : (wcells D N wb P).set (5 + b) (.inr (5, [.int (P (72 + b)), .int (P (84 + b)), .int (P (96 + b)), .int (P (108 + b)), .int (P (120 + b)), .int (P (132 + b)), .int (P (144 + b)), .int (P (156 + b)), .int (P (168 + b)), .int (P (180 + b)), .int (P (192 + b)), .int (P (204 + b)), .int (P (216 + b))].set 4 (.int v))) = wcells D N wb (upd P (120 + b) v) := by
  unfold wcells
  rw [sl_out (o := 0) (by omega), sl_out (o := 36) (by omega), sl_out (o := 228) (by omega)]
  rw [show 5 + b = b + 1 + 1 + 1 + 1 + 1 by omega]
  simp only [List.set_cons_succ, List.set_cons_zero, wObj]
  rw [upd_ne (a := 234) _ _ (by omega), upd_ne (a := 235) _ _ (by omega), upd_ne (a := 236) _ _ (by omega), upd_ne (a := 237) _ _ (by omega), upd_ne (a := 238) _ _ (by omega)]
  have h2 : (Sum.inr (5, [.int (P (72 + b)), .int (P (84 + b)), .int (P (96 + b)), .int (P (108 + b)), .int v, .int (P (132 + b)), .int (P (144 + b)), .int (P (156 + b)), .int (P (168 + b)), .int (P (180 + b)), .int (P (192 + b)), .int (P (204 + b)), .int (P (216 + b))]) : va_E) = rideC (upd P (120 + b) v) b := by
    simp only [rideC]
    rw [upd_ne (a := 72 + b) _ _ (by omega), upd_ne (a := 84 + b) _ _ (by omega), upd_ne (a := 96 + b) _ _ (by omega), upd_ne (a := 108 + b) _ _ (by omega), upd_eq, upd_ne (a := 132 + b) _ _ (by omega), upd_ne (a := 144 + b) _ _ (by omega), upd_ne (a := 156 + b) _ _ (by omega), upd_ne (a := 168 + b) _ _ (by omega), upd_ne (a := 180 + b) _ _ (by omega), upd_ne (a := 192 + b) _ _ (by omega), upd_ne (a := 204 + b) _ _ (by omega), upd_ne (a := 216 + b) _ _ (by omega)]
  rw [h2, map_set2 (f := rideC P) (f2 := rideC (upd P (120 + b) v))]
  intro i hi hi2
  simp only [rideC]
  rw [upd_ne (a := 72 + i) _ _ (by omega), upd_ne (a := 84 + i) _ _ (by omega), upd_ne (a := 96 + i) _ _ (by omega), upd_ne (a := 108 + i) _ _ (by omega), upd_ne (a := 120 + i) _ _ (by omega), upd_ne (a := 132 + i) _ _ (by omega), upd_ne (a := 144 + i) _ _ (by omega), upd_ne (a := 156 + i) _ _ (by omega), upd_ne (a := 168 + i) _ _ (by omega), upd_ne (a := 180 + i) _ _ (by omega), upd_ne (a := 192 + i) _ _ (by omega), upd_ne (a := 204 + i) _ _ (by omega), upd_ne (a := 216 + i) _ _ (by omega)]
theorem ws_r5 {D : xD} {N wb b : Nat} {P : Nat → Int32} {v : Int32} (hb : b < 12) : (wcells D N wb P).set (5 + b) (.inr (5, [.int (P (72 + b)), .int (P (84 + b)), .int (P (96 + b)), .int (P (108 + b)), .int (P (120 + b)), .int (P (132 + b)), .int (P (144 + b)), .int (P (156 + b)), .int (P (168 + b)), .int (P (180 + b)), .int (P (192 + b)), .int (P (204 + b)), .int (P (216 + b))].set 5 (.int v))) = wcells D N wb (upd P (132 + b) v) := by
  unfold wcells
  rw [sl_out (o := 0) (by omega), sl_out (o := 36) (by omega), sl_out (o := 228) (by omega)]
  rw [show 5 + b = b + 1 + 1 + 1 + 1 + 1 by omega]
  simp only [List.set_cons_succ, List.set_cons_zero, wObj]
  rw [upd_ne (a := 234) _ _ (by omega), upd_ne (a := 235) _ _ (by omega), upd_ne (a := 236) _ _ (by omega), upd_ne (a := 237) _ _ (by omega), upd_ne (a := 238) _ _ (by omega)]
  have h2 : (Sum.inr (5, [.int (P (72 + b)), .int (P (84 + b)), .int (P (96 + b)), .int (P (108 + b)), .int (P (120 + b)), .int v, .int (P (144 + b)), .int (P (156 + b)), .int (P (168 + b)), .int (P (180 + b)), .int (P (192 + b)), .int (P (204 + b)), .int (P (216 + b))]) : va_E) = rideC (upd P (132 + b) v) b := by
    simp only [rideC]
    rw [upd_ne (a := 72 + b) _ _ (by omega), upd_ne (a := 84 + b) _ _ (by omega), upd_ne (a := 96 + b) _ _ (by omega), upd_ne (a := 108 + b) _ _ (by omega), upd_ne (a := 120 + b) _ _ (by omega), upd_eq, upd_ne (a := 144 + b) _ _ (by omega), upd_ne (a := 156 + b) _ _ (by omega), upd_ne (a := 168 + b) _ _ (by omega), upd_ne (a := 180 + b) _ _ (by omega), upd_ne (a := 192 + b) _ _ (by omega), upd_ne (a := 204 + b) _ _ (by omega), upd_ne (a := 216 + b) _ _ (by omega)]
  rw [h2, map_set2 (f := rideC P) (f2 := rideC (upd P (132 + b) v))]
  intro i hi hi2
  simp only [rideC]
  rw [upd_ne (a := 72 + i) _ _ (by omega), upd_ne (a := 84 + i) _ _ (by omega), upd_ne (a := 96 + i) _ _ (by omega), upd_ne (a := 108 + i) _ _ (by omega), upd_ne (a := 120 + i) _ _ (by omega), upd_ne (a := 132 + i) _ _ (by omega), upd_ne (a := 144 + i) _ _ (by omega), upd_ne (a := 156 + i) _ _ (by omega), upd_ne (a := 168 + i) _ _ (by omega), upd_ne (a := 180 + i) _ _ (by omega), upd_ne (a := 192 + i) _ _ (by omega), upd_ne (a := 204 + i) _ _ (by omega), upd_ne (a := 216 + i) _ _ (by omega)]
theorem ws_r6 {D : xD} {N wb b : Nat} {P : Nat → Int32} {v : Int32} (hb : b < 12) : (wcells D N wb P).set (5 + b) (.inr (5, [.int (P (72 + b)), .int (P (84 + b)), .int (P (96 + b)), .int (P (108 + b)), .int (P (120 + b)), .int (P (132 + b)), .int (P (144 + b)), .int (P (156 + b)), .int (P (168 + b)), .int (P (180 + b)), .int (P (192 + b)), .int (P (204 + b)), .int (P (216 + b))].set 6 (.int v))) = wcells D N wb (upd P (144 + b) v) := by
  unfold wcells
  rw [sl_out (o := 0) (by omega), sl_out (o := 36) (by omega), sl_out (o := 228) (by omega)]
  rw [show 5 + b = b + 1 + 1 + 1 + 1 + 1 by omega]
  simp only [List.set_cons_succ, List.set_cons_zero, wObj]
  rw [upd_ne (a := 234) _ _ (by omega), upd_ne (a := 235) _ _ (by omega), upd_ne (a := 236) _ _ (by omega), upd_ne (a := 237) _ _ (by omega), upd_ne (a := 238) _ _ (by omega)]
  have h2 : (Sum.inr (5, [.int (P (72 + b)), .int (P (84 + b)), .int (P (96 + b)), .int (P (108 + b)), .int (P (120 + b)), .int (P (132 + b)), .int v, .int (P (156 + b)), .int (P (168 + b)), .int (P (180 + b)), .int (P (192 + b)), .int (P (204 + b)), .int (P (216 + b))]) : va_E) = rideC (upd P (144 + b) v) b := by
    simp only [rideC]
    rw [upd_ne (a := 72 + b) _ _ (by omega), upd_ne (a := 84 + b) _ _ (by omega), upd_ne (a := 96 + b) _ _ (by omega), upd_ne (a := 108 + b) _ _ (by omega), upd_ne (a := 120 + b) _ _ (by omega), upd_ne (a := 132 + b) _ _ (by omega), upd_eq, upd_ne (a := 156 + b) _ _ (by omega), upd_ne (a := 168 + b) _ _ (by omega), upd_ne (a := 180 + b) _ _ (by omega), upd_ne (a := 192 + b) _ _ (by omega), upd_ne (a := 204 + b) _ _ (by omega), upd_ne (a := 216 + b) _ _ (by omega)]
  rw [h2, map_set2 (f := rideC P) (f2 := rideC (upd P (144 + b) v))]
  intro i hi hi2
  simp only [rideC]
  rw [upd_ne (a := 72 + i) _ _ (by omega), upd_ne (a := 84 + i) _ _ (by omega), upd_ne (a := 96 + i) _ _ (by omega), upd_ne (a := 108 + i) _ _ (by omega), upd_ne (a := 120 + i) _ _ (by omega), upd_ne (a := 132 + i) _ _ (by omega), upd_ne (a := 144 + i) _ _ (by omega), upd_ne (a := 156 + i) _ _ (by omega), upd_ne (a := 168 + i) _ _ (by omega), upd_ne (a := 180 + i) _ _ (by omega), upd_ne (a := 192 + i) _ _ (by omega), upd_ne (a := 204 + i) _ _ (by omega), upd_ne (a := 216 + i) _ _ (by omega)]
theorem ws_r7 {D : xD} {N wb b : Nat} {P : Nat → Int32} {v : Int32} (hb : b < 12) : (wcells D N wb P).set (5 + b) (.inr (5, [.int (P (72 + b)), .int (P (84 + b)), .int (P (96 + b)), .int (P (108 + b)), .int (P (120 + b)), .int (P (132 + b)), .int (P (144 + b)), .int (P (156 + b)), .int (P (168 + b)), .int (P (180 + b)), .int (P (192 + b)), .int (P (204 + b)), .int (P (216 + b))].set 7 (.int v))) = wcells D N wb (upd P (156 + b) v) := by
  unfold wcells
  rw [sl_out (o := 0) (by omega), sl_out (o := 36) (by omega), sl_out (o := 228) (by omega)]
  rw [show 5 + b = b + 1 + 1 + 1 + 1 + 1 by omega]
  simp only [List.set_cons_succ, List.set_cons_zero, wObj]
  rw [upd_ne (a := 234) _ _ (by omega), upd_ne (a := 235) _ _ (by omega), upd_ne (a := 236) _ _ (by omega), upd_ne (a := 237) _ _ (by omega), upd_ne (a := 238) _ _ (by omega)]
  have h2 : (Sum.inr (5, [.int (P (72 + b)), .int (P (84 + b)), .int (P (96 + b)), .int (P (108 + b)), .int (P (120 + b)), .int (P (132 + b)), .int (P (144 + b)), .int v, .int (P (168 + b)), .int (P (180 + b)), .int (P (192 + b)), .int (P (204 + b)), .int (P (216 + b))]) : va_E) = rideC (upd P (156 + b) v) b := by
    simp only [rideC]
    rw [upd_ne (a := 72 + b) _ _ (by omega), upd_ne (a := 84 + b) _ _ (by omega), upd_ne (a := 96 + b) _ _ (by omega), upd_ne (a := 108 + b) _ _ (by omega), upd_ne (a := 120 + b) _ _ (by omega), upd_ne (a := 132 + b) _ _ (by omega), upd_ne (a := 144 + b) _ _ (by omega), upd_eq, upd_ne (a := 168 + b) _ _ (by omega), upd_ne (a := 180 + b) _ _ (by omega), upd_ne (a := 192 + b) _ _ (by omega), upd_ne (a := 204 + b) _ _ (by omega), upd_ne (a := 216 + b) _ _ (by omega)]
  rw [h2, map_set2 (f := rideC P) (f2 := rideC (upd P (156 + b) v))]
  intro i hi hi2
  simp only [rideC]
  rw [upd_ne (a := 72 + i) _ _ (by omega), upd_ne (a := 84 + i) _ _ (by omega), upd_ne (a := 96 + i) _ _ (by omega), upd_ne (a := 108 + i) _ _ (by omega), upd_ne (a := 120 + i) _ _ (by omega), upd_ne (a := 132 + i) _ _ (by omega), upd_ne (a := 144 + i) _ _ (by omega), upd_ne (a := 156 + i) _ _ (by omega), upd_ne (a := 168 + i) _ _ (by omega), upd_ne (a := 180 + i) _ _ (by omega), upd_ne (a := 192 + i) _ _ (by omega), upd_ne (a := 204 + i) _ _ (by omega), upd_ne (a := 216 + i) _ _ (by omega)]
theorem ws_r8 {D : xD} {N wb b : Nat} {P : Nat → Int32} {v : Int32} (hb : b < 12) : (wcells D N wb P).set (5 + b) (.inr (5, [.int (P (72 + b)), .int (P (84 + b)), .int (P (96 + b)), .int (P (108 + b)), .int (P (120 + b)), .int (P (132 + b)), .int (P (144 + b)), .int (P (156 + b)), .int (P (168 + b)), .int (P (180 + b)), .int (P (192 + b)), .int (P (204 + b)), .int (P (216 + b))].set 8 (.int v))) = wcells D N wb (upd P (168 + b) v) := by
  unfold wcells
  rw [sl_out (o := 0) (by omega), sl_out (o := 36) (by omega), sl_out (o := 228) (by omega)]
  rw [show 5 + b = b + 1 + 1 + 1 + 1 + 1 by omega]
  simp only [List.set_cons_succ, List.set_cons_zero, wObj]
  rw [upd_ne (a := 234) _ _ (by omega), upd_ne (a := 235) _ _ (by omega), upd_ne (a := 236) _ _ (by omega), upd_ne (a := 237) _ _ (by omega), upd_ne (a := 238) _ _ (by omega)]
  have h2 : (Sum.inr (5, [.int (P (72 + b)), .int (P (84 + b)), .int (P (96 + b)), .int (P (108 + b)), .int (P (120 + b)), .int (P (132 + b)), .int (P (144 + b)), .int (P (156 + b)), .int v, .int (P (180 + b)), .int (P (192 + b)), .int (P (204 + b)), .int (P (216 + b))]) : va_E) = rideC (upd P (168 + b) v) b := by
    simp only [rideC]
    rw [upd_ne (a := 72 + b) _ _ (by omega), upd_ne (a := 84 + b) _ _ (by omega), upd_ne (a := 96 + b) _ _ (by omega), upd_ne (a := 108 + b) _ _ (by omega), upd_ne (a := 120 + b) _ _ (by omega), upd_ne (a := 132 + b) _ _ (by omega), upd_ne (a := 144 + b) _ _ (by omega), upd_ne (a := 156 + b) _ _ (by omega), upd_eq, upd_ne (a := 180 + b) _ _ (by omega), upd_ne (a := 192 + b) _ _ (by omega), upd_ne (a := 204 + b) _ _ (by omega), upd_ne (a := 216 + b) _ _ (by omega)]
  rw [h2, map_set2 (f := rideC P) (f2 := rideC (upd P (168 + b) v))]
  intro i hi hi2
  simp only [rideC]
  rw [upd_ne (a := 72 + i) _ _ (by omega), upd_ne (a := 84 + i) _ _ (by omega), upd_ne (a := 96 + i) _ _ (by omega), upd_ne (a := 108 + i) _ _ (by omega), upd_ne (a := 120 + i) _ _ (by omega), upd_ne (a := 132 + i) _ _ (by omega), upd_ne (a := 144 + i) _ _ (by omega), upd_ne (a := 156 + i) _ _ (by omega), upd_ne (a := 168 + i) _ _ (by omega), upd_ne (a := 180 + i) _ _ (by omega), upd_ne (a := 192 + i) _ _ (by omega), upd_ne (a := 204 + i) _ _ (by omega), upd_ne (a := 216 + i) _ _ (by omega)]
theorem ws_r9 {D : xD} {N wb b : Nat} {P : Nat → Int32} {v : Int32} (hb : b < 12) : (wcells D N wb P).set (5 + b) (.inr (5, [.int (P (72 + b)), .int (P (84 + b)), .int (P (96 + b)), .int (P (108 + b)), .int (P (120 + b)), .int (P (132 + b)), .int (P (144 + b)), .int (P (156 + b)), .int (P (168 + b)), .int (P (180 + b)), .int (P (192 + b)), .int (P (204 + b)), .int (P (216 + b))].set 9 (.int v))) = wcells D N wb (upd P (180 + b) v) := by
  unfold wcells
  rw [sl_out (o := 0) (by omega), sl_out (o := 36) (by omega), sl_out (o := 228) (by omega)]
  rw [show 5 + b = b + 1 + 1 + 1 + 1 + 1 by omega]
  simp only [List.set_cons_succ, List.set_cons_zero, wObj]
  rw [upd_ne (a := 234) _ _ (by omega), upd_ne (a := 235) _ _ (by omega), upd_ne (a := 236) _ _ (by omega), upd_ne (a := 237) _ _ (by omega), upd_ne (a := 238) _ _ (by omega)]
  have h2 : (Sum.inr (5, [.int (P (72 + b)), .int (P (84 + b)), .int (P (96 + b)), .int (P (108 + b)), .int (P (120 + b)), .int (P (132 + b)), .int (P (144 + b)), .int (P (156 + b)), .int (P (168 + b)), .int v, .int (P (192 + b)), .int (P (204 + b)), .int (P (216 + b))]) : va_E) = rideC (upd P (180 + b) v) b := by
    simp only [rideC]
    rw [upd_ne (a := 72 + b) _ _ (by omega), upd_ne (a := 84 + b) _ _ (by omega), upd_ne (a := 96 + b) _ _ (by omega), upd_ne (a := 108 + b) _ _ (by omega), upd_ne (a := 120 + b) _ _ (by omega), upd_ne (a := 132 + b) _ _ (by omega), upd_ne (a := 144 + b) _ _ (by omega), upd_ne (a := 156 + b) _ _ (by omega), upd_ne (a := 168 + b) _ _ (by omega), upd_eq, upd_ne (a := 192 + b) _ _ (by omega), upd_ne (a := 204 + b) _ _ (by omega), upd_ne (a := 216 + b) _ _ (by omega)]
  rw [h2, map_set2 (f := rideC P) (f2 := rideC (upd P (180 + b) v))]
  intro i hi hi2
  simp only [rideC]
  rw [upd_ne (a := 72 + i) _ _ (by omega), upd_ne (a := 84 + i) _ _ (by omega), upd_ne (a := 96 + i) _ _ (by omega), upd_ne (a := 108 + i) _ _ (by omega), upd_ne (a := 120 + i) _ _ (by omega), upd_ne (a := 132 + i) _ _ (by omega), upd_ne (a := 144 + i) _ _ (by omega), upd_ne (a := 156 + i) _ _ (by omega), upd_ne (a := 168 + i) _ _ (by omega), upd_ne (a := 180 + i) _ _ (by omega), upd_ne (a := 192 + i) _ _ (by omega), upd_ne (a := 204 + i) _ _ (by omega), upd_ne (a := 216 + i) _ _ (by omega)]
theorem ws_r10 {D : xD} {N wb b : Nat} {P : Nat → Int32} {v : Int32} (hb : b < 12) : (wcells D N wb P).set (5 + b) (.inr (5, [.int (P (72 + b)), .int (P (84 + b)), .int (P (96 + b)), .int (P (108 + b)), .int (P (120 + b)), .int (P (132 + b)), .int (P (144 + b)), .int (P (156 + b)), .int (P (168 + b)), .int (P (180 + b)), .int (P (192 + b)), .int (P (204 + b)), .int (P (216 + b))].set 10 (.int v))) = wcells D N wb (upd P (192 + b) v) := by
  unfold wcells
  rw [sl_out (o := 0) (by omega), sl_out (o := 36) (by omega), sl_out (o := 228) (by omega)]
  rw [show 5 + b = b + 1 + 1 + 1 + 1 + 1 by omega]
  simp only [List.set_cons_succ, List.set_cons_zero, wObj]
  rw [upd_ne (a := 234) _ _ (by omega), upd_ne (a := 235) _ _ (by omega), upd_ne (a := 236) _ _ (by omega), upd_ne (a := 237) _ _ (by omega), upd_ne (a := 238) _ _ (by omega)]
  have h2 : (Sum.inr (5, [.int (P (72 + b)), .int (P (84 + b)), .int (P (96 + b)), .int (P (108 + b)), .int (P (120 + b)), .int (P (132 + b)), .int (P (144 + b)), .int (P (156 + b)), .int (P (168 + b)), .int (P (180 + b)), .int v, .int (P (204 + b)), .int (P (216 + b))]) : va_E) = rideC (upd P (192 + b) v) b := by
    simp only [rideC]
    rw [upd_ne (a := 72 + b) _ _ (by omega), upd_ne (a := 84 + b) _ _ (by omega), upd_ne (a := 96 + b) _ _ (by omega), upd_ne (a := 108 + b) _ _ (by omega), upd_ne (a := 120 + b) _ _ (by omega), upd_ne (a := 132 + b) _ _ (by omega), upd_ne (a := 144 + b) _ _ (by omega), upd_ne (a := 156 + b) _ _ (by omega), upd_ne (a := 168 + b) _ _ (by omega), upd_ne (a := 180 + b) _ _ (by omega), upd_eq, upd_ne (a := 204 + b) _ _ (by omega), upd_ne (a := 216 + b) _ _ (by omega)]
  rw [h2, map_set2 (f := rideC P) (f2 := rideC (upd P (192 + b) v))]
  intro i hi hi2
  simp only [rideC]
  rw [upd_ne (a := 72 + i) _ _ (by omega), upd_ne (a := 84 + i) _ _ (by omega), upd_ne (a := 96 + i) _ _ (by omega), upd_ne (a := 108 + i) _ _ (by omega), upd_ne (a := 120 + i) _ _ (by omega), upd_ne (a := 132 + i) _ _ (by omega), upd_ne (a := 144 + i) _ _ (by omega), upd_ne (a := 156 + i) _ _ (by omega), upd_ne (a := 168 + i) _ _ (by omega), upd_ne (a := 180 + i) _ _ (by omega), upd_ne (a := 192 + i) _ _ (by omega), upd_ne (a := 204 + i) _ _ (by omega), upd_ne (a := 216 + i) _ _ (by omega)]
theorem ws_r11 {D : xD} {N wb b : Nat} {P : Nat → Int32} {v : Int32} (hb : b < 12) : (wcells D N wb P).set (5 + b) (.inr (5, [.int (P (72 + b)), .int (P (84 + b)), .int (P (96 + b)), .int (P (108 + b)), .int (P (120 + b)), .int (P (132 + b)), .int (P (144 + b)), .int (P (156 + b)), .int (P (168 + b)), .int (P (180 + b)), .int (P (192 + b)), .int (P (204 + b)), .int (P (216 + b))].set 11 (.int v))) = wcells D N wb (upd P (204 + b) v) := by
  unfold wcells
  rw [sl_out (o := 0) (by omega), sl_out (o := 36) (by omega), sl_out (o := 228) (by omega)]
  rw [show 5 + b = b + 1 + 1 + 1 + 1 + 1 by omega]
  simp only [List.set_cons_succ, List.set_cons_zero, wObj]
  rw [upd_ne (a := 234) _ _ (by omega), upd_ne (a := 235) _ _ (by omega), upd_ne (a := 236) _ _ (by omega), upd_ne (a := 237) _ _ (by omega), upd_ne (a := 238) _ _ (by omega)]
  have h2 : (Sum.inr (5, [.int (P (72 + b)), .int (P (84 + b)), .int (P (96 + b)), .int (P (108 + b)), .int (P (120 + b)), .int (P (132 + b)), .int (P (144 + b)), .int (P (156 + b)), .int (P (168 + b)), .int (P (180 + b)), .int (P (192 + b)), .int v, .int (P (216 + b))]) : va_E) = rideC (upd P (204 + b) v) b := by
    simp only [rideC]
    rw [upd_ne (a := 72 + b) _ _ (by omega), upd_ne (a := 84 + b) _ _ (by omega), upd_ne (a := 96 + b) _ _ (by omega), upd_ne (a := 108 + b) _ _ (by omega), upd_ne (a := 120 + b) _ _ (by omega), upd_ne (a := 132 + b) _ _ (by omega), upd_ne (a := 144 + b) _ _ (by omega), upd_ne (a := 156 + b) _ _ (by omega), upd_ne (a := 168 + b) _ _ (by omega), upd_ne (a := 180 + b) _ _ (by omega), upd_ne (a := 192 + b) _ _ (by omega), upd_eq, upd_ne (a := 216 + b) _ _ (by omega)]
  rw [h2, map_set2 (f := rideC P) (f2 := rideC (upd P (204 + b) v))]
  intro i hi hi2
  simp only [rideC]
  rw [upd_ne (a := 72 + i) _ _ (by omega), upd_ne (a := 84 + i) _ _ (by omega), upd_ne (a := 96 + i) _ _ (by omega), upd_ne (a := 108 + i) _ _ (by omega), upd_ne (a := 120 + i) _ _ (by omega), upd_ne (a := 132 + i) _ _ (by omega), upd_ne (a := 144 + i) _ _ (by omega), upd_ne (a := 156 + i) _ _ (by omega), upd_ne (a := 168 + i) _ _ (by omega), upd_ne (a := 180 + i) _ _ (by omega), upd_ne (a := 192 + i) _ _ (by omega), upd_ne (a := 204 + i) _ _ (by omega), upd_ne (a := 216 + i) _ _ (by omega)]
theorem ws_r12 {D : xD} {N wb b : Nat} {P : Nat → Int32} {v : Int32} (hb : b < 12) : (wcells D N wb P).set (5 + b) (.inr (5, [.int (P (72 + b)), .int (P (84 + b)), .int (P (96 + b)), .int (P (108 + b)), .int (P (120 + b)), .int (P (132 + b)), .int (P (144 + b)), .int (P (156 + b)), .int (P (168 + b)), .int (P (180 + b)), .int (P (192 + b)), .int (P (204 + b)), .int (P (216 + b))].set 12 (.int v))) = wcells D N wb (upd P (216 + b) v) := by
  unfold wcells
  rw [sl_out (o := 0) (by omega), sl_out (o := 36) (by omega), sl_out (o := 228) (by omega)]
  rw [show 5 + b = b + 1 + 1 + 1 + 1 + 1 by omega]
  simp only [List.set_cons_succ, List.set_cons_zero, wObj]
  rw [upd_ne (a := 234) _ _ (by omega), upd_ne (a := 235) _ _ (by omega), upd_ne (a := 236) _ _ (by omega), upd_ne (a := 237) _ _ (by omega), upd_ne (a := 238) _ _ (by omega)]
  have h2 : (Sum.inr (5, [.int (P (72 + b)), .int (P (84 + b)), .int (P (96 + b)), .int (P (108 + b)), .int (P (120 + b)), .int (P (132 + b)), .int (P (144 + b)), .int (P (156 + b)), .int (P (168 + b)), .int (P (180 + b)), .int (P (192 + b)), .int (P (204 + b)), .int v]) : va_E) = rideC (upd P (216 + b) v) b := by
    simp only [rideC]
    rw [upd_ne (a := 72 + b) _ _ (by omega), upd_ne (a := 84 + b) _ _ (by omega), upd_ne (a := 96 + b) _ _ (by omega), upd_ne (a := 108 + b) _ _ (by omega), upd_ne (a := 120 + b) _ _ (by omega), upd_ne (a := 132 + b) _ _ (by omega), upd_ne (a := 144 + b) _ _ (by omega), upd_ne (a := 156 + b) _ _ (by omega), upd_ne (a := 168 + b) _ _ (by omega), upd_ne (a := 180 + b) _ _ (by omega), upd_ne (a := 192 + b) _ _ (by omega), upd_ne (a := 204 + b) _ _ (by omega), upd_eq]
  rw [h2, map_set2 (f := rideC P) (f2 := rideC (upd P (216 + b) v))]
  intro i hi hi2
  simp only [rideC]
  rw [upd_ne (a := 72 + i) _ _ (by omega), upd_ne (a := 84 + i) _ _ (by omega), upd_ne (a := 96 + i) _ _ (by omega), upd_ne (a := 108 + i) _ _ (by omega), upd_ne (a := 120 + i) _ _ (by omega), upd_ne (a := 132 + i) _ _ (by omega), upd_ne (a := 144 + i) _ _ (by omega), upd_ne (a := 156 + i) _ _ (by omega), upd_ne (a := 168 + i) _ _ (by omega), upd_ne (a := 180 + i) _ _ (by omega), upd_ne (a := 192 + i) _ _ (by omega), upd_ne (a := 204 + i) _ _ (by omega), upd_ne (a := 216 + i) _ _ (by omega)]
end
section
theorem lt_le {a b : Int32} (h : a < b) : ¬ b ≤ a := fun h2 => by
  rw [Int32.lt_iff_toInt_lt] at h; rw [Int32.le_iff_toInt_le] at h2; omega
theorem nlt_le {a b : Int32} (h : ¬ a < b) : b ≤ a := by
  rw [Int32.lt_iff_toInt_lt] at h; rw [Int32.le_iff_toInt_le]; omega
theorem nle_lt {a b : Int32} (h : ¬ a ≤ b) : b < a := by
  rw [Int32.le_iff_toInt_le] at h; rw [Int32.lt_iff_toInt_lt]; omega
theorem le_nlt {a b : Int32} (h : a ≤ b) : ¬ b < a := fun h2 => lt_le h2 h
/-- a whole number in 0 .. b -/
theorem nI_btw {x : Int32} {b : Nat} (hb : b < 2147483648) (h0 : nI 0 ≤ x) (h1 : x ≤ nI b) : ∃ a : Nat, a ≤ b ∧ x = nI a := by
  have h2 : ¬ x < 0 := by rw [← nI_0]; exact le_nlt h0
  obtain ⟨j, hj, rfl⟩ := nI_of h2
  exact ⟨j, (nI_leI hj (by omega)).mp h1, rfl⟩
theorem nI_btw' {b a : Nat} (hb : b < 2147483648) (ha : a ≤ b) : nI 0 ≤ nI a ∧ nI a ≤ nI b := ⟨nI_le (Nat.zero_le _) (by omega), nI_le ha (by omega)⟩
abbrev tn (x : Int32) : Nat := x.toNatClampNeg
abbrev inn (x : Int32) (b : Nat) : Prop := nI 0 ≤ x ∧ x ≤ nI b
abbrev btw (lo x hi : Int32) : Prop := lo ≤ x ∧ x ≤ hi
theorem inn_i (x : Int32) (b : Nat) : inn x b ↔ (nI 0 ≤ x ∧ x ≤ nI b) := Iff.rfl
theorem inn_t {a b : Nat} (h : a ≤ b) (hb : b < 2147483648 := by decide) : inn (nI a) b := ⟨nI_le (Nat.zero_le _) (by omega), nI_le h hb⟩
theorem tnl {a b : Nat} (h : a ≤ b) (hb : b < 2147483648 := by decide) : tn (nI a) = a := nI_clamp (by omega)
theorem tnt {a b : Nat} (h : a < b) (hb : b < 2147483648 := by decide) : tn (nI a) = a := nI_clamp (by omega)
def tup (c : T2) (k i : Nat) (v : Int32) : T2 := tput c k (upd (c k) i v)
theorem tput2 (c : T2) (k : Nat) (f f2 : Nat → Int32) : tput (tput c k f) k f2 = tput c k f2 := by
  funext a; simp only [tput]; split <;> rfl
theorem tputs (c : T2) {k a : Nat} (f : Nat → Int32) (h : a ≠ k := by decide) : tput c k f a = c a := tput_ne c f h
abbrev inb (c : T2) (b : Int32) : Prop := nI 0 ≤ b ∧ b < c 32 1
abbrev inm (c : T2) (b : Int32) : Prop := nI 0 ≤ b ∧ b < c 32 4
theorem va_upeq {α : Type} (f : Nat → α) (k : Nat) (v : α) : va_up f k v k = v := va_up_self f k v
theorem va_upne {α : Type} (f : Nat → α) {k j : Nat} (v : α) (h : j ≠ k) : va_up f k v j = f j := va_up_ne f v h
theorem va_up2 {α : Type} (f : Nat → α) (k : Nat) (v w : α) : va_up (va_up f k v) k w = va_up f k w := bx_uu f k v w
theorem va_upid {α : Type} (f : Nat → α) (k : Nat) : va_up f k (f k) = f := by
  funext j; simp only [va_up]; split
  · subst_vars; rfl
  · rfl
theorem inb_iff {b e : Int32} {nb : Nat} (he : e = nI nb) (hb : nb ≤ 1000000) : (nI 0 ≤ b ∧ b < e) ↔ ∃ a : Nat, a < nb ∧ b = nI a := by
  subst he
  constructor
  · intro h
    have h2 : ¬ b < 0 := by rw [← nI_0]; exact le_nlt h.1
    obtain ⟨j, hj, rfl⟩ := nI_of h2
    exact ⟨j, (nI_ltI hj (by omega)).mp h.2, rfl⟩
  · rintro ⟨a, ha, rfl⟩
    exact ⟨nI_le (Nat.zero_le _) (by omega), nI_lt ha (by omega)⟩
theorem inb_sub {b e : Int32} {nb : Nat} (he : e = nI nb) (hb : nb ≤ 1000000) : (nI 0 ≤ b ∧ b ≤ e - nI 1) ↔ (nI 0 ≤ b ∧ b < e) := by
  subst he
  rw [Int32.le_iff_toInt_le, Int32.le_iff_toInt_le, Int32.lt_iff_toInt_lt, pk_sub_toInt (by omega) (by omega), nI_toInt (by omega), nI_toInt (by omega)]
  omega
theorem inb_t {c : T2} {nb a : Nat} (hnb : c 32 1 = nI nb) (h12 : nb ≤ 12) (ha : a < nb) : inb c (nI a) := (inb_iff hnb (by omega)).mpr ⟨a, ha, rfl⟩
theorem inm_t {c : T2} {nm a : Nat} (hnm : c 32 4 = nI nm) (hm6 : nm ≤ 6) (ha : a < nm) : inm c (nI a) := (inb_iff hnm (by omega)).mpr ⟨a, ha, rfl⟩
theorem kP {D : xD} {N : Nat} {c x V : T2} {ln df : Nat → Option Nat} {rest : List va_E} {K : Option Value → List va_E → Prop} {w : Nat} {r r2 : Option Value} {P1 P2 : Nat → Int32} (h : K r (encC D N c x (va_up V w P1) ln df ++ rest)) (er : r = r2) (eP : P1 = P2) : K r2 (encC D N c x (va_up V w P2) ln df ++ rest) := by subst er; subst eP; exact h
theorem kR {D : xD} {N : Nat} {c z : T2} {Q : Nat → Int32} {rest : List va_E} {K : Option Value → List va_E → Prop} {r r2 : Option Value} {P1 P2 : Nat → Int32} (h : K r (encR D N c z P1 Q ++ rest)) (er : r = r2) (eP : P1 = P2) : K r2 (encR D N c z P2 Q ++ rest) := by subst er; subst eP; exact h
theorem kc {D : xD} {N : Nat} {c1 c2 x V : T2} {ln df : Nat → Option Nat} {rest : List va_E} {K : Option Value → List va_E → Prop} {r r2 : Option Value} (h : K r (encC D N c1 x V ln df ++ rest)) (er : r = r2) (eP : c1 = c2) : K r2 (encC D N c2 x V ln df ++ rest) := by subst er; subst eP; exact h
theorem kRc {D : xD} {N : Nat} {c1 c2 z : T2} {P Q : Nat → Int32} {rest : List va_E} {K : Option Value → List va_E → Prop} {r r2 : Option Value} (h : K r (encR D N c1 z P Q ++ rest)) (er : r = r2) (eP : c1 = c2) : K r2 (encR D N c2 z P Q ++ rest) := by subst er; subst eP; exact h
theorem sw (x : Int32) (b : Nat) (hb : b < 2147483648) : (∃ k : Nat, k ≤ b ∧ x = nI k) ∨ (¬ inn x b ∧ (x.toInt < 0 ∨ (b : Int) < x.toInt)) := by
  by_cases h : inn x b
  · exact Or.inl (nI_btw hb h.1 h.2)
  · refine Or.inr ⟨h, ?_⟩
    unfold inn at h
    rw [Int32.le_iff_toInt_le, Int32.le_iff_toInt_le, nI_toInt (by decide), nI_toInt (by omega)] at h
    omega
theorem up_loop {F : Nat → Prop} {n : Nat} (hend : F n) (hstep : ∀ b, b < n → F (b + 1) → F b) : ∀ b, b ≤ n → F b := by
  intro b hb
  have key : ∀ k b, b + k = n → F b := by
    intro k
    induction k with
    | zero => intro b e; rw [show b = n by omega]; exact hend
    | succ k ih => intro b e; exact hstep b (by omega) (ih (b + 1) (by omega))
  exact key (n - b) b (by omega)
def ov (o : Option Nat) : Int32 := match o with
  | none => -1
  | some j => nI j
def sc (c : T2) (i : Nat) : Int32 := c 32 i
section WX
variable {D : xD} {N : Nat} {l : Launch} {E : EX} {M : MD} {R : Room} {Qf : QF} {k n pc : Nat} {L : List (Nat × Value)} {st : List Value} {g : List va_E}
theorem wp_sub (ks : List Nat) {L2 : List (Nat × Value)} (hL : lv_pick L ks = L2) (h : Wp D N l E M R Qf k n pc L2 st g) : Wp D N l E M R Qf k n pc L st g := by
  intro p e s m args below meth c C H locs ls hH hS hl
  exact h p e s m args below meth c C H locs ls hH hS (lv_sub hl ks hL)
theorem wp_imulC {q : Nat} {a b : Nat} (hd : decode M.2.1 pc = .ok (.imul, 1)) (hq : pc + 1 = q) (h : Wp D N l E M R Qf k n q L (.int (nI (b * a)) :: st) g) : Wp D N l E M R Qf k n pc L (.int (nI b) :: .int (nI a) :: st) g := wp_imulN hd hq (by rw [Nat.mul_comm]; exact h)
end WX
end
section
theorem d_FG_within_0 : decode M_FG_within.2.1 0 = .ok (.iload_n 0, 1) := by decide +kernel
theorem d_FG_within_1 : decode M_FG_within.2.1 1 = .ok (.iload_n 1, 1) := by decide +kernel
theorem d_FG_within_2 : decode M_FG_within.2.1 2 = .ok (.if_icmp .lt 12, 3) := by decide +kernel
theorem d_FG_within_5 : decode M_FG_within.2.1 5 = .ok (.iload_n 0, 1) := by decide +kernel
theorem d_FG_within_6 : decode M_FG_within.2.1 6 = .ok (.iload_n 2, 1) := by decide +kernel
theorem d_FG_within_7 : decode M_FG_within.2.1 7 = .ok (.if_icmp .gt 7, 3) := by decide +kernel
theorem d_FG_within_10 : decode M_FG_within.2.1 10 = .ok (.iconst 1, 1) := by decide +kernel
theorem d_FG_within_11 : decode M_FG_within.2.1 11 = .ok (.goto 4, 3) := by decide +kernel
theorem d_FG_within_14 : decode M_FG_within.2.1 14 = .ok (.iconst 0, 1) := by decide +kernel
theorem d_FG_within_15 : decode M_FG_within.2.1 15 = .ok (.ireturn, 1) := by decide +kernel
theorem d_Rf_in_0 : decode M_Rf_in.2.1 0 = .ok (.iload_n 0, 1) := by decide +kernel
theorem d_Rf_in_1 : decode M_Rf_in.2.1 1 = .ok (.iload_n 1, 1) := by decide +kernel
theorem d_Rf_in_2 : decode M_Rf_in.2.1 2 = .ok (.if_icmp .lt 12, 3) := by decide +kernel
theorem d_Rf_in_5 : decode M_Rf_in.2.1 5 = .ok (.iload_n 0, 1) := by decide +kernel
theorem d_Rf_in_6 : decode M_Rf_in.2.1 6 = .ok (.iload_n 2, 1) := by decide +kernel
theorem d_Rf_in_7 : decode M_Rf_in.2.1 7 = .ok (.if_icmp .gt 7, 3) := by decide +kernel
theorem d_Rf_in_10 : decode M_Rf_in.2.1 10 = .ok (.iconst 1, 1) := by decide +kernel
theorem d_Rf_in_11 : decode M_Rf_in.2.1 11 = .ok (.goto 4, 3) := by decide +kernel
theorem d_Rf_in_14 : decode M_Rf_in.2.1 14 = .ok (.iconst 0, 1) := by decide +kernel
theorem d_Rf_in_15 : decode M_Rf_in.2.1 15 = .ok (.ireturn, 1) := by decide +kernel
theorem d_FG_isStage_0 : decode M_FG_isStage.2.1 0 = .ok (.iload_n 0, 1) := by decide +kernel
theorem d_FG_isStage_1 : decode M_FG_isStage.2.1 1 = .ok (.iconst 0, 1) := by decide +kernel
theorem d_FG_isStage_2 : decode M_FG_isStage.2.1 2 = .ok (.iconst 5, 1) := by decide +kernel
theorem d_FG_isStage_3 : decode M_FG_isStage.2.1 3 = .ok (.invokestatic 61, 3) := by decide +kernel
theorem d_FG_isStage_6 : decode M_FG_isStage.2.1 6 = .ok (.ireturn, 1) := by decide +kernel
theorem d_FG_isKind_0 : decode M_FG_isKind.2.1 0 = .ok (.iload_n 0, 1) := by decide +kernel
theorem d_FG_isKind_1 : decode M_FG_isKind.2.1 1 = .ok (.iconst 0, 1) := by decide +kernel
theorem d_FG_isKind_2 : decode M_FG_isKind.2.1 2 = .ok (.iconst 5, 1) := by decide +kernel
theorem d_FG_isKind_3 : decode M_FG_isKind.2.1 3 = .ok (.invokestatic 61, 3) := by decide +kernel
theorem d_FG_isKind_6 : decode M_FG_isKind.2.1 6 = .ok (.ireturn, 1) := by decide +kernel
theorem d_FG_isSheet_0 : decode M_FG_isSheet.2.1 0 = .ok (.iload_n 0, 1) := by decide +kernel
theorem d_FG_isSheet_1 : decode M_FG_isSheet.2.1 1 = .ok (.iconst 0, 1) := by decide +kernel
theorem d_FG_isSheet_2 : decode M_FG_isSheet.2.1 2 = .ok (.iconst 3, 1) := by decide +kernel
theorem d_FG_isSheet_3 : decode M_FG_isSheet.2.1 3 = .ok (.invokestatic 61, 3) := by decide +kernel
theorem d_FG_isSheet_6 : decode M_FG_isSheet.2.1 6 = .ok (.ireturn, 1) := by decide +kernel
theorem d_Rf_isStage_0 : decode M_Rf_isStage.2.1 0 = .ok (.iload_n 0, 1) := by decide +kernel
theorem d_Rf_isStage_1 : decode M_Rf_isStage.2.1 1 = .ok (.iconst 0, 1) := by decide +kernel
theorem d_Rf_isStage_2 : decode M_Rf_isStage.2.1 2 = .ok (.iconst 5, 1) := by decide +kernel
theorem d_Rf_isStage_3 : decode M_Rf_isStage.2.1 3 = .ok (.invokestatic 151, 3) := by decide +kernel
theorem d_Rf_isStage_6 : decode M_Rf_isStage.2.1 6 = .ok (.ireturn, 1) := by decide +kernel
set_option maxHeartbeats 4000000 in
set_option maxRecDepth 100000 in
theorem ok_FG_within {D : xD} {N : Nat} {l : Launch} {d : Nat} {g : List va_E} {K : Option Value → List va_E → Prop} {v lo hi : Int32} (h1 : lo ≤ v → v ≤ hi → K (some (.int (nI 1))) g) (h0 : ¬ (lo ≤ v ∧ v ≤ hi) → K (some (.int (nI 0))) g) : Ok D N l d M_FG_within [.int v, .int lo, .int hi] g 0 0 K := by
  refine ok_of (L := [(0, _), (1, _), (2, _)]) (by decide) (Nat.le_of_ble_eq_true rfl) rfl ?_
  refine wp_iload_n d_FG_within_0 rfl rfl ?_
  refine wp_iload_n d_FG_within_1 rfl rfl ?_
  refine wp_icmp_lt (tgt := 14) d_FG_within_2 (by decide) rfl (fun hc_2 => ?_) (fun hc_2 => ?_)
  · refine wp_iconst d_FG_within_14 rfl ic_0 ?_
    refine wp_zret d_FG_within_15 rfl (rfl) (Nat.le_refl _) (Nat.le_refl _) ?_
    first | exact h0 (fun h => absurd h.1 (lt_le hc_2)) | exact h0 (fun h => absurd h.2 (lt_le hc_7))
  · refine wp_iload_n d_FG_within_5 rfl rfl ?_
    refine wp_iload_n d_FG_within_6 rfl rfl ?_
    refine wp_icmp_gt (tgt := 14) d_FG_within_7 (by decide) rfl (fun hc_7 => ?_) (fun hc_7 => ?_)
    · refine wp_iconst d_FG_within_14 rfl ic_0 ?_
      refine wp_zret d_FG_within_15 rfl (rfl) (Nat.le_refl _) (Nat.le_refl _) ?_
      first | exact h0 (fun h => absurd h.1 (lt_le hc_2)) | exact h0 (fun h => absurd h.2 (lt_le hc_7))
    · refine wp_iconst d_FG_within_10 rfl ic_1 ?_
      refine wp_goto (tgt := 15) d_FG_within_11 (by decide) ?_
      refine wp_zret d_FG_within_15 rfl (rfl) (Nat.le_refl _) (Nat.le_refl _) ?_
      exact h1 (nlt_le hc_2) (nlt_le hc_7)
theorem ok_FG_within0 {D : xD} {N : Nat} {l : Launch} {d : Nat} {g : List va_E} {K : Option Value → List va_E → Prop} {v : Int32} {b : Nat} (hb : b < 2147483648) (h1 : ∀ a : Nat, a ≤ b → v = nI a → K (some (.int (nI 1))) g) (h0 : ¬ (nI 0 ≤ v ∧ v ≤ nI b) → K (some (.int (nI 0))) g) : Ok D N l d M_FG_within [.int v, .int (nI 0), .int (nI b)] g 0 0 K :=
  ok_FG_within (fun h2 h3 => by obtain ⟨a, ha, e⟩ := nI_btw hb h2 h3; exact h1 a ha e) h0
set_option maxHeartbeats 4000000 in
set_option maxRecDepth 100000 in
theorem ok_Rf_in {D : xD} {N : Nat} {l : Launch} {d : Nat} {g : List va_E} {K : Option Value → List va_E → Prop} {v lo hi : Int32} (h1 : lo ≤ v → v ≤ hi → K (some (.int (nI 1))) g) (h0 : ¬ (lo ≤ v ∧ v ≤ hi) → K (some (.int (nI 0))) g) : Ok D N l d M_Rf_in [.int v, .int lo, .int hi] g 0 0 K := by
  refine ok_of (L := [(0, _), (1, _), (2, _)]) (by decide) (Nat.le_of_ble_eq_true rfl) rfl ?_
  refine wp_iload_n d_Rf_in_0 rfl rfl ?_
  refine wp_iload_n d_Rf_in_1 rfl rfl ?_
  refine wp_icmp_lt (tgt := 14) d_Rf_in_2 (by decide) rfl (fun hc_2 => ?_) (fun hc_2 => ?_)
  · refine wp_iconst d_Rf_in_14 rfl ic_0 ?_
    refine wp_zret d_Rf_in_15 rfl (rfl) (Nat.le_refl _) (Nat.le_refl _) ?_
    first | exact h0 (fun h => absurd h.1 (lt_le hc_2)) | exact h0 (fun h => absurd h.2 (lt_le hc_7))
  · refine wp_iload_n d_Rf_in_5 rfl rfl ?_
    refine wp_iload_n d_Rf_in_6 rfl rfl ?_
    refine wp_icmp_gt (tgt := 14) d_Rf_in_7 (by decide) rfl (fun hc_7 => ?_) (fun hc_7 => ?_)
    · refine wp_iconst d_Rf_in_14 rfl ic_0 ?_
      refine wp_zret d_Rf_in_15 rfl (rfl) (Nat.le_refl _) (Nat.le_refl _) ?_
      first | exact h0 (fun h => absurd h.1 (lt_le hc_2)) | exact h0 (fun h => absurd h.2 (lt_le hc_7))
    · refine wp_iconst d_Rf_in_10 rfl ic_1 ?_
      refine wp_goto (tgt := 15) d_Rf_in_11 (by decide) ?_
      refine wp_zret d_Rf_in_15 rfl (rfl) (Nat.le_refl _) (Nat.le_refl _) ?_
      exact h1 (nlt_le hc_2) (nlt_le hc_7)
theorem ok_Rf_in0 {D : xD} {N : Nat} {l : Launch} {d : Nat} {g : List va_E} {K : Option Value → List va_E → Prop} {v : Int32} {b : Nat} (hb : b < 2147483648) (h1 : ∀ a : Nat, a ≤ b → v = nI a → K (some (.int (nI 1))) g) (h0 : ¬ (nI 0 ≤ v ∧ v ≤ nI b) → K (some (.int (nI 0))) g) : Ok D N l d M_Rf_in [.int v, .int (nI 0), .int (nI b)] g 0 0 K :=
  ok_Rf_in (fun h2 h3 => by obtain ⟨a, ha, e⟩ := nI_btw hb h2 h3; exact h1 a ha e) h0
set_option maxHeartbeats 4000000 in
set_option maxRecDepth 100000 in
theorem ok_FG_isStage {D : xD} {N : Nat} {l : Launch} {d : Nat} {g : List va_E} {K : Option Value → List va_E → Prop} {v : Int32} (h1 : ∀ a : Nat, a ≤ 5 → v = nI a → K (some (.int (nI 1))) g) (h0 : ¬ (nI 0 ≤ v ∧ v ≤ nI 5) → K (some (.int (nI 0))) g) : Ok D N l (d + 1) M_FG_isStage [.int v] g 0 0 K := by
  refine ok_of (L := [(0, _)]) (by decide) (Nat.le_of_ble_eq_true rfl) rfl ?_
  refine wp_iload_n d_FG_isStage_0 rfl rfl ?_
  refine wp_iconst d_FG_isStage_1 rfl ic_0 ?_
  refine wp_iconst d_FG_isStage_2 rfl ic_5 ?_
  refine wp_cs3 lk_FG_61 (ro _ _ _) d_FG_isStage_3 rfl (Nat.le_of_ble_eq_true rfl) (Nat.zero_le _) (Nat.zero_le _) ?_
  refine ok_FG_within0 (by decide) (fun a ha e => ?_) (fun hn => ?_)
  · refine wp_zret d_FG_isStage_6 rfl (rfl) (Nat.le_refl _) (Nat.le_refl _) ?_
    exact h1 a ha e
  · refine wp_zret d_FG_isStage_6 rfl (rfl) (Nat.le_refl _) (Nat.le_refl _) ?_
    exact h0 hn
set_option maxHeartbeats 4000000 in
set_option maxRecDepth 100000 in
theorem ok_FG_isKind {D : xD} {N : Nat} {l : Launch} {d : Nat} {g : List va_E} {K : Option Value → List va_E → Prop} {v : Int32} (h1 : ∀ a : Nat, a ≤ 5 → v = nI a → K (some (.int (nI 1))) g) (h0 : ¬ (nI 0 ≤ v ∧ v ≤ nI 5) → K (some (.int (nI 0))) g) : Ok D N l (d + 1) M_FG_isKind [.int v] g 0 0 K := by
  refine ok_of (L := [(0, _)]) (by decide) (Nat.le_of_ble_eq_true rfl) rfl ?_
  refine wp_iload_n d_FG_isKind_0 rfl rfl ?_
  refine wp_iconst d_FG_isKind_1 rfl ic_0 ?_
  refine wp_iconst d_FG_isKind_2 rfl ic_5 ?_
  refine wp_cs3 lk_FG_61 (ro _ _ _) d_FG_isKind_3 rfl (Nat.le_of_ble_eq_true rfl) (Nat.zero_le _) (Nat.zero_le _) ?_
  refine ok_FG_within0 (by decide) (fun a ha e => ?_) (fun hn => ?_)
  · refine wp_zret d_FG_isKind_6 rfl (rfl) (Nat.le_refl _) (Nat.le_refl _) ?_
    exact h1 a ha e
  · refine wp_zret d_FG_isKind_6 rfl (rfl) (Nat.le_refl _) (Nat.le_refl _) ?_
    exact h0 hn
set_option maxHeartbeats 4000000 in
set_option maxRecDepth 100000 in
theorem ok_FG_isSheet {D : xD} {N : Nat} {l : Launch} {d : Nat} {g : List va_E} {K : Option Value → List va_E → Prop} {v : Int32} (h1 : ∀ a : Nat, a ≤ 3 → v = nI a → K (some (.int (nI 1))) g) (h0 : ¬ (nI 0 ≤ v ∧ v ≤ nI 3) → K (some (.int (nI 0))) g) : Ok D N l (d + 1) M_FG_isSheet [.int v] g 0 0 K := by
  refine ok_of (L := [(0, _)]) (by decide) (Nat.le_of_ble_eq_true rfl) rfl ?_
  refine wp_iload_n d_FG_isSheet_0 rfl rfl ?_
  refine wp_iconst d_FG_isSheet_1 rfl ic_0 ?_
  refine wp_iconst d_FG_isSheet_2 rfl ic_3 ?_
  refine wp_cs3 lk_FG_61 (ro _ _ _) d_FG_isSheet_3 rfl (Nat.le_of_ble_eq_true rfl) (Nat.zero_le _) (Nat.zero_le _) ?_
  refine ok_FG_within0 (by decide) (fun a ha e => ?_) (fun hn => ?_)
  · refine wp_zret d_FG_isSheet_6 rfl (rfl) (Nat.le_refl _) (Nat.le_refl _) ?_
    exact h1 a ha e
  · refine wp_zret d_FG_isSheet_6 rfl (rfl) (Nat.le_refl _) (Nat.le_refl _) ?_
    exact h0 hn
set_option maxHeartbeats 4000000 in
set_option maxRecDepth 100000 in
theorem ok_Rf_isStage {D : xD} {N : Nat} {l : Launch} {d : Nat} {g : List va_E} {K : Option Value → List va_E → Prop} {v : Int32} (h1 : ∀ a : Nat, a ≤ 5 → v = nI a → K (some (.int (nI 1))) g) (h0 : ¬ (nI 0 ≤ v ∧ v ≤ nI 5) → K (some (.int (nI 0))) g) : Ok D N l (d + 1) M_Rf_isStage [.int v] g 0 0 K := by
  refine ok_of (L := [(0, _)]) (by decide) (Nat.le_of_ble_eq_true rfl) rfl ?_
  refine wp_iload_n d_Rf_isStage_0 rfl rfl ?_
  refine wp_iconst d_Rf_isStage_1 rfl ic_0 ?_
  refine wp_iconst d_Rf_isStage_2 rfl ic_5 ?_
  refine wp_cs3 lk_Rf_151 (ro _ _ _) d_Rf_isStage_3 rfl (Nat.le_of_ble_eq_true rfl) (Nat.zero_le _) (Nat.zero_le _) ?_
  refine ok_Rf_in0 (by decide) (fun a ha e => ?_) (fun hn => ?_)
  · refine wp_zret d_Rf_isStage_6 rfl (rfl) (Nat.le_refl _) (Nat.le_refl _) ?_
    exact h1 a ha e
  · refine wp_zret d_Rf_isStage_6 rfl (rfl) (Nat.le_refl _) (Nat.le_refl _) ?_
    exact h0 hn
theorem d_FG_isBus_0 : decode M_FG_isBus.2.1 0 = .ok (.iload_n 1, 1) := by decide +kernel
theorem d_FG_isBus_1 : decode M_FG_isBus.2.1 1 = .ok (.iconst 0, 1) := by decide +kernel
theorem d_FG_isBus_2 : decode M_FG_isBus.2.1 2 = .ok (.aload_n 0, 1) := by decide +kernel
theorem d_FG_isBus_3 : decode M_FG_isBus.2.1 3 = .ok (.getfield 10, 3) := by decide +kernel
theorem d_FG_isBus_6 : decode M_FG_isBus.2.1 6 = .ok (.getfield 224, 3) := by decide +kernel
theorem d_FG_isBus_9 : decode M_FG_isBus.2.1 9 = .ok (.iconst 1, 1) := by decide +kernel
theorem d_FG_isBus_10 : decode M_FG_isBus.2.1 10 = .ok (.isub, 1) := by decide +kernel
theorem d_FG_isBus_11 : decode M_FG_isBus.2.1 11 = .ok (.invokestatic 61, 3) := by decide +kernel
theorem d_FG_isBus_14 : decode M_FG_isBus.2.1 14 = .ok (.ireturn, 1) := by decide +kernel
set_option maxHeartbeats 4000000 in
set_option maxRecDepth 100000 in
theorem ok_FG_isBus {D : xD} {N : Nat} {l : Launch} {d : Nat} {c x V : T2} {ln df : Nat → Option Nat} {rest : List va_E} {K : Option Value → List va_E → Prop} {b : Int32} {nb : Nat} (hnb : c 32 1 = nI nb) (h12 : nb ≤ 12) (h1 : ∀ a : Nat, a < nb → b = nI a → K (some (.int (nI 1))) (encC D N c x V ln df ++ rest)) (h0 : ¬ (nI 0 ≤ b ∧ b < c 32 1) → K (some (.int (nI 0))) (encC D N c x V ln df ++ rest)) : Ok D N l (d + 1) M_FG_isBus [.ref (N + 0), .int b] (encC D N c x V ln df ++ rest) 0 0 K := by
  refine ok_of (L := [(0, _), (1, _)]) (by decide) (Nat.le_of_ble_eq_true rfl) rfl ?_
  refine wp_iload_n d_FG_isBus_0 rfl rfl ?_
  refine wp_iconst d_FG_isBus_1 rfl ic_0 ?_
  refine wp_aload_n d_FG_isBus_2 rfl rfl ?_
  refine wp_get fl_FG_10 d_FG_isBus_3 rfl rfl rfl ?_
  refine wp_get fl_FG_224 d_FG_isBus_6 rfl rfl rfl ?_
  refine wp_iconst d_FG_isBus_9 rfl ic_1 ?_
  refine wp_isub d_FG_isBus_10 rfl ?_
  refine wp_cs3 lk_FG_61 (ro _ _ _) d_FG_isBus_11 rfl (Nat.le_of_ble_eq_true rfl) (Nat.zero_le _) (Nat.zero_le _) ?_
  refine ok_FG_within (fun e0 e1 => ?_) (fun e0 => ?_)
  · refine wp_zret d_FG_isBus_14 rfl (rfl) (Nat.le_refl _) (Nat.le_refl _) ?_
    obtain ⟨a, ha, e⟩ := (inb_iff hnb (by omega)).mp ((inb_sub hnb (by omega)).mp ⟨e0, e1⟩)
    exact h1 a ha e
  · refine wp_zret d_FG_isBus_14 rfl (rfl) (Nat.le_refl _) (Nat.le_refl _) ?_
    exact h0 (fun h => e0 ((inb_sub hnb (by omega)).mpr h))
theorem d_FG_isMember_0 : decode M_FG_isMember.2.1 0 = .ok (.iload_n 1, 1) := by decide +kernel
theorem d_FG_isMember_1 : decode M_FG_isMember.2.1 1 = .ok (.iconst 0, 1) := by decide +kernel
theorem d_FG_isMember_2 : decode M_FG_isMember.2.1 2 = .ok (.aload_n 0, 1) := by decide +kernel
theorem d_FG_isMember_3 : decode M_FG_isMember.2.1 3 = .ok (.getfield 239, 3) := by decide +kernel
theorem d_FG_isMember_6 : decode M_FG_isMember.2.1 6 = .ok (.iconst 1, 1) := by decide +kernel
theorem d_FG_isMember_7 : decode M_FG_isMember.2.1 7 = .ok (.isub, 1) := by decide +kernel
theorem d_FG_isMember_8 : decode M_FG_isMember.2.1 8 = .ok (.invokestatic 61, 3) := by decide +kernel
theorem d_FG_isMember_11 : decode M_FG_isMember.2.1 11 = .ok (.ireturn, 1) := by decide +kernel
set_option maxHeartbeats 4000000 in
set_option maxRecDepth 100000 in
theorem ok_FG_isMember {D : xD} {N : Nat} {l : Launch} {d : Nat} {c x V : T2} {ln df : Nat → Option Nat} {rest : List va_E} {K : Option Value → List va_E → Prop} {b : Int32} {nb : Nat} (hnm : c 32 4 = nI nb) (hm6 : nb ≤ 6) (h1 : ∀ a : Nat, a < nb → b = nI a → K (some (.int (nI 1))) (encC D N c x V ln df ++ rest)) (h0 : ¬ (nI 0 ≤ b ∧ b < c 32 4) → K (some (.int (nI 0))) (encC D N c x V ln df ++ rest)) : Ok D N l (d + 1) M_FG_isMember [.ref (N + 0), .int b] (encC D N c x V ln df ++ rest) 0 0 K := by
  refine ok_of (L := [(0, _), (1, _)]) (by decide) (Nat.le_of_ble_eq_true rfl) rfl ?_
  refine wp_iload_n d_FG_isMember_0 rfl rfl ?_
  refine wp_iconst d_FG_isMember_1 rfl ic_0 ?_
  refine wp_aload_n d_FG_isMember_2 rfl rfl ?_
  refine wp_get fl_FG_239 d_FG_isMember_3 rfl rfl rfl ?_
  refine wp_iconst d_FG_isMember_6 rfl ic_1 ?_
  refine wp_isub d_FG_isMember_7 rfl ?_
  refine wp_cs3 lk_FG_61 (ro _ _ _) d_FG_isMember_8 rfl (Nat.le_of_ble_eq_true rfl) (Nat.zero_le _) (Nat.zero_le _) ?_
  refine ok_FG_within (fun e0 e1 => ?_) (fun e0 => ?_)
  · refine wp_zret d_FG_isMember_11 rfl (rfl) (Nat.le_refl _) (Nat.le_refl _) ?_
    obtain ⟨a, ha, e⟩ := (inb_iff hnm (by omega)).mp ((inb_sub hnm (by omega)).mp ⟨e0, e1⟩)
    exact h1 a ha e
  · refine wp_zret d_FG_isMember_11 rfl (rfl) (Nat.le_refl _) (Nat.le_refl _) ?_
    exact h0 (fun h => e0 ((inb_sub hnm (by omega)).mpr h))
theorem d_Rf_isBus_0 : decode M_Rf_isBus.2.1 0 = .ok (.iload_n 1, 1) := by decide +kernel
theorem d_Rf_isBus_1 : decode M_Rf_isBus.2.1 1 = .ok (.iconst 0, 1) := by decide +kernel
theorem d_Rf_isBus_2 : decode M_Rf_isBus.2.1 2 = .ok (.aload_n 0, 1) := by decide +kernel
theorem d_Rf_isBus_3 : decode M_Rf_isBus.2.1 3 = .ok (.getfield 155, 3) := by decide +kernel
theorem d_Rf_isBus_6 : decode M_Rf_isBus.2.1 6 = .ok (.iconst 1, 1) := by decide +kernel
theorem d_Rf_isBus_7 : decode M_Rf_isBus.2.1 7 = .ok (.isub, 1) := by decide +kernel
theorem d_Rf_isBus_8 : decode M_Rf_isBus.2.1 8 = .ok (.invokestatic 151, 3) := by decide +kernel
theorem d_Rf_isBus_11 : decode M_Rf_isBus.2.1 11 = .ok (.ireturn, 1) := by decide +kernel
set_option maxHeartbeats 4000000 in
set_option maxRecDepth 100000 in
theorem ok_Rf_isBus {D : xD} {N : Nat} {l : Launch} {d : Nat} {c z : T2} {P Q : Nat → Int32} {rest : List va_E} {K : Option Value → List va_E → Prop} {b : Int32} {nb : Nat} (hnb : c 32 1 = nI nb) (h12 : nb ≤ 12) (h1 : ∀ a : Nat, a < nb → b = nI a → K (some (.int (nI 1))) (encR D N c z P Q ++ rest)) (h0 : ¬ (nI 0 ≤ b ∧ b < c 32 1) → K (some (.int (nI 0))) (encR D N c z P Q ++ rest)) : Ok D N l (d + 1) M_Rf_isBus [.ref (N + 0), .int b] (encR D N c z P Q ++ rest) 0 0 K := by
  refine ok_of (L := [(0, _), (1, _)]) (by decide) (Nat.le_of_ble_eq_true rfl) rfl ?_
  refine wp_iload_n d_Rf_isBus_0 rfl rfl ?_
  refine wp_iconst d_Rf_isBus_1 rfl ic_0 ?_
  refine wp_aload_n d_Rf_isBus_2 rfl rfl ?_
  refine wp_get fl_Rf_155 d_Rf_isBus_3 rfl rfl rfl ?_
  refine wp_iconst d_Rf_isBus_6 rfl ic_1 ?_
  refine wp_isub d_Rf_isBus_7 rfl ?_
  refine wp_cs3 lk_Rf_151 (ro _ _ _) d_Rf_isBus_8 rfl (Nat.le_of_ble_eq_true rfl) (Nat.zero_le _) (Nat.zero_le _) ?_
  refine ok_Rf_in (fun e0 e1 => ?_) (fun e0 => ?_)
  · refine wp_zret d_Rf_isBus_11 rfl (rfl) (Nat.le_refl _) (Nat.le_refl _) ?_
    obtain ⟨a, ha, e⟩ := (inb_iff hnb (by omega)).mp ((inb_sub hnb (by omega)).mp ⟨e0, e1⟩)
    exact h1 a ha e
  · refine wp_zret d_Rf_isBus_11 rfl (rfl) (Nat.le_refl _) (Nat.le_refl _) ?_
    exact h0 (fun h => e0 ((inb_sub hnb (by omega)).mpr h))
theorem d_Rf_isMember_0 : decode M_Rf_isMember.2.1 0 = .ok (.iload_n 1, 1) := by decide +kernel
theorem d_Rf_isMember_1 : decode M_Rf_isMember.2.1 1 = .ok (.iconst 0, 1) := by decide +kernel
theorem d_Rf_isMember_2 : decode M_Rf_isMember.2.1 2 = .ok (.aload_n 0, 1) := by decide +kernel
theorem d_Rf_isMember_3 : decode M_Rf_isMember.2.1 3 = .ok (.getfield 267, 3) := by decide +kernel
theorem d_Rf_isMember_6 : decode M_Rf_isMember.2.1 6 = .ok (.iconst 1, 1) := by decide +kernel
theorem d_Rf_isMember_7 : decode M_Rf_isMember.2.1 7 = .ok (.isub, 1) := by decide +kernel
theorem d_Rf_isMember_8 : decode M_Rf_isMember.2.1 8 = .ok (.invokestatic 151, 3) := by decide +kernel
theorem d_Rf_isMember_11 : decode M_Rf_isMember.2.1 11 = .ok (.ireturn, 1) := by decide +kernel
set_option maxHeartbeats 4000000 in
set_option maxRecDepth 100000 in
theorem ok_Rf_isMember {D : xD} {N : Nat} {l : Launch} {d : Nat} {c z : T2} {P Q : Nat → Int32} {rest : List va_E} {K : Option Value → List va_E → Prop} {b : Int32} {nb : Nat} (hnm : c 32 4 = nI nb) (hm6 : nb ≤ 6) (h1 : ∀ a : Nat, a < nb → b = nI a → K (some (.int (nI 1))) (encR D N c z P Q ++ rest)) (h0 : ¬ (nI 0 ≤ b ∧ b < c 32 4) → K (some (.int (nI 0))) (encR D N c z P Q ++ rest)) : Ok D N l (d + 1) M_Rf_isMember [.ref (N + 0), .int b] (encR D N c z P Q ++ rest) 0 0 K := by
  refine ok_of (L := [(0, _), (1, _)]) (by decide) (Nat.le_of_ble_eq_true rfl) rfl ?_
  refine wp_iload_n d_Rf_isMember_0 rfl rfl ?_
  refine wp_iconst d_Rf_isMember_1 rfl ic_0 ?_
  refine wp_aload_n d_Rf_isMember_2 rfl rfl ?_
  refine wp_get fl_Rf_267 d_Rf_isMember_3 rfl rfl rfl ?_
  refine wp_iconst d_Rf_isMember_6 rfl ic_1 ?_
  refine wp_isub d_Rf_isMember_7 rfl ?_
  refine wp_cs3 lk_Rf_151 (ro _ _ _) d_Rf_isMember_8 rfl (Nat.le_of_ble_eq_true rfl) (Nat.zero_le _) (Nat.zero_le _) ?_
  refine ok_Rf_in (fun e0 e1 => ?_) (fun e0 => ?_)
  · refine wp_zret d_Rf_isMember_11 rfl (rfl) (Nat.le_refl _) (Nat.le_refl _) ?_
    obtain ⟨a, ha, e⟩ := (inb_iff hnm (by omega)).mp ((inb_sub hnm (by omega)).mp ⟨e0, e1⟩)
    exact h1 a ha e
  · refine wp_zret d_Rf_isMember_11 rfl (rfl) (Nat.le_refl _) (Nat.le_refl _) ?_
    exact h0 (fun h => e0 ((inb_sub hnm (by omega)).mpr h))
end
section
/-- a bus comes to queue -/
def lineP (P : Nat → Int32) (b s : Nat) : Nat → Int32 := upd (upd (upd (upd (upd (upd (upd P (72 + b) (nI 1)) (84 + b) (nI s)) (96 + b) (P (228 + s))) (228 + s) (P (228 + s) + nI 1)) (144 + b) (P 234)) (120 + b) (nI 0)) (132 + b) (nI 0)
theorem d_Wd_lineUp_0 : decode M_Wd_lineUp.2.1 0 = .ok (.aload_n 0, 1) := by decide +kernel
theorem d_Wd_lineUp_1 : decode M_Wd_lineUp.2.1 1 = .ok (.getfield 23, 3) := by decide +kernel
theorem d_Wd_lineUp_4 : decode M_Wd_lineUp.2.1 4 = .ok (.iload_n 1, 1) := by decide +kernel
theorem d_Wd_lineUp_5 : decode M_Wd_lineUp.2.1 5 = .ok (.aaload, 1) := by decide +kernel
theorem d_Wd_lineUp_6 : decode M_Wd_lineUp.2.1 6 = .ok (.astore_n 3, 1) := by decide +kernel
theorem d_Wd_lineUp_7 : decode M_Wd_lineUp.2.1 7 = .ok (.aload_n 3, 1) := by decide +kernel
theorem d_Wd_lineUp_8 : decode M_Wd_lineUp.2.1 8 = .ok (.iconst 1, 1) := by decide +kernel
theorem d_Wd_lineUp_9 : decode M_Wd_lineUp.2.1 9 = .ok (.putfield 54, 3) := by decide +kernel
theorem d_Wd_lineUp_12 : decode M_Wd_lineUp.2.1 12 = .ok (.aload_n 3, 1) := by decide +kernel
theorem d_Wd_lineUp_13 : decode M_Wd_lineUp.2.1 13 = .ok (.iload_n 2, 1) := by decide +kernel
theorem d_Wd_lineUp_14 : decode M_Wd_lineUp.2.1 14 = .ok (.putfield 57, 3) := by decide +kernel
theorem d_Wd_lineUp_17 : decode M_Wd_lineUp.2.1 17 = .ok (.aload_n 3, 1) := by decide +kernel
theorem d_Wd_lineUp_18 : decode M_Wd_lineUp.2.1 18 = .ok (.aload_n 0, 1) := by decide +kernel
theorem d_Wd_lineUp_19 : decode M_Wd_lineUp.2.1 19 = .ok (.getfield 18, 3) := by decide +kernel
theorem d_Wd_lineUp_22 : decode M_Wd_lineUp.2.1 22 = .ok (.iload_n 2, 1) := by decide +kernel
theorem d_Wd_lineUp_23 : decode M_Wd_lineUp.2.1 23 = .ok (.iaload, 1) := by decide +kernel
theorem d_Wd_lineUp_24 : decode M_Wd_lineUp.2.1 24 = .ok (.putfield 60, 3) := by decide +kernel
theorem d_Wd_lineUp_27 : decode M_Wd_lineUp.2.1 27 = .ok (.aload_n 3, 1) := by decide +kernel
theorem d_Wd_lineUp_28 : decode M_Wd_lineUp.2.1 28 = .ok (.aload_n 0, 1) := by decide +kernel
theorem d_Wd_lineUp_29 : decode M_Wd_lineUp.2.1 29 = .ok (.getfield 28, 3) := by decide +kernel
theorem d_Wd_lineUp_32 : decode M_Wd_lineUp.2.1 32 = .ok (.putfield 63, 3) := by decide +kernel
theorem d_Wd_lineUp_35 : decode M_Wd_lineUp.2.1 35 = .ok (.aload_n 3, 1) := by decide +kernel
theorem d_Wd_lineUp_36 : decode M_Wd_lineUp.2.1 36 = .ok (.iconst 0, 1) := by decide +kernel
theorem d_Wd_lineUp_37 : decode M_Wd_lineUp.2.1 37 = .ok (.putfield 66, 3) := by decide +kernel
theorem d_Wd_lineUp_40 : decode M_Wd_lineUp.2.1 40 = .ok (.aload_n 3, 1) := by decide +kernel
theorem d_Wd_lineUp_41 : decode M_Wd_lineUp.2.1 41 = .ok (.iconst 0, 1) := by decide +kernel
theorem d_Wd_lineUp_42 : decode M_Wd_lineUp.2.1 42 = .ok (.putfield 69, 3) := by decide +kernel
theorem d_Wd_lineUp_45 : decode M_Wd_lineUp.2.1 45 = .ok (.aload_n 0, 1) := by decide +kernel
theorem d_Wd_lineUp_46 : decode M_Wd_lineUp.2.1 46 = .ok (.getfield 18, 3) := by decide +kernel
theorem d_Wd_lineUp_49 : decode M_Wd_lineUp.2.1 49 = .ok (.iload_n 2, 1) := by decide +kernel
theorem d_Wd_lineUp_50 : decode M_Wd_lineUp.2.1 50 = .ok (.dup2, 1) := by decide +kernel
theorem d_Wd_lineUp_51 : decode M_Wd_lineUp.2.1 51 = .ok (.iaload, 1) := by decide +kernel
theorem d_Wd_lineUp_52 : decode M_Wd_lineUp.2.1 52 = .ok (.iconst 1, 1) := by decide +kernel
theorem d_Wd_lineUp_53 : decode M_Wd_lineUp.2.1 53 = .ok (.iadd, 1) := by decide +kernel
theorem d_Wd_lineUp_54 : decode M_Wd_lineUp.2.1 54 = .ok (.iastore, 1) := by decide +kernel
theorem d_Wd_lineUp_55 : decode M_Wd_lineUp.2.1 55 = .ok (.aload_n 3, 1) := by decide +kernel
theorem d_Wd_lineUp_56 : decode M_Wd_lineUp.2.1 56 = .ok (.getfield 60, 3) := by decide +kernel
theorem d_Wd_lineUp_59 : decode M_Wd_lineUp.2.1 59 = .ok (.ireturn, 1) := by decide +kernel
set_option maxHeartbeats 4000000 in
set_option maxRecDepth 100000 in
theorem ok_Wd_lineUp {D : xD} {N : Nat} {l : Launch} {d : Nat} {c x V : T2} {P : Nat → Int32} {w b s : Nat} {ln df : Nat → Option Nat} {rest : List va_E} {K : Option Value → List va_E → Prop} (hw : w < 3) (hb : b < 12) (hs : s < 6) (hK : K (some (.int (P (228 + s)))) (encC D N c x (va_up V w (lineP P b s)) ln df ++ rest)) : Ok D N l d M_Wd_lineUp [.ref (N + wA w), .int (nI b), .int (nI s)] (encC D N c x (va_up V w P) ln df ++ rest) 0 0 K := by
  refine ok_of (L := [(0, _), (1, _), (2, _)]) (by decide) (Nat.le_of_ble_eq_true rfl) rfl ?_
  refine wp_aload_n d_Wd_lineUp_0 rfl rfl ?_
  refine wp_get fl_Wd_23 d_Wd_lineUp_1 rfl (rdO (w := w) hw) rfl ?_
  refine wp_iload_n d_Wd_lineUp_4 rfl rfl ?_
  refine wp_aldR d_Wd_lineUp_5 rfl (rd4 (w := w) hw) (by omega) (by decide) (rowsW_at (by omega)) ?_
  refine wp_astore_n (L2 := [(3, _), (0, _), (1, _), (2, _)]) d_Wd_lineUp_6 rfl (by decide) rfl ?_
  refine wp_aload_n d_Wd_lineUp_7 rfl rfl ?_
  refine wp_iconst d_Wd_lineUp_8 rfl ic_1 ?_
  refine wp_put fl_Wd_54 d_Wd_lineUp_9 rfl (rdR (w := w) hw hb) (Nat.le_of_ble_eq_true rfl) rfl rfl (fdw (w := w) hw (by omega) (ws_r0 hb)) ?_
  refine wp_aload_n d_Wd_lineUp_12 rfl rfl ?_
  refine wp_iload_n d_Wd_lineUp_13 rfl rfl ?_
  refine wp_put fl_Wd_57 d_Wd_lineUp_14 rfl (rdR (w := w) hw hb) (Nat.le_of_ble_eq_true rfl) rfl rfl (fdw (w := w) hw (by omega) (ws_r1 hb)) ?_
  refine wp_aload_n d_Wd_lineUp_17 rfl rfl ?_
  refine wp_aload_n d_Wd_lineUp_18 rfl rfl ?_
  refine wp_get fl_Wd_18 d_Wd_lineUp_19 rfl (rdO (w := w) hw) rfl ?_
  refine wp_iload_n d_Wd_lineUp_22 rfl rfl ?_
  refine wp_iald d_Wd_lineUp_23 rfl (rd3 (w := w) hw) (by omega) (by decide) ?_
  refine wp_put fl_Wd_60 d_Wd_lineUp_24 rfl (rdR (w := w) hw hb) (Nat.le_of_ble_eq_true rfl) rfl rfl (fdw (w := w) hw (by omega) (ws_r2 hb)) ?_
  refine wp_aload_n d_Wd_lineUp_27 rfl rfl ?_
  refine wp_aload_n d_Wd_lineUp_28 rfl rfl ?_
  refine wp_get fl_Wd_28 d_Wd_lineUp_29 rfl (rdO (w := w) hw) rfl ?_
  refine wp_put fl_Wd_63 d_Wd_lineUp_32 rfl (rdR (w := w) hw hb) (Nat.le_of_ble_eq_true rfl) rfl rfl (fdw (w := w) hw (by omega) (ws_r6 hb)) ?_
  refine wp_aload_n d_Wd_lineUp_35 rfl rfl ?_
  refine wp_iconst d_Wd_lineUp_36 rfl ic_0 ?_
  refine wp_put fl_Wd_66 d_Wd_lineUp_37 rfl (rdR (w := w) hw hb) (Nat.le_of_ble_eq_true rfl) rfl rfl (fdw (w := w) hw (by omega) (ws_r4 hb)) ?_
  refine wp_aload_n d_Wd_lineUp_40 rfl rfl ?_
  refine wp_iconst d_Wd_lineUp_41 rfl ic_0 ?_
  refine wp_put fl_Wd_69 d_Wd_lineUp_42 rfl (rdR (w := w) hw hb) (Nat.le_of_ble_eq_true rfl) rfl rfl (fdw (w := w) hw (by omega) (ws_r5 hb)) ?_
  refine wp_aload_n d_Wd_lineUp_45 rfl rfl ?_
  refine wp_get fl_Wd_18 d_Wd_lineUp_46 rfl (rdO (w := w) hw) rfl ?_
  refine wp_iload_n d_Wd_lineUp_49 rfl rfl ?_
  refine wp_dup2 d_Wd_lineUp_50 rfl rfl rfl ?_
  refine wp_iald d_Wd_lineUp_51 rfl (rd3 (w := w) hw) (by omega) (by decide) ?_
  refine wp_iconst d_Wd_lineUp_52 rfl ic_1 ?_
  first | refine wp_iaddN d_Wd_lineUp_53 rfl ?_ | refine wp_iadd d_Wd_lineUp_53 rfl ?_
  refine wp_iast d_Wd_lineUp_54 rfl (rd3 (w := w) hw) (by omega) (by decide) (fdw (w := w) (i := 3) hw (by decide) (ws_n (by omega))) ?_
  refine wp_aload_n d_Wd_lineUp_55 rfl rfl ?_
  refine wp_get fl_Wd_60 d_Wd_lineUp_56 rfl (rdR (w := w) hw hb) rfl ?_
  refine wp_iret d_Wd_lineUp_59 rfl (Nat.le_refl _) (Nat.le_refl _) ?_
  refine kP hK ?_ ?_
  · simp (disch := omega) only [sl_at hs, upd_ne, upd_eq]
  · unfold lineP
    simp (disch := omega) only [sl_at hs, upd_ne, upd_eq]
    funext i
    simp only [upd]
    repeat' split
    all_goals first | rfl | omega
theorem d_Rf_queuesAt_0 : decode M_Rf_queuesAt.2.1 0 = .ok (.aload_n 0, 1) := by decide +kernel
theorem d_Rf_queuesAt_1 : decode M_Rf_queuesAt.2.1 1 = .ok (.getfield 7, 3) := by decide +kernel
theorem d_Rf_queuesAt_4 : decode M_Rf_queuesAt.2.1 4 = .ok (.bipush 72, 2) := by decide +kernel
theorem d_Rf_queuesAt_6 : decode M_Rf_queuesAt.2.1 6 = .ok (.iload_n 1, 1) := by decide +kernel
theorem d_Rf_queuesAt_7 : decode M_Rf_queuesAt.2.1 7 = .ok (.iadd, 1) := by decide +kernel
theorem d_Rf_queuesAt_8 : decode M_Rf_queuesAt.2.1 8 = .ok (.iconst 1, 1) := by decide +kernel
theorem d_Rf_queuesAt_9 : decode M_Rf_queuesAt.2.1 9 = .ok (.iastore, 1) := by decide +kernel
theorem d_Rf_queuesAt_10 : decode M_Rf_queuesAt.2.1 10 = .ok (.aload_n 0, 1) := by decide +kernel
theorem d_Rf_queuesAt_11 : decode M_Rf_queuesAt.2.1 11 = .ok (.getfield 7, 3) := by decide +kernel
theorem d_Rf_queuesAt_14 : decode M_Rf_queuesAt.2.1 14 = .ok (.bipush 84, 2) := by decide +kernel
theorem d_Rf_queuesAt_16 : decode M_Rf_queuesAt.2.1 16 = .ok (.iload_n 1, 1) := by decide +kernel
theorem d_Rf_queuesAt_17 : decode M_Rf_queuesAt.2.1 17 = .ok (.iadd, 1) := by decide +kernel
theorem d_Rf_queuesAt_18 : decode M_Rf_queuesAt.2.1 18 = .ok (.iload_n 2, 1) := by decide +kernel
theorem d_Rf_queuesAt_19 : decode M_Rf_queuesAt.2.1 19 = .ok (.iastore, 1) := by decide +kernel
theorem d_Rf_queuesAt_20 : decode M_Rf_queuesAt.2.1 20 = .ok (.aload_n 0, 1) := by decide +kernel
theorem d_Rf_queuesAt_21 : decode M_Rf_queuesAt.2.1 21 = .ok (.getfield 7, 3) := by decide +kernel
theorem d_Rf_queuesAt_24 : decode M_Rf_queuesAt.2.1 24 = .ok (.bipush 96, 2) := by decide +kernel
theorem d_Rf_queuesAt_26 : decode M_Rf_queuesAt.2.1 26 = .ok (.iload_n 1, 1) := by decide +kernel
theorem d_Rf_queuesAt_27 : decode M_Rf_queuesAt.2.1 27 = .ok (.iadd, 1) := by decide +kernel
theorem d_Rf_queuesAt_28 : decode M_Rf_queuesAt.2.1 28 = .ok (.aload_n 0, 1) := by decide +kernel
theorem d_Rf_queuesAt_29 : decode M_Rf_queuesAt.2.1 29 = .ok (.getfield 7, 3) := by decide +kernel
theorem d_Rf_queuesAt_32 : decode M_Rf_queuesAt.2.1 32 = .ok (.sipush 228, 3) := by decide +kernel
theorem d_Rf_queuesAt_35 : decode M_Rf_queuesAt.2.1 35 = .ok (.iload_n 2, 1) := by decide +kernel
theorem d_Rf_queuesAt_36 : decode M_Rf_queuesAt.2.1 36 = .ok (.iadd, 1) := by decide +kernel
theorem d_Rf_queuesAt_37 : decode M_Rf_queuesAt.2.1 37 = .ok (.iaload, 1) := by decide +kernel
theorem d_Rf_queuesAt_38 : decode M_Rf_queuesAt.2.1 38 = .ok (.iastore, 1) := by decide +kernel
theorem d_Rf_queuesAt_39 : decode M_Rf_queuesAt.2.1 39 = .ok (.aload_n 0, 1) := by decide +kernel
theorem d_Rf_queuesAt_40 : decode M_Rf_queuesAt.2.1 40 = .ok (.getfield 7, 3) := by decide +kernel
theorem d_Rf_queuesAt_43 : decode M_Rf_queuesAt.2.1 43 = .ok (.sipush 228, 3) := by decide +kernel
theorem d_Rf_queuesAt_46 : decode M_Rf_queuesAt.2.1 46 = .ok (.iload_n 2, 1) := by decide +kernel
theorem d_Rf_queuesAt_47 : decode M_Rf_queuesAt.2.1 47 = .ok (.iadd, 1) := by decide +kernel
theorem d_Rf_queuesAt_48 : decode M_Rf_queuesAt.2.1 48 = .ok (.dup2, 1) := by decide +kernel
theorem d_Rf_queuesAt_49 : decode M_Rf_queuesAt.2.1 49 = .ok (.iaload, 1) := by decide +kernel
theorem d_Rf_queuesAt_50 : decode M_Rf_queuesAt.2.1 50 = .ok (.iconst 1, 1) := by decide +kernel
theorem d_Rf_queuesAt_51 : decode M_Rf_queuesAt.2.1 51 = .ok (.iadd, 1) := by decide +kernel
theorem d_Rf_queuesAt_52 : decode M_Rf_queuesAt.2.1 52 = .ok (.iastore, 1) := by decide +kernel
theorem d_Rf_queuesAt_53 : decode M_Rf_queuesAt.2.1 53 = .ok (.aload_n 0, 1) := by decide +kernel
theorem d_Rf_queuesAt_54 : decode M_Rf_queuesAt.2.1 54 = .ok (.getfield 7, 3) := by decide +kernel
theorem d_Rf_queuesAt_57 : decode M_Rf_queuesAt.2.1 57 = .ok (.sipush 144, 3) := by decide +kernel
theorem d_Rf_queuesAt_60 : decode M_Rf_queuesAt.2.1 60 = .ok (.iload_n 1, 1) := by decide +kernel
theorem d_Rf_queuesAt_61 : decode M_Rf_queuesAt.2.1 61 = .ok (.iadd, 1) := by decide +kernel
theorem d_Rf_queuesAt_62 : decode M_Rf_queuesAt.2.1 62 = .ok (.aload_n 0, 1) := by decide +kernel
theorem d_Rf_queuesAt_63 : decode M_Rf_queuesAt.2.1 63 = .ok (.getfield 7, 3) := by decide +kernel
theorem d_Rf_queuesAt_66 : decode M_Rf_queuesAt.2.1 66 = .ok (.sipush 234, 3) := by decide +kernel
theorem d_Rf_queuesAt_69 : decode M_Rf_queuesAt.2.1 69 = .ok (.iaload, 1) := by decide +kernel
theorem d_Rf_queuesAt_70 : decode M_Rf_queuesAt.2.1 70 = .ok (.iastore, 1) := by decide +kernel
theorem d_Rf_queuesAt_71 : decode M_Rf_queuesAt.2.1 71 = .ok (.aload_n 0, 1) := by decide +kernel
theorem d_Rf_queuesAt_72 : decode M_Rf_queuesAt.2.1 72 = .ok (.getfield 7, 3) := by decide +kernel
theorem d_Rf_queuesAt_75 : decode M_Rf_queuesAt.2.1 75 = .ok (.bipush 120, 2) := by decide +kernel
theorem d_Rf_queuesAt_77 : decode M_Rf_queuesAt.2.1 77 = .ok (.iload_n 1, 1) := by decide +kernel
theorem d_Rf_queuesAt_78 : decode M_Rf_queuesAt.2.1 78 = .ok (.iadd, 1) := by decide +kernel
theorem d_Rf_queuesAt_79 : decode M_Rf_queuesAt.2.1 79 = .ok (.iconst 0, 1) := by decide +kernel
theorem d_Rf_queuesAt_80 : decode M_Rf_queuesAt.2.1 80 = .ok (.iastore, 1) := by decide +kernel
theorem d_Rf_queuesAt_81 : decode M_Rf_queuesAt.2.1 81 = .ok (.aload_n 0, 1) := by decide +kernel
theorem d_Rf_queuesAt_82 : decode M_Rf_queuesAt.2.1 82 = .ok (.getfield 7, 3) := by decide +kernel
theorem d_Rf_queuesAt_85 : decode M_Rf_queuesAt.2.1 85 = .ok (.sipush 132, 3) := by decide +kernel
theorem d_Rf_queuesAt_88 : decode M_Rf_queuesAt.2.1 88 = .ok (.iload_n 1, 1) := by decide +kernel
theorem d_Rf_queuesAt_89 : decode M_Rf_queuesAt.2.1 89 = .ok (.iadd, 1) := by decide +kernel
theorem d_Rf_queuesAt_90 : decode M_Rf_queuesAt.2.1 90 = .ok (.iconst 0, 1) := by decide +kernel
theorem d_Rf_queuesAt_91 : decode M_Rf_queuesAt.2.1 91 = .ok (.iastore, 1) := by decide +kernel
theorem d_Rf_queuesAt_92 : decode M_Rf_queuesAt.2.1 92 = .ok (.return_, 1) := by decide +kernel
set_option maxHeartbeats 4000000 in
set_option maxRecDepth 100000 in
theorem ok_Rf_queuesAt {D : xD} {N : Nat} {l : Launch} {d : Nat} {c z : T2} {P Q : Nat → Int32} {rest : List va_E} {K : Option Value → List va_E → Prop} {b s : Nat} (hb : b < 12) (hs : s < 6) (hK : K none (encR D N c z (lineP P b s) Q ++ rest)) : Ok D N l d M_Rf_queuesAt [.ref (N + 0), .int (nI b), .int (nI s)] (encR D N c z P Q ++ rest) 0 0 K := by
  refine ok_of (L := [(0, _), (1, _), (2, _)]) (by decide) (Nat.le_of_ble_eq_true rfl) rfl ?_
  refine wp_aload_n d_Rf_queuesAt_0 rfl rfl ?_
  refine wp_get fl_Rf_7 d_Rf_queuesAt_1 rfl rfl rfl ?_
  refine wp_bipush d_Rf_queuesAt_4 rfl bp_72 ?_
  refine wp_iload_n d_Rf_queuesAt_6 rfl rfl ?_
  first | refine wp_iaddN d_Rf_queuesAt_7 rfl ?_ | refine wp_iadd d_Rf_queuesAt_7 rfl ?_
  refine wp_iconst d_Rf_queuesAt_8 rfl ic_1 ?_
  refine wp_iast d_Rf_queuesAt_9 rfl (rfl) (by omega) (by decide) (fr_P) ?_
  refine wp_aload_n d_Rf_queuesAt_10 rfl rfl ?_
  refine wp_get fl_Rf_7 d_Rf_queuesAt_11 rfl rfl rfl ?_
  refine wp_bipush d_Rf_queuesAt_14 rfl bp_84 ?_
  refine wp_iload_n d_Rf_queuesAt_16 rfl rfl ?_
  first | refine wp_iaddN d_Rf_queuesAt_17 rfl ?_ | refine wp_iadd d_Rf_queuesAt_17 rfl ?_
  refine wp_iload_n d_Rf_queuesAt_18 rfl rfl ?_
  refine wp_iast d_Rf_queuesAt_19 rfl (rfl) (by omega) (by decide) (fr_P) ?_
  refine wp_aload_n d_Rf_queuesAt_20 rfl rfl ?_
  refine wp_get fl_Rf_7 d_Rf_queuesAt_21 rfl rfl rfl ?_
  refine wp_bipush d_Rf_queuesAt_24 rfl bp_96 ?_
  refine wp_iload_n d_Rf_queuesAt_26 rfl rfl ?_
  first | refine wp_iaddN d_Rf_queuesAt_27 rfl ?_ | refine wp_iadd d_Rf_queuesAt_27 rfl ?_
  refine wp_aload_n d_Rf_queuesAt_28 rfl rfl ?_
  refine wp_get fl_Rf_7 d_Rf_queuesAt_29 rfl rfl rfl ?_
  refine wp_sipush d_Rf_queuesAt_32 rfl sp_228 ?_
  refine wp_iload_n d_Rf_queuesAt_35 rfl rfl ?_
  first | refine wp_iaddN d_Rf_queuesAt_36 rfl ?_ | refine wp_iadd d_Rf_queuesAt_36 rfl ?_
  refine wp_iald d_Rf_queuesAt_37 rfl (rfl) (by omega) (by decide) ?_
  refine wp_iast d_Rf_queuesAt_38 rfl (rfl) (by omega) (by decide) (fr_P) ?_
  refine wp_aload_n d_Rf_queuesAt_39 rfl rfl ?_
  refine wp_get fl_Rf_7 d_Rf_queuesAt_40 rfl rfl rfl ?_
  refine wp_sipush d_Rf_queuesAt_43 rfl sp_228 ?_
  refine wp_iload_n d_Rf_queuesAt_46 rfl rfl ?_
  first | refine wp_iaddN d_Rf_queuesAt_47 rfl ?_ | refine wp_iadd d_Rf_queuesAt_47 rfl ?_
  refine wp_dup2 d_Rf_queuesAt_48 rfl rfl rfl ?_
  refine wp_iald d_Rf_queuesAt_49 rfl (rfl) (by omega) (by decide) ?_
  refine wp_iconst d_Rf_queuesAt_50 rfl ic_1 ?_
  first | refine wp_iaddN d_Rf_queuesAt_51 rfl ?_ | refine wp_iadd d_Rf_queuesAt_51 rfl ?_
  refine wp_iast d_Rf_queuesAt_52 rfl (rfl) (by omega) (by decide) (fr_P) ?_
  refine wp_aload_n d_Rf_queuesAt_53 rfl rfl ?_
  refine wp_get fl_Rf_7 d_Rf_queuesAt_54 rfl rfl rfl ?_
  refine wp_sipush d_Rf_queuesAt_57 rfl sp_144 ?_
  refine wp_iload_n d_Rf_queuesAt_60 rfl rfl ?_
  first | refine wp_iaddN d_Rf_queuesAt_61 rfl ?_ | refine wp_iadd d_Rf_queuesAt_61 rfl ?_
  refine wp_aload_n d_Rf_queuesAt_62 rfl rfl ?_
  refine wp_get fl_Rf_7 d_Rf_queuesAt_63 rfl rfl rfl ?_
  refine wp_sipush d_Rf_queuesAt_66 rfl sp_234 ?_
  refine wp_iald d_Rf_queuesAt_69 rfl (rfl) (by omega) (by decide) ?_
  refine wp_iast d_Rf_queuesAt_70 rfl (rfl) (by omega) (by decide) (fr_P) ?_
  refine wp_aload_n d_Rf_queuesAt_71 rfl rfl ?_
  refine wp_get fl_Rf_7 d_Rf_queuesAt_72 rfl rfl rfl ?_
  refine wp_bipush d_Rf_queuesAt_75 rfl bp_120 ?_
  refine wp_iload_n d_Rf_queuesAt_77 rfl rfl ?_
  first | refine wp_iaddN d_Rf_queuesAt_78 rfl ?_ | refine wp_iadd d_Rf_queuesAt_78 rfl ?_
  refine wp_iconst d_Rf_queuesAt_79 rfl ic_0 ?_
  refine wp_iast d_Rf_queuesAt_80 rfl (rfl) (by omega) (by decide) (fr_P) ?_
  refine wp_aload_n d_Rf_queuesAt_81 rfl rfl ?_
  refine wp_get fl_Rf_7 d_Rf_queuesAt_82 rfl rfl rfl ?_
  refine wp_sipush d_Rf_queuesAt_85 rfl sp_132 ?_
  refine wp_iload_n d_Rf_queuesAt_88 rfl rfl ?_
  first | refine wp_iaddN d_Rf_queuesAt_89 rfl ?_ | refine wp_iadd d_Rf_queuesAt_89 rfl ?_
  refine wp_iconst d_Rf_queuesAt_90 rfl ic_0 ?_
  refine wp_iast d_Rf_queuesAt_91 rfl (rfl) (by omega) (by decide) (fr_P) ?_
  refine wp_vret d_Rf_queuesAt_92 rfl (Nat.le_refl _) (Nat.le_refl _) ?_
  refine kR hK rfl ?_
  unfold lineP
  simp (disch := omega) only [upd_ne, upd_eq]
end
section
def nN (v : Int32) : Int32 := if nI 1 < (if v < nI 100 then v else nI 100) then (if v < nI 100 then v else nI 100) else nI 1
def kNeed (k : Nat) (v : Int32) : Int32 := if k = 2 ∨ k = 5 then nI 0 else if k = 3 ∨ k = 4 then (nN v + nI 1) / nI 2 else nN v
def kFare (k : Nat) (v : Int32) : Int32 := if k = 1 then v * nI 6 / nI 10 else if k = 2 then nI 0 else if k = 4 then v + v / nI 5 else if k = 5 then nI 3 * v else v
def kMin (k : Nat) (v : Int32) : Int32 := if k = 1 then (v + nI 1) / nI 2 else if k = 5 then v + nI 10 else v
def kFuel (k : Nat) (v : Int32) : Int32 := if k = 4 then v + nI 1 else v
def kTake (k : Nat) (v s : Int32) : Int32 := if k = 5 then kFare k v else kFare k v * s
def kCar (k : Nat) : Int32 := if k = 2 ∨ k = 5 then nI 0 else nI 1
def kTurn (k : Nat) : Int32 := if k = 1 then nI 1 else nI 0
def kIs (k : Nat) (v : Int32) : Int32 := if v = 0 ∨ v = nI k ∨ (v = nI 2 ∧ k = 5) ∨ (v = nI 3 ∧ k = 4) then nI 1 else nI 0
def kci (k : Nat) : Nat := if k = 0 then 6 else if k = 1 then 7 else if k = 2 then 1 else if k = 3 then 0 else if k = 4 then 2 else 3
theorem nN_eq (v : Int32) : nN v = if v < nI 1 then nI 1 else if nI 100 < v then nI 100 else v := by
  unfold nN
  by_cases h1 : v < nI 100
  · rw [if_pos h1]
    have h3 : ¬ nI 100 < v := fun h => by rw [Int32.lt_iff_toInt_lt] at *; omega
    rw [if_neg h3]
    by_cases h2 : nI 1 < v
    · rw [if_pos h2, if_neg (fun h => by rw [Int32.lt_iff_toInt_lt] at *; omega)]
    · rw [if_neg h2]
      by_cases h4 : v < nI 1
      · rw [if_pos h4]
      · rw [if_neg h4]
        have h5 := nlt_le h2
        have h6 := nlt_le h4
        exact Int32.le_antisymm h6 h5
  · rw [if_neg h1, if_pos (by decide)]
    have h2 := nlt_le h1
    have h3 : ¬ v < nI 1 := fun h => by
      have : nI 100 ≤ v := h2
      rw [Int32.lt_iff_toInt_lt] at h
      rw [Int32.le_iff_toInt_le] at this
      rw [nI_toInt (by decide)] at h this
      omega
    rw [if_neg h3]
    by_cases h4 : nI 100 < v
    · rw [if_pos h4]
    · rw [if_neg h4]
      exact Int32.le_antisymm h2 (nlt_le h4)
theorem d_Rn_needOf_0 : decode M_Rn_needOf.2.1 0 = .ok (.iconst 1, 1) := by decide +kernel
theorem d_Rn_needOf_1 : decode M_Rn_needOf.2.1 1 = .ok (.bipush 100, 2) := by decide +kernel
theorem d_Rn_needOf_3 : decode M_Rn_needOf.2.1 3 = .ok (.iload_n 1, 1) := by decide +kernel
theorem d_Rn_needOf_4 : decode M_Rn_needOf.2.1 4 = .ok (.invokestatic 9, 3) := by decide +kernel
theorem d_Rn_needOf_7 : decode M_Rn_needOf.2.1 7 = .ok (.invokestatic 15, 3) := by decide +kernel
theorem d_Rn_needOf_10 : decode M_Rn_needOf.2.1 10 = .ok (.ireturn, 1) := by decide +kernel
set_option maxHeartbeats 4000000 in
set_option maxRecDepth 100000 in
theorem ok_Rn_needOf {D : xD} {N : Nat} {l : Launch} {d : Nat} {g : List va_E} {K : Option Value → List va_E → Prop} {a : Nat} {v : Int32}  (hK : K (some (.int (nN v))) g) : Ok D N l (d + 1) M_Rn_needOf [.ref a, .int v] g 0 0 K := by
  refine ok_of (L := [(0, _), (1, _)]) (by decide) (Nat.le_of_ble_eq_true rfl) rfl ?_
  refine wp_iconst d_Rn_needOf_0 rfl ic_1 ?_
  refine wp_bipush d_Rn_needOf_1 rfl bp_100 ?_
  refine wp_iload_n d_Rn_needOf_3 rfl rfl ?_
  refine wp_mmin km_Rn_9 (RO0 ()) d_Rn_needOf_4 rfl (Nat.le_of_ble_eq_true rfl) (Nat.zero_le _) (Nat.zero_le _) ?_
  refine wp_mmax km_Rn_15 (RO0 ()) d_Rn_needOf_7 rfl (Nat.le_of_ble_eq_true rfl) (Nat.zero_le _) (Nat.zero_le _) ?_
  refine wp_iret d_Rn_needOf_10 rfl (Nat.le_refl _) (Nat.le_refl _) ?_
  exact hK
theorem d_Rn_fareOf_0 : decode M_Rn_fareOf.2.1 0 = .ok (.iload_n 1, 1) := by decide +kernel
theorem d_Rn_fareOf_1 : decode M_Rn_fareOf.2.1 1 = .ok (.ireturn, 1) := by decide +kernel
set_option maxHeartbeats 4000000 in
set_option maxRecDepth 100000 in
theorem ok_Rn_fareOf {D : xD} {N : Nat} {l : Launch} {d : Nat} {g : List va_E} {K : Option Value → List va_E → Prop} {a : Nat} {v : Int32}  (hK : K (some (.int v)) g) : Ok D N l (d + 0) M_Rn_fareOf [.ref a, .int v] g 0 0 K := by
  refine ok_of (L := [(0, _), (1, _)]) (by decide) (Nat.le_of_ble_eq_true rfl) rfl ?_
  refine wp_iload_n d_Rn_fareOf_0 rfl rfl ?_
  refine wp_iret d_Rn_fareOf_1 rfl (Nat.le_refl _) (Nat.le_refl _) ?_
  exact hK
theorem d_Rn_minutesOf_0 : decode M_Rn_minutesOf.2.1 0 = .ok (.iload_n 1, 1) := by decide +kernel
theorem d_Rn_minutesOf_1 : decode M_Rn_minutesOf.2.1 1 = .ok (.ireturn, 1) := by decide +kernel
set_option maxHeartbeats 4000000 in
set_option maxRecDepth 100000 in
theorem ok_Rn_minutesOf {D : xD} {N : Nat} {l : Launch} {d : Nat} {g : List va_E} {K : Option Value → List va_E → Prop} {a : Nat} {v : Int32}  (hK : K (some (.int v)) g) : Ok D N l (d + 0) M_Rn_minutesOf [.ref a, .int v] g 0 0 K := by
  refine ok_of (L := [(0, _), (1, _)]) (by decide) (Nat.le_of_ble_eq_true rfl) rfl ?_
  refine wp_iload_n d_Rn_minutesOf_0 rfl rfl ?_
  refine wp_iret d_Rn_minutesOf_1 rfl (Nat.le_refl _) (Nat.le_refl _) ?_
  exact hK
theorem d_Rn_fuelOf_0 : decode M_Rn_fuelOf.2.1 0 = .ok (.iload_n 1, 1) := by decide +kernel
theorem d_Rn_fuelOf_1 : decode M_Rn_fuelOf.2.1 1 = .ok (.ireturn, 1) := by decide +kernel
set_option maxHeartbeats 4000000 in
set_option maxRecDepth 100000 in
theorem ok_Rn_fuelOf {D : xD} {N : Nat} {l : Launch} {d : Nat} {g : List va_E} {K : Option Value → List va_E → Prop} {a : Nat} {v : Int32}  (hK : K (some (.int v)) g) : Ok D N l (d + 0) M_Rn_fuelOf [.ref a, .int v] g 0 0 K := by
  refine ok_of (L := [(0, _), (1, _)]) (by decide) (Nat.le_of_ble_eq_true rfl) rfl ?_
  refine wp_iload_n d_Rn_fuelOf_0 rfl rfl ?_
  refine wp_iret d_Rn_fuelOf_1 rfl (Nat.le_refl _) (Nat.le_refl _) ?_
  exact hK
theorem d_Rn_carries_0 : decode M_Rn_carries.2.1 0 = .ok (.iconst 1, 1) := by decide +kernel
theorem d_Rn_carries_1 : decode M_Rn_carries.2.1 1 = .ok (.ireturn, 1) := by decide +kernel
set_option maxHeartbeats 4000000 in
set_option maxRecDepth 100000 in
theorem ok_Rn_carries {D : xD} {N : Nat} {l : Launch} {d : Nat} {g : List va_E} {K : Option Value → List va_E → Prop} {a : Nat}   (hK : K (some (.int (nI 1))) g) : Ok D N l (d + 0) M_Rn_carries [.ref a] g 0 0 K := by
  refine ok_of (L := [(0, _)]) (by decide) (Nat.le_of_ble_eq_true rfl) rfl ?_
  refine wp_iconst d_Rn_carries_0 rfl ic_1 ?_
  refine wp_zret d_Rn_carries_1 rfl (rfl) (Nat.le_refl _) (Nat.le_refl _) ?_
  exact hK
theorem d_Rn_turnsBack_0 : decode M_Rn_turnsBack.2.1 0 = .ok (.iconst 0, 1) := by decide +kernel
theorem d_Rn_turnsBack_1 : decode M_Rn_turnsBack.2.1 1 = .ok (.ireturn, 1) := by decide +kernel
set_option maxHeartbeats 4000000 in
set_option maxRecDepth 100000 in
theorem ok_Rn_turnsBack {D : xD} {N : Nat} {l : Launch} {d : Nat} {g : List va_E} {K : Option Value → List va_E → Prop} {a : Nat}   (hK : K (some (.int (nI 0))) g) : Ok D N l (d + 0) M_Rn_turnsBack [.ref a] g 0 0 K := by
  refine ok_of (L := [(0, _)]) (by decide) (Nat.le_of_ble_eq_true rfl) rfl ?_
  refine wp_iconst d_Rn_turnsBack_0 rfl ic_0 ?_
  refine wp_zret d_Rn_turnsBack_1 rfl (rfl) (Nat.le_refl _) (Nat.le_refl _) ?_
  exact hK
theorem d_Em_needOf_0 : decode M_Em_needOf.2.1 0 = .ok (.iconst 0, 1) := by decide +kernel
theorem d_Em_needOf_1 : decode M_Em_needOf.2.1 1 = .ok (.ireturn, 1) := by decide +kernel
set_option maxHeartbeats 4000000 in
set_option maxRecDepth 100000 in
theorem ok_Em_needOf {D : xD} {N : Nat} {l : Launch} {d : Nat} {g : List va_E} {K : Option Value → List va_E → Prop} {a : Nat} {v : Int32}  (hK : K (some (.int (nI 0))) g) : Ok D N l (d + 0) M_Em_needOf [.ref a, .int v] g 0 0 K := by
  refine ok_of (L := [(0, _), (1, _)]) (by decide) (Nat.le_of_ble_eq_true rfl) rfl ?_
  refine wp_iconst d_Em_needOf_0 rfl ic_0 ?_
  refine wp_iret d_Em_needOf_1 rfl (Nat.le_refl _) (Nat.le_refl _) ?_
  exact hK
theorem d_Em_fareOf_0 : decode M_Em_fareOf.2.1 0 = .ok (.iconst 0, 1) := by decide +kernel
theorem d_Em_fareOf_1 : decode M_Em_fareOf.2.1 1 = .ok (.ireturn, 1) := by decide +kernel
set_option maxHeartbeats 4000000 in
set_option maxRecDepth 100000 in
theorem ok_Em_fareOf {D : xD} {N : Nat} {l : Launch} {d : Nat} {g : List va_E} {K : Option Value → List va_E → Prop} {a : Nat} {v : Int32}  (hK : K (some (.int (nI 0))) g) : Ok D N l (d + 0) M_Em_fareOf [.ref a, .int v] g 0 0 K := by
  refine ok_of (L := [(0, _), (1, _)]) (by decide) (Nat.le_of_ble_eq_true rfl) rfl ?_
  refine wp_iconst d_Em_fareOf_0 rfl ic_0 ?_
  refine wp_iret d_Em_fareOf_1 rfl (Nat.le_refl _) (Nat.le_refl _) ?_
  exact hK
theorem d_Em_carries_0 : decode M_Em_carries.2.1 0 = .ok (.iconst 0, 1) := by decide +kernel
theorem d_Em_carries_1 : decode M_Em_carries.2.1 1 = .ok (.ireturn, 1) := by decide +kernel
set_option maxHeartbeats 4000000 in
set_option maxRecDepth 100000 in
theorem ok_Em_carries {D : xD} {N : Nat} {l : Launch} {d : Nat} {g : List va_E} {K : Option Value → List va_E → Prop} {a : Nat}   (hK : K (some (.int (nI 0))) g) : Ok D N l (d + 0) M_Em_carries [.ref a] g 0 0 K := by
  refine ok_of (L := [(0, _)]) (by decide) (Nat.le_of_ble_eq_true rfl) rfl ?_
  refine wp_iconst d_Em_carries_0 rfl ic_0 ?_
  refine wp_zret d_Em_carries_1 rfl (rfl) (Nat.le_refl _) (Nat.le_refl _) ?_
  exact hK
theorem d_Sh_turnsBack_0 : decode M_Sh_turnsBack.2.1 0 = .ok (.iconst 1, 1) := by decide +kernel
theorem d_Sh_turnsBack_1 : decode M_Sh_turnsBack.2.1 1 = .ok (.ireturn, 1) := by decide +kernel
set_option maxHeartbeats 4000000 in
set_option maxRecDepth 100000 in
theorem ok_Sh_turnsBack {D : xD} {N : Nat} {l : Launch} {d : Nat} {g : List va_E} {K : Option Value → List va_E → Prop} {a : Nat}   (hK : K (some (.int (nI 1))) g) : Ok D N l (d + 0) M_Sh_turnsBack [.ref a] g 0 0 K := by
  refine ok_of (L := [(0, _)]) (by decide) (Nat.le_of_ble_eq_true rfl) rfl ?_
  refine wp_iconst d_Sh_turnsBack_0 rfl ic_1 ?_
  refine wp_zret d_Sh_turnsBack_1 rfl (rfl) (Nat.le_refl _) (Nat.le_refl _) ?_
  exact hK
theorem d_Sh_fareOf_0 : decode M_Sh_fareOf.2.1 0 = .ok (.iload_n 1, 1) := by decide +kernel
theorem d_Sh_fareOf_1 : decode M_Sh_fareOf.2.1 1 = .ok (.bipush 6, 2) := by decide +kernel
theorem d_Sh_fareOf_3 : decode M_Sh_fareOf.2.1 3 = .ok (.imul, 1) := by decide +kernel
theorem d_Sh_fareOf_4 : decode M_Sh_fareOf.2.1 4 = .ok (.bipush 10, 2) := by decide +kernel
theorem d_Sh_fareOf_6 : decode M_Sh_fareOf.2.1 6 = .ok (.idiv, 1) := by decide +kernel
theorem d_Sh_fareOf_7 : decode M_Sh_fareOf.2.1 7 = .ok (.ireturn, 1) := by decide +kernel
set_option maxHeartbeats 4000000 in
set_option maxRecDepth 100000 in
theorem ok_Sh_fareOf {D : xD} {N : Nat} {l : Launch} {d : Nat} {g : List va_E} {K : Option Value → List va_E → Prop} {a : Nat} {v : Int32}  (hK : K (some (.int (v * nI 6 / nI 10))) g) : Ok D N l (d + 0) M_Sh_fareOf [.ref a, .int v] g 0 0 K := by
  refine ok_of (L := [(0, _), (1, _)]) (by decide) (Nat.le_of_ble_eq_true rfl) rfl ?_
  refine wp_iload_n d_Sh_fareOf_0 rfl rfl ?_
  refine wp_bipush d_Sh_fareOf_1 rfl bp_6 ?_
  first | refine wp_imulC d_Sh_fareOf_3 rfl ?_ | refine wp_imul d_Sh_fareOf_3 rfl ?_
  refine wp_bipush d_Sh_fareOf_4 rfl bp_10 ?_
  refine wp_idiv d_Sh_fareOf_6 rfl (by decide) ?_
  refine wp_iret d_Sh_fareOf_7 rfl (Nat.le_refl _) (Nat.le_refl _) ?_
  exact hK
theorem d_Sh_minutesOf_0 : decode M_Sh_minutesOf.2.1 0 = .ok (.iload_n 1, 1) := by decide +kernel
theorem d_Sh_minutesOf_1 : decode M_Sh_minutesOf.2.1 1 = .ok (.iconst 1, 1) := by decide +kernel
theorem d_Sh_minutesOf_2 : decode M_Sh_minutesOf.2.1 2 = .ok (.iadd, 1) := by decide +kernel
theorem d_Sh_minutesOf_3 : decode M_Sh_minutesOf.2.1 3 = .ok (.iconst 2, 1) := by decide +kernel
theorem d_Sh_minutesOf_4 : decode M_Sh_minutesOf.2.1 4 = .ok (.idiv, 1) := by decide +kernel
theorem d_Sh_minutesOf_5 : decode M_Sh_minutesOf.2.1 5 = .ok (.ireturn, 1) := by decide +kernel
set_option maxHeartbeats 4000000 in
set_option maxRecDepth 100000 in
theorem ok_Sh_minutesOf {D : xD} {N : Nat} {l : Launch} {d : Nat} {g : List va_E} {K : Option Value → List va_E → Prop} {a : Nat} {v : Int32}  (hK : K (some (.int ((v + nI 1) / nI 2))) g) : Ok D N l (d + 0) M_Sh_minutesOf [.ref a, .int v] g 0 0 K := by
  refine ok_of (L := [(0, _), (1, _)]) (by decide) (Nat.le_of_ble_eq_true rfl) rfl ?_
  refine wp_iload_n d_Sh_minutesOf_0 rfl rfl ?_
  refine wp_iconst d_Sh_minutesOf_1 rfl ic_1 ?_
  first | refine wp_iaddN d_Sh_minutesOf_2 rfl ?_ | refine wp_iadd d_Sh_minutesOf_2 rfl ?_
  refine wp_iconst d_Sh_minutesOf_3 rfl ic_2 ?_
  refine wp_idiv d_Sh_minutesOf_4 rfl (by decide) ?_
  refine wp_iret d_Sh_minutesOf_5 rfl (Nat.le_refl _) (Nat.le_refl _) ?_
  exact hK
theorem d_Ex_fareOf_0 : decode M_Ex_fareOf.2.1 0 = .ok (.iload_n 1, 1) := by decide +kernel
theorem d_Ex_fareOf_1 : decode M_Ex_fareOf.2.1 1 = .ok (.iload_n 1, 1) := by decide +kernel
theorem d_Ex_fareOf_2 : decode M_Ex_fareOf.2.1 2 = .ok (.iconst 5, 1) := by decide +kernel
theorem d_Ex_fareOf_3 : decode M_Ex_fareOf.2.1 3 = .ok (.idiv, 1) := by decide +kernel
theorem d_Ex_fareOf_4 : decode M_Ex_fareOf.2.1 4 = .ok (.iadd, 1) := by decide +kernel
theorem d_Ex_fareOf_5 : decode M_Ex_fareOf.2.1 5 = .ok (.ireturn, 1) := by decide +kernel
set_option maxHeartbeats 4000000 in
set_option maxRecDepth 100000 in
theorem ok_Ex_fareOf {D : xD} {N : Nat} {l : Launch} {d : Nat} {g : List va_E} {K : Option Value → List va_E → Prop} {a : Nat} {v : Int32}  (hK : K (some (.int (v + v / nI 5))) g) : Ok D N l (d + 0) M_Ex_fareOf [.ref a, .int v] g 0 0 K := by
  refine ok_of (L := [(0, _), (1, _)]) (by decide) (Nat.le_of_ble_eq_true rfl) rfl ?_
  refine wp_iload_n d_Ex_fareOf_0 rfl rfl ?_
  refine wp_iload_n d_Ex_fareOf_1 rfl rfl ?_
  refine wp_iconst d_Ex_fareOf_2 rfl ic_5 ?_
  refine wp_idiv d_Ex_fareOf_3 rfl (by decide) ?_
  first | refine wp_iaddN d_Ex_fareOf_4 rfl ?_ | refine wp_iadd d_Ex_fareOf_4 rfl ?_
  refine wp_iret d_Ex_fareOf_5 rfl (Nat.le_refl _) (Nat.le_refl _) ?_
  exact hK
theorem d_Ex_fuelOf_0 : decode M_Ex_fuelOf.2.1 0 = .ok (.iload_n 1, 1) := by decide +kernel
theorem d_Ex_fuelOf_1 : decode M_Ex_fuelOf.2.1 1 = .ok (.iconst 1, 1) := by decide +kernel
theorem d_Ex_fuelOf_2 : decode M_Ex_fuelOf.2.1 2 = .ok (.iadd, 1) := by decide +kernel
theorem d_Ex_fuelOf_3 : decode M_Ex_fuelOf.2.1 3 = .ok (.ireturn, 1) := by decide +kernel
set_option maxHeartbeats 4000000 in
set_option maxRecDepth 100000 in
theorem ok_Ex_fuelOf {D : xD} {N : Nat} {l : Launch} {d : Nat} {g : List va_E} {K : Option Value → List va_E → Prop} {a : Nat} {v : Int32}  (hK : K (some (.int (v + nI 1))) g) : Ok D N l (d + 0) M_Ex_fuelOf [.ref a, .int v] g 0 0 K := by
  refine ok_of (L := [(0, _), (1, _)]) (by decide) (Nat.le_of_ble_eq_true rfl) rfl ?_
  refine wp_iload_n d_Ex_fuelOf_0 rfl rfl ?_
  refine wp_iconst d_Ex_fuelOf_1 rfl ic_1 ?_
  first | refine wp_iaddN d_Ex_fuelOf_2 rfl ?_ | refine wp_iadd d_Ex_fuelOf_2 rfl ?_
  refine wp_iret d_Ex_fuelOf_3 rfl (Nat.le_refl _) (Nat.le_refl _) ?_
  exact hK
theorem d_Hi_fareOf_0 : decode M_Hi_fareOf.2.1 0 = .ok (.iconst 3, 1) := by decide +kernel
theorem d_Hi_fareOf_1 : decode M_Hi_fareOf.2.1 1 = .ok (.iload_n 1, 1) := by decide +kernel
theorem d_Hi_fareOf_2 : decode M_Hi_fareOf.2.1 2 = .ok (.imul, 1) := by decide +kernel
theorem d_Hi_fareOf_3 : decode M_Hi_fareOf.2.1 3 = .ok (.ireturn, 1) := by decide +kernel
set_option maxHeartbeats 4000000 in
set_option maxRecDepth 100000 in
theorem ok_Hi_fareOf {D : xD} {N : Nat} {l : Launch} {d : Nat} {g : List va_E} {K : Option Value → List va_E → Prop} {a : Nat} {v : Int32}  (hK : K (some (.int (nI 3 * v))) g) : Ok D N l (d + 0) M_Hi_fareOf [.ref a, .int v] g 0 0 K := by
  refine ok_of (L := [(0, _), (1, _)]) (by decide) (Nat.le_of_ble_eq_true rfl) rfl ?_
  refine wp_iconst d_Hi_fareOf_0 rfl ic_3 ?_
  refine wp_iload_n d_Hi_fareOf_1 rfl rfl ?_
  first | refine wp_imulN d_Hi_fareOf_2 rfl ?_ | refine wp_imul d_Hi_fareOf_2 rfl ?_
  refine wp_iret d_Hi_fareOf_3 rfl (Nat.le_refl _) (Nat.le_refl _) ?_
  exact hK
theorem d_Hi_minutesOf_0 : decode M_Hi_minutesOf.2.1 0 = .ok (.iload_n 1, 1) := by decide +kernel
theorem d_Hi_minutesOf_1 : decode M_Hi_minutesOf.2.1 1 = .ok (.bipush 10, 2) := by decide +kernel
theorem d_Hi_minutesOf_3 : decode M_Hi_minutesOf.2.1 3 = .ok (.iadd, 1) := by decide +kernel
theorem d_Hi_minutesOf_4 : decode M_Hi_minutesOf.2.1 4 = .ok (.ireturn, 1) := by decide +kernel
set_option maxHeartbeats 4000000 in
set_option maxRecDepth 100000 in
theorem ok_Hi_minutesOf {D : xD} {N : Nat} {l : Launch} {d : Nat} {g : List va_E} {K : Option Value → List va_E → Prop} {a : Nat} {v : Int32}  (hK : K (some (.int (v + nI 10))) g) : Ok D N l (d + 0) M_Hi_minutesOf [.ref a, .int v] g 0 0 K := by
  refine ok_of (L := [(0, _), (1, _)]) (by decide) (Nat.le_of_ble_eq_true rfl) rfl ?_
  refine wp_iload_n d_Hi_minutesOf_0 rfl rfl ?_
  refine wp_bipush d_Hi_minutesOf_1 rfl bp_10 ?_
  first | refine wp_iaddN d_Hi_minutesOf_3 rfl ?_ | refine wp_iadd d_Hi_minutesOf_3 rfl ?_
  refine wp_iret d_Hi_minutesOf_4 rfl (Nat.le_refl _) (Nat.le_refl _) ?_
  exact hK
theorem ls_Ea_9 : LSU RX0 9 M_Rn_needOf 1 := ⟨cw_Rn_needOf, gw 636 (by decide +kernel) (by decide +kernel), gw 632 (by decide +kernel) (by decide +kernel), gw 66 (by decide +kernel) (by decide +kernel), gw 630 (by decide +kernel) (by decide +kernel), by decide⟩
theorem ls_Ea_13 : LSU RX0 13 M_Rn_isOf 1 := ⟨cw_Rn_isOf, gw 926 (by decide +kernel) (by decide +kernel), gw 922 (by decide +kernel) (by decide +kernel), gw 66 (by decide +kernel) (by decide +kernel), gw 920 (by decide +kernel) (by decide +kernel), by decide⟩
theorem ls_Em_9 : LSU RX1 9 M_Rn_isOf 1 := ⟨cw_Rn_isOf, gw 930 (by decide +kernel) (by decide +kernel), gw 922 (by decide +kernel) (by decide +kernel), gw 59 (by decide +kernel) (by decide +kernel), gw 920 (by decide +kernel) (by decide +kernel), by decide⟩
theorem ls_Ex_9 : LSU RX2 9 M_Ea_isOf 1 := ⟨cw_Ea_isOf, gw 934 (by decide +kernel) (by decide +kernel), gw 1427 (by decide +kernel) (by decide +kernel), gw 73 (by decide +kernel) (by decide +kernel), gw 924 (by decide +kernel) (by decide +kernel), by decide⟩
theorem ls_Hi_15 : LSU RX3 15 M_Em_isOf 1 := ⟨cw_Em_isOf, gw 938 (by decide +kernel) (by decide +kernel), gw 1428 (by decide +kernel) (by decide +kernel), gw 80 (by decide +kernel) (by decide +kernel), gw 928 (by decide +kernel) (by decide +kernel), by decide⟩
theorem ls_Sh_9 : LSU RX7 9 M_Rn_isOf 1 := ⟨cw_Rn_isOf, gw 942 (by decide +kernel) (by decide +kernel), gw 922 (by decide +kernel) (by decide +kernel), gw 52 (by decide +kernel) (by decide +kernel), gw 920 (by decide +kernel) (by decide +kernel), by decide⟩
theorem d_Ea_needOf_0 : decode M_Ea_needOf.2.1 0 = .ok (.aload_n 0, 1) := by decide +kernel
theorem d_Ea_needOf_1 : decode M_Ea_needOf.2.1 1 = .ok (.iload_n 1, 1) := by decide +kernel
theorem d_Ea_needOf_2 : decode M_Ea_needOf.2.1 2 = .ok (.invokespecial 9, 3) := by decide +kernel
theorem d_Ea_needOf_5 : decode M_Ea_needOf.2.1 5 = .ok (.iconst 1, 1) := by decide +kernel
theorem d_Ea_needOf_6 : decode M_Ea_needOf.2.1 6 = .ok (.iadd, 1) := by decide +kernel
theorem d_Ea_needOf_7 : decode M_Ea_needOf.2.1 7 = .ok (.iconst 2, 1) := by decide +kernel
theorem d_Ea_needOf_8 : decode M_Ea_needOf.2.1 8 = .ok (.idiv, 1) := by decide +kernel
theorem d_Ea_needOf_9 : decode M_Ea_needOf.2.1 9 = .ok (.ireturn, 1) := by decide +kernel
set_option maxHeartbeats 4000000 in
set_option maxRecDepth 100000 in
theorem ok_Ea_needOf {D : xD} {N : Nat} {l : Launch} {d : Nat} {g : List va_E} {K : Option Value → List va_E → Prop} {i ci : Nat} {fs : List Value} {v : Int32} (hr : g[i]? = some (.inr (ci, fs))) (hK : K (some (.int ((nN v + nI 1) / nI 2))) g) : Ok D N l (d + 2) M_Ea_needOf [.ref (N + i), .int v] g 0 0 K := by
  refine ok_of (L := [(0, _), (1, _)]) (by decide) (Nat.le_of_ble_eq_true rfl) rfl ?_
  refine wp_aload_n d_Ea_needOf_0 rfl rfl ?_
  refine wp_iload_n d_Ea_needOf_1 rfl rfl ?_
  refine wp_csu1 ls_Ea_9 (ro _ _ _) d_Ea_needOf_2 rfl (Nat.le_of_ble_eq_true rfl) (hr) (Nat.zero_le _) (Nat.zero_le _) ?_
  refine ok_Rn_needOf ?_
  refine wp_iconst d_Ea_needOf_5 rfl ic_1 ?_
  first | refine wp_iaddN d_Ea_needOf_6 rfl ?_ | refine wp_iadd d_Ea_needOf_6 rfl ?_
  refine wp_iconst d_Ea_needOf_7 rfl ic_2 ?_
  refine wp_idiv d_Ea_needOf_8 rfl (by decide) ?_
  refine wp_iret d_Ea_needOf_9 rfl (Nat.le_refl _) (Nat.le_refl _) ?_
  exact hK
theorem d_Rn_isOf_0 : decode M_Rn_isOf.2.1 0 = .ok (.iload_n 1, 1) := by decide +kernel
theorem d_Rn_isOf_1 : decode M_Rn_isOf.2.1 1 = .ok (.ifCond .ne 7, 3) := by decide +kernel
theorem d_Rn_isOf_4 : decode M_Rn_isOf.2.1 4 = .ok (.iconst 1, 1) := by decide +kernel
theorem d_Rn_isOf_5 : decode M_Rn_isOf.2.1 5 = .ok (.goto 4, 3) := by decide +kernel
theorem d_Rn_isOf_8 : decode M_Rn_isOf.2.1 8 = .ok (.iconst 0, 1) := by decide +kernel
theorem d_Rn_isOf_9 : decode M_Rn_isOf.2.1 9 = .ok (.ireturn, 1) := by decide +kernel
set_option maxHeartbeats 4000000 in
set_option maxRecDepth 100000 in
theorem ok_Rn_isOf {D : xD} {N : Nat} {l : Launch} {d : Nat} {g : List va_E} {K : Option Value → List va_E → Prop} {a : Nat} {v : Int32}  (hK : K (some (.int (if v = 0 then nI 1 else nI 0))) g) : Ok D N l (d + 0) M_Rn_isOf [.ref a, .int v] g 0 0 K := by
  refine ok_of (L := [(0, _), (1, _)]) (by decide) (Nat.le_of_ble_eq_true rfl) rfl ?_
  refine wp_iload_n d_Rn_isOf_0 rfl rfl ?_
  refine wp_if_ne (tgt := 8) d_Rn_isOf_1 (by decide) rfl (fun hc_1 => ?_) (fun hc_1 => ?_)
  · refine wp_iconst d_Rn_isOf_8 rfl ic_0 ?_
    refine wp_zret d_Rn_isOf_9 rfl (rfl) (Nat.le_refl _) (Nat.le_refl _) ?_
    rw [if_neg hc_1] at hK; exact hK
  · refine wp_iconst d_Rn_isOf_4 rfl ic_1 ?_
    refine wp_goto (tgt := 9) d_Rn_isOf_5 (by decide) ?_
    refine wp_zret d_Rn_isOf_9 rfl (rfl) (Nat.le_refl _) (Nat.le_refl _) ?_
    rw [if_pos hc_1] at hK; exact hK
theorem d_Ea_isOf_0 : decode M_Ea_isOf.2.1 0 = .ok (.iload_n 1, 1) := by decide +kernel
theorem d_Ea_isOf_1 : decode M_Ea_isOf.2.1 1 = .ok (.iconst 3, 1) := by decide +kernel
theorem d_Ea_isOf_2 : decode M_Ea_isOf.2.1 2 = .ok (.if_icmp .eq 11, 3) := by decide +kernel
theorem d_Ea_isOf_5 : decode M_Ea_isOf.2.1 5 = .ok (.aload_n 0, 1) := by decide +kernel
theorem d_Ea_isOf_6 : decode M_Ea_isOf.2.1 6 = .ok (.iload_n 1, 1) := by decide +kernel
theorem d_Ea_isOf_7 : decode M_Ea_isOf.2.1 7 = .ok (.invokespecial 13, 3) := by decide +kernel
theorem d_Ea_isOf_10 : decode M_Ea_isOf.2.1 10 = .ok (.ifCond .eq 7, 3) := by decide +kernel
theorem d_Ea_isOf_13 : decode M_Ea_isOf.2.1 13 = .ok (.iconst 1, 1) := by decide +kernel
theorem d_Ea_isOf_14 : decode M_Ea_isOf.2.1 14 = .ok (.goto 4, 3) := by decide +kernel
theorem d_Ea_isOf_17 : decode M_Ea_isOf.2.1 17 = .ok (.iconst 0, 1) := by decide +kernel
theorem d_Ea_isOf_18 : decode M_Ea_isOf.2.1 18 = .ok (.ireturn, 1) := by decide +kernel
set_option maxHeartbeats 4000000 in
set_option maxRecDepth 100000 in
theorem ok_Ea_isOf {D : xD} {N : Nat} {l : Launch} {d : Nat} {g : List va_E} {K : Option Value → List va_E → Prop} {i ci : Nat} {fs : List Value} {v : Int32} (hr : g[i]? = some (.inr (ci, fs))) (hK : K (some (.int (if v = nI 3 ∨ v = 0 then nI 1 else nI 0))) g) : Ok D N l (d + 1) M_Ea_isOf [.ref (N + i), .int v] g 0 0 K := by
  refine ok_of (L := [(0, _), (1, _)]) (by decide) (Nat.le_of_ble_eq_true rfl) rfl ?_
  refine wp_iload_n d_Ea_isOf_0 rfl rfl ?_
  refine wp_iconst d_Ea_isOf_1 rfl ic_3 ?_
  refine wp_icmp_eq (tgt := 13) d_Ea_isOf_2 (by decide) rfl (fun hc_2 => ?_) (fun hc_2 => ?_)
  · refine wp_iconst d_Ea_isOf_13 rfl ic_1 ?_
    refine wp_goto (tgt := 18) d_Ea_isOf_14 (by decide) ?_
    refine wp_zret d_Ea_isOf_18 rfl (rfl) (Nat.le_refl _) (Nat.le_refl _) ?_
    first | (rw [if_pos (Or.inl hc_2)] at hK; exact hK) | (rw [if_pos (Or.inr hs)] at hK; exact hK) | (rw [if_neg (fun z => z.elim hc_2 hs)] at hK; exact hK)
  · refine wp_aload_n d_Ea_isOf_5 rfl rfl ?_
    refine wp_iload_n d_Ea_isOf_6 rfl rfl ?_
    refine wp_csu1 ls_Ea_13 (ro _ _ _) d_Ea_isOf_7 rfl (Nat.le_of_ble_eq_true rfl) (hr) (Nat.zero_le _) (Nat.zero_le _) ?_
    refine ok_Rn_isOf ?_
    by_cases hs : v = 0
    · rw [if_pos hs]
      refine wp_if_eq_f (tgt := 17) d_Ea_isOf_10 (by decide) rfl (by decide) ?_
      refine wp_iconst d_Ea_isOf_13 rfl ic_1 ?_
      refine wp_goto (tgt := 18) d_Ea_isOf_14 (by decide) ?_
      refine wp_zret d_Ea_isOf_18 rfl (rfl) (Nat.le_refl _) (Nat.le_refl _) ?_
      first | (rw [if_pos (Or.inl hc_2)] at hK; exact hK) | (rw [if_pos (Or.inr hs)] at hK; exact hK) | (rw [if_neg (fun z => z.elim hc_2 hs)] at hK; exact hK)
    · rw [if_neg hs]
      refine wp_if_eq_t (tgt := 17) d_Ea_isOf_10 (by decide) (by decide) ?_
      refine wp_iconst d_Ea_isOf_17 rfl ic_0 ?_
      refine wp_zret d_Ea_isOf_18 rfl (rfl) (Nat.le_refl _) (Nat.le_refl _) ?_
      first | (rw [if_pos (Or.inl hc_2)] at hK; exact hK) | (rw [if_pos (Or.inr hs)] at hK; exact hK) | (rw [if_neg (fun z => z.elim hc_2 hs)] at hK; exact hK)
theorem d_Em_isOf_0 : decode M_Em_isOf.2.1 0 = .ok (.iload_n 1, 1) := by decide +kernel
theorem d_Em_isOf_1 : decode M_Em_isOf.2.1 1 = .ok (.iconst 2, 1) := by decide +kernel
theorem d_Em_isOf_2 : decode M_Em_isOf.2.1 2 = .ok (.if_icmp .eq 11, 3) := by decide +kernel
theorem d_Em_isOf_5 : decode M_Em_isOf.2.1 5 = .ok (.aload_n 0, 1) := by decide +kernel
theorem d_Em_isOf_6 : decode M_Em_isOf.2.1 6 = .ok (.iload_n 1, 1) := by decide +kernel
theorem d_Em_isOf_7 : decode M_Em_isOf.2.1 7 = .ok (.invokespecial 9, 3) := by decide +kernel
theorem d_Em_isOf_10 : decode M_Em_isOf.2.1 10 = .ok (.ifCond .eq 7, 3) := by decide +kernel
theorem d_Em_isOf_13 : decode M_Em_isOf.2.1 13 = .ok (.iconst 1, 1) := by decide +kernel
theorem d_Em_isOf_14 : decode M_Em_isOf.2.1 14 = .ok (.goto 4, 3) := by decide +kernel
theorem d_Em_isOf_17 : decode M_Em_isOf.2.1 17 = .ok (.iconst 0, 1) := by decide +kernel
theorem d_Em_isOf_18 : decode M_Em_isOf.2.1 18 = .ok (.ireturn, 1) := by decide +kernel
set_option maxHeartbeats 4000000 in
set_option maxRecDepth 100000 in
theorem ok_Em_isOf {D : xD} {N : Nat} {l : Launch} {d : Nat} {g : List va_E} {K : Option Value → List va_E → Prop} {i ci : Nat} {fs : List Value} {v : Int32} (hr : g[i]? = some (.inr (ci, fs))) (hK : K (some (.int (if v = nI 2 ∨ v = 0 then nI 1 else nI 0))) g) : Ok D N l (d + 1) M_Em_isOf [.ref (N + i), .int v] g 0 0 K := by
  refine ok_of (L := [(0, _), (1, _)]) (by decide) (Nat.le_of_ble_eq_true rfl) rfl ?_
  refine wp_iload_n d_Em_isOf_0 rfl rfl ?_
  refine wp_iconst d_Em_isOf_1 rfl ic_2 ?_
  refine wp_icmp_eq (tgt := 13) d_Em_isOf_2 (by decide) rfl (fun hc_2 => ?_) (fun hc_2 => ?_)
  · refine wp_iconst d_Em_isOf_13 rfl ic_1 ?_
    refine wp_goto (tgt := 18) d_Em_isOf_14 (by decide) ?_
    refine wp_zret d_Em_isOf_18 rfl (rfl) (Nat.le_refl _) (Nat.le_refl _) ?_
    first | (rw [if_pos (Or.inl hc_2)] at hK; exact hK) | (rw [if_pos (Or.inr hs)] at hK; exact hK) | (rw [if_neg (fun z => z.elim hc_2 hs)] at hK; exact hK)
  · refine wp_aload_n d_Em_isOf_5 rfl rfl ?_
    refine wp_iload_n d_Em_isOf_6 rfl rfl ?_
    refine wp_csu1 ls_Em_9 (ro _ _ _) d_Em_isOf_7 rfl (Nat.le_of_ble_eq_true rfl) (hr) (Nat.zero_le _) (Nat.zero_le _) ?_
    refine ok_Rn_isOf ?_
    by_cases hs : v = 0
    · rw [if_pos hs]
      refine wp_if_eq_f (tgt := 17) d_Em_isOf_10 (by decide) rfl (by decide) ?_
      refine wp_iconst d_Em_isOf_13 rfl ic_1 ?_
      refine wp_goto (tgt := 18) d_Em_isOf_14 (by decide) ?_
      refine wp_zret d_Em_isOf_18 rfl (rfl) (Nat.le_refl _) (Nat.le_refl _) ?_
      first | (rw [if_pos (Or.inl hc_2)] at hK; exact hK) | (rw [if_pos (Or.inr hs)] at hK; exact hK) | (rw [if_neg (fun z => z.elim hc_2 hs)] at hK; exact hK)
    · rw [if_neg hs]
      refine wp_if_eq_t (tgt := 17) d_Em_isOf_10 (by decide) (by decide) ?_
      refine wp_iconst d_Em_isOf_17 rfl ic_0 ?_
      refine wp_zret d_Em_isOf_18 rfl (rfl) (Nat.le_refl _) (Nat.le_refl _) ?_
      first | (rw [if_pos (Or.inl hc_2)] at hK; exact hK) | (rw [if_pos (Or.inr hs)] at hK; exact hK) | (rw [if_neg (fun z => z.elim hc_2 hs)] at hK; exact hK)
theorem d_Sh_isOf_0 : decode M_Sh_isOf.2.1 0 = .ok (.iload_n 1, 1) := by decide +kernel
theorem d_Sh_isOf_1 : decode M_Sh_isOf.2.1 1 = .ok (.iconst 1, 1) := by decide +kernel
theorem d_Sh_isOf_2 : decode M_Sh_isOf.2.1 2 = .ok (.if_icmp .eq 11, 3) := by decide +kernel
theorem d_Sh_isOf_5 : decode M_Sh_isOf.2.1 5 = .ok (.aload_n 0, 1) := by decide +kernel
theorem d_Sh_isOf_6 : decode M_Sh_isOf.2.1 6 = .ok (.iload_n 1, 1) := by decide +kernel
theorem d_Sh_isOf_7 : decode M_Sh_isOf.2.1 7 = .ok (.invokespecial 9, 3) := by decide +kernel
theorem d_Sh_isOf_10 : decode M_Sh_isOf.2.1 10 = .ok (.ifCond .eq 7, 3) := by decide +kernel
theorem d_Sh_isOf_13 : decode M_Sh_isOf.2.1 13 = .ok (.iconst 1, 1) := by decide +kernel
theorem d_Sh_isOf_14 : decode M_Sh_isOf.2.1 14 = .ok (.goto 4, 3) := by decide +kernel
theorem d_Sh_isOf_17 : decode M_Sh_isOf.2.1 17 = .ok (.iconst 0, 1) := by decide +kernel
theorem d_Sh_isOf_18 : decode M_Sh_isOf.2.1 18 = .ok (.ireturn, 1) := by decide +kernel
set_option maxHeartbeats 4000000 in
set_option maxRecDepth 100000 in
theorem ok_Sh_isOf {D : xD} {N : Nat} {l : Launch} {d : Nat} {g : List va_E} {K : Option Value → List va_E → Prop} {i ci : Nat} {fs : List Value} {v : Int32} (hr : g[i]? = some (.inr (ci, fs))) (hK : K (some (.int (if v = nI 1 ∨ v = 0 then nI 1 else nI 0))) g) : Ok D N l (d + 1) M_Sh_isOf [.ref (N + i), .int v] g 0 0 K := by
  refine ok_of (L := [(0, _), (1, _)]) (by decide) (Nat.le_of_ble_eq_true rfl) rfl ?_
  refine wp_iload_n d_Sh_isOf_0 rfl rfl ?_
  refine wp_iconst d_Sh_isOf_1 rfl ic_1 ?_
  refine wp_icmp_eq (tgt := 13) d_Sh_isOf_2 (by decide) rfl (fun hc_2 => ?_) (fun hc_2 => ?_)
  · refine wp_iconst d_Sh_isOf_13 rfl ic_1 ?_
    refine wp_goto (tgt := 18) d_Sh_isOf_14 (by decide) ?_
    refine wp_zret d_Sh_isOf_18 rfl (rfl) (Nat.le_refl _) (Nat.le_refl _) ?_
    first | (rw [if_pos (Or.inl hc_2)] at hK; exact hK) | (rw [if_pos (Or.inr hs)] at hK; exact hK) | (rw [if_neg (fun z => z.elim hc_2 hs)] at hK; exact hK)
  · refine wp_aload_n d_Sh_isOf_5 rfl rfl ?_
    refine wp_iload_n d_Sh_isOf_6 rfl rfl ?_
    refine wp_csu1 ls_Sh_9 (ro _ _ _) d_Sh_isOf_7 rfl (Nat.le_of_ble_eq_true rfl) (hr) (Nat.zero_le _) (Nat.zero_le _) ?_
    refine ok_Rn_isOf ?_
    by_cases hs : v = 0
    · rw [if_pos hs]
      refine wp_if_eq_f (tgt := 17) d_Sh_isOf_10 (by decide) rfl (by decide) ?_
      refine wp_iconst d_Sh_isOf_13 rfl ic_1 ?_
      refine wp_goto (tgt := 18) d_Sh_isOf_14 (by decide) ?_
      refine wp_zret d_Sh_isOf_18 rfl (rfl) (Nat.le_refl _) (Nat.le_refl _) ?_
      first | (rw [if_pos (Or.inl hc_2)] at hK; exact hK) | (rw [if_pos (Or.inr hs)] at hK; exact hK) | (rw [if_neg (fun z => z.elim hc_2 hs)] at hK; exact hK)
    · rw [if_neg hs]
      refine wp_if_eq_t (tgt := 17) d_Sh_isOf_10 (by decide) (by decide) ?_
      refine wp_iconst d_Sh_isOf_17 rfl ic_0 ?_
      refine wp_zret d_Sh_isOf_18 rfl (rfl) (Nat.le_refl _) (Nat.le_refl _) ?_
      first | (rw [if_pos (Or.inl hc_2)] at hK; exact hK) | (rw [if_pos (Or.inr hs)] at hK; exact hK) | (rw [if_neg (fun z => z.elim hc_2 hs)] at hK; exact hK)
theorem d_Ex_isOf_0 : decode M_Ex_isOf.2.1 0 = .ok (.iload_n 1, 1) := by decide +kernel
theorem d_Ex_isOf_1 : decode M_Ex_isOf.2.1 1 = .ok (.iconst 4, 1) := by decide +kernel
theorem d_Ex_isOf_2 : decode M_Ex_isOf.2.1 2 = .ok (.if_icmp .eq 11, 3) := by decide +kernel
theorem d_Ex_isOf_5 : decode M_Ex_isOf.2.1 5 = .ok (.aload_n 0, 1) := by decide +kernel
theorem d_Ex_isOf_6 : decode M_Ex_isOf.2.1 6 = .ok (.iload_n 1, 1) := by decide +kernel
theorem d_Ex_isOf_7 : decode M_Ex_isOf.2.1 7 = .ok (.invokespecial 9, 3) := by decide +kernel
theorem d_Ex_isOf_10 : decode M_Ex_isOf.2.1 10 = .ok (.ifCond .eq 7, 3) := by decide +kernel
theorem d_Ex_isOf_13 : decode M_Ex_isOf.2.1 13 = .ok (.iconst 1, 1) := by decide +kernel
theorem d_Ex_isOf_14 : decode M_Ex_isOf.2.1 14 = .ok (.goto 4, 3) := by decide +kernel
theorem d_Ex_isOf_17 : decode M_Ex_isOf.2.1 17 = .ok (.iconst 0, 1) := by decide +kernel
theorem d_Ex_isOf_18 : decode M_Ex_isOf.2.1 18 = .ok (.ireturn, 1) := by decide +kernel
set_option maxHeartbeats 4000000 in
set_option maxRecDepth 100000 in
theorem ok_Ex_isOf {D : xD} {N : Nat} {l : Launch} {d : Nat} {g : List va_E} {K : Option Value → List va_E → Prop} {i ci : Nat} {fs : List Value} {v : Int32} (hr : g[i]? = some (.inr (ci, fs))) (hK : K (some (.int (if v = nI 4 ∨ (v = nI 3 ∨ v = 0) then nI 1 else nI 0))) g) : Ok D N l (d + 2) M_Ex_isOf [.ref (N + i), .int v] g 0 0 K := by
  refine ok_of (L := [(0, _), (1, _)]) (by decide) (Nat.le_of_ble_eq_true rfl) rfl ?_
  refine wp_iload_n d_Ex_isOf_0 rfl rfl ?_
  refine wp_iconst d_Ex_isOf_1 rfl ic_4 ?_
  refine wp_icmp_eq (tgt := 13) d_Ex_isOf_2 (by decide) rfl (fun hc_2 => ?_) (fun hc_2 => ?_)
  · refine wp_iconst d_Ex_isOf_13 rfl ic_1 ?_
    refine wp_goto (tgt := 18) d_Ex_isOf_14 (by decide) ?_
    refine wp_zret d_Ex_isOf_18 rfl (rfl) (Nat.le_refl _) (Nat.le_refl _) ?_
    first | (rw [if_pos (Or.inl hc_2)] at hK; exact hK) | (rw [if_pos (Or.inr hs)] at hK; exact hK) | (rw [if_neg (fun z => z.elim hc_2 hs)] at hK; exact hK)
  · refine wp_aload_n d_Ex_isOf_5 rfl rfl ?_
    refine wp_iload_n d_Ex_isOf_6 rfl rfl ?_
    refine wp_csu1 ls_Ex_9 (ro _ _ _) d_Ex_isOf_7 rfl (Nat.le_of_ble_eq_true rfl) (hr) (Nat.zero_le _) (Nat.zero_le _) ?_
    refine ok_Ea_isOf hr ?_
    by_cases hs : (v = nI 3 ∨ v = 0)
    · rw [if_pos hs]
      refine wp_if_eq_f (tgt := 17) d_Ex_isOf_10 (by decide) rfl (by decide) ?_
      refine wp_iconst d_Ex_isOf_13 rfl ic_1 ?_
      refine wp_goto (tgt := 18) d_Ex_isOf_14 (by decide) ?_
      refine wp_zret d_Ex_isOf_18 rfl (rfl) (Nat.le_refl _) (Nat.le_refl _) ?_
      first | (rw [if_pos (Or.inl hc_2)] at hK; exact hK) | (rw [if_pos (Or.inr hs)] at hK; exact hK) | (rw [if_neg (fun z => z.elim hc_2 hs)] at hK; exact hK)
    · rw [if_neg hs]
      refine wp_if_eq_t (tgt := 17) d_Ex_isOf_10 (by decide) (by decide) ?_
      refine wp_iconst d_Ex_isOf_17 rfl ic_0 ?_
      refine wp_zret d_Ex_isOf_18 rfl (rfl) (Nat.le_refl _) (Nat.le_refl _) ?_
      first | (rw [if_pos (Or.inl hc_2)] at hK; exact hK) | (rw [if_pos (Or.inr hs)] at hK; exact hK) | (rw [if_neg (fun z => z.elim hc_2 hs)] at hK; exact hK)
theorem d_Hi_isOf_0 : decode M_Hi_isOf.2.1 0 = .ok (.iload_n 1, 1) := by decide +kernel
theorem d_Hi_isOf_1 : decode M_Hi_isOf.2.1 1 = .ok (.iconst 5, 1) := by decide +kernel
theorem d_Hi_isOf_2 : decode M_Hi_isOf.2.1 2 = .ok (.if_icmp .eq 11, 3) := by decide +kernel
theorem d_Hi_isOf_5 : decode M_Hi_isOf.2.1 5 = .ok (.aload_n 0, 1) := by decide +kernel
theorem d_Hi_isOf_6 : decode M_Hi_isOf.2.1 6 = .ok (.iload_n 1, 1) := by decide +kernel
theorem d_Hi_isOf_7 : decode M_Hi_isOf.2.1 7 = .ok (.invokespecial 15, 3) := by decide +kernel
theorem d_Hi_isOf_10 : decode M_Hi_isOf.2.1 10 = .ok (.ifCond .eq 7, 3) := by decide +kernel
theorem d_Hi_isOf_13 : decode M_Hi_isOf.2.1 13 = .ok (.iconst 1, 1) := by decide +kernel
theorem d_Hi_isOf_14 : decode M_Hi_isOf.2.1 14 = .ok (.goto 4, 3) := by decide +kernel
theorem d_Hi_isOf_17 : decode M_Hi_isOf.2.1 17 = .ok (.iconst 0, 1) := by decide +kernel
theorem d_Hi_isOf_18 : decode M_Hi_isOf.2.1 18 = .ok (.ireturn, 1) := by decide +kernel
set_option maxHeartbeats 4000000 in
set_option maxRecDepth 100000 in
theorem ok_Hi_isOf {D : xD} {N : Nat} {l : Launch} {d : Nat} {g : List va_E} {K : Option Value → List va_E → Prop} {i ci : Nat} {fs : List Value} {v : Int32} (hr : g[i]? = some (.inr (ci, fs))) (hK : K (some (.int (if v = nI 5 ∨ (v = nI 2 ∨ v = 0) then nI 1 else nI 0))) g) : Ok D N l (d + 2) M_Hi_isOf [.ref (N + i), .int v] g 0 0 K := by
  refine ok_of (L := [(0, _), (1, _)]) (by decide) (Nat.le_of_ble_eq_true rfl) rfl ?_
  refine wp_iload_n d_Hi_isOf_0 rfl rfl ?_
  refine wp_iconst d_Hi_isOf_1 rfl ic_5 ?_
  refine wp_icmp_eq (tgt := 13) d_Hi_isOf_2 (by decide) rfl (fun hc_2 => ?_) (fun hc_2 => ?_)
  · refine wp_iconst d_Hi_isOf_13 rfl ic_1 ?_
    refine wp_goto (tgt := 18) d_Hi_isOf_14 (by decide) ?_
    refine wp_zret d_Hi_isOf_18 rfl (rfl) (Nat.le_refl _) (Nat.le_refl _) ?_
    first | (rw [if_pos (Or.inl hc_2)] at hK; exact hK) | (rw [if_pos (Or.inr hs)] at hK; exact hK) | (rw [if_neg (fun z => z.elim hc_2 hs)] at hK; exact hK)
  · refine wp_aload_n d_Hi_isOf_5 rfl rfl ?_
    refine wp_iload_n d_Hi_isOf_6 rfl rfl ?_
    refine wp_csu1 ls_Hi_15 (ro _ _ _) d_Hi_isOf_7 rfl (Nat.le_of_ble_eq_true rfl) (hr) (Nat.zero_le _) (Nat.zero_le _) ?_
    refine ok_Em_isOf hr ?_
    by_cases hs : (v = nI 2 ∨ v = 0)
    · rw [if_pos hs]
      refine wp_if_eq_f (tgt := 17) d_Hi_isOf_10 (by decide) rfl (by decide) ?_
      refine wp_iconst d_Hi_isOf_13 rfl ic_1 ?_
      refine wp_goto (tgt := 18) d_Hi_isOf_14 (by decide) ?_
      refine wp_zret d_Hi_isOf_18 rfl (rfl) (Nat.le_refl _) (Nat.le_refl _) ?_
      first | (rw [if_pos (Or.inl hc_2)] at hK; exact hK) | (rw [if_pos (Or.inr hs)] at hK; exact hK) | (rw [if_neg (fun z => z.elim hc_2 hs)] at hK; exact hK)
    · rw [if_neg hs]
      refine wp_if_eq_t (tgt := 17) d_Hi_isOf_10 (by decide) (by decide) ?_
      refine wp_iconst d_Hi_isOf_17 rfl ic_0 ?_
      refine wp_zret d_Hi_isOf_18 rfl (rfl) (Nat.le_refl _) (Nat.le_refl _) ?_
      first | (rw [if_pos (Or.inl hc_2)] at hK; exact hK) | (rw [if_pos (Or.inr hs)] at hK; exact hK) | (rw [if_neg (fun z => z.elim hc_2 hs)] at hK; exact hK)
end
section
def LU0 (Cn : String) (x : MethodName) (M2 : MD) (np : Nat) : Prop := CW M2 np ∧ Cond.sameMethod x.cls x.cls x.name x.desc ∈ lw_good ∧ Cond.selects Cn x M2.1 ∈ lw_good ∧ Cond.instanceMethod M2.1 ∈ lw_good ∧ Cond.instanceMethod ⟨x.cls, x.name, x.desc⟩ ∈ lw_good ∧ (∃ (b0 : ByteArray) (m0 : Nat) (r0 : Option FieldType), Cond.code ⟨x.cls, x.name, x.desc⟩ b0 m0 r0 ∈ lw_good) ∧ (x.cls ≠ "java/lang/invoke/MethodHandle" ∧ x.cls ≠ "java/lang/invoke/VarHandle" ∧ (parseMethodDescriptor x.desc).map (fun d => d.parameters.length) = some np)
theorem LU0.to {own : String} {idx : Nat} {Cn : String} {x : MethodName} {M2 : MD} {np : Nat} (h : LU0 Cn x M2 np) (hl : Cond.methodLink own idx x ∈ lw_good) : LU own idx Cn x M2 np := by
  obtain ⟨h1, h2, h3, h4, h5, h6, h7⟩ := h
  exact ⟨h1, hl, h2, h3, h4, h5, h6, h7⟩
theorem rdK {D : xD} {N : Nat} {c x V : T2} {ln df : Nat → Option Nat} {rest : List va_E} {k : Nat} (hk : k < 6) : (encC D N c x V ln df ++ rest)[15 + k]? = some (.inr (kci k, [])) := by
  rcases (show k = 0 ∨ k = 1 ∨ k = 2 ∨ k = 3 ∨ k = 4 ∨ k = 5 by omega) with rfl | rfl | rfl | rfl | rfl | rfl <;> rfl
abbrev xR_needOf : MethodName := ⟨"FillAndGo$Run", "needOf", "(I)I"⟩
theorem lu_needOf_Rn : LU0 RX6 xR_needOf M_Rn_needOf 1 := ⟨cw_Rn_needOf, gw 632 (by decide +kernel) (by decide +kernel), gw 631 (by decide +kernel) (by decide +kernel), gw 630 (by decide +kernel) (by decide +kernel), gw 630 (by decide +kernel) (by decide +kernel), ⟨_, _, _, gc3 163 rfl rfl⟩, ⟨by decide +kernel, by decide +kernel, by decide +kernel⟩⟩
theorem lu_needOf_Sh : LU0 RX7 xR_needOf M_Rn_needOf 1 := ⟨cw_Rn_needOf, gw 632 (by decide +kernel) (by decide +kernel), gw 642 (by decide +kernel) (by decide +kernel), gw 630 (by decide +kernel) (by decide +kernel), gw 630 (by decide +kernel) (by decide +kernel), ⟨_, _, _, gc3 163 rfl rfl⟩, ⟨by decide +kernel, by decide +kernel, by decide +kernel⟩⟩
theorem lu_needOf_Em : LU0 RX1 xR_needOf M_Em_needOf 1 := ⟨cw_Em_needOf, gw 632 (by decide +kernel) (by decide +kernel), gw 637 (by decide +kernel) (by decide +kernel), gw 638 (by decide +kernel) (by decide +kernel), gw 630 (by decide +kernel) (by decide +kernel), ⟨_, _, _, gc3 163 rfl rfl⟩, ⟨by decide +kernel, by decide +kernel, by decide +kernel⟩⟩
theorem lu_needOf_Ea : LU0 RX0 xR_needOf M_Ea_needOf 1 := ⟨cw_Ea_needOf, gw 632 (by decide +kernel) (by decide +kernel), gw 633 (by decide +kernel) (by decide +kernel), gw 634 (by decide +kernel) (by decide +kernel), gw 630 (by decide +kernel) (by decide +kernel), ⟨_, _, _, gc3 163 rfl rfl⟩, ⟨by decide +kernel, by decide +kernel, by decide +kernel⟩⟩
theorem lu_needOf_Ex : LU0 RX2 xR_needOf M_Ea_needOf 1 := ⟨cw_Ea_needOf, gw 632 (by decide +kernel) (by decide +kernel), gw 640 (by decide +kernel) (by decide +kernel), gw 634 (by decide +kernel) (by decide +kernel), gw 630 (by decide +kernel) (by decide +kernel), ⟨_, _, _, gc3 163 rfl rfl⟩, ⟨by decide +kernel, by decide +kernel, by decide +kernel⟩⟩
theorem lu_needOf_Hi : LU0 RX3 xR_needOf M_Em_needOf 1 := ⟨cw_Em_needOf, gw 632 (by decide +kernel) (by decide +kernel), gw 641 (by decide +kernel) (by decide +kernel), gw 638 (by decide +kernel) (by decide +kernel), gw 630 (by decide +kernel) (by decide +kernel), ⟨_, _, _, gc3 163 rfl rfl⟩, ⟨by decide +kernel, by decide +kernel, by decide +kernel⟩⟩
theorem lm_FG_210 : Cond.methodLink RX11 210 xR_needOf ∈ lw_good := gw 759 (by decide +kernel) (by decide +kernel)
theorem lm_Tn_199 : Cond.methodLink RX9 199 xR_needOf ∈ lw_good := gw 629 (by decide +kernel) (by decide +kernel)
abbrev xR_fareOf : MethodName := ⟨"FillAndGo$Run", "fareOf", "(I)I"⟩
theorem lu_fareOf_Rn : LU0 RX6 xR_fareOf M_Rn_fareOf 1 := ⟨cw_Rn_fareOf, gw 669 (by decide +kernel) (by decide +kernel), gw 668 (by decide +kernel) (by decide +kernel), gw 667 (by decide +kernel) (by decide +kernel), gw 667 (by decide +kernel) (by decide +kernel), ⟨_, _, _, gc3 201 rfl rfl⟩, ⟨by decide +kernel, by decide +kernel, by decide +kernel⟩⟩
theorem lu_fareOf_Sh : LU0 RX7 xR_fareOf M_Sh_fareOf 1 := ⟨cw_Sh_fareOf, gw 669 (by decide +kernel) (by decide +kernel), gw 678 (by decide +kernel) (by decide +kernel), gw 679 (by decide +kernel) (by decide +kernel), gw 667 (by decide +kernel) (by decide +kernel), ⟨_, _, _, gc3 201 rfl rfl⟩, ⟨by decide +kernel, by decide +kernel, by decide +kernel⟩⟩
theorem lu_fareOf_Em : LU0 RX1 xR_fareOf M_Em_fareOf 1 := ⟨cw_Em_fareOf, gw 669 (by decide +kernel) (by decide +kernel), gw 671 (by decide +kernel) (by decide +kernel), gw 672 (by decide +kernel) (by decide +kernel), gw 667 (by decide +kernel) (by decide +kernel), ⟨_, _, _, gc3 201 rfl rfl⟩, ⟨by decide +kernel, by decide +kernel, by decide +kernel⟩⟩
theorem lu_fareOf_Ea : LU0 RX0 xR_fareOf M_Rn_fareOf 1 := ⟨cw_Rn_fareOf, gw 669 (by decide +kernel) (by decide +kernel), gw 670 (by decide +kernel) (by decide +kernel), gw 667 (by decide +kernel) (by decide +kernel), gw 667 (by decide +kernel) (by decide +kernel), ⟨_, _, _, gc3 201 rfl rfl⟩, ⟨by decide +kernel, by decide +kernel, by decide +kernel⟩⟩
theorem lu_fareOf_Ex : LU0 RX2 xR_fareOf M_Ex_fareOf 1 := ⟨cw_Ex_fareOf, gw 669 (by decide +kernel) (by decide +kernel), gw 674 (by decide +kernel) (by decide +kernel), gw 675 (by decide +kernel) (by decide +kernel), gw 667 (by decide +kernel) (by decide +kernel), ⟨_, _, _, gc3 201 rfl rfl⟩, ⟨by decide +kernel, by decide +kernel, by decide +kernel⟩⟩
theorem lu_fareOf_Hi : LU0 RX3 xR_fareOf M_Hi_fareOf 1 := ⟨cw_Hi_fareOf, gw 669 (by decide +kernel) (by decide +kernel), gw 677 (by decide +kernel) (by decide +kernel), gw 661 (by decide +kernel) (by decide +kernel), gw 667 (by decide +kernel) (by decide +kernel), ⟨_, _, _, gc3 201 rfl rfl⟩, ⟨by decide +kernel, by decide +kernel, by decide +kernel⟩⟩
theorem lm_FG_215 : Cond.methodLink RX11 215 xR_fareOf ∈ lw_good := gw 760 (by decide +kernel) (by decide +kernel)
theorem lm_Rn_18 : Cond.methodLink RX6 18 xR_fareOf ∈ lw_good := gw 666 (by decide +kernel) (by decide +kernel)
abbrev xR_minutesOf : MethodName := ⟨"FillAndGo$Run", "minutesOf", "(I)I"⟩
theorem lu_minutesOf_Rn : LU0 RX6 xR_minutesOf M_Rn_minutesOf 1 := ⟨cw_Rn_minutesOf, gw 690 (by decide +kernel) (by decide +kernel), gw 689 (by decide +kernel) (by decide +kernel), gw 688 (by decide +kernel) (by decide +kernel), gw 688 (by decide +kernel) (by decide +kernel), ⟨_, _, _, gc3 220 rfl rfl⟩, ⟨by decide +kernel, by decide +kernel, by decide +kernel⟩⟩
theorem lu_minutesOf_Sh : LU0 RX7 xR_minutesOf M_Sh_minutesOf 1 := ⟨cw_Sh_minutesOf, gw 690 (by decide +kernel) (by decide +kernel), gw 697 (by decide +kernel) (by decide +kernel), gw 698 (by decide +kernel) (by decide +kernel), gw 688 (by decide +kernel) (by decide +kernel), ⟨_, _, _, gc3 220 rfl rfl⟩, ⟨by decide +kernel, by decide +kernel, by decide +kernel⟩⟩
theorem lu_minutesOf_Em : LU0 RX1 xR_minutesOf M_Rn_minutesOf 1 := ⟨cw_Rn_minutesOf, gw 690 (by decide +kernel) (by decide +kernel), gw 692 (by decide +kernel) (by decide +kernel), gw 688 (by decide +kernel) (by decide +kernel), gw 688 (by decide +kernel) (by decide +kernel), ⟨_, _, _, gc3 220 rfl rfl⟩, ⟨by decide +kernel, by decide +kernel, by decide +kernel⟩⟩
theorem lu_minutesOf_Ea : LU0 RX0 xR_minutesOf M_Rn_minutesOf 1 := ⟨cw_Rn_minutesOf, gw 690 (by decide +kernel) (by decide +kernel), gw 691 (by decide +kernel) (by decide +kernel), gw 688 (by decide +kernel) (by decide +kernel), gw 688 (by decide +kernel) (by decide +kernel), ⟨_, _, _, gc3 220 rfl rfl⟩, ⟨by decide +kernel, by decide +kernel, by decide +kernel⟩⟩
theorem lu_minutesOf_Ex : LU0 RX2 xR_minutesOf M_Rn_minutesOf 1 := ⟨cw_Rn_minutesOf, gw 690 (by decide +kernel) (by decide +kernel), gw 693 (by decide +kernel) (by decide +kernel), gw 688 (by decide +kernel) (by decide +kernel), gw 688 (by decide +kernel) (by decide +kernel), ⟨_, _, _, gc3 220 rfl rfl⟩, ⟨by decide +kernel, by decide +kernel, by decide +kernel⟩⟩
theorem lu_minutesOf_Hi : LU0 RX3 xR_minutesOf M_Hi_minutesOf 1 := ⟨cw_Hi_minutesOf, gw 690 (by decide +kernel) (by decide +kernel), gw 694 (by decide +kernel) (by decide +kernel), gw 695 (by decide +kernel) (by decide +kernel), gw 688 (by decide +kernel) (by decide +kernel), ⟨_, _, _, gc3 220 rfl rfl⟩, ⟨by decide +kernel, by decide +kernel, by decide +kernel⟩⟩
theorem lm_FG_218 : Cond.methodLink RX11 218 xR_minutesOf ∈ lw_good := gw 761 (by decide +kernel) (by decide +kernel)
theorem lm_Tn_221 : Cond.methodLink RX9 221 xR_minutesOf ∈ lw_good := gw 687 (by decide +kernel) (by decide +kernel)
abbrev xR_fuelOf : MethodName := ⟨"FillAndGo$Run", "fuelOf", "(I)I"⟩
theorem lu_fuelOf_Rn : LU0 RX6 xR_fuelOf M_Rn_fuelOf 1 := ⟨cw_Rn_fuelOf, gw 704 (by decide +kernel) (by decide +kernel), gw 703 (by decide +kernel) (by decide +kernel), gw 702 (by decide +kernel) (by decide +kernel), gw 702 (by decide +kernel) (by decide +kernel), ⟨_, _, _, gc3 232 rfl rfl⟩, ⟨by decide +kernel, by decide +kernel, by decide +kernel⟩⟩
theorem lu_fuelOf_Sh : LU0 RX7 xR_fuelOf M_Rn_fuelOf 1 := ⟨cw_Rn_fuelOf, gw 704 (by decide +kernel) (by decide +kernel), gw 711 (by decide +kernel) (by decide +kernel), gw 702 (by decide +kernel) (by decide +kernel), gw 702 (by decide +kernel) (by decide +kernel), ⟨_, _, _, gc3 232 rfl rfl⟩, ⟨by decide +kernel, by decide +kernel, by decide +kernel⟩⟩
theorem lu_fuelOf_Em : LU0 RX1 xR_fuelOf M_Rn_fuelOf 1 := ⟨cw_Rn_fuelOf, gw 704 (by decide +kernel) (by decide +kernel), gw 706 (by decide +kernel) (by decide +kernel), gw 702 (by decide +kernel) (by decide +kernel), gw 702 (by decide +kernel) (by decide +kernel), ⟨_, _, _, gc3 232 rfl rfl⟩, ⟨by decide +kernel, by decide +kernel, by decide +kernel⟩⟩
theorem lu_fuelOf_Ea : LU0 RX0 xR_fuelOf M_Rn_fuelOf 1 := ⟨cw_Rn_fuelOf, gw 704 (by decide +kernel) (by decide +kernel), gw 705 (by decide +kernel) (by decide +kernel), gw 702 (by decide +kernel) (by decide +kernel), gw 702 (by decide +kernel) (by decide +kernel), ⟨_, _, _, gc3 232 rfl rfl⟩, ⟨by decide +kernel, by decide +kernel, by decide +kernel⟩⟩
theorem lu_fuelOf_Ex : LU0 RX2 xR_fuelOf M_Ex_fuelOf 1 := ⟨cw_Ex_fuelOf, gw 704 (by decide +kernel) (by decide +kernel), gw 707 (by decide +kernel) (by decide +kernel), gw 708 (by decide +kernel) (by decide +kernel), gw 702 (by decide +kernel) (by decide +kernel), ⟨_, _, _, gc3 232 rfl rfl⟩, ⟨by decide +kernel, by decide +kernel, by decide +kernel⟩⟩
theorem lu_fuelOf_Hi : LU0 RX3 xR_fuelOf M_Rn_fuelOf 1 := ⟨cw_Rn_fuelOf, gw 704 (by decide +kernel) (by decide +kernel), gw 710 (by decide +kernel) (by decide +kernel), gw 702 (by decide +kernel) (by decide +kernel), gw 702 (by decide +kernel) (by decide +kernel), ⟨_, _, _, gc3 232 rfl rfl⟩, ⟨by decide +kernel, by decide +kernel, by decide +kernel⟩⟩
theorem lm_FG_221 : Cond.methodLink RX11 221 xR_fuelOf ∈ lw_good := gw 762 (by decide +kernel) (by decide +kernel)
theorem lm_Tn_230 : Cond.methodLink RX9 230 xR_fuelOf ∈ lw_good := gw 701 (by decide +kernel) (by decide +kernel)
abbrev xR_takings : MethodName := ⟨"FillAndGo$Run", "takings", "(II)I"⟩
theorem lu_takings_Rn : LU0 RX6 xR_takings M_Rn_takings 2 := ⟨cw_Rn_takings, gw 653 (by decide +kernel) (by decide +kernel), gw 652 (by decide +kernel) (by decide +kernel), gw 651 (by decide +kernel) (by decide +kernel), gw 651 (by decide +kernel) (by decide +kernel), ⟨_, _, _, gc3 185 rfl rfl⟩, ⟨by decide +kernel, by decide +kernel, by decide +kernel⟩⟩
theorem lu_takings_Sh : LU0 RX7 xR_takings M_Rn_takings 2 := ⟨cw_Rn_takings, gw 653 (by decide +kernel) (by decide +kernel), gw 664 (by decide +kernel) (by decide +kernel), gw 651 (by decide +kernel) (by decide +kernel), gw 651 (by decide +kernel) (by decide +kernel), ⟨_, _, _, gc3 185 rfl rfl⟩, ⟨by decide +kernel, by decide +kernel, by decide +kernel⟩⟩
theorem lu_takings_Em : LU0 RX1 xR_takings M_Rn_takings 2 := ⟨cw_Rn_takings, gw 653 (by decide +kernel) (by decide +kernel), gw 655 (by decide +kernel) (by decide +kernel), gw 651 (by decide +kernel) (by decide +kernel), gw 651 (by decide +kernel) (by decide +kernel), ⟨_, _, _, gc3 185 rfl rfl⟩, ⟨by decide +kernel, by decide +kernel, by decide +kernel⟩⟩
theorem lu_takings_Ea : LU0 RX0 xR_takings M_Rn_takings 2 := ⟨cw_Rn_takings, gw 653 (by decide +kernel) (by decide +kernel), gw 654 (by decide +kernel) (by decide +kernel), gw 651 (by decide +kernel) (by decide +kernel), gw 651 (by decide +kernel) (by decide +kernel), ⟨_, _, _, gc3 185 rfl rfl⟩, ⟨by decide +kernel, by decide +kernel, by decide +kernel⟩⟩
theorem lu_takings_Ex : LU0 RX2 xR_takings M_Rn_takings 2 := ⟨cw_Rn_takings, gw 653 (by decide +kernel) (by decide +kernel), gw 656 (by decide +kernel) (by decide +kernel), gw 651 (by decide +kernel) (by decide +kernel), gw 651 (by decide +kernel) (by decide +kernel), ⟨_, _, _, gc3 185 rfl rfl⟩, ⟨by decide +kernel, by decide +kernel, by decide +kernel⟩⟩
theorem lu_takings_Hi : LU0 RX3 xR_takings M_Hi_takings 2 := ⟨cw_Hi_takings, gw 653 (by decide +kernel) (by decide +kernel), gw 657 (by decide +kernel) (by decide +kernel), gw 658 (by decide +kernel) (by decide +kernel), gw 651 (by decide +kernel) (by decide +kernel), ⟨_, _, _, gc3 185 rfl rfl⟩, ⟨by decide +kernel, by decide +kernel, by decide +kernel⟩⟩
theorem lm_Tn_218 : Cond.methodLink RX9 218 xR_takings ∈ lw_good := gw 650 (by decide +kernel) (by decide +kernel)
abbrev xR_carries : MethodName := ⟨"FillAndGo$Run", "carries", "()Z"⟩
theorem lu_carries_Rn : LU0 RX6 xR_carries M_Rn_carries 0 := ⟨cw_Rn_carries, gw 611 (by decide +kernel) (by decide +kernel), gw 610 (by decide +kernel) (by decide +kernel), gw 609 (by decide +kernel) (by decide +kernel), gw 609 (by decide +kernel) (by decide +kernel), ⟨_, _, _, gc3 139 rfl rfl⟩, ⟨by decide +kernel, by decide +kernel, by decide +kernel⟩⟩
theorem lu_carries_Sh : LU0 RX7 xR_carries M_Rn_carries 0 := ⟨cw_Rn_carries, gw 611 (by decide +kernel) (by decide +kernel), gw 618 (by decide +kernel) (by decide +kernel), gw 609 (by decide +kernel) (by decide +kernel), gw 609 (by decide +kernel) (by decide +kernel), ⟨_, _, _, gc3 139 rfl rfl⟩, ⟨by decide +kernel, by decide +kernel, by decide +kernel⟩⟩
theorem lu_carries_Em : LU0 RX1 xR_carries M_Em_carries 0 := ⟨cw_Em_carries, gw 611 (by decide +kernel) (by decide +kernel), gw 613 (by decide +kernel) (by decide +kernel), gw 614 (by decide +kernel) (by decide +kernel), gw 609 (by decide +kernel) (by decide +kernel), ⟨_, _, _, gc3 139 rfl rfl⟩, ⟨by decide +kernel, by decide +kernel, by decide +kernel⟩⟩
theorem lu_carries_Ea : LU0 RX0 xR_carries M_Rn_carries 0 := ⟨cw_Rn_carries, gw 611 (by decide +kernel) (by decide +kernel), gw 612 (by decide +kernel) (by decide +kernel), gw 609 (by decide +kernel) (by decide +kernel), gw 609 (by decide +kernel) (by decide +kernel), ⟨_, _, _, gc3 139 rfl rfl⟩, ⟨by decide +kernel, by decide +kernel, by decide +kernel⟩⟩
theorem lu_carries_Ex : LU0 RX2 xR_carries M_Rn_carries 0 := ⟨cw_Rn_carries, gw 611 (by decide +kernel) (by decide +kernel), gw 616 (by decide +kernel) (by decide +kernel), gw 609 (by decide +kernel) (by decide +kernel), gw 609 (by decide +kernel) (by decide +kernel), ⟨_, _, _, gc3 139 rfl rfl⟩, ⟨by decide +kernel, by decide +kernel, by decide +kernel⟩⟩
theorem lu_carries_Hi : LU0 RX3 xR_carries M_Em_carries 0 := ⟨cw_Em_carries, gw 611 (by decide +kernel) (by decide +kernel), gw 617 (by decide +kernel) (by decide +kernel), gw 614 (by decide +kernel) (by decide +kernel), gw 609 (by decide +kernel) (by decide +kernel), ⟨_, _, _, gc3 139 rfl rfl⟩, ⟨by decide +kernel, by decide +kernel, by decide +kernel⟩⟩
theorem lm_Tn_185 : Cond.methodLink RX9 185 xR_carries ∈ lw_good := gw 608 (by decide +kernel) (by decide +kernel)
abbrev xR_turnsBack : MethodName := ⟨"FillAndGo$Run", "turnsBack", "()Z"⟩
theorem lu_turnsBack_Rn : LU0 RX6 xR_turnsBack M_Rn_turnsBack 0 := ⟨cw_Rn_turnsBack, gw 724 (by decide +kernel) (by decide +kernel), gw 723 (by decide +kernel) (by decide +kernel), gw 722 (by decide +kernel) (by decide +kernel), gw 722 (by decide +kernel) (by decide +kernel), ⟨_, _, _, gc4 12 rfl rfl⟩, ⟨by decide +kernel, by decide +kernel, by decide +kernel⟩⟩
theorem lu_turnsBack_Sh : LU0 RX7 xR_turnsBack M_Sh_turnsBack 0 := ⟨cw_Sh_turnsBack, gw 724 (by decide +kernel) (by decide +kernel), gw 729 (by decide +kernel) (by decide +kernel), gw 730 (by decide +kernel) (by decide +kernel), gw 722 (by decide +kernel) (by decide +kernel), ⟨_, _, _, gc4 12 rfl rfl⟩, ⟨by decide +kernel, by decide +kernel, by decide +kernel⟩⟩
theorem lu_turnsBack_Em : LU0 RX1 xR_turnsBack M_Rn_turnsBack 0 := ⟨cw_Rn_turnsBack, gw 724 (by decide +kernel) (by decide +kernel), gw 726 (by decide +kernel) (by decide +kernel), gw 722 (by decide +kernel) (by decide +kernel), gw 722 (by decide +kernel) (by decide +kernel), ⟨_, _, _, gc4 12 rfl rfl⟩, ⟨by decide +kernel, by decide +kernel, by decide +kernel⟩⟩
theorem lu_turnsBack_Ea : LU0 RX0 xR_turnsBack M_Rn_turnsBack 0 := ⟨cw_Rn_turnsBack, gw 724 (by decide +kernel) (by decide +kernel), gw 725 (by decide +kernel) (by decide +kernel), gw 722 (by decide +kernel) (by decide +kernel), gw 722 (by decide +kernel) (by decide +kernel), ⟨_, _, _, gc4 12 rfl rfl⟩, ⟨by decide +kernel, by decide +kernel, by decide +kernel⟩⟩
theorem lu_turnsBack_Ex : LU0 RX2 xR_turnsBack M_Rn_turnsBack 0 := ⟨cw_Rn_turnsBack, gw 724 (by decide +kernel) (by decide +kernel), gw 727 (by decide +kernel) (by decide +kernel), gw 722 (by decide +kernel) (by decide +kernel), gw 722 (by decide +kernel) (by decide +kernel), ⟨_, _, _, gc4 12 rfl rfl⟩, ⟨by decide +kernel, by decide +kernel, by decide +kernel⟩⟩
theorem lu_turnsBack_Hi : LU0 RX3 xR_turnsBack M_Rn_turnsBack 0 := ⟨cw_Rn_turnsBack, gw 724 (by decide +kernel) (by decide +kernel), gw 728 (by decide +kernel) (by decide +kernel), gw 722 (by decide +kernel) (by decide +kernel), gw 722 (by decide +kernel) (by decide +kernel), ⟨_, _, _, gc4 12 rfl rfl⟩, ⟨by decide +kernel, by decide +kernel, by decide +kernel⟩⟩
theorem lm_Tn_239 : Cond.methodLink RX9 239 xR_turnsBack ∈ lw_good := gw 721 (by decide +kernel) (by decide +kernel)
abbrev xR_isOf : MethodName := ⟨"FillAndGo$Run", "isOf", "(I)Z"⟩
theorem lu_isOf_Rn : LU0 RX6 xR_isOf M_Rn_isOf 1 := ⟨cw_Rn_isOf, gw 922 (by decide +kernel) (by decide +kernel), gw 921 (by decide +kernel) (by decide +kernel), gw 920 (by decide +kernel) (by decide +kernel), gw 920 (by decide +kernel) (by decide +kernel), ⟨_, _, _, gc4 223 rfl rfl⟩, ⟨by decide +kernel, by decide +kernel, by decide +kernel⟩⟩
theorem lu_isOf_Sh : LU0 RX7 xR_isOf M_Sh_isOf 1 := ⟨cw_Sh_isOf, gw 922 (by decide +kernel) (by decide +kernel), gw 939 (by decide +kernel) (by decide +kernel), gw 940 (by decide +kernel) (by decide +kernel), gw 920 (by decide +kernel) (by decide +kernel), ⟨_, _, _, gc4 223 rfl rfl⟩, ⟨by decide +kernel, by decide +kernel, by decide +kernel⟩⟩
theorem lu_isOf_Em : LU0 RX1 xR_isOf M_Em_isOf 1 := ⟨cw_Em_isOf, gw 922 (by decide +kernel) (by decide +kernel), gw 927 (by decide +kernel) (by decide +kernel), gw 928 (by decide +kernel) (by decide +kernel), gw 920 (by decide +kernel) (by decide +kernel), ⟨_, _, _, gc4 223 rfl rfl⟩, ⟨by decide +kernel, by decide +kernel, by decide +kernel⟩⟩
theorem lu_isOf_Ea : LU0 RX0 xR_isOf M_Ea_isOf 1 := ⟨cw_Ea_isOf, gw 922 (by decide +kernel) (by decide +kernel), gw 923 (by decide +kernel) (by decide +kernel), gw 924 (by decide +kernel) (by decide +kernel), gw 920 (by decide +kernel) (by decide +kernel), ⟨_, _, _, gc4 223 rfl rfl⟩, ⟨by decide +kernel, by decide +kernel, by decide +kernel⟩⟩
theorem lu_isOf_Ex : LU0 RX2 xR_isOf M_Ex_isOf 1 := ⟨cw_Ex_isOf, gw 922 (by decide +kernel) (by decide +kernel), gw 931 (by decide +kernel) (by decide +kernel), gw 932 (by decide +kernel) (by decide +kernel), gw 920 (by decide +kernel) (by decide +kernel), ⟨_, _, _, gc4 223 rfl rfl⟩, ⟨by decide +kernel, by decide +kernel, by decide +kernel⟩⟩
theorem lu_isOf_Hi : LU0 RX3 xR_isOf M_Hi_isOf 1 := ⟨cw_Hi_isOf, gw 922 (by decide +kernel) (by decide +kernel), gw 935 (by decide +kernel) (by decide +kernel), gw 936 (by decide +kernel) (by decide +kernel), gw 920 (by decide +kernel) (by decide +kernel), ⟨_, _, _, gc4 223 rfl rfl⟩, ⟨by decide +kernel, by decide +kernel, by decide +kernel⟩⟩
theorem lm_FG_313 : Cond.methodLink RX11 313 xR_isOf ∈ lw_good := gw 919 (by decide +kernel) (by decide +kernel)
theorem kisE_0 {v : Int32} : (if v = 0 then nI 1 else nI 0) = kIs 0 v := by
  have e : (v = 0 ∨ v = nI 0 ∨ (v = nI 2 ∧ 0 = 5) ∨ (v = nI 3 ∧ 0 = 4)) ↔ (v = 0) := by
    have h0 : nI 0 = 0 := nI_0
    constructor
    · intro z
      rcases z with z | z | z | z
      · simp [z]
      · simp [z, h0]
      · first | exact absurd z.2 (by decide) | simp [z.1]
      · first | exact absurd z.2 (by decide) | simp [z.1]
    · intro z
      try simp only [h0]
      first
        | (rcases z with z | z | z <;> simp [z, h0]; done)
        | (rcases z with z | z <;> simp [z, h0]; done)
        | (simp [z, h0]; done)
  unfold kIs
  by_cases z : v = 0
  · rw [if_pos z, if_pos (e.mpr z)]
  · rw [if_neg z, if_neg (fun y => z (e.mp y))]
theorem kisE_1 {v : Int32} : (if v = nI 1 ∨ v = 0 then nI 1 else nI 0) = kIs 1 v := by
  have e : (v = 0 ∨ v = nI 1 ∨ (v = nI 2 ∧ 1 = 5) ∨ (v = nI 3 ∧ 1 = 4)) ↔ (v = nI 1 ∨ v = 0) := by
    have h0 : nI 0 = 0 := nI_0
    constructor
    · intro z
      rcases z with z | z | z | z
      · simp [z]
      · simp [z, h0]
      · first | exact absurd z.2 (by decide) | simp [z.1]
      · first | exact absurd z.2 (by decide) | simp [z.1]
    · intro z
      try simp only [h0]
      first
        | (rcases z with z | z | z <;> simp [z, h0]; done)
        | (rcases z with z | z <;> simp [z, h0]; done)
        | (simp [z, h0]; done)
  unfold kIs
  by_cases z : v = nI 1 ∨ v = 0
  · rw [if_pos z, if_pos (e.mpr z)]
  · rw [if_neg z, if_neg (fun y => z (e.mp y))]
theorem kisE_2 {v : Int32} : (if v = nI 2 ∨ v = 0 then nI 1 else nI 0) = kIs 2 v := by
  have e : (v = 0 ∨ v = nI 2 ∨ (v = nI 2 ∧ 2 = 5) ∨ (v = nI 3 ∧ 2 = 4)) ↔ (v = nI 2 ∨ v = 0) := by
    have h0 : nI 0 = 0 := nI_0
    constructor
    · intro z
      rcases z with z | z | z | z
      · simp [z]
      · simp [z, h0]
      · first | exact absurd z.2 (by decide) | simp [z.1]
      · first | exact absurd z.2 (by decide) | simp [z.1]
    · intro z
      try simp only [h0]
      first
        | (rcases z with z | z | z <;> simp [z, h0]; done)
        | (rcases z with z | z <;> simp [z, h0]; done)
        | (simp [z, h0]; done)
  unfold kIs
  by_cases z : v = nI 2 ∨ v = 0
  · rw [if_pos z, if_pos (e.mpr z)]
  · rw [if_neg z, if_neg (fun y => z (e.mp y))]
theorem kisE_3 {v : Int32} : (if v = nI 3 ∨ v = 0 then nI 1 else nI 0) = kIs 3 v := by
  have e : (v = 0 ∨ v = nI 3 ∨ (v = nI 2 ∧ 3 = 5) ∨ (v = nI 3 ∧ 3 = 4)) ↔ (v = nI 3 ∨ v = 0) := by
    have h0 : nI 0 = 0 := nI_0
    constructor
    · intro z
      rcases z with z | z | z | z
      · simp [z]
      · simp [z, h0]
      · first | exact absurd z.2 (by decide) | simp [z.1]
      · first | exact absurd z.2 (by decide) | simp [z.1]
    · intro z
      try simp only [h0]
      first
        | (rcases z with z | z | z <;> simp [z, h0]; done)
        | (rcases z with z | z <;> simp [z, h0]; done)
        | (simp [z, h0]; done)
  unfold kIs
  by_cases z : v = nI 3 ∨ v = 0
  · rw [if_pos z, if_pos (e.mpr z)]
  · rw [if_neg z, if_neg (fun y => z (e.mp y))]
theorem kisE_4 {v : Int32} : (if v = nI 4 ∨ (v = nI 3 ∨ v = 0) then nI 1 else nI 0) = kIs 4 v := by
  have e : (v = 0 ∨ v = nI 4 ∨ (v = nI 2 ∧ 4 = 5) ∨ (v = nI 3 ∧ 4 = 4)) ↔ (v = nI 4 ∨ (v = nI 3 ∨ v = 0)) := by
    have h0 : nI 0 = 0 := nI_0
    constructor
    · intro z
      rcases z with z | z | z | z
      · simp [z]
      · simp [z, h0]
      · first | exact absurd z.2 (by decide) | simp [z.1]
      · first | exact absurd z.2 (by decide) | simp [z.1]
    · intro z
      try simp only [h0]
      first
        | (rcases z with z | z | z <;> simp [z, h0]; done)
        | (rcases z with z | z <;> simp [z, h0]; done)
        | (simp [z, h0]; done)
  unfold kIs
  by_cases z : v = nI 4 ∨ (v = nI 3 ∨ v = 0)
  · rw [if_pos z, if_pos (e.mpr z)]
  · rw [if_neg z, if_neg (fun y => z (e.mp y))]
theorem kisE_5 {v : Int32} : (if v = nI 5 ∨ (v = nI 2 ∨ v = 0) then nI 1 else nI 0) = kIs 5 v := by
  have e : (v = 0 ∨ v = nI 5 ∨ (v = nI 2 ∧ 5 = 5) ∨ (v = nI 3 ∧ 5 = 4)) ↔ (v = nI 5 ∨ (v = nI 2 ∨ v = 0)) := by
    have h0 : nI 0 = 0 := nI_0
    constructor
    · intro z
      rcases z with z | z | z | z
      · simp [z]
      · simp [z, h0]
      · first | exact absurd z.2 (by decide) | simp [z.1]
      · first | exact absurd z.2 (by decide) | simp [z.1]
    · intro z
      try simp only [h0]
      first
        | (rcases z with z | z | z <;> simp [z, h0]; done)
        | (rcases z with z | z <;> simp [z, h0]; done)
        | (simp [z, h0]; done)
  unfold kIs
  by_cases z : v = nI 5 ∨ (v = nI 2 ∨ v = 0)
  · rw [if_pos z, if_pos (e.mpr z)]
  · rw [if_neg z, if_neg (fun y => z (e.mp y))]
section WV
variable {D : xD} {N : Nat} {l : Launch} {E : EX} {M : MD} {R : Room} {Qf : QF} {kk n pc : Nat} {L : List (Nat × Value)} {st : List Value} {g : List va_E}
set_option maxHeartbeats 1000000 in
theorem wp_v_needOf {q d idx k : Nat} {v : Int32} (hl : Cond.methodLink M.1.cls idx xR_needOf ∈ lw_good) (hR : RO R (d + 3)) (hd : decode M.2.1 pc = .ok (.invokevirtual idx, 3)) (hq : pc + 3 = q) (hcat : (st.map fun v => v.category).sum ≤ 8) (hk : k < 6) (hG : g[15 + k]? = some (.inr (kci k, []))) (hc : kk ≤ R.cells) (hs : n ≤ R.slots) (h : Wp D N l E M R Qf kk n q L (.int (kNeed k v) :: st) g) : Wp D N l E M R Qf kk n pc L (.int v :: .ref (N + (15 + k)) :: st) g := by
  rcases (show k = 0 ∨ k = 1 ∨ k = 2 ∨ k = 3 ∨ k = 4 ∨ k = 5 by omega) with rfl | rfl | rfl | rfl | rfl | rfl
  · exact wp_cu1 (lu_needOf_Rn.to hl) hR hd hq hcat hG rfl hc hs (ok_Rn_needOf h)
  · exact wp_cu1 (lu_needOf_Sh.to hl) hR hd hq hcat hG rfl hc hs (ok_Rn_needOf h)
  · exact wp_cu1 (lu_needOf_Em.to hl) hR hd hq hcat hG rfl hc hs (ok_Em_needOf h)
  · exact wp_cu1 (lu_needOf_Ea.to hl) hR hd hq hcat hG rfl hc hs (ok_Ea_needOf hG h)
  · exact wp_cu1 (lu_needOf_Ex.to hl) hR hd hq hcat hG rfl hc hs (ok_Ea_needOf hG h)
  · exact wp_cu1 (lu_needOf_Hi.to hl) hR hd hq hcat hG rfl hc hs (ok_Em_needOf h)
end WV
section WV
variable {D : xD} {N : Nat} {l : Launch} {E : EX} {M : MD} {R : Room} {Qf : QF} {kk n pc : Nat} {L : List (Nat × Value)} {st : List Value} {g : List va_E}
set_option maxHeartbeats 1000000 in
theorem wp_v_fareOf {q d idx k : Nat} {v : Int32} (hl : Cond.methodLink M.1.cls idx xR_fareOf ∈ lw_good) (hR : RO R (d + 1)) (hd : decode M.2.1 pc = .ok (.invokevirtual idx, 3)) (hq : pc + 3 = q) (hcat : (st.map fun v => v.category).sum ≤ 8) (hk : k < 6) (hG : g[15 + k]? = some (.inr (kci k, []))) (hc : kk ≤ R.cells) (hs : n ≤ R.slots) (h : Wp D N l E M R Qf kk n q L (.int (kFare k v) :: st) g) : Wp D N l E M R Qf kk n pc L (.int v :: .ref (N + (15 + k)) :: st) g := by
  rcases (show k = 0 ∨ k = 1 ∨ k = 2 ∨ k = 3 ∨ k = 4 ∨ k = 5 by omega) with rfl | rfl | rfl | rfl | rfl | rfl
  · exact wp_cu1 (lu_fareOf_Rn.to hl) hR hd hq hcat hG rfl hc hs (ok_Rn_fareOf h)
  · exact wp_cu1 (lu_fareOf_Sh.to hl) hR hd hq hcat hG rfl hc hs (ok_Sh_fareOf h)
  · exact wp_cu1 (lu_fareOf_Em.to hl) hR hd hq hcat hG rfl hc hs (ok_Em_fareOf h)
  · exact wp_cu1 (lu_fareOf_Ea.to hl) hR hd hq hcat hG rfl hc hs (ok_Rn_fareOf h)
  · exact wp_cu1 (lu_fareOf_Ex.to hl) hR hd hq hcat hG rfl hc hs (ok_Ex_fareOf h)
  · exact wp_cu1 (lu_fareOf_Hi.to hl) hR hd hq hcat hG rfl hc hs (ok_Hi_fareOf h)
end WV
section WV
variable {D : xD} {N : Nat} {l : Launch} {E : EX} {M : MD} {R : Room} {Qf : QF} {kk n pc : Nat} {L : List (Nat × Value)} {st : List Value} {g : List va_E}
set_option maxHeartbeats 1000000 in
theorem wp_v_minutesOf {q d idx k : Nat} {v : Int32} (hl : Cond.methodLink M.1.cls idx xR_minutesOf ∈ lw_good) (hR : RO R (d + 1)) (hd : decode M.2.1 pc = .ok (.invokevirtual idx, 3)) (hq : pc + 3 = q) (hcat : (st.map fun v => v.category).sum ≤ 8) (hk : k < 6) (hG : g[15 + k]? = some (.inr (kci k, []))) (hc : kk ≤ R.cells) (hs : n ≤ R.slots) (h : Wp D N l E M R Qf kk n q L (.int (kMin k v) :: st) g) : Wp D N l E M R Qf kk n pc L (.int v :: .ref (N + (15 + k)) :: st) g := by
  rcases (show k = 0 ∨ k = 1 ∨ k = 2 ∨ k = 3 ∨ k = 4 ∨ k = 5 by omega) with rfl | rfl | rfl | rfl | rfl | rfl
  · exact wp_cu1 (lu_minutesOf_Rn.to hl) hR hd hq hcat hG rfl hc hs (ok_Rn_minutesOf h)
  · exact wp_cu1 (lu_minutesOf_Sh.to hl) hR hd hq hcat hG rfl hc hs (ok_Sh_minutesOf h)
  · exact wp_cu1 (lu_minutesOf_Em.to hl) hR hd hq hcat hG rfl hc hs (ok_Rn_minutesOf h)
  · exact wp_cu1 (lu_minutesOf_Ea.to hl) hR hd hq hcat hG rfl hc hs (ok_Rn_minutesOf h)
  · exact wp_cu1 (lu_minutesOf_Ex.to hl) hR hd hq hcat hG rfl hc hs (ok_Rn_minutesOf h)
  · exact wp_cu1 (lu_minutesOf_Hi.to hl) hR hd hq hcat hG rfl hc hs (ok_Hi_minutesOf h)
end WV
section WV
variable {D : xD} {N : Nat} {l : Launch} {E : EX} {M : MD} {R : Room} {Qf : QF} {kk n pc : Nat} {L : List (Nat × Value)} {st : List Value} {g : List va_E}
set_option maxHeartbeats 1000000 in
theorem wp_v_fuelOf {q d idx k : Nat} {v : Int32} (hl : Cond.methodLink M.1.cls idx xR_fuelOf ∈ lw_good) (hR : RO R (d + 1)) (hd : decode M.2.1 pc = .ok (.invokevirtual idx, 3)) (hq : pc + 3 = q) (hcat : (st.map fun v => v.category).sum ≤ 8) (hk : k < 6) (hG : g[15 + k]? = some (.inr (kci k, []))) (hc : kk ≤ R.cells) (hs : n ≤ R.slots) (h : Wp D N l E M R Qf kk n q L (.int (kFuel k v) :: st) g) : Wp D N l E M R Qf kk n pc L (.int v :: .ref (N + (15 + k)) :: st) g := by
  rcases (show k = 0 ∨ k = 1 ∨ k = 2 ∨ k = 3 ∨ k = 4 ∨ k = 5 by omega) with rfl | rfl | rfl | rfl | rfl | rfl
  · exact wp_cu1 (lu_fuelOf_Rn.to hl) hR hd hq hcat hG rfl hc hs (ok_Rn_fuelOf h)
  · exact wp_cu1 (lu_fuelOf_Sh.to hl) hR hd hq hcat hG rfl hc hs (ok_Rn_fuelOf h)
  · exact wp_cu1 (lu_fuelOf_Em.to hl) hR hd hq hcat hG rfl hc hs (ok_Rn_fuelOf h)
  · exact wp_cu1 (lu_fuelOf_Ea.to hl) hR hd hq hcat hG rfl hc hs (ok_Rn_fuelOf h)
  · exact wp_cu1 (lu_fuelOf_Ex.to hl) hR hd hq hcat hG rfl hc hs (ok_Ex_fuelOf h)
  · exact wp_cu1 (lu_fuelOf_Hi.to hl) hR hd hq hcat hG rfl hc hs (ok_Rn_fuelOf h)
end WV
section WV
variable {D : xD} {N : Nat} {l : Launch} {E : EX} {M : MD} {R : Room} {Qf : QF} {kk n pc : Nat} {L : List (Nat × Value)} {st : List Value} {g : List va_E}
set_option maxHeartbeats 1000000 in
theorem wp_v_carries {q d idx k : Nat} (hl : Cond.methodLink M.1.cls idx xR_carries ∈ lw_good) (hR : RO R (d + 1)) (hd : decode M.2.1 pc = .ok (.invokevirtual idx, 3)) (hq : pc + 3 = q) (hcat : (st.map fun v => v.category).sum ≤ 8) (hk : k < 6) (hG : g[15 + k]? = some (.inr (kci k, []))) (hc : kk ≤ R.cells) (hs : n ≤ R.slots) (h : Wp D N l E M R Qf kk n q L (.int (kCar k) :: st) g) : Wp D N l E M R Qf kk n pc L (.ref (N + (15 + k)) :: st) g := by
  rcases (show k = 0 ∨ k = 1 ∨ k = 2 ∨ k = 3 ∨ k = 4 ∨ k = 5 by omega) with rfl | rfl | rfl | rfl | rfl | rfl
  · exact wp_cu0 (lu_carries_Rn.to hl) hR hd hq hcat hG rfl hc hs (ok_Rn_carries h)
  · exact wp_cu0 (lu_carries_Sh.to hl) hR hd hq hcat hG rfl hc hs (ok_Rn_carries h)
  · exact wp_cu0 (lu_carries_Em.to hl) hR hd hq hcat hG rfl hc hs (ok_Em_carries h)
  · exact wp_cu0 (lu_carries_Ea.to hl) hR hd hq hcat hG rfl hc hs (ok_Rn_carries h)
  · exact wp_cu0 (lu_carries_Ex.to hl) hR hd hq hcat hG rfl hc hs (ok_Rn_carries h)
  · exact wp_cu0 (lu_carries_Hi.to hl) hR hd hq hcat hG rfl hc hs (ok_Em_carries h)
end WV
section WV
variable {D : xD} {N : Nat} {l : Launch} {E : EX} {M : MD} {R : Room} {Qf : QF} {kk n pc : Nat} {L : List (Nat × Value)} {st : List Value} {g : List va_E}
set_option maxHeartbeats 1000000 in
theorem wp_v_turnsBack {q d idx k : Nat} (hl : Cond.methodLink M.1.cls idx xR_turnsBack ∈ lw_good) (hR : RO R (d + 1)) (hd : decode M.2.1 pc = .ok (.invokevirtual idx, 3)) (hq : pc + 3 = q) (hcat : (st.map fun v => v.category).sum ≤ 8) (hk : k < 6) (hG : g[15 + k]? = some (.inr (kci k, []))) (hc : kk ≤ R.cells) (hs : n ≤ R.slots) (h : Wp D N l E M R Qf kk n q L (.int (kTurn k) :: st) g) : Wp D N l E M R Qf kk n pc L (.ref (N + (15 + k)) :: st) g := by
  rcases (show k = 0 ∨ k = 1 ∨ k = 2 ∨ k = 3 ∨ k = 4 ∨ k = 5 by omega) with rfl | rfl | rfl | rfl | rfl | rfl
  · exact wp_cu0 (lu_turnsBack_Rn.to hl) hR hd hq hcat hG rfl hc hs (ok_Rn_turnsBack h)
  · exact wp_cu0 (lu_turnsBack_Sh.to hl) hR hd hq hcat hG rfl hc hs (ok_Sh_turnsBack h)
  · exact wp_cu0 (lu_turnsBack_Em.to hl) hR hd hq hcat hG rfl hc hs (ok_Rn_turnsBack h)
  · exact wp_cu0 (lu_turnsBack_Ea.to hl) hR hd hq hcat hG rfl hc hs (ok_Rn_turnsBack h)
  · exact wp_cu0 (lu_turnsBack_Ex.to hl) hR hd hq hcat hG rfl hc hs (ok_Rn_turnsBack h)
  · exact wp_cu0 (lu_turnsBack_Hi.to hl) hR hd hq hcat hG rfl hc hs (ok_Rn_turnsBack h)
end WV
section WV
variable {D : xD} {N : Nat} {l : Launch} {E : EX} {M : MD} {R : Room} {Qf : QF} {kk n pc : Nat} {L : List (Nat × Value)} {st : List Value} {g : List va_E}
set_option maxHeartbeats 1000000 in
theorem wp_v_isOf {q d idx k : Nat} {v : Int32} (hl : Cond.methodLink M.1.cls idx xR_isOf ∈ lw_good) (hR : RO R (d + 3)) (hd : decode M.2.1 pc = .ok (.invokevirtual idx, 3)) (hq : pc + 3 = q) (hcat : (st.map fun v => v.category).sum ≤ 8) (hk : k < 6) (hG : g[15 + k]? = some (.inr (kci k, []))) (hc : kk ≤ R.cells) (hs : n ≤ R.slots) (h : Wp D N l E M R Qf kk n q L (.int (kIs k v) :: st) g) : Wp D N l E M R Qf kk n pc L (.int v :: .ref (N + (15 + k)) :: st) g := by
  rcases (show k = 0 ∨ k = 1 ∨ k = 2 ∨ k = 3 ∨ k = 4 ∨ k = 5 by omega) with rfl | rfl | rfl | rfl | rfl | rfl
  · exact wp_cu1 (lu_isOf_Rn.to hl) hR hd hq hcat hG rfl hc hs (ok_Rn_isOf (by rw [kisE_0]; exact h))
  · exact wp_cu1 (lu_isOf_Sh.to hl) hR hd hq hcat hG rfl hc hs (ok_Sh_isOf hG (by rw [kisE_1]; exact h))
  · exact wp_cu1 (lu_isOf_Em.to hl) hR hd hq hcat hG rfl hc hs (ok_Em_isOf hG (by rw [kisE_2]; exact h))
  · exact wp_cu1 (lu_isOf_Ea.to hl) hR hd hq hcat hG rfl hc hs (ok_Ea_isOf hG (by rw [kisE_3]; exact h))
  · exact wp_cu1 (lu_isOf_Ex.to hl) hR hd hq hcat hG rfl hc hs (ok_Ex_isOf hG (by rw [kisE_4]; exact h))
  · exact wp_cu1 (lu_isOf_Hi.to hl) hR hd hq hcat hG rfl hc hs (ok_Hi_isOf hG (by rw [kisE_5]; exact h))
end WV
theorem d_Rn_takings_0 : decode M_Rn_takings.2.1 0 = .ok (.aload_n 0, 1) := by decide +kernel
theorem d_Rn_takings_1 : decode M_Rn_takings.2.1 1 = .ok (.iload_n 1, 1) := by decide +kernel
theorem d_Rn_takings_2 : decode M_Rn_takings.2.1 2 = .ok (.invokevirtual 18, 3) := by decide +kernel
theorem d_Rn_takings_5 : decode M_Rn_takings.2.1 5 = .ok (.iload_n 2, 1) := by decide +kernel
theorem d_Rn_takings_6 : decode M_Rn_takings.2.1 6 = .ok (.imul, 1) := by decide +kernel
theorem d_Rn_takings_7 : decode M_Rn_takings.2.1 7 = .ok (.ireturn, 1) := by decide +kernel
theorem d_Hi_takings_0 : decode M_Hi_takings.2.1 0 = .ok (.aload_n 0, 1) := by decide +kernel
theorem d_Hi_takings_1 : decode M_Hi_takings.2.1 1 = .ok (.iload_n 1, 1) := by decide +kernel
theorem d_Hi_takings_2 : decode M_Hi_takings.2.1 2 = .ok (.invokevirtual 9, 3) := by decide +kernel
theorem d_Hi_takings_5 : decode M_Hi_takings.2.1 5 = .ok (.ireturn, 1) := by decide +kernel
set_option maxHeartbeats 4000000 in
set_option maxRecDepth 100000 in
theorem ok_Rn_takings_0 {D : xD} {N : Nat} {l : Launch} {d : Nat} {g : List va_E} {K : Option Value → List va_E → Prop} {v s2 : Int32} (hr : g[15 + 0]? = some (.inr (kci 0, []))) (hK : K (some (.int (kTake 0 v s2))) g) : Ok D N l (d + 2) M_Rn_takings [.ref (N + (15 + 0)), .int v, .int s2] g 0 0 K := by
  refine ok_of (L := [(0, _), (1, _), (2, _)]) (by decide) (Nat.le_of_ble_eq_true rfl) rfl ?_
  refine wp_aload_n d_Rn_takings_0 rfl rfl ?_
  refine wp_iload_n d_Rn_takings_1 rfl rfl ?_
  refine wp_v_fareOf (k := 0) lm_Rn_18 (ro _ _ _) d_Rn_takings_2 rfl (Nat.le_of_ble_eq_true rfl) (by decide) hr (Nat.zero_le _) (Nat.zero_le _) ?_
  refine wp_iload_n d_Rn_takings_5 rfl rfl ?_
  refine wp_imul d_Rn_takings_6 rfl ?_
  refine wp_iret d_Rn_takings_7 rfl (Nat.le_refl _) (Nat.le_refl _) ?_
  exact hK
set_option maxHeartbeats 4000000 in
set_option maxRecDepth 100000 in
theorem ok_Rn_takings_1 {D : xD} {N : Nat} {l : Launch} {d : Nat} {g : List va_E} {K : Option Value → List va_E → Prop} {v s2 : Int32} (hr : g[15 + 1]? = some (.inr (kci 1, []))) (hK : K (some (.int (kTake 1 v s2))) g) : Ok D N l (d + 2) M_Rn_takings [.ref (N + (15 + 1)), .int v, .int s2] g 0 0 K := by
  refine ok_of (L := [(0, _), (1, _), (2, _)]) (by decide) (Nat.le_of_ble_eq_true rfl) rfl ?_
  refine wp_aload_n d_Rn_takings_0 rfl rfl ?_
  refine wp_iload_n d_Rn_takings_1 rfl rfl ?_
  refine wp_v_fareOf (k := 1) lm_Rn_18 (ro _ _ _) d_Rn_takings_2 rfl (Nat.le_of_ble_eq_true rfl) (by decide) hr (Nat.zero_le _) (Nat.zero_le _) ?_
  refine wp_iload_n d_Rn_takings_5 rfl rfl ?_
  refine wp_imul d_Rn_takings_6 rfl ?_
  refine wp_iret d_Rn_takings_7 rfl (Nat.le_refl _) (Nat.le_refl _) ?_
  exact hK
set_option maxHeartbeats 4000000 in
set_option maxRecDepth 100000 in
theorem ok_Rn_takings_2 {D : xD} {N : Nat} {l : Launch} {d : Nat} {g : List va_E} {K : Option Value → List va_E → Prop} {v s2 : Int32} (hr : g[15 + 2]? = some (.inr (kci 2, []))) (hK : K (some (.int (kTake 2 v s2))) g) : Ok D N l (d + 2) M_Rn_takings [.ref (N + (15 + 2)), .int v, .int s2] g 0 0 K := by
  refine ok_of (L := [(0, _), (1, _), (2, _)]) (by decide) (Nat.le_of_ble_eq_true rfl) rfl ?_
  refine wp_aload_n d_Rn_takings_0 rfl rfl ?_
  refine wp_iload_n d_Rn_takings_1 rfl rfl ?_
  refine wp_v_fareOf (k := 2) lm_Rn_18 (ro _ _ _) d_Rn_takings_2 rfl (Nat.le_of_ble_eq_true rfl) (by decide) hr (Nat.zero_le _) (Nat.zero_le _) ?_
  refine wp_iload_n d_Rn_takings_5 rfl rfl ?_
  refine wp_imul d_Rn_takings_6 rfl ?_
  refine wp_iret d_Rn_takings_7 rfl (Nat.le_refl _) (Nat.le_refl _) ?_
  exact hK
set_option maxHeartbeats 4000000 in
set_option maxRecDepth 100000 in
theorem ok_Rn_takings_3 {D : xD} {N : Nat} {l : Launch} {d : Nat} {g : List va_E} {K : Option Value → List va_E → Prop} {v s2 : Int32} (hr : g[15 + 3]? = some (.inr (kci 3, []))) (hK : K (some (.int (kTake 3 v s2))) g) : Ok D N l (d + 2) M_Rn_takings [.ref (N + (15 + 3)), .int v, .int s2] g 0 0 K := by
  refine ok_of (L := [(0, _), (1, _), (2, _)]) (by decide) (Nat.le_of_ble_eq_true rfl) rfl ?_
  refine wp_aload_n d_Rn_takings_0 rfl rfl ?_
  refine wp_iload_n d_Rn_takings_1 rfl rfl ?_
  refine wp_v_fareOf (k := 3) lm_Rn_18 (ro _ _ _) d_Rn_takings_2 rfl (Nat.le_of_ble_eq_true rfl) (by decide) hr (Nat.zero_le _) (Nat.zero_le _) ?_
  refine wp_iload_n d_Rn_takings_5 rfl rfl ?_
  refine wp_imul d_Rn_takings_6 rfl ?_
  refine wp_iret d_Rn_takings_7 rfl (Nat.le_refl _) (Nat.le_refl _) ?_
  exact hK
set_option maxHeartbeats 4000000 in
set_option maxRecDepth 100000 in
theorem ok_Rn_takings_4 {D : xD} {N : Nat} {l : Launch} {d : Nat} {g : List va_E} {K : Option Value → List va_E → Prop} {v s2 : Int32} (hr : g[15 + 4]? = some (.inr (kci 4, []))) (hK : K (some (.int (kTake 4 v s2))) g) : Ok D N l (d + 2) M_Rn_takings [.ref (N + (15 + 4)), .int v, .int s2] g 0 0 K := by
  refine ok_of (L := [(0, _), (1, _), (2, _)]) (by decide) (Nat.le_of_ble_eq_true rfl) rfl ?_
  refine wp_aload_n d_Rn_takings_0 rfl rfl ?_
  refine wp_iload_n d_Rn_takings_1 rfl rfl ?_
  refine wp_v_fareOf (k := 4) lm_Rn_18 (ro _ _ _) d_Rn_takings_2 rfl (Nat.le_of_ble_eq_true rfl) (by decide) hr (Nat.zero_le _) (Nat.zero_le _) ?_
  refine wp_iload_n d_Rn_takings_5 rfl rfl ?_
  refine wp_imul d_Rn_takings_6 rfl ?_
  refine wp_iret d_Rn_takings_7 rfl (Nat.le_refl _) (Nat.le_refl _) ?_
  exact hK
set_option maxHeartbeats 4000000 in
set_option maxRecDepth 100000 in
theorem ok_Hi_takings_5 {D : xD} {N : Nat} {l : Launch} {d : Nat} {g : List va_E} {K : Option Value → List va_E → Prop} {v s2 : Int32} (hr : g[15 + 5]? = some (.inr (kci 5, []))) (hK : K (some (.int (kTake 5 v s2))) g) : Ok D N l (d + 1) M_Hi_takings [.ref (N + (15 + 5)), .int v, .int s2] g 0 0 K := by
  refine ok_of (L := [(0, _), (1, _), (2, _)]) (by decide) (Nat.le_of_ble_eq_true rfl) rfl ?_
  refine wp_aload_n d_Hi_takings_0 rfl rfl ?_
  refine wp_iload_n d_Hi_takings_1 rfl rfl ?_
  refine wp_cv1 lk_Hi_9 (ro _ _ _) d_Hi_takings_2 rfl (Nat.le_of_ble_eq_true rfl) (hr) rfl (Nat.zero_le _) (Nat.zero_le _) ?_
  refine ok_Hi_fareOf ?_
  refine wp_iret d_Hi_takings_5 rfl (Nat.le_refl _) (Nat.le_refl _) ?_
  exact hK
section WV
variable {D : xD} {N : Nat} {l : Launch} {E : EX} {M : MD} {R : Room} {Qf : QF} {kk n pc : Nat} {L : List (Nat × Value)} {st : List Value} {g : List va_E}
set_option maxHeartbeats 1000000 in
theorem wp_v_takings {q d idx k : Nat} {v s2 : Int32} (hl : Cond.methodLink M.1.cls idx xR_takings ∈ lw_good) (hR : RO R (d + 3)) (hd : decode M.2.1 pc = .ok (.invokevirtual idx, 3)) (hq : pc + 3 = q) (hcat : (st.map fun v => v.category).sum ≤ 8) (hk : k < 6) (hG : g[15 + k]? = some (.inr (kci k, []))) (hc : kk ≤ R.cells) (hs : n ≤ R.slots) (h : Wp D N l E M R Qf kk n q L (.int (kTake k v s2) :: st) g) : Wp D N l E M R Qf kk n pc L (.int s2 :: .int v :: .ref (N + (15 + k)) :: st) g := by
  rcases (show k = 0 ∨ k = 1 ∨ k = 2 ∨ k = 3 ∨ k = 4 ∨ k = 5 by omega) with rfl | rfl | rfl | rfl | rfl | rfl
  · exact wp_cu2 (lu_takings_Rn.to hl) hR hd hq hcat hG rfl hc hs (ok_Rn_takings_0 hG h)
  · exact wp_cu2 (lu_takings_Sh.to hl) hR hd hq hcat hG rfl hc hs (ok_Rn_takings_1 hG h)
  · exact wp_cu2 (lu_takings_Em.to hl) hR hd hq hcat hG rfl hc hs (ok_Rn_takings_2 hG h)
  · exact wp_cu2 (lu_takings_Ea.to hl) hR hd hq hcat hG rfl hc hs (ok_Rn_takings_3 hG h)
  · exact wp_cu2 (lu_takings_Ex.to hl) hR hd hq hcat hG rfl hc hs (ok_Rn_takings_4 hG h)
  · exact wp_cu2 (lu_takings_Hi.to hl) hR hd hq hcat hG rfl hc hs (ok_Hi_takings_5 hG h)
end WV
end
section
theorem nI_nm1 {j : Nat} (h : j < 1000) : ¬ nI j = -1 := fun e => by
  have := congrArg Int32.toInt e
  rw [nI_toInt (by omega)] at this
  have h2 : (-1 : Int32).toInt = -1 := by decide
  omega
def qc (P : Nat → Int32) (s : Nat) : Nat → Nat
  | 0 => 0
  | b + 1 => qc P s b + if P (72 + b) = nI 1 ∧ P (84 + b) = nI s then 1 else 0
def ff (P : Nat → Int32) (s : Nat) : Nat → Option Nat
  | 0 => none
  | b + 1 => if P (72 + b) = nI 1 ∧ P (84 + b) = nI s then (match ff P s b with
    | none => some b
    | some j => if P (96 + b) < P (96 + j) then some b else some j) else ff P s b
def lf (P : Nat → Int32) (s : Nat) : Nat → Option Nat
  | 0 => none
  | b + 1 => match lf P s b with
    | some j => some j
    | none => if P (72 + b) = nI 2 ∧ P (84 + b) = nI s then some b else none
def am (c : T2) (P : Nat → Int32) (s : Nat) : Nat → Option Nat
  | 0 => none
  | t + 1 => if 0 < c 2 (6 * s + t) then (match am c P s t with
    | none => some t
    | some j => if P (6 * s + j) < P (6 * s + t) then some t else some j) else am c P s t
theorem ff_lt {P : Nat → Int32} {s : Nat} : ∀ {n j : Nat}, ff P s n = some j → j < n ∧ P (72 + j) = nI 1 ∧ P (84 + j) = nI s
  | 0, j, h => by cases h
  | n + 1, j, h => by
    unfold ff at h
    by_cases c : P (72 + n) = nI 1 ∧ P (84 + n) = nI s
    · rw [if_pos c] at h
      cases e : ff P s n with
      | none => rw [e] at h; cases h; exact ⟨by omega, c⟩
      | some i =>
        rw [e] at h
        have hi := ff_lt e
        dsimp only at h
        by_cases c2 : P (96 + n) < P (96 + i)
        · rw [if_pos c2] at h; cases h; exact ⟨by omega, c⟩
        · rw [if_neg c2] at h; cases h; exact ⟨by omega, hi.2⟩
    · rw [if_neg c] at h
      have hi := ff_lt h
      exact ⟨by omega, hi.2⟩
theorem lf_lt {P : Nat → Int32} {s : Nat} : ∀ {n j : Nat}, lf P s n = some j → j < n ∧ P (72 + j) = nI 2 ∧ P (84 + j) = nI s
  | 0, j, h => by cases h
  | n + 1, j, h => by
    unfold lf at h
    cases e : lf P s n with
    | some i =>
      rw [e] at h
      cases h
      have hi := lf_lt e
      exact ⟨by omega, hi.2⟩
    | none =>
      rw [e] at h
      dsimp only at h
      by_cases c : P (72 + n) = nI 2 ∧ P (84 + n) = nI s
      · rw [if_pos c] at h; cases h; exact ⟨by omega, c⟩
      · rw [if_neg c] at h; cases h
theorem lf_stay {P : Nat → Int32} {s b j : Nat} (h : lf P s b = some j) : ∀ n, b ≤ n → lf P s n = some j := by
  intro n hn
  induction n with
  | zero => have : b = 0 := by omega
            subst this; exact h
  | succ n ih =>
    by_cases e : b = n + 1
    · subst e; exact h
    · unfold lf; rw [ih (by omega)]
theorem am_lt {c : T2} {P : Nat → Int32} {s : Nat} : ∀ {n j : Nat}, am c P s n = some j → j < n ∧ 0 < c 2 (6 * s + j)
  | 0, j, h => by cases h
  | n + 1, j, h => by
    unfold am at h
    by_cases cc : 0 < c 2 (6 * s + n)
    · rw [if_pos cc] at h
      cases e : am c P s n with
      | none => rw [e] at h; cases h; exact ⟨by omega, cc⟩
      | some i =>
        rw [e] at h
        have hi := am_lt e
        dsimp only at h
        by_cases c2 : P (6 * s + i) < P (6 * s + n)
        · rw [if_pos c2] at h; cases h; exact ⟨by omega, cc⟩
        · rw [if_neg c2] at h; cases h; exact ⟨by omega, hi.2⟩
    · rw [if_neg cc] at h
      have hi := am_lt h
      exact ⟨by omega, hi.2⟩
theorem at_rest {P : Nat → Int32} {b : Nat} (h : P (72 + b) = nI 0) : ¬ P (72 + b) = nI 1 ∧ ¬ P (72 + b) = nI 2 := by rw [h]; decide
theorem qc_12 {P : Nat → Int32} {s nb : Nat} (hz : ∀ b, nb ≤ b → b < 12 → P (72 + b) = nI 0) : ∀ n, nb ≤ n → n ≤ 12 → qc P s n = qc P s nb := by
  intro n h1 h2
  induction n with
  | zero => rw [show nb = 0 by omega]
  | succ n ih =>
    by_cases e : nb = n + 1
    · rw [e]
    · unfold qc
      rw [ih (by omega) (by omega), if_neg (fun z => (at_rest (hz n (by omega) (by omega))).1 z.1)]
      cases nb <;> rfl
theorem ff_12 {P : Nat → Int32} {s nb : Nat} (hz : ∀ b, nb ≤ b → b < 12 → P (72 + b) = nI 0) : ∀ n, nb ≤ n → n ≤ 12 → ff P s n = ff P s nb := by
  intro n h1 h2
  induction n with
  | zero => rw [show nb = 0 by omega]
  | succ n ih =>
    by_cases e : nb = n + 1
    · rw [e]
    · rw [ff, if_neg (fun z => (at_rest (hz n (by omega) (by omega))).1 z.1)]
      exact ih (by omega) (by omega)
theorem lf_12 {P : Nat → Int32} {s nb : Nat} (hz : ∀ b, nb ≤ b → b < 12 → P (72 + b) = nI 0) : ∀ n, nb ≤ n → n ≤ 12 → lf P s n = lf P s nb := by
  intro n h1 h2
  induction n with
  | zero => rw [show nb = 0 by omega]
  | succ n ih =>
    by_cases e : nb = n + 1
    · rw [e]
    · rw [lf, ih (by omega) (by omega), if_neg (fun z => (at_rest (hz n (by omega) (by omega))).2 z.1)]
      cases lf P s nb <;> rfl
theorem d_Rd_isIn_0 : decode M_Rd_isIn.2.1 0 = .ok (.aload_n 0, 1) := by decide +kernel
theorem d_Rd_isIn_1 : decode M_Rd_isIn.2.1 1 = .ok (.getfield 7, 3) := by decide +kernel
theorem d_Rd_isIn_4 : decode M_Rd_isIn.2.1 4 = .ok (.iload_n 1, 1) := by decide +kernel
theorem d_Rd_isIn_5 : decode M_Rd_isIn.2.1 5 = .ok (.if_icmp .ne 15, 3) := by decide +kernel
theorem d_Rd_isIn_8 : decode M_Rd_isIn.2.1 8 = .ok (.aload_n 0, 1) := by decide +kernel
theorem d_Rd_isIn_9 : decode M_Rd_isIn.2.1 9 = .ok (.getfield 13, 3) := by decide +kernel
theorem d_Rd_isIn_12 : decode M_Rd_isIn.2.1 12 = .ok (.iload_n 2, 1) := by decide +kernel
theorem d_Rd_isIn_13 : decode M_Rd_isIn.2.1 13 = .ok (.if_icmp .ne 7, 3) := by decide +kernel
theorem d_Rd_isIn_16 : decode M_Rd_isIn.2.1 16 = .ok (.iconst 1, 1) := by decide +kernel
theorem d_Rd_isIn_17 : decode M_Rd_isIn.2.1 17 = .ok (.goto 4, 3) := by decide +kernel
theorem d_Rd_isIn_20 : decode M_Rd_isIn.2.1 20 = .ok (.iconst 0, 1) := by decide +kernel
theorem d_Rd_isIn_21 : decode M_Rd_isIn.2.1 21 = .ok (.ireturn, 1) := by decide +kernel
set_option maxHeartbeats 4000000 in
set_option maxRecDepth 100000 in
theorem ok_Rd_isIn {D : xD} {N : Nat} {l : Launch} {d : Nat} {c x V : T2} {P : Nat → Int32} {w : Nat} {ln df : Nat → Option Nat} {rest : List va_E} {K : Option Value → List va_E → Prop} {b : Nat} {s t : Int32} (hw : w < 3) (hb : b < 12) (h1 : P (72 + b) = s ∧ P (84 + b) = t → K (some (.int (nI 1))) (encC D N c x (va_up V w P) ln df ++ rest)) (h0 : ¬ (P (72 + b) = s ∧ P (84 + b) = t) → K (some (.int (nI 0))) (encC D N c x (va_up V w P) ln df ++ rest)) : Ok D N l d M_Rd_isIn [.ref (N + (wA w + (5 + b))), .int s, .int t] (encC D N c x (va_up V w P) ln df ++ rest) 0 0 K := by
  refine ok_of (L := [(0, _), (1, _), (2, _)]) (by decide) (Nat.le_of_ble_eq_true rfl) rfl ?_
  refine wp_aload_n d_Rd_isIn_0 rfl rfl ?_
  refine wp_get fl_Rd_7 d_Rd_isIn_1 rfl (rdR (w := w) hw hb) rfl ?_
  refine wp_iload_n d_Rd_isIn_4 rfl rfl ?_
  refine wp_icmp_ne (tgt := 20) d_Rd_isIn_5 (by decide) rfl (fun hc_5 => ?_) (fun hc_5 => ?_)
  · refine wp_iconst d_Rd_isIn_20 rfl ic_0 ?_
    refine wp_zret d_Rd_isIn_21 rfl (rfl) (Nat.le_refl _) (Nat.le_refl _) ?_
    first | exact h1 ⟨hc_5, hc_13⟩ | exact h0 (fun z => hc_5 z.1) | exact h0 (fun z => hc_13 z.2)
  · refine wp_aload_n d_Rd_isIn_8 rfl rfl ?_
    refine wp_get fl_Rd_13 d_Rd_isIn_9 rfl (rdR (w := w) hw hb) rfl ?_
    refine wp_iload_n d_Rd_isIn_12 rfl rfl ?_
    refine wp_icmp_ne (tgt := 20) d_Rd_isIn_13 (by decide) rfl (fun hc_13 => ?_) (fun hc_13 => ?_)
    · refine wp_iconst d_Rd_isIn_20 rfl ic_0 ?_
      refine wp_zret d_Rd_isIn_21 rfl (rfl) (Nat.le_refl _) (Nat.le_refl _) ?_
      first | exact h1 ⟨hc_5, hc_13⟩ | exact h0 (fun z => hc_5 z.1) | exact h0 (fun z => hc_13 z.2)
    · refine wp_iconst d_Rd_isIn_16 rfl ic_1 ?_
      refine wp_goto (tgt := 21) d_Rd_isIn_17 (by decide) ?_
      refine wp_zret d_Rd_isIn_21 rfl (rfl) (Nat.le_refl _) (Nat.le_refl _) ?_
      first | exact h1 ⟨hc_5, hc_13⟩ | exact h0 (fun z => hc_5 z.1) | exact h0 (fun z => hc_13 z.2)
theorem d_Rf_queueAt_0 : decode M_Rf_queueAt.2.1 0 = .ok (.iconst 0, 1) := by decide +kernel
theorem d_Rf_queueAt_1 : decode M_Rf_queueAt.2.1 1 = .ok (.istore_n 2, 1) := by decide +kernel
theorem d_Rf_queueAt_2 : decode M_Rf_queueAt.2.1 2 = .ok (.iconst 0, 1) := by decide +kernel
theorem d_Rf_queueAt_3 : decode M_Rf_queueAt.2.1 3 = .ok (.istore_n 3, 1) := by decide +kernel
theorem d_Rf_queueAt_4 : decode M_Rf_queueAt.2.1 4 = .ok (.iload_n 3, 1) := by decide +kernel
theorem d_Rf_queueAt_5 : decode M_Rf_queueAt.2.1 5 = .ok (.aload_n 0, 1) := by decide +kernel
theorem d_Rf_queueAt_6 : decode M_Rf_queueAt.2.1 6 = .ok (.getfield 155, 3) := by decide +kernel
theorem d_Rf_queueAt_9 : decode M_Rf_queueAt.2.1 9 = .ok (.if_icmp .ge 43, 3) := by decide +kernel
theorem d_Rf_queueAt_12 : decode M_Rf_queueAt.2.1 12 = .ok (.iload_n 2, 1) := by decide +kernel
theorem d_Rf_queueAt_13 : decode M_Rf_queueAt.2.1 13 = .ok (.aload_n 0, 1) := by decide +kernel
theorem d_Rf_queueAt_14 : decode M_Rf_queueAt.2.1 14 = .ok (.getfield 7, 3) := by decide +kernel
theorem d_Rf_queueAt_17 : decode M_Rf_queueAt.2.1 17 = .ok (.bipush 72, 2) := by decide +kernel
theorem d_Rf_queueAt_19 : decode M_Rf_queueAt.2.1 19 = .ok (.iload_n 3, 1) := by decide +kernel
theorem d_Rf_queueAt_20 : decode M_Rf_queueAt.2.1 20 = .ok (.iadd, 1) := by decide +kernel
theorem d_Rf_queueAt_21 : decode M_Rf_queueAt.2.1 21 = .ok (.iaload, 1) := by decide +kernel
theorem d_Rf_queueAt_22 : decode M_Rf_queueAt.2.1 22 = .ok (.iconst 1, 1) := by decide +kernel
theorem d_Rf_queueAt_23 : decode M_Rf_queueAt.2.1 23 = .ok (.if_icmp .ne 20, 3) := by decide +kernel
theorem d_Rf_queueAt_26 : decode M_Rf_queueAt.2.1 26 = .ok (.aload_n 0, 1) := by decide +kernel
theorem d_Rf_queueAt_27 : decode M_Rf_queueAt.2.1 27 = .ok (.getfield 7, 3) := by decide +kernel
theorem d_Rf_queueAt_30 : decode M_Rf_queueAt.2.1 30 = .ok (.bipush 84, 2) := by decide +kernel
theorem d_Rf_queueAt_32 : decode M_Rf_queueAt.2.1 32 = .ok (.iload_n 3, 1) := by decide +kernel
theorem d_Rf_queueAt_33 : decode M_Rf_queueAt.2.1 33 = .ok (.iadd, 1) := by decide +kernel
theorem d_Rf_queueAt_34 : decode M_Rf_queueAt.2.1 34 = .ok (.iaload, 1) := by decide +kernel
theorem d_Rf_queueAt_35 : decode M_Rf_queueAt.2.1 35 = .ok (.iload_n 1, 1) := by decide +kernel
theorem d_Rf_queueAt_36 : decode M_Rf_queueAt.2.1 36 = .ok (.if_icmp .ne 7, 3) := by decide +kernel
theorem d_Rf_queueAt_39 : decode M_Rf_queueAt.2.1 39 = .ok (.iconst 1, 1) := by decide +kernel
theorem d_Rf_queueAt_40 : decode M_Rf_queueAt.2.1 40 = .ok (.goto 4, 3) := by decide +kernel
theorem d_Rf_queueAt_43 : decode M_Rf_queueAt.2.1 43 = .ok (.iconst 0, 1) := by decide +kernel
theorem d_Rf_queueAt_44 : decode M_Rf_queueAt.2.1 44 = .ok (.iadd, 1) := by decide +kernel
theorem d_Rf_queueAt_45 : decode M_Rf_queueAt.2.1 45 = .ok (.istore_n 2, 1) := by decide +kernel
theorem d_Rf_queueAt_46 : decode M_Rf_queueAt.2.1 46 = .ok (.iinc 3 1, 3) := by decide +kernel
theorem d_Rf_queueAt_49 : decode M_Rf_queueAt.2.1 49 = .ok (.goto (-45), 3) := by decide +kernel
theorem d_Rf_queueAt_52 : decode M_Rf_queueAt.2.1 52 = .ok (.iload_n 2, 1) := by decide +kernel
theorem d_Rf_queueAt_53 : decode M_Rf_queueAt.2.1 53 = .ok (.ireturn, 1) := by decide +kernel
set_option maxHeartbeats 4000000 in
set_option maxRecDepth 100000 in
theorem ok_Rf_queueAt {D : xD} {N : Nat} {l : Launch} {d : Nat} {c z : T2} {P Q : Nat → Int32} {rest : List va_E} {K : Option Value → List va_E → Prop} {nb : Nat} (hnb : c 32 1 = nI nb) (h12 : nb ≤ 12) {s : Nat} (hs : s < 6) (hK : K (some (.int (nI (qc P s nb)))) (encR D N c z P Q ++ rest)) : Ok D N l d M_Rf_queueAt [.ref (N + 0), .int (nI s)] (encR D N c z P Q ++ rest) 0 0 K := by
  have lp : ∀ b : Nat, b ≤ nb → Wp D N l (EI M_Rf_queueAt) M_Rf_queueAt (Rm d 0 0) (Qm D N K 0 0) 0 0 4 [(3, .int (nI b)), (2, .int (nI (qc P s b))), (0, .ref (N + 0)), (1, .int (nI s))] [] (encR D N c z P Q ++ rest) := by
    refine up_loop ?_ ?_
    · skip
      refine wp_iload_n d_Rf_queueAt_4 rfl rfl ?_
      refine wp_aload_n d_Rf_queueAt_5 rfl rfl ?_
      refine wp_get fl_Rf_155 d_Rf_queueAt_6 rfl rfl rfl ?_
      refine wp_icmp_ge_t (tgt := 52) d_Rf_queueAt_9 (by decide) (by rw [hnb]; exact nI_le (Nat.le_refl _) (by omega)) ?_
      refine wp_iload_n d_Rf_queueAt_52 rfl rfl ?_
      refine wp_iret d_Rf_queueAt_53 rfl (Nat.le_refl _) (Nat.le_refl _) ?_
      exact hK
    · intro b hb ih
      refine wp_iload_n d_Rf_queueAt_4 rfl rfl ?_
      refine wp_aload_n d_Rf_queueAt_5 rfl rfl ?_
      refine wp_get fl_Rf_155 d_Rf_queueAt_6 rfl rfl rfl ?_
      refine wp_icmp_ge_f (tgt := 52) d_Rf_queueAt_9 (by decide) rfl (by rw [hnb]; exact nI_ge hb (by omega)) ?_
      refine wp_iload_n d_Rf_queueAt_12 rfl rfl ?_
      refine wp_aload_n d_Rf_queueAt_13 rfl rfl ?_
      refine wp_get fl_Rf_7 d_Rf_queueAt_14 rfl rfl rfl ?_
      refine wp_bipush d_Rf_queueAt_17 rfl bp_72 ?_
      refine wp_iload_n d_Rf_queueAt_19 rfl rfl ?_
      first | refine wp_iaddN d_Rf_queueAt_20 rfl ?_ | refine wp_iadd d_Rf_queueAt_20 rfl ?_
      refine wp_iald d_Rf_queueAt_21 rfl (rfl) (by omega) (by decide) ?_
      refine wp_iconst d_Rf_queueAt_22 rfl ic_1 ?_
      refine wp_icmp_ne (tgt := 43) d_Rf_queueAt_23 (by decide) rfl (fun hc_23 => ?_) (fun hc_23 => ?_)
      · refine wp_iconst d_Rf_queueAt_43 rfl ic_0 ?_
        first | refine wp_iaddN d_Rf_queueAt_44 rfl ?_ | refine wp_iadd d_Rf_queueAt_44 rfl ?_
        refine wp_istore_n (L2 := [(2, _), (3, _), (0, _), (1, _)]) d_Rf_queueAt_45 rfl (by decide) rfl ?_
        refine wp_iinc (L2 := [(3, _), (2, _), (0, _), (1, _)]) d_Rf_queueAt_46 rfl rfl (iinc_1) (by decide) rfl ?_
        refine wp_goto (tgt := 4) d_Rf_queueAt_49 (by decide) ?_
        first | (rw [qc, if_pos ⟨hc_23, hc_36⟩] at ih; exact ih) | (rw [qc, if_neg (fun z => hc_23 z.1)] at ih; exact ih) | (rw [qc, if_neg (fun z => hc_36 z.2)] at ih; exact ih)
      · refine wp_aload_n d_Rf_queueAt_26 rfl rfl ?_
        refine wp_get fl_Rf_7 d_Rf_queueAt_27 rfl rfl rfl ?_
        refine wp_bipush d_Rf_queueAt_30 rfl bp_84 ?_
        refine wp_iload_n d_Rf_queueAt_32 rfl rfl ?_
        first | refine wp_iaddN d_Rf_queueAt_33 rfl ?_ | refine wp_iadd d_Rf_queueAt_33 rfl ?_
        refine wp_iald d_Rf_queueAt_34 rfl (rfl) (by omega) (by decide) ?_
        refine wp_iload_n d_Rf_queueAt_35 rfl rfl ?_
        refine wp_icmp_ne (tgt := 43) d_Rf_queueAt_36 (by decide) rfl (fun hc_36 => ?_) (fun hc_36 => ?_)
        · refine wp_iconst d_Rf_queueAt_43 rfl ic_0 ?_
          first | refine wp_iaddN d_Rf_queueAt_44 rfl ?_ | refine wp_iadd d_Rf_queueAt_44 rfl ?_
          refine wp_istore_n (L2 := [(2, _), (3, _), (0, _), (1, _)]) d_Rf_queueAt_45 rfl (by decide) rfl ?_
          refine wp_iinc (L2 := [(3, _), (2, _), (0, _), (1, _)]) d_Rf_queueAt_46 rfl rfl (iinc_1) (by decide) rfl ?_
          refine wp_goto (tgt := 4) d_Rf_queueAt_49 (by decide) ?_
          first | (rw [qc, if_pos ⟨hc_23, hc_36⟩] at ih; exact ih) | (rw [qc, if_neg (fun z => hc_23 z.1)] at ih; exact ih) | (rw [qc, if_neg (fun z => hc_36 z.2)] at ih; exact ih)
        · refine wp_iconst d_Rf_queueAt_39 rfl ic_1 ?_
          refine wp_goto (tgt := 44) d_Rf_queueAt_40 (by decide) ?_
          first | refine wp_iaddN d_Rf_queueAt_44 rfl ?_ | refine wp_iadd d_Rf_queueAt_44 rfl ?_
          refine wp_istore_n (L2 := [(2, _), (3, _), (0, _), (1, _)]) d_Rf_queueAt_45 rfl (by decide) rfl ?_
          refine wp_iinc (L2 := [(3, _), (2, _), (0, _), (1, _)]) d_Rf_queueAt_46 rfl rfl (iinc_1) (by decide) rfl ?_
          refine wp_goto (tgt := 4) d_Rf_queueAt_49 (by decide) ?_
          first | (rw [qc, if_pos ⟨hc_23, hc_36⟩] at ih; exact ih) | (rw [qc, if_neg (fun z => hc_23 z.1)] at ih; exact ih) | (rw [qc, if_neg (fun z => hc_36 z.2)] at ih; exact ih)
  refine ok_of (L := [(0, _), (1, _)]) (by decide) (Nat.le_of_ble_eq_true rfl) rfl ?_
  refine wp_iconst d_Rf_queueAt_0 rfl ic_0 ?_
  refine wp_istore_n (L2 := [(2, _), (0, _), (1, _)]) d_Rf_queueAt_1 rfl (by decide) rfl ?_
  refine wp_iconst d_Rf_queueAt_2 rfl ic_0 ?_
  refine wp_istore_n (L2 := [(3, _), (2, _), (0, _), (1, _)]) d_Rf_queueAt_3 rfl (by decide) rfl ?_
  exact lp 0 (Nat.zero_le _)
theorem d_Wd_inLine_0 : decode M_Wd_inLine.2.1 0 = .ok (.iconst 0, 1) := by decide +kernel
theorem d_Wd_inLine_1 : decode M_Wd_inLine.2.1 1 = .ok (.istore_n 2, 1) := by decide +kernel
theorem d_Wd_inLine_2 : decode M_Wd_inLine.2.1 2 = .ok (.iconst 0, 1) := by decide +kernel
theorem d_Wd_inLine_3 : decode M_Wd_inLine.2.1 3 = .ok (.istore_n 3, 1) := by decide +kernel
theorem d_Wd_inLine_4 : decode M_Wd_inLine.2.1 4 = .ok (.iload_n 3, 1) := by decide +kernel
theorem d_Wd_inLine_5 : decode M_Wd_inLine.2.1 5 = .ok (.bipush 12, 2) := by decide +kernel
theorem d_Wd_inLine_7 : decode M_Wd_inLine.2.1 7 = .ok (.if_icmp .ge 26, 3) := by decide +kernel
theorem d_Wd_inLine_10 : decode M_Wd_inLine.2.1 10 = .ok (.aload_n 0, 1) := by decide +kernel
theorem d_Wd_inLine_11 : decode M_Wd_inLine.2.1 11 = .ok (.getfield 23, 3) := by decide +kernel
theorem d_Wd_inLine_14 : decode M_Wd_inLine.2.1 14 = .ok (.iload_n 3, 1) := by decide +kernel
theorem d_Wd_inLine_15 : decode M_Wd_inLine.2.1 15 = .ok (.aaload, 1) := by decide +kernel
theorem d_Wd_inLine_16 : decode M_Wd_inLine.2.1 16 = .ok (.iconst 1, 1) := by decide +kernel
theorem d_Wd_inLine_17 : decode M_Wd_inLine.2.1 17 = .ok (.iload_n 1, 1) := by decide +kernel
theorem d_Wd_inLine_18 : decode M_Wd_inLine.2.1 18 = .ok (.invokevirtual 72, 3) := by decide +kernel
theorem d_Wd_inLine_21 : decode M_Wd_inLine.2.1 21 = .ok (.ifCond .eq 6, 3) := by decide +kernel
theorem d_Wd_inLine_24 : decode M_Wd_inLine.2.1 24 = .ok (.iinc 2 1, 3) := by decide +kernel
theorem d_Wd_inLine_27 : decode M_Wd_inLine.2.1 27 = .ok (.iinc 3 1, 3) := by decide +kernel
theorem d_Wd_inLine_30 : decode M_Wd_inLine.2.1 30 = .ok (.goto (-26), 3) := by decide +kernel
theorem d_Wd_inLine_33 : decode M_Wd_inLine.2.1 33 = .ok (.iload_n 2, 1) := by decide +kernel
theorem d_Wd_inLine_34 : decode M_Wd_inLine.2.1 34 = .ok (.ireturn, 1) := by decide +kernel
set_option maxHeartbeats 4000000 in
set_option maxRecDepth 100000 in
theorem ok_Wd_inLine {D : xD} {N : Nat} {l : Launch} {d : Nat} {c x V : T2} {P : Nat → Int32} {w : Nat} {ln df : Nat → Option Nat} {rest : List va_E} {K : Option Value → List va_E → Prop} (hw : w < 3) {s : Nat} (hs : s < 6) (hK : K (some (.int (nI (qc P s 12)))) (encC D N c x (va_up V w P) ln df ++ rest)) : Ok D N l (d + 1) M_Wd_inLine [.ref (N + wA w), .int (nI s)] (encC D N c x (va_up V w P) ln df ++ rest) 0 0 K := by
  have lp : ∀ b : Nat, b ≤ 12 → Wp D N l (EI M_Wd_inLine) M_Wd_inLine (Rm (d + 1) 0 0) (Qm D N K 0 0) 0 0 4 [(3, .int (nI b)), (2, .int (nI (qc P s b))), (0, .ref (N + wA w)), (1, .int (nI s))] [] (encC D N c x (va_up V w P) ln df ++ rest) := by
    refine up_loop ?_ ?_
    · skip
      refine wp_iload_n d_Wd_inLine_4 rfl rfl ?_
      refine wp_bipush d_Wd_inLine_5 rfl bp_12 ?_
      refine wp_icmp_ge_t (tgt := 33) d_Wd_inLine_7 (by decide) (nI_le (Nat.le_refl _) (by decide)) ?_
      refine wp_iload_n d_Wd_inLine_33 rfl rfl ?_
      refine wp_iret d_Wd_inLine_34 rfl (Nat.le_refl _) (Nat.le_refl _) ?_
      exact hK
    · intro b hb ih
      refine wp_iload_n d_Wd_inLine_4 rfl rfl ?_
      refine wp_bipush d_Wd_inLine_5 rfl bp_12 ?_
      refine wp_icmp_ge_f (tgt := 33) d_Wd_inLine_7 (by decide) rfl (nI_ge hb (by decide)) ?_
      refine wp_aload_n d_Wd_inLine_10 rfl rfl ?_
      refine wp_get fl_Wd_23 d_Wd_inLine_11 rfl (rdO (w := w) hw) rfl ?_
      refine wp_iload_n d_Wd_inLine_14 rfl rfl ?_
      refine wp_aldR d_Wd_inLine_15 rfl (rd4 (w := w) hw) (by omega) (by decide) (rowsW_at (by omega)) ?_
      refine wp_iconst d_Wd_inLine_16 rfl ic_1 ?_
      refine wp_iload_n d_Wd_inLine_17 rfl rfl ?_
      refine wp_cv2 lk_Wd_72 (ro _ _ _) d_Wd_inLine_18 rfl (Nat.le_of_ble_eq_true rfl) (rdR (w := w) hw (by omega)) rfl (Nat.zero_le _) (Nat.zero_le _) ?_
      refine ok_Rd_isIn (w := w) hw (by omega) (fun hi => ?_) (fun hi => ?_)
      · refine wp_if_eq_f (tgt := 27) d_Wd_inLine_21 (by decide) rfl (by decide) ?_
        refine wp_iinc (L2 := [(2, _), (3, _), (0, _), (1, _)]) d_Wd_inLine_24 rfl rfl (iinc_1) (by decide) rfl ?_
        refine wp_iinc (L2 := [(3, _), (2, _), (0, _), (1, _)]) d_Wd_inLine_27 rfl rfl (iinc_1) (by decide) rfl ?_
        refine wp_goto (tgt := 4) d_Wd_inLine_30 (by decide) ?_
        first | (rw [qc, if_pos hi] at ih; exact ih) | (rw [qc, if_neg hi] at ih; exact ih)
      · refine wp_if_eq_t (tgt := 27) d_Wd_inLine_21 (by decide) (by decide) ?_
        refine wp_iinc (L2 := [(3, _), (2, _), (0, _), (1, _)]) d_Wd_inLine_27 rfl rfl (iinc_1) (by decide) rfl ?_
        refine wp_goto (tgt := 4) d_Wd_inLine_30 (by decide) ?_
        first | (rw [qc, if_pos hi] at ih; exact ih) | (rw [qc, if_neg hi] at ih; exact ih)
  refine ok_of (L := [(0, _), (1, _)]) (by decide) (Nat.le_of_ble_eq_true rfl) rfl ?_
  refine wp_iconst d_Wd_inLine_0 rfl ic_0 ?_
  refine wp_istore_n (L2 := [(2, _), (0, _), (1, _)]) d_Wd_inLine_1 rfl (by decide) rfl ?_
  refine wp_iconst d_Wd_inLine_2 rfl ic_0 ?_
  refine wp_istore_n (L2 := [(3, _), (2, _), (0, _), (1, _)]) d_Wd_inLine_3 rfl (by decide) rfl ?_
  exact lp 0 (Nat.zero_le _)
theorem d_Rf_loadsAt_0 : decode M_Rf_loadsAt.2.1 0 = .ok (.iconst 0, 1) := by decide +kernel
theorem d_Rf_loadsAt_1 : decode M_Rf_loadsAt.2.1 1 = .ok (.istore_n 2, 1) := by decide +kernel
theorem d_Rf_loadsAt_2 : decode M_Rf_loadsAt.2.1 2 = .ok (.iload_n 2, 1) := by decide +kernel
theorem d_Rf_loadsAt_3 : decode M_Rf_loadsAt.2.1 3 = .ok (.aload_n 0, 1) := by decide +kernel
theorem d_Rf_loadsAt_4 : decode M_Rf_loadsAt.2.1 4 = .ok (.getfield 155, 3) := by decide +kernel
theorem d_Rf_loadsAt_7 : decode M_Rf_loadsAt.2.1 7 = .ok (.if_icmp .ge 37, 3) := by decide +kernel
theorem d_Rf_loadsAt_10 : decode M_Rf_loadsAt.2.1 10 = .ok (.aload_n 0, 1) := by decide +kernel
theorem d_Rf_loadsAt_11 : decode M_Rf_loadsAt.2.1 11 = .ok (.getfield 7, 3) := by decide +kernel
theorem d_Rf_loadsAt_14 : decode M_Rf_loadsAt.2.1 14 = .ok (.bipush 72, 2) := by decide +kernel
theorem d_Rf_loadsAt_16 : decode M_Rf_loadsAt.2.1 16 = .ok (.iload_n 2, 1) := by decide +kernel
theorem d_Rf_loadsAt_17 : decode M_Rf_loadsAt.2.1 17 = .ok (.iadd, 1) := by decide +kernel
theorem d_Rf_loadsAt_18 : decode M_Rf_loadsAt.2.1 18 = .ok (.iaload, 1) := by decide +kernel
theorem d_Rf_loadsAt_19 : decode M_Rf_loadsAt.2.1 19 = .ok (.iconst 2, 1) := by decide +kernel
theorem d_Rf_loadsAt_20 : decode M_Rf_loadsAt.2.1 20 = .ok (.if_icmp .ne 18, 3) := by decide +kernel
theorem d_Rf_loadsAt_23 : decode M_Rf_loadsAt.2.1 23 = .ok (.aload_n 0, 1) := by decide +kernel
theorem d_Rf_loadsAt_24 : decode M_Rf_loadsAt.2.1 24 = .ok (.getfield 7, 3) := by decide +kernel
theorem d_Rf_loadsAt_27 : decode M_Rf_loadsAt.2.1 27 = .ok (.bipush 84, 2) := by decide +kernel
theorem d_Rf_loadsAt_29 : decode M_Rf_loadsAt.2.1 29 = .ok (.iload_n 2, 1) := by decide +kernel
theorem d_Rf_loadsAt_30 : decode M_Rf_loadsAt.2.1 30 = .ok (.iadd, 1) := by decide +kernel
theorem d_Rf_loadsAt_31 : decode M_Rf_loadsAt.2.1 31 = .ok (.iaload, 1) := by decide +kernel
theorem d_Rf_loadsAt_32 : decode M_Rf_loadsAt.2.1 32 = .ok (.iload_n 1, 1) := by decide +kernel
theorem d_Rf_loadsAt_33 : decode M_Rf_loadsAt.2.1 33 = .ok (.if_icmp .ne 5, 3) := by decide +kernel
theorem d_Rf_loadsAt_36 : decode M_Rf_loadsAt.2.1 36 = .ok (.iload_n 2, 1) := by decide +kernel
theorem d_Rf_loadsAt_37 : decode M_Rf_loadsAt.2.1 37 = .ok (.ireturn, 1) := by decide +kernel
theorem d_Rf_loadsAt_38 : decode M_Rf_loadsAt.2.1 38 = .ok (.iinc 2 1, 3) := by decide +kernel
theorem d_Rf_loadsAt_41 : decode M_Rf_loadsAt.2.1 41 = .ok (.goto (-39), 3) := by decide +kernel
theorem d_Rf_loadsAt_44 : decode M_Rf_loadsAt.2.1 44 = .ok (.iconst (-1), 1) := by decide +kernel
theorem d_Rf_loadsAt_45 : decode M_Rf_loadsAt.2.1 45 = .ok (.ireturn, 1) := by decide +kernel
set_option maxHeartbeats 4000000 in
set_option maxRecDepth 100000 in
theorem ok_Rf_loadsAt {D : xD} {N : Nat} {l : Launch} {d : Nat} {c z : T2} {P Q : Nat → Int32} {rest : List va_E} {K : Option Value → List va_E → Prop} {nb : Nat} (hnb : c 32 1 = nI nb) (h12 : nb ≤ 12) {s : Nat} (hs : s < 6) (hK : K (some (.int (ov (lf P s nb)))) (encR D N c z P Q ++ rest)) : Ok D N l d M_Rf_loadsAt [.ref (N + 0), .int (nI s)] (encR D N c z P Q ++ rest) 0 0 K := by
  have lp : ∀ b : Nat, b ≤ nb → lf P s b = none → Wp D N l (EI M_Rf_loadsAt) M_Rf_loadsAt (Rm d 0 0) (Qm D N K 0 0) 0 0 2 [(2, .int (nI b)), (0, .ref (N + 0)), (1, .int (nI s))] [] (encR D N c z P Q ++ rest) := by
    refine up_loop ?_ ?_
    · intro hno; skip
      refine wp_iload_n d_Rf_loadsAt_2 rfl rfl ?_
      refine wp_aload_n d_Rf_loadsAt_3 rfl rfl ?_
      refine wp_get fl_Rf_155 d_Rf_loadsAt_4 rfl rfl rfl ?_
      refine wp_icmp_ge_t (tgt := 44) d_Rf_loadsAt_7 (by decide) (by rw [hnb]; exact nI_le (Nat.le_refl _) (by omega)) ?_
      refine wp_iconst d_Rf_loadsAt_44 rfl ic_m1 ?_
      refine wp_iret d_Rf_loadsAt_45 rfl (Nat.le_refl _) (Nat.le_refl _) ?_
      rw [hno] at hK; exact hK
    · intro b hb ih hno
      refine wp_iload_n d_Rf_loadsAt_2 rfl rfl ?_
      refine wp_aload_n d_Rf_loadsAt_3 rfl rfl ?_
      refine wp_get fl_Rf_155 d_Rf_loadsAt_4 rfl rfl rfl ?_
      refine wp_icmp_ge_f (tgt := 44) d_Rf_loadsAt_7 (by decide) rfl (by rw [hnb]; exact nI_ge hb (by omega)) ?_
      refine wp_aload_n d_Rf_loadsAt_10 rfl rfl ?_
      refine wp_get fl_Rf_7 d_Rf_loadsAt_11 rfl rfl rfl ?_
      refine wp_bipush d_Rf_loadsAt_14 rfl bp_72 ?_
      refine wp_iload_n d_Rf_loadsAt_16 rfl rfl ?_
      first | refine wp_iaddN d_Rf_loadsAt_17 rfl ?_ | refine wp_iadd d_Rf_loadsAt_17 rfl ?_
      refine wp_iald d_Rf_loadsAt_18 rfl (rfl) (by omega) (by decide) ?_
      refine wp_iconst d_Rf_loadsAt_19 rfl ic_2 ?_
      refine wp_icmp_ne (tgt := 38) d_Rf_loadsAt_20 (by decide) rfl (fun hc_20 => ?_) (fun hc_20 => ?_)
      · refine wp_iinc (L2 := [(2, _), (0, _), (1, _)]) d_Rf_loadsAt_38 rfl rfl (iinc_1) (by decide) rfl ?_
        refine wp_goto (tgt := 2) d_Rf_loadsAt_41 (by decide) ?_
        first | exact ih (by rw [lf, hno, if_neg (fun z => hc_20 z.1)]) | exact ih (by rw [lf, hno, if_neg (fun z => hc_33 z.2)])
      · refine wp_aload_n d_Rf_loadsAt_23 rfl rfl ?_
        refine wp_get fl_Rf_7 d_Rf_loadsAt_24 rfl rfl rfl ?_
        refine wp_bipush d_Rf_loadsAt_27 rfl bp_84 ?_
        refine wp_iload_n d_Rf_loadsAt_29 rfl rfl ?_
        first | refine wp_iaddN d_Rf_loadsAt_30 rfl ?_ | refine wp_iadd d_Rf_loadsAt_30 rfl ?_
        refine wp_iald d_Rf_loadsAt_31 rfl (rfl) (by omega) (by decide) ?_
        refine wp_iload_n d_Rf_loadsAt_32 rfl rfl ?_
        refine wp_icmp_ne (tgt := 38) d_Rf_loadsAt_33 (by decide) rfl (fun hc_33 => ?_) (fun hc_33 => ?_)
        · refine wp_iinc (L2 := [(2, _), (0, _), (1, _)]) d_Rf_loadsAt_38 rfl rfl (iinc_1) (by decide) rfl ?_
          refine wp_goto (tgt := 2) d_Rf_loadsAt_41 (by decide) ?_
          first | exact ih (by rw [lf, hno, if_neg (fun z => hc_20 z.1)]) | exact ih (by rw [lf, hno, if_neg (fun z => hc_33 z.2)])
        · refine wp_iload_n d_Rf_loadsAt_36 rfl rfl ?_
          refine wp_iret d_Rf_loadsAt_37 rfl (Nat.le_refl _) (Nat.le_refl _) ?_
          rw [lf_stay (b := b + 1) (j := b) (by rw [lf, hno, if_pos ⟨hc_20, hc_33⟩]) nb (by omega)] at hK; exact hK
  refine ok_of (L := [(0, _), (1, _)]) (by decide) (Nat.le_of_ble_eq_true rfl) rfl ?_
  refine wp_iconst d_Rf_loadsAt_0 rfl ic_0 ?_
  refine wp_istore_n (L2 := [(2, _), (0, _), (1, _)]) d_Rf_loadsAt_1 rfl (by decide) rfl ?_
  exact lp 0 (Nat.zero_le _) rfl
theorem d_Wd_loadingAt_0 : decode M_Wd_loadingAt.2.1 0 = .ok (.iconst 0, 1) := by decide +kernel
theorem d_Wd_loadingAt_1 : decode M_Wd_loadingAt.2.1 1 = .ok (.istore_n 2, 1) := by decide +kernel
theorem d_Wd_loadingAt_2 : decode M_Wd_loadingAt.2.1 2 = .ok (.iload_n 2, 1) := by decide +kernel
theorem d_Wd_loadingAt_3 : decode M_Wd_loadingAt.2.1 3 = .ok (.bipush 12, 2) := by decide +kernel
theorem d_Wd_loadingAt_5 : decode M_Wd_loadingAt.2.1 5 = .ok (.if_icmp .ge 25, 3) := by decide +kernel
theorem d_Wd_loadingAt_8 : decode M_Wd_loadingAt.2.1 8 = .ok (.aload_n 0, 1) := by decide +kernel
theorem d_Wd_loadingAt_9 : decode M_Wd_loadingAt.2.1 9 = .ok (.getfield 23, 3) := by decide +kernel
theorem d_Wd_loadingAt_12 : decode M_Wd_loadingAt.2.1 12 = .ok (.iload_n 2, 1) := by decide +kernel
theorem d_Wd_loadingAt_13 : decode M_Wd_loadingAt.2.1 13 = .ok (.aaload, 1) := by decide +kernel
theorem d_Wd_loadingAt_14 : decode M_Wd_loadingAt.2.1 14 = .ok (.iconst 2, 1) := by decide +kernel
theorem d_Wd_loadingAt_15 : decode M_Wd_loadingAt.2.1 15 = .ok (.iload_n 1, 1) := by decide +kernel
theorem d_Wd_loadingAt_16 : decode M_Wd_loadingAt.2.1 16 = .ok (.invokevirtual 72, 3) := by decide +kernel
theorem d_Wd_loadingAt_19 : decode M_Wd_loadingAt.2.1 19 = .ok (.ifCond .eq 5, 3) := by decide +kernel
theorem d_Wd_loadingAt_22 : decode M_Wd_loadingAt.2.1 22 = .ok (.iload_n 2, 1) := by decide +kernel
theorem d_Wd_loadingAt_23 : decode M_Wd_loadingAt.2.1 23 = .ok (.ireturn, 1) := by decide +kernel
theorem d_Wd_loadingAt_24 : decode M_Wd_loadingAt.2.1 24 = .ok (.iinc 2 1, 3) := by decide +kernel
theorem d_Wd_loadingAt_27 : decode M_Wd_loadingAt.2.1 27 = .ok (.goto (-25), 3) := by decide +kernel
theorem d_Wd_loadingAt_30 : decode M_Wd_loadingAt.2.1 30 = .ok (.iconst (-1), 1) := by decide +kernel
theorem d_Wd_loadingAt_31 : decode M_Wd_loadingAt.2.1 31 = .ok (.ireturn, 1) := by decide +kernel
set_option maxHeartbeats 4000000 in
set_option maxRecDepth 100000 in
theorem ok_Wd_loadingAt {D : xD} {N : Nat} {l : Launch} {d : Nat} {c x V : T2} {P : Nat → Int32} {w : Nat} {ln df : Nat → Option Nat} {rest : List va_E} {K : Option Value → List va_E → Prop} (hw : w < 3) {s : Nat} (hs : s < 6) (hK : K (some (.int (ov (lf P s 12)))) (encC D N c x (va_up V w P) ln df ++ rest)) : Ok D N l (d + 1) M_Wd_loadingAt [.ref (N + wA w), .int (nI s)] (encC D N c x (va_up V w P) ln df ++ rest) 0 0 K := by
  have lp : ∀ b : Nat, b ≤ 12 → lf P s b = none → Wp D N l (EI M_Wd_loadingAt) M_Wd_loadingAt (Rm (d + 1) 0 0) (Qm D N K 0 0) 0 0 2 [(2, .int (nI b)), (0, .ref (N + wA w)), (1, .int (nI s))] [] (encC D N c x (va_up V w P) ln df ++ rest) := by
    refine up_loop ?_ ?_
    · intro hno; skip
      refine wp_iload_n d_Wd_loadingAt_2 rfl rfl ?_
      refine wp_bipush d_Wd_loadingAt_3 rfl bp_12 ?_
      refine wp_icmp_ge_t (tgt := 30) d_Wd_loadingAt_5 (by decide) (nI_le (Nat.le_refl _) (by decide)) ?_
      refine wp_iconst d_Wd_loadingAt_30 rfl ic_m1 ?_
      refine wp_iret d_Wd_loadingAt_31 rfl (Nat.le_refl _) (Nat.le_refl _) ?_
      rw [hno] at hK; exact hK
    · intro b hb ih hno
      refine wp_iload_n d_Wd_loadingAt_2 rfl rfl ?_
      refine wp_bipush d_Wd_loadingAt_3 rfl bp_12 ?_
      refine wp_icmp_ge_f (tgt := 30) d_Wd_loadingAt_5 (by decide) rfl (nI_ge hb (by decide)) ?_
      refine wp_aload_n d_Wd_loadingAt_8 rfl rfl ?_
      refine wp_get fl_Wd_23 d_Wd_loadingAt_9 rfl (rdO (w := w) hw) rfl ?_
      refine wp_iload_n d_Wd_loadingAt_12 rfl rfl ?_
      refine wp_aldR d_Wd_loadingAt_13 rfl (rd4 (w := w) hw) (by omega) (by decide) (rowsW_at (by omega)) ?_
      refine wp_iconst d_Wd_loadingAt_14 rfl ic_2 ?_
      refine wp_iload_n d_Wd_loadingAt_15 rfl rfl ?_
      refine wp_cv2 lk_Wd_72 (ro _ _ _) d_Wd_loadingAt_16 rfl (Nat.le_of_ble_eq_true rfl) (rdR (w := w) hw (by omega)) rfl (Nat.zero_le _) (Nat.zero_le _) ?_
      refine ok_Rd_isIn (w := w) hw (by omega) (fun hi => ?_) (fun hi => ?_)
      · refine wp_if_eq_f (tgt := 24) d_Wd_loadingAt_19 (by decide) rfl (by decide) ?_
        refine wp_iload_n d_Wd_loadingAt_22 rfl rfl ?_
        refine wp_iret d_Wd_loadingAt_23 rfl (Nat.le_refl _) (Nat.le_refl _) ?_
        rw [lf_stay (b := b + 1) (j := b) (by rw [lf, hno]; exact if_pos hi) 12 (by omega)] at hK; exact hK
      · refine wp_if_eq_t (tgt := 24) d_Wd_loadingAt_19 (by decide) (by decide) ?_
        refine wp_iinc (L2 := [(2, _), (0, _), (1, _)]) d_Wd_loadingAt_24 rfl rfl (iinc_1) (by decide) rfl ?_
        refine wp_goto (tgt := 2) d_Wd_loadingAt_27 (by decide) ?_
        exact ih (by rw [lf, hno]; exact if_neg hi)
  refine ok_of (L := [(0, _), (1, _)]) (by decide) (Nat.le_of_ble_eq_true rfl) rfl ?_
  refine wp_iconst d_Wd_loadingAt_0 rfl ic_0 ?_
  refine wp_istore_n (L2 := [(2, _), (0, _), (1, _)]) d_Wd_loadingAt_1 rfl (by decide) rfl ?_
  exact lp 0 (Nat.zero_le _) rfl
theorem d_Rf_firstAt_0 : decode M_Rf_firstAt.2.1 0 = .ok (.iconst (-1), 1) := by decide +kernel
theorem d_Rf_firstAt_1 : decode M_Rf_firstAt.2.1 1 = .ok (.istore_n 2, 1) := by decide +kernel
theorem d_Rf_firstAt_2 : decode M_Rf_firstAt.2.1 2 = .ok (.iconst 0, 1) := by decide +kernel
theorem d_Rf_firstAt_3 : decode M_Rf_firstAt.2.1 3 = .ok (.istore_n 3, 1) := by decide +kernel
theorem d_Rf_firstAt_4 : decode M_Rf_firstAt.2.1 4 = .ok (.iload_n 3, 1) := by decide +kernel
theorem d_Rf_firstAt_5 : decode M_Rf_firstAt.2.1 5 = .ok (.aload_n 0, 1) := by decide +kernel
theorem d_Rf_firstAt_6 : decode M_Rf_firstAt.2.1 6 = .ok (.getfield 155, 3) := by decide +kernel
theorem d_Rf_firstAt_9 : decode M_Rf_firstAt.2.1 9 = .ok (.if_icmp .ge 79, 3) := by decide +kernel
theorem d_Rf_firstAt_12 : decode M_Rf_firstAt.2.1 12 = .ok (.aload_n 0, 1) := by decide +kernel
theorem d_Rf_firstAt_13 : decode M_Rf_firstAt.2.1 13 = .ok (.getfield 7, 3) := by decide +kernel
theorem d_Rf_firstAt_16 : decode M_Rf_firstAt.2.1 16 = .ok (.bipush 72, 2) := by decide +kernel
theorem d_Rf_firstAt_18 : decode M_Rf_firstAt.2.1 18 = .ok (.iload_n 3, 1) := by decide +kernel
theorem d_Rf_firstAt_19 : decode M_Rf_firstAt.2.1 19 = .ok (.iadd, 1) := by decide +kernel
theorem d_Rf_firstAt_20 : decode M_Rf_firstAt.2.1 20 = .ok (.iaload, 1) := by decide +kernel
theorem d_Rf_firstAt_21 : decode M_Rf_firstAt.2.1 21 = .ok (.iconst 1, 1) := by decide +kernel
theorem d_Rf_firstAt_22 : decode M_Rf_firstAt.2.1 22 = .ok (.if_icmp .ne 20, 3) := by decide +kernel
theorem d_Rf_firstAt_25 : decode M_Rf_firstAt.2.1 25 = .ok (.aload_n 0, 1) := by decide +kernel
theorem d_Rf_firstAt_26 : decode M_Rf_firstAt.2.1 26 = .ok (.getfield 7, 3) := by decide +kernel
theorem d_Rf_firstAt_29 : decode M_Rf_firstAt.2.1 29 = .ok (.bipush 84, 2) := by decide +kernel
theorem d_Rf_firstAt_31 : decode M_Rf_firstAt.2.1 31 = .ok (.iload_n 3, 1) := by decide +kernel
theorem d_Rf_firstAt_32 : decode M_Rf_firstAt.2.1 32 = .ok (.iadd, 1) := by decide +kernel
theorem d_Rf_firstAt_33 : decode M_Rf_firstAt.2.1 33 = .ok (.iaload, 1) := by decide +kernel
theorem d_Rf_firstAt_34 : decode M_Rf_firstAt.2.1 34 = .ok (.iload_n 1, 1) := by decide +kernel
theorem d_Rf_firstAt_35 : decode M_Rf_firstAt.2.1 35 = .ok (.if_icmp .ne 7, 3) := by decide +kernel
theorem d_Rf_firstAt_38 : decode M_Rf_firstAt.2.1 38 = .ok (.iconst 1, 1) := by decide +kernel
theorem d_Rf_firstAt_39 : decode M_Rf_firstAt.2.1 39 = .ok (.goto 4, 3) := by decide +kernel
theorem d_Rf_firstAt_42 : decode M_Rf_firstAt.2.1 42 = .ok (.iconst 0, 1) := by decide +kernel
theorem d_Rf_firstAt_43 : decode M_Rf_firstAt.2.1 43 = .ok (.istore 4, 2) := by decide +kernel
theorem d_Rf_firstAt_45 : decode M_Rf_firstAt.2.1 45 = .ok (.iload 4, 2) := by decide +kernel
theorem d_Rf_firstAt_47 : decode M_Rf_firstAt.2.1 47 = .ok (.ifCond .eq 33, 3) := by decide +kernel
theorem d_Rf_firstAt_50 : decode M_Rf_firstAt.2.1 50 = .ok (.iload_n 2, 1) := by decide +kernel
theorem d_Rf_firstAt_51 : decode M_Rf_firstAt.2.1 51 = .ok (.iconst (-1), 1) := by decide +kernel
theorem d_Rf_firstAt_52 : decode M_Rf_firstAt.2.1 52 = .ok (.if_icmp .eq 24, 3) := by decide +kernel
theorem d_Rf_firstAt_55 : decode M_Rf_firstAt.2.1 55 = .ok (.aload_n 0, 1) := by decide +kernel
theorem d_Rf_firstAt_56 : decode M_Rf_firstAt.2.1 56 = .ok (.getfield 7, 3) := by decide +kernel
theorem d_Rf_firstAt_59 : decode M_Rf_firstAt.2.1 59 = .ok (.bipush 96, 2) := by decide +kernel
theorem d_Rf_firstAt_61 : decode M_Rf_firstAt.2.1 61 = .ok (.iload_n 3, 1) := by decide +kernel
theorem d_Rf_firstAt_62 : decode M_Rf_firstAt.2.1 62 = .ok (.iadd, 1) := by decide +kernel
theorem d_Rf_firstAt_63 : decode M_Rf_firstAt.2.1 63 = .ok (.iaload, 1) := by decide +kernel
theorem d_Rf_firstAt_64 : decode M_Rf_firstAt.2.1 64 = .ok (.aload_n 0, 1) := by decide +kernel
theorem d_Rf_firstAt_65 : decode M_Rf_firstAt.2.1 65 = .ok (.getfield 7, 3) := by decide +kernel
theorem d_Rf_firstAt_68 : decode M_Rf_firstAt.2.1 68 = .ok (.bipush 96, 2) := by decide +kernel
theorem d_Rf_firstAt_70 : decode M_Rf_firstAt.2.1 70 = .ok (.iload_n 2, 1) := by decide +kernel
theorem d_Rf_firstAt_71 : decode M_Rf_firstAt.2.1 71 = .ok (.iadd, 1) := by decide +kernel
theorem d_Rf_firstAt_72 : decode M_Rf_firstAt.2.1 72 = .ok (.iaload, 1) := by decide +kernel
theorem d_Rf_firstAt_73 : decode M_Rf_firstAt.2.1 73 = .ok (.if_icmp .ge 7, 3) := by decide +kernel
theorem d_Rf_firstAt_76 : decode M_Rf_firstAt.2.1 76 = .ok (.iload_n 3, 1) := by decide +kernel
theorem d_Rf_firstAt_77 : decode M_Rf_firstAt.2.1 77 = .ok (.goto 4, 3) := by decide +kernel
theorem d_Rf_firstAt_80 : decode M_Rf_firstAt.2.1 80 = .ok (.iload_n 2, 1) := by decide +kernel
theorem d_Rf_firstAt_81 : decode M_Rf_firstAt.2.1 81 = .ok (.istore_n 2, 1) := by decide +kernel
theorem d_Rf_firstAt_82 : decode M_Rf_firstAt.2.1 82 = .ok (.iinc 3 1, 3) := by decide +kernel
theorem d_Rf_firstAt_85 : decode M_Rf_firstAt.2.1 85 = .ok (.goto (-81), 3) := by decide +kernel
theorem d_Rf_firstAt_88 : decode M_Rf_firstAt.2.1 88 = .ok (.iload_n 2, 1) := by decide +kernel
theorem d_Rf_firstAt_89 : decode M_Rf_firstAt.2.1 89 = .ok (.ireturn, 1) := by decide +kernel
set_option maxHeartbeats 4000000 in
set_option maxRecDepth 100000 in
theorem ok_Rf_firstAt {D : xD} {N : Nat} {l : Launch} {d : Nat} {c z : T2} {P Q : Nat → Int32} {rest : List va_E} {K : Option Value → List va_E → Prop} {nb : Nat} (hnb : c 32 1 = nI nb) (h12 : nb ≤ 12) {s : Nat} (hs : s < 6) (hK : K (some (.int (ov (ff P s nb)))) (encR D N c z P Q ++ rest)) : Ok D N l d M_Rf_firstAt [.ref (N + 0), .int (nI s)] (encR D N c z P Q ++ rest) 0 0 K := by
  have lp : ∀ b : Nat, b ≤ nb → Wp D N l (EI M_Rf_firstAt) M_Rf_firstAt (Rm d 0 0) (Qm D N K 0 0) 0 0 4 [(3, .int (nI b)), (2, .int (ov (ff P s b))), (0, .ref (N + 0)), (1, .int (nI s))] [] (encR D N c z P Q ++ rest) := by
    refine up_loop ?_ ?_
    · skip
      refine wp_iload_n d_Rf_firstAt_4 rfl rfl ?_
      refine wp_aload_n d_Rf_firstAt_5 rfl rfl ?_
      refine wp_get fl_Rf_155 d_Rf_firstAt_6 rfl rfl rfl ?_
      refine wp_icmp_ge_t (tgt := 88) d_Rf_firstAt_9 (by decide) (by rw [hnb]; exact nI_le (Nat.le_refl _) (by omega)) ?_
      refine wp_iload_n d_Rf_firstAt_88 rfl rfl ?_
      refine wp_iret d_Rf_firstAt_89 rfl (Nat.le_refl _) (Nat.le_refl _) ?_
      exact hK
    · intro b hb ih
      cases ho : ff P s b with
      | none =>
        refine wp_iload_n d_Rf_firstAt_4 rfl rfl ?_
        refine wp_aload_n d_Rf_firstAt_5 rfl rfl ?_
        refine wp_get fl_Rf_155 d_Rf_firstAt_6 rfl rfl rfl ?_
        refine wp_icmp_ge_f (tgt := 88) d_Rf_firstAt_9 (by decide) rfl (by rw [hnb]; exact nI_ge hb (by omega)) ?_
        refine wp_aload_n d_Rf_firstAt_12 rfl rfl ?_
        refine wp_get fl_Rf_7 d_Rf_firstAt_13 rfl rfl rfl ?_
        refine wp_bipush d_Rf_firstAt_16 rfl bp_72 ?_
        refine wp_iload_n d_Rf_firstAt_18 rfl rfl ?_
        first | refine wp_iaddN d_Rf_firstAt_19 rfl ?_ | refine wp_iadd d_Rf_firstAt_19 rfl ?_
        refine wp_iald d_Rf_firstAt_20 rfl (rfl) (by omega) (by decide) ?_
        refine wp_iconst d_Rf_firstAt_21 rfl ic_1 ?_
        refine wp_icmp_ne (tgt := 42) d_Rf_firstAt_22 (by decide) rfl (fun hc_22 => ?_) (fun hc_22 => ?_)
        · refine wp_iconst d_Rf_firstAt_42 rfl ic_0 ?_
          refine wp_istore (L2 := [(4, _), (3, _), (2, _), (0, _), (1, _)]) d_Rf_firstAt_43 rfl (by decide) rfl ?_
          refine wp_iload d_Rf_firstAt_45 rfl rfl ?_
          refine wp_if_eq_t (tgt := 80) d_Rf_firstAt_47 (by decide) (by decide) ?_
          refine wp_iload_n d_Rf_firstAt_80 rfl rfl ?_
          refine wp_istore_n (L2 := [(2, _), (4, _), (3, _), (0, _), (1, _)]) d_Rf_firstAt_81 rfl (by decide) rfl ?_
          refine wp_iinc (L2 := [(3, _), (2, _), (4, _), (0, _), (1, _)]) d_Rf_firstAt_82 rfl rfl (iinc_1) (by decide) rfl ?_
          refine wp_goto (tgt := 4) d_Rf_firstAt_85 (by decide) ?_
          refine wp_sub [0, 1, 3, 4] rfl ?_
          first | (rw [ff, ho, if_pos ⟨hc_22, hc_35⟩] at ih; exact ih) | (rw [ff, ho, if_neg (fun z => hc_22 z.1)] at ih; exact ih) | (rw [ff, ho, if_neg (fun z => hc_35 z.2)] at ih; exact ih)
        · refine wp_aload_n d_Rf_firstAt_25 rfl rfl ?_
          refine wp_get fl_Rf_7 d_Rf_firstAt_26 rfl rfl rfl ?_
          refine wp_bipush d_Rf_firstAt_29 rfl bp_84 ?_
          refine wp_iload_n d_Rf_firstAt_31 rfl rfl ?_
          first | refine wp_iaddN d_Rf_firstAt_32 rfl ?_ | refine wp_iadd d_Rf_firstAt_32 rfl ?_
          refine wp_iald d_Rf_firstAt_33 rfl (rfl) (by omega) (by decide) ?_
          refine wp_iload_n d_Rf_firstAt_34 rfl rfl ?_
          refine wp_icmp_ne (tgt := 42) d_Rf_firstAt_35 (by decide) rfl (fun hc_35 => ?_) (fun hc_35 => ?_)
          · refine wp_iconst d_Rf_firstAt_42 rfl ic_0 ?_
            refine wp_istore (L2 := [(4, _), (3, _), (2, _), (0, _), (1, _)]) d_Rf_firstAt_43 rfl (by decide) rfl ?_
            refine wp_iload d_Rf_firstAt_45 rfl rfl ?_
            refine wp_if_eq_t (tgt := 80) d_Rf_firstAt_47 (by decide) (by decide) ?_
            refine wp_iload_n d_Rf_firstAt_80 rfl rfl ?_
            refine wp_istore_n (L2 := [(2, _), (4, _), (3, _), (0, _), (1, _)]) d_Rf_firstAt_81 rfl (by decide) rfl ?_
            refine wp_iinc (L2 := [(3, _), (2, _), (4, _), (0, _), (1, _)]) d_Rf_firstAt_82 rfl rfl (iinc_1) (by decide) rfl ?_
            refine wp_goto (tgt := 4) d_Rf_firstAt_85 (by decide) ?_
            refine wp_sub [0, 1, 3, 4] rfl ?_
            first | (rw [ff, ho, if_pos ⟨hc_22, hc_35⟩] at ih; exact ih) | (rw [ff, ho, if_neg (fun z => hc_22 z.1)] at ih; exact ih) | (rw [ff, ho, if_neg (fun z => hc_35 z.2)] at ih; exact ih)
          · refine wp_iconst d_Rf_firstAt_38 rfl ic_1 ?_
            refine wp_goto (tgt := 43) d_Rf_firstAt_39 (by decide) ?_
            refine wp_istore (L2 := [(4, _), (3, _), (2, _), (0, _), (1, _)]) d_Rf_firstAt_43 rfl (by decide) rfl ?_
            refine wp_iload d_Rf_firstAt_45 rfl rfl ?_
            refine wp_if_eq_f (tgt := 80) d_Rf_firstAt_47 (by decide) rfl (by decide) ?_
            refine wp_iload_n d_Rf_firstAt_50 rfl rfl ?_
            refine wp_iconst d_Rf_firstAt_51 rfl ic_m1 ?_
            refine wp_icmp_eq_t (tgt := 76) d_Rf_firstAt_52 (by decide) (rfl) ?_
            refine wp_iload_n d_Rf_firstAt_76 rfl rfl ?_
            refine wp_goto (tgt := 81) d_Rf_firstAt_77 (by decide) ?_
            refine wp_istore_n (L2 := [(2, _), (4, _), (3, _), (0, _), (1, _)]) d_Rf_firstAt_81 rfl (by decide) rfl ?_
            refine wp_iinc (L2 := [(3, _), (2, _), (4, _), (0, _), (1, _)]) d_Rf_firstAt_82 rfl rfl (iinc_1) (by decide) rfl ?_
            refine wp_goto (tgt := 4) d_Rf_firstAt_85 (by decide) ?_
            refine wp_sub [0, 1, 3, 4] rfl ?_
            first | (rw [ff, ho, if_pos ⟨hc_22, hc_35⟩] at ih; exact ih) | (rw [ff, ho, if_neg (fun z => hc_22 z.1)] at ih; exact ih) | (rw [ff, ho, if_neg (fun z => hc_35 z.2)] at ih; exact ih)
      | some j =>
        have hj := ff_lt ho
        refine wp_iload_n d_Rf_firstAt_4 rfl rfl ?_
        refine wp_aload_n d_Rf_firstAt_5 rfl rfl ?_
        refine wp_get fl_Rf_155 d_Rf_firstAt_6 rfl rfl rfl ?_
        refine wp_icmp_ge_f (tgt := 88) d_Rf_firstAt_9 (by decide) rfl (by rw [hnb]; exact nI_ge hb (by omega)) ?_
        refine wp_aload_n d_Rf_firstAt_12 rfl rfl ?_
        refine wp_get fl_Rf_7 d_Rf_firstAt_13 rfl rfl rfl ?_
        refine wp_bipush d_Rf_firstAt_16 rfl bp_72 ?_
        refine wp_iload_n d_Rf_firstAt_18 rfl rfl ?_
        first | refine wp_iaddN d_Rf_firstAt_19 rfl ?_ | refine wp_iadd d_Rf_firstAt_19 rfl ?_
        refine wp_iald d_Rf_firstAt_20 rfl (rfl) (by omega) (by decide) ?_
        refine wp_iconst d_Rf_firstAt_21 rfl ic_1 ?_
        refine wp_icmp_ne (tgt := 42) d_Rf_firstAt_22 (by decide) rfl (fun hc_22 => ?_) (fun hc_22 => ?_)
        · refine wp_iconst d_Rf_firstAt_42 rfl ic_0 ?_
          refine wp_istore (L2 := [(4, _), (3, _), (2, _), (0, _), (1, _)]) d_Rf_firstAt_43 rfl (by decide) rfl ?_
          refine wp_iload d_Rf_firstAt_45 rfl rfl ?_
          refine wp_if_eq_t (tgt := 80) d_Rf_firstAt_47 (by decide) (by decide) ?_
          refine wp_iload_n d_Rf_firstAt_80 rfl rfl ?_
          refine wp_istore_n (L2 := [(2, _), (4, _), (3, _), (0, _), (1, _)]) d_Rf_firstAt_81 rfl (by decide) rfl ?_
          refine wp_iinc (L2 := [(3, _), (2, _), (4, _), (0, _), (1, _)]) d_Rf_firstAt_82 rfl rfl (iinc_1) (by decide) rfl ?_
          refine wp_goto (tgt := 4) d_Rf_firstAt_85 (by decide) ?_
          refine wp_sub [0, 1, 3, 4] rfl ?_
          first | (rw [ff, ho, if_pos ⟨hc_22, hc_35⟩] at ih; dsimp only at ih; first | (rw [if_pos (nle_lt hc_73)] at ih; exact ih) | (rw [if_neg (le_nlt hc_73)] at ih; exact ih)) | (rw [ff, ho, if_neg (fun z => hc_22 z.1)] at ih; exact ih) | (rw [ff, ho, if_neg (fun z => hc_35 z.2)] at ih; exact ih)
        · refine wp_aload_n d_Rf_firstAt_25 rfl rfl ?_
          refine wp_get fl_Rf_7 d_Rf_firstAt_26 rfl rfl rfl ?_
          refine wp_bipush d_Rf_firstAt_29 rfl bp_84 ?_
          refine wp_iload_n d_Rf_firstAt_31 rfl rfl ?_
          first | refine wp_iaddN d_Rf_firstAt_32 rfl ?_ | refine wp_iadd d_Rf_firstAt_32 rfl ?_
          refine wp_iald d_Rf_firstAt_33 rfl (rfl) (by omega) (by decide) ?_
          refine wp_iload_n d_Rf_firstAt_34 rfl rfl ?_
          refine wp_icmp_ne (tgt := 42) d_Rf_firstAt_35 (by decide) rfl (fun hc_35 => ?_) (fun hc_35 => ?_)
          · refine wp_iconst d_Rf_firstAt_42 rfl ic_0 ?_
            refine wp_istore (L2 := [(4, _), (3, _), (2, _), (0, _), (1, _)]) d_Rf_firstAt_43 rfl (by decide) rfl ?_
            refine wp_iload d_Rf_firstAt_45 rfl rfl ?_
            refine wp_if_eq_t (tgt := 80) d_Rf_firstAt_47 (by decide) (by decide) ?_
            refine wp_iload_n d_Rf_firstAt_80 rfl rfl ?_
            refine wp_istore_n (L2 := [(2, _), (4, _), (3, _), (0, _), (1, _)]) d_Rf_firstAt_81 rfl (by decide) rfl ?_
            refine wp_iinc (L2 := [(3, _), (2, _), (4, _), (0, _), (1, _)]) d_Rf_firstAt_82 rfl rfl (iinc_1) (by decide) rfl ?_
            refine wp_goto (tgt := 4) d_Rf_firstAt_85 (by decide) ?_
            refine wp_sub [0, 1, 3, 4] rfl ?_
            first | (rw [ff, ho, if_pos ⟨hc_22, hc_35⟩] at ih; dsimp only at ih; first | (rw [if_pos (nle_lt hc_73)] at ih; exact ih) | (rw [if_neg (le_nlt hc_73)] at ih; exact ih)) | (rw [ff, ho, if_neg (fun z => hc_22 z.1)] at ih; exact ih) | (rw [ff, ho, if_neg (fun z => hc_35 z.2)] at ih; exact ih)
          · refine wp_iconst d_Rf_firstAt_38 rfl ic_1 ?_
            refine wp_goto (tgt := 43) d_Rf_firstAt_39 (by decide) ?_
            refine wp_istore (L2 := [(4, _), (3, _), (2, _), (0, _), (1, _)]) d_Rf_firstAt_43 rfl (by decide) rfl ?_
            refine wp_iload d_Rf_firstAt_45 rfl rfl ?_
            refine wp_if_eq_f (tgt := 80) d_Rf_firstAt_47 (by decide) rfl (by decide) ?_
            refine wp_iload_n d_Rf_firstAt_50 rfl rfl ?_
            refine wp_iconst d_Rf_firstAt_51 rfl ic_m1 ?_
            refine wp_icmp_eq_f (tgt := 76) d_Rf_firstAt_52 (by decide) rfl (nI_nm1 (by omega)) ?_
            refine wp_aload_n d_Rf_firstAt_55 rfl rfl ?_
            refine wp_get fl_Rf_7 d_Rf_firstAt_56 rfl rfl rfl ?_
            refine wp_bipush d_Rf_firstAt_59 rfl bp_96 ?_
            refine wp_iload_n d_Rf_firstAt_61 rfl rfl ?_
            first | refine wp_iaddN d_Rf_firstAt_62 rfl ?_ | refine wp_iadd d_Rf_firstAt_62 rfl ?_
            refine wp_iald d_Rf_firstAt_63 rfl (rfl) (by omega) (by decide) ?_
            refine wp_aload_n d_Rf_firstAt_64 rfl rfl ?_
            refine wp_get fl_Rf_7 d_Rf_firstAt_65 rfl rfl rfl ?_
            refine wp_bipush d_Rf_firstAt_68 rfl bp_96 ?_
            refine wp_iload_n d_Rf_firstAt_70 rfl rfl ?_
            first | refine wp_iaddN d_Rf_firstAt_71 rfl ?_ | refine wp_iadd d_Rf_firstAt_71 rfl ?_
            refine wp_iald d_Rf_firstAt_72 rfl (rfl) (by omega) (by decide) ?_
            refine wp_icmp_ge (tgt := 80) d_Rf_firstAt_73 (by decide) rfl (fun hc_73 => ?_) (fun hc_73 => ?_)
            · refine wp_iload_n d_Rf_firstAt_80 rfl rfl ?_
              refine wp_istore_n (L2 := [(2, _), (4, _), (3, _), (0, _), (1, _)]) d_Rf_firstAt_81 rfl (by decide) rfl ?_
              refine wp_iinc (L2 := [(3, _), (2, _), (4, _), (0, _), (1, _)]) d_Rf_firstAt_82 rfl rfl (iinc_1) (by decide) rfl ?_
              refine wp_goto (tgt := 4) d_Rf_firstAt_85 (by decide) ?_
              refine wp_sub [0, 1, 3, 4] rfl ?_
              first | (rw [ff, ho, if_pos ⟨hc_22, hc_35⟩] at ih; dsimp only at ih; first | (rw [if_pos (nle_lt hc_73)] at ih; exact ih) | (rw [if_neg (le_nlt hc_73)] at ih; exact ih)) | (rw [ff, ho, if_neg (fun z => hc_22 z.1)] at ih; exact ih) | (rw [ff, ho, if_neg (fun z => hc_35 z.2)] at ih; exact ih)
            · refine wp_iload_n d_Rf_firstAt_76 rfl rfl ?_
              refine wp_goto (tgt := 81) d_Rf_firstAt_77 (by decide) ?_
              refine wp_istore_n (L2 := [(2, _), (4, _), (3, _), (0, _), (1, _)]) d_Rf_firstAt_81 rfl (by decide) rfl ?_
              refine wp_iinc (L2 := [(3, _), (2, _), (4, _), (0, _), (1, _)]) d_Rf_firstAt_82 rfl rfl (iinc_1) (by decide) rfl ?_
              refine wp_goto (tgt := 4) d_Rf_firstAt_85 (by decide) ?_
              refine wp_sub [0, 1, 3, 4] rfl ?_
              first | (rw [ff, ho, if_pos ⟨hc_22, hc_35⟩] at ih; dsimp only at ih; first | (rw [if_pos (nle_lt hc_73)] at ih; exact ih) | (rw [if_neg (le_nlt hc_73)] at ih; exact ih)) | (rw [ff, ho, if_neg (fun z => hc_22 z.1)] at ih; exact ih) | (rw [ff, ho, if_neg (fun z => hc_35 z.2)] at ih; exact ih)
  refine ok_of (L := [(0, _), (1, _)]) (by decide) (Nat.le_of_ble_eq_true rfl) rfl ?_
  refine wp_iconst d_Rf_firstAt_0 rfl ic_m1 ?_
  refine wp_istore_n (L2 := [(2, _), (0, _), (1, _)]) d_Rf_firstAt_1 rfl (by decide) rfl ?_
  refine wp_iconst d_Rf_firstAt_2 rfl ic_0 ?_
  refine wp_istore_n (L2 := [(3, _), (2, _), (0, _), (1, _)]) d_Rf_firstAt_3 rfl (by decide) rfl ?_
  exact lp 0 (Nat.zero_le _)
theorem d_Wd_firstInLine_0 : decode M_Wd_firstInLine.2.1 0 = .ok (.iconst (-1), 1) := by decide +kernel
theorem d_Wd_firstInLine_1 : decode M_Wd_firstInLine.2.1 1 = .ok (.istore_n 2, 1) := by decide +kernel
theorem d_Wd_firstInLine_2 : decode M_Wd_firstInLine.2.1 2 = .ok (.iconst 0, 1) := by decide +kernel
theorem d_Wd_firstInLine_3 : decode M_Wd_firstInLine.2.1 3 = .ok (.istore_n 3, 1) := by decide +kernel
theorem d_Wd_firstInLine_4 : decode M_Wd_firstInLine.2.1 4 = .ok (.iload_n 3, 1) := by decide +kernel
theorem d_Wd_firstInLine_5 : decode M_Wd_firstInLine.2.1 5 = .ok (.bipush 12, 2) := by decide +kernel
theorem d_Wd_firstInLine_7 : decode M_Wd_firstInLine.2.1 7 = .ok (.if_icmp .ge 53, 3) := by decide +kernel
theorem d_Wd_firstInLine_10 : decode M_Wd_firstInLine.2.1 10 = .ok (.aload_n 0, 1) := by decide +kernel
theorem d_Wd_firstInLine_11 : decode M_Wd_firstInLine.2.1 11 = .ok (.getfield 23, 3) := by decide +kernel
theorem d_Wd_firstInLine_14 : decode M_Wd_firstInLine.2.1 14 = .ok (.iload_n 3, 1) := by decide +kernel
theorem d_Wd_firstInLine_15 : decode M_Wd_firstInLine.2.1 15 = .ok (.aaload, 1) := by decide +kernel
theorem d_Wd_firstInLine_16 : decode M_Wd_firstInLine.2.1 16 = .ok (.iconst 1, 1) := by decide +kernel
theorem d_Wd_firstInLine_17 : decode M_Wd_firstInLine.2.1 17 = .ok (.iload_n 1, 1) := by decide +kernel
theorem d_Wd_firstInLine_18 : decode M_Wd_firstInLine.2.1 18 = .ok (.invokevirtual 72, 3) := by decide +kernel
theorem d_Wd_firstInLine_21 : decode M_Wd_firstInLine.2.1 21 = .ok (.ifCond .ne 6, 3) := by decide +kernel
theorem d_Wd_firstInLine_24 : decode M_Wd_firstInLine.2.1 24 = .ok (.goto 30, 3) := by decide +kernel
theorem d_Wd_firstInLine_27 : decode M_Wd_firstInLine.2.1 27 = .ok (.iload_n 2, 1) := by decide +kernel
theorem d_Wd_firstInLine_28 : decode M_Wd_firstInLine.2.1 28 = .ok (.ifCond .lt 24, 3) := by decide +kernel
theorem d_Wd_firstInLine_31 : decode M_Wd_firstInLine.2.1 31 = .ok (.aload_n 0, 1) := by decide +kernel
theorem d_Wd_firstInLine_32 : decode M_Wd_firstInLine.2.1 32 = .ok (.getfield 23, 3) := by decide +kernel
theorem d_Wd_firstInLine_35 : decode M_Wd_firstInLine.2.1 35 = .ok (.iload_n 3, 1) := by decide +kernel
theorem d_Wd_firstInLine_36 : decode M_Wd_firstInLine.2.1 36 = .ok (.aaload, 1) := by decide +kernel
theorem d_Wd_firstInLine_37 : decode M_Wd_firstInLine.2.1 37 = .ok (.getfield 60, 3) := by decide +kernel
theorem d_Wd_firstInLine_40 : decode M_Wd_firstInLine.2.1 40 = .ok (.aload_n 0, 1) := by decide +kernel
theorem d_Wd_firstInLine_41 : decode M_Wd_firstInLine.2.1 41 = .ok (.getfield 23, 3) := by decide +kernel
theorem d_Wd_firstInLine_44 : decode M_Wd_firstInLine.2.1 44 = .ok (.iload_n 2, 1) := by decide +kernel
theorem d_Wd_firstInLine_45 : decode M_Wd_firstInLine.2.1 45 = .ok (.aaload, 1) := by decide +kernel
theorem d_Wd_firstInLine_46 : decode M_Wd_firstInLine.2.1 46 = .ok (.getfield 60, 3) := by decide +kernel
theorem d_Wd_firstInLine_49 : decode M_Wd_firstInLine.2.1 49 = .ok (.if_icmp .ge 5, 3) := by decide +kernel
theorem d_Wd_firstInLine_52 : decode M_Wd_firstInLine.2.1 52 = .ok (.iload_n 3, 1) := by decide +kernel
theorem d_Wd_firstInLine_53 : decode M_Wd_firstInLine.2.1 53 = .ok (.istore_n 2, 1) := by decide +kernel
theorem d_Wd_firstInLine_54 : decode M_Wd_firstInLine.2.1 54 = .ok (.iinc 3 1, 3) := by decide +kernel
theorem d_Wd_firstInLine_57 : decode M_Wd_firstInLine.2.1 57 = .ok (.goto (-53), 3) := by decide +kernel
theorem d_Wd_firstInLine_60 : decode M_Wd_firstInLine.2.1 60 = .ok (.iload_n 2, 1) := by decide +kernel
theorem d_Wd_firstInLine_61 : decode M_Wd_firstInLine.2.1 61 = .ok (.ireturn, 1) := by decide +kernel
set_option maxHeartbeats 4000000 in
set_option maxRecDepth 100000 in
theorem ok_Wd_firstInLine {D : xD} {N : Nat} {l : Launch} {d : Nat} {c x V : T2} {P : Nat → Int32} {w : Nat} {ln df : Nat → Option Nat} {rest : List va_E} {K : Option Value → List va_E → Prop} (hw : w < 3) {s : Nat} (hs : s < 6) (hK : K (some (.int (ov (ff P s 12)))) (encC D N c x (va_up V w P) ln df ++ rest)) : Ok D N l (d + 1) M_Wd_firstInLine [.ref (N + wA w), .int (nI s)] (encC D N c x (va_up V w P) ln df ++ rest) 0 0 K := by
  have lp : ∀ b : Nat, b ≤ 12 → Wp D N l (EI M_Wd_firstInLine) M_Wd_firstInLine (Rm (d + 1) 0 0) (Qm D N K 0 0) 0 0 4 [(3, .int (nI b)), (2, .int (ov (ff P s b))), (0, .ref (N + wA w)), (1, .int (nI s))] [] (encC D N c x (va_up V w P) ln df ++ rest) := by
    refine up_loop ?_ ?_
    · skip
      refine wp_iload_n d_Wd_firstInLine_4 rfl rfl ?_
      refine wp_bipush d_Wd_firstInLine_5 rfl bp_12 ?_
      refine wp_icmp_ge_t (tgt := 60) d_Wd_firstInLine_7 (by decide) (nI_le (Nat.le_refl _) (by decide)) ?_
      refine wp_iload_n d_Wd_firstInLine_60 rfl rfl ?_
      refine wp_iret d_Wd_firstInLine_61 rfl (Nat.le_refl _) (Nat.le_refl _) ?_
      exact hK
    · intro b hb ih
      cases ho : ff P s b with
      | none =>
        refine wp_iload_n d_Wd_firstInLine_4 rfl rfl ?_
        refine wp_bipush d_Wd_firstInLine_5 rfl bp_12 ?_
        refine wp_icmp_ge_f (tgt := 60) d_Wd_firstInLine_7 (by decide) rfl (nI_ge hb (by decide)) ?_
        refine wp_aload_n d_Wd_firstInLine_10 rfl rfl ?_
        refine wp_get fl_Wd_23 d_Wd_firstInLine_11 rfl (rdO (w := w) hw) rfl ?_
        refine wp_iload_n d_Wd_firstInLine_14 rfl rfl ?_
        refine wp_aldR d_Wd_firstInLine_15 rfl (rd4 (w := w) hw) (by omega) (by decide) (rowsW_at (by omega)) ?_
        refine wp_iconst d_Wd_firstInLine_16 rfl ic_1 ?_
        refine wp_iload_n d_Wd_firstInLine_17 rfl rfl ?_
        refine wp_cv2 lk_Wd_72 (ro _ _ _) d_Wd_firstInLine_18 rfl (Nat.le_of_ble_eq_true rfl) (rdR (w := w) hw (by omega)) rfl (Nat.zero_le _) (Nat.zero_le _) ?_
        refine ok_Rd_isIn (w := w) hw (by omega) (fun hi => ?_) (fun hi => ?_)
        · refine wp_if_ne_t (tgt := 27) d_Wd_firstInLine_21 (by decide) (by decide) ?_
          refine wp_iload_n d_Wd_firstInLine_27 rfl rfl ?_
          refine wp_if_lt_t (tgt := 52) d_Wd_firstInLine_28 (by decide) (by decide) ?_
          refine wp_iload_n d_Wd_firstInLine_52 rfl rfl ?_
          refine wp_istore_n (L2 := [(2, _), (3, _), (0, _), (1, _)]) d_Wd_firstInLine_53 rfl (by decide) rfl ?_
          refine wp_iinc (L2 := [(3, _), (2, _), (0, _), (1, _)]) d_Wd_firstInLine_54 rfl rfl (iinc_1) (by decide) rfl ?_
          refine wp_goto (tgt := 4) d_Wd_firstInLine_57 (by decide) ?_
          first | (rw [ff, ho, if_pos hi] at ih; exact ih) | (rw [ff, ho, if_neg hi] at ih; exact ih)
        · refine wp_if_ne_f (tgt := 27) d_Wd_firstInLine_21 (by decide) rfl (by decide) ?_
          refine wp_goto (tgt := 54) d_Wd_firstInLine_24 (by decide) ?_
          refine wp_iinc (L2 := [(3, _), (2, _), (0, _), (1, _)]) d_Wd_firstInLine_54 rfl rfl (iinc_1) (by decide) rfl ?_
          refine wp_goto (tgt := 4) d_Wd_firstInLine_57 (by decide) ?_
          first | (rw [ff, ho, if_pos hi] at ih; exact ih) | (rw [ff, ho, if_neg hi] at ih; exact ih)
      | some j =>
        have hj := ff_lt ho
        refine wp_iload_n d_Wd_firstInLine_4 rfl rfl ?_
        refine wp_bipush d_Wd_firstInLine_5 rfl bp_12 ?_
        refine wp_icmp_ge_f (tgt := 60) d_Wd_firstInLine_7 (by decide) rfl (nI_ge hb (by decide)) ?_
        refine wp_aload_n d_Wd_firstInLine_10 rfl rfl ?_
        refine wp_get fl_Wd_23 d_Wd_firstInLine_11 rfl (rdO (w := w) hw) rfl ?_
        refine wp_iload_n d_Wd_firstInLine_14 rfl rfl ?_
        refine wp_aldR d_Wd_firstInLine_15 rfl (rd4 (w := w) hw) (by omega) (by decide) (rowsW_at (by omega)) ?_
        refine wp_iconst d_Wd_firstInLine_16 rfl ic_1 ?_
        refine wp_iload_n d_Wd_firstInLine_17 rfl rfl ?_
        refine wp_cv2 lk_Wd_72 (ro _ _ _) d_Wd_firstInLine_18 rfl (Nat.le_of_ble_eq_true rfl) (rdR (w := w) hw (by omega)) rfl (Nat.zero_le _) (Nat.zero_le _) ?_
        refine ok_Rd_isIn (w := w) hw (by omega) (fun hi => ?_) (fun hi => ?_)
        · refine wp_if_ne_t (tgt := 27) d_Wd_firstInLine_21 (by decide) (by decide) ?_
          refine wp_iload_n d_Wd_firstInLine_27 rfl rfl ?_
          refine wp_if_lt_f (tgt := 52) d_Wd_firstInLine_28 (by decide) rfl (nI_pos (by omega)) ?_
          refine wp_aload_n d_Wd_firstInLine_31 rfl rfl ?_
          refine wp_get fl_Wd_23 d_Wd_firstInLine_32 rfl (rdO (w := w) hw) rfl ?_
          refine wp_iload_n d_Wd_firstInLine_35 rfl rfl ?_
          refine wp_aldR d_Wd_firstInLine_36 rfl (rd4 (w := w) hw) (by omega) (by decide) (rowsW_at (by omega)) ?_
          refine wp_get fl_Wd_60 d_Wd_firstInLine_37 rfl (rdR (w := w) hw (by omega)) rfl ?_
          refine wp_aload_n d_Wd_firstInLine_40 rfl rfl ?_
          refine wp_get fl_Wd_23 d_Wd_firstInLine_41 rfl (rdO (w := w) hw) rfl ?_
          refine wp_iload_n d_Wd_firstInLine_44 rfl rfl ?_
          refine wp_aldR d_Wd_firstInLine_45 rfl (rd4 (w := w) hw) (by omega) (by decide) (rowsW_at (by omega)) ?_
          refine wp_get fl_Wd_60 d_Wd_firstInLine_46 rfl (rdR (w := w) hw (by omega)) rfl ?_
          refine wp_icmp_ge (tgt := 54) d_Wd_firstInLine_49 (by decide) rfl (fun hc_49 => ?_) (fun hc_49 => ?_)
          · refine wp_iinc (L2 := [(3, _), (2, _), (0, _), (1, _)]) d_Wd_firstInLine_54 rfl rfl (iinc_1) (by decide) rfl ?_
            refine wp_goto (tgt := 4) d_Wd_firstInLine_57 (by decide) ?_
            first | (rw [ff, ho, if_pos hi] at ih; dsimp only at ih; first | (rw [if_pos (nle_lt hc_49)] at ih; exact ih) | (rw [if_neg (le_nlt hc_49)] at ih; exact ih)) | (rw [ff, ho, if_neg hi] at ih; exact ih)
          · refine wp_iload_n d_Wd_firstInLine_52 rfl rfl ?_
            refine wp_istore_n (L2 := [(2, _), (3, _), (0, _), (1, _)]) d_Wd_firstInLine_53 rfl (by decide) rfl ?_
            refine wp_iinc (L2 := [(3, _), (2, _), (0, _), (1, _)]) d_Wd_firstInLine_54 rfl rfl (iinc_1) (by decide) rfl ?_
            refine wp_goto (tgt := 4) d_Wd_firstInLine_57 (by decide) ?_
            first | (rw [ff, ho, if_pos hi] at ih; dsimp only at ih; first | (rw [if_pos (nle_lt hc_49)] at ih; exact ih) | (rw [if_neg (le_nlt hc_49)] at ih; exact ih)) | (rw [ff, ho, if_neg hi] at ih; exact ih)
        · refine wp_if_ne_f (tgt := 27) d_Wd_firstInLine_21 (by decide) rfl (by decide) ?_
          refine wp_goto (tgt := 54) d_Wd_firstInLine_24 (by decide) ?_
          refine wp_iinc (L2 := [(3, _), (2, _), (0, _), (1, _)]) d_Wd_firstInLine_54 rfl rfl (iinc_1) (by decide) rfl ?_
          refine wp_goto (tgt := 4) d_Wd_firstInLine_57 (by decide) ?_
          first | (rw [ff, ho, if_pos hi] at ih; dsimp only at ih; first | (rw [if_pos (nle_lt hc_49)] at ih; exact ih) | (rw [if_neg (le_nlt hc_49)] at ih; exact ih)) | (rw [ff, ho, if_neg hi] at ih; exact ih)
  refine ok_of (L := [(0, _), (1, _)]) (by decide) (Nat.le_of_ble_eq_true rfl) rfl ?_
  refine wp_iconst d_Wd_firstInLine_0 rfl ic_m1 ?_
  refine wp_istore_n (L2 := [(2, _), (0, _), (1, _)]) d_Wd_firstInLine_1 rfl (by decide) rfl ?_
  refine wp_iconst d_Wd_firstInLine_2 rfl ic_0 ?_
  refine wp_istore_n (L2 := [(3, _), (2, _), (0, _), (1, _)]) d_Wd_firstInLine_3 rfl (by decide) rfl ?_
  exact lp 0 (Nat.zero_le _)
theorem d_Rf_aimOf_0 : decode M_Rf_aimOf.2.1 0 = .ok (.iconst (-1), 1) := by decide +kernel
theorem d_Rf_aimOf_1 : decode M_Rf_aimOf.2.1 1 = .ok (.istore_n 2, 1) := by decide +kernel
theorem d_Rf_aimOf_2 : decode M_Rf_aimOf.2.1 2 = .ok (.iconst 0, 1) := by decide +kernel
theorem d_Rf_aimOf_3 : decode M_Rf_aimOf.2.1 3 = .ok (.istore_n 3, 1) := by decide +kernel
theorem d_Rf_aimOf_4 : decode M_Rf_aimOf.2.1 4 = .ok (.iload_n 3, 1) := by decide +kernel
theorem d_Rf_aimOf_5 : decode M_Rf_aimOf.2.1 5 = .ok (.bipush 6, 2) := by decide +kernel
theorem d_Rf_aimOf_7 : decode M_Rf_aimOf.2.1 7 = .ok (.if_icmp .ge 75, 3) := by decide +kernel
theorem d_Rf_aimOf_10 : decode M_Rf_aimOf.2.1 10 = .ok (.aload_n 0, 1) := by decide +kernel
theorem d_Rf_aimOf_11 : decode M_Rf_aimOf.2.1 11 = .ok (.getfield 19, 3) := by decide +kernel
theorem d_Rf_aimOf_14 : decode M_Rf_aimOf.2.1 14 = .ok (.bipush 6, 2) := by decide +kernel
theorem d_Rf_aimOf_16 : decode M_Rf_aimOf.2.1 16 = .ok (.iload_n 1, 1) := by decide +kernel
theorem d_Rf_aimOf_17 : decode M_Rf_aimOf.2.1 17 = .ok (.imul, 1) := by decide +kernel
theorem d_Rf_aimOf_18 : decode M_Rf_aimOf.2.1 18 = .ok (.iload_n 3, 1) := by decide +kernel
theorem d_Rf_aimOf_19 : decode M_Rf_aimOf.2.1 19 = .ok (.iadd, 1) := by decide +kernel
theorem d_Rf_aimOf_20 : decode M_Rf_aimOf.2.1 20 = .ok (.iaload, 1) := by decide +kernel
theorem d_Rf_aimOf_21 : decode M_Rf_aimOf.2.1 21 = .ok (.ifCond .le 7, 3) := by decide +kernel
theorem d_Rf_aimOf_24 : decode M_Rf_aimOf.2.1 24 = .ok (.iconst 1, 1) := by decide +kernel
theorem d_Rf_aimOf_25 : decode M_Rf_aimOf.2.1 25 = .ok (.goto 4, 3) := by decide +kernel
theorem d_Rf_aimOf_28 : decode M_Rf_aimOf.2.1 28 = .ok (.iconst 0, 1) := by decide +kernel
theorem d_Rf_aimOf_29 : decode M_Rf_aimOf.2.1 29 = .ok (.istore 4, 2) := by decide +kernel
theorem d_Rf_aimOf_31 : decode M_Rf_aimOf.2.1 31 = .ok (.iload 4, 2) := by decide +kernel
theorem d_Rf_aimOf_33 : decode M_Rf_aimOf.2.1 33 = .ok (.ifCond .eq 41, 3) := by decide +kernel
theorem d_Rf_aimOf_36 : decode M_Rf_aimOf.2.1 36 = .ok (.iload_n 2, 1) := by decide +kernel
theorem d_Rf_aimOf_37 : decode M_Rf_aimOf.2.1 37 = .ok (.iconst (-1), 1) := by decide +kernel
theorem d_Rf_aimOf_38 : decode M_Rf_aimOf.2.1 38 = .ok (.if_icmp .eq 32, 3) := by decide +kernel
theorem d_Rf_aimOf_41 : decode M_Rf_aimOf.2.1 41 = .ok (.aload_n 0, 1) := by decide +kernel
theorem d_Rf_aimOf_42 : decode M_Rf_aimOf.2.1 42 = .ok (.getfield 7, 3) := by decide +kernel
theorem d_Rf_aimOf_45 : decode M_Rf_aimOf.2.1 45 = .ok (.iconst 0, 1) := by decide +kernel
theorem d_Rf_aimOf_46 : decode M_Rf_aimOf.2.1 46 = .ok (.bipush 6, 2) := by decide +kernel
theorem d_Rf_aimOf_48 : decode M_Rf_aimOf.2.1 48 = .ok (.iload_n 1, 1) := by decide +kernel
theorem d_Rf_aimOf_49 : decode M_Rf_aimOf.2.1 49 = .ok (.imul, 1) := by decide +kernel
theorem d_Rf_aimOf_50 : decode M_Rf_aimOf.2.1 50 = .ok (.iadd, 1) := by decide +kernel
theorem d_Rf_aimOf_51 : decode M_Rf_aimOf.2.1 51 = .ok (.iload_n 3, 1) := by decide +kernel
theorem d_Rf_aimOf_52 : decode M_Rf_aimOf.2.1 52 = .ok (.iadd, 1) := by decide +kernel
theorem d_Rf_aimOf_53 : decode M_Rf_aimOf.2.1 53 = .ok (.iaload, 1) := by decide +kernel
theorem d_Rf_aimOf_54 : decode M_Rf_aimOf.2.1 54 = .ok (.aload_n 0, 1) := by decide +kernel
theorem d_Rf_aimOf_55 : decode M_Rf_aimOf.2.1 55 = .ok (.getfield 7, 3) := by decide +kernel
theorem d_Rf_aimOf_58 : decode M_Rf_aimOf.2.1 58 = .ok (.iconst 0, 1) := by decide +kernel
theorem d_Rf_aimOf_59 : decode M_Rf_aimOf.2.1 59 = .ok (.bipush 6, 2) := by decide +kernel
theorem d_Rf_aimOf_61 : decode M_Rf_aimOf.2.1 61 = .ok (.iload_n 1, 1) := by decide +kernel
theorem d_Rf_aimOf_62 : decode M_Rf_aimOf.2.1 62 = .ok (.imul, 1) := by decide +kernel
theorem d_Rf_aimOf_63 : decode M_Rf_aimOf.2.1 63 = .ok (.iadd, 1) := by decide +kernel
theorem d_Rf_aimOf_64 : decode M_Rf_aimOf.2.1 64 = .ok (.iload_n 2, 1) := by decide +kernel
theorem d_Rf_aimOf_65 : decode M_Rf_aimOf.2.1 65 = .ok (.iadd, 1) := by decide +kernel
theorem d_Rf_aimOf_66 : decode M_Rf_aimOf.2.1 66 = .ok (.iaload, 1) := by decide +kernel
theorem d_Rf_aimOf_67 : decode M_Rf_aimOf.2.1 67 = .ok (.if_icmp .le 7, 3) := by decide +kernel
theorem d_Rf_aimOf_70 : decode M_Rf_aimOf.2.1 70 = .ok (.iload_n 3, 1) := by decide +kernel
theorem d_Rf_aimOf_71 : decode M_Rf_aimOf.2.1 71 = .ok (.goto 4, 3) := by decide +kernel
theorem d_Rf_aimOf_74 : decode M_Rf_aimOf.2.1 74 = .ok (.iload_n 2, 1) := by decide +kernel
theorem d_Rf_aimOf_75 : decode M_Rf_aimOf.2.1 75 = .ok (.istore_n 2, 1) := by decide +kernel
theorem d_Rf_aimOf_76 : decode M_Rf_aimOf.2.1 76 = .ok (.iinc 3 1, 3) := by decide +kernel
theorem d_Rf_aimOf_79 : decode M_Rf_aimOf.2.1 79 = .ok (.goto (-75), 3) := by decide +kernel
theorem d_Rf_aimOf_82 : decode M_Rf_aimOf.2.1 82 = .ok (.iload_n 2, 1) := by decide +kernel
theorem d_Rf_aimOf_83 : decode M_Rf_aimOf.2.1 83 = .ok (.ireturn, 1) := by decide +kernel
set_option maxHeartbeats 4000000 in
set_option maxRecDepth 100000 in
theorem ok_Rf_aimOf {D : xD} {N : Nat} {l : Launch} {d : Nat} {c z : T2} {P Q : Nat → Int32} {rest : List va_E} {K : Option Value → List va_E → Prop} {s : Nat} (hs : s < 6) (hK : K (some (.int (ov (am c P s 6)))) (encR D N c z P Q ++ rest)) : Ok D N l d M_Rf_aimOf [.ref (N + 0), .int (nI s)] (encR D N c z P Q ++ rest) 0 0 K := by
  have lp : ∀ b : Nat, b ≤ 6 → Wp D N l (EI M_Rf_aimOf) M_Rf_aimOf (Rm d 0 0) (Qm D N K 0 0) 0 0 4 [(3, .int (nI b)), (2, .int (ov (am c P s b))), (0, .ref (N + 0)), (1, .int (nI s))] [] (encR D N c z P Q ++ rest) := by
    refine up_loop ?_ ?_
    · skip
      refine wp_iload_n d_Rf_aimOf_4 rfl rfl ?_
      refine wp_bipush d_Rf_aimOf_5 rfl bp_6 ?_
      refine wp_icmp_ge_t (tgt := 82) d_Rf_aimOf_7 (by decide) (nI_le (Nat.le_refl _) (by decide)) ?_
      refine wp_iload_n d_Rf_aimOf_82 rfl rfl ?_
      refine wp_iret d_Rf_aimOf_83 rfl (Nat.le_refl _) (Nat.le_refl _) ?_
      exact hK
    · intro b hb ih
      cases ho : am c P s b with
      | none =>
        refine wp_iload_n d_Rf_aimOf_4 rfl rfl ?_
        refine wp_bipush d_Rf_aimOf_5 rfl bp_6 ?_
        refine wp_icmp_ge_f (tgt := 82) d_Rf_aimOf_7 (by decide) rfl (nI_ge hb (by decide)) ?_
        refine wp_aload_n d_Rf_aimOf_10 rfl rfl ?_
        refine wp_get fl_Rf_19 d_Rf_aimOf_11 rfl rfl rfl ?_
        refine wp_bipush d_Rf_aimOf_14 rfl bp_6 ?_
        refine wp_iload_n d_Rf_aimOf_16 rfl rfl ?_
        first | refine wp_imulN d_Rf_aimOf_17 rfl ?_ | refine wp_imul d_Rf_aimOf_17 rfl ?_
        refine wp_iload_n d_Rf_aimOf_18 rfl rfl ?_
        first | refine wp_iaddN d_Rf_aimOf_19 rfl ?_ | refine wp_iadd d_Rf_aimOf_19 rfl ?_
        refine wp_iald d_Rf_aimOf_20 rfl (rfl) (by omega) (by decide) ?_
        refine wp_if_le (tgt := 28) d_Rf_aimOf_21 (by decide) rfl (fun hc_21 => ?_) (fun hc_21 => ?_)
        · refine wp_iconst d_Rf_aimOf_28 rfl ic_0 ?_
          refine wp_istore (L2 := [(4, _), (3, _), (2, _), (0, _), (1, _)]) d_Rf_aimOf_29 rfl (by decide) rfl ?_
          refine wp_iload d_Rf_aimOf_31 rfl rfl ?_
          refine wp_if_eq_t (tgt := 74) d_Rf_aimOf_33 (by decide) (by decide) ?_
          refine wp_iload_n d_Rf_aimOf_74 rfl rfl ?_
          refine wp_istore_n (L2 := [(2, _), (4, _), (3, _), (0, _), (1, _)]) d_Rf_aimOf_75 rfl (by decide) rfl ?_
          refine wp_iinc (L2 := [(3, _), (2, _), (4, _), (0, _), (1, _)]) d_Rf_aimOf_76 rfl rfl (iinc_1) (by decide) rfl ?_
          refine wp_goto (tgt := 4) d_Rf_aimOf_79 (by decide) ?_
          refine wp_sub [0, 1, 3, 4] rfl ?_
          first | (rw [am, ho, if_pos (nle_lt hc_21)] at ih; exact ih) | (rw [am, ho, if_neg (le_nlt hc_21)] at ih; exact ih)
        · refine wp_iconst d_Rf_aimOf_24 rfl ic_1 ?_
          refine wp_goto (tgt := 29) d_Rf_aimOf_25 (by decide) ?_
          refine wp_istore (L2 := [(4, _), (3, _), (2, _), (0, _), (1, _)]) d_Rf_aimOf_29 rfl (by decide) rfl ?_
          refine wp_iload d_Rf_aimOf_31 rfl rfl ?_
          refine wp_if_eq_f (tgt := 74) d_Rf_aimOf_33 (by decide) rfl (by decide) ?_
          refine wp_iload_n d_Rf_aimOf_36 rfl rfl ?_
          refine wp_iconst d_Rf_aimOf_37 rfl ic_m1 ?_
          refine wp_icmp_eq_t (tgt := 70) d_Rf_aimOf_38 (by decide) (rfl) ?_
          refine wp_iload_n d_Rf_aimOf_70 rfl rfl ?_
          refine wp_goto (tgt := 75) d_Rf_aimOf_71 (by decide) ?_
          refine wp_istore_n (L2 := [(2, _), (4, _), (3, _), (0, _), (1, _)]) d_Rf_aimOf_75 rfl (by decide) rfl ?_
          refine wp_iinc (L2 := [(3, _), (2, _), (4, _), (0, _), (1, _)]) d_Rf_aimOf_76 rfl rfl (iinc_1) (by decide) rfl ?_
          refine wp_goto (tgt := 4) d_Rf_aimOf_79 (by decide) ?_
          refine wp_sub [0, 1, 3, 4] rfl ?_
          first | (rw [am, ho, if_pos (nle_lt hc_21)] at ih; exact ih) | (rw [am, ho, if_neg (le_nlt hc_21)] at ih; exact ih)
      | some j =>
        have hj := am_lt ho
        refine wp_iload_n d_Rf_aimOf_4 rfl rfl ?_
        refine wp_bipush d_Rf_aimOf_5 rfl bp_6 ?_
        refine wp_icmp_ge_f (tgt := 82) d_Rf_aimOf_7 (by decide) rfl (nI_ge hb (by decide)) ?_
        refine wp_aload_n d_Rf_aimOf_10 rfl rfl ?_
        refine wp_get fl_Rf_19 d_Rf_aimOf_11 rfl rfl rfl ?_
        refine wp_bipush d_Rf_aimOf_14 rfl bp_6 ?_
        refine wp_iload_n d_Rf_aimOf_16 rfl rfl ?_
        first | refine wp_imulN d_Rf_aimOf_17 rfl ?_ | refine wp_imul d_Rf_aimOf_17 rfl ?_
        refine wp_iload_n d_Rf_aimOf_18 rfl rfl ?_
        first | refine wp_iaddN d_Rf_aimOf_19 rfl ?_ | refine wp_iadd d_Rf_aimOf_19 rfl ?_
        refine wp_iald d_Rf_aimOf_20 rfl (rfl) (by omega) (by decide) ?_
        refine wp_if_le (tgt := 28) d_Rf_aimOf_21 (by decide) rfl (fun hc_21 => ?_) (fun hc_21 => ?_)
        · refine wp_iconst d_Rf_aimOf_28 rfl ic_0 ?_
          refine wp_istore (L2 := [(4, _), (3, _), (2, _), (0, _), (1, _)]) d_Rf_aimOf_29 rfl (by decide) rfl ?_
          refine wp_iload d_Rf_aimOf_31 rfl rfl ?_
          refine wp_if_eq_t (tgt := 74) d_Rf_aimOf_33 (by decide) (by decide) ?_
          refine wp_iload_n d_Rf_aimOf_74 rfl rfl ?_
          refine wp_istore_n (L2 := [(2, _), (4, _), (3, _), (0, _), (1, _)]) d_Rf_aimOf_75 rfl (by decide) rfl ?_
          refine wp_iinc (L2 := [(3, _), (2, _), (4, _), (0, _), (1, _)]) d_Rf_aimOf_76 rfl rfl (iinc_1) (by decide) rfl ?_
          refine wp_goto (tgt := 4) d_Rf_aimOf_79 (by decide) ?_
          refine wp_sub [0, 1, 3, 4] rfl ?_
          first | (rw [am, ho, if_pos (nle_lt hc_21)] at ih; dsimp only at ih; first | (rw [if_pos (nle_lt hc_67)] at ih; exact ih) | (rw [if_neg (le_nlt hc_67)] at ih; exact ih)) | (rw [am, ho, if_neg (le_nlt hc_21)] at ih; exact ih)
        · refine wp_iconst d_Rf_aimOf_24 rfl ic_1 ?_
          refine wp_goto (tgt := 29) d_Rf_aimOf_25 (by decide) ?_
          refine wp_istore (L2 := [(4, _), (3, _), (2, _), (0, _), (1, _)]) d_Rf_aimOf_29 rfl (by decide) rfl ?_
          refine wp_iload d_Rf_aimOf_31 rfl rfl ?_
          refine wp_if_eq_f (tgt := 74) d_Rf_aimOf_33 (by decide) rfl (by decide) ?_
          refine wp_iload_n d_Rf_aimOf_36 rfl rfl ?_
          refine wp_iconst d_Rf_aimOf_37 rfl ic_m1 ?_
          refine wp_icmp_eq_f (tgt := 70) d_Rf_aimOf_38 (by decide) rfl (nI_nm1 (by omega)) ?_
          refine wp_aload_n d_Rf_aimOf_41 rfl rfl ?_
          refine wp_get fl_Rf_7 d_Rf_aimOf_42 rfl rfl rfl ?_
          refine wp_iconst d_Rf_aimOf_45 rfl ic_0 ?_
          refine wp_bipush d_Rf_aimOf_46 rfl bp_6 ?_
          refine wp_iload_n d_Rf_aimOf_48 rfl rfl ?_
          first | refine wp_imulN d_Rf_aimOf_49 rfl ?_ | refine wp_imul d_Rf_aimOf_49 rfl ?_
          first | refine wp_iaddN d_Rf_aimOf_50 rfl ?_ | refine wp_iadd d_Rf_aimOf_50 rfl ?_
          refine wp_iload_n d_Rf_aimOf_51 rfl rfl ?_
          first | refine wp_iaddN d_Rf_aimOf_52 rfl ?_ | refine wp_iadd d_Rf_aimOf_52 rfl ?_
          rw [Nat.zero_add]
          refine wp_iald d_Rf_aimOf_53 rfl (rfl) (by omega) (by decide) ?_
          refine wp_aload_n d_Rf_aimOf_54 rfl rfl ?_
          refine wp_get fl_Rf_7 d_Rf_aimOf_55 rfl rfl rfl ?_
          refine wp_iconst d_Rf_aimOf_58 rfl ic_0 ?_
          refine wp_bipush d_Rf_aimOf_59 rfl bp_6 ?_
          refine wp_iload_n d_Rf_aimOf_61 rfl rfl ?_
          first | refine wp_imulN d_Rf_aimOf_62 rfl ?_ | refine wp_imul d_Rf_aimOf_62 rfl ?_
          first | refine wp_iaddN d_Rf_aimOf_63 rfl ?_ | refine wp_iadd d_Rf_aimOf_63 rfl ?_
          refine wp_iload_n d_Rf_aimOf_64 rfl rfl ?_
          first | refine wp_iaddN d_Rf_aimOf_65 rfl ?_ | refine wp_iadd d_Rf_aimOf_65 rfl ?_
          rw [Nat.zero_add]
          refine wp_iald d_Rf_aimOf_66 rfl (rfl) (by omega) (by decide) ?_
          refine wp_icmp_le (tgt := 74) d_Rf_aimOf_67 (by decide) rfl (fun hc_67 => ?_) (fun hc_67 => ?_)
          · refine wp_iload_n d_Rf_aimOf_74 rfl rfl ?_
            refine wp_istore_n (L2 := [(2, _), (4, _), (3, _), (0, _), (1, _)]) d_Rf_aimOf_75 rfl (by decide) rfl ?_
            refine wp_iinc (L2 := [(3, _), (2, _), (4, _), (0, _), (1, _)]) d_Rf_aimOf_76 rfl rfl (iinc_1) (by decide) rfl ?_
            refine wp_goto (tgt := 4) d_Rf_aimOf_79 (by decide) ?_
            refine wp_sub [0, 1, 3, 4] rfl ?_
            first | (rw [am, ho, if_pos (nle_lt hc_21)] at ih; dsimp only at ih; first | (rw [if_pos (nle_lt hc_67)] at ih; exact ih) | (rw [if_neg (le_nlt hc_67)] at ih; exact ih)) | (rw [am, ho, if_neg (le_nlt hc_21)] at ih; exact ih)
          · refine wp_iload_n d_Rf_aimOf_70 rfl rfl ?_
            refine wp_goto (tgt := 75) d_Rf_aimOf_71 (by decide) ?_
            refine wp_istore_n (L2 := [(2, _), (4, _), (3, _), (0, _), (1, _)]) d_Rf_aimOf_75 rfl (by decide) rfl ?_
            refine wp_iinc (L2 := [(3, _), (2, _), (4, _), (0, _), (1, _)]) d_Rf_aimOf_76 rfl rfl (iinc_1) (by decide) rfl ?_
            refine wp_goto (tgt := 4) d_Rf_aimOf_79 (by decide) ?_
            refine wp_sub [0, 1, 3, 4] rfl ?_
            first | (rw [am, ho, if_pos (nle_lt hc_21)] at ih; dsimp only at ih; first | (rw [if_pos (nle_lt hc_67)] at ih; exact ih) | (rw [if_neg (le_nlt hc_67)] at ih; exact ih)) | (rw [am, ho, if_neg (le_nlt hc_21)] at ih; exact ih)
  refine ok_of (L := [(0, _), (1, _)]) (by decide) (Nat.le_of_ble_eq_true rfl) rfl ?_
  refine wp_iconst d_Rf_aimOf_0 rfl ic_m1 ?_
  refine wp_istore_n (L2 := [(2, _), (0, _), (1, _)]) d_Rf_aimOf_1 rfl (by decide) rfl ?_
  refine wp_iconst d_Rf_aimOf_2 rfl ic_0 ?_
  refine wp_istore_n (L2 := [(3, _), (2, _), (0, _), (1, _)]) d_Rf_aimOf_3 rfl (by decide) rfl ?_
  exact lp 0 (Nat.zero_le _)
theorem d_Tn_mostWanted_0 : decode M_Tn_mostWanted.2.1 0 = .ok (.iconst (-1), 1) := by decide +kernel
theorem d_Tn_mostWanted_1 : decode M_Tn_mostWanted.2.1 1 = .ok (.istore_n 3, 1) := by decide +kernel
theorem d_Tn_mostWanted_2 : decode M_Tn_mostWanted.2.1 2 = .ok (.iconst 0, 1) := by decide +kernel
theorem d_Tn_mostWanted_3 : decode M_Tn_mostWanted.2.1 3 = .ok (.istore 4, 2) := by decide +kernel
theorem d_Tn_mostWanted_5 : decode M_Tn_mostWanted.2.1 5 = .ok (.iload 4, 2) := by decide +kernel
theorem d_Tn_mostWanted_7 : decode M_Tn_mostWanted.2.1 7 = .ok (.bipush 6, 2) := by decide +kernel
theorem d_Tn_mostWanted_9 : decode M_Tn_mostWanted.2.1 9 = .ok (.if_icmp .ge 60, 3) := by decide +kernel
theorem d_Tn_mostWanted_12 : decode M_Tn_mostWanted.2.1 12 = .ok (.aload_n 0, 1) := by decide +kernel
theorem d_Tn_mostWanted_13 : decode M_Tn_mostWanted.2.1 13 = .ok (.getfield 9, 3) := by decide +kernel
theorem d_Tn_mostWanted_16 : decode M_Tn_mostWanted.2.1 16 = .ok (.iload_n 2, 1) := by decide +kernel
theorem d_Tn_mostWanted_17 : decode M_Tn_mostWanted.2.1 17 = .ok (.bipush 6, 2) := by decide +kernel
theorem d_Tn_mostWanted_19 : decode M_Tn_mostWanted.2.1 19 = .ok (.imul, 1) := by decide +kernel
theorem d_Tn_mostWanted_20 : decode M_Tn_mostWanted.2.1 20 = .ok (.iload 4, 2) := by decide +kernel
theorem d_Tn_mostWanted_22 : decode M_Tn_mostWanted.2.1 22 = .ok (.iadd, 1) := by decide +kernel
theorem d_Tn_mostWanted_23 : decode M_Tn_mostWanted.2.1 23 = .ok (.iaload, 1) := by decide +kernel
theorem d_Tn_mostWanted_24 : decode M_Tn_mostWanted.2.1 24 = .ok (.ifCond .ne 6, 3) := by decide +kernel
theorem d_Tn_mostWanted_27 : decode M_Tn_mostWanted.2.1 27 = .ok (.goto 36, 3) := by decide +kernel
theorem d_Tn_mostWanted_30 : decode M_Tn_mostWanted.2.1 30 = .ok (.iload_n 3, 1) := by decide +kernel
theorem d_Tn_mostWanted_31 : decode M_Tn_mostWanted.2.1 31 = .ok (.ifCond .lt 29, 3) := by decide +kernel
theorem d_Tn_mostWanted_34 : decode M_Tn_mostWanted.2.1 34 = .ok (.aload_n 1, 1) := by decide +kernel
theorem d_Tn_mostWanted_35 : decode M_Tn_mostWanted.2.1 35 = .ok (.getfield 149, 3) := by decide +kernel
theorem d_Tn_mostWanted_38 : decode M_Tn_mostWanted.2.1 38 = .ok (.iload_n 2, 1) := by decide +kernel
theorem d_Tn_mostWanted_39 : decode M_Tn_mostWanted.2.1 39 = .ok (.bipush 6, 2) := by decide +kernel
theorem d_Tn_mostWanted_41 : decode M_Tn_mostWanted.2.1 41 = .ok (.imul, 1) := by decide +kernel
theorem d_Tn_mostWanted_42 : decode M_Tn_mostWanted.2.1 42 = .ok (.iload 4, 2) := by decide +kernel
theorem d_Tn_mostWanted_44 : decode M_Tn_mostWanted.2.1 44 = .ok (.iadd, 1) := by decide +kernel
theorem d_Tn_mostWanted_45 : decode M_Tn_mostWanted.2.1 45 = .ok (.iaload, 1) := by decide +kernel
theorem d_Tn_mostWanted_46 : decode M_Tn_mostWanted.2.1 46 = .ok (.aload_n 1, 1) := by decide +kernel
theorem d_Tn_mostWanted_47 : decode M_Tn_mostWanted.2.1 47 = .ok (.getfield 149, 3) := by decide +kernel
theorem d_Tn_mostWanted_50 : decode M_Tn_mostWanted.2.1 50 = .ok (.iload_n 2, 1) := by decide +kernel
theorem d_Tn_mostWanted_51 : decode M_Tn_mostWanted.2.1 51 = .ok (.bipush 6, 2) := by decide +kernel
theorem d_Tn_mostWanted_53 : decode M_Tn_mostWanted.2.1 53 = .ok (.imul, 1) := by decide +kernel
theorem d_Tn_mostWanted_54 : decode M_Tn_mostWanted.2.1 54 = .ok (.iload_n 3, 1) := by decide +kernel
theorem d_Tn_mostWanted_55 : decode M_Tn_mostWanted.2.1 55 = .ok (.iadd, 1) := by decide +kernel
theorem d_Tn_mostWanted_56 : decode M_Tn_mostWanted.2.1 56 = .ok (.iaload, 1) := by decide +kernel
theorem d_Tn_mostWanted_57 : decode M_Tn_mostWanted.2.1 57 = .ok (.if_icmp .le 6, 3) := by decide +kernel
theorem d_Tn_mostWanted_60 : decode M_Tn_mostWanted.2.1 60 = .ok (.iload 4, 2) := by decide +kernel
theorem d_Tn_mostWanted_62 : decode M_Tn_mostWanted.2.1 62 = .ok (.istore_n 3, 1) := by decide +kernel
theorem d_Tn_mostWanted_63 : decode M_Tn_mostWanted.2.1 63 = .ok (.iinc 4 1, 3) := by decide +kernel
theorem d_Tn_mostWanted_66 : decode M_Tn_mostWanted.2.1 66 = .ok (.goto (-61), 3) := by decide +kernel
theorem d_Tn_mostWanted_69 : decode M_Tn_mostWanted.2.1 69 = .ok (.iload_n 3, 1) := by decide +kernel
theorem d_Tn_mostWanted_70 : decode M_Tn_mostWanted.2.1 70 = .ok (.ireturn, 1) := by decide +kernel
set_option maxHeartbeats 4000000 in
set_option maxRecDepth 100000 in
theorem ok_Tn_mostWanted {D : xD} {N : Nat} {l : Launch} {d : Nat} {c x V : T2} {P : Nat → Int32} {w : Nat} {ln df : Nat → Option Nat} {rest : List va_E} {K : Option Value → List va_E → Prop} (hw : w < 3) (hr0 : ∀ i, i < 36 → (0 < c 2 i ↔ ¬ c 2 i = 0)) {s : Nat} (hs : s < 6) (hK : K (some (.int (ov (am c P s 6)))) (encC D N c x (va_up V w P) ln df ++ rest)) : Ok D N l d M_Tn_mostWanted [.ref (N + 1), .ref (N + wA w), .int (nI s)] (encC D N c x (va_up V w P) ln df ++ rest) 0 0 K := by
  have lp : ∀ b : Nat, b ≤ 6 → Wp D N l (EI M_Tn_mostWanted) M_Tn_mostWanted (Rm d 0 0) (Qm D N K 0 0) 0 0 5 [(4, .int (nI b)), (3, .int (ov (am c P s b))), (0, .ref (N + 1)), (1, .ref (N + wA w)), (2, .int (nI s))] [] (encC D N c x (va_up V w P) ln df ++ rest) := by
    refine up_loop ?_ ?_
    · skip
      refine wp_iload d_Tn_mostWanted_5 rfl rfl ?_
      refine wp_bipush d_Tn_mostWanted_7 rfl bp_6 ?_
      refine wp_icmp_ge_t (tgt := 69) d_Tn_mostWanted_9 (by decide) (nI_le (Nat.le_refl _) (by decide)) ?_
      refine wp_iload_n d_Tn_mostWanted_69 rfl rfl ?_
      refine wp_iret d_Tn_mostWanted_70 rfl (Nat.le_refl _) (Nat.le_refl _) ?_
      exact hK
    · intro b hb ih
      cases ho : am c P s b with
      | none =>
        refine wp_iload d_Tn_mostWanted_5 rfl rfl ?_
        refine wp_bipush d_Tn_mostWanted_7 rfl bp_6 ?_
        refine wp_icmp_ge_f (tgt := 69) d_Tn_mostWanted_9 (by decide) rfl (nI_ge hb (by decide)) ?_
        refine wp_aload_n d_Tn_mostWanted_12 rfl rfl ?_
        refine wp_get fl_Tn_9 d_Tn_mostWanted_13 rfl rfl rfl ?_
        refine wp_iload_n d_Tn_mostWanted_16 rfl rfl ?_
        refine wp_bipush d_Tn_mostWanted_17 rfl bp_6 ?_
        first | refine wp_imulC d_Tn_mostWanted_19 rfl ?_ | refine wp_imul d_Tn_mostWanted_19 rfl ?_
        refine wp_iload d_Tn_mostWanted_20 rfl rfl ?_
        first | refine wp_iaddN d_Tn_mostWanted_22 rfl ?_ | refine wp_iadd d_Tn_mostWanted_22 rfl ?_
        refine wp_iald d_Tn_mostWanted_23 rfl (rfl) (by omega) (by decide) ?_
        refine wp_if_ne (tgt := 30) d_Tn_mostWanted_24 (by decide) rfl (fun hc_24 => ?_) (fun hc_24 => ?_)
        · refine wp_iload_n d_Tn_mostWanted_30 rfl rfl ?_
          refine wp_if_lt_t (tgt := 60) d_Tn_mostWanted_31 (by decide) (by decide) ?_
          refine wp_iload d_Tn_mostWanted_60 rfl rfl ?_
          refine wp_istore_n (L2 := [(3, _), (4, _), (0, _), (1, _), (2, _)]) d_Tn_mostWanted_62 rfl (by decide) rfl ?_
          refine wp_iinc (L2 := [(4, _), (3, _), (0, _), (1, _), (2, _)]) d_Tn_mostWanted_63 rfl rfl (iinc_1) (by decide) rfl ?_
          refine wp_goto (tgt := 5) d_Tn_mostWanted_66 (by decide) ?_
          first | (rw [am, ho, if_pos ((hr0 _ (by omega)).mpr hc_24)] at ih; exact ih) | (rw [am, ho, if_neg (fun z => (hr0 _ (by omega)).mp z hc_24)] at ih; exact ih)
        · refine wp_goto (tgt := 63) d_Tn_mostWanted_27 (by decide) ?_
          refine wp_iinc (L2 := [(4, _), (3, _), (0, _), (1, _), (2, _)]) d_Tn_mostWanted_63 rfl rfl (iinc_1) (by decide) rfl ?_
          refine wp_goto (tgt := 5) d_Tn_mostWanted_66 (by decide) ?_
          first | (rw [am, ho, if_pos ((hr0 _ (by omega)).mpr hc_24)] at ih; exact ih) | (rw [am, ho, if_neg (fun z => (hr0 _ (by omega)).mp z hc_24)] at ih; exact ih)
      | some j =>
        have hj := am_lt ho
        refine wp_iload d_Tn_mostWanted_5 rfl rfl ?_
        refine wp_bipush d_Tn_mostWanted_7 rfl bp_6 ?_
        refine wp_icmp_ge_f (tgt := 69) d_Tn_mostWanted_9 (by decide) rfl (nI_ge hb (by decide)) ?_
        refine wp_aload_n d_Tn_mostWanted_12 rfl rfl ?_
        refine wp_get fl_Tn_9 d_Tn_mostWanted_13 rfl rfl rfl ?_
        refine wp_iload_n d_Tn_mostWanted_16 rfl rfl ?_
        refine wp_bipush d_Tn_mostWanted_17 rfl bp_6 ?_
        first | refine wp_imulC d_Tn_mostWanted_19 rfl ?_ | refine wp_imul d_Tn_mostWanted_19 rfl ?_
        refine wp_iload d_Tn_mostWanted_20 rfl rfl ?_
        first | refine wp_iaddN d_Tn_mostWanted_22 rfl ?_ | refine wp_iadd d_Tn_mostWanted_22 rfl ?_
        refine wp_iald d_Tn_mostWanted_23 rfl (rfl) (by omega) (by decide) ?_
        refine wp_if_ne (tgt := 30) d_Tn_mostWanted_24 (by decide) rfl (fun hc_24 => ?_) (fun hc_24 => ?_)
        · refine wp_iload_n d_Tn_mostWanted_30 rfl rfl ?_
          refine wp_if_lt_f (tgt := 60) d_Tn_mostWanted_31 (by decide) rfl (nI_pos (by omega)) ?_
          refine wp_aload_n d_Tn_mostWanted_34 rfl rfl ?_
          refine wp_get fl_Tn_149 d_Tn_mostWanted_35 rfl (rdO (w := w) hw) rfl ?_
          refine wp_iload_n d_Tn_mostWanted_38 rfl rfl ?_
          refine wp_bipush d_Tn_mostWanted_39 rfl bp_6 ?_
          first | refine wp_imulC d_Tn_mostWanted_41 rfl ?_ | refine wp_imul d_Tn_mostWanted_41 rfl ?_
          refine wp_iload d_Tn_mostWanted_42 rfl rfl ?_
          first | refine wp_iaddN d_Tn_mostWanted_44 rfl ?_ | refine wp_iadd d_Tn_mostWanted_44 rfl ?_
          refine wp_iald d_Tn_mostWanted_45 rfl (rd1 (w := w) hw) (by omega) (by decide) ?_
          refine wp_aload_n d_Tn_mostWanted_46 rfl rfl ?_
          refine wp_get fl_Tn_149 d_Tn_mostWanted_47 rfl (rdO (w := w) hw) rfl ?_
          refine wp_iload_n d_Tn_mostWanted_50 rfl rfl ?_
          refine wp_bipush d_Tn_mostWanted_51 rfl bp_6 ?_
          first | refine wp_imulC d_Tn_mostWanted_53 rfl ?_ | refine wp_imul d_Tn_mostWanted_53 rfl ?_
          refine wp_iload_n d_Tn_mostWanted_54 rfl rfl ?_
          first | refine wp_iaddN d_Tn_mostWanted_55 rfl ?_ | refine wp_iadd d_Tn_mostWanted_55 rfl ?_
          refine wp_iald d_Tn_mostWanted_56 rfl (rd1 (w := w) hw) (by omega) (by decide) ?_
          rw [sl_at (show 6 * s + b < 36 by omega), sl_at (show 6 * s + j < 36 by omega), Nat.zero_add, Nat.zero_add]
          refine wp_icmp_le (tgt := 63) d_Tn_mostWanted_57 (by decide) rfl (fun hc_57 => ?_) (fun hc_57 => ?_)
          · refine wp_iinc (L2 := [(4, _), (3, _), (0, _), (1, _), (2, _)]) d_Tn_mostWanted_63 rfl rfl (iinc_1) (by decide) rfl ?_
            refine wp_goto (tgt := 5) d_Tn_mostWanted_66 (by decide) ?_
            first | (rw [am, ho, if_pos ((hr0 _ (by omega)).mpr hc_24)] at ih; dsimp only at ih; first | (rw [if_pos (nle_lt hc_57)] at ih; exact ih) | (rw [if_neg (le_nlt hc_57)] at ih; exact ih)) | (rw [am, ho, if_neg (fun z => (hr0 _ (by omega)).mp z hc_24)] at ih; exact ih)
          · refine wp_iload d_Tn_mostWanted_60 rfl rfl ?_
            refine wp_istore_n (L2 := [(3, _), (4, _), (0, _), (1, _), (2, _)]) d_Tn_mostWanted_62 rfl (by decide) rfl ?_
            refine wp_iinc (L2 := [(4, _), (3, _), (0, _), (1, _), (2, _)]) d_Tn_mostWanted_63 rfl rfl (iinc_1) (by decide) rfl ?_
            refine wp_goto (tgt := 5) d_Tn_mostWanted_66 (by decide) ?_
            first | (rw [am, ho, if_pos ((hr0 _ (by omega)).mpr hc_24)] at ih; dsimp only at ih; first | (rw [if_pos (nle_lt hc_57)] at ih; exact ih) | (rw [if_neg (le_nlt hc_57)] at ih; exact ih)) | (rw [am, ho, if_neg (fun z => (hr0 _ (by omega)).mp z hc_24)] at ih; exact ih)
        · refine wp_goto (tgt := 63) d_Tn_mostWanted_27 (by decide) ?_
          refine wp_iinc (L2 := [(4, _), (3, _), (0, _), (1, _), (2, _)]) d_Tn_mostWanted_63 rfl rfl (iinc_1) (by decide) rfl ?_
          refine wp_goto (tgt := 5) d_Tn_mostWanted_66 (by decide) ?_
          first | (rw [am, ho, if_pos ((hr0 _ (by omega)).mpr hc_24)] at ih; dsimp only at ih; first | (rw [if_pos (nle_lt hc_57)] at ih; exact ih) | (rw [if_neg (le_nlt hc_57)] at ih; exact ih)) | (rw [am, ho, if_neg (fun z => (hr0 _ (by omega)).mp z hc_24)] at ih; exact ih)
  refine ok_of (L := [(0, _), (1, _), (2, _)]) (by decide) (Nat.le_of_ble_eq_true rfl) rfl ?_
  refine wp_iconst d_Tn_mostWanted_0 rfl ic_m1 ?_
  refine wp_istore_n (L2 := [(3, _), (0, _), (1, _), (2, _)]) d_Tn_mostWanted_1 rfl (by decide) rfl ?_
  refine wp_iconst d_Tn_mostWanted_2 rfl ic_0 ?_
  refine wp_istore (L2 := [(4, _), (3, _), (0, _), (1, _), (2, _)]) d_Tn_mostWanted_3 rfl (by decide) rfl ?_
  exact lp 0 (Nat.zero_le _)
end
section
def hr (m : Nat) : Nat := m % 1440 / 60
theorem hr_lt (m : Nat) : hr m < 24 := by unfold hr; omega
def way (c : T2) (a b h : Nat) : Int32 := if c 2 (6 * a + b) * c 4 h / nI 10 < nI 1 then nI 1 else c 2 (6 * a + b) * c 4 h / nI 10
theorem max1 (n : Int32) : (if nI 1 < n then n else nI 1) = if n < nI 1 then nI 1 else n := by
  by_cases h1 : nI 1 < n
  · rw [if_pos h1, if_neg (fun h => by rw [Int32.lt_iff_toInt_lt] at *; omega)]
  · rw [if_neg h1]
    by_cases h2 : n < nI 1
    · rw [if_pos h2]
    · rw [if_neg h2]
      exact Int32.le_antisymm (nlt_le h2) (nlt_le h1)
def fld (c : T2) (P : Nat → Int32) (nb m s b f : Nat) : Int32 := if f = 0 then P 234 - P (144 + b) else if f = 1 then P (120 + b) else if f = 2 then P 235 else if f = 3 then nI (hr m) else if f = 4 then nI (qc P s nb) else if f = 5 then nI s else if f = 6 then c 6 b else P (168 + b)
def tstB (sg v num : Int32) : Bool := if sg = nI 60 then decide (v < num) else if sg = nI 62 then decide (num < v) else decide (v = num)
def hldB (c : T2) (P : Nat → Int32) (nb m s b sl : Nat) : Nat → Bool
  | 0 => true
  | t + 1 => hldB c P nb m s b sl t && tstB (c 27 (3 * sl + t)) (fld c P nb m s b (tn (c 26 (3 * sl + t)))) (c 28 (3 * sl + t))
def blf (c : T2) (P : Nat → Int32) (nb m s b cu : Nat) (key : Int32) : Nat → Option Nat
  | 0 => none
  | l + 1 => if c 23 (8 * cu + l) = key ∧ hldB c P nb m s b (8 * cu + l) (tn (c 25 (8 * cu + l))) = true then some l else blf c P nb m s b cu key l
def lnf (c : T2) (P : Nat → Int32) (nb m s b : Nat) (key : Int32) : Option Nat := if c 10 s = -1 then none else blf c P nb m s b (tn (c 10 s)) key (tn (c 22 (tn (c 10 s))))
def lawv (c : T2) (P : Nat → Int32) (nb m s b key : Nat) : Int32 := match lnf c P nb m s b (nI key) with
  | none => plainI key
  | some i => c 24 (8 * tn (c 10 s) + i)
def isN (x : Int32) (b : Nat) : Prop := x = nI (tn x) ∧ tn x < b
/-- what holds of the customs -/
def CI (c : T2) : Prop := isN (c 32 9) 7 ∧ (∀ s, s < 6 → c 10 s = -1 ∨ isN (c 10 s) (tn (c 32 9))) ∧ ∀ cu, cu < tn (c 32 9) → isN (c 22 cu) 9 ∧ ∀ i, i < tn (c 22 cu) → isN (c 25 (8 * cu + i)) 4 ∧ ∀ t, t < tn (c 25 (8 * cu + i)) → isN (c 26 (3 * (8 * cu + i) + t)) 8
theorem hldB_le {c : T2} {P : Nat → Int32} {nb m s b sl : Nat} : ∀ {t n : Nat}, t ≤ n → hldB c P nb m s b sl n = true → hldB c P nb m s b sl t = true
  | t, 0, h, _ => by rw [show t = 0 by omega]; rfl
  | t, n + 1, h, e => by
    by_cases q : t = n + 1
    · rw [q]; exact e
    · unfold hldB at e
      exact hldB_le (by omega) (Bool.and_eq_true_iff.mp e).1
theorem hldB_no {c : T2} {P : Nat → Int32} {nb m s b sl t n : Nat} (h : t < n) (e : tstB (c 27 (3 * sl + t)) (fld c P nb m s b (tn (c 26 (3 * sl + t)))) (c 28 (3 * sl + t)) = false) : hldB c P nb m s b sl n = false := by
  cases q : hldB c P nb m s b sl n with
  | false => rfl
  | true =>
    have h1 := hldB_le (t := t + 1) (by omega) q
    unfold hldB at h1
    rw [e] at h1
    simp at h1
theorem blf_lt {c : T2} {P : Nat → Int32} {nb m s b cu : Nat} {key : Int32} : ∀ {n j : Nat}, blf c P nb m s b cu key n = some j → j < n
  | 0, j, h => by cases h
  | n + 1, j, h => by
    unfold blf at h
    split at h
    · cases h; omega
    · have := blf_lt h; omega
theorem d_Rf_hour_0 : decode M_Rf_hour.2.1 0 = .ok (.aload_n 0, 1) := by decide +kernel
theorem d_Rf_hour_1 : decode M_Rf_hour.2.1 1 = .ok (.getfield 7, 3) := by decide +kernel
theorem d_Rf_hour_4 : decode M_Rf_hour.2.1 4 = .ok (.sipush 234, 3) := by decide +kernel
theorem d_Rf_hour_7 : decode M_Rf_hour.2.1 7 = .ok (.iaload, 1) := by decide +kernel
theorem d_Rf_hour_8 : decode M_Rf_hour.2.1 8 = .ok (.sipush 1440, 3) := by decide +kernel
theorem d_Rf_hour_11 : decode M_Rf_hour.2.1 11 = .ok (.irem, 1) := by decide +kernel
theorem d_Rf_hour_12 : decode M_Rf_hour.2.1 12 = .ok (.bipush 60, 2) := by decide +kernel
theorem d_Rf_hour_14 : decode M_Rf_hour.2.1 14 = .ok (.idiv, 1) := by decide +kernel
theorem d_Rf_hour_15 : decode M_Rf_hour.2.1 15 = .ok (.ireturn, 1) := by decide +kernel
set_option maxHeartbeats 4000000 in
set_option maxRecDepth 100000 in
theorem ok_Rf_hour {D : xD} {N : Nat} {l : Launch} {d : Nat} {c z : T2} {P Q : Nat → Int32} {rest : List va_E} {K : Option Value → List va_E → Prop} {m : Nat} (em : P 234 = nI m) (hm : m < 14700) (hK : K (some (.int (nI (hr m)))) (encR D N c z P Q ++ rest)) : Ok D N l d M_Rf_hour [.ref (N + 0)] (encR D N c z P Q ++ rest) 0 0 K := by
  refine ok_of (L := [(0, _)]) (by decide) (Nat.le_of_ble_eq_true rfl) rfl ?_
  refine wp_aload_n d_Rf_hour_0 rfl rfl ?_
  refine wp_get fl_Rf_7 d_Rf_hour_1 rfl rfl rfl ?_
  refine wp_sipush d_Rf_hour_4 rfl sp_234 ?_
  refine wp_iald d_Rf_hour_7 rfl (rfl) (by omega) (by decide) ?_
  rw [em]
  refine wp_sipush d_Rf_hour_8 rfl sp_1440 ?_
  refine wp_iremN d_Rf_hour_11 rfl (by omega) (by decide) (by decide) ?_
  refine wp_bipush d_Rf_hour_12 rfl bp_60 ?_
  refine wp_idivN d_Rf_hour_14 rfl (by omega) (by decide) (by decide) ?_
  refine wp_iret d_Rf_hour_15 rfl (Nat.le_refl _) (Nat.le_refl _) ?_
  exact hK
theorem d_Wd_hour_0 : decode M_Wd_hour.2.1 0 = .ok (.aload_n 0, 1) := by decide +kernel
theorem d_Wd_hour_1 : decode M_Wd_hour.2.1 1 = .ok (.getfield 28, 3) := by decide +kernel
theorem d_Wd_hour_4 : decode M_Wd_hour.2.1 4 = .ok (.sipush 1440, 3) := by decide +kernel
theorem d_Wd_hour_7 : decode M_Wd_hour.2.1 7 = .ok (.irem, 1) := by decide +kernel
theorem d_Wd_hour_8 : decode M_Wd_hour.2.1 8 = .ok (.bipush 60, 2) := by decide +kernel
theorem d_Wd_hour_10 : decode M_Wd_hour.2.1 10 = .ok (.idiv, 1) := by decide +kernel
theorem d_Wd_hour_11 : decode M_Wd_hour.2.1 11 = .ok (.ireturn, 1) := by decide +kernel
set_option maxHeartbeats 4000000 in
set_option maxRecDepth 100000 in
theorem ok_Wd_hour {D : xD} {N : Nat} {l : Launch} {d : Nat} {c x V : T2} {P : Nat → Int32} {w : Nat} {ln df : Nat → Option Nat} {rest : List va_E} {K : Option Value → List va_E → Prop} (hw : w < 3) {m : Nat} (em : P 234 = nI m) (hm : m < 14700) (hK : K (some (.int (nI (hr m)))) (encC D N c x (va_up V w P) ln df ++ rest)) : Ok D N l d M_Wd_hour [.ref (N + wA w)] (encC D N c x (va_up V w P) ln df ++ rest) 0 0 K := by
  refine ok_of (L := [(0, _)]) (by decide) (Nat.le_of_ble_eq_true rfl) rfl ?_
  refine wp_aload_n d_Wd_hour_0 rfl rfl ?_
  refine wp_get fl_Wd_28 d_Wd_hour_1 rfl (rdO (w := w) hw) rfl ?_
  rw [em]
  refine wp_sipush d_Wd_hour_4 rfl sp_1440 ?_
  refine wp_iremN d_Wd_hour_7 rfl (by omega) (by decide) (by decide) ?_
  refine wp_bipush d_Wd_hour_8 rfl bp_60 ?_
  refine wp_idivN d_Wd_hour_10 rfl (by omega) (by decide) (by decide) ?_
  refine wp_iret d_Wd_hour_11 rfl (Nat.le_refl _) (Nat.le_refl _) ?_
  exact hK
theorem d_Rf_wayOf_0 : decode M_Rf_wayOf.2.1 0 = .ok (.aload_n 0, 1) := by decide +kernel
theorem d_Rf_wayOf_1 : decode M_Rf_wayOf.2.1 1 = .ok (.getfield 19, 3) := by decide +kernel
theorem d_Rf_wayOf_4 : decode M_Rf_wayOf.2.1 4 = .ok (.bipush 6, 2) := by decide +kernel
theorem d_Rf_wayOf_6 : decode M_Rf_wayOf.2.1 6 = .ok (.iload_n 1, 1) := by decide +kernel
theorem d_Rf_wayOf_7 : decode M_Rf_wayOf.2.1 7 = .ok (.imul, 1) := by decide +kernel
theorem d_Rf_wayOf_8 : decode M_Rf_wayOf.2.1 8 = .ok (.iload_n 2, 1) := by decide +kernel
theorem d_Rf_wayOf_9 : decode M_Rf_wayOf.2.1 9 = .ok (.iadd, 1) := by decide +kernel
theorem d_Rf_wayOf_10 : decode M_Rf_wayOf.2.1 10 = .ok (.iaload, 1) := by decide +kernel
theorem d_Rf_wayOf_11 : decode M_Rf_wayOf.2.1 11 = .ok (.aload_n 0, 1) := by decide +kernel
theorem d_Rf_wayOf_12 : decode M_Rf_wayOf.2.1 12 = .ok (.getfield 25, 3) := by decide +kernel
theorem d_Rf_wayOf_15 : decode M_Rf_wayOf.2.1 15 = .ok (.aload_n 0, 1) := by decide +kernel
theorem d_Rf_wayOf_16 : decode M_Rf_wayOf.2.1 16 = .ok (.invokevirtual 159, 3) := by decide +kernel
theorem d_Rf_wayOf_19 : decode M_Rf_wayOf.2.1 19 = .ok (.iaload, 1) := by decide +kernel
theorem d_Rf_wayOf_20 : decode M_Rf_wayOf.2.1 20 = .ok (.imul, 1) := by decide +kernel
theorem d_Rf_wayOf_21 : decode M_Rf_wayOf.2.1 21 = .ok (.bipush 10, 2) := by decide +kernel
theorem d_Rf_wayOf_23 : decode M_Rf_wayOf.2.1 23 = .ok (.idiv, 1) := by decide +kernel
theorem d_Rf_wayOf_24 : decode M_Rf_wayOf.2.1 24 = .ok (.istore_n 3, 1) := by decide +kernel
theorem d_Rf_wayOf_25 : decode M_Rf_wayOf.2.1 25 = .ok (.iload_n 3, 1) := by decide +kernel
theorem d_Rf_wayOf_26 : decode M_Rf_wayOf.2.1 26 = .ok (.iconst 1, 1) := by decide +kernel
theorem d_Rf_wayOf_27 : decode M_Rf_wayOf.2.1 27 = .ok (.if_icmp .ge 7, 3) := by decide +kernel
theorem d_Rf_wayOf_30 : decode M_Rf_wayOf.2.1 30 = .ok (.iconst 1, 1) := by decide +kernel
theorem d_Rf_wayOf_31 : decode M_Rf_wayOf.2.1 31 = .ok (.goto 4, 3) := by decide +kernel
theorem d_Rf_wayOf_34 : decode M_Rf_wayOf.2.1 34 = .ok (.iload_n 3, 1) := by decide +kernel
theorem d_Rf_wayOf_35 : decode M_Rf_wayOf.2.1 35 = .ok (.ireturn, 1) := by decide +kernel
set_option maxHeartbeats 4000000 in
set_option maxRecDepth 100000 in
theorem ok_Rf_wayOf {D : xD} {N : Nat} {l : Launch} {d : Nat} {c z : T2} {P Q : Nat → Int32} {rest : List va_E} {K : Option Value → List va_E → Prop} {m : Nat} (em : P 234 = nI m) (hm : m < 14700) {a b : Nat} (ha : a < 6) (hb : b < 6) (hK : K (some (.int (way c a b (hr m)))) (encR D N c z P Q ++ rest)) : Ok D N l (d + 1) M_Rf_wayOf [.ref (N + 0), .int (nI a), .int (nI b)] (encR D N c z P Q ++ rest) 0 0 K := by
  have hh := hr_lt m
  refine ok_of (L := [(0, _), (1, _), (2, _)]) (by decide) (Nat.le_of_ble_eq_true rfl) rfl ?_
  refine wp_aload_n d_Rf_wayOf_0 rfl rfl ?_
  refine wp_get fl_Rf_19 d_Rf_wayOf_1 rfl rfl rfl ?_
  refine wp_bipush d_Rf_wayOf_4 rfl bp_6 ?_
  refine wp_iload_n d_Rf_wayOf_6 rfl rfl ?_
  first | refine wp_imulN d_Rf_wayOf_7 rfl ?_ | refine wp_imul d_Rf_wayOf_7 rfl ?_
  refine wp_iload_n d_Rf_wayOf_8 rfl rfl ?_
  first | refine wp_iaddN d_Rf_wayOf_9 rfl ?_ | refine wp_iadd d_Rf_wayOf_9 rfl ?_
  refine wp_iald d_Rf_wayOf_10 rfl (rfl) (by omega) (by decide) ?_
  refine wp_aload_n d_Rf_wayOf_11 rfl rfl ?_
  refine wp_get fl_Rf_25 d_Rf_wayOf_12 rfl rfl rfl ?_
  refine wp_aload_n d_Rf_wayOf_15 rfl rfl ?_
  refine wp_cv0 lk_Rf_159 (ro _ _ _) d_Rf_wayOf_16 rfl (Nat.le_of_ble_eq_true rfl) (rfl) rfl (Nat.zero_le _) (Nat.zero_le _) ?_
  refine ok_Rf_hour em hm ?_
  refine wp_iald d_Rf_wayOf_19 rfl (rfl) (by omega) (by decide) ?_
  refine wp_imul d_Rf_wayOf_20 rfl ?_
  refine wp_bipush d_Rf_wayOf_21 rfl bp_10 ?_
  refine wp_idiv d_Rf_wayOf_23 rfl (by decide) ?_
  refine wp_istore_n (L2 := [(3, _), (0, _), (1, _), (2, _)]) d_Rf_wayOf_24 rfl (by decide) rfl ?_
  refine wp_iload_n d_Rf_wayOf_25 rfl rfl ?_
  refine wp_iconst d_Rf_wayOf_26 rfl ic_1 ?_
  refine wp_icmp_ge (tgt := 34) d_Rf_wayOf_27 (by decide) rfl (fun hc_27 => ?_) (fun hc_27 => ?_)
  · refine wp_iload_n d_Rf_wayOf_34 rfl rfl ?_
    refine wp_iret d_Rf_wayOf_35 rfl (Nat.le_refl _) (Nat.le_refl _) ?_
    first | (rw [way, if_neg (le_nlt hc_27)] at hK; exact hK) | (rw [way, if_pos (nle_lt hc_27)] at hK; exact hK)
  · refine wp_iconst d_Rf_wayOf_30 rfl ic_1 ?_
    refine wp_goto (tgt := 35) d_Rf_wayOf_31 (by decide) ?_
    refine wp_iret d_Rf_wayOf_35 rfl (Nat.le_refl _) (Nat.le_refl _) ?_
    first | (rw [way, if_neg (le_nlt hc_27)] at hK; exact hK) | (rw [way, if_pos (nle_lt hc_27)] at hK; exact hK)
theorem d_Tn_wayOf_0 : decode M_Tn_wayOf.2.1 0 = .ok (.iconst 1, 1) := by decide +kernel
theorem d_Tn_wayOf_1 : decode M_Tn_wayOf.2.1 1 = .ok (.aload_n 0, 1) := by decide +kernel
theorem d_Tn_wayOf_2 : decode M_Tn_wayOf.2.1 2 = .ok (.getfield 9, 3) := by decide +kernel
theorem d_Tn_wayOf_5 : decode M_Tn_wayOf.2.1 5 = .ok (.iload_n 1, 1) := by decide +kernel
theorem d_Tn_wayOf_6 : decode M_Tn_wayOf.2.1 6 = .ok (.bipush 6, 2) := by decide +kernel
theorem d_Tn_wayOf_8 : decode M_Tn_wayOf.2.1 8 = .ok (.imul, 1) := by decide +kernel
theorem d_Tn_wayOf_9 : decode M_Tn_wayOf.2.1 9 = .ok (.iload_n 2, 1) := by decide +kernel
theorem d_Tn_wayOf_10 : decode M_Tn_wayOf.2.1 10 = .ok (.iadd, 1) := by decide +kernel
theorem d_Tn_wayOf_11 : decode M_Tn_wayOf.2.1 11 = .ok (.iaload, 1) := by decide +kernel
theorem d_Tn_wayOf_12 : decode M_Tn_wayOf.2.1 12 = .ok (.aload_n 0, 1) := by decide +kernel
theorem d_Tn_wayOf_13 : decode M_Tn_wayOf.2.1 13 = .ok (.getfield 18, 3) := by decide +kernel
theorem d_Tn_wayOf_16 : decode M_Tn_wayOf.2.1 16 = .ok (.iload_n 3, 1) := by decide +kernel
theorem d_Tn_wayOf_17 : decode M_Tn_wayOf.2.1 17 = .ok (.iaload, 1) := by decide +kernel
theorem d_Tn_wayOf_18 : decode M_Tn_wayOf.2.1 18 = .ok (.imul, 1) := by decide +kernel
theorem d_Tn_wayOf_19 : decode M_Tn_wayOf.2.1 19 = .ok (.bipush 10, 2) := by decide +kernel
theorem d_Tn_wayOf_21 : decode M_Tn_wayOf.2.1 21 = .ok (.idiv, 1) := by decide +kernel
theorem d_Tn_wayOf_22 : decode M_Tn_wayOf.2.1 22 = .ok (.invokestatic 84, 3) := by decide +kernel
theorem d_Tn_wayOf_25 : decode M_Tn_wayOf.2.1 25 = .ok (.ireturn, 1) := by decide +kernel
set_option maxHeartbeats 4000000 in
set_option maxRecDepth 100000 in
theorem ok_Tn_wayOf {D : xD} {N : Nat} {l : Launch} {d : Nat} {c x V : T2} {ln df : Nat → Option Nat} {rest : List va_E} {K : Option Value → List va_E → Prop} {a b : Nat} (ha : a < 6) (hb : b < 6) {h : Nat} (hh : h < 24) (hK : K (some (.int (way c a b h))) (encC D N c x V ln df ++ rest)) : Ok D N l (d + 1) M_Tn_wayOf [.ref (N + 1), .int (nI a), .int (nI b), .int (nI h)] (encC D N c x V ln df ++ rest) 0 0 K := by
  refine ok_of (L := [(0, _), (1, _), (2, _), (3, _)]) (by decide) (Nat.le_of_ble_eq_true rfl) rfl ?_
  refine wp_iconst d_Tn_wayOf_0 rfl ic_1 ?_
  refine wp_aload_n d_Tn_wayOf_1 rfl rfl ?_
  refine wp_get fl_Tn_9 d_Tn_wayOf_2 rfl rfl rfl ?_
  refine wp_iload_n d_Tn_wayOf_5 rfl rfl ?_
  refine wp_bipush d_Tn_wayOf_6 rfl bp_6 ?_
  first | refine wp_imulC d_Tn_wayOf_8 rfl ?_ | refine wp_imul d_Tn_wayOf_8 rfl ?_
  refine wp_iload_n d_Tn_wayOf_9 rfl rfl ?_
  first | refine wp_iaddN d_Tn_wayOf_10 rfl ?_ | refine wp_iadd d_Tn_wayOf_10 rfl ?_
  refine wp_iald d_Tn_wayOf_11 rfl (rfl) (by omega) (by decide) ?_
  refine wp_aload_n d_Tn_wayOf_12 rfl rfl ?_
  refine wp_get fl_Tn_18 d_Tn_wayOf_13 rfl rfl rfl ?_
  refine wp_iload_n d_Tn_wayOf_16 rfl rfl ?_
  refine wp_iald d_Tn_wayOf_17 rfl (rfl) (by omega) (by decide) ?_
  refine wp_imul d_Tn_wayOf_18 rfl ?_
  refine wp_bipush d_Tn_wayOf_19 rfl bp_10 ?_
  refine wp_idiv d_Tn_wayOf_21 rfl (by decide) ?_
  refine wp_mmax km_Tn_84 (RO0 ()) d_Tn_wayOf_22 rfl (Nat.le_of_ble_eq_true rfl) (Nat.zero_le _) (Nat.zero_le _) ?_
  refine wp_iret d_Tn_wayOf_25 rfl (Nat.le_refl _) (Nat.le_refl _) ?_
  rw [max1]; exact hK
theorem d_Rf_fieldOf_0 : decode M_Rf_fieldOf.2.1 0 = .ok (.iload_n 1, 1) := by decide +kernel
theorem d_Rf_fieldOf_1 : decode M_Rf_fieldOf.2.1 1 = .ok (.tableswitch 118 0 6 #[43, 63, 73, 82, 87, 101, 111], 43) := by decide +kernel
theorem d_Rf_fieldOf_44 : decode M_Rf_fieldOf.2.1 44 = .ok (.aload_n 0, 1) := by decide +kernel
theorem d_Rf_fieldOf_45 : decode M_Rf_fieldOf.2.1 45 = .ok (.getfield 7, 3) := by decide +kernel
theorem d_Rf_fieldOf_48 : decode M_Rf_fieldOf.2.1 48 = .ok (.sipush 234, 3) := by decide +kernel
theorem d_Rf_fieldOf_51 : decode M_Rf_fieldOf.2.1 51 = .ok (.iaload, 1) := by decide +kernel
theorem d_Rf_fieldOf_52 : decode M_Rf_fieldOf.2.1 52 = .ok (.aload_n 0, 1) := by decide +kernel
theorem d_Rf_fieldOf_53 : decode M_Rf_fieldOf.2.1 53 = .ok (.getfield 7, 3) := by decide +kernel
theorem d_Rf_fieldOf_56 : decode M_Rf_fieldOf.2.1 56 = .ok (.sipush 144, 3) := by decide +kernel
theorem d_Rf_fieldOf_59 : decode M_Rf_fieldOf.2.1 59 = .ok (.iload_n 2, 1) := by decide +kernel
theorem d_Rf_fieldOf_60 : decode M_Rf_fieldOf.2.1 60 = .ok (.iadd, 1) := by decide +kernel
theorem d_Rf_fieldOf_61 : decode M_Rf_fieldOf.2.1 61 = .ok (.iaload, 1) := by decide +kernel
theorem d_Rf_fieldOf_62 : decode M_Rf_fieldOf.2.1 62 = .ok (.isub, 1) := by decide +kernel
theorem d_Rf_fieldOf_63 : decode M_Rf_fieldOf.2.1 63 = .ok (.ireturn, 1) := by decide +kernel
theorem d_Rf_fieldOf_64 : decode M_Rf_fieldOf.2.1 64 = .ok (.aload_n 0, 1) := by decide +kernel
theorem d_Rf_fieldOf_65 : decode M_Rf_fieldOf.2.1 65 = .ok (.getfield 7, 3) := by decide +kernel
theorem d_Rf_fieldOf_68 : decode M_Rf_fieldOf.2.1 68 = .ok (.bipush 120, 2) := by decide +kernel
theorem d_Rf_fieldOf_70 : decode M_Rf_fieldOf.2.1 70 = .ok (.iload_n 2, 1) := by decide +kernel
theorem d_Rf_fieldOf_71 : decode M_Rf_fieldOf.2.1 71 = .ok (.iadd, 1) := by decide +kernel
theorem d_Rf_fieldOf_72 : decode M_Rf_fieldOf.2.1 72 = .ok (.iaload, 1) := by decide +kernel
theorem d_Rf_fieldOf_73 : decode M_Rf_fieldOf.2.1 73 = .ok (.ireturn, 1) := by decide +kernel
theorem d_Rf_fieldOf_74 : decode M_Rf_fieldOf.2.1 74 = .ok (.aload_n 0, 1) := by decide +kernel
theorem d_Rf_fieldOf_75 : decode M_Rf_fieldOf.2.1 75 = .ok (.getfield 7, 3) := by decide +kernel
theorem d_Rf_fieldOf_78 : decode M_Rf_fieldOf.2.1 78 = .ok (.sipush 235, 3) := by decide +kernel
theorem d_Rf_fieldOf_81 : decode M_Rf_fieldOf.2.1 81 = .ok (.iaload, 1) := by decide +kernel
theorem d_Rf_fieldOf_82 : decode M_Rf_fieldOf.2.1 82 = .ok (.ireturn, 1) := by decide +kernel
theorem d_Rf_fieldOf_83 : decode M_Rf_fieldOf.2.1 83 = .ok (.aload_n 0, 1) := by decide +kernel
theorem d_Rf_fieldOf_84 : decode M_Rf_fieldOf.2.1 84 = .ok (.invokevirtual 159, 3) := by decide +kernel
theorem d_Rf_fieldOf_87 : decode M_Rf_fieldOf.2.1 87 = .ok (.ireturn, 1) := by decide +kernel
theorem d_Rf_fieldOf_88 : decode M_Rf_fieldOf.2.1 88 = .ok (.aload_n 0, 1) := by decide +kernel
theorem d_Rf_fieldOf_89 : decode M_Rf_fieldOf.2.1 89 = .ok (.aload_n 0, 1) := by decide +kernel
theorem d_Rf_fieldOf_90 : decode M_Rf_fieldOf.2.1 90 = .ok (.getfield 7, 3) := by decide +kernel
theorem d_Rf_fieldOf_93 : decode M_Rf_fieldOf.2.1 93 = .ok (.bipush 84, 2) := by decide +kernel
theorem d_Rf_fieldOf_95 : decode M_Rf_fieldOf.2.1 95 = .ok (.iload_n 2, 1) := by decide +kernel
theorem d_Rf_fieldOf_96 : decode M_Rf_fieldOf.2.1 96 = .ok (.iadd, 1) := by decide +kernel
theorem d_Rf_fieldOf_97 : decode M_Rf_fieldOf.2.1 97 = .ok (.iaload, 1) := by decide +kernel
theorem d_Rf_fieldOf_98 : decode M_Rf_fieldOf.2.1 98 = .ok (.invokevirtual 217, 3) := by decide +kernel
theorem d_Rf_fieldOf_101 : decode M_Rf_fieldOf.2.1 101 = .ok (.ireturn, 1) := by decide +kernel
theorem d_Rf_fieldOf_102 : decode M_Rf_fieldOf.2.1 102 = .ok (.aload_n 0, 1) := by decide +kernel
theorem d_Rf_fieldOf_103 : decode M_Rf_fieldOf.2.1 103 = .ok (.getfield 7, 3) := by decide +kernel
theorem d_Rf_fieldOf_106 : decode M_Rf_fieldOf.2.1 106 = .ok (.bipush 84, 2) := by decide +kernel
theorem d_Rf_fieldOf_108 : decode M_Rf_fieldOf.2.1 108 = .ok (.iload_n 2, 1) := by decide +kernel
theorem d_Rf_fieldOf_109 : decode M_Rf_fieldOf.2.1 109 = .ok (.iadd, 1) := by decide +kernel
theorem d_Rf_fieldOf_110 : decode M_Rf_fieldOf.2.1 110 = .ok (.iaload, 1) := by decide +kernel
theorem d_Rf_fieldOf_111 : decode M_Rf_fieldOf.2.1 111 = .ok (.ireturn, 1) := by decide +kernel
theorem d_Rf_fieldOf_112 : decode M_Rf_fieldOf.2.1 112 = .ok (.aload_n 0, 1) := by decide +kernel
theorem d_Rf_fieldOf_113 : decode M_Rf_fieldOf.2.1 113 = .ok (.getfield 31, 3) := by decide +kernel
theorem d_Rf_fieldOf_116 : decode M_Rf_fieldOf.2.1 116 = .ok (.iload_n 2, 1) := by decide +kernel
theorem d_Rf_fieldOf_117 : decode M_Rf_fieldOf.2.1 117 = .ok (.iaload, 1) := by decide +kernel
theorem d_Rf_fieldOf_118 : decode M_Rf_fieldOf.2.1 118 = .ok (.ireturn, 1) := by decide +kernel
theorem d_Rf_fieldOf_119 : decode M_Rf_fieldOf.2.1 119 = .ok (.aload_n 0, 1) := by decide +kernel
theorem d_Rf_fieldOf_120 : decode M_Rf_fieldOf.2.1 120 = .ok (.getfield 7, 3) := by decide +kernel
theorem d_Rf_fieldOf_123 : decode M_Rf_fieldOf.2.1 123 = .ok (.sipush 168, 3) := by decide +kernel
theorem d_Rf_fieldOf_126 : decode M_Rf_fieldOf.2.1 126 = .ok (.iload_n 2, 1) := by decide +kernel
theorem d_Rf_fieldOf_127 : decode M_Rf_fieldOf.2.1 127 = .ok (.iadd, 1) := by decide +kernel
theorem d_Rf_fieldOf_128 : decode M_Rf_fieldOf.2.1 128 = .ok (.iaload, 1) := by decide +kernel
theorem d_Rf_fieldOf_129 : decode M_Rf_fieldOf.2.1 129 = .ok (.ireturn, 1) := by decide +kernel
set_option maxHeartbeats 4000000 in
set_option maxRecDepth 100000 in
theorem ok_Rf_fieldOf {D : xD} {N : Nat} {l : Launch} {d : Nat} {c z : T2} {P Q : Nat → Int32} {rest : List va_E} {K : Option Value → List va_E → Prop} {nb : Nat} (hnb : c 32 1 = nI nb) (h12 : nb ≤ 12) {m : Nat} (em : P 234 = nI m) (hm : m < 14700) {b s : Nat} (hb : b < 12) (hs : s < 6) (es : P (84 + b) = nI s) {f : Nat} (hf : f < 8) (hK : K (some (.int (fld c P nb m s b f))) (encR D N c z P Q ++ rest)) : Ok D N l (d + 1) M_Rf_fieldOf [.ref (N + 0), .int (nI f), .int (nI b)] (encR D N c z P Q ++ rest) 0 0 K := by
  refine ok_of (L := [(0, _), (1, _), (2, _)]) (by decide) (Nat.le_of_ble_eq_true rfl) rfl ?_
  refine wp_iload_n d_Rf_fieldOf_0 rfl rfl ?_
  rcases (show f = 0 ∨ f = 1 ∨ f = 2 ∨ f = 3 ∨ f = 4 ∨ f = 5 ∨ f = 6 ∨ f = 7 by omega) with rfl | rfl | rfl | rfl | rfl | rfl | rfl | rfl
  · refine wp_tabIn (tgt := 44) d_Rf_fieldOf_1 (by decide) (by decide) rfl (by decide) ?_
    refine wp_aload_n d_Rf_fieldOf_44 rfl rfl ?_
    refine wp_get fl_Rf_7 d_Rf_fieldOf_45 rfl rfl rfl ?_
    refine wp_sipush d_Rf_fieldOf_48 rfl sp_234 ?_
    refine wp_iald d_Rf_fieldOf_51 rfl (rfl) (by omega) (by decide) ?_
    refine wp_aload_n d_Rf_fieldOf_52 rfl rfl ?_
    refine wp_get fl_Rf_7 d_Rf_fieldOf_53 rfl rfl rfl ?_
    refine wp_sipush d_Rf_fieldOf_56 rfl sp_144 ?_
    refine wp_iload_n d_Rf_fieldOf_59 rfl rfl ?_
    first | refine wp_iaddN d_Rf_fieldOf_60 rfl ?_ | refine wp_iadd d_Rf_fieldOf_60 rfl ?_
    refine wp_iald d_Rf_fieldOf_61 rfl (rfl) (by omega) (by decide) ?_
    refine wp_isub d_Rf_fieldOf_62 rfl ?_
    refine wp_iret d_Rf_fieldOf_63 rfl (Nat.le_refl _) (Nat.le_refl _) ?_
    exact hK
  · refine wp_tabIn (tgt := 64) d_Rf_fieldOf_1 (by decide) (by decide) rfl (by decide) ?_
    refine wp_aload_n d_Rf_fieldOf_64 rfl rfl ?_
    refine wp_get fl_Rf_7 d_Rf_fieldOf_65 rfl rfl rfl ?_
    refine wp_bipush d_Rf_fieldOf_68 rfl bp_120 ?_
    refine wp_iload_n d_Rf_fieldOf_70 rfl rfl ?_
    first | refine wp_iaddN d_Rf_fieldOf_71 rfl ?_ | refine wp_iadd d_Rf_fieldOf_71 rfl ?_
    refine wp_iald d_Rf_fieldOf_72 rfl (rfl) (by omega) (by decide) ?_
    refine wp_iret d_Rf_fieldOf_73 rfl (Nat.le_refl _) (Nat.le_refl _) ?_
    exact hK
  · refine wp_tabIn (tgt := 74) d_Rf_fieldOf_1 (by decide) (by decide) rfl (by decide) ?_
    refine wp_aload_n d_Rf_fieldOf_74 rfl rfl ?_
    refine wp_get fl_Rf_7 d_Rf_fieldOf_75 rfl rfl rfl ?_
    refine wp_sipush d_Rf_fieldOf_78 rfl sp_235 ?_
    refine wp_iald d_Rf_fieldOf_81 rfl (rfl) (by omega) (by decide) ?_
    refine wp_iret d_Rf_fieldOf_82 rfl (Nat.le_refl _) (Nat.le_refl _) ?_
    exact hK
  · refine wp_tabIn (tgt := 83) d_Rf_fieldOf_1 (by decide) (by decide) rfl (by decide) ?_
    refine wp_aload_n d_Rf_fieldOf_83 rfl rfl ?_
    refine wp_cv0 lk_Rf_159 (ro _ _ _) d_Rf_fieldOf_84 rfl (Nat.le_of_ble_eq_true rfl) (rfl) rfl (Nat.zero_le _) (Nat.zero_le _) ?_
    refine ok_Rf_hour em hm ?_
    refine wp_iret d_Rf_fieldOf_87 rfl (Nat.le_refl _) (Nat.le_refl _) ?_
    exact hK
  · refine wp_tabIn (tgt := 88) d_Rf_fieldOf_1 (by decide) (by decide) rfl (by decide) ?_
    refine wp_aload_n d_Rf_fieldOf_88 rfl rfl ?_
    refine wp_aload_n d_Rf_fieldOf_89 rfl rfl ?_
    refine wp_get fl_Rf_7 d_Rf_fieldOf_90 rfl rfl rfl ?_
    refine wp_bipush d_Rf_fieldOf_93 rfl bp_84 ?_
    refine wp_iload_n d_Rf_fieldOf_95 rfl rfl ?_
    first | refine wp_iaddN d_Rf_fieldOf_96 rfl ?_ | refine wp_iadd d_Rf_fieldOf_96 rfl ?_
    refine wp_iald d_Rf_fieldOf_97 rfl (rfl) (by omega) (by decide) ?_
    rw [es]
    refine wp_cv1 lk_Rf_217 (ro _ _ _) d_Rf_fieldOf_98 rfl (Nat.le_of_ble_eq_true rfl) (rfl) rfl (Nat.zero_le _) (Nat.zero_le _) ?_
    refine ok_Rf_queueAt hnb h12 hs ?_
    refine wp_iret d_Rf_fieldOf_101 rfl (Nat.le_refl _) (Nat.le_refl _) ?_
    exact hK
  · refine wp_tabIn (tgt := 102) d_Rf_fieldOf_1 (by decide) (by decide) rfl (by decide) ?_
    refine wp_aload_n d_Rf_fieldOf_102 rfl rfl ?_
    refine wp_get fl_Rf_7 d_Rf_fieldOf_103 rfl rfl rfl ?_
    refine wp_bipush d_Rf_fieldOf_106 rfl bp_84 ?_
    refine wp_iload_n d_Rf_fieldOf_108 rfl rfl ?_
    first | refine wp_iaddN d_Rf_fieldOf_109 rfl ?_ | refine wp_iadd d_Rf_fieldOf_109 rfl ?_
    refine wp_iald d_Rf_fieldOf_110 rfl (rfl) (by omega) (by decide) ?_
    rw [es]
    refine wp_iret d_Rf_fieldOf_111 rfl (Nat.le_refl _) (Nat.le_refl _) ?_
    exact hK
  · refine wp_tabIn (tgt := 112) d_Rf_fieldOf_1 (by decide) (by decide) rfl (by decide) ?_
    refine wp_aload_n d_Rf_fieldOf_112 rfl rfl ?_
    refine wp_get fl_Rf_31 d_Rf_fieldOf_113 rfl rfl rfl ?_
    refine wp_iload_n d_Rf_fieldOf_116 rfl rfl ?_
    refine wp_iald d_Rf_fieldOf_117 rfl (rfl) (by omega) (by decide) ?_
    refine wp_iret d_Rf_fieldOf_118 rfl (Nat.le_refl _) (Nat.le_refl _) ?_
    exact hK
  · refine wp_tabOut (tgt := 119) d_Rf_fieldOf_1 (by decide) (by decide) ?_
    refine wp_aload_n d_Rf_fieldOf_119 rfl rfl ?_
    refine wp_get fl_Rf_7 d_Rf_fieldOf_120 rfl rfl rfl ?_
    refine wp_sipush d_Rf_fieldOf_123 rfl sp_168 ?_
    refine wp_iload_n d_Rf_fieldOf_126 rfl rfl ?_
    first | refine wp_iaddN d_Rf_fieldOf_127 rfl ?_ | refine wp_iadd d_Rf_fieldOf_127 rfl ?_
    refine wp_iald d_Rf_fieldOf_128 rfl (rfl) (by omega) (by decide) ?_
    refine wp_iret d_Rf_fieldOf_129 rfl (Nat.le_refl _) (Nat.le_refl _) ?_
    exact hK
theorem d_Rf_holds_0 : decode M_Rf_holds.2.1 0 = .ok (.iconst 3, 1) := by decide +kernel
theorem d_Rf_holds_1 : decode M_Rf_holds.2.1 1 = .ok (.iload_n 1, 1) := by decide +kernel
theorem d_Rf_holds_2 : decode M_Rf_holds.2.1 2 = .ok (.imul, 1) := by decide +kernel
theorem d_Rf_holds_3 : decode M_Rf_holds.2.1 3 = .ok (.istore_n 3, 1) := by decide +kernel
theorem d_Rf_holds_4 : decode M_Rf_holds.2.1 4 = .ok (.iload_n 3, 1) := by decide +kernel
theorem d_Rf_holds_5 : decode M_Rf_holds.2.1 5 = .ok (.iconst 3, 1) := by decide +kernel
theorem d_Rf_holds_6 : decode M_Rf_holds.2.1 6 = .ok (.iload_n 1, 1) := by decide +kernel
theorem d_Rf_holds_7 : decode M_Rf_holds.2.1 7 = .ok (.imul, 1) := by decide +kernel
theorem d_Rf_holds_8 : decode M_Rf_holds.2.1 8 = .ok (.aload_n 0, 1) := by decide +kernel
theorem d_Rf_holds_9 : decode M_Rf_holds.2.1 9 = .ok (.getfield 89, 3) := by decide +kernel
theorem d_Rf_holds_12 : decode M_Rf_holds.2.1 12 = .ok (.iload_n 1, 1) := by decide +kernel
theorem d_Rf_holds_13 : decode M_Rf_holds.2.1 13 = .ok (.iaload, 1) := by decide +kernel
theorem d_Rf_holds_14 : decode M_Rf_holds.2.1 14 = .ok (.iadd, 1) := by decide +kernel
theorem d_Rf_holds_15 : decode M_Rf_holds.2.1 15 = .ok (.if_icmp .ge 85, 3) := by decide +kernel
theorem d_Rf_holds_18 : decode M_Rf_holds.2.1 18 = .ok (.aload_n 0, 1) := by decide +kernel
theorem d_Rf_holds_19 : decode M_Rf_holds.2.1 19 = .ok (.aload_n 0, 1) := by decide +kernel
theorem d_Rf_holds_20 : decode M_Rf_holds.2.1 20 = .ok (.getfield 92, 3) := by decide +kernel
theorem d_Rf_holds_23 : decode M_Rf_holds.2.1 23 = .ok (.iload_n 3, 1) := by decide +kernel
theorem d_Rf_holds_24 : decode M_Rf_holds.2.1 24 = .ok (.iaload, 1) := by decide +kernel
theorem d_Rf_holds_25 : decode M_Rf_holds.2.1 25 = .ok (.iload_n 2, 1) := by decide +kernel
theorem d_Rf_holds_26 : decode M_Rf_holds.2.1 26 = .ok (.invokevirtual 220, 3) := by decide +kernel
theorem d_Rf_holds_29 : decode M_Rf_holds.2.1 29 = .ok (.istore 4, 2) := by decide +kernel
theorem d_Rf_holds_31 : decode M_Rf_holds.2.1 31 = .ok (.aload_n 0, 1) := by decide +kernel
theorem d_Rf_holds_32 : decode M_Rf_holds.2.1 32 = .ok (.getfield 95, 3) := by decide +kernel
theorem d_Rf_holds_35 : decode M_Rf_holds.2.1 35 = .ok (.iload_n 3, 1) := by decide +kernel
theorem d_Rf_holds_36 : decode M_Rf_holds.2.1 36 = .ok (.iaload, 1) := by decide +kernel
theorem d_Rf_holds_37 : decode M_Rf_holds.2.1 37 = .ok (.bipush 60, 2) := by decide +kernel
theorem d_Rf_holds_39 : decode M_Rf_holds.2.1 39 = .ok (.if_icmp .ne 17, 3) := by decide +kernel
theorem d_Rf_holds_42 : decode M_Rf_holds.2.1 42 = .ok (.iload 4, 2) := by decide +kernel
theorem d_Rf_holds_44 : decode M_Rf_holds.2.1 44 = .ok (.aload_n 0, 1) := by decide +kernel
theorem d_Rf_holds_45 : decode M_Rf_holds.2.1 45 = .ok (.getfield 98, 3) := by decide +kernel
theorem d_Rf_holds_48 : decode M_Rf_holds.2.1 48 = .ok (.iload_n 3, 1) := by decide +kernel
theorem d_Rf_holds_49 : decode M_Rf_holds.2.1 49 = .ok (.iaload, 1) := by decide +kernel
theorem d_Rf_holds_50 : decode M_Rf_holds.2.1 50 = .ok (.if_icmp .lt 44, 3) := by decide +kernel
theorem d_Rf_holds_53 : decode M_Rf_holds.2.1 53 = .ok (.goto 39, 3) := by decide +kernel
theorem d_Rf_holds_56 : decode M_Rf_holds.2.1 56 = .ok (.aload_n 0, 1) := by decide +kernel
theorem d_Rf_holds_57 : decode M_Rf_holds.2.1 57 = .ok (.getfield 95, 3) := by decide +kernel
theorem d_Rf_holds_60 : decode M_Rf_holds.2.1 60 = .ok (.iload_n 3, 1) := by decide +kernel
theorem d_Rf_holds_61 : decode M_Rf_holds.2.1 61 = .ok (.iaload, 1) := by decide +kernel
theorem d_Rf_holds_62 : decode M_Rf_holds.2.1 62 = .ok (.bipush 62, 2) := by decide +kernel
theorem d_Rf_holds_64 : decode M_Rf_holds.2.1 64 = .ok (.if_icmp .ne 17, 3) := by decide +kernel
theorem d_Rf_holds_67 : decode M_Rf_holds.2.1 67 = .ok (.iload 4, 2) := by decide +kernel
theorem d_Rf_holds_69 : decode M_Rf_holds.2.1 69 = .ok (.aload_n 0, 1) := by decide +kernel
theorem d_Rf_holds_70 : decode M_Rf_holds.2.1 70 = .ok (.getfield 98, 3) := by decide +kernel
theorem d_Rf_holds_73 : decode M_Rf_holds.2.1 73 = .ok (.iload_n 3, 1) := by decide +kernel
theorem d_Rf_holds_74 : decode M_Rf_holds.2.1 74 = .ok (.iaload, 1) := by decide +kernel
theorem d_Rf_holds_75 : decode M_Rf_holds.2.1 75 = .ok (.if_icmp .gt 19, 3) := by decide +kernel
theorem d_Rf_holds_78 : decode M_Rf_holds.2.1 78 = .ok (.goto 14, 3) := by decide +kernel
theorem d_Rf_holds_81 : decode M_Rf_holds.2.1 81 = .ok (.iload 4, 2) := by decide +kernel
theorem d_Rf_holds_83 : decode M_Rf_holds.2.1 83 = .ok (.aload_n 0, 1) := by decide +kernel
theorem d_Rf_holds_84 : decode M_Rf_holds.2.1 84 = .ok (.getfield 98, 3) := by decide +kernel
theorem d_Rf_holds_87 : decode M_Rf_holds.2.1 87 = .ok (.iload_n 3, 1) := by decide +kernel
theorem d_Rf_holds_88 : decode M_Rf_holds.2.1 88 = .ok (.iaload, 1) := by decide +kernel
theorem d_Rf_holds_89 : decode M_Rf_holds.2.1 89 = .ok (.if_icmp .eq 5, 3) := by decide +kernel
theorem d_Rf_holds_92 : decode M_Rf_holds.2.1 92 = .ok (.iconst 0, 1) := by decide +kernel
theorem d_Rf_holds_93 : decode M_Rf_holds.2.1 93 = .ok (.ireturn, 1) := by decide +kernel
theorem d_Rf_holds_94 : decode M_Rf_holds.2.1 94 = .ok (.iinc 3 1, 3) := by decide +kernel
theorem d_Rf_holds_97 : decode M_Rf_holds.2.1 97 = .ok (.goto (-93), 3) := by decide +kernel
theorem d_Rf_holds_100 : decode M_Rf_holds.2.1 100 = .ok (.iconst 1, 1) := by decide +kernel
theorem d_Rf_holds_101 : decode M_Rf_holds.2.1 101 = .ok (.ireturn, 1) := by decide +kernel
set_option maxHeartbeats 4000000 in
set_option maxRecDepth 100000 in
theorem ok_Rf_holds {D : xD} {N : Nat} {l : Launch} {d : Nat} {c z : T2} {P Q : Nat → Int32} {rest : List va_E} {K : Option Value → List va_E → Prop} {nb : Nat} (hnb : c 32 1 = nI nb) (h12 : nb ≤ 12) {m : Nat} (em : P 234 = nI m) (hm : m < 14700) {b s : Nat} (hb : b < 12) (hs : s < 6) (es : P (84 + b) = nI s) {sl nt : Nat} (hsl : sl < 48) (ent : c 25 sl = nI nt) (hnt : nt ≤ 3) (hf : ∀ t, t < nt → isN (c 26 (3 * sl + t)) 8) (h1 : hldB c P nb m s b sl nt = true → K (some (.int (nI 1))) (encR D N c z P Q ++ rest)) (h0 : hldB c P nb m s b sl nt = false → K (some (.int (nI 0))) (encR D N c z P Q ++ rest)) : Ok D N l (d + 2) M_Rf_holds [.ref (N + 0), .int (nI sl), .int (nI b)] (encR D N c z P Q ++ rest) 0 0 K := by
  have lp : ∀ t : Nat, t ≤ nt → hldB c P nb m s b sl t = true → Wp D N l (EI M_Rf_holds) M_Rf_holds (Rm (d + 2) 0 0) (Qm D N K 0 0) 0 0 4 [(3, .int (nI (3 * sl + t))), (0, .ref (N + 0)), (1, .int (nI sl)), (2, .int (nI b))] [] (encR D N c z P Q ++ rest) := by
    refine up_loop ?_ ?_
    · intro hall; skip
      refine wp_iload_n d_Rf_holds_4 rfl rfl ?_
      refine wp_iconst d_Rf_holds_5 rfl ic_3 ?_
      refine wp_iload_n d_Rf_holds_6 rfl rfl ?_
      first | refine wp_imulN d_Rf_holds_7 rfl ?_ | refine wp_imul d_Rf_holds_7 rfl ?_
      refine wp_aload_n d_Rf_holds_8 rfl rfl ?_
      refine wp_get fl_Rf_89 d_Rf_holds_9 rfl rfl rfl ?_
      refine wp_iload_n d_Rf_holds_12 rfl rfl ?_
      refine wp_iald d_Rf_holds_13 rfl (rfl) (by omega) (by decide) ?_
      rw [ent]
      first | refine wp_iaddN d_Rf_holds_14 rfl ?_ | refine wp_iadd d_Rf_holds_14 rfl ?_
      refine wp_icmp_ge_t (tgt := 100) d_Rf_holds_15 (by decide) (nI_le (Nat.le_refl _) (by omega)) ?_
      refine wp_iconst d_Rf_holds_100 rfl ic_1 ?_
      refine wp_zret d_Rf_holds_101 rfl (rfl) (Nat.le_refl _) (Nat.le_refl _) ?_
      exact h1 hall
    · intro t ht ih hall
      refine wp_iload_n d_Rf_holds_4 rfl rfl ?_
      refine wp_iconst d_Rf_holds_5 rfl ic_3 ?_
      refine wp_iload_n d_Rf_holds_6 rfl rfl ?_
      first | refine wp_imulN d_Rf_holds_7 rfl ?_ | refine wp_imul d_Rf_holds_7 rfl ?_
      refine wp_aload_n d_Rf_holds_8 rfl rfl ?_
      refine wp_get fl_Rf_89 d_Rf_holds_9 rfl rfl rfl ?_
      refine wp_iload_n d_Rf_holds_12 rfl rfl ?_
      refine wp_iald d_Rf_holds_13 rfl (rfl) (by omega) (by decide) ?_
      rw [ent]
      first | refine wp_iaddN d_Rf_holds_14 rfl ?_ | refine wp_iadd d_Rf_holds_14 rfl ?_
      refine wp_icmp_ge_f (tgt := 100) d_Rf_holds_15 (by decide) rfl (nI_ge (by omega) (by omega)) ?_
      refine wp_aload_n d_Rf_holds_18 rfl rfl ?_
      refine wp_aload_n d_Rf_holds_19 rfl rfl ?_
      refine wp_get fl_Rf_92 d_Rf_holds_20 rfl rfl rfl ?_
      refine wp_iload_n d_Rf_holds_23 rfl rfl ?_
      refine wp_iald d_Rf_holds_24 rfl (rfl) (by omega) (by decide) ?_
      refine wp_iload_n d_Rf_holds_25 rfl rfl ?_
      obtain ⟨ef, lf8⟩ := hf t ht
      rw [ef]
      refine wp_cv2 lk_Rf_220 (ro _ _ _) d_Rf_holds_26 rfl (Nat.le_of_ble_eq_true rfl) (rfl) rfl (Nat.zero_le _) (Nat.zero_le _) ?_
      refine ok_Rf_fieldOf hnb h12 em hm hb hs es lf8 ?_
      refine wp_istore (L2 := [(4, _), (3, _), (0, _), (1, _), (2, _)]) d_Rf_holds_29 rfl (by decide) rfl ?_
      refine wp_aload_n d_Rf_holds_31 rfl rfl ?_
      refine wp_get fl_Rf_95 d_Rf_holds_32 rfl rfl rfl ?_
      refine wp_iload_n d_Rf_holds_35 rfl rfl ?_
      refine wp_iald d_Rf_holds_36 rfl (rfl) (by omega) (by decide) ?_
      refine wp_bipush d_Rf_holds_37 rfl bp_60 ?_
      refine wp_icmp_ne (tgt := 56) d_Rf_holds_39 (by decide) rfl (fun hc_39 => ?_) (fun hc_39 => ?_)
      · refine wp_aload_n d_Rf_holds_56 rfl rfl ?_
        refine wp_get fl_Rf_95 d_Rf_holds_57 rfl rfl rfl ?_
        refine wp_iload_n d_Rf_holds_60 rfl rfl ?_
        refine wp_iald d_Rf_holds_61 rfl (rfl) (by omega) (by decide) ?_
        refine wp_bipush d_Rf_holds_62 rfl bp_62 ?_
        refine wp_icmp_ne (tgt := 81) d_Rf_holds_64 (by decide) rfl (fun hc_64 => ?_) (fun hc_64 => ?_)
        · refine wp_iload d_Rf_holds_81 rfl rfl ?_
          refine wp_aload_n d_Rf_holds_83 rfl rfl ?_
          refine wp_get fl_Rf_98 d_Rf_holds_84 rfl rfl rfl ?_
          refine wp_iload_n d_Rf_holds_87 rfl rfl ?_
          refine wp_iald d_Rf_holds_88 rfl (rfl) (by omega) (by decide) ?_
          refine wp_icmp_eq (tgt := 94) d_Rf_holds_89 (by decide) rfl (fun hc_89 => ?_) (fun hc_89 => ?_)
          · refine wp_iinc (L2 := [(3, _), (4, _), (0, _), (1, _), (2, _)]) d_Rf_holds_94 rfl rfl (iinc_1) (by decide) rfl ?_
            refine wp_goto (tgt := 4) d_Rf_holds_97 (by decide) ?_
            refine wp_sub [0, 2, 3, 4] rfl ?_
            first | exact ih (by rw [hldB, hall, tstB, if_pos hc_39]; exact decide_eq_true hc_50) | exact ih (by rw [hldB, hall, tstB, if_neg hc_39, if_pos hc_64]; exact decide_eq_true hc_75) | exact ih (by rw [hldB, hall, tstB, if_neg hc_39, if_neg hc_64]; exact decide_eq_true hc_89)
          · refine wp_iconst d_Rf_holds_92 rfl ic_0 ?_
            refine wp_zret d_Rf_holds_93 rfl (rfl) (Nat.le_refl _) (Nat.le_refl _) ?_
            first | exact h0 (hldB_no ht (by rw [tstB, if_pos hc_39]; exact decide_eq_false hc_50)) | exact h0 (hldB_no ht (by rw [tstB, if_neg hc_39, if_pos hc_64]; exact decide_eq_false hc_75)) | exact h0 (hldB_no ht (by rw [tstB, if_neg hc_39, if_neg hc_64]; exact decide_eq_false hc_89))
        · refine wp_iload d_Rf_holds_67 rfl rfl ?_
          refine wp_aload_n d_Rf_holds_69 rfl rfl ?_
          refine wp_get fl_Rf_98 d_Rf_holds_70 rfl rfl rfl ?_
          refine wp_iload_n d_Rf_holds_73 rfl rfl ?_
          refine wp_iald d_Rf_holds_74 rfl (rfl) (by omega) (by decide) ?_
          refine wp_icmp_gt (tgt := 94) d_Rf_holds_75 (by decide) rfl (fun hc_75 => ?_) (fun hc_75 => ?_)
          · refine wp_iinc (L2 := [(3, _), (4, _), (0, _), (1, _), (2, _)]) d_Rf_holds_94 rfl rfl (iinc_1) (by decide) rfl ?_
            refine wp_goto (tgt := 4) d_Rf_holds_97 (by decide) ?_
            refine wp_sub [0, 2, 3, 4] rfl ?_
            first | exact ih (by rw [hldB, hall, tstB, if_pos hc_39]; exact decide_eq_true hc_50) | exact ih (by rw [hldB, hall, tstB, if_neg hc_39, if_pos hc_64]; exact decide_eq_true hc_75) | exact ih (by rw [hldB, hall, tstB, if_neg hc_39, if_neg hc_64]; exact decide_eq_true hc_89)
          · refine wp_goto (tgt := 92) d_Rf_holds_78 (by decide) ?_
            refine wp_iconst d_Rf_holds_92 rfl ic_0 ?_
            refine wp_zret d_Rf_holds_93 rfl (rfl) (Nat.le_refl _) (Nat.le_refl _) ?_
            first | exact h0 (hldB_no ht (by rw [tstB, if_pos hc_39]; exact decide_eq_false hc_50)) | exact h0 (hldB_no ht (by rw [tstB, if_neg hc_39, if_pos hc_64]; exact decide_eq_false hc_75)) | exact h0 (hldB_no ht (by rw [tstB, if_neg hc_39, if_neg hc_64]; exact decide_eq_false hc_89))
      · refine wp_iload d_Rf_holds_42 rfl rfl ?_
        refine wp_aload_n d_Rf_holds_44 rfl rfl ?_
        refine wp_get fl_Rf_98 d_Rf_holds_45 rfl rfl rfl ?_
        refine wp_iload_n d_Rf_holds_48 rfl rfl ?_
        refine wp_iald d_Rf_holds_49 rfl (rfl) (by omega) (by decide) ?_
        refine wp_icmp_lt (tgt := 94) d_Rf_holds_50 (by decide) rfl (fun hc_50 => ?_) (fun hc_50 => ?_)
        · refine wp_iinc (L2 := [(3, _), (4, _), (0, _), (1, _), (2, _)]) d_Rf_holds_94 rfl rfl (iinc_1) (by decide) rfl ?_
          refine wp_goto (tgt := 4) d_Rf_holds_97 (by decide) ?_
          refine wp_sub [0, 2, 3, 4] rfl ?_
          first | exact ih (by rw [hldB, hall, tstB, if_pos hc_39]; exact decide_eq_true hc_50) | exact ih (by rw [hldB, hall, tstB, if_neg hc_39, if_pos hc_64]; exact decide_eq_true hc_75) | exact ih (by rw [hldB, hall, tstB, if_neg hc_39, if_neg hc_64]; exact decide_eq_true hc_89)
        · refine wp_goto (tgt := 92) d_Rf_holds_53 (by decide) ?_
          refine wp_iconst d_Rf_holds_92 rfl ic_0 ?_
          refine wp_zret d_Rf_holds_93 rfl (rfl) (Nat.le_refl _) (Nat.le_refl _) ?_
          first | exact h0 (hldB_no ht (by rw [tstB, if_pos hc_39]; exact decide_eq_false hc_50)) | exact h0 (hldB_no ht (by rw [tstB, if_neg hc_39, if_pos hc_64]; exact decide_eq_false hc_75)) | exact h0 (hldB_no ht (by rw [tstB, if_neg hc_39, if_neg hc_64]; exact decide_eq_false hc_89))
  refine ok_of (L := [(0, _), (1, _), (2, _)]) (by decide) (Nat.le_of_ble_eq_true rfl) rfl ?_
  refine wp_iconst d_Rf_holds_0 rfl ic_3 ?_
  refine wp_iload_n d_Rf_holds_1 rfl rfl ?_
  first | refine wp_imulN d_Rf_holds_2 rfl ?_ | refine wp_imul d_Rf_holds_2 rfl ?_
  refine wp_istore_n (L2 := [(3, _), (0, _), (1, _), (2, _)]) d_Rf_holds_3 rfl (by decide) rfl ?_
  exact lp 0 (Nat.zero_le _) rfl
end
section
theorem lnf_none {c : T2} {P : Nat → Int32} {nb m s b : Nat} {key : Int32} (e : c 10 s = -1) : lnf c P nb m s b key = none := by rw [lnf, if_pos e]
theorem lnf_some {c : T2} {P : Nat → Int32} {nb m s b cu lm : Nat} {key : Int32} (e : c 10 s = nI cu) (hcu : cu < 6) (elm : c 22 cu = nI lm) (hlm : lm < 9) : lnf c P nb m s b key = blf c P nb m s b cu key lm := by
  rw [lnf, if_neg (by rw [e]; exact nI_nm1 (by omega)), e, tnt hcu, elm, tnt hlm]
/-- the customs, as numbers -/
theorem CI.cu {c : T2} (h : CI c) {s : Nat} (hs : s < 6) : c 10 s = -1 ∨ ∃ cu lm : Nat, cu < tn (c 32 9) ∧ cu < 6 ∧ lm < 9 ∧ c 10 s = nI cu ∧ c 22 cu = nI lm ∧ tn (c 22 cu) = lm := by
  rcases h.2.1 s hs with e | ⟨e, l1⟩
  · exact Or.inl e
  · refine Or.inr ⟨tn (c 10 s), tn (c 22 (tn (c 10 s))), l1, ?_, (h.2.2 _ l1).1.2, e, (h.2.2 _ l1).1.1, rfl⟩
    have := h.1.2
    omega
theorem CI.line {c : T2} (h : CI c) {cu i : Nat} (hcu : cu < tn (c 32 9)) (hi : i < tn (c 22 cu)) : c 25 (8 * cu + i) = nI (tn (c 25 (8 * cu + i))) ∧ tn (c 25 (8 * cu + i)) ≤ 3 ∧ ∀ t, t < tn (c 25 (8 * cu + i)) → isN (c 26 (3 * (8 * cu + i) + t)) 8 := by
  obtain ⟨h1, h2⟩ := (h.2.2 cu hcu).2 i hi
  have := h1.2
  exact ⟨h1.1, by omega, h2⟩
theorem d_Rf_lineFor_0 : decode M_Rf_lineFor.2.1 0 = .ok (.aload_n 0, 1) := by decide +kernel
theorem d_Rf_lineFor_1 : decode M_Rf_lineFor.2.1 1 = .ok (.getfield 43, 3) := by decide +kernel
theorem d_Rf_lineFor_4 : decode M_Rf_lineFor.2.1 4 = .ok (.aload_n 0, 1) := by decide +kernel
theorem d_Rf_lineFor_5 : decode M_Rf_lineFor.2.1 5 = .ok (.getfield 7, 3) := by decide +kernel
theorem d_Rf_lineFor_8 : decode M_Rf_lineFor.2.1 8 = .ok (.bipush 84, 2) := by decide +kernel
theorem d_Rf_lineFor_10 : decode M_Rf_lineFor.2.1 10 = .ok (.iload_n 1, 1) := by decide +kernel
theorem d_Rf_lineFor_11 : decode M_Rf_lineFor.2.1 11 = .ok (.iadd, 1) := by decide +kernel
theorem d_Rf_lineFor_12 : decode M_Rf_lineFor.2.1 12 = .ok (.iaload, 1) := by decide +kernel
theorem d_Rf_lineFor_13 : decode M_Rf_lineFor.2.1 13 = .ok (.iaload, 1) := by decide +kernel
theorem d_Rf_lineFor_14 : decode M_Rf_lineFor.2.1 14 = .ok (.istore_n 3, 1) := by decide +kernel
theorem d_Rf_lineFor_15 : decode M_Rf_lineFor.2.1 15 = .ok (.iconst (-1), 1) := by decide +kernel
theorem d_Rf_lineFor_16 : decode M_Rf_lineFor.2.1 16 = .ok (.istore 4, 2) := by decide +kernel
theorem d_Rf_lineFor_18 : decode M_Rf_lineFor.2.1 18 = .ok (.iconst 0, 1) := by decide +kernel
theorem d_Rf_lineFor_19 : decode M_Rf_lineFor.2.1 19 = .ok (.istore 5, 2) := by decide +kernel
theorem d_Rf_lineFor_21 : decode M_Rf_lineFor.2.1 21 = .ok (.iload_n 3, 1) := by decide +kernel
theorem d_Rf_lineFor_22 : decode M_Rf_lineFor.2.1 22 = .ok (.iconst (-1), 1) := by decide +kernel
theorem d_Rf_lineFor_23 : decode M_Rf_lineFor.2.1 23 = .ok (.if_icmp .eq 60, 3) := by decide +kernel
theorem d_Rf_lineFor_26 : decode M_Rf_lineFor.2.1 26 = .ok (.iload 5, 2) := by decide +kernel
theorem d_Rf_lineFor_28 : decode M_Rf_lineFor.2.1 28 = .ok (.aload_n 0, 1) := by decide +kernel
theorem d_Rf_lineFor_29 : decode M_Rf_lineFor.2.1 29 = .ok (.getfield 80, 3) := by decide +kernel
theorem d_Rf_lineFor_32 : decode M_Rf_lineFor.2.1 32 = .ok (.iload_n 3, 1) := by decide +kernel
theorem d_Rf_lineFor_33 : decode M_Rf_lineFor.2.1 33 = .ok (.iaload, 1) := by decide +kernel
theorem d_Rf_lineFor_34 : decode M_Rf_lineFor.2.1 34 = .ok (.if_icmp .ge 49, 3) := by decide +kernel
theorem d_Rf_lineFor_37 : decode M_Rf_lineFor.2.1 37 = .ok (.aload_n 0, 1) := by decide +kernel
theorem d_Rf_lineFor_38 : decode M_Rf_lineFor.2.1 38 = .ok (.getfield 83, 3) := by decide +kernel
theorem d_Rf_lineFor_41 : decode M_Rf_lineFor.2.1 41 = .ok (.bipush 8, 2) := by decide +kernel
theorem d_Rf_lineFor_43 : decode M_Rf_lineFor.2.1 43 = .ok (.iload_n 3, 1) := by decide +kernel
theorem d_Rf_lineFor_44 : decode M_Rf_lineFor.2.1 44 = .ok (.imul, 1) := by decide +kernel
theorem d_Rf_lineFor_45 : decode M_Rf_lineFor.2.1 45 = .ok (.iload 5, 2) := by decide +kernel
theorem d_Rf_lineFor_47 : decode M_Rf_lineFor.2.1 47 = .ok (.iadd, 1) := by decide +kernel
theorem d_Rf_lineFor_48 : decode M_Rf_lineFor.2.1 48 = .ok (.iaload, 1) := by decide +kernel
theorem d_Rf_lineFor_49 : decode M_Rf_lineFor.2.1 49 = .ok (.iload_n 2, 1) := by decide +kernel
theorem d_Rf_lineFor_50 : decode M_Rf_lineFor.2.1 50 = .ok (.if_icmp .ne 23, 3) := by decide +kernel
theorem d_Rf_lineFor_53 : decode M_Rf_lineFor.2.1 53 = .ok (.aload_n 0, 1) := by decide +kernel
theorem d_Rf_lineFor_54 : decode M_Rf_lineFor.2.1 54 = .ok (.bipush 8, 2) := by decide +kernel
theorem d_Rf_lineFor_56 : decode M_Rf_lineFor.2.1 56 = .ok (.iload_n 3, 1) := by decide +kernel
theorem d_Rf_lineFor_57 : decode M_Rf_lineFor.2.1 57 = .ok (.imul, 1) := by decide +kernel
theorem d_Rf_lineFor_58 : decode M_Rf_lineFor.2.1 58 = .ok (.iload 5, 2) := by decide +kernel
theorem d_Rf_lineFor_60 : decode M_Rf_lineFor.2.1 60 = .ok (.iadd, 1) := by decide +kernel
theorem d_Rf_lineFor_61 : decode M_Rf_lineFor.2.1 61 = .ok (.iload_n 1, 1) := by decide +kernel
theorem d_Rf_lineFor_62 : decode M_Rf_lineFor.2.1 62 = .ok (.invokevirtual 223, 3) := by decide +kernel
theorem d_Rf_lineFor_65 : decode M_Rf_lineFor.2.1 65 = .ok (.ifCond .eq 8, 3) := by decide +kernel
theorem d_Rf_lineFor_68 : decode M_Rf_lineFor.2.1 68 = .ok (.iload 5, 2) := by decide +kernel
theorem d_Rf_lineFor_70 : decode M_Rf_lineFor.2.1 70 = .ok (.goto 5, 3) := by decide +kernel
theorem d_Rf_lineFor_73 : decode M_Rf_lineFor.2.1 73 = .ok (.iload 4, 2) := by decide +kernel
theorem d_Rf_lineFor_75 : decode M_Rf_lineFor.2.1 75 = .ok (.istore 4, 2) := by decide +kernel
theorem d_Rf_lineFor_77 : decode M_Rf_lineFor.2.1 77 = .ok (.iinc 5 1, 3) := by decide +kernel
theorem d_Rf_lineFor_80 : decode M_Rf_lineFor.2.1 80 = .ok (.goto (-59), 3) := by decide +kernel
theorem d_Rf_lineFor_83 : decode M_Rf_lineFor.2.1 83 = .ok (.iload 4, 2) := by decide +kernel
theorem d_Rf_lineFor_85 : decode M_Rf_lineFor.2.1 85 = .ok (.ireturn, 1) := by decide +kernel
set_option maxHeartbeats 4000000 in
set_option maxRecDepth 100000 in
theorem ok_Rf_lineFor {D : xD} {N : Nat} {l : Launch} {d : Nat} {c z : T2} {P Q : Nat → Int32} {rest : List va_E} {K : Option Value → List va_E → Prop} {nb : Nat} (hnb : c 32 1 = nI nb) (h12 : nb ≤ 12) {m : Nat} (em : P 234 = nI m) (hm : m < 14700) {b s : Nat} (hb : b < 12) (hs : s < 6) (es : P (84 + b) = nI s) {key : Int32} (hCI : CI c) (hK : K (some (.int (ov (lnf c P nb m s b key)))) (encR D N c z P Q ++ rest)) : Ok D N l (d + 3) M_Rf_lineFor [.ref (N + 0), .int (nI b), .int key] (encR D N c z P Q ++ rest) 0 0 K := by
  refine ok_of (L := [(0, _), (1, _), (2, _)]) (by decide) (Nat.le_of_ble_eq_true rfl) rfl ?_
  rcases hCI.cu hs with e | ⟨cu, lm, l1, l6, l9, e, elm, etn⟩
  · skip
    refine wp_aload_n d_Rf_lineFor_0 rfl rfl ?_
    refine wp_get fl_Rf_43 d_Rf_lineFor_1 rfl rfl rfl ?_
    refine wp_aload_n d_Rf_lineFor_4 rfl rfl ?_
    refine wp_get fl_Rf_7 d_Rf_lineFor_5 rfl rfl rfl ?_
    refine wp_bipush d_Rf_lineFor_8 rfl bp_84 ?_
    refine wp_iload_n d_Rf_lineFor_10 rfl rfl ?_
    first | refine wp_iaddN d_Rf_lineFor_11 rfl ?_ | refine wp_iadd d_Rf_lineFor_11 rfl ?_
    refine wp_iald d_Rf_lineFor_12 rfl (rfl) (by omega) (by decide) ?_
    rw [es]
    refine wp_iald d_Rf_lineFor_13 rfl (rfl) (by omega) (by decide) ?_
    rw [e]
    refine wp_istore_n (L2 := [(3, _), (0, _), (1, _), (2, _)]) d_Rf_lineFor_14 rfl (by decide) rfl ?_
    refine wp_iconst d_Rf_lineFor_15 rfl ic_m1 ?_
    refine wp_istore (L2 := [(4, _), (3, _), (0, _), (1, _), (2, _)]) d_Rf_lineFor_16 rfl (by decide) rfl ?_
    refine wp_iconst d_Rf_lineFor_18 rfl ic_0 ?_
    refine wp_istore (L2 := [(5, _), (4, _), (3, _), (0, _), (1, _), (2, _)]) d_Rf_lineFor_19 rfl (by decide) rfl ?_
    refine wp_iload_n d_Rf_lineFor_21 rfl rfl ?_
    refine wp_iconst d_Rf_lineFor_22 rfl ic_m1 ?_
    refine wp_icmp_eq_t (tgt := 83) d_Rf_lineFor_23 (by decide) (rfl) ?_
    refine wp_iload d_Rf_lineFor_83 rfl rfl ?_
    refine wp_iret d_Rf_lineFor_85 rfl (Nat.le_refl _) (Nat.le_refl _) ?_
    rw [lnf_none e] at hK; exact hK
  · skip
    have lp : ∀ i : Nat, i ≤ lm → Wp D N l (EI M_Rf_lineFor) M_Rf_lineFor (Rm (d + 3) 0 0) (Qm D N K 0 0) 0 0 21 [(5, .int (nI i)), (4, .int (ov (blf c P nb m s b cu key i))), (3, .int (nI cu)), (0, .ref (N + 0)), (1, .int (nI b)), (2, .int key)] [] (encR D N c z P Q ++ rest) := by
      refine up_loop ?_ ?_
      · skip
        refine wp_iload_n d_Rf_lineFor_21 rfl rfl ?_
        refine wp_iconst d_Rf_lineFor_22 rfl ic_m1 ?_
        refine wp_icmp_eq_f (tgt := 83) d_Rf_lineFor_23 (by decide) rfl (nI_nm1 (by omega)) ?_
        refine wp_iload d_Rf_lineFor_26 rfl rfl ?_
        refine wp_aload_n d_Rf_lineFor_28 rfl rfl ?_
        refine wp_get fl_Rf_80 d_Rf_lineFor_29 rfl rfl rfl ?_
        refine wp_iload_n d_Rf_lineFor_32 rfl rfl ?_
        refine wp_iald d_Rf_lineFor_33 rfl (rfl) (by omega) (by decide) ?_
        rw [elm]
        refine wp_icmp_ge_t (tgt := 83) d_Rf_lineFor_34 (by decide) (nI_le (Nat.le_refl _) (by omega)) ?_
        refine wp_iload d_Rf_lineFor_83 rfl rfl ?_
        refine wp_iret d_Rf_lineFor_85 rfl (Nat.le_refl _) (Nat.le_refl _) ?_
        rw [lnf_some e l6 elm l9] at hK; exact hK
      · intro i hi ih
        refine wp_iload_n d_Rf_lineFor_21 rfl rfl ?_
        refine wp_iconst d_Rf_lineFor_22 rfl ic_m1 ?_
        refine wp_icmp_eq_f (tgt := 83) d_Rf_lineFor_23 (by decide) rfl (nI_nm1 (by omega)) ?_
        refine wp_iload d_Rf_lineFor_26 rfl rfl ?_
        refine wp_aload_n d_Rf_lineFor_28 rfl rfl ?_
        refine wp_get fl_Rf_80 d_Rf_lineFor_29 rfl rfl rfl ?_
        refine wp_iload_n d_Rf_lineFor_32 rfl rfl ?_
        refine wp_iald d_Rf_lineFor_33 rfl (rfl) (by omega) (by decide) ?_
        rw [elm]
        refine wp_icmp_ge_f (tgt := 83) d_Rf_lineFor_34 (by decide) rfl (nI_ge hi (by omega)) ?_
        refine wp_aload_n d_Rf_lineFor_37 rfl rfl ?_
        refine wp_get fl_Rf_83 d_Rf_lineFor_38 rfl rfl rfl ?_
        refine wp_bipush d_Rf_lineFor_41 rfl bp_8 ?_
        refine wp_iload_n d_Rf_lineFor_43 rfl rfl ?_
        first | refine wp_imulN d_Rf_lineFor_44 rfl ?_ | refine wp_imul d_Rf_lineFor_44 rfl ?_
        refine wp_iload d_Rf_lineFor_45 rfl rfl ?_
        first | refine wp_iaddN d_Rf_lineFor_47 rfl ?_ | refine wp_iadd d_Rf_lineFor_47 rfl ?_
        refine wp_iald d_Rf_lineFor_48 rfl (rfl) (by omega) (by decide) ?_
        refine wp_iload_n d_Rf_lineFor_49 rfl rfl ?_
        refine wp_icmp_ne (tgt := 73) d_Rf_lineFor_50 (by decide) rfl (fun hc_50 => ?_) (fun hc_50 => ?_)
        · refine wp_iload d_Rf_lineFor_73 rfl rfl ?_
          refine wp_istore (L2 := [(4, _), (5, _), (3, _), (0, _), (1, _), (2, _)]) d_Rf_lineFor_75 rfl (by decide) rfl ?_
          refine wp_iinc (L2 := [(5, _), (4, _), (3, _), (0, _), (1, _), (2, _)]) d_Rf_lineFor_77 rfl rfl (iinc_1) (by decide) rfl ?_
          refine wp_goto (tgt := 21) d_Rf_lineFor_80 (by decide) ?_
          first | (rw [blf, if_pos ⟨hc_50, hh⟩] at ih; exact ih) | (rw [blf, if_neg (fun z => by rw [hh] at z; exact absurd z.2 (by decide))] at ih; exact ih) | (rw [blf, if_neg (fun z => hc_50 z.1)] at ih; exact ih)
        · refine wp_aload_n d_Rf_lineFor_53 rfl rfl ?_
          refine wp_bipush d_Rf_lineFor_54 rfl bp_8 ?_
          refine wp_iload_n d_Rf_lineFor_56 rfl rfl ?_
          first | refine wp_imulN d_Rf_lineFor_57 rfl ?_ | refine wp_imul d_Rf_lineFor_57 rfl ?_
          refine wp_iload d_Rf_lineFor_58 rfl rfl ?_
          first | refine wp_iaddN d_Rf_lineFor_60 rfl ?_ | refine wp_iadd d_Rf_lineFor_60 rfl ?_
          refine wp_iload_n d_Rf_lineFor_61 rfl rfl ?_
          refine wp_cv2 lk_Rf_223 (ro _ _ _) d_Rf_lineFor_62 rfl (Nat.le_of_ble_eq_true rfl) (rfl) rfl (Nat.zero_le _) (Nat.zero_le _) ?_
          obtain ⟨q1, q2, q3⟩ := hCI.line l1 (show i < tn (c 22 cu) by rw [etn]; exact hi)
          refine ok_Rf_holds hnb h12 em hm hb hs es (by omega) q1 q2 q3 (fun hh => ?_) (fun hh => ?_)
          · refine wp_if_eq_f (tgt := 73) d_Rf_lineFor_65 (by decide) rfl (by decide) ?_
            refine wp_iload d_Rf_lineFor_68 rfl rfl ?_
            refine wp_goto (tgt := 75) d_Rf_lineFor_70 (by decide) ?_
            refine wp_istore (L2 := [(4, _), (5, _), (3, _), (0, _), (1, _), (2, _)]) d_Rf_lineFor_75 rfl (by decide) rfl ?_
            refine wp_iinc (L2 := [(5, _), (4, _), (3, _), (0, _), (1, _), (2, _)]) d_Rf_lineFor_77 rfl rfl (iinc_1) (by decide) rfl ?_
            refine wp_goto (tgt := 21) d_Rf_lineFor_80 (by decide) ?_
            first | (rw [blf, if_pos ⟨hc_50, hh⟩] at ih; exact ih) | (rw [blf, if_neg (fun z => by rw [hh] at z; exact absurd z.2 (by decide))] at ih; exact ih) | (rw [blf, if_neg (fun z => hc_50 z.1)] at ih; exact ih)
          · refine wp_if_eq_t (tgt := 73) d_Rf_lineFor_65 (by decide) (by decide) ?_
            refine wp_iload d_Rf_lineFor_73 rfl rfl ?_
            refine wp_istore (L2 := [(4, _), (5, _), (3, _), (0, _), (1, _), (2, _)]) d_Rf_lineFor_75 rfl (by decide) rfl ?_
            refine wp_iinc (L2 := [(5, _), (4, _), (3, _), (0, _), (1, _), (2, _)]) d_Rf_lineFor_77 rfl rfl (iinc_1) (by decide) rfl ?_
            refine wp_goto (tgt := 21) d_Rf_lineFor_80 (by decide) ?_
            first | (rw [blf, if_pos ⟨hc_50, hh⟩] at ih; exact ih) | (rw [blf, if_neg (fun z => by rw [hh] at z; exact absurd z.2 (by decide))] at ih; exact ih) | (rw [blf, if_neg (fun z => hc_50 z.1)] at ih; exact ih)
    refine wp_aload_n d_Rf_lineFor_0 rfl rfl ?_
    refine wp_get fl_Rf_43 d_Rf_lineFor_1 rfl rfl rfl ?_
    refine wp_aload_n d_Rf_lineFor_4 rfl rfl ?_
    refine wp_get fl_Rf_7 d_Rf_lineFor_5 rfl rfl rfl ?_
    refine wp_bipush d_Rf_lineFor_8 rfl bp_84 ?_
    refine wp_iload_n d_Rf_lineFor_10 rfl rfl ?_
    first | refine wp_iaddN d_Rf_lineFor_11 rfl ?_ | refine wp_iadd d_Rf_lineFor_11 rfl ?_
    refine wp_iald d_Rf_lineFor_12 rfl (rfl) (by omega) (by decide) ?_
    rw [es]
    refine wp_iald d_Rf_lineFor_13 rfl (rfl) (by omega) (by decide) ?_
    rw [e]
    refine wp_istore_n (L2 := [(3, _), (0, _), (1, _), (2, _)]) d_Rf_lineFor_14 rfl (by decide) rfl ?_
    refine wp_iconst d_Rf_lineFor_15 rfl ic_m1 ?_
    refine wp_istore (L2 := [(4, _), (3, _), (0, _), (1, _), (2, _)]) d_Rf_lineFor_16 rfl (by decide) rfl ?_
    refine wp_iconst d_Rf_lineFor_18 rfl ic_0 ?_
    refine wp_istore (L2 := [(5, _), (4, _), (3, _), (0, _), (1, _), (2, _)]) d_Rf_lineFor_19 rfl (by decide) rfl ?_
    exact lp 0 (Nat.zero_le _)
theorem d_Rf_lawOf_0 : decode M_Rf_lawOf.2.1 0 = .ok (.aload_n 0, 1) := by decide +kernel
theorem d_Rf_lawOf_1 : decode M_Rf_lawOf.2.1 1 = .ok (.iload_n 1, 1) := by decide +kernel
theorem d_Rf_lawOf_2 : decode M_Rf_lawOf.2.1 2 = .ok (.iload_n 2, 1) := by decide +kernel
theorem d_Rf_lawOf_3 : decode M_Rf_lawOf.2.1 3 = .ok (.invokevirtual 227, 3) := by decide +kernel
theorem d_Rf_lawOf_6 : decode M_Rf_lawOf.2.1 6 = .ok (.istore_n 3, 1) := by decide +kernel
theorem d_Rf_lawOf_7 : decode M_Rf_lawOf.2.1 7 = .ok (.iload_n 3, 1) := by decide +kernel
theorem d_Rf_lawOf_8 : decode M_Rf_lawOf.2.1 8 = .ok (.iconst (-1), 1) := by decide +kernel
theorem d_Rf_lawOf_9 : decode M_Rf_lawOf.2.1 9 = .ok (.if_icmp .ne 27, 3) := by decide +kernel
theorem d_Rf_lawOf_12 : decode M_Rf_lawOf.2.1 12 = .ok (.iload_n 2, 1) := by decide +kernel
theorem d_Rf_lawOf_13 : decode M_Rf_lawOf.2.1 13 = .ok (.ifCond .ne 8, 3) := by decide +kernel
theorem d_Rf_lawOf_16 : decode M_Rf_lawOf.2.1 16 = .ok (.bipush 100, 2) := by decide +kernel
theorem d_Rf_lawOf_18 : decode M_Rf_lawOf.2.1 18 = .ok (.goto 42, 3) := by decide +kernel
theorem d_Rf_lawOf_21 : decode M_Rf_lawOf.2.1 21 = .ok (.iload_n 2, 1) := by decide +kernel
theorem d_Rf_lawOf_22 : decode M_Rf_lawOf.2.1 22 = .ok (.iconst 1, 1) := by decide +kernel
theorem d_Rf_lawOf_23 : decode M_Rf_lawOf.2.1 23 = .ok (.if_icmp .ne 8, 3) := by decide +kernel
theorem d_Rf_lawOf_26 : decode M_Rf_lawOf.2.1 26 = .ok (.bipush 20, 2) := by decide +kernel
theorem d_Rf_lawOf_28 : decode M_Rf_lawOf.2.1 28 = .ok (.goto 32, 3) := by decide +kernel
theorem d_Rf_lawOf_31 : decode M_Rf_lawOf.2.1 31 = .ok (.bipush 30, 2) := by decide +kernel
theorem d_Rf_lawOf_33 : decode M_Rf_lawOf.2.1 33 = .ok (.goto 27, 3) := by decide +kernel
theorem d_Rf_lawOf_36 : decode M_Rf_lawOf.2.1 36 = .ok (.aload_n 0, 1) := by decide +kernel
theorem d_Rf_lawOf_37 : decode M_Rf_lawOf.2.1 37 = .ok (.getfield 86, 3) := by decide +kernel
theorem d_Rf_lawOf_40 : decode M_Rf_lawOf.2.1 40 = .ok (.bipush 8, 2) := by decide +kernel
theorem d_Rf_lawOf_42 : decode M_Rf_lawOf.2.1 42 = .ok (.aload_n 0, 1) := by decide +kernel
theorem d_Rf_lawOf_43 : decode M_Rf_lawOf.2.1 43 = .ok (.getfield 43, 3) := by decide +kernel
theorem d_Rf_lawOf_46 : decode M_Rf_lawOf.2.1 46 = .ok (.aload_n 0, 1) := by decide +kernel
theorem d_Rf_lawOf_47 : decode M_Rf_lawOf.2.1 47 = .ok (.getfield 7, 3) := by decide +kernel
theorem d_Rf_lawOf_50 : decode M_Rf_lawOf.2.1 50 = .ok (.bipush 84, 2) := by decide +kernel
theorem d_Rf_lawOf_52 : decode M_Rf_lawOf.2.1 52 = .ok (.iload_n 1, 1) := by decide +kernel
theorem d_Rf_lawOf_53 : decode M_Rf_lawOf.2.1 53 = .ok (.iadd, 1) := by decide +kernel
theorem d_Rf_lawOf_54 : decode M_Rf_lawOf.2.1 54 = .ok (.iaload, 1) := by decide +kernel
theorem d_Rf_lawOf_55 : decode M_Rf_lawOf.2.1 55 = .ok (.iaload, 1) := by decide +kernel
theorem d_Rf_lawOf_56 : decode M_Rf_lawOf.2.1 56 = .ok (.imul, 1) := by decide +kernel
theorem d_Rf_lawOf_57 : decode M_Rf_lawOf.2.1 57 = .ok (.iload_n 3, 1) := by decide +kernel
theorem d_Rf_lawOf_58 : decode M_Rf_lawOf.2.1 58 = .ok (.iadd, 1) := by decide +kernel
theorem d_Rf_lawOf_59 : decode M_Rf_lawOf.2.1 59 = .ok (.iaload, 1) := by decide +kernel
theorem d_Rf_lawOf_60 : decode M_Rf_lawOf.2.1 60 = .ok (.ireturn, 1) := by decide +kernel
set_option maxHeartbeats 4000000 in
set_option maxRecDepth 100000 in
theorem ok_Rf_lawOf {D : xD} {N : Nat} {l : Launch} {d : Nat} {c z : T2} {P Q : Nat → Int32} {rest : List va_E} {K : Option Value → List va_E → Prop} {nb : Nat} (hnb : c 32 1 = nI nb) (h12 : nb ≤ 12) {m : Nat} (em : P 234 = nI m) (hm : m < 14700) {b s : Nat} (hb : b < 12) (hs : s < 6) (es : P (84 + b) = nI s) {key : Nat} (hk3 : key < 3) (hCI : CI c) (hK : K (some (.int (lawv c P nb m s b key))) (encR D N c z P Q ++ rest)) : Ok D N l (d + 4) M_Rf_lawOf [.ref (N + 0), .int (nI b), .int (nI key)] (encR D N c z P Q ++ rest) 0 0 K := by
  refine ok_of (L := [(0, _), (1, _), (2, _)]) (by decide) (Nat.le_of_ble_eq_true rfl) rfl ?_
  cases ho : lnf c P nb m s b (nI key) with
  | none =>
    rw [lawv, ho] at hK
    rcases (show key = 0 ∨ key = 1 ∨ key = 2 by omega) with rfl | rfl | rfl
    · skip
      refine wp_aload_n d_Rf_lawOf_0 rfl rfl ?_
      refine wp_iload_n d_Rf_lawOf_1 rfl rfl ?_
      refine wp_iload_n d_Rf_lawOf_2 rfl rfl ?_
      refine wp_cv2 lk_Rf_227 (ro _ _ _) d_Rf_lawOf_3 rfl (Nat.le_of_ble_eq_true rfl) (rfl) rfl (Nat.zero_le _) (Nat.zero_le _) ?_
      refine ok_Rf_lineFor hnb h12 em hm hb hs es hCI ?_
      rw [ho]
      refine wp_istore_n (L2 := [(3, _), (0, _), (1, _), (2, _)]) d_Rf_lawOf_6 rfl (by decide) rfl ?_
      refine wp_iload_n d_Rf_lawOf_7 rfl rfl ?_
      refine wp_iconst d_Rf_lawOf_8 rfl ic_m1 ?_
      refine wp_icmp_ne_f (tgt := 36) d_Rf_lawOf_9 (by decide) rfl (by decide) ?_
      refine wp_iload_n d_Rf_lawOf_12 rfl rfl ?_
      refine wp_if_ne_f (tgt := 21) d_Rf_lawOf_13 (by decide) rfl (by decide) ?_
      refine wp_bipush d_Rf_lawOf_16 rfl bp_100 ?_
      refine wp_goto (tgt := 60) d_Rf_lawOf_18 (by decide) ?_
      refine wp_iret d_Rf_lawOf_60 rfl (Nat.le_refl _) (Nat.le_refl _) ?_
      exact hK
    · skip
      refine wp_aload_n d_Rf_lawOf_0 rfl rfl ?_
      refine wp_iload_n d_Rf_lawOf_1 rfl rfl ?_
      refine wp_iload_n d_Rf_lawOf_2 rfl rfl ?_
      refine wp_cv2 lk_Rf_227 (ro _ _ _) d_Rf_lawOf_3 rfl (Nat.le_of_ble_eq_true rfl) (rfl) rfl (Nat.zero_le _) (Nat.zero_le _) ?_
      refine ok_Rf_lineFor hnb h12 em hm hb hs es hCI ?_
      rw [ho]
      refine wp_istore_n (L2 := [(3, _), (0, _), (1, _), (2, _)]) d_Rf_lawOf_6 rfl (by decide) rfl ?_
      refine wp_iload_n d_Rf_lawOf_7 rfl rfl ?_
      refine wp_iconst d_Rf_lawOf_8 rfl ic_m1 ?_
      refine wp_icmp_ne_f (tgt := 36) d_Rf_lawOf_9 (by decide) rfl (by decide) ?_
      refine wp_iload_n d_Rf_lawOf_12 rfl rfl ?_
      refine wp_if_ne_t (tgt := 21) d_Rf_lawOf_13 (by decide) (by decide) ?_
      refine wp_iload_n d_Rf_lawOf_21 rfl rfl ?_
      refine wp_iconst d_Rf_lawOf_22 rfl ic_1 ?_
      refine wp_icmp_ne_f (tgt := 31) d_Rf_lawOf_23 (by decide) rfl (by decide) ?_
      refine wp_bipush d_Rf_lawOf_26 rfl bp_20 ?_
      refine wp_goto (tgt := 60) d_Rf_lawOf_28 (by decide) ?_
      refine wp_iret d_Rf_lawOf_60 rfl (Nat.le_refl _) (Nat.le_refl _) ?_
      exact hK
    · skip
      refine wp_aload_n d_Rf_lawOf_0 rfl rfl ?_
      refine wp_iload_n d_Rf_lawOf_1 rfl rfl ?_
      refine wp_iload_n d_Rf_lawOf_2 rfl rfl ?_
      refine wp_cv2 lk_Rf_227 (ro _ _ _) d_Rf_lawOf_3 rfl (Nat.le_of_ble_eq_true rfl) (rfl) rfl (Nat.zero_le _) (Nat.zero_le _) ?_
      refine ok_Rf_lineFor hnb h12 em hm hb hs es hCI ?_
      rw [ho]
      refine wp_istore_n (L2 := [(3, _), (0, _), (1, _), (2, _)]) d_Rf_lawOf_6 rfl (by decide) rfl ?_
      refine wp_iload_n d_Rf_lawOf_7 rfl rfl ?_
      refine wp_iconst d_Rf_lawOf_8 rfl ic_m1 ?_
      refine wp_icmp_ne_f (tgt := 36) d_Rf_lawOf_9 (by decide) rfl (by decide) ?_
      refine wp_iload_n d_Rf_lawOf_12 rfl rfl ?_
      refine wp_if_ne_t (tgt := 21) d_Rf_lawOf_13 (by decide) (by decide) ?_
      refine wp_iload_n d_Rf_lawOf_21 rfl rfl ?_
      refine wp_iconst d_Rf_lawOf_22 rfl ic_1 ?_
      refine wp_icmp_ne_t (tgt := 31) d_Rf_lawOf_23 (by decide) (by decide) ?_
      refine wp_bipush d_Rf_lawOf_31 rfl bp_30 ?_
      refine wp_goto (tgt := 60) d_Rf_lawOf_33 (by decide) ?_
      refine wp_iret d_Rf_lawOf_60 rfl (Nat.le_refl _) (Nat.le_refl _) ?_
      exact hK
  | some i =>
    rcases hCI.cu hs with e | ⟨cu, lm, l1, l6, l9, e, elm, etn⟩
    · rw [lnf_none e] at ho; cases ho
    have hi := blf_lt ((lnf_some e l6 elm l9).symm.trans ho)
    rw [lawv, ho] at hK
    dsimp only at hK
    refine wp_aload_n d_Rf_lawOf_0 rfl rfl ?_
    refine wp_iload_n d_Rf_lawOf_1 rfl rfl ?_
    refine wp_iload_n d_Rf_lawOf_2 rfl rfl ?_
    refine wp_cv2 lk_Rf_227 (ro _ _ _) d_Rf_lawOf_3 rfl (Nat.le_of_ble_eq_true rfl) (rfl) rfl (Nat.zero_le _) (Nat.zero_le _) ?_
    refine ok_Rf_lineFor hnb h12 em hm hb hs es hCI ?_
    rw [ho]
    refine wp_istore_n (L2 := [(3, _), (0, _), (1, _), (2, _)]) d_Rf_lawOf_6 rfl (by decide) rfl ?_
    refine wp_iload_n d_Rf_lawOf_7 rfl rfl ?_
    refine wp_iconst d_Rf_lawOf_8 rfl ic_m1 ?_
    refine wp_icmp_ne_t (tgt := 36) d_Rf_lawOf_9 (by decide) (nI_nm1 (by omega)) ?_
    refine wp_aload_n d_Rf_lawOf_36 rfl rfl ?_
    refine wp_get fl_Rf_86 d_Rf_lawOf_37 rfl rfl rfl ?_
    refine wp_bipush d_Rf_lawOf_40 rfl bp_8 ?_
    refine wp_aload_n d_Rf_lawOf_42 rfl rfl ?_
    refine wp_get fl_Rf_43 d_Rf_lawOf_43 rfl rfl rfl ?_
    refine wp_aload_n d_Rf_lawOf_46 rfl rfl ?_
    refine wp_get fl_Rf_7 d_Rf_lawOf_47 rfl rfl rfl ?_
    refine wp_bipush d_Rf_lawOf_50 rfl bp_84 ?_
    refine wp_iload_n d_Rf_lawOf_52 rfl rfl ?_
    first | refine wp_iaddN d_Rf_lawOf_53 rfl ?_ | refine wp_iadd d_Rf_lawOf_53 rfl ?_
    refine wp_iald d_Rf_lawOf_54 rfl (rfl) (by omega) (by decide) ?_
    rw [es]
    refine wp_iald d_Rf_lawOf_55 rfl (rfl) (by omega) (by decide) ?_
    rw [e]
    first | refine wp_imulN d_Rf_lawOf_56 rfl ?_ | refine wp_imul d_Rf_lawOf_56 rfl ?_
    refine wp_iload_n d_Rf_lawOf_57 rfl rfl ?_
    first | refine wp_iaddN d_Rf_lawOf_58 rfl ?_ | refine wp_iadd d_Rf_lawOf_58 rfl ?_
    refine wp_iald d_Rf_lawOf_59 rfl (rfl) (by omega) (by decide) ?_
    refine wp_iret d_Rf_lawOf_60 rfl (Nat.le_refl _) (Nat.le_refl _) ?_
    rw [e, tnt l6] at hK; exact hK
end
section
section WX
variable {D : xD} {N : Nat} {l : Launch} {E : EX} {M : MD} {R : Room} {Qf : QF} {k n pc : Nat} {L : List (Nat × Value)} {st : List Value} {g : List va_E}
theorem wp_plainS {q idx : Nat} {host : String} (hw : Cond.fieldLinkNest M.1.cls idx "FillAndGo" "PLAIN" "[I" host ∈ nestw) (hd : decode M.2.1 pc = .ok (.getstatic idx, 3)) (hq : pc + 3 = q) (h : Wp D N l E M R Qf k n q L (.ref D.2.2.1 :: st) g) : Wp D N l E M R Qf k n pc L st g := by
  subst hq
  intro p e s m args below meth c C H locs ls hH hS hl
  exact va_getsN C.1 C.2.1 C.2.2.2.2.2.1.2.2.1 hS C.2.2.2.1 (va_Nw.use rfl (C.2.2.2.2.2.1.2.1 _ hw)) (fun _ h => h) hd (h p e s m args below meth c C H locs ls hH hS hl)
theorem wp_plainL {q j : Nat} (hd : decode M.2.1 pc = .ok (.iaload, 1)) (hq : pc + 1 = q) (hj : j < 3) (h : Wp D N l E M R Qf k n q L (.int (plainI j) :: st) g) : Wp D N l E M R Qf k n pc L (.int (nI j) :: .ref D.2.2.1 :: st) g := by
  subst hq
  intro p e s m args below meth c C H locs ls hH hS hl
  exact va_ti C.1 C.2.1 C.2.2.2.2.2.1.2.2.2.1 hS (nI_vp hj (by decide)) (by rw [nI_cl hj (by decide)]) hd (h p e s m args below meth c C H locs ls hH hS hl)
theorem wp_ifnullN {tgt : Nat} {off : Int} (hd : decode M.2.1 pc = .ok (.ifnull off, 3)) (ht : (pc : Int) + off = (tgt : Int)) (h : Wp D N l E M R Qf k n tgt L st g) : Wp D N l E M R Qf k n pc L (.null :: st) g := by
  intro p e s m args below meth c C H locs ls hH hS hl
  exact lv_ifnullN C.1 C.2.1 hd ht (h p e s m args below meth c C H locs ls hH hS hl)
theorem wp_ifnonnullN {q : Nat} {off : Int} (hd : decode M.2.1 pc = .ok (.ifnonnull off, 3)) (hq : pc + 3 = q) (h : Wp D N l E M R Qf k n q L st g) : Wp D N l E M R Qf k n pc L (.null :: st) g := by
  subst hq
  intro p e s m args below meth c C H locs ls hH hS hl
  exact lv_ifnonnullN C.1 C.2.1 hd (h p e s m args below meth c C H locs ls hH hS hl)
end WX
section WX
variable {D : xD} {N : Nat} {l : Launch} {E : EX} {M : MD} {R : Room} {Qf : QF} {k n pc : Nat} {L : List (Nat × Value)} {st : List Value} {g : List va_E}
theorem wp_aload_nN {q : Nat} {i : Fin 4} (hd : decode M.2.1 pc = .ok (.aload_n i, 1)) (hq : pc + 1 = q) (hi : L.lookup (i : Nat) = some .null) (h : Wp D N l E M R Qf k n q L (.null :: st) g) : Wp D N l E M R Qf k n pc L st g := by
  subst hq
  intro p e s m args below meth c C H locs ls hH hS hl
  exact lv_aload_nN C.1 C.2.1 hd rfl (hl.2.2 _ (lk_mem hi)) (h p e s m args below meth c C H locs ls hH hS hl)
theorem wp_astore_nN {q : Nat} {i : Fin 4} {L2 : List (Nat × Value)} (hd : decode M.2.1 pc = .ok (.astore_n i, 1)) (hq : pc + 1 = q) (hn : (i : Nat) < M.2.2.1) (hL : ((i : Nat), Value.null) :: L.filter (fun q => !(q.1 == (i : Nat)) && !(q.1 + 1 == (i : Nat) && q.2.category == 2)) = L2) (h : Wp D N l E M R Qf k n q L2 st g) : Wp D N l E M R Qf k n pc L (.null :: st) g := by
  subst hq
  intro p e s m args below meth c C H locs ls hH hS hl
  exact lv_astore_nN C.1 C.2.1 hd rfl hl hn hL (fun ls' hl' => h p e s m args below meth c C H locs ls' hH hS hl')
end WX
section WX
variable {D : xD} {N : Nat} {l : Launch} {E : EX} {M : MD} {R : Room} {Qf : QF} {k n pc : Nat} {L : List (Nat × Value)} {st : List Value} {g : List va_E}
theorem wp_aloadN {q : Nat} {i : Nat} (hd : decode M.2.1 pc = .ok (.aload i, 2)) (hq : pc + 2 = q) (hi : L.lookup i = some .null) (h : Wp D N l E M R Qf k n q L (.null :: st) g) : Wp D N l E M R Qf k n pc L st g := by
  subst hq
  intro p e s m args below meth c C H locs ls hH hS hl
  exact lv_aloadN C.1 C.2.1 hd (hl.2.2 _ (lk_mem hi)) (h p e s m args below meth c C H locs ls hH hS hl)
theorem wp_astoreN {q : Nat} {i : Nat} {L2 : List (Nat × Value)} (hd : decode M.2.1 pc = .ok (.astore i, 2)) (hq : pc + 2 = q) (hn : i < M.2.2.1) (hL : (i, Value.null) :: L.filter (fun q => !(q.1 == i) && !(q.1 + 1 == i && q.2.category == 2)) = L2) (h : Wp D N l E M R Qf k n q L2 st g) : Wp D N l E M R Qf k n pc L (.null :: st) g := by
  subst hq
  intro p e s m args below meth c C H locs ls hH hS hl
  exact lv_astoreN C.1 C.2.1 hd hl hn hL (fun ls' hl' => h p e s m args below meth c C H locs ls' hH hS hl')
end WX
theorem kn_plain : Cond.fieldLinkNest RX9 102 "FillAndGo" "PLAIN" "[I" "FillAndGo" ∈ nestw := gn 572 (by decide +kernel) (by decide +kernel)
theorem rdX {D : xD} {N : Nat} {c x V : T2} {ln df : Nat → Option Nat} {rest : List va_E} {j : Nat} : (encC D N c x V ln df ++ rest)[124 + j]? = rest[j]? := by
  rw [List.getElem?_append_right (by rw [encC_len]; omega), encC_len, show 124 + j - 124 = j by omega]
/-- a Line and its three rows among what lies behind -/
def LAt (D : xD) (N : Nat) (rest : List va_E) (j : Nat) (key num : Int32) (nt : Nat) (F S B : Nat → Int32) : Prop :=
  rest[j]? = some (.inr (4, [.int key, .int num, .int (nI nt), .ref (N + (124 + (j + 1))), .ref (N + (124 + (j + 2))), .ref (N + (124 + (j + 3)))])) ∧ rest[j + 1]? = some (iA D 3 F) ∧ rest[j + 2]? = some (iA D 3 S) ∧ rest[j + 3]? = some (iA D 3 B)
def LOK (D : xD) (N : Nat) (c : T2) (ln : Nat → Option Nat) (rest : List va_E) : Prop := ∀ cu i, cu < tn (c 32 9) → i < 8 →
  (i < tn (c 22 cu) → ∃ (j : Nat) (F S B : Nat → Int32), ln (8 * cu + i) = some (N + (124 + j)) ∧ LAt D N rest j (c 23 (8 * cu + i)) (c 24 (8 * cu + i)) (tn (c 25 (8 * cu + i))) F S B ∧ ∀ t, t < tn (c 25 (8 * cu + i)) → F t = c 26 (3 * (8 * cu + i) + t) ∧ S t = c 27 (3 * (8 * cu + i) + t) ∧ B t = c 28 (3 * (8 * cu + i) + t)) ∧ (tn (c 22 cu) ≤ i → ln (8 * cu + i) = none)
theorem d_Tn_factsOf_0 : decode M_Tn_factsOf.2.1 0 = .ok (.aload_n 1, 1) := by decide +kernel
theorem d_Tn_factsOf_1 : decode M_Tn_factsOf.2.1 1 = .ok (.getfield 115, 3) := by decide +kernel
theorem d_Tn_factsOf_4 : decode M_Tn_factsOf.2.1 4 = .ok (.iload_n 2, 1) := by decide +kernel
theorem d_Tn_factsOf_5 : decode M_Tn_factsOf.2.1 5 = .ok (.aaload, 1) := by decide +kernel
theorem d_Tn_factsOf_6 : decode M_Tn_factsOf.2.1 6 = .ok (.astore_n 3, 1) := by decide +kernel
theorem d_Tn_factsOf_7 : decode M_Tn_factsOf.2.1 7 = .ok (.aload_n 0, 1) := by decide +kernel
theorem d_Tn_factsOf_8 : decode M_Tn_factsOf.2.1 8 = .ok (.getfield 51, 3) := by decide +kernel
theorem d_Tn_factsOf_11 : decode M_Tn_factsOf.2.1 11 = .ok (.iconst 0, 1) := by decide +kernel
theorem d_Tn_factsOf_12 : decode M_Tn_factsOf.2.1 12 = .ok (.aload_n 1, 1) := by decide +kernel
theorem d_Tn_factsOf_13 : decode M_Tn_factsOf.2.1 13 = .ok (.getfield 121, 3) := by decide +kernel
theorem d_Tn_factsOf_16 : decode M_Tn_factsOf.2.1 16 = .ok (.aload_n 3, 1) := by decide +kernel
theorem d_Tn_factsOf_17 : decode M_Tn_factsOf.2.1 17 = .ok (.getfield 124, 3) := by decide +kernel
theorem d_Tn_factsOf_20 : decode M_Tn_factsOf.2.1 20 = .ok (.isub, 1) := by decide +kernel
theorem d_Tn_factsOf_21 : decode M_Tn_factsOf.2.1 21 = .ok (.iastore, 1) := by decide +kernel
theorem d_Tn_factsOf_22 : decode M_Tn_factsOf.2.1 22 = .ok (.aload_n 0, 1) := by decide +kernel
theorem d_Tn_factsOf_23 : decode M_Tn_factsOf.2.1 23 = .ok (.getfield 51, 3) := by decide +kernel
theorem d_Tn_factsOf_26 : decode M_Tn_factsOf.2.1 26 = .ok (.iconst 1, 1) := by decide +kernel
theorem d_Tn_factsOf_27 : decode M_Tn_factsOf.2.1 27 = .ok (.aload_n 3, 1) := by decide +kernel
theorem d_Tn_factsOf_28 : decode M_Tn_factsOf.2.1 28 = .ok (.getfield 129, 3) := by decide +kernel
theorem d_Tn_factsOf_31 : decode M_Tn_factsOf.2.1 31 = .ok (.iastore, 1) := by decide +kernel
theorem d_Tn_factsOf_32 : decode M_Tn_factsOf.2.1 32 = .ok (.aload_n 0, 1) := by decide +kernel
theorem d_Tn_factsOf_33 : decode M_Tn_factsOf.2.1 33 = .ok (.getfield 51, 3) := by decide +kernel
theorem d_Tn_factsOf_36 : decode M_Tn_factsOf.2.1 36 = .ok (.iconst 2, 1) := by decide +kernel
theorem d_Tn_factsOf_37 : decode M_Tn_factsOf.2.1 37 = .ok (.aload_n 1, 1) := by decide +kernel
theorem d_Tn_factsOf_38 : decode M_Tn_factsOf.2.1 38 = .ok (.getfield 132, 3) := by decide +kernel
theorem d_Tn_factsOf_41 : decode M_Tn_factsOf.2.1 41 = .ok (.iastore, 1) := by decide +kernel
theorem d_Tn_factsOf_42 : decode M_Tn_factsOf.2.1 42 = .ok (.aload_n 0, 1) := by decide +kernel
theorem d_Tn_factsOf_43 : decode M_Tn_factsOf.2.1 43 = .ok (.getfield 51, 3) := by decide +kernel
theorem d_Tn_factsOf_46 : decode M_Tn_factsOf.2.1 46 = .ok (.iconst 3, 1) := by decide +kernel
theorem d_Tn_factsOf_47 : decode M_Tn_factsOf.2.1 47 = .ok (.aload_n 1, 1) := by decide +kernel
theorem d_Tn_factsOf_48 : decode M_Tn_factsOf.2.1 48 = .ok (.invokevirtual 135, 3) := by decide +kernel
theorem d_Tn_factsOf_51 : decode M_Tn_factsOf.2.1 51 = .ok (.iastore, 1) := by decide +kernel
theorem d_Tn_factsOf_52 : decode M_Tn_factsOf.2.1 52 = .ok (.aload_n 0, 1) := by decide +kernel
theorem d_Tn_factsOf_53 : decode M_Tn_factsOf.2.1 53 = .ok (.getfield 51, 3) := by decide +kernel
theorem d_Tn_factsOf_56 : decode M_Tn_factsOf.2.1 56 = .ok (.iconst 4, 1) := by decide +kernel
theorem d_Tn_factsOf_57 : decode M_Tn_factsOf.2.1 57 = .ok (.aload_n 1, 1) := by decide +kernel
theorem d_Tn_factsOf_58 : decode M_Tn_factsOf.2.1 58 = .ok (.aload_n 3, 1) := by decide +kernel
theorem d_Tn_factsOf_59 : decode M_Tn_factsOf.2.1 59 = .ok (.getfield 139, 3) := by decide +kernel
theorem d_Tn_factsOf_62 : decode M_Tn_factsOf.2.1 62 = .ok (.invokevirtual 142, 3) := by decide +kernel
theorem d_Tn_factsOf_65 : decode M_Tn_factsOf.2.1 65 = .ok (.iastore, 1) := by decide +kernel
theorem d_Tn_factsOf_66 : decode M_Tn_factsOf.2.1 66 = .ok (.aload_n 0, 1) := by decide +kernel
theorem d_Tn_factsOf_67 : decode M_Tn_factsOf.2.1 67 = .ok (.getfield 51, 3) := by decide +kernel
theorem d_Tn_factsOf_70 : decode M_Tn_factsOf.2.1 70 = .ok (.iconst 5, 1) := by decide +kernel
theorem d_Tn_factsOf_71 : decode M_Tn_factsOf.2.1 71 = .ok (.aload_n 3, 1) := by decide +kernel
theorem d_Tn_factsOf_72 : decode M_Tn_factsOf.2.1 72 = .ok (.getfield 139, 3) := by decide +kernel
theorem d_Tn_factsOf_75 : decode M_Tn_factsOf.2.1 75 = .ok (.iastore, 1) := by decide +kernel
theorem d_Tn_factsOf_76 : decode M_Tn_factsOf.2.1 76 = .ok (.aload_n 0, 1) := by decide +kernel
theorem d_Tn_factsOf_77 : decode M_Tn_factsOf.2.1 77 = .ok (.getfield 51, 3) := by decide +kernel
theorem d_Tn_factsOf_80 : decode M_Tn_factsOf.2.1 80 = .ok (.bipush 6, 2) := by decide +kernel
theorem d_Tn_factsOf_82 : decode M_Tn_factsOf.2.1 82 = .ok (.aload_n 0, 1) := by decide +kernel
theorem d_Tn_factsOf_83 : decode M_Tn_factsOf.2.1 83 = .ok (.getfield 24, 3) := by decide +kernel
theorem d_Tn_factsOf_86 : decode M_Tn_factsOf.2.1 86 = .ok (.iload_n 2, 1) := by decide +kernel
theorem d_Tn_factsOf_87 : decode M_Tn_factsOf.2.1 87 = .ok (.iaload, 1) := by decide +kernel
theorem d_Tn_factsOf_88 : decode M_Tn_factsOf.2.1 88 = .ok (.iastore, 1) := by decide +kernel
theorem d_Tn_factsOf_89 : decode M_Tn_factsOf.2.1 89 = .ok (.aload_n 0, 1) := by decide +kernel
theorem d_Tn_factsOf_90 : decode M_Tn_factsOf.2.1 90 = .ok (.getfield 51, 3) := by decide +kernel
theorem d_Tn_factsOf_93 : decode M_Tn_factsOf.2.1 93 = .ok (.bipush 7, 2) := by decide +kernel
theorem d_Tn_factsOf_95 : decode M_Tn_factsOf.2.1 95 = .ok (.aload_n 3, 1) := by decide +kernel
theorem d_Tn_factsOf_96 : decode M_Tn_factsOf.2.1 96 = .ok (.getfield 146, 3) := by decide +kernel
theorem d_Tn_factsOf_99 : decode M_Tn_factsOf.2.1 99 = .ok (.iastore, 1) := by decide +kernel
theorem d_Tn_factsOf_100 : decode M_Tn_factsOf.2.1 100 = .ok (.aload_n 0, 1) := by decide +kernel
theorem d_Tn_factsOf_101 : decode M_Tn_factsOf.2.1 101 = .ok (.getfield 51, 3) := by decide +kernel
theorem d_Tn_factsOf_104 : decode M_Tn_factsOf.2.1 104 = .ok (.areturn, 1) := by decide +kernel
set_option maxHeartbeats 4000000 in
set_option maxRecDepth 100000 in
theorem ok_Tn_factsOf {D : xD} {N : Nat} {l : Launch} {d : Nat} {c x V : T2} {P : Nat → Int32} {w : Nat} {ln df : Nat → Option Nat} {rest : List va_E} {K : Option Value → List va_E → Prop} {nb : Nat} (h12 : nb ≤ 12) (hz : ∀ b, nb ≤ b → b < 12 → P (72 + b) = nI 0) (hw : w < 3) {m : Nat} (em : P 234 = nI m) (hm : m < 14700) {b s : Nat} (hb : b < 12) (hs : s < 6) (es : P (84 + b) = nI s) (hK : ∀ F : Nat → Int32, (∀ f, f < 8 → F f = fld c P nb m s b f) → K (some (.ref (N + 13))) (encC D N c (tput x 1 F) (va_up V w P) ln df ++ rest)) : Ok D N l (d + 2) M_Tn_factsOf [.ref (N + 1), .ref (N + wA w), .int (nI b)] (encC D N c x (va_up V w P) ln df ++ rest) 0 0 K := by
  refine ok_of (L := [(0, _), (1, _), (2, _)]) (by decide) (Nat.le_of_ble_eq_true rfl) rfl ?_
  refine wp_aload_n (q := 1) d_Tn_factsOf_0 rfl rfl ?_
  refine wp_get (q := 4) fl_Tn_115 d_Tn_factsOf_1 rfl (rdO (w := w) hw) rfl ?_
  refine wp_iload_n (q := 5) d_Tn_factsOf_4 rfl rfl ?_
  refine wp_aldR (q := 6) d_Tn_factsOf_5 rfl (rd4 (w := w) hw) (by omega) (by decide) (rowsW_at (by omega)) ?_
  refine wp_astore_n (q := 7) (L2 := [(3, _), (0, _), (1, _), (2, _)]) d_Tn_factsOf_6 rfl (by decide) rfl ?_
  refine wp_aload_n (q := 8) d_Tn_factsOf_7 rfl rfl ?_
  refine wp_get (q := 11) fl_Tn_51 d_Tn_factsOf_8 rfl rfl rfl ?_
  refine wp_iconst (q := 12) d_Tn_factsOf_11 rfl ic_0 ?_
  refine wp_aload_n (q := 13) d_Tn_factsOf_12 rfl rfl ?_
  refine wp_get (q := 16) fl_Tn_121 d_Tn_factsOf_13 rfl (rdO (w := w) hw) rfl ?_
  refine wp_aload_n (q := 17) d_Tn_factsOf_16 rfl rfl ?_
  refine wp_get (q := 20) fl_Tn_124 d_Tn_factsOf_17 rfl (rdR (w := w) hw hb) rfl ?_
  refine wp_isub (q := 21) d_Tn_factsOf_20 rfl ?_
  refine wp_iast (q := 22) d_Tn_factsOf_21 rfl (rfl) (by omega) (by decide) (fc_13) ?_
  refine wp_aload_n (q := 23) d_Tn_factsOf_22 rfl rfl ?_
  refine wp_get (q := 26) fl_Tn_51 d_Tn_factsOf_23 rfl rfl rfl ?_
  refine wp_iconst (q := 27) d_Tn_factsOf_26 rfl ic_1 ?_
  refine wp_aload_n (q := 28) d_Tn_factsOf_27 rfl rfl ?_
  refine wp_get (q := 31) fl_Tn_129 d_Tn_factsOf_28 rfl (rdR (w := w) hw hb) rfl ?_
  refine wp_iast (q := 32) d_Tn_factsOf_31 rfl (rfl) (by omega) (by decide) (fc_13) ?_
  refine wp_aload_n (q := 33) d_Tn_factsOf_32 rfl rfl ?_
  refine wp_get (q := 36) fl_Tn_51 d_Tn_factsOf_33 rfl rfl rfl ?_
  refine wp_iconst (q := 37) d_Tn_factsOf_36 rfl ic_2 ?_
  refine wp_aload_n (q := 38) d_Tn_factsOf_37 rfl rfl ?_
  refine wp_get (q := 41) fl_Tn_132 d_Tn_factsOf_38 rfl (rdO (w := w) hw) rfl ?_
  refine wp_iast (q := 42) d_Tn_factsOf_41 rfl (rfl) (by omega) (by decide) (fc_13) ?_
  refine wp_aload_n (q := 43) d_Tn_factsOf_42 rfl rfl ?_
  refine wp_get (q := 46) fl_Tn_51 d_Tn_factsOf_43 rfl rfl rfl ?_
  refine wp_iconst (q := 47) d_Tn_factsOf_46 rfl ic_3 ?_
  refine wp_aload_n (q := 48) d_Tn_factsOf_47 rfl rfl ?_
  refine wp_cv0 (q := 51) lk_Tn_135 (ro _ _ _) d_Tn_factsOf_48 rfl (Nat.le_of_ble_eq_true rfl) (rdO (w := w) hw) rfl (Nat.zero_le _) (Nat.zero_le _) ?_
  refine ok_Wd_hour (w := w) hw em hm ?_
  refine wp_iast (q := 52) d_Tn_factsOf_51 rfl (rfl) (by omega) (by decide) (fc_13) ?_
  refine wp_aload_n (q := 53) d_Tn_factsOf_52 rfl rfl ?_
  refine wp_get (q := 56) fl_Tn_51 d_Tn_factsOf_53 rfl rfl rfl ?_
  refine wp_iconst (q := 57) d_Tn_factsOf_56 rfl ic_4 ?_
  refine wp_aload_n (q := 58) d_Tn_factsOf_57 rfl rfl ?_
  refine wp_aload_n (q := 59) d_Tn_factsOf_58 rfl rfl ?_
  refine wp_get (q := 62) fl_Tn_139 d_Tn_factsOf_59 rfl (rdR (w := w) hw hb) rfl ?_
  rw [es]
  refine wp_cv1 (q := 65) lk_Tn_142 (ro _ _ _) d_Tn_factsOf_62 rfl (Nat.le_of_ble_eq_true rfl) (rdO (w := w) hw) rfl (Nat.zero_le _) (Nat.zero_le _) ?_
  refine ok_Wd_inLine (w := w) hw hs ?_
  refine wp_iast (q := 66) d_Tn_factsOf_65 rfl (rfl) (by omega) (by decide) (fc_13) ?_
  refine wp_aload_n (q := 67) d_Tn_factsOf_66 rfl rfl ?_
  refine wp_get (q := 70) fl_Tn_51 d_Tn_factsOf_67 rfl rfl rfl ?_
  refine wp_iconst (q := 71) d_Tn_factsOf_70 rfl ic_5 ?_
  refine wp_aload_n (q := 72) d_Tn_factsOf_71 rfl rfl ?_
  refine wp_get (q := 75) fl_Tn_139 d_Tn_factsOf_72 rfl (rdR (w := w) hw hb) rfl ?_
  rw [es]
  refine wp_iast (q := 76) d_Tn_factsOf_75 rfl (rfl) (by omega) (by decide) (fc_13) ?_
  refine wp_aload_n (q := 77) d_Tn_factsOf_76 rfl rfl ?_
  refine wp_get (q := 80) fl_Tn_51 d_Tn_factsOf_77 rfl rfl rfl ?_
  refine wp_bipush (q := 82) d_Tn_factsOf_80 rfl bp_6 ?_
  refine wp_aload_n (q := 83) d_Tn_factsOf_82 rfl rfl ?_
  refine wp_get (q := 86) fl_Tn_24 d_Tn_factsOf_83 rfl rfl rfl ?_
  refine wp_iload_n (q := 87) d_Tn_factsOf_86 rfl rfl ?_
  refine wp_iald (q := 88) d_Tn_factsOf_87 rfl (rfl) (by omega) (by decide) ?_
  refine wp_iast (q := 89) d_Tn_factsOf_88 rfl (rfl) (by omega) (by decide) (fc_13) ?_
  refine wp_aload_n (q := 90) d_Tn_factsOf_89 rfl rfl ?_
  refine wp_get (q := 93) fl_Tn_51 d_Tn_factsOf_90 rfl rfl rfl ?_
  refine wp_bipush (q := 95) d_Tn_factsOf_93 rfl bp_7 ?_
  refine wp_aload_n (q := 96) d_Tn_factsOf_95 rfl rfl ?_
  refine wp_get (q := 99) fl_Tn_146 d_Tn_factsOf_96 rfl (rdR (w := w) hw hb) rfl ?_
  refine wp_iast (q := 100) d_Tn_factsOf_99 rfl (rfl) (by omega) (by decide) (fc_13) ?_
  refine wp_aload_n (q := 101) d_Tn_factsOf_100 rfl rfl ?_
  refine wp_get (q := 104) fl_Tn_51 d_Tn_factsOf_101 rfl rfl rfl ?_
  refine wp_aret d_Tn_factsOf_104 rfl (Or.inr ⟨_, rfl⟩) (Or.inr ⟨_, rfl⟩) (Nat.le_refl _) (Nat.le_refl _) ?_
  simp only [tput_eq, tput2, qc_12 hz 12 h12 (Nat.le_refl _)]
  refine hK _ ?_
  intro f hf
  rcases (show f = 0 ∨ f = 1 ∨ f = 2 ∨ f = 3 ∨ f = 4 ∨ f = 5 ∨ f = 6 ∨ f = 7 by omega) with rfl | rfl | rfl | rfl | rfl | rfl | rfl | rfl <;> rfl
theorem d_Ln_holds_0 : decode M_Ln_holds.2.1 0 = .ok (.iconst 0, 1) := by decide +kernel
theorem d_Ln_holds_1 : decode M_Ln_holds.2.1 1 = .ok (.istore_n 2, 1) := by decide +kernel
theorem d_Ln_holds_2 : decode M_Ln_holds.2.1 2 = .ok (.iload_n 2, 1) := by decide +kernel
theorem d_Ln_holds_3 : decode M_Ln_holds.2.1 3 = .ok (.aload_n 0, 1) := by decide +kernel
theorem d_Ln_holds_4 : decode M_Ln_holds.2.1 4 = .ok (.getfield 28, 3) := by decide +kernel
theorem d_Ln_holds_7 : decode M_Ln_holds.2.1 7 = .ok (.if_icmp .ge 105, 3) := by decide +kernel
theorem d_Ln_holds_10 : decode M_Ln_holds.2.1 10 = .ok (.iload_n 2, 1) := by decide +kernel
theorem d_Ln_holds_11 : decode M_Ln_holds.2.1 11 = .ok (.iconst 3, 1) := by decide +kernel
theorem d_Ln_holds_12 : decode M_Ln_holds.2.1 12 = .ok (.if_icmp .ge 100, 3) := by decide +kernel
theorem d_Ln_holds_15 : decode M_Ln_holds.2.1 15 = .ok (.aload_n 1, 1) := by decide +kernel
theorem d_Ln_holds_16 : decode M_Ln_holds.2.1 16 = .ok (.aload_n 0, 1) := by decide +kernel
theorem d_Ln_holds_17 : decode M_Ln_holds.2.1 17 = .ok (.getfield 9, 3) := by decide +kernel
theorem d_Ln_holds_20 : decode M_Ln_holds.2.1 20 = .ok (.iload_n 2, 1) := by decide +kernel
theorem d_Ln_holds_21 : decode M_Ln_holds.2.1 21 = .ok (.iaload, 1) := by decide +kernel
theorem d_Ln_holds_22 : decode M_Ln_holds.2.1 22 = .ok (.iaload, 1) := by decide +kernel
theorem d_Ln_holds_23 : decode M_Ln_holds.2.1 23 = .ok (.istore_n 3, 1) := by decide +kernel
theorem d_Ln_holds_24 : decode M_Ln_holds.2.1 24 = .ok (.aload_n 0, 1) := by decide +kernel
theorem d_Ln_holds_25 : decode M_Ln_holds.2.1 25 = .ok (.getfield 15, 3) := by decide +kernel
theorem d_Ln_holds_28 : decode M_Ln_holds.2.1 28 = .ok (.iload_n 2, 1) := by decide +kernel
theorem d_Ln_holds_29 : decode M_Ln_holds.2.1 29 = .ok (.iaload, 1) := by decide +kernel
theorem d_Ln_holds_30 : decode M_Ln_holds.2.1 30 = .ok (.bipush 60, 2) := by decide +kernel
theorem d_Ln_holds_32 : decode M_Ln_holds.2.1 32 = .ok (.if_icmp .ne 21, 3) := by decide +kernel
theorem d_Ln_holds_35 : decode M_Ln_holds.2.1 35 = .ok (.iload_n 3, 1) := by decide +kernel
theorem d_Ln_holds_36 : decode M_Ln_holds.2.1 36 = .ok (.aload_n 0, 1) := by decide +kernel
theorem d_Ln_holds_37 : decode M_Ln_holds.2.1 37 = .ok (.getfield 18, 3) := by decide +kernel
theorem d_Ln_holds_40 : decode M_Ln_holds.2.1 40 = .ok (.iload_n 2, 1) := by decide +kernel
theorem d_Ln_holds_41 : decode M_Ln_holds.2.1 41 = .ok (.iaload, 1) := by decide +kernel
theorem d_Ln_holds_42 : decode M_Ln_holds.2.1 42 = .ok (.if_icmp .ge 7, 3) := by decide +kernel
theorem d_Ln_holds_45 : decode M_Ln_holds.2.1 45 = .ok (.iconst 1, 1) := by decide +kernel
theorem d_Ln_holds_46 : decode M_Ln_holds.2.1 46 = .ok (.goto 51, 3) := by decide +kernel
theorem d_Ln_holds_49 : decode M_Ln_holds.2.1 49 = .ok (.iconst 0, 1) := by decide +kernel
theorem d_Ln_holds_50 : decode M_Ln_holds.2.1 50 = .ok (.goto 47, 3) := by decide +kernel
theorem d_Ln_holds_53 : decode M_Ln_holds.2.1 53 = .ok (.aload_n 0, 1) := by decide +kernel
theorem d_Ln_holds_54 : decode M_Ln_holds.2.1 54 = .ok (.getfield 15, 3) := by decide +kernel
theorem d_Ln_holds_57 : decode M_Ln_holds.2.1 57 = .ok (.iload_n 2, 1) := by decide +kernel
theorem d_Ln_holds_58 : decode M_Ln_holds.2.1 58 = .ok (.iaload, 1) := by decide +kernel
theorem d_Ln_holds_59 : decode M_Ln_holds.2.1 59 = .ok (.bipush 62, 2) := by decide +kernel
theorem d_Ln_holds_61 : decode M_Ln_holds.2.1 61 = .ok (.if_icmp .ne 21, 3) := by decide +kernel
theorem d_Ln_holds_64 : decode M_Ln_holds.2.1 64 = .ok (.iload_n 3, 1) := by decide +kernel
theorem d_Ln_holds_65 : decode M_Ln_holds.2.1 65 = .ok (.aload_n 0, 1) := by decide +kernel
theorem d_Ln_holds_66 : decode M_Ln_holds.2.1 66 = .ok (.getfield 18, 3) := by decide +kernel
theorem d_Ln_holds_69 : decode M_Ln_holds.2.1 69 = .ok (.iload_n 2, 1) := by decide +kernel
theorem d_Ln_holds_70 : decode M_Ln_holds.2.1 70 = .ok (.iaload, 1) := by decide +kernel
theorem d_Ln_holds_71 : decode M_Ln_holds.2.1 71 = .ok (.if_icmp .le 7, 3) := by decide +kernel
theorem d_Ln_holds_74 : decode M_Ln_holds.2.1 74 = .ok (.iconst 1, 1) := by decide +kernel
theorem d_Ln_holds_75 : decode M_Ln_holds.2.1 75 = .ok (.goto 22, 3) := by decide +kernel
theorem d_Ln_holds_78 : decode M_Ln_holds.2.1 78 = .ok (.iconst 0, 1) := by decide +kernel
theorem d_Ln_holds_79 : decode M_Ln_holds.2.1 79 = .ok (.goto 18, 3) := by decide +kernel
theorem d_Ln_holds_82 : decode M_Ln_holds.2.1 82 = .ok (.iload_n 3, 1) := by decide +kernel
theorem d_Ln_holds_83 : decode M_Ln_holds.2.1 83 = .ok (.aload_n 0, 1) := by decide +kernel
theorem d_Ln_holds_84 : decode M_Ln_holds.2.1 84 = .ok (.getfield 18, 3) := by decide +kernel
theorem d_Ln_holds_87 : decode M_Ln_holds.2.1 87 = .ok (.iload_n 2, 1) := by decide +kernel
theorem d_Ln_holds_88 : decode M_Ln_holds.2.1 88 = .ok (.iaload, 1) := by decide +kernel
theorem d_Ln_holds_89 : decode M_Ln_holds.2.1 89 = .ok (.if_icmp .ne 7, 3) := by decide +kernel
theorem d_Ln_holds_92 : decode M_Ln_holds.2.1 92 = .ok (.iconst 1, 1) := by decide +kernel
theorem d_Ln_holds_93 : decode M_Ln_holds.2.1 93 = .ok (.goto 4, 3) := by decide +kernel
theorem d_Ln_holds_96 : decode M_Ln_holds.2.1 96 = .ok (.iconst 0, 1) := by decide +kernel
theorem d_Ln_holds_97 : decode M_Ln_holds.2.1 97 = .ok (.istore 4, 2) := by decide +kernel
theorem d_Ln_holds_99 : decode M_Ln_holds.2.1 99 = .ok (.iload 4, 2) := by decide +kernel
theorem d_Ln_holds_101 : decode M_Ln_holds.2.1 101 = .ok (.ifCond .ne 5, 3) := by decide +kernel
theorem d_Ln_holds_104 : decode M_Ln_holds.2.1 104 = .ok (.iconst 0, 1) := by decide +kernel
theorem d_Ln_holds_105 : decode M_Ln_holds.2.1 105 = .ok (.ireturn, 1) := by decide +kernel
theorem d_Ln_holds_106 : decode M_Ln_holds.2.1 106 = .ok (.iinc 2 1, 3) := by decide +kernel
theorem d_Ln_holds_109 : decode M_Ln_holds.2.1 109 = .ok (.goto (-107), 3) := by decide +kernel
theorem d_Ln_holds_112 : decode M_Ln_holds.2.1 112 = .ok (.iconst 1, 1) := by decide +kernel
theorem d_Ln_holds_113 : decode M_Ln_holds.2.1 113 = .ok (.ireturn, 1) := by decide +kernel
set_option maxHeartbeats 4000000 in
set_option maxRecDepth 100000 in
theorem ok_Ln_holds {D : xD} {N : Nat} {l : Launch} {d : Nat} {c x V : T2} {ln df : Nat → Option Nat} {rest : List va_E} {K : Option Value → List va_E → Prop} {P : Nat → Int32} {nb m s b sl nt j : Nat} {key num : Int32} {F S B : Nat → Int32} (hnt : nt ≤ 3) (hA : LAt D N rest j key num nt F S B) (hFSB : ∀ t, t < nt → F t = c 26 (3 * sl + t) ∧ S t = c 27 (3 * sl + t) ∧ B t = c 28 (3 * sl + t)) (hf : ∀ t, t < nt → isN (c 26 (3 * sl + t)) 8) (hx1 : ∀ f, f < 8 → x 1 f = fld c P nb m s b f) (h1 : hldB c P nb m s b sl nt = true → K (some (.int (nI 1))) (encC D N c x V ln df ++ rest)) (h0 : hldB c P nb m s b sl nt = false → K (some (.int (nI 0))) (encC D N c x V ln df ++ rest)) : Ok D N l d M_Ln_holds [.ref (N + (124 + j)), .ref (N + 13)] (encC D N c x V ln df ++ rest) 0 0 K := by
  have lp : ∀ t : Nat, t ≤ nt → hldB c P nb m s b sl t = true → Wp D N l (EI M_Ln_holds) M_Ln_holds (Rm d 0 0) (Qm D N K 0 0) 0 0 2 [(2, .int (nI t)), (0, .ref (N + (124 + j))), (1, .ref (N + 13))] [] (encC D N c x V ln df ++ rest) := by
    refine up_loop ?_ ?_
    · intro hall; skip
      refine wp_iload_n (q := 3) d_Ln_holds_2 rfl rfl ?_
      refine wp_aload_n (q := 4) d_Ln_holds_3 rfl rfl ?_
      refine wp_get (q := 7) fl_Ln_28 d_Ln_holds_4 rfl (rdX.trans hA.1) rfl ?_
      refine wp_icmp_ge_t (tgt := 112) d_Ln_holds_7 (by decide) (nI_le (Nat.le_refl _) (by omega)) ?_
      refine wp_iconst (q := 113) d_Ln_holds_112 rfl ic_1 ?_
      refine wp_zret d_Ln_holds_113 rfl (rfl) (Nat.le_refl _) (Nat.le_refl _) ?_
      exact h1 hall
    · intro t ht ih hall
      refine wp_iload_n (q := 3) d_Ln_holds_2 rfl rfl ?_
      refine wp_aload_n (q := 4) d_Ln_holds_3 rfl rfl ?_
      refine wp_get (q := 7) fl_Ln_28 d_Ln_holds_4 rfl (rdX.trans hA.1) rfl ?_
      refine wp_icmp_ge_f (q := 10) (tgt := 112) d_Ln_holds_7 (by decide) rfl (nI_ge ht (by omega)) ?_
      refine wp_iload_n (q := 11) d_Ln_holds_10 rfl rfl ?_
      refine wp_iconst (q := 12) d_Ln_holds_11 rfl ic_3 ?_
      refine wp_icmp_ge_f (q := 15) (tgt := 112) d_Ln_holds_12 (by decide) rfl (nI_ge (by omega) (by decide)) ?_
      refine wp_aload_n (q := 16) d_Ln_holds_15 rfl rfl ?_
      refine wp_aload_n (q := 17) d_Ln_holds_16 rfl rfl ?_
      refine wp_get (q := 20) fl_Ln_9 d_Ln_holds_17 rfl (rdX.trans hA.1) rfl ?_
      refine wp_iload_n (q := 21) d_Ln_holds_20 rfl rfl ?_
      refine wp_iald (q := 22) d_Ln_holds_21 rfl (rdX.trans hA.2.1) (by omega) (by decide) ?_
      obtain ⟨e1, e2, e3⟩ := hFSB t ht
      obtain ⟨ef, lf8⟩ := hf t ht
      rw [e1, ef]
      refine wp_iald (q := 23) d_Ln_holds_22 rfl (rfl) (by omega) (by decide) ?_
      rw [hx1 _ lf8]
      refine wp_istore_n (q := 24) (L2 := [(3, _), (2, _), (0, _), (1, _)]) d_Ln_holds_23 rfl (by decide) rfl ?_
      refine wp_aload_n (q := 25) d_Ln_holds_24 rfl rfl ?_
      refine wp_get (q := 28) fl_Ln_15 d_Ln_holds_25 rfl (rdX.trans hA.1) rfl ?_
      refine wp_iload_n (q := 29) d_Ln_holds_28 rfl rfl ?_
      refine wp_iald (q := 30) d_Ln_holds_29 rfl (rdX.trans hA.2.2.1) (by omega) (by decide) ?_
      rw [e2]
      refine wp_bipush (q := 32) d_Ln_holds_30 rfl bp_60 ?_
      refine wp_icmp_ne (q := 35) (tgt := 53) d_Ln_holds_32 (by decide) rfl (fun hc_32 => ?_) (fun hc_32 => ?_)
      · refine wp_aload_n (q := 54) d_Ln_holds_53 rfl rfl ?_
        refine wp_get (q := 57) fl_Ln_15 d_Ln_holds_54 rfl (rdX.trans hA.1) rfl ?_
        refine wp_iload_n (q := 58) d_Ln_holds_57 rfl rfl ?_
        refine wp_iald (q := 59) d_Ln_holds_58 rfl (rdX.trans hA.2.2.1) (by omega) (by decide) ?_
        rw [e2]
        refine wp_bipush (q := 61) d_Ln_holds_59 rfl bp_62 ?_
        refine wp_icmp_ne (q := 64) (tgt := 82) d_Ln_holds_61 (by decide) rfl (fun hc_61 => ?_) (fun hc_61 => ?_)
        · refine wp_iload_n (q := 83) d_Ln_holds_82 rfl rfl ?_
          refine wp_aload_n (q := 84) d_Ln_holds_83 rfl rfl ?_
          refine wp_get (q := 87) fl_Ln_18 d_Ln_holds_84 rfl (rdX.trans hA.1) rfl ?_
          refine wp_iload_n (q := 88) d_Ln_holds_87 rfl rfl ?_
          refine wp_iald (q := 89) d_Ln_holds_88 rfl (rdX.trans hA.2.2.2) (by omega) (by decide) ?_
          rw [e3]
          refine wp_icmp_ne (q := 92) (tgt := 96) d_Ln_holds_89 (by decide) rfl (fun hc_89 => ?_) (fun hc_89 => ?_)
          · refine wp_iconst (q := 97) d_Ln_holds_96 rfl ic_0 ?_
            refine wp_istore (q := 99) (L2 := [(4, _), (3, _), (2, _), (0, _), (1, _)]) d_Ln_holds_97 rfl (by decide) rfl ?_
            refine wp_iload (q := 101) d_Ln_holds_99 rfl rfl ?_
            refine wp_if_ne_f (q := 104) (tgt := 106) d_Ln_holds_101 (by decide) rfl (by decide) ?_
            refine wp_iconst (q := 105) d_Ln_holds_104 rfl ic_0 ?_
            refine wp_zret d_Ln_holds_105 rfl (rfl) (Nat.le_refl _) (Nat.le_refl _) ?_
            first | exact h0 (hldB_no ht (by rw [tstB, if_pos hc_32]; exact decide_eq_false (le_nlt hc_42))) | exact h0 (hldB_no ht (by rw [tstB, if_neg hc_32, if_pos hc_61]; exact decide_eq_false (le_nlt hc_71))) | exact h0 (hldB_no ht (by rw [tstB, if_neg hc_32, if_neg hc_61]; exact decide_eq_false hc_89))
          · refine wp_iconst (q := 93) d_Ln_holds_92 rfl ic_1 ?_
            refine wp_goto (tgt := 97) d_Ln_holds_93 (by decide) ?_
            refine wp_istore (q := 99) (L2 := [(4, _), (3, _), (2, _), (0, _), (1, _)]) d_Ln_holds_97 rfl (by decide) rfl ?_
            refine wp_iload (q := 101) d_Ln_holds_99 rfl rfl ?_
            refine wp_if_ne_t (tgt := 106) d_Ln_holds_101 (by decide) (by decide) ?_
            refine wp_iinc (q := 109) (L2 := [(2, _), (4, _), (3, _), (0, _), (1, _)]) d_Ln_holds_106 rfl rfl (iinc_1) (by decide) rfl ?_
            refine wp_goto (tgt := 2) d_Ln_holds_109 (by decide) ?_
            refine wp_sub [0, 3, 4] rfl ?_
            first | exact ih (by rw [hldB, hall, tstB, if_pos hc_32]; exact decide_eq_true (nle_lt hc_42)) | exact ih (by rw [hldB, hall, tstB, if_neg hc_32, if_pos hc_61]; exact decide_eq_true (nle_lt hc_71)) | exact ih (by rw [hldB, hall, tstB, if_neg hc_32, if_neg hc_61]; exact decide_eq_true hc_89)
        · refine wp_iload_n (q := 65) d_Ln_holds_64 rfl rfl ?_
          refine wp_aload_n (q := 66) d_Ln_holds_65 rfl rfl ?_
          refine wp_get (q := 69) fl_Ln_18 d_Ln_holds_66 rfl (rdX.trans hA.1) rfl ?_
          refine wp_iload_n (q := 70) d_Ln_holds_69 rfl rfl ?_
          refine wp_iald (q := 71) d_Ln_holds_70 rfl (rdX.trans hA.2.2.2) (by omega) (by decide) ?_
          rw [e3]
          refine wp_icmp_le (q := 74) (tgt := 78) d_Ln_holds_71 (by decide) rfl (fun hc_71 => ?_) (fun hc_71 => ?_)
          · refine wp_iconst (q := 79) d_Ln_holds_78 rfl ic_0 ?_
            refine wp_goto (tgt := 97) d_Ln_holds_79 (by decide) ?_
            refine wp_istore (q := 99) (L2 := [(4, _), (3, _), (2, _), (0, _), (1, _)]) d_Ln_holds_97 rfl (by decide) rfl ?_
            refine wp_iload (q := 101) d_Ln_holds_99 rfl rfl ?_
            refine wp_if_ne_f (q := 104) (tgt := 106) d_Ln_holds_101 (by decide) rfl (by decide) ?_
            refine wp_iconst (q := 105) d_Ln_holds_104 rfl ic_0 ?_
            refine wp_zret d_Ln_holds_105 rfl (rfl) (Nat.le_refl _) (Nat.le_refl _) ?_
            first | exact h0 (hldB_no ht (by rw [tstB, if_pos hc_32]; exact decide_eq_false (le_nlt hc_42))) | exact h0 (hldB_no ht (by rw [tstB, if_neg hc_32, if_pos hc_61]; exact decide_eq_false (le_nlt hc_71))) | exact h0 (hldB_no ht (by rw [tstB, if_neg hc_32, if_neg hc_61]; exact decide_eq_false hc_89))
          · refine wp_iconst (q := 75) d_Ln_holds_74 rfl ic_1 ?_
            refine wp_goto (tgt := 97) d_Ln_holds_75 (by decide) ?_
            refine wp_istore (q := 99) (L2 := [(4, _), (3, _), (2, _), (0, _), (1, _)]) d_Ln_holds_97 rfl (by decide) rfl ?_
            refine wp_iload (q := 101) d_Ln_holds_99 rfl rfl ?_
            refine wp_if_ne_t (tgt := 106) d_Ln_holds_101 (by decide) (by decide) ?_
            refine wp_iinc (q := 109) (L2 := [(2, _), (4, _), (3, _), (0, _), (1, _)]) d_Ln_holds_106 rfl rfl (iinc_1) (by decide) rfl ?_
            refine wp_goto (tgt := 2) d_Ln_holds_109 (by decide) ?_
            refine wp_sub [0, 3, 4] rfl ?_
            first | exact ih (by rw [hldB, hall, tstB, if_pos hc_32]; exact decide_eq_true (nle_lt hc_42)) | exact ih (by rw [hldB, hall, tstB, if_neg hc_32, if_pos hc_61]; exact decide_eq_true (nle_lt hc_71)) | exact ih (by rw [hldB, hall, tstB, if_neg hc_32, if_neg hc_61]; exact decide_eq_true hc_89)
      · refine wp_iload_n (q := 36) d_Ln_holds_35 rfl rfl ?_
        refine wp_aload_n (q := 37) d_Ln_holds_36 rfl rfl ?_
        refine wp_get (q := 40) fl_Ln_18 d_Ln_holds_37 rfl (rdX.trans hA.1) rfl ?_
        refine wp_iload_n (q := 41) d_Ln_holds_40 rfl rfl ?_
        refine wp_iald (q := 42) d_Ln_holds_41 rfl (rdX.trans hA.2.2.2) (by omega) (by decide) ?_
        rw [e3]
        refine wp_icmp_ge (q := 45) (tgt := 49) d_Ln_holds_42 (by decide) rfl (fun hc_42 => ?_) (fun hc_42 => ?_)
        · refine wp_iconst (q := 50) d_Ln_holds_49 rfl ic_0 ?_
          refine wp_goto (tgt := 97) d_Ln_holds_50 (by decide) ?_
          refine wp_istore (q := 99) (L2 := [(4, _), (3, _), (2, _), (0, _), (1, _)]) d_Ln_holds_97 rfl (by decide) rfl ?_
          refine wp_iload (q := 101) d_Ln_holds_99 rfl rfl ?_
          refine wp_if_ne_f (q := 104) (tgt := 106) d_Ln_holds_101 (by decide) rfl (by decide) ?_
          refine wp_iconst (q := 105) d_Ln_holds_104 rfl ic_0 ?_
          refine wp_zret d_Ln_holds_105 rfl (rfl) (Nat.le_refl _) (Nat.le_refl _) ?_
          first | exact h0 (hldB_no ht (by rw [tstB, if_pos hc_32]; exact decide_eq_false (le_nlt hc_42))) | exact h0 (hldB_no ht (by rw [tstB, if_neg hc_32, if_pos hc_61]; exact decide_eq_false (le_nlt hc_71))) | exact h0 (hldB_no ht (by rw [tstB, if_neg hc_32, if_neg hc_61]; exact decide_eq_false hc_89))
        · refine wp_iconst (q := 46) d_Ln_holds_45 rfl ic_1 ?_
          refine wp_goto (tgt := 97) d_Ln_holds_46 (by decide) ?_
          refine wp_istore (q := 99) (L2 := [(4, _), (3, _), (2, _), (0, _), (1, _)]) d_Ln_holds_97 rfl (by decide) rfl ?_
          refine wp_iload (q := 101) d_Ln_holds_99 rfl rfl ?_
          refine wp_if_ne_t (tgt := 106) d_Ln_holds_101 (by decide) (by decide) ?_
          refine wp_iinc (q := 109) (L2 := [(2, _), (4, _), (3, _), (0, _), (1, _)]) d_Ln_holds_106 rfl rfl (iinc_1) (by decide) rfl ?_
          refine wp_goto (tgt := 2) d_Ln_holds_109 (by decide) ?_
          refine wp_sub [0, 3, 4] rfl ?_
          first | exact ih (by rw [hldB, hall, tstB, if_pos hc_32]; exact decide_eq_true (nle_lt hc_42)) | exact ih (by rw [hldB, hall, tstB, if_neg hc_32, if_pos hc_61]; exact decide_eq_true (nle_lt hc_71)) | exact ih (by rw [hldB, hall, tstB, if_neg hc_32, if_neg hc_61]; exact decide_eq_true hc_89)
  refine ok_of (L := [(0, _), (1, _)]) (by decide) (Nat.le_of_ble_eq_true rfl) rfl ?_
  refine wp_iconst (q := 1) d_Ln_holds_0 rfl ic_0 ?_
  refine wp_istore_n (q := 2) (L2 := [(2, _), (0, _), (1, _)]) d_Ln_holds_1 rfl (by decide) rfl ?_
  exact lp 0 (Nat.zero_le _) rfl
end
section
def plv (cu : Nat) (o : Option Nat) : Int32 := match o with
  | none => -1
  | some i => nI (8 * cu + i)
theorem d_Tn_linePlace_0 : decode M_Tn_linePlace.2.1 0 = .ok (.aload_n 0, 1) := by decide +kernel
theorem d_Tn_linePlace_1 : decode M_Tn_linePlace.2.1 1 = .ok (.getfield 42, 3) := by decide +kernel
theorem d_Tn_linePlace_4 : decode M_Tn_linePlace.2.1 4 = .ok (.aload_n 1, 1) := by decide +kernel
theorem d_Tn_linePlace_5 : decode M_Tn_linePlace.2.1 5 = .ok (.iconst 5, 1) := by decide +kernel
theorem d_Tn_linePlace_6 : decode M_Tn_linePlace.2.1 6 = .ok (.iaload, 1) := by decide +kernel
theorem d_Tn_linePlace_7 : decode M_Tn_linePlace.2.1 7 = .ok (.iaload, 1) := by decide +kernel
theorem d_Tn_linePlace_8 : decode M_Tn_linePlace.2.1 8 = .ok (.istore_n 3, 1) := by decide +kernel
theorem d_Tn_linePlace_9 : decode M_Tn_linePlace.2.1 9 = .ok (.iconst (-1), 1) := by decide +kernel
theorem d_Tn_linePlace_10 : decode M_Tn_linePlace.2.1 10 = .ok (.istore 4, 2) := by decide +kernel
theorem d_Tn_linePlace_12 : decode M_Tn_linePlace.2.1 12 = .ok (.iload_n 3, 1) := by decide +kernel
theorem d_Tn_linePlace_13 : decode M_Tn_linePlace.2.1 13 = .ok (.ifCond .lt 11, 3) := by decide +kernel
theorem d_Tn_linePlace_16 : decode M_Tn_linePlace.2.1 16 = .ok (.iload_n 3, 1) := by decide +kernel
theorem d_Tn_linePlace_17 : decode M_Tn_linePlace.2.1 17 = .ok (.aload_n 0, 1) := by decide +kernel
theorem d_Tn_linePlace_18 : decode M_Tn_linePlace.2.1 18 = .ok (.getfield 81, 3) := by decide +kernel
theorem d_Tn_linePlace_21 : decode M_Tn_linePlace.2.1 21 = .ok (.if_icmp .lt 6, 3) := by decide +kernel
theorem d_Tn_linePlace_24 : decode M_Tn_linePlace.2.1 24 = .ok (.iload 4, 2) := by decide +kernel
theorem d_Tn_linePlace_26 : decode M_Tn_linePlace.2.1 26 = .ok (.ireturn, 1) := by decide +kernel
theorem d_Tn_linePlace_27 : decode M_Tn_linePlace.2.1 27 = .ok (.iconst 0, 1) := by decide +kernel
theorem d_Tn_linePlace_28 : decode M_Tn_linePlace.2.1 28 = .ok (.istore 5, 2) := by decide +kernel
theorem d_Tn_linePlace_30 : decode M_Tn_linePlace.2.1 30 = .ok (.iload 5, 2) := by decide +kernel
theorem d_Tn_linePlace_32 : decode M_Tn_linePlace.2.1 32 = .ok (.bipush 8, 2) := by decide +kernel
theorem d_Tn_linePlace_34 : decode M_Tn_linePlace.2.1 34 = .ok (.if_icmp .ge 55, 3) := by decide +kernel
theorem d_Tn_linePlace_37 : decode M_Tn_linePlace.2.1 37 = .ok (.aload_n 0, 1) := by decide +kernel
theorem d_Tn_linePlace_38 : decode M_Tn_linePlace.2.1 38 = .ok (.getfield 38, 3) := by decide +kernel
theorem d_Tn_linePlace_41 : decode M_Tn_linePlace.2.1 41 = .ok (.iload_n 3, 1) := by decide +kernel
theorem d_Tn_linePlace_42 : decode M_Tn_linePlace.2.1 42 = .ok (.bipush 8, 2) := by decide +kernel
theorem d_Tn_linePlace_44 : decode M_Tn_linePlace.2.1 44 = .ok (.imul, 1) := by decide +kernel
theorem d_Tn_linePlace_45 : decode M_Tn_linePlace.2.1 45 = .ok (.iload 5, 2) := by decide +kernel
theorem d_Tn_linePlace_47 : decode M_Tn_linePlace.2.1 47 = .ok (.iadd, 1) := by decide +kernel
theorem d_Tn_linePlace_48 : decode M_Tn_linePlace.2.1 48 = .ok (.aaload, 1) := by decide +kernel
theorem d_Tn_linePlace_49 : decode M_Tn_linePlace.2.1 49 = .ok (.astore 6, 2) := by decide +kernel
theorem d_Tn_linePlace_51 : decode M_Tn_linePlace.2.1 51 = .ok (.aload 6, 2) := by decide +kernel
theorem d_Tn_linePlace_53 : decode M_Tn_linePlace.2.1 53 = .ok (.ifnull 30, 3) := by decide +kernel
theorem d_Tn_linePlace_56 : decode M_Tn_linePlace.2.1 56 = .ok (.aload 6, 2) := by decide +kernel
theorem d_Tn_linePlace_58 : decode M_Tn_linePlace.2.1 58 = .ok (.getfield 108, 3) := by decide +kernel
theorem d_Tn_linePlace_61 : decode M_Tn_linePlace.2.1 61 = .ok (.iload_n 2, 1) := by decide +kernel
theorem d_Tn_linePlace_62 : decode M_Tn_linePlace.2.1 62 = .ok (.if_icmp .ne 21, 3) := by decide +kernel
theorem d_Tn_linePlace_65 : decode M_Tn_linePlace.2.1 65 = .ok (.aload 6, 2) := by decide +kernel
theorem d_Tn_linePlace_67 : decode M_Tn_linePlace.2.1 67 = .ok (.aload_n 1, 1) := by decide +kernel
theorem d_Tn_linePlace_68 : decode M_Tn_linePlace.2.1 68 = .ok (.invokevirtual 111, 3) := by decide +kernel
theorem d_Tn_linePlace_71 : decode M_Tn_linePlace.2.1 71 = .ok (.ifCond .eq 12, 3) := by decide +kernel
theorem d_Tn_linePlace_74 : decode M_Tn_linePlace.2.1 74 = .ok (.iload_n 3, 1) := by decide +kernel
theorem d_Tn_linePlace_75 : decode M_Tn_linePlace.2.1 75 = .ok (.bipush 8, 2) := by decide +kernel
theorem d_Tn_linePlace_77 : decode M_Tn_linePlace.2.1 77 = .ok (.imul, 1) := by decide +kernel
theorem d_Tn_linePlace_78 : decode M_Tn_linePlace.2.1 78 = .ok (.iload 5, 2) := by decide +kernel
theorem d_Tn_linePlace_80 : decode M_Tn_linePlace.2.1 80 = .ok (.iadd, 1) := by decide +kernel
theorem d_Tn_linePlace_81 : decode M_Tn_linePlace.2.1 81 = .ok (.istore 4, 2) := by decide +kernel
theorem d_Tn_linePlace_83 : decode M_Tn_linePlace.2.1 83 = .ok (.iinc 5 1, 3) := by decide +kernel
theorem d_Tn_linePlace_86 : decode M_Tn_linePlace.2.1 86 = .ok (.goto (-56), 3) := by decide +kernel
theorem d_Tn_linePlace_89 : decode M_Tn_linePlace.2.1 89 = .ok (.iload 4, 2) := by decide +kernel
theorem d_Tn_linePlace_91 : decode M_Tn_linePlace.2.1 91 = .ok (.ireturn, 1) := by decide +kernel
set_option maxHeartbeats 4000000 in
set_option maxRecDepth 100000 in
theorem ok_Tn_linePlace {D : xD} {N : Nat} {l : Launch} {d : Nat} {c x V : T2} {P : Nat → Int32} {ln df : Nat → Option Nat} {rest : List va_E} {K : Option Value → List va_E → Prop} {nb m s b : Nat} (hs : s < 6) {key : Int32} (hCI : CI c) (hLOK : LOK D N c ln rest) (hx1 : ∀ f, f < 8 → x 1 f = fld c P nb m s b f) (hK : K (some (.int (plv (tn (c 10 s)) (lnf c P nb m s b key)))) (encC D N c x V ln df ++ rest)) : Ok D N l (d + 1) M_Tn_linePlace [.ref (N + 1), .ref (N + 13), .int key] (encC D N c x V ln df ++ rest) 0 0 K := by
  have h5 : x 1 5 = nI s := (hx1 5 (by decide)).trans rfl
  refine ok_of (L := [(0, _), (1, _), (2, _)]) (by decide) (Nat.le_of_ble_eq_true rfl) rfl ?_
  rcases hCI.cu hs with e | ⟨cu, lm, l1, l6, l9, e, elm, etn⟩
  · skip
    refine wp_aload_n (q := 1) d_Tn_linePlace_0 rfl rfl ?_
    refine wp_get (q := 4) fl_Tn_42 d_Tn_linePlace_1 rfl rfl rfl ?_
    refine wp_aload_n (q := 5) d_Tn_linePlace_4 rfl rfl ?_
    refine wp_iconst (q := 6) d_Tn_linePlace_5 rfl ic_5 ?_
    refine wp_iald (q := 7) d_Tn_linePlace_6 rfl (rfl) (by omega) (by decide) ?_
    rw [h5]
    refine wp_iald (q := 8) d_Tn_linePlace_7 rfl (rfl) (by omega) (by decide) ?_
    rw [e]
    refine wp_istore_n (q := 9) (L2 := [(3, _), (0, _), (1, _), (2, _)]) d_Tn_linePlace_8 rfl (by decide) rfl ?_
    refine wp_iconst (q := 10) d_Tn_linePlace_9 rfl ic_m1 ?_
    refine wp_istore (q := 12) (L2 := [(4, _), (3, _), (0, _), (1, _), (2, _)]) d_Tn_linePlace_10 rfl (by decide) rfl ?_
    refine wp_iload_n (q := 13) d_Tn_linePlace_12 rfl rfl ?_
    refine wp_if_lt_t (tgt := 24) d_Tn_linePlace_13 (by decide) (by decide) ?_
    refine wp_iload (q := 26) d_Tn_linePlace_24 rfl rfl ?_
    refine wp_iret d_Tn_linePlace_26 rfl (Nat.le_refl _) (Nat.le_refl _) ?_
    rw [lnf_none e] at hK; exact hK
  · skip
    have lp2 : ∀ i : Nat, i ≤ 8 → lm ≤ i → Wp D N l (EI M_Tn_linePlace) M_Tn_linePlace (Rm (d + 1) 0 0) (Qm D N K 0 0) 0 0 30 [(5, .int (nI i)), (4, .int (plv cu (blf c P nb m s b cu key lm))), (3, .int (nI cu)), (0, .ref (N + 1)), (1, .ref (N + 13)), (2, .int key)] [] (encC D N c x V ln df ++ rest) := by
      refine up_loop ?_ ?_
      · intro hge; skip
        refine wp_iload (q := 32) d_Tn_linePlace_30 rfl rfl ?_
        refine wp_bipush (q := 34) d_Tn_linePlace_32 rfl bp_8 ?_
        refine wp_icmp_ge_t (tgt := 89) d_Tn_linePlace_34 (by decide) (nI_le (Nat.le_refl _) (by decide)) ?_
        refine wp_iload (q := 91) d_Tn_linePlace_89 rfl rfl ?_
        refine wp_iret d_Tn_linePlace_91 rfl (Nat.le_refl _) (Nat.le_refl _) ?_
        rw [lnf_some e l6 elm l9, e, tnt l6] at hK; exact hK
      · intro i hi ih hge
        refine wp_iload (q := 32) d_Tn_linePlace_30 rfl rfl ?_
        refine wp_bipush (q := 34) d_Tn_linePlace_32 rfl bp_8 ?_
        refine wp_icmp_ge_f (q := 37) (tgt := 89) d_Tn_linePlace_34 (by decide) rfl (nI_ge hi (by decide)) ?_
        refine wp_aload_n (q := 38) d_Tn_linePlace_37 rfl rfl ?_
        refine wp_get (q := 41) fl_Tn_38 d_Tn_linePlace_38 rfl rfl rfl ?_
        refine wp_iload_n (q := 42) d_Tn_linePlace_41 rfl rfl ?_
        refine wp_bipush (q := 44) d_Tn_linePlace_42 rfl bp_8 ?_
        first | refine wp_imulC (q := 45) d_Tn_linePlace_44 rfl ?_ | refine wp_imul (q := 45) d_Tn_linePlace_44 rfl ?_
        refine wp_iload (q := 47) d_Tn_linePlace_45 rfl rfl ?_
        first | refine wp_iaddN (q := 48) d_Tn_linePlace_47 rfl ?_ | refine wp_iadd (q := 48) d_Tn_linePlace_47 rfl ?_
        refine wp_aldLn (q := 49) d_Tn_linePlace_48 rfl (rfl) (by omega) (by decide) ((hLOK cu i l1 (by omega)).2 (by omega)) ?_
        refine wp_astoreN (q := 51) (L2 := [(6, _), (5, _), (4, _), (3, _), (0, _), (1, _), (2, _)]) d_Tn_linePlace_49 rfl (by decide) rfl ?_
        refine wp_aloadN (q := 53) d_Tn_linePlace_51 rfl rfl ?_
        refine wp_ifnullN (tgt := 83) d_Tn_linePlace_53 (by decide) ?_
        refine wp_iinc (q := 86) (L2 := [(5, _), (6, _), (4, _), (3, _), (0, _), (1, _), (2, _)]) d_Tn_linePlace_83 rfl rfl (iinc_1) (by decide) rfl ?_
        refine wp_goto (tgt := 30) d_Tn_linePlace_86 (by decide) ?_
        refine wp_sub [0, 2, 3, 4, 5, 6] rfl ?_
        exact ih (by omega)
    have lp1 : ∀ i : Nat, i ≤ lm → Wp D N l (EI M_Tn_linePlace) M_Tn_linePlace (Rm (d + 1) 0 0) (Qm D N K 0 0) 0 0 30 [(5, .int (nI i)), (4, .int (plv cu (blf c P nb m s b cu key i))), (3, .int (nI cu)), (0, .ref (N + 1)), (1, .ref (N + 13)), (2, .int key)] [] (encC D N c x V ln df ++ rest) := by
      refine up_loop ?_ ?_
      · skip
        exact lp2 lm (by omega) (Nat.le_refl _)
      · intro i hi ih
        refine wp_iload (q := 32) d_Tn_linePlace_30 rfl rfl ?_
        refine wp_bipush (q := 34) d_Tn_linePlace_32 rfl bp_8 ?_
        refine wp_icmp_ge_f (q := 37) (tgt := 89) d_Tn_linePlace_34 (by decide) rfl (nI_ge (by omega) (by decide)) ?_
        refine wp_aload_n (q := 38) d_Tn_linePlace_37 rfl rfl ?_
        refine wp_get (q := 41) fl_Tn_38 d_Tn_linePlace_38 rfl rfl rfl ?_
        refine wp_iload_n (q := 42) d_Tn_linePlace_41 rfl rfl ?_
        refine wp_bipush (q := 44) d_Tn_linePlace_42 rfl bp_8 ?_
        first | refine wp_imulC (q := 45) d_Tn_linePlace_44 rfl ?_ | refine wp_imul (q := 45) d_Tn_linePlace_44 rfl ?_
        refine wp_iload (q := 47) d_Tn_linePlace_45 rfl rfl ?_
        first | refine wp_iaddN (q := 48) d_Tn_linePlace_47 rfl ?_ | refine wp_iadd (q := 48) d_Tn_linePlace_47 rfl ?_
        obtain ⟨j, F, S, B, eln, hA, hF⟩ := (hLOK cu i l1 (by omega)).1 (by omega)
        obtain ⟨q1, q2, q3⟩ := hCI.line l1 (show i < tn (c 22 cu) by omega)
        refine wp_aldL (q := 49) d_Tn_linePlace_48 rfl (rfl) (by omega) (by decide) (eln) ?_
        refine wp_astore (q := 51) (L2 := [(6, _), (5, _), (4, _), (3, _), (0, _), (1, _), (2, _)]) d_Tn_linePlace_49 rfl (by decide) rfl ?_
        refine wp_aload (q := 53) d_Tn_linePlace_51 rfl rfl ?_
        refine wp_ifnull (q := 56) d_Tn_linePlace_53 rfl ?_
        refine wp_aload (q := 58) d_Tn_linePlace_56 rfl rfl ?_
        refine wp_get (q := 61) fl_Tn_108 d_Tn_linePlace_58 rfl (rdX.trans hA.1) rfl ?_
        refine wp_iload_n (q := 62) d_Tn_linePlace_61 rfl rfl ?_
        refine wp_icmp_ne (q := 65) (tgt := 83) d_Tn_linePlace_62 (by decide) rfl (fun hc_62 => ?_) (fun hc_62 => ?_)
        · refine wp_iinc (q := 86) (L2 := [(5, _), (6, _), (4, _), (3, _), (0, _), (1, _), (2, _)]) d_Tn_linePlace_83 rfl rfl (iinc_1) (by decide) rfl ?_
          refine wp_goto (tgt := 30) d_Tn_linePlace_86 (by decide) ?_
          refine wp_sub [0, 2, 3, 4, 5, 6] rfl ?_
          first | (rw [blf, if_pos ⟨hc_62, hh⟩] at ih; exact ih) | (rw [blf, if_neg (fun z => by rw [hh] at z; exact absurd z.2 (by decide))] at ih; exact ih) | (rw [blf, if_neg (fun z => hc_62 z.1)] at ih; exact ih)
        · refine wp_aload (q := 67) d_Tn_linePlace_65 rfl rfl ?_
          refine wp_aload_n (q := 68) d_Tn_linePlace_67 rfl rfl ?_
          refine wp_cv1 (q := 71) lk_Tn_111 (ro _ _ _) d_Tn_linePlace_68 rfl (Nat.le_of_ble_eq_true rfl) (rdX.trans hA.1) rfl (Nat.zero_le _) (Nat.zero_le _) ?_
          refine ok_Ln_holds (P := P) (nb := nb) (m := m) (s := s) (b := b) (sl := 8 * cu + i) q2 hA hF q3 hx1 (fun hh => ?_) (fun hh => ?_)
          · refine wp_if_eq_f (q := 74) (tgt := 83) d_Tn_linePlace_71 (by decide) rfl (by decide) ?_
            refine wp_iload_n (q := 75) d_Tn_linePlace_74 rfl rfl ?_
            refine wp_bipush (q := 77) d_Tn_linePlace_75 rfl bp_8 ?_
            first | refine wp_imulC (q := 78) d_Tn_linePlace_77 rfl ?_ | refine wp_imul (q := 78) d_Tn_linePlace_77 rfl ?_
            refine wp_iload (q := 80) d_Tn_linePlace_78 rfl rfl ?_
            first | refine wp_iaddN (q := 81) d_Tn_linePlace_80 rfl ?_ | refine wp_iadd (q := 81) d_Tn_linePlace_80 rfl ?_
            refine wp_istore (q := 83) (L2 := [(4, _), (6, _), (5, _), (3, _), (0, _), (1, _), (2, _)]) d_Tn_linePlace_81 rfl (by decide) rfl ?_
            refine wp_iinc (q := 86) (L2 := [(5, _), (4, _), (6, _), (3, _), (0, _), (1, _), (2, _)]) d_Tn_linePlace_83 rfl rfl (iinc_1) (by decide) rfl ?_
            refine wp_goto (tgt := 30) d_Tn_linePlace_86 (by decide) ?_
            refine wp_sub [0, 1, 3, 4, 5, 6] rfl ?_
            first | (rw [blf, if_pos ⟨hc_62, hh⟩] at ih; exact ih) | (rw [blf, if_neg (fun z => by rw [hh] at z; exact absurd z.2 (by decide))] at ih; exact ih) | (rw [blf, if_neg (fun z => hc_62 z.1)] at ih; exact ih)
          · refine wp_if_eq_t (tgt := 83) d_Tn_linePlace_71 (by decide) (by decide) ?_
            refine wp_iinc (q := 86) (L2 := [(5, _), (6, _), (4, _), (3, _), (0, _), (1, _), (2, _)]) d_Tn_linePlace_83 rfl rfl (iinc_1) (by decide) rfl ?_
            refine wp_goto (tgt := 30) d_Tn_linePlace_86 (by decide) ?_
            refine wp_sub [0, 2, 3, 4, 5, 6] rfl ?_
            first | (rw [blf, if_pos ⟨hc_62, hh⟩] at ih; exact ih) | (rw [blf, if_neg (fun z => by rw [hh] at z; exact absurd z.2 (by decide))] at ih; exact ih) | (rw [blf, if_neg (fun z => hc_62 z.1)] at ih; exact ih)
    refine wp_aload_n (q := 1) d_Tn_linePlace_0 rfl rfl ?_
    refine wp_get (q := 4) fl_Tn_42 d_Tn_linePlace_1 rfl rfl rfl ?_
    refine wp_aload_n (q := 5) d_Tn_linePlace_4 rfl rfl ?_
    refine wp_iconst (q := 6) d_Tn_linePlace_5 rfl ic_5 ?_
    refine wp_iald (q := 7) d_Tn_linePlace_6 rfl (rfl) (by omega) (by decide) ?_
    rw [h5]
    refine wp_iald (q := 8) d_Tn_linePlace_7 rfl (rfl) (by omega) (by decide) ?_
    rw [e]
    refine wp_istore_n (q := 9) (L2 := [(3, _), (0, _), (1, _), (2, _)]) d_Tn_linePlace_8 rfl (by decide) rfl ?_
    refine wp_iconst (q := 10) d_Tn_linePlace_9 rfl ic_m1 ?_
    refine wp_istore (q := 12) (L2 := [(4, _), (3, _), (0, _), (1, _), (2, _)]) d_Tn_linePlace_10 rfl (by decide) rfl ?_
    refine wp_iload_n (q := 13) d_Tn_linePlace_12 rfl rfl ?_
    refine wp_if_lt_f (q := 16) (tgt := 24) d_Tn_linePlace_13 (by decide) rfl (nI_pos (by omega)) ?_
    refine wp_iload_n (q := 17) d_Tn_linePlace_16 rfl rfl ?_
    refine wp_aload_n (q := 18) d_Tn_linePlace_17 rfl rfl ?_
    refine wp_get (q := 21) fl_Tn_81 d_Tn_linePlace_18 rfl rfl rfl ?_
    refine wp_icmp_lt_t (tgt := 27) d_Tn_linePlace_21 (by decide) (by rw [hCI.1.1]; exact nI_lt l1 (by have := hCI.1.2; omega)) ?_
    refine wp_iconst (q := 28) d_Tn_linePlace_27 rfl ic_0 ?_
    refine wp_istore (q := 30) (L2 := [(5, _), (4, _), (3, _), (0, _), (1, _), (2, _)]) d_Tn_linePlace_28 rfl (by decide) rfl ?_
    exact lp1 0 (Nat.zero_le _)
theorem d_Tn_says_0 : decode M_Tn_says.2.1 0 = .ok (.aload_n 0, 1) := by decide +kernel
theorem d_Tn_says_1 : decode M_Tn_says.2.1 1 = .ok (.aload_n 1, 1) := by decide +kernel
theorem d_Tn_says_2 : decode M_Tn_says.2.1 2 = .ok (.iload_n 2, 1) := by decide +kernel
theorem d_Tn_says_3 : decode M_Tn_says.2.1 3 = .ok (.invokevirtual 98, 3) := by decide +kernel
theorem d_Tn_says_6 : decode M_Tn_says.2.1 6 = .ok (.istore_n 3, 1) := by decide +kernel
theorem d_Tn_says_7 : decode M_Tn_says.2.1 7 = .ok (.iload_n 3, 1) := by decide +kernel
theorem d_Tn_says_8 : decode M_Tn_says.2.1 8 = .ok (.ifCond .ge 7, 3) := by decide +kernel
theorem d_Tn_says_11 : decode M_Tn_says.2.1 11 = .ok (.aconst_null, 1) := by decide +kernel
theorem d_Tn_says_12 : decode M_Tn_says.2.1 12 = .ok (.goto 9, 3) := by decide +kernel
theorem d_Tn_says_15 : decode M_Tn_says.2.1 15 = .ok (.aload_n 0, 1) := by decide +kernel
theorem d_Tn_says_16 : decode M_Tn_says.2.1 16 = .ok (.getfield 38, 3) := by decide +kernel
theorem d_Tn_says_19 : decode M_Tn_says.2.1 19 = .ok (.iload_n 3, 1) := by decide +kernel
theorem d_Tn_says_20 : decode M_Tn_says.2.1 20 = .ok (.aaload, 1) := by decide +kernel
theorem d_Tn_says_21 : decode M_Tn_says.2.1 21 = .ok (.astore 4, 2) := by decide +kernel
theorem d_Tn_says_23 : decode M_Tn_says.2.1 23 = .ok (.aload 4, 2) := by decide +kernel
theorem d_Tn_says_25 : decode M_Tn_says.2.1 25 = .ok (.ifnonnull 11, 3) := by decide +kernel
theorem d_Tn_says_28 : decode M_Tn_says.2.1 28 = .ok (.getstatic 102, 3) := by decide +kernel
theorem d_Tn_says_31 : decode M_Tn_says.2.1 31 = .ok (.iload_n 2, 1) := by decide +kernel
theorem d_Tn_says_32 : decode M_Tn_says.2.1 32 = .ok (.iaload, 1) := by decide +kernel
theorem d_Tn_says_33 : decode M_Tn_says.2.1 33 = .ok (.goto 8, 3) := by decide +kernel
theorem d_Tn_says_36 : decode M_Tn_says.2.1 36 = .ok (.aload 4, 2) := by decide +kernel
theorem d_Tn_says_38 : decode M_Tn_says.2.1 38 = .ok (.getfield 105, 3) := by decide +kernel
theorem d_Tn_says_41 : decode M_Tn_says.2.1 41 = .ok (.ireturn, 1) := by decide +kernel
set_option maxHeartbeats 4000000 in
set_option maxRecDepth 100000 in
theorem ok_Tn_says {D : xD} {N : Nat} {l : Launch} {d : Nat} {c x V : T2} {P : Nat → Int32} {ln df : Nat → Option Nat} {rest : List va_E} {K : Option Value → List va_E → Prop} {nb m s b key : Nat} (hs : s < 6) (hk3 : key < 3) (hCI : CI c) (hLOK : LOK D N c ln rest) (hx1 : ∀ f, f < 8 → x 1 f = fld c P nb m s b f) (hK : K (some (.int (lawv c P nb m s b key))) (encC D N c x V ln df ++ rest)) : Ok D N l (d + 2) M_Tn_says [.ref (N + 1), .ref (N + 13), .int (nI key)] (encC D N c x V ln df ++ rest) 0 0 K := by
  refine ok_of (L := [(0, _), (1, _), (2, _)]) (by decide) (Nat.le_of_ble_eq_true rfl) rfl ?_
  cases ho : lnf c P nb m s b (nI key) with
  | none =>
    rw [lawv, ho] at hK
    refine wp_aload_n (q := 1) d_Tn_says_0 rfl rfl ?_
    refine wp_aload_n (q := 2) d_Tn_says_1 rfl rfl ?_
    refine wp_iload_n (q := 3) d_Tn_says_2 rfl rfl ?_
    refine wp_cv2 (q := 6) lk_Tn_98 (ro _ _ _) d_Tn_says_3 rfl (Nat.le_of_ble_eq_true rfl) (rfl) rfl (Nat.zero_le _) (Nat.zero_le _) ?_
    refine ok_Tn_linePlace (P := P) (nb := nb) (m := m) (b := b) hs hCI hLOK hx1 ?_
    rw [ho]
    refine wp_istore_n (q := 7) (L2 := [(3, _), (0, _), (1, _), (2, _)]) d_Tn_says_6 rfl (by decide) rfl ?_
    refine wp_iload_n (q := 8) d_Tn_says_7 rfl rfl ?_
    refine wp_if_ge_f (q := 11) (tgt := 15) d_Tn_says_8 (by decide) rfl (by show ¬ (0 : Int32) ≤ -1; decide) ?_
    refine wp_null (q := 12) d_Tn_says_11 rfl ?_
    refine wp_goto (tgt := 21) d_Tn_says_12 (by decide) ?_
    refine wp_astoreN (q := 23) (L2 := [(4, _), (3, _), (0, _), (1, _), (2, _)]) d_Tn_says_21 rfl (by decide) rfl ?_
    refine wp_aloadN (q := 25) d_Tn_says_23 rfl rfl ?_
    refine wp_ifnonnullN (q := 28) d_Tn_says_25 rfl ?_
    refine wp_plainS (q := 31) kn_plain d_Tn_says_28 rfl ?_
    refine wp_iload_n (q := 32) d_Tn_says_31 rfl rfl ?_
    refine wp_plainL (q := 33) d_Tn_says_32 rfl (by omega) ?_
    refine wp_goto (tgt := 41) d_Tn_says_33 (by decide) ?_
    refine wp_iret d_Tn_says_41 rfl (Nat.le_refl _) (Nat.le_refl _) ?_
    exact hK
  | some i =>
    rcases hCI.cu hs with e | ⟨cu, lm, l1, l6, l9, e, elm, etn⟩
    · rw [lnf_none e] at ho; cases ho
    have hi := blf_lt ((lnf_some e l6 elm l9).symm.trans ho)
    obtain ⟨j, F, S, B, eln, hA, hF⟩ := (hLOK cu i l1 (by omega)).1 (by omega)
    rw [lawv, ho] at hK
    dsimp only at hK
    refine wp_aload_n (q := 1) d_Tn_says_0 rfl rfl ?_
    refine wp_aload_n (q := 2) d_Tn_says_1 rfl rfl ?_
    refine wp_iload_n (q := 3) d_Tn_says_2 rfl rfl ?_
    refine wp_cv2 (q := 6) lk_Tn_98 (ro _ _ _) d_Tn_says_3 rfl (Nat.le_of_ble_eq_true rfl) (rfl) rfl (Nat.zero_le _) (Nat.zero_le _) ?_
    refine ok_Tn_linePlace (P := P) (nb := nb) (m := m) (b := b) hs hCI hLOK hx1 ?_
    rw [ho]
    try rw [e, tnt l6]
    refine wp_istore_n (q := 7) (L2 := [(3, _), (0, _), (1, _), (2, _)]) d_Tn_says_6 rfl (by decide) rfl ?_
    refine wp_iload_n (q := 8) d_Tn_says_7 rfl rfl ?_
    refine wp_if_ge_t (tgt := 15) d_Tn_says_8 (by decide) (nI_pos' (by omega)) ?_
    refine wp_aload_n (q := 16) d_Tn_says_15 rfl rfl ?_
    refine wp_get (q := 19) fl_Tn_38 d_Tn_says_16 rfl rfl rfl ?_
    refine wp_iload_n (q := 20) d_Tn_says_19 rfl rfl ?_
    refine wp_aldL (q := 21) d_Tn_says_20 rfl (rfl) (by omega) (by decide) (eln) ?_
    refine wp_astore (q := 23) (L2 := [(4, _), (3, _), (0, _), (1, _), (2, _)]) d_Tn_says_21 rfl (by decide) rfl ?_
    refine wp_aload (q := 25) d_Tn_says_23 rfl rfl ?_
    refine wp_ifnonnull (tgt := 36) d_Tn_says_25 (by decide) ?_
    refine wp_aload (q := 38) d_Tn_says_36 rfl rfl ?_
    refine wp_get (q := 41) fl_Tn_105 d_Tn_says_38 rfl (rdX.trans hA.1) rfl ?_
    refine wp_iret d_Tn_says_41 rfl (Nat.le_refl _) (Nat.le_refl _) ?_
    rw [e, tnt l6] at hK; exact hK
end
section
theorem wpR {D : xD} {N : Nat} {l : Launch} {E : EX} {M : MD} {R : Room} {Qf : QF} {k n pc : Nat} {L : List (Nat × Value)} {st : List Value} {c z : T2} {P1 P2 Q : Nat → Int32} {rest : List va_E} (h : Wp D N l E M R Qf k n pc L st (encR D N c z P1 Q ++ rest)) (e : P1 = P2) : Wp D N l E M R Qf k n pc L st (encR D N c z P2 Q ++ rest) := by rw [← e]; exact h
theorem wpC {D : xD} {N : Nat} {l : Launch} {E : EX} {M : MD} {R : Room} {Qf : QF} {k n pc : Nat} {L : List (Nat × Value)} {st : List Value} {c x V : T2} {ln df : Nat → Option Nat} {w : Nat} {P1 P2 : Nat → Int32} {rest : List va_E} (h : Wp D N l E M R Qf k n pc L st (encC D N c x (va_up V w P1) ln df ++ rest)) (e : P1 = P2) : Wp D N l E M R Qf k n pc L st (encC D N c x (va_up V w P2) ln df ++ rest) := by rw [← e]; exact h
theorem add_0 (x : Int32) : x + nI 0 = x := by rw [nI_0]; exact Int32.add_zero x
def cmW (c : T2) (P : Nat → Int32) (k : Nat) : Nat := tn (P k) + (tn (P (36 + k)) + tn (c 3 k)) / 100
def cmK (c : T2) (P : Nat → Int32) (m k : Nat) : Nat := if m % 10 = 9 then (if P 235 = nI 1 then cmW c P k / 50 else cmW c P k / 10) else 0
def cm1 (c : T2) (P : Nat → Int32) (m k : Nat) : Nat → Int32 := upd (upd (upd P (36 + k) (nI ((tn (P (36 + k)) + tn (c 3 k)) % 100))) k (nI (cmW c P k - cmK c P m k))) 236 (P 236 + nI (cmK c P m k))
def cmN (c : T2) (P : Nat → Int32) (m : Nat) : Nat → (Nat → Int32)
  | 0 => P
  | k + 1 => cm1 c (cmN c P m k) m k
theorem cmN_at {c : T2} {P : Nat → Int32} {m : Nat} : ∀ {k i : Nat}, k ≤ 36 → (k ≤ i ∧ i < 36 ∨ 36 + k ≤ i ∧ i ≠ 236) → cmN c P m k i = P i
  | 0, i, _, _ => rfl
  | k + 1, i, hk, h => by
    rw [cmN, cm1, upd_ne _ _ (by omega), upd_ne _ _ (by omega), upd_ne _ _ (by omega)]
    exact cmN_at (by omega) (by omega)
theorem d_Rf_come_0 : decode M_Rf_come.2.1 0 = .ok (.iconst 0, 1) := by decide +kernel
theorem d_Rf_come_1 : decode M_Rf_come.2.1 1 = .ok (.istore_n 1, 1) := by decide +kernel
theorem d_Rf_come_2 : decode M_Rf_come.2.1 2 = .ok (.iload_n 1, 1) := by decide +kernel
theorem d_Rf_come_3 : decode M_Rf_come.2.1 3 = .ok (.bipush 36, 2) := by decide +kernel
theorem d_Rf_come_5 : decode M_Rf_come.2.1 5 = .ok (.if_icmp .ge 144, 3) := by decide +kernel
theorem d_Rf_come_8 : decode M_Rf_come.2.1 8 = .ok (.aload_n 0, 1) := by decide +kernel
theorem d_Rf_come_9 : decode M_Rf_come.2.1 9 = .ok (.getfield 7, 3) := by decide +kernel
theorem d_Rf_come_12 : decode M_Rf_come.2.1 12 = .ok (.bipush 36, 2) := by decide +kernel
theorem d_Rf_come_14 : decode M_Rf_come.2.1 14 = .ok (.iload_n 1, 1) := by decide +kernel
theorem d_Rf_come_15 : decode M_Rf_come.2.1 15 = .ok (.iadd, 1) := by decide +kernel
theorem d_Rf_come_16 : decode M_Rf_come.2.1 16 = .ok (.dup2, 1) := by decide +kernel
theorem d_Rf_come_17 : decode M_Rf_come.2.1 17 = .ok (.iaload, 1) := by decide +kernel
theorem d_Rf_come_18 : decode M_Rf_come.2.1 18 = .ok (.aload_n 0, 1) := by decide +kernel
theorem d_Rf_come_19 : decode M_Rf_come.2.1 19 = .ok (.getfield 22, 3) := by decide +kernel
theorem d_Rf_come_22 : decode M_Rf_come.2.1 22 = .ok (.iload_n 1, 1) := by decide +kernel
theorem d_Rf_come_23 : decode M_Rf_come.2.1 23 = .ok (.iaload, 1) := by decide +kernel
theorem d_Rf_come_24 : decode M_Rf_come.2.1 24 = .ok (.iadd, 1) := by decide +kernel
theorem d_Rf_come_25 : decode M_Rf_come.2.1 25 = .ok (.iastore, 1) := by decide +kernel
theorem d_Rf_come_26 : decode M_Rf_come.2.1 26 = .ok (.aload_n 0, 1) := by decide +kernel
theorem d_Rf_come_27 : decode M_Rf_come.2.1 27 = .ok (.getfield 7, 3) := by decide +kernel
theorem d_Rf_come_30 : decode M_Rf_come.2.1 30 = .ok (.iconst 0, 1) := by decide +kernel
theorem d_Rf_come_31 : decode M_Rf_come.2.1 31 = .ok (.iload_n 1, 1) := by decide +kernel
theorem d_Rf_come_32 : decode M_Rf_come.2.1 32 = .ok (.iadd, 1) := by decide +kernel
theorem d_Rf_come_33 : decode M_Rf_come.2.1 33 = .ok (.dup2, 1) := by decide +kernel
theorem d_Rf_come_34 : decode M_Rf_come.2.1 34 = .ok (.iaload, 1) := by decide +kernel
theorem d_Rf_come_35 : decode M_Rf_come.2.1 35 = .ok (.aload_n 0, 1) := by decide +kernel
theorem d_Rf_come_36 : decode M_Rf_come.2.1 36 = .ok (.getfield 7, 3) := by decide +kernel
theorem d_Rf_come_39 : decode M_Rf_come.2.1 39 = .ok (.bipush 36, 2) := by decide +kernel
theorem d_Rf_come_41 : decode M_Rf_come.2.1 41 = .ok (.iload_n 1, 1) := by decide +kernel
theorem d_Rf_come_42 : decode M_Rf_come.2.1 42 = .ok (.iadd, 1) := by decide +kernel
theorem d_Rf_come_43 : decode M_Rf_come.2.1 43 = .ok (.iaload, 1) := by decide +kernel
theorem d_Rf_come_44 : decode M_Rf_come.2.1 44 = .ok (.bipush 100, 2) := by decide +kernel
theorem d_Rf_come_46 : decode M_Rf_come.2.1 46 = .ok (.idiv, 1) := by decide +kernel
theorem d_Rf_come_47 : decode M_Rf_come.2.1 47 = .ok (.iadd, 1) := by decide +kernel
theorem d_Rf_come_48 : decode M_Rf_come.2.1 48 = .ok (.iastore, 1) := by decide +kernel
theorem d_Rf_come_49 : decode M_Rf_come.2.1 49 = .ok (.aload_n 0, 1) := by decide +kernel
theorem d_Rf_come_50 : decode M_Rf_come.2.1 50 = .ok (.getfield 7, 3) := by decide +kernel
theorem d_Rf_come_53 : decode M_Rf_come.2.1 53 = .ok (.bipush 36, 2) := by decide +kernel
theorem d_Rf_come_55 : decode M_Rf_come.2.1 55 = .ok (.iload_n 1, 1) := by decide +kernel
theorem d_Rf_come_56 : decode M_Rf_come.2.1 56 = .ok (.iadd, 1) := by decide +kernel
theorem d_Rf_come_57 : decode M_Rf_come.2.1 57 = .ok (.dup2, 1) := by decide +kernel
theorem d_Rf_come_58 : decode M_Rf_come.2.1 58 = .ok (.iaload, 1) := by decide +kernel
theorem d_Rf_come_59 : decode M_Rf_come.2.1 59 = .ok (.bipush 100, 2) := by decide +kernel
theorem d_Rf_come_61 : decode M_Rf_come.2.1 61 = .ok (.irem, 1) := by decide +kernel
theorem d_Rf_come_62 : decode M_Rf_come.2.1 62 = .ok (.iastore, 1) := by decide +kernel
theorem d_Rf_come_63 : decode M_Rf_come.2.1 63 = .ok (.aload_n 0, 1) := by decide +kernel
theorem d_Rf_come_64 : decode M_Rf_come.2.1 64 = .ok (.getfield 7, 3) := by decide +kernel
theorem d_Rf_come_67 : decode M_Rf_come.2.1 67 = .ok (.sipush 234, 3) := by decide +kernel
theorem d_Rf_come_70 : decode M_Rf_come.2.1 70 = .ok (.iaload, 1) := by decide +kernel
theorem d_Rf_come_71 : decode M_Rf_come.2.1 71 = .ok (.bipush 10, 2) := by decide +kernel
theorem d_Rf_come_73 : decode M_Rf_come.2.1 73 = .ok (.irem, 1) := by decide +kernel
theorem d_Rf_come_74 : decode M_Rf_come.2.1 74 = .ok (.bipush 9, 2) := by decide +kernel
theorem d_Rf_come_76 : decode M_Rf_come.2.1 76 = .ok (.if_icmp .ne 67, 3) := by decide +kernel
theorem d_Rf_come_79 : decode M_Rf_come.2.1 79 = .ok (.aload_n 0, 1) := by decide +kernel
theorem d_Rf_come_80 : decode M_Rf_come.2.1 80 = .ok (.getfield 7, 3) := by decide +kernel
theorem d_Rf_come_83 : decode M_Rf_come.2.1 83 = .ok (.sipush 235, 3) := by decide +kernel
theorem d_Rf_come_86 : decode M_Rf_come.2.1 86 = .ok (.iaload, 1) := by decide +kernel
theorem d_Rf_come_87 : decode M_Rf_come.2.1 87 = .ok (.iconst 1, 1) := by decide +kernel
theorem d_Rf_come_88 : decode M_Rf_come.2.1 88 = .ok (.if_icmp .ne 19, 3) := by decide +kernel
theorem d_Rf_come_91 : decode M_Rf_come.2.1 91 = .ok (.aload_n 0, 1) := by decide +kernel
theorem d_Rf_come_92 : decode M_Rf_come.2.1 92 = .ok (.getfield 7, 3) := by decide +kernel
theorem d_Rf_come_95 : decode M_Rf_come.2.1 95 = .ok (.iconst 0, 1) := by decide +kernel
theorem d_Rf_come_96 : decode M_Rf_come.2.1 96 = .ok (.iload_n 1, 1) := by decide +kernel
theorem d_Rf_come_97 : decode M_Rf_come.2.1 97 = .ok (.iadd, 1) := by decide +kernel
theorem d_Rf_come_98 : decode M_Rf_come.2.1 98 = .ok (.iaload, 1) := by decide +kernel
theorem d_Rf_come_99 : decode M_Rf_come.2.1 99 = .ok (.iconst 2, 1) := by decide +kernel
theorem d_Rf_come_100 : decode M_Rf_come.2.1 100 = .ok (.imul, 1) := by decide +kernel
theorem d_Rf_come_101 : decode M_Rf_come.2.1 101 = .ok (.bipush 100, 2) := by decide +kernel
theorem d_Rf_come_103 : decode M_Rf_come.2.1 103 = .ok (.idiv, 1) := by decide +kernel
theorem d_Rf_come_104 : decode M_Rf_come.2.1 104 = .ok (.goto 14, 3) := by decide +kernel
theorem d_Rf_come_107 : decode M_Rf_come.2.1 107 = .ok (.aload_n 0, 1) := by decide +kernel
theorem d_Rf_come_108 : decode M_Rf_come.2.1 108 = .ok (.getfield 7, 3) := by decide +kernel
theorem d_Rf_come_111 : decode M_Rf_come.2.1 111 = .ok (.iconst 0, 1) := by decide +kernel
theorem d_Rf_come_112 : decode M_Rf_come.2.1 112 = .ok (.iload_n 1, 1) := by decide +kernel
theorem d_Rf_come_113 : decode M_Rf_come.2.1 113 = .ok (.iadd, 1) := by decide +kernel
theorem d_Rf_come_114 : decode M_Rf_come.2.1 114 = .ok (.iaload, 1) := by decide +kernel
theorem d_Rf_come_115 : decode M_Rf_come.2.1 115 = .ok (.bipush 10, 2) := by decide +kernel
theorem d_Rf_come_117 : decode M_Rf_come.2.1 117 = .ok (.idiv, 1) := by decide +kernel
theorem d_Rf_come_118 : decode M_Rf_come.2.1 118 = .ok (.istore_n 2, 1) := by decide +kernel
theorem d_Rf_come_119 : decode M_Rf_come.2.1 119 = .ok (.aload_n 0, 1) := by decide +kernel
theorem d_Rf_come_120 : decode M_Rf_come.2.1 120 = .ok (.getfield 7, 3) := by decide +kernel
theorem d_Rf_come_123 : decode M_Rf_come.2.1 123 = .ok (.iconst 0, 1) := by decide +kernel
theorem d_Rf_come_124 : decode M_Rf_come.2.1 124 = .ok (.iload_n 1, 1) := by decide +kernel
theorem d_Rf_come_125 : decode M_Rf_come.2.1 125 = .ok (.iadd, 1) := by decide +kernel
theorem d_Rf_come_126 : decode M_Rf_come.2.1 126 = .ok (.dup2, 1) := by decide +kernel
theorem d_Rf_come_127 : decode M_Rf_come.2.1 127 = .ok (.iaload, 1) := by decide +kernel
theorem d_Rf_come_128 : decode M_Rf_come.2.1 128 = .ok (.iload_n 2, 1) := by decide +kernel
theorem d_Rf_come_129 : decode M_Rf_come.2.1 129 = .ok (.isub, 1) := by decide +kernel
theorem d_Rf_come_130 : decode M_Rf_come.2.1 130 = .ok (.iastore, 1) := by decide +kernel
theorem d_Rf_come_131 : decode M_Rf_come.2.1 131 = .ok (.aload_n 0, 1) := by decide +kernel
theorem d_Rf_come_132 : decode M_Rf_come.2.1 132 = .ok (.getfield 7, 3) := by decide +kernel
theorem d_Rf_come_135 : decode M_Rf_come.2.1 135 = .ok (.sipush 236, 3) := by decide +kernel
theorem d_Rf_come_138 : decode M_Rf_come.2.1 138 = .ok (.dup2, 1) := by decide +kernel
theorem d_Rf_come_139 : decode M_Rf_come.2.1 139 = .ok (.iaload, 1) := by decide +kernel
theorem d_Rf_come_140 : decode M_Rf_come.2.1 140 = .ok (.iload_n 2, 1) := by decide +kernel
theorem d_Rf_come_141 : decode M_Rf_come.2.1 141 = .ok (.iadd, 1) := by decide +kernel
theorem d_Rf_come_142 : decode M_Rf_come.2.1 142 = .ok (.iastore, 1) := by decide +kernel
theorem d_Rf_come_143 : decode M_Rf_come.2.1 143 = .ok (.iinc 1 1, 3) := by decide +kernel
theorem d_Rf_come_146 : decode M_Rf_come.2.1 146 = .ok (.goto (-144), 3) := by decide +kernel
theorem d_Rf_come_149 : decode M_Rf_come.2.1 149 = .ok (.return_, 1) := by decide +kernel
set_option maxHeartbeats 4000000 in
set_option maxRecDepth 100000 in
theorem ok_Rf_come {D : xD} {N : Nat} {l : Launch} {d : Nat} {c z : T2} {P Q : Nat → Int32} {rest : List va_E} {K : Option Value → List va_E → Prop} {m : Nat} (em : P 234 = nI m) (hm : m < 14700) (hc : ∀ k, k < 36 → isN (P k) 600) (hp : ∀ k, k < 36 → isN (P (36 + k)) 100) (hr : ∀ k, k < 36 → isN (c 3 k) 100) (hK : K none (encR D N c z (cmN c P m 36) Q ++ rest)) : Ok D N l d M_Rf_come [.ref (N + 0)] (encR D N c z P Q ++ rest) 0 0 K := by
  have lp : ∀ k : Nat, k ≤ 36 → Wp D N l (EI M_Rf_come) M_Rf_come (Rm d 0 0) (Qm D N K 0 0) 0 0 2 [(1, .int (nI k)), (0, .ref (N + 0))] [] (encR D N c z (cmN c P m k) Q ++ rest) := by
    refine up_loop ?_ ?_
    · skip
      refine wp_iload_n (q := 3) d_Rf_come_2 rfl rfl ?_
      refine wp_bipush (q := 5) d_Rf_come_3 rfl bp_36 ?_
      refine wp_icmp_ge_t (tgt := 149) d_Rf_come_5 (by decide) (nI_le (Nat.le_refl _) (by decide)) ?_
      refine wp_vret d_Rf_come_149 rfl (Nat.le_refl _) (Nat.le_refl _) ?_
      exact hK
    · intro k hk ih
      rw [cmN] at ih
      obtain ⟨e1, l1⟩ := hc k hk
      obtain ⟨e2, l2⟩ := hp k hk
      obtain ⟨e3, l3⟩ := hr k hk
      have f1 : cmN c P m k k = nI (tn (P k)) := by rw [cmN_at (by omega) (by omega)]; exact e1
      have f2 : cmN c P m k (36 + k) = nI (tn (P (36 + k))) := by rw [cmN_at (by omega) (by omega)]; exact e2
      have f4 : cmN c P m k 234 = nI m := by rw [cmN_at (by omega) (by omega)]; exact em
      generalize tn (P k) = u1 at f1 l1
      generalize tn (P (36 + k)) = u2 at f2 l2
      generalize hu3 : tn (c 3 k) = u3 at e3 l3
      generalize cmN c P m k = P' at ih f1 f2 f4 ⊢
      refine wp_iload_n (q := 3) d_Rf_come_2 rfl rfl ?_
      refine wp_bipush (q := 5) d_Rf_come_3 rfl bp_36 ?_
      refine wp_icmp_ge_f (q := 8) (tgt := 149) d_Rf_come_5 (by decide) rfl (nI_ge hk (by decide)) ?_
      refine wp_aload_n (q := 9) d_Rf_come_8 rfl rfl ?_
      refine wp_get (q := 12) fl_Rf_7 d_Rf_come_9 rfl rfl rfl ?_
      refine wp_bipush (q := 14) d_Rf_come_12 rfl bp_36 ?_
      refine wp_iload_n (q := 15) d_Rf_come_14 rfl rfl ?_
      first | refine wp_iaddN (q := 16) d_Rf_come_15 rfl ?_ | refine wp_iadd (q := 16) d_Rf_come_15 rfl ?_
      refine wp_dup2 (q := 17) d_Rf_come_16 rfl rfl rfl ?_
      refine wp_iald (q := 18) d_Rf_come_17 rfl (rfl) (by omega) (by decide) ?_
      rw [f2]
      refine wp_aload_n (q := 19) d_Rf_come_18 rfl rfl ?_
      refine wp_get (q := 22) fl_Rf_22 d_Rf_come_19 rfl rfl rfl ?_
      refine wp_iload_n (q := 23) d_Rf_come_22 rfl rfl ?_
      refine wp_iald (q := 24) d_Rf_come_23 rfl (rfl) (by omega) (by decide) ?_
      rw [e3]
      first | refine wp_iaddN (q := 25) d_Rf_come_24 rfl ?_ | refine wp_iadd (q := 25) d_Rf_come_24 rfl ?_
      refine wp_iast (q := 26) d_Rf_come_25 rfl (rfl) (by omega) (by decide) (fr_P) ?_
      refine wp_aload_n (q := 27) d_Rf_come_26 rfl rfl ?_
      refine wp_get (q := 30) fl_Rf_7 d_Rf_come_27 rfl rfl rfl ?_
      refine wp_iconst (q := 31) d_Rf_come_30 rfl ic_0 ?_
      refine wp_iload_n (q := 32) d_Rf_come_31 rfl rfl ?_
      first | refine wp_iaddN (q := 33) d_Rf_come_32 rfl ?_ | refine wp_iadd (q := 33) d_Rf_come_32 rfl ?_
      rw [Nat.zero_add]
      refine wp_dup2 (q := 34) d_Rf_come_33 rfl rfl rfl ?_
      refine wp_iald (q := 35) d_Rf_come_34 rfl (rfl) (by omega) (by decide) ?_
      simp (disch := omega) only [upd_ne, upd_eq]
      rw [f1]
      refine wp_aload_n (q := 36) d_Rf_come_35 rfl rfl ?_
      refine wp_get (q := 39) fl_Rf_7 d_Rf_come_36 rfl rfl rfl ?_
      refine wp_bipush (q := 41) d_Rf_come_39 rfl bp_36 ?_
      refine wp_iload_n (q := 42) d_Rf_come_41 rfl rfl ?_
      first | refine wp_iaddN (q := 43) d_Rf_come_42 rfl ?_ | refine wp_iadd (q := 43) d_Rf_come_42 rfl ?_
      refine wp_iald (q := 44) d_Rf_come_43 rfl (rfl) (by omega) (by decide) ?_
      simp (disch := omega) only [upd_ne, upd_eq]
      refine wp_bipush (q := 46) d_Rf_come_44 rfl bp_100 ?_
      refine wp_idivN (q := 47) d_Rf_come_46 rfl (by omega) (by decide) (by decide) ?_
      first | refine wp_iaddN (q := 48) d_Rf_come_47 rfl ?_ | refine wp_iadd (q := 48) d_Rf_come_47 rfl ?_
      refine wp_iast (q := 49) d_Rf_come_48 rfl (rfl) (by omega) (by decide) (fr_P) ?_
      refine wp_aload_n (q := 50) d_Rf_come_49 rfl rfl ?_
      refine wp_get (q := 53) fl_Rf_7 d_Rf_come_50 rfl rfl rfl ?_
      refine wp_bipush (q := 55) d_Rf_come_53 rfl bp_36 ?_
      refine wp_iload_n (q := 56) d_Rf_come_55 rfl rfl ?_
      first | refine wp_iaddN (q := 57) d_Rf_come_56 rfl ?_ | refine wp_iadd (q := 57) d_Rf_come_56 rfl ?_
      refine wp_dup2 (q := 58) d_Rf_come_57 rfl rfl rfl ?_
      refine wp_iald (q := 59) d_Rf_come_58 rfl (rfl) (by omega) (by decide) ?_
      simp (disch := omega) only [upd_ne, upd_eq]
      refine wp_bipush (q := 61) d_Rf_come_59 rfl bp_100 ?_
      refine wp_iremN (q := 62) d_Rf_come_61 rfl (by omega) (by decide) (by decide) ?_
      refine wp_iast (q := 63) d_Rf_come_62 rfl (rfl) (by omega) (by decide) (fr_P) ?_
      refine wp_aload_n (q := 64) d_Rf_come_63 rfl rfl ?_
      refine wp_get (q := 67) fl_Rf_7 d_Rf_come_64 rfl rfl rfl ?_
      refine wp_sipush (q := 70) d_Rf_come_67 rfl sp_234 ?_
      refine wp_iald (q := 71) d_Rf_come_70 rfl (rfl) (by omega) (by decide) ?_
      simp (disch := omega) only [upd_ne, upd_eq]
      rw [f4]
      refine wp_bipush (q := 73) d_Rf_come_71 rfl bp_10 ?_
      refine wp_iremN (q := 74) d_Rf_come_73 rfl (by omega) (by decide) (by decide) ?_
      refine wp_bipush (q := 76) d_Rf_come_74 rfl bp_9 ?_
      refine wp_icmp_ne (q := 79) (tgt := 143) d_Rf_come_76 (by decide) rfl (fun hc_76 => ?_) (fun hc_76 => ?_)
      · have h9 : ¬ m % 10 = 9 := fun z => hc_76 (by rw [z])
        refine wp_iinc (q := 146) (L2 := [(1, _), (0, _)]) d_Rf_come_143 rfl rfl (iinc_1) (by decide) rfl ?_
        refine wp_goto (tgt := 2) d_Rf_come_146 (by decide) ?_
        first
          | (refine wpR ih ?_
             rw [cm1, cmW, cmK, if_neg h9, f1, f2, hu3, tnt l1, tnt l2, add_0, Nat.sub_zero]
             try simp (disch := omega) only [upd_ne, upd_eq]
             funext i; simp only [upd]; repeat' split
             all_goals first | rfl | omega | (subst_vars; rfl) | (congr 1; omega))
          | (refine wpR ih ?_
             rw [cm1, cmW, cmK, if_pos h9, if_neg hc_88, cmW, f1, f2, hu3, tnt l1, tnt l2]
             try simp (disch := omega) only [upd_ne, upd_eq]
             funext i; simp only [upd]; repeat' split
             all_goals first | rfl | omega | (congr 1; omega))
          | (refine wpR ih ?_
             rw [cm1, cmW, cmK, if_pos h9, if_pos hc_88, cmW, f1, f2, hu3, tnt l1, tnt l2]
             try simp (disch := omega) only [upd_ne, upd_eq]
             rw [show 2 * (u1 + (u2 + u3) / 100) / 100 = (u1 + (u2 + u3) / 100) / 50 by omega]
             funext i; simp only [upd]; repeat' split
             all_goals first | rfl | omega | (congr 1; omega))
      · have h9 : m % 10 = 9 := (nI_eq (by omega) (by decide)).mp hc_76
        refine wp_aload_n (q := 80) d_Rf_come_79 rfl rfl ?_
        refine wp_get (q := 83) fl_Rf_7 d_Rf_come_80 rfl rfl rfl ?_
        refine wp_sipush (q := 86) d_Rf_come_83 rfl sp_235 ?_
        refine wp_iald (q := 87) d_Rf_come_86 rfl (rfl) (by omega) (by decide) ?_
        simp (disch := omega) only [upd_ne, upd_eq]
        refine wp_iconst (q := 88) d_Rf_come_87 rfl ic_1 ?_
        refine wp_icmp_ne (q := 91) (tgt := 107) d_Rf_come_88 (by decide) rfl (fun hc_88 => ?_) (fun hc_88 => ?_)
        · refine wp_aload_n (q := 108) d_Rf_come_107 rfl rfl ?_
          refine wp_get (q := 111) fl_Rf_7 d_Rf_come_108 rfl rfl rfl ?_
          refine wp_iconst (q := 112) d_Rf_come_111 rfl ic_0 ?_
          refine wp_iload_n (q := 113) d_Rf_come_112 rfl rfl ?_
          first | refine wp_iaddN (q := 114) d_Rf_come_113 rfl ?_ | refine wp_iadd (q := 114) d_Rf_come_113 rfl ?_
          rw [Nat.zero_add]
          refine wp_iald (q := 115) d_Rf_come_114 rfl (rfl) (by omega) (by decide) ?_
          simp (disch := omega) only [upd_ne, upd_eq]
          refine wp_bipush (q := 117) d_Rf_come_115 rfl bp_10 ?_
          refine wp_idivN (q := 118) d_Rf_come_117 rfl (by omega) (by decide) (by decide) ?_
          refine wp_istore_n (q := 119) (L2 := [(2, _), (1, _), (0, _)]) d_Rf_come_118 rfl (by decide) rfl ?_
          refine wp_aload_n (q := 120) d_Rf_come_119 rfl rfl ?_
          refine wp_get (q := 123) fl_Rf_7 d_Rf_come_120 rfl rfl rfl ?_
          refine wp_iconst (q := 124) d_Rf_come_123 rfl ic_0 ?_
          refine wp_iload_n (q := 125) d_Rf_come_124 rfl rfl ?_
          first | refine wp_iaddN (q := 126) d_Rf_come_125 rfl ?_ | refine wp_iadd (q := 126) d_Rf_come_125 rfl ?_
          rw [Nat.zero_add]
          refine wp_dup2 (q := 127) d_Rf_come_126 rfl rfl rfl ?_
          refine wp_iald (q := 128) d_Rf_come_127 rfl (rfl) (by omega) (by decide) ?_
          simp (disch := omega) only [upd_ne, upd_eq]
          refine wp_iload_n (q := 129) d_Rf_come_128 rfl rfl ?_
          refine wp_isubN (q := 130) d_Rf_come_129 rfl (by omega) ?_
          refine wp_iast (q := 131) d_Rf_come_130 rfl (rfl) (by omega) (by decide) (fr_P) ?_
          refine wp_aload_n (q := 132) d_Rf_come_131 rfl rfl ?_
          refine wp_get (q := 135) fl_Rf_7 d_Rf_come_132 rfl rfl rfl ?_
          refine wp_sipush (q := 138) d_Rf_come_135 rfl sp_236 ?_
          refine wp_dup2 (q := 139) d_Rf_come_138 rfl rfl rfl ?_
          refine wp_iald (q := 140) d_Rf_come_139 rfl (rfl) (by omega) (by decide) ?_
          refine wp_iload_n (q := 141) d_Rf_come_140 rfl rfl ?_
          first | refine wp_iaddN (q := 142) d_Rf_come_141 rfl ?_ | refine wp_iadd (q := 142) d_Rf_come_141 rfl ?_
          refine wp_iast (q := 143) d_Rf_come_142 rfl (rfl) (by omega) (by decide) (fr_P) ?_
          refine wp_iinc (q := 146) (L2 := [(1, _), (2, _), (0, _)]) d_Rf_come_143 rfl rfl (iinc_1) (by decide) rfl ?_
          refine wp_goto (tgt := 2) d_Rf_come_146 (by decide) ?_
          refine wp_sub [0, 2] rfl ?_
          first
            | (refine wpR ih ?_
               rw [cm1, cmW, cmK, if_neg h9, f1, f2, hu3, tnt l1, tnt l2, add_0, Nat.sub_zero]
               try simp (disch := omega) only [upd_ne, upd_eq]
               funext i; simp only [upd]; repeat' split
               all_goals first | rfl | omega | (subst_vars; rfl) | (congr 1; omega))
            | (refine wpR ih ?_
               rw [cm1, cmW, cmK, if_pos h9, if_neg hc_88, cmW, f1, f2, hu3, tnt l1, tnt l2]
               try simp (disch := omega) only [upd_ne, upd_eq]
               funext i; simp only [upd]; repeat' split
               all_goals first | rfl | omega | (congr 1; omega))
            | (refine wpR ih ?_
               rw [cm1, cmW, cmK, if_pos h9, if_pos hc_88, cmW, f1, f2, hu3, tnt l1, tnt l2]
               try simp (disch := omega) only [upd_ne, upd_eq]
               rw [show 2 * (u1 + (u2 + u3) / 100) / 100 = (u1 + (u2 + u3) / 100) / 50 by omega]
               funext i; simp only [upd]; repeat' split
               all_goals first | rfl | omega | (congr 1; omega))
        · refine wp_aload_n (q := 92) d_Rf_come_91 rfl rfl ?_
          refine wp_get (q := 95) fl_Rf_7 d_Rf_come_92 rfl rfl rfl ?_
          refine wp_iconst (q := 96) d_Rf_come_95 rfl ic_0 ?_
          refine wp_iload_n (q := 97) d_Rf_come_96 rfl rfl ?_
          first | refine wp_iaddN (q := 98) d_Rf_come_97 rfl ?_ | refine wp_iadd (q := 98) d_Rf_come_97 rfl ?_
          rw [Nat.zero_add]
          refine wp_iald (q := 99) d_Rf_come_98 rfl (rfl) (by omega) (by decide) ?_
          simp (disch := omega) only [upd_ne, upd_eq]
          refine wp_iconst (q := 100) d_Rf_come_99 rfl ic_2 ?_
          first | refine wp_imulC (q := 101) d_Rf_come_100 rfl ?_ | refine wp_imul (q := 101) d_Rf_come_100 rfl ?_
          refine wp_bipush (q := 103) d_Rf_come_101 rfl bp_100 ?_
          refine wp_idivN (q := 104) d_Rf_come_103 rfl (by omega) (by decide) (by decide) ?_
          refine wp_goto (tgt := 118) d_Rf_come_104 (by decide) ?_
          refine wp_istore_n (q := 119) (L2 := [(2, _), (1, _), (0, _)]) d_Rf_come_118 rfl (by decide) rfl ?_
          refine wp_aload_n (q := 120) d_Rf_come_119 rfl rfl ?_
          refine wp_get (q := 123) fl_Rf_7 d_Rf_come_120 rfl rfl rfl ?_
          refine wp_iconst (q := 124) d_Rf_come_123 rfl ic_0 ?_
          refine wp_iload_n (q := 125) d_Rf_come_124 rfl rfl ?_
          first | refine wp_iaddN (q := 126) d_Rf_come_125 rfl ?_ | refine wp_iadd (q := 126) d_Rf_come_125 rfl ?_
          rw [Nat.zero_add]
          refine wp_dup2 (q := 127) d_Rf_come_126 rfl rfl rfl ?_
          refine wp_iald (q := 128) d_Rf_come_127 rfl (rfl) (by omega) (by decide) ?_
          simp (disch := omega) only [upd_ne, upd_eq]
          refine wp_iload_n (q := 129) d_Rf_come_128 rfl rfl ?_
          refine wp_isubN (q := 130) d_Rf_come_129 rfl (by omega) ?_
          refine wp_iast (q := 131) d_Rf_come_130 rfl (rfl) (by omega) (by decide) (fr_P) ?_
          refine wp_aload_n (q := 132) d_Rf_come_131 rfl rfl ?_
          refine wp_get (q := 135) fl_Rf_7 d_Rf_come_132 rfl rfl rfl ?_
          refine wp_sipush (q := 138) d_Rf_come_135 rfl sp_236 ?_
          refine wp_dup2 (q := 139) d_Rf_come_138 rfl rfl rfl ?_
          refine wp_iald (q := 140) d_Rf_come_139 rfl (rfl) (by omega) (by decide) ?_
          refine wp_iload_n (q := 141) d_Rf_come_140 rfl rfl ?_
          first | refine wp_iaddN (q := 142) d_Rf_come_141 rfl ?_ | refine wp_iadd (q := 142) d_Rf_come_141 rfl ?_
          refine wp_iast (q := 143) d_Rf_come_142 rfl (rfl) (by omega) (by decide) (fr_P) ?_
          refine wp_iinc (q := 146) (L2 := [(1, _), (2, _), (0, _)]) d_Rf_come_143 rfl rfl (iinc_1) (by decide) rfl ?_
          refine wp_goto (tgt := 2) d_Rf_come_146 (by decide) ?_
          refine wp_sub [0, 2] rfl ?_
          first
            | (refine wpR ih ?_
               rw [cm1, cmW, cmK, if_neg h9, f1, f2, hu3, tnt l1, tnt l2, add_0, Nat.sub_zero]
               try simp (disch := omega) only [upd_ne, upd_eq]
               funext i; simp only [upd]; repeat' split
               all_goals first | rfl | omega | (subst_vars; rfl) | (congr 1; omega))
            | (refine wpR ih ?_
               rw [cm1, cmW, cmK, if_pos h9, if_neg hc_88, cmW, f1, f2, hu3, tnt l1, tnt l2]
               try simp (disch := omega) only [upd_ne, upd_eq]
               funext i; simp only [upd]; repeat' split
               all_goals first | rfl | omega | (congr 1; omega))
            | (refine wpR ih ?_
               rw [cm1, cmW, cmK, if_pos h9, if_pos hc_88, cmW, f1, f2, hu3, tnt l1, tnt l2]
               try simp (disch := omega) only [upd_ne, upd_eq]
               rw [show 2 * (u1 + (u2 + u3) / 100) / 100 = (u1 + (u2 + u3) / 100) / 50 by omega]
               funext i; simp only [upd]; repeat' split
               all_goals first | rfl | omega | (congr 1; omega))
  refine ok_of (L := [(0, _)]) (by decide) (Nat.le_of_ble_eq_true rfl) rfl ?_
  refine wp_iconst (q := 1) d_Rf_come_0 rfl ic_0 ?_
  refine wp_istore_n (q := 2) (L2 := [(1, _), (0, _)]) d_Rf_come_1 rfl (by decide) rfl ?_
  exact lp 0 (Nat.zero_le _)
theorem d_Tn_comeAndWalk_0 : decode M_Tn_comeAndWalk.2.1 0 = .ok (.iconst 0, 1) := by decide +kernel
theorem d_Tn_comeAndWalk_1 : decode M_Tn_comeAndWalk.2.1 1 = .ok (.istore_n 2, 1) := by decide +kernel
theorem d_Tn_comeAndWalk_2 : decode M_Tn_comeAndWalk.2.1 2 = .ok (.iload_n 2, 1) := by decide +kernel
theorem d_Tn_comeAndWalk_3 : decode M_Tn_comeAndWalk.2.1 3 = .ok (.bipush 36, 2) := by decide +kernel
theorem d_Tn_comeAndWalk_5 : decode M_Tn_comeAndWalk.2.1 5 = .ok (.if_icmp .ge 114, 3) := by decide +kernel
theorem d_Tn_comeAndWalk_8 : decode M_Tn_comeAndWalk.2.1 8 = .ok (.aload_n 1, 1) := by decide +kernel
theorem d_Tn_comeAndWalk_9 : decode M_Tn_comeAndWalk.2.1 9 = .ok (.getfield 169, 3) := by decide +kernel
theorem d_Tn_comeAndWalk_12 : decode M_Tn_comeAndWalk.2.1 12 = .ok (.iload_n 2, 1) := by decide +kernel
theorem d_Tn_comeAndWalk_13 : decode M_Tn_comeAndWalk.2.1 13 = .ok (.iaload, 1) := by decide +kernel
theorem d_Tn_comeAndWalk_14 : decode M_Tn_comeAndWalk.2.1 14 = .ok (.aload_n 0, 1) := by decide +kernel
theorem d_Tn_comeAndWalk_15 : decode M_Tn_comeAndWalk.2.1 15 = .ok (.getfield 15, 3) := by decide +kernel
theorem d_Tn_comeAndWalk_18 : decode M_Tn_comeAndWalk.2.1 18 = .ok (.iload_n 2, 1) := by decide +kernel
theorem d_Tn_comeAndWalk_19 : decode M_Tn_comeAndWalk.2.1 19 = .ok (.iaload, 1) := by decide +kernel
theorem d_Tn_comeAndWalk_20 : decode M_Tn_comeAndWalk.2.1 20 = .ok (.iadd, 1) := by decide +kernel
theorem d_Tn_comeAndWalk_21 : decode M_Tn_comeAndWalk.2.1 21 = .ok (.istore_n 3, 1) := by decide +kernel
theorem d_Tn_comeAndWalk_22 : decode M_Tn_comeAndWalk.2.1 22 = .ok (.aload_n 1, 1) := by decide +kernel
theorem d_Tn_comeAndWalk_23 : decode M_Tn_comeAndWalk.2.1 23 = .ok (.getfield 149, 3) := by decide +kernel
theorem d_Tn_comeAndWalk_26 : decode M_Tn_comeAndWalk.2.1 26 = .ok (.iload_n 2, 1) := by decide +kernel
theorem d_Tn_comeAndWalk_27 : decode M_Tn_comeAndWalk.2.1 27 = .ok (.dup2, 1) := by decide +kernel
theorem d_Tn_comeAndWalk_28 : decode M_Tn_comeAndWalk.2.1 28 = .ok (.iaload, 1) := by decide +kernel
theorem d_Tn_comeAndWalk_29 : decode M_Tn_comeAndWalk.2.1 29 = .ok (.iload_n 3, 1) := by decide +kernel
theorem d_Tn_comeAndWalk_30 : decode M_Tn_comeAndWalk.2.1 30 = .ok (.bipush 100, 2) := by decide +kernel
theorem d_Tn_comeAndWalk_32 : decode M_Tn_comeAndWalk.2.1 32 = .ok (.idiv, 1) := by decide +kernel
theorem d_Tn_comeAndWalk_33 : decode M_Tn_comeAndWalk.2.1 33 = .ok (.iadd, 1) := by decide +kernel
theorem d_Tn_comeAndWalk_34 : decode M_Tn_comeAndWalk.2.1 34 = .ok (.iastore, 1) := by decide +kernel
theorem d_Tn_comeAndWalk_35 : decode M_Tn_comeAndWalk.2.1 35 = .ok (.aload_n 1, 1) := by decide +kernel
theorem d_Tn_comeAndWalk_36 : decode M_Tn_comeAndWalk.2.1 36 = .ok (.getfield 169, 3) := by decide +kernel
theorem d_Tn_comeAndWalk_39 : decode M_Tn_comeAndWalk.2.1 39 = .ok (.iload_n 2, 1) := by decide +kernel
theorem d_Tn_comeAndWalk_40 : decode M_Tn_comeAndWalk.2.1 40 = .ok (.iload_n 3, 1) := by decide +kernel
theorem d_Tn_comeAndWalk_41 : decode M_Tn_comeAndWalk.2.1 41 = .ok (.bipush 100, 2) := by decide +kernel
theorem d_Tn_comeAndWalk_43 : decode M_Tn_comeAndWalk.2.1 43 = .ok (.irem, 1) := by decide +kernel
theorem d_Tn_comeAndWalk_44 : decode M_Tn_comeAndWalk.2.1 44 = .ok (.iastore, 1) := by decide +kernel
theorem d_Tn_comeAndWalk_45 : decode M_Tn_comeAndWalk.2.1 45 = .ok (.aload_n 1, 1) := by decide +kernel
theorem d_Tn_comeAndWalk_46 : decode M_Tn_comeAndWalk.2.1 46 = .ok (.getfield 121, 3) := by decide +kernel
theorem d_Tn_comeAndWalk_49 : decode M_Tn_comeAndWalk.2.1 49 = .ok (.bipush 10, 2) := by decide +kernel
theorem d_Tn_comeAndWalk_51 : decode M_Tn_comeAndWalk.2.1 51 = .ok (.irem, 1) := by decide +kernel
theorem d_Tn_comeAndWalk_52 : decode M_Tn_comeAndWalk.2.1 52 = .ok (.bipush 9, 2) := by decide +kernel
theorem d_Tn_comeAndWalk_54 : decode M_Tn_comeAndWalk.2.1 54 = .ok (.if_icmp .eq 6, 3) := by decide +kernel
theorem d_Tn_comeAndWalk_57 : decode M_Tn_comeAndWalk.2.1 57 = .ok (.goto 56, 3) := by decide +kernel
theorem d_Tn_comeAndWalk_60 : decode M_Tn_comeAndWalk.2.1 60 = .ok (.aload_n 1, 1) := by decide +kernel
theorem d_Tn_comeAndWalk_61 : decode M_Tn_comeAndWalk.2.1 61 = .ok (.getfield 132, 3) := by decide +kernel
theorem d_Tn_comeAndWalk_64 : decode M_Tn_comeAndWalk.2.1 64 = .ok (.iconst 1, 1) := by decide +kernel
theorem d_Tn_comeAndWalk_65 : decode M_Tn_comeAndWalk.2.1 65 = .ok (.if_icmp .ne 15, 3) := by decide +kernel
theorem d_Tn_comeAndWalk_68 : decode M_Tn_comeAndWalk.2.1 68 = .ok (.aload_n 1, 1) := by decide +kernel
theorem d_Tn_comeAndWalk_69 : decode M_Tn_comeAndWalk.2.1 69 = .ok (.getfield 149, 3) := by decide +kernel
theorem d_Tn_comeAndWalk_72 : decode M_Tn_comeAndWalk.2.1 72 = .ok (.iload_n 2, 1) := by decide +kernel
theorem d_Tn_comeAndWalk_73 : decode M_Tn_comeAndWalk.2.1 73 = .ok (.iaload, 1) := by decide +kernel
theorem d_Tn_comeAndWalk_74 : decode M_Tn_comeAndWalk.2.1 74 = .ok (.bipush 50, 2) := by decide +kernel
theorem d_Tn_comeAndWalk_76 : decode M_Tn_comeAndWalk.2.1 76 = .ok (.idiv, 1) := by decide +kernel
theorem d_Tn_comeAndWalk_77 : decode M_Tn_comeAndWalk.2.1 77 = .ok (.goto 12, 3) := by decide +kernel
theorem d_Tn_comeAndWalk_80 : decode M_Tn_comeAndWalk.2.1 80 = .ok (.aload_n 1, 1) := by decide +kernel
theorem d_Tn_comeAndWalk_81 : decode M_Tn_comeAndWalk.2.1 81 = .ok (.getfield 149, 3) := by decide +kernel
theorem d_Tn_comeAndWalk_84 : decode M_Tn_comeAndWalk.2.1 84 = .ok (.iload_n 2, 1) := by decide +kernel
theorem d_Tn_comeAndWalk_85 : decode M_Tn_comeAndWalk.2.1 85 = .ok (.iaload, 1) := by decide +kernel
theorem d_Tn_comeAndWalk_86 : decode M_Tn_comeAndWalk.2.1 86 = .ok (.bipush 10, 2) := by decide +kernel
theorem d_Tn_comeAndWalk_88 : decode M_Tn_comeAndWalk.2.1 88 = .ok (.idiv, 1) := by decide +kernel
theorem d_Tn_comeAndWalk_89 : decode M_Tn_comeAndWalk.2.1 89 = .ok (.istore 4, 2) := by decide +kernel
theorem d_Tn_comeAndWalk_91 : decode M_Tn_comeAndWalk.2.1 91 = .ok (.aload_n 1, 1) := by decide +kernel
theorem d_Tn_comeAndWalk_92 : decode M_Tn_comeAndWalk.2.1 92 = .ok (.getfield 149, 3) := by decide +kernel
theorem d_Tn_comeAndWalk_95 : decode M_Tn_comeAndWalk.2.1 95 = .ok (.iload_n 2, 1) := by decide +kernel
theorem d_Tn_comeAndWalk_96 : decode M_Tn_comeAndWalk.2.1 96 = .ok (.dup2, 1) := by decide +kernel
theorem d_Tn_comeAndWalk_97 : decode M_Tn_comeAndWalk.2.1 97 = .ok (.iaload, 1) := by decide +kernel
theorem d_Tn_comeAndWalk_98 : decode M_Tn_comeAndWalk.2.1 98 = .ok (.iload 4, 2) := by decide +kernel
theorem d_Tn_comeAndWalk_100 : decode M_Tn_comeAndWalk.2.1 100 = .ok (.isub, 1) := by decide +kernel
theorem d_Tn_comeAndWalk_101 : decode M_Tn_comeAndWalk.2.1 101 = .ok (.iastore, 1) := by decide +kernel
theorem d_Tn_comeAndWalk_102 : decode M_Tn_comeAndWalk.2.1 102 = .ok (.aload_n 1, 1) := by decide +kernel
theorem d_Tn_comeAndWalk_103 : decode M_Tn_comeAndWalk.2.1 103 = .ok (.dup, 1) := by decide +kernel
theorem d_Tn_comeAndWalk_104 : decode M_Tn_comeAndWalk.2.1 104 = .ok (.getfield 172, 3) := by decide +kernel
theorem d_Tn_comeAndWalk_107 : decode M_Tn_comeAndWalk.2.1 107 = .ok (.iload 4, 2) := by decide +kernel
theorem d_Tn_comeAndWalk_109 : decode M_Tn_comeAndWalk.2.1 109 = .ok (.iadd, 1) := by decide +kernel
theorem d_Tn_comeAndWalk_110 : decode M_Tn_comeAndWalk.2.1 110 = .ok (.putfield 172, 3) := by decide +kernel
theorem d_Tn_comeAndWalk_113 : decode M_Tn_comeAndWalk.2.1 113 = .ok (.iinc 2 1, 3) := by decide +kernel
theorem d_Tn_comeAndWalk_116 : decode M_Tn_comeAndWalk.2.1 116 = .ok (.goto (-114), 3) := by decide +kernel
theorem d_Tn_comeAndWalk_119 : decode M_Tn_comeAndWalk.2.1 119 = .ok (.return_, 1) := by decide +kernel
set_option maxHeartbeats 4000000 in
set_option maxRecDepth 100000 in
theorem ok_Tn_comeAndWalk {D : xD} {N : Nat} {l : Launch} {d : Nat} {c x V : T2} {P : Nat → Int32} {w : Nat} {ln df : Nat → Option Nat} {rest : List va_E} {K : Option Value → List va_E → Prop} (hw : w < 3) {m : Nat} (em : P 234 = nI m) (hm : m < 14700) (hc : ∀ k, k < 36 → isN (P k) 600) (hp : ∀ k, k < 36 → isN (P (36 + k)) 100) (hr : ∀ k, k < 36 → isN (c 3 k) 100) (hK : K none (encC D N c x (va_up V w (cmN c P m 36)) ln df ++ rest)) : Ok D N l d M_Tn_comeAndWalk [.ref (N + 1), .ref (N + wA w)] (encC D N c x (va_up V w P) ln df ++ rest) 0 0 K := by
  have lp : ∀ k : Nat, k ≤ 36 → Wp D N l (EI M_Tn_comeAndWalk) M_Tn_comeAndWalk (Rm d 0 0) (Qm D N K 0 0) 0 0 2 [(2, .int (nI k)), (0, .ref (N + 1)), (1, .ref (N + wA w))] [] (encC D N c x (va_up V w (cmN c P m k)) ln df ++ rest) := by
    refine up_loop ?_ ?_
    · skip
      refine wp_iload_n (q := 3) d_Tn_comeAndWalk_2 rfl rfl ?_
      refine wp_bipush (q := 5) d_Tn_comeAndWalk_3 rfl bp_36 ?_
      refine wp_icmp_ge_t (tgt := 119) d_Tn_comeAndWalk_5 (by decide) (nI_le (Nat.le_refl _) (by decide)) ?_
      refine wp_vret d_Tn_comeAndWalk_119 rfl (Nat.le_refl _) (Nat.le_refl _) ?_
      exact hK
    · intro k hk ih
      rw [cmN] at ih
      obtain ⟨e1, l1⟩ := hc k hk
      obtain ⟨e2, l2⟩ := hp k hk
      obtain ⟨e3, l3⟩ := hr k hk
      have f1 : cmN c P m k k = nI (tn (P k)) := by rw [cmN_at (by omega) (by omega)]; exact e1
      have f2 : cmN c P m k (36 + k) = nI (tn (P (36 + k))) := by rw [cmN_at (by omega) (by omega)]; exact e2
      have f4 : cmN c P m k 234 = nI m := by rw [cmN_at (by omega) (by omega)]; exact em
      generalize tn (P k) = u1 at f1 l1
      generalize tn (P (36 + k)) = u2 at f2 l2
      generalize hu3 : tn (c 3 k) = u3 at e3 l3
      generalize cmN c P m k = P' at ih f1 f2 f4 ⊢
      refine wp_iload_n (q := 3) d_Tn_comeAndWalk_2 rfl rfl ?_
      refine wp_bipush (q := 5) d_Tn_comeAndWalk_3 rfl bp_36 ?_
      refine wp_icmp_ge_f (q := 8) (tgt := 119) d_Tn_comeAndWalk_5 (by decide) rfl (nI_ge hk (by decide)) ?_
      refine wp_aload_n (q := 9) d_Tn_comeAndWalk_8 rfl rfl ?_
      refine wp_get (q := 12) fl_Tn_169 d_Tn_comeAndWalk_9 rfl (rdO (w := w) hw) rfl ?_
      refine wp_iload_n (q := 13) d_Tn_comeAndWalk_12 rfl rfl ?_
      refine wp_iald (q := 14) d_Tn_comeAndWalk_13 rfl (rd2 (w := w) hw) (by omega) (by decide) ?_
      rw [sl_at (show k < 36 by omega)]
      rw [f2]
      refine wp_aload_n (q := 15) d_Tn_comeAndWalk_14 rfl rfl ?_
      refine wp_get (q := 18) fl_Tn_15 d_Tn_comeAndWalk_15 rfl rfl rfl ?_
      refine wp_iload_n (q := 19) d_Tn_comeAndWalk_18 rfl rfl ?_
      refine wp_iald (q := 20) d_Tn_comeAndWalk_19 rfl (rfl) (by omega) (by decide) ?_
      rw [e3]
      first | refine wp_iaddN (q := 21) d_Tn_comeAndWalk_20 rfl ?_ | refine wp_iadd (q := 21) d_Tn_comeAndWalk_20 rfl ?_
      refine wp_istore_n (q := 22) (L2 := [(3, _), (2, _), (0, _), (1, _)]) d_Tn_comeAndWalk_21 rfl (by decide) rfl ?_
      refine wp_aload_n (q := 23) d_Tn_comeAndWalk_22 rfl rfl ?_
      refine wp_get (q := 26) fl_Tn_149 d_Tn_comeAndWalk_23 rfl (rdO (w := w) hw) rfl ?_
      refine wp_iload_n (q := 27) d_Tn_comeAndWalk_26 rfl rfl ?_
      refine wp_dup2 (q := 28) d_Tn_comeAndWalk_27 rfl rfl rfl ?_
      refine wp_iald (q := 29) d_Tn_comeAndWalk_28 rfl (rd1 (w := w) hw) (by omega) (by decide) ?_
      rw [sl_at (show k < 36 by omega)]
      rw [Nat.zero_add, f1]
      refine wp_iload_n (q := 30) d_Tn_comeAndWalk_29 rfl rfl ?_
      refine wp_bipush (q := 32) d_Tn_comeAndWalk_30 rfl bp_100 ?_
      refine wp_idivN (q := 33) d_Tn_comeAndWalk_32 rfl (by omega) (by decide) (by decide) ?_
      first | refine wp_iaddN (q := 34) d_Tn_comeAndWalk_33 rfl ?_ | refine wp_iadd (q := 34) d_Tn_comeAndWalk_33 rfl ?_
      refine wp_iast (q := 35) d_Tn_comeAndWalk_34 rfl (rd1 (w := w) hw) (by omega) (by decide) (fdw (w := w) (i := 1) hw (by decide) (ws_c (by omega))) ?_
      refine wp_aload_n (q := 36) d_Tn_comeAndWalk_35 rfl rfl ?_
      refine wp_get (q := 39) fl_Tn_169 d_Tn_comeAndWalk_36 rfl (rdO (w := w) hw) rfl ?_
      refine wp_iload_n (q := 40) d_Tn_comeAndWalk_39 rfl rfl ?_
      refine wp_iload_n (q := 41) d_Tn_comeAndWalk_40 rfl rfl ?_
      refine wp_bipush (q := 43) d_Tn_comeAndWalk_41 rfl bp_100 ?_
      refine wp_iremN (q := 44) d_Tn_comeAndWalk_43 rfl (by omega) (by decide) (by decide) ?_
      refine wp_iast (q := 45) d_Tn_comeAndWalk_44 rfl (rd2 (w := w) hw) (by omega) (by decide) (fdw (w := w) (i := 2) hw (by decide) (ws_p (by omega))) ?_
      refine wp_aload_n (q := 46) d_Tn_comeAndWalk_45 rfl rfl ?_
      refine wp_get (q := 49) fl_Tn_121 d_Tn_comeAndWalk_46 rfl (rdO (w := w) hw) rfl ?_
      simp (disch := omega) only [upd_ne, upd_eq]
      rw [f4]
      refine wp_bipush (q := 51) d_Tn_comeAndWalk_49 rfl bp_10 ?_
      refine wp_iremN (q := 52) d_Tn_comeAndWalk_51 rfl (by omega) (by decide) (by decide) ?_
      refine wp_bipush (q := 54) d_Tn_comeAndWalk_52 rfl bp_9 ?_
      refine wp_icmp_eq (q := 57) (tgt := 60) d_Tn_comeAndWalk_54 (by decide) rfl (fun hc_54 => ?_) (fun hc_54 => ?_)
      · have h9 : m % 10 = 9 := (nI_eq (by omega) (by decide)).mp hc_54
        refine wp_aload_n (q := 61) d_Tn_comeAndWalk_60 rfl rfl ?_
        refine wp_get (q := 64) fl_Tn_132 d_Tn_comeAndWalk_61 rfl (rdO (w := w) hw) rfl ?_
        simp (disch := omega) only [upd_ne, upd_eq]
        refine wp_iconst (q := 65) d_Tn_comeAndWalk_64 rfl ic_1 ?_
        refine wp_icmp_ne (q := 68) (tgt := 80) d_Tn_comeAndWalk_65 (by decide) rfl (fun hc_65 => ?_) (fun hc_65 => ?_)
        · refine wp_aload_n (q := 81) d_Tn_comeAndWalk_80 rfl rfl ?_
          refine wp_get (q := 84) fl_Tn_149 d_Tn_comeAndWalk_81 rfl (rdO (w := w) hw) rfl ?_
          refine wp_iload_n (q := 85) d_Tn_comeAndWalk_84 rfl rfl ?_
          refine wp_iald (q := 86) d_Tn_comeAndWalk_85 rfl (rd1 (w := w) hw) (by omega) (by decide) ?_
          rw [sl_at (show k < 36 by omega)]
          simp (disch := omega) only [upd_ne, upd_eq]
          refine wp_bipush (q := 88) d_Tn_comeAndWalk_86 rfl bp_10 ?_
          refine wp_idivN (q := 89) d_Tn_comeAndWalk_88 rfl (by omega) (by decide) (by decide) ?_
          refine wp_istore (q := 91) (L2 := [(4, _), (3, _), (2, _), (0, _), (1, _)]) d_Tn_comeAndWalk_89 rfl (by decide) rfl ?_
          refine wp_aload_n (q := 92) d_Tn_comeAndWalk_91 rfl rfl ?_
          refine wp_get (q := 95) fl_Tn_149 d_Tn_comeAndWalk_92 rfl (rdO (w := w) hw) rfl ?_
          refine wp_iload_n (q := 96) d_Tn_comeAndWalk_95 rfl rfl ?_
          refine wp_dup2 (q := 97) d_Tn_comeAndWalk_96 rfl rfl rfl ?_
          refine wp_iald (q := 98) d_Tn_comeAndWalk_97 rfl (rd1 (w := w) hw) (by omega) (by decide) ?_
          rw [sl_at (show k < 36 by omega)]
          simp (disch := omega) only [upd_ne, upd_eq]
          refine wp_iload (q := 100) d_Tn_comeAndWalk_98 rfl rfl ?_
          refine wp_isubN (q := 101) d_Tn_comeAndWalk_100 rfl (by omega) ?_
          refine wp_iast (q := 102) d_Tn_comeAndWalk_101 rfl (rd1 (w := w) hw) (by omega) (by decide) (fdw (w := w) (i := 1) hw (by decide) (ws_c (by omega))) ?_
          refine wp_aload_n (q := 103) d_Tn_comeAndWalk_102 rfl rfl ?_
          refine wp_dup (q := 104) d_Tn_comeAndWalk_103 rfl rfl ?_
          refine wp_get (q := 107) fl_Tn_172 d_Tn_comeAndWalk_104 rfl (rdO (w := w) hw) rfl ?_
          simp (disch := omega) only [upd_ne, upd_eq]
          refine wp_iload (q := 109) d_Tn_comeAndWalk_107 rfl rfl ?_
          first | refine wp_iaddN (q := 110) d_Tn_comeAndWalk_109 rfl ?_ | refine wp_iadd (q := 110) d_Tn_comeAndWalk_109 rfl ?_
          refine wp_put (q := 113) fl_Tn_172 d_Tn_comeAndWalk_110 rfl (rdO (w := w) hw) (Nat.le_of_ble_eq_true rfl) rfl rfl (fdw (w := w) (i := 0) hw (by decide) ws_o2) ?_
          refine wp_iinc (q := 116) (L2 := [(2, _), (4, _), (3, _), (0, _), (1, _)]) d_Tn_comeAndWalk_113 rfl rfl (iinc_1) (by decide) rfl ?_
          refine wp_goto (tgt := 2) d_Tn_comeAndWalk_116 (by decide) ?_
          refine wp_sub [0, 3, 4] rfl ?_
          first
            | (refine wpC ih ?_
               rw [cm1, cmW, cmK, if_neg h9, f1, f2, hu3, tnt l1, tnt l2, add_0, Nat.sub_zero]
               try simp (disch := omega) only [upd_ne, upd_eq, Nat.zero_add]
               funext i; simp only [upd]; repeat' split
               all_goals first | rfl | omega | (subst_vars; rfl) | (congr 1; omega))
            | (refine wpC ih ?_
               rw [cm1, cmW, cmK, if_pos h9, if_neg hc_65, cmW, f1, f2, hu3, tnt l1, tnt l2]
               try simp (disch := omega) only [upd_ne, upd_eq, Nat.zero_add]
               funext i; simp only [upd]; repeat' split
               all_goals first | rfl | omega | (congr 1; omega))
            | (refine wpC ih ?_
               rw [cm1, cmW, cmK, if_pos h9, if_pos hc_65, cmW, f1, f2, hu3, tnt l1, tnt l2]
               try simp (disch := omega) only [upd_ne, upd_eq, Nat.zero_add]
               funext i; simp only [upd]; repeat' split
               all_goals first | rfl | omega | (congr 1; omega))
        · refine wp_aload_n (q := 69) d_Tn_comeAndWalk_68 rfl rfl ?_
          refine wp_get (q := 72) fl_Tn_149 d_Tn_comeAndWalk_69 rfl (rdO (w := w) hw) rfl ?_
          refine wp_iload_n (q := 73) d_Tn_comeAndWalk_72 rfl rfl ?_
          refine wp_iald (q := 74) d_Tn_comeAndWalk_73 rfl (rd1 (w := w) hw) (by omega) (by decide) ?_
          rw [sl_at (show k < 36 by omega)]
          simp (disch := omega) only [upd_ne, upd_eq]
          refine wp_bipush (q := 76) d_Tn_comeAndWalk_74 rfl bp_50 ?_
          refine wp_idivN (q := 77) d_Tn_comeAndWalk_76 rfl (by omega) (by decide) (by decide) ?_
          refine wp_goto (tgt := 89) d_Tn_comeAndWalk_77 (by decide) ?_
          refine wp_istore (q := 91) (L2 := [(4, _), (3, _), (2, _), (0, _), (1, _)]) d_Tn_comeAndWalk_89 rfl (by decide) rfl ?_
          refine wp_aload_n (q := 92) d_Tn_comeAndWalk_91 rfl rfl ?_
          refine wp_get (q := 95) fl_Tn_149 d_Tn_comeAndWalk_92 rfl (rdO (w := w) hw) rfl ?_
          refine wp_iload_n (q := 96) d_Tn_comeAndWalk_95 rfl rfl ?_
          refine wp_dup2 (q := 97) d_Tn_comeAndWalk_96 rfl rfl rfl ?_
          refine wp_iald (q := 98) d_Tn_comeAndWalk_97 rfl (rd1 (w := w) hw) (by omega) (by decide) ?_
          rw [sl_at (show k < 36 by omega)]
          simp (disch := omega) only [upd_ne, upd_eq]
          refine wp_iload (q := 100) d_Tn_comeAndWalk_98 rfl rfl ?_
          refine wp_isubN (q := 101) d_Tn_comeAndWalk_100 rfl (by omega) ?_
          refine wp_iast (q := 102) d_Tn_comeAndWalk_101 rfl (rd1 (w := w) hw) (by omega) (by decide) (fdw (w := w) (i := 1) hw (by decide) (ws_c (by omega))) ?_
          refine wp_aload_n (q := 103) d_Tn_comeAndWalk_102 rfl rfl ?_
          refine wp_dup (q := 104) d_Tn_comeAndWalk_103 rfl rfl ?_
          refine wp_get (q := 107) fl_Tn_172 d_Tn_comeAndWalk_104 rfl (rdO (w := w) hw) rfl ?_
          simp (disch := omega) only [upd_ne, upd_eq]
          refine wp_iload (q := 109) d_Tn_comeAndWalk_107 rfl rfl ?_
          first | refine wp_iaddN (q := 110) d_Tn_comeAndWalk_109 rfl ?_ | refine wp_iadd (q := 110) d_Tn_comeAndWalk_109 rfl ?_
          refine wp_put (q := 113) fl_Tn_172 d_Tn_comeAndWalk_110 rfl (rdO (w := w) hw) (Nat.le_of_ble_eq_true rfl) rfl rfl (fdw (w := w) (i := 0) hw (by decide) ws_o2) ?_
          refine wp_iinc (q := 116) (L2 := [(2, _), (4, _), (3, _), (0, _), (1, _)]) d_Tn_comeAndWalk_113 rfl rfl (iinc_1) (by decide) rfl ?_
          refine wp_goto (tgt := 2) d_Tn_comeAndWalk_116 (by decide) ?_
          refine wp_sub [0, 3, 4] rfl ?_
          first
            | (refine wpC ih ?_
               rw [cm1, cmW, cmK, if_neg h9, f1, f2, hu3, tnt l1, tnt l2, add_0, Nat.sub_zero]
               try simp (disch := omega) only [upd_ne, upd_eq, Nat.zero_add]
               funext i; simp only [upd]; repeat' split
               all_goals first | rfl | omega | (subst_vars; rfl) | (congr 1; omega))
            | (refine wpC ih ?_
               rw [cm1, cmW, cmK, if_pos h9, if_neg hc_65, cmW, f1, f2, hu3, tnt l1, tnt l2]
               try simp (disch := omega) only [upd_ne, upd_eq, Nat.zero_add]
               funext i; simp only [upd]; repeat' split
               all_goals first | rfl | omega | (congr 1; omega))
            | (refine wpC ih ?_
               rw [cm1, cmW, cmK, if_pos h9, if_pos hc_65, cmW, f1, f2, hu3, tnt l1, tnt l2]
               try simp (disch := omega) only [upd_ne, upd_eq, Nat.zero_add]
               funext i; simp only [upd]; repeat' split
               all_goals first | rfl | omega | (congr 1; omega))
      · have h9 : ¬ m % 10 = 9 := fun z => hc_54 (by rw [z])
        refine wp_goto (tgt := 113) d_Tn_comeAndWalk_57 (by decide) ?_
        refine wp_iinc (q := 116) (L2 := [(2, _), (3, _), (0, _), (1, _)]) d_Tn_comeAndWalk_113 rfl rfl (iinc_1) (by decide) rfl ?_
        refine wp_goto (tgt := 2) d_Tn_comeAndWalk_116 (by decide) ?_
        refine wp_sub [0, 2, 3] rfl ?_
        first
          | (refine wpC ih ?_
             rw [cm1, cmW, cmK, if_neg h9, f1, f2, hu3, tnt l1, tnt l2, add_0, Nat.sub_zero]
             try simp (disch := omega) only [upd_ne, upd_eq, Nat.zero_add]
             funext i; simp only [upd]; repeat' split
             all_goals first | rfl | omega | (subst_vars; rfl) | (congr 1; omega))
          | (refine wpC ih ?_
             rw [cm1, cmW, cmK, if_pos h9, if_neg hc_65, cmW, f1, f2, hu3, tnt l1, tnt l2]
             try simp (disch := omega) only [upd_ne, upd_eq, Nat.zero_add]
             funext i; simp only [upd]; repeat' split
             all_goals first | rfl | omega | (congr 1; omega))
          | (refine wpC ih ?_
             rw [cm1, cmW, cmK, if_pos h9, if_pos hc_65, cmW, f1, f2, hu3, tnt l1, tnt l2]
             try simp (disch := omega) only [upd_ne, upd_eq, Nat.zero_add]
             funext i; simp only [upd]; repeat' split
             all_goals first | rfl | omega | (congr 1; omega))
  refine ok_of (L := [(0, _), (1, _)]) (by decide) (Nat.le_of_ble_eq_true rfl) rfl ?_
  refine wp_iconst (q := 1) d_Tn_comeAndWalk_0 rfl ic_0 ?_
  refine wp_istore_n (q := 2) (L2 := [(2, _), (0, _), (1, _)]) d_Tn_comeAndWalk_1 rfl (by decide) rfl ?_
  exact lp 0 (Nat.zero_le _)
end
section
theorem upd_id {f : Nat → Int32} {k : Nat} {v : Int32} (h : f k = v) : upd f k v = f := by
  funext i; simp only [upd]; split
  · rename_i e; rw [e, h]
  · rfl
def arr (P : Nat → Int32) (b kd s a : Nat) : Nat → Int32 := lineP (upd (upd P 236 (P 236 + (if kd = 1 then P (120 + b) / nI 2 else nI 0))) 237 (P 237 + (P (120 + b) - (if kd = 1 then P (120 + b) / nI 2 else nI 0)))) b (if kd = 1 then s else a)
def mv1 (P : Nat → Int32) (b kd s a : Nat) : Nat → Int32 := if P (72 + b) = nI 4 then (if P 234 < P (144 + b) then P else upd P (72 + b) (nI 3)) else if P (72 + b) = nI 3 then (if P (132 + b) - nI 1 = 0 then arr (upd P (132 + b) (P (132 + b) - nI 1)) b kd s a else upd P (132 + b) (P (132 + b) - nI 1)) else P
theorem d_Rf_goesBus_0 : decode M_Rf_goesBus.2.1 0 = .ok (.aload_n 0, 1) := by decide +kernel
theorem d_Rf_goesBus_1 : decode M_Rf_goesBus.2.1 1 = .ok (.getfield 7, 3) := by decide +kernel
theorem d_Rf_goesBus_4 : decode M_Rf_goesBus.2.1 4 = .ok (.bipush 72, 2) := by decide +kernel
theorem d_Rf_goesBus_6 : decode M_Rf_goesBus.2.1 6 = .ok (.iload_n 1, 1) := by decide +kernel
theorem d_Rf_goesBus_7 : decode M_Rf_goesBus.2.1 7 = .ok (.iadd, 1) := by decide +kernel
theorem d_Rf_goesBus_8 : decode M_Rf_goesBus.2.1 8 = .ok (.iaload, 1) := by decide +kernel
theorem d_Rf_goesBus_9 : decode M_Rf_goesBus.2.1 9 = .ok (.iconst 4, 1) := by decide +kernel
theorem d_Rf_goesBus_10 : decode M_Rf_goesBus.2.1 10 = .ok (.if_icmp .ne 41, 3) := by decide +kernel
theorem d_Rf_goesBus_13 : decode M_Rf_goesBus.2.1 13 = .ok (.aload_n 0, 1) := by decide +kernel
theorem d_Rf_goesBus_14 : decode M_Rf_goesBus.2.1 14 = .ok (.getfield 7, 3) := by decide +kernel
theorem d_Rf_goesBus_17 : decode M_Rf_goesBus.2.1 17 = .ok (.bipush 72, 2) := by decide +kernel
theorem d_Rf_goesBus_19 : decode M_Rf_goesBus.2.1 19 = .ok (.iload_n 1, 1) := by decide +kernel
theorem d_Rf_goesBus_20 : decode M_Rf_goesBus.2.1 20 = .ok (.iadd, 1) := by decide +kernel
theorem d_Rf_goesBus_21 : decode M_Rf_goesBus.2.1 21 = .ok (.aload_n 0, 1) := by decide +kernel
theorem d_Rf_goesBus_22 : decode M_Rf_goesBus.2.1 22 = .ok (.getfield 7, 3) := by decide +kernel
theorem d_Rf_goesBus_25 : decode M_Rf_goesBus.2.1 25 = .ok (.sipush 234, 3) := by decide +kernel
theorem d_Rf_goesBus_28 : decode M_Rf_goesBus.2.1 28 = .ok (.iaload, 1) := by decide +kernel
theorem d_Rf_goesBus_29 : decode M_Rf_goesBus.2.1 29 = .ok (.aload_n 0, 1) := by decide +kernel
theorem d_Rf_goesBus_30 : decode M_Rf_goesBus.2.1 30 = .ok (.getfield 7, 3) := by decide +kernel
theorem d_Rf_goesBus_33 : decode M_Rf_goesBus.2.1 33 = .ok (.sipush 144, 3) := by decide +kernel
theorem d_Rf_goesBus_36 : decode M_Rf_goesBus.2.1 36 = .ok (.iload_n 1, 1) := by decide +kernel
theorem d_Rf_goesBus_37 : decode M_Rf_goesBus.2.1 37 = .ok (.iadd, 1) := by decide +kernel
theorem d_Rf_goesBus_38 : decode M_Rf_goesBus.2.1 38 = .ok (.iaload, 1) := by decide +kernel
theorem d_Rf_goesBus_39 : decode M_Rf_goesBus.2.1 39 = .ok (.if_icmp .lt 7, 3) := by decide +kernel
theorem d_Rf_goesBus_42 : decode M_Rf_goesBus.2.1 42 = .ok (.iconst 3, 1) := by decide +kernel
theorem d_Rf_goesBus_43 : decode M_Rf_goesBus.2.1 43 = .ok (.goto 4, 3) := by decide +kernel
theorem d_Rf_goesBus_46 : decode M_Rf_goesBus.2.1 46 = .ok (.iconst 4, 1) := by decide +kernel
theorem d_Rf_goesBus_47 : decode M_Rf_goesBus.2.1 47 = .ok (.iastore, 1) := by decide +kernel
theorem d_Rf_goesBus_48 : decode M_Rf_goesBus.2.1 48 = .ok (.goto 147, 3) := by decide +kernel
theorem d_Rf_goesBus_51 : decode M_Rf_goesBus.2.1 51 = .ok (.aload_n 0, 1) := by decide +kernel
theorem d_Rf_goesBus_52 : decode M_Rf_goesBus.2.1 52 = .ok (.getfield 7, 3) := by decide +kernel
theorem d_Rf_goesBus_55 : decode M_Rf_goesBus.2.1 55 = .ok (.bipush 72, 2) := by decide +kernel
theorem d_Rf_goesBus_57 : decode M_Rf_goesBus.2.1 57 = .ok (.iload_n 1, 1) := by decide +kernel
theorem d_Rf_goesBus_58 : decode M_Rf_goesBus.2.1 58 = .ok (.iadd, 1) := by decide +kernel
theorem d_Rf_goesBus_59 : decode M_Rf_goesBus.2.1 59 = .ok (.iaload, 1) := by decide +kernel
theorem d_Rf_goesBus_60 : decode M_Rf_goesBus.2.1 60 = .ok (.iconst 3, 1) := by decide +kernel
theorem d_Rf_goesBus_61 : decode M_Rf_goesBus.2.1 61 = .ok (.if_icmp .ne 134, 3) := by decide +kernel
theorem d_Rf_goesBus_64 : decode M_Rf_goesBus.2.1 64 = .ok (.aload_n 0, 1) := by decide +kernel
theorem d_Rf_goesBus_65 : decode M_Rf_goesBus.2.1 65 = .ok (.getfield 7, 3) := by decide +kernel
theorem d_Rf_goesBus_68 : decode M_Rf_goesBus.2.1 68 = .ok (.sipush 132, 3) := by decide +kernel
theorem d_Rf_goesBus_71 : decode M_Rf_goesBus.2.1 71 = .ok (.iload_n 1, 1) := by decide +kernel
theorem d_Rf_goesBus_72 : decode M_Rf_goesBus.2.1 72 = .ok (.iadd, 1) := by decide +kernel
theorem d_Rf_goesBus_73 : decode M_Rf_goesBus.2.1 73 = .ok (.dup2, 1) := by decide +kernel
theorem d_Rf_goesBus_74 : decode M_Rf_goesBus.2.1 74 = .ok (.iaload, 1) := by decide +kernel
theorem d_Rf_goesBus_75 : decode M_Rf_goesBus.2.1 75 = .ok (.iconst 1, 1) := by decide +kernel
theorem d_Rf_goesBus_76 : decode M_Rf_goesBus.2.1 76 = .ok (.isub, 1) := by decide +kernel
theorem d_Rf_goesBus_77 : decode M_Rf_goesBus.2.1 77 = .ok (.iastore, 1) := by decide +kernel
theorem d_Rf_goesBus_78 : decode M_Rf_goesBus.2.1 78 = .ok (.aload_n 0, 1) := by decide +kernel
theorem d_Rf_goesBus_79 : decode M_Rf_goesBus.2.1 79 = .ok (.getfield 7, 3) := by decide +kernel
theorem d_Rf_goesBus_82 : decode M_Rf_goesBus.2.1 82 = .ok (.sipush 132, 3) := by decide +kernel
theorem d_Rf_goesBus_85 : decode M_Rf_goesBus.2.1 85 = .ok (.iload_n 1, 1) := by decide +kernel
theorem d_Rf_goesBus_86 : decode M_Rf_goesBus.2.1 86 = .ok (.iadd, 1) := by decide +kernel
theorem d_Rf_goesBus_87 : decode M_Rf_goesBus.2.1 87 = .ok (.iaload, 1) := by decide +kernel
theorem d_Rf_goesBus_88 : decode M_Rf_goesBus.2.1 88 = .ok (.ifCond .ne 107, 3) := by decide +kernel
theorem d_Rf_goesBus_91 : decode M_Rf_goesBus.2.1 91 = .ok (.aload_n 0, 1) := by decide +kernel
theorem d_Rf_goesBus_92 : decode M_Rf_goesBus.2.1 92 = .ok (.getfield 7, 3) := by decide +kernel
theorem d_Rf_goesBus_95 : decode M_Rf_goesBus.2.1 95 = .ok (.sipush 156, 3) := by decide +kernel
theorem d_Rf_goesBus_98 : decode M_Rf_goesBus.2.1 98 = .ok (.iload_n 1, 1) := by decide +kernel
theorem d_Rf_goesBus_99 : decode M_Rf_goesBus.2.1 99 = .ok (.iadd, 1) := by decide +kernel
theorem d_Rf_goesBus_100 : decode M_Rf_goesBus.2.1 100 = .ok (.iaload, 1) := by decide +kernel
theorem d_Rf_goesBus_101 : decode M_Rf_goesBus.2.1 101 = .ok (.iconst 1, 1) := by decide +kernel
theorem d_Rf_goesBus_102 : decode M_Rf_goesBus.2.1 102 = .ok (.if_icmp .ne 17, 3) := by decide +kernel
theorem d_Rf_goesBus_105 : decode M_Rf_goesBus.2.1 105 = .ok (.aload_n 0, 1) := by decide +kernel
theorem d_Rf_goesBus_106 : decode M_Rf_goesBus.2.1 106 = .ok (.getfield 7, 3) := by decide +kernel
theorem d_Rf_goesBus_109 : decode M_Rf_goesBus.2.1 109 = .ok (.bipush 120, 2) := by decide +kernel
theorem d_Rf_goesBus_111 : decode M_Rf_goesBus.2.1 111 = .ok (.iload_n 1, 1) := by decide +kernel
theorem d_Rf_goesBus_112 : decode M_Rf_goesBus.2.1 112 = .ok (.iadd, 1) := by decide +kernel
theorem d_Rf_goesBus_113 : decode M_Rf_goesBus.2.1 113 = .ok (.iaload, 1) := by decide +kernel
theorem d_Rf_goesBus_114 : decode M_Rf_goesBus.2.1 114 = .ok (.iconst 2, 1) := by decide +kernel
theorem d_Rf_goesBus_115 : decode M_Rf_goesBus.2.1 115 = .ok (.idiv, 1) := by decide +kernel
theorem d_Rf_goesBus_116 : decode M_Rf_goesBus.2.1 116 = .ok (.goto 4, 3) := by decide +kernel
theorem d_Rf_goesBus_119 : decode M_Rf_goesBus.2.1 119 = .ok (.iconst 0, 1) := by decide +kernel
theorem d_Rf_goesBus_120 : decode M_Rf_goesBus.2.1 120 = .ok (.istore_n 2, 1) := by decide +kernel
theorem d_Rf_goesBus_121 : decode M_Rf_goesBus.2.1 121 = .ok (.aload_n 0, 1) := by decide +kernel
theorem d_Rf_goesBus_122 : decode M_Rf_goesBus.2.1 122 = .ok (.getfield 7, 3) := by decide +kernel
theorem d_Rf_goesBus_125 : decode M_Rf_goesBus.2.1 125 = .ok (.sipush 236, 3) := by decide +kernel
theorem d_Rf_goesBus_128 : decode M_Rf_goesBus.2.1 128 = .ok (.dup2, 1) := by decide +kernel
theorem d_Rf_goesBus_129 : decode M_Rf_goesBus.2.1 129 = .ok (.iaload, 1) := by decide +kernel
theorem d_Rf_goesBus_130 : decode M_Rf_goesBus.2.1 130 = .ok (.iload_n 2, 1) := by decide +kernel
theorem d_Rf_goesBus_131 : decode M_Rf_goesBus.2.1 131 = .ok (.iadd, 1) := by decide +kernel
theorem d_Rf_goesBus_132 : decode M_Rf_goesBus.2.1 132 = .ok (.iastore, 1) := by decide +kernel
theorem d_Rf_goesBus_133 : decode M_Rf_goesBus.2.1 133 = .ok (.aload_n 0, 1) := by decide +kernel
theorem d_Rf_goesBus_134 : decode M_Rf_goesBus.2.1 134 = .ok (.getfield 7, 3) := by decide +kernel
theorem d_Rf_goesBus_137 : decode M_Rf_goesBus.2.1 137 = .ok (.sipush 237, 3) := by decide +kernel
theorem d_Rf_goesBus_140 : decode M_Rf_goesBus.2.1 140 = .ok (.dup2, 1) := by decide +kernel
theorem d_Rf_goesBus_141 : decode M_Rf_goesBus.2.1 141 = .ok (.iaload, 1) := by decide +kernel
theorem d_Rf_goesBus_142 : decode M_Rf_goesBus.2.1 142 = .ok (.aload_n 0, 1) := by decide +kernel
theorem d_Rf_goesBus_143 : decode M_Rf_goesBus.2.1 143 = .ok (.getfield 7, 3) := by decide +kernel
theorem d_Rf_goesBus_146 : decode M_Rf_goesBus.2.1 146 = .ok (.bipush 120, 2) := by decide +kernel
theorem d_Rf_goesBus_148 : decode M_Rf_goesBus.2.1 148 = .ok (.iload_n 1, 1) := by decide +kernel
theorem d_Rf_goesBus_149 : decode M_Rf_goesBus.2.1 149 = .ok (.iadd, 1) := by decide +kernel
theorem d_Rf_goesBus_150 : decode M_Rf_goesBus.2.1 150 = .ok (.iaload, 1) := by decide +kernel
theorem d_Rf_goesBus_151 : decode M_Rf_goesBus.2.1 151 = .ok (.iload_n 2, 1) := by decide +kernel
theorem d_Rf_goesBus_152 : decode M_Rf_goesBus.2.1 152 = .ok (.isub, 1) := by decide +kernel
theorem d_Rf_goesBus_153 : decode M_Rf_goesBus.2.1 153 = .ok (.iadd, 1) := by decide +kernel
theorem d_Rf_goesBus_154 : decode M_Rf_goesBus.2.1 154 = .ok (.iastore, 1) := by decide +kernel
theorem d_Rf_goesBus_155 : decode M_Rf_goesBus.2.1 155 = .ok (.aload_n 0, 1) := by decide +kernel
theorem d_Rf_goesBus_156 : decode M_Rf_goesBus.2.1 156 = .ok (.iload_n 1, 1) := by decide +kernel
theorem d_Rf_goesBus_157 : decode M_Rf_goesBus.2.1 157 = .ok (.aload_n 0, 1) := by decide +kernel
theorem d_Rf_goesBus_158 : decode M_Rf_goesBus.2.1 158 = .ok (.getfield 7, 3) := by decide +kernel
theorem d_Rf_goesBus_161 : decode M_Rf_goesBus.2.1 161 = .ok (.sipush 156, 3) := by decide +kernel
theorem d_Rf_goesBus_164 : decode M_Rf_goesBus.2.1 164 = .ok (.iload_n 1, 1) := by decide +kernel
theorem d_Rf_goesBus_165 : decode M_Rf_goesBus.2.1 165 = .ok (.iadd, 1) := by decide +kernel
theorem d_Rf_goesBus_166 : decode M_Rf_goesBus.2.1 166 = .ok (.iaload, 1) := by decide +kernel
theorem d_Rf_goesBus_167 : decode M_Rf_goesBus.2.1 167 = .ok (.iconst 1, 1) := by decide +kernel
theorem d_Rf_goesBus_168 : decode M_Rf_goesBus.2.1 168 = .ok (.if_icmp .ne 15, 3) := by decide +kernel
theorem d_Rf_goesBus_171 : decode M_Rf_goesBus.2.1 171 = .ok (.aload_n 0, 1) := by decide +kernel
theorem d_Rf_goesBus_172 : decode M_Rf_goesBus.2.1 172 = .ok (.getfield 7, 3) := by decide +kernel
theorem d_Rf_goesBus_175 : decode M_Rf_goesBus.2.1 175 = .ok (.bipush 84, 2) := by decide +kernel
theorem d_Rf_goesBus_177 : decode M_Rf_goesBus.2.1 177 = .ok (.iload_n 1, 1) := by decide +kernel
theorem d_Rf_goesBus_178 : decode M_Rf_goesBus.2.1 178 = .ok (.iadd, 1) := by decide +kernel
theorem d_Rf_goesBus_179 : decode M_Rf_goesBus.2.1 179 = .ok (.iaload, 1) := by decide +kernel
theorem d_Rf_goesBus_180 : decode M_Rf_goesBus.2.1 180 = .ok (.goto 12, 3) := by decide +kernel
theorem d_Rf_goesBus_183 : decode M_Rf_goesBus.2.1 183 = .ok (.aload_n 0, 1) := by decide +kernel
theorem d_Rf_goesBus_184 : decode M_Rf_goesBus.2.1 184 = .ok (.getfield 7, 3) := by decide +kernel
theorem d_Rf_goesBus_187 : decode M_Rf_goesBus.2.1 187 = .ok (.bipush 108, 2) := by decide +kernel
theorem d_Rf_goesBus_189 : decode M_Rf_goesBus.2.1 189 = .ok (.iload_n 1, 1) := by decide +kernel
theorem d_Rf_goesBus_190 : decode M_Rf_goesBus.2.1 190 = .ok (.iadd, 1) := by decide +kernel
theorem d_Rf_goesBus_191 : decode M_Rf_goesBus.2.1 191 = .ok (.iaload, 1) := by decide +kernel
theorem d_Rf_goesBus_192 : decode M_Rf_goesBus.2.1 192 = .ok (.invokevirtual 170, 3) := by decide +kernel
theorem d_Rf_goesBus_195 : decode M_Rf_goesBus.2.1 195 = .ok (.return_, 1) := by decide +kernel
set_option maxHeartbeats 4000000 in
set_option maxRecDepth 100000 in
theorem ok_Rf_goesBus {D : xD} {N : Nat} {l : Launch} {d : Nat} {c z : T2} {P Q : Nat → Int32} {rest : List va_E} {K : Option Value → List va_E → Prop} {b kd s a : Nat} (hb : b < 12) (ek : P (156 + b) = nI kd) (hk : kd < 6) (es : P (84 + b) = nI s) (hs : s < 6) (ea : P (108 + b) = nI a) (ha : a < 6) (hK : K none (encR D N c z (mv1 P b kd s a) Q ++ rest)) : Ok D N l (d + 1) M_Rf_goesBus [.ref (N + 0), .int (nI b)] (encR D N c z P Q ++ rest) 0 0 K := by
  refine ok_of (L := [(0, _), (1, _)]) (by decide) (Nat.le_of_ble_eq_true rfl) rfl ?_
  by_cases hk1 : kd = 1
  · skip
    refine wp_aload_n (q := 1) d_Rf_goesBus_0 rfl rfl ?_
    refine wp_get (q := 4) fl_Rf_7 d_Rf_goesBus_1 rfl rfl rfl ?_
    refine wp_bipush (q := 6) d_Rf_goesBus_4 rfl bp_72 ?_
    refine wp_iload_n (q := 7) d_Rf_goesBus_6 rfl rfl ?_
    first | refine wp_iaddN (q := 8) d_Rf_goesBus_7 rfl ?_ | refine wp_iadd (q := 8) d_Rf_goesBus_7 rfl ?_
    refine wp_iald (q := 9) d_Rf_goesBus_8 rfl (rfl) (by omega) (by decide) ?_
    refine wp_iconst (q := 10) d_Rf_goesBus_9 rfl ic_4 ?_
    refine wp_icmp_ne (q := 13) (tgt := 51) d_Rf_goesBus_10 (by decide) rfl (fun hc_10 => ?_) (fun hc_10 => ?_)
    · refine wp_aload_n (q := 52) d_Rf_goesBus_51 rfl rfl ?_
      refine wp_get (q := 55) fl_Rf_7 d_Rf_goesBus_52 rfl rfl rfl ?_
      refine wp_bipush (q := 57) d_Rf_goesBus_55 rfl bp_72 ?_
      refine wp_iload_n (q := 58) d_Rf_goesBus_57 rfl rfl ?_
      first | refine wp_iaddN (q := 59) d_Rf_goesBus_58 rfl ?_ | refine wp_iadd (q := 59) d_Rf_goesBus_58 rfl ?_
      refine wp_iald (q := 60) d_Rf_goesBus_59 rfl (rfl) (by omega) (by decide) ?_
      refine wp_iconst (q := 61) d_Rf_goesBus_60 rfl ic_3 ?_
      refine wp_icmp_ne (q := 64) (tgt := 195) d_Rf_goesBus_61 (by decide) rfl (fun hc_61 => ?_) (fun hc_61 => ?_)
      · refine wp_vret d_Rf_goesBus_195 rfl (Nat.le_refl _) (Nat.le_refl _) ?_
        refine kR hK rfl ?_
        first
          | (rw [mv1, if_pos hc_10, if_pos hc_39]; exact (upd_id hc_10).symm)
          | (rw [mv1, if_pos hc_10, if_neg hc_39]; done)
          | (rw [mv1, if_neg hc_10, if_neg hc_61]; done)
          | (rw [mv1, if_neg hc_10, if_pos hc_61, if_neg hc_88]; done)
          | (rw [mv1, if_neg hc_10, if_pos hc_61, if_pos hc_88, arr]; simp only [if_pos hk1]; simp (disch := omega) only [upd_ne, upd_eq])
      · refine wp_aload_n (q := 65) d_Rf_goesBus_64 rfl rfl ?_
        refine wp_get (q := 68) fl_Rf_7 d_Rf_goesBus_65 rfl rfl rfl ?_
        refine wp_sipush (q := 71) d_Rf_goesBus_68 rfl sp_132 ?_
        refine wp_iload_n (q := 72) d_Rf_goesBus_71 rfl rfl ?_
        first | refine wp_iaddN (q := 73) d_Rf_goesBus_72 rfl ?_ | refine wp_iadd (q := 73) d_Rf_goesBus_72 rfl ?_
        refine wp_dup2 (q := 74) d_Rf_goesBus_73 rfl rfl rfl ?_
        refine wp_iald (q := 75) d_Rf_goesBus_74 rfl (rfl) (by omega) (by decide) ?_
        refine wp_iconst (q := 76) d_Rf_goesBus_75 rfl ic_1 ?_
        refine wp_isub (q := 77) d_Rf_goesBus_76 rfl ?_
        refine wp_iast (q := 78) d_Rf_goesBus_77 rfl (rfl) (by omega) (by decide) (fr_P) ?_
        refine wp_aload_n (q := 79) d_Rf_goesBus_78 rfl rfl ?_
        refine wp_get (q := 82) fl_Rf_7 d_Rf_goesBus_79 rfl rfl rfl ?_
        refine wp_sipush (q := 85) d_Rf_goesBus_82 rfl sp_132 ?_
        refine wp_iload_n (q := 86) d_Rf_goesBus_85 rfl rfl ?_
        first | refine wp_iaddN (q := 87) d_Rf_goesBus_86 rfl ?_ | refine wp_iadd (q := 87) d_Rf_goesBus_86 rfl ?_
        refine wp_iald (q := 88) d_Rf_goesBus_87 rfl (rfl) (by omega) (by decide) ?_
        simp (disch := omega) only [upd_ne, upd_eq]
        refine wp_if_ne (q := 91) (tgt := 195) d_Rf_goesBus_88 (by decide) rfl (fun hc_88 => ?_) (fun hc_88 => ?_)
        · refine wp_vret d_Rf_goesBus_195 rfl (Nat.le_refl _) (Nat.le_refl _) ?_
          refine kR hK rfl ?_
          first
            | (rw [mv1, if_pos hc_10, if_pos hc_39]; exact (upd_id hc_10).symm)
            | (rw [mv1, if_pos hc_10, if_neg hc_39]; done)
            | (rw [mv1, if_neg hc_10, if_neg hc_61]; done)
            | (rw [mv1, if_neg hc_10, if_pos hc_61, if_neg hc_88]; done)
            | (rw [mv1, if_neg hc_10, if_pos hc_61, if_pos hc_88, arr]; simp only [if_pos hk1]; simp (disch := omega) only [upd_ne, upd_eq])
        · refine wp_aload_n (q := 92) d_Rf_goesBus_91 rfl rfl ?_
          refine wp_get (q := 95) fl_Rf_7 d_Rf_goesBus_92 rfl rfl rfl ?_
          refine wp_sipush (q := 98) d_Rf_goesBus_95 rfl sp_156 ?_
          refine wp_iload_n (q := 99) d_Rf_goesBus_98 rfl rfl ?_
          first | refine wp_iaddN (q := 100) d_Rf_goesBus_99 rfl ?_ | refine wp_iadd (q := 100) d_Rf_goesBus_99 rfl ?_
          refine wp_iald (q := 101) d_Rf_goesBus_100 rfl (rfl) (by omega) (by decide) ?_
          simp (disch := omega) only [upd_ne, upd_eq]
          rw [ek]
          refine wp_iconst (q := 102) d_Rf_goesBus_101 rfl ic_1 ?_
          refine wp_icmp_ne_f (q := 105) (tgt := 119) d_Rf_goesBus_102 (by decide) rfl (by rw [hk1]) ?_
          refine wp_aload_n (q := 106) d_Rf_goesBus_105 rfl rfl ?_
          refine wp_get (q := 109) fl_Rf_7 d_Rf_goesBus_106 rfl rfl rfl ?_
          refine wp_bipush (q := 111) d_Rf_goesBus_109 rfl bp_120 ?_
          refine wp_iload_n (q := 112) d_Rf_goesBus_111 rfl rfl ?_
          first | refine wp_iaddN (q := 113) d_Rf_goesBus_112 rfl ?_ | refine wp_iadd (q := 113) d_Rf_goesBus_112 rfl ?_
          refine wp_iald (q := 114) d_Rf_goesBus_113 rfl (rfl) (by omega) (by decide) ?_
          simp (disch := omega) only [upd_ne, upd_eq]
          refine wp_iconst (q := 115) d_Rf_goesBus_114 rfl ic_2 ?_
          refine wp_idiv (q := 116) d_Rf_goesBus_115 rfl (by decide) ?_
          refine wp_goto (tgt := 120) d_Rf_goesBus_116 (by decide) ?_
          refine wp_istore_n (q := 121) (L2 := [(2, _), (0, _), (1, _)]) d_Rf_goesBus_120 rfl (by decide) rfl ?_
          refine wp_aload_n (q := 122) d_Rf_goesBus_121 rfl rfl ?_
          refine wp_get (q := 125) fl_Rf_7 d_Rf_goesBus_122 rfl rfl rfl ?_
          refine wp_sipush (q := 128) d_Rf_goesBus_125 rfl sp_236 ?_
          refine wp_dup2 (q := 129) d_Rf_goesBus_128 rfl rfl rfl ?_
          refine wp_iald (q := 130) d_Rf_goesBus_129 rfl (rfl) (by omega) (by decide) ?_
          simp (disch := omega) only [upd_ne, upd_eq]
          refine wp_iload_n (q := 131) d_Rf_goesBus_130 rfl rfl ?_
          first | refine wp_iaddN (q := 132) d_Rf_goesBus_131 rfl ?_ | refine wp_iadd (q := 132) d_Rf_goesBus_131 rfl ?_
          refine wp_iast (q := 133) d_Rf_goesBus_132 rfl (rfl) (by omega) (by decide) (fr_P) ?_
          refine wp_aload_n (q := 134) d_Rf_goesBus_133 rfl rfl ?_
          refine wp_get (q := 137) fl_Rf_7 d_Rf_goesBus_134 rfl rfl rfl ?_
          refine wp_sipush (q := 140) d_Rf_goesBus_137 rfl sp_237 ?_
          refine wp_dup2 (q := 141) d_Rf_goesBus_140 rfl rfl rfl ?_
          refine wp_iald (q := 142) d_Rf_goesBus_141 rfl (rfl) (by omega) (by decide) ?_
          simp (disch := omega) only [upd_ne, upd_eq]
          refine wp_aload_n (q := 143) d_Rf_goesBus_142 rfl rfl ?_
          refine wp_get (q := 146) fl_Rf_7 d_Rf_goesBus_143 rfl rfl rfl ?_
          refine wp_bipush (q := 148) d_Rf_goesBus_146 rfl bp_120 ?_
          refine wp_iload_n (q := 149) d_Rf_goesBus_148 rfl rfl ?_
          first | refine wp_iaddN (q := 150) d_Rf_goesBus_149 rfl ?_ | refine wp_iadd (q := 150) d_Rf_goesBus_149 rfl ?_
          refine wp_iald (q := 151) d_Rf_goesBus_150 rfl (rfl) (by omega) (by decide) ?_
          simp (disch := omega) only [upd_ne, upd_eq]
          refine wp_iload_n (q := 152) d_Rf_goesBus_151 rfl rfl ?_
          refine wp_isub (q := 153) d_Rf_goesBus_152 rfl ?_
          first | refine wp_iaddN (q := 154) d_Rf_goesBus_153 rfl ?_ | refine wp_iadd (q := 154) d_Rf_goesBus_153 rfl ?_
          refine wp_iast (q := 155) d_Rf_goesBus_154 rfl (rfl) (by omega) (by decide) (fr_P) ?_
          refine wp_aload_n (q := 156) d_Rf_goesBus_155 rfl rfl ?_
          refine wp_iload_n (q := 157) d_Rf_goesBus_156 rfl rfl ?_
          refine wp_aload_n (q := 158) d_Rf_goesBus_157 rfl rfl ?_
          refine wp_get (q := 161) fl_Rf_7 d_Rf_goesBus_158 rfl rfl rfl ?_
          refine wp_sipush (q := 164) d_Rf_goesBus_161 rfl sp_156 ?_
          refine wp_iload_n (q := 165) d_Rf_goesBus_164 rfl rfl ?_
          first | refine wp_iaddN (q := 166) d_Rf_goesBus_165 rfl ?_ | refine wp_iadd (q := 166) d_Rf_goesBus_165 rfl ?_
          refine wp_iald (q := 167) d_Rf_goesBus_166 rfl (rfl) (by omega) (by decide) ?_
          simp (disch := omega) only [upd_ne, upd_eq]
          rw [ek]
          refine wp_iconst (q := 168) d_Rf_goesBus_167 rfl ic_1 ?_
          refine wp_icmp_ne_f (q := 171) (tgt := 183) d_Rf_goesBus_168 (by decide) rfl (by rw [hk1]) ?_
          refine wp_aload_n (q := 172) d_Rf_goesBus_171 rfl rfl ?_
          refine wp_get (q := 175) fl_Rf_7 d_Rf_goesBus_172 rfl rfl rfl ?_
          refine wp_bipush (q := 177) d_Rf_goesBus_175 rfl bp_84 ?_
          refine wp_iload_n (q := 178) d_Rf_goesBus_177 rfl rfl ?_
          first | refine wp_iaddN (q := 179) d_Rf_goesBus_178 rfl ?_ | refine wp_iadd (q := 179) d_Rf_goesBus_178 rfl ?_
          refine wp_iald (q := 180) d_Rf_goesBus_179 rfl (rfl) (by omega) (by decide) ?_
          refine wp_goto (tgt := 192) d_Rf_goesBus_180 (by decide) ?_
          simp (disch := omega) only [upd_ne, upd_eq]
          rw [es]
          refine wp_cv2 (q := 195) lk_Rf_170 (ro _ _ _) d_Rf_goesBus_192 rfl (Nat.le_of_ble_eq_true rfl) (rfl) rfl (Nat.zero_le _) (Nat.zero_le _) ?_
          refine ok_Rf_queuesAt hb hs ?_
          refine wp_vret d_Rf_goesBus_195 rfl (Nat.le_refl _) (Nat.le_refl _) ?_
          refine kR hK rfl ?_
          first
            | (rw [mv1, if_pos hc_10, if_pos hc_39]; exact (upd_id hc_10).symm)
            | (rw [mv1, if_pos hc_10, if_neg hc_39]; done)
            | (rw [mv1, if_neg hc_10, if_neg hc_61]; done)
            | (rw [mv1, if_neg hc_10, if_pos hc_61, if_neg hc_88]; done)
            | (rw [mv1, if_neg hc_10, if_pos hc_61, if_pos hc_88, arr]; simp only [if_pos hk1]; simp (disch := omega) only [upd_ne, upd_eq])
    · refine wp_aload_n (q := 14) d_Rf_goesBus_13 rfl rfl ?_
      refine wp_get (q := 17) fl_Rf_7 d_Rf_goesBus_14 rfl rfl rfl ?_
      refine wp_bipush (q := 19) d_Rf_goesBus_17 rfl bp_72 ?_
      refine wp_iload_n (q := 20) d_Rf_goesBus_19 rfl rfl ?_
      first | refine wp_iaddN (q := 21) d_Rf_goesBus_20 rfl ?_ | refine wp_iadd (q := 21) d_Rf_goesBus_20 rfl ?_
      refine wp_aload_n (q := 22) d_Rf_goesBus_21 rfl rfl ?_
      refine wp_get (q := 25) fl_Rf_7 d_Rf_goesBus_22 rfl rfl rfl ?_
      refine wp_sipush (q := 28) d_Rf_goesBus_25 rfl sp_234 ?_
      refine wp_iald (q := 29) d_Rf_goesBus_28 rfl (rfl) (by omega) (by decide) ?_
      refine wp_aload_n (q := 30) d_Rf_goesBus_29 rfl rfl ?_
      refine wp_get (q := 33) fl_Rf_7 d_Rf_goesBus_30 rfl rfl rfl ?_
      refine wp_sipush (q := 36) d_Rf_goesBus_33 rfl sp_144 ?_
      refine wp_iload_n (q := 37) d_Rf_goesBus_36 rfl rfl ?_
      first | refine wp_iaddN (q := 38) d_Rf_goesBus_37 rfl ?_ | refine wp_iadd (q := 38) d_Rf_goesBus_37 rfl ?_
      refine wp_iald (q := 39) d_Rf_goesBus_38 rfl (rfl) (by omega) (by decide) ?_
      refine wp_icmp_lt (q := 42) (tgt := 46) d_Rf_goesBus_39 (by decide) rfl (fun hc_39 => ?_) (fun hc_39 => ?_)
      · refine wp_iconst (q := 47) d_Rf_goesBus_46 rfl ic_4 ?_
        refine wp_iast (q := 48) d_Rf_goesBus_47 rfl (rfl) (by omega) (by decide) (fr_P) ?_
        refine wp_goto (tgt := 195) d_Rf_goesBus_48 (by decide) ?_
        refine wp_vret d_Rf_goesBus_195 rfl (Nat.le_refl _) (Nat.le_refl _) ?_
        refine kR hK rfl ?_
        first
          | (rw [mv1, if_pos hc_10, if_pos hc_39]; exact (upd_id hc_10).symm)
          | (rw [mv1, if_pos hc_10, if_neg hc_39]; done)
          | (rw [mv1, if_neg hc_10, if_neg hc_61]; done)
          | (rw [mv1, if_neg hc_10, if_pos hc_61, if_neg hc_88]; done)
          | (rw [mv1, if_neg hc_10, if_pos hc_61, if_pos hc_88, arr]; simp only [if_pos hk1]; simp (disch := omega) only [upd_ne, upd_eq])
      · refine wp_iconst (q := 43) d_Rf_goesBus_42 rfl ic_3 ?_
        refine wp_goto (tgt := 47) d_Rf_goesBus_43 (by decide) ?_
        refine wp_iast (q := 48) d_Rf_goesBus_47 rfl (rfl) (by omega) (by decide) (fr_P) ?_
        refine wp_goto (tgt := 195) d_Rf_goesBus_48 (by decide) ?_
        refine wp_vret d_Rf_goesBus_195 rfl (Nat.le_refl _) (Nat.le_refl _) ?_
        refine kR hK rfl ?_
        first
          | (rw [mv1, if_pos hc_10, if_pos hc_39]; exact (upd_id hc_10).symm)
          | (rw [mv1, if_pos hc_10, if_neg hc_39]; done)
          | (rw [mv1, if_neg hc_10, if_neg hc_61]; done)
          | (rw [mv1, if_neg hc_10, if_pos hc_61, if_neg hc_88]; done)
          | (rw [mv1, if_neg hc_10, if_pos hc_61, if_pos hc_88, arr]; simp only [if_pos hk1]; simp (disch := omega) only [upd_ne, upd_eq])
  · skip
    refine wp_aload_n (q := 1) d_Rf_goesBus_0 rfl rfl ?_
    refine wp_get (q := 4) fl_Rf_7 d_Rf_goesBus_1 rfl rfl rfl ?_
    refine wp_bipush (q := 6) d_Rf_goesBus_4 rfl bp_72 ?_
    refine wp_iload_n (q := 7) d_Rf_goesBus_6 rfl rfl ?_
    first | refine wp_iaddN (q := 8) d_Rf_goesBus_7 rfl ?_ | refine wp_iadd (q := 8) d_Rf_goesBus_7 rfl ?_
    refine wp_iald (q := 9) d_Rf_goesBus_8 rfl (rfl) (by omega) (by decide) ?_
    refine wp_iconst (q := 10) d_Rf_goesBus_9 rfl ic_4 ?_
    refine wp_icmp_ne (q := 13) (tgt := 51) d_Rf_goesBus_10 (by decide) rfl (fun hc_10 => ?_) (fun hc_10 => ?_)
    · refine wp_aload_n (q := 52) d_Rf_goesBus_51 rfl rfl ?_
      refine wp_get (q := 55) fl_Rf_7 d_Rf_goesBus_52 rfl rfl rfl ?_
      refine wp_bipush (q := 57) d_Rf_goesBus_55 rfl bp_72 ?_
      refine wp_iload_n (q := 58) d_Rf_goesBus_57 rfl rfl ?_
      first | refine wp_iaddN (q := 59) d_Rf_goesBus_58 rfl ?_ | refine wp_iadd (q := 59) d_Rf_goesBus_58 rfl ?_
      refine wp_iald (q := 60) d_Rf_goesBus_59 rfl (rfl) (by omega) (by decide) ?_
      refine wp_iconst (q := 61) d_Rf_goesBus_60 rfl ic_3 ?_
      refine wp_icmp_ne (q := 64) (tgt := 195) d_Rf_goesBus_61 (by decide) rfl (fun hc_61 => ?_) (fun hc_61 => ?_)
      · refine wp_vret d_Rf_goesBus_195 rfl (Nat.le_refl _) (Nat.le_refl _) ?_
        refine kR hK rfl ?_
        first
          | (rw [mv1, if_pos hc_10, if_pos hc_39]; exact (upd_id hc_10).symm)
          | (rw [mv1, if_pos hc_10, if_neg hc_39]; done)
          | (rw [mv1, if_neg hc_10, if_neg hc_61]; done)
          | (rw [mv1, if_neg hc_10, if_pos hc_61, if_neg hc_88]; done)
          | (rw [mv1, if_neg hc_10, if_pos hc_61, if_pos hc_88, arr]; simp only [if_neg hk1]; simp (disch := omega) only [upd_ne, upd_eq])
      · refine wp_aload_n (q := 65) d_Rf_goesBus_64 rfl rfl ?_
        refine wp_get (q := 68) fl_Rf_7 d_Rf_goesBus_65 rfl rfl rfl ?_
        refine wp_sipush (q := 71) d_Rf_goesBus_68 rfl sp_132 ?_
        refine wp_iload_n (q := 72) d_Rf_goesBus_71 rfl rfl ?_
        first | refine wp_iaddN (q := 73) d_Rf_goesBus_72 rfl ?_ | refine wp_iadd (q := 73) d_Rf_goesBus_72 rfl ?_
        refine wp_dup2 (q := 74) d_Rf_goesBus_73 rfl rfl rfl ?_
        refine wp_iald (q := 75) d_Rf_goesBus_74 rfl (rfl) (by omega) (by decide) ?_
        refine wp_iconst (q := 76) d_Rf_goesBus_75 rfl ic_1 ?_
        refine wp_isub (q := 77) d_Rf_goesBus_76 rfl ?_
        refine wp_iast (q := 78) d_Rf_goesBus_77 rfl (rfl) (by omega) (by decide) (fr_P) ?_
        refine wp_aload_n (q := 79) d_Rf_goesBus_78 rfl rfl ?_
        refine wp_get (q := 82) fl_Rf_7 d_Rf_goesBus_79 rfl rfl rfl ?_
        refine wp_sipush (q := 85) d_Rf_goesBus_82 rfl sp_132 ?_
        refine wp_iload_n (q := 86) d_Rf_goesBus_85 rfl rfl ?_
        first | refine wp_iaddN (q := 87) d_Rf_goesBus_86 rfl ?_ | refine wp_iadd (q := 87) d_Rf_goesBus_86 rfl ?_
        refine wp_iald (q := 88) d_Rf_goesBus_87 rfl (rfl) (by omega) (by decide) ?_
        simp (disch := omega) only [upd_ne, upd_eq]
        refine wp_if_ne (q := 91) (tgt := 195) d_Rf_goesBus_88 (by decide) rfl (fun hc_88 => ?_) (fun hc_88 => ?_)
        · refine wp_vret d_Rf_goesBus_195 rfl (Nat.le_refl _) (Nat.le_refl _) ?_
          refine kR hK rfl ?_
          first
            | (rw [mv1, if_pos hc_10, if_pos hc_39]; exact (upd_id hc_10).symm)
            | (rw [mv1, if_pos hc_10, if_neg hc_39]; done)
            | (rw [mv1, if_neg hc_10, if_neg hc_61]; done)
            | (rw [mv1, if_neg hc_10, if_pos hc_61, if_neg hc_88]; done)
            | (rw [mv1, if_neg hc_10, if_pos hc_61, if_pos hc_88, arr]; simp only [if_neg hk1]; simp (disch := omega) only [upd_ne, upd_eq])
        · refine wp_aload_n (q := 92) d_Rf_goesBus_91 rfl rfl ?_
          refine wp_get (q := 95) fl_Rf_7 d_Rf_goesBus_92 rfl rfl rfl ?_
          refine wp_sipush (q := 98) d_Rf_goesBus_95 rfl sp_156 ?_
          refine wp_iload_n (q := 99) d_Rf_goesBus_98 rfl rfl ?_
          first | refine wp_iaddN (q := 100) d_Rf_goesBus_99 rfl ?_ | refine wp_iadd (q := 100) d_Rf_goesBus_99 rfl ?_
          refine wp_iald (q := 101) d_Rf_goesBus_100 rfl (rfl) (by omega) (by decide) ?_
          simp (disch := omega) only [upd_ne, upd_eq]
          rw [ek]
          refine wp_iconst (q := 102) d_Rf_goesBus_101 rfl ic_1 ?_
          refine wp_icmp_ne_t (tgt := 119) d_Rf_goesBus_102 (by decide) (fun z => hk1 ((nI_eq (by omega) (by decide)).mp z)) ?_
          refine wp_iconst (q := 120) d_Rf_goesBus_119 rfl ic_0 ?_
          refine wp_istore_n (q := 121) (L2 := [(2, _), (0, _), (1, _)]) d_Rf_goesBus_120 rfl (by decide) rfl ?_
          refine wp_aload_n (q := 122) d_Rf_goesBus_121 rfl rfl ?_
          refine wp_get (q := 125) fl_Rf_7 d_Rf_goesBus_122 rfl rfl rfl ?_
          refine wp_sipush (q := 128) d_Rf_goesBus_125 rfl sp_236 ?_
          refine wp_dup2 (q := 129) d_Rf_goesBus_128 rfl rfl rfl ?_
          refine wp_iald (q := 130) d_Rf_goesBus_129 rfl (rfl) (by omega) (by decide) ?_
          simp (disch := omega) only [upd_ne, upd_eq]
          refine wp_iload_n (q := 131) d_Rf_goesBus_130 rfl rfl ?_
          first | refine wp_iaddN (q := 132) d_Rf_goesBus_131 rfl ?_ | refine wp_iadd (q := 132) d_Rf_goesBus_131 rfl ?_
          refine wp_iast (q := 133) d_Rf_goesBus_132 rfl (rfl) (by omega) (by decide) (fr_P) ?_
          refine wp_aload_n (q := 134) d_Rf_goesBus_133 rfl rfl ?_
          refine wp_get (q := 137) fl_Rf_7 d_Rf_goesBus_134 rfl rfl rfl ?_
          refine wp_sipush (q := 140) d_Rf_goesBus_137 rfl sp_237 ?_
          refine wp_dup2 (q := 141) d_Rf_goesBus_140 rfl rfl rfl ?_
          refine wp_iald (q := 142) d_Rf_goesBus_141 rfl (rfl) (by omega) (by decide) ?_
          simp (disch := omega) only [upd_ne, upd_eq]
          refine wp_aload_n (q := 143) d_Rf_goesBus_142 rfl rfl ?_
          refine wp_get (q := 146) fl_Rf_7 d_Rf_goesBus_143 rfl rfl rfl ?_
          refine wp_bipush (q := 148) d_Rf_goesBus_146 rfl bp_120 ?_
          refine wp_iload_n (q := 149) d_Rf_goesBus_148 rfl rfl ?_
          first | refine wp_iaddN (q := 150) d_Rf_goesBus_149 rfl ?_ | refine wp_iadd (q := 150) d_Rf_goesBus_149 rfl ?_
          refine wp_iald (q := 151) d_Rf_goesBus_150 rfl (rfl) (by omega) (by decide) ?_
          simp (disch := omega) only [upd_ne, upd_eq]
          refine wp_iload_n (q := 152) d_Rf_goesBus_151 rfl rfl ?_
          refine wp_isub (q := 153) d_Rf_goesBus_152 rfl ?_
          first | refine wp_iaddN (q := 154) d_Rf_goesBus_153 rfl ?_ | refine wp_iadd (q := 154) d_Rf_goesBus_153 rfl ?_
          refine wp_iast (q := 155) d_Rf_goesBus_154 rfl (rfl) (by omega) (by decide) (fr_P) ?_
          refine wp_aload_n (q := 156) d_Rf_goesBus_155 rfl rfl ?_
          refine wp_iload_n (q := 157) d_Rf_goesBus_156 rfl rfl ?_
          refine wp_aload_n (q := 158) d_Rf_goesBus_157 rfl rfl ?_
          refine wp_get (q := 161) fl_Rf_7 d_Rf_goesBus_158 rfl rfl rfl ?_
          refine wp_sipush (q := 164) d_Rf_goesBus_161 rfl sp_156 ?_
          refine wp_iload_n (q := 165) d_Rf_goesBus_164 rfl rfl ?_
          first | refine wp_iaddN (q := 166) d_Rf_goesBus_165 rfl ?_ | refine wp_iadd (q := 166) d_Rf_goesBus_165 rfl ?_
          refine wp_iald (q := 167) d_Rf_goesBus_166 rfl (rfl) (by omega) (by decide) ?_
          simp (disch := omega) only [upd_ne, upd_eq]
          rw [ek]
          refine wp_iconst (q := 168) d_Rf_goesBus_167 rfl ic_1 ?_
          refine wp_icmp_ne_t (tgt := 183) d_Rf_goesBus_168 (by decide) (fun z => hk1 ((nI_eq (by omega) (by decide)).mp z)) ?_
          refine wp_aload_n (q := 184) d_Rf_goesBus_183 rfl rfl ?_
          refine wp_get (q := 187) fl_Rf_7 d_Rf_goesBus_184 rfl rfl rfl ?_
          refine wp_bipush (q := 189) d_Rf_goesBus_187 rfl bp_108 ?_
          refine wp_iload_n (q := 190) d_Rf_goesBus_189 rfl rfl ?_
          first | refine wp_iaddN (q := 191) d_Rf_goesBus_190 rfl ?_ | refine wp_iadd (q := 191) d_Rf_goesBus_190 rfl ?_
          refine wp_iald (q := 192) d_Rf_goesBus_191 rfl (rfl) (by omega) (by decide) ?_
          simp (disch := omega) only [upd_ne, upd_eq]
          rw [ea]
          refine wp_cv2 (q := 195) lk_Rf_170 (ro _ _ _) d_Rf_goesBus_192 rfl (Nat.le_of_ble_eq_true rfl) (rfl) rfl (Nat.zero_le _) (Nat.zero_le _) ?_
          refine ok_Rf_queuesAt hb ha ?_
          refine wp_vret d_Rf_goesBus_195 rfl (Nat.le_refl _) (Nat.le_refl _) ?_
          refine kR hK rfl ?_
          first
            | (rw [mv1, if_pos hc_10, if_pos hc_39]; exact (upd_id hc_10).symm)
            | (rw [mv1, if_pos hc_10, if_neg hc_39]; done)
            | (rw [mv1, if_neg hc_10, if_neg hc_61]; done)
            | (rw [mv1, if_neg hc_10, if_pos hc_61, if_neg hc_88]; done)
            | (rw [mv1, if_neg hc_10, if_pos hc_61, if_pos hc_88, arr]; simp only [if_neg hk1]; simp (disch := omega) only [upd_ne, upd_eq])
    · refine wp_aload_n (q := 14) d_Rf_goesBus_13 rfl rfl ?_
      refine wp_get (q := 17) fl_Rf_7 d_Rf_goesBus_14 rfl rfl rfl ?_
      refine wp_bipush (q := 19) d_Rf_goesBus_17 rfl bp_72 ?_
      refine wp_iload_n (q := 20) d_Rf_goesBus_19 rfl rfl ?_
      first | refine wp_iaddN (q := 21) d_Rf_goesBus_20 rfl ?_ | refine wp_iadd (q := 21) d_Rf_goesBus_20 rfl ?_
      refine wp_aload_n (q := 22) d_Rf_goesBus_21 rfl rfl ?_
      refine wp_get (q := 25) fl_Rf_7 d_Rf_goesBus_22 rfl rfl rfl ?_
      refine wp_sipush (q := 28) d_Rf_goesBus_25 rfl sp_234 ?_
      refine wp_iald (q := 29) d_Rf_goesBus_28 rfl (rfl) (by omega) (by decide) ?_
      refine wp_aload_n (q := 30) d_Rf_goesBus_29 rfl rfl ?_
      refine wp_get (q := 33) fl_Rf_7 d_Rf_goesBus_30 rfl rfl rfl ?_
      refine wp_sipush (q := 36) d_Rf_goesBus_33 rfl sp_144 ?_
      refine wp_iload_n (q := 37) d_Rf_goesBus_36 rfl rfl ?_
      first | refine wp_iaddN (q := 38) d_Rf_goesBus_37 rfl ?_ | refine wp_iadd (q := 38) d_Rf_goesBus_37 rfl ?_
      refine wp_iald (q := 39) d_Rf_goesBus_38 rfl (rfl) (by omega) (by decide) ?_
      refine wp_icmp_lt (q := 42) (tgt := 46) d_Rf_goesBus_39 (by decide) rfl (fun hc_39 => ?_) (fun hc_39 => ?_)
      · refine wp_iconst (q := 47) d_Rf_goesBus_46 rfl ic_4 ?_
        refine wp_iast (q := 48) d_Rf_goesBus_47 rfl (rfl) (by omega) (by decide) (fr_P) ?_
        refine wp_goto (tgt := 195) d_Rf_goesBus_48 (by decide) ?_
        refine wp_vret d_Rf_goesBus_195 rfl (Nat.le_refl _) (Nat.le_refl _) ?_
        refine kR hK rfl ?_
        first
          | (rw [mv1, if_pos hc_10, if_pos hc_39]; exact (upd_id hc_10).symm)
          | (rw [mv1, if_pos hc_10, if_neg hc_39]; done)
          | (rw [mv1, if_neg hc_10, if_neg hc_61]; done)
          | (rw [mv1, if_neg hc_10, if_pos hc_61, if_neg hc_88]; done)
          | (rw [mv1, if_neg hc_10, if_pos hc_61, if_pos hc_88, arr]; simp only [if_neg hk1]; simp (disch := omega) only [upd_ne, upd_eq])
      · refine wp_iconst (q := 43) d_Rf_goesBus_42 rfl ic_3 ?_
        refine wp_goto (tgt := 47) d_Rf_goesBus_43 (by decide) ?_
        refine wp_iast (q := 48) d_Rf_goesBus_47 rfl (rfl) (by omega) (by decide) (fr_P) ?_
        refine wp_goto (tgt := 195) d_Rf_goesBus_48 (by decide) ?_
        refine wp_vret d_Rf_goesBus_195 rfl (Nat.le_refl _) (Nat.le_refl _) ?_
        refine kR hK rfl ?_
        first
          | (rw [mv1, if_pos hc_10, if_pos hc_39]; exact (upd_id hc_10).symm)
          | (rw [mv1, if_pos hc_10, if_neg hc_39]; done)
          | (rw [mv1, if_neg hc_10, if_neg hc_61]; done)
          | (rw [mv1, if_neg hc_10, if_pos hc_61, if_neg hc_88]; done)
          | (rw [mv1, if_neg hc_10, if_pos hc_61, if_pos hc_88, arr]; simp only [if_neg hk1]; simp (disch := omega) only [upd_ne, upd_eq])
theorem d_Tn_arrive_0 : decode M_Tn_arrive.2.1 0 = .ok (.aload_n 1, 1) := by decide +kernel
theorem d_Tn_arrive_1 : decode M_Tn_arrive.2.1 1 = .ok (.getfield 115, 3) := by decide +kernel
theorem d_Tn_arrive_4 : decode M_Tn_arrive.2.1 4 = .ok (.iload_n 2, 1) := by decide +kernel
theorem d_Tn_arrive_5 : decode M_Tn_arrive.2.1 5 = .ok (.aaload, 1) := by decide +kernel
theorem d_Tn_arrive_6 : decode M_Tn_arrive.2.1 6 = .ok (.astore_n 3, 1) := by decide +kernel
theorem d_Tn_arrive_7 : decode M_Tn_arrive.2.1 7 = .ok (.aload_n 0, 1) := by decide +kernel
theorem d_Tn_arrive_8 : decode M_Tn_arrive.2.1 8 = .ok (.getfield 47, 3) := by decide +kernel
theorem d_Tn_arrive_11 : decode M_Tn_arrive.2.1 11 = .ok (.aload_n 3, 1) := by decide +kernel
theorem d_Tn_arrive_12 : decode M_Tn_arrive.2.1 12 = .ok (.getfield 182, 3) := by decide +kernel
theorem d_Tn_arrive_15 : decode M_Tn_arrive.2.1 15 = .ok (.aaload, 1) := by decide +kernel
theorem d_Tn_arrive_16 : decode M_Tn_arrive.2.1 16 = .ok (.invokevirtual 239, 3) := by decide +kernel
theorem d_Tn_arrive_19 : decode M_Tn_arrive.2.1 19 = .ok (.istore 4, 2) := by decide +kernel
theorem d_Tn_arrive_21 : decode M_Tn_arrive.2.1 21 = .ok (.iload 4, 2) := by decide +kernel
theorem d_Tn_arrive_23 : decode M_Tn_arrive.2.1 23 = .ok (.ifCond .eq 12, 3) := by decide +kernel
theorem d_Tn_arrive_26 : decode M_Tn_arrive.2.1 26 = .ok (.aload_n 3, 1) := by decide +kernel
theorem d_Tn_arrive_27 : decode M_Tn_arrive.2.1 27 = .ok (.getfield 129, 3) := by decide +kernel
theorem d_Tn_arrive_30 : decode M_Tn_arrive.2.1 30 = .ok (.iconst 2, 1) := by decide +kernel
theorem d_Tn_arrive_31 : decode M_Tn_arrive.2.1 31 = .ok (.idiv, 1) := by decide +kernel
theorem d_Tn_arrive_32 : decode M_Tn_arrive.2.1 32 = .ok (.goto 4, 3) := by decide +kernel
theorem d_Tn_arrive_35 : decode M_Tn_arrive.2.1 35 = .ok (.iconst 0, 1) := by decide +kernel
theorem d_Tn_arrive_36 : decode M_Tn_arrive.2.1 36 = .ok (.istore 5, 2) := by decide +kernel
theorem d_Tn_arrive_38 : decode M_Tn_arrive.2.1 38 = .ok (.aload_n 1, 1) := by decide +kernel
theorem d_Tn_arrive_39 : decode M_Tn_arrive.2.1 39 = .ok (.dup, 1) := by decide +kernel
theorem d_Tn_arrive_40 : decode M_Tn_arrive.2.1 40 = .ok (.getfield 172, 3) := by decide +kernel
theorem d_Tn_arrive_43 : decode M_Tn_arrive.2.1 43 = .ok (.iload 5, 2) := by decide +kernel
theorem d_Tn_arrive_45 : decode M_Tn_arrive.2.1 45 = .ok (.iadd, 1) := by decide +kernel
theorem d_Tn_arrive_46 : decode M_Tn_arrive.2.1 46 = .ok (.putfield 172, 3) := by decide +kernel
theorem d_Tn_arrive_49 : decode M_Tn_arrive.2.1 49 = .ok (.aload_n 1, 1) := by decide +kernel
theorem d_Tn_arrive_50 : decode M_Tn_arrive.2.1 50 = .ok (.dup, 1) := by decide +kernel
theorem d_Tn_arrive_51 : decode M_Tn_arrive.2.1 51 = .ok (.getfield 242, 3) := by decide +kernel
theorem d_Tn_arrive_54 : decode M_Tn_arrive.2.1 54 = .ok (.aload_n 3, 1) := by decide +kernel
theorem d_Tn_arrive_55 : decode M_Tn_arrive.2.1 55 = .ok (.getfield 129, 3) := by decide +kernel
theorem d_Tn_arrive_58 : decode M_Tn_arrive.2.1 58 = .ok (.iload 5, 2) := by decide +kernel
theorem d_Tn_arrive_60 : decode M_Tn_arrive.2.1 60 = .ok (.isub, 1) := by decide +kernel
theorem d_Tn_arrive_61 : decode M_Tn_arrive.2.1 61 = .ok (.iadd, 1) := by decide +kernel
theorem d_Tn_arrive_62 : decode M_Tn_arrive.2.1 62 = .ok (.putfield 242, 3) := by decide +kernel
theorem d_Tn_arrive_65 : decode M_Tn_arrive.2.1 65 = .ok (.aload_n 1, 1) := by decide +kernel
theorem d_Tn_arrive_66 : decode M_Tn_arrive.2.1 66 = .ok (.iload_n 2, 1) := by decide +kernel
theorem d_Tn_arrive_67 : decode M_Tn_arrive.2.1 67 = .ok (.iload 4, 2) := by decide +kernel
theorem d_Tn_arrive_69 : decode M_Tn_arrive.2.1 69 = .ok (.ifCond .eq 10, 3) := by decide +kernel
theorem d_Tn_arrive_72 : decode M_Tn_arrive.2.1 72 = .ok (.aload_n 3, 1) := by decide +kernel
theorem d_Tn_arrive_73 : decode M_Tn_arrive.2.1 73 = .ok (.getfield 139, 3) := by decide +kernel
theorem d_Tn_arrive_76 : decode M_Tn_arrive.2.1 76 = .ok (.goto 7, 3) := by decide +kernel
theorem d_Tn_arrive_79 : decode M_Tn_arrive.2.1 79 = .ok (.aload_n 3, 1) := by decide +kernel
theorem d_Tn_arrive_80 : decode M_Tn_arrive.2.1 80 = .ok (.getfield 215, 3) := by decide +kernel
theorem d_Tn_arrive_83 : decode M_Tn_arrive.2.1 83 = .ok (.invokevirtual 245, 3) := by decide +kernel
theorem d_Tn_arrive_86 : decode M_Tn_arrive.2.1 86 = .ok (.pop, 1) := by decide +kernel
theorem d_Tn_arrive_87 : decode M_Tn_arrive.2.1 87 = .ok (.return_, 1) := by decide +kernel
set_option maxHeartbeats 4000000 in
set_option maxRecDepth 100000 in
theorem ok_Tn_arrive {D : xD} {N : Nat} {l : Launch} {d : Nat} {c x V : T2} {P : Nat → Int32} {w : Nat} {ln df : Nat → Option Nat} {rest : List va_E} {K : Option Value → List va_E → Prop} (hw : w < 3) {b kd s a : Nat} (hb : b < 12) (ek : P (156 + b) = nI kd) (hk : kd < 6) (es : P (84 + b) = nI s) (hs : s < 6) (ea : P (108 + b) = nI a) (ha : a < 6) (hK : K none (encC D N c x (va_up V w (arr P b kd s a)) ln df ++ rest)) : Ok D N l (d + 2) M_Tn_arrive [.ref (N + 1), .ref (N + wA w), .int (nI b)] (encC D N c x (va_up V w P) ln df ++ rest) 0 0 K := by
  refine ok_of (L := [(0, _), (1, _), (2, _)]) (by decide) (Nat.le_of_ble_eq_true rfl) rfl ?_
  by_cases hk1 : kd = 1
  · skip
    refine wp_aload_n (q := 1) d_Tn_arrive_0 rfl rfl ?_
    refine wp_get (q := 4) fl_Tn_115 d_Tn_arrive_1 rfl (rdO (w := w) hw) rfl ?_
    refine wp_iload_n (q := 5) d_Tn_arrive_4 rfl rfl ?_
    refine wp_aldR (q := 6) d_Tn_arrive_5 rfl (rd4 (w := w) hw) (by omega) (by decide) (rowsW_at (by omega)) ?_
    refine wp_astore_n (q := 7) (L2 := [(3, _), (0, _), (1, _), (2, _)]) d_Tn_arrive_6 rfl (by decide) rfl ?_
    refine wp_aload_n (q := 8) d_Tn_arrive_7 rfl rfl ?_
    refine wp_get (q := 11) fl_Tn_47 d_Tn_arrive_8 rfl rfl rfl ?_
    refine wp_aload_n (q := 12) d_Tn_arrive_11 rfl rfl ?_
    refine wp_get (q := 15) fl_Tn_182 d_Tn_arrive_12 rfl (rdR (w := w) hw hb) rfl ?_
    rw [ek]
    refine wp_aldK (q := 16) d_Tn_arrive_15 rfl (rfl) (by omega) (by decide) (rows_at (by omega)) ?_
    refine wp_v_turnsBack lm_Tn_239 (ro _ _ _) d_Tn_arrive_16 rfl (Nat.le_of_ble_eq_true rfl) hk (rdK hk) (Nat.zero_le _) (Nat.zero_le _) ?_
    rw [show kTurn kd = nI 1 from if_pos hk1]
    refine wp_istore (q := 21) (L2 := [(4, _), (3, _), (0, _), (1, _), (2, _)]) d_Tn_arrive_19 rfl (by decide) rfl ?_
    refine wp_iload (q := 23) d_Tn_arrive_21 rfl rfl ?_
    refine wp_if_eq_f (q := 26) (tgt := 35) d_Tn_arrive_23 (by decide) rfl (by decide) ?_
    refine wp_aload_n (q := 27) d_Tn_arrive_26 rfl rfl ?_
    refine wp_get (q := 30) fl_Tn_129 d_Tn_arrive_27 rfl (rdR (w := w) hw hb) rfl ?_
    refine wp_iconst (q := 31) d_Tn_arrive_30 rfl ic_2 ?_
    refine wp_idiv (q := 32) d_Tn_arrive_31 rfl (by decide) ?_
    refine wp_goto (tgt := 36) d_Tn_arrive_32 (by decide) ?_
    refine wp_istore (q := 38) (L2 := [(5, _), (4, _), (3, _), (0, _), (1, _), (2, _)]) d_Tn_arrive_36 rfl (by decide) rfl ?_
    refine wp_aload_n (q := 39) d_Tn_arrive_38 rfl rfl ?_
    refine wp_dup (q := 40) d_Tn_arrive_39 rfl rfl ?_
    refine wp_get (q := 43) fl_Tn_172 d_Tn_arrive_40 rfl (rdO (w := w) hw) rfl ?_
    refine wp_iload (q := 45) d_Tn_arrive_43 rfl rfl ?_
    first | refine wp_iaddN (q := 46) d_Tn_arrive_45 rfl ?_ | refine wp_iadd (q := 46) d_Tn_arrive_45 rfl ?_
    refine wp_put (q := 49) fl_Tn_172 d_Tn_arrive_46 rfl (rdO (w := w) hw) (Nat.le_of_ble_eq_true rfl) rfl rfl (fdw (w := w) (i := 0) hw (by decide) ws_o2) ?_
    refine wp_aload_n (q := 50) d_Tn_arrive_49 rfl rfl ?_
    refine wp_dup (q := 51) d_Tn_arrive_50 rfl rfl ?_
    refine wp_get (q := 54) fl_Tn_242 d_Tn_arrive_51 rfl (rdO (w := w) hw) rfl ?_
    try simp (disch := omega) only [upd_ne, upd_eq]
    refine wp_aload_n (q := 55) d_Tn_arrive_54 rfl rfl ?_
    refine wp_get (q := 58) fl_Tn_129 d_Tn_arrive_55 rfl (rdR (w := w) hw hb) rfl ?_
    try simp (disch := omega) only [upd_ne, upd_eq]
    refine wp_iload (q := 60) d_Tn_arrive_58 rfl rfl ?_
    refine wp_isub (q := 61) d_Tn_arrive_60 rfl ?_
    first | refine wp_iaddN (q := 62) d_Tn_arrive_61 rfl ?_ | refine wp_iadd (q := 62) d_Tn_arrive_61 rfl ?_
    refine wp_put (q := 65) fl_Tn_242 d_Tn_arrive_62 rfl (rdO (w := w) hw) (Nat.le_of_ble_eq_true rfl) rfl rfl (fdw (w := w) (i := 0) hw (by decide) ws_o3) ?_
    refine wp_aload_n (q := 66) d_Tn_arrive_65 rfl rfl ?_
    refine wp_iload_n (q := 67) d_Tn_arrive_66 rfl rfl ?_
    refine wp_iload (q := 69) d_Tn_arrive_67 rfl rfl ?_
    refine wp_if_eq_f (q := 72) (tgt := 79) d_Tn_arrive_69 (by decide) rfl (by decide) ?_
    refine wp_aload_n (q := 73) d_Tn_arrive_72 rfl rfl ?_
    refine wp_get (q := 76) fl_Tn_139 d_Tn_arrive_73 rfl (rdR (w := w) hw hb) rfl ?_
    refine wp_goto (tgt := 83) d_Tn_arrive_76 (by decide) ?_
    try simp (disch := omega) only [upd_ne, upd_eq]
    rw [es]
    refine wp_cv2 (q := 86) lk_Tn_245 (ro _ _ _) d_Tn_arrive_83 rfl (Nat.le_of_ble_eq_true rfl) (rdO (w := w) hw) rfl (Nat.zero_le _) (Nat.zero_le _) ?_
    refine ok_Wd_lineUp (w := w) hw hb hs ?_
    refine wp_pop (q := 87) d_Tn_arrive_86 rfl rfl ?_
    refine wp_vret d_Tn_arrive_87 rfl (Nat.le_refl _) (Nat.le_refl _) ?_
    simp only [arr, if_pos hk1] at hK
    first | exact hK | (refine kP hK rfl ?_; simp (disch := omega) only [upd_ne, upd_eq])
  · skip
    refine wp_aload_n (q := 1) d_Tn_arrive_0 rfl rfl ?_
    refine wp_get (q := 4) fl_Tn_115 d_Tn_arrive_1 rfl (rdO (w := w) hw) rfl ?_
    refine wp_iload_n (q := 5) d_Tn_arrive_4 rfl rfl ?_
    refine wp_aldR (q := 6) d_Tn_arrive_5 rfl (rd4 (w := w) hw) (by omega) (by decide) (rowsW_at (by omega)) ?_
    refine wp_astore_n (q := 7) (L2 := [(3, _), (0, _), (1, _), (2, _)]) d_Tn_arrive_6 rfl (by decide) rfl ?_
    refine wp_aload_n (q := 8) d_Tn_arrive_7 rfl rfl ?_
    refine wp_get (q := 11) fl_Tn_47 d_Tn_arrive_8 rfl rfl rfl ?_
    refine wp_aload_n (q := 12) d_Tn_arrive_11 rfl rfl ?_
    refine wp_get (q := 15) fl_Tn_182 d_Tn_arrive_12 rfl (rdR (w := w) hw hb) rfl ?_
    rw [ek]
    refine wp_aldK (q := 16) d_Tn_arrive_15 rfl (rfl) (by omega) (by decide) (rows_at (by omega)) ?_
    refine wp_v_turnsBack lm_Tn_239 (ro _ _ _) d_Tn_arrive_16 rfl (Nat.le_of_ble_eq_true rfl) hk (rdK hk) (Nat.zero_le _) (Nat.zero_le _) ?_
    rw [show kTurn kd = nI 0 from if_neg hk1]
    refine wp_istore (q := 21) (L2 := [(4, _), (3, _), (0, _), (1, _), (2, _)]) d_Tn_arrive_19 rfl (by decide) rfl ?_
    refine wp_iload (q := 23) d_Tn_arrive_21 rfl rfl ?_
    refine wp_if_eq_t (tgt := 35) d_Tn_arrive_23 (by decide) (by decide) ?_
    refine wp_iconst (q := 36) d_Tn_arrive_35 rfl ic_0 ?_
    refine wp_istore (q := 38) (L2 := [(5, _), (4, _), (3, _), (0, _), (1, _), (2, _)]) d_Tn_arrive_36 rfl (by decide) rfl ?_
    refine wp_aload_n (q := 39) d_Tn_arrive_38 rfl rfl ?_
    refine wp_dup (q := 40) d_Tn_arrive_39 rfl rfl ?_
    refine wp_get (q := 43) fl_Tn_172 d_Tn_arrive_40 rfl (rdO (w := w) hw) rfl ?_
    refine wp_iload (q := 45) d_Tn_arrive_43 rfl rfl ?_
    first | refine wp_iaddN (q := 46) d_Tn_arrive_45 rfl ?_ | refine wp_iadd (q := 46) d_Tn_arrive_45 rfl ?_
    refine wp_put (q := 49) fl_Tn_172 d_Tn_arrive_46 rfl (rdO (w := w) hw) (Nat.le_of_ble_eq_true rfl) rfl rfl (fdw (w := w) (i := 0) hw (by decide) ws_o2) ?_
    refine wp_aload_n (q := 50) d_Tn_arrive_49 rfl rfl ?_
    refine wp_dup (q := 51) d_Tn_arrive_50 rfl rfl ?_
    refine wp_get (q := 54) fl_Tn_242 d_Tn_arrive_51 rfl (rdO (w := w) hw) rfl ?_
    try simp (disch := omega) only [upd_ne, upd_eq]
    refine wp_aload_n (q := 55) d_Tn_arrive_54 rfl rfl ?_
    refine wp_get (q := 58) fl_Tn_129 d_Tn_arrive_55 rfl (rdR (w := w) hw hb) rfl ?_
    try simp (disch := omega) only [upd_ne, upd_eq]
    refine wp_iload (q := 60) d_Tn_arrive_58 rfl rfl ?_
    refine wp_isub (q := 61) d_Tn_arrive_60 rfl ?_
    first | refine wp_iaddN (q := 62) d_Tn_arrive_61 rfl ?_ | refine wp_iadd (q := 62) d_Tn_arrive_61 rfl ?_
    refine wp_put (q := 65) fl_Tn_242 d_Tn_arrive_62 rfl (rdO (w := w) hw) (Nat.le_of_ble_eq_true rfl) rfl rfl (fdw (w := w) (i := 0) hw (by decide) ws_o3) ?_
    refine wp_aload_n (q := 66) d_Tn_arrive_65 rfl rfl ?_
    refine wp_iload_n (q := 67) d_Tn_arrive_66 rfl rfl ?_
    refine wp_iload (q := 69) d_Tn_arrive_67 rfl rfl ?_
    refine wp_if_eq_t (tgt := 79) d_Tn_arrive_69 (by decide) (by decide) ?_
    refine wp_aload_n (q := 80) d_Tn_arrive_79 rfl rfl ?_
    refine wp_get (q := 83) fl_Tn_215 d_Tn_arrive_80 rfl (rdR (w := w) hw hb) rfl ?_
    try simp (disch := omega) only [upd_ne, upd_eq]
    rw [ea]
    refine wp_cv2 (q := 86) lk_Tn_245 (ro _ _ _) d_Tn_arrive_83 rfl (Nat.le_of_ble_eq_true rfl) (rdO (w := w) hw) rfl (Nat.zero_le _) (Nat.zero_le _) ?_
    refine ok_Wd_lineUp (w := w) hw hb ha ?_
    refine wp_pop (q := 87) d_Tn_arrive_86 rfl rfl ?_
    refine wp_vret d_Tn_arrive_87 rfl (Nat.le_refl _) (Nat.le_refl _) ?_
    simp only [arr, if_neg hk1] at hK
    first | exact hK | (refine kP hK rfl ?_; simp (disch := omega) only [upd_ne, upd_eq])
theorem d_Tn_move_0 : decode M_Tn_move.2.1 0 = .ok (.aload_n 1, 1) := by decide +kernel
theorem d_Tn_move_1 : decode M_Tn_move.2.1 1 = .ok (.getfield 115, 3) := by decide +kernel
theorem d_Tn_move_4 : decode M_Tn_move.2.1 4 = .ok (.iload_n 2, 1) := by decide +kernel
theorem d_Tn_move_5 : decode M_Tn_move.2.1 5 = .ok (.aaload, 1) := by decide +kernel
theorem d_Tn_move_6 : decode M_Tn_move.2.1 6 = .ok (.astore_n 3, 1) := by decide +kernel
theorem d_Tn_move_7 : decode M_Tn_move.2.1 7 = .ok (.aload_n 3, 1) := by decide +kernel
theorem d_Tn_move_8 : decode M_Tn_move.2.1 8 = .ok (.getfield 212, 3) := by decide +kernel
theorem d_Tn_move_11 : decode M_Tn_move.2.1 11 = .ok (.iconst 4, 1) := by decide +kernel
theorem d_Tn_move_12 : decode M_Tn_move.2.1 12 = .ok (.if_icmp .ne 22, 3) := by decide +kernel
theorem d_Tn_move_15 : decode M_Tn_move.2.1 15 = .ok (.aload_n 1, 1) := by decide +kernel
theorem d_Tn_move_16 : decode M_Tn_move.2.1 16 = .ok (.getfield 121, 3) := by decide +kernel
theorem d_Tn_move_19 : decode M_Tn_move.2.1 19 = .ok (.aload_n 3, 1) := by decide +kernel
theorem d_Tn_move_20 : decode M_Tn_move.2.1 20 = .ok (.getfield 124, 3) := by decide +kernel
theorem d_Tn_move_23 : decode M_Tn_move.2.1 23 = .ok (.if_icmp .lt 11, 3) := by decide +kernel
theorem d_Tn_move_26 : decode M_Tn_move.2.1 26 = .ok (.aload_n 3, 1) := by decide +kernel
theorem d_Tn_move_27 : decode M_Tn_move.2.1 27 = .ok (.iconst 3, 1) := by decide +kernel
theorem d_Tn_move_28 : decode M_Tn_move.2.1 28 = .ok (.putfield 212, 3) := by decide +kernel
theorem d_Tn_move_31 : decode M_Tn_move.2.1 31 = .ok (.goto 34, 3) := by decide +kernel
theorem d_Tn_move_34 : decode M_Tn_move.2.1 34 = .ok (.aload_n 3, 1) := by decide +kernel
theorem d_Tn_move_35 : decode M_Tn_move.2.1 35 = .ok (.getfield 212, 3) := by decide +kernel
theorem d_Tn_move_38 : decode M_Tn_move.2.1 38 = .ok (.iconst 3, 1) := by decide +kernel
theorem d_Tn_move_39 : decode M_Tn_move.2.1 39 = .ok (.if_icmp .ne 26, 3) := by decide +kernel
theorem d_Tn_move_42 : decode M_Tn_move.2.1 42 = .ok (.aload_n 3, 1) := by decide +kernel
theorem d_Tn_move_43 : decode M_Tn_move.2.1 43 = .ok (.dup, 1) := by decide +kernel
theorem d_Tn_move_44 : decode M_Tn_move.2.1 44 = .ok (.getfield 224, 3) := by decide +kernel
theorem d_Tn_move_47 : decode M_Tn_move.2.1 47 = .ok (.iconst 1, 1) := by decide +kernel
theorem d_Tn_move_48 : decode M_Tn_move.2.1 48 = .ok (.isub, 1) := by decide +kernel
theorem d_Tn_move_49 : decode M_Tn_move.2.1 49 = .ok (.putfield 224, 3) := by decide +kernel
theorem d_Tn_move_52 : decode M_Tn_move.2.1 52 = .ok (.aload_n 3, 1) := by decide +kernel
theorem d_Tn_move_53 : decode M_Tn_move.2.1 53 = .ok (.getfield 224, 3) := by decide +kernel
theorem d_Tn_move_56 : decode M_Tn_move.2.1 56 = .ok (.ifCond .gt 9, 3) := by decide +kernel
theorem d_Tn_move_59 : decode M_Tn_move.2.1 59 = .ok (.aload_n 0, 1) := by decide +kernel
theorem d_Tn_move_60 : decode M_Tn_move.2.1 60 = .ok (.aload_n 1, 1) := by decide +kernel
theorem d_Tn_move_61 : decode M_Tn_move.2.1 61 = .ok (.iload_n 2, 1) := by decide +kernel
theorem d_Tn_move_62 : decode M_Tn_move.2.1 62 = .ok (.invokevirtual 236, 3) := by decide +kernel
theorem d_Tn_move_65 : decode M_Tn_move.2.1 65 = .ok (.return_, 1) := by decide +kernel
set_option maxHeartbeats 4000000 in
set_option maxRecDepth 100000 in
theorem ok_Tn_move {D : xD} {N : Nat} {l : Launch} {d : Nat} {c x V : T2} {P : Nat → Int32} {w : Nat} {ln df : Nat → Option Nat} {rest : List va_E} {K : Option Value → List va_E → Prop} (hw : w < 3) {b kd s a : Nat} (hb : b < 12) (ek : P (156 + b) = nI kd) (hk : kd < 6) (es : P (84 + b) = nI s) (hs : s < 6) (ea : P (108 + b) = nI a) (ha : a < 6) (hl0 : P (72 + b) = nI 3 → ¬ 0 < P (132 + b) - nI 1 → P (132 + b) - nI 1 = 0) (hK : K none (encC D N c x (va_up V w (mv1 P b kd s a)) ln df ++ rest)) : Ok D N l (d + 3) M_Tn_move [.ref (N + 1), .ref (N + wA w), .int (nI b)] (encC D N c x (va_up V w P) ln df ++ rest) 0 0 K := by
  refine ok_of (L := [(0, _), (1, _), (2, _)]) (by decide) (Nat.le_of_ble_eq_true rfl) rfl ?_
  by_cases hc_12 : P (72 + b) = nI 4
  · skip
    refine wp_aload_n (q := 1) d_Tn_move_0 rfl rfl ?_
    refine wp_get (q := 4) fl_Tn_115 d_Tn_move_1 rfl (rdO (w := w) hw) rfl ?_
    refine wp_iload_n (q := 5) d_Tn_move_4 rfl rfl ?_
    refine wp_aldR (q := 6) d_Tn_move_5 rfl (rd4 (w := w) hw) (by omega) (by decide) (rowsW_at (by omega)) ?_
    refine wp_astore_n (q := 7) (L2 := [(3, _), (0, _), (1, _), (2, _)]) d_Tn_move_6 rfl (by decide) rfl ?_
    refine wp_aload_n (q := 8) d_Tn_move_7 rfl rfl ?_
    refine wp_get (q := 11) fl_Tn_212 d_Tn_move_8 rfl (rdR (w := w) hw hb) rfl ?_
    refine wp_iconst (q := 12) d_Tn_move_11 rfl ic_4 ?_
    refine wp_icmp_ne_f (q := 15) (tgt := 34) d_Tn_move_12 (by decide) rfl (hc_12) ?_
    refine wp_aload_n (q := 16) d_Tn_move_15 rfl rfl ?_
    refine wp_get (q := 19) fl_Tn_121 d_Tn_move_16 rfl (rdO (w := w) hw) rfl ?_
    refine wp_aload_n (q := 20) d_Tn_move_19 rfl rfl ?_
    refine wp_get (q := 23) fl_Tn_124 d_Tn_move_20 rfl (rdR (w := w) hw hb) rfl ?_
    refine wp_icmp_lt (q := 26) (tgt := 34) d_Tn_move_23 (by decide) rfl (fun hc_23 => ?_) (fun hc_23 => ?_)
    · refine wp_aload_n (q := 35) d_Tn_move_34 rfl rfl ?_
      refine wp_get (q := 38) fl_Tn_212 d_Tn_move_35 rfl (rdR (w := w) hw hb) rfl ?_
      refine wp_iconst (q := 39) d_Tn_move_38 rfl ic_3 ?_
      refine wp_icmp_ne_t (tgt := 65) d_Tn_move_39 (by decide) (by rw [hc_12]; decide) ?_
      refine wp_vret d_Tn_move_65 rfl (Nat.le_refl _) (Nat.le_refl _) ?_
      refine kP hK rfl ?_
      first
        | (rw [mv1, if_pos hc_12, if_neg hc_23]; done)
        | (rw [mv1, if_pos hc_12, if_pos hc_23]; done)
        | (rw [mv1, if_neg hc_12, if_neg hc_39]; done)
        | (rw [mv1, if_neg hc_12, if_pos hc_39, if_neg h0]; done)
        | (rw [mv1, if_neg hc_12, if_pos hc_39, if_pos h0]; done)
    · refine wp_aload_n (q := 27) d_Tn_move_26 rfl rfl ?_
      refine wp_iconst (q := 28) d_Tn_move_27 rfl ic_3 ?_
      refine wp_put (q := 31) fl_Tn_212 d_Tn_move_28 rfl (rdR (w := w) hw hb) (Nat.le_of_ble_eq_true rfl) rfl rfl (fdw (w := w) hw (by omega) (ws_r0 hb)) ?_
      refine wp_goto (tgt := 65) d_Tn_move_31 (by decide) ?_
      refine wp_vret d_Tn_move_65 rfl (Nat.le_refl _) (Nat.le_refl _) ?_
      refine kP hK rfl ?_
      first
        | (rw [mv1, if_pos hc_12, if_neg hc_23]; done)
        | (rw [mv1, if_pos hc_12, if_pos hc_23]; done)
        | (rw [mv1, if_neg hc_12, if_neg hc_39]; done)
        | (rw [mv1, if_neg hc_12, if_pos hc_39, if_neg h0]; done)
        | (rw [mv1, if_neg hc_12, if_pos hc_39, if_pos h0]; done)
  · skip
    refine wp_aload_n (q := 1) d_Tn_move_0 rfl rfl ?_
    refine wp_get (q := 4) fl_Tn_115 d_Tn_move_1 rfl (rdO (w := w) hw) rfl ?_
    refine wp_iload_n (q := 5) d_Tn_move_4 rfl rfl ?_
    refine wp_aldR (q := 6) d_Tn_move_5 rfl (rd4 (w := w) hw) (by omega) (by decide) (rowsW_at (by omega)) ?_
    refine wp_astore_n (q := 7) (L2 := [(3, _), (0, _), (1, _), (2, _)]) d_Tn_move_6 rfl (by decide) rfl ?_
    refine wp_aload_n (q := 8) d_Tn_move_7 rfl rfl ?_
    refine wp_get (q := 11) fl_Tn_212 d_Tn_move_8 rfl (rdR (w := w) hw hb) rfl ?_
    refine wp_iconst (q := 12) d_Tn_move_11 rfl ic_4 ?_
    refine wp_icmp_ne_t (tgt := 34) d_Tn_move_12 (by decide) (hc_12) ?_
    refine wp_aload_n (q := 35) d_Tn_move_34 rfl rfl ?_
    refine wp_get (q := 38) fl_Tn_212 d_Tn_move_35 rfl (rdR (w := w) hw hb) rfl ?_
    refine wp_iconst (q := 39) d_Tn_move_38 rfl ic_3 ?_
    refine wp_icmp_ne (q := 42) (tgt := 65) d_Tn_move_39 (by decide) rfl (fun hc_39 => ?_) (fun hc_39 => ?_)
    · refine wp_vret d_Tn_move_65 rfl (Nat.le_refl _) (Nat.le_refl _) ?_
      refine kP hK rfl ?_
      first
        | (rw [mv1, if_pos hc_12, if_neg hc_23]; done)
        | (rw [mv1, if_pos hc_12, if_pos hc_23]; done)
        | (rw [mv1, if_neg hc_12, if_neg hc_39]; done)
        | (rw [mv1, if_neg hc_12, if_pos hc_39, if_neg h0]; done)
        | (rw [mv1, if_neg hc_12, if_pos hc_39, if_pos h0]; done)
    · refine wp_aload_n (q := 43) d_Tn_move_42 rfl rfl ?_
      refine wp_dup (q := 44) d_Tn_move_43 rfl rfl ?_
      refine wp_get (q := 47) fl_Tn_224 d_Tn_move_44 rfl (rdR (w := w) hw hb) rfl ?_
      refine wp_iconst (q := 48) d_Tn_move_47 rfl ic_1 ?_
      refine wp_isub (q := 49) d_Tn_move_48 rfl ?_
      refine wp_put (q := 52) fl_Tn_224 d_Tn_move_49 rfl (rdR (w := w) hw hb) (Nat.le_of_ble_eq_true rfl) rfl rfl (fdw (w := w) hw (by omega) (ws_r5 hb)) ?_
      refine wp_aload_n (q := 53) d_Tn_move_52 rfl rfl ?_
      refine wp_get (q := 56) fl_Tn_224 d_Tn_move_53 rfl (rdR (w := w) hw hb) rfl ?_
      simp (disch := omega) only [upd_ne, upd_eq]
      refine wp_if_gt (q := 59) (tgt := 65) d_Tn_move_56 (by decide) rfl (fun hc_56 => ?_) (fun hc_56 => ?_)
      · have h0 : ¬ P (132 + b) - nI 1 = 0 := fun z => by rw [z] at hc_56; exact absurd hc_56 (by decide)
        refine wp_vret d_Tn_move_65 rfl (Nat.le_refl _) (Nat.le_refl _) ?_
        refine kP hK rfl ?_
        first
          | (rw [mv1, if_pos hc_12, if_neg hc_23]; done)
          | (rw [mv1, if_pos hc_12, if_pos hc_23]; done)
          | (rw [mv1, if_neg hc_12, if_neg hc_39]; done)
          | (rw [mv1, if_neg hc_12, if_pos hc_39, if_neg h0]; done)
          | (rw [mv1, if_neg hc_12, if_pos hc_39, if_pos h0]; done)
      · have h0 : P (132 + b) - nI 1 = 0 := hl0 hc_39 hc_56
        refine wp_aload_n (q := 60) d_Tn_move_59 rfl rfl ?_
        refine wp_aload_n (q := 61) d_Tn_move_60 rfl rfl ?_
        refine wp_iload_n (q := 62) d_Tn_move_61 rfl rfl ?_
        refine wp_cv2 (q := 65) lk_Tn_236 (ro _ _ _) d_Tn_move_62 rfl (Nat.le_of_ble_eq_true rfl) (rfl) rfl (Nat.zero_le _) (Nat.zero_le _) ?_
        refine ok_Tn_arrive (w := w) hw (kd := kd) (s := s) (a := a) hb (by simp (disch := omega) only [upd_ne, upd_eq]; exact ek) hk (by simp (disch := omega) only [upd_ne, upd_eq]; exact es) hs (by simp (disch := omega) only [upd_ne, upd_eq]; exact ea) ha ?_
        refine wp_vret d_Tn_move_65 rfl (Nat.le_refl _) (Nat.le_refl _) ?_
        refine kP hK rfl ?_
        first
          | (rw [mv1, if_pos hc_12, if_neg hc_23]; done)
          | (rw [mv1, if_pos hc_12, if_pos hc_23]; done)
          | (rw [mv1, if_neg hc_12, if_neg hc_39]; done)
          | (rw [mv1, if_neg hc_12, if_pos hc_39, if_neg h0]; done)
          | (rw [mv1, if_neg hc_12, if_pos hc_39, if_pos h0]; done)
end
section
theorem minE (x y : Int32) : (if y < x then y else x) = if x < y then x else y := by
  by_cases h1 : y < x
  · rw [if_pos h1, if_neg (fun h => by rw [Int32.lt_iff_toInt_lt] at *; omega)]
  · rw [if_neg h1]
    by_cases h2 : x < y
    · rw [if_pos h2]
    · rw [if_neg h2]
      exact Int32.le_antisymm (nlt_le h1) (nlt_le h2)
def pays (P : Nat → Int32) (b : Nat) (e : Int32) : Int32 := if e < P (204 + b) then e else P (204 + b)
def stl (P : Nat → Int32) (b : Nat) (e lw : Int32) : Nat → Int32 := if e < 0 then upd (upd (upd P (204 + b) (P (204 + b) - e)) (168 + b) (nI 0)) (180 + b) (nI 0) else upd (upd (upd (upd P (204 + b) (P (204 + b) - pays P b e)) (192 + b) (P (192 + b) + ((e - pays P b e).toInt64 * (if nI 100 < lw then nI 100 else lw).toInt64 / 100).toInt32)) (168 + b) (nI 0)) (180 + b) (nI 0)
theorem d_Rf_settles_0 : decode M_Rf_settles.2.1 0 = .ok (.aload_n 0, 1) := by decide +kernel
theorem d_Rf_settles_1 : decode M_Rf_settles.2.1 1 = .ok (.getfield 7, 3) := by decide +kernel
theorem d_Rf_settles_4 : decode M_Rf_settles.2.1 4 = .ok (.sipush 168, 3) := by decide +kernel
theorem d_Rf_settles_7 : decode M_Rf_settles.2.1 7 = .ok (.iload_n 1, 1) := by decide +kernel
theorem d_Rf_settles_8 : decode M_Rf_settles.2.1 8 = .ok (.iadd, 1) := by decide +kernel
theorem d_Rf_settles_9 : decode M_Rf_settles.2.1 9 = .ok (.iaload, 1) := by decide +kernel
theorem d_Rf_settles_10 : decode M_Rf_settles.2.1 10 = .ok (.aload_n 0, 1) := by decide +kernel
theorem d_Rf_settles_11 : decode M_Rf_settles.2.1 11 = .ok (.getfield 7, 3) := by decide +kernel
theorem d_Rf_settles_14 : decode M_Rf_settles.2.1 14 = .ok (.sipush 180, 3) := by decide +kernel
theorem d_Rf_settles_17 : decode M_Rf_settles.2.1 17 = .ok (.iload_n 1, 1) := by decide +kernel
theorem d_Rf_settles_18 : decode M_Rf_settles.2.1 18 = .ok (.iadd, 1) := by decide +kernel
theorem d_Rf_settles_19 : decode M_Rf_settles.2.1 19 = .ok (.iaload, 1) := by decide +kernel
theorem d_Rf_settles_20 : decode M_Rf_settles.2.1 20 = .ok (.isub, 1) := by decide +kernel
theorem d_Rf_settles_21 : decode M_Rf_settles.2.1 21 = .ok (.aload_n 0, 1) := by decide +kernel
theorem d_Rf_settles_22 : decode M_Rf_settles.2.1 22 = .ok (.getfield 34, 3) := by decide +kernel
theorem d_Rf_settles_25 : decode M_Rf_settles.2.1 25 = .ok (.iload_n 1, 1) := by decide +kernel
theorem d_Rf_settles_26 : decode M_Rf_settles.2.1 26 = .ok (.iaload, 1) := by decide +kernel
theorem d_Rf_settles_27 : decode M_Rf_settles.2.1 27 = .ok (.isub, 1) := by decide +kernel
theorem d_Rf_settles_28 : decode M_Rf_settles.2.1 28 = .ok (.istore_n 2, 1) := by decide +kernel
theorem d_Rf_settles_29 : decode M_Rf_settles.2.1 29 = .ok (.iload_n 2, 1) := by decide +kernel
theorem d_Rf_settles_30 : decode M_Rf_settles.2.1 30 = .ok (.ifCond .ge 20, 3) := by decide +kernel
theorem d_Rf_settles_33 : decode M_Rf_settles.2.1 33 = .ok (.aload_n 0, 1) := by decide +kernel
theorem d_Rf_settles_34 : decode M_Rf_settles.2.1 34 = .ok (.getfield 7, 3) := by decide +kernel
theorem d_Rf_settles_37 : decode M_Rf_settles.2.1 37 = .ok (.sipush 204, 3) := by decide +kernel
theorem d_Rf_settles_40 : decode M_Rf_settles.2.1 40 = .ok (.iload_n 1, 1) := by decide +kernel
theorem d_Rf_settles_41 : decode M_Rf_settles.2.1 41 = .ok (.iadd, 1) := by decide +kernel
theorem d_Rf_settles_42 : decode M_Rf_settles.2.1 42 = .ok (.dup2, 1) := by decide +kernel
theorem d_Rf_settles_43 : decode M_Rf_settles.2.1 43 = .ok (.iaload, 1) := by decide +kernel
theorem d_Rf_settles_44 : decode M_Rf_settles.2.1 44 = .ok (.iload_n 2, 1) := by decide +kernel
theorem d_Rf_settles_45 : decode M_Rf_settles.2.1 45 = .ok (.isub, 1) := by decide +kernel
theorem d_Rf_settles_46 : decode M_Rf_settles.2.1 46 = .ok (.iastore, 1) := by decide +kernel
theorem d_Rf_settles_47 : decode M_Rf_settles.2.1 47 = .ok (.goto 92, 3) := by decide +kernel
theorem d_Rf_settles_50 : decode M_Rf_settles.2.1 50 = .ok (.iload_n 2, 1) := by decide +kernel
theorem d_Rf_settles_51 : decode M_Rf_settles.2.1 51 = .ok (.aload_n 0, 1) := by decide +kernel
theorem d_Rf_settles_52 : decode M_Rf_settles.2.1 52 = .ok (.getfield 7, 3) := by decide +kernel
theorem d_Rf_settles_55 : decode M_Rf_settles.2.1 55 = .ok (.sipush 204, 3) := by decide +kernel
theorem d_Rf_settles_58 : decode M_Rf_settles.2.1 58 = .ok (.iload_n 1, 1) := by decide +kernel
theorem d_Rf_settles_59 : decode M_Rf_settles.2.1 59 = .ok (.iadd, 1) := by decide +kernel
theorem d_Rf_settles_60 : decode M_Rf_settles.2.1 60 = .ok (.iaload, 1) := by decide +kernel
theorem d_Rf_settles_61 : decode M_Rf_settles.2.1 61 = .ok (.if_icmp .ge 7, 3) := by decide +kernel
theorem d_Rf_settles_64 : decode M_Rf_settles.2.1 64 = .ok (.iload_n 2, 1) := by decide +kernel
theorem d_Rf_settles_65 : decode M_Rf_settles.2.1 65 = .ok (.goto 13, 3) := by decide +kernel
theorem d_Rf_settles_68 : decode M_Rf_settles.2.1 68 = .ok (.aload_n 0, 1) := by decide +kernel
theorem d_Rf_settles_69 : decode M_Rf_settles.2.1 69 = .ok (.getfield 7, 3) := by decide +kernel
theorem d_Rf_settles_72 : decode M_Rf_settles.2.1 72 = .ok (.sipush 204, 3) := by decide +kernel
theorem d_Rf_settles_75 : decode M_Rf_settles.2.1 75 = .ok (.iload_n 1, 1) := by decide +kernel
theorem d_Rf_settles_76 : decode M_Rf_settles.2.1 76 = .ok (.iadd, 1) := by decide +kernel
theorem d_Rf_settles_77 : decode M_Rf_settles.2.1 77 = .ok (.iaload, 1) := by decide +kernel
theorem d_Rf_settles_78 : decode M_Rf_settles.2.1 78 = .ok (.istore_n 3, 1) := by decide +kernel
theorem d_Rf_settles_79 : decode M_Rf_settles.2.1 79 = .ok (.aload_n 0, 1) := by decide +kernel
theorem d_Rf_settles_80 : decode M_Rf_settles.2.1 80 = .ok (.iload_n 1, 1) := by decide +kernel
theorem d_Rf_settles_81 : decode M_Rf_settles.2.1 81 = .ok (.iconst 2, 1) := by decide +kernel
theorem d_Rf_settles_82 : decode M_Rf_settles.2.1 82 = .ok (.invokevirtual 230, 3) := by decide +kernel
theorem d_Rf_settles_85 : decode M_Rf_settles.2.1 85 = .ok (.istore 4, 2) := by decide +kernel
theorem d_Rf_settles_87 : decode M_Rf_settles.2.1 87 = .ok (.aload_n 0, 1) := by decide +kernel
theorem d_Rf_settles_88 : decode M_Rf_settles.2.1 88 = .ok (.getfield 7, 3) := by decide +kernel
theorem d_Rf_settles_91 : decode M_Rf_settles.2.1 91 = .ok (.sipush 204, 3) := by decide +kernel
theorem d_Rf_settles_94 : decode M_Rf_settles.2.1 94 = .ok (.iload_n 1, 1) := by decide +kernel
theorem d_Rf_settles_95 : decode M_Rf_settles.2.1 95 = .ok (.iadd, 1) := by decide +kernel
theorem d_Rf_settles_96 : decode M_Rf_settles.2.1 96 = .ok (.dup2, 1) := by decide +kernel
theorem d_Rf_settles_97 : decode M_Rf_settles.2.1 97 = .ok (.iaload, 1) := by decide +kernel
theorem d_Rf_settles_98 : decode M_Rf_settles.2.1 98 = .ok (.iload_n 3, 1) := by decide +kernel
theorem d_Rf_settles_99 : decode M_Rf_settles.2.1 99 = .ok (.isub, 1) := by decide +kernel
theorem d_Rf_settles_100 : decode M_Rf_settles.2.1 100 = .ok (.iastore, 1) := by decide +kernel
theorem d_Rf_settles_101 : decode M_Rf_settles.2.1 101 = .ok (.aload_n 0, 1) := by decide +kernel
theorem d_Rf_settles_102 : decode M_Rf_settles.2.1 102 = .ok (.getfield 7, 3) := by decide +kernel
theorem d_Rf_settles_105 : decode M_Rf_settles.2.1 105 = .ok (.sipush 192, 3) := by decide +kernel
theorem d_Rf_settles_108 : decode M_Rf_settles.2.1 108 = .ok (.iload_n 1, 1) := by decide +kernel
theorem d_Rf_settles_109 : decode M_Rf_settles.2.1 109 = .ok (.iadd, 1) := by decide +kernel
theorem d_Rf_settles_110 : decode M_Rf_settles.2.1 110 = .ok (.dup2, 1) := by decide +kernel
theorem d_Rf_settles_111 : decode M_Rf_settles.2.1 111 = .ok (.iaload, 1) := by decide +kernel
theorem d_Rf_settles_112 : decode M_Rf_settles.2.1 112 = .ok (.iload_n 2, 1) := by decide +kernel
theorem d_Rf_settles_113 : decode M_Rf_settles.2.1 113 = .ok (.iload_n 3, 1) := by decide +kernel
theorem d_Rf_settles_114 : decode M_Rf_settles.2.1 114 = .ok (.isub, 1) := by decide +kernel
theorem d_Rf_settles_115 : decode M_Rf_settles.2.1 115 = .ok (.i2l, 1) := by decide +kernel
theorem d_Rf_settles_116 : decode M_Rf_settles.2.1 116 = .ok (.iload 4, 2) := by decide +kernel
theorem d_Rf_settles_118 : decode M_Rf_settles.2.1 118 = .ok (.bipush 100, 2) := by decide +kernel
theorem d_Rf_settles_120 : decode M_Rf_settles.2.1 120 = .ok (.if_icmp .le 8, 3) := by decide +kernel
theorem d_Rf_settles_123 : decode M_Rf_settles.2.1 123 = .ok (.bipush 100, 2) := by decide +kernel
theorem d_Rf_settles_125 : decode M_Rf_settles.2.1 125 = .ok (.goto 5, 3) := by decide +kernel
theorem d_Rf_settles_128 : decode M_Rf_settles.2.1 128 = .ok (.iload 4, 2) := by decide +kernel
theorem d_Rf_settles_130 : decode M_Rf_settles.2.1 130 = .ok (.i2l, 1) := by decide +kernel
theorem d_Rf_settles_131 : decode M_Rf_settles.2.1 131 = .ok (.lmul, 1) := by decide +kernel
theorem d_Rf_settles_132 : decode M_Rf_settles.2.1 132 = .ok (.ldc2_w 242, 3) := by decide +kernel
theorem d_Rf_settles_135 : decode M_Rf_settles.2.1 135 = .ok (.ldiv, 1) := by decide +kernel
theorem d_Rf_settles_136 : decode M_Rf_settles.2.1 136 = .ok (.l2i, 1) := by decide +kernel
theorem d_Rf_settles_137 : decode M_Rf_settles.2.1 137 = .ok (.iadd, 1) := by decide +kernel
theorem d_Rf_settles_138 : decode M_Rf_settles.2.1 138 = .ok (.iastore, 1) := by decide +kernel
theorem d_Rf_settles_139 : decode M_Rf_settles.2.1 139 = .ok (.aload_n 0, 1) := by decide +kernel
theorem d_Rf_settles_140 : decode M_Rf_settles.2.1 140 = .ok (.getfield 7, 3) := by decide +kernel
theorem d_Rf_settles_143 : decode M_Rf_settles.2.1 143 = .ok (.sipush 168, 3) := by decide +kernel
theorem d_Rf_settles_146 : decode M_Rf_settles.2.1 146 = .ok (.iload_n 1, 1) := by decide +kernel
theorem d_Rf_settles_147 : decode M_Rf_settles.2.1 147 = .ok (.iadd, 1) := by decide +kernel
theorem d_Rf_settles_148 : decode M_Rf_settles.2.1 148 = .ok (.iconst 0, 1) := by decide +kernel
theorem d_Rf_settles_149 : decode M_Rf_settles.2.1 149 = .ok (.iastore, 1) := by decide +kernel
theorem d_Rf_settles_150 : decode M_Rf_settles.2.1 150 = .ok (.aload_n 0, 1) := by decide +kernel
theorem d_Rf_settles_151 : decode M_Rf_settles.2.1 151 = .ok (.getfield 7, 3) := by decide +kernel
theorem d_Rf_settles_154 : decode M_Rf_settles.2.1 154 = .ok (.sipush 180, 3) := by decide +kernel
theorem d_Rf_settles_157 : decode M_Rf_settles.2.1 157 = .ok (.iload_n 1, 1) := by decide +kernel
theorem d_Rf_settles_158 : decode M_Rf_settles.2.1 158 = .ok (.iadd, 1) := by decide +kernel
theorem d_Rf_settles_159 : decode M_Rf_settles.2.1 159 = .ok (.iconst 0, 1) := by decide +kernel
theorem d_Rf_settles_160 : decode M_Rf_settles.2.1 160 = .ok (.iastore, 1) := by decide +kernel
theorem d_Rf_settles_161 : decode M_Rf_settles.2.1 161 = .ok (.return_, 1) := by decide +kernel
set_option maxHeartbeats 4000000 in
set_option maxRecDepth 100000 in
theorem ok_Rf_settles {D : xD} {N : Nat} {l : Launch} {d : Nat} {c z : T2} {P Q : Nat → Int32} {rest : List va_E} {K : Option Value → List va_E → Prop} {nb : Nat} (hnb : c 32 1 = nI nb) (h12 : nb ≤ 12) {m : Nat} (em : P 234 = nI m) (hm : m < 14700) {b s : Nat} (hb : b < 12) (hs : s < 6) (es : P (84 + b) = nI s) (hCI : CI c) (hK : K none (encR D N c z (stl P b (P (168 + b) - P (180 + b) - c 7 b) (lawv c P nb m s b 2)) Q ++ rest)) : Ok D N l (d + 5) M_Rf_settles [.ref (N + 0), .int (nI b)] (encR D N c z P Q ++ rest) 0 0 K := by
  refine ok_of (L := [(0, _), (1, _)]) (by decide) (Nat.le_of_ble_eq_true rfl) rfl ?_
  refine wp_aload_n (q := 1) d_Rf_settles_0 rfl rfl ?_
  refine wp_get (q := 4) fl_Rf_7 d_Rf_settles_1 rfl rfl rfl ?_
  refine wp_sipush (q := 7) d_Rf_settles_4 rfl sp_168 ?_
  refine wp_iload_n (q := 8) d_Rf_settles_7 rfl rfl ?_
  first | refine wp_iaddN (q := 9) d_Rf_settles_8 rfl ?_ | refine wp_iadd (q := 9) d_Rf_settles_8 rfl ?_
  refine wp_iald (q := 10) d_Rf_settles_9 rfl (rfl) (by omega) (by decide) ?_
  refine wp_aload_n (q := 11) d_Rf_settles_10 rfl rfl ?_
  refine wp_get (q := 14) fl_Rf_7 d_Rf_settles_11 rfl rfl rfl ?_
  refine wp_sipush (q := 17) d_Rf_settles_14 rfl sp_180 ?_
  refine wp_iload_n (q := 18) d_Rf_settles_17 rfl rfl ?_
  first | refine wp_iaddN (q := 19) d_Rf_settles_18 rfl ?_ | refine wp_iadd (q := 19) d_Rf_settles_18 rfl ?_
  refine wp_iald (q := 20) d_Rf_settles_19 rfl (rfl) (by omega) (by decide) ?_
  refine wp_isub (q := 21) d_Rf_settles_20 rfl ?_
  refine wp_aload_n (q := 22) d_Rf_settles_21 rfl rfl ?_
  refine wp_get (q := 25) fl_Rf_34 d_Rf_settles_22 rfl rfl rfl ?_
  refine wp_iload_n (q := 26) d_Rf_settles_25 rfl rfl ?_
  refine wp_iald (q := 27) d_Rf_settles_26 rfl (rfl) (by omega) (by decide) ?_
  refine wp_isub (q := 28) d_Rf_settles_27 rfl ?_
  refine wp_istore_n (q := 29) (L2 := [(2, _), (0, _), (1, _)]) d_Rf_settles_28 rfl (by decide) rfl ?_
  refine wp_iload_n (q := 30) d_Rf_settles_29 rfl rfl ?_
  refine wp_if_ge (q := 33) (tgt := 50) d_Rf_settles_30 (by decide) rfl (fun hc_30 => ?_) (fun hc_30 => ?_)
  · refine wp_iload_n (q := 51) d_Rf_settles_50 rfl rfl ?_
    refine wp_aload_n (q := 52) d_Rf_settles_51 rfl rfl ?_
    refine wp_get (q := 55) fl_Rf_7 d_Rf_settles_52 rfl rfl rfl ?_
    refine wp_sipush (q := 58) d_Rf_settles_55 rfl sp_204 ?_
    refine wp_iload_n (q := 59) d_Rf_settles_58 rfl rfl ?_
    first | refine wp_iaddN (q := 60) d_Rf_settles_59 rfl ?_ | refine wp_iadd (q := 60) d_Rf_settles_59 rfl ?_
    refine wp_iald (q := 61) d_Rf_settles_60 rfl (rfl) (by omega) (by decide) ?_
    refine wp_icmp_ge (q := 64) (tgt := 68) d_Rf_settles_61 (by decide) rfl (fun hc_61 => ?_) (fun hc_61 => ?_)
    · refine wp_aload_n (q := 69) d_Rf_settles_68 rfl rfl ?_
      refine wp_get (q := 72) fl_Rf_7 d_Rf_settles_69 rfl rfl rfl ?_
      refine wp_sipush (q := 75) d_Rf_settles_72 rfl sp_204 ?_
      refine wp_iload_n (q := 76) d_Rf_settles_75 rfl rfl ?_
      first | refine wp_iaddN (q := 77) d_Rf_settles_76 rfl ?_ | refine wp_iadd (q := 77) d_Rf_settles_76 rfl ?_
      refine wp_iald (q := 78) d_Rf_settles_77 rfl (rfl) (by omega) (by decide) ?_
      refine wp_istore_n (q := 79) (L2 := [(3, _), (2, _), (0, _), (1, _)]) d_Rf_settles_78 rfl (by decide) rfl ?_
      refine wp_aload_n (q := 80) d_Rf_settles_79 rfl rfl ?_
      refine wp_iload_n (q := 81) d_Rf_settles_80 rfl rfl ?_
      refine wp_iconst (q := 82) d_Rf_settles_81 rfl ic_2 ?_
      refine wp_cv2 (q := 85) lk_Rf_230 (ro _ _ _) d_Rf_settles_82 rfl (Nat.le_of_ble_eq_true rfl) (rfl) rfl (Nat.zero_le _) (Nat.zero_le _) ?_
      refine ok_Rf_lawOf hnb h12 em hm hb hs es (by decide) hCI ?_
      refine wp_istore (q := 87) (L2 := [(4, _), (3, _), (2, _), (0, _), (1, _)]) d_Rf_settles_85 rfl (by decide) rfl ?_
      refine wp_aload_n (q := 88) d_Rf_settles_87 rfl rfl ?_
      refine wp_get (q := 91) fl_Rf_7 d_Rf_settles_88 rfl rfl rfl ?_
      refine wp_sipush (q := 94) d_Rf_settles_91 rfl sp_204 ?_
      refine wp_iload_n (q := 95) d_Rf_settles_94 rfl rfl ?_
      first | refine wp_iaddN (q := 96) d_Rf_settles_95 rfl ?_ | refine wp_iadd (q := 96) d_Rf_settles_95 rfl ?_
      refine wp_dup2 (q := 97) d_Rf_settles_96 rfl rfl rfl ?_
      refine wp_iald (q := 98) d_Rf_settles_97 rfl (rfl) (by omega) (by decide) ?_
      refine wp_iload_n (q := 99) d_Rf_settles_98 rfl rfl ?_
      refine wp_isub (q := 100) d_Rf_settles_99 rfl ?_
      refine wp_iast (q := 101) d_Rf_settles_100 rfl (rfl) (by omega) (by decide) (fr_P) ?_
      refine wp_aload_n (q := 102) d_Rf_settles_101 rfl rfl ?_
      refine wp_get (q := 105) fl_Rf_7 d_Rf_settles_102 rfl rfl rfl ?_
      refine wp_sipush (q := 108) d_Rf_settles_105 rfl sp_192 ?_
      refine wp_iload_n (q := 109) d_Rf_settles_108 rfl rfl ?_
      first | refine wp_iaddN (q := 110) d_Rf_settles_109 rfl ?_ | refine wp_iadd (q := 110) d_Rf_settles_109 rfl ?_
      refine wp_dup2 (q := 111) d_Rf_settles_110 rfl rfl rfl ?_
      refine wp_iald (q := 112) d_Rf_settles_111 rfl (rfl) (by omega) (by decide) ?_
      simp (disch := omega) only [upd_ne, upd_eq]
      refine wp_iload_n (q := 113) d_Rf_settles_112 rfl rfl ?_
      refine wp_iload_n (q := 114) d_Rf_settles_113 rfl rfl ?_
      refine wp_isub (q := 115) d_Rf_settles_114 rfl ?_
      refine wp_i2l (q := 116) d_Rf_settles_115 rfl ?_
      refine wp_iload (q := 118) d_Rf_settles_116 rfl rfl ?_
      refine wp_bipush (q := 120) d_Rf_settles_118 rfl bp_100 ?_
      refine wp_icmp_le (q := 123) (tgt := 128) d_Rf_settles_120 (by decide) rfl (fun hc_120 => ?_) (fun hc_120 => ?_)
      · refine wp_iload (q := 130) d_Rf_settles_128 rfl rfl ?_
        refine wp_i2l (q := 131) d_Rf_settles_130 rfl ?_
        refine wp_lmul (q := 132) d_Rf_settles_131 rfl ?_
        refine wp_ldc2 (q := 135) d_Rf_settles_132 rfl kl_Rf_242 ?_
        refine wp_ldiv (q := 136) d_Rf_settles_135 rfl (by decide) ?_
        refine wp_l2i (q := 137) d_Rf_settles_136 rfl ?_
        first | refine wp_iaddN (q := 138) d_Rf_settles_137 rfl ?_ | refine wp_iadd (q := 138) d_Rf_settles_137 rfl ?_
        refine wp_iast (q := 139) d_Rf_settles_138 rfl (rfl) (by omega) (by decide) (fr_P) ?_
        refine wp_aload_n (q := 140) d_Rf_settles_139 rfl rfl ?_
        refine wp_get (q := 143) fl_Rf_7 d_Rf_settles_140 rfl rfl rfl ?_
        refine wp_sipush (q := 146) d_Rf_settles_143 rfl sp_168 ?_
        refine wp_iload_n (q := 147) d_Rf_settles_146 rfl rfl ?_
        first | refine wp_iaddN (q := 148) d_Rf_settles_147 rfl ?_ | refine wp_iadd (q := 148) d_Rf_settles_147 rfl ?_
        refine wp_iconst (q := 149) d_Rf_settles_148 rfl ic_0 ?_
        refine wp_iast (q := 150) d_Rf_settles_149 rfl (rfl) (by omega) (by decide) (fr_P) ?_
        refine wp_aload_n (q := 151) d_Rf_settles_150 rfl rfl ?_
        refine wp_get (q := 154) fl_Rf_7 d_Rf_settles_151 rfl rfl rfl ?_
        refine wp_sipush (q := 157) d_Rf_settles_154 rfl sp_180 ?_
        refine wp_iload_n (q := 158) d_Rf_settles_157 rfl rfl ?_
        first | refine wp_iaddN (q := 159) d_Rf_settles_158 rfl ?_ | refine wp_iadd (q := 159) d_Rf_settles_158 rfl ?_
        refine wp_iconst (q := 160) d_Rf_settles_159 rfl ic_0 ?_
        refine wp_iast (q := 161) d_Rf_settles_160 rfl (rfl) (by omega) (by decide) (fr_P) ?_
        refine wp_vret d_Rf_settles_161 rfl (Nat.le_refl _) (Nat.le_refl _) ?_
        refine kR hK rfl ?_
        first
          | (rw [stl, if_pos (nle_lt hc_30)]; try simp (disch := omega) only [upd_ne, upd_eq]; done)
          | (rw [stl, if_neg (le_nlt hc_30), pays, if_neg (le_nlt hc_61), if_neg (le_nlt hc_120)]; try simp (disch := omega) only [upd_ne, upd_eq]; done)
          | (rw [stl, if_neg (le_nlt hc_30), pays, if_neg (le_nlt hc_61), if_pos (nle_lt hc_120)]; try simp (disch := omega) only [upd_ne, upd_eq]; done)
          | (rw [stl, if_neg (le_nlt hc_30), pays, if_pos (nle_lt hc_61), if_neg (le_nlt hc_120)]; try simp (disch := omega) only [upd_ne, upd_eq]; done)
          | (rw [stl, if_neg (le_nlt hc_30), pays, if_pos (nle_lt hc_61), if_pos (nle_lt hc_120)]; try simp (disch := omega) only [upd_ne, upd_eq])
      · refine wp_bipush (q := 125) d_Rf_settles_123 rfl bp_100 ?_
        refine wp_goto (tgt := 130) d_Rf_settles_125 (by decide) ?_
        refine wp_i2l (q := 131) d_Rf_settles_130 rfl ?_
        refine wp_lmul (q := 132) d_Rf_settles_131 rfl ?_
        refine wp_ldc2 (q := 135) d_Rf_settles_132 rfl kl_Rf_242 ?_
        refine wp_ldiv (q := 136) d_Rf_settles_135 rfl (by decide) ?_
        refine wp_l2i (q := 137) d_Rf_settles_136 rfl ?_
        first | refine wp_iaddN (q := 138) d_Rf_settles_137 rfl ?_ | refine wp_iadd (q := 138) d_Rf_settles_137 rfl ?_
        refine wp_iast (q := 139) d_Rf_settles_138 rfl (rfl) (by omega) (by decide) (fr_P) ?_
        refine wp_aload_n (q := 140) d_Rf_settles_139 rfl rfl ?_
        refine wp_get (q := 143) fl_Rf_7 d_Rf_settles_140 rfl rfl rfl ?_
        refine wp_sipush (q := 146) d_Rf_settles_143 rfl sp_168 ?_
        refine wp_iload_n (q := 147) d_Rf_settles_146 rfl rfl ?_
        first | refine wp_iaddN (q := 148) d_Rf_settles_147 rfl ?_ | refine wp_iadd (q := 148) d_Rf_settles_147 rfl ?_
        refine wp_iconst (q := 149) d_Rf_settles_148 rfl ic_0 ?_
        refine wp_iast (q := 150) d_Rf_settles_149 rfl (rfl) (by omega) (by decide) (fr_P) ?_
        refine wp_aload_n (q := 151) d_Rf_settles_150 rfl rfl ?_
        refine wp_get (q := 154) fl_Rf_7 d_Rf_settles_151 rfl rfl rfl ?_
        refine wp_sipush (q := 157) d_Rf_settles_154 rfl sp_180 ?_
        refine wp_iload_n (q := 158) d_Rf_settles_157 rfl rfl ?_
        first | refine wp_iaddN (q := 159) d_Rf_settles_158 rfl ?_ | refine wp_iadd (q := 159) d_Rf_settles_158 rfl ?_
        refine wp_iconst (q := 160) d_Rf_settles_159 rfl ic_0 ?_
        refine wp_iast (q := 161) d_Rf_settles_160 rfl (rfl) (by omega) (by decide) (fr_P) ?_
        refine wp_vret d_Rf_settles_161 rfl (Nat.le_refl _) (Nat.le_refl _) ?_
        refine kR hK rfl ?_
        first
          | (rw [stl, if_pos (nle_lt hc_30)]; try simp (disch := omega) only [upd_ne, upd_eq]; done)
          | (rw [stl, if_neg (le_nlt hc_30), pays, if_neg (le_nlt hc_61), if_neg (le_nlt hc_120)]; try simp (disch := omega) only [upd_ne, upd_eq]; done)
          | (rw [stl, if_neg (le_nlt hc_30), pays, if_neg (le_nlt hc_61), if_pos (nle_lt hc_120)]; try simp (disch := omega) only [upd_ne, upd_eq]; done)
          | (rw [stl, if_neg (le_nlt hc_30), pays, if_pos (nle_lt hc_61), if_neg (le_nlt hc_120)]; try simp (disch := omega) only [upd_ne, upd_eq]; done)
          | (rw [stl, if_neg (le_nlt hc_30), pays, if_pos (nle_lt hc_61), if_pos (nle_lt hc_120)]; try simp (disch := omega) only [upd_ne, upd_eq])
    · refine wp_iload_n (q := 65) d_Rf_settles_64 rfl rfl ?_
      refine wp_goto (tgt := 78) d_Rf_settles_65 (by decide) ?_
      refine wp_istore_n (q := 79) (L2 := [(3, _), (2, _), (0, _), (1, _)]) d_Rf_settles_78 rfl (by decide) rfl ?_
      refine wp_aload_n (q := 80) d_Rf_settles_79 rfl rfl ?_
      refine wp_iload_n (q := 81) d_Rf_settles_80 rfl rfl ?_
      refine wp_iconst (q := 82) d_Rf_settles_81 rfl ic_2 ?_
      refine wp_cv2 (q := 85) lk_Rf_230 (ro _ _ _) d_Rf_settles_82 rfl (Nat.le_of_ble_eq_true rfl) (rfl) rfl (Nat.zero_le _) (Nat.zero_le _) ?_
      refine ok_Rf_lawOf hnb h12 em hm hb hs es (by decide) hCI ?_
      refine wp_istore (q := 87) (L2 := [(4, _), (3, _), (2, _), (0, _), (1, _)]) d_Rf_settles_85 rfl (by decide) rfl ?_
      refine wp_aload_n (q := 88) d_Rf_settles_87 rfl rfl ?_
      refine wp_get (q := 91) fl_Rf_7 d_Rf_settles_88 rfl rfl rfl ?_
      refine wp_sipush (q := 94) d_Rf_settles_91 rfl sp_204 ?_
      refine wp_iload_n (q := 95) d_Rf_settles_94 rfl rfl ?_
      first | refine wp_iaddN (q := 96) d_Rf_settles_95 rfl ?_ | refine wp_iadd (q := 96) d_Rf_settles_95 rfl ?_
      refine wp_dup2 (q := 97) d_Rf_settles_96 rfl rfl rfl ?_
      refine wp_iald (q := 98) d_Rf_settles_97 rfl (rfl) (by omega) (by decide) ?_
      refine wp_iload_n (q := 99) d_Rf_settles_98 rfl rfl ?_
      refine wp_isub (q := 100) d_Rf_settles_99 rfl ?_
      refine wp_iast (q := 101) d_Rf_settles_100 rfl (rfl) (by omega) (by decide) (fr_P) ?_
      refine wp_aload_n (q := 102) d_Rf_settles_101 rfl rfl ?_
      refine wp_get (q := 105) fl_Rf_7 d_Rf_settles_102 rfl rfl rfl ?_
      refine wp_sipush (q := 108) d_Rf_settles_105 rfl sp_192 ?_
      refine wp_iload_n (q := 109) d_Rf_settles_108 rfl rfl ?_
      first | refine wp_iaddN (q := 110) d_Rf_settles_109 rfl ?_ | refine wp_iadd (q := 110) d_Rf_settles_109 rfl ?_
      refine wp_dup2 (q := 111) d_Rf_settles_110 rfl rfl rfl ?_
      refine wp_iald (q := 112) d_Rf_settles_111 rfl (rfl) (by omega) (by decide) ?_
      simp (disch := omega) only [upd_ne, upd_eq]
      refine wp_iload_n (q := 113) d_Rf_settles_112 rfl rfl ?_
      refine wp_iload_n (q := 114) d_Rf_settles_113 rfl rfl ?_
      refine wp_isub (q := 115) d_Rf_settles_114 rfl ?_
      refine wp_i2l (q := 116) d_Rf_settles_115 rfl ?_
      refine wp_iload (q := 118) d_Rf_settles_116 rfl rfl ?_
      refine wp_bipush (q := 120) d_Rf_settles_118 rfl bp_100 ?_
      refine wp_icmp_le (q := 123) (tgt := 128) d_Rf_settles_120 (by decide) rfl (fun hc_120 => ?_) (fun hc_120 => ?_)
      · refine wp_iload (q := 130) d_Rf_settles_128 rfl rfl ?_
        refine wp_i2l (q := 131) d_Rf_settles_130 rfl ?_
        refine wp_lmul (q := 132) d_Rf_settles_131 rfl ?_
        refine wp_ldc2 (q := 135) d_Rf_settles_132 rfl kl_Rf_242 ?_
        refine wp_ldiv (q := 136) d_Rf_settles_135 rfl (by decide) ?_
        refine wp_l2i (q := 137) d_Rf_settles_136 rfl ?_
        first | refine wp_iaddN (q := 138) d_Rf_settles_137 rfl ?_ | refine wp_iadd (q := 138) d_Rf_settles_137 rfl ?_
        refine wp_iast (q := 139) d_Rf_settles_138 rfl (rfl) (by omega) (by decide) (fr_P) ?_
        refine wp_aload_n (q := 140) d_Rf_settles_139 rfl rfl ?_
        refine wp_get (q := 143) fl_Rf_7 d_Rf_settles_140 rfl rfl rfl ?_
        refine wp_sipush (q := 146) d_Rf_settles_143 rfl sp_168 ?_
        refine wp_iload_n (q := 147) d_Rf_settles_146 rfl rfl ?_
        first | refine wp_iaddN (q := 148) d_Rf_settles_147 rfl ?_ | refine wp_iadd (q := 148) d_Rf_settles_147 rfl ?_
        refine wp_iconst (q := 149) d_Rf_settles_148 rfl ic_0 ?_
        refine wp_iast (q := 150) d_Rf_settles_149 rfl (rfl) (by omega) (by decide) (fr_P) ?_
        refine wp_aload_n (q := 151) d_Rf_settles_150 rfl rfl ?_
        refine wp_get (q := 154) fl_Rf_7 d_Rf_settles_151 rfl rfl rfl ?_
        refine wp_sipush (q := 157) d_Rf_settles_154 rfl sp_180 ?_
        refine wp_iload_n (q := 158) d_Rf_settles_157 rfl rfl ?_
        first | refine wp_iaddN (q := 159) d_Rf_settles_158 rfl ?_ | refine wp_iadd (q := 159) d_Rf_settles_158 rfl ?_
        refine wp_iconst (q := 160) d_Rf_settles_159 rfl ic_0 ?_
        refine wp_iast (q := 161) d_Rf_settles_160 rfl (rfl) (by omega) (by decide) (fr_P) ?_
        refine wp_vret d_Rf_settles_161 rfl (Nat.le_refl _) (Nat.le_refl _) ?_
        refine kR hK rfl ?_
        first
          | (rw [stl, if_pos (nle_lt hc_30)]; try simp (disch := omega) only [upd_ne, upd_eq]; done)
          | (rw [stl, if_neg (le_nlt hc_30), pays, if_neg (le_nlt hc_61), if_neg (le_nlt hc_120)]; try simp (disch := omega) only [upd_ne, upd_eq]; done)
          | (rw [stl, if_neg (le_nlt hc_30), pays, if_neg (le_nlt hc_61), if_pos (nle_lt hc_120)]; try simp (disch := omega) only [upd_ne, upd_eq]; done)
          | (rw [stl, if_neg (le_nlt hc_30), pays, if_pos (nle_lt hc_61), if_neg (le_nlt hc_120)]; try simp (disch := omega) only [upd_ne, upd_eq]; done)
          | (rw [stl, if_neg (le_nlt hc_30), pays, if_pos (nle_lt hc_61), if_pos (nle_lt hc_120)]; try simp (disch := omega) only [upd_ne, upd_eq])
      · refine wp_bipush (q := 125) d_Rf_settles_123 rfl bp_100 ?_
        refine wp_goto (tgt := 130) d_Rf_settles_125 (by decide) ?_
        refine wp_i2l (q := 131) d_Rf_settles_130 rfl ?_
        refine wp_lmul (q := 132) d_Rf_settles_131 rfl ?_
        refine wp_ldc2 (q := 135) d_Rf_settles_132 rfl kl_Rf_242 ?_
        refine wp_ldiv (q := 136) d_Rf_settles_135 rfl (by decide) ?_
        refine wp_l2i (q := 137) d_Rf_settles_136 rfl ?_
        first | refine wp_iaddN (q := 138) d_Rf_settles_137 rfl ?_ | refine wp_iadd (q := 138) d_Rf_settles_137 rfl ?_
        refine wp_iast (q := 139) d_Rf_settles_138 rfl (rfl) (by omega) (by decide) (fr_P) ?_
        refine wp_aload_n (q := 140) d_Rf_settles_139 rfl rfl ?_
        refine wp_get (q := 143) fl_Rf_7 d_Rf_settles_140 rfl rfl rfl ?_
        refine wp_sipush (q := 146) d_Rf_settles_143 rfl sp_168 ?_
        refine wp_iload_n (q := 147) d_Rf_settles_146 rfl rfl ?_
        first | refine wp_iaddN (q := 148) d_Rf_settles_147 rfl ?_ | refine wp_iadd (q := 148) d_Rf_settles_147 rfl ?_
        refine wp_iconst (q := 149) d_Rf_settles_148 rfl ic_0 ?_
        refine wp_iast (q := 150) d_Rf_settles_149 rfl (rfl) (by omega) (by decide) (fr_P) ?_
        refine wp_aload_n (q := 151) d_Rf_settles_150 rfl rfl ?_
        refine wp_get (q := 154) fl_Rf_7 d_Rf_settles_151 rfl rfl rfl ?_
        refine wp_sipush (q := 157) d_Rf_settles_154 rfl sp_180 ?_
        refine wp_iload_n (q := 158) d_Rf_settles_157 rfl rfl ?_
        first | refine wp_iaddN (q := 159) d_Rf_settles_158 rfl ?_ | refine wp_iadd (q := 159) d_Rf_settles_158 rfl ?_
        refine wp_iconst (q := 160) d_Rf_settles_159 rfl ic_0 ?_
        refine wp_iast (q := 161) d_Rf_settles_160 rfl (rfl) (by omega) (by decide) (fr_P) ?_
        refine wp_vret d_Rf_settles_161 rfl (Nat.le_refl _) (Nat.le_refl _) ?_
        refine kR hK rfl ?_
        first
          | (rw [stl, if_pos (nle_lt hc_30)]; try simp (disch := omega) only [upd_ne, upd_eq]; done)
          | (rw [stl, if_neg (le_nlt hc_30), pays, if_neg (le_nlt hc_61), if_neg (le_nlt hc_120)]; try simp (disch := omega) only [upd_ne, upd_eq]; done)
          | (rw [stl, if_neg (le_nlt hc_30), pays, if_neg (le_nlt hc_61), if_pos (nle_lt hc_120)]; try simp (disch := omega) only [upd_ne, upd_eq]; done)
          | (rw [stl, if_neg (le_nlt hc_30), pays, if_pos (nle_lt hc_61), if_neg (le_nlt hc_120)]; try simp (disch := omega) only [upd_ne, upd_eq]; done)
          | (rw [stl, if_neg (le_nlt hc_30), pays, if_pos (nle_lt hc_61), if_pos (nle_lt hc_120)]; try simp (disch := omega) only [upd_ne, upd_eq])
  · refine wp_aload_n (q := 34) d_Rf_settles_33 rfl rfl ?_
    refine wp_get (q := 37) fl_Rf_7 d_Rf_settles_34 rfl rfl rfl ?_
    refine wp_sipush (q := 40) d_Rf_settles_37 rfl sp_204 ?_
    refine wp_iload_n (q := 41) d_Rf_settles_40 rfl rfl ?_
    first | refine wp_iaddN (q := 42) d_Rf_settles_41 rfl ?_ | refine wp_iadd (q := 42) d_Rf_settles_41 rfl ?_
    refine wp_dup2 (q := 43) d_Rf_settles_42 rfl rfl rfl ?_
    refine wp_iald (q := 44) d_Rf_settles_43 rfl (rfl) (by omega) (by decide) ?_
    refine wp_iload_n (q := 45) d_Rf_settles_44 rfl rfl ?_
    refine wp_isub (q := 46) d_Rf_settles_45 rfl ?_
    refine wp_iast (q := 47) d_Rf_settles_46 rfl (rfl) (by omega) (by decide) (fr_P) ?_
    refine wp_goto (tgt := 139) d_Rf_settles_47 (by decide) ?_
    refine wp_aload_n (q := 140) d_Rf_settles_139 rfl rfl ?_
    refine wp_get (q := 143) fl_Rf_7 d_Rf_settles_140 rfl rfl rfl ?_
    refine wp_sipush (q := 146) d_Rf_settles_143 rfl sp_168 ?_
    refine wp_iload_n (q := 147) d_Rf_settles_146 rfl rfl ?_
    first | refine wp_iaddN (q := 148) d_Rf_settles_147 rfl ?_ | refine wp_iadd (q := 148) d_Rf_settles_147 rfl ?_
    refine wp_iconst (q := 149) d_Rf_settles_148 rfl ic_0 ?_
    refine wp_iast (q := 150) d_Rf_settles_149 rfl (rfl) (by omega) (by decide) (fr_P) ?_
    refine wp_aload_n (q := 151) d_Rf_settles_150 rfl rfl ?_
    refine wp_get (q := 154) fl_Rf_7 d_Rf_settles_151 rfl rfl rfl ?_
    refine wp_sipush (q := 157) d_Rf_settles_154 rfl sp_180 ?_
    refine wp_iload_n (q := 158) d_Rf_settles_157 rfl rfl ?_
    first | refine wp_iaddN (q := 159) d_Rf_settles_158 rfl ?_ | refine wp_iadd (q := 159) d_Rf_settles_158 rfl ?_
    refine wp_iconst (q := 160) d_Rf_settles_159 rfl ic_0 ?_
    refine wp_iast (q := 161) d_Rf_settles_160 rfl (rfl) (by omega) (by decide) (fr_P) ?_
    refine wp_vret d_Rf_settles_161 rfl (Nat.le_refl _) (Nat.le_refl _) ?_
    refine kR hK rfl ?_
    first
      | (rw [stl, if_pos (nle_lt hc_30)]; try simp (disch := omega) only [upd_ne, upd_eq]; done)
      | (rw [stl, if_neg (le_nlt hc_30), pays, if_neg (le_nlt hc_61), if_neg (le_nlt hc_120)]; try simp (disch := omega) only [upd_ne, upd_eq]; done)
      | (rw [stl, if_neg (le_nlt hc_30), pays, if_neg (le_nlt hc_61), if_pos (nle_lt hc_120)]; try simp (disch := omega) only [upd_ne, upd_eq]; done)
      | (rw [stl, if_neg (le_nlt hc_30), pays, if_pos (nle_lt hc_61), if_neg (le_nlt hc_120)]; try simp (disch := omega) only [upd_ne, upd_eq]; done)
      | (rw [stl, if_neg (le_nlt hc_30), pays, if_pos (nle_lt hc_61), if_pos (nle_lt hc_120)]; try simp (disch := omega) only [upd_ne, upd_eq])
theorem d_Tn_settle_0 : decode M_Tn_settle.2.1 0 = .ok (.aload_n 1, 1) := by decide +kernel
theorem d_Tn_settle_1 : decode M_Tn_settle.2.1 1 = .ok (.getfield 115, 3) := by decide +kernel
theorem d_Tn_settle_4 : decode M_Tn_settle.2.1 4 = .ok (.iload_n 2, 1) := by decide +kernel
theorem d_Tn_settle_5 : decode M_Tn_settle.2.1 5 = .ok (.aaload, 1) := by decide +kernel
theorem d_Tn_settle_6 : decode M_Tn_settle.2.1 6 = .ok (.astore_n 3, 1) := by decide +kernel
theorem d_Tn_settle_7 : decode M_Tn_settle.2.1 7 = .ok (.aload_n 3, 1) := by decide +kernel
theorem d_Tn_settle_8 : decode M_Tn_settle.2.1 8 = .ok (.getfield 146, 3) := by decide +kernel
theorem d_Tn_settle_11 : decode M_Tn_settle.2.1 11 = .ok (.aload_n 3, 1) := by decide +kernel
theorem d_Tn_settle_12 : decode M_Tn_settle.2.1 12 = .ok (.getfield 227, 3) := by decide +kernel
theorem d_Tn_settle_15 : decode M_Tn_settle.2.1 15 = .ok (.isub, 1) := by decide +kernel
theorem d_Tn_settle_16 : decode M_Tn_settle.2.1 16 = .ok (.aload_n 0, 1) := by decide +kernel
theorem d_Tn_settle_17 : decode M_Tn_settle.2.1 17 = .ok (.getfield 27, 3) := by decide +kernel
theorem d_Tn_settle_20 : decode M_Tn_settle.2.1 20 = .ok (.iload_n 2, 1) := by decide +kernel
theorem d_Tn_settle_21 : decode M_Tn_settle.2.1 21 = .ok (.iaload, 1) := by decide +kernel
theorem d_Tn_settle_22 : decode M_Tn_settle.2.1 22 = .ok (.isub, 1) := by decide +kernel
theorem d_Tn_settle_23 : decode M_Tn_settle.2.1 23 = .ok (.istore 4, 2) := by decide +kernel
theorem d_Tn_settle_25 : decode M_Tn_settle.2.1 25 = .ok (.iload 4, 2) := by decide +kernel
theorem d_Tn_settle_27 : decode M_Tn_settle.2.1 27 = .ok (.ifCond .ge 17, 3) := by decide +kernel
theorem d_Tn_settle_30 : decode M_Tn_settle.2.1 30 = .ok (.aload_n 3, 1) := by decide +kernel
theorem d_Tn_settle_31 : decode M_Tn_settle.2.1 31 = .ok (.dup, 1) := by decide +kernel
theorem d_Tn_settle_32 : decode M_Tn_settle.2.1 32 = .ok (.getfield 248, 3) := by decide +kernel
theorem d_Tn_settle_35 : decode M_Tn_settle.2.1 35 = .ok (.iload 4, 2) := by decide +kernel
theorem d_Tn_settle_37 : decode M_Tn_settle.2.1 37 = .ok (.isub, 1) := by decide +kernel
theorem d_Tn_settle_38 : decode M_Tn_settle.2.1 38 = .ok (.putfield 248, 3) := by decide +kernel
theorem d_Tn_settle_41 : decode M_Tn_settle.2.1 41 = .ok (.goto 67, 3) := by decide +kernel
theorem d_Tn_settle_44 : decode M_Tn_settle.2.1 44 = .ok (.iload 4, 2) := by decide +kernel
theorem d_Tn_settle_46 : decode M_Tn_settle.2.1 46 = .ok (.aload_n 3, 1) := by decide +kernel
theorem d_Tn_settle_47 : decode M_Tn_settle.2.1 47 = .ok (.getfield 248, 3) := by decide +kernel
theorem d_Tn_settle_50 : decode M_Tn_settle.2.1 50 = .ok (.invokestatic 95, 3) := by decide +kernel
theorem d_Tn_settle_53 : decode M_Tn_settle.2.1 53 = .ok (.istore 5, 2) := by decide +kernel
theorem d_Tn_settle_55 : decode M_Tn_settle.2.1 55 = .ok (.bipush 100, 2) := by decide +kernel
theorem d_Tn_settle_57 : decode M_Tn_settle.2.1 57 = .ok (.aload_n 0, 1) := by decide +kernel
theorem d_Tn_settle_58 : decode M_Tn_settle.2.1 58 = .ok (.aload_n 0, 1) := by decide +kernel
theorem d_Tn_settle_59 : decode M_Tn_settle.2.1 59 = .ok (.aload_n 1, 1) := by decide +kernel
theorem d_Tn_settle_60 : decode M_Tn_settle.2.1 60 = .ok (.iload_n 2, 1) := by decide +kernel
theorem d_Tn_settle_61 : decode M_Tn_settle.2.1 61 = .ok (.invokevirtual 192, 3) := by decide +kernel
theorem d_Tn_settle_64 : decode M_Tn_settle.2.1 64 = .ok (.iconst 2, 1) := by decide +kernel
theorem d_Tn_settle_65 : decode M_Tn_settle.2.1 65 = .ok (.invokevirtual 196, 3) := by decide +kernel
theorem d_Tn_settle_68 : decode M_Tn_settle.2.1 68 = .ok (.invokestatic 95, 3) := by decide +kernel
theorem d_Tn_settle_71 : decode M_Tn_settle.2.1 71 = .ok (.i2l, 1) := by decide +kernel
theorem d_Tn_settle_72 : decode M_Tn_settle.2.1 72 = .ok (.lstore 6, 2) := by decide +kernel
theorem d_Tn_settle_74 : decode M_Tn_settle.2.1 74 = .ok (.aload_n 3, 1) := by decide +kernel
theorem d_Tn_settle_75 : decode M_Tn_settle.2.1 75 = .ok (.dup, 1) := by decide +kernel
theorem d_Tn_settle_76 : decode M_Tn_settle.2.1 76 = .ok (.getfield 248, 3) := by decide +kernel
theorem d_Tn_settle_79 : decode M_Tn_settle.2.1 79 = .ok (.iload 5, 2) := by decide +kernel
theorem d_Tn_settle_81 : decode M_Tn_settle.2.1 81 = .ok (.isub, 1) := by decide +kernel
theorem d_Tn_settle_82 : decode M_Tn_settle.2.1 82 = .ok (.putfield 248, 3) := by decide +kernel
theorem d_Tn_settle_85 : decode M_Tn_settle.2.1 85 = .ok (.aload_n 3, 1) := by decide +kernel
theorem d_Tn_settle_86 : decode M_Tn_settle.2.1 86 = .ok (.dup, 1) := by decide +kernel
theorem d_Tn_settle_87 : decode M_Tn_settle.2.1 87 = .ok (.getfield 251, 3) := by decide +kernel
theorem d_Tn_settle_90 : decode M_Tn_settle.2.1 90 = .ok (.iload 4, 2) := by decide +kernel
theorem d_Tn_settle_92 : decode M_Tn_settle.2.1 92 = .ok (.iload 5, 2) := by decide +kernel
theorem d_Tn_settle_94 : decode M_Tn_settle.2.1 94 = .ok (.isub, 1) := by decide +kernel
theorem d_Tn_settle_95 : decode M_Tn_settle.2.1 95 = .ok (.i2l, 1) := by decide +kernel
theorem d_Tn_settle_96 : decode M_Tn_settle.2.1 96 = .ok (.lload 6, 2) := by decide +kernel
theorem d_Tn_settle_98 : decode M_Tn_settle.2.1 98 = .ok (.lmul, 1) := by decide +kernel
theorem d_Tn_settle_99 : decode M_Tn_settle.2.1 99 = .ok (.ldc2_w 254, 3) := by decide +kernel
theorem d_Tn_settle_102 : decode M_Tn_settle.2.1 102 = .ok (.ldiv, 1) := by decide +kernel
theorem d_Tn_settle_103 : decode M_Tn_settle.2.1 103 = .ok (.l2i, 1) := by decide +kernel
theorem d_Tn_settle_104 : decode M_Tn_settle.2.1 104 = .ok (.iadd, 1) := by decide +kernel
theorem d_Tn_settle_105 : decode M_Tn_settle.2.1 105 = .ok (.putfield 251, 3) := by decide +kernel
theorem d_Tn_settle_108 : decode M_Tn_settle.2.1 108 = .ok (.aload_n 3, 1) := by decide +kernel
theorem d_Tn_settle_109 : decode M_Tn_settle.2.1 109 = .ok (.iconst 0, 1) := by decide +kernel
theorem d_Tn_settle_110 : decode M_Tn_settle.2.1 110 = .ok (.putfield 146, 3) := by decide +kernel
theorem d_Tn_settle_113 : decode M_Tn_settle.2.1 113 = .ok (.aload_n 3, 1) := by decide +kernel
theorem d_Tn_settle_114 : decode M_Tn_settle.2.1 114 = .ok (.iconst 0, 1) := by decide +kernel
theorem d_Tn_settle_115 : decode M_Tn_settle.2.1 115 = .ok (.putfield 227, 3) := by decide +kernel
theorem d_Tn_settle_118 : decode M_Tn_settle.2.1 118 = .ok (.return_, 1) := by decide +kernel
set_option maxHeartbeats 4000000 in
set_option maxRecDepth 100000 in
theorem ok_Tn_settle {D : xD} {N : Nat} {l : Launch} {d : Nat} {c x V : T2} {P : Nat → Int32} {w : Nat} {ln df : Nat → Option Nat} {rest : List va_E} {K : Option Value → List va_E → Prop} {nb : Nat} (h12 : nb ≤ 12) (hz : ∀ b, nb ≤ b → b < 12 → P (72 + b) = nI 0) (hw : w < 3) {m : Nat} (em : P 234 = nI m) (hm : m < 14700) {b s : Nat} (hb : b < 12) (hs : s < 6) (es : P (84 + b) = nI s) (hCI : CI c) (hLOK : LOK D N c ln rest) (hK : ∀ x2 : T2, K none (encC D N c x2 (va_up V w (stl P b (P (168 + b) - P (180 + b) - c 7 b) (lawv c P nb m s b 2))) ln df ++ rest)) : Ok D N l (d + 3) M_Tn_settle [.ref (N + 1), .ref (N + wA w), .int (nI b)] (encC D N c x (va_up V w P) ln df ++ rest) 0 0 K := by
  refine ok_of (L := [(0, _), (1, _), (2, _)]) (by decide) (Nat.le_of_ble_eq_true rfl) rfl ?_
  refine wp_aload_n (q := 1) d_Tn_settle_0 rfl rfl ?_
  refine wp_get (q := 4) fl_Tn_115 d_Tn_settle_1 rfl (rdO (w := w) hw) rfl ?_
  refine wp_iload_n (q := 5) d_Tn_settle_4 rfl rfl ?_
  refine wp_aldR (q := 6) d_Tn_settle_5 rfl (rd4 (w := w) hw) (by omega) (by decide) (rowsW_at (by omega)) ?_
  refine wp_astore_n (q := 7) (L2 := [(3, _), (0, _), (1, _), (2, _)]) d_Tn_settle_6 rfl (by decide) rfl ?_
  refine wp_aload_n (q := 8) d_Tn_settle_7 rfl rfl ?_
  refine wp_get (q := 11) fl_Tn_146 d_Tn_settle_8 rfl (rdR (w := w) hw hb) rfl ?_
  refine wp_aload_n (q := 12) d_Tn_settle_11 rfl rfl ?_
  refine wp_get (q := 15) fl_Tn_227 d_Tn_settle_12 rfl (rdR (w := w) hw hb) rfl ?_
  refine wp_isub (q := 16) d_Tn_settle_15 rfl ?_
  refine wp_aload_n (q := 17) d_Tn_settle_16 rfl rfl ?_
  refine wp_get (q := 20) fl_Tn_27 d_Tn_settle_17 rfl rfl rfl ?_
  refine wp_iload_n (q := 21) d_Tn_settle_20 rfl rfl ?_
  refine wp_iald (q := 22) d_Tn_settle_21 rfl (rfl) (by omega) (by decide) ?_
  refine wp_isub (q := 23) d_Tn_settle_22 rfl ?_
  refine wp_istore (q := 25) (L2 := [(4, _), (3, _), (0, _), (1, _), (2, _)]) d_Tn_settle_23 rfl (by decide) rfl ?_
  refine wp_iload (q := 27) d_Tn_settle_25 rfl rfl ?_
  refine wp_if_ge (q := 30) (tgt := 44) d_Tn_settle_27 (by decide) rfl (fun hc_27 => ?_) (fun hc_27 => ?_)
  · refine wp_iload (q := 46) d_Tn_settle_44 rfl rfl ?_
    refine wp_aload_n (q := 47) d_Tn_settle_46 rfl rfl ?_
    refine wp_get (q := 50) fl_Tn_248 d_Tn_settle_47 rfl (rdR (w := w) hw hb) rfl ?_
    refine wp_mmin km_Tn_95 (RO0 ()) d_Tn_settle_50 rfl (Nat.le_of_ble_eq_true rfl) (Nat.zero_le _) (Nat.zero_le _) ?_
    rw [minE]
    refine wp_istore (q := 55) (L2 := [(5, _), (4, _), (3, _), (0, _), (1, _), (2, _)]) d_Tn_settle_53 rfl (by decide) rfl ?_
    refine wp_bipush (q := 57) d_Tn_settle_55 rfl bp_100 ?_
    refine wp_aload_n (q := 58) d_Tn_settle_57 rfl rfl ?_
    refine wp_aload_n (q := 59) d_Tn_settle_58 rfl rfl ?_
    refine wp_aload_n (q := 60) d_Tn_settle_59 rfl rfl ?_
    refine wp_iload_n (q := 61) d_Tn_settle_60 rfl rfl ?_
    refine wp_cv2 (q := 64) lk_Tn_192 (ro _ _ _) d_Tn_settle_61 rfl (Nat.le_of_ble_eq_true rfl) (rfl) rfl (Nat.zero_le _) (Nat.zero_le _) ?_
    refine ok_Tn_factsOf (w := w) h12 hz hw em hm hb hs es ?_
    intro F hF
    refine wp_iconst (q := 65) d_Tn_settle_64 rfl ic_2 ?_
    refine wp_cv2 (q := 68) lk_Tn_196 (ro _ _ _) d_Tn_settle_65 rfl (Nat.le_of_ble_eq_true rfl) (rfl) rfl (Nat.zero_le _) (Nat.zero_le _) ?_
    refine ok_Tn_says (P := P) (nb := nb) (m := m) (s := s) (b := b) (key := 2) hs (by decide) hCI hLOK (fun f hf => by rw [tput_eq]; exact hF f hf) ?_
    refine wp_mmin km_Tn_95 (RO0 ()) d_Tn_settle_68 rfl (Nat.le_of_ble_eq_true rfl) (Nat.zero_le _) (Nat.zero_le _) ?_
    rw [minE (nI 100)]
    refine wp_i2l (q := 72) d_Tn_settle_71 rfl ?_
    refine wp_lstore (q := 74) (L2 := [(6, _), (5, _), (4, _), (3, _), (0, _), (1, _), (2, _)]) d_Tn_settle_72 rfl (by decide) rfl ?_
    refine wp_aload_n (q := 75) d_Tn_settle_74 rfl rfl ?_
    refine wp_dup (q := 76) d_Tn_settle_75 rfl rfl ?_
    refine wp_get (q := 79) fl_Tn_248 d_Tn_settle_76 rfl (rdR (w := w) hw hb) rfl ?_
    refine wp_iload (q := 81) d_Tn_settle_79 rfl rfl ?_
    refine wp_isub (q := 82) d_Tn_settle_81 rfl ?_
    refine wp_put (q := 85) fl_Tn_248 d_Tn_settle_82 rfl (rdR (w := w) hw hb) (Nat.le_of_ble_eq_true rfl) rfl rfl (fdw (w := w) hw (by omega) (ws_r11 hb)) ?_
    refine wp_aload_n (q := 86) d_Tn_settle_85 rfl rfl ?_
    refine wp_dup (q := 87) d_Tn_settle_86 rfl rfl ?_
    refine wp_get (q := 90) fl_Tn_251 d_Tn_settle_87 rfl (rdR (w := w) hw hb) rfl ?_
    simp (disch := omega) only [upd_ne, upd_eq]
    refine wp_iload (q := 92) d_Tn_settle_90 rfl rfl ?_
    refine wp_iload (q := 94) d_Tn_settle_92 rfl rfl ?_
    refine wp_isub (q := 95) d_Tn_settle_94 rfl ?_
    refine wp_i2l (q := 96) d_Tn_settle_95 rfl ?_
    refine wp_lload (q := 98) d_Tn_settle_96 rfl rfl ?_
    refine wp_lmul (q := 99) d_Tn_settle_98 rfl ?_
    refine wp_ldc2 (q := 102) d_Tn_settle_99 rfl kl_Tn_254 ?_
    refine wp_ldiv (q := 103) d_Tn_settle_102 rfl (by decide) ?_
    refine wp_l2i (q := 104) d_Tn_settle_103 rfl ?_
    first | refine wp_iaddN (q := 105) d_Tn_settle_104 rfl ?_ | refine wp_iadd (q := 105) d_Tn_settle_104 rfl ?_
    refine wp_put (q := 108) fl_Tn_251 d_Tn_settle_105 rfl (rdR (w := w) hw hb) (Nat.le_of_ble_eq_true rfl) rfl rfl (fdw (w := w) hw (by omega) (ws_r10 hb)) ?_
    refine wp_aload_n (q := 109) d_Tn_settle_108 rfl rfl ?_
    refine wp_iconst (q := 110) d_Tn_settle_109 rfl ic_0 ?_
    refine wp_put (q := 113) fl_Tn_146 d_Tn_settle_110 rfl (rdR (w := w) hw hb) (Nat.le_of_ble_eq_true rfl) rfl rfl (fdw (w := w) hw (by omega) (ws_r8 hb)) ?_
    refine wp_aload_n (q := 114) d_Tn_settle_113 rfl rfl ?_
    refine wp_iconst (q := 115) d_Tn_settle_114 rfl ic_0 ?_
    refine wp_put (q := 118) fl_Tn_227 d_Tn_settle_115 rfl (rdR (w := w) hw hb) (Nat.le_of_ble_eq_true rfl) rfl rfl (fdw (w := w) hw (by omega) (ws_r9 hb)) ?_
    refine wp_vret d_Tn_settle_118 rfl (Nat.le_refl _) (Nat.le_refl _) ?_
    refine kP (hK _) rfl ?_
    first
      | (rw [stl, if_pos (nle_lt hc_27)]; try simp (disch := omega) only [upd_ne, upd_eq]; done)
      | (rw [stl, if_neg (le_nlt hc_27), pays]; try simp (disch := omega) only [upd_ne, upd_eq])
  · refine wp_aload_n (q := 31) d_Tn_settle_30 rfl rfl ?_
    refine wp_dup (q := 32) d_Tn_settle_31 rfl rfl ?_
    refine wp_get (q := 35) fl_Tn_248 d_Tn_settle_32 rfl (rdR (w := w) hw hb) rfl ?_
    refine wp_iload (q := 37) d_Tn_settle_35 rfl rfl ?_
    refine wp_isub (q := 38) d_Tn_settle_37 rfl ?_
    refine wp_put (q := 41) fl_Tn_248 d_Tn_settle_38 rfl (rdR (w := w) hw hb) (Nat.le_of_ble_eq_true rfl) rfl rfl (fdw (w := w) hw (by omega) (ws_r11 hb)) ?_
    refine wp_goto (tgt := 108) d_Tn_settle_41 (by decide) ?_
    refine wp_aload_n (q := 109) d_Tn_settle_108 rfl rfl ?_
    refine wp_iconst (q := 110) d_Tn_settle_109 rfl ic_0 ?_
    refine wp_put (q := 113) fl_Tn_146 d_Tn_settle_110 rfl (rdR (w := w) hw hb) (Nat.le_of_ble_eq_true rfl) rfl rfl (fdw (w := w) hw (by omega) (ws_r8 hb)) ?_
    refine wp_aload_n (q := 114) d_Tn_settle_113 rfl rfl ?_
    refine wp_iconst (q := 115) d_Tn_settle_114 rfl ic_0 ?_
    refine wp_put (q := 118) fl_Tn_227 d_Tn_settle_115 rfl (rdR (w := w) hw hb) (Nat.le_of_ble_eq_true rfl) rfl rfl (fdw (w := w) hw (by omega) (ws_r9 hb)) ?_
    refine wp_vret d_Tn_settle_118 rfl (Nat.le_refl _) (Nat.le_refl _) ?_
    refine kP (hK _) rfl ?_
    first
      | (rw [stl, if_pos (nle_lt hc_27)]; try simp (disch := omega) only [upd_ne, upd_eq]; done)
      | (rw [stl, if_neg (le_nlt hc_27), pays]; try simp (disch := omega) only [upd_ne, upd_eq])
end
