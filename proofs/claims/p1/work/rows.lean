section
def lw_okq (q : MethodName × Nat) : Prop := (q.1.cls ≠ "java/lang/invoke/MethodHandle" ∧ q.1.cls ≠ "java/lang/invoke/VarHandle") ∧ Cond.instantiable q.1.cls q.2 ∈ tables_1 ∧ Cond.privateMethod q.1 ∈ tables_1 ∧ Cond.instanceMethod q.1 ∈ tables_1
theorem lw_p0 : lw_okq (⟨"NextOneKnows$Ahead", "hearOf", "(LNextOneKnows$Doing;)V"⟩, 16) := ⟨⟨by decide +kernel, by decide +kernel⟩, List.mem_of_getElem? (i := 98) (by decide +kernel), List.mem_of_getElem? (i := 451) (by decide +kernel), List.mem_of_getElem? (i := 452) (by decide +kernel)⟩
theorem lw_p1 : lw_okq (⟨"NextOneKnows$Post", "holds", "(ILNextOneKnows$Doing;II)Z"⟩, 12) := ⟨⟨by decide +kernel, by decide +kernel⟩, List.mem_of_getElem? (i := 183) (by decide +kernel), List.mem_of_getElem? (i := 463) (by decide +kernel), List.mem_of_getElem? (i := 464) (by decide +kernel)⟩
theorem lw_p2 : lw_okq (⟨"NextOneKnows$Post", "takes", "(I)Z"⟩, 12) := ⟨⟨by decide +kernel, by decide +kernel⟩, List.mem_of_getElem? (i := 183) (by decide +kernel), List.mem_of_getElem? (i := 537) (by decide +kernel), List.mem_of_getElem? (i := 538) (by decide +kernel)⟩
theorem lw_p3 : lw_okq (⟨"NextOneKnows$Post", "here", "()I"⟩, 12) := ⟨⟨by decide +kernel, by decide +kernel⟩, List.mem_of_getElem? (i := 183) (by decide +kernel), List.mem_of_getElem? (i := 541) (by decide +kernel), List.mem_of_getElem? (i := 542) (by decide +kernel)⟩
theorem lw_p4 : lw_okq (⟨"NextOneKnows$Post", "readClause", "()V"⟩, 12) := ⟨⟨by decide +kernel, by decide +kernel⟩, List.mem_of_getElem? (i := 183) (by decide +kernel), List.mem_of_getElem? (i := 545) (by decide +kernel), List.mem_of_getElem? (i := 546) (by decide +kernel)⟩
theorem lw_p5 : lw_okq (⟨"NextOneKnows$Post", "readWord", "()I"⟩, 12) := ⟨⟨by decide +kernel, by decide +kernel⟩, List.mem_of_getElem? (i := 183) (by decide +kernel), List.mem_of_getElem? (i := 549) (by decide +kernel), List.mem_of_getElem? (i := 550) (by decide +kernel)⟩
theorem lw_p6 : lw_okq (⟨"NextOneKnows$Post", "needs", "(I)V"⟩, 12) := ⟨⟨by decide +kernel, by decide +kernel⟩, List.mem_of_getElem? (i := 183) (by decide +kernel), List.mem_of_getElem? (i := 553) (by decide +kernel), List.mem_of_getElem? (i := 554) (by decide +kernel)⟩
theorem lw_p7 : lw_okq (⟨"NextOneKnows$Post", "takeIf", "(Z)V"⟩, 12) := ⟨⟨by decide +kernel, by decide +kernel⟩, List.mem_of_getElem? (i := 183) (by decide +kernel), List.mem_of_getElem? (i := 557) (by decide +kernel), List.mem_of_getElem? (i := 558) (by decide +kernel)⟩
theorem lw_p8 : lw_okq (⟨"NextOneKnows$Post", "readNumber", "()I"⟩, 12) := ⟨⟨by decide +kernel, by decide +kernel⟩, List.mem_of_getElem? (i := 183) (by decide +kernel), List.mem_of_getElem? (i := 561) (by decide +kernel), List.mem_of_getElem? (i := 562) (by decide +kernel)⟩
theorem lw_p9 : lw_okq (⟨"NextOneKnows$Post", "readEither", "(I)V"⟩, 12) := ⟨⟨by decide +kernel, by decide +kernel⟩, List.mem_of_getElem? (i := 183) (by decide +kernel), List.mem_of_getElem? (i := 565) (by decide +kernel), List.mem_of_getElem? (i := 566) (by decide +kernel)⟩
theorem lw_p10 : lw_okq (⟨"NextOneKnows$Post", "readPart", "(I)V"⟩, 12) := ⟨⟨by decide +kernel, by decide +kernel⟩, List.mem_of_getElem? (i := 183) (by decide +kernel), List.mem_of_getElem? (i := 569) (by decide +kernel), List.mem_of_getElem? (i := 570) (by decide +kernel)⟩
theorem lw_p11 : lw_okq (⟨"NextOneKnows$Post", "keep", "(I)V"⟩, 12) := ⟨⟨by decide +kernel, by decide +kernel⟩, List.mem_of_getElem? (i := 183) (by decide +kernel), List.mem_of_getElem? (i := 573) (by decide +kernel), List.mem_of_getElem? (i := 574) (by decide +kernel)⟩
theorem lw_p12 : lw_okq (⟨"NextOneKnows$Post", "readTest", "()V"⟩, 12) := ⟨⟨by decide +kernel, by decide +kernel⟩, List.mem_of_getElem? (i := 183) (by decide +kernel), List.mem_of_getElem? (i := 577) (by decide +kernel), List.mem_of_getElem? (i := 578) (by decide +kernel)⟩
theorem lw_p13 : lw_okq (⟨"NextOneKnows$Ahead", "lookDear", "(II)V"⟩, 16) := ⟨⟨by decide +kernel, by decide +kernel⟩, List.mem_of_getElem? (i := 98) (by decide +kernel), List.mem_of_getElem? (i := 647) (by decide +kernel), List.mem_of_getElem? (i := 648) (by decide +kernel)⟩
theorem lw_p14 : lw_okq (⟨"NextOneKnows$Ahead", "stopAll", "(II)V"⟩, 16) := ⟨⟨by decide +kernel, by decide +kernel⟩, List.mem_of_getElem? (i := 98) (by decide +kernel), List.mem_of_getElem? (i := 661) (by decide +kernel), List.mem_of_getElem? (i := 662) (by decide +kernel)⟩
theorem lw_p15 : lw_okq (⟨"NextOneKnows$Ahead", "stop", "(LNextOneKnows$Doing;I)V"⟩, 16) := ⟨⟨by decide +kernel, by decide +kernel⟩, List.mem_of_getElem? (i := 98) (by decide +kernel), List.mem_of_getElem? (i := 665) (by decide +kernel), List.mem_of_getElem? (i := 666) (by decide +kernel)⟩
def lw_privs_1 : List (MethodName × Nat) := [(⟨"NextOneKnows$Ahead", "hearOf", "(LNextOneKnows$Doing;)V"⟩, 16), (⟨"NextOneKnows$Post", "holds", "(ILNextOneKnows$Doing;II)Z"⟩, 12), (⟨"NextOneKnows$Post", "takes", "(I)Z"⟩, 12), (⟨"NextOneKnows$Post", "here", "()I"⟩, 12), (⟨"NextOneKnows$Post", "readClause", "()V"⟩, 12), (⟨"NextOneKnows$Post", "readWord", "()I"⟩, 12), (⟨"NextOneKnows$Post", "needs", "(I)V"⟩, 12), (⟨"NextOneKnows$Post", "takeIf", "(Z)V"⟩, 12), (⟨"NextOneKnows$Post", "readNumber", "()I"⟩, 12), (⟨"NextOneKnows$Post", "readEither", "(I)V"⟩, 12), (⟨"NextOneKnows$Post", "readPart", "(I)V"⟩, 12), (⟨"NextOneKnows$Post", "keep", "(I)V"⟩, 12), (⟨"NextOneKnows$Post", "readTest", "()V"⟩, 12), (⟨"NextOneKnows$Ahead", "lookDear", "(II)V"⟩, 16), (⟨"NextOneKnows$Ahead", "stopAll", "(II)V"⟩, 16), (⟨"NextOneKnows$Ahead", "stop", "(LNextOneKnows$Doing;I)V"⟩, 16)]
theorem lw_r1 : ∀ q ∈ lw_privs_1, lw_okq q := List.forall_mem_cons.mpr ⟨lw_p0, List.forall_mem_cons.mpr ⟨lw_p1, List.forall_mem_cons.mpr ⟨lw_p2, List.forall_mem_cons.mpr ⟨lw_p3, List.forall_mem_cons.mpr ⟨lw_p4, List.forall_mem_cons.mpr ⟨lw_p5, List.forall_mem_cons.mpr ⟨lw_p6, List.forall_mem_cons.mpr ⟨lw_p7, List.forall_mem_cons.mpr ⟨lw_p8, List.forall_mem_cons.mpr ⟨lw_p9, List.forall_mem_cons.mpr ⟨lw_p10, List.forall_mem_cons.mpr ⟨lw_p11, List.forall_mem_cons.mpr ⟨lw_p12, List.forall_mem_cons.mpr ⟨lw_p13, List.forall_mem_cons.mpr ⟨lw_p14, List.forall_mem_cons.mpr ⟨lw_p15, fun _ h => absurd h List.not_mem_nil⟩⟩⟩⟩⟩⟩⟩⟩⟩⟩⟩⟩⟩⟩⟩⟩
theorem lw_p16 : lw_okq (⟨"NextOneKnows$Ahead", "share", "(IIII)V"⟩, 16) := ⟨⟨by decide +kernel, by decide +kernel⟩, List.mem_of_getElem? (i := 98) (by decide +kernel), List.mem_of_getElem? (i := 713) (by decide +kernel), List.mem_of_getElem? (i := 714) (by decide +kernel)⟩
theorem lw_p17 : lw_okq (⟨"NextOneKnowsModel", "in", "(III)Z"⟩, 73) := ⟨⟨by decide +kernel, by decide +kernel⟩, List.mem_of_getElem? (i := 946) (by decide +kernel), List.mem_of_getElem? (i := 1177) (by decide +kernel), List.mem_of_getElem? (i := 1178) (by decide +kernel)⟩
theorem lw_p18 : lw_okq (⟨"NextOneKnowsModel", "with", "(IIZ)I"⟩, 73) := ⟨⟨by decide +kernel, by decide +kernel⟩, List.mem_of_getElem? (i := 946) (by decide +kernel), List.mem_of_getElem? (i := 1181) (by decide +kernel), List.mem_of_getElem? (i := 1182) (by decide +kernel)⟩
theorem lw_p19 : lw_okq (⟨"NextOneKnowsModel", "isDoing", "(I)Z"⟩, 73) := ⟨⟨by decide +kernel, by decide +kernel⟩, List.mem_of_getElem? (i := 946) (by decide +kernel), List.mem_of_getElem? (i := 1189) (by decide +kernel), List.mem_of_getElem? (i := 1190) (by decide +kernel)⟩
theorem lw_p20 : lw_okq (⟨"NextOneKnowsModel", "has", "(II)Z"⟩, 73) := ⟨⟨by decide +kernel, by decide +kernel⟩, List.mem_of_getElem? (i := 946) (by decide +kernel), List.mem_of_getElem? (i := 1193) (by decide +kernel), List.mem_of_getElem? (i := 1194) (by decide +kernel)⟩
theorem lw_p21 : lw_okq (⟨"NextOneKnowsModel", "isWay", "(I)Z"⟩, 73) := ⟨⟨by decide +kernel, by decide +kernel⟩, List.mem_of_getElem? (i := 946) (by decide +kernel), List.mem_of_getElem? (i := 1209) (by decide +kernel), List.mem_of_getElem? (i := 1210) (by decide +kernel)⟩
theorem lw_p22 : lw_okq (⟨"NextOneKnowsModel", "goesText", "(I)Z"⟩, 73) := ⟨⟨by decide +kernel, by decide +kernel⟩, List.mem_of_getElem? (i := 946) (by decide +kernel), List.mem_of_getElem? (i := 1221) (by decide +kernel), List.mem_of_getElem? (i := 1222) (by decide +kernel)⟩
theorem lw_p23 : lw_okq (⟨"NextOneKnowsModel", "takesClause", "(I)Z"⟩, 73) := ⟨⟨by decide +kernel, by decide +kernel⟩, List.mem_of_getElem? (i := 946) (by decide +kernel), List.mem_of_getElem? (i := 1225) (by decide +kernel), List.mem_of_getElem? (i := 1226) (by decide +kernel)⟩
theorem lw_p24 : lw_okq (⟨"NextOneKnowsModel", "takesHead", "(I)Z"⟩, 73) := ⟨⟨by decide +kernel, by decide +kernel⟩, List.mem_of_getElem? (i := 946) (by decide +kernel), List.mem_of_getElem? (i := 1229) (by decide +kernel), List.mem_of_getElem? (i := 1230) (by decide +kernel)⟩
theorem lw_p25 : lw_okq (⟨"NextOneKnowsModel", "second", "()I"⟩, 73) := ⟨⟨by decide +kernel, by decide +kernel⟩, List.mem_of_getElem? (i := 946) (by decide +kernel), List.mem_of_getElem? (i := 1233) (by decide +kernel), List.mem_of_getElem? (i := 1234) (by decide +kernel)⟩
theorem lw_p26 : lw_okq (⟨"NextOneKnowsModel", "next", "()I"⟩, 73) := ⟨⟨by decide +kernel, by decide +kernel⟩, List.mem_of_getElem? (i := 946) (by decide +kernel), List.mem_of_getElem? (i := 1237) (by decide +kernel), List.mem_of_getElem? (i := 1238) (by decide +kernel)⟩
theorem lw_p27 : lw_okq (⟨"NextOneKnowsModel", "takesWord", "(II)Z"⟩, 73) := ⟨⟨by decide +kernel, by decide +kernel⟩, List.mem_of_getElem? (i := 946) (by decide +kernel), List.mem_of_getElem? (i := 1241) (by decide +kernel), List.mem_of_getElem? (i := 1242) (by decide +kernel)⟩
theorem lw_p28 : lw_okq (⟨"NextOneKnowsModel", "takes", "(I)Z"⟩, 73) := ⟨⟨by decide +kernel, by decide +kernel⟩, List.mem_of_getElem? (i := 946) (by decide +kernel), List.mem_of_getElem? (i := 1245) (by decide +kernel), List.mem_of_getElem? (i := 1246) (by decide +kernel)⟩
theorem lw_p29 : lw_okq (⟨"NextOneKnowsModel", "takesNumber", "()Z"⟩, 73) := ⟨⟨by decide +kernel, by decide +kernel⟩, List.mem_of_getElem? (i := 946) (by decide +kernel), List.mem_of_getElem? (i := 1249) (by decide +kernel), List.mem_of_getElem? (i := 1250) (by decide +kernel)⟩
theorem lw_p30 : lw_okq (⟨"NextOneKnowsModel", "isDigit", "()Z"⟩, 73) := ⟨⟨by decide +kernel, by decide +kernel⟩, List.mem_of_getElem? (i := 946) (by decide +kernel), List.mem_of_getElem? (i := 1253) (by decide +kernel), List.mem_of_getElem? (i := 1254) (by decide +kernel)⟩
theorem lw_p31 : lw_okq (⟨"NextOneKnowsModel", "takesE", "(I)Z"⟩, 73) := ⟨⟨by decide +kernel, by decide +kernel⟩, List.mem_of_getElem? (i := 946) (by decide +kernel), List.mem_of_getElem? (i := 1257) (by decide +kernel), List.mem_of_getElem? (i := 1258) (by decide +kernel)⟩
def lw_privs_2 : List (MethodName × Nat) := [(⟨"NextOneKnows$Ahead", "share", "(IIII)V"⟩, 16), (⟨"NextOneKnowsModel", "in", "(III)Z"⟩, 73), (⟨"NextOneKnowsModel", "with", "(IIZ)I"⟩, 73), (⟨"NextOneKnowsModel", "isDoing", "(I)Z"⟩, 73), (⟨"NextOneKnowsModel", "has", "(II)Z"⟩, 73), (⟨"NextOneKnowsModel", "isWay", "(I)Z"⟩, 73), (⟨"NextOneKnowsModel", "goesText", "(I)Z"⟩, 73), (⟨"NextOneKnowsModel", "takesClause", "(I)Z"⟩, 73), (⟨"NextOneKnowsModel", "takesHead", "(I)Z"⟩, 73), (⟨"NextOneKnowsModel", "second", "()I"⟩, 73), (⟨"NextOneKnowsModel", "next", "()I"⟩, 73), (⟨"NextOneKnowsModel", "takesWord", "(II)Z"⟩, 73), (⟨"NextOneKnowsModel", "takes", "(I)Z"⟩, 73), (⟨"NextOneKnowsModel", "takesNumber", "()Z"⟩, 73), (⟨"NextOneKnowsModel", "isDigit", "()Z"⟩, 73), (⟨"NextOneKnowsModel", "takesE", "(I)Z"⟩, 73)]
theorem lw_r2 : ∀ q ∈ lw_privs_2, lw_okq q := List.forall_mem_cons.mpr ⟨lw_p16, List.forall_mem_cons.mpr ⟨lw_p17, List.forall_mem_cons.mpr ⟨lw_p18, List.forall_mem_cons.mpr ⟨lw_p19, List.forall_mem_cons.mpr ⟨lw_p20, List.forall_mem_cons.mpr ⟨lw_p21, List.forall_mem_cons.mpr ⟨lw_p22, List.forall_mem_cons.mpr ⟨lw_p23, List.forall_mem_cons.mpr ⟨lw_p24, List.forall_mem_cons.mpr ⟨lw_p25, List.forall_mem_cons.mpr ⟨lw_p26, List.forall_mem_cons.mpr ⟨lw_p27, List.forall_mem_cons.mpr ⟨lw_p28, List.forall_mem_cons.mpr ⟨lw_p29, List.forall_mem_cons.mpr ⟨lw_p30, List.forall_mem_cons.mpr ⟨lw_p31, fun _ h => absurd h List.not_mem_nil⟩⟩⟩⟩⟩⟩⟩⟩⟩⟩⟩⟩⟩⟩⟩⟩
theorem lw_p32 : lw_okq (⟨"NextOneKnowsModel", "takesTest", "()Z"⟩, 73) := ⟨⟨by decide +kernel, by decide +kernel⟩, List.mem_of_getElem? (i := 946) (by decide +kernel), List.mem_of_getElem? (i := 1261) (by decide +kernel), List.mem_of_getElem? (i := 1262) (by decide +kernel)⟩
theorem lw_p33 : lw_okq (⟨"NextOneKnowsModel", "place", "(I)I"⟩, 73) := ⟨⟨by decide +kernel, by decide +kernel⟩, List.mem_of_getElem? (i := 946) (by decide +kernel), List.mem_of_getElem? (i := 1265) (by decide +kernel), List.mem_of_getElem? (i := 1266) (by decide +kernel)⟩
theorem lw_p34 : lw_okq (⟨"NextOneKnowsModel", "put", "(I)V"⟩, 73) := ⟨⟨by decide +kernel, by decide +kernel⟩, List.mem_of_getElem? (i := 946) (by decide +kernel), List.mem_of_getElem? (i := 1269) (by decide +kernel), List.mem_of_getElem? (i := 1270) (by decide +kernel)⟩
theorem lw_p35 : lw_okq (⟨"NextOneKnowsModel", "whole", "()V"⟩, 73) := ⟨⟨by decide +kernel, by decide +kernel⟩, List.mem_of_getElem? (i := 946) (by decide +kernel), List.mem_of_getElem? (i := 1273) (by decide +kernel), List.mem_of_getElem? (i := 1274) (by decide +kernel)⟩
theorem lw_p36 : lw_okq (⟨"NextOneKnowsModel", "settle", "(I)V"⟩, 73) := ⟨⟨by decide +kernel, by decide +kernel⟩, List.mem_of_getElem? (i := 946) (by decide +kernel), List.mem_of_getElem? (i := 1277) (by decide +kernel), List.mem_of_getElem? (i := 1278) (by decide +kernel)⟩
theorem lw_p37 : lw_okq (⟨"NextOneKnowsModel", "laySaid", "()V"⟩, 73) := ⟨⟨by decide +kernel, by decide +kernel⟩, List.mem_of_getElem? (i := 946) (by decide +kernel), List.mem_of_getElem? (i := 1285) (by decide +kernel), List.mem_of_getElem? (i := 1286) (by decide +kernel)⟩
theorem lw_p38 : lw_okq (⟨"NextOneKnowsModel", "sumOf", "(IIII)I"⟩, 73) := ⟨⟨by decide +kernel, by decide +kernel⟩, List.mem_of_getElem? (i := 946) (by decide +kernel), List.mem_of_getElem? (i := 1289) (by decide +kernel), List.mem_of_getElem? (i := 1290) (by decide +kernel)⟩
theorem lw_p39 : lw_okq (⟨"NextOneKnowsModel", "begin", "()I"⟩, 73) := ⟨⟨by decide +kernel, by decide +kernel⟩, List.mem_of_getElem? (i := 946) (by decide +kernel), List.mem_of_getElem? (i := 1293) (by decide +kernel), List.mem_of_getElem? (i := 1294) (by decide +kernel)⟩
theorem lw_p40 : lw_okq (⟨"NextOneKnowsModel", "behind", "()I"⟩, 73) := ⟨⟨by decide +kernel, by decide +kernel⟩, List.mem_of_getElem? (i := 946) (by decide +kernel), List.mem_of_getElem? (i := 1297) (by decide +kernel), List.mem_of_getElem? (i := 1298) (by decide +kernel)⟩
theorem lw_p41 : lw_okq (⟨"NextOneKnowsModel", "holds", "(IIII)Z"⟩, 73) := ⟨⟨by decide +kernel, by decide +kernel⟩, List.mem_of_getElem? (i := 946) (by decide +kernel), List.mem_of_getElem? (i := 1301) (by decide +kernel), List.mem_of_getElem? (i := 1302) (by decide +kernel)⟩
theorem lw_p42 : lw_okq (⟨"NextOneKnowsModel", "factOf", "(IIII)I"⟩, 73) := ⟨⟨by decide +kernel, by decide +kernel⟩, List.mem_of_getElem? (i := 946) (by decide +kernel), List.mem_of_getElem? (i := 1305) (by decide +kernel), List.mem_of_getElem? (i := 1306) (by decide +kernel)⟩
theorem lw_p43 : lw_okq (⟨"NextOneKnowsModel", "saidOf", "(I)I"⟩, 73) := ⟨⟨by decide +kernel, by decide +kernel⟩, List.mem_of_getElem? (i := 946) (by decide +kernel), List.mem_of_getElem? (i := 1309) (by decide +kernel), List.mem_of_getElem? (i := 1310) (by decide +kernel)⟩
theorem lw_p44 : lw_okq (⟨"NextOneKnowsModel", "saidAll", "(II)I"⟩, 73) := ⟨⟨by decide +kernel, by decide +kernel⟩, List.mem_of_getElem? (i := 946) (by decide +kernel), List.mem_of_getElem? (i := 1313) (by decide +kernel), List.mem_of_getElem? (i := 1314) (by decide +kernel)⟩
theorem lw_p45 : lw_okq (⟨"NextOneKnowsModel", "dear", "(II)I"⟩, 73) := ⟨⟨by decide +kernel, by decide +kernel⟩, List.mem_of_getElem? (i := 946) (by decide +kernel), List.mem_of_getElem? (i := 1317) (by decide +kernel), List.mem_of_getElem? (i := 1318) (by decide +kernel)⟩
theorem lw_p46 : lw_okq (⟨"NextOneKnowsModel", "lastOf", "(II)I"⟩, 73) := ⟨⟨by decide +kernel, by decide +kernel⟩, List.mem_of_getElem? (i := 946) (by decide +kernel), List.mem_of_getElem? (i := 1325) (by decide +kernel), List.mem_of_getElem? (i := 1326) (by decide +kernel)⟩
theorem lw_p47 : lw_okq (⟨"NextOneKnowsModel", "ones", "(I)I"⟩, 73) := ⟨⟨by decide +kernel, by decide +kernel⟩, List.mem_of_getElem? (i := 946) (by decide +kernel), List.mem_of_getElem? (i := 1337) (by decide +kernel), List.mem_of_getElem? (i := 1338) (by decide +kernel)⟩
def lw_privs_3 : List (MethodName × Nat) := [(⟨"NextOneKnowsModel", "takesTest", "()Z"⟩, 73), (⟨"NextOneKnowsModel", "place", "(I)I"⟩, 73), (⟨"NextOneKnowsModel", "put", "(I)V"⟩, 73), (⟨"NextOneKnowsModel", "whole", "()V"⟩, 73), (⟨"NextOneKnowsModel", "settle", "(I)V"⟩, 73), (⟨"NextOneKnowsModel", "laySaid", "()V"⟩, 73), (⟨"NextOneKnowsModel", "sumOf", "(IIII)I"⟩, 73), (⟨"NextOneKnowsModel", "begin", "()I"⟩, 73), (⟨"NextOneKnowsModel", "behind", "()I"⟩, 73), (⟨"NextOneKnowsModel", "holds", "(IIII)Z"⟩, 73), (⟨"NextOneKnowsModel", "factOf", "(IIII)I"⟩, 73), (⟨"NextOneKnowsModel", "saidOf", "(I)I"⟩, 73), (⟨"NextOneKnowsModel", "saidAll", "(II)I"⟩, 73), (⟨"NextOneKnowsModel", "dear", "(II)I"⟩, 73), (⟨"NextOneKnowsModel", "lastOf", "(II)I"⟩, 73), (⟨"NextOneKnowsModel", "ones", "(I)I"⟩, 73)]
theorem lw_r3 : ∀ q ∈ lw_privs_3, lw_okq q := List.forall_mem_cons.mpr ⟨lw_p32, List.forall_mem_cons.mpr ⟨lw_p33, List.forall_mem_cons.mpr ⟨lw_p34, List.forall_mem_cons.mpr ⟨lw_p35, List.forall_mem_cons.mpr ⟨lw_p36, List.forall_mem_cons.mpr ⟨lw_p37, List.forall_mem_cons.mpr ⟨lw_p38, List.forall_mem_cons.mpr ⟨lw_p39, List.forall_mem_cons.mpr ⟨lw_p40, List.forall_mem_cons.mpr ⟨lw_p41, List.forall_mem_cons.mpr ⟨lw_p42, List.forall_mem_cons.mpr ⟨lw_p43, List.forall_mem_cons.mpr ⟨lw_p44, List.forall_mem_cons.mpr ⟨lw_p45, List.forall_mem_cons.mpr ⟨lw_p46, List.forall_mem_cons.mpr ⟨lw_p47, fun _ h => absurd h List.not_mem_nil⟩⟩⟩⟩⟩⟩⟩⟩⟩⟩⟩⟩⟩⟩⟩⟩
theorem lw_p48 : lw_okq (⟨"NextOneKnowsModel", "over", "()I"⟩, 73) := ⟨⟨by decide +kernel, by decide +kernel⟩, List.mem_of_getElem? (i := 946) (by decide +kernel), List.mem_of_getElem? (i := 1341) (by decide +kernel), List.mem_of_getElem? (i := 1342) (by decide +kernel)⟩
theorem lw_p49 : lw_okq (⟨"NextOneKnowsModel", "begins", "(II)V"⟩, 73) := ⟨⟨by decide +kernel, by decide +kernel⟩, List.mem_of_getElem? (i := 946) (by decide +kernel), List.mem_of_getElem? (i := 1349) (by decide +kernel), List.mem_of_getElem? (i := 1350) (by decide +kernel)⟩
theorem lw_p50 : lw_okq (⟨"NextOneKnowsModel", "goWeeks", "(I)V"⟩, 73) := ⟨⟨by decide +kernel, by decide +kernel⟩, List.mem_of_getElem? (i := 946) (by decide +kernel), List.mem_of_getElem? (i := 1353) (by decide +kernel), List.mem_of_getElem? (i := 1354) (by decide +kernel)⟩
theorem lw_p51 : lw_okq (⟨"NextOneKnowsModel", "goWeek", "(II)V"⟩, 73) := ⟨⟨by decide +kernel, by decide +kernel⟩, List.mem_of_getElem? (i := 946) (by decide +kernel), List.mem_of_getElem? (i := 1357) (by decide +kernel), List.mem_of_getElem? (i := 1358) (by decide +kernel)⟩
theorem lw_p52 : lw_okq (⟨"NextOneKnowsModel", "comes", "(II)Z"⟩, 73) := ⟨⟨by decide +kernel, by decide +kernel⟩, List.mem_of_getElem? (i := 946) (by decide +kernel), List.mem_of_getElem? (i := 1361) (by decide +kernel), List.mem_of_getElem? (i := 1362) (by decide +kernel)⟩
theorem lw_p53 : lw_okq (⟨"NextOneKnowsModel", "learnsBy", "(I)Z"⟩, 73) := ⟨⟨by decide +kernel, by decide +kernel⟩, List.mem_of_getElem? (i := 946) (by decide +kernel), List.mem_of_getElem? (i := 1365) (by decide +kernel), List.mem_of_getElem? (i := 1366) (by decide +kernel)⟩
theorem lw_p54 : lw_okq (⟨"NextOneKnowsModel", "keepHours", "()V"⟩, 73) := ⟨⟨by decide +kernel, by decide +kernel⟩, List.mem_of_getElem? (i := 946) (by decide +kernel), List.mem_of_getElem? (i := 1377) (by decide +kernel), List.mem_of_getElem? (i := 1378) (by decide +kernel)⟩
theorem lw_p55 : lw_okq (⟨"NextOneKnowsModel", "costHanded", "(I)I"⟩, 73) := ⟨⟨by decide +kernel, by decide +kernel⟩, List.mem_of_getElem? (i := 946) (by decide +kernel), List.mem_of_getElem? (i := 1381) (by decide +kernel), List.mem_of_getElem? (i := 1382) (by decide +kernel)⟩
theorem lw_p56 : lw_okq (⟨"NextOneKnowsModel", "costBy", "(III)I"⟩, 73) := ⟨⟨by decide +kernel, by decide +kernel⟩, List.mem_of_getElem? (i := 946) (by decide +kernel), List.mem_of_getElem? (i := 1385) (by decide +kernel), List.mem_of_getElem? (i := 1386) (by decide +kernel)⟩
theorem lw_p57 : lw_okq (⟨"NextOneKnowsModel", "putHours", "()V"⟩, 73) := ⟨⟨by decide +kernel, by decide +kernel⟩, List.mem_of_getElem? (i := 946) (by decide +kernel), List.mem_of_getElem? (i := 1389) (by decide +kernel), List.mem_of_getElem? (i := 1390) (by decide +kernel)⟩
theorem lw_p58 : lw_okq (⟨"NextOneKnowsModel", "manyIn", "(I)I"⟩, 73) := ⟨⟨by decide +kernel, by decide +kernel⟩, List.mem_of_getElem? (i := 946) (by decide +kernel), List.mem_of_getElem? (i := 1413) (by decide +kernel), List.mem_of_getElem? (i := 1414) (by decide +kernel)⟩
theorem lw_p59 : lw_okq (⟨"NextOneKnowsModel", "allCome", "(II)Z"⟩, 73) := ⟨⟨by decide +kernel, by decide +kernel⟩, List.mem_of_getElem? (i := 946) (by decide +kernel), List.mem_of_getElem? (i := 1421) (by decide +kernel), List.mem_of_getElem? (i := 1422) (by decide +kernel)⟩
theorem lw_p60 : lw_okq (⟨"NextOneKnowsModel", "firstOff", "(I)I"⟩, 73) := ⟨⟨by decide +kernel, by decide +kernel⟩, List.mem_of_getElem? (i := 946) (by decide +kernel), List.mem_of_getElem? (i := 1433) (by decide +kernel), List.mem_of_getElem? (i := 1434) (by decide +kernel)⟩
theorem lw_p61 : lw_okq (⟨"NextOneKnowsModel", "comesIn", "(II)Z"⟩, 73) := ⟨⟨by decide +kernel, by decide +kernel⟩, List.mem_of_getElem? (i := 946) (by decide +kernel), List.mem_of_getElem? (i := 1446) (by decide +kernel), List.mem_of_getElem? (i := 1447) (by decide +kernel)⟩
theorem lw_p62 : lw_okq (⟨"NextOneKnowsModel", "divisor", "(JJ)J"⟩, 73) := ⟨⟨by decide +kernel, by decide +kernel⟩, List.mem_of_getElem? (i := 946) (by decide +kernel), List.mem_of_getElem? (i := 1451) (by decide +kernel), List.mem_of_getElem? (i := 1452) (by decide +kernel)⟩
theorem lw_p63 : lw_okq (⟨"NextOneKnowsModel", "isTape", "(I)Z"⟩, 73) := ⟨⟨by decide +kernel, by decide +kernel⟩, List.mem_of_getElem? (i := 946) (by decide +kernel), List.mem_of_getElem? (i := 1459) (by decide +kernel), List.mem_of_getElem? (i := 1460) (by decide +kernel)⟩
def lw_privs_4 : List (MethodName × Nat) := [(⟨"NextOneKnowsModel", "over", "()I"⟩, 73), (⟨"NextOneKnowsModel", "begins", "(II)V"⟩, 73), (⟨"NextOneKnowsModel", "goWeeks", "(I)V"⟩, 73), (⟨"NextOneKnowsModel", "goWeek", "(II)V"⟩, 73), (⟨"NextOneKnowsModel", "comes", "(II)Z"⟩, 73), (⟨"NextOneKnowsModel", "learnsBy", "(I)Z"⟩, 73), (⟨"NextOneKnowsModel", "keepHours", "()V"⟩, 73), (⟨"NextOneKnowsModel", "costHanded", "(I)I"⟩, 73), (⟨"NextOneKnowsModel", "costBy", "(III)I"⟩, 73), (⟨"NextOneKnowsModel", "putHours", "()V"⟩, 73), (⟨"NextOneKnowsModel", "manyIn", "(I)I"⟩, 73), (⟨"NextOneKnowsModel", "allCome", "(II)Z"⟩, 73), (⟨"NextOneKnowsModel", "firstOff", "(I)I"⟩, 73), (⟨"NextOneKnowsModel", "comesIn", "(II)Z"⟩, 73), (⟨"NextOneKnowsModel", "divisor", "(JJ)J"⟩, 73), (⟨"NextOneKnowsModel", "isTape", "(I)Z"⟩, 73)]
theorem lw_r4 : ∀ q ∈ lw_privs_4, lw_okq q := List.forall_mem_cons.mpr ⟨lw_p48, List.forall_mem_cons.mpr ⟨lw_p49, List.forall_mem_cons.mpr ⟨lw_p50, List.forall_mem_cons.mpr ⟨lw_p51, List.forall_mem_cons.mpr ⟨lw_p52, List.forall_mem_cons.mpr ⟨lw_p53, List.forall_mem_cons.mpr ⟨lw_p54, List.forall_mem_cons.mpr ⟨lw_p55, List.forall_mem_cons.mpr ⟨lw_p56, List.forall_mem_cons.mpr ⟨lw_p57, List.forall_mem_cons.mpr ⟨lw_p58, List.forall_mem_cons.mpr ⟨lw_p59, List.forall_mem_cons.mpr ⟨lw_p60, List.forall_mem_cons.mpr ⟨lw_p61, List.forall_mem_cons.mpr ⟨lw_p62, List.forall_mem_cons.mpr ⟨lw_p63, fun _ h => absurd h List.not_mem_nil⟩⟩⟩⟩⟩⟩⟩⟩⟩⟩⟩⟩⟩⟩⟩⟩
theorem lw_p64 : lw_okq (⟨"NextOneKnowsModel", "saysAct", "(II)I"⟩, 73) := ⟨⟨by decide +kernel, by decide +kernel⟩, List.mem_of_getElem? (i := 946) (by decide +kernel), List.mem_of_getElem? (i := 1475) (by decide +kernel), List.mem_of_getElem? (i := 1476) (by decide +kernel)⟩
theorem lw_p65 : lw_okq (⟨"NextOneKnowsModel", "body", "(I)V"⟩, 73) := ⟨⟨by decide +kernel, by decide +kernel⟩, List.mem_of_getElem? (i := 946) (by decide +kernel), List.mem_of_getElem? (i := 1479) (by decide +kernel), List.mem_of_getElem? (i := 1480) (by decide +kernel)⟩
theorem lw_p66 : lw_okq (⟨"NextOneKnowsModel", "knowingSays", "(II)I"⟩, 73) := ⟨⟨by decide +kernel, by decide +kernel⟩, List.mem_of_getElem? (i := 946) (by decide +kernel), List.mem_of_getElem? (i := 1483) (by decide +kernel), List.mem_of_getElem? (i := 1484) (by decide +kernel)⟩
theorem lw_p67 : lw_okq (⟨"NextOneKnowsModel", "holdsAct", "(II)I"⟩, 73) := ⟨⟨by decide +kernel, by decide +kernel⟩, List.mem_of_getElem? (i := 946) (by decide +kernel), List.mem_of_getElem? (i := 1487) (by decide +kernel), List.mem_of_getElem? (i := 1488) (by decide +kernel)⟩
theorem lw_p68 : lw_okq (⟨"NextOneKnowsModel", "writtenHolds", "(II)I"⟩, 73) := ⟨⟨by decide +kernel, by decide +kernel⟩, List.mem_of_getElem? (i := 946) (by decide +kernel), List.mem_of_getElem? (i := 1491) (by decide +kernel), List.mem_of_getElem? (i := 1492) (by decide +kernel)⟩
theorem lw_p69 : lw_okq (⟨"NextOneKnowsModel", "knowingHolds", "(II)I"⟩, 73) := ⟨⟨by decide +kernel, by decide +kernel⟩, List.mem_of_getElem? (i := 946) (by decide +kernel), List.mem_of_getElem? (i := 1495) (by decide +kernel), List.mem_of_getElem? (i := 1496) (by decide +kernel)⟩
theorem lw_p70 : lw_okq (⟨"NextOneKnowsModel", "tellsAct", "(II)I"⟩, 73) := ⟨⟨by decide +kernel, by decide +kernel⟩, List.mem_of_getElem? (i := 946) (by decide +kernel), List.mem_of_getElem? (i := 1499) (by decide +kernel), List.mem_of_getElem? (i := 1500) (by decide +kernel)⟩
theorem lw_p71 : lw_okq (⟨"NextOneKnowsModel", "knowingTells", "(II)I"⟩, 73) := ⟨⟨by decide +kernel, by decide +kernel⟩, List.mem_of_getElem? (i := 946) (by decide +kernel), List.mem_of_getElem? (i := 1503) (by decide +kernel), List.mem_of_getElem? (i := 1504) (by decide +kernel)⟩
theorem lw_p72 : lw_okq (⟨"NextOneKnowsModel", "narrow", "(IJ)J"⟩, 73) := ⟨⟨by decide +kernel, by decide +kernel⟩, List.mem_of_getElem? (i := 946) (by decide +kernel), List.mem_of_getElem? (i := 1527) (by decide +kernel), List.mem_of_getElem? (i := 1528) (by decide +kernel)⟩
def lw_privs_5 : List (MethodName × Nat) := [(⟨"NextOneKnowsModel", "saysAct", "(II)I"⟩, 73), (⟨"NextOneKnowsModel", "body", "(I)V"⟩, 73), (⟨"NextOneKnowsModel", "knowingSays", "(II)I"⟩, 73), (⟨"NextOneKnowsModel", "holdsAct", "(II)I"⟩, 73), (⟨"NextOneKnowsModel", "writtenHolds", "(II)I"⟩, 73), (⟨"NextOneKnowsModel", "knowingHolds", "(II)I"⟩, 73), (⟨"NextOneKnowsModel", "tellsAct", "(II)I"⟩, 73), (⟨"NextOneKnowsModel", "knowingTells", "(II)I"⟩, 73), (⟨"NextOneKnowsModel", "narrow", "(IJ)J"⟩, 73)]
theorem lw_r5 : ∀ q ∈ lw_privs_5, lw_okq q := List.forall_mem_cons.mpr ⟨lw_p64, List.forall_mem_cons.mpr ⟨lw_p65, List.forall_mem_cons.mpr ⟨lw_p66, List.forall_mem_cons.mpr ⟨lw_p67, List.forall_mem_cons.mpr ⟨lw_p68, List.forall_mem_cons.mpr ⟨lw_p69, List.forall_mem_cons.mpr ⟨lw_p70, List.forall_mem_cons.mpr ⟨lw_p71, List.forall_mem_cons.mpr ⟨lw_p72, fun _ h => absurd h List.not_mem_nil⟩⟩⟩⟩⟩⟩⟩⟩⟩
def lw_privs : List (MethodName × Nat) := lw_privs_1 ++ (lw_privs_2 ++ (lw_privs_3 ++ (lw_privs_4 ++ (lw_privs_5))))
def lw_tbl : List Cond := k2_sels lw_privs ++ tables_1
theorem lw_privs_ok : ∀ q ∈ lw_privs, lw_okq q := by
  show ∀ q ∈ lw_privs_1 ++ (lw_privs_2 ++ (lw_privs_3 ++ (lw_privs_4 ++ (lw_privs_5)))), lw_okq q
  exact List.forall_mem_append.mpr ⟨lw_r1, List.forall_mem_append.mpr ⟨lw_r2, List.forall_mem_append.mpr ⟨lw_r3, List.forall_mem_append.mpr ⟨lw_r4, lw_r5⟩⟩⟩⟩

def RX0 : String := "NextOneKnows$Ahead"
def TX0 : u_T := fun k => match k with
  | 0 => ("NextOneKnows$Ahead", "now", "LNextOneKnows$State;", true)
  | 1 => ("NextOneKnows$Ahead", "span", "I", false)
  | 2 => ("NextOneKnows$Ahead", "coming", "[I", true)
  | 3 => ("NextOneKnows$Ahead", "dear", "[I", true)
  | 4 => ("NextOneKnows$Ahead", "said", "[[I", true)
  | 5 => ("NextOneKnows$Ahead", "stopping", "[I", true)
  | 6 => ("NextOneKnows$Ahead", "needless", "I", false)
  | 7 => ("NextOneKnows$Ahead", "costs", "I", false)
  | 8 => ("NextOneKnows$Ahead", "called", "I", false)
  | 9 => ("NextOneKnows$Ahead", "known", "I", false)
  | 10 => ("NextOneKnows$Ahead", "stops", "I", false)
  | 11 => ("NextOneKnows$Ahead", "calls", "I", false)
  | 12 => ("NextOneKnows$Ahead", "firstWeek", "I", false)
  | 13 => ("NextOneKnows$Ahead", "firstDoing", "I", false)
  | 14 => ("NextOneKnows$Ahead", "shares", "[I", true)
  | _ => ("NextOneKnows$Ahead", "best", "[I", true)
def tyX0 : Nat → FieldType := fun k => match k with
  | 0 => .object "NextOneKnows$State"
  | 1 => .int
  | 2 => .array .int
  | 3 => .array .int
  | 4 => .array (.array .int)
  | 5 => .array .int
  | 6 => .int
  | 7 => .int
  | 8 => .int
  | 9 => .int
  | 10 => .int
  | 11 => .int
  | 12 => .int
  | 13 => .int
  | 14 => .array .int
  | _ => .array .int
theorem nmX0 : ∀ a, a < 16 → ∀ b, b < 16 → a ≠ b → (TX0 a).2.1 ≠ (TX0 b).2.1 := by decide +kernel
theorem tyX0_ok : ∀ k, k < 16 → parseFieldDescriptor (TX0 k).2.2.1 = some (tyX0 k) := by decide +kernel
abbrev cX0_init : ByteArray := prog_2_method_1_code
def yX0_init : MethodName := ⟨RX0, "<init>", "(LNextOneKnows$State;)V"⟩
abbrev cX0_look : ByteArray := prog_2_method_2_code
def yX0_look : MethodName := ⟨RX0, "look", "(I)V"⟩
abbrev cX0_lookDear : ByteArray := prog_2_method_3_code
def yX0_lookDear : MethodName := ⟨RX0, "lookDear", "(II)V"⟩
abbrev cX0_dearCell : ByteArray := prog_2_method_4_code
def yX0_dearCell : MethodName := ⟨RX0, "dearCell", "(II)I"⟩
abbrev cX0_hear : ByteArray := prog_2_method_5_code
def yX0_hear : MethodName := ⟨RX0, "hear", "()V"⟩
abbrev cX0_hearOf : ByteArray := prog_2_method_6_code
def yX0_hearOf : MethodName := ⟨RX0, "hearOf", "(LNextOneKnows$Doing;)V"⟩
abbrev cX0_saidOf : ByteArray := prog_2_method_7_code
def yX0_saidOf : MethodName := ⟨RX0, "saidOf", "(LNextOneKnows$Doing;)I"⟩
abbrev cX0_goingOver : ByteArray := prog_2_method_8_code
def yX0_goingOver : MethodName := ⟨RX0, "goingOver", "([I)I"⟩
abbrev cX0_pass : ByteArray := prog_2_method_9_code
def yX0_pass : MethodName := ⟨RX0, "pass", "(II)I"⟩
abbrev cX0_stopAll : ByteArray := prog_2_method_10_code
def yX0_stopAll : MethodName := ⟨RX0, "stopAll", "(II)V"⟩
abbrev cX0_stop : ByteArray := prog_2_method_11_code
def yX0_stop : MethodName := ⟨RX0, "stop", "(LNextOneKnows$Doing;I)V"⟩
abbrev cX0_costHanded : ByteArray := prog_2_method_12_code
def yX0_costHanded : MethodName := ⟨RX0, "costHanded", "([I)I"⟩
abbrev cX0_hourMore : ByteArray := prog_2_method_13_code
def yX0_hourMore : MethodName := ⟨RX0, "hourMore", "(I)[I"⟩
abbrev cX0_bestSplit : ByteArray := prog_2_method_14_code
def yX0_bestSplit : MethodName := ⟨RX0, "bestSplit", "(I)I"⟩
abbrev cX0_share : ByteArray := prog_2_method_15_code
def yX0_share : MethodName := ⟨RX0, "share", "(IIII)V"⟩
abbrev cX0_bestOf : ByteArray := prog_2_method_16_code
def yX0_bestOf : MethodName := ⟨RX0, "bestOf", "(IZ)I"⟩
abbrev cX0_firstRowNotSo : ByteArray := prog_2_method_17_code
def yX0_firstRowNotSo : MethodName := ⟨RX0, "firstRowNotSo", "()I"⟩
def RX1 : String := "NextOneKnows$Doing"
def TX1 : u_T := fun k => match k with
  | 0 => ("NextOneKnows$Doing", "i", "I", true)
  | 1 => ("NextOneKnows$Doing", "v", "I", true)
  | 2 => ("NextOneKnows$Doing", "round", "I", true)
  | 3 => ("NextOneKnows$Doing", "place", "I", true)
  | 4 => ("NextOneKnows$Doing", "cost", "I", true)
  | _ => ("NextOneKnows$Doing", "need", "I", true)
def tyX1 : Nat → FieldType := fun k => match k with
  | 0 => .int
  | 1 => .int
  | 2 => .int
  | 3 => .int
  | 4 => .int
  | _ => .int
theorem nmX1 : ∀ a, a < 6 → ∀ b, b < 6 → a ≠ b → (TX1 a).2.1 ≠ (TX1 b).2.1 := by decide +kernel
theorem tyX1_ok : ∀ k, k < 6 → parseFieldDescriptor (TX1 k).2.2.1 = some (tyX1 k) := by decide +kernel
abbrev cX1_init : ByteArray := prog_3_method_1_code
def yX1_init : MethodName := ⟨RX1, "<init>", "(IIIIII)V"⟩
abbrev cX1_kind : ByteArray := prog_3_method_2_code
def yX1_kind : MethodName := ⟨RX1, "kind", "()I"⟩
abbrev cX1_weeksUntil : ByteArray := prog_3_method_3_code
def yX1_weeksUntil : MethodName := ⟨RX1, "weeksUntil", "(I)I"⟩
abbrev cX1_saidOver : ByteArray := prog_3_method_4_code
def yX1_saidOver : MethodName := ⟨RX1, "saidOver", "([I[I)I"⟩
abbrev cX1_isKnownByCall : ByteArray := prog_3_method_5_code
def yX1_isKnownByCall : MethodName := ⟨RX1, "isKnownByCall", "()Z"⟩
abbrev cX1_isKnownByStop : ByteArray := prog_3_method_6_code
def yX1_isKnownByStop : MethodName := ⟨RX1, "isKnownByStop", "()Z"⟩
abbrev cX1_says : ByteArray := prog_3_method_7_code
def yX1_says : MethodName := ⟨RX1, "says", "(ILNextOneKnows$Trace;)I"⟩
abbrev cX1_holds : ByteArray := prog_3_method_8_code
def yX1_holds : MethodName := ⟨RX1, "holds", "(ILNextOneKnows$Trace;)I"⟩
abbrev cX1_tells : ByteArray := prog_3_method_9_code
def yX1_tells : MethodName := ⟨RX1, "tells", "(ILNextOneKnows$Trace;)I"⟩
def RX2 : String := "NextOneKnows$Plain"
def TX2 : u_T := fun k => match k with
  | 0 => ("NextOneKnows$Doing", "i", "I", true)
  | 1 => ("NextOneKnows$Doing", "v", "I", true)
  | 2 => ("NextOneKnows$Doing", "round", "I", true)
  | 3 => ("NextOneKnows$Doing", "place", "I", true)
  | 4 => ("NextOneKnows$Doing", "cost", "I", true)
  | _ => ("NextOneKnows$Doing", "need", "I", true)
def tyX2 : Nat → FieldType := fun k => match k with
  | 0 => .int
  | 1 => .int
  | 2 => .int
  | 3 => .int
  | 4 => .int
  | _ => .int
theorem nmX2 : ∀ a, a < 6 → ∀ b, b < 6 → a ≠ b → (TX2 a).2.1 ≠ (TX2 b).2.1 := by decide +kernel
theorem tyX2_ok : ∀ k, k < 6 → parseFieldDescriptor (TX2 k).2.2.1 = some (tyX2 k) := by decide +kernel
abbrev cX2_init : ByteArray := prog_4_method_1_code
def yX2_init : MethodName := ⟨RX2, "<init>", "(IIIIII)V"⟩
abbrev cX2_kind : ByteArray := prog_4_method_2_code
def yX2_kind : MethodName := ⟨RX2, "kind", "()I"⟩
abbrev cX2_saidOver : ByteArray := prog_4_method_3_code
def yX2_saidOver : MethodName := ⟨RX2, "saidOver", "([I[I)I"⟩
abbrev cX2_isKnownByStop : ByteArray := prog_4_method_4_code
def yX2_isKnownByStop : MethodName := ⟨RX2, "isKnownByStop", "()Z"⟩
abbrev cX2_says : ByteArray := prog_4_method_5_code
def yX2_says : MethodName := ⟨RX2, "says", "(ILNextOneKnows$Trace;)I"⟩
def RX3 : String := "NextOneKnows$Post"
def TX3 : u_T := fun k => match k with
  | 0 => ("NextOneKnows$Post", "call", "I", false)
  | 1 => ("NextOneKnows$Post", "fade", "I", false)
  | 2 => ("NextOneKnows$Post", "clauses", "I", false)
  | 3 => ("NextOneKnows$Post", "words", "[I", true)
  | 4 => ("NextOneKnows$Post", "numbers", "[I", true)
  | 5 => ("NextOneKnows$Post", "ends", "[I", true)
  | 6 => ("NextOneKnows$Post", "codes", "[I", true)
  | 7 => ("NextOneKnows$Post", "codeCount", "I", false)
  | 8 => ("NextOneKnows$Post", "text", "[B", true)
  | 9 => ("NextOneKnows$Post", "length", "I", false)
  | 10 => ("NextOneKnows$Post", "at", "I", false)
  | _ => ("NextOneKnows$Post", "faulty", "Z", false)
def tyX3 : Nat → FieldType := fun k => match k with
  | 0 => .int
  | 1 => .int
  | 2 => .int
  | 3 => .array .int
  | 4 => .array .int
  | 5 => .array .int
  | 6 => .array .int
  | 7 => .int
  | 8 => .array .byte
  | 9 => .int
  | 10 => .int
  | _ => .boolean
theorem nmX3 : ∀ a, a < 12 → ∀ b, b < 12 → a ≠ b → (TX3 a).2.1 ≠ (TX3 b).2.1 := by decide +kernel
theorem tyX3_ok : ∀ k, k < 12 → parseFieldDescriptor (TX3 k).2.2.1 = some (tyX3 k) := by decide +kernel
abbrev cX3_init : ByteArray := prog_5_method_1_code
def yX3_init : MethodName := ⟨RX3, "<init>", "([B)V"⟩
abbrev cX3_readFrom : ByteArray := prog_5_method_2_code
def yX3_readFrom : MethodName := ⟨RX3, "readFrom", "(I)I"⟩
abbrev cX3_readClause : ByteArray := prog_5_method_3_code
def yX3_readClause : MethodName := ⟨RX3, "readClause", "()V"⟩
abbrev cX3_readWord : ByteArray := prog_5_method_4_code
def yX3_readWord : MethodName := ⟨RX3, "readWord", "()I"⟩
abbrev cX3_readNumber : ByteArray := prog_5_method_5_code
def yX3_readNumber : MethodName := ⟨RX3, "readNumber", "()I"⟩
abbrev cX3_readEither : ByteArray := prog_5_method_6_code
def yX3_readEither : MethodName := ⟨RX3, "readEither", "(I)V"⟩
abbrev cX3_readPart : ByteArray := prog_5_method_7_code
def yX3_readPart : MethodName := ⟨RX3, "readPart", "(I)V"⟩
abbrev cX3_readTest : ByteArray := prog_5_method_8_code
def yX3_readTest : MethodName := ⟨RX3, "readTest", "()V"⟩
abbrev cX3_keep : ByteArray := prog_5_method_9_code
def yX3_keep : MethodName := ⟨RX3, "keep", "(I)V"⟩
abbrev cX3_here : ByteArray := prog_5_method_10_code
def yX3_here : MethodName := ⟨RX3, "here", "()I"⟩
abbrev cX3_takes : ByteArray := prog_5_method_11_code
def yX3_takes : MethodName := ⟨RX3, "takes", "(I)Z"⟩
abbrev cX3_needs : ByteArray := prog_5_method_12_code
def yX3_needs : MethodName := ⟨RX3, "needs", "(I)V"⟩
abbrev cX3_takeIf : ByteArray := prog_5_method_13_code
def yX3_takeIf : MethodName := ⟨RX3, "takeIf", "(Z)V"⟩
abbrev cX3_together : ByteArray := prog_5_method_14_code
def yX3_together : MethodName := ⟨RX3, "together", "(ILNextOneKnows$Doing;II)I"⟩
abbrev cX3_holds : ByteArray := prog_5_method_15_code
def yX3_holds : MethodName := ⟨RX3, "holds", "(ILNextOneKnows$Doing;II)Z"⟩
abbrev cX3_passes : ByteArray := prog_5_method_16_code
def yX3_passes : MethodName := ⟨RX3, "passes", "(ILNextOneKnows$Doing;II)Z"⟩
def RX4 : String := "NextOneKnows$Rare"
def TX4 : u_T := fun k => match k with
  | 0 => ("NextOneKnows$Doing", "i", "I", true)
  | 1 => ("NextOneKnows$Doing", "v", "I", true)
  | 2 => ("NextOneKnows$Doing", "round", "I", true)
  | 3 => ("NextOneKnows$Doing", "place", "I", true)
  | 4 => ("NextOneKnows$Doing", "cost", "I", true)
  | _ => ("NextOneKnows$Doing", "need", "I", true)
def tyX4 : Nat → FieldType := fun k => match k with
  | 0 => .int
  | 1 => .int
  | 2 => .int
  | 3 => .int
  | 4 => .int
  | _ => .int
theorem nmX4 : ∀ a, a < 6 → ∀ b, b < 6 → a ≠ b → (TX4 a).2.1 ≠ (TX4 b).2.1 := by decide +kernel
theorem tyX4_ok : ∀ k, k < 6 → parseFieldDescriptor (TX4 k).2.2.1 = some (tyX4 k) := by decide +kernel
abbrev cX4_init : ByteArray := prog_6_method_1_code
def yX4_init : MethodName := ⟨RX4, "<init>", "(IIIIII)V"⟩
abbrev cX4_kind : ByteArray := prog_6_method_2_code
def yX4_kind : MethodName := ⟨RX4, "kind", "()I"⟩
abbrev cX4_saidOver : ByteArray := prog_6_method_3_code
def yX4_saidOver : MethodName := ⟨RX4, "saidOver", "([I[I)I"⟩
abbrev cX4_isKnownByStop : ByteArray := prog_6_method_4_code
def yX4_isKnownByStop : MethodName := ⟨RX4, "isKnownByStop", "()Z"⟩
abbrev cX4_tells : ByteArray := prog_6_method_5_code
def yX4_tells : MethodName := ⟨RX4, "tells", "(ILNextOneKnows$Trace;)I"⟩
def RX5 : String := "NextOneKnows$State"
def TX5 : u_T := fun k => match k with
  | 0 => ("NextOneKnows$State", "doings", "[LNextOneKnows$Doing;", true)
  | 1 => ("NextOneKnows$State", "odds", "[I", true)
  | 2 => ("NextOneKnows$State", "count", "I", false)
  | 3 => ("NextOneKnows$State", "known", "I", false)
  | 4 => ("NextOneKnows$State", "needless", "I", false)
  | 5 => ("NextOneKnows$State", "hours", "[I", true)
  | 6 => ("NextOneKnows$State", "week", "I", false)
  | 7 => ("NextOneKnows$State", "costs", "I", false)
  | 8 => ("NextOneKnows$State", "stops", "I", false)
  | 9 => ("NextOneKnows$State", "calls", "I", false)
  | 10 => ("NextOneKnows$State", "rowWeeks", "[I", true)
  | 11 => ("NextOneKnows$State", "rowDoings", "[I", true)
  | 12 => ("NextOneKnows$State", "rows", "I", false)
  | _ => ("NextOneKnows$State", "post", "LNextOneKnows$Post;", false)
def tyX5 : Nat → FieldType := fun k => match k with
  | 0 => .array (.object "NextOneKnows$Doing")
  | 1 => .array .int
  | 2 => .int
  | 3 => .int
  | 4 => .int
  | 5 => .array .int
  | 6 => .int
  | 7 => .int
  | 8 => .int
  | 9 => .int
  | 10 => .array .int
  | 11 => .array .int
  | 12 => .int
  | _ => .object "NextOneKnows$Post"
theorem nmX5 : ∀ a, a < 14 → ∀ b, b < 14 → a ≠ b → (TX5 a).2.1 ≠ (TX5 b).2.1 := by decide +kernel
theorem tyX5_ok : ∀ k, k < 14 → parseFieldDescriptor (TX5 k).2.2.1 = some (tyX5 k) := by decide +kernel
abbrev cX5_init : ByteArray := prog_7_method_1_code
def yX5_init : MethodName := ⟨RX5, "<init>", "()V"⟩
abbrev cX5_takeFrom : ByteArray := prog_7_method_2_code
def yX5_takeFrom : MethodName := ⟨RX5, "takeFrom", "(LNextOneKnows$State;)V"⟩
abbrev cX5_find : ByteArray := prog_7_method_3_code
def yX5_find : MethodName := ⟨RX5, "find", "(I)LNextOneKnows$Doing;"⟩
abbrev cX5_add : ByteArray := prog_7_method_4_code
def yX5_add : MethodName := ⟨RX5, "add", "(LNextOneKnows$Doing;)I"⟩
abbrev cX5_addRow : ByteArray := prog_7_method_5_code
def yX5_addRow : MethodName := ⟨RX5, "addRow", "(II)I"⟩
abbrev cX5_weeksToRows : ByteArray := prog_7_method_6_code
def yX5_weeksToRows : MethodName := ⟨RX5, "weeksToRows", "()I"⟩
abbrev cX5_everyDoing : ByteArray := prog_7_method_7_code
def yX5_everyDoing : MethodName := ⟨RX5, "everyDoing", "()I"⟩
abbrev cX5_saidBy : ByteArray := prog_7_method_8_code
def yX5_saidBy : MethodName := ⟨RX5, "saidBy", "(LNextOneKnows$Doing;I)I"⟩
abbrev cX5_dearIn : ByteArray := prog_7_method_9_code
def yX5_dearIn : MethodName := ⟨RX5, "dearIn", "(LNextOneKnows$Doing;I)I"⟩
abbrev cX5_callsAtFirst : ByteArray := prog_7_method_10_code
def yX5_callsAtFirst : MethodName := ⟨RX5, "callsAtFirst", "()I"⟩
abbrev cX5_callsFading : ByteArray := prog_7_method_11_code
def yX5_callsFading : MethodName := ⟨RX5, "callsFading", "()I"⟩
abbrev cX5_coming : ByteArray := prog_7_method_12_code
def yX5_coming : MethodName := ⟨RX5, "coming", "(I)I"⟩
abbrev cX5_longestWait : ByteArray := prog_7_method_13_code
def yX5_longestWait : MethodName := ⟨RX5, "longestWait", "(II)I"⟩
def RX6 : String := "NextOneKnows$Tied"
def TX6 : u_T := fun k => match k with
  | 0 => ("NextOneKnows$Doing", "i", "I", true)
  | 1 => ("NextOneKnows$Doing", "v", "I", true)
  | 2 => ("NextOneKnows$Doing", "round", "I", true)
  | 3 => ("NextOneKnows$Doing", "place", "I", true)
  | 4 => ("NextOneKnows$Doing", "cost", "I", true)
  | _ => ("NextOneKnows$Doing", "need", "I", true)
def tyX6 : Nat → FieldType := fun k => match k with
  | 0 => .int
  | 1 => .int
  | 2 => .int
  | 3 => .int
  | 4 => .int
  | _ => .int
theorem nmX6 : ∀ a, a < 6 → ∀ b, b < 6 → a ≠ b → (TX6 a).2.1 ≠ (TX6 b).2.1 := by decide +kernel
theorem tyX6_ok : ∀ k, k < 6 → parseFieldDescriptor (TX6 k).2.2.1 = some (tyX6 k) := by decide +kernel
abbrev cX6_init : ByteArray := prog_8_method_1_code
def yX6_init : MethodName := ⟨RX6, "<init>", "(IIIIII)V"⟩
abbrev cX6_kind : ByteArray := prog_8_method_2_code
def yX6_kind : MethodName := ⟨RX6, "kind", "()I"⟩
abbrev cX6_saidOver : ByteArray := prog_8_method_3_code
def yX6_saidOver : MethodName := ⟨RX6, "saidOver", "([I[I)I"⟩
abbrev cX6_tells : ByteArray := prog_8_method_4_code
def yX6_tells : MethodName := ⟨RX6, "tells", "(ILNextOneKnows$Trace;)I"⟩
def RX7 : String := "NextOneKnows$Trace"
def TX7 : u_T := fun k => match k with
  | 0 => ("NextOneKnows$Trace", "bodies", "[I", true)
  | _ => ("NextOneKnows$Trace", "ran", "I", false)
def tyX7 : Nat → FieldType := fun k => match k with
  | 0 => .array .int
  | _ => .int
theorem nmX7 : ∀ a, a < 2 → ∀ b, b < 2 → a ≠ b → (TX7 a).2.1 ≠ (TX7 b).2.1 := by decide +kernel
theorem tyX7_ok : ∀ k, k < 2 → parseFieldDescriptor (TX7 k).2.2.1 = some (tyX7 k) := by decide +kernel
abbrev cX7_init : ByteArray := prog_9_method_1_code
def yX7_init : MethodName := ⟨RX7, "<init>", "()V"⟩
abbrev cX7_begins : ByteArray := prog_9_method_2_code
def yX7_begins : MethodName := ⟨RX7, "begins", "(I)V"⟩
def RX8 : String := "NextOneKnows$Why"
def TX8 : u_T := fun k => match k with
  | 0 => ("NextOneKnows$Doing", "i", "I", true)
  | 1 => ("NextOneKnows$Doing", "v", "I", true)
  | 2 => ("NextOneKnows$Doing", "round", "I", true)
  | 3 => ("NextOneKnows$Doing", "place", "I", true)
  | 4 => ("NextOneKnows$Doing", "cost", "I", true)
  | _ => ("NextOneKnows$Doing", "need", "I", true)
def tyX8 : Nat → FieldType := fun k => match k with
  | 0 => .int
  | 1 => .int
  | 2 => .int
  | 3 => .int
  | 4 => .int
  | _ => .int
theorem nmX8 : ∀ a, a < 6 → ∀ b, b < 6 → a ≠ b → (TX8 a).2.1 ≠ (TX8 b).2.1 := by decide +kernel
theorem tyX8_ok : ∀ k, k < 6 → parseFieldDescriptor (TX8 k).2.2.1 = some (tyX8 k) := by decide +kernel
abbrev cX8_init : ByteArray := prog_10_method_1_code
def yX8_init : MethodName := ⟨RX8, "<init>", "(IIIIII)V"⟩
abbrev cX8_kind : ByteArray := prog_10_method_2_code
def yX8_kind : MethodName := ⟨RX8, "kind", "()I"⟩
abbrev cX8_saidOver : ByteArray := prog_10_method_3_code
def yX8_saidOver : MethodName := ⟨RX8, "saidOver", "([I[I)I"⟩
abbrev cX8_says : ByteArray := prog_10_method_4_code
def yX8_says : MethodName := ⟨RX8, "says", "(ILNextOneKnows$Trace;)I"⟩
abbrev cX8_holds : ByteArray := prog_10_method_5_code
def yX8_holds : MethodName := ⟨RX8, "holds", "(ILNextOneKnows$Trace;)I"⟩
def RX9 : String := "NextOneKnows$Written"
def TX9 : u_T := fun k => match k with
  | 0 => ("NextOneKnows$Doing", "i", "I", true)
  | 1 => ("NextOneKnows$Doing", "v", "I", true)
  | 2 => ("NextOneKnows$Doing", "round", "I", true)
  | 3 => ("NextOneKnows$Doing", "place", "I", true)
  | 4 => ("NextOneKnows$Doing", "cost", "I", true)
  | _ => ("NextOneKnows$Doing", "need", "I", true)
def tyX9 : Nat → FieldType := fun k => match k with
  | 0 => .int
  | 1 => .int
  | 2 => .int
  | 3 => .int
  | 4 => .int
  | _ => .int
theorem nmX9 : ∀ a, a < 6 → ∀ b, b < 6 → a ≠ b → (TX9 a).2.1 ≠ (TX9 b).2.1 := by decide +kernel
theorem tyX9_ok : ∀ k, k < 6 → parseFieldDescriptor (TX9 k).2.2.1 = some (tyX9 k) := by decide +kernel
abbrev cX9_init : ByteArray := prog_11_method_1_code
def yX9_init : MethodName := ⟨RX9, "<init>", "(IIIIII)V"⟩
abbrev cX9_kind : ByteArray := prog_11_method_2_code
def yX9_kind : MethodName := ⟨RX9, "kind", "()I"⟩
abbrev cX9_saidOver : ByteArray := prog_11_method_3_code
def yX9_saidOver : MethodName := ⟨RX9, "saidOver", "([I[I)I"⟩
abbrev cX9_holds : ByteArray := prog_11_method_4_code
def yX9_holds : MethodName := ⟨RX9, "holds", "(ILNextOneKnows$Trace;)I"⟩
def RX10 : String := "NextOneKnows$Wrong"
def TX10 : u_T := fun k => match k with
  | 0 => ("NextOneKnows$Doing", "i", "I", true)
  | 1 => ("NextOneKnows$Doing", "v", "I", true)
  | 2 => ("NextOneKnows$Doing", "round", "I", true)
  | 3 => ("NextOneKnows$Doing", "place", "I", true)
  | 4 => ("NextOneKnows$Doing", "cost", "I", true)
  | _ => ("NextOneKnows$Doing", "need", "I", true)
def tyX10 : Nat → FieldType := fun k => match k with
  | 0 => .int
  | 1 => .int
  | 2 => .int
  | 3 => .int
  | 4 => .int
  | _ => .int
theorem nmX10 : ∀ a, a < 6 → ∀ b, b < 6 → a ≠ b → (TX10 a).2.1 ≠ (TX10 b).2.1 := by decide +kernel
theorem tyX10_ok : ∀ k, k < 6 → parseFieldDescriptor (TX10 k).2.2.1 = some (tyX10 k) := by decide +kernel
abbrev cX10_init : ByteArray := prog_12_method_1_code
def yX10_init : MethodName := ⟨RX10, "<init>", "(IIIIII)V"⟩
abbrev cX10_kind : ByteArray := prog_12_method_2_code
def yX10_kind : MethodName := ⟨RX10, "kind", "()I"⟩
abbrev cX10_saidOver : ByteArray := prog_12_method_3_code
def yX10_saidOver : MethodName := ⟨RX10, "saidOver", "([I[I)I"⟩
abbrev cX10_isKnownByCall : ByteArray := prog_12_method_4_code
def yX10_isKnownByCall : MethodName := ⟨RX10, "isKnownByCall", "()Z"⟩
abbrev cX10_holds : ByteArray := prog_12_method_5_code
def yX10_holds : MethodName := ⟨RX10, "holds", "(ILNextOneKnows$Trace;)I"⟩
abbrev cX10_says : ByteArray := prog_12_method_6_code
def yX10_says : MethodName := ⟨RX10, "says", "(ILNextOneKnows$Trace;)I"⟩
def RX11 : String := "NextOneKnows"
def TX11 : u_T := fun k => match k with
  | 0 => ("NextOneKnows", "now", "LNextOneKnows$State;", true)
  | 1 => ("NextOneKnows", "imaged", "LNextOneKnows$State;", true)
  | 2 => ("NextOneKnows", "hasImage", "Z", false)
  | 3 => ("NextOneKnows", "ahead", "LNextOneKnows$Ahead;", true)
  | 4 => ("NextOneKnows", "posts", "[LNextOneKnows$Post;", true)
  | 5 => ("NextOneKnows", "postCount", "I", false)
  | 6 => ("NextOneKnows", "text", "[B", true)
  | 7 => ("NextOneKnows", "signs", "I", false)
  | 8 => ("NextOneKnows", "trace", "LNextOneKnows$Trace;", true)
  | 9 => ("NextOneKnows", "sorts", "[I", true)
  | 10 => ("NextOneKnows", "sizes", "[I", true)
  | _ => ("NextOneKnows", "items", "[[J", true)
def tyX11 : Nat → FieldType := fun k => match k with
  | 0 => .object "NextOneKnows$State"
  | 1 => .object "NextOneKnows$State"
  | 2 => .boolean
  | 3 => .object "NextOneKnows$Ahead"
  | 4 => .array (.object "NextOneKnows$Post")
  | 5 => .int
  | 6 => .array .byte
  | 7 => .int
  | 8 => .object "NextOneKnows$Trace"
  | 9 => .array .int
  | 10 => .array .int
  | _ => .array (.array .long)
theorem nmX11 : ∀ a, a < 12 → ∀ b, b < 12 → a ≠ b → (TX11 a).2.1 ≠ (TX11 b).2.1 := by decide +kernel
theorem tyX11_ok : ∀ k, k < 12 → parseFieldDescriptor (TX11 k).2.2.1 = some (tyX11 k) := by decide +kernel
abbrev cX11_init : ByteArray := prog_1_method_1_code
def yX11_init : MethodName := ⟨RX11, "<init>", "()V"⟩
abbrev cX11_doing : ByteArray := prog_1_method_2_code
def yX11_doing : MethodName := ⟨RX11, "doing", "(IIIIII)I"⟩
abbrev cX11_of : ByteArray := prog_1_method_3_code
def yX11_of : MethodName := ⟨RX11, "of", "(II)I"⟩
abbrev cX11_needless : ByteArray := prog_1_method_4_code
def yX11_needless : MethodName := ⟨RX11, "needless", "(IZ)I"⟩
abbrev cX11_learn : ByteArray := prog_1_method_5_code
def yX11_learn : MethodName := ⟨RX11, "learn", "(IZ)I"⟩
abbrev cX11_odds : ByteArray := prog_1_method_6_code
def yX11_odds : MethodName := ⟨RX11, "odds", "(II)I"⟩
abbrev cX11_hours : ByteArray := prog_1_method_7_code
def yX11_hours : MethodName := ⟨RX11, "hours", "(II)I"⟩
abbrev cX11_feed : ByteArray := prog_1_method_8_code
def yX11_feed : MethodName := ⟨RX11, "feed", "(I)I"⟩
abbrev cX11_post : ByteArray := prog_1_method_9_code
def yX11_post : MethodName := ⟨RX11, "post", "()I"⟩
abbrev cX11_told : ByteArray := prog_1_method_10_code
def yX11_told : MethodName := ⟨RX11, "told", "(I)I"⟩
abbrev cX11_said : ByteArray := prog_1_method_11_code
def yX11_said : MethodName := ⟨RX11, "said", "(II)I"⟩
abbrev cX11_hand : ByteArray := prog_1_method_12_code
def yX11_hand : MethodName := ⟨RX11, "hand", "()I"⟩
abbrev cX11_go : ByteArray := prog_1_method_13_code
def yX11_go : MethodName := ⟨RX11, "go", "(I)I"⟩
abbrev cX11_run : ByteArray := prog_1_method_14_code
def yX11_run : MethodName := ⟨RX11, "run", "(II)I"⟩
abbrev cX11_split : ByteArray := prog_1_method_15_code
def yX11_split : MethodName := ⟨RX11, "split", "(III)I"⟩
abbrev cX11_more : ByteArray := prog_1_method_16_code
def yX11_more : MethodName := ⟨RX11, "more", "(II)I"⟩
abbrev cX11_ask : ByteArray := prog_1_method_17_code
def yX11_ask : MethodName := ⟨RX11, "ask", "(I)I"⟩
abbrev cX11_drop : ByteArray := prog_1_method_18_code
def yX11_drop : MethodName := ⟨RX11, "drop", "(I)I"⟩
abbrev cX11_when : ByteArray := prog_1_method_19_code
def yX11_when : MethodName := ⟨RX11, "when", "(I)I"⟩
abbrev cX11_busiest : ByteArray := prog_1_method_20_code
def yX11_busiest : MethodName := ⟨RX11, "busiest", "(II)I"⟩
abbrev cX11_all : ByteArray := prog_1_method_21_code
def yX11_all : MethodName := ⟨RX11, "all", "(I)I"⟩
abbrev cX11_list : ByteArray := prog_1_method_22_code
def yX11_list : MethodName := ⟨RX11, "list", "(II)I"⟩
abbrev cX11_looked : ByteArray := prog_1_method_23_code
def yX11_looked : MethodName := ⟨RX11, "looked", "()I"⟩
abbrev cX11_fits : ByteArray := prog_1_method_24_code
def yX11_fits : MethodName := ⟨RX11, "fits", "()I"⟩
abbrev cX11_chance : ByteArray := prog_1_method_25_code
def yX11_chance : MethodName := ⟨RX11, "chance", "(II)J"⟩
abbrev cX11_judge : ByteArray := prog_1_method_26_code
def yX11_judge : MethodName := ⟨RX11, "judge", "(II)I"⟩
abbrev cX11_image : ByteArray := prog_1_method_27_code
def yX11_image : MethodName := ⟨RX11, "image", "()I"⟩
abbrev cX11_undo : ByteArray := prog_1_method_28_code
def yX11_undo : MethodName := ⟨RX11, "undo", "()I"⟩
abbrev cX11_act : ByteArray := prog_1_method_29_code
def yX11_act : MethodName := ⟨RX11, "act", "(III)I"⟩
abbrev cX11_trace : ByteArray := prog_1_method_30_code
def yX11_trace : MethodName := ⟨RX11, "trace", "(I)I"⟩
abbrev cX11_taken : ByteArray := prog_1_method_31_code
def yX11_taken : MethodName := ⟨RX11, "taken", "(II)I"⟩
abbrev cX11_count : ByteArray := prog_1_method_32_code
def yX11_count : MethodName := ⟨RX11, "count", "(I)I"⟩
abbrev cX11_tape : ByteArray := prog_1_method_33_code
def yX11_tape : MethodName := ⟨RX11, "tape", "(III)I"⟩
abbrev cX11_item : ByteArray := prog_1_method_34_code
def yX11_item : MethodName := ⟨RX11, "item", "(IIJ)I"⟩
abbrev cX11_read : ByteArray := prog_1_method_35_code
def yX11_read : MethodName := ⟨RX11, "read", "(II)J"⟩
abbrev cX11_shift : ByteArray := prog_1_method_36_code
def yX11_shift : MethodName := ⟨RX11, "shift", "(IIIII)I"⟩
abbrev cX11_isNot : ByteArray := prog_1_method_37_code
def yX11_isNot : MethodName := ⟨RX11, "isNot", "(III)Z"⟩
abbrev cX11_bit : ByteArray := prog_1_method_38_code
def yX11_bit : MethodName := ⟨RX11, "bit", "(II)I"⟩
abbrev cX11_withBit : ByteArray := prog_1_method_39_code
def yX11_withBit : MethodName := ⟨RX11, "withBit", "(IIZ)I"⟩
abbrev cX11_commonDivisor : ByteArray := prog_1_method_40_code
def yX11_commonDivisor : MethodName := ⟨RX11, "commonDivisor", "(JJ)J"⟩
abbrev cX11_cut : ByteArray := prog_1_method_41_code
def yX11_cut : MethodName := ⟨RX11, "cut", "(JI)J"⟩
abbrev cX11_made : ByteArray := prog_1_method_42_code
def yX11_made : MethodName := ⟨RX11, "made", "(IIIIIII)LNextOneKnows$Doing;"⟩
abbrev cX11_isOfKind : ByteArray := prog_1_method_43_code
def yX11_isOfKind : MethodName := ⟨RX11, "isOfKind", "(LNextOneKnows$Doing;I)Z"⟩
def RX12 : String := "NextOneKnowsModel"
def TX12 : u_T := fun k => match k with
  | 0 => ("NextOneKnowsModel", "doings", "I", false)
  | 1 => ("NextOneKnowsModel", "week", "I", false)
  | 2 => ("NextOneKnowsModel", "costs", "I", false)
  | 3 => ("NextOneKnowsModel", "stops", "I", false)
  | 4 => ("NextOneKnowsModel", "calls", "I", false)
  | 5 => ("NextOneKnowsModel", "knows", "I", false)
  | 6 => ("NextOneKnowsModel", "idle", "I", false)
  | 7 => ("NextOneKnowsModel", "kind", "[I", true)
  | 8 => ("NextOneKnowsModel", "v", "[I", true)
  | 9 => ("NextOneKnowsModel", "round", "[I", true)
  | 10 => ("NextOneKnowsModel", "place", "[I", true)
  | 11 => ("NextOneKnowsModel", "cost", "[I", true)
  | 12 => ("NextOneKnowsModel", "need", "[I", true)
  | 13 => ("NextOneKnowsModel", "odd", "[I", true)
  | 14 => ("NextOneKnowsModel", "hour", "[I", true)
  | 15 => ("NextOneKnowsModel", "posts", "I", false)
  | 16 => ("NextOneKnowsModel", "the", "I", false)
  | 17 => ("NextOneKnowsModel", "fed", "I", false)
  | 18 => ("NextOneKnowsModel", "at", "I", false)
  | 19 => ("NextOneKnowsModel", "digits", "I", false)
  | 20 => ("NextOneKnowsModel", "text", "[I", true)
  | 21 => ("NextOneKnowsModel", "clauses", "[I", true)
  | 22 => ("NextOneKnowsModel", "word", "[I", true)
  | 23 => ("NextOneKnowsModel", "number", "[I", true)
  | 24 => ("NextOneKnowsModel", "from", "[I", true)
  | 25 => ("NextOneKnowsModel", "to", "[I", true)
  | 26 => ("NextOneKnowsModel", "sign", "[I", true)
  | 27 => ("NextOneKnowsModel", "waits", "[I", true)
  | 28 => ("NextOneKnowsModel", "signs", "I", false)
  | 29 => ("NextOneKnowsModel", "waiting", "I", false)
  | 30 => ("NextOneKnowsModel", "open", "I", false)
  | 31 => ("NextOneKnowsModel", "letters", "[I", true)
  | 32 => ("NextOneKnowsModel", "pile", "[Z", true)
  | 33 => ("NextOneKnowsModel", "sayOf", "[I", true)
  | 34 => ("NextOneKnowsModel", "thenKnows", "I", false)
  | 35 => ("NextOneKnowsModel", "thenIdle", "I", false)
  | 36 => ("NextOneKnowsModel", "thenCosts", "I", false)
  | 37 => ("NextOneKnowsModel", "thenStops", "I", false)
  | 38 => ("NextOneKnowsModel", "thenCalls", "I", false)
  | 39 => ("NextOneKnowsModel", "firstWeek", "I", false)
  | 40 => ("NextOneKnowsModel", "firstDoing", "I", false)
  | 41 => ("NextOneKnowsModel", "stopped", "[Z", true)
  | 42 => ("NextOneKnowsModel", "hourWas", "[I", true)
  | 43 => ("NextOneKnowsModel", "bestHour", "[I", true)
  | 44 => ("NextOneKnowsModel", "rows", "I", false)
  | 45 => ("NextOneKnowsModel", "rowWeek", "[I", true)
  | 46 => ("NextOneKnowsModel", "rowDoing", "[I", true)
  | 47 => ("NextOneKnowsModel", "hasImage", "Z", false)
  | 48 => ("NextOneKnowsModel", "imageThe", "I", false)
  | 49 => ("NextOneKnowsModel", "imageDoings", "I", false)
  | 50 => ("NextOneKnowsModel", "imageWeek", "I", false)
  | 51 => ("NextOneKnowsModel", "imageCosts", "I", false)
  | 52 => ("NextOneKnowsModel", "imageStops", "I", false)
  | 53 => ("NextOneKnowsModel", "imageCalls", "I", false)
  | 54 => ("NextOneKnowsModel", "imageKnows", "I", false)
  | 55 => ("NextOneKnowsModel", "imageIdle", "I", false)
  | 56 => ("NextOneKnowsModel", "imageRows", "I", false)
  | 57 => ("NextOneKnowsModel", "imageKind", "[I", true)
  | 58 => ("NextOneKnowsModel", "imageV", "[I", true)
  | 59 => ("NextOneKnowsModel", "imageRound", "[I", true)
  | 60 => ("NextOneKnowsModel", "imagePlace", "[I", true)
  | 61 => ("NextOneKnowsModel", "imageCost", "[I", true)
  | 62 => ("NextOneKnowsModel", "imageNeed", "[I", true)
  | 63 => ("NextOneKnowsModel", "imageOdd", "[I", true)
  | 64 => ("NextOneKnowsModel", "imageHour", "[I", true)
  | 65 => ("NextOneKnowsModel", "imageRowWeek", "[I", true)
  | 66 => ("NextOneKnowsModel", "imageRowDoing", "[I", true)
  | 67 => ("NextOneKnowsModel", "ran", "I", false)
  | 68 => ("NextOneKnowsModel", "bodies", "[I", true)
  | 69 => ("NextOneKnowsModel", "sort", "[I", true)
  | 70 => ("NextOneKnowsModel", "length", "[I", true)
  | 71 => ("NextOneKnowsModel", "item", "[J", true)
  | _ => ("NextOneKnowsModel", "aside", "[J", true)
def tyX12 : Nat → FieldType := fun k => match k with
  | 0 => .int
  | 1 => .int
  | 2 => .int
  | 3 => .int
  | 4 => .int
  | 5 => .int
  | 6 => .int
  | 7 => .array .int
  | 8 => .array .int
  | 9 => .array .int
  | 10 => .array .int
  | 11 => .array .int
  | 12 => .array .int
  | 13 => .array .int
  | 14 => .array .int
  | 15 => .int
  | 16 => .int
  | 17 => .int
  | 18 => .int
  | 19 => .int
  | 20 => .array .int
  | 21 => .array .int
  | 22 => .array .int
  | 23 => .array .int
  | 24 => .array .int
  | 25 => .array .int
  | 26 => .array .int
  | 27 => .array .int
  | 28 => .int
  | 29 => .int
  | 30 => .int
  | 31 => .array .int
  | 32 => .array .boolean
  | 33 => .array .int
  | 34 => .int
  | 35 => .int
  | 36 => .int
  | 37 => .int
  | 38 => .int
  | 39 => .int
  | 40 => .int
  | 41 => .array .boolean
  | 42 => .array .int
  | 43 => .array .int
  | 44 => .int
  | 45 => .array .int
  | 46 => .array .int
  | 47 => .boolean
  | 48 => .int
  | 49 => .int
  | 50 => .int
  | 51 => .int
  | 52 => .int
  | 53 => .int
  | 54 => .int
  | 55 => .int
  | 56 => .int
  | 57 => .array .int
  | 58 => .array .int
  | 59 => .array .int
  | 60 => .array .int
  | 61 => .array .int
  | 62 => .array .int
  | 63 => .array .int
  | 64 => .array .int
  | 65 => .array .int
  | 66 => .array .int
  | 67 => .int
  | 68 => .array .int
  | 69 => .array .int
  | 70 => .array .int
  | 71 => .array .long
  | _ => .array .long
theorem nmX12 : ∀ a, a < 73 → ∀ b, b < 73 → a ≠ b → (TX12 a).2.1 ≠ (TX12 b).2.1 := by decide +kernel
theorem tyX12_ok : ∀ k, k < 73 → parseFieldDescriptor (TX12 k).2.2.1 = some (tyX12 k) := by decide +kernel
abbrev cX12_init : ByteArray := prog_14_method_1_code
def yX12_init : MethodName := ⟨RX12, "<init>", "()V"⟩
abbrev cX12_in : ByteArray := prog_14_method_2_code
def yX12_in : MethodName := ⟨RX12, "in", "(III)Z"⟩
abbrev cX12_has : ByteArray := prog_14_method_3_code
def yX12_has : MethodName := ⟨RX12, "has", "(II)Z"⟩
abbrev cX12_isDoing : ByteArray := prog_14_method_4_code
def yX12_isDoing : MethodName := ⟨RX12, "isDoing", "(I)Z"⟩
abbrev cX12_isWay : ByteArray := prog_14_method_5_code
def yX12_isWay : MethodName := ⟨RX12, "isWay", "(I)Z"⟩
abbrev cX12_with : ByteArray := prog_14_method_6_code
def yX12_with : MethodName := ⟨RX12, "with", "(IIZ)I"⟩
abbrev cX12_doing : ByteArray := prog_14_method_7_code
def yX12_doing : MethodName := ⟨RX12, "doing", "(IIIIII)I"⟩
abbrev cX12_needless : ByteArray := prog_14_method_8_code
def yX12_needless : MethodName := ⟨RX12, "needless", "(IZ)I"⟩
abbrev cX12_learn : ByteArray := prog_14_method_9_code
def yX12_learn : MethodName := ⟨RX12, "learn", "(IZ)I"⟩
abbrev cX12_odds : ByteArray := prog_14_method_10_code
def yX12_odds : MethodName := ⟨RX12, "odds", "(II)I"⟩
abbrev cX12_hours : ByteArray := prog_14_method_11_code
def yX12_hours : MethodName := ⟨RX12, "hours", "(II)I"⟩
abbrev cX12_feed : ByteArray := prog_14_method_12_code
def yX12_feed : MethodName := ⟨RX12, "feed", "(I)I"⟩
abbrev cX12_next : ByteArray := prog_14_method_13_code
def yX12_next : MethodName := ⟨RX12, "next", "()I"⟩
abbrev cX12_second : ByteArray := prog_14_method_14_code
def yX12_second : MethodName := ⟨RX12, "second", "()I"⟩
abbrev cX12_takes : ByteArray := prog_14_method_15_code
def yX12_takes : MethodName := ⟨RX12, "takes", "(I)Z"⟩
abbrev cX12_takesWord : ByteArray := prog_14_method_16_code
def yX12_takesWord : MethodName := ⟨RX12, "takesWord", "(II)Z"⟩
abbrev cX12_isDigit : ByteArray := prog_14_method_17_code
def yX12_isDigit : MethodName := ⟨RX12, "isDigit", "()Z"⟩
abbrev cX12_takesNumber : ByteArray := prog_14_method_18_code
def yX12_takesNumber : MethodName := ⟨RX12, "takesNumber", "()Z"⟩
abbrev cX12_put : ByteArray := prog_14_method_19_code
def yX12_put : MethodName := ⟨RX12, "put", "(I)V"⟩
abbrev cX12_whole : ByteArray := prog_14_method_20_code
def yX12_whole : MethodName := ⟨RX12, "whole", "()V"⟩
abbrev cX12_settle : ByteArray := prog_14_method_21_code
def yX12_settle : MethodName := ⟨RX12, "settle", "(I)V"⟩
abbrev cX12_place : ByteArray := prog_14_method_22_code
def yX12_place : MethodName := ⟨RX12, "place", "(I)I"⟩
abbrev cX12_takesTest : ByteArray := prog_14_method_23_code
def yX12_takesTest : MethodName := ⟨RX12, "takesTest", "()Z"⟩
abbrev cX12_takesE : ByteArray := prog_14_method_24_code
def yX12_takesE : MethodName := ⟨RX12, "takesE", "(I)Z"⟩
abbrev cX12_takesHead : ByteArray := prog_14_method_25_code
def yX12_takesHead : MethodName := ⟨RX12, "takesHead", "(I)Z"⟩
abbrev cX12_takesClause : ByteArray := prog_14_method_26_code
def yX12_takesClause : MethodName := ⟨RX12, "takesClause", "(I)Z"⟩
abbrev cX12_goesText : ByteArray := prog_14_method_27_code
def yX12_goesText : MethodName := ⟨RX12, "goesText", "(I)Z"⟩
abbrev cX12_post : ByteArray := prog_14_method_28_code
def yX12_post : MethodName := ⟨RX12, "post", "()I"⟩
abbrev cX12_begin : ByteArray := prog_14_method_29_code
def yX12_begin : MethodName := ⟨RX12, "begin", "()I"⟩
abbrev cX12_behind : ByteArray := prog_14_method_30_code
def yX12_behind : MethodName := ⟨RX12, "behind", "()I"⟩
abbrev cX12_lastOf : ByteArray := prog_14_method_31_code
def yX12_lastOf : MethodName := ⟨RX12, "lastOf", "(II)I"⟩
abbrev cX12_factOf : ByteArray := prog_14_method_32_code
def yX12_factOf : MethodName := ⟨RX12, "factOf", "(IIII)I"⟩
abbrev cX12_holds : ByteArray := prog_14_method_33_code
def yX12_holds : MethodName := ⟨RX12, "holds", "(IIII)Z"⟩
abbrev cX12_sumOf : ByteArray := prog_14_method_34_code
def yX12_sumOf : MethodName := ⟨RX12, "sumOf", "(IIII)I"⟩
abbrev cX12_dear : ByteArray := prog_14_method_35_code
def yX12_dear : MethodName := ⟨RX12, "dear", "(II)I"⟩
abbrev cX12_laySaid : ByteArray := prog_14_method_36_code
def yX12_laySaid : MethodName := ⟨RX12, "laySaid", "()V"⟩
abbrev cX12_saidAll : ByteArray := prog_14_method_37_code
def yX12_saidAll : MethodName := ⟨RX12, "saidAll", "(II)I"⟩
abbrev cX12_saidOf : ByteArray := prog_14_method_38_code
def yX12_saidOf : MethodName := ⟨RX12, "saidOf", "(I)I"⟩
abbrev cX12_over : ByteArray := prog_14_method_39_code
def yX12_over : MethodName := ⟨RX12, "over", "()I"⟩
abbrev cX12_of : ByteArray := prog_14_method_40_code
def yX12_of : MethodName := ⟨RX12, "of", "(II)I"⟩
abbrev cX12_told : ByteArray := prog_14_method_41_code
def yX12_told : MethodName := ⟨RX12, "told", "(I)I"⟩
abbrev cX12_said : ByteArray := prog_14_method_42_code
def yX12_said : MethodName := ⟨RX12, "said", "(II)I"⟩
abbrev cX12_ones : ByteArray := prog_14_method_43_code
def yX12_ones : MethodName := ⟨RX12, "ones", "(I)I"⟩
abbrev cX12_hand : ByteArray := prog_14_method_44_code
def yX12_hand : MethodName := ⟨RX12, "hand", "()I"⟩
abbrev cX12_comes : ByteArray := prog_14_method_45_code
def yX12_comes : MethodName := ⟨RX12, "comes", "(II)Z"⟩
abbrev cX12_learnsBy : ByteArray := prog_14_method_46_code
def yX12_learnsBy : MethodName := ⟨RX12, "learnsBy", "(I)Z"⟩
abbrev cX12_begins : ByteArray := prog_14_method_47_code
def yX12_begins : MethodName := ⟨RX12, "begins", "(II)V"⟩
abbrev cX12_goWeek : ByteArray := prog_14_method_48_code
def yX12_goWeek : MethodName := ⟨RX12, "goWeek", "(II)V"⟩
abbrev cX12_goWeeks : ByteArray := prog_14_method_49_code
def yX12_goWeeks : MethodName := ⟨RX12, "goWeeks", "(I)V"⟩
abbrev cX12_costBy : ByteArray := prog_14_method_50_code
def yX12_costBy : MethodName := ⟨RX12, "costBy", "(III)I"⟩
abbrev cX12_go : ByteArray := prog_14_method_51_code
def yX12_go : MethodName := ⟨RX12, "go", "(I)I"⟩
abbrev cX12_run : ByteArray := prog_14_method_52_code
def yX12_run : MethodName := ⟨RX12, "run", "(II)I"⟩
abbrev cX12_keepHours : ByteArray := prog_14_method_53_code
def yX12_keepHours : MethodName := ⟨RX12, "keepHours", "()V"⟩
abbrev cX12_putHours : ByteArray := prog_14_method_54_code
def yX12_putHours : MethodName := ⟨RX12, "putHours", "()V"⟩
abbrev cX12_costHanded : ByteArray := prog_14_method_55_code
def yX12_costHanded : MethodName := ⟨RX12, "costHanded", "(I)I"⟩
abbrev cX12_split : ByteArray := prog_14_method_56_code
def yX12_split : MethodName := ⟨RX12, "split", "(III)I"⟩
abbrev cX12_more : ByteArray := prog_14_method_57_code
def yX12_more : MethodName := ⟨RX12, "more", "(II)I"⟩
abbrev cX12_ask : ByteArray := prog_14_method_58_code
def yX12_ask : MethodName := ⟨RX12, "ask", "(I)I"⟩
abbrev cX12_drop : ByteArray := prog_14_method_59_code
def yX12_drop : MethodName := ⟨RX12, "drop", "(I)I"⟩
abbrev cX12_when : ByteArray := prog_14_method_60_code
def yX12_when : MethodName := ⟨RX12, "when", "(I)I"⟩
abbrev cX12_manyIn : ByteArray := prog_14_method_61_code
def yX12_manyIn : MethodName := ⟨RX12, "manyIn", "(I)I"⟩
abbrev cX12_busiest : ByteArray := prog_14_method_62_code
def yX12_busiest : MethodName := ⟨RX12, "busiest", "(II)I"⟩
abbrev cX12_allCome : ByteArray := prog_14_method_63_code
def yX12_allCome : MethodName := ⟨RX12, "allCome", "(II)Z"⟩
abbrev cX12_all : ByteArray := prog_14_method_64_code
def yX12_all : MethodName := ⟨RX12, "all", "(I)I"⟩
abbrev cX12_list : ByteArray := prog_14_method_65_code
def yX12_list : MethodName := ⟨RX12, "list", "(II)I"⟩
abbrev cX12_firstOff : ByteArray := prog_14_method_66_code
def yX12_firstOff : MethodName := ⟨RX12, "firstOff", "(I)I"⟩
abbrev cX12_looked : ByteArray := prog_14_method_67_code
def yX12_looked : MethodName := ⟨RX12, "looked", "()I"⟩
abbrev cX12_fits : ByteArray := prog_14_method_68_code
def yX12_fits : MethodName := ⟨RX12, "fits", "()I"⟩
abbrev cX12_divisor : ByteArray := prog_14_method_69_code
def yX12_divisor : MethodName := ⟨RX12, "divisor", "(JJ)J"⟩
abbrev cX12_comesIn : ByteArray := prog_14_method_70_code
def yX12_comesIn : MethodName := ⟨RX12, "comesIn", "(II)Z"⟩
abbrev cX12_chance : ByteArray := prog_14_method_71_code
def yX12_chance : MethodName := ⟨RX12, "chance", "(II)J"⟩
abbrev cX12_judge : ByteArray := prog_14_method_72_code
def yX12_judge : MethodName := ⟨RX12, "judge", "(II)I"⟩
abbrev cX12_image : ByteArray := prog_14_method_73_code
def yX12_image : MethodName := ⟨RX12, "image", "()I"⟩
abbrev cX12_undo : ByteArray := prog_14_method_74_code
def yX12_undo : MethodName := ⟨RX12, "undo", "()I"⟩
abbrev cX12_body : ByteArray := prog_14_method_75_code
def yX12_body : MethodName := ⟨RX12, "body", "(I)V"⟩
abbrev cX12_knowingSays : ByteArray := prog_14_method_76_code
def yX12_knowingSays : MethodName := ⟨RX12, "knowingSays", "(II)I"⟩
abbrev cX12_saysAct : ByteArray := prog_14_method_77_code
def yX12_saysAct : MethodName := ⟨RX12, "saysAct", "(II)I"⟩
abbrev cX12_knowingHolds : ByteArray := prog_14_method_78_code
def yX12_knowingHolds : MethodName := ⟨RX12, "knowingHolds", "(II)I"⟩
abbrev cX12_writtenHolds : ByteArray := prog_14_method_79_code
def yX12_writtenHolds : MethodName := ⟨RX12, "writtenHolds", "(II)I"⟩
abbrev cX12_holdsAct : ByteArray := prog_14_method_80_code
def yX12_holdsAct : MethodName := ⟨RX12, "holdsAct", "(II)I"⟩
abbrev cX12_knowingTells : ByteArray := prog_14_method_81_code
def yX12_knowingTells : MethodName := ⟨RX12, "knowingTells", "(II)I"⟩
abbrev cX12_tellsAct : ByteArray := prog_14_method_82_code
def yX12_tellsAct : MethodName := ⟨RX12, "tellsAct", "(II)I"⟩
abbrev cX12_act : ByteArray := prog_14_method_83_code
def yX12_act : MethodName := ⟨RX12, "act", "(III)I"⟩
abbrev cX12_trace : ByteArray := prog_14_method_84_code
def yX12_trace : MethodName := ⟨RX12, "trace", "(I)I"⟩
abbrev cX12_taken : ByteArray := prog_14_method_85_code
def yX12_taken : MethodName := ⟨RX12, "taken", "(II)I"⟩
abbrev cX12_count : ByteArray := prog_14_method_86_code
def yX12_count : MethodName := ⟨RX12, "count", "(I)I"⟩
abbrev cX12_isTape : ByteArray := prog_14_method_87_code
def yX12_isTape : MethodName := ⟨RX12, "isTape", "(I)Z"⟩
abbrev cX12_tape : ByteArray := prog_14_method_88_code
def yX12_tape : MethodName := ⟨RX12, "tape", "(III)I"⟩
abbrev cX12_narrow : ByteArray := prog_14_method_89_code
def yX12_narrow : MethodName := ⟨RX12, "narrow", "(IJ)J"⟩
abbrev cX12_item : ByteArray := prog_14_method_90_code
def yX12_item : MethodName := ⟨RX12, "item", "(IIJ)I"⟩
abbrev cX12_read : ByteArray := prog_14_method_91_code
def yX12_read : MethodName := ⟨RX12, "read", "(II)J"⟩
abbrev cX12_shift : ByteArray := prog_14_method_92_code
def yX12_shift : MethodName := ⟨RX12, "shift", "(IIIII)I"⟩
def RJ6 : String := "java/lang/Integer"
abbrev cJ6_bitCount_0f7a4 : ByteArray := prog_15_method_49_code
def yJ6_bitCount_0f7a4 : MethodName := ⟨RJ6, "bitCount", "(I)I"⟩
def RJ9 : String := "java/lang/Math"
abbrev cJ9_floorMod_7cf53 : ByteArray := prog_16_method_50_code
def yJ9_floorMod_7cf53 : MethodName := ⟨RJ9, "floorMod", "(II)I"⟩
abbrev cJ9_max_7cf53 : ByteArray := prog_16_method_65_code
def yJ9_max_7cf53 : MethodName := ⟨RJ9, "max", "(II)I"⟩
abbrev cJ9_max_f86c9 : ByteArray := prog_16_method_66_code
def yJ9_max_f86c9 : MethodName := ⟨RJ9, "max", "(JJ)J"⟩
abbrev cJ9_min_7cf53 : ByteArray := prog_16_method_69_code
def yJ9_min_7cf53 : MethodName := ⟨RJ9, "min", "(II)I"⟩
def RJ10 : String := "java/lang/System"
def RJ7 : String := "java/util/Arrays"
abbrev cJ7_fill_d0a16 : ByteArray := prog_18_method_101_code
def yJ7_fill_d0a16 : MethodName := ⟨RJ7, "fill", "([JJ)V"⟩
abbrev cJ7_fill_53178 : ByteArray := prog_18_method_103_code
def yJ7_fill_53178 : MethodName := ⟨RJ7, "fill", "([II)V"⟩
def RL : String := "NextOneKnowsLaw"
abbrev cL_law : ByteArray := code
abbrev vwCl : List vw_C := [(RX0, TX0, 16), (RX1, TX1, 6), (RX2, TX2, 6), (RX3, TX3, 12), (RX4, TX4, 6), (RX5, TX5, 14), (RX6, TX6, 6), (RX7, TX7, 2), (RX8, TX8, 6), (RX9, TX9, 6), (RX10, TX10, 6), (RX11, TX11, 12), (RX12, TX12, 73)]
abbrev Mt : Type := MethodName × ByteArray × Nat × Option FieldType
def mX11_init : Mt := (yX11_init, cX11_init, 2, none)
def mX5_init : Mt := (yX5_init, cX5_init, 1, none)
def mX0_init : Mt := (yX0_init, cX0_init, 2, none)
def mX7_init : Mt := (yX7_init, cX7_init, 1, none)
def mJ7_fill_53178 : Mt := (yJ7_fill_53178, cJ7_fill_53178, 4, none)
def mX3_init : Mt := (yX3_init, cX3_init, 2, none)
def mX11_doing : Mt := (yX11_doing, cX11_doing, 7, some FieldType.int)
def mX11_isNot : Mt := (yX11_isNot, cX11_isNot, 3, some FieldType.boolean)
def mX11_made : Mt := (yX11_made, cX11_made, 7, some (FieldType.object "NextOneKnows$Doing"))
def mX9_init : Mt := (yX9_init, cX9_init, 7, none)
def mX1_init : Mt := (yX1_init, cX1_init, 7, none)
def mJ9_max_7cf53 : Mt := (yJ9_max_7cf53, cJ9_max_7cf53, 2, some FieldType.int)
def mX2_init : Mt := (yX2_init, cX2_init, 7, none)
def mX4_init : Mt := (yX4_init, cX4_init, 7, none)
def mX8_init : Mt := (yX8_init, cX8_init, 7, none)
def mX6_init : Mt := (yX6_init, cX6_init, 7, none)
def mX10_init : Mt := (yX10_init, cX10_init, 7, none)
def mX5_add : Mt := (yX5_add, cX5_add, 2, some FieldType.int)
def mX11_of : Mt := (yX11_of, cX11_of, 4, some FieldType.int)
def mX5_find : Mt := (yX5_find, cX5_find, 2, some (FieldType.object "NextOneKnows$Doing"))
def mX2_kind : Mt := (yX2_kind, cX2_kind, 1, some FieldType.int)
def mX4_kind : Mt := (yX4_kind, cX4_kind, 1, some FieldType.int)
def mX6_kind : Mt := (yX6_kind, cX6_kind, 1, some FieldType.int)
def mX8_kind : Mt := (yX8_kind, cX8_kind, 1, some FieldType.int)
def mX9_kind : Mt := (yX9_kind, cX9_kind, 1, some FieldType.int)
def mX10_kind : Mt := (yX10_kind, cX10_kind, 1, some FieldType.int)
def mX1_kind : Mt := (yX1_kind, cX1_kind, 1, some FieldType.int)
def mX11_bit : Mt := (yX11_bit, cX11_bit, 2, some FieldType.int)
def mX0_saidOf : Mt := (yX0_saidOf, cX0_saidOf, 2, some FieldType.int)
def mX0_hearOf : Mt := (yX0_hearOf, cX0_hearOf, 3, none)
def mX5_saidBy : Mt := (yX5_saidBy, cX5_saidBy, 3, some FieldType.int)
def mX3_together : Mt := (yX3_together, cX3_together, 7, some FieldType.int)
def mX3_holds : Mt := (yX3_holds, cX3_holds, 8, some FieldType.boolean)
def mX3_passes : Mt := (yX3_passes, cX3_passes, 6, some FieldType.boolean)
def mX2_saidOver : Mt := (yX2_saidOver, cX2_saidOver, 3, some FieldType.int)
def mX4_saidOver : Mt := (yX4_saidOver, cX4_saidOver, 3, some FieldType.int)
def mX6_saidOver : Mt := (yX6_saidOver, cX6_saidOver, 3, some FieldType.int)
def mX8_saidOver : Mt := (yX8_saidOver, cX8_saidOver, 3, some FieldType.int)
def mX9_saidOver : Mt := (yX9_saidOver, cX9_saidOver, 3, some FieldType.int)
def mX10_saidOver : Mt := (yX10_saidOver, cX10_saidOver, 3, some FieldType.int)
def mX1_saidOver : Mt := (yX1_saidOver, cX1_saidOver, 5, some FieldType.int)
def mX5_dearIn : Mt := (yX5_dearIn, cX5_dearIn, 3, some FieldType.int)
def mX11_needless : Mt := (yX11_needless, cX11_needless, 4, some FieldType.int)
def mX11_withBit : Mt := (yX11_withBit, cX11_withBit, 3, some FieldType.int)
def mX11_learn : Mt := (yX11_learn, cX11_learn, 4, some FieldType.int)
def mX11_odds : Mt := (yX11_odds, cX11_odds, 5, some FieldType.int)
def mX11_hours : Mt := (yX11_hours, cX11_hours, 4, some FieldType.int)
def mX11_feed : Mt := (yX11_feed, cX11_feed, 2, some FieldType.int)
def mX11_post : Mt := (yX11_post, cX11_post, 3, some FieldType.int)
def mX3_readFrom : Mt := (yX3_readFrom, cX3_readFrom, 3, some FieldType.int)
def mJ9_min_7cf53 : Mt := (yJ9_min_7cf53, cJ9_min_7cf53, 2, some FieldType.int)
def mX3_takes : Mt := (yX3_takes, cX3_takes, 3, some FieldType.boolean)
def mX3_here : Mt := (yX3_here, cX3_here, 1, some FieldType.int)
def mX3_readClause : Mt := (yX3_readClause, cX3_readClause, 3, none)
def mX3_readWord : Mt := (yX3_readWord, cX3_readWord, 1, some FieldType.int)
def mX3_needs : Mt := (yX3_needs, cX3_needs, 2, none)
def mX3_takeIf : Mt := (yX3_takeIf, cX3_takeIf, 2, none)
def mX3_readNumber : Mt := (yX3_readNumber, cX3_readNumber, 3, some FieldType.int)
def mX3_readEither : Mt := (yX3_readEither, cX3_readEither, 4, none)
def mX3_readPart : Mt := (yX3_readPart, cX3_readPart, 2, none)
def mX3_keep : Mt := (yX3_keep, cX3_keep, 2, none)
def mX3_readTest : Mt := (yX3_readTest, cX3_readTest, 4, none)
def mX11_told : Mt := (yX11_told, cX11_told, 2, some FieldType.int)
def mX5_callsAtFirst : Mt := (yX5_callsAtFirst, cX5_callsAtFirst, 1, some FieldType.int)
def mX5_callsFading : Mt := (yX5_callsFading, cX5_callsFading, 1, some FieldType.int)
def mX11_said : Mt := (yX11_said, cX11_said, 4, some FieldType.int)
def mX11_hand : Mt := (yX11_hand, cX11_hand, 2, some FieldType.int)
def mX0_hear : Mt := (yX0_hear, cX0_hear, 3, none)
def mX0_goingOver : Mt := (yX0_goingOver, cX0_goingOver, 5, some FieldType.int)
def mJ6_bitCount_0f7a4 : Mt := (yJ6_bitCount_0f7a4, cJ6_bitCount_0f7a4, 1, some FieldType.int)
def mX11_go : Mt := (yX11_go, cX11_go, 2, some FieldType.int)
def mX0_look : Mt := (yX0_look, cX0_look, 3, none)
def mX5_coming : Mt := (yX5_coming, cX5_coming, 5, some FieldType.int)
def mX1_weeksUntil : Mt := (yX1_weeksUntil, cX1_weeksUntil, 2, some FieldType.int)
def mJ9_floorMod_7cf53 : Mt := (yJ9_floorMod_7cf53, cJ9_floorMod_7cf53, 3, some FieldType.int)
def mX0_lookDear : Mt := (yX0_lookDear, cX0_lookDear, 6, none)
def mX0_dearCell : Mt := (yX0_dearCell, cX0_dearCell, 2, some FieldType.int)
def mX0_pass : Mt := (yX0_pass, cX0_pass, 4, some FieldType.int)
def mX0_stopAll : Mt := (yX0_stopAll, cX0_stopAll, 5, none)
def mX0_stop : Mt := (yX0_stop, cX0_stop, 4, none)
def mX10_isKnownByCall : Mt := (yX10_isKnownByCall, cX10_isKnownByCall, 1, some FieldType.boolean)
def mX1_isKnownByCall : Mt := (yX1_isKnownByCall, cX1_isKnownByCall, 1, some FieldType.boolean)
def mX2_isKnownByStop : Mt := (yX2_isKnownByStop, cX2_isKnownByStop, 1, some FieldType.boolean)
def mX4_isKnownByStop : Mt := (yX4_isKnownByStop, cX4_isKnownByStop, 1, some FieldType.boolean)
def mX1_isKnownByStop : Mt := (yX1_isKnownByStop, cX1_isKnownByStop, 1, some FieldType.boolean)
def mX11_run : Mt := (yX11_run, cX11_run, 4, some FieldType.int)
def mX11_split : Mt := (yX11_split, cX11_split, 5, some FieldType.int)
def mX0_bestSplit : Mt := (yX0_bestSplit, cX0_bestSplit, 7, some FieldType.int)
def mX0_share : Mt := (yX0_share, cX0_share, 5, none)
def mX0_costHanded : Mt := (yX0_costHanded, cX0_costHanded, 2, some FieldType.int)
def mX11_more : Mt := (yX11_more, cX11_more, 3, some FieldType.int)
def mX0_hourMore : Mt := (yX0_hourMore, cX0_hourMore, 3, some (FieldType.array FieldType.int))
def mX11_ask : Mt := (yX11_ask, cX11_ask, 2, some FieldType.int)
def mX0_bestOf : Mt := (yX0_bestOf, cX0_bestOf, 8, some FieldType.int)
def mX11_drop : Mt := (yX11_drop, cX11_drop, 2, some FieldType.int)
def mX11_when : Mt := (yX11_when, cX11_when, 3, some FieldType.int)
def mX11_busiest : Mt := (yX11_busiest, cX11_busiest, 7, some FieldType.int)
def mX11_all : Mt := (yX11_all, cX11_all, 4, some FieldType.int)
def mX5_everyDoing : Mt := (yX5_everyDoing, cX5_everyDoing, 1, some FieldType.int)
def mX5_longestWait : Mt := (yX5_longestWait, cX5_longestWait, 6, some FieldType.int)
def mX11_list : Mt := (yX11_list, cX11_list, 3, some FieldType.int)
def mX5_addRow : Mt := (yX5_addRow, cX5_addRow, 3, some FieldType.int)
def mX11_looked : Mt := (yX11_looked, cX11_looked, 1, some FieldType.int)
def mX5_weeksToRows : Mt := (yX5_weeksToRows, cX5_weeksToRows, 3, some FieldType.int)
def mX0_firstRowNotSo : Mt := (yX0_firstRowNotSo, cX0_firstRowNotSo, 3, some FieldType.int)
def mX11_fits : Mt := (yX11_fits, cX11_fits, 3, some FieldType.int)
def mX11_chance : Mt := (yX11_chance, cX11_chance, 9, some FieldType.long)
def mX11_commonDivisor : Mt := (yX11_commonDivisor, cX11_commonDivisor, 11, some FieldType.long)
def mJ9_max_f86c9 : Mt := (yJ9_max_f86c9, cJ9_max_f86c9, 4, some FieldType.long)
def mX11_judge : Mt := (yX11_judge, cX11_judge, 4, some FieldType.int)
def mX11_image : Mt := (yX11_image, cX11_image, 1, some FieldType.int)
def mX5_takeFrom : Mt := (yX5_takeFrom, cX5_takeFrom, 3, none)
def mX11_undo : Mt := (yX11_undo, cX11_undo, 1, some FieldType.int)
def mX11_act : Mt := (yX11_act, cX11_act, 5, some FieldType.int)
def mX2_says : Mt := (yX2_says, cX2_says, 3, some FieldType.int)
def mX7_begins : Mt := (yX7_begins, cX7_begins, 2, none)
def mX8_says : Mt := (yX8_says, cX8_says, 3, some FieldType.int)
def mX10_says : Mt := (yX10_says, cX10_says, 3, some FieldType.int)
def mX1_says : Mt := (yX1_says, cX1_says, 3, some FieldType.int)
def mX8_holds : Mt := (yX8_holds, cX8_holds, 3, some FieldType.int)
def mX9_holds : Mt := (yX9_holds, cX9_holds, 3, some FieldType.int)
def mX10_holds : Mt := (yX10_holds, cX10_holds, 3, some FieldType.int)
def mX1_holds : Mt := (yX1_holds, cX1_holds, 3, some FieldType.int)
def mX4_tells : Mt := (yX4_tells, cX4_tells, 3, some FieldType.int)
def mX6_tells : Mt := (yX6_tells, cX6_tells, 3, some FieldType.int)
def mX1_tells : Mt := (yX1_tells, cX1_tells, 3, some FieldType.int)
def mX11_trace : Mt := (yX11_trace, cX11_trace, 2, some FieldType.int)
def mX11_taken : Mt := (yX11_taken, cX11_taken, 4, some FieldType.int)
def mX11_isOfKind : Mt := (yX11_isOfKind, cX11_isOfKind, 2, some FieldType.boolean)
def mX11_count : Mt := (yX11_count, cX11_count, 2, some FieldType.int)
def mX11_tape : Mt := (yX11_tape, cX11_tape, 4, some FieldType.int)
def mJ7_fill_d0a16 : Mt := (yJ7_fill_d0a16, cJ7_fill_d0a16, 5, none)
def mX11_item : Mt := (yX11_item, cX11_item, 5, some FieldType.int)
def mX11_cut : Mt := (yX11_cut, cX11_cut, 3, some FieldType.long)
def mX11_read : Mt := (yX11_read, cX11_read, 3, some FieldType.long)
def mX11_shift : Mt := (yX11_shift, cX11_shift, 6, some FieldType.int)
def mX12_init : Mt := (yX12_init, cX12_init, 1, none)
def mX12_doing : Mt := (yX12_doing, cX12_doing, 8, some FieldType.int)
def mX12_in : Mt := (yX12_in, cX12_in, 4, some FieldType.boolean)
def mX12_with : Mt := (yX12_with, cX12_with, 4, some FieldType.int)
def mX12_needless : Mt := (yX12_needless, cX12_needless, 4, some FieldType.int)
def mX12_isDoing : Mt := (yX12_isDoing, cX12_isDoing, 2, some FieldType.boolean)
def mX12_has : Mt := (yX12_has, cX12_has, 3, some FieldType.boolean)
def mX12_learn : Mt := (yX12_learn, cX12_learn, 4, some FieldType.int)
def mX12_odds : Mt := (yX12_odds, cX12_odds, 4, some FieldType.int)
def mX12_hours : Mt := (yX12_hours, cX12_hours, 4, some FieldType.int)
def mX12_isWay : Mt := (yX12_isWay, cX12_isWay, 2, some FieldType.boolean)
def mX12_feed : Mt := (yX12_feed, cX12_feed, 2, some FieldType.int)
def mX12_post : Mt := (yX12_post, cX12_post, 2, some FieldType.int)
def mX12_goesText : Mt := (yX12_goesText, cX12_goesText, 3, some FieldType.boolean)
def mX12_takesClause : Mt := (yX12_takesClause, cX12_takesClause, 2, some FieldType.boolean)
def mX12_takesHead : Mt := (yX12_takesHead, cX12_takesHead, 3, some FieldType.boolean)
def mX12_second : Mt := (yX12_second, cX12_second, 1, some FieldType.int)
def mX12_next : Mt := (yX12_next, cX12_next, 1, some FieldType.int)
def mX12_takesWord : Mt := (yX12_takesWord, cX12_takesWord, 4, some FieldType.boolean)
def mX12_takes : Mt := (yX12_takes, cX12_takes, 2, some FieldType.boolean)
def mX12_takesNumber : Mt := (yX12_takesNumber, cX12_takesNumber, 2, some FieldType.boolean)
def mX12_isDigit : Mt := (yX12_isDigit, cX12_isDigit, 1, some FieldType.boolean)
def mX12_takesE : Mt := (yX12_takesE, cX12_takesE, 4, some FieldType.boolean)
def mX12_takesTest : Mt := (yX12_takesTest, cX12_takesTest, 3, some FieldType.boolean)
def mX12_place : Mt := (yX12_place, cX12_place, 2, some FieldType.int)
def mX12_put : Mt := (yX12_put, cX12_put, 2, none)
def mX12_whole : Mt := (yX12_whole, cX12_whole, 1, none)
def mX12_settle : Mt := (yX12_settle, cX12_settle, 2, none)
def mX12_of : Mt := (yX12_of, cX12_of, 3, some FieldType.int)
def mX12_laySaid : Mt := (yX12_laySaid, cX12_laySaid, 3, none)
def mX12_sumOf : Mt := (yX12_sumOf, cX12_sumOf, 7, some FieldType.int)
def mX12_begin : Mt := (yX12_begin, cX12_begin, 1, some FieldType.int)
def mX12_behind : Mt := (yX12_behind, cX12_behind, 1, some FieldType.int)
def mX12_holds : Mt := (yX12_holds, cX12_holds, 10, some FieldType.boolean)
def mX12_factOf : Mt := (yX12_factOf, cX12_factOf, 5, some FieldType.int)
def mX12_saidOf : Mt := (yX12_saidOf, cX12_saidOf, 3, some FieldType.int)
def mX12_saidAll : Mt := (yX12_saidAll, cX12_saidAll, 5, some FieldType.int)
def mX12_dear : Mt := (yX12_dear, cX12_dear, 3, some FieldType.int)
def mX12_told : Mt := (yX12_told, cX12_told, 2, some FieldType.int)
def mX12_lastOf : Mt := (yX12_lastOf, cX12_lastOf, 5, some FieldType.int)
def mX12_said : Mt := (yX12_said, cX12_said, 3, some FieldType.int)
def mX12_hand : Mt := (yX12_hand, cX12_hand, 2, some FieldType.int)
def mX12_ones : Mt := (yX12_ones, cX12_ones, 4, some FieldType.int)
def mX12_over : Mt := (yX12_over, cX12_over, 3, some FieldType.int)
def mX12_go : Mt := (yX12_go, cX12_go, 2, some FieldType.int)
def mX12_begins : Mt := (yX12_begins, cX12_begins, 3, none)
def mX12_goWeeks : Mt := (yX12_goWeeks, cX12_goWeeks, 5, none)
def mX12_goWeek : Mt := (yX12_goWeek, cX12_goWeek, 5, none)
def mX12_comes : Mt := (yX12_comes, cX12_comes, 3, some FieldType.boolean)
def mX12_learnsBy : Mt := (yX12_learnsBy, cX12_learnsBy, 2, some FieldType.boolean)
def mX12_run : Mt := (yX12_run, cX12_run, 3, some FieldType.int)
def mX12_split : Mt := (yX12_split, cX12_split, 9, some FieldType.int)
def mX12_keepHours : Mt := (yX12_keepHours, cX12_keepHours, 2, none)
def mX12_costHanded : Mt := (yX12_costHanded, cX12_costHanded, 2, some FieldType.int)
def mX12_costBy : Mt := (yX12_costBy, cX12_costBy, 4, some FieldType.int)
def mX12_putHours : Mt := (yX12_putHours, cX12_putHours, 2, none)
def mX12_more : Mt := (yX12_more, cX12_more, 5, some FieldType.int)
def mX12_ask : Mt := (yX12_ask, cX12_ask, 6, some FieldType.int)
def mX12_drop : Mt := (yX12_drop, cX12_drop, 6, some FieldType.int)
def mX12_when : Mt := (yX12_when, cX12_when, 3, some FieldType.int)
def mX12_busiest : Mt := (yX12_busiest, cX12_busiest, 5, some FieldType.int)
def mX12_manyIn : Mt := (yX12_manyIn, cX12_manyIn, 4, some FieldType.int)
def mX12_all : Mt := (yX12_all, cX12_all, 3, some FieldType.int)
def mX12_allCome : Mt := (yX12_allCome, cX12_allCome, 4, some FieldType.boolean)
def mX12_list : Mt := (yX12_list, cX12_list, 3, some FieldType.int)
def mX12_looked : Mt := (yX12_looked, cX12_looked, 1, some FieldType.int)
def mX12_firstOff : Mt := (yX12_firstOff, cX12_firstOff, 3, some FieldType.int)
def mX12_fits : Mt := (yX12_fits, cX12_fits, 3, some FieldType.int)
def mX12_chance : Mt := (yX12_chance, cX12_chance, 9, some FieldType.long)
def mX12_comesIn : Mt := (yX12_comesIn, cX12_comesIn, 4, some FieldType.boolean)
def mX12_divisor : Mt := (yX12_divisor, cX12_divisor, 11, some FieldType.long)
def mX12_judge : Mt := (yX12_judge, cX12_judge, 4, some FieldType.int)
def mX12_isTape : Mt := (yX12_isTape, cX12_isTape, 2, some FieldType.boolean)
def mX12_image : Mt := (yX12_image, cX12_image, 2, some FieldType.int)
def mX12_undo : Mt := (yX12_undo, cX12_undo, 2, some FieldType.int)
def mX12_act : Mt := (yX12_act, cX12_act, 4, some FieldType.int)
def mX12_saysAct : Mt := (yX12_saysAct, cX12_saysAct, 3, some FieldType.int)
def mX12_body : Mt := (yX12_body, cX12_body, 2, none)
def mX12_knowingSays : Mt := (yX12_knowingSays, cX12_knowingSays, 3, some FieldType.int)
def mX12_holdsAct : Mt := (yX12_holdsAct, cX12_holdsAct, 4, some FieldType.int)
def mX12_writtenHolds : Mt := (yX12_writtenHolds, cX12_writtenHolds, 3, some FieldType.int)
def mX12_knowingHolds : Mt := (yX12_knowingHolds, cX12_knowingHolds, 3, some FieldType.int)
def mX12_tellsAct : Mt := (yX12_tellsAct, cX12_tellsAct, 4, some FieldType.int)
def mX12_knowingTells : Mt := (yX12_knowingTells, cX12_knowingTells, 3, some FieldType.int)
def mX12_trace : Mt := (yX12_trace, cX12_trace, 2, some FieldType.int)
def mX12_taken : Mt := (yX12_taken, cX12_taken, 4, some FieldType.int)
def mX12_count : Mt := (yX12_count, cX12_count, 2, some FieldType.int)
def mX12_tape : Mt := (yX12_tape, cX12_tape, 5, some FieldType.int)
def mX12_item : Mt := (yX12_item, cX12_item, 5, some FieldType.int)
def mX12_narrow : Mt := (yX12_narrow, cX12_narrow, 4, some FieldType.long)
def mX12_read : Mt := (yX12_read, cX12_read, 3, some FieldType.long)
def mX12_shift : Mt := (yX12_shift, cX12_shift, 7, some FieldType.int)
def dc (cc : ByteArray) (pc : Nat) (ins : Instr) (len nx : Nat) : Prop := decode cc pc = .ok (ins, len) ∧ pc + len = nx
def dcl (cc : ByteArray) (L : List (Nat × Instr × Nat × Nat)) : Prop := ∀ q ∈ L, decode cc q.1 = .ok (q.2.1, q.2.2.1) ∧ q.1 + q.2.2.1 = q.2.2.2
theorem dk {cc : ByteArray} {L : List (Nat × Instr × Nat × Nat)} (h : dcl cc L) (i : Nat) {pc : Nat} {ins : Instr} {len nx : Nat} (hi : L[i]? = some (pc, ins, len, nx)) : dc cc pc ins len nx := by
  obtain ⟨a, b⟩ := h (pc, ins, len, nx) (List.mem_of_getElem? hi)
  exact ⟨a, b⟩
def TG : List Cond := lw_tbl.filter goodWord
theorem tg_of (i : Nat) {w : Cond} (h : lw_tbl[i]? = some w) (hg : goodWord w = true) : w ∈ TG := List.mem_filter.mpr ⟨List.mem_of_getElem? h, hg⟩
theorem tg_good {w : Cond} (h : w ∈ TG) : goodWord w = true := (List.mem_filter.mp h).2
theorem tg_tbl {w : Cond} (h : w ∈ TG) : w ∈ lw_tbl := (List.mem_filter.mp h).1
end
section
set_option maxRecDepth 20000 in
theorem DX0_init : dcl mX0_init.2.1 [(0, .aload_n 0, 1, 1), (1, .invokespecial 3, 3, 4), (4, .aload_n 0, 1, 5), (5, .sipush 200, 3, 8), (8, .newarray .int, 2, 10), (10, .putfield 9, 3, 13), (13, .aload_n 0, 1, 14), (14, .sipush 600, 3, 17), (17, .newarray .int, 2, 19), (19, .putfield 17, 3, 22), (22, .aload_n 0, 1, 23), (23, .bipush 10, 2, 25), (25, .iconst 4, 1, 26), (26, .multianewarray 20 2, 4, 30), (30, .putfield 22, 3, 33), (33, .aload_n 0, 1, 34), (34, .sipush 200, 3, 37), (37, .newarray .int, 2, 39), (39, .putfield 25, 3, 42), (42, .aload_n 0, 1, 43), (43, .iconst 4, 1, 44), (44, .newarray .int, 2, 46), (46, .putfield 28, 3, 49), (49, .aload_n 0, 1, 50), (50, .iconst 4, 1, 51), (51, .newarray .int, 2, 53), (53, .putfield 31, 3, 56), (56, .aload_n 0, 1, 57), (57, .aload_n 1, 1, 58), (58, .putfield 34, 3, 61), (61, .return_, 1, 62)] := by unfold dcl; decide +kernel
set_option maxRecDepth 20000 in
theorem DX0_look : dcl mX0_look.2.1 [(0, .aload_n 0, 1, 1), (1, .iconst 0, 1, 2), (2, .iload_n 1, 1, 3), (3, .sipush 200, 3, 6), (6, .invokestatic 38, 3, 9), (9, .invokestatic 44, 3, 12), (12, .putfield 47, 3, 15), (15, .aload_n 0, 1, 16), (16, .getfield 17, 3, 19), (19, .iconst (-1), 1, 20), (20, .invokestatic 51, 3, 23), (23, .iconst 0, 1, 24), (24, .istore_n 2, 1, 25), (25, .iload_n 2, 1, 26), (26, .aload_n 0, 1, 27), (27, .getfield 47, 3, 30), (30, .if_icmp .ge 50, 3, 33), (33, .aload_n 0, 1, 34), (34, .getfield 9, 3, 37), (37, .iload_n 2, 1, 38), (38, .aload_n 0, 1, 39), (39, .getfield 34, 3, 42), (42, .aload_n 0, 1, 43), (43, .getfield 34, 3, 46), (46, .getfield 57, 3, 49), (49, .iload_n 2, 1, 50), (50, .iadd, 1, 51), (51, .invokevirtual 62, 3, 54), (54, .iastore, 1, 55), (55, .aload_n 0, 1, 56), (56, .aload_n 0, 1, 57), (57, .getfield 9, 3, 60), (60, .iload_n 2, 1, 61), (61, .iaload, 1, 62), (62, .aload_n 0, 1, 63), (63, .getfield 34, 3, 66), (66, .getfield 57, 3, 69), (69, .iload_n 2, 1, 70), (70, .iadd, 1, 71), (71, .invokevirtual 65, 3, 74), (74, .iinc 2 1, 3, 77), (77, .goto (-52), 3, 80), (80, .return_, 1, 81)] := by unfold dcl; decide +kernel
set_option maxRecDepth 20000 in
theorem DX0_lookDear : dcl mX0_lookDear.2.1 [(0, .iconst 0, 1, 1), (1, .istore_n 3, 1, 2), (2, .iload_n 3, 1, 3), (3, .aload_n 0, 1, 4), (4, .getfield 34, 3, 7), (7, .getfield 69, 3, 10), (10, .if_icmp .ge 66, 3, 13), (13, .iload_n 3, 1, 14), (14, .iload_n 2, 1, 15), (15, .invokestatic 72, 3, 18), (18, .istore 4, 2, 20), (20, .aload_n 0, 1, 21), (21, .getfield 34, 3, 24), (24, .iload_n 3, 1, 25), (25, .invokevirtual 75, 3, 28), (28, .astore 5, 2, 30), (30, .aload 5, 2, 32), (32, .ifnull 38, 3, 35), (35, .iload_n 1, 1, 36), (36, .iload_n 3, 1, 37), (37, .invokestatic 79, 3, 40), (40, .ifCond .eq 30, 3, 43), (43, .aload_n 0, 1, 44), (44, .getfield 17, 3, 47), (47, .iload 4, 2, 49), (49, .iaload, 1, 50), (50, .ifCond .ge 20, 3, 53), (53, .aload_n 0, 1, 54), (54, .getfield 17, 3, 57), (57, .iload 4, 2, 59), (59, .aload_n 0, 1, 60), (60, .getfield 34, 3, 63), (63, .aload 5, 2, 65), (65, .iload_n 2, 1, 66), (66, .invokevirtual 82, 3, 69), (69, .iastore, 1, 70), (70, .iinc 3 1, 3, 73), (73, .goto (-71), 3, 76), (76, .return_, 1, 77)] := by unfold dcl; decide +kernel
set_option maxRecDepth 20000 in
theorem DX0_dearCell : dcl mX0_dearCell.2.1 [(0, .iload_n 0, 1, 1), (1, .bipush 60, 2, 3), (3, .imul, 1, 4), (4, .iload_n 1, 1, 5), (5, .bipush 60, 2, 7), (7, .invokestatic 86, 3, 10), (10, .iadd, 1, 11), (11, .ireturn, 1, 12)] := by unfold dcl; decide +kernel
set_option maxRecDepth 20000 in
theorem DX0_hear : dcl mX0_hear.2.1 [(0, .iconst 0, 1, 1), (1, .istore_n 1, 1, 2), (2, .iload_n 1, 1, 3), (3, .aload_n 0, 1, 4), (4, .getfield 34, 3, 7), (7, .getfield 69, 3, 10), (10, .if_icmp .ge 27, 3, 13), (13, .aload_n 0, 1, 14), (14, .getfield 34, 3, 17), (17, .iload_n 1, 1, 18), (18, .invokevirtual 75, 3, 21), (21, .astore_n 2, 1, 22), (22, .aload_n 2, 1, 23), (23, .ifnull 8, 3, 26), (26, .aload_n 0, 1, 27), (27, .aload_n 2, 1, 28), (28, .invokevirtual 89, 3, 31), (31, .iinc 1 1, 3, 34), (34, .goto (-32), 3, 37), (37, .return_, 1, 38)] := by unfold dcl; decide +kernel
set_option maxRecDepth 20000 in
theorem DX0_hearOf : dcl mX0_hearOf.2.1 [(0, .iconst 0, 1, 1), (1, .istore_n 2, 1, 2), (2, .iload_n 2, 1, 3), (3, .iconst 4, 1, 4), (4, .if_icmp .ge 29, 3, 7), (7, .aload_n 0, 1, 8), (8, .getfield 22, 3, 11), (11, .aload_n 1, 1, 12), (12, .getfield 93, 3, 15), (15, .aaload, 1, 16), (16, .iload_n 2, 1, 17), (17, .aload_n 0, 1, 18), (18, .getfield 34, 3, 21), (21, .aload_n 1, 1, 22), (22, .iload_n 2, 1, 23), (23, .invokevirtual 98, 3, 26), (26, .iastore, 1, 27), (27, .iinc 2 1, 3, 30), (30, .goto (-28), 3, 33), (33, .return_, 1, 34)] := by unfold dcl; decide +kernel
set_option maxRecDepth 20000 in
theorem DX0_saidOf : dcl mX0_saidOf.2.1 [(0, .aload_n 0, 1, 1), (1, .aload_n 1, 1, 2), (2, .invokevirtual 89, 3, 5), (5, .aload_n 1, 1, 6), (6, .aload_n 0, 1, 7), (7, .getfield 22, 3, 10), (10, .aload_n 1, 1, 11), (11, .getfield 93, 3, 14), (14, .aaload, 1, 15), (15, .aload_n 0, 1, 16), (16, .getfield 34, 3, 19), (19, .getfield 101, 3, 22), (22, .invokevirtual 104, 3, 25), (25, .ireturn, 1, 26)] := by unfold dcl; decide +kernel
set_option maxRecDepth 20000 in
theorem DX0_goingOver : dcl mX0_goingOver.2.1 [(0, .iconst 0, 1, 1), (1, .istore_n 2, 1, 2), (2, .iconst 0, 1, 3), (3, .istore_n 3, 1, 4), (4, .iload_n 3, 1, 5), (5, .aload_n 0, 1, 6), (6, .getfield 34, 3, 9), (9, .getfield 69, 3, 12), (12, .if_icmp .ge 50, 3, 15), (15, .aload_n 0, 1, 16), (16, .getfield 34, 3, 19), (19, .iload_n 3, 1, 20), (20, .invokevirtual 75, 3, 23), (23, .astore 4, 2, 25), (25, .aload 4, 2, 27), (27, .ifnull 29, 3, 30), (30, .aload 4, 2, 32), (32, .aload_n 0, 1, 33), (33, .getfield 22, 3, 36), (36, .iload_n 3, 1, 37), (37, .aaload, 1, 38), (38, .aload_n 1, 1, 39), (39, .invokevirtual 104, 3, 42), (42, .aload 4, 2, 44), (44, .getfield 108, 3, 47), (47, .if_icmp .lt 9, 3, 50), (50, .iload_n 2, 1, 51), (51, .iconst 1, 1, 52), (52, .iload_n 3, 1, 53), (53, .ishl, 1, 54), (54, .ior, 1, 55), (55, .istore_n 2, 1, 56), (56, .iinc 3 1, 3, 59), (59, .goto (-55), 3, 62), (62, .iload_n 2, 1, 63), (63, .ireturn, 1, 64)] := by unfold dcl; decide +kernel
set_option maxRecDepth 20000 in
theorem DX0_pass_0 : dcl mX0_pass.2.1 [(0, .aload_n 0, 1, 1), (1, .iload_n 1, 1, 2), (2, .putfield 111, 3, 5), (5, .aload_n 0, 1, 6), (6, .iload_n 2, 1, 7), (7, .putfield 114, 3, 10), (10, .aload_n 0, 1, 11), (11, .iconst 0, 1, 12), (12, .putfield 117, 3, 15), (15, .aload_n 0, 1, 16), (16, .iconst 0, 1, 17), (17, .putfield 120, 3, 20), (20, .aload_n 0, 1, 21), (21, .iconst 0, 1, 22), (22, .putfield 123, 3, 25), (25, .aload_n 0, 1, 26), (26, .bipush (-5), 2, 28), (28, .putfield 126, 3, 31), (31, .aload_n 0, 1, 32), (32, .bipush (-5), 2, 34), (34, .putfield 129, 3, 37), (37, .iconst 0, 1, 38), (38, .istore_n 3, 1, 39), (39, .iload_n 3, 1, 40), (40, .aload_n 0, 1, 41), (41, .getfield 47, 3, 44), (44, .if_icmp .ge 91, 3, 47), (47, .aload_n 0, 1, 48), (48, .getfield 25, 3, 51), (51, .iload_n 3, 1, 52), (52, .aload_n 0, 1, 53), (53, .getfield 9, 3, 56), (56, .iload_n 3, 1, 57), (57, .iaload, 1, 58), (58, .aload_n 0, 1, 59), (59, .getfield 114, 3, 62), (62, .iconst (-1), 1, 63), (63, .ixor, 1, 64), (64, .iand, 1, 65), (65, .aload_n 0, 1, 66), (66, .getfield 111, 3, 69), (69, .iconst (-1), 1, 70), (70, .ixor, 1, 71), (71, .iand, 1, 72), (72, .iastore, 1, 73), (73, .aload_n 0, 1, 74), (74, .getfield 25, 3, 77), (77, .iload_n 3, 1, 78), (78, .iaload, 1, 79), (79, .ifCond .eq 22, 3, 82), (82, .aload_n 0, 1, 83), (83, .aload_n 0, 1, 84), (84, .getfield 25, 3, 87), (87, .iload_n 3, 1, 88), (88, .iaload, 1, 89), (89, .aload_n 0, 1, 90), (90, .getfield 34, 3, 93), (93, .getfield 57, 3, 96), (96, .iload_n 3, 1, 97), (97, .iadd, 1, 98)] := by unfold dcl; decide +kernel
set_option maxRecDepth 20000 in
theorem DX0_pass_1 : dcl mX0_pass.2.1 [(98, .invokevirtual 132, 3, 101), (101, .aload_n 0, 1, 102), (102, .dup, 1, 103), (103, .getfield 117, 3, 106), (106, .aload_n 0, 1, 107), (107, .getfield 9, 3, 110), (110, .iload_n 3, 1, 111), (111, .iaload, 1, 112), (112, .aload_n 0, 1, 113), (113, .getfield 114, 3, 116), (116, .iand, 1, 117), (117, .aload_n 0, 1, 118), (118, .getfield 111, 3, 121), (121, .iand, 1, 122), (122, .invokestatic 135, 3, 125), (125, .iadd, 1, 126), (126, .putfield 117, 3, 129), (129, .iinc 3 1, 3, 132), (132, .goto (-93), 3, 135), (135, .aload_n 0, 1, 136), (136, .getfield 117, 3, 139), (139, .ireturn, 1, 140)] := by unfold dcl; decide +kernel
set_option maxRecDepth 20000 in
theorem DX0_stopAll : dcl mX0_stopAll.2.1 [(0, .aload_n 0, 1, 1), (1, .iconst 0, 1, 2), (2, .putfield 140, 3, 5), (5, .iconst 0, 1, 6), (6, .istore_n 3, 1, 7), (7, .iload_n 3, 1, 8), (8, .aload_n 0, 1, 9), (9, .getfield 34, 3, 12), (12, .getfield 69, 3, 15), (15, .if_icmp .ge 39, 3, 18), (18, .aload_n 0, 1, 19), (19, .getfield 34, 3, 22), (22, .iload_n 3, 1, 23), (23, .invokevirtual 75, 3, 26), (26, .astore 4, 2, 28), (28, .aload 4, 2, 30), (30, .ifnull 18, 3, 33), (33, .iload_n 1, 1, 34), (34, .iload_n 3, 1, 35), (35, .invokestatic 79, 3, 38), (38, .ifCond .eq 10, 3, 41), (41, .aload_n 0, 1, 42), (42, .aload 4, 2, 44), (44, .iload_n 2, 1, 45), (45, .invokevirtual 143, 3, 48), (48, .iinc 3 1, 3, 51), (51, .goto (-44), 3, 54), (54, .return_, 1, 55)] := by unfold dcl; decide +kernel
set_option maxRecDepth 20000 in
theorem DX0_stop_0 : dcl mX0_stop.2.1 [(0, .aload_n 0, 1, 1), (1, .getfield 120, 3, 4), (4, .ifCond .ne 16, 3, 7), (7, .aload_n 0, 1, 8), (8, .iload_n 2, 1, 9), (9, .putfield 126, 3, 12), (12, .aload_n 0, 1, 13), (13, .aload_n 1, 1, 14), (14, .getfield 93, 3, 17), (17, .putfield 129, 3, 20), (20, .aload_n 0, 1, 21), (21, .dup, 1, 22), (22, .getfield 120, 3, 25), (25, .iconst 1, 1, 26), (26, .iadd, 1, 27), (27, .putfield 120, 3, 30), (30, .aload_n 0, 1, 31), (31, .getfield 140, 3, 34), (34, .aload_n 0, 1, 35), (35, .getfield 34, 3, 38), (38, .invokevirtual 147, 3, 41), (41, .aload_n 0, 1, 42), (42, .getfield 34, 3, 45), (45, .invokevirtual 151, 3, 48), (48, .iload_n 2, 1, 49), (49, .imul, 1, 50), (50, .isub, 1, 51), (51, .if_icmp .ge 7, 3, 54), (54, .iconst 1, 1, 55), (55, .goto 4, 3, 58), (58, .iconst 0, 1, 59), (59, .istore_n 3, 1, 60), (60, .iload_n 3, 1, 61), (61, .ifCond .eq 23, 3, 64), (64, .aload_n 0, 1, 65), (65, .dup, 1, 66), (66, .getfield 140, 3, 69), (69, .iconst 1, 1, 70), (70, .iadd, 1, 71), (71, .putfield 140, 3, 74), (74, .aload_n 0, 1, 75), (75, .dup, 1, 76), (76, .getfield 123, 3, 79), (79, .iconst 1, 1, 80), (80, .iadd, 1, 81), (81, .putfield 123, 3, 84), (84, .aload_n 0, 1, 85), (85, .dup, 1, 86), (86, .getfield 117, 3, 89), (89, .iload_n 3, 1, 90), (90, .ifCond .eq 7, 3, 93), (93, .iconst 1, 1, 94), (94, .goto 16, 3, 97), (97, .aload_n 0, 1, 98), (98, .getfield 17, 3, 101), (101, .aload_n 1, 1, 102), (102, .getfield 93, 3, 105), (105, .iload_n 2, 1, 106), (106, .invokestatic 72, 3, 109), (109, .iaload, 1, 110)] := by unfold dcl; decide +kernel
set_option maxRecDepth 20000 in
theorem DX0_stop_1 : dcl mX0_stop.2.1 [(110, .iadd, 1, 111), (111, .putfield 117, 3, 114), (114, .iload_n 3, 1, 115), (115, .ifCond .eq 13, 3, 118), (118, .aload_n 1, 1, 119), (119, .invokevirtual 154, 3, 122), (122, .ifCond .eq 28, 3, 125), (125, .goto 10, 3, 128), (128, .aload_n 1, 1, 129), (129, .invokevirtual 158, 3, 132), (132, .ifCond .eq 18, 3, 135), (135, .aload_n 0, 1, 136), (136, .dup, 1, 137), (137, .getfield 111, 3, 140), (140, .iconst 1, 1, 141), (141, .aload_n 1, 1, 142), (142, .getfield 93, 3, 145), (145, .ishl, 1, 146), (146, .ior, 1, 147), (147, .putfield 111, 3, 150), (150, .return_, 1, 151)] := by unfold dcl; decide +kernel
set_option maxRecDepth 20000 in
theorem DX0_costHanded : dcl mX0_costHanded.2.1 [(0, .aload_n 0, 1, 1), (1, .aload_n 0, 1, 2), (2, .getfield 34, 3, 5), (5, .getfield 161, 3, 8), (8, .aload_n 0, 1, 9), (9, .aload_n 1, 1, 10), (10, .invokevirtual 162, 3, 13), (13, .ior, 1, 14), (14, .aload_n 0, 1, 15), (15, .getfield 34, 3, 18), (18, .getfield 166, 3, 21), (21, .invokevirtual 167, 3, 24), (24, .ireturn, 1, 25)] := by unfold dcl; decide +kernel
set_option maxRecDepth 20000 in
theorem DX0_hourMore : dcl mX0_hourMore.2.1 [(0, .iconst 0, 1, 1), (1, .istore_n 2, 1, 2), (2, .iload_n 2, 1, 3), (3, .iconst 4, 1, 4), (4, .if_icmp .ge 35, 3, 7), (7, .aload_n 0, 1, 8), (8, .getfield 28, 3, 11), (11, .iload_n 2, 1, 12), (12, .aload_n 0, 1, 13), (13, .getfield 34, 3, 16), (16, .getfield 101, 3, 19), (19, .iload_n 2, 1, 20), (20, .iaload, 1, 21), (21, .iload_n 2, 1, 22), (22, .iload_n 1, 1, 23), (23, .if_icmp .ne 7, 3, 26), (26, .iconst 1, 1, 27), (27, .goto 4, 3, 30), (30, .iconst 0, 1, 31), (31, .iadd, 1, 32), (32, .iastore, 1, 33), (33, .iinc 2 1, 3, 36), (36, .goto (-34), 3, 39), (39, .aload_n 0, 1, 40), (40, .getfield 28, 3, 43), (43, .areturn, 1, 44)] := by unfold dcl; decide +kernel
set_option maxRecDepth 20000 in
theorem DX0_bestSplit_0 : dcl mX0_bestSplit.2.1 [(0, .ldc 170, 2, 2), (2, .istore_n 2, 1, 3), (3, .iconst 0, 1, 4), (4, .istore_n 3, 1, 5), (5, .iload_n 3, 1, 6), (6, .iload_n 1, 1, 7), (7, .if_icmp .gt 97, 3, 10), (10, .iconst 0, 1, 11), (11, .istore 4, 2, 13), (13, .iload 4, 2, 15), (15, .iload_n 1, 1, 16), (16, .iload_n 3, 1, 17), (17, .isub, 1, 18), (18, .if_icmp .gt 80, 3, 21), (21, .iconst 0, 1, 22), (22, .istore 5, 2, 24), (24, .iload 5, 2, 26), (26, .iload_n 1, 1, 27), (27, .iload_n 3, 1, 28), (28, .isub, 1, 29), (29, .iload 4, 2, 31), (31, .isub, 1, 32), (32, .if_icmp .gt 60, 3, 35), (35, .aload_n 0, 1, 36), (36, .iload_n 3, 1, 37), (37, .iload 4, 2, 39), (39, .iload 5, 2, 41), (41, .iload_n 1, 1, 42), (42, .iload_n 3, 1, 43), (43, .isub, 1, 44), (44, .iload 4, 2, 46), (46, .isub, 1, 47), (47, .iload 5, 2, 49), (49, .isub, 1, 50), (50, .invokevirtual 171, 3, 53), (53, .aload_n 0, 1, 54), (54, .aload_n 0, 1, 55), (55, .getfield 28, 3, 58), (58, .invokevirtual 175, 3, 61), (61, .istore 6, 2, 63), (63, .iload 6, 2, 65), (65, .iload_n 2, 1, 66), (66, .if_icmp .ge 20, 3, 69), (69, .iload 6, 2, 71), (71, .istore_n 2, 1, 72), (72, .aload_n 0, 1, 73), (73, .getfield 28, 3, 76), (76, .iconst 0, 1, 77), (77, .aload_n 0, 1, 78), (78, .getfield 31, 3, 81), (81, .iconst 0, 1, 82), (82, .iconst 4, 1, 83), (83, .invokestatic 178, 3, 86), (86, .iinc 5 1, 3, 89), (89, .goto (-65), 3, 92), (92, .iinc 4 1, 3, 95), (95, .goto (-82), 3, 98), (98, .iinc 3 1, 3, 101), (101, .goto (-96), 3, 104), (104, .iload_n 2, 1, 105)] := by unfold dcl; decide +kernel
set_option maxRecDepth 20000 in
theorem DX0_bestSplit_1 : dcl mX0_bestSplit.2.1 [(105, .ireturn, 1, 106)] := by unfold dcl; decide +kernel
set_option maxRecDepth 20000 in
theorem DX0_share : dcl mX0_share.2.1 [(0, .aload_n 0, 1, 1), (1, .getfield 28, 3, 4), (4, .iconst 0, 1, 5), (5, .iload_n 1, 1, 6), (6, .iastore, 1, 7), (7, .aload_n 0, 1, 8), (8, .getfield 28, 3, 11), (11, .iconst 1, 1, 12), (12, .iload_n 2, 1, 13), (13, .iastore, 1, 14), (14, .aload_n 0, 1, 15), (15, .getfield 28, 3, 18), (18, .iconst 2, 1, 19), (19, .iload_n 3, 1, 20), (20, .iastore, 1, 21), (21, .aload_n 0, 1, 22), (22, .getfield 28, 3, 25), (25, .iconst 3, 1, 26), (26, .iload 4, 2, 28), (28, .iastore, 1, 29), (29, .return_, 1, 30)] := by unfold dcl; decide +kernel
set_option maxRecDepth 20000 in
theorem DX0_bestOf : dcl mX0_bestOf.2.1 [(0, .bipush (-5), 2, 2), (2, .istore_n 3, 1, 3), (3, .ldc 170, 2, 5), (5, .istore 4, 2, 7), (7, .iconst 0, 1, 8), (8, .istore 5, 2, 10), (10, .iload 5, 2, 12), (12, .aload_n 0, 1, 13), (13, .getfield 34, 3, 16), (16, .getfield 69, 3, 19), (19, .if_icmp .ge 89, 3, 22), (22, .iload_n 1, 1, 23), (23, .iload 5, 2, 25), (25, .invokestatic 79, 3, 28), (28, .ifCond .eq 74, 3, 31), (31, .iconst 1, 1, 32), (32, .iload 5, 2, 34), (34, .ishl, 1, 35), (35, .istore 6, 2, 37), (37, .iload_n 2, 1, 38), (38, .ifCond .eq 27, 3, 41), (41, .aload_n 0, 1, 42), (42, .aload_n 0, 1, 43), (43, .getfield 34, 3, 46), (46, .getfield 161, 3, 49), (49, .iload 6, 2, 51), (51, .ior, 1, 52), (52, .aload_n 0, 1, 53), (53, .getfield 34, 3, 56), (56, .getfield 166, 3, 59), (59, .invokevirtual 167, 3, 62), (62, .goto 24, 3, 65), (65, .aload_n 0, 1, 66), (66, .aload_n 0, 1, 67), (67, .getfield 34, 3, 70), (70, .getfield 161, 3, 73), (73, .aload_n 0, 1, 74), (74, .getfield 34, 3, 77), (77, .getfield 166, 3, 80), (80, .iload 6, 2, 82), (82, .ior, 1, 83), (83, .invokevirtual 167, 3, 86), (86, .istore 7, 2, 88), (88, .iload 7, 2, 90), (90, .iload 4, 2, 92), (92, .if_icmp .ge 10, 3, 95), (95, .iload 7, 2, 97), (97, .istore 4, 2, 99), (99, .iload 5, 2, 101), (101, .istore_n 3, 1, 102), (102, .iinc 5 1, 3, 105), (105, .goto (-95), 3, 108), (108, .iload_n 3, 1, 109), (109, .ireturn, 1, 110)] := by unfold dcl; decide +kernel
set_option maxRecDepth 20000 in
theorem DX0_firstRowNotSo : dcl mX0_firstRowNotSo.2.1 [(0, .iconst 0, 1, 1), (1, .istore_n 1, 1, 2), (2, .iload_n 1, 1, 3), (3, .aload_n 0, 1, 4), (4, .getfield 34, 3, 7), (7, .getfield 184, 3, 10), (10, .if_icmp .ge 62, 3, 13), (13, .aload_n 0, 1, 14), (14, .getfield 34, 3, 17), (17, .getfield 187, 3, 20), (20, .iload_n 1, 1, 21), (21, .iaload, 1, 22), (22, .aload_n 0, 1, 23), (23, .getfield 34, 3, 26), (26, .getfield 57, 3, 29), (29, .isub, 1, 30), (30, .istore_n 2, 1, 31), (31, .iload_n 2, 1, 32), (32, .ifCond .lt 32, 3, 35), (35, .iload_n 2, 1, 36), (36, .aload_n 0, 1, 37), (37, .getfield 47, 3, 40), (40, .if_icmp .ge 24, 3, 43), (43, .aload_n 0, 1, 44), (44, .getfield 25, 3, 47), (47, .iload_n 2, 1, 48), (48, .iaload, 1, 49), (49, .aload_n 0, 1, 50), (50, .getfield 34, 3, 53), (53, .getfield 190, 3, 56), (56, .iload_n 1, 1, 57), (57, .iaload, 1, 58), (58, .invokestatic 79, 3, 61), (61, .ifCond .ne 5, 3, 64), (64, .iload_n 1, 1, 65), (65, .ireturn, 1, 66), (66, .iinc 1 1, 3, 69), (69, .goto (-67), 3, 72), (72, .bipush (-5), 2, 74), (74, .ireturn, 1, 75)] := by unfold dcl; decide +kernel
set_option maxRecDepth 20000 in
theorem DX1_init : dcl mX1_init.2.1 [(0, .aload_n 0, 1, 1), (1, .invokespecial 3, 3, 4), (4, .aload_n 0, 1, 5), (5, .iload_n 1, 1, 6), (6, .putfield 9, 3, 9), (9, .aload_n 0, 1, 10), (10, .iload_n 2, 1, 11), (11, .putfield 15, 3, 14), (14, .aload_n 0, 1, 15), (15, .iconst 1, 1, 16), (16, .iload_n 3, 1, 17), (17, .invokestatic 18, 3, 20), (20, .putfield 24, 3, 23), (23, .aload_n 0, 1, 24), (24, .iload 4, 2, 26), (26, .putfield 27, 3, 29), (29, .aload_n 0, 1, 30), (30, .iload 5, 2, 32), (32, .putfield 30, 3, 35), (35, .aload_n 0, 1, 36), (36, .iload 6, 2, 38), (38, .putfield 33, 3, 41), (41, .return_, 1, 42)] := by unfold dcl; decide +kernel
set_option maxRecDepth 20000 in
theorem DX1_kind : dcl mX1_kind.2.1 [(0, .iconst 0, 1, 1), (1, .ireturn, 1, 2)] := by unfold dcl; decide +kernel
set_option maxRecDepth 20000 in
theorem DX1_weeksUntil : dcl mX1_weeksUntil.2.1 [(0, .aload_n 0, 1, 1), (1, .getfield 27, 3, 4), (4, .iload_n 1, 1, 5), (5, .isub, 1, 6), (6, .aload_n 0, 1, 7), (7, .getfield 24, 3, 10), (10, .invokestatic 36, 3, 13), (13, .ireturn, 1, 14)] := by unfold dcl; decide +kernel
set_option maxRecDepth 20000 in
theorem DX1_saidOver : dcl mX1_saidOver.2.1 [(0, .iconst 0, 1, 1), (1, .istore_n 3, 1, 2), (2, .iconst 0, 1, 3), (3, .istore 4, 2, 5), (5, .iload 4, 2, 7), (7, .iconst 4, 1, 8), (8, .if_icmp .ge 21, 3, 11), (11, .iload_n 3, 1, 12), (12, .aload_n 2, 1, 13), (13, .iload 4, 2, 15), (15, .iaload, 1, 16), (16, .aload_n 1, 1, 17), (17, .iload 4, 2, 19), (19, .iaload, 1, 20), (20, .imul, 1, 21), (21, .iadd, 1, 22), (22, .istore_n 3, 1, 23), (23, .iinc 4 1, 3, 26), (26, .goto (-21), 3, 29), (29, .iload_n 3, 1, 30), (30, .ireturn, 1, 31)] := by unfold dcl; decide +kernel
set_option maxRecDepth 20000 in
theorem DX1_isKnownByCall : dcl mX1_isKnownByCall.2.1 [(0, .iconst 1, 1, 1), (1, .ireturn, 1, 2)] := by unfold dcl; decide +kernel
set_option maxRecDepth 20000 in
theorem DX1_isKnownByStop : dcl mX1_isKnownByStop.2.1 [(0, .iconst 0, 1, 1), (1, .ireturn, 1, 2)] := by unfold dcl; decide +kernel
set_option maxRecDepth 20000 in
theorem DX1_says : dcl mX1_says.2.1 [(0, .aload_n 2, 1, 1), (1, .bipush 10, 2, 3), (3, .invokevirtual 39, 3, 6), (6, .iload_n 1, 1, 7), (7, .aload_n 0, 1, 8), (8, .getfield 9, 3, 11), (11, .iadd, 1, 12), (12, .ireturn, 1, 13)] := by unfold dcl; decide +kernel
set_option maxRecDepth 20000 in
theorem DX1_holds : dcl mX1_holds.2.1 [(0, .aload_n 2, 1, 1), (1, .bipush 11, 2, 3), (3, .invokevirtual 39, 3, 6), (6, .aload_n 0, 1, 7), (7, .iload_n 1, 1, 8), (8, .aload_n 2, 1, 9), (9, .invokevirtual 45, 3, 12), (12, .aload_n 0, 1, 13), (13, .getfield 15, 3, 16), (16, .isub, 1, 17), (17, .ireturn, 1, 18)] := by unfold dcl; decide +kernel
set_option maxRecDepth 20000 in
theorem DX1_tells : dcl mX1_tells.2.1 [(0, .aload_n 2, 1, 1), (1, .bipush 12, 2, 3), (3, .invokevirtual 39, 3, 6), (6, .aload_n 0, 1, 7), (7, .iload_n 1, 1, 8), (8, .aload_n 2, 1, 9), (9, .invokevirtual 49, 3, 12), (12, .iconst 2, 1, 13), (13, .imul, 1, 14), (14, .ireturn, 1, 15)] := by unfold dcl; decide +kernel
set_option maxRecDepth 20000 in
theorem DX2_init : dcl mX2_init.2.1 [(0, .aload_n 0, 1, 1), (1, .iload_n 1, 1, 2), (2, .iload_n 2, 1, 3), (3, .iload_n 3, 1, 4), (4, .iload 4, 2, 6), (6, .iload 5, 2, 8), (8, .iload 6, 2, 10), (10, .invokespecial 3, 3, 13), (13, .return_, 1, 14)] := by unfold dcl; decide +kernel
set_option maxRecDepth 20000 in
theorem DX2_kind : dcl mX2_kind.2.1 [(0, .iconst 2, 1, 1), (1, .ireturn, 1, 2)] := by unfold dcl; decide +kernel
set_option maxRecDepth 20000 in
theorem DX2_saidOver : dcl mX2_saidOver.2.1 [(0, .aload_n 2, 1, 1), (1, .iconst 2, 1, 2), (2, .iaload, 1, 3), (3, .aload_n 1, 1, 4), (4, .iconst 2, 1, 5), (5, .iaload, 1, 6), (6, .imul, 1, 7), (7, .aload_n 2, 1, 8), (8, .iconst 3, 1, 9), (9, .iaload, 1, 10), (10, .aload_n 1, 1, 11), (11, .iconst 3, 1, 12), (12, .iaload, 1, 13), (13, .imul, 1, 14), (14, .iadd, 1, 15), (15, .ireturn, 1, 16)] := by unfold dcl; decide +kernel
set_option maxRecDepth 20000 in
theorem DX2_isKnownByStop : dcl mX2_isKnownByStop.2.1 [(0, .aload_n 0, 1, 1), (1, .getfield 9, 3, 4), (4, .iconst 4, 1, 5), (5, .if_icmp .le 7, 3, 8), (8, .iconst 1, 1, 9), (9, .goto 4, 3, 12), (12, .iconst 0, 1, 13), (13, .ireturn, 1, 14)] := by unfold dcl; decide +kernel
set_option maxRecDepth 20000 in
theorem DX2_says : dcl mX2_says.2.1 [(0, .aload_n 2, 1, 1), (1, .bipush 30, 2, 3), (3, .invokevirtual 15, 3, 6), (6, .aload_n 0, 1, 7), (7, .iload_n 1, 1, 8), (8, .iconst 3, 1, 9), (9, .imul, 1, 10), (10, .aload_n 2, 1, 11), (11, .invokespecial 21, 3, 14), (14, .ireturn, 1, 15)] := by unfold dcl; decide +kernel
set_option maxRecDepth 20000 in
theorem DX3_init : dcl mX3_init.2.1 [(0, .aload_n 0, 1, 1), (1, .invokespecial 3, 3, 4), (4, .aload_n 0, 1, 5), (5, .bipush 10, 2, 7), (7, .newarray .int, 2, 9), (9, .putfield 11, 3, 12), (12, .aload_n 0, 1, 13), (13, .bipush 10, 2, 15), (15, .newarray .int, 2, 17), (17, .putfield 15, 3, 20), (20, .aload_n 0, 1, 21), (21, .bipush 10, 2, 23), (23, .newarray .int, 2, 25), (25, .putfield 18, 3, 28), (28, .aload_n 0, 1, 29), (29, .bipush 100, 2, 31), (31, .newarray .int, 2, 33), (33, .putfield 21, 3, 36), (36, .aload_n 0, 1, 37), (37, .aload_n 1, 1, 38), (38, .putfield 24, 3, 41), (41, .return_, 1, 42)] := by unfold dcl; decide +kernel
set_option maxRecDepth 20000 in
theorem DX3_readFrom : dcl mX3_readFrom.2.1 [(0, .aload_n 0, 1, 1), (1, .iload_n 1, 1, 2), (2, .aload_n 0, 1, 3), (3, .getfield 24, 3, 6), (6, .arraylength, 1, 7), (7, .invokestatic 28, 3, 10), (10, .putfield 34, 3, 13), (13, .aload_n 0, 1, 14), (14, .iconst 0, 1, 15), (15, .putfield 38, 3, 18), (18, .aload_n 0, 1, 19), (19, .iconst 0, 1, 20), (20, .putfield 41, 3, 23), (23, .aload_n 0, 1, 24), (24, .iconst 0, 1, 25), (25, .putfield 45, 3, 28), (28, .aload_n 0, 1, 29), (29, .iconst 0, 1, 30), (30, .putfield 48, 3, 33), (33, .aload_n 0, 1, 34), (34, .bipush 7, 2, 36), (36, .putfield 51, 3, 39), (39, .aload_n 0, 1, 40), (40, .iconst 1, 1, 41), (41, .putfield 54, 3, 44), (44, .iconst 0, 1, 45), (45, .istore_n 2, 1, 46), (46, .iload_n 2, 1, 47), (47, .bipush 10, 2, 49), (49, .if_icmp .ge 26, 3, 52), (52, .iload_n 2, 1, 53), (53, .ifCond .eq 12, 3, 56), (56, .aload_n 0, 1, 57), (57, .bipush 59, 2, 59), (59, .invokevirtual 57, 3, 62), (62, .ifCond .eq 13, 3, 65), (65, .aload_n 0, 1, 66), (66, .invokevirtual 61, 3, 69), (69, .iinc 2 1, 3, 72), (72, .goto (-26), 3, 75), (75, .aload_n 0, 1, 76), (76, .getfield 41, 3, 79), (79, .ifCond .ne 18, 3, 82), (82, .aload_n 0, 1, 83), (83, .getfield 38, 3, 86), (86, .aload_n 0, 1, 87), (87, .getfield 34, 3, 90), (90, .if_icmp .ne 7, 3, 93), (93, .iconst (-1), 1, 94), (94, .goto 7, 3, 97), (97, .aload_n 0, 1, 98), (98, .getfield 38, 3, 101), (101, .ireturn, 1, 102)] := by unfold dcl; decide +kernel
set_option maxRecDepth 20000 in
theorem DX3_readClause_0 : dcl mX3_readClause.2.1 [(0, .aload_n 0, 1, 1), (1, .invokevirtual 64, 3, 4), (4, .istore_n 1, 1, 5), (5, .aload_n 0, 1, 6), (6, .bipush 32, 2, 8), (8, .invokevirtual 68, 3, 11), (11, .aload_n 0, 1, 12), (12, .invokevirtual 72, 3, 15), (15, .istore_n 2, 1, 16), (16, .iload_n 1, 1, 17), (17, .bipush 115, 2, 19), (19, .if_icmp .eq 9, 3, 22), (22, .iload_n 1, 1, 23), (23, .bipush 99, 2, 25), (25, .if_icmp .ne 17, 3, 28), (28, .aload_n 0, 1, 29), (29, .bipush 32, 2, 31), (31, .invokevirtual 68, 3, 34), (34, .aload_n 0, 1, 35), (35, .iconst 0, 1, 36), (36, .invokevirtual 75, 3, 39), (39, .goto 22, 3, 42), (42, .iload_n 1, 1, 43), (43, .bipush 108, 2, 45), (45, .if_icmp .ne 11, 3, 48), (48, .aload_n 0, 1, 49), (49, .iload_n 2, 1, 50), (50, .putfield 51, 3, 53), (53, .goto 8, 3, 56), (56, .aload_n 0, 1, 57), (57, .iload_n 2, 1, 58), (58, .putfield 54, 3, 61), (61, .aload_n 0, 1, 62), (62, .getfield 41, 3, 65), (65, .ifCond .ne 55, 3, 68), (68, .aload_n 0, 1, 69), (69, .getfield 45, 3, 72), (72, .bipush 10, 2, 74), (74, .if_icmp .ge 46, 3, 77), (77, .aload_n 0, 1, 78), (78, .getfield 11, 3, 81), (81, .aload_n 0, 1, 82), (82, .getfield 45, 3, 85), (85, .iload_n 1, 1, 86), (86, .iastore, 1, 87), (87, .aload_n 0, 1, 88), (88, .getfield 15, 3, 91), (91, .aload_n 0, 1, 92), (92, .getfield 45, 3, 95), (95, .iload_n 2, 1, 96), (96, .iastore, 1, 97), (97, .aload_n 0, 1, 98), (98, .getfield 18, 3, 101), (101, .aload_n 0, 1, 102), (102, .getfield 45, 3, 105), (105, .aload_n 0, 1, 106), (106, .getfield 48, 3, 109), (109, .iastore, 1, 110), (110, .aload_n 0, 1, 111), (111, .dup, 1, 112)] := by unfold dcl; decide +kernel
set_option maxRecDepth 20000 in
theorem DX3_readClause_1 : dcl mX3_readClause.2.1 [(112, .getfield 45, 3, 115), (115, .iconst 1, 1, 116), (116, .iadd, 1, 117), (117, .putfield 45, 3, 120), (120, .return_, 1, 121)] := by unfold dcl; decide +kernel
set_option maxRecDepth 20000 in
theorem DX3_readWord : dcl mX3_readWord.2.1 [(0, .aload_n 0, 1, 1), (1, .bipush 115, 2, 3), (3, .invokevirtual 57, 3, 6), (6, .ifCond .eq 18, 3, 9), (9, .aload_n 0, 1, 10), (10, .bipush 97, 2, 12), (12, .invokevirtual 68, 3, 15), (15, .aload_n 0, 1, 16), (16, .bipush 121, 2, 18), (18, .invokevirtual 68, 3, 21), (21, .bipush 115, 2, 23), (23, .ireturn, 1, 24), (24, .aload_n 0, 1, 25), (25, .bipush 102, 2, 27), (27, .invokevirtual 57, 3, 30), (30, .ifCond .eq 24, 3, 33), (33, .aload_n 0, 1, 34), (34, .bipush 97, 2, 36), (36, .invokevirtual 68, 3, 39), (39, .aload_n 0, 1, 40), (40, .bipush 100, 2, 42), (42, .invokevirtual 68, 3, 45), (45, .aload_n 0, 1, 46), (46, .bipush 101, 2, 48), (48, .invokevirtual 68, 3, 51), (51, .bipush 102, 2, 53), (53, .ireturn, 1, 54), (54, .aload_n 0, 1, 55), (55, .bipush 99, 2, 57), (57, .invokevirtual 68, 3, 60), (60, .aload_n 0, 1, 61), (61, .bipush 111, 2, 63), (63, .invokevirtual 57, 3, 66), (66, .ifCond .eq 18, 3, 69), (69, .aload_n 0, 1, 70), (70, .bipush 115, 2, 72), (72, .invokevirtual 68, 3, 75), (75, .aload_n 0, 1, 76), (76, .bipush 116, 2, 78), (78, .invokevirtual 68, 3, 81), (81, .bipush 99, 2, 83), (83, .ireturn, 1, 84), (84, .aload_n 0, 1, 85), (85, .bipush 97, 2, 87), (87, .invokevirtual 68, 3, 90), (90, .aload_n 0, 1, 91), (91, .bipush 108, 2, 93), (93, .invokevirtual 68, 3, 96), (96, .aload_n 0, 1, 97), (97, .bipush 108, 2, 99), (99, .invokevirtual 68, 3, 102), (102, .bipush 108, 2, 104), (104, .ireturn, 1, 105)] := by unfold dcl; decide +kernel
set_option maxRecDepth 20000 in
theorem DX3_readNumber : dcl mX3_readNumber.2.1 [(0, .iconst 0, 1, 1), (1, .istore_n 1, 1, 2), (2, .iconst 0, 1, 3), (3, .istore_n 2, 1, 4), (4, .iload_n 2, 1, 5), (5, .iconst 2, 1, 6), (6, .if_icmp .ge 50, 3, 9), (9, .aload_n 0, 1, 10), (10, .invokevirtual 78, 3, 13), (13, .bipush 48, 2, 15), (15, .if_icmp .lt 41, 3, 18), (18, .aload_n 0, 1, 19), (19, .invokevirtual 78, 3, 22), (22, .bipush 57, 2, 24), (24, .if_icmp .gt 32, 3, 27), (27, .iload_n 1, 1, 28), (28, .bipush 10, 2, 30), (30, .imul, 1, 31), (31, .aload_n 0, 1, 32), (32, .invokevirtual 78, 3, 35), (35, .iadd, 1, 36), (36, .bipush 48, 2, 38), (38, .isub, 1, 39), (39, .istore_n 1, 1, 40), (40, .aload_n 0, 1, 41), (41, .dup, 1, 42), (42, .getfield 38, 3, 45), (45, .iconst 1, 1, 46), (46, .iadd, 1, 47), (47, .putfield 38, 3, 50), (50, .iinc 2 1, 3, 53), (53, .goto (-49), 3, 56), (56, .iload_n 2, 1, 57), (57, .ifCond .ne 8, 3, 60), (60, .aload_n 0, 1, 61), (61, .iconst 1, 1, 62), (62, .putfield 41, 3, 65), (65, .iload_n 1, 1, 66), (66, .ireturn, 1, 67)] := by unfold dcl; decide +kernel
set_option maxRecDepth 20000 in
theorem DX3_readEither : dcl mX3_readEither.2.1 [(0, .iconst 0, 1, 1), (1, .istore_n 2, 1, 2), (2, .iload_n 2, 1, 3), (3, .bipush 100, 2, 5), (5, .if_icmp .ge 71, 3, 8), (8, .iload_n 2, 1, 9), (9, .ifCond .eq 12, 3, 12), (12, .aload_n 0, 1, 13), (13, .bipush 124, 2, 15), (15, .invokevirtual 57, 3, 18), (18, .ifCond .eq 58, 3, 21), (21, .aload_n 0, 1, 22), (22, .iload_n 1, 1, 23), (23, .invokevirtual 81, 3, 26), (26, .iconst 0, 1, 27), (27, .istore_n 3, 1, 28), (28, .iload_n 3, 1, 29), (29, .bipush 100, 2, 31), (31, .if_icmp .ge 29, 3, 34), (34, .aload_n 0, 1, 35), (35, .bipush 38, 2, 37), (37, .invokevirtual 57, 3, 40), (40, .ifCond .eq 20, 3, 43), (43, .aload_n 0, 1, 44), (44, .iload_n 1, 1, 45), (45, .invokevirtual 81, 3, 48), (48, .aload_n 0, 1, 49), (49, .bipush 38, 2, 51), (51, .invokevirtual 84, 3, 54), (54, .iinc 3 1, 3, 57), (57, .goto (-29), 3, 60), (60, .iload_n 2, 1, 61), (61, .ifCond .le 9, 3, 64), (64, .aload_n 0, 1, 65), (65, .bipush 124, 2, 67), (67, .invokevirtual 84, 3, 70), (70, .iinc 2 1, 3, 73), (73, .goto (-71), 3, 76), (76, .return_, 1, 77)] := by unfold dcl; decide +kernel
set_option maxRecDepth 20000 in
theorem DX3_readPart : dcl mX3_readPart.2.1 [(0, .iload_n 1, 1, 1), (1, .iconst 4, 1, 2), (2, .if_icmp .ge 28, 3, 5), (5, .aload_n 0, 1, 6), (6, .bipush 33, 2, 8), (8, .invokevirtual 57, 3, 11), (11, .ifCond .eq 19, 3, 14), (14, .aload_n 0, 1, 15), (15, .iload_n 1, 1, 16), (16, .iconst 1, 1, 17), (17, .iadd, 1, 18), (18, .invokevirtual 81, 3, 21), (21, .aload_n 0, 1, 22), (22, .bipush 33, 2, 24), (24, .invokevirtual 84, 3, 27), (27, .goto 37, 3, 30), (30, .iload_n 1, 1, 31), (31, .iconst 4, 1, 32), (32, .if_icmp .ge 28, 3, 35), (35, .aload_n 0, 1, 36), (36, .bipush 40, 2, 38), (38, .invokevirtual 57, 3, 41), (41, .ifCond .eq 19, 3, 44), (44, .aload_n 0, 1, 45), (45, .iload_n 1, 1, 46), (46, .iconst 1, 1, 47), (47, .iadd, 1, 48), (48, .invokevirtual 75, 3, 51), (51, .aload_n 0, 1, 52), (52, .bipush 41, 2, 54), (54, .invokevirtual 68, 3, 57), (57, .goto 7, 3, 60), (60, .aload_n 0, 1, 61), (61, .invokevirtual 87, 3, 64), (64, .return_, 1, 65)] := by unfold dcl; decide +kernel
set_option maxRecDepth 20000 in
theorem DX3_readTest_0 : dcl mX3_readTest.2.1 [(0, .aload_n 0, 1, 1), (1, .invokevirtual 78, 3, 4), (4, .istore_n 1, 1, 5), (5, .iload_n 1, 1, 6), (6, .bipush 105, 2, 8), (8, .if_icmp .eq 39, 3, 11), (11, .iload_n 1, 1, 12), (12, .bipush 107, 2, 14), (14, .if_icmp .eq 33, 3, 17), (17, .iload_n 1, 1, 18), (18, .bipush 114, 2, 20), (20, .if_icmp .eq 27, 3, 23), (23, .iload_n 1, 1, 24), (24, .bipush 118, 2, 26), (26, .if_icmp .eq 21, 3, 29), (29, .iload_n 1, 1, 30), (30, .bipush 99, 2, 32), (32, .if_icmp .eq 15, 3, 35), (35, .iload_n 1, 1, 36), (36, .bipush 121, 2, 38), (38, .if_icmp .eq 9, 3, 41), (41, .iload_n 1, 1, 42), (42, .bipush 119, 2, 44), (44, .if_icmp .ne 7, 3, 47), (47, .iconst 1, 1, 48), (48, .goto 4, 3, 51), (51, .iconst 0, 1, 52), (52, .istore_n 2, 1, 53), (53, .aload_n 0, 1, 54), (54, .iload_n 2, 1, 55), (55, .invokevirtual 90, 3, 58), (58, .aload_n 0, 1, 59), (59, .invokevirtual 78, 3, 62), (62, .istore_n 3, 1, 63), (63, .aload_n 0, 1, 64), (64, .iload_n 3, 1, 65), (65, .bipush 60, 2, 67), (67, .if_icmp .eq 15, 3, 70), (70, .iload_n 3, 1, 71), (71, .bipush 61, 2, 73), (73, .if_icmp .eq 9, 3, 76), (76, .iload_n 3, 1, 77), (77, .bipush 62, 2, 79), (79, .if_icmp .ne 7, 3, 82), (82, .iconst 1, 1, 83), (83, .goto 4, 3, 86), (86, .iconst 0, 1, 87), (87, .invokevirtual 90, 3, 90), (90, .aload_n 0, 1, 91), (91, .iload_n 1, 1, 92), (92, .iload_n 3, 1, 93), (93, .bipush 8, 2, 95), (95, .ishl, 1, 96), (96, .ior, 1, 97), (97, .aload_n 0, 1, 98), (98, .invokevirtual 72, 3, 101), (101, .bipush 16, 2, 103), (103, .ishl, 1, 104), (104, .ior, 1, 105), (105, .invokevirtual 84, 3, 108)] := by unfold dcl; decide +kernel
set_option maxRecDepth 20000 in
theorem DX3_readTest_1 : dcl mX3_readTest.2.1 [(108, .return_, 1, 109)] := by unfold dcl; decide +kernel
set_option maxRecDepth 20000 in
theorem DX3_keep : dcl mX3_keep.2.1 [(0, .aload_n 0, 1, 1), (1, .getfield 41, 3, 4), (4, .ifCond .ne 35, 3, 7), (7, .aload_n 0, 1, 8), (8, .getfield 48, 3, 11), (11, .aload_n 0, 1, 12), (12, .getfield 21, 3, 15), (15, .arraylength, 1, 16), (16, .if_icmp .ge 23, 3, 19), (19, .aload_n 0, 1, 20), (20, .getfield 21, 3, 23), (23, .aload_n 0, 1, 24), (24, .getfield 48, 3, 27), (27, .iload_n 1, 1, 28), (28, .iastore, 1, 29), (29, .aload_n 0, 1, 30), (30, .dup, 1, 31), (31, .getfield 48, 3, 34), (34, .iconst 1, 1, 35), (35, .iadd, 1, 36), (36, .putfield 48, 3, 39), (39, .return_, 1, 40)] := by unfold dcl; decide +kernel
set_option maxRecDepth 20000 in
theorem DX3_here : dcl mX3_here.2.1 [(0, .aload_n 0, 1, 1), (1, .getfield 41, 3, 4), (4, .ifCond .ne 33, 3, 7), (7, .aload_n 0, 1, 8), (8, .getfield 38, 3, 11), (11, .ifCond .lt 26, 3, 14), (14, .aload_n 0, 1, 15), (15, .getfield 38, 3, 18), (18, .aload_n 0, 1, 19), (19, .getfield 34, 3, 22), (22, .if_icmp .ge 15, 3, 25), (25, .aload_n 0, 1, 26), (26, .getfield 38, 3, 29), (29, .aload_n 0, 1, 30), (30, .getfield 24, 3, 33), (33, .arraylength, 1, 34), (34, .if_icmp .lt 7, 3, 37), (37, .iconst (-1), 1, 38), (38, .goto 12, 3, 41), (41, .aload_n 0, 1, 42), (42, .getfield 24, 3, 45), (45, .aload_n 0, 1, 46), (46, .getfield 38, 3, 49), (49, .baload, 1, 50), (50, .ireturn, 1, 51)] := by unfold dcl; decide +kernel
set_option maxRecDepth 20000 in
theorem DX3_takes : dcl mX3_takes.2.1 [(0, .aload_n 0, 1, 1), (1, .invokevirtual 78, 3, 4), (4, .iload_n 1, 1, 5), (5, .if_icmp .ne 7, 3, 8), (8, .iconst 1, 1, 9), (9, .goto 4, 3, 12), (12, .iconst 0, 1, 13), (13, .istore_n 2, 1, 14), (14, .iload_n 2, 1, 15), (15, .ifCond .eq 13, 3, 18), (18, .aload_n 0, 1, 19), (19, .dup, 1, 20), (20, .getfield 38, 3, 23), (23, .iconst 1, 1, 24), (24, .iadd, 1, 25), (25, .putfield 38, 3, 28), (28, .iload_n 2, 1, 29), (29, .ireturn, 1, 30)] := by unfold dcl; decide +kernel
set_option maxRecDepth 20000 in
theorem DX3_needs : dcl mX3_needs.2.1 [(0, .aload_n 0, 1, 1), (1, .aload_n 0, 1, 2), (2, .invokevirtual 78, 3, 5), (5, .iload_n 1, 1, 6), (6, .if_icmp .ne 7, 3, 9), (9, .iconst 1, 1, 10), (10, .goto 4, 3, 13), (13, .iconst 0, 1, 14), (14, .invokevirtual 90, 3, 17), (17, .return_, 1, 18)] := by unfold dcl; decide +kernel
set_option maxRecDepth 20000 in
theorem DX3_takeIf : dcl mX3_takeIf.2.1 [(0, .iload_n 1, 1, 1), (1, .ifCond .eq 23, 3, 4), (4, .aload_n 0, 1, 5), (5, .getfield 41, 3, 8), (8, .ifCond .ne 16, 3, 11), (11, .aload_n 0, 1, 12), (12, .dup, 1, 13), (13, .getfield 38, 3, 16), (16, .iconst 1, 1, 17), (17, .iadd, 1, 18), (18, .putfield 38, 3, 21), (21, .goto 8, 3, 24), (24, .aload_n 0, 1, 25), (25, .iconst 1, 1, 26), (26, .putfield 41, 3, 29), (29, .return_, 1, 30)] := by unfold dcl; decide +kernel
set_option maxRecDepth 20000 in
theorem DX3_together : dcl mX3_together.2.1 [(0, .iconst 0, 1, 1), (1, .istore 5, 2, 3), (3, .iconst 0, 1, 4), (4, .istore 6, 2, 6), (6, .iload 6, 2, 8), (8, .aload_n 0, 1, 9), (9, .getfield 45, 3, 12), (12, .if_icmp .ge 45, 3, 15), (15, .aload_n 0, 1, 16), (16, .getfield 11, 3, 19), (19, .iload 6, 2, 21), (21, .iaload, 1, 22), (22, .iload_n 1, 1, 23), (23, .if_icmp .ne 28, 3, 26), (26, .aload_n 0, 1, 27), (27, .iload 6, 2, 29), (29, .aload_n 2, 1, 30), (30, .iload_n 3, 1, 31), (31, .iload 4, 2, 33), (33, .invokevirtual 94, 3, 36), (36, .ifCond .eq 15, 3, 39), (39, .iload 5, 2, 41), (41, .aload_n 0, 1, 42), (42, .getfield 15, 3, 45), (45, .iload 6, 2, 47), (47, .iaload, 1, 48), (48, .iadd, 1, 49), (49, .istore 5, 2, 51), (51, .iinc 6 1, 3, 54), (54, .goto (-48), 3, 57), (57, .iload 5, 2, 59), (59, .ireturn, 1, 60)] := by unfold dcl; decide +kernel
set_option maxRecDepth 20000 in
theorem DX3_holds_0 : dcl mX3_holds.2.1 [(0, .iconst 0, 1, 1), (1, .istore 5, 2, 3), (3, .iload_n 1, 1, 4), (4, .ifCond .ne 7, 3, 7), (7, .iconst 0, 1, 8), (8, .goto 11, 3, 11), (11, .aload_n 0, 1, 12), (12, .getfield 18, 3, 15), (15, .iload_n 1, 1, 16), (16, .iconst 1, 1, 17), (17, .isub, 1, 18), (18, .iaload, 1, 19), (19, .istore 6, 2, 21), (21, .iload 6, 2, 23), (23, .aload_n 0, 1, 24), (24, .getfield 18, 3, 27), (27, .iload_n 1, 1, 28), (28, .iaload, 1, 29), (29, .if_icmp .ge 101, 3, 32), (32, .aload_n 0, 1, 33), (33, .getfield 21, 3, 36), (36, .iload 6, 2, 38), (38, .iaload, 1, 39), (39, .istore 7, 2, 41), (41, .iload 7, 2, 43), (43, .bipush 33, 2, 45), (45, .if_icmp .ne 12, 3, 48), (48, .iload 5, 2, 50), (50, .iconst 1, 1, 51), (51, .ixor, 1, 52), (52, .istore 5, 2, 54), (54, .goto 70, 3, 57), (57, .iload 7, 2, 59), (59, .bipush 38, 2, 61), (61, .if_icmp .ne 18, 3, 64), (64, .iload 5, 2, 66), (66, .iconst 1, 1, 67), (67, .ishr, 1, 68), (68, .iload 5, 2, 70), (70, .bipush (-2), 2, 72), (72, .ior, 1, 73), (73, .iand, 1, 74), (74, .istore 5, 2, 76), (76, .goto 48, 3, 79), (79, .iload 7, 2, 81), (81, .bipush 124, 2, 83), (83, .if_icmp .ne 17, 3, 86), (86, .iload 5, 2, 88), (88, .iconst 1, 1, 89), (89, .ishr, 1, 90), (90, .iload 5, 2, 92), (92, .iconst 1, 1, 93), (93, .iand, 1, 94), (94, .ior, 1, 95), (95, .istore 5, 2, 97), (97, .goto 27, 3, 100), (100, .iload 5, 2, 102), (102, .iconst 1, 1, 103), (103, .ishl, 1, 104), (104, .iload 7, 2, 106)] := by unfold dcl; decide +kernel
set_option maxRecDepth 20000 in
theorem DX3_holds_1 : dcl mX3_holds.2.1 [(106, .aload_n 2, 1, 107), (107, .iload_n 3, 1, 108), (108, .iload 4, 2, 110), (110, .invokestatic 98, 3, 113), (113, .ifCond .eq 7, 3, 116), (116, .iconst 1, 1, 117), (117, .goto 4, 3, 120), (120, .iconst 0, 1, 121), (121, .ior, 1, 122), (122, .istore 5, 2, 124), (124, .iinc 6 1, 3, 127), (127, .goto (-106), 3, 130), (130, .iload 5, 2, 132), (132, .iconst 1, 1, 133), (133, .iand, 1, 134), (134, .ifCond .eq 7, 3, 137), (137, .iconst 1, 1, 138), (138, .goto 4, 3, 141), (141, .iconst 0, 1, 142), (142, .ireturn, 1, 143)] := by unfold dcl; decide +kernel
set_option maxRecDepth 20000 in
theorem DX3_passes_0 : dcl mX3_passes.2.1 [(0, .iload_n 0, 1, 1), (1, .bipush 16, 2, 3), (3, .ishr, 1, 4), (4, .istore 5, 2, 6), (6, .iload_n 0, 1, 7), (7, .sipush 255, 3, 10), (10, .iand, 1, 11), (11, .lookupswitch 111 #[(99, 93), (105, 57), (107, 66), (114, 75), (118, 84), (121, 105)], 57, 68), (68, .aload_n 1, 1, 69), (69, .getfield 101, 3, 72), (72, .istore 4, 2, 74), (74, .goto 51, 3, 77), (77, .aload_n 1, 1, 78), (78, .invokevirtual 106, 3, 81), (81, .istore 4, 2, 83), (83, .goto 42, 3, 86), (86, .aload_n 1, 1, 87), (87, .getfield 109, 3, 90), (90, .istore 4, 2, 92), (92, .goto 33, 3, 95), (95, .aload_n 1, 1, 96), (96, .getfield 112, 3, 99), (99, .istore 4, 2, 101), (101, .goto 24, 3, 104), (104, .aload_n 1, 1, 105), (105, .getfield 115, 3, 108), (108, .bipush 10, 2, 110), (110, .idiv, 1, 111), (111, .istore 4, 2, 113), (113, .goto 12, 3, 116), (116, .iload_n 2, 1, 117), (117, .istore 4, 2, 119), (119, .goto 6, 3, 122), (122, .iload_n 3, 1, 123), (123, .istore 4, 2, 125), (125, .iload_n 0, 1, 126), (126, .bipush 8, 2, 128), (128, .ishr, 1, 129), (129, .sipush 255, 3, 132), (132, .iand, 1, 133), (133, .lookupswitch 53 #[(60, 27), (61, 40)], 27, 160), (160, .iload 4, 2, 162), (162, .iload 5, 2, 164), (164, .if_icmp .ge 7, 3, 167), (167, .iconst 1, 1, 168), (168, .goto 4, 3, 171), (171, .iconst 0, 1, 172), (172, .ireturn, 1, 173), (173, .iload 4, 2, 175), (175, .iload 5, 2, 177), (177, .if_icmp .ne 7, 3, 180), (180, .iconst 1, 1, 181), (181, .goto 4, 3, 184), (184, .iconst 0, 1, 185), (185, .ireturn, 1, 186), (186, .iload 4, 2, 188), (188, .iload 5, 2, 190), (190, .if_icmp .le 7, 3, 193), (193, .iconst 1, 1, 194), (194, .goto 4, 3, 197)] := by unfold dcl; decide +kernel
set_option maxRecDepth 20000 in
theorem DX3_passes_1 : dcl mX3_passes.2.1 [(197, .iconst 0, 1, 198), (198, .ireturn, 1, 199)] := by unfold dcl; decide +kernel
set_option maxRecDepth 20000 in
theorem DX4_init : dcl mX4_init.2.1 [(0, .aload_n 0, 1, 1), (1, .iload_n 1, 1, 2), (2, .iload_n 2, 1, 3), (3, .iload_n 3, 1, 4), (4, .iload 4, 2, 6), (6, .iload 5, 2, 8), (8, .iload 6, 2, 10), (10, .invokespecial 3, 3, 13), (13, .return_, 1, 14)] := by unfold dcl; decide +kernel
set_option maxRecDepth 20000 in
theorem DX4_kind : dcl mX4_kind.2.1 [(0, .iconst 3, 1, 1), (1, .ireturn, 1, 2)] := by unfold dcl; decide +kernel
set_option maxRecDepth 20000 in
theorem DX4_saidOver : dcl mX4_saidOver.2.1 [(0, .aload_n 2, 1, 1), (1, .iconst 3, 1, 2), (2, .iaload, 1, 3), (3, .ifCond .ne 7, 3, 6), (6, .iconst 0, 1, 7), (7, .goto 9, 3, 10), (10, .aload_n 0, 1, 11), (11, .aload_n 1, 1, 12), (12, .aload_n 2, 1, 13), (13, .invokespecial 9, 3, 16), (16, .ireturn, 1, 17)] := by unfold dcl; decide +kernel
set_option maxRecDepth 20000 in
theorem DX4_isKnownByStop : dcl mX4_isKnownByStop.2.1 [(0, .aload_n 0, 1, 1), (1, .getfield 13, 3, 4), (4, .ifCond .ne 7, 3, 7), (7, .iconst 1, 1, 8), (8, .goto 4, 3, 11), (11, .iconst 0, 1, 12), (12, .ireturn, 1, 13)] := by unfold dcl; decide +kernel
set_option maxRecDepth 20000 in
theorem DX4_tells : dcl mX4_tells.2.1 [(0, .aload_n 2, 1, 1), (1, .bipush 40, 2, 3), (3, .invokevirtual 19, 3, 6), (6, .aload_n 0, 1, 7), (7, .iload_n 1, 1, 8), (8, .aload_n 2, 1, 9), (9, .invokespecial 25, 3, 12), (12, .aload_n 0, 1, 13), (13, .iconst 1, 1, 14), (14, .aload_n 2, 1, 15), (15, .invokevirtual 29, 3, 18), (18, .iadd, 1, 19), (19, .ireturn, 1, 20)] := by unfold dcl; decide +kernel
set_option maxRecDepth 20000 in
theorem DX5_init : dcl mX5_init.2.1 [(0, .aload_n 0, 1, 1), (1, .invokespecial 3, 3, 4), (4, .aload_n 0, 1, 5), (5, .bipush 10, 2, 7), (7, .anewarray 9, 3, 10), (10, .putfield 11, 3, 13), (13, .aload_n 0, 1, 14), (14, .bipush 10, 2, 16), (16, .newarray .int, 2, 18), (18, .putfield 17, 3, 21), (21, .aload_n 0, 1, 22), (22, .iconst 4, 1, 23), (23, .newarray .int, 2, 25), (25, .putfield 21, 3, 28), (28, .aload_n 0, 1, 29), (29, .bipush 12, 2, 31), (31, .newarray .int, 2, 33), (33, .putfield 24, 3, 36), (36, .aload_n 0, 1, 37), (37, .bipush 12, 2, 39), (39, .newarray .int, 2, 41), (41, .putfield 27, 3, 44), (44, .return_, 1, 45)] := by unfold dcl; decide +kernel
set_option maxRecDepth 20000 in
theorem DX5_takeFrom_0 : dcl mX5_takeFrom.2.1 [(0, .iconst 0, 1, 1), (1, .istore_n 2, 1, 2), (2, .iload_n 2, 1, 3), (3, .bipush 10, 2, 5), (5, .if_icmp .ge 21, 3, 8), (8, .aload_n 0, 1, 9), (9, .getfield 11, 3, 12), (12, .iload_n 2, 1, 13), (13, .aload_n 1, 1, 14), (14, .getfield 11, 3, 17), (17, .iload_n 2, 1, 18), (18, .aaload, 1, 19), (19, .aastore, 1, 20), (20, .iinc 2 1, 3, 23), (23, .goto (-21), 3, 26), (26, .aload_n 1, 1, 27), (27, .getfield 17, 3, 30), (30, .iconst 0, 1, 31), (31, .aload_n 0, 1, 32), (32, .getfield 17, 3, 35), (35, .iconst 0, 1, 36), (36, .bipush 10, 2, 38), (38, .invokestatic 30, 3, 41), (41, .aload_n 1, 1, 42), (42, .getfield 21, 3, 45), (45, .iconst 0, 1, 46), (46, .aload_n 0, 1, 47), (47, .getfield 21, 3, 50), (50, .iconst 0, 1, 51), (51, .iconst 4, 1, 52), (52, .invokestatic 30, 3, 55), (55, .aload_n 1, 1, 56), (56, .getfield 24, 3, 59), (59, .iconst 0, 1, 60), (60, .aload_n 0, 1, 61), (61, .getfield 24, 3, 64), (64, .iconst 0, 1, 65), (65, .bipush 12, 2, 67), (67, .invokestatic 30, 3, 70), (70, .aload_n 1, 1, 71), (71, .getfield 27, 3, 74), (74, .iconst 0, 1, 75), (75, .aload_n 0, 1, 76), (76, .getfield 27, 3, 79), (79, .iconst 0, 1, 80), (80, .bipush 12, 2, 82), (82, .invokestatic 30, 3, 85), (85, .aload_n 0, 1, 86), (86, .aload_n 1, 1, 87), (87, .getfield 36, 3, 90), (90, .putfield 36, 3, 93), (93, .aload_n 0, 1, 94), (94, .aload_n 1, 1, 95), (95, .getfield 40, 3, 98), (98, .putfield 40, 3, 101), (101, .aload_n 0, 1, 102), (102, .aload_n 1, 1, 103), (103, .getfield 43, 3, 106), (106, .putfield 43, 3, 109), (109, .aload_n 0, 1, 110)] := by unfold dcl; decide +kernel
set_option maxRecDepth 20000 in
theorem DX5_takeFrom_1 : dcl mX5_takeFrom.2.1 [(110, .aload_n 1, 1, 111), (111, .getfield 46, 3, 114), (114, .putfield 46, 3, 117), (117, .aload_n 0, 1, 118), (118, .aload_n 1, 1, 119), (119, .getfield 49, 3, 122), (122, .putfield 49, 3, 125), (125, .aload_n 0, 1, 126), (126, .aload_n 1, 1, 127), (127, .getfield 52, 3, 130), (130, .putfield 52, 3, 133), (133, .aload_n 0, 1, 134), (134, .aload_n 1, 1, 135), (135, .getfield 55, 3, 138), (138, .putfield 55, 3, 141), (141, .aload_n 0, 1, 142), (142, .aload_n 1, 1, 143), (143, .getfield 58, 3, 146), (146, .putfield 58, 3, 149), (149, .aload_n 0, 1, 150), (150, .aload_n 1, 1, 151), (151, .getfield 61, 3, 154), (154, .putfield 61, 3, 157), (157, .return_, 1, 158)] := by unfold dcl; decide +kernel
set_option maxRecDepth 20000 in
theorem DX5_find : dcl mX5_find.2.1 [(0, .iload_n 1, 1, 1), (1, .ifCond .lt 17, 3, 4), (4, .iload_n 1, 1, 5), (5, .aload_n 0, 1, 6), (6, .getfield 36, 3, 9), (9, .if_icmp .ge 9, 3, 12), (12, .iload_n 1, 1, 13), (13, .bipush 10, 2, 15), (15, .if_icmp .lt 7, 3, 18), (18, .aconst_null, 1, 19), (19, .goto 9, 3, 22), (22, .aload_n 0, 1, 23), (23, .getfield 11, 3, 26), (26, .iload_n 1, 1, 27), (27, .aaload, 1, 28), (28, .areturn, 1, 29)] := by unfold dcl; decide +kernel
set_option maxRecDepth 20000 in
theorem DX5_add : dcl mX5_add.2.1 [(0, .aload_n 0, 1, 1), (1, .getfield 36, 3, 4), (4, .bipush 10, 2, 6), (6, .if_icmp .lt 6, 3, 9), (9, .bipush (-4), 2, 11), (11, .ireturn, 1, 12), (12, .aload_n 0, 1, 13), (13, .getfield 11, 3, 16), (16, .aload_n 0, 1, 17), (17, .getfield 36, 3, 20), (20, .aload_n 1, 1, 21), (21, .aastore, 1, 22), (22, .aload_n 0, 1, 23), (23, .getfield 17, 3, 26), (26, .aload_n 0, 1, 27), (27, .getfield 36, 3, 30), (30, .iconst 5, 1, 31), (31, .iastore, 1, 32), (32, .aload_n 0, 1, 33), (33, .dup, 1, 34), (34, .getfield 36, 3, 37), (37, .iconst 1, 1, 38), (38, .iadd, 1, 39), (39, .putfield 36, 3, 42), (42, .aload_n 0, 1, 43), (43, .getfield 36, 3, 46), (46, .iconst 1, 1, 47), (47, .isub, 1, 48), (48, .ireturn, 1, 49)] := by unfold dcl; decide +kernel
set_option maxRecDepth 20000 in
theorem DX5_addRow : dcl mX5_addRow.2.1 [(0, .aload_n 0, 1, 1), (1, .getfield 58, 3, 4), (4, .bipush 12, 2, 6), (6, .if_icmp .lt 6, 3, 9), (9, .bipush (-4), 2, 11), (11, .ireturn, 1, 12), (12, .aload_n 0, 1, 13), (13, .getfield 24, 3, 16), (16, .aload_n 0, 1, 17), (17, .getfield 58, 3, 20), (20, .iload_n 1, 1, 21), (21, .iastore, 1, 22), (22, .aload_n 0, 1, 23), (23, .getfield 27, 3, 26), (26, .aload_n 0, 1, 27), (27, .getfield 58, 3, 30), (30, .iload_n 2, 1, 31), (31, .iastore, 1, 32), (32, .aload_n 0, 1, 33), (33, .dup, 1, 34), (34, .getfield 58, 3, 37), (37, .iconst 1, 1, 38), (38, .iadd, 1, 39), (39, .putfield 58, 3, 42), (42, .aload_n 0, 1, 43), (43, .getfield 58, 3, 46), (46, .ireturn, 1, 47)] := by unfold dcl; decide +kernel
set_option maxRecDepth 20000 in
theorem DX5_weeksToRows : dcl mX5_weeksToRows.2.1 [(0, .iconst 0, 1, 1), (1, .istore_n 1, 1, 2), (2, .iconst 0, 1, 3), (3, .istore_n 2, 1, 4), (4, .iload_n 2, 1, 5), (5, .aload_n 0, 1, 6), (6, .getfield 58, 3, 9), (9, .if_icmp .ge 27, 3, 12), (12, .iload_n 1, 1, 13), (13, .aload_n 0, 1, 14), (14, .getfield 24, 3, 17), (17, .iload_n 2, 1, 18), (18, .iaload, 1, 19), (19, .aload_n 0, 1, 20), (20, .getfield 46, 3, 23), (23, .isub, 1, 24), (24, .iconst 1, 1, 25), (25, .iadd, 1, 26), (26, .invokestatic 65, 3, 29), (29, .istore_n 1, 1, 30), (30, .iinc 2 1, 3, 33), (33, .goto (-29), 3, 36), (36, .iload_n 1, 1, 37), (37, .bipush 100, 2, 39), (39, .invokestatic 71, 3, 42), (42, .ireturn, 1, 43)] := by unfold dcl; decide +kernel
set_option maxRecDepth 20000 in
theorem DX5_everyDoing : dcl mX5_everyDoing.2.1 [(0, .iconst 1, 1, 1), (1, .aload_n 0, 1, 2), (2, .getfield 36, 3, 5), (5, .ishl, 1, 6), (6, .iconst 1, 1, 7), (7, .isub, 1, 8), (8, .ireturn, 1, 9)] := by unfold dcl; decide +kernel
set_option maxRecDepth 20000 in
theorem DX5_saidBy : dcl mX5_saidBy.2.1 [(0, .aload_n 0, 1, 1), (1, .getfield 61, 3, 4), (4, .ifnonnull 7, 3, 7), (7, .iconst 0, 1, 8), (8, .goto 15, 3, 11), (11, .aload_n 0, 1, 12), (12, .getfield 61, 3, 15), (15, .bipush 115, 2, 17), (17, .aload_n 1, 1, 18), (18, .iload_n 2, 1, 19), (19, .iconst 0, 1, 20), (20, .invokevirtual 76, 3, 23), (23, .ireturn, 1, 24)] := by unfold dcl; decide +kernel
set_option maxRecDepth 20000 in
theorem DX5_dearIn : dcl mX5_dearIn.2.1 [(0, .aload_n 1, 1, 1), (1, .getfield 80, 3, 4), (4, .aload_n 0, 1, 5), (5, .getfield 61, 3, 8), (8, .ifnonnull 7, 3, 11), (11, .iconst 0, 1, 12), (12, .goto 19, 3, 15), (15, .aload_n 0, 1, 16), (16, .getfield 61, 3, 19), (19, .bipush 99, 2, 21), (21, .aload_n 1, 1, 22), (22, .bipush 9, 2, 24), (24, .iload_n 2, 1, 25), (25, .bipush 60, 2, 27), (27, .irem, 1, 28), (28, .invokevirtual 76, 3, 31), (31, .iadd, 1, 32), (32, .ireturn, 1, 33)] := by unfold dcl; decide +kernel
set_option maxRecDepth 20000 in
theorem DX5_callsAtFirst : dcl mX5_callsAtFirst.2.1 [(0, .aload_n 0, 1, 1), (1, .getfield 61, 3, 4), (4, .ifnonnull 8, 3, 7), (7, .bipush 7, 2, 9), (9, .goto 10, 3, 12), (12, .aload_n 0, 1, 13), (13, .getfield 61, 3, 16), (16, .getfield 83, 3, 19), (19, .ireturn, 1, 20)] := by unfold dcl; decide +kernel
set_option maxRecDepth 20000 in
theorem DX5_callsFading : dcl mX5_callsFading.2.1 [(0, .aload_n 0, 1, 1), (1, .getfield 61, 3, 4), (4, .ifnonnull 7, 3, 7), (7, .iconst 1, 1, 8), (8, .goto 10, 3, 11), (11, .aload_n 0, 1, 12), (12, .getfield 61, 3, 15), (15, .getfield 86, 3, 18), (18, .ireturn, 1, 19)] := by unfold dcl; decide +kernel
set_option maxRecDepth 20000 in
theorem DX5_coming : dcl mX5_coming.2.1 [(0, .iconst 0, 1, 1), (1, .istore_n 2, 1, 2), (2, .iconst 0, 1, 3), (3, .istore_n 3, 1, 4), (4, .iload_n 3, 1, 5), (5, .aload_n 0, 1, 6), (6, .getfield 36, 3, 9), (9, .if_icmp .ge 36, 3, 12), (12, .aload_n 0, 1, 13), (13, .iload_n 3, 1, 14), (14, .invokevirtual 89, 3, 17), (17, .astore 4, 2, 19), (19, .aload 4, 2, 21), (21, .ifnull 18, 3, 24), (24, .aload 4, 2, 26), (26, .iload_n 1, 1, 27), (27, .invokevirtual 93, 3, 30), (30, .ifCond .ne 9, 3, 33), (33, .iload_n 2, 1, 34), (34, .iconst 1, 1, 35), (35, .iload_n 3, 1, 36), (36, .ishl, 1, 37), (37, .ior, 1, 38), (38, .istore_n 2, 1, 39), (39, .iinc 3 1, 3, 42), (42, .goto (-38), 3, 45), (45, .iload_n 2, 1, 46), (46, .ireturn, 1, 47)] := by unfold dcl; decide +kernel
set_option maxRecDepth 20000 in
theorem DX5_longestWait : dcl mX5_longestWait.2.1 [(0, .iconst 0, 1, 1), (1, .istore_n 3, 1, 2), (2, .iconst 0, 1, 3), (3, .istore 4, 2, 5), (5, .iload 4, 2, 7), (7, .aload_n 0, 1, 8), (8, .getfield 36, 3, 11), (11, .if_icmp .ge 42, 3, 14), (14, .aload_n 0, 1, 15), (15, .iload 4, 2, 17), (17, .invokevirtual 89, 3, 20), (20, .astore 5, 2, 22), (22, .aload 5, 2, 24), (24, .ifnull 23, 3, 27), (27, .iload_n 1, 1, 28), (28, .iload 4, 2, 30), (30, .invokestatic 97, 3, 33), (33, .ifCond .eq 14, 3, 36), (36, .iload_n 3, 1, 37), (37, .aload 5, 2, 39), (39, .iload_n 2, 1, 40), (40, .invokevirtual 93, 3, 43), (43, .invokestatic 65, 3, 46), (46, .istore_n 3, 1, 47), (47, .iinc 4 1, 3, 50), (50, .goto (-45), 3, 53), (53, .iload_n 3, 1, 54), (54, .ireturn, 1, 55)] := by unfold dcl; decide +kernel
set_option maxRecDepth 20000 in
theorem DX6_init : dcl mX6_init.2.1 [(0, .aload_n 0, 1, 1), (1, .iload_n 1, 1, 2), (2, .iload_n 2, 1, 3), (3, .iload_n 3, 1, 4), (4, .iload 4, 2, 6), (6, .iload 5, 2, 8), (8, .iload 6, 2, 10), (10, .invokespecial 3, 3, 13), (13, .return_, 1, 14)] := by unfold dcl; decide +kernel
set_option maxRecDepth 20000 in
theorem DX6_kind : dcl mX6_kind.2.1 [(0, .iconst 5, 1, 1), (1, .ireturn, 1, 2)] := by unfold dcl; decide +kernel
set_option maxRecDepth 20000 in
theorem DX6_saidOver : dcl mX6_saidOver.2.1 [(0, .aload_n 0, 1, 1), (1, .aload_n 1, 1, 2), (2, .aload_n 2, 1, 3), (3, .invokespecial 9, 3, 6), (6, .iconst 2, 1, 7), (7, .aload_n 0, 1, 8), (8, .getfield 13, 3, 11), (11, .imul, 1, 12), (12, .aload_n 2, 1, 13), (13, .iconst 1, 1, 14), (14, .iaload, 1, 15), (15, .imul, 1, 16), (16, .iadd, 1, 17), (17, .ireturn, 1, 18)] := by unfold dcl; decide +kernel
set_option maxRecDepth 20000 in
theorem DX6_tells : dcl mX6_tells.2.1 [(0, .aload_n 2, 1, 1), (1, .bipush 60, 2, 3), (3, .invokevirtual 19, 3, 6), (6, .aload_n 0, 1, 7), (7, .iload_n 1, 1, 8), (8, .aload_n 0, 1, 9), (9, .getfield 25, 3, 12), (12, .isub, 1, 13), (13, .aload_n 2, 1, 14), (14, .invokespecial 28, 3, 17), (17, .ireturn, 1, 18)] := by unfold dcl; decide +kernel
set_option maxRecDepth 20000 in
theorem DX7_init : dcl mX7_init.2.1 [(0, .aload_n 0, 1, 1), (1, .invokespecial 1, 3, 4), (4, .aload_n 0, 1, 5), (5, .bipush 20, 2, 7), (7, .newarray .int, 2, 9), (9, .putfield 7, 3, 12), (12, .return_, 1, 13)] := by unfold dcl; decide +kernel
set_option maxRecDepth 20000 in
theorem DX7_begins : dcl mX7_begins.2.1 [(0, .aload_n 0, 1, 1), (1, .getfield 13, 3, 4), (4, .aload_n 0, 1, 5), (5, .getfield 7, 3, 8), (8, .arraylength, 1, 9), (9, .if_icmp .ge 13, 3, 12), (12, .aload_n 0, 1, 13), (13, .getfield 7, 3, 16), (16, .aload_n 0, 1, 17), (17, .getfield 13, 3, 20), (20, .iload_n 1, 1, 21), (21, .iastore, 1, 22), (22, .aload_n 0, 1, 23), (23, .dup, 1, 24), (24, .getfield 13, 3, 27), (27, .iconst 1, 1, 28), (28, .iadd, 1, 29), (29, .putfield 13, 3, 32), (32, .return_, 1, 33)] := by unfold dcl; decide +kernel
set_option maxRecDepth 20000 in
theorem DX8_init : dcl mX8_init.2.1 [(0, .aload_n 0, 1, 1), (1, .iload_n 1, 1, 2), (2, .iload_n 2, 1, 3), (3, .iload_n 3, 1, 4), (4, .iload 4, 2, 6), (6, .iload 5, 2, 8), (8, .iload 6, 2, 10), (10, .invokespecial 3, 3, 13), (13, .return_, 1, 14)] := by unfold dcl; decide +kernel
set_option maxRecDepth 20000 in
theorem DX8_kind : dcl mX8_kind.2.1 [(0, .iconst 4, 1, 1), (1, .ireturn, 1, 2)] := by unfold dcl; decide +kernel
set_option maxRecDepth 20000 in
theorem DX8_saidOver : dcl mX8_saidOver.2.1 [(0, .aload_n 0, 1, 1), (1, .aload_n 1, 1, 2), (2, .aload_n 2, 1, 3), (3, .invokespecial 9, 3, 6), (6, .aload_n 2, 1, 7), (7, .iconst 2, 1, 8), (8, .iaload, 1, 9), (9, .ifCond .le 10, 3, 12), (12, .aload_n 0, 1, 13), (13, .getfield 13, 3, 16), (16, .goto 4, 3, 19), (19, .iconst 0, 1, 20), (20, .iadd, 1, 21), (21, .ireturn, 1, 22)] := by unfold dcl; decide +kernel
set_option maxRecDepth 20000 in
theorem DX8_says : dcl mX8_says.2.1 [(0, .aload_n 2, 1, 1), (1, .bipush 50, 2, 3), (3, .invokevirtual 19, 3, 6), (6, .aload_n 0, 1, 7), (7, .iload_n 1, 1, 8), (8, .aload_n 2, 1, 9), (9, .invokespecial 25, 3, 12), (12, .ineg, 1, 13), (13, .ireturn, 1, 14)] := by unfold dcl; decide +kernel
set_option maxRecDepth 20000 in
theorem DX8_holds : dcl mX8_holds.2.1 [(0, .aload_n 2, 1, 1), (1, .bipush 51, 2, 3), (3, .invokevirtual 19, 3, 6), (6, .aload_n 0, 1, 7), (7, .iload_n 1, 1, 8), (8, .iconst 1, 1, 9), (9, .iadd, 1, 10), (10, .aload_n 2, 1, 11), (11, .invokespecial 29, 3, 14), (14, .ireturn, 1, 15)] := by unfold dcl; decide +kernel
set_option maxRecDepth 20000 in
theorem DX9_init : dcl mX9_init.2.1 [(0, .aload_n 0, 1, 1), (1, .iload_n 1, 1, 2), (2, .iload_n 2, 1, 3), (3, .iload_n 3, 1, 4), (4, .iload 4, 2, 6), (6, .iload 5, 2, 8), (8, .iload 6, 2, 10), (10, .invokespecial 3, 3, 13), (13, .return_, 1, 14)] := by unfold dcl; decide +kernel
set_option maxRecDepth 20000 in
theorem DX9_kind : dcl mX9_kind.2.1 [(0, .iconst 1, 1, 1), (1, .ireturn, 1, 2)] := by unfold dcl; decide +kernel
set_option maxRecDepth 20000 in
theorem DX9_saidOver : dcl mX9_saidOver.2.1 [(0, .aload_n 0, 1, 1), (1, .aload_n 1, 1, 2), (2, .aload_n 2, 1, 3), (3, .invokespecial 9, 3, 6), (6, .aload_n 0, 1, 7), (7, .getfield 13, 3, 10), (10, .aload_n 2, 1, 11), (11, .iconst 0, 1, 12), (12, .iaload, 1, 13), (13, .imul, 1, 14), (14, .iadd, 1, 15), (15, .ireturn, 1, 16)] := by unfold dcl; decide +kernel
set_option maxRecDepth 20000 in
theorem DX9_holds : dcl mX9_holds.2.1 [(0, .aload_n 2, 1, 1), (1, .bipush 20, 2, 3), (3, .invokevirtual 19, 3, 6), (6, .aload_n 0, 1, 7), (7, .iload_n 1, 1, 8), (8, .aload_n 2, 1, 9), (9, .invokespecial 25, 3, 12), (12, .bipush 6, 2, 14), (14, .ixor, 1, 15), (15, .ireturn, 1, 16)] := by unfold dcl; decide +kernel
set_option maxRecDepth 20000 in
theorem DX10_init : dcl mX10_init.2.1 [(0, .aload_n 0, 1, 1), (1, .iload_n 1, 1, 2), (2, .iload_n 2, 1, 3), (3, .iload_n 3, 1, 4), (4, .iload 4, 2, 6), (6, .iload 5, 2, 8), (8, .iload 6, 2, 10), (10, .invokespecial 1, 3, 13), (13, .return_, 1, 14)] := by unfold dcl; decide +kernel
set_option maxRecDepth 20000 in
theorem DX10_kind : dcl mX10_kind.2.1 [(0, .bipush 6, 2, 2), (2, .ireturn, 1, 3)] := by unfold dcl; decide +kernel
set_option maxRecDepth 20000 in
theorem DX10_saidOver : dcl mX10_saidOver.2.1 [(0, .aload_n 0, 1, 1), (1, .aload_n 1, 1, 2), (2, .aload_n 2, 1, 3), (3, .invokespecial 7, 3, 6), (6, .aload_n 0, 1, 7), (7, .getfield 11, 3, 10), (10, .isub, 1, 11), (11, .ireturn, 1, 12)] := by unfold dcl; decide +kernel
set_option maxRecDepth 20000 in
theorem DX10_isKnownByCall : dcl mX10_isKnownByCall.2.1 [(0, .iconst 0, 1, 1), (1, .ireturn, 1, 2)] := by unfold dcl; decide +kernel
set_option maxRecDepth 20000 in
theorem DX10_holds : dcl mX10_holds.2.1 [(0, .aload_n 2, 1, 1), (1, .bipush 70, 2, 3), (3, .invokevirtual 17, 3, 6), (6, .aload_n 0, 1, 7), (7, .iload_n 1, 1, 8), (8, .aload_n 2, 1, 9), (9, .invokespecial 23, 3, 12), (12, .aload_n 0, 1, 13), (13, .iconst 2, 1, 14), (14, .aload_n 2, 1, 15), (15, .invokespecial 27, 3, 18), (18, .iadd, 1, 19), (19, .ireturn, 1, 20)] := by unfold dcl; decide +kernel
set_option maxRecDepth 20000 in
theorem DX10_says : dcl mX10_says.2.1 [(0, .aload_n 2, 1, 1), (1, .bipush 71, 2, 3), (3, .invokevirtual 17, 3, 6), (6, .aload_n 0, 1, 7), (7, .iload_n 1, 1, 8), (8, .aload_n 2, 1, 9), (9, .invokespecial 27, 3, 12), (12, .aload_n 0, 1, 13), (13, .getfield 11, 3, 16), (16, .ixor, 1, 17), (17, .ireturn, 1, 18)] := by unfold dcl; decide +kernel
set_option maxRecDepth 20000 in
theorem DX11_init_0 : dcl mX11_init.2.1 [(0, .aload_n 0, 1, 1), (1, .invokespecial 3, 3, 4), (4, .aload_n 0, 1, 5), (5, .new 9, 3, 8), (8, .dup, 1, 9), (9, .invokespecial 11, 3, 12), (12, .putfield 12, 3, 15), (15, .aload_n 0, 1, 16), (16, .new 9, 3, 19), (19, .dup, 1, 20), (20, .invokespecial 11, 3, 23), (23, .putfield 18, 3, 26), (26, .aload_n 0, 1, 27), (27, .new 21, 3, 30), (30, .dup, 1, 31), (31, .aload_n 0, 1, 32), (32, .getfield 12, 3, 35), (35, .invokespecial 23, 3, 38), (38, .putfield 26, 3, 41), (41, .aload_n 0, 1, 42), (42, .bipush 6, 2, 44), (44, .anewarray 30, 3, 47), (47, .putfield 32, 3, 50), (50, .aload_n 0, 1, 51), (51, .bipush 100, 2, 53), (53, .newarray .byte, 2, 55), (55, .putfield 36, 3, 58), (58, .aload_n 0, 1, 59), (59, .new 40, 3, 62), (62, .dup, 1, 63), (63, .invokespecial 42, 3, 66), (66, .putfield 43, 3, 69), (69, .aload_n 0, 1, 70), (70, .bipush 6, 2, 72), (72, .newarray .int, 2, 74), (74, .putfield 47, 3, 77), (77, .aload_n 0, 1, 78), (78, .bipush 6, 2, 80), (80, .newarray .int, 2, 82), (82, .putfield 51, 3, 85), (85, .aload_n 0, 1, 86), (86, .bipush 6, 2, 88), (88, .bipush 60, 2, 90), (90, .multianewarray 54 2, 4, 94), (94, .putfield 56, 3, 97), (97, .aload_n 0, 1, 98), (98, .getfield 47, 3, 101), (101, .iconst (-1), 1, 102), (102, .invokestatic 59, 3, 105), (105, .iconst 0, 1, 106), (106, .istore_n 1, 1, 107), (107, .iload_n 1, 1, 108), (108, .aload_n 0, 1, 109), (109, .getfield 32, 3, 112), (112, .arraylength, 1, 113), (113, .if_icmp .ge 26, 3, 116), (116, .aload_n 0, 1, 117), (117, .getfield 32, 3, 120), (120, .iload_n 1, 1, 121), (121, .new 30, 3, 124)] := by unfold dcl; decide +kernel
set_option maxRecDepth 20000 in
theorem DX11_init_1 : dcl mX11_init.2.1 [(124, .dup, 1, 125), (125, .aload_n 0, 1, 126), (126, .getfield 36, 3, 129), (129, .invokespecial 65, 3, 132), (132, .aastore, 1, 133), (133, .iinc 1 1, 3, 136), (136, .goto (-29), 3, 139), (139, .return_, 1, 140)] := by unfold dcl; decide +kernel
set_option maxRecDepth 20000 in
theorem DX11_doing : dcl mX11_doing.2.1 [(0, .iload_n 1, 1, 1), (1, .iconst 0, 1, 2), (2, .bipush 6, 2, 4), (4, .invokestatic 68, 3, 7), (7, .ifCond .eq 5, 3, 10), (10, .iconst (-1), 1, 11), (11, .ireturn, 1, 12), (12, .iload_n 2, 1, 13), (13, .iconst 0, 1, 14), (14, .bipush 9, 2, 16), (16, .invokestatic 68, 3, 19), (19, .ifCond .ne 47, 3, 22), (22, .iload_n 3, 1, 23), (23, .iconst 1, 1, 24), (24, .bipush 60, 2, 26), (26, .invokestatic 68, 3, 29), (29, .ifCond .ne 37, 3, 32), (32, .iload 4, 2, 34), (34, .iconst 0, 1, 35), (35, .iload_n 3, 1, 36), (36, .iconst 1, 1, 37), (37, .isub, 1, 38), (38, .invokestatic 68, 3, 41), (41, .ifCond .ne 25, 3, 44), (44, .iload 5, 2, 46), (46, .iconst 0, 1, 47), (47, .bipush 99, 2, 49), (49, .invokestatic 68, 3, 52), (52, .ifCond .ne 14, 3, 55), (55, .iload 6, 2, 57), (57, .iconst 0, 1, 58), (58, .bipush 99, 2, 60), (60, .invokestatic 68, 3, 63), (63, .ifCond .eq 6, 3, 66), (66, .bipush (-2), 2, 68), (68, .ireturn, 1, 69), (69, .aload_n 0, 1, 70), (70, .getfield 12, 3, 73), (73, .getfield 72, 3, 76), (76, .bipush 10, 2, 78), (78, .if_icmp .lt 6, 3, 81), (81, .bipush (-4), 2, 83), (83, .ireturn, 1, 84), (84, .aload_n 0, 1, 85), (85, .getfield 12, 3, 88), (88, .iload_n 1, 1, 89), (89, .aload_n 0, 1, 90), (90, .getfield 12, 3, 93), (93, .getfield 72, 3, 96), (96, .iload_n 2, 1, 97), (97, .iload_n 3, 1, 98), (98, .iload 4, 2, 100), (100, .iload 5, 2, 102), (102, .iload 6, 2, 104), (104, .invokestatic 76, 3, 107), (107, .invokevirtual 80, 3, 110), (110, .ireturn, 1, 111)] := by unfold dcl; decide +kernel
set_option maxRecDepth 20000 in
theorem DX11_of_0 : dcl mX11_of.2.1 [(0, .aload_n 0, 1, 1), (1, .getfield 12, 3, 4), (4, .iload_n 1, 1, 5), (5, .invokevirtual 84, 3, 8), (8, .astore_n 3, 1, 9), (9, .aload_n 3, 1, 10), (10, .ifnonnull 7, 3, 13), (13, .sipush (-10001), 3, 16), (16, .ireturn, 1, 17), (17, .iload_n 2, 1, 18), (18, .tableswitch 175 0 11 #[62, 67, 72, 77, 82, 87, 92, 104, 116, 125, 146, 162], 62, 80), (80, .aload_n 3, 1, 81), (81, .invokevirtual 88, 3, 84), (84, .ireturn, 1, 85), (85, .aload_n 3, 1, 86), (86, .getfield 94, 3, 89), (89, .ireturn, 1, 90), (90, .aload_n 3, 1, 91), (91, .getfield 97, 3, 94), (94, .ireturn, 1, 95), (95, .aload_n 3, 1, 96), (96, .getfield 100, 3, 99), (99, .ireturn, 1, 100), (100, .aload_n 3, 1, 101), (101, .getfield 103, 3, 104), (104, .ireturn, 1, 105), (105, .aload_n 3, 1, 106), (106, .getfield 106, 3, 109), (109, .ireturn, 1, 110), (110, .aload_n 0, 1, 111), (111, .getfield 12, 3, 114), (114, .getfield 109, 3, 117), (117, .iload_n 1, 1, 118), (118, .invokestatic 112, 3, 121), (121, .ireturn, 1, 122), (122, .aload_n 0, 1, 123), (123, .getfield 12, 3, 126), (126, .getfield 116, 3, 129), (129, .iload_n 1, 1, 130), (130, .invokestatic 112, 3, 133), (133, .ireturn, 1, 134), (134, .aload_n 0, 1, 135), (135, .getfield 26, 3, 138), (138, .aload_n 3, 1, 139), (139, .invokevirtual 119, 3, 142), (142, .ireturn, 1, 143), (143, .aload_n 0, 1, 144), (144, .getfield 26, 3, 147), (147, .aload_n 3, 1, 148), (148, .invokevirtual 119, 3, 151), (151, .aload_n 3, 1, 152), (152, .getfield 106, 3, 155), (155, .if_icmp .lt 7, 3, 158), (158, .iconst 1, 1, 159), (159, .goto 4, 3, 162), (162, .iconst 0, 1, 163), (163, .ireturn, 1, 164), (164, .aload_n 0, 1, 165), (165, .getfield 12, 3, 168), (168, .aload_n 3, 1, 169)] := by unfold dcl; decide +kernel
set_option maxRecDepth 20000 in
theorem DX11_of_1 : dcl mX11_of.2.1 [(169, .aload_n 0, 1, 170), (170, .getfield 12, 3, 173), (173, .getfield 122, 3, 176), (176, .invokevirtual 125, 3, 179), (179, .ireturn, 1, 180), (180, .aload_n 0, 1, 181), (181, .getfield 12, 3, 184), (184, .getfield 129, 3, 187), (187, .aload_n 3, 1, 188), (188, .getfield 132, 3, 191), (191, .iaload, 1, 192), (192, .ireturn, 1, 193), (193, .sipush (-10001), 3, 196), (196, .ireturn, 1, 197)] := by unfold dcl; decide +kernel
set_option maxRecDepth 20000 in
theorem DX11_needless : dcl mX11_needless.2.1 [(0, .aload_n 0, 1, 1), (1, .getfield 12, 3, 4), (4, .iload_n 1, 1, 5), (5, .invokevirtual 84, 3, 8), (8, .ifnonnull 5, 3, 11), (11, .iconst (-1), 1, 12), (12, .ireturn, 1, 13), (13, .aload_n 0, 1, 14), (14, .getfield 12, 3, 17), (17, .getfield 109, 3, 20), (20, .iload_n 1, 1, 21), (21, .invokestatic 112, 3, 24), (24, .istore_n 3, 1, 25), (25, .aload_n 0, 1, 26), (26, .getfield 12, 3, 29), (29, .aload_n 0, 1, 30), (30, .getfield 12, 3, 33), (33, .getfield 109, 3, 36), (36, .iload_n 1, 1, 37), (37, .iload_n 2, 1, 38), (38, .invokestatic 135, 3, 41), (41, .putfield 109, 3, 44), (44, .iload_n 3, 1, 45), (45, .ireturn, 1, 46)] := by unfold dcl; decide +kernel
set_option maxRecDepth 20000 in
theorem DX11_learn : dcl mX11_learn.2.1 [(0, .aload_n 0, 1, 1), (1, .getfield 12, 3, 4), (4, .iload_n 1, 1, 5), (5, .invokevirtual 84, 3, 8), (8, .ifnonnull 5, 3, 11), (11, .iconst (-1), 1, 12), (12, .ireturn, 1, 13), (13, .aload_n 0, 1, 14), (14, .getfield 12, 3, 17), (17, .getfield 116, 3, 20), (20, .iload_n 1, 1, 21), (21, .invokestatic 112, 3, 24), (24, .istore_n 3, 1, 25), (25, .aload_n 0, 1, 26), (26, .getfield 12, 3, 29), (29, .aload_n 0, 1, 30), (30, .getfield 12, 3, 33), (33, .getfield 116, 3, 36), (36, .iload_n 1, 1, 37), (37, .iload_n 2, 1, 38), (38, .invokestatic 135, 3, 41), (41, .putfield 116, 3, 44), (44, .iload_n 3, 1, 45), (45, .ireturn, 1, 46)] := by unfold dcl; decide +kernel
set_option maxRecDepth 20000 in
theorem DX11_odds : dcl mX11_odds.2.1 [(0, .aload_n 0, 1, 1), (1, .getfield 12, 3, 4), (4, .iload_n 1, 1, 5), (5, .invokevirtual 84, 3, 8), (8, .astore_n 3, 1, 9), (9, .aload_n 3, 1, 10), (10, .ifnonnull 5, 3, 13), (13, .iconst (-1), 1, 14), (14, .ireturn, 1, 15), (15, .iload_n 2, 1, 16), (16, .iconst 0, 1, 17), (17, .bipush 10, 2, 19), (19, .invokestatic 68, 3, 22), (22, .ifCond .eq 6, 3, 25), (25, .bipush (-2), 2, 27), (27, .ireturn, 1, 28), (28, .aload_n 0, 1, 29), (29, .getfield 12, 3, 32), (32, .getfield 129, 3, 35), (35, .aload_n 3, 1, 36), (36, .getfield 132, 3, 39), (39, .iaload, 1, 40), (40, .istore 4, 2, 42), (42, .aload_n 0, 1, 43), (43, .getfield 12, 3, 46), (46, .getfield 129, 3, 49), (49, .aload_n 3, 1, 50), (50, .getfield 132, 3, 53), (53, .iload_n 2, 1, 54), (54, .iastore, 1, 55), (55, .iload 4, 2, 57), (57, .ireturn, 1, 58)] := by unfold dcl; decide +kernel
set_option maxRecDepth 20000 in
theorem DX11_hours : dcl mX11_hours.2.1 [(0, .iload_n 1, 1, 1), (1, .iconst 0, 1, 2), (2, .iconst 3, 1, 3), (3, .invokestatic 68, 3, 6), (6, .ifCond .eq 5, 3, 9), (9, .iconst (-1), 1, 10), (10, .ireturn, 1, 11), (11, .iload_n 2, 1, 12), (12, .iconst 0, 1, 13), (13, .bipush 9, 2, 15), (15, .invokestatic 68, 3, 18), (18, .ifCond .eq 6, 3, 21), (21, .bipush (-2), 2, 23), (23, .ireturn, 1, 24), (24, .aload_n 0, 1, 25), (25, .getfield 12, 3, 28), (28, .getfield 139, 3, 31), (31, .iload_n 1, 1, 32), (32, .iaload, 1, 33), (33, .istore_n 3, 1, 34), (34, .aload_n 0, 1, 35), (35, .getfield 12, 3, 38), (38, .getfield 139, 3, 41), (41, .iload_n 1, 1, 42), (42, .iload_n 2, 1, 43), (43, .iastore, 1, 44), (44, .iload_n 3, 1, 45), (45, .ireturn, 1, 46)] := by unfold dcl; decide +kernel
set_option maxRecDepth 20000 in
theorem DX11_feed : dcl mX11_feed.2.1 [(0, .iload_n 1, 1, 1), (1, .iconst 0, 1, 2), (2, .bipush 127, 2, 4), (4, .invokestatic 68, 3, 7), (7, .ifCond .eq 6, 3, 10), (10, .bipush (-2), 2, 12), (12, .ireturn, 1, 13), (13, .aload_n 0, 1, 14), (14, .getfield 142, 3, 17), (17, .aload_n 0, 1, 18), (18, .getfield 36, 3, 21), (21, .arraylength, 1, 22), (22, .if_icmp .lt 6, 3, 25), (25, .bipush (-4), 2, 27), (27, .ireturn, 1, 28), (28, .aload_n 0, 1, 29), (29, .getfield 36, 3, 32), (32, .aload_n 0, 1, 33), (33, .getfield 142, 3, 36), (36, .iload_n 1, 1, 37), (37, .i2b, 1, 38), (38, .bastore, 1, 39), (39, .aload_n 0, 1, 40), (40, .dup, 1, 41), (41, .getfield 142, 3, 44), (44, .iconst 1, 1, 45), (45, .iadd, 1, 46), (46, .putfield 142, 3, 49), (49, .aload_n 0, 1, 50), (50, .getfield 142, 3, 53), (53, .ireturn, 1, 54)] := by unfold dcl; decide +kernel
set_option maxRecDepth 20000 in
theorem DX11_post : dcl mX11_post.2.1 [(0, .aload_n 0, 1, 1), (1, .getfield 145, 3, 4), (4, .aload_n 0, 1, 5), (5, .getfield 32, 3, 8), (8, .arraylength, 1, 9), (9, .if_icmp .lt 6, 3, 12), (12, .bipush (-4), 2, 14), (14, .ireturn, 1, 15), (15, .aload_n 0, 1, 16), (16, .getfield 32, 3, 19), (19, .aload_n 0, 1, 20), (20, .getfield 145, 3, 23), (23, .aaload, 1, 24), (24, .astore_n 1, 1, 25), (25, .aload_n 1, 1, 26), (26, .aload_n 0, 1, 27), (27, .getfield 142, 3, 30), (30, .invokevirtual 148, 3, 33), (33, .istore_n 2, 1, 34), (34, .aload_n 0, 1, 35), (35, .iconst 0, 1, 36), (36, .putfield 142, 3, 39), (39, .iload_n 2, 1, 40), (40, .ifCond .lt 8, 3, 43), (43, .bipush (-10), 2, 45), (45, .iload_n 2, 1, 46), (46, .isub, 1, 47), (47, .ireturn, 1, 48), (48, .aload_n 0, 1, 49), (49, .getfield 12, 3, 52), (52, .aload_n 1, 1, 53), (53, .putfield 152, 3, 56), (56, .aload_n 0, 1, 57), (57, .dup, 1, 58), (58, .getfield 145, 3, 61), (61, .iconst 1, 1, 62), (62, .iadd, 1, 63), (63, .putfield 145, 3, 66), (66, .aload_n 0, 1, 67), (67, .getfield 145, 3, 70), (70, .iconst 1, 1, 71), (71, .isub, 1, 72), (72, .ireturn, 1, 73)] := by unfold dcl; decide +kernel
set_option maxRecDepth 20000 in
theorem DX11_told : dcl mX11_told.2.1 [(0, .iload_n 1, 1, 1), (1, .tableswitch 87 0 5 #[39, 47, 55, 63, 71, 79], 39, 40), (40, .aload_n 0, 1, 41), (41, .getfield 12, 3, 44), (44, .invokevirtual 156, 3, 47), (47, .ireturn, 1, 48), (48, .aload_n 0, 1, 49), (49, .getfield 12, 3, 52), (52, .invokevirtual 159, 3, 55), (55, .ireturn, 1, 56), (56, .aload_n 0, 1, 57), (57, .getfield 12, 3, 60), (60, .getfield 122, 3, 63), (63, .ireturn, 1, 64), (64, .aload_n 0, 1, 65), (65, .getfield 12, 3, 68), (68, .getfield 162, 3, 71), (71, .ireturn, 1, 72), (72, .aload_n 0, 1, 73), (73, .getfield 12, 3, 76), (76, .getfield 165, 3, 79), (79, .ireturn, 1, 80), (80, .aload_n 0, 1, 81), (81, .getfield 12, 3, 84), (84, .getfield 168, 3, 87), (87, .ireturn, 1, 88), (88, .iload_n 1, 1, 89), (89, .bipush 10, 2, 91), (91, .bipush 13, 2, 93), (93, .invokestatic 68, 3, 96), (96, .ifCond .eq 7, 3, 99), (99, .iconst (-1), 1, 100), (100, .goto 15, 3, 103), (103, .aload_n 0, 1, 104), (104, .getfield 12, 3, 107), (107, .getfield 139, 3, 110), (110, .iload_n 1, 1, 111), (111, .bipush 10, 2, 113), (113, .isub, 1, 114), (114, .iaload, 1, 115), (115, .ireturn, 1, 116)] := by unfold dcl; decide +kernel
set_option maxRecDepth 20000 in
theorem DX11_said : dcl mX11_said.2.1 [(0, .aload_n 0, 1, 1), (1, .getfield 12, 3, 4), (4, .iload_n 1, 1, 5), (5, .invokevirtual 84, 3, 8), (8, .astore_n 3, 1, 9), (9, .aload_n 3, 1, 10), (10, .ifnull 12, 3, 13), (13, .iload_n 2, 1, 14), (14, .iconst 0, 1, 15), (15, .iconst 3, 1, 16), (16, .invokestatic 68, 3, 19), (19, .ifCond .eq 5, 3, 22), (22, .iconst (-1), 1, 23), (23, .ireturn, 1, 24), (24, .aload_n 0, 1, 25), (25, .getfield 12, 3, 28), (28, .aload_n 3, 1, 29), (29, .iload_n 2, 1, 30), (30, .invokevirtual 171, 3, 33), (33, .ireturn, 1, 34)] := by unfold dcl; decide +kernel
set_option maxRecDepth 20000 in
theorem DX11_hand : dcl mX11_hand.2.1 [(0, .aload_n 0, 1, 1), (1, .getfield 26, 3, 4), (4, .invokevirtual 174, 3, 7), (7, .aload_n 0, 1, 8), (8, .getfield 26, 3, 11), (11, .aload_n 0, 1, 12), (12, .getfield 12, 3, 15), (15, .getfield 139, 3, 18), (18, .invokevirtual 177, 3, 21), (21, .aload_n 0, 1, 22), (22, .getfield 12, 3, 25), (25, .getfield 116, 3, 28), (28, .iconst (-1), 1, 29), (29, .ixor, 1, 30), (30, .iand, 1, 31), (31, .istore_n 1, 1, 32), (32, .aload_n 0, 1, 33), (33, .getfield 12, 3, 36), (36, .dup, 1, 37), (37, .getfield 116, 3, 40), (40, .iload_n 1, 1, 41), (41, .ior, 1, 42), (42, .putfield 116, 3, 45), (45, .iload_n 1, 1, 46), (46, .invokestatic 181, 3, 49), (49, .ireturn, 1, 50)] := by unfold dcl; decide +kernel
set_option maxRecDepth 20000 in
theorem DX11_go_0 : dcl mX11_go.2.1 [(0, .iload_n 1, 1, 1), (1, .iconst 1, 1, 2), (2, .bipush 60, 2, 4), (4, .invokestatic 68, 3, 7), (7, .ifCond .eq 6, 3, 10), (10, .bipush (-2), 2, 12), (12, .ireturn, 1, 13), (13, .aload_n 0, 1, 14), (14, .getfield 12, 3, 17), (17, .getfield 122, 3, 20), (20, .iload_n 1, 1, 21), (21, .iadd, 1, 22), (22, .sipush 9999, 3, 25), (25, .if_icmp .le 6, 3, 28), (28, .bipush (-3), 2, 30), (30, .ireturn, 1, 31), (31, .aload_n 0, 1, 32), (32, .getfield 26, 3, 35), (35, .iload_n 1, 1, 36), (36, .invokevirtual 186, 3, 39), (39, .aload_n 0, 1, 40), (40, .getfield 12, 3, 43), (43, .dup, 1, 44), (44, .getfield 162, 3, 47), (47, .aload_n 0, 1, 48), (48, .getfield 26, 3, 51), (51, .aload_n 0, 1, 52), (52, .getfield 12, 3, 55), (55, .getfield 116, 3, 58), (58, .aload_n 0, 1, 59), (59, .getfield 12, 3, 62), (62, .getfield 109, 3, 65), (65, .invokevirtual 190, 3, 68), (68, .iadd, 1, 69), (69, .putfield 162, 3, 72), (72, .aload_n 0, 1, 73), (73, .getfield 12, 3, 76), (76, .dup, 1, 77), (77, .getfield 165, 3, 80), (80, .aload_n 0, 1, 81), (81, .getfield 26, 3, 84), (84, .getfield 193, 3, 87), (87, .iadd, 1, 88), (88, .putfield 165, 3, 91), (91, .aload_n 0, 1, 92), (92, .getfield 12, 3, 95), (95, .dup, 1, 96), (96, .getfield 168, 3, 99), (99, .aload_n 0, 1, 100), (100, .getfield 26, 3, 103), (103, .getfield 194, 3, 106), (106, .iadd, 1, 107), (107, .putfield 168, 3, 110), (110, .aload_n 0, 1, 111), (111, .getfield 12, 3, 114), (114, .aload_n 0, 1, 115), (115, .getfield 26, 3, 118), (118, .getfield 195, 3, 121), (121, .putfield 116, 3, 124), (124, .aload_n 0, 1, 125)] := by unfold dcl; decide +kernel
set_option maxRecDepth 20000 in
theorem DX11_go_1 : dcl mX11_go.2.1 [(125, .getfield 12, 3, 128), (128, .dup, 1, 129), (129, .getfield 122, 3, 132), (132, .iload_n 1, 1, 133), (133, .iadd, 1, 134), (134, .putfield 122, 3, 137), (137, .aload_n 0, 1, 138), (138, .getfield 12, 3, 141), (141, .getfield 122, 3, 144), (144, .ireturn, 1, 145)] := by unfold dcl; decide +kernel
set_option maxRecDepth 20000 in
theorem DX11_run : dcl mX11_run.2.1 [(0, .iload_n 2, 1, 1), (1, .iconst 0, 1, 2), (2, .iconst 5, 1, 3), (3, .invokestatic 68, 3, 6), (6, .ifCond .eq 7, 3, 9), (9, .sipush (-10001), 3, 12), (12, .ireturn, 1, 13), (13, .iload_n 1, 1, 14), (14, .iconst 0, 1, 15), (15, .sipush 200, 3, 18), (18, .invokestatic 68, 3, 21), (21, .ifCond .eq 7, 3, 24), (24, .sipush (-10002), 3, 27), (27, .ireturn, 1, 28), (28, .aload_n 0, 1, 29), (29, .getfield 26, 3, 32), (32, .iload_n 1, 1, 33), (33, .invokevirtual 186, 3, 36), (36, .aload_n 0, 1, 37), (37, .getfield 26, 3, 40), (40, .aload_n 0, 1, 41), (41, .getfield 12, 3, 44), (44, .getfield 116, 3, 47), (47, .aload_n 0, 1, 48), (48, .getfield 12, 3, 51), (51, .getfield 109, 3, 54), (54, .invokevirtual 190, 3, 57), (57, .istore_n 3, 1, 58), (58, .iload_n 2, 1, 59), (59, .tableswitch 70 0 4 #[33, 35, 43, 51, 62], 33, 92), (92, .iload_n 3, 1, 93), (93, .ireturn, 1, 94), (94, .aload_n 0, 1, 95), (95, .getfield 26, 3, 98), (98, .getfield 193, 3, 101), (101, .ireturn, 1, 102), (102, .aload_n 0, 1, 103), (103, .getfield 26, 3, 106), (106, .getfield 194, 3, 109), (109, .ireturn, 1, 110), (110, .aload_n 0, 1, 111), (111, .getfield 26, 3, 114), (114, .getfield 195, 3, 117), (117, .invokestatic 181, 3, 120), (120, .ireturn, 1, 121), (121, .aload_n 0, 1, 122), (122, .getfield 26, 3, 125), (125, .getfield 196, 3, 128), (128, .ireturn, 1, 129), (129, .aload_n 0, 1, 130), (130, .getfield 26, 3, 133), (133, .getfield 199, 3, 136), (136, .ireturn, 1, 137)] := by unfold dcl; decide +kernel
set_option maxRecDepth 20000 in
theorem DX11_split : dcl mX11_split.2.1 [(0, .iload_n 3, 1, 1), (1, .iconst (-1), 1, 2), (2, .iconst 3, 1, 3), (3, .invokestatic 68, 3, 6), (6, .ifCond .eq 7, 3, 9), (9, .sipush (-10001), 3, 12), (12, .ireturn, 1, 13), (13, .iload_n 1, 1, 14), (14, .iconst 0, 1, 15), (15, .bipush 9, 2, 17), (17, .invokestatic 68, 3, 20), (20, .ifCond .ne 13, 3, 23), (23, .iload_n 2, 1, 24), (24, .iconst 0, 1, 25), (25, .bipush 60, 2, 27), (27, .invokestatic 68, 3, 30), (30, .ifCond .eq 7, 3, 33), (33, .sipush (-10002), 3, 36), (36, .ireturn, 1, 37), (37, .aload_n 0, 1, 38), (38, .getfield 26, 3, 41), (41, .iload_n 2, 1, 42), (42, .invokevirtual 186, 3, 45), (45, .aload_n 0, 1, 46), (46, .getfield 26, 3, 49), (49, .invokevirtual 174, 3, 52), (52, .aload_n 0, 1, 53), (53, .getfield 26, 3, 56), (56, .iload_n 1, 1, 57), (57, .invokevirtual 202, 3, 60), (60, .istore 4, 2, 62), (62, .iload_n 3, 1, 63), (63, .ifCond .ge 8, 3, 66), (66, .iload 4, 2, 68), (68, .goto 12, 3, 71), (71, .aload_n 0, 1, 72), (72, .getfield 26, 3, 75), (75, .getfield 205, 3, 78), (78, .iload_n 3, 1, 79), (79, .iaload, 1, 80), (80, .ireturn, 1, 81)] := by unfold dcl; decide +kernel
set_option maxRecDepth 20000 in
theorem DX11_more : dcl mX11_more.2.1 [(0, .iload_n 1, 1, 1), (1, .iconst 0, 1, 2), (2, .iconst 3, 1, 3), (3, .invokestatic 68, 3, 6), (6, .ifCond .eq 7, 3, 9), (9, .sipush (-10001), 3, 12), (12, .ireturn, 1, 13), (13, .iload_n 2, 1, 14), (14, .iconst 0, 1, 15), (15, .bipush 60, 2, 17), (17, .invokestatic 68, 3, 20), (20, .ifCond .eq 7, 3, 23), (23, .sipush (-10002), 3, 26), (26, .ireturn, 1, 27), (27, .aload_n 0, 1, 28), (28, .getfield 12, 3, 31), (31, .getfield 139, 3, 34), (34, .iload_n 1, 1, 35), (35, .iaload, 1, 36), (36, .bipush 9, 2, 38), (38, .if_icmp .lt 5, 3, 41), (41, .iconst 0, 1, 42), (42, .ireturn, 1, 43), (43, .aload_n 0, 1, 44), (44, .getfield 26, 3, 47), (47, .iload_n 2, 1, 48), (48, .invokevirtual 186, 3, 51), (51, .aload_n 0, 1, 52), (52, .getfield 26, 3, 55), (55, .invokevirtual 174, 3, 58), (58, .aload_n 0, 1, 59), (59, .getfield 26, 3, 62), (62, .aload_n 0, 1, 63), (63, .getfield 12, 3, 66), (66, .getfield 139, 3, 69), (69, .invokevirtual 208, 3, 72), (72, .aload_n 0, 1, 73), (73, .getfield 26, 3, 76), (76, .aload_n 0, 1, 77), (77, .getfield 26, 3, 80), (80, .iload_n 1, 1, 81), (81, .invokevirtual 211, 3, 84), (84, .invokevirtual 208, 3, 87), (87, .isub, 1, 88), (88, .ireturn, 1, 89)] := by unfold dcl; decide +kernel
set_option maxRecDepth 20000 in
theorem DX11_ask : dcl mX11_ask.2.1 [(0, .iload_n 1, 1, 1), (1, .iconst 0, 1, 2), (2, .bipush 60, 2, 4), (4, .invokestatic 68, 3, 7), (7, .ifCond .eq 6, 3, 10), (10, .bipush (-2), 2, 12), (12, .ireturn, 1, 13), (13, .aload_n 0, 1, 14), (14, .getfield 26, 3, 17), (17, .iload_n 1, 1, 18), (18, .invokevirtual 186, 3, 21), (21, .aload_n 0, 1, 22), (22, .getfield 26, 3, 25), (25, .aload_n 0, 1, 26), (26, .getfield 12, 3, 29), (29, .getfield 116, 3, 32), (32, .iconst (-1), 1, 33), (33, .ixor, 1, 34), (34, .iconst 1, 1, 35), (35, .invokevirtual 215, 3, 38), (38, .ireturn, 1, 39)] := by unfold dcl; decide +kernel
set_option maxRecDepth 20000 in
theorem DX11_drop : dcl mX11_drop.2.1 [(0, .iload_n 1, 1, 1), (1, .iconst 0, 1, 2), (2, .bipush 60, 2, 4), (4, .invokestatic 68, 3, 7), (7, .ifCond .eq 6, 3, 10), (10, .bipush (-2), 2, 12), (12, .ireturn, 1, 13), (13, .aload_n 0, 1, 14), (14, .getfield 26, 3, 17), (17, .iload_n 1, 1, 18), (18, .invokevirtual 186, 3, 21), (21, .aload_n 0, 1, 22), (22, .getfield 26, 3, 25), (25, .aload_n 0, 1, 26), (26, .getfield 12, 3, 29), (29, .getfield 109, 3, 32), (32, .iconst (-1), 1, 33), (33, .ixor, 1, 34), (34, .iconst 0, 1, 35), (35, .invokevirtual 215, 3, 38), (38, .ireturn, 1, 39)] := by unfold dcl; decide +kernel
set_option maxRecDepth 20000 in
theorem DX11_when : dcl mX11_when.2.1 [(0, .aload_n 0, 1, 1), (1, .getfield 12, 3, 4), (4, .iload_n 1, 1, 5), (5, .invokevirtual 84, 3, 8), (8, .astore_n 2, 1, 9), (9, .aload_n 2, 1, 10), (10, .ifnonnull 7, 3, 13), (13, .iconst (-1), 1, 14), (14, .goto 22, 3, 17), (17, .aload_n 0, 1, 18), (18, .getfield 12, 3, 21), (21, .getfield 122, 3, 24), (24, .aload_n 2, 1, 25), (25, .aload_n 0, 1, 26), (26, .getfield 12, 3, 29), (29, .getfield 122, 3, 32), (32, .invokevirtual 219, 3, 35), (35, .iadd, 1, 36), (36, .ireturn, 1, 37)] := by unfold dcl; decide +kernel
set_option maxRecDepth 20000 in
theorem DX11_busiest : dcl mX11_busiest.2.1 [(0, .iload_n 2, 1, 1), (1, .iconst 0, 1, 2), (2, .iconst 1, 1, 3), (3, .invokestatic 68, 3, 6), (6, .ifCond .eq 5, 3, 9), (9, .iconst (-1), 1, 10), (10, .ireturn, 1, 11), (11, .iload_n 1, 1, 12), (12, .iconst 1, 1, 13), (13, .sipush 200, 3, 16), (16, .invokestatic 68, 3, 19), (19, .ifCond .eq 6, 3, 22), (22, .bipush (-2), 2, 24), (24, .ireturn, 1, 25), (25, .iconst 0, 1, 26), (26, .istore_n 3, 1, 27), (27, .iconst (-1), 1, 28), (28, .istore 4, 2, 30), (30, .iconst 0, 1, 31), (31, .istore 5, 2, 33), (33, .iload 5, 2, 35), (35, .iload_n 1, 1, 36), (36, .if_icmp .ge 45, 3, 39), (39, .aload_n 0, 1, 40), (40, .getfield 12, 3, 43), (43, .aload_n 0, 1, 44), (44, .getfield 12, 3, 47), (47, .getfield 122, 3, 50), (50, .iload 5, 2, 52), (52, .iadd, 1, 53), (53, .invokevirtual 222, 3, 56), (56, .invokestatic 181, 3, 59), (59, .istore 6, 2, 61), (61, .iload 6, 2, 63), (63, .iload 4, 2, 65), (65, .if_icmp .le 10, 3, 68), (68, .iload 6, 2, 70), (70, .istore 4, 2, 72), (72, .iload 5, 2, 74), (74, .istore_n 3, 1, 75), (75, .iinc 5 1, 3, 78), (78, .goto (-45), 3, 81), (81, .iload_n 2, 1, 82), (82, .ifCond .ne 15, 3, 85), (85, .aload_n 0, 1, 86), (86, .getfield 12, 3, 89), (89, .getfield 122, 3, 92), (92, .iload_n 3, 1, 93), (93, .iadd, 1, 94), (94, .goto 5, 3, 97), (97, .iload 4, 2, 99), (99, .ireturn, 1, 100)] := by unfold dcl; decide +kernel
set_option maxRecDepth 20000 in
theorem DX11_all : dcl mX11_all.2.1 [(0, .iload_n 1, 1, 1), (1, .ifCond .eq 17, 3, 4), (4, .iload_n 1, 1, 5), (5, .aload_n 0, 1, 6), (6, .getfield 12, 3, 9), (9, .invokevirtual 225, 3, 12), (12, .iconst (-1), 1, 13), (13, .ixor, 1, 14), (14, .iand, 1, 15), (15, .ifCond .eq 6, 3, 18), (18, .bipush (-2), 2, 20), (20, .ireturn, 1, 21), (21, .iconst 0, 1, 22), (22, .istore_n 2, 1, 23), (23, .iload_n 2, 1, 24), (24, .sipush 3600, 3, 27), (27, .if_icmp .gt 34, 3, 30), (30, .aload_n 0, 1, 31), (31, .getfield 12, 3, 34), (34, .iload_n 1, 1, 35), (35, .aload_n 0, 1, 36), (36, .getfield 12, 3, 39), (39, .getfield 122, 3, 42), (42, .iload_n 2, 1, 43), (43, .iadd, 1, 44), (44, .invokevirtual 228, 3, 47), (47, .istore_n 3, 1, 48), (48, .iload_n 3, 1, 49), (49, .ifCond .gt 5, 3, 52), (52, .iload_n 2, 1, 53), (53, .ireturn, 1, 54), (54, .iload_n 2, 1, 55), (55, .iload_n 3, 1, 56), (56, .iadd, 1, 57), (57, .istore_n 2, 1, 58), (58, .goto (-35), 3, 61), (61, .bipush (-5), 2, 63), (63, .ireturn, 1, 64)] := by unfold dcl; decide +kernel
set_option maxRecDepth 20000 in
theorem DX11_list : dcl mX11_list.2.1 [(0, .iload_n 1, 1, 1), (1, .iconst (-1), 1, 2), (2, .if_icmp .ne 13, 3, 5), (5, .aload_n 0, 1, 6), (6, .getfield 12, 3, 9), (9, .iconst 0, 1, 10), (10, .putfield 231, 3, 13), (13, .iconst 0, 1, 14), (14, .ireturn, 1, 15), (15, .iload_n 1, 1, 16), (16, .iconst 0, 1, 17), (17, .bipush 99, 2, 19), (19, .invokestatic 68, 3, 22), (22, .ifCond .eq 6, 3, 25), (25, .bipush (-2), 2, 27), (27, .ireturn, 1, 28), (28, .aload_n 0, 1, 29), (29, .getfield 12, 3, 32), (32, .iload_n 2, 1, 33), (33, .invokevirtual 84, 3, 36), (36, .ifnonnull 5, 3, 39), (39, .iconst (-1), 1, 40), (40, .ireturn, 1, 41), (41, .aload_n 0, 1, 42), (42, .getfield 12, 3, 45), (45, .getfield 231, 3, 48), (48, .bipush 12, 2, 50), (50, .if_icmp .lt 8, 3, 53), (53, .bipush (-4), 2, 55), (55, .goto 20, 3, 58), (58, .aload_n 0, 1, 59), (59, .getfield 12, 3, 62), (62, .aload_n 0, 1, 63), (63, .getfield 12, 3, 66), (66, .getfield 122, 3, 69), (69, .iload_n 1, 1, 70), (70, .iadd, 1, 71), (71, .iload_n 2, 1, 72), (72, .invokevirtual 234, 3, 75), (75, .ireturn, 1, 76)] := by unfold dcl; decide +kernel
set_option maxRecDepth 20000 in
theorem DX11_looked : dcl mX11_looked.2.1 [(0, .aload_n 0, 1, 1), (1, .getfield 26, 3, 4), (4, .aload_n 0, 1, 5), (5, .getfield 12, 3, 8), (8, .invokevirtual 237, 3, 11), (11, .invokevirtual 186, 3, 14), (14, .aload_n 0, 1, 15), (15, .getfield 26, 3, 18), (18, .aload_n 0, 1, 19), (19, .getfield 12, 3, 22), (22, .getfield 116, 3, 25), (25, .aload_n 0, 1, 26), (26, .getfield 12, 3, 29), (29, .getfield 109, 3, 32), (32, .invokevirtual 190, 3, 35), (35, .pop, 1, 36), (36, .aload_n 0, 1, 37), (37, .getfield 26, 3, 40), (40, .invokevirtual 240, 3, 43), (43, .ireturn, 1, 44)] := by unfold dcl; decide +kernel
set_option maxRecDepth 20000 in
theorem DX11_fits : dcl mX11_fits.2.1 [(0, .aload_n 0, 1, 1), (1, .getfield 12, 3, 4), (4, .getfield 72, 3, 7), (7, .bipush 8, 2, 9), (9, .if_icmp .le 6, 3, 12), (12, .bipush (-9), 2, 14), (14, .ireturn, 1, 15), (15, .aload_n 0, 1, 16), (16, .getfield 26, 3, 19), (19, .aload_n 0, 1, 20), (20, .getfield 12, 3, 23), (23, .invokevirtual 237, 3, 26), (26, .invokevirtual 186, 3, 29), (29, .iconst 0, 1, 30), (30, .istore_n 1, 1, 31), (31, .iconst 0, 1, 32), (32, .istore_n 2, 1, 33), (33, .iload_n 2, 1, 34), (34, .aload_n 0, 1, 35), (35, .getfield 12, 3, 38), (38, .invokevirtual 225, 3, 41), (41, .if_icmp .gt 40, 3, 44), (44, .aload_n 0, 1, 45), (45, .getfield 26, 3, 48), (48, .iload_n 2, 1, 49), (49, .aload_n 0, 1, 50), (50, .getfield 12, 3, 53), (53, .getfield 109, 3, 56), (56, .invokevirtual 190, 3, 59), (59, .pop, 1, 60), (60, .aload_n 0, 1, 61), (61, .getfield 26, 3, 64), (64, .invokevirtual 240, 3, 67), (67, .bipush (-5), 2, 69), (69, .if_icmp .ne 6, 3, 72), (72, .iinc 1 1, 3, 75), (75, .iinc 2 1, 3, 78), (78, .goto (-45), 3, 81), (81, .iload_n 1, 1, 82), (82, .ireturn, 1, 83)] := by unfold dcl; decide +kernel
set_option maxRecDepth 20000 in
theorem DX11_chance_0 : dcl mX11_chance.2.1 [(0, .iload_n 1, 1, 1), (1, .iconst 0, 1, 2), (2, .bipush 60, 2, 4), (4, .invokestatic 68, 3, 7), (7, .ifCond .ne 12, 3, 10), (10, .iload_n 2, 1, 11), (11, .iconst 0, 1, 12), (12, .iconst 1, 1, 13), (13, .invokestatic 68, 3, 16), (16, .ifCond .eq 7, 3, 19), (19, .ldc2_w 243, 3, 22), (22, .lreturn, 1, 23), (23, .lconst 1, 1, 24), (24, .lstore_n 3, 1, 25), (25, .lconst 1, 1, 26), (26, .lstore 5, 2, 28), (28, .iconst 0, 1, 29), (29, .istore 7, 2, 31), (31, .iload 7, 2, 33), (33, .aload_n 0, 1, 34), (34, .getfield 12, 3, 37), (37, .getfield 72, 3, 40), (40, .if_icmp .ge 78, 3, 43), (43, .aload_n 0, 1, 44), (44, .getfield 12, 3, 47), (47, .iload 7, 2, 49), (49, .invokevirtual 84, 3, 52), (52, .astore 8, 2, 54), (54, .aload 8, 2, 56), (56, .ifnull 56, 3, 59), (59, .aload_n 0, 1, 60), (60, .getfield 12, 3, 63), (63, .getfield 109, 3, 66), (66, .iload 7, 2, 68), (68, .invokestatic 112, 3, 71), (71, .ifCond .ne 41, 3, 74), (74, .aload 8, 2, 76), (76, .aload_n 0, 1, 77), (77, .getfield 12, 3, 80), (80, .getfield 122, 3, 83), (83, .invokevirtual 219, 3, 86), (86, .iload_n 1, 1, 87), (87, .if_icmp .ge 25, 3, 90), (90, .lload_n 3, 1, 91), (91, .aload_n 0, 1, 92), (92, .getfield 12, 3, 95), (95, .getfield 129, 3, 98), (98, .iload 7, 2, 100), (100, .iaload, 1, 101), (101, .i2l, 1, 102), (102, .lmul, 1, 103), (103, .lstore_n 3, 1, 104), (104, .lload 5, 2, 106), (106, .ldc2_w 245, 3, 109), (109, .lmul, 1, 110), (110, .lstore 5, 2, 112), (112, .iinc 7 1, 3, 115), (115, .goto (-84), 3, 118), (118, .lload_n 3, 1, 119), (119, .lload 5, 2, 121)] := by unfold dcl; decide +kernel
set_option maxRecDepth 20000 in
theorem DX11_chance_1 : dcl mX11_chance.2.1 [(121, .invokestatic 247, 3, 124), (124, .lstore 7, 2, 126), (126, .iload_n 2, 1, 127), (127, .ifCond .ne 7, 3, 130), (130, .lload_n 3, 1, 131), (131, .goto 5, 3, 134), (134, .lload 5, 2, 136), (136, .lload 7, 2, 138), (138, .ldiv, 1, 139), (139, .lreturn, 1, 140)] := by unfold dcl; decide +kernel
set_option maxRecDepth 20000 in
theorem DX11_judge_0 : dcl mX11_judge.2.1 [(0, .iload_n 1, 1, 1), (1, .iconst 0, 1, 2), (2, .iconst 5, 1, 3), (3, .invokestatic 68, 3, 6), (6, .ifCond .eq 5, 3, 9), (9, .iconst (-1), 1, 10), (10, .ireturn, 1, 11), (11, .aload_n 0, 1, 12), (12, .getfield 47, 3, 15), (15, .iload_n 1, 1, 16), (16, .iaload, 1, 17), (17, .iconst (-1), 1, 18), (18, .if_icmp .eq 16, 3, 21), (21, .aload_n 0, 1, 22), (22, .getfield 47, 3, 25), (25, .iload_n 1, 1, 26), (26, .iaload, 1, 27), (27, .iconst 4, 1, 28), (28, .if_icmp .eq 6, 3, 31), (31, .bipush (-12), 2, 33), (33, .ireturn, 1, 34), (34, .iconst 0, 1, 35), (35, .istore_n 3, 1, 36), (36, .iload_n 3, 1, 37), (37, .aload_n 0, 1, 38), (38, .getfield 12, 3, 41), (41, .getfield 72, 3, 44), (44, .if_icmp .ge 58, 3, 47), (47, .iload_n 2, 1, 48), (48, .ifCond .lt 15, 3, 51), (51, .iload_n 2, 1, 52), (52, .aload_n 0, 1, 53), (53, .getfield 51, 3, 56), (56, .iload_n 1, 1, 57), (57, .iaload, 1, 58), (58, .iload_n 3, 1, 59), (59, .isub, 1, 60), (60, .if_icmp .lt 8, 3, 63), (63, .bipush 100, 2, 65), (65, .iload_n 3, 1, 66), (66, .iadd, 1, 67), (67, .ireturn, 1, 68), (68, .aload_n 0, 1, 69), (69, .getfield 56, 3, 72), (72, .iload_n 1, 1, 73), (73, .aaload, 1, 74), (74, .iload_n 2, 1, 75), (75, .iload_n 3, 1, 76), (76, .iadd, 1, 77), (77, .laload, 1, 78), (78, .aload_n 0, 1, 79), (79, .getfield 12, 3, 82), (82, .getfield 116, 3, 85), (85, .iload_n 3, 1, 86), (86, .invokestatic 112, 3, 89), (89, .i2l, 1, 90), (90, .lcmp, 1, 91), (91, .ifCond .eq 5, 3, 94), (94, .iload_n 3, 1, 95), (95, .ireturn, 1, 96)] := by unfold dcl; decide +kernel
set_option maxRecDepth 20000 in
theorem DX11_judge_1 : dcl mX11_judge.2.1 [(96, .iinc 3 1, 3, 99), (99, .goto (-63), 3, 102), (102, .bipush (-5), 2, 104), (104, .ireturn, 1, 105)] := by unfold dcl; decide +kernel
set_option maxRecDepth 20000 in
theorem DX11_image : dcl mX11_image.2.1 [(0, .aload_n 0, 1, 1), (1, .getfield 18, 3, 4), (4, .aload_n 0, 1, 5), (5, .getfield 12, 3, 8), (8, .invokevirtual 251, 3, 11), (11, .aload_n 0, 1, 12), (12, .iconst 1, 1, 13), (13, .putfield 254, 3, 16), (16, .aload_n 0, 1, 17), (17, .getfield 12, 3, 20), (20, .getfield 72, 3, 23), (23, .ireturn, 1, 24)] := by unfold dcl; decide +kernel
set_option maxRecDepth 20000 in
theorem DX11_undo : dcl mX11_undo.2.1 [(0, .aload_n 0, 1, 1), (1, .getfield 254, 3, 4), (4, .ifCond .ne 6, 3, 7), (7, .bipush (-3), 2, 9), (9, .ireturn, 1, 10), (10, .aload_n 0, 1, 11), (11, .getfield 12, 3, 14), (14, .aload_n 0, 1, 15), (15, .getfield 18, 3, 18), (18, .invokevirtual 251, 3, 21), (21, .aload_n 0, 1, 22), (22, .getfield 12, 3, 25), (25, .getfield 72, 3, 28), (28, .ireturn, 1, 29)] := by unfold dcl; decide +kernel
set_option maxRecDepth 20000 in
theorem DX11_act : dcl mX11_act.2.1 [(0, .aload_n 0, 1, 1), (1, .getfield 43, 3, 4), (4, .iconst 0, 1, 5), (5, .putfield 258, 3, 8), (8, .aload_n 0, 1, 9), (9, .getfield 12, 3, 12), (12, .iload_n 1, 1, 13), (13, .invokevirtual 84, 3, 16), (16, .astore 4, 2, 18), (18, .aload 4, 2, 20), (20, .ifnonnull 5, 3, 23), (23, .iconst 0, 1, 24), (24, .ireturn, 1, 25), (25, .iload_n 2, 1, 26), (26, .tableswitch 59 0 2 #[26, 37, 48], 26, 52), (52, .aload 4, 2, 54), (54, .iload_n 3, 1, 55), (55, .aload_n 0, 1, 56), (56, .getfield 43, 3, 59), (59, .invokevirtual 261, 3, 62), (62, .ireturn, 1, 63), (63, .aload 4, 2, 65), (65, .iload_n 3, 1, 66), (66, .aload_n 0, 1, 67), (67, .getfield 43, 3, 70), (70, .invokevirtual 265, 3, 73), (73, .ireturn, 1, 74), (74, .aload 4, 2, 76), (76, .iload_n 3, 1, 77), (77, .aload_n 0, 1, 78), (78, .getfield 43, 3, 81), (81, .invokevirtual 268, 3, 84), (84, .ireturn, 1, 85), (85, .iconst 0, 1, 86), (86, .ireturn, 1, 87)] := by unfold dcl; decide +kernel
set_option maxRecDepth 20000 in
theorem DX11_trace : dcl mX11_trace.2.1 [(0, .iload_n 1, 1, 1), (1, .ifCond .lt 26, 3, 4), (4, .iload_n 1, 1, 5), (5, .aload_n 0, 1, 6), (6, .getfield 43, 3, 9), (9, .getfield 258, 3, 12), (12, .if_icmp .ge 15, 3, 15), (15, .iload_n 1, 1, 16), (16, .aload_n 0, 1, 17), (17, .getfield 43, 3, 20), (20, .getfield 271, 3, 23), (23, .arraylength, 1, 24), (24, .if_icmp .lt 5, 3, 27), (27, .iconst (-1), 1, 28), (28, .ireturn, 1, 29), (29, .aload_n 0, 1, 30), (30, .getfield 43, 3, 33), (33, .getfield 271, 3, 36), (36, .iload_n 1, 1, 37), (37, .iaload, 1, 38), (38, .ireturn, 1, 39)] := by unfold dcl; decide +kernel
set_option maxRecDepth 20000 in
theorem DX11_taken : dcl mX11_taken.2.1 [(0, .iload_n 2, 1, 1), (1, .iconst 0, 1, 2), (2, .bipush 6, 2, 4), (4, .invokestatic 68, 3, 7), (7, .ifCond .eq 6, 3, 10), (10, .bipush (-2), 2, 12), (12, .ireturn, 1, 13), (13, .aload_n 0, 1, 14), (14, .getfield 12, 3, 17), (17, .iload_n 1, 1, 18), (18, .invokevirtual 84, 3, 21), (21, .astore_n 3, 1, 22), (22, .aload_n 3, 1, 23), (23, .ifnonnull 6, 3, 26), (26, .bipush (-11), 2, 28), (28, .ireturn, 1, 29), (29, .aload_n 3, 1, 30), (30, .iload_n 2, 1, 31), (31, .invokestatic 274, 3, 34), (34, .ifCond .eq 10, 3, 37), (37, .aload_n 3, 1, 38), (38, .invokevirtual 88, 3, 41), (41, .goto 5, 3, 44), (44, .bipush (-12), 2, 46), (46, .ireturn, 1, 47)] := by unfold dcl; decide +kernel
set_option maxRecDepth 20000 in
theorem DX11_count : dcl mX11_count.2.1 [(0, .iload_n 1, 1, 1), (1, .tableswitch 84 0 5 #[39, 47, 52, 60, 65, 73], 39, 40), (40, .aload_n 0, 1, 41), (41, .getfield 12, 3, 44), (44, .getfield 72, 3, 47), (47, .ireturn, 1, 48), (48, .aload_n 0, 1, 49), (49, .getfield 145, 3, 52), (52, .ireturn, 1, 53), (53, .aload_n 0, 1, 54), (54, .getfield 12, 3, 57), (57, .getfield 231, 3, 60), (60, .ireturn, 1, 61), (61, .aload_n 0, 1, 62), (62, .getfield 142, 3, 65), (65, .ireturn, 1, 66), (66, .aload_n 0, 1, 67), (67, .getfield 43, 3, 70), (70, .getfield 258, 3, 73), (73, .ireturn, 1, 74), (74, .aload_n 0, 1, 75), (75, .getfield 12, 3, 78), (78, .getfield 116, 3, 81), (81, .invokestatic 181, 3, 84), (84, .ireturn, 1, 85), (85, .bipush (-2), 2, 87), (87, .ireturn, 1, 88)] := by unfold dcl; decide +kernel
set_option maxRecDepth 20000 in
theorem DX11_tape : dcl mX11_tape.2.1 [(0, .iload_n 1, 1, 1), (1, .iconst 0, 1, 2), (2, .iconst 5, 1, 3), (3, .invokestatic 68, 3, 6), (6, .ifCond .eq 5, 3, 9), (9, .iconst (-1), 1, 10), (10, .ireturn, 1, 11), (11, .iload_n 2, 1, 12), (12, .iconst (-1), 1, 13), (13, .iconst 4, 1, 14), (14, .invokestatic 68, 3, 17), (17, .ifCond .ne 14, 3, 20), (20, .iload_n 2, 1, 21), (21, .iconst (-1), 1, 22), (22, .if_icmp .eq 12, 3, 25), (25, .iload_n 3, 1, 26), (26, .bipush 60, 2, 28), (28, .if_icmp .le 6, 3, 31), (31, .bipush (-2), 2, 33), (33, .ireturn, 1, 34), (34, .iload_n 2, 1, 35), (35, .iconst (-1), 1, 36), (36, .if_icmp .eq 10, 3, 39), (39, .iload_n 3, 1, 40), (40, .ifCond .ge 6, 3, 43), (43, .bipush (-14), 2, 45), (45, .ireturn, 1, 46), (46, .aload_n 0, 1, 47), (47, .getfield 47, 3, 50), (50, .iload_n 1, 1, 51), (51, .iload_n 2, 1, 52), (52, .iastore, 1, 53), (53, .aload_n 0, 1, 54), (54, .getfield 51, 3, 57), (57, .iload_n 1, 1, 58), (58, .iload_n 2, 1, 59), (59, .iconst (-1), 1, 60), (60, .if_icmp .ne 7, 3, 63), (63, .iconst 0, 1, 64), (64, .goto 4, 3, 67), (67, .iload_n 3, 1, 68), (68, .iastore, 1, 69), (69, .aload_n 0, 1, 70), (70, .getfield 56, 3, 73), (73, .iload_n 1, 1, 74), (74, .aaload, 1, 75), (75, .lconst 0, 1, 76), (76, .invokestatic 278, 3, 79), (79, .iconst 1, 1, 80), (80, .ireturn, 1, 81)] := by unfold dcl; decide +kernel
set_option maxRecDepth 20000 in
theorem DX11_item : dcl mX11_item.2.1 [(0, .iload_n 1, 1, 1), (1, .iconst 0, 1, 2), (2, .iconst 5, 1, 3), (3, .invokestatic 68, 3, 6), (6, .ifCond .eq 5, 3, 9), (9, .iconst (-1), 1, 10), (10, .ireturn, 1, 11), (11, .aload_n 0, 1, 12), (12, .getfield 47, 3, 15), (15, .iload_n 1, 1, 16), (16, .iaload, 1, 17), (17, .iconst (-1), 1, 18), (18, .if_icmp .ne 6, 3, 21), (21, .bipush (-11), 2, 23), (23, .ireturn, 1, 24), (24, .iload_n 2, 1, 25), (25, .iconst 0, 1, 26), (26, .aload_n 0, 1, 27), (27, .getfield 51, 3, 30), (30, .iload_n 1, 1, 31), (31, .iaload, 1, 32), (32, .iconst 1, 1, 33), (33, .isub, 1, 34), (34, .invokestatic 68, 3, 37), (37, .ifCond .eq 6, 3, 40), (40, .bipush (-13), 2, 42), (42, .ireturn, 1, 43), (43, .aload_n 0, 1, 44), (44, .getfield 56, 3, 47), (47, .iload_n 1, 1, 48), (48, .aaload, 1, 49), (49, .iload_n 2, 1, 50), (50, .lload_n 3, 1, 51), (51, .aload_n 0, 1, 52), (52, .getfield 47, 3, 55), (55, .iload_n 1, 1, 56), (56, .iaload, 1, 57), (57, .invokestatic 281, 3, 60), (60, .lastore, 1, 61), (61, .iconst 1, 1, 62), (62, .ireturn, 1, 63)] := by unfold dcl; decide +kernel
set_option maxRecDepth 20000 in
theorem DX11_read : dcl mX11_read.2.1 [(0, .iload_n 1, 1, 1), (1, .iconst 0, 1, 2), (2, .iconst 5, 1, 3), (3, .invokestatic 68, 3, 6), (6, .ifCond .ne 19, 3, 9), (9, .iload_n 2, 1, 10), (10, .iconst 0, 1, 11), (11, .aload_n 0, 1, 12), (12, .getfield 51, 3, 15), (15, .iload_n 1, 1, 16), (16, .iaload, 1, 17), (17, .iconst 1, 1, 18), (18, .isub, 1, 19), (19, .invokestatic 68, 3, 22), (22, .ifCond .eq 7, 3, 25), (25, .ldc2_w 243, 3, 28), (28, .lreturn, 1, 29), (29, .aload_n 0, 1, 30), (30, .getfield 56, 3, 33), (33, .iload_n 1, 1, 34), (34, .aaload, 1, 35), (35, .iload_n 2, 1, 36), (36, .laload, 1, 37), (37, .lreturn, 1, 38)] := by unfold dcl; decide +kernel
set_option maxRecDepth 20000 in
theorem DX11_shift_0 : dcl mX11_shift.2.1 [(0, .iload_n 1, 1, 1), (1, .iconst 0, 1, 2), (2, .iconst 5, 1, 3), (3, .invokestatic 68, 3, 6), (6, .ifCond .ne 12, 3, 9), (9, .iload_n 3, 1, 10), (10, .iconst 0, 1, 11), (11, .iconst 5, 1, 12), (12, .invokestatic 68, 3, 15), (15, .ifCond .eq 5, 3, 18), (18, .iconst (-1), 1, 19), (19, .ireturn, 1, 20), (20, .aload_n 0, 1, 21), (21, .getfield 47, 3, 24), (24, .iload_n 1, 1, 25), (25, .iaload, 1, 26), (26, .iconst (-1), 1, 27), (27, .if_icmp .eq 13, 3, 30), (30, .aload_n 0, 1, 31), (31, .getfield 47, 3, 34), (34, .iload_n 3, 1, 35), (35, .iaload, 1, 36), (36, .iconst (-1), 1, 37), (37, .if_icmp .ne 6, 3, 40), (40, .bipush (-11), 2, 42), (42, .ireturn, 1, 43), (43, .aload_n 0, 1, 44), (44, .getfield 47, 3, 47), (47, .iload_n 1, 1, 48), (48, .iaload, 1, 49), (49, .aload_n 0, 1, 50), (50, .getfield 47, 3, 53), (53, .iload_n 3, 1, 54), (54, .iaload, 1, 55), (55, .if_icmp .eq 6, 3, 58), (58, .bipush (-12), 2, 60), (60, .ireturn, 1, 61), (61, .iload 5, 2, 63), (63, .ifCond .lt 38, 3, 66), (66, .iload_n 2, 1, 67), (67, .iconst 0, 1, 68), (68, .aload_n 0, 1, 69), (69, .getfield 51, 3, 72), (72, .iload_n 1, 1, 73), (73, .iaload, 1, 74), (74, .iload 5, 2, 76), (76, .isub, 1, 77), (77, .invokestatic 68, 3, 80), (80, .ifCond .ne 21, 3, 83), (83, .iload 4, 2, 85), (85, .iconst 0, 1, 86), (86, .aload_n 0, 1, 87), (87, .getfield 51, 3, 90), (90, .iload_n 3, 1, 91), (91, .iaload, 1, 92), (92, .iload 5, 2, 94), (94, .isub, 1, 95), (95, .invokestatic 68, 3, 98), (98, .ifCond .eq 6, 3, 101), (101, .bipush (-13), 2, 103)] := by unfold dcl; decide +kernel
set_option maxRecDepth 20000 in
theorem DX11_shift_1 : dcl mX11_shift.2.1 [(103, .ireturn, 1, 104), (104, .aload_n 0, 1, 105), (105, .getfield 56, 3, 108), (108, .iload_n 1, 1, 109), (109, .aaload, 1, 110), (110, .iload_n 2, 1, 111), (111, .aload_n 0, 1, 112), (112, .getfield 56, 3, 115), (115, .iload_n 3, 1, 116), (116, .aaload, 1, 117), (117, .iload 4, 2, 119), (119, .iload 5, 2, 121), (121, .invokestatic 285, 3, 124), (124, .iload 5, 2, 126), (126, .ireturn, 1, 127)] := by unfold dcl; decide +kernel
set_option maxRecDepth 20000 in
theorem DX11_isNot : dcl mX11_isNot.2.1 [(0, .iload_n 0, 1, 1), (1, .iload_n 1, 1, 2), (2, .if_icmp .lt 8, 3, 5), (5, .iload_n 0, 1, 6), (6, .iload_n 2, 1, 7), (7, .if_icmp .le 7, 3, 10), (10, .iconst 1, 1, 11), (11, .goto 4, 3, 14), (14, .iconst 0, 1, 15), (15, .ireturn, 1, 16)] := by unfold dcl; decide +kernel
set_option maxRecDepth 20000 in
theorem DX11_bit : dcl mX11_bit.2.1 [(0, .iload_n 0, 1, 1), (1, .iload_n 1, 1, 2), (2, .ishr, 1, 3), (3, .iconst 1, 1, 4), (4, .iand, 1, 5), (5, .ireturn, 1, 6)] := by unfold dcl; decide +kernel
set_option maxRecDepth 20000 in
theorem DX11_withBit : dcl mX11_withBit.2.1 [(0, .iload_n 2, 1, 1), (1, .ifCond .eq 11, 3, 4), (4, .iload_n 0, 1, 5), (5, .iconst 1, 1, 6), (6, .iload_n 1, 1, 7), (7, .ishl, 1, 8), (8, .ior, 1, 9), (9, .goto 10, 3, 12), (12, .iload_n 0, 1, 13), (13, .iconst 1, 1, 14), (14, .iload_n 1, 1, 15), (15, .ishl, 1, 16), (16, .iconst (-1), 1, 17), (17, .ixor, 1, 18), (18, .iand, 1, 19), (19, .ireturn, 1, 20)] := by unfold dcl; decide +kernel
set_option maxRecDepth 20000 in
theorem DX11_commonDivisor : dcl mX11_commonDivisor.2.1 [(0, .lload_n 2, 1, 1), (1, .lstore 4, 2, 3), (3, .lload_n 0, 1, 4), (4, .lstore 6, 2, 6), (6, .iconst 0, 1, 7), (7, .istore 8, 2, 9), (9, .iload 8, 2, 11), (11, .bipush 100, 2, 13), (13, .if_icmp .ge 31, 3, 16), (16, .lload 6, 2, 18), (18, .lconst 0, 1, 19), (19, .lcmp, 1, 20), (20, .ifCond .le 24, 3, 23), (23, .lload 4, 2, 25), (25, .lload 6, 2, 27), (27, .lrem, 1, 28), (28, .lstore 9, 2, 30), (30, .lload 6, 2, 32), (32, .lstore 4, 2, 34), (34, .lload 9, 2, 36), (36, .lstore 6, 2, 38), (38, .iinc 8 1, 3, 41), (41, .goto (-32), 3, 44), (44, .lconst 1, 1, 45), (45, .lload 4, 2, 47), (47, .invokestatic 291, 3, 50), (50, .lreturn, 1, 51)] := by unfold dcl; decide +kernel
set_option maxRecDepth 20000 in
theorem DX11_cut : dcl mX11_cut.2.1 [(0, .iload_n 2, 1, 1), (1, .tableswitch 47 0 3 #[31, 36, 41, 45], 31, 32), (32, .lload_n 0, 1, 33), (33, .l2i, 1, 34), (34, .i2b, 1, 35), (35, .i2l, 1, 36), (36, .lreturn, 1, 37), (37, .lload_n 0, 1, 38), (38, .l2i, 1, 39), (39, .i2s, 1, 40), (40, .i2l, 1, 41), (41, .lreturn, 1, 42), (42, .lload_n 0, 1, 43), (43, .l2i, 1, 44), (44, .i2l, 1, 45), (45, .lreturn, 1, 46), (46, .lload_n 0, 1, 47), (47, .lreturn, 1, 48), (48, .lload_n 0, 1, 49), (49, .lconst 0, 1, 50), (50, .lcmp, 1, 51), (51, .ifCond .eq 7, 3, 54), (54, .lconst 1, 1, 55), (55, .goto 4, 3, 58), (58, .lconst 0, 1, 59), (59, .lreturn, 1, 60)] := by unfold dcl; decide +kernel
set_option maxRecDepth 20000 in
theorem DX11_made_0 : dcl mX11_made.2.1 [(0, .iload_n 0, 1, 1), (1, .tableswitch 141 1 6 #[39, 56, 73, 90, 107, 124], 39, 40), (40, .new 296, 3, 43), (43, .dup, 1, 44), (44, .iload_n 1, 1, 45), (45, .iload_n 2, 1, 46), (46, .iload_n 3, 1, 47), (47, .iload 4, 2, 49), (49, .iload 5, 2, 51), (51, .iload 6, 2, 53), (53, .invokespecial 298, 3, 56), (56, .areturn, 1, 57), (57, .new 301, 3, 60), (60, .dup, 1, 61), (61, .iload_n 1, 1, 62), (62, .iload_n 2, 1, 63), (63, .iload_n 3, 1, 64), (64, .iload 4, 2, 66), (66, .iload 5, 2, 68), (68, .iload 6, 2, 70), (70, .invokespecial 303, 3, 73), (73, .areturn, 1, 74), (74, .new 304, 3, 77), (77, .dup, 1, 78), (78, .iload_n 1, 1, 79), (79, .iload_n 2, 1, 80), (80, .iload_n 3, 1, 81), (81, .iload 4, 2, 83), (83, .iload 5, 2, 85), (85, .iload 6, 2, 87), (87, .invokespecial 306, 3, 90), (90, .areturn, 1, 91), (91, .new 307, 3, 94), (94, .dup, 1, 95), (95, .iload_n 1, 1, 96), (96, .iload_n 2, 1, 97), (97, .iload_n 3, 1, 98), (98, .iload 4, 2, 100), (100, .iload 5, 2, 102), (102, .iload 6, 2, 104), (104, .invokespecial 309, 3, 107), (107, .areturn, 1, 108), (108, .new 310, 3, 111), (111, .dup, 1, 112), (112, .iload_n 1, 1, 113), (113, .iload_n 2, 1, 114), (114, .iload_n 3, 1, 115), (115, .iload 4, 2, 117), (117, .iload 5, 2, 119), (119, .iload 6, 2, 121), (121, .invokespecial 312, 3, 124), (124, .areturn, 1, 125), (125, .new 313, 3, 128), (128, .dup, 1, 129), (129, .iload_n 1, 1, 130), (130, .iload_n 2, 1, 131), (131, .iload_n 3, 1, 132), (132, .iload 4, 2, 134), (134, .iload 5, 2, 136), (136, .iload 6, 2, 138)] := by unfold dcl; decide +kernel
set_option maxRecDepth 20000 in
theorem DX11_made_1 : dcl mX11_made.2.1 [(138, .invokespecial 315, 3, 141), (141, .areturn, 1, 142), (142, .new 89, 3, 145), (145, .dup, 1, 146), (146, .iload_n 1, 1, 147), (147, .iload_n 2, 1, 148), (148, .iload_n 3, 1, 149), (149, .iload 4, 2, 151), (151, .iload 5, 2, 153), (153, .iload 6, 2, 155), (155, .invokespecial 316, 3, 158), (158, .areturn, 1, 159)] := by unfold dcl; decide +kernel
set_option maxRecDepth 20000 in
theorem DX11_isOfKind : dcl mX11_isOfKind.2.1 [(0, .iload_n 1, 1, 1), (1, .tableswitch 66 0 5 #[39, 41, 46, 51, 56, 61], 39, 40), (40, .iconst 1, 1, 41), (41, .ireturn, 1, 42), (42, .aload_n 0, 1, 43), (43, .instanceof 296, 3, 46), (46, .ireturn, 1, 47), (47, .aload_n 0, 1, 48), (48, .instanceof 301, 3, 51), (51, .ireturn, 1, 52), (52, .aload_n 0, 1, 53), (53, .instanceof 304, 3, 56), (56, .ireturn, 1, 57), (57, .aload_n 0, 1, 58), (58, .instanceof 307, 3, 61), (61, .ireturn, 1, 62), (62, .aload_n 0, 1, 63), (63, .instanceof 310, 3, 66), (66, .ireturn, 1, 67), (67, .aload_n 0, 1, 68), (68, .instanceof 313, 3, 71), (71, .ireturn, 1, 72)] := by unfold dcl; decide +kernel
set_option maxRecDepth 20000 in
theorem DX12_init_0 : dcl mX12_init.2.1 [(0, .aload_n 0, 1, 1), (1, .invokespecial 1, 3, 4), (4, .aload_n 0, 1, 5), (5, .iconst 0, 1, 6), (6, .putfield 7, 3, 9), (9, .aload_n 0, 1, 10), (10, .iconst 0, 1, 11), (11, .putfield 13, 3, 14), (14, .aload_n 0, 1, 15), (15, .iconst 0, 1, 16), (16, .putfield 16, 3, 19), (19, .aload_n 0, 1, 20), (20, .iconst 0, 1, 21), (21, .putfield 19, 3, 24), (24, .aload_n 0, 1, 25), (25, .iconst 0, 1, 26), (26, .putfield 22, 3, 29), (29, .aload_n 0, 1, 30), (30, .iconst 0, 1, 31), (31, .putfield 25, 3, 34), (34, .aload_n 0, 1, 35), (35, .iconst 0, 1, 36), (36, .putfield 28, 3, 39), (39, .aload_n 0, 1, 40), (40, .bipush 10, 2, 42), (42, .newarray .int, 2, 44), (44, .putfield 31, 3, 47), (47, .aload_n 0, 1, 48), (48, .bipush 10, 2, 50), (50, .newarray .int, 2, 52), (52, .putfield 35, 3, 55), (55, .aload_n 0, 1, 56), (56, .bipush 10, 2, 58), (58, .newarray .int, 2, 60), (60, .putfield 38, 3, 63), (63, .aload_n 0, 1, 64), (64, .bipush 10, 2, 66), (66, .newarray .int, 2, 68), (68, .putfield 41, 3, 71), (71, .aload_n 0, 1, 72), (72, .bipush 10, 2, 74), (74, .newarray .int, 2, 76), (76, .putfield 44, 3, 79), (79, .aload_n 0, 1, 80), (80, .bipush 10, 2, 82), (82, .newarray .int, 2, 84), (84, .putfield 47, 3, 87), (87, .aload_n 0, 1, 88), (88, .bipush 10, 2, 90), (90, .newarray .int, 2, 92), (92, .putfield 50, 3, 95), (95, .aload_n 0, 1, 96), (96, .iconst 4, 1, 97), (97, .newarray .int, 2, 99), (99, .putfield 53, 3, 102), (102, .aload_n 0, 1, 103), (103, .iconst 0, 1, 104), (104, .putfield 56, 3, 107), (107, .aload_n 0, 1, 108), (108, .iconst (-1), 1, 109)] := by unfold dcl; decide +kernel
set_option maxRecDepth 20000 in
theorem DX12_init_1 : dcl mX12_init.2.1 [(109, .putfield 59, 3, 112), (112, .aload_n 0, 1, 113), (113, .iconst 0, 1, 114), (114, .putfield 62, 3, 117), (117, .aload_n 0, 1, 118), (118, .iconst 0, 1, 119), (119, .putfield 65, 3, 122), (122, .aload_n 0, 1, 123), (123, .iconst 0, 1, 124), (124, .putfield 68, 3, 127), (127, .aload_n 0, 1, 128), (128, .bipush 100, 2, 130), (130, .newarray .int, 2, 132), (132, .putfield 71, 3, 135), (135, .aload_n 0, 1, 136), (136, .bipush 6, 2, 138), (138, .newarray .int, 2, 140), (140, .putfield 74, 3, 143), (143, .aload_n 0, 1, 144), (144, .bipush 60, 2, 146), (146, .newarray .int, 2, 148), (148, .putfield 77, 3, 151), (151, .aload_n 0, 1, 152), (152, .bipush 60, 2, 154), (154, .newarray .int, 2, 156), (156, .putfield 80, 3, 159), (159, .aload_n 0, 1, 160), (160, .bipush 60, 2, 162), (162, .newarray .int, 2, 164), (164, .putfield 83, 3, 167), (167, .aload_n 0, 1, 168), (168, .bipush 60, 2, 170), (170, .newarray .int, 2, 172), (172, .putfield 86, 3, 175), (175, .aload_n 0, 1, 176), (176, .sipush 600, 3, 179), (179, .newarray .int, 2, 181), (181, .putfield 89, 3, 184), (184, .aload_n 0, 1, 185), (185, .bipush 101, 2, 187), (187, .newarray .int, 2, 189), (189, .putfield 92, 3, 192), (192, .aload_n 0, 1, 193), (193, .iconst 0, 1, 194), (194, .putfield 95, 3, 197), (197, .aload_n 0, 1, 198), (198, .iconst 0, 1, 199), (199, .putfield 98, 3, 202), (202, .aload_n 0, 1, 203), (203, .iconst 0, 1, 204), (204, .putfield 101, 3, 207), (207, .aload_n 0, 1, 208), (208, .bipush 15, 2, 210), (210, .newarray .int, 2, 212), (212, .dup, 1, 213), (213, .iconst 0, 1, 214), (214, .bipush 115, 2, 216), (216, .iastore, 1, 217), (217, .dup, 1, 218), (218, .iconst 1, 1, 219)] := by unfold dcl; decide +kernel
set_option maxRecDepth 20000 in
theorem DX12_init_2 : dcl mX12_init.2.1 [(219, .bipush 97, 2, 221), (221, .iastore, 1, 222), (222, .dup, 1, 223), (223, .iconst 2, 1, 224), (224, .bipush 121, 2, 226), (226, .iastore, 1, 227), (227, .dup, 1, 228), (228, .iconst 3, 1, 229), (229, .bipush 99, 2, 231), (231, .iastore, 1, 232), (232, .dup, 1, 233), (233, .iconst 4, 1, 234), (234, .bipush 111, 2, 236), (236, .iastore, 1, 237), (237, .dup, 1, 238), (238, .iconst 5, 1, 239), (239, .bipush 115, 2, 241), (241, .iastore, 1, 242), (242, .dup, 1, 243), (243, .bipush 6, 2, 245), (245, .bipush 116, 2, 247), (247, .iastore, 1, 248), (248, .dup, 1, 249), (249, .bipush 7, 2, 251), (251, .bipush 99, 2, 253), (253, .iastore, 1, 254), (254, .dup, 1, 255), (255, .bipush 8, 2, 257), (257, .bipush 97, 2, 259), (259, .iastore, 1, 260), (260, .dup, 1, 261), (261, .bipush 9, 2, 263), (263, .bipush 108, 2, 265), (265, .iastore, 1, 266), (266, .dup, 1, 267), (267, .bipush 10, 2, 269), (269, .bipush 108, 2, 271), (271, .iastore, 1, 272), (272, .dup, 1, 273), (273, .bipush 11, 2, 275), (275, .bipush 102, 2, 277), (277, .iastore, 1, 278), (278, .dup, 1, 279), (279, .bipush 12, 2, 281), (281, .bipush 97, 2, 283), (283, .iastore, 1, 284), (284, .dup, 1, 285), (285, .bipush 13, 2, 287), (287, .bipush 100, 2, 289), (289, .iastore, 1, 290), (290, .dup, 1, 291), (291, .bipush 14, 2, 293), (293, .bipush 101, 2, 295), (295, .iastore, 1, 296), (296, .putfield 104, 3, 299), (299, .aload_n 0, 1, 300), (300, .bipush 100, 2, 302), (302, .newarray .boolean, 2, 304), (304, .putfield 107, 3, 307), (307, .aload_n 0, 1, 308)] := by unfold dcl; decide +kernel
set_option maxRecDepth 20000 in
theorem DX12_init_3 : dcl mX12_init.2.1 [(308, .bipush 40, 2, 310), (310, .newarray .int, 2, 312), (312, .putfield 111, 3, 315), (315, .aload_n 0, 1, 316), (316, .iconst 0, 1, 317), (317, .putfield 114, 3, 320), (320, .aload_n 0, 1, 321), (321, .iconst 0, 1, 322), (322, .putfield 117, 3, 325), (325, .aload_n 0, 1, 326), (326, .iconst 0, 1, 327), (327, .putfield 120, 3, 330), (330, .aload_n 0, 1, 331), (331, .iconst 0, 1, 332), (332, .putfield 123, 3, 335), (335, .aload_n 0, 1, 336), (336, .iconst 0, 1, 337), (337, .putfield 126, 3, 340), (340, .aload_n 0, 1, 341), (341, .iconst 0, 1, 342), (342, .putfield 129, 3, 345), (345, .aload_n 0, 1, 346), (346, .iconst 0, 1, 347), (347, .putfield 132, 3, 350), (350, .aload_n 0, 1, 351), (351, .sipush 1000, 3, 354), (354, .newarray .boolean, 2, 356), (356, .putfield 135, 3, 359), (359, .aload_n 0, 1, 360), (360, .iconst 4, 1, 361), (361, .newarray .int, 2, 363), (363, .putfield 138, 3, 366), (366, .aload_n 0, 1, 367), (367, .iconst 4, 1, 368), (368, .newarray .int, 2, 370), (370, .putfield 141, 3, 373), (373, .aload_n 0, 1, 374), (374, .iconst 0, 1, 375), (375, .putfield 144, 3, 378), (378, .aload_n 0, 1, 379), (379, .bipush 12, 2, 381), (381, .newarray .int, 2, 383), (383, .putfield 147, 3, 386), (386, .aload_n 0, 1, 387), (387, .bipush 12, 2, 389), (389, .newarray .int, 2, 391), (391, .putfield 150, 3, 394), (394, .aload_n 0, 1, 395), (395, .iconst 0, 1, 396), (396, .putfield 153, 3, 399), (399, .aload_n 0, 1, 400), (400, .iconst (-1), 1, 401), (401, .putfield 157, 3, 404), (404, .aload_n 0, 1, 405), (405, .iconst 0, 1, 406), (406, .putfield 160, 3, 409), (409, .aload_n 0, 1, 410), (410, .iconst 0, 1, 411), (411, .putfield 163, 3, 414), (414, .aload_n 0, 1, 415)] := by unfold dcl; decide +kernel
set_option maxRecDepth 20000 in
theorem DX12_init_4 : dcl mX12_init.2.1 [(415, .iconst 0, 1, 416), (416, .putfield 166, 3, 419), (419, .aload_n 0, 1, 420), (420, .iconst 0, 1, 421), (421, .putfield 169, 3, 424), (424, .aload_n 0, 1, 425), (425, .iconst 0, 1, 426), (426, .putfield 172, 3, 429), (429, .aload_n 0, 1, 430), (430, .iconst 0, 1, 431), (431, .putfield 175, 3, 434), (434, .aload_n 0, 1, 435), (435, .iconst 0, 1, 436), (436, .putfield 178, 3, 439), (439, .aload_n 0, 1, 440), (440, .iconst 0, 1, 441), (441, .putfield 181, 3, 444), (444, .aload_n 0, 1, 445), (445, .bipush 10, 2, 447), (447, .newarray .int, 2, 449), (449, .putfield 184, 3, 452), (452, .aload_n 0, 1, 453), (453, .bipush 10, 2, 455), (455, .newarray .int, 2, 457), (457, .putfield 187, 3, 460), (460, .aload_n 0, 1, 461), (461, .bipush 10, 2, 463), (463, .newarray .int, 2, 465), (465, .putfield 190, 3, 468), (468, .aload_n 0, 1, 469), (469, .bipush 10, 2, 471), (471, .newarray .int, 2, 473), (473, .putfield 193, 3, 476), (476, .aload_n 0, 1, 477), (477, .bipush 10, 2, 479), (479, .newarray .int, 2, 481), (481, .putfield 196, 3, 484), (484, .aload_n 0, 1, 485), (485, .bipush 10, 2, 487), (487, .newarray .int, 2, 489), (489, .putfield 199, 3, 492), (492, .aload_n 0, 1, 493), (493, .bipush 10, 2, 495), (495, .newarray .int, 2, 497), (497, .putfield 202, 3, 500), (500, .aload_n 0, 1, 501), (501, .iconst 4, 1, 502), (502, .newarray .int, 2, 504), (504, .putfield 205, 3, 507), (507, .aload_n 0, 1, 508), (508, .bipush 12, 2, 510), (510, .newarray .int, 2, 512), (512, .putfield 208, 3, 515), (515, .aload_n 0, 1, 516), (516, .bipush 12, 2, 518), (518, .newarray .int, 2, 520), (520, .putfield 211, 3, 523), (523, .aload_n 0, 1, 524), (524, .iconst 0, 1, 525), (525, .putfield 214, 3, 528)] := by unfold dcl; decide +kernel
set_option maxRecDepth 20000 in
theorem DX12_init_5 : dcl mX12_init.2.1 [(528, .aload_n 0, 1, 529), (529, .bipush 20, 2, 531), (531, .newarray .int, 2, 533), (533, .putfield 217, 3, 536), (536, .aload_n 0, 1, 537), (537, .bipush 6, 2, 539), (539, .newarray .int, 2, 541), (541, .dup, 1, 542), (542, .iconst 0, 1, 543), (543, .iconst (-1), 1, 544), (544, .iastore, 1, 545), (545, .dup, 1, 546), (546, .iconst 1, 1, 547), (547, .iconst (-1), 1, 548), (548, .iastore, 1, 549), (549, .dup, 1, 550), (550, .iconst 2, 1, 551), (551, .iconst (-1), 1, 552), (552, .iastore, 1, 553), (553, .dup, 1, 554), (554, .iconst 3, 1, 555), (555, .iconst (-1), 1, 556), (556, .iastore, 1, 557), (557, .dup, 1, 558), (558, .iconst 4, 1, 559), (559, .iconst (-1), 1, 560), (560, .iastore, 1, 561), (561, .dup, 1, 562), (562, .iconst 5, 1, 563), (563, .iconst (-1), 1, 564), (564, .iastore, 1, 565), (565, .putfield 220, 3, 568), (568, .aload_n 0, 1, 569), (569, .bipush 6, 2, 571), (571, .newarray .int, 2, 573), (573, .putfield 223, 3, 576), (576, .aload_n 0, 1, 577), (577, .sipush 360, 3, 580), (580, .newarray .long, 2, 582), (582, .putfield 226, 3, 585), (585, .aload_n 0, 1, 586), (586, .bipush 60, 2, 588), (588, .newarray .long, 2, 590), (590, .putfield 230, 3, 593), (593, .return_, 1, 594)] := by unfold dcl; decide +kernel
set_option maxRecDepth 20000 in
theorem DX12_in : dcl mX12_in.2.1 [(0, .iload_n 1, 1, 1), (1, .iload_n 2, 1, 2), (2, .if_icmp .lt 12, 3, 5), (5, .iload_n 1, 1, 6), (6, .iload_n 3, 1, 7), (7, .if_icmp .gt 7, 3, 10), (10, .iconst 1, 1, 11), (11, .goto 4, 3, 14), (14, .iconst 0, 1, 15), (15, .ireturn, 1, 16)] := by unfold dcl; decide +kernel
set_option maxRecDepth 20000 in
theorem DX12_has : dcl mX12_has.2.1 [(0, .iload_n 1, 1, 1), (1, .iload_n 2, 1, 2), (2, .ishr, 1, 3), (3, .iconst 1, 1, 4), (4, .iand, 1, 5), (5, .iconst 1, 1, 6), (6, .if_icmp .ne 7, 3, 9), (9, .iconst 1, 1, 10), (10, .goto 4, 3, 13), (13, .iconst 0, 1, 14), (14, .ireturn, 1, 15)] := by unfold dcl; decide +kernel
set_option maxRecDepth 20000 in
theorem DX12_isDoing : dcl mX12_isDoing.2.1 [(0, .aload_n 0, 1, 1), (1, .iload_n 1, 1, 2), (2, .iconst 0, 1, 3), (3, .aload_n 0, 1, 4), (4, .getfield 7, 3, 7), (7, .iconst 1, 1, 8), (8, .isub, 1, 9), (9, .invokevirtual 233, 3, 12), (12, .ireturn, 1, 13)] := by unfold dcl; decide +kernel
set_option maxRecDepth 20000 in
theorem DX12_isWay : dcl mX12_isWay.2.1 [(0, .aload_n 0, 1, 1), (1, .iload_n 1, 1, 2), (2, .iconst 0, 1, 3), (3, .iconst 3, 1, 4), (4, .invokevirtual 233, 3, 7), (7, .ireturn, 1, 8)] := by unfold dcl; decide +kernel
set_option maxRecDepth 20000 in
theorem DX12_with : dcl mX12_with.2.1 [(0, .iload_n 3, 1, 1), (1, .ifCond .eq 11, 3, 4), (4, .iload_n 1, 1, 5), (5, .iconst 1, 1, 6), (6, .iload_n 2, 1, 7), (7, .ishl, 1, 8), (8, .ior, 1, 9), (9, .goto 10, 3, 12), (12, .iload_n 1, 1, 13), (13, .iconst 1, 1, 14), (14, .iload_n 2, 1, 15), (15, .ishl, 1, 16), (16, .iconst (-1), 1, 17), (17, .ixor, 1, 18), (18, .iand, 1, 19), (19, .ireturn, 1, 20)] := by unfold dcl; decide +kernel
set_option maxRecDepth 20000 in
theorem DX12_doing_0 : dcl mX12_doing.2.1 [(0, .aload_n 0, 1, 1), (1, .iload_n 1, 1, 2), (2, .iconst 0, 1, 3), (3, .bipush 6, 2, 5), (5, .invokevirtual 233, 3, 8), (8, .ifCond .ne 5, 3, 11), (11, .iconst (-1), 1, 12), (12, .ireturn, 1, 13), (13, .aload_n 0, 1, 14), (14, .iload_n 2, 1, 15), (15, .iconst 0, 1, 16), (16, .bipush 9, 2, 18), (18, .invokevirtual 233, 3, 21), (21, .ifCond .eq 51, 3, 24), (24, .aload_n 0, 1, 25), (25, .iload_n 3, 1, 26), (26, .iconst 1, 1, 27), (27, .bipush 60, 2, 29), (29, .invokevirtual 233, 3, 32), (32, .ifCond .eq 40, 3, 35), (35, .aload_n 0, 1, 36), (36, .iload 4, 2, 38), (38, .iconst 0, 1, 39), (39, .iload_n 3, 1, 40), (40, .iconst 1, 1, 41), (41, .isub, 1, 42), (42, .invokevirtual 233, 3, 45), (45, .ifCond .eq 27, 3, 48), (48, .aload_n 0, 1, 49), (49, .iload 5, 2, 51), (51, .iconst 0, 1, 52), (52, .bipush 99, 2, 54), (54, .invokevirtual 233, 3, 57), (57, .ifCond .eq 15, 3, 60), (60, .aload_n 0, 1, 61), (61, .iload 6, 2, 63), (63, .iconst 0, 1, 64), (64, .bipush 99, 2, 66), (66, .invokevirtual 233, 3, 69), (69, .ifCond .ne 6, 3, 72), (72, .bipush (-2), 2, 74), (74, .ireturn, 1, 75), (75, .aload_n 0, 1, 76), (76, .getfield 7, 3, 79), (79, .bipush 10, 2, 81), (81, .if_icmp .ne 6, 3, 84), (84, .bipush (-4), 2, 86), (86, .ireturn, 1, 87), (87, .aload_n 0, 1, 88), (88, .getfield 7, 3, 91), (91, .istore 7, 2, 93), (93, .aload_n 0, 1, 94), (94, .getfield 31, 3, 97), (97, .iload 7, 2, 99), (99, .iload_n 1, 1, 100), (100, .iastore, 1, 101), (101, .aload_n 0, 1, 102), (102, .getfield 35, 3, 105), (105, .iload 7, 2, 107), (107, .iload_n 2, 1, 108)] := by unfold dcl; decide +kernel
set_option maxRecDepth 20000 in
theorem DX12_doing_1 : dcl mX12_doing.2.1 [(108, .iastore, 1, 109), (109, .aload_n 0, 1, 110), (110, .getfield 38, 3, 113), (113, .iload 7, 2, 115), (115, .iload_n 3, 1, 116), (116, .iastore, 1, 117), (117, .aload_n 0, 1, 118), (118, .getfield 41, 3, 121), (121, .iload 7, 2, 123), (123, .iload 4, 2, 125), (125, .iastore, 1, 126), (126, .aload_n 0, 1, 127), (127, .getfield 44, 3, 130), (130, .iload 7, 2, 132), (132, .iload 5, 2, 134), (134, .iastore, 1, 135), (135, .aload_n 0, 1, 136), (136, .getfield 47, 3, 139), (139, .iload 7, 2, 141), (141, .iload 6, 2, 143), (143, .iastore, 1, 144), (144, .aload_n 0, 1, 145), (145, .getfield 50, 3, 148), (148, .iload 7, 2, 150), (150, .iconst 5, 1, 151), (151, .iastore, 1, 152), (152, .aload_n 0, 1, 153), (153, .aload_n 0, 1, 154), (154, .aload_n 0, 1, 155), (155, .getfield 25, 3, 158), (158, .iload 7, 2, 160), (160, .iconst 0, 1, 161), (161, .invokevirtual 237, 3, 164), (164, .putfield 25, 3, 167), (167, .aload_n 0, 1, 168), (168, .aload_n 0, 1, 169), (169, .aload_n 0, 1, 170), (170, .getfield 28, 3, 173), (173, .iload 7, 2, 175), (175, .iconst 0, 1, 176), (176, .invokevirtual 237, 3, 179), (179, .putfield 28, 3, 182), (182, .aload_n 0, 1, 183), (183, .dup, 1, 184), (184, .getfield 7, 3, 187), (187, .iconst 1, 1, 188), (188, .iadd, 1, 189), (189, .putfield 7, 3, 192), (192, .iload 7, 2, 194), (194, .ireturn, 1, 195)] := by unfold dcl; decide +kernel
set_option maxRecDepth 20000 in
theorem DX12_needless : dcl mX12_needless.2.1 [(0, .aload_n 0, 1, 1), (1, .iload_n 1, 1, 2), (2, .invokevirtual 241, 3, 5), (5, .ifCond .ne 5, 3, 8), (8, .iconst (-1), 1, 9), (9, .ireturn, 1, 10), (10, .aload_n 0, 1, 11), (11, .aload_n 0, 1, 12), (12, .getfield 28, 3, 15), (15, .iload_n 1, 1, 16), (16, .invokevirtual 245, 3, 19), (19, .ifCond .eq 7, 3, 22), (22, .iconst 1, 1, 23), (23, .goto 4, 3, 26), (26, .iconst 0, 1, 27), (27, .istore_n 3, 1, 28), (28, .aload_n 0, 1, 29), (29, .aload_n 0, 1, 30), (30, .aload_n 0, 1, 31), (31, .getfield 28, 3, 34), (34, .iload_n 1, 1, 35), (35, .iload_n 2, 1, 36), (36, .invokevirtual 237, 3, 39), (39, .putfield 28, 3, 42), (42, .iload_n 3, 1, 43), (43, .ireturn, 1, 44)] := by unfold dcl; decide +kernel
set_option maxRecDepth 20000 in
theorem DX12_learn : dcl mX12_learn.2.1 [(0, .aload_n 0, 1, 1), (1, .iload_n 1, 1, 2), (2, .invokevirtual 241, 3, 5), (5, .ifCond .ne 5, 3, 8), (8, .iconst (-1), 1, 9), (9, .ireturn, 1, 10), (10, .aload_n 0, 1, 11), (11, .aload_n 0, 1, 12), (12, .getfield 25, 3, 15), (15, .iload_n 1, 1, 16), (16, .invokevirtual 245, 3, 19), (19, .ifCond .eq 7, 3, 22), (22, .iconst 1, 1, 23), (23, .goto 4, 3, 26), (26, .iconst 0, 1, 27), (27, .istore_n 3, 1, 28), (28, .aload_n 0, 1, 29), (29, .aload_n 0, 1, 30), (30, .aload_n 0, 1, 31), (31, .getfield 25, 3, 34), (34, .iload_n 1, 1, 35), (35, .iload_n 2, 1, 36), (36, .invokevirtual 237, 3, 39), (39, .putfield 25, 3, 42), (42, .iload_n 3, 1, 43), (43, .ireturn, 1, 44)] := by unfold dcl; decide +kernel
set_option maxRecDepth 20000 in
theorem DX12_odds : dcl mX12_odds.2.1 [(0, .aload_n 0, 1, 1), (1, .iload_n 1, 1, 2), (2, .invokevirtual 241, 3, 5), (5, .ifCond .ne 5, 3, 8), (8, .iconst (-1), 1, 9), (9, .ireturn, 1, 10), (10, .aload_n 0, 1, 11), (11, .iload_n 2, 1, 12), (12, .iconst 0, 1, 13), (13, .bipush 10, 2, 15), (15, .invokevirtual 233, 3, 18), (18, .ifCond .ne 6, 3, 21), (21, .bipush (-2), 2, 23), (23, .ireturn, 1, 24), (24, .aload_n 0, 1, 25), (25, .getfield 50, 3, 28), (28, .iload_n 1, 1, 29), (29, .iaload, 1, 30), (30, .istore_n 3, 1, 31), (31, .aload_n 0, 1, 32), (32, .getfield 50, 3, 35), (35, .iload_n 1, 1, 36), (36, .iload_n 2, 1, 37), (37, .iastore, 1, 38), (38, .iload_n 3, 1, 39), (39, .ireturn, 1, 40)] := by unfold dcl; decide +kernel
set_option maxRecDepth 20000 in
theorem DX12_hours : dcl mX12_hours.2.1 [(0, .aload_n 0, 1, 1), (1, .iload_n 1, 1, 2), (2, .invokevirtual 249, 3, 5), (5, .ifCond .ne 5, 3, 8), (8, .iconst (-1), 1, 9), (9, .ireturn, 1, 10), (10, .aload_n 0, 1, 11), (11, .iload_n 2, 1, 12), (12, .iconst 0, 1, 13), (13, .bipush 9, 2, 15), (15, .invokevirtual 233, 3, 18), (18, .ifCond .ne 6, 3, 21), (21, .bipush (-2), 2, 23), (23, .ireturn, 1, 24), (24, .aload_n 0, 1, 25), (25, .getfield 53, 3, 28), (28, .iload_n 1, 1, 29), (29, .iaload, 1, 30), (30, .istore_n 3, 1, 31), (31, .aload_n 0, 1, 32), (32, .getfield 53, 3, 35), (35, .iload_n 1, 1, 36), (36, .iload_n 2, 1, 37), (37, .iastore, 1, 38), (38, .iload_n 3, 1, 39), (39, .ireturn, 1, 40)] := by unfold dcl; decide +kernel
set_option maxRecDepth 20000 in
theorem DX12_feed : dcl mX12_feed.2.1 [(0, .aload_n 0, 1, 1), (1, .iload_n 1, 1, 2), (2, .iconst 0, 1, 3), (3, .bipush 127, 2, 5), (5, .invokevirtual 233, 3, 8), (8, .ifCond .ne 6, 3, 11), (11, .bipush (-2), 2, 13), (13, .ireturn, 1, 14), (14, .aload_n 0, 1, 15), (15, .getfield 62, 3, 18), (18, .bipush 100, 2, 20), (20, .if_icmp .ne 6, 3, 23), (23, .bipush (-4), 2, 25), (25, .ireturn, 1, 26), (26, .aload_n 0, 1, 27), (27, .getfield 71, 3, 30), (30, .aload_n 0, 1, 31), (31, .getfield 62, 3, 34), (34, .iload_n 1, 1, 35), (35, .iastore, 1, 36), (36, .aload_n 0, 1, 37), (37, .dup, 1, 38), (38, .getfield 62, 3, 41), (41, .iconst 1, 1, 42), (42, .iadd, 1, 43), (43, .putfield 62, 3, 46), (46, .aload_n 0, 1, 47), (47, .getfield 62, 3, 50), (50, .ireturn, 1, 51)] := by unfold dcl; decide +kernel
set_option maxRecDepth 20000 in
theorem DX12_next : dcl mX12_next.2.1 [(0, .aload_n 0, 1, 1), (1, .getfield 65, 3, 4), (4, .aload_n 0, 1, 5), (5, .getfield 62, 3, 8), (8, .if_icmp .ge 15, 3, 11), (11, .aload_n 0, 1, 12), (12, .getfield 71, 3, 15), (15, .aload_n 0, 1, 16), (16, .getfield 65, 3, 19), (19, .iaload, 1, 20), (20, .goto 4, 3, 23), (23, .iconst (-1), 1, 24), (24, .ireturn, 1, 25)] := by unfold dcl; decide +kernel
set_option maxRecDepth 20000 in
theorem DX12_second : dcl mX12_second.2.1 [(0, .aload_n 0, 1, 1), (1, .getfield 65, 3, 4), (4, .iconst 1, 1, 5), (5, .iadd, 1, 6), (6, .aload_n 0, 1, 7), (7, .getfield 62, 3, 10), (10, .if_icmp .ge 17, 3, 13), (13, .aload_n 0, 1, 14), (14, .getfield 71, 3, 17), (17, .aload_n 0, 1, 18), (18, .getfield 65, 3, 21), (21, .iconst 1, 1, 22), (22, .iadd, 1, 23), (23, .iaload, 1, 24), (24, .goto 4, 3, 27), (27, .iconst (-1), 1, 28), (28, .ireturn, 1, 29)] := by unfold dcl; decide +kernel
set_option maxRecDepth 20000 in
theorem DX12_takes : dcl mX12_takes.2.1 [(0, .aload_n 0, 1, 1), (1, .invokevirtual 252, 3, 4), (4, .iload_n 1, 1, 5), (5, .if_icmp .eq 5, 3, 8), (8, .iconst 0, 1, 9), (9, .ireturn, 1, 10), (10, .aload_n 0, 1, 11), (11, .dup, 1, 12), (12, .getfield 65, 3, 15), (15, .iconst 1, 1, 16), (16, .iadd, 1, 17), (17, .putfield 65, 3, 20), (20, .iconst 1, 1, 21), (21, .ireturn, 1, 22)] := by unfold dcl; decide +kernel
set_option maxRecDepth 20000 in
theorem DX12_takesWord : dcl mX12_takesWord.2.1 [(0, .iconst 0, 1, 1), (1, .istore_n 3, 1, 2), (2, .iload_n 3, 1, 3), (3, .iload_n 2, 1, 4), (4, .if_icmp .ge 26, 3, 7), (7, .aload_n 0, 1, 8), (8, .aload_n 0, 1, 9), (9, .getfield 104, 3, 12), (12, .iload_n 1, 1, 13), (13, .iload_n 3, 1, 14), (14, .iadd, 1, 15), (15, .iaload, 1, 16), (16, .invokevirtual 256, 3, 19), (19, .ifCond .ne 5, 3, 22), (22, .iconst 0, 1, 23), (23, .ireturn, 1, 24), (24, .iinc 3 1, 3, 27), (27, .goto (-25), 3, 30), (30, .aload_n 0, 1, 31), (31, .bipush 32, 2, 33), (33, .invokevirtual 256, 3, 36), (36, .ireturn, 1, 37)] := by unfold dcl; decide +kernel
set_option maxRecDepth 20000 in
theorem DX12_isDigit : dcl mX12_isDigit.2.1 [(0, .aload_n 0, 1, 1), (1, .aload_n 0, 1, 2), (2, .invokevirtual 252, 3, 5), (5, .bipush 48, 2, 7), (7, .bipush 57, 2, 9), (9, .invokevirtual 233, 3, 12), (12, .ireturn, 1, 13)] := by unfold dcl; decide +kernel
set_option maxRecDepth 20000 in
theorem DX12_takesNumber : dcl mX12_takesNumber.2.1 [(0, .aload_n 0, 1, 1), (1, .invokevirtual 259, 3, 4), (4, .ifCond .ne 5, 3, 7), (7, .iconst 0, 1, 8), (8, .ireturn, 1, 9), (9, .aload_n 0, 1, 10), (10, .iconst 0, 1, 11), (11, .putfield 68, 3, 14), (14, .iconst 0, 1, 15), (15, .istore_n 1, 1, 16), (16, .iload_n 1, 1, 17), (17, .iconst 2, 1, 18), (18, .if_icmp .ge 45, 3, 21), (21, .aload_n 0, 1, 22), (22, .invokevirtual 259, 3, 25), (25, .ifCond .eq 38, 3, 28), (28, .aload_n 0, 1, 29), (29, .bipush 10, 2, 31), (31, .aload_n 0, 1, 32), (32, .getfield 68, 3, 35), (35, .imul, 1, 36), (36, .aload_n 0, 1, 37), (37, .invokevirtual 252, 3, 40), (40, .iadd, 1, 41), (41, .bipush 48, 2, 43), (43, .isub, 1, 44), (44, .putfield 68, 3, 47), (47, .aload_n 0, 1, 48), (48, .dup, 1, 49), (49, .getfield 65, 3, 52), (52, .iconst 1, 1, 53), (53, .iadd, 1, 54), (54, .putfield 65, 3, 57), (57, .iinc 1 1, 3, 60), (60, .goto (-44), 3, 63), (63, .iconst 1, 1, 64), (64, .ireturn, 1, 65)] := by unfold dcl; decide +kernel
set_option maxRecDepth 20000 in
theorem DX12_put : dcl mX12_put.2.1 [(0, .aload_n 0, 1, 1), (1, .getfield 89, 3, 4), (4, .aload_n 0, 1, 5), (5, .getfield 95, 3, 8), (8, .iload_n 1, 1, 9), (9, .iastore, 1, 10), (10, .aload_n 0, 1, 11), (11, .dup, 1, 12), (12, .getfield 95, 3, 15), (15, .iconst 1, 1, 16), (16, .iadd, 1, 17), (17, .putfield 95, 3, 20), (20, .return_, 1, 21)] := by unfold dcl; decide +kernel
set_option maxRecDepth 20000 in
theorem DX12_whole : dcl mX12_whole.2.1 [(0, .aload_n 0, 1, 1), (1, .getfield 98, 3, 4), (4, .ifCond .le 48, 3, 7), (7, .aload_n 0, 1, 8), (8, .getfield 92, 3, 11), (11, .aload_n 0, 1, 12), (12, .getfield 98, 3, 15), (15, .iconst 1, 1, 16), (16, .isub, 1, 17), (17, .iaload, 1, 18), (18, .bipush 33, 2, 20), (20, .if_icmp .ne 32, 3, 23), (23, .aload_n 0, 1, 24), (24, .bipush (-33), 2, 26), (26, .invokevirtual 263, 3, 29), (29, .aload_n 0, 1, 30), (30, .dup, 1, 31), (31, .getfield 98, 3, 34), (34, .iconst 1, 1, 35), (35, .isub, 1, 36), (36, .putfield 98, 3, 39), (39, .aload_n 0, 1, 40), (40, .dup, 1, 41), (41, .getfield 101, 3, 44), (44, .iconst 1, 1, 45), (45, .isub, 1, 46), (46, .putfield 101, 3, 49), (49, .goto (-49), 3, 52), (52, .return_, 1, 53)] := by unfold dcl; decide +kernel
set_option maxRecDepth 20000 in
theorem DX12_settle : dcl mX12_settle.2.1 [(0, .aload_n 0, 1, 1), (1, .getfield 98, 3, 4), (4, .ifCond .le 68, 3, 7), (7, .aload_n 0, 1, 8), (8, .getfield 92, 3, 11), (11, .aload_n 0, 1, 12), (12, .getfield 98, 3, 15), (15, .iconst 1, 1, 16), (16, .isub, 1, 17), (17, .iaload, 1, 18), (18, .bipush 38, 2, 20), (20, .if_icmp .eq 25, 3, 23), (23, .aload_n 0, 1, 24), (24, .getfield 92, 3, 27), (27, .aload_n 0, 1, 28), (28, .getfield 98, 3, 31), (31, .iconst 1, 1, 32), (32, .isub, 1, 33), (33, .iaload, 1, 34), (34, .bipush 124, 2, 36), (36, .if_icmp .ne 36, 3, 39), (39, .iload_n 1, 1, 40), (40, .bipush 38, 2, 42), (42, .if_icmp .eq 30, 3, 45), (45, .aload_n 0, 1, 46), (46, .dup, 1, 47), (47, .getfield 98, 3, 50), (50, .iconst 1, 1, 51), (51, .isub, 1, 52), (52, .putfield 98, 3, 55), (55, .aload_n 0, 1, 56), (56, .aload_n 0, 1, 57), (57, .getfield 92, 3, 60), (60, .aload_n 0, 1, 61), (61, .getfield 98, 3, 64), (64, .iaload, 1, 65), (65, .ineg, 1, 66), (66, .invokevirtual 263, 3, 69), (69, .goto (-69), 3, 72), (72, .return_, 1, 73)] := by unfold dcl; decide +kernel
set_option maxRecDepth 20000 in
theorem DX12_place : dcl mX12_place.2.1 [(0, .iload_n 1, 1, 1), (1, .tableswitch 122 99 121 #[115, 122, 122, 122, 122, 122, 107, 122, 109, 122, 122, 122, 122, 122, 122, 111, 122, 122, 122, 113, 119, 122, 117], 107, 108), (108, .iconst 0, 1, 109), (109, .ireturn, 1, 110), (110, .iconst 1, 1, 111), (111, .ireturn, 1, 112), (112, .iconst 2, 1, 113), (113, .ireturn, 1, 114), (114, .iconst 3, 1, 115), (115, .ireturn, 1, 116), (116, .iconst 4, 1, 117), (117, .ireturn, 1, 118), (118, .iconst 5, 1, 119), (119, .ireturn, 1, 120), (120, .bipush 6, 2, 122), (122, .ireturn, 1, 123), (123, .iconst (-1), 1, 124), (124, .ireturn, 1, 125)] := by unfold dcl; decide +kernel
set_option maxRecDepth 20000 in
theorem DX12_takesTest : dcl mX12_takesTest.2.1 [(0, .aload_n 0, 1, 1), (1, .aload_n 0, 1, 2), (2, .invokevirtual 252, 3, 5), (5, .invokevirtual 267, 3, 8), (8, .istore_n 1, 1, 9), (9, .iload_n 1, 1, 10), (10, .ifCond .ge 5, 3, 13), (13, .iconst 0, 1, 14), (14, .ireturn, 1, 15), (15, .aload_n 0, 1, 16), (16, .dup, 1, 17), (17, .getfield 65, 3, 20), (20, .iconst 1, 1, 21), (21, .iadd, 1, 22), (22, .putfield 65, 3, 25), (25, .aload_n 0, 1, 26), (26, .invokevirtual 252, 3, 29), (29, .istore_n 2, 1, 30), (30, .aload_n 0, 1, 31), (31, .iload_n 2, 1, 32), (32, .bipush 60, 2, 34), (34, .bipush 62, 2, 36), (36, .invokevirtual 233, 3, 39), (39, .ifCond .ne 5, 3, 42), (42, .iconst 0, 1, 43), (43, .ireturn, 1, 44), (44, .aload_n 0, 1, 45), (45, .dup, 1, 46), (46, .getfield 65, 3, 49), (49, .iconst 1, 1, 50), (50, .iadd, 1, 51), (51, .putfield 65, 3, 54), (54, .aload_n 0, 1, 55), (55, .invokevirtual 270, 3, 58), (58, .ifCond .ne 5, 3, 61), (61, .iconst 0, 1, 62), (62, .ireturn, 1, 63), (63, .aload_n 0, 1, 64), (64, .sipush 1000, 3, 67), (67, .iload_n 1, 1, 68), (68, .imul, 1, 69), (69, .bipush 100, 2, 71), (71, .iload_n 2, 1, 72), (72, .bipush 60, 2, 74), (74, .isub, 1, 75), (75, .imul, 1, 76), (76, .iadd, 1, 77), (77, .aload_n 0, 1, 78), (78, .getfield 68, 3, 81), (81, .iadd, 1, 82), (82, .invokevirtual 263, 3, 85), (85, .aload_n 0, 1, 86), (86, .invokevirtual 273, 3, 89), (89, .iconst 1, 1, 90), (90, .ireturn, 1, 91)] := by unfold dcl; decide +kernel
set_option maxRecDepth 20000 in
theorem DX12_takesE_0 : dcl mX12_takesE.2.1 [(0, .aload_n 0, 1, 1), (1, .iconst 0, 1, 2), (2, .putfield 98, 3, 5), (5, .aload_n 0, 1, 6), (6, .iconst 0, 1, 7), (7, .putfield 101, 3, 10), (10, .aload_n 0, 1, 11), (11, .getfield 83, 3, 14), (14, .iload_n 1, 1, 15), (15, .aload_n 0, 1, 16), (16, .getfield 95, 3, 19), (19, .iastore, 1, 20), (20, .iconst 1, 1, 21), (21, .istore_n 2, 1, 22), (22, .aload_n 0, 1, 23), (23, .invokevirtual 252, 3, 26), (26, .istore_n 3, 1, 27), (27, .iload_n 2, 1, 28), (28, .ifCond .eq 82, 3, 31), (31, .iload_n 3, 1, 32), (32, .bipush 33, 2, 34), (34, .if_icmp .eq 9, 3, 37), (37, .iload_n 3, 1, 38), (38, .bipush 40, 2, 40), (40, .if_icmp .ne 56, 3, 43), (43, .aload_n 0, 1, 44), (44, .getfield 101, 3, 47), (47, .iconst 4, 1, 48), (48, .if_icmp .ne 5, 3, 51), (51, .iconst 0, 1, 52), (52, .ireturn, 1, 53), (53, .aload_n 0, 1, 54), (54, .dup, 1, 55), (55, .getfield 101, 3, 58), (58, .iconst 1, 1, 59), (59, .iadd, 1, 60), (60, .putfield 101, 3, 63), (63, .aload_n 0, 1, 64), (64, .getfield 92, 3, 67), (67, .aload_n 0, 1, 68), (68, .getfield 98, 3, 71), (71, .iload_n 3, 1, 72), (72, .iastore, 1, 73), (73, .aload_n 0, 1, 74), (74, .dup, 1, 75), (75, .getfield 98, 3, 78), (78, .iconst 1, 1, 79), (79, .iadd, 1, 80), (80, .putfield 98, 3, 83), (83, .aload_n 0, 1, 84), (84, .dup, 1, 85), (85, .getfield 65, 3, 88), (88, .iconst 1, 1, 89), (89, .iadd, 1, 90), (90, .putfield 65, 3, 93), (93, .goto (-71), 3, 96), (96, .aload_n 0, 1, 97), (97, .invokevirtual 276, 3, 100), (100, .ifCond .eq 8, 3, 103), (103, .iconst 0, 1, 104)] := by unfold dcl; decide +kernel
set_option maxRecDepth 20000 in
theorem DX12_takesE_1 : dcl mX12_takesE.2.1 [(104, .istore_n 2, 1, 105), (105, .goto (-83), 3, 108), (108, .iconst 0, 1, 109), (109, .ireturn, 1, 110), (110, .iload_n 3, 1, 111), (111, .bipush 38, 2, 113), (113, .if_icmp .eq 9, 3, 116), (116, .iload_n 3, 1, 117), (117, .bipush 124, 2, 119), (119, .if_icmp .ne 43, 3, 122), (122, .aload_n 0, 1, 123), (123, .iload_n 3, 1, 124), (124, .invokevirtual 279, 3, 127), (127, .aload_n 0, 1, 128), (128, .getfield 92, 3, 131), (131, .aload_n 0, 1, 132), (132, .getfield 98, 3, 135), (135, .iload_n 3, 1, 136), (136, .iastore, 1, 137), (137, .aload_n 0, 1, 138), (138, .dup, 1, 139), (139, .getfield 98, 3, 142), (142, .iconst 1, 1, 143), (143, .iadd, 1, 144), (144, .putfield 98, 3, 147), (147, .iconst 1, 1, 148), (148, .istore_n 2, 1, 149), (149, .aload_n 0, 1, 150), (150, .dup, 1, 151), (151, .getfield 65, 3, 154), (154, .iconst 1, 1, 155), (155, .iadd, 1, 156), (156, .putfield 65, 3, 159), (159, .goto (-137), 3, 162), (162, .aload_n 0, 1, 163), (163, .bipush 124, 2, 165), (165, .invokevirtual 279, 3, 168), (168, .aload_n 0, 1, 169), (169, .getfield 86, 3, 172), (172, .iload_n 1, 1, 173), (173, .aload_n 0, 1, 174), (174, .getfield 95, 3, 177), (177, .iastore, 1, 178), (178, .aload_n 0, 1, 179), (179, .getfield 98, 3, 182), (182, .ifCond .ne 5, 3, 185), (185, .iconst 1, 1, 186), (186, .ireturn, 1, 187), (187, .iload_n 3, 1, 188), (188, .bipush 41, 2, 190), (190, .if_icmp .eq 5, 3, 193), (193, .iconst 0, 1, 194), (194, .ireturn, 1, 195), (195, .aload_n 0, 1, 196), (196, .dup, 1, 197), (197, .getfield 98, 3, 200), (200, .iconst 1, 1, 201), (201, .isub, 1, 202), (202, .putfield 98, 3, 205), (205, .aload_n 0, 1, 206)] := by unfold dcl; decide +kernel
set_option maxRecDepth 20000 in
theorem DX12_takesE_2 : dcl mX12_takesE.2.1 [(206, .dup, 1, 207), (207, .getfield 101, 3, 210), (210, .iconst 1, 1, 211), (211, .isub, 1, 212), (212, .putfield 101, 3, 215), (215, .aload_n 0, 1, 216), (216, .dup, 1, 217), (217, .getfield 65, 3, 220), (220, .iconst 1, 1, 221), (221, .iadd, 1, 222), (222, .putfield 65, 3, 225), (225, .aload_n 0, 1, 226), (226, .invokevirtual 273, 3, 229), (229, .goto (-207), 3, 232)] := by unfold dcl; decide +kernel
set_option maxRecDepth 20000 in
theorem DX12_takesHead : dcl mX12_takesHead.2.1 [(0, .aload_n 0, 1, 1), (1, .invokevirtual 282, 3, 4), (4, .istore_n 2, 1, 5), (5, .aload_n 0, 1, 6), (6, .invokevirtual 252, 3, 9), (9, .lookupswitch 81 #[(99, 41), (115, 27)], 27, 36), (36, .aload_n 0, 1, 37), (37, .getfield 77, 3, 40), (40, .iload_n 1, 1, 41), (41, .iconst 0, 1, 42), (42, .iastore, 1, 43), (43, .aload_n 0, 1, 44), (44, .iconst 0, 1, 45), (45, .iconst 3, 1, 46), (46, .invokevirtual 285, 3, 49), (49, .ireturn, 1, 50), (50, .aload_n 0, 1, 51), (51, .getfield 77, 3, 54), (54, .iload_n 1, 1, 55), (55, .iload_n 2, 1, 56), (56, .bipush 97, 2, 58), (58, .if_icmp .ne 7, 3, 61), (61, .iconst 2, 1, 62), (62, .goto 4, 3, 65), (65, .iconst 1, 1, 66), (66, .iastore, 1, 67), (67, .iload_n 2, 1, 68), (68, .bipush 97, 2, 70), (70, .if_icmp .ne 13, 3, 73), (73, .aload_n 0, 1, 74), (74, .bipush 7, 2, 76), (76, .iconst 4, 1, 77), (77, .invokevirtual 285, 3, 80), (80, .goto 9, 3, 83), (83, .aload_n 0, 1, 84), (84, .iconst 3, 1, 85), (85, .iconst 4, 1, 86), (86, .invokevirtual 285, 3, 89), (89, .ireturn, 1, 90), (90, .aload_n 0, 1, 91), (91, .getfield 77, 3, 94), (94, .iload_n 1, 1, 95), (95, .iconst 3, 1, 96), (96, .iastore, 1, 97), (97, .aload_n 0, 1, 98), (98, .bipush 11, 2, 100), (100, .iconst 4, 1, 101), (101, .invokevirtual 285, 3, 104), (104, .ireturn, 1, 105)] := by unfold dcl; decide +kernel
set_option maxRecDepth 20000 in
theorem DX12_takesClause : dcl mX12_takesClause.2.1 [(0, .aload_n 0, 1, 1), (1, .iload_n 1, 1, 2), (2, .invokevirtual 288, 3, 5), (5, .ifCond .eq 10, 3, 8), (8, .aload_n 0, 1, 9), (9, .invokevirtual 270, 3, 12), (12, .ifCond .ne 5, 3, 15), (15, .iconst 0, 1, 16), (16, .ireturn, 1, 17), (17, .aload_n 0, 1, 18), (18, .getfield 80, 3, 21), (21, .iload_n 1, 1, 22), (22, .aload_n 0, 1, 23), (23, .getfield 68, 3, 26), (26, .iastore, 1, 27), (27, .aload_n 0, 1, 28), (28, .getfield 77, 3, 31), (31, .iload_n 1, 1, 32), (32, .iaload, 1, 33), (33, .iconst 1, 1, 34), (34, .if_icmp .gt 20, 3, 37), (37, .aload_n 0, 1, 38), (38, .bipush 32, 2, 40), (40, .invokevirtual 256, 3, 43), (43, .ifCond .eq 15, 3, 46), (46, .aload_n 0, 1, 47), (47, .iload_n 1, 1, 48), (48, .invokevirtual 291, 3, 51), (51, .ifCond .eq 7, 3, 54), (54, .iconst 1, 1, 55), (55, .goto 4, 3, 58), (58, .iconst 0, 1, 59), (59, .ireturn, 1, 60)] := by unfold dcl; decide +kernel
set_option maxRecDepth 20000 in
theorem DX12_goesText : dcl mX12_goesText.2.1 [(0, .aload_n 0, 1, 1), (1, .iconst 0, 1, 2), (2, .putfield 65, 3, 5), (5, .aload_n 0, 1, 6), (6, .bipush 100, 2, 8), (8, .iload_n 1, 1, 9), (9, .imul, 1, 10), (10, .putfield 95, 3, 13), (13, .iconst 0, 1, 14), (14, .istore_n 2, 1, 15), (15, .aload_n 0, 1, 16), (16, .bipush 10, 2, 18), (18, .iload_n 1, 1, 19), (19, .imul, 1, 20), (20, .iload_n 2, 1, 21), (21, .iadd, 1, 22), (22, .invokevirtual 294, 3, 25), (25, .ifCond .ne 5, 3, 28), (28, .iconst 0, 1, 29), (29, .ireturn, 1, 30), (30, .iinc 2 1, 3, 33), (33, .aload_n 0, 1, 34), (34, .getfield 74, 3, 37), (37, .iload_n 1, 1, 38), (38, .iload_n 2, 1, 39), (39, .iastore, 1, 40), (40, .aload_n 0, 1, 41), (41, .getfield 65, 3, 44), (44, .aload_n 0, 1, 45), (45, .getfield 62, 3, 48), (48, .if_icmp .ne 5, 3, 51), (51, .iconst 1, 1, 52), (52, .ireturn, 1, 53), (53, .iload_n 2, 1, 54), (54, .bipush 10, 2, 56), (56, .if_icmp .eq 12, 3, 59), (59, .aload_n 0, 1, 60), (60, .bipush 59, 2, 62), (62, .invokevirtual 256, 3, 65), (65, .ifCond .ne (-50), 3, 68), (68, .iconst 0, 1, 69), (69, .ireturn, 1, 70)] := by unfold dcl; decide +kernel
set_option maxRecDepth 20000 in
theorem DX12_post : dcl mX12_post.2.1 [(0, .aload_n 0, 1, 1), (1, .getfield 56, 3, 4), (4, .bipush 6, 2, 6), (6, .if_icmp .ne 6, 3, 9), (9, .bipush (-4), 2, 11), (11, .ireturn, 1, 12), (12, .aload_n 0, 1, 13), (13, .aload_n 0, 1, 14), (14, .getfield 56, 3, 17), (17, .invokevirtual 297, 3, 20), (20, .istore_n 1, 1, 21), (21, .aload_n 0, 1, 22), (22, .iconst 0, 1, 23), (23, .putfield 62, 3, 26), (26, .iload_n 1, 1, 27), (27, .ifCond .ne 11, 3, 30), (30, .bipush (-10), 2, 32), (32, .aload_n 0, 1, 33), (33, .getfield 65, 3, 36), (36, .isub, 1, 37), (37, .ireturn, 1, 38), (38, .aload_n 0, 1, 39), (39, .aload_n 0, 1, 40), (40, .getfield 56, 3, 43), (43, .putfield 59, 3, 46), (46, .aload_n 0, 1, 47), (47, .dup, 1, 48), (48, .getfield 56, 3, 51), (51, .iconst 1, 1, 52), (52, .iadd, 1, 53), (53, .putfield 56, 3, 56), (56, .aload_n 0, 1, 57), (57, .getfield 59, 3, 60), (60, .ireturn, 1, 61)] := by unfold dcl; decide +kernel
set_option maxRecDepth 20000 in
theorem DX12_begin : dcl mX12_begin.2.1 [(0, .aload_n 0, 1, 1), (1, .getfield 59, 3, 4), (4, .ifCond .ge 7, 3, 7), (7, .iconst 0, 1, 8), (8, .goto 10, 3, 11), (11, .bipush 10, 2, 13), (13, .aload_n 0, 1, 14), (14, .getfield 59, 3, 17), (17, .imul, 1, 18), (18, .ireturn, 1, 19)] := by unfold dcl; decide +kernel
set_option maxRecDepth 20000 in
theorem DX12_behind : dcl mX12_behind.2.1 [(0, .aload_n 0, 1, 1), (1, .getfield 59, 3, 4), (4, .ifCond .ge 7, 3, 7), (7, .iconst 0, 1, 8), (8, .goto 20, 3, 11), (11, .bipush 10, 2, 13), (13, .aload_n 0, 1, 14), (14, .getfield 59, 3, 17), (17, .imul, 1, 18), (18, .aload_n 0, 1, 19), (19, .getfield 74, 3, 22), (22, .aload_n 0, 1, 23), (23, .getfield 59, 3, 26), (26, .iaload, 1, 27), (27, .iadd, 1, 28), (28, .ireturn, 1, 29)] := by unfold dcl; decide +kernel
set_option maxRecDepth 20000 in
theorem DX12_lastOf : dcl mX12_lastOf.2.1 [(0, .iload_n 2, 1, 1), (1, .istore_n 3, 1, 2), (2, .aload_n 0, 1, 3), (3, .invokevirtual 300, 3, 6), (6, .istore 4, 2, 8), (8, .iload 4, 2, 10), (10, .aload_n 0, 1, 11), (11, .invokevirtual 303, 3, 14), (14, .if_icmp .ge 32, 3, 17), (17, .aload_n 0, 1, 18), (18, .getfield 77, 3, 21), (21, .iload 4, 2, 23), (23, .iaload, 1, 24), (24, .iload_n 1, 1, 25), (25, .if_icmp .ne 13, 3, 28), (28, .aload_n 0, 1, 29), (29, .getfield 80, 3, 32), (32, .iload 4, 2, 34), (34, .iaload, 1, 35), (35, .goto 4, 3, 38), (38, .iload_n 3, 1, 39), (39, .istore_n 3, 1, 40), (40, .iinc 4 1, 3, 43), (43, .goto (-35), 3, 46), (46, .iload_n 3, 1, 47), (47, .ireturn, 1, 48)] := by unfold dcl; decide +kernel
set_option maxRecDepth 20000 in
theorem DX12_factOf : dcl mX12_factOf.2.1 [(0, .iload_n 1, 1, 1), (1, .tableswitch 74 0 5 #[39, 41, 48, 55, 62, 72], 39, 40), (40, .iload_n 2, 1, 41), (41, .ireturn, 1, 42), (42, .aload_n 0, 1, 43), (43, .getfield 31, 3, 46), (46, .iload_n 2, 1, 47), (47, .iaload, 1, 48), (48, .ireturn, 1, 49), (49, .aload_n 0, 1, 50), (50, .getfield 38, 3, 53), (53, .iload_n 2, 1, 54), (54, .iaload, 1, 55), (55, .ireturn, 1, 56), (56, .aload_n 0, 1, 57), (57, .getfield 35, 3, 60), (60, .iload_n 2, 1, 61), (61, .iaload, 1, 62), (62, .ireturn, 1, 63), (63, .aload_n 0, 1, 64), (64, .getfield 44, 3, 67), (67, .iload_n 2, 1, 68), (68, .iaload, 1, 69), (69, .bipush 10, 2, 71), (71, .idiv, 1, 72), (72, .ireturn, 1, 73), (73, .iload_n 3, 1, 74), (74, .ireturn, 1, 75), (75, .iload 4, 2, 77), (77, .ireturn, 1, 78)] := by unfold dcl; decide +kernel
set_option maxRecDepth 20000 in
theorem DX12_holds_0 : dcl mX12_holds.2.1 [(0, .iconst 0, 1, 1), (1, .istore 5, 2, 3), (3, .aload_n 0, 1, 4), (4, .getfield 83, 3, 7), (7, .iload_n 1, 1, 8), (8, .iaload, 1, 9), (9, .istore 6, 2, 11), (11, .iload 6, 2, 13), (13, .aload_n 0, 1, 14), (14, .getfield 86, 3, 17), (17, .iload_n 1, 1, 18), (18, .iaload, 1, 19), (19, .if_icmp .ge 236, 3, 22), (22, .aload_n 0, 1, 23), (23, .getfield 89, 3, 26), (26, .iload 6, 2, 28), (28, .iaload, 1, 29), (29, .istore 7, 2, 31), (31, .iload 7, 2, 33), (33, .bipush (-33), 2, 35), (35, .if_icmp .ne 32, 3, 38), (38, .aload_n 0, 1, 39), (39, .getfield 107, 3, 42), (42, .iload 5, 2, 44), (44, .iconst 1, 1, 45), (45, .isub, 1, 46), (46, .aload_n 0, 1, 47), (47, .getfield 107, 3, 50), (50, .iload 5, 2, 52), (52, .iconst 1, 1, 53), (53, .isub, 1, 54), (54, .baload, 1, 55), (55, .ifCond .ne 7, 3, 58), (58, .iconst 1, 1, 59), (59, .goto 4, 3, 62), (62, .iconst 0, 1, 63), (63, .bastore, 1, 64), (64, .goto 185, 3, 67), (67, .iload 7, 2, 69), (69, .ifCond .ge 82, 3, 72), (72, .iinc 5 (-1), 3, 75), (75, .aload_n 0, 1, 76), (76, .getfield 107, 3, 79), (79, .iload 5, 2, 81), (81, .iconst 1, 1, 82), (82, .isub, 1, 83), (83, .iload 7, 2, 85), (85, .bipush (-38), 2, 87), (87, .if_icmp .ne 33, 3, 90), (90, .aload_n 0, 1, 91), (91, .getfield 107, 3, 94), (94, .iload 5, 2, 96), (96, .iconst 1, 1, 97), (97, .isub, 1, 98), (98, .baload, 1, 99), (99, .ifCond .eq 17, 3, 102), (102, .aload_n 0, 1, 103), (103, .getfield 107, 3, 106), (106, .iload 5, 2, 108), (108, .baload, 1, 109)] := by unfold dcl; decide +kernel
set_option maxRecDepth 20000 in
theorem DX12_holds_1 : dcl mX12_holds.2.1 [(109, .ifCond .eq 7, 3, 112), (112, .iconst 1, 1, 113), (113, .goto 34, 3, 116), (116, .iconst 0, 1, 117), (117, .goto 30, 3, 120), (120, .aload_n 0, 1, 121), (121, .getfield 107, 3, 124), (124, .iload 5, 2, 126), (126, .iconst 1, 1, 127), (127, .isub, 1, 128), (128, .baload, 1, 129), (129, .ifCond .ne 13, 3, 132), (132, .aload_n 0, 1, 133), (133, .getfield 107, 3, 136), (136, .iload 5, 2, 138), (138, .baload, 1, 139), (139, .ifCond .eq 7, 3, 142), (142, .iconst 1, 1, 143), (143, .goto 4, 3, 146), (146, .iconst 0, 1, 147), (147, .bastore, 1, 148), (148, .goto 101, 3, 151), (151, .aload_n 0, 1, 152), (152, .iload 7, 2, 154), (154, .sipush 1000, 3, 157), (157, .idiv, 1, 158), (158, .iload_n 2, 1, 159), (159, .iload_n 3, 1, 160), (160, .iload 4, 2, 162), (162, .invokevirtual 306, 3, 165), (165, .istore 8, 2, 167), (167, .iload 7, 2, 169), (169, .bipush 100, 2, 171), (171, .idiv, 1, 172), (172, .bipush 10, 2, 174), (174, .irem, 1, 175), (175, .istore 9, 2, 177), (177, .aload_n 0, 1, 178), (178, .getfield 107, 3, 181), (181, .iload 5, 2, 183), (183, .iload 9, 2, 185), (185, .ifCond .ne 21, 3, 188), (188, .iload 8, 2, 190), (190, .iload 7, 2, 192), (192, .bipush 100, 2, 194), (194, .irem, 1, 195), (195, .if_icmp .ge 7, 3, 198), (198, .iconst 1, 1, 199), (199, .goto 46, 3, 202), (202, .iconst 0, 1, 203), (203, .goto 42, 3, 206), (206, .iload 9, 2, 208), (208, .iconst 1, 1, 209), (209, .if_icmp .ne 21, 3, 212), (212, .iload 8, 2, 214), (214, .iload 7, 2, 216), (216, .bipush 100, 2, 218), (218, .irem, 1, 219), (219, .if_icmp .ne 7, 3, 222), (222, .iconst 1, 1, 223)] := by unfold dcl; decide +kernel
set_option maxRecDepth 20000 in
theorem DX12_holds_2 : dcl mX12_holds.2.1 [(223, .goto 22, 3, 226), (226, .iconst 0, 1, 227), (227, .goto 18, 3, 230), (230, .iload 8, 2, 232), (232, .iload 7, 2, 234), (234, .bipush 100, 2, 236), (236, .irem, 1, 237), (237, .if_icmp .le 7, 3, 240), (240, .iconst 1, 1, 241), (241, .goto 4, 3, 244), (244, .iconst 0, 1, 245), (245, .bastore, 1, 246), (246, .iinc 5 1, 3, 249), (249, .iinc 6 1, 3, 252), (252, .goto (-241), 3, 255), (255, .aload_n 0, 1, 256), (256, .getfield 107, 3, 259), (259, .iconst 0, 1, 260), (260, .baload, 1, 261), (261, .ireturn, 1, 262)] := by unfold dcl; decide +kernel
set_option maxRecDepth 20000 in
theorem DX12_sumOf : dcl mX12_sumOf.2.1 [(0, .iconst 0, 1, 1), (1, .istore 5, 2, 3), (3, .aload_n 0, 1, 4), (4, .invokevirtual 300, 3, 7), (7, .istore 6, 2, 9), (9, .iload 6, 2, 11), (11, .aload_n 0, 1, 12), (12, .invokevirtual 303, 3, 15), (15, .if_icmp .ge 49, 3, 18), (18, .iload 5, 2, 20), (20, .aload_n 0, 1, 21), (21, .getfield 77, 3, 24), (24, .iload 6, 2, 26), (26, .iaload, 1, 27), (27, .iload_n 1, 1, 28), (28, .if_icmp .ne 26, 3, 31), (31, .aload_n 0, 1, 32), (32, .iload 6, 2, 34), (34, .iload_n 2, 1, 35), (35, .iload_n 3, 1, 36), (36, .iload 4, 2, 38), (38, .invokevirtual 310, 3, 41), (41, .ifCond .eq 13, 3, 44), (44, .aload_n 0, 1, 45), (45, .getfield 80, 3, 48), (48, .iload 6, 2, 50), (50, .iaload, 1, 51), (51, .goto 4, 3, 54), (54, .iconst 0, 1, 55), (55, .iadd, 1, 56), (56, .istore 5, 2, 58), (58, .iinc 6 1, 3, 61), (61, .goto (-52), 3, 64), (64, .iload 5, 2, 66), (66, .ireturn, 1, 67)] := by unfold dcl; decide +kernel
set_option maxRecDepth 20000 in
theorem DX12_dear : dcl mX12_dear.2.1 [(0, .aload_n 0, 1, 1), (1, .getfield 44, 3, 4), (4, .iload_n 1, 1, 5), (5, .iaload, 1, 6), (6, .aload_n 0, 1, 7), (7, .iconst 1, 1, 8), (8, .iload_n 1, 1, 9), (9, .bipush 9, 2, 11), (11, .iload_n 2, 1, 12), (12, .bipush 60, 2, 14), (14, .irem, 1, 15), (15, .invokevirtual 314, 3, 18), (18, .iadd, 1, 19), (19, .ireturn, 1, 20)] := by unfold dcl; decide +kernel
set_option maxRecDepth 20000 in
theorem DX12_laySaid : dcl mX12_laySaid.2.1 [(0, .iconst 0, 1, 1), (1, .istore_n 1, 1, 2), (2, .iload_n 1, 1, 3), (3, .aload_n 0, 1, 4), (4, .getfield 7, 3, 7), (7, .if_icmp .ge 40, 3, 10), (10, .iconst 0, 1, 11), (11, .istore_n 2, 1, 12), (12, .iload_n 2, 1, 13), (13, .iconst 4, 1, 14), (14, .if_icmp .ge 27, 3, 17), (17, .aload_n 0, 1, 18), (18, .getfield 111, 3, 21), (21, .iconst 4, 1, 22), (22, .iload_n 1, 1, 23), (23, .imul, 1, 24), (24, .iload_n 2, 1, 25), (25, .iadd, 1, 26), (26, .aload_n 0, 1, 27), (27, .iconst 0, 1, 28), (28, .iload_n 1, 1, 29), (29, .iload_n 2, 1, 30), (30, .iconst 0, 1, 31), (31, .invokevirtual 314, 3, 34), (34, .iastore, 1, 35), (35, .iinc 2 1, 3, 38), (38, .goto (-26), 3, 41), (41, .iinc 1 1, 3, 44), (44, .goto (-42), 3, 47), (47, .return_, 1, 48)] := by unfold dcl; decide +kernel
set_option maxRecDepth 20000 in
theorem DX12_saidAll : dcl mX12_saidAll.2.1 [(0, .iconst 0, 1, 1), (1, .istore_n 3, 1, 2), (2, .iload_n 2, 1, 3), (3, .istore 4, 2, 5), (5, .iload 4, 2, 7), (7, .iconst 4, 1, 8), (8, .if_icmp .ge 31, 3, 11), (11, .iload_n 3, 1, 12), (12, .aload_n 0, 1, 13), (13, .getfield 53, 3, 16), (16, .iload 4, 2, 18), (18, .iaload, 1, 19), (19, .aload_n 0, 1, 20), (20, .getfield 111, 3, 23), (23, .iconst 4, 1, 24), (24, .iload_n 1, 1, 25), (25, .imul, 1, 26), (26, .iload 4, 2, 28), (28, .iadd, 1, 29), (29, .iaload, 1, 30), (30, .imul, 1, 31), (31, .iadd, 1, 32), (32, .istore_n 3, 1, 33), (33, .iinc 4 1, 3, 36), (36, .goto (-31), 3, 39), (39, .iload_n 3, 1, 40), (40, .ireturn, 1, 41)] := by unfold dcl; decide +kernel
set_option maxRecDepth 20000 in
theorem DX12_saidOf_0 : dcl mX12_saidOf.2.1 [(0, .aload_n 0, 1, 1), (1, .getfield 35, 3, 4), (4, .iload_n 1, 1, 5), (5, .iaload, 1, 6), (6, .istore_n 2, 1, 7), (7, .aload_n 0, 1, 8), (8, .getfield 31, 3, 11), (11, .iload_n 1, 1, 12), (12, .iaload, 1, 13), (13, .tableswitch 153 1 6 #[39, 86, 111, 55, 93, 131], 39, 52), (52, .aload_n 0, 1, 53), (53, .iload_n 1, 1, 54), (54, .iconst 0, 1, 55), (55, .invokevirtual 317, 3, 58), (58, .iload_n 2, 1, 59), (59, .aload_n 0, 1, 60), (60, .getfield 53, 3, 63), (63, .iconst 0, 1, 64), (64, .iaload, 1, 65), (65, .imul, 1, 66), (66, .iadd, 1, 67), (67, .ireturn, 1, 68), (68, .aload_n 0, 1, 69), (69, .iload_n 1, 1, 70), (70, .iconst 0, 1, 71), (71, .invokevirtual 317, 3, 74), (74, .iload_n 2, 1, 75), (75, .aload_n 0, 1, 76), (76, .getfield 53, 3, 79), (79, .iconst 0, 1, 80), (80, .iaload, 1, 81), (81, .imul, 1, 82), (82, .iadd, 1, 83), (83, .aload_n 0, 1, 84), (84, .getfield 53, 3, 87), (87, .iconst 2, 1, 88), (88, .iaload, 1, 89), (89, .ifCond .le 7, 3, 92), (92, .iload_n 2, 1, 93), (93, .goto 4, 3, 96), (96, .iconst 0, 1, 97), (97, .iadd, 1, 98), (98, .ireturn, 1, 99), (99, .aload_n 0, 1, 100), (100, .iload_n 1, 1, 101), (101, .iconst 2, 1, 102), (102, .invokevirtual 317, 3, 105), (105, .ireturn, 1, 106), (106, .aload_n 0, 1, 107), (107, .iload_n 1, 1, 108), (108, .iconst 2, 1, 109), (109, .invokevirtual 317, 3, 112), (112, .iconst 2, 1, 113), (113, .iload_n 2, 1, 114), (114, .imul, 1, 115), (115, .aload_n 0, 1, 116), (116, .getfield 53, 3, 119), (119, .iconst 1, 1, 120), (120, .iaload, 1, 121), (121, .imul, 1, 122)] := by unfold dcl; decide +kernel
set_option maxRecDepth 20000 in
theorem DX12_saidOf_1 : dcl mX12_saidOf.2.1 [(122, .iadd, 1, 123), (123, .ireturn, 1, 124), (124, .aload_n 0, 1, 125), (125, .getfield 53, 3, 128), (128, .iconst 3, 1, 129), (129, .iaload, 1, 130), (130, .ifCond .ne 7, 3, 133), (133, .iconst 0, 1, 134), (134, .goto 9, 3, 137), (137, .aload_n 0, 1, 138), (138, .iload_n 1, 1, 139), (139, .iconst 0, 1, 140), (140, .invokevirtual 317, 3, 143), (143, .ireturn, 1, 144), (144, .aload_n 0, 1, 145), (145, .getfield 53, 3, 148), (148, .iconst 3, 1, 149), (149, .iaload, 1, 150), (150, .ifCond .ne 7, 3, 153), (153, .iconst 0, 1, 154), (154, .goto 9, 3, 157), (157, .aload_n 0, 1, 158), (158, .iload_n 1, 1, 159), (159, .iconst 0, 1, 160), (160, .invokevirtual 317, 3, 163), (163, .iload_n 2, 1, 164), (164, .isub, 1, 165), (165, .ireturn, 1, 166), (166, .aload_n 0, 1, 167), (167, .iload_n 1, 1, 168), (168, .iconst 0, 1, 169), (169, .invokevirtual 317, 3, 172), (172, .ireturn, 1, 173)] := by unfold dcl; decide +kernel
set_option maxRecDepth 20000 in
theorem DX12_over : dcl mX12_over.2.1 [(0, .iconst 0, 1, 1), (1, .istore_n 1, 1, 2), (2, .iconst 0, 1, 3), (3, .istore_n 2, 1, 4), (4, .iload_n 2, 1, 5), (5, .aload_n 0, 1, 6), (6, .getfield 7, 3, 9), (9, .if_icmp .ge 33, 3, 12), (12, .iload_n 1, 1, 13), (13, .aload_n 0, 1, 14), (14, .iload_n 2, 1, 15), (15, .invokevirtual 321, 3, 18), (18, .aload_n 0, 1, 19), (19, .getfield 47, 3, 22), (22, .iload_n 2, 1, 23), (23, .iaload, 1, 24), (24, .if_icmp .lt 9, 3, 27), (27, .iconst 1, 1, 28), (28, .iload_n 2, 1, 29), (29, .ishl, 1, 30), (30, .goto 4, 3, 33), (33, .iconst 0, 1, 34), (34, .ior, 1, 35), (35, .istore_n 1, 1, 36), (36, .iinc 2 1, 3, 39), (39, .goto (-35), 3, 42), (42, .iload_n 1, 1, 43), (43, .ireturn, 1, 44)] := by unfold dcl; decide +kernel
set_option maxRecDepth 20000 in
theorem DX12_of_0 : dcl mX12_of.2.1 [(0, .aload_n 0, 1, 1), (1, .iload_n 1, 1, 2), (2, .invokevirtual 241, 3, 5), (5, .ifCond .ne 7, 3, 8), (8, .sipush (-10001), 3, 11), (11, .ireturn, 1, 12), (12, .aload_n 0, 1, 13), (13, .invokevirtual 324, 3, 16), (16, .iload_n 2, 1, 17), (17, .tableswitch 184 0 11 #[63, 70, 77, 84, 91, 98, 105, 123, 141, 147, 167, 177], 63, 80), (80, .aload_n 0, 1, 81), (81, .getfield 31, 3, 84), (84, .iload_n 1, 1, 85), (85, .iaload, 1, 86), (86, .ireturn, 1, 87), (87, .aload_n 0, 1, 88), (88, .getfield 35, 3, 91), (91, .iload_n 1, 1, 92), (92, .iaload, 1, 93), (93, .ireturn, 1, 94), (94, .aload_n 0, 1, 95), (95, .getfield 38, 3, 98), (98, .iload_n 1, 1, 99), (99, .iaload, 1, 100), (100, .ireturn, 1, 101), (101, .aload_n 0, 1, 102), (102, .getfield 41, 3, 105), (105, .iload_n 1, 1, 106), (106, .iaload, 1, 107), (107, .ireturn, 1, 108), (108, .aload_n 0, 1, 109), (109, .getfield 44, 3, 112), (112, .iload_n 1, 1, 113), (113, .iaload, 1, 114), (114, .ireturn, 1, 115), (115, .aload_n 0, 1, 116), (116, .getfield 47, 3, 119), (119, .iload_n 1, 1, 120), (120, .iaload, 1, 121), (121, .ireturn, 1, 122), (122, .aload_n 0, 1, 123), (123, .aload_n 0, 1, 124), (124, .getfield 28, 3, 127), (127, .iload_n 1, 1, 128), (128, .invokevirtual 245, 3, 131), (131, .ifCond .eq 7, 3, 134), (134, .iconst 1, 1, 135), (135, .goto 4, 3, 138), (138, .iconst 0, 1, 139), (139, .ireturn, 1, 140), (140, .aload_n 0, 1, 141), (141, .aload_n 0, 1, 142), (142, .getfield 25, 3, 145), (145, .iload_n 1, 1, 146), (146, .invokevirtual 245, 3, 149), (149, .ifCond .eq 7, 3, 152), (152, .iconst 1, 1, 153), (153, .goto 4, 3, 156), (156, .iconst 0, 1, 157), (157, .ireturn, 1, 158)] := by unfold dcl; decide +kernel
set_option maxRecDepth 20000 in
theorem DX12_of_1 : dcl mX12_of.2.1 [(158, .aload_n 0, 1, 159), (159, .iload_n 1, 1, 160), (160, .invokevirtual 321, 3, 163), (163, .ireturn, 1, 164), (164, .aload_n 0, 1, 165), (165, .iload_n 1, 1, 166), (166, .invokevirtual 321, 3, 169), (169, .aload_n 0, 1, 170), (170, .getfield 47, 3, 173), (173, .iload_n 1, 1, 174), (174, .iaload, 1, 175), (175, .if_icmp .lt 7, 3, 178), (178, .iconst 1, 1, 179), (179, .goto 4, 3, 182), (182, .iconst 0, 1, 183), (183, .ireturn, 1, 184), (184, .aload_n 0, 1, 185), (185, .iload_n 1, 1, 186), (186, .aload_n 0, 1, 187), (187, .getfield 13, 3, 190), (190, .invokevirtual 327, 3, 193), (193, .ireturn, 1, 194), (194, .aload_n 0, 1, 195), (195, .getfield 50, 3, 198), (198, .iload_n 1, 1, 199), (199, .iaload, 1, 200), (200, .ireturn, 1, 201), (201, .sipush (-10001), 3, 204), (204, .ireturn, 1, 205)] := by unfold dcl; decide +kernel
set_option maxRecDepth 20000 in
theorem DX12_told : dcl mX12_told.2.1 [(0, .aload_n 0, 1, 1), (1, .iload_n 1, 1, 2), (2, .bipush 10, 2, 4), (4, .bipush 13, 2, 6), (6, .invokevirtual 233, 3, 9), (9, .ifCond .eq 13, 3, 12), (12, .aload_n 0, 1, 13), (13, .getfield 53, 3, 16), (16, .iload_n 1, 1, 17), (17, .bipush 10, 2, 19), (19, .isub, 1, 20), (20, .iaload, 1, 21), (21, .ireturn, 1, 22), (22, .iload_n 1, 1, 23), (23, .tableswitch 72 0 5 #[37, 45, 52, 57, 62, 67], 37, 60), (60, .aload_n 0, 1, 61), (61, .iconst 2, 1, 62), (62, .bipush 7, 2, 64), (64, .invokevirtual 330, 3, 67), (67, .ireturn, 1, 68), (68, .aload_n 0, 1, 69), (69, .iconst 3, 1, 70), (70, .iconst 1, 1, 71), (71, .invokevirtual 330, 3, 74), (74, .ireturn, 1, 75), (75, .aload_n 0, 1, 76), (76, .getfield 13, 3, 79), (79, .ireturn, 1, 80), (80, .aload_n 0, 1, 81), (81, .getfield 16, 3, 84), (84, .ireturn, 1, 85), (85, .aload_n 0, 1, 86), (86, .getfield 19, 3, 89), (89, .ireturn, 1, 90), (90, .aload_n 0, 1, 91), (91, .getfield 22, 3, 94), (94, .ireturn, 1, 95), (95, .iconst (-1), 1, 96), (96, .ireturn, 1, 97)] := by unfold dcl; decide +kernel
set_option maxRecDepth 20000 in
theorem DX12_said : dcl mX12_said.2.1 [(0, .aload_n 0, 1, 1), (1, .iload_n 1, 1, 2), (2, .invokevirtual 241, 3, 5), (5, .ifCond .eq 22, 3, 8), (8, .aload_n 0, 1, 9), (9, .iload_n 2, 1, 10), (10, .invokevirtual 249, 3, 13), (13, .ifCond .eq 14, 3, 16), (16, .aload_n 0, 1, 17), (17, .iconst 0, 1, 18), (18, .iload_n 1, 1, 19), (19, .iload_n 2, 1, 20), (20, .iconst 0, 1, 21), (21, .invokevirtual 314, 3, 24), (24, .goto 4, 3, 27), (27, .iconst (-1), 1, 28), (28, .ireturn, 1, 29)] := by unfold dcl; decide +kernel
set_option maxRecDepth 20000 in
theorem DX12_ones : dcl mX12_ones.2.1 [(0, .iconst 0, 1, 1), (1, .istore_n 2, 1, 2), (2, .iload_n 1, 1, 3), (3, .istore_n 3, 1, 4), (4, .iload_n 3, 1, 5), (5, .ifCond .eq 15, 3, 8), (8, .iinc 2 1, 3, 11), (11, .iload_n 3, 1, 12), (12, .iload_n 3, 1, 13), (13, .iconst 1, 1, 14), (14, .isub, 1, 15), (15, .iand, 1, 16), (16, .istore_n 3, 1, 17), (17, .goto (-13), 3, 20), (20, .iload_n 2, 1, 21), (21, .ireturn, 1, 22)] := by unfold dcl; decide +kernel
set_option maxRecDepth 20000 in
theorem DX12_hand : dcl mX12_hand.2.1 [(0, .aload_n 0, 1, 1), (1, .invokevirtual 324, 3, 4), (4, .aload_n 0, 1, 5), (5, .aload_n 0, 1, 6), (6, .getfield 25, 3, 9), (9, .invokevirtual 333, 3, 12), (12, .istore_n 1, 1, 13), (13, .aload_n 0, 1, 14), (14, .dup, 1, 15), (15, .getfield 25, 3, 18), (18, .aload_n 0, 1, 19), (19, .invokevirtual 336, 3, 22), (22, .ior, 1, 23), (23, .putfield 25, 3, 26), (26, .aload_n 0, 1, 27), (27, .aload_n 0, 1, 28), (28, .getfield 25, 3, 31), (31, .invokevirtual 333, 3, 34), (34, .iload_n 1, 1, 35), (35, .isub, 1, 36), (36, .ireturn, 1, 37)] := by unfold dcl; decide +kernel
set_option maxRecDepth 20000 in
theorem DX12_comes : dcl mX12_comes.2.1 [(0, .iload_n 2, 1, 1), (1, .aload_n 0, 1, 2), (2, .getfield 38, 3, 5), (5, .iload_n 1, 1, 6), (6, .iaload, 1, 7), (7, .irem, 1, 8), (8, .aload_n 0, 1, 9), (9, .getfield 41, 3, 12), (12, .iload_n 1, 1, 13), (13, .iaload, 1, 14), (14, .if_icmp .ne 7, 3, 17), (17, .iconst 1, 1, 18), (18, .goto 4, 3, 21), (21, .iconst 0, 1, 22), (22, .ireturn, 1, 23)] := by unfold dcl; decide +kernel
set_option maxRecDepth 20000 in
theorem DX12_learnsBy : dcl mX12_learnsBy.2.1 [(0, .aload_n 0, 1, 1), (1, .getfield 31, 3, 4), (4, .iload_n 1, 1, 5), (5, .iaload, 1, 6), (6, .iconst 3, 1, 7), (7, .if_icmp .eq 14, 3, 10), (10, .aload_n 0, 1, 11), (11, .getfield 31, 3, 14), (14, .iload_n 1, 1, 15), (15, .iaload, 1, 16), (16, .bipush 6, 2, 18), (18, .if_icmp .ne 12, 3, 21), (21, .aload_n 0, 1, 22), (22, .getfield 35, 3, 25), (25, .iload_n 1, 1, 26), (26, .iaload, 1, 27), (27, .ifCond .eq 33, 3, 30), (30, .aload_n 0, 1, 31), (31, .getfield 31, 3, 34), (34, .iload_n 1, 1, 35), (35, .iaload, 1, 36), (36, .iconst 2, 1, 37), (37, .if_icmp .eq 13, 3, 40), (40, .aload_n 0, 1, 41), (41, .getfield 31, 3, 44), (44, .iload_n 1, 1, 45), (45, .iaload, 1, 46), (46, .iconst 5, 1, 47), (47, .if_icmp .ne 17, 3, 50), (50, .aload_n 0, 1, 51), (51, .getfield 35, 3, 54), (54, .iload_n 1, 1, 55), (55, .iaload, 1, 56), (56, .iconst 4, 1, 57), (57, .if_icmp .le 7, 3, 60), (60, .iconst 1, 1, 61), (61, .goto 4, 3, 64), (64, .iconst 0, 1, 65), (65, .ireturn, 1, 66)] := by unfold dcl; decide +kernel
set_option maxRecDepth 20000 in
theorem DX12_begins : dcl mX12_begins.2.1 [(0, .aload_n 0, 1, 1), (1, .iload_n 1, 1, 2), (2, .putfield 114, 3, 5), (5, .aload_n 0, 1, 6), (6, .iload_n 2, 1, 7), (7, .putfield 117, 3, 10), (10, .aload_n 0, 1, 11), (11, .iconst 0, 1, 12), (12, .putfield 120, 3, 15), (15, .aload_n 0, 1, 16), (16, .iconst 0, 1, 17), (17, .putfield 123, 3, 20), (20, .aload_n 0, 1, 21), (21, .iconst 0, 1, 22), (22, .putfield 126, 3, 25), (25, .aload_n 0, 1, 26), (26, .bipush (-5), 2, 28), (28, .putfield 129, 3, 31), (31, .aload_n 0, 1, 32), (32, .bipush (-5), 2, 34), (34, .putfield 132, 3, 37), (37, .return_, 1, 38)] := by unfold dcl; decide +kernel
set_option maxRecDepth 20000 in
theorem DX12_goWeek_0 : dcl mX12_goWeek.2.1 [(0, .iconst 0, 1, 1), (1, .istore_n 3, 1, 2), (2, .iconst 0, 1, 3), (3, .istore 4, 2, 5), (5, .iload 4, 2, 7), (7, .aload_n 0, 1, 8), (8, .getfield 7, 3, 11), (11, .if_icmp .ge 236, 3, 14), (14, .aload_n 0, 1, 15), (15, .iload 4, 2, 17), (17, .iload_n 1, 1, 18), (18, .invokevirtual 339, 3, 21), (21, .ifCond .ne 6, 3, 24), (24, .goto 217, 3, 27), (27, .aload_n 0, 1, 28), (28, .aload_n 0, 1, 29), (29, .getfield 117, 3, 32), (32, .iload 4, 2, 34), (34, .invokevirtual 245, 3, 37), (37, .ifCond .eq 33, 3, 40), (40, .aload_n 0, 1, 41), (41, .dup, 1, 42), (42, .getfield 120, 3, 45), (45, .aload_n 0, 1, 46), (46, .aload_n 0, 1, 47), (47, .getfield 114, 3, 50), (50, .iload 4, 2, 52), (52, .invokevirtual 245, 3, 55), (55, .ifCond .eq 7, 3, 58), (58, .iconst 1, 1, 59), (59, .goto 4, 3, 62), (62, .iconst 0, 1, 63), (63, .iadd, 1, 64), (64, .putfield 120, 3, 67), (67, .goto 174, 3, 70), (70, .aload_n 0, 1, 71), (71, .aload_n 0, 1, 72), (72, .getfield 114, 3, 75), (75, .iload 4, 2, 77), (77, .invokevirtual 245, 3, 80), (80, .ifCond .eq 6, 3, 83), (83, .goto 158, 3, 86), (86, .aload_n 0, 1, 87), (87, .dup, 1, 88), (88, .getfield 123, 3, 91), (91, .iconst 1, 1, 92), (92, .iadd, 1, 93), (93, .putfield 123, 3, 96), (96, .aload_n 0, 1, 97), (97, .getfield 129, 3, 100), (100, .ifCond .ge 14, 3, 103), (103, .aload_n 0, 1, 104), (104, .iload_n 1, 1, 105), (105, .putfield 129, 3, 108), (108, .aload_n 0, 1, 109), (109, .iload 4, 2, 111), (111, .putfield 132, 3, 114), (114, .iload_n 1, 1, 115), (115, .aload_n 0, 1, 116), (116, .getfield 13, 3, 119)] := by unfold dcl; decide +kernel
set_option maxRecDepth 20000 in
theorem DX12_goWeek_1 : dcl mX12_goWeek.2.1 [(119, .isub, 1, 120), (120, .bipush 100, 2, 122), (122, .if_icmp .ge 21, 3, 125), (125, .aload_n 0, 1, 126), (126, .getfield 135, 3, 129), (129, .bipush 10, 2, 131), (131, .iload_n 1, 1, 132), (132, .aload_n 0, 1, 133), (133, .getfield 13, 3, 136), (136, .isub, 1, 137), (137, .imul, 1, 138), (138, .iload 4, 2, 140), (140, .iadd, 1, 141), (141, .iconst 1, 1, 142), (142, .bastore, 1, 143), (143, .iload_n 3, 1, 144), (144, .iload_n 2, 1, 145), (145, .if_icmp .ge 60, 3, 148), (148, .iinc 3 1, 3, 151), (151, .aload_n 0, 1, 152), (152, .dup, 1, 153), (153, .getfield 126, 3, 156), (156, .iconst 1, 1, 157), (157, .iadd, 1, 158), (158, .putfield 126, 3, 161), (161, .aload_n 0, 1, 162), (162, .dup, 1, 163), (163, .getfield 120, 3, 166), (166, .iconst 1, 1, 167), (167, .iadd, 1, 168), (168, .putfield 120, 3, 171), (171, .aload_n 0, 1, 172), (172, .aload_n 0, 1, 173), (173, .aload_n 0, 1, 174), (174, .getfield 114, 3, 177), (177, .iload 4, 2, 179), (179, .aload_n 0, 1, 180), (180, .getfield 31, 3, 183), (183, .iload 4, 2, 185), (185, .iaload, 1, 186), (186, .bipush 6, 2, 188), (188, .if_icmp .eq 7, 3, 191), (191, .iconst 1, 1, 192), (192, .goto 4, 3, 195), (195, .iconst 0, 1, 196), (196, .invokevirtual 237, 3, 199), (199, .putfield 114, 3, 202), (202, .goto 39, 3, 205), (205, .aload_n 0, 1, 206), (206, .dup, 1, 207), (207, .getfield 120, 3, 210), (210, .aload_n 0, 1, 211), (211, .iload 4, 2, 213), (213, .iload_n 1, 1, 214), (214, .invokevirtual 327, 3, 217), (217, .iadd, 1, 218), (218, .putfield 120, 3, 221), (221, .aload_n 0, 1, 222), (222, .aload_n 0, 1, 223), (223, .aload_n 0, 1, 224)] := by unfold dcl; decide +kernel
set_option maxRecDepth 20000 in
theorem DX12_goWeek_2 : dcl mX12_goWeek.2.1 [(224, .getfield 114, 3, 227), (227, .iload 4, 2, 229), (229, .aload_n 0, 1, 230), (230, .iload 4, 2, 232), (232, .invokevirtual 342, 3, 235), (235, .invokevirtual 237, 3, 238), (238, .putfield 114, 3, 241), (241, .iinc 4 1, 3, 244), (244, .goto (-239), 3, 247), (247, .return_, 1, 248)] := by unfold dcl; decide +kernel
set_option maxRecDepth 20000 in
theorem DX12_goWeeks : dcl mX12_goWeeks.2.1 [(0, .aload_n 0, 1, 1), (1, .iconst 2, 1, 2), (2, .bipush 7, 2, 4), (4, .invokevirtual 330, 3, 7), (7, .istore_n 2, 1, 8), (8, .aload_n 0, 1, 9), (9, .iconst 3, 1, 10), (10, .iconst 1, 1, 11), (11, .invokevirtual 330, 3, 14), (14, .istore_n 3, 1, 15), (15, .aload_n 0, 1, 16), (16, .getfield 13, 3, 19), (19, .istore 4, 2, 21), (21, .iload 4, 2, 23), (23, .aload_n 0, 1, 24), (24, .getfield 13, 3, 27), (27, .iload_n 1, 1, 28), (28, .iadd, 1, 29), (29, .if_icmp .ge 21, 3, 32), (32, .aload_n 0, 1, 33), (33, .iload 4, 2, 35), (35, .iload_n 2, 1, 36), (36, .iload_n 3, 1, 37), (37, .iload 4, 2, 39), (39, .imul, 1, 40), (40, .isub, 1, 41), (41, .invokevirtual 345, 3, 44), (44, .iinc 4 1, 3, 47), (47, .goto (-26), 3, 50), (50, .return_, 1, 51)] := by unfold dcl; decide +kernel
set_option maxRecDepth 20000 in
theorem DX12_costBy : dcl mX12_costBy.2.1 [(0, .aload_n 0, 1, 1), (1, .iload_n 1, 1, 2), (2, .iload_n 2, 1, 3), (3, .invokevirtual 349, 3, 6), (6, .aload_n 0, 1, 7), (7, .iload_n 3, 1, 8), (8, .invokevirtual 352, 3, 11), (11, .aload_n 0, 1, 12), (12, .getfield 120, 3, 15), (15, .ireturn, 1, 16)] := by unfold dcl; decide +kernel
set_option maxRecDepth 20000 in
theorem DX12_go : dcl mX12_go.2.1 [(0, .aload_n 0, 1, 1), (1, .iload_n 1, 1, 2), (2, .iconst 1, 1, 3), (3, .bipush 60, 2, 5), (5, .invokevirtual 233, 3, 8), (8, .ifCond .ne 6, 3, 11), (11, .bipush (-2), 2, 13), (13, .ireturn, 1, 14), (14, .aload_n 0, 1, 15), (15, .getfield 13, 3, 18), (18, .iload_n 1, 1, 19), (19, .iadd, 1, 20), (20, .sipush 9999, 3, 23), (23, .if_icmp .le 6, 3, 26), (26, .bipush (-3), 2, 28), (28, .ireturn, 1, 29), (29, .aload_n 0, 1, 30), (30, .aload_n 0, 1, 31), (31, .getfield 25, 3, 34), (34, .aload_n 0, 1, 35), (35, .getfield 28, 3, 38), (38, .invokevirtual 349, 3, 41), (41, .aload_n 0, 1, 42), (42, .iload_n 1, 1, 43), (43, .invokevirtual 352, 3, 46), (46, .aload_n 0, 1, 47), (47, .dup, 1, 48), (48, .getfield 13, 3, 51), (51, .iload_n 1, 1, 52), (52, .iadd, 1, 53), (53, .putfield 13, 3, 56), (56, .aload_n 0, 1, 57), (57, .aload_n 0, 1, 58), (58, .getfield 114, 3, 61), (61, .putfield 25, 3, 64), (64, .aload_n 0, 1, 65), (65, .dup, 1, 66), (66, .getfield 16, 3, 69), (69, .aload_n 0, 1, 70), (70, .getfield 120, 3, 73), (73, .iadd, 1, 74), (74, .putfield 16, 3, 77), (77, .aload_n 0, 1, 78), (78, .dup, 1, 79), (79, .getfield 19, 3, 82), (82, .aload_n 0, 1, 83), (83, .getfield 123, 3, 86), (86, .iadd, 1, 87), (87, .putfield 19, 3, 90), (90, .aload_n 0, 1, 91), (91, .dup, 1, 92), (92, .getfield 22, 3, 95), (95, .aload_n 0, 1, 96), (96, .getfield 126, 3, 99), (99, .iadd, 1, 100), (100, .putfield 22, 3, 103), (103, .aload_n 0, 1, 104), (104, .getfield 13, 3, 107), (107, .ireturn, 1, 108)] := by unfold dcl; decide +kernel
set_option maxRecDepth 20000 in
theorem DX12_run : dcl mX12_run.2.1 [(0, .aload_n 0, 1, 1), (1, .iload_n 2, 1, 2), (2, .iconst 0, 1, 3), (3, .iconst 5, 1, 4), (4, .invokevirtual 233, 3, 7), (7, .ifCond .ne 7, 3, 10), (10, .sipush (-10001), 3, 13), (13, .ireturn, 1, 14), (14, .aload_n 0, 1, 15), (15, .iload_n 1, 1, 16), (16, .iconst 0, 1, 17), (17, .sipush 200, 3, 20), (20, .invokevirtual 233, 3, 23), (23, .ifCond .ne 7, 3, 26), (26, .sipush (-10002), 3, 29), (29, .ireturn, 1, 30), (30, .aload_n 0, 1, 31), (31, .aload_n 0, 1, 32), (32, .getfield 25, 3, 35), (35, .aload_n 0, 1, 36), (36, .getfield 28, 3, 39), (39, .invokevirtual 349, 3, 42), (42, .aload_n 0, 1, 43), (43, .iload_n 1, 1, 44), (44, .invokevirtual 352, 3, 47), (47, .iload_n 2, 1, 48), (48, .tableswitch 65 0 4 #[36, 41, 46, 51, 60], 36, 84), (84, .aload_n 0, 1, 85), (85, .getfield 120, 3, 88), (88, .ireturn, 1, 89), (89, .aload_n 0, 1, 90), (90, .getfield 123, 3, 93), (93, .ireturn, 1, 94), (94, .aload_n 0, 1, 95), (95, .getfield 126, 3, 98), (98, .ireturn, 1, 99), (99, .aload_n 0, 1, 100), (100, .aload_n 0, 1, 101), (101, .getfield 114, 3, 104), (104, .invokevirtual 333, 3, 107), (107, .ireturn, 1, 108), (108, .aload_n 0, 1, 109), (109, .getfield 129, 3, 112), (112, .ireturn, 1, 113), (113, .aload_n 0, 1, 114), (114, .getfield 132, 3, 117), (117, .ireturn, 1, 118)] := by unfold dcl; decide +kernel
set_option maxRecDepth 20000 in
theorem DX12_keepHours : dcl mX12_keepHours.2.1 [(0, .iconst 0, 1, 1), (1, .istore_n 1, 1, 2), (2, .iload_n 1, 1, 3), (3, .iconst 4, 1, 4), (4, .if_icmp .ge 21, 3, 7), (7, .aload_n 0, 1, 8), (8, .getfield 138, 3, 11), (11, .iload_n 1, 1, 12), (12, .aload_n 0, 1, 13), (13, .getfield 53, 3, 16), (16, .iload_n 1, 1, 17), (17, .iaload, 1, 18), (18, .iastore, 1, 19), (19, .iinc 1 1, 3, 22), (22, .goto (-20), 3, 25), (25, .return_, 1, 26)] := by unfold dcl; decide +kernel
set_option maxRecDepth 20000 in
theorem DX12_putHours : dcl mX12_putHours.2.1 [(0, .iconst 0, 1, 1), (1, .istore_n 1, 1, 2), (2, .iload_n 1, 1, 3), (3, .iconst 4, 1, 4), (4, .if_icmp .ge 21, 3, 7), (7, .aload_n 0, 1, 8), (8, .getfield 53, 3, 11), (11, .iload_n 1, 1, 12), (12, .aload_n 0, 1, 13), (13, .getfield 138, 3, 16), (16, .iload_n 1, 1, 17), (17, .iaload, 1, 18), (18, .iastore, 1, 19), (19, .iinc 1 1, 3, 22), (22, .goto (-20), 3, 25), (25, .return_, 1, 26)] := by unfold dcl; decide +kernel
set_option maxRecDepth 20000 in
theorem DX12_costHanded : dcl mX12_costHanded.2.1 [(0, .aload_n 0, 1, 1), (1, .aload_n 0, 1, 2), (2, .getfield 25, 3, 5), (5, .aload_n 0, 1, 6), (6, .invokevirtual 336, 3, 9), (9, .ior, 1, 10), (10, .aload_n 0, 1, 11), (11, .getfield 28, 3, 14), (14, .iload_n 1, 1, 15), (15, .invokevirtual 355, 3, 18), (18, .ireturn, 1, 19)] := by unfold dcl; decide +kernel
set_option maxRecDepth 20000 in
theorem DX12_split_0 : dcl mX12_split.2.1 [(0, .aload_n 0, 1, 1), (1, .iload_n 3, 1, 2), (2, .iconst (-1), 1, 3), (3, .iconst 3, 1, 4), (4, .invokevirtual 233, 3, 7), (7, .ifCond .ne 7, 3, 10), (10, .sipush (-10001), 3, 13), (13, .ireturn, 1, 14), (14, .aload_n 0, 1, 15), (15, .iload_n 1, 1, 16), (16, .iconst 0, 1, 17), (17, .bipush 9, 2, 19), (19, .invokevirtual 233, 3, 22), (22, .ifCond .eq 14, 3, 25), (25, .aload_n 0, 1, 26), (26, .iload_n 2, 1, 27), (27, .iconst 0, 1, 28), (28, .bipush 60, 2, 30), (30, .invokevirtual 233, 3, 33), (33, .ifCond .ne 7, 3, 36), (36, .sipush (-10002), 3, 39), (39, .ireturn, 1, 40), (40, .aload_n 0, 1, 41), (41, .invokevirtual 324, 3, 44), (44, .aload_n 0, 1, 45), (45, .invokevirtual 359, 3, 48), (48, .iconst (-1), 1, 49), (49, .istore 4, 2, 51), (51, .iconst 0, 1, 52), (52, .istore 5, 2, 54), (54, .iload 5, 2, 56), (56, .sipush 1000, 3, 59), (59, .if_icmp .ge 141, 3, 62), (62, .iload 5, 2, 64), (64, .bipush 100, 2, 66), (66, .idiv, 1, 67), (67, .iload 5, 2, 69), (69, .bipush 10, 2, 71), (71, .idiv, 1, 72), (72, .bipush 10, 2, 74), (74, .irem, 1, 75), (75, .iadd, 1, 76), (76, .iload 5, 2, 78), (78, .bipush 10, 2, 80), (80, .irem, 1, 81), (81, .iadd, 1, 82), (82, .istore 6, 2, 84), (84, .iload 6, 2, 86), (86, .iload_n 1, 1, 87), (87, .if_icmp .le 6, 3, 90), (90, .goto 104, 3, 93), (93, .aload_n 0, 1, 94), (94, .getfield 53, 3, 97), (97, .iconst 0, 1, 98), (98, .iload 5, 2, 100), (100, .bipush 100, 2, 102), (102, .idiv, 1, 103), (103, .iastore, 1, 104), (104, .aload_n 0, 1, 105), (105, .getfield 53, 3, 108)] := by unfold dcl; decide +kernel
set_option maxRecDepth 20000 in
theorem DX12_split_1 : dcl mX12_split.2.1 [(108, .iconst 1, 1, 109), (109, .iload 5, 2, 111), (111, .bipush 10, 2, 113), (113, .idiv, 1, 114), (114, .bipush 10, 2, 116), (116, .irem, 1, 117), (117, .iastore, 1, 118), (118, .aload_n 0, 1, 119), (119, .getfield 53, 3, 122), (122, .iconst 2, 1, 123), (123, .iload 5, 2, 125), (125, .bipush 10, 2, 127), (127, .irem, 1, 128), (128, .iastore, 1, 129), (129, .aload_n 0, 1, 130), (130, .getfield 53, 3, 133), (133, .iconst 3, 1, 134), (134, .iload_n 1, 1, 135), (135, .iload 6, 2, 137), (137, .isub, 1, 138), (138, .iastore, 1, 139), (139, .aload_n 0, 1, 140), (140, .iload_n 2, 1, 141), (141, .invokevirtual 362, 3, 144), (144, .istore 7, 2, 146), (146, .iload 4, 2, 148), (148, .ifCond .lt 13, 3, 151), (151, .iload 7, 2, 153), (153, .iload 4, 2, 155), (155, .if_icmp .lt 6, 3, 158), (158, .goto 36, 3, 161), (161, .iload 7, 2, 163), (163, .istore 4, 2, 165), (165, .iconst 0, 1, 166), (166, .istore 8, 2, 168), (168, .iload 8, 2, 170), (170, .iconst 4, 1, 171), (171, .if_icmp .ge 23, 3, 174), (174, .aload_n 0, 1, 175), (175, .getfield 141, 3, 178), (178, .iload 8, 2, 180), (180, .aload_n 0, 1, 181), (181, .getfield 53, 3, 184), (184, .iload 8, 2, 186), (186, .iaload, 1, 187), (187, .iastore, 1, 188), (188, .iinc 8 1, 3, 191), (191, .goto (-23), 3, 194), (194, .iinc 5 1, 3, 197), (197, .goto (-143), 3, 200), (200, .aload_n 0, 1, 201), (201, .invokevirtual 365, 3, 204), (204, .iload_n 3, 1, 205), (205, .ifCond .ge 8, 3, 208), (208, .iload 4, 2, 210), (210, .goto 9, 3, 213), (213, .aload_n 0, 1, 214), (214, .getfield 141, 3, 217), (217, .iload_n 3, 1, 218), (218, .iaload, 1, 219)] := by unfold dcl; decide +kernel
set_option maxRecDepth 20000 in
theorem DX12_split_2 : dcl mX12_split.2.1 [(219, .ireturn, 1, 220)] := by unfold dcl; decide +kernel
set_option maxRecDepth 20000 in
theorem DX12_more : dcl mX12_more.2.1 [(0, .aload_n 0, 1, 1), (1, .iload_n 1, 1, 2), (2, .invokevirtual 249, 3, 5), (5, .ifCond .ne 7, 3, 8), (8, .sipush (-10001), 3, 11), (11, .ireturn, 1, 12), (12, .aload_n 0, 1, 13), (13, .iload_n 2, 1, 14), (14, .iconst 0, 1, 15), (15, .bipush 60, 2, 17), (17, .invokevirtual 233, 3, 20), (20, .ifCond .ne 7, 3, 23), (23, .sipush (-10002), 3, 26), (26, .ireturn, 1, 27), (27, .aload_n 0, 1, 28), (28, .getfield 53, 3, 31), (31, .iload_n 1, 1, 32), (32, .iaload, 1, 33), (33, .bipush 9, 2, 35), (35, .if_icmp .ne 5, 3, 38), (38, .iconst 0, 1, 39), (39, .ireturn, 1, 40), (40, .aload_n 0, 1, 41), (41, .invokevirtual 324, 3, 44), (44, .aload_n 0, 1, 45), (45, .iload_n 2, 1, 46), (46, .invokevirtual 362, 3, 49), (49, .istore_n 3, 1, 50), (50, .aload_n 0, 1, 51), (51, .getfield 53, 3, 54), (54, .iload_n 1, 1, 55), (55, .dup2, 1, 56), (56, .iaload, 1, 57), (57, .iconst 1, 1, 58), (58, .iadd, 1, 59), (59, .iastore, 1, 60), (60, .aload_n 0, 1, 61), (61, .iload_n 2, 1, 62), (62, .invokevirtual 362, 3, 65), (65, .istore 4, 2, 67), (67, .aload_n 0, 1, 68), (68, .getfield 53, 3, 71), (71, .iload_n 1, 1, 72), (72, .dup2, 1, 73), (73, .iaload, 1, 74), (74, .iconst 1, 1, 75), (75, .isub, 1, 76), (76, .iastore, 1, 77), (77, .iload_n 3, 1, 78), (78, .iload 4, 2, 80), (80, .isub, 1, 81), (81, .ireturn, 1, 82)] := by unfold dcl; decide +kernel
set_option maxRecDepth 20000 in
theorem DX12_ask : dcl mX12_ask.2.1 [(0, .aload_n 0, 1, 1), (1, .iload_n 1, 1, 2), (2, .iconst 0, 1, 3), (3, .bipush 60, 2, 5), (5, .invokevirtual 233, 3, 8), (8, .ifCond .ne 6, 3, 11), (11, .bipush (-2), 2, 13), (13, .ireturn, 1, 14), (14, .bipush (-5), 2, 16), (16, .istore_n 2, 1, 17), (17, .iconst 0, 1, 18), (18, .istore_n 3, 1, 19), (19, .iconst 0, 1, 20), (20, .istore 4, 2, 22), (22, .iload 4, 2, 24), (24, .aload_n 0, 1, 25), (25, .getfield 7, 3, 28), (28, .if_icmp .ge 66, 3, 31), (31, .aload_n 0, 1, 32), (32, .aload_n 0, 1, 33), (33, .getfield 25, 3, 36), (36, .iload 4, 2, 38), (38, .invokevirtual 245, 3, 41), (41, .ifCond .eq 6, 3, 44), (44, .goto 44, 3, 47), (47, .aload_n 0, 1, 48), (48, .aload_n 0, 1, 49), (49, .aload_n 0, 1, 50), (50, .getfield 25, 3, 53), (53, .iload 4, 2, 55), (55, .iconst 1, 1, 56), (56, .invokevirtual 237, 3, 59), (59, .aload_n 0, 1, 60), (60, .getfield 28, 3, 63), (63, .iload_n 1, 1, 64), (64, .invokevirtual 355, 3, 67), (67, .istore 5, 2, 69), (69, .iload_n 2, 1, 70), (70, .ifCond .lt 12, 3, 73), (73, .iload 5, 2, 75), (75, .iload_n 3, 1, 76), (76, .if_icmp .lt 6, 3, 79), (79, .goto 9, 3, 82), (82, .iload 4, 2, 84), (84, .istore_n 2, 1, 85), (85, .iload 5, 2, 87), (87, .istore_n 3, 1, 88), (88, .iinc 4 1, 3, 91), (91, .goto (-69), 3, 94), (94, .iload_n 2, 1, 95), (95, .ireturn, 1, 96)] := by unfold dcl; decide +kernel
set_option maxRecDepth 20000 in
theorem DX12_drop : dcl mX12_drop.2.1 [(0, .aload_n 0, 1, 1), (1, .iload_n 1, 1, 2), (2, .iconst 0, 1, 3), (3, .bipush 60, 2, 5), (5, .invokevirtual 233, 3, 8), (8, .ifCond .ne 6, 3, 11), (11, .bipush (-2), 2, 13), (13, .ireturn, 1, 14), (14, .bipush (-5), 2, 16), (16, .istore_n 2, 1, 17), (17, .iconst 0, 1, 18), (18, .istore_n 3, 1, 19), (19, .iconst 0, 1, 20), (20, .istore 4, 2, 22), (22, .iload 4, 2, 24), (24, .aload_n 0, 1, 25), (25, .getfield 7, 3, 28), (28, .if_icmp .ge 66, 3, 31), (31, .aload_n 0, 1, 32), (32, .aload_n 0, 1, 33), (33, .getfield 28, 3, 36), (36, .iload 4, 2, 38), (38, .invokevirtual 245, 3, 41), (41, .ifCond .eq 6, 3, 44), (44, .goto 44, 3, 47), (47, .aload_n 0, 1, 48), (48, .aload_n 0, 1, 49), (49, .getfield 25, 3, 52), (52, .aload_n 0, 1, 53), (53, .aload_n 0, 1, 54), (54, .getfield 28, 3, 57), (57, .iload 4, 2, 59), (59, .iconst 1, 1, 60), (60, .invokevirtual 237, 3, 63), (63, .iload_n 1, 1, 64), (64, .invokevirtual 355, 3, 67), (67, .istore 5, 2, 69), (69, .iload_n 2, 1, 70), (70, .ifCond .lt 12, 3, 73), (73, .iload 5, 2, 75), (75, .iload_n 3, 1, 76), (76, .if_icmp .lt 6, 3, 79), (79, .goto 9, 3, 82), (82, .iload 4, 2, 84), (84, .istore_n 2, 1, 85), (85, .iload 5, 2, 87), (87, .istore_n 3, 1, 88), (88, .iinc 4 1, 3, 91), (91, .goto (-69), 3, 94), (94, .iload_n 2, 1, 95), (95, .ireturn, 1, 96)] := by unfold dcl; decide +kernel
set_option maxRecDepth 20000 in
theorem DX12_when : dcl mX12_when.2.1 [(0, .aload_n 0, 1, 1), (1, .iload_n 1, 1, 2), (2, .invokevirtual 241, 3, 5), (5, .ifCond .ne 5, 3, 8), (8, .iconst (-1), 1, 9), (9, .ireturn, 1, 10), (10, .aload_n 0, 1, 11), (11, .getfield 13, 3, 14), (14, .istore_n 2, 1, 15), (15, .aload_n 0, 1, 16), (16, .iload_n 1, 1, 17), (17, .iload_n 2, 1, 18), (18, .invokevirtual 339, 3, 21), (21, .ifCond .ne 9, 3, 24), (24, .iinc 2 1, 3, 27), (27, .goto (-12), 3, 30), (30, .iload_n 2, 1, 31), (31, .ireturn, 1, 32)] := by unfold dcl; decide +kernel
set_option maxRecDepth 20000 in
theorem DX12_manyIn : dcl mX12_manyIn.2.1 [(0, .iconst 0, 1, 1), (1, .istore_n 2, 1, 2), (2, .iconst 0, 1, 3), (3, .istore_n 3, 1, 4), (4, .iload_n 3, 1, 5), (5, .aload_n 0, 1, 6), (6, .getfield 7, 3, 9), (9, .if_icmp .ge 26, 3, 12), (12, .iload_n 2, 1, 13), (13, .aload_n 0, 1, 14), (14, .iload_n 3, 1, 15), (15, .iload_n 1, 1, 16), (16, .invokevirtual 339, 3, 19), (19, .ifCond .eq 7, 3, 22), (22, .iconst 1, 1, 23), (23, .goto 4, 3, 26), (26, .iconst 0, 1, 27), (27, .iadd, 1, 28), (28, .istore_n 2, 1, 29), (29, .iinc 3 1, 3, 32), (32, .goto (-28), 3, 35), (35, .iload_n 2, 1, 36), (36, .ireturn, 1, 37)] := by unfold dcl; decide +kernel
set_option maxRecDepth 20000 in
theorem DX12_busiest : dcl mX12_busiest.2.1 [(0, .aload_n 0, 1, 1), (1, .iload_n 2, 1, 2), (2, .iconst 0, 1, 3), (3, .iconst 1, 1, 4), (4, .invokevirtual 233, 3, 7), (7, .ifCond .ne 5, 3, 10), (10, .iconst (-1), 1, 11), (11, .ireturn, 1, 12), (12, .aload_n 0, 1, 13), (13, .iload_n 1, 1, 14), (14, .iconst 1, 1, 15), (15, .sipush 200, 3, 18), (18, .invokevirtual 233, 3, 21), (21, .ifCond .ne 6, 3, 24), (24, .bipush (-2), 2, 26), (26, .ireturn, 1, 27), (27, .aload_n 0, 1, 28), (28, .getfield 13, 3, 31), (31, .istore_n 3, 1, 32), (32, .aload_n 0, 1, 33), (33, .getfield 13, 3, 36), (36, .iconst 1, 1, 37), (37, .iadd, 1, 38), (38, .istore 4, 2, 40), (40, .iload 4, 2, 42), (42, .aload_n 0, 1, 43), (43, .getfield 13, 3, 46), (46, .iload_n 1, 1, 47), (47, .iadd, 1, 48), (48, .if_icmp .ge 30, 3, 51), (51, .aload_n 0, 1, 52), (52, .iload 4, 2, 54), (54, .invokevirtual 368, 3, 57), (57, .aload_n 0, 1, 58), (58, .iload_n 3, 1, 59), (59, .invokevirtual 368, 3, 62), (62, .if_icmp .le 8, 3, 65), (65, .iload 4, 2, 67), (67, .goto 4, 3, 70), (70, .iload_n 3, 1, 71), (71, .istore_n 3, 1, 72), (72, .iinc 4 1, 3, 75), (75, .goto (-35), 3, 78), (78, .iload_n 2, 1, 79), (79, .ifCond .ne 7, 3, 82), (82, .iload_n 3, 1, 83), (83, .goto 8, 3, 86), (86, .aload_n 0, 1, 87), (87, .iload_n 3, 1, 88), (88, .invokevirtual 368, 3, 91), (91, .ireturn, 1, 92)] := by unfold dcl; decide +kernel
set_option maxRecDepth 20000 in
theorem DX12_allCome : dcl mX12_allCome.2.1 [(0, .iconst 0, 1, 1), (1, .istore_n 3, 1, 2), (2, .iload_n 3, 1, 3), (3, .aload_n 0, 1, 4), (4, .getfield 7, 3, 7), (7, .if_icmp .ge 29, 3, 10), (10, .aload_n 0, 1, 11), (11, .iload_n 1, 1, 12), (12, .iload_n 3, 1, 13), (13, .invokevirtual 245, 3, 16), (16, .ifCond .eq 14, 3, 19), (19, .aload_n 0, 1, 20), (20, .iload_n 3, 1, 21), (21, .iload_n 2, 1, 22), (22, .invokevirtual 339, 3, 25), (25, .ifCond .ne 5, 3, 28), (28, .iconst 0, 1, 29), (29, .ireturn, 1, 30), (30, .iinc 3 1, 3, 33), (33, .goto (-31), 3, 36), (36, .iconst 1, 1, 37), (37, .ireturn, 1, 38)] := by unfold dcl; decide +kernel
set_option maxRecDepth 20000 in
theorem DX12_all : dcl mX12_all.2.1 [(0, .aload_n 0, 1, 1), (1, .iload_n 1, 1, 2), (2, .iconst 1, 1, 3), (3, .iconst 1, 1, 4), (4, .aload_n 0, 1, 5), (5, .getfield 7, 3, 8), (8, .ishl, 1, 9), (9, .iconst 1, 1, 10), (10, .isub, 1, 11), (11, .invokevirtual 233, 3, 14), (14, .ifCond .ne 6, 3, 17), (17, .bipush (-2), 2, 19), (19, .ireturn, 1, 20), (20, .iconst 0, 1, 21), (21, .istore_n 2, 1, 22), (22, .iload_n 2, 1, 23), (23, .sipush 3601, 3, 26), (26, .if_icmp .ge 25, 3, 29), (29, .aload_n 0, 1, 30), (30, .iload_n 1, 1, 31), (31, .aload_n 0, 1, 32), (32, .getfield 13, 3, 35), (35, .iload_n 2, 1, 36), (36, .iadd, 1, 37), (37, .invokevirtual 371, 3, 40), (40, .ifCond .eq 5, 3, 43), (43, .iload_n 2, 1, 44), (44, .ireturn, 1, 45), (45, .iinc 2 1, 3, 48), (48, .goto (-26), 3, 51), (51, .bipush (-5), 2, 53), (53, .ireturn, 1, 54)] := by unfold dcl; decide +kernel
set_option maxRecDepth 20000 in
theorem DX12_list : dcl mX12_list.2.1 [(0, .iload_n 1, 1, 1), (1, .iconst (-1), 1, 2), (2, .if_icmp .ne 10, 3, 5), (5, .aload_n 0, 1, 6), (6, .iconst 0, 1, 7), (7, .putfield 144, 3, 10), (10, .iconst 0, 1, 11), (11, .ireturn, 1, 12), (12, .aload_n 0, 1, 13), (13, .iload_n 1, 1, 14), (14, .iconst 0, 1, 15), (15, .bipush 99, 2, 17), (17, .invokevirtual 233, 3, 20), (20, .ifCond .ne 6, 3, 23), (23, .bipush (-2), 2, 25), (25, .ireturn, 1, 26), (26, .aload_n 0, 1, 27), (27, .iload_n 2, 1, 28), (28, .invokevirtual 241, 3, 31), (31, .ifCond .ne 5, 3, 34), (34, .iconst (-1), 1, 35), (35, .ireturn, 1, 36), (36, .aload_n 0, 1, 37), (37, .getfield 144, 3, 40), (40, .bipush 12, 2, 42), (42, .if_icmp .ne 6, 3, 45), (45, .bipush (-4), 2, 47), (47, .ireturn, 1, 48), (48, .aload_n 0, 1, 49), (49, .getfield 147, 3, 52), (52, .aload_n 0, 1, 53), (53, .getfield 144, 3, 56), (56, .iload_n 1, 1, 57), (57, .iastore, 1, 58), (58, .aload_n 0, 1, 59), (59, .getfield 150, 3, 62), (62, .aload_n 0, 1, 63), (63, .getfield 144, 3, 66), (66, .iload_n 2, 1, 67), (67, .iastore, 1, 68), (68, .aload_n 0, 1, 69), (69, .dup, 1, 70), (70, .getfield 144, 3, 73), (73, .iconst 1, 1, 74), (74, .iadd, 1, 75), (75, .putfield 144, 3, 78), (78, .aload_n 0, 1, 79), (79, .getfield 144, 3, 82), (82, .ireturn, 1, 83)] := by unfold dcl; decide +kernel
set_option maxRecDepth 20000 in
theorem DX12_firstOff : dcl mX12_firstOff.2.1 [(0, .iconst 0, 1, 1), (1, .istore_n 2, 1, 2), (2, .iload_n 2, 1, 3), (3, .sipush 1000, 3, 6), (6, .if_icmp .ge 16, 3, 9), (9, .aload_n 0, 1, 10), (10, .getfield 135, 3, 13), (13, .iload_n 2, 1, 14), (14, .iconst 0, 1, 15), (15, .bastore, 1, 16), (16, .iinc 2 1, 3, 19), (19, .goto (-17), 3, 22), (22, .aload_n 0, 1, 23), (23, .iload_n 1, 1, 24), (24, .aload_n 0, 1, 25), (25, .getfield 28, 3, 28), (28, .invokevirtual 349, 3, 31), (31, .aload_n 0, 1, 32), (32, .bipush 100, 2, 34), (34, .invokevirtual 352, 3, 37), (37, .iconst 0, 1, 38), (38, .istore_n 2, 1, 39), (39, .iload_n 2, 1, 40), (40, .aload_n 0, 1, 41), (41, .getfield 144, 3, 44), (44, .if_icmp .ge 35, 3, 47), (47, .aload_n 0, 1, 48), (48, .getfield 135, 3, 51), (51, .bipush 10, 2, 53), (53, .aload_n 0, 1, 54), (54, .getfield 147, 3, 57), (57, .iload_n 2, 1, 58), (58, .iaload, 1, 59), (59, .imul, 1, 60), (60, .aload_n 0, 1, 61), (61, .getfield 150, 3, 64), (64, .iload_n 2, 1, 65), (65, .iaload, 1, 66), (66, .iadd, 1, 67), (67, .baload, 1, 68), (68, .ifCond .ne 5, 3, 71), (71, .iload_n 2, 1, 72), (72, .ireturn, 1, 73), (73, .iinc 2 1, 3, 76), (76, .goto (-37), 3, 79), (79, .bipush (-5), 2, 81), (81, .ireturn, 1, 82)] := by unfold dcl; decide +kernel
set_option maxRecDepth 20000 in
theorem DX12_looked : dcl mX12_looked.2.1 [(0, .aload_n 0, 1, 1), (1, .aload_n 0, 1, 2), (2, .getfield 25, 3, 5), (5, .invokevirtual 374, 3, 8), (8, .ireturn, 1, 9)] := by unfold dcl; decide +kernel
set_option maxRecDepth 20000 in
theorem DX12_fits : dcl mX12_fits.2.1 [(0, .aload_n 0, 1, 1), (1, .getfield 7, 3, 4), (4, .bipush 8, 2, 6), (6, .if_icmp .le 6, 3, 9), (9, .bipush (-9), 2, 11), (11, .ireturn, 1, 12), (12, .iconst 0, 1, 13), (13, .istore_n 1, 1, 14), (14, .iconst 0, 1, 15), (15, .istore_n 2, 1, 16), (16, .iload_n 2, 1, 17), (17, .iconst 1, 1, 18), (18, .aload_n 0, 1, 19), (19, .getfield 7, 3, 22), (22, .ishl, 1, 23), (23, .if_icmp .ge 25, 3, 26), (26, .iload_n 1, 1, 27), (27, .aload_n 0, 1, 28), (28, .iload_n 2, 1, 29), (29, .invokevirtual 374, 3, 32), (32, .ifCond .ge 7, 3, 35), (35, .iconst 1, 1, 36), (36, .goto 4, 3, 39), (39, .iconst 0, 1, 40), (40, .iadd, 1, 41), (41, .istore_n 1, 1, 42), (42, .iinc 2 1, 3, 45), (45, .goto (-29), 3, 48), (48, .iload_n 1, 1, 49), (49, .ireturn, 1, 50)] := by unfold dcl; decide +kernel
set_option maxRecDepth 20000 in
theorem DX12_divisor : dcl mX12_divisor.2.1 [(0, .lload_n 1, 1, 1), (1, .lstore 5, 2, 3), (3, .lload_n 3, 1, 4), (4, .lstore 7, 2, 6), (6, .lload 7, 2, 8), (8, .lconst 0, 1, 9), (9, .lcmp, 1, 10), (10, .ifCond .eq 21, 3, 13), (13, .lload 5, 2, 15), (15, .lload 7, 2, 17), (17, .lrem, 1, 18), (18, .lstore 9, 2, 20), (20, .lload 7, 2, 22), (22, .lstore 5, 2, 24), (24, .lload 9, 2, 26), (26, .lstore 7, 2, 28), (28, .goto (-22), 3, 31), (31, .lload 5, 2, 33), (33, .lreturn, 1, 34)] := by unfold dcl; decide +kernel
set_option maxRecDepth 20000 in
theorem DX12_comesIn : dcl mX12_comesIn.2.1 [(0, .aload_n 0, 1, 1), (1, .getfield 13, 3, 4), (4, .istore_n 3, 1, 5), (5, .iload_n 3, 1, 6), (6, .aload_n 0, 1, 7), (7, .getfield 13, 3, 10), (10, .iload_n 2, 1, 11), (11, .iadd, 1, 12), (12, .if_icmp .ge 20, 3, 15), (15, .aload_n 0, 1, 16), (16, .iload_n 1, 1, 17), (17, .iload_n 3, 1, 18), (18, .invokevirtual 339, 3, 21), (21, .ifCond .eq 5, 3, 24), (24, .iconst 1, 1, 25), (25, .ireturn, 1, 26), (26, .iinc 3 1, 3, 29), (29, .goto (-24), 3, 32), (32, .iconst 0, 1, 33), (33, .ireturn, 1, 34)] := by unfold dcl; decide +kernel
set_option maxRecDepth 20000 in
theorem DX12_chance_0 : dcl mX12_chance.2.1 [(0, .aload_n 0, 1, 1), (1, .iload_n 1, 1, 2), (2, .iconst 0, 1, 3), (3, .bipush 60, 2, 5), (5, .invokevirtual 233, 3, 8), (8, .ifCond .eq 13, 3, 11), (11, .aload_n 0, 1, 12), (12, .iload_n 2, 1, 13), (13, .iconst 0, 1, 14), (14, .iconst 1, 1, 15), (15, .invokevirtual 233, 3, 18), (18, .ifCond .ne 7, 3, 21), (21, .ldc2_w 377, 3, 24), (24, .lreturn, 1, 25), (25, .lconst 1, 1, 26), (26, .lstore_n 3, 1, 27), (27, .lconst 1, 1, 28), (28, .lstore 5, 2, 30), (30, .iconst 0, 1, 31), (31, .istore 7, 2, 33), (33, .iload 7, 2, 35), (35, .aload_n 0, 1, 36), (36, .getfield 7, 3, 39), (39, .if_icmp .ge 54, 3, 42), (42, .aload_n 0, 1, 43), (43, .aload_n 0, 1, 44), (44, .getfield 28, 3, 47), (47, .iload 7, 2, 49), (49, .invokevirtual 245, 3, 52), (52, .ifCond .ne 35, 3, 55), (55, .aload_n 0, 1, 56), (56, .iload 7, 2, 58), (58, .iload_n 1, 1, 59), (59, .invokevirtual 379, 3, 62), (62, .ifCond .ne 6, 3, 65), (65, .goto 22, 3, 68), (68, .lload_n 3, 1, 69), (69, .aload_n 0, 1, 70), (70, .getfield 50, 3, 73), (73, .iload 7, 2, 75), (75, .iaload, 1, 76), (76, .i2l, 1, 77), (77, .lmul, 1, 78), (78, .lstore_n 3, 1, 79), (79, .lload 5, 2, 81), (81, .ldc2_w 382, 3, 84), (84, .lmul, 1, 85), (85, .lstore 5, 2, 87), (87, .iinc 7 1, 3, 90), (90, .goto (-57), 3, 93), (93, .aload_n 0, 1, 94), (94, .lload_n 3, 1, 95), (95, .lload 5, 2, 97), (97, .invokevirtual 384, 3, 100), (100, .lstore 7, 2, 102), (102, .iload_n 2, 1, 103), (103, .ifCond .ne 10, 3, 106), (106, .lload_n 3, 1, 107), (107, .lload 7, 2, 109), (109, .ldiv, 1, 110)] := by unfold dcl; decide +kernel
set_option maxRecDepth 20000 in
theorem DX12_chance_1 : dcl mX12_chance.2.1 [(110, .goto 8, 3, 113), (113, .lload 5, 2, 115), (115, .lload 7, 2, 117), (117, .ldiv, 1, 118), (118, .lreturn, 1, 119)] := by unfold dcl; decide +kernel
set_option maxRecDepth 20000 in
theorem DX12_judge_0 : dcl mX12_judge.2.1 [(0, .aload_n 0, 1, 1), (1, .iload_n 1, 1, 2), (2, .invokevirtual 388, 3, 5), (5, .ifCond .ne 5, 3, 8), (8, .iconst (-1), 1, 9), (9, .ireturn, 1, 10), (10, .aload_n 0, 1, 11), (11, .getfield 220, 3, 14), (14, .iload_n 1, 1, 15), (15, .iaload, 1, 16), (16, .ifCond .lt 16, 3, 19), (19, .aload_n 0, 1, 20), (20, .getfield 220, 3, 23), (23, .iload_n 1, 1, 24), (24, .iaload, 1, 25), (25, .iconst 4, 1, 26), (26, .if_icmp .eq 6, 3, 29), (29, .bipush (-12), 2, 31), (31, .ireturn, 1, 32), (32, .iconst 0, 1, 33), (33, .istore_n 3, 1, 34), (34, .iload_n 3, 1, 35), (35, .aload_n 0, 1, 36), (36, .getfield 7, 3, 39), (39, .if_icmp .ge 77, 3, 42), (42, .aload_n 0, 1, 43), (43, .getfield 220, 3, 46), (46, .iload_n 1, 1, 47), (47, .iaload, 1, 48), (48, .ifCond .lt 21, 3, 51), (51, .iload_n 2, 1, 52), (52, .ifCond .lt 17, 3, 55), (55, .iload_n 2, 1, 56), (56, .aload_n 0, 1, 57), (57, .getfield 223, 3, 60), (60, .iload_n 1, 1, 61), (61, .iaload, 1, 62), (62, .iload_n 3, 1, 63), (63, .isub, 1, 64), (64, .iconst 1, 1, 65), (65, .isub, 1, 66), (66, .if_icmp .le 8, 3, 69), (69, .bipush 100, 2, 71), (71, .iload_n 3, 1, 72), (72, .iadd, 1, 73), (73, .ireturn, 1, 74), (74, .aload_n 0, 1, 75), (75, .getfield 226, 3, 78), (78, .bipush 60, 2, 80), (80, .iload_n 1, 1, 81), (81, .imul, 1, 82), (82, .iload_n 2, 1, 83), (83, .iadd, 1, 84), (84, .iload_n 3, 1, 85), (85, .iadd, 1, 86), (86, .laload, 1, 87), (87, .aload_n 0, 1, 88), (88, .aload_n 0, 1, 89), (89, .getfield 25, 3, 92), (92, .iload_n 3, 1, 93)] := by unfold dcl; decide +kernel
set_option maxRecDepth 20000 in
theorem DX12_judge_1 : dcl mX12_judge.2.1 [(93, .invokevirtual 245, 3, 96), (96, .ifCond .eq 7, 3, 99), (99, .lconst 1, 1, 100), (100, .goto 4, 3, 103), (103, .lconst 0, 1, 104), (104, .lcmp, 1, 105), (105, .ifCond .eq 5, 3, 108), (108, .iload_n 3, 1, 109), (109, .ireturn, 1, 110), (110, .iinc 3 1, 3, 113), (113, .goto (-79), 3, 116), (116, .bipush (-5), 2, 118), (118, .ireturn, 1, 119)] := by unfold dcl; decide +kernel
set_option maxRecDepth 20000 in
theorem DX12_image_0 : dcl mX12_image.2.1 [(0, .aload_n 0, 1, 1), (1, .iconst 1, 1, 2), (2, .putfield 153, 3, 5), (5, .aload_n 0, 1, 6), (6, .aload_n 0, 1, 7), (7, .getfield 59, 3, 10), (10, .putfield 157, 3, 13), (13, .aload_n 0, 1, 14), (14, .aload_n 0, 1, 15), (15, .getfield 7, 3, 18), (18, .putfield 160, 3, 21), (21, .aload_n 0, 1, 22), (22, .aload_n 0, 1, 23), (23, .getfield 13, 3, 26), (26, .putfield 163, 3, 29), (29, .aload_n 0, 1, 30), (30, .aload_n 0, 1, 31), (31, .getfield 16, 3, 34), (34, .putfield 166, 3, 37), (37, .aload_n 0, 1, 38), (38, .aload_n 0, 1, 39), (39, .getfield 19, 3, 42), (42, .putfield 169, 3, 45), (45, .aload_n 0, 1, 46), (46, .aload_n 0, 1, 47), (47, .getfield 22, 3, 50), (50, .putfield 172, 3, 53), (53, .aload_n 0, 1, 54), (54, .aload_n 0, 1, 55), (55, .getfield 25, 3, 58), (58, .putfield 175, 3, 61), (61, .aload_n 0, 1, 62), (62, .aload_n 0, 1, 63), (63, .getfield 28, 3, 66), (66, .putfield 178, 3, 69), (69, .aload_n 0, 1, 70), (70, .aload_n 0, 1, 71), (71, .getfield 144, 3, 74), (74, .putfield 181, 3, 77), (77, .iconst 0, 1, 78), (78, .istore_n 1, 1, 79), (79, .iload_n 1, 1, 80), (80, .bipush 10, 2, 82), (82, .if_icmp .ge 93, 3, 85), (85, .aload_n 0, 1, 86), (86, .getfield 184, 3, 89), (89, .iload_n 1, 1, 90), (90, .aload_n 0, 1, 91), (91, .getfield 31, 3, 94), (94, .iload_n 1, 1, 95), (95, .iaload, 1, 96), (96, .iastore, 1, 97), (97, .aload_n 0, 1, 98), (98, .getfield 187, 3, 101), (101, .iload_n 1, 1, 102), (102, .aload_n 0, 1, 103), (103, .getfield 35, 3, 106), (106, .iload_n 1, 1, 107), (107, .iaload, 1, 108), (108, .iastore, 1, 109)] := by unfold dcl; decide +kernel
set_option maxRecDepth 20000 in
theorem DX12_image_1 : dcl mX12_image.2.1 [(109, .aload_n 0, 1, 110), (110, .getfield 190, 3, 113), (113, .iload_n 1, 1, 114), (114, .aload_n 0, 1, 115), (115, .getfield 38, 3, 118), (118, .iload_n 1, 1, 119), (119, .iaload, 1, 120), (120, .iastore, 1, 121), (121, .aload_n 0, 1, 122), (122, .getfield 193, 3, 125), (125, .iload_n 1, 1, 126), (126, .aload_n 0, 1, 127), (127, .getfield 41, 3, 130), (130, .iload_n 1, 1, 131), (131, .iaload, 1, 132), (132, .iastore, 1, 133), (133, .aload_n 0, 1, 134), (134, .getfield 196, 3, 137), (137, .iload_n 1, 1, 138), (138, .aload_n 0, 1, 139), (139, .getfield 44, 3, 142), (142, .iload_n 1, 1, 143), (143, .iaload, 1, 144), (144, .iastore, 1, 145), (145, .aload_n 0, 1, 146), (146, .getfield 199, 3, 149), (149, .iload_n 1, 1, 150), (150, .aload_n 0, 1, 151), (151, .getfield 47, 3, 154), (154, .iload_n 1, 1, 155), (155, .iaload, 1, 156), (156, .iastore, 1, 157), (157, .aload_n 0, 1, 158), (158, .getfield 202, 3, 161), (161, .iload_n 1, 1, 162), (162, .aload_n 0, 1, 163), (163, .getfield 50, 3, 166), (166, .iload_n 1, 1, 167), (167, .iaload, 1, 168), (168, .iastore, 1, 169), (169, .iinc 1 1, 3, 172), (172, .goto (-93), 3, 175), (175, .iconst 0, 1, 176), (176, .istore_n 1, 1, 177), (177, .iload_n 1, 1, 178), (178, .iconst 4, 1, 179), (179, .if_icmp .ge 21, 3, 182), (182, .aload_n 0, 1, 183), (183, .getfield 205, 3, 186), (186, .iload_n 1, 1, 187), (187, .aload_n 0, 1, 188), (188, .getfield 53, 3, 191), (191, .iload_n 1, 1, 192), (192, .iaload, 1, 193), (193, .iastore, 1, 194), (194, .iinc 1 1, 3, 197), (197, .goto (-20), 3, 200), (200, .iconst 0, 1, 201), (201, .istore_n 1, 1, 202), (202, .iload_n 1, 1, 203)] := by unfold dcl; decide +kernel
set_option maxRecDepth 20000 in
theorem DX12_image_2 : dcl mX12_image.2.1 [(203, .bipush 12, 2, 205), (205, .if_icmp .ge 33, 3, 208), (208, .aload_n 0, 1, 209), (209, .getfield 208, 3, 212), (212, .iload_n 1, 1, 213), (213, .aload_n 0, 1, 214), (214, .getfield 147, 3, 217), (217, .iload_n 1, 1, 218), (218, .iaload, 1, 219), (219, .iastore, 1, 220), (220, .aload_n 0, 1, 221), (221, .getfield 211, 3, 224), (224, .iload_n 1, 1, 225), (225, .aload_n 0, 1, 226), (226, .getfield 150, 3, 229), (229, .iload_n 1, 1, 230), (230, .iaload, 1, 231), (231, .iastore, 1, 232), (232, .iinc 1 1, 3, 235), (235, .goto (-33), 3, 238), (238, .aload_n 0, 1, 239), (239, .getfield 7, 3, 242), (242, .ireturn, 1, 243)] := by unfold dcl; decide +kernel
set_option maxRecDepth 20000 in
theorem DX12_undo_0 : dcl mX12_undo.2.1 [(0, .aload_n 0, 1, 1), (1, .getfield 153, 3, 4), (4, .ifCond .ne 6, 3, 7), (7, .bipush (-3), 2, 9), (9, .ireturn, 1, 10), (10, .aload_n 0, 1, 11), (11, .aload_n 0, 1, 12), (12, .getfield 157, 3, 15), (15, .putfield 59, 3, 18), (18, .aload_n 0, 1, 19), (19, .aload_n 0, 1, 20), (20, .getfield 160, 3, 23), (23, .putfield 7, 3, 26), (26, .aload_n 0, 1, 27), (27, .aload_n 0, 1, 28), (28, .getfield 163, 3, 31), (31, .putfield 13, 3, 34), (34, .aload_n 0, 1, 35), (35, .aload_n 0, 1, 36), (36, .getfield 166, 3, 39), (39, .putfield 16, 3, 42), (42, .aload_n 0, 1, 43), (43, .aload_n 0, 1, 44), (44, .getfield 169, 3, 47), (47, .putfield 19, 3, 50), (50, .aload_n 0, 1, 51), (51, .aload_n 0, 1, 52), (52, .getfield 172, 3, 55), (55, .putfield 22, 3, 58), (58, .aload_n 0, 1, 59), (59, .aload_n 0, 1, 60), (60, .getfield 175, 3, 63), (63, .putfield 25, 3, 66), (66, .aload_n 0, 1, 67), (67, .aload_n 0, 1, 68), (68, .getfield 178, 3, 71), (71, .putfield 28, 3, 74), (74, .aload_n 0, 1, 75), (75, .aload_n 0, 1, 76), (76, .getfield 181, 3, 79), (79, .putfield 144, 3, 82), (82, .iconst 0, 1, 83), (83, .istore_n 1, 1, 84), (84, .iload_n 1, 1, 85), (85, .bipush 10, 2, 87), (87, .if_icmp .ge 93, 3, 90), (90, .aload_n 0, 1, 91), (91, .getfield 31, 3, 94), (94, .iload_n 1, 1, 95), (95, .aload_n 0, 1, 96), (96, .getfield 184, 3, 99), (99, .iload_n 1, 1, 100), (100, .iaload, 1, 101), (101, .iastore, 1, 102), (102, .aload_n 0, 1, 103), (103, .getfield 35, 3, 106), (106, .iload_n 1, 1, 107), (107, .aload_n 0, 1, 108), (108, .getfield 187, 3, 111), (111, .iload_n 1, 1, 112)] := by unfold dcl; decide +kernel
set_option maxRecDepth 20000 in
theorem DX12_undo_1 : dcl mX12_undo.2.1 [(112, .iaload, 1, 113), (113, .iastore, 1, 114), (114, .aload_n 0, 1, 115), (115, .getfield 38, 3, 118), (118, .iload_n 1, 1, 119), (119, .aload_n 0, 1, 120), (120, .getfield 190, 3, 123), (123, .iload_n 1, 1, 124), (124, .iaload, 1, 125), (125, .iastore, 1, 126), (126, .aload_n 0, 1, 127), (127, .getfield 41, 3, 130), (130, .iload_n 1, 1, 131), (131, .aload_n 0, 1, 132), (132, .getfield 193, 3, 135), (135, .iload_n 1, 1, 136), (136, .iaload, 1, 137), (137, .iastore, 1, 138), (138, .aload_n 0, 1, 139), (139, .getfield 44, 3, 142), (142, .iload_n 1, 1, 143), (143, .aload_n 0, 1, 144), (144, .getfield 196, 3, 147), (147, .iload_n 1, 1, 148), (148, .iaload, 1, 149), (149, .iastore, 1, 150), (150, .aload_n 0, 1, 151), (151, .getfield 47, 3, 154), (154, .iload_n 1, 1, 155), (155, .aload_n 0, 1, 156), (156, .getfield 199, 3, 159), (159, .iload_n 1, 1, 160), (160, .iaload, 1, 161), (161, .iastore, 1, 162), (162, .aload_n 0, 1, 163), (163, .getfield 50, 3, 166), (166, .iload_n 1, 1, 167), (167, .aload_n 0, 1, 168), (168, .getfield 202, 3, 171), (171, .iload_n 1, 1, 172), (172, .iaload, 1, 173), (173, .iastore, 1, 174), (174, .iinc 1 1, 3, 177), (177, .goto (-93), 3, 180), (180, .iconst 0, 1, 181), (181, .istore_n 1, 1, 182), (182, .iload_n 1, 1, 183), (183, .iconst 4, 1, 184), (184, .if_icmp .ge 21, 3, 187), (187, .aload_n 0, 1, 188), (188, .getfield 53, 3, 191), (191, .iload_n 1, 1, 192), (192, .aload_n 0, 1, 193), (193, .getfield 205, 3, 196), (196, .iload_n 1, 1, 197), (197, .iaload, 1, 198), (198, .iastore, 1, 199), (199, .iinc 1 1, 3, 202), (202, .goto (-20), 3, 205), (205, .iconst 0, 1, 206)] := by unfold dcl; decide +kernel
set_option maxRecDepth 20000 in
theorem DX12_undo_2 : dcl mX12_undo.2.1 [(206, .istore_n 1, 1, 207), (207, .iload_n 1, 1, 208), (208, .bipush 12, 2, 210), (210, .if_icmp .ge 33, 3, 213), (213, .aload_n 0, 1, 214), (214, .getfield 147, 3, 217), (217, .iload_n 1, 1, 218), (218, .aload_n 0, 1, 219), (219, .getfield 208, 3, 222), (222, .iload_n 1, 1, 223), (223, .iaload, 1, 224), (224, .iastore, 1, 225), (225, .aload_n 0, 1, 226), (226, .getfield 150, 3, 229), (229, .iload_n 1, 1, 230), (230, .aload_n 0, 1, 231), (231, .getfield 211, 3, 234), (234, .iload_n 1, 1, 235), (235, .iaload, 1, 236), (236, .iastore, 1, 237), (237, .iinc 1 1, 3, 240), (240, .goto (-33), 3, 243), (243, .aload_n 0, 1, 244), (244, .getfield 7, 3, 247), (247, .ireturn, 1, 248)] := by unfold dcl; decide +kernel
set_option maxRecDepth 20000 in
theorem DX12_body : dcl mX12_body.2.1 [(0, .aload_n 0, 1, 1), (1, .getfield 214, 3, 4), (4, .bipush 20, 2, 6), (6, .if_icmp .ge 13, 3, 9), (9, .aload_n 0, 1, 10), (10, .getfield 217, 3, 13), (13, .aload_n 0, 1, 14), (14, .getfield 214, 3, 17), (17, .iload_n 1, 1, 18), (18, .iastore, 1, 19), (19, .aload_n 0, 1, 20), (20, .dup, 1, 21), (21, .getfield 214, 3, 24), (24, .iconst 1, 1, 25), (25, .iadd, 1, 26), (26, .putfield 214, 3, 29), (29, .return_, 1, 30)] := by unfold dcl; decide +kernel
set_option maxRecDepth 20000 in
theorem DX12_knowingSays : dcl mX12_knowingSays.2.1 [(0, .aload_n 0, 1, 1), (1, .bipush 10, 2, 3), (3, .invokevirtual 391, 3, 6), (6, .iload_n 2, 1, 7), (7, .iload_n 1, 1, 8), (8, .iadd, 1, 9), (9, .ireturn, 1, 10)] := by unfold dcl; decide +kernel
set_option maxRecDepth 20000 in
theorem DX12_saysAct : dcl mX12_saysAct.2.1 [(0, .aload_n 0, 1, 1), (1, .getfield 31, 3, 4), (4, .iload_n 1, 1, 5), (5, .iaload, 1, 6), (6, .tableswitch 83 2 6 #[34, 83, 49, 34, 63], 34, 40), (40, .aload_n 0, 1, 41), (41, .bipush 30, 2, 43), (43, .invokevirtual 391, 3, 46), (46, .aload_n 0, 1, 47), (47, .iload_n 1, 1, 48), (48, .iload_n 2, 1, 49), (49, .iconst 3, 1, 50), (50, .imul, 1, 51), (51, .invokevirtual 394, 3, 54), (54, .ireturn, 1, 55), (55, .aload_n 0, 1, 56), (56, .bipush 50, 2, 58), (58, .invokevirtual 391, 3, 61), (61, .aload_n 0, 1, 62), (62, .iload_n 1, 1, 63), (63, .iload_n 2, 1, 64), (64, .invokevirtual 394, 3, 67), (67, .ineg, 1, 68), (68, .ireturn, 1, 69), (69, .aload_n 0, 1, 70), (70, .bipush 71, 2, 72), (72, .invokevirtual 391, 3, 75), (75, .aload_n 0, 1, 76), (76, .iload_n 1, 1, 77), (77, .iload_n 2, 1, 78), (78, .invokevirtual 394, 3, 81), (81, .aload_n 0, 1, 82), (82, .getfield 35, 3, 85), (85, .iload_n 1, 1, 86), (86, .iaload, 1, 87), (87, .ixor, 1, 88), (88, .ireturn, 1, 89), (89, .aload_n 0, 1, 90), (90, .iload_n 1, 1, 91), (91, .iload_n 2, 1, 92), (92, .invokevirtual 394, 3, 95), (95, .ireturn, 1, 96)] := by unfold dcl; decide +kernel
set_option maxRecDepth 20000 in
theorem DX12_knowingHolds : dcl mX12_knowingHolds.2.1 [(0, .aload_n 0, 1, 1), (1, .bipush 11, 2, 3), (3, .invokevirtual 391, 3, 6), (6, .aload_n 0, 1, 7), (7, .iload_n 1, 1, 8), (8, .iload_n 2, 1, 9), (9, .invokevirtual 397, 3, 12), (12, .aload_n 0, 1, 13), (13, .getfield 35, 3, 16), (16, .iload_n 1, 1, 17), (17, .iaload, 1, 18), (18, .isub, 1, 19), (19, .ireturn, 1, 20)] := by unfold dcl; decide +kernel
set_option maxRecDepth 20000 in
theorem DX12_writtenHolds : dcl mX12_writtenHolds.2.1 [(0, .aload_n 0, 1, 1), (1, .bipush 20, 2, 3), (3, .invokevirtual 391, 3, 6), (6, .aload_n 0, 1, 7), (7, .iload_n 1, 1, 8), (8, .iload_n 2, 1, 9), (9, .invokevirtual 400, 3, 12), (12, .bipush 6, 2, 14), (14, .ixor, 1, 15), (15, .ireturn, 1, 16)] := by unfold dcl; decide +kernel
set_option maxRecDepth 20000 in
theorem DX12_holdsAct : dcl mX12_holdsAct.2.1 [(0, .aload_n 0, 1, 1), (1, .getfield 31, 3, 4), (4, .iload_n 1, 1, 5), (5, .iaload, 1, 6), (6, .lookupswitch 78 #[(1, 34), (4, 41), (6, 56)], 34, 40), (40, .aload_n 0, 1, 41), (41, .iload_n 1, 1, 42), (42, .iload_n 2, 1, 43), (43, .invokevirtual 403, 3, 46), (46, .ireturn, 1, 47), (47, .aload_n 0, 1, 48), (48, .bipush 51, 2, 50), (50, .invokevirtual 391, 3, 53), (53, .aload_n 0, 1, 54), (54, .iload_n 1, 1, 55), (55, .iload_n 2, 1, 56), (56, .iconst 1, 1, 57), (57, .iadd, 1, 58), (58, .invokevirtual 403, 3, 61), (61, .ireturn, 1, 62), (62, .aload_n 0, 1, 63), (63, .bipush 70, 2, 65), (65, .invokevirtual 391, 3, 68), (68, .aload_n 0, 1, 69), (69, .iload_n 1, 1, 70), (70, .iload_n 2, 1, 71), (71, .invokevirtual 400, 3, 74), (74, .istore_n 3, 1, 75), (75, .iload_n 3, 1, 76), (76, .aload_n 0, 1, 77), (77, .iload_n 1, 1, 78), (78, .iconst 2, 1, 79), (79, .invokevirtual 394, 3, 82), (82, .iadd, 1, 83), (83, .ireturn, 1, 84), (84, .aload_n 0, 1, 85), (85, .iload_n 1, 1, 86), (86, .iload_n 2, 1, 87), (87, .invokevirtual 400, 3, 90), (90, .ireturn, 1, 91)] := by unfold dcl; decide +kernel
set_option maxRecDepth 20000 in
theorem DX12_knowingTells : dcl mX12_knowingTells.2.1 [(0, .aload_n 0, 1, 1), (1, .bipush 12, 2, 3), (3, .invokevirtual 391, 3, 6), (6, .aload_n 0, 1, 7), (7, .iload_n 1, 1, 8), (8, .iload_n 2, 1, 9), (9, .invokevirtual 406, 3, 12), (12, .iconst 2, 1, 13), (13, .imul, 1, 14), (14, .ireturn, 1, 15)] := by unfold dcl; decide +kernel
set_option maxRecDepth 20000 in
theorem DX12_tellsAct : dcl mX12_tellsAct.2.1 [(0, .aload_n 0, 1, 1), (1, .getfield 31, 3, 4), (4, .iload_n 1, 1, 5), (5, .iaload, 1, 6), (6, .tableswitch 67 3 6 #[30, 67, 52, 30], 30, 36), (36, .aload_n 0, 1, 37), (37, .bipush 40, 2, 39), (39, .invokevirtual 391, 3, 42), (42, .aload_n 0, 1, 43), (43, .iload_n 1, 1, 44), (44, .iload_n 2, 1, 45), (45, .invokevirtual 409, 3, 48), (48, .istore_n 3, 1, 49), (49, .iload_n 3, 1, 50), (50, .aload_n 0, 1, 51), (51, .iload_n 1, 1, 52), (52, .iconst 1, 1, 53), (53, .invokevirtual 406, 3, 56), (56, .iadd, 1, 57), (57, .ireturn, 1, 58), (58, .aload_n 0, 1, 59), (59, .bipush 60, 2, 61), (61, .invokevirtual 391, 3, 64), (64, .aload_n 0, 1, 65), (65, .iload_n 1, 1, 66), (66, .iload_n 2, 1, 67), (67, .iload_n 1, 1, 68), (68, .isub, 1, 69), (69, .invokevirtual 409, 3, 72), (72, .ireturn, 1, 73), (73, .aload_n 0, 1, 74), (74, .iload_n 1, 1, 75), (75, .iload_n 2, 1, 76), (76, .invokevirtual 409, 3, 79), (79, .ireturn, 1, 80)] := by unfold dcl; decide +kernel
set_option maxRecDepth 20000 in
theorem DX12_act : dcl mX12_act.2.1 [(0, .aload_n 0, 1, 1), (1, .iconst 0, 1, 2), (2, .putfield 214, 3, 5), (5, .aload_n 0, 1, 6), (6, .iload_n 1, 1, 7), (7, .invokevirtual 241, 3, 10), (10, .ifCond .eq 13, 3, 13), (13, .aload_n 0, 1, 14), (14, .iload_n 2, 1, 15), (15, .iconst 0, 1, 16), (16, .iconst 2, 1, 17), (17, .invokevirtual 233, 3, 20), (20, .ifCond .ne 5, 3, 23), (23, .iconst 0, 1, 24), (24, .ireturn, 1, 25), (25, .iload_n 2, 1, 26), (26, .ifCond .ne 12, 3, 29), (29, .aload_n 0, 1, 30), (30, .iload_n 1, 1, 31), (31, .iload_n 3, 1, 32), (32, .invokevirtual 397, 3, 35), (35, .goto 23, 3, 38), (38, .iload_n 2, 1, 39), (39, .iconst 1, 1, 40), (40, .if_icmp .ne 12, 3, 43), (43, .aload_n 0, 1, 44), (44, .iload_n 1, 1, 45), (45, .iload_n 3, 1, 46), (46, .invokevirtual 406, 3, 49), (49, .goto 9, 3, 52), (52, .aload_n 0, 1, 53), (53, .iload_n 1, 1, 54), (54, .iload_n 3, 1, 55), (55, .invokevirtual 412, 3, 58), (58, .ireturn, 1, 59)] := by unfold dcl; decide +kernel
set_option maxRecDepth 20000 in
theorem DX12_trace : dcl mX12_trace.2.1 [(0, .aload_n 0, 1, 1), (1, .iload_n 1, 1, 2), (2, .iconst 0, 1, 3), (3, .bipush 19, 2, 5), (5, .invokevirtual 233, 3, 8), (8, .ifCond .eq 20, 3, 11), (11, .iload_n 1, 1, 12), (12, .aload_n 0, 1, 13), (13, .getfield 214, 3, 16), (16, .if_icmp .ge 12, 3, 19), (19, .aload_n 0, 1, 20), (20, .getfield 217, 3, 23), (23, .iload_n 1, 1, 24), (24, .iaload, 1, 25), (25, .goto 4, 3, 28), (28, .iconst (-1), 1, 29), (29, .ireturn, 1, 30)] := by unfold dcl; decide +kernel
set_option maxRecDepth 20000 in
theorem DX12_taken : dcl mX12_taken.2.1 [(0, .aload_n 0, 1, 1), (1, .iload_n 2, 1, 2), (2, .iconst 0, 1, 3), (3, .bipush 6, 2, 5), (5, .invokevirtual 233, 3, 8), (8, .ifCond .ne 6, 3, 11), (11, .bipush (-2), 2, 13), (13, .ireturn, 1, 14), (14, .aload_n 0, 1, 15), (15, .iload_n 1, 1, 16), (16, .invokevirtual 241, 3, 19), (19, .ifCond .ne 6, 3, 22), (22, .bipush (-11), 2, 24), (24, .ireturn, 1, 25), (25, .aload_n 0, 1, 26), (26, .getfield 31, 3, 29), (29, .iload_n 1, 1, 30), (30, .iaload, 1, 31), (31, .istore_n 3, 1, 32), (32, .iload_n 2, 1, 33), (33, .ifCond .eq 39, 3, 36), (36, .iload_n 3, 1, 37), (37, .iload_n 2, 1, 38), (38, .if_icmp .eq 34, 3, 41), (41, .iload_n 2, 1, 42), (42, .iconst 1, 1, 43), (43, .if_icmp .ne 8, 3, 46), (46, .iload_n 3, 1, 47), (47, .iconst 4, 1, 48), (48, .if_icmp .eq 24, 3, 51), (51, .iload_n 2, 1, 52), (52, .iconst 2, 1, 53), (53, .if_icmp .ne 8, 3, 56), (56, .iload_n 3, 1, 57), (57, .iconst 5, 1, 58), (58, .if_icmp .eq 14, 3, 61), (61, .iload_n 2, 1, 62), (62, .iconst 3, 1, 63), (63, .if_icmp .ne 13, 3, 66), (66, .iload_n 3, 1, 67), (67, .bipush 6, 2, 69), (69, .if_icmp .ne 7, 3, 72), (72, .iload_n 3, 1, 73), (73, .goto 5, 3, 76), (76, .bipush (-12), 2, 78), (78, .ireturn, 1, 79)] := by unfold dcl; decide +kernel
set_option maxRecDepth 20000 in
theorem DX12_count : dcl mX12_count.2.1 [(0, .iload_n 1, 1, 1), (1, .tableswitch 73 0 5 #[39, 44, 49, 54, 59, 64], 39, 40), (40, .aload_n 0, 1, 41), (41, .getfield 7, 3, 44), (44, .ireturn, 1, 45), (45, .aload_n 0, 1, 46), (46, .getfield 56, 3, 49), (49, .ireturn, 1, 50), (50, .aload_n 0, 1, 51), (51, .getfield 144, 3, 54), (54, .ireturn, 1, 55), (55, .aload_n 0, 1, 56), (56, .getfield 62, 3, 59), (59, .ireturn, 1, 60), (60, .aload_n 0, 1, 61), (61, .getfield 214, 3, 64), (64, .ireturn, 1, 65), (65, .aload_n 0, 1, 66), (66, .aload_n 0, 1, 67), (67, .getfield 25, 3, 70), (70, .invokevirtual 333, 3, 73), (73, .ireturn, 1, 74), (74, .bipush (-2), 2, 76), (76, .ireturn, 1, 77)] := by unfold dcl; decide +kernel
set_option maxRecDepth 20000 in
theorem DX12_isTape : dcl mX12_isTape.2.1 [(0, .aload_n 0, 1, 1), (1, .iload_n 1, 1, 2), (2, .iconst 0, 1, 3), (3, .iconst 5, 1, 4), (4, .invokevirtual 233, 3, 7), (7, .ireturn, 1, 8)] := by unfold dcl; decide +kernel
set_option maxRecDepth 20000 in
theorem DX12_tape : dcl mX12_tape.2.1 [(0, .aload_n 0, 1, 1), (1, .iload_n 1, 1, 2), (2, .invokevirtual 388, 3, 5), (5, .ifCond .ne 5, 3, 8), (8, .iconst (-1), 1, 9), (9, .ireturn, 1, 10), (10, .aload_n 0, 1, 11), (11, .iload_n 2, 1, 12), (12, .iconst (-1), 1, 13), (13, .iconst 4, 1, 14), (14, .invokevirtual 233, 3, 17), (17, .ifCond .eq 13, 3, 20), (20, .iload_n 2, 1, 21), (21, .ifCond .lt 12, 3, 24), (24, .iload_n 3, 1, 25), (25, .bipush 60, 2, 27), (27, .if_icmp .le 6, 3, 30), (30, .bipush (-2), 2, 32), (32, .ireturn, 1, 33), (33, .iload_n 2, 1, 34), (34, .ifCond .lt 10, 3, 37), (37, .iload_n 3, 1, 38), (38, .ifCond .ge 6, 3, 41), (41, .bipush (-14), 2, 43), (43, .ireturn, 1, 44), (44, .aload_n 0, 1, 45), (45, .getfield 220, 3, 48), (48, .iload_n 1, 1, 49), (49, .iload_n 2, 1, 50), (50, .iastore, 1, 51), (51, .aload_n 0, 1, 52), (52, .getfield 223, 3, 55), (55, .iload_n 1, 1, 56), (56, .iload_n 2, 1, 57), (57, .ifCond .ge 7, 3, 60), (60, .iconst 0, 1, 61), (61, .goto 4, 3, 64), (64, .iload_n 3, 1, 65), (65, .iastore, 1, 66), (66, .iconst 0, 1, 67), (67, .istore 4, 2, 69), (69, .iload 4, 2, 71), (71, .bipush 60, 2, 73), (73, .if_icmp .ge 22, 3, 76), (76, .aload_n 0, 1, 77), (77, .getfield 226, 3, 80), (80, .bipush 60, 2, 82), (82, .iload_n 1, 1, 83), (83, .imul, 1, 84), (84, .iload 4, 2, 86), (86, .iadd, 1, 87), (87, .lconst 0, 1, 88), (88, .lastore, 1, 89), (89, .iinc 4 1, 3, 92), (92, .goto (-23), 3, 95), (95, .iconst 1, 1, 96), (96, .ireturn, 1, 97)] := by unfold dcl; decide +kernel
set_option maxRecDepth 20000 in
theorem DX12_narrow : dcl mX12_narrow.2.1 [(0, .iload_n 1, 1, 1), (1, .ifCond .ne 10, 3, 4), (4, .lload_n 2, 1, 5), (5, .l2i, 1, 6), (6, .i2b, 1, 7), (7, .i2l, 1, 8), (8, .goto 46, 3, 11), (11, .iload_n 1, 1, 12), (12, .iconst 1, 1, 13), (13, .if_icmp .ne 10, 3, 16), (16, .lload_n 2, 1, 17), (17, .l2i, 1, 18), (18, .i2s, 1, 19), (19, .i2l, 1, 20), (20, .goto 34, 3, 23), (23, .iload_n 1, 1, 24), (24, .iconst 2, 1, 25), (25, .if_icmp .ne 9, 3, 28), (28, .lload_n 2, 1, 29), (29, .l2i, 1, 30), (30, .i2l, 1, 31), (31, .goto 23, 3, 34), (34, .iload_n 1, 1, 35), (35, .iconst 4, 1, 36), (36, .if_icmp .ne 17, 3, 39), (39, .lload_n 2, 1, 40), (40, .lconst 0, 1, 41), (41, .lcmp, 1, 42), (42, .ifCond .eq 7, 3, 45), (45, .lconst 1, 1, 46), (46, .goto 8, 3, 49), (49, .lconst 0, 1, 50), (50, .goto 4, 3, 53), (53, .lload_n 2, 1, 54), (54, .lreturn, 1, 55)] := by unfold dcl; decide +kernel
set_option maxRecDepth 20000 in
theorem DX12_item : dcl mX12_item.2.1 [(0, .aload_n 0, 1, 1), (1, .iload_n 1, 1, 2), (2, .invokevirtual 388, 3, 5), (5, .ifCond .ne 5, 3, 8), (8, .iconst (-1), 1, 9), (9, .ireturn, 1, 10), (10, .aload_n 0, 1, 11), (11, .getfield 220, 3, 14), (14, .iload_n 1, 1, 15), (15, .iaload, 1, 16), (16, .ifCond .ge 6, 3, 19), (19, .bipush (-11), 2, 21), (21, .ireturn, 1, 22), (22, .aload_n 0, 1, 23), (23, .iload_n 2, 1, 24), (24, .iconst 0, 1, 25), (25, .aload_n 0, 1, 26), (26, .getfield 223, 3, 29), (29, .iload_n 1, 1, 30), (30, .iaload, 1, 31), (31, .iconst 1, 1, 32), (32, .isub, 1, 33), (33, .invokevirtual 233, 3, 36), (36, .ifCond .ne 6, 3, 39), (39, .bipush (-13), 2, 41), (41, .ireturn, 1, 42), (42, .aload_n 0, 1, 43), (43, .getfield 226, 3, 46), (46, .bipush 60, 2, 48), (48, .iload_n 1, 1, 49), (49, .imul, 1, 50), (50, .iload_n 2, 1, 51), (51, .iadd, 1, 52), (52, .aload_n 0, 1, 53), (53, .aload_n 0, 1, 54), (54, .getfield 220, 3, 57), (57, .iload_n 1, 1, 58), (58, .iaload, 1, 59), (59, .lload_n 3, 1, 60), (60, .invokevirtual 415, 3, 63), (63, .lastore, 1, 64), (64, .iconst 1, 1, 65), (65, .ireturn, 1, 66)] := by unfold dcl; decide +kernel
set_option maxRecDepth 20000 in
theorem DX12_read : dcl mX12_read.2.1 [(0, .aload_n 0, 1, 1), (1, .iload_n 1, 1, 2), (2, .invokevirtual 388, 3, 5), (5, .ifCond .eq 29, 3, 8), (8, .aload_n 0, 1, 9), (9, .getfield 220, 3, 12), (12, .iload_n 1, 1, 13), (13, .iaload, 1, 14), (14, .ifCond .lt 20, 3, 17), (17, .aload_n 0, 1, 18), (18, .iload_n 2, 1, 19), (19, .iconst 0, 1, 20), (20, .aload_n 0, 1, 21), (21, .getfield 223, 3, 24), (24, .iload_n 1, 1, 25), (25, .iaload, 1, 26), (26, .iconst 1, 1, 27), (27, .isub, 1, 28), (28, .invokevirtual 233, 3, 31), (31, .ifCond .ne 9, 3, 34), (34, .ldc2_w 377, 3, 37), (37, .goto 14, 3, 40), (40, .aload_n 0, 1, 41), (41, .getfield 226, 3, 44), (44, .bipush 60, 2, 46), (46, .iload_n 1, 1, 47), (47, .imul, 1, 48), (48, .iload_n 2, 1, 49), (49, .iadd, 1, 50), (50, .laload, 1, 51), (51, .lreturn, 1, 52)] := by unfold dcl; decide +kernel
set_option maxRecDepth 20000 in
theorem DX12_shift_0 : dcl mX12_shift.2.1 [(0, .aload_n 0, 1, 1), (1, .iload_n 1, 1, 2), (2, .invokevirtual 388, 3, 5), (5, .ifCond .eq 11, 3, 8), (8, .aload_n 0, 1, 9), (9, .iload_n 3, 1, 10), (10, .invokevirtual 388, 3, 13), (13, .ifCond .ne 5, 3, 16), (16, .iconst (-1), 1, 17), (17, .ireturn, 1, 18), (18, .aload_n 0, 1, 19), (19, .getfield 220, 3, 22), (22, .iload_n 1, 1, 23), (23, .iaload, 1, 24), (24, .ifCond .lt 12, 3, 27), (27, .aload_n 0, 1, 28), (28, .getfield 220, 3, 31), (31, .iload_n 3, 1, 32), (32, .iaload, 1, 33), (33, .ifCond .ge 6, 3, 36), (36, .bipush (-11), 2, 38), (38, .ireturn, 1, 39), (39, .aload_n 0, 1, 40), (40, .getfield 220, 3, 43), (43, .iload_n 1, 1, 44), (44, .iaload, 1, 45), (45, .aload_n 0, 1, 46), (46, .getfield 220, 3, 49), (49, .iload_n 3, 1, 50), (50, .iaload, 1, 51), (51, .if_icmp .eq 6, 3, 54), (54, .bipush (-12), 2, 56), (56, .ireturn, 1, 57), (57, .iload 5, 2, 59), (59, .ifCond .lt 39, 3, 62), (62, .iload_n 2, 1, 63), (63, .ifCond .lt 35, 3, 66), (66, .iload 4, 2, 68), (68, .ifCond .lt 30, 3, 71), (71, .iload_n 2, 1, 72), (72, .aload_n 0, 1, 73), (73, .getfield 223, 3, 76), (76, .iload_n 1, 1, 77), (77, .iaload, 1, 78), (78, .iload 5, 2, 80), (80, .isub, 1, 81), (81, .if_icmp .gt 17, 3, 84), (84, .iload 4, 2, 86), (86, .aload_n 0, 1, 87), (87, .getfield 223, 3, 90), (90, .iload_n 3, 1, 91), (91, .iaload, 1, 92), (92, .iload 5, 2, 94), (94, .isub, 1, 95), (95, .if_icmp .le 6, 3, 98), (98, .bipush (-13), 2, 100), (100, .ireturn, 1, 101), (101, .iconst 0, 1, 102), (102, .istore 6, 2, 104), (104, .iload 6, 2, 106)] := by unfold dcl; decide +kernel
set_option maxRecDepth 20000 in
theorem DX12_shift_1 : dcl mX12_shift.2.1 [(106, .iload 5, 2, 108), (108, .if_icmp .ge 30, 3, 111), (111, .aload_n 0, 1, 112), (112, .getfield 230, 3, 115), (115, .iload 6, 2, 117), (117, .aload_n 0, 1, 118), (118, .getfield 226, 3, 121), (121, .bipush 60, 2, 123), (123, .iload_n 1, 1, 124), (124, .imul, 1, 125), (125, .iload_n 2, 1, 126), (126, .iadd, 1, 127), (127, .iload 6, 2, 129), (129, .iadd, 1, 130), (130, .laload, 1, 131), (131, .lastore, 1, 132), (132, .iinc 6 1, 3, 135), (135, .goto (-31), 3, 138), (138, .iconst 0, 1, 139), (139, .istore 6, 2, 141), (141, .iload 6, 2, 143), (143, .iload 5, 2, 145), (145, .if_icmp .ge 31, 3, 148), (148, .aload_n 0, 1, 149), (149, .getfield 226, 3, 152), (152, .bipush 60, 2, 154), (154, .iload_n 3, 1, 155), (155, .imul, 1, 156), (156, .iload 4, 2, 158), (158, .iadd, 1, 159), (159, .iload 6, 2, 161), (161, .iadd, 1, 162), (162, .aload_n 0, 1, 163), (163, .getfield 230, 3, 166), (166, .iload 6, 2, 168), (168, .laload, 1, 169), (169, .lastore, 1, 170), (170, .iinc 6 1, 3, 173), (173, .goto (-32), 3, 176), (176, .iload 5, 2, 178), (178, .ireturn, 1, 179)] := by unfold dcl; decide +kernel
set_option maxRecDepth 20000 in
theorem DJ6_bitCount_0f7a4 : dcl mJ6_bitCount_0f7a4.2.1 [(0, .iload_n 0, 1, 1), (1, .iload_n 0, 1, 2), (2, .iconst 1, 1, 3), (3, .iushr, 1, 4), (4, .ldc_w 265, 3, 7), (7, .iand, 1, 8), (8, .isub, 1, 9), (9, .istore_n 0, 1, 10), (10, .iload_n 0, 1, 11), (11, .ldc_w 266, 3, 14), (14, .iand, 1, 15), (15, .iload_n 0, 1, 16), (16, .iconst 2, 1, 17), (17, .iushr, 1, 18), (18, .ldc_w 266, 3, 21), (21, .iand, 1, 22), (22, .iadd, 1, 23), (23, .istore_n 0, 1, 24), (24, .iload_n 0, 1, 25), (25, .iload_n 0, 1, 26), (26, .iconst 4, 1, 27), (27, .iushr, 1, 28), (28, .iadd, 1, 29), (29, .ldc_w 267, 3, 32), (32, .iand, 1, 33), (33, .istore_n 0, 1, 34), (34, .iload_n 0, 1, 35), (35, .iload_n 0, 1, 36), (36, .bipush 8, 2, 38), (38, .iushr, 1, 39), (39, .iadd, 1, 40), (40, .istore_n 0, 1, 41), (41, .iload_n 0, 1, 42), (42, .iload_n 0, 1, 43), (43, .bipush 16, 2, 45), (45, .iushr, 1, 46), (46, .iadd, 1, 47), (47, .istore_n 0, 1, 48), (48, .iload_n 0, 1, 49), (49, .bipush 63, 2, 51), (51, .iand, 1, 52), (52, .ireturn, 1, 53)] := by unfold dcl; decide +kernel
set_option maxRecDepth 20000 in
theorem DJ9_floorMod_7cf53 : dcl mJ9_floorMod_7cf53.2.1 [(0, .iload_n 0, 1, 1), (1, .iload_n 1, 1, 2), (2, .irem, 1, 3), (3, .istore_n 2, 1, 4), (4, .iload_n 0, 1, 5), (5, .iload_n 1, 1, 6), (6, .ixor, 1, 7), (7, .ifCond .ge 11, 3, 10), (10, .iload_n 2, 1, 11), (11, .ifCond .eq 7, 3, 14), (14, .iload_n 2, 1, 15), (15, .iload_n 1, 1, 16), (16, .iadd, 1, 17), (17, .ireturn, 1, 18), (18, .iload_n 2, 1, 19), (19, .ireturn, 1, 20)] := by unfold dcl; decide +kernel
set_option maxRecDepth 20000 in
theorem DJ9_max_7cf53 : dcl mJ9_max_7cf53.2.1 [(0, .iload_n 0, 1, 1), (1, .iload_n 1, 1, 2), (2, .if_icmp .lt 7, 3, 5), (5, .iload_n 0, 1, 6), (6, .goto 4, 3, 9), (9, .iload_n 1, 1, 10), (10, .ireturn, 1, 11)] := by unfold dcl; decide +kernel
set_option maxRecDepth 20000 in
theorem DJ9_max_f86c9 : dcl mJ9_max_f86c9.2.1 [(0, .lload_n 0, 1, 1), (1, .lload_n 2, 1, 2), (2, .lcmp, 1, 3), (3, .ifCond .lt 7, 3, 6), (6, .lload_n 0, 1, 7), (7, .goto 4, 3, 10), (10, .lload_n 2, 1, 11), (11, .lreturn, 1, 12)] := by unfold dcl; decide +kernel
set_option maxRecDepth 20000 in
theorem DJ9_min_7cf53 : dcl mJ9_min_7cf53.2.1 [(0, .iload_n 0, 1, 1), (1, .iload_n 1, 1, 2), (2, .if_icmp .gt 7, 3, 5), (5, .iload_n 0, 1, 6), (6, .goto 4, 3, 9), (9, .iload_n 1, 1, 10), (10, .ireturn, 1, 11)] := by unfold dcl; decide +kernel
set_option maxRecDepth 20000 in
theorem DJ7_fill_d0a16 : dcl mJ7_fill_d0a16.2.1 [(0, .iconst 0, 1, 1), (1, .istore_n 3, 1, 2), (2, .aload_n 0, 1, 3), (3, .arraylength, 1, 4), (4, .istore 4, 2, 6), (6, .iload_n 3, 1, 7), (7, .iload 4, 2, 9), (9, .if_icmp .ge 13, 3, 12), (12, .aload_n 0, 1, 13), (13, .iload_n 3, 1, 14), (14, .lload_n 1, 1, 15), (15, .lastore, 1, 16), (16, .iinc 3 1, 3, 19), (19, .goto (-13), 3, 22), (22, .return_, 1, 23)] := by unfold dcl; decide +kernel
set_option maxRecDepth 20000 in
theorem DJ7_fill_53178 : dcl mJ7_fill_53178.2.1 [(0, .iconst 0, 1, 1), (1, .istore_n 2, 1, 2), (2, .aload_n 0, 1, 3), (3, .arraylength, 1, 4), (4, .istore_n 3, 1, 5), (5, .iload_n 2, 1, 6), (6, .iload_n 3, 1, 7), (7, .if_icmp .ge 13, 3, 10), (10, .aload_n 0, 1, 11), (11, .iload_n 2, 1, 12), (12, .iload_n 1, 1, 13), (13, .iastore, 1, 14), (14, .iinc 2 1, 3, 17), (17, .goto (-12), 3, 20), (20, .return_, 1, 21)] := by unfold dcl; decide +kernel
end
section
def isrT : List (List Bool) := [[true, false, true, true, true, true, false, false, false, false, false, false, false, false, true, true], [false, false, false, false, false, false], [false, false, false, false, false, false], [false, false, false, true, true, true, true, false, true, false, false, false], [false, false, false, false, false, false], [true, true, false, false, false, true, false, false, false, false, true, true, false, true], [false, false, false, false, false, false], [true, false], [false, false, false, false, false, false], [false, false, false, false, false, false], [false, false, false, false, false, false], [true, true, false, true, true, false, true, false, true, true, true, true], [false, false, false, false, false, false, false, true, true, true, true, true, true, true, true, false, false, false, false, false, true, true, true, true, true, true, true, true, false, false, false, true, true, true, false, false, false, false, false, false, false, true, true, true, false, true, true, false, false, false, false, false, false, false, false, false, false, true, true, true, true, true, true, true, true, true, true, false, true, true, true, true, true]]
def nestL : List (String × Nat × MethodName × String) := [("NextOneKnows", 11, ⟨"NextOneKnows$State", "<init>", "()V"⟩, "NextOneKnows"), ("NextOneKnows", 42, ⟨"NextOneKnows$Trace", "<init>", "()V"⟩, "NextOneKnows"), ("NextOneKnows$Ahead", 79, ⟨"NextOneKnows", "bit", "(II)I"⟩, "NextOneKnows"), ("NextOneKnows$State", 97, ⟨"NextOneKnows", "bit", "(II)I"⟩, "NextOneKnows")]
def castL : List (String × String) := [("NextOneKnows$Why", "NextOneKnows$Written"), ("NextOneKnows$Tied", "NextOneKnows$Plain"), ("NextOneKnows$Wrong", "NextOneKnows$Rare"), ("NextOneKnows$Written", "NextOneKnows$Doing"), ("NextOneKnows$Plain", "NextOneKnows$Doing"), ("NextOneKnows$Rare", "NextOneKnows$Doing"), ("NextOneKnows$Why", "NextOneKnows$Doing"), ("NextOneKnows$Tied", "NextOneKnows$Doing"), ("NextOneKnows$Wrong", "NextOneKnows$Doing")]
def noCastL : List (String × String) := [("NextOneKnows$Plain", "NextOneKnows$Written"), ("NextOneKnows$Rare", "NextOneKnows$Written"), ("NextOneKnows$Tied", "NextOneKnows$Written"), ("NextOneKnows$Wrong", "NextOneKnows$Written"), ("NextOneKnows$Doing", "NextOneKnows$Written"), ("NextOneKnows$Written", "NextOneKnows$Plain"), ("NextOneKnows$Rare", "NextOneKnows$Plain"), ("NextOneKnows$Why", "NextOneKnows$Plain"), ("NextOneKnows$Wrong", "NextOneKnows$Plain"), ("NextOneKnows$Doing", "NextOneKnows$Plain"), ("NextOneKnows$Written", "NextOneKnows$Rare"), ("NextOneKnows$Plain", "NextOneKnows$Rare"), ("NextOneKnows$Why", "NextOneKnows$Rare"), ("NextOneKnows$Tied", "NextOneKnows$Rare"), ("NextOneKnows$Doing", "NextOneKnows$Rare"), ("NextOneKnows$Written", "NextOneKnows$Why"), ("NextOneKnows$Plain", "NextOneKnows$Why"), ("NextOneKnows$Rare", "NextOneKnows$Why"), ("NextOneKnows$Tied", "NextOneKnows$Why"), ("NextOneKnows$Wrong", "NextOneKnows$Why"), ("NextOneKnows$Doing", "NextOneKnows$Why"), ("NextOneKnows$Written", "NextOneKnows$Tied"), ("NextOneKnows$Plain", "NextOneKnows$Tied"), ("NextOneKnows$Rare", "NextOneKnows$Tied"), ("NextOneKnows$Why", "NextOneKnows$Tied"), ("NextOneKnows$Wrong", "NextOneKnows$Tied"), ("NextOneKnows$Doing", "NextOneKnows$Tied"), ("NextOneKnows$Written", "NextOneKnows$Wrong"), ("NextOneKnows$Plain", "NextOneKnows$Wrong"), ("NextOneKnows$Rare", "NextOneKnows$Wrong"), ("NextOneKnows$Why", "NextOneKnows$Wrong"), ("NextOneKnows$Tied", "NextOneKnows$Wrong"), ("NextOneKnows$Doing", "NextOneKnows$Wrong")]
/-! the abstract layer: a world of numbered cells, ints apart from the rest, one predicate GG for 'from here the method comes to an end that P allows' -/
abbrev It : Type := Nat → Nat → Int32
abbrev Ht : Type := (Nat → Nat → Int64) × (Nat → Nat → Option Nat) × (Nat → Nat × Nat) × Nat
abbrev Gt : Type := va_G × (Nat → ClassId) × (Nat → Nat) × (Nat → Nat) × (Nat → Prop)
abbrev Pt3 : Type := Option Value → It → Ht → Prop
def hL (h : Ht) : Nat → Nat → Int64 := h.1
def hR (h : Ht) : Nat → Nat → Option Nat := h.2.1
def hs (h : Ht) : Nat → Nat × Nat := h.2.2.1
def hn (h : Ht) : Nat := h.2.2.2
def gD (G : Gt) : va_G := G.1
def gc (G : Gt) : Nat → ClassId := G.2.1
def ga (G : Gt) : Nat → Nat := G.2.2.1
def gz (G : Gt) : Nat → Nat := G.2.2.2.1
def gA (G : Gt) : Nat → Prop := G.2.2.2.2
def rv (r : Option Nat) : Value := match r with
  | none => .null
  | some a => .ref a
def cv (G : Gt) : Value → Value := fun v => match v with
  | .ref a => .ref (ga G a)
  | w => w
theorem cv_cat (G : Gt) (v : Value) : (cv G v).category = v.category := by cases v <;> rfl
theorem cv_rv (G : Gt) (r : Option Nat) : cv G (rv r) = va_rf (r.map (ga G)) := by cases r <;> rfl
def isr (c j : Nat) : Bool := (isrT.getD c []).getD j false
def nf (c : Nat) : Nat := (isrT.getD c []).length
def fvl (I : It) (h : Ht) (q c j : Nat) : Value := if isr c j then rv (hR h q j) else .int (I q j)
def fvs (G : Gt) (I : It) (h : Ht) (q c : Nat) : List Value := (List.range (nf c)).map fun j => cv G (fvl I h q c j)
def ent (G : Gt) (I : It) (h : Ht) (q : Nat) : va_E :=
  if (hs h q).1 < 13 then .inr ((hs h q).1, fvs G I h q (hs h q).1)
  else if (hs h q).1 = 21 then .inl (gc G (hs h q).1, (hs h q).2, .inr (.inl (hL h q)))
  else if (hs h q).1 < 24 then .inl (gc G (hs h q).1, (hs h q).2, .inl (I q))
  else .inl (gc G (hs h q).1, (hs h q).2, .inr (.inr (.inr (.inr (fun j => (hR h q j).map (ga G))))))
def wl (G : Gt) (I : It) (h : Ht) : va_W := (List.range (hn h)).map fun q => (ga G q, ent G I h q)
def Wd (G : Gt) (I : It) (h : Ht) (H : Heap) : Prop := va_P (gD G) vwCl (wl G I h) H ∧ H.size = gz G (hn h)
def tysL : List (Nat × FieldType) := [(20, .int), (21, .long), (22, .byte), (23, .boolean), (24, .object "NextOneKnows$Doing"), (25, .object "NextOneKnows$Post"), (26, .array .int), (27, .array .long)]
def tysG (G : Gt) : List (ClassId × FieldType) := tysL.map fun q => (gc G q.1, q.2)
/-- what of the tables is no word that a contract may hold -/
def Kw (U : State) : Prop := (∀ q ∈ nestL, va_Nw (.methodLinkNest q.1 q.2.1 q.2.2.1 q.2.2.2) U) ∧ (∀ q ∈ castL, va_Nw (.castable q.1 q.2) U) ∧ (∀ q ∈ noCastL, va_Nc q.1 q.2 U)
theorem Kw.moved {u U : State} (hW : u.WarmedH U.vm) (h : Kw u) : Kw U :=
  ⟨fun q hq => (h.1 q hq).warmM hW, fun q hq => (h.2.1 q hq).warmC hW, fun q hq => (h.2.2 q hq).moved hW.alike⟩
theorem Kw.same {u U : State} (hv : u.vm = U.vm) (h : Kw u) : Kw U :=
  ⟨fun q hq => va_Nw.same rfl hv (h.1 q hq), fun q hq => va_Nw.same rfl hv (h.2.1 q hq), fun q hq => (h.2.2 q hq).moved (by rw [hv]; exact Vm.Alike.refl U.vm)⟩
def Ks (G : Gt) (U : State) : Prop := va_K (gD G) vwCl (tysG G) U ∧ Kw U
theorem Ks.moved {G : Gt} {u U : State} (hW : u.WarmedH U.vm) (h : Ks G u) : Ks G U := ⟨va_K.moved hW.alike h.1, h.2.moved hW⟩
theorem Ks.same {G : Gt} {u U : State} (hv : u.vm = U.vm) (h : Ks G u) : Ks G U := ⟨va_K.moved (by rw [hv]; exact Vm.Alike.refl U.vm) h.1, h.2.same hv⟩
/-- the addresses are apart, and all of the part that may change -/
def Gok (G : Gt) : Prop := (∀ a b, ga G a = ga G b → a = b) ∧ ∀ a, gA G (ga G a)
def ws (y : Mt) : List Cond := .code y.1 y.2.1 y.2.2.1 y.2.2.2 :: TG
def rmd (d mc ms : Nat) : Room := { frames := d, cells := mc, slots := ms, locals := 60 * d }
def QC (G : Gt) (P : Pt3) : Array Value → State → Outcome → State → Prop := fun _ st oc t =>
  (∃ (r : Option Value) (I : It) (h : Ht), oc = .returned (r.map (cv G)) ∧ P r I h ∧ Wd G I h t.heap) ∧ va_F (gA G) st t
/-- y, called with av in the world I, h, comes back with what P allows; depth d, mc cells of ms slots at most are new -/
def Con (G : Gt) (d mc ms : Nat) (y : Mt) (av : List Value) (I : It) (h : Ht) (P : Pt3) : Prop :=
  ∀ l : Launch, Met l y.1 (ws y) (rmd d mc ms) (va_Pc (av.map (cv G)) (fun U => Wd G I h U.heap ∧ Ks G U)) (QC G P) mc ms (gA G)
abbrev Xt : Type := Program × Launch × Env × State × MethodId × Array Value × List Frame × Method × Code
def lpr (G : Gt) : Nat → List (Option Value) → List (Nat × Value) := fun i lo => match lo with
  | [] => []
  | none :: t => lpr G (i + 1) t
  | some v :: t => (i, cv G v) :: lpr G (i + 1) t
def GG (G : Gt) (d mc ms : Nat) (X : Xt) (P : Pt3) (pc : Nat) (lo : List (Option Value)) (st : List Value) (I : It) (h : Ht) (k n : Nat) : Prop :=
  match X with
  | (p, l, e, s, m, args, below, meth, c) => ∀ (H : Heap) (locs : List Loc) (ls : Array Slot), lv_has ls c.maxLocals (lpr G 0 lo) → Wd G I h H → va_S (gA G) s.heap H locs →
      W p l e (rmd d mc ms) s m args below meth c H locs k n (MQ below (QC G P) args s mc ms (gA G)) (F0 m pc ls (st.map (cv G)))
def Xok (G : Gt) (own : String) (y : Mt) (X : Xt) : Prop :=
  match X with
  | (p, l, e, s, m, args, below, meth, c) => p.tables.exec = Jvm.exec ∧ c.code = y.2.1 ∧ c.maxLocals = y.2.2.1 ∧ s.vm.findClass own = some m.cls ∧ (∀ w ∈ TG, w.before args s = true) ∧ Ks G s ∧ Gok G ∧ meth.locks = false ∧ meth.sig.returnType = y.2.2.2 ∧ meth.name = y.1.name
/-! the world's list -/
theorem wl_get {G : Gt} {I : It} {h : Ht} {q : Nat} (hq : q < hn h) : (wl G I h)[q]? = some (ga G q, ent G I h q) := by
  unfold wl
  rw [List.getElem?_map, List.getElem?_range hq]
  rfl
theorem wl_len (G : Gt) (I : It) (h : Ht) : (wl G I h).length = hn h := by simp [wl]
theorem wl_D {G : Gt} (hG : Gok G) (I : It) (h : Ht) : va_D (gA G) (wl G I h) := by
  have key : ∀ (i : Nat) (p : Nat × va_E), (wl G I h)[i]? = some p → i < hn h ∧ p.1 = ga G i := by
    intro i p hi
    have hl : i < hn h := by
      have := (List.getElem?_eq_some_iff.mp hi).1
      rwa [wl_len] at this
    rw [wl_get hl] at hi
    cases hi
    exact ⟨hl, rfl⟩
  refine ⟨fun i j p q hi hj hpq => ?_, fun k q hk => ?_⟩
  · obtain ⟨_, e1⟩ := key i p hi
    obtain ⟨_, e2⟩ := key j q hj
    exact hG.1 i j (by rw [← e1, ← e2, hpq])
  · obtain ⟨_, e1⟩ := key k q hk
    rw [e1]
    exact hG.2 k
theorem wl_set {G : Gt} {I I' : It} {h h' : Ht} {q : Nat} {e : va_E} (hn' : hn h' = hn h) (he : ent G I' h' q = e) (ho : ∀ a, a ≠ q → ent G I' h' a = ent G I h a) : (wl G I h).set q (ga G q, e) = wl G I' h' := by
  apply List.ext_getElem?
  intro i
  by_cases hi : i < hn h
  · by_cases hq : i = q
    · subst hq
      rw [List.getElem?_set_self (by rw [wl_len]; exact hi), wl_get (by rw [hn']; exact hi), he]
    · rw [List.getElem?_set_ne (Ne.symm hq), wl_get hi, wl_get (by rw [hn']; exact hi), ho i hq]
  · rw [List.getElem?_eq_none (by rw [List.length_set, wl_len]; omega), List.getElem?_eq_none (by rw [wl_len, hn']; omega)]
def upI (I : It) (q j : Nat) (x : Int32) : It := fun a b => if a = q ∧ b = j then x else I a b
def upL (f : Nat → Nat → Int64) (q j : Nat) (x : Int64) : Nat → Nat → Int64 := fun a b => if a = q ∧ b = j then x else f a b
def upR (f : Nat → Nat → Option Nat) (q j : Nat) (x : Option Nat) : Nat → Nat → Option Nat := fun a b => if a = q ∧ b = j then x else f a b
def wL (h : Ht) (q j : Nat) (x : Int64) : Ht := (upL (hL h) q j x, hR h, hs h, hn h)
def wR (h : Ht) (q j : Nat) (x : Option Nat) : Ht := (hL h, upR (hR h) q j x, hs h, hn h)
theorem upI_row (I : It) (q j : Nat) (x : Int32) : upI I q j x q = upd (I q) j x := by
  funext b
  simp [upI, upd]
theorem upI_off {I : It} {q j : Nat} {x : Int32} {a : Nat} (ha : a ≠ q) : upI I q j x a = I a := by
  funext b
  simp [upI, ha]
theorem upL_row (I : Nat → Nat → Int64) (q j : Nat) (x : Int64) : upL I q j x q = vp_updL (I q) j x := by
  funext b
  simp [upL, vp_updL]
theorem upL_off {I : Nat → Nat → Int64} {q j : Nat} {x : Int64} {a : Nat} (ha : a ≠ q) : upL I q j x a = I a := by
  funext b
  simp [upL, ha]
theorem upR_off {I : Nat → Nat → Option Nat} {q j : Nat} {x : Option Nat} {a : Nat} (ha : a ≠ q) : upR I q j x a = I a := by
  funext b
  simp [upR, ha]
theorem ent_congr {G : Gt} {I I' : It} {h h' : Ht} {a : Nat} (e1 : I' a = I a) (e2 : hL h' a = hL h a) (e3 : hR h' a = hR h a) (e4 : hs h' a = hs h a) : ent G I' h' a = ent G I h a := by
  unfold ent fvs fvl
  rw [e1, e2, e3, e4]
theorem fvs_set {G : Gt} {I I' : It} {h h' : Ht} {q c j : Nat} {v : Value} (hv : cv G (fvl I' h' q c j) = v) (ho : ∀ b, b ≠ j → fvl I' h' q c b = fvl I h q c b) : (fvs G I h q c).set j v = fvs G I' h' q c := by
  unfold fvs
  apply List.ext_getElem?
  intro i
  by_cases hi : i < nf c
  · by_cases hj : i = j
    · subst hj
      rw [List.getElem?_set_self (by simp; exact hi), List.getElem?_map, List.getElem?_range hi]
      simp [hv]
    · rw [List.getElem?_set_ne (Ne.symm hj), List.getElem?_map, List.getElem?_map, List.getElem?_range hi]
      simp [ho i hj]
  · rw [List.getElem?_eq_none (by simp; omega), List.getElem?_eq_none (by simp; omega)]
theorem fvs_get {G : Gt} {I : It} {h : Ht} {q c j : Nat} (hj : j < nf c) : (fvs G I h q c)[j]? = some (cv G (fvl I h q c j)) := by
  unfold fvs
  rw [List.getElem?_map, List.getElem?_range hj]
  rfl
theorem fvs_len (G : Gt) (I : It) (h : Ht) (q c : Nat) : (fvs G I h q c).length = nf c := by simp [fvs]
/-! locals -/
theorem lpr_mem {G : Gt} : ∀ (lo : List (Option Value)) (i : Nat) (q : Nat × Value), q ∈ lpr G i lo ↔ ∃ (j : Nat) (v : Value), lo[j]? = some (some v) ∧ q = (i + j, cv G v) := by
  intro lo
  induction lo with
  | nil => intro i q; simp [lpr]
  | cons a t ih =>
    intro i q
    cases a with
    | none =>
      rw [show lpr G i (none :: t) = lpr G (i + 1) t from rfl, ih]
      constructor
      · rintro ⟨j, v, h1, h2⟩
        exact ⟨j + 1, v, by simpa using h1, by rw [h2]; congr 1; omega⟩
      · rintro ⟨j, v, h1, h2⟩
        cases j with
        | zero => simp at h1
        | succ j => exact ⟨j, v, by simpa using h1, by rw [h2]; congr 1; omega⟩
    | some w =>
      rw [show lpr G i (some w :: t) = (i, cv G w) :: lpr G (i + 1) t from rfl, List.mem_cons, ih]
      constructor
      · rintro (h | ⟨j, v, h1, h2⟩)
        · exact ⟨0, w, rfl, h⟩
        · exact ⟨j + 1, v, by simpa using h1, by rw [h2]; congr 1; omega⟩
      · rintro ⟨j, v, h1, h2⟩
        cases j with
        | zero =>
          simp at h1
          subst h1
          exact Or.inl h2
        | succ j => exact Or.inr ⟨j, v, by simpa using h1, by rw [h2]; congr 1; omega⟩
theorem lv_fewer {ls : Array Slot} {nL : Nat} {l l' : List (Nat × Value)} (h : lv_has ls nL l) (hs : ∀ q ∈ l', q ∈ l) : lv_has ls nL l' := ⟨h.1, h.2.1, fun q hq => h.2.2 q (hs q hq)⟩
theorem lpr_at {G : Gt} {ls : Array Slot} {nL : Nat} {lo : List (Option Value)} (h : lv_has ls nL (lpr G 0 lo)) {i : Nat} {v : Value} (hi : lo[i]? = some (some v)) : ls[i]? = some (.val (cv G v)) :=
  h.2.2 (i, cv G v) ((lpr_mem lo 0 _).mpr ⟨i, v, hi, by simp⟩)
def notL : Option Value → Bool := fun v => match v with
  | some (.long _) => false
  | some (.double _) => false
  | _ => true
/-- the slot ahead of i holds no long -/
def ahd (lo : List (Option Value)) (i : Nat) : Bool := i == 0 || notL (lo.getD (i - 1) none)
theorem lpr_set {G : Gt} {lo : List (Option Value)} {i : Nat} {v : Value} (ha : ahd lo i = true) (hi : i < lo.length) :
    ∀ q ∈ lpr G 0 (lo.set i (some v)), q ∈ (i, cv G v) :: (lpr G 0 lo).filter (fun q => !(q.1 == i) && !(q.1 + 1 == i && q.2.category == 2)) := by
  intro q hq
  obtain ⟨j, w, h1, rfl⟩ := (lpr_mem _ _ _).mp hq
  by_cases hj : j = i
  · subst hj
    rw [List.getElem?_set_self hi] at h1
    cases h1
    simp
  · rw [List.getElem?_set_ne (Ne.symm hj)] at h1
    refine List.mem_cons_of_mem _ (List.mem_filter.mpr ⟨(lpr_mem _ _ _).mpr ⟨j, w, h1, rfl⟩, ?_⟩)
    have h2 : ¬ (j + 1 = i ∧ w.category = 2) := by
      rintro ⟨e, hc⟩
      subst e
      simp only [ahd, Nat.add_sub_cancel, Nat.add_eq_zero_iff, Nat.succ_ne_self, and_false, beq_iff_eq, Bool.or_eq_true, false_or, List.getD_eq_getElem?_getD, h1, Option.getD_some] at ha
      cases w <;> simp [notL, Value.category] at ha hc
    simp only [Nat.zero_add, cv_cat, Bool.and_eq_true, Bool.not_eq_true', beq_eq_false_iff_ne, ne_eq, Bool.and_eq_false_iff]
    refine ⟨hj, ?_⟩
    by_cases e : j + 1 = i
    · exact Or.inr (fun hc => h2 ⟨e, hc⟩)
    · exact Or.inl e
theorem lpr_set2 {G : Gt} {lo : List (Option Value)} {i : Nat} {v : Value} (ha : ahd lo i = true) (hi : i + 1 < lo.length) :
    ∀ q ∈ lpr G 0 ((lo.set i (some v)).set (i + 1) none), q ∈ (i, cv G v) :: (lpr G 0 lo).filter (fun q => !(q.1 == i) && (!(q.1 == i + 1) && !(q.1 + 1 == i && q.2.category == 2))) := by
  intro q hq
  obtain ⟨j, w, h1, rfl⟩ := (lpr_mem _ _ _).mp hq
  by_cases hj1 : j = i + 1
  · subst hj1
    rw [List.getElem?_set_self (by simpa using hi)] at h1
    cases h1
  rw [List.getElem?_set_ne (Ne.symm hj1)] at h1
  by_cases hj : j = i
  · subst hj
    rw [List.getElem?_set_self (by omega)] at h1
    cases h1
    simp
  · rw [List.getElem?_set_ne (Ne.symm hj)] at h1
    refine List.mem_cons_of_mem _ (List.mem_filter.mpr ⟨(lpr_mem _ _ _).mpr ⟨j, w, h1, rfl⟩, ?_⟩)
    have h2 : ¬ (j + 1 = i ∧ w.category = 2) := by
      rintro ⟨e, hc⟩
      subst e
      simp only [ahd, Nat.add_sub_cancel, Nat.add_eq_zero_iff, Nat.succ_ne_self, and_false, beq_iff_eq, Bool.or_eq_true, false_or, List.getD_eq_getElem?_getD, h1, Option.getD_some] at ha
      cases w <;> simp [notL, Value.category] at ha hc
    simp only [Nat.zero_add, cv_cat, Bool.and_eq_true, Bool.not_eq_true', beq_eq_false_iff_ne, ne_eq, Bool.and_eq_false_iff]
    refine ⟨hj, hj1, ?_⟩
    by_cases e : j + 1 = i
    · exact Or.inr (fun hc => h2 ⟨e, hc⟩)
    · exact Or.inl e
end
section
theorem g_iconst {G : Gt} {d mc ms : Nat} {own : String} {y : Mt} {X : Xt} {P : Pt3} {pc nx : Nat} {lo : List (Option Value)} {st : List Value} {I : It} {h : Ht} {k n : Nat} {z : Int} {v : Int32} (hX : Xok G own y X) (hd : dc y.2.1 pc (.iconst z) 1 nx) (hv : Int32.ofInt z = v) (kk : GG G d mc ms X P nx lo (.int v :: st) I h k n) : GG G d mc ms X P pc lo (st) I h k n := by
  obtain ⟨p, l, e, s, m, args, below, meth, c⟩ := X
  obtain ⟨hexec, hb, hml, hown, hts, hKs, hGk, hlk, hrt, hnm⟩ := hX
  obtain ⟨hd, hnx⟩ := hd
  subst hnx
  intro H locs ls hl hW hS
  exact lv_iconst hexec hb hd hv (kk H locs ls hl hW hS)

theorem g_bipush {G : Gt} {d mc ms : Nat} {own : String} {y : Mt} {X : Xt} {P : Pt3} {pc nx : Nat} {lo : List (Option Value)} {st : List Value} {I : It} {h : Ht} {k n : Nat} {z : Int} {v : Int32} (hX : Xok G own y X) (hd : dc y.2.1 pc (.bipush z) 2 nx) (hv : (Int8.ofInt z).toInt32 = v) (kk : GG G d mc ms X P nx lo (.int v :: st) I h k n) : GG G d mc ms X P pc lo (st) I h k n := by
  obtain ⟨p, l, e, s, m, args, below, meth, c⟩ := X
  obtain ⟨hexec, hb, hml, hown, hts, hKs, hGk, hlk, hrt, hnm⟩ := hX
  obtain ⟨hd, hnx⟩ := hd
  subst hnx
  intro H locs ls hl hW hS
  exact lv_bipush hexec hb hd hv (kk H locs ls hl hW hS)

theorem g_sipush {G : Gt} {d mc ms : Nat} {own : String} {y : Mt} {X : Xt} {P : Pt3} {pc nx : Nat} {lo : List (Option Value)} {st : List Value} {I : It} {h : Ht} {k n : Nat} {z : Int} {v : Int32} (hX : Xok G own y X) (hd : dc y.2.1 pc (.sipush z) 3 nx) (hv : (Int16.ofInt z).toInt32 = v) (kk : GG G d mc ms X P nx lo (.int v :: st) I h k n) : GG G d mc ms X P pc lo (st) I h k n := by
  obtain ⟨p, l, e, s, m, args, below, meth, c⟩ := X
  obtain ⟨hexec, hb, hml, hown, hts, hKs, hGk, hlk, hrt, hnm⟩ := hX
  obtain ⟨hd, hnx⟩ := hd
  subst hnx
  intro H locs ls hl hW hS
  exact lv_sipush hexec hb hd hv (kk H locs ls hl hW hS)

theorem g_lconst {G : Gt} {d mc ms : Nat} {own : String} {y : Mt} {X : Xt} {P : Pt3} {pc nx : Nat} {lo : List (Option Value)} {st : List Value} {I : It} {h : Ht} {k n : Nat} {z : Fin 2} {v : Int64} (hX : Xok G own y X) (hd : dc y.2.1 pc (.lconst z) 1 nx) (hv : Int64.ofNat (z : Nat) = v) (kk : GG G d mc ms X P nx lo (.long v :: st) I h k n) : GG G d mc ms X P pc lo (st) I h k n := by
  obtain ⟨p, l, e, s, m, args, below, meth, c⟩ := X
  obtain ⟨hexec, hb, hml, hown, hts, hKs, hGk, hlk, hrt, hnm⟩ := hX
  obtain ⟨hd, hnx⟩ := hd
  subst hnx
  intro H locs ls hl hW hS
  exact lv_lconst hexec hb hd hv (kk H locs ls hl hW hS)

theorem g_ldc {G : Gt} {d mc ms : Nat} {own : String} {y : Mt} {X : Xt} {P : Pt3} {pc nx : Nat} {lo : List (Option Value)} {st : List Value} {I : It} {h : Ht} {k n : Nat} {z : Nat} {v : Int32} (hX : Xok G own y X) (hd : dc y.2.1 pc (.ldc z) 2 nx) (hc : Cond.constant own z v ∈ TG) (kk : GG G d mc ms X P nx lo (.int v :: st) I h k n) : GG G d mc ms X P pc lo (st) I h k n := by
  obtain ⟨p, l, e, s, m, args, below, meth, c⟩ := X
  obtain ⟨hexec, hb, hml, hown, hts, hKs, hGk, hlk, hrt, hnm⟩ := hX
  obtain ⟨hd, hnx⟩ := hd
  subst hnx
  intro H locs ls hl hW hS
  exact lv_ldc hexec hb hown (hts _ hc) hd (kk H locs ls hl hW hS)

theorem g_ldc_w {G : Gt} {d mc ms : Nat} {own : String} {y : Mt} {X : Xt} {P : Pt3} {pc nx : Nat} {lo : List (Option Value)} {st : List Value} {I : It} {h : Ht} {k n : Nat} {z : Nat} {v : Int32} (hX : Xok G own y X) (hd : dc y.2.1 pc (.ldc_w z) 3 nx) (hc : Cond.constant own z v ∈ TG) (kk : GG G d mc ms X P nx lo (.int v :: st) I h k n) : GG G d mc ms X P pc lo (st) I h k n := by
  obtain ⟨p, l, e, s, m, args, below, meth, c⟩ := X
  obtain ⟨hexec, hb, hml, hown, hts, hKs, hGk, hlk, hrt, hnm⟩ := hX
  obtain ⟨hd, hnx⟩ := hd
  subst hnx
  intro H locs ls hl hW hS
  exact lv_ldcw hexec hb hown (hts _ hc) hd (kk H locs ls hl hW hS)

theorem g_ldc2_w {G : Gt} {d mc ms : Nat} {own : String} {y : Mt} {X : Xt} {P : Pt3} {pc nx : Nat} {lo : List (Option Value)} {st : List Value} {I : It} {h : Ht} {k n : Nat} {z : Nat} {v : Int64} (hX : Xok G own y X) (hd : dc y.2.1 pc (.ldc2_w z) 3 nx) (hc : Cond.constantLong own z v ∈ TG) (kk : GG G d mc ms X P nx lo (.long v :: st) I h k n) : GG G d mc ms X P pc lo (st) I h k n := by
  obtain ⟨p, l, e, s, m, args, below, meth, c⟩ := X
  obtain ⟨hexec, hb, hml, hown, hts, hKs, hGk, hlk, hrt, hnm⟩ := hX
  obtain ⟨hd, hnx⟩ := hd
  subst hnx
  intro H locs ls hl hW hS
  exact lv_ldc2 hexec hb hown (hts _ hc) hd (kk H locs ls hl hW hS)

theorem g_aconst_null {G : Gt} {d mc ms : Nat} {own : String} {y : Mt} {X : Xt} {P : Pt3} {pc nx : Nat} {lo : List (Option Value)} {st : List Value} {I : It} {h : Ht} {k n : Nat}  (hX : Xok G own y X) (hd : dc y.2.1 pc (.aconst_null) 1 nx) (kk : GG G d mc ms X P nx lo (.null :: st) I h k n) : GG G d mc ms X P pc lo (st) I h k n := by
  obtain ⟨p, l, e, s, m, args, below, meth, c⟩ := X
  obtain ⟨hexec, hb, hml, hown, hts, hKs, hGk, hlk, hrt, hnm⟩ := hX
  obtain ⟨hd, hnx⟩ := hd
  subst hnx
  intro H locs ls hl hW hS
  exact lv_null hexec hb hd (kk H locs ls hl hW hS)

theorem g_iadd {G : Gt} {d mc ms : Nat} {own : String} {y : Mt} {X : Xt} {P : Pt3} {pc nx : Nat} {lo : List (Option Value)} {st : List Value} {I : It} {h : Ht} {k n : Nat} {a b : Int32} (hX : Xok G own y X) (hd : dc y.2.1 pc (.iadd) 1 nx) (kk : GG G d mc ms X P nx lo (.int (a + b) :: st) I h k n) : GG G d mc ms X P pc lo (.int b :: .int a :: st) I h k n := by
  obtain ⟨p, l, e, s, m, args, below, meth, c⟩ := X
  obtain ⟨hexec, hb, hml, hown, hts, hKs, hGk, hlk, hrt, hnm⟩ := hX
  obtain ⟨hd, hnx⟩ := hd
  subst hnx
  intro H locs ls hl hW hS
  exact lv_iadd hexec hb hd (kk H locs ls hl hW hS)

theorem g_isub {G : Gt} {d mc ms : Nat} {own : String} {y : Mt} {X : Xt} {P : Pt3} {pc nx : Nat} {lo : List (Option Value)} {st : List Value} {I : It} {h : Ht} {k n : Nat} {a b : Int32} (hX : Xok G own y X) (hd : dc y.2.1 pc (.isub) 1 nx) (kk : GG G d mc ms X P nx lo (.int (a - b) :: st) I h k n) : GG G d mc ms X P pc lo (.int b :: .int a :: st) I h k n := by
  obtain ⟨p, l, e, s, m, args, below, meth, c⟩ := X
  obtain ⟨hexec, hb, hml, hown, hts, hKs, hGk, hlk, hrt, hnm⟩ := hX
  obtain ⟨hd, hnx⟩ := hd
  subst hnx
  intro H locs ls hl hW hS
  exact lv_isub hexec hb hd (kk H locs ls hl hW hS)

theorem g_imul {G : Gt} {d mc ms : Nat} {own : String} {y : Mt} {X : Xt} {P : Pt3} {pc nx : Nat} {lo : List (Option Value)} {st : List Value} {I : It} {h : Ht} {k n : Nat} {a b : Int32} (hX : Xok G own y X) (hd : dc y.2.1 pc (.imul) 1 nx) (kk : GG G d mc ms X P nx lo (.int (a * b) :: st) I h k n) : GG G d mc ms X P pc lo (.int b :: .int a :: st) I h k n := by
  obtain ⟨p, l, e, s, m, args, below, meth, c⟩ := X
  obtain ⟨hexec, hb, hml, hown, hts, hKs, hGk, hlk, hrt, hnm⟩ := hX
  obtain ⟨hd, hnx⟩ := hd
  subst hnx
  intro H locs ls hl hW hS
  exact lv_imul hexec hb hd (kk H locs ls hl hW hS)

theorem g_iand {G : Gt} {d mc ms : Nat} {own : String} {y : Mt} {X : Xt} {P : Pt3} {pc nx : Nat} {lo : List (Option Value)} {st : List Value} {I : It} {h : Ht} {k n : Nat} {a b : Int32} (hX : Xok G own y X) (hd : dc y.2.1 pc (.iand) 1 nx) (kk : GG G d mc ms X P nx lo (.int (a &&& b) :: st) I h k n) : GG G d mc ms X P pc lo (.int b :: .int a :: st) I h k n := by
  obtain ⟨p, l, e, s, m, args, below, meth, c⟩ := X
  obtain ⟨hexec, hb, hml, hown, hts, hKs, hGk, hlk, hrt, hnm⟩ := hX
  obtain ⟨hd, hnx⟩ := hd
  subst hnx
  intro H locs ls hl hW hS
  exact lv_iand hexec hb hd (kk H locs ls hl hW hS)

theorem g_ior {G : Gt} {d mc ms : Nat} {own : String} {y : Mt} {X : Xt} {P : Pt3} {pc nx : Nat} {lo : List (Option Value)} {st : List Value} {I : It} {h : Ht} {k n : Nat} {a b : Int32} (hX : Xok G own y X) (hd : dc y.2.1 pc (.ior) 1 nx) (kk : GG G d mc ms X P nx lo (.int (a ||| b) :: st) I h k n) : GG G d mc ms X P pc lo (.int b :: .int a :: st) I h k n := by
  obtain ⟨p, l, e, s, m, args, below, meth, c⟩ := X
  obtain ⟨hexec, hb, hml, hown, hts, hKs, hGk, hlk, hrt, hnm⟩ := hX
  obtain ⟨hd, hnx⟩ := hd
  subst hnx
  intro H locs ls hl hW hS
  exact lv_ior hexec hb hd (kk H locs ls hl hW hS)

theorem g_ixor {G : Gt} {d mc ms : Nat} {own : String} {y : Mt} {X : Xt} {P : Pt3} {pc nx : Nat} {lo : List (Option Value)} {st : List Value} {I : It} {h : Ht} {k n : Nat} {a b : Int32} (hX : Xok G own y X) (hd : dc y.2.1 pc (.ixor) 1 nx) (kk : GG G d mc ms X P nx lo (.int (a ^^^ b) :: st) I h k n) : GG G d mc ms X P pc lo (.int b :: .int a :: st) I h k n := by
  obtain ⟨p, l, e, s, m, args, below, meth, c⟩ := X
  obtain ⟨hexec, hb, hml, hown, hts, hKs, hGk, hlk, hrt, hnm⟩ := hX
  obtain ⟨hd, hnx⟩ := hd
  subst hnx
  intro H locs ls hl hW hS
  exact lv_ixor hexec hb hd (kk H locs ls hl hW hS)

theorem g_ishl {G : Gt} {d mc ms : Nat} {own : String} {y : Mt} {X : Xt} {P : Pt3} {pc nx : Nat} {lo : List (Option Value)} {st : List Value} {I : It} {h : Ht} {k n : Nat} {a b : Int32} (hX : Xok G own y X) (hd : dc y.2.1 pc (.ishl) 1 nx) (kk : GG G d mc ms X P nx lo (.int (a <<< (b &&& 31)) :: st) I h k n) : GG G d mc ms X P pc lo (.int b :: .int a :: st) I h k n := by
  obtain ⟨p, l, e, s, m, args, below, meth, c⟩ := X
  obtain ⟨hexec, hb, hml, hown, hts, hKs, hGk, hlk, hrt, hnm⟩ := hX
  obtain ⟨hd, hnx⟩ := hd
  subst hnx
  intro H locs ls hl hW hS
  exact lv_ishl hexec hb hd (kk H locs ls hl hW hS)

theorem g_ishr {G : Gt} {d mc ms : Nat} {own : String} {y : Mt} {X : Xt} {P : Pt3} {pc nx : Nat} {lo : List (Option Value)} {st : List Value} {I : It} {h : Ht} {k n : Nat} {a b : Int32} (hX : Xok G own y X) (hd : dc y.2.1 pc (.ishr) 1 nx) (kk : GG G d mc ms X P nx lo (.int (a >>> (b &&& 31)) :: st) I h k n) : GG G d mc ms X P pc lo (.int b :: .int a :: st) I h k n := by
  obtain ⟨p, l, e, s, m, args, below, meth, c⟩ := X
  obtain ⟨hexec, hb, hml, hown, hts, hKs, hGk, hlk, hrt, hnm⟩ := hX
  obtain ⟨hd, hnx⟩ := hd
  subst hnx
  intro H locs ls hl hW hS
  exact lv_ishr hexec hb hd (kk H locs ls hl hW hS)

theorem g_iushr {G : Gt} {d mc ms : Nat} {own : String} {y : Mt} {X : Xt} {P : Pt3} {pc nx : Nat} {lo : List (Option Value)} {st : List Value} {I : It} {h : Ht} {k n : Nat} {a b : Int32} (hX : Xok G own y X) (hd : dc y.2.1 pc (.iushr) 1 nx) (kk : GG G d mc ms X P nx lo (.int ((a.toUInt32 >>> (b.toUInt32 &&& Int32.toUInt32 31)).toInt32) :: st) I h k n) : GG G d mc ms X P pc lo (.int b :: .int a :: st) I h k n := by
  obtain ⟨p, l, e, s, m, args, below, meth, c⟩ := X
  obtain ⟨hexec, hb, hml, hown, hts, hKs, hGk, hlk, hrt, hnm⟩ := hX
  obtain ⟨hd, hnx⟩ := hd
  subst hnx
  intro H locs ls hl hW hS
  exact lv_iushr hexec hb hd rfl (kk H locs ls hl hW hS)

theorem g_idiv {G : Gt} {d mc ms : Nat} {own : String} {y : Mt} {X : Xt} {P : Pt3} {pc nx : Nat} {lo : List (Option Value)} {st : List Value} {I : It} {h : Ht} {k n : Nat} {a b : Int32} (hX : Xok G own y X) (hd : dc y.2.1 pc (.idiv) 1 nx) (hne : ¬ b = 0) (kk : GG G d mc ms X P nx lo (.int (a / b) :: st) I h k n) : GG G d mc ms X P pc lo (.int b :: .int a :: st) I h k n := by
  obtain ⟨p, l, e, s, m, args, below, meth, c⟩ := X
  obtain ⟨hexec, hb, hml, hown, hts, hKs, hGk, hlk, hrt, hnm⟩ := hX
  obtain ⟨hd, hnx⟩ := hd
  subst hnx
  intro H locs ls hl hW hS
  exact lv_idiv hexec hb hd hne (kk H locs ls hl hW hS)

theorem g_irem {G : Gt} {d mc ms : Nat} {own : String} {y : Mt} {X : Xt} {P : Pt3} {pc nx : Nat} {lo : List (Option Value)} {st : List Value} {I : It} {h : Ht} {k n : Nat} {a b : Int32} (hX : Xok G own y X) (hd : dc y.2.1 pc (.irem) 1 nx) (hne : ¬ b = 0) (kk : GG G d mc ms X P nx lo (.int (a - a / b * b) :: st) I h k n) : GG G d mc ms X P pc lo (.int b :: .int a :: st) I h k n := by
  obtain ⟨p, l, e, s, m, args, below, meth, c⟩ := X
  obtain ⟨hexec, hb, hml, hown, hts, hKs, hGk, hlk, hrt, hnm⟩ := hX
  obtain ⟨hd, hnx⟩ := hd
  subst hnx
  intro H locs ls hl hW hS
  exact lv_irem hexec hb hd hne (kk H locs ls hl hW hS)

theorem g_ineg {G : Gt} {d mc ms : Nat} {own : String} {y : Mt} {X : Xt} {P : Pt3} {pc nx : Nat} {lo : List (Option Value)} {st : List Value} {I : It} {h : Ht} {k n : Nat} {a : Int32} (hX : Xok G own y X) (hd : dc y.2.1 pc (.ineg) 1 nx) (kk : GG G d mc ms X P nx lo (.int (-a) :: st) I h k n) : GG G d mc ms X P pc lo (.int a :: st) I h k n := by
  obtain ⟨p, l, e, s, m, args, below, meth, c⟩ := X
  obtain ⟨hexec, hb, hml, hown, hts, hKs, hGk, hlk, hrt, hnm⟩ := hX
  obtain ⟨hd, hnx⟩ := hd
  subst hnx
  intro H locs ls hl hW hS
  exact lv_ineg hexec hb hd (kk H locs ls hl hW hS)

theorem g_lmul {G : Gt} {d mc ms : Nat} {own : String} {y : Mt} {X : Xt} {P : Pt3} {pc nx : Nat} {lo : List (Option Value)} {st : List Value} {I : It} {h : Ht} {k n : Nat} {a b : Int64} (hX : Xok G own y X) (hd : dc y.2.1 pc (.lmul) 1 nx) (kk : GG G d mc ms X P nx lo (.long (a * b) :: st) I h k n) : GG G d mc ms X P pc lo (.long b :: .long a :: st) I h k n := by
  obtain ⟨p, l, e, s, m, args, below, meth, c⟩ := X
  obtain ⟨hexec, hb, hml, hown, hts, hKs, hGk, hlk, hrt, hnm⟩ := hX
  obtain ⟨hd, hnx⟩ := hd
  subst hnx
  intro H locs ls hl hW hS
  exact lv_lmul hexec hb hd (kk H locs ls hl hW hS)

theorem g_land {G : Gt} {d mc ms : Nat} {own : String} {y : Mt} {X : Xt} {P : Pt3} {pc nx : Nat} {lo : List (Option Value)} {st : List Value} {I : It} {h : Ht} {k n : Nat} {a b : Int64} (hX : Xok G own y X) (hd : dc y.2.1 pc (.land) 1 nx) (kk : GG G d mc ms X P nx lo (.long (a &&& b) :: st) I h k n) : GG G d mc ms X P pc lo (.long b :: .long a :: st) I h k n := by
  obtain ⟨p, l, e, s, m, args, below, meth, c⟩ := X
  obtain ⟨hexec, hb, hml, hown, hts, hKs, hGk, hlk, hrt, hnm⟩ := hX
  obtain ⟨hd, hnx⟩ := hd
  subst hnx
  intro H locs ls hl hW hS
  exact lv_land hexec hb hd (kk H locs ls hl hW hS)

theorem g_lor {G : Gt} {d mc ms : Nat} {own : String} {y : Mt} {X : Xt} {P : Pt3} {pc nx : Nat} {lo : List (Option Value)} {st : List Value} {I : It} {h : Ht} {k n : Nat} {a b : Int64} (hX : Xok G own y X) (hd : dc y.2.1 pc (.lor) 1 nx) (kk : GG G d mc ms X P nx lo (.long (a ||| b) :: st) I h k n) : GG G d mc ms X P pc lo (.long b :: .long a :: st) I h k n := by
  obtain ⟨p, l, e, s, m, args, below, meth, c⟩ := X
  obtain ⟨hexec, hb, hml, hown, hts, hKs, hGk, hlk, hrt, hnm⟩ := hX
  obtain ⟨hd, hnx⟩ := hd
  subst hnx
  intro H locs ls hl hW hS
  exact lv_lor hexec hb hd (kk H locs ls hl hW hS)

theorem g_ldiv {G : Gt} {d mc ms : Nat} {own : String} {y : Mt} {X : Xt} {P : Pt3} {pc nx : Nat} {lo : List (Option Value)} {st : List Value} {I : It} {h : Ht} {k n : Nat} {a b : Int64} (hX : Xok G own y X) (hd : dc y.2.1 pc (.ldiv) 1 nx) (hne : ¬ b = 0) (kk : GG G d mc ms X P nx lo (.long (a / b) :: st) I h k n) : GG G d mc ms X P pc lo (.long b :: .long a :: st) I h k n := by
  obtain ⟨p, l, e, s, m, args, below, meth, c⟩ := X
  obtain ⟨hexec, hb, hml, hown, hts, hKs, hGk, hlk, hrt, hnm⟩ := hX
  obtain ⟨hd, hnx⟩ := hd
  subst hnx
  intro H locs ls hl hW hS
  exact lv_ldiv hexec hb hd hne (kk H locs ls hl hW hS)

theorem g_lrem {G : Gt} {d mc ms : Nat} {own : String} {y : Mt} {X : Xt} {P : Pt3} {pc nx : Nat} {lo : List (Option Value)} {st : List Value} {I : It} {h : Ht} {k n : Nat} {a b : Int64} (hX : Xok G own y X) (hd : dc y.2.1 pc (.lrem) 1 nx) (hne : ¬ b = 0) (kk : GG G d mc ms X P nx lo (.long (a - a / b * b) :: st) I h k n) : GG G d mc ms X P pc lo (.long b :: .long a :: st) I h k n := by
  obtain ⟨p, l, e, s, m, args, below, meth, c⟩ := X
  obtain ⟨hexec, hb, hml, hown, hts, hKs, hGk, hlk, hrt, hnm⟩ := hX
  obtain ⟨hd, hnx⟩ := hd
  subst hnx
  intro H locs ls hl hW hS
  exact lv_lrem hexec hb hd hne (kk H locs ls hl hW hS)

theorem g_lshl {G : Gt} {d mc ms : Nat} {own : String} {y : Mt} {X : Xt} {P : Pt3} {pc nx : Nat} {lo : List (Option Value)} {st : List Value} {I : It} {h : Ht} {k n : Nat} {a : Int64} {b : Int32} (hX : Xok G own y X) (hd : dc y.2.1 pc (.lshl) 1 nx) (kk : GG G d mc ms X P nx lo (.long (a <<< (b.toInt64 &&& 63)) :: st) I h k n) : GG G d mc ms X P pc lo (.int b :: .long a :: st) I h k n := by
  obtain ⟨p, l, e, s, m, args, below, meth, c⟩ := X
  obtain ⟨hexec, hb, hml, hown, hts, hKs, hGk, hlk, hrt, hnm⟩ := hX
  obtain ⟨hd, hnx⟩ := hd
  subst hnx
  intro H locs ls hl hW hS
  exact lv_lshl hexec hb hd rfl (kk H locs ls hl hW hS)

theorem g_i2l {G : Gt} {d mc ms : Nat} {own : String} {y : Mt} {X : Xt} {P : Pt3} {pc nx : Nat} {lo : List (Option Value)} {st : List Value} {I : It} {h : Ht} {k n : Nat} {a : Int32} (hX : Xok G own y X) (hd : dc y.2.1 pc (.i2l) 1 nx) (kk : GG G d mc ms X P nx lo (.long a.toInt64 :: st) I h k n) : GG G d mc ms X P pc lo (.int a :: st) I h k n := by
  obtain ⟨p, l, e, s, m, args, below, meth, c⟩ := X
  obtain ⟨hexec, hb, hml, hown, hts, hKs, hGk, hlk, hrt, hnm⟩ := hX
  obtain ⟨hd, hnx⟩ := hd
  subst hnx
  intro H locs ls hl hW hS
  exact lv_i2l hexec hb hd rfl (kk H locs ls hl hW hS)

theorem g_l2i {G : Gt} {d mc ms : Nat} {own : String} {y : Mt} {X : Xt} {P : Pt3} {pc nx : Nat} {lo : List (Option Value)} {st : List Value} {I : It} {h : Ht} {k n : Nat} {a : Int64} (hX : Xok G own y X) (hd : dc y.2.1 pc (.l2i) 1 nx) (kk : GG G d mc ms X P nx lo (.int a.toInt32 :: st) I h k n) : GG G d mc ms X P pc lo (.long a :: st) I h k n := by
  obtain ⟨p, l, e, s, m, args, below, meth, c⟩ := X
  obtain ⟨hexec, hb, hml, hown, hts, hKs, hGk, hlk, hrt, hnm⟩ := hX
  obtain ⟨hd, hnx⟩ := hd
  subst hnx
  intro H locs ls hl hW hS
  exact lv_l2i hexec hb hd rfl (kk H locs ls hl hW hS)

theorem g_i2b {G : Gt} {d mc ms : Nat} {own : String} {y : Mt} {X : Xt} {P : Pt3} {pc nx : Nat} {lo : List (Option Value)} {st : List Value} {I : It} {h : Ht} {k n : Nat} {a : Int32} (hX : Xok G own y X) (hd : dc y.2.1 pc (.i2b) 1 nx) (kk : GG G d mc ms X P nx lo (.int a.toInt8.toInt32 :: st) I h k n) : GG G d mc ms X P pc lo (.int a :: st) I h k n := by
  obtain ⟨p, l, e, s, m, args, below, meth, c⟩ := X
  obtain ⟨hexec, hb, hml, hown, hts, hKs, hGk, hlk, hrt, hnm⟩ := hX
  obtain ⟨hd, hnx⟩ := hd
  subst hnx
  intro H locs ls hl hW hS
  exact lv_i2b hexec hb hd rfl (kk H locs ls hl hW hS)

theorem g_i2s {G : Gt} {d mc ms : Nat} {own : String} {y : Mt} {X : Xt} {P : Pt3} {pc nx : Nat} {lo : List (Option Value)} {st : List Value} {I : It} {h : Ht} {k n : Nat} {a : Int32} (hX : Xok G own y X) (hd : dc y.2.1 pc (.i2s) 1 nx) (kk : GG G d mc ms X P nx lo (.int a.toInt16.toInt32 :: st) I h k n) : GG G d mc ms X P pc lo (.int a :: st) I h k n := by
  obtain ⟨p, l, e, s, m, args, below, meth, c⟩ := X
  obtain ⟨hexec, hb, hml, hown, hts, hKs, hGk, hlk, hrt, hnm⟩ := hX
  obtain ⟨hd, hnx⟩ := hd
  subst hnx
  intro H locs ls hl hW hS
  exact lv_i2s hexec hb hd rfl (kk H locs ls hl hW hS)

theorem g_lcmp {G : Gt} {d mc ms : Nat} {own : String} {y : Mt} {X : Xt} {P : Pt3} {pc nx : Nat} {lo : List (Option Value)} {st : List Value} {I : It} {h : Ht} {k n : Nat} {a b : Int64} (hX : Xok G own y X) (hd : dc y.2.1 pc (.lcmp) 1 nx) (kk : GG G d mc ms X P nx lo (.int (lg_cmp a b) :: st) I h k n) : GG G d mc ms X P pc lo (.long b :: .long a :: st) I h k n := by
  obtain ⟨p, l, e, s, m, args, below, meth, c⟩ := X
  obtain ⟨hexec, hb, hml, hown, hts, hKs, hGk, hlk, hrt, hnm⟩ := hX
  obtain ⟨hd, hnx⟩ := hd
  subst hnx
  intro H locs ls hl hW hS
  exact W.lcmp hexec hb hd (kk H locs ls hl hW hS)

theorem g_dup {G : Gt} {d mc ms : Nat} {own : String} {y : Mt} {X : Xt} {P : Pt3} {pc nx : Nat} {lo : List (Option Value)} {st : List Value} {I : It} {h : Ht} {k n : Nat} {v : Value} (hX : Xok G own y X) (hd : dc y.2.1 pc (.dup) 1 nx) (hv : v.category = 1) (kk : GG G d mc ms X P nx lo (v :: v :: st) I h k n) : GG G d mc ms X P pc lo (v :: st) I h k n := by
  obtain ⟨p, l, e, s, m, args, below, meth, c⟩ := X
  obtain ⟨hexec, hb, hml, hown, hts, hKs, hGk, hlk, hrt, hnm⟩ := hX
  obtain ⟨hd, hnx⟩ := hd
  subst hnx
  intro H locs ls hl hW hS
  exact lv_dup hexec hb hd (by rw [cv_cat]; exact hv) (kk H locs ls hl hW hS)

theorem g_dup2 {G : Gt} {d mc ms : Nat} {own : String} {y : Mt} {X : Xt} {P : Pt3} {pc nx : Nat} {lo : List (Option Value)} {st : List Value} {I : It} {h : Ht} {k n : Nat} {v w : Value} (hX : Xok G own y X) (hd : dc y.2.1 pc (.dup2) 1 nx) (hv : v.category = 1) (hw : w.category = 1) (kk : GG G d mc ms X P nx lo (v :: w :: v :: w :: st) I h k n) : GG G d mc ms X P pc lo (v :: w :: st) I h k n := by
  obtain ⟨p, l, e, s, m, args, below, meth, c⟩ := X
  obtain ⟨hexec, hb, hml, hown, hts, hKs, hGk, hlk, hrt, hnm⟩ := hX
  obtain ⟨hd, hnx⟩ := hd
  subst hnx
  intro H locs ls hl hW hS
  exact lv_dup2_11 hexec hb hd (by rw [cv_cat]; exact hv) (by rw [cv_cat]; exact hw) (kk H locs ls hl hW hS)

theorem g_dup2l {G : Gt} {d mc ms : Nat} {own : String} {y : Mt} {X : Xt} {P : Pt3} {pc nx : Nat} {lo : List (Option Value)} {st : List Value} {I : It} {h : Ht} {k n : Nat} {a : Int64} (hX : Xok G own y X) (hd : dc y.2.1 pc (.dup2) 1 nx) (kk : GG G d mc ms X P nx lo (.long a :: .long a :: st) I h k n) : GG G d mc ms X P pc lo (.long a :: st) I h k n := by
  obtain ⟨p, l, e, s, m, args, below, meth, c⟩ := X
  obtain ⟨hexec, hb, hml, hown, hts, hKs, hGk, hlk, hrt, hnm⟩ := hX
  obtain ⟨hd, hnx⟩ := hd
  subst hnx
  intro H locs ls hl hW hS
  exact lv_dup2_2 hexec hb hd rfl (kk H locs ls hl hW hS)

theorem g_pop {G : Gt} {d mc ms : Nat} {own : String} {y : Mt} {X : Xt} {P : Pt3} {pc nx : Nat} {lo : List (Option Value)} {st : List Value} {I : It} {h : Ht} {k n : Nat} {v : Value} (hX : Xok G own y X) (hd : dc y.2.1 pc (.pop) 1 nx) (hv : v.category = 1) (kk : GG G d mc ms X P nx lo (st) I h k n) : GG G d mc ms X P pc lo (v :: st) I h k n := by
  obtain ⟨p, l, e, s, m, args, below, meth, c⟩ := X
  obtain ⟨hexec, hb, hml, hown, hts, hKs, hGk, hlk, hrt, hnm⟩ := hX
  obtain ⟨hd, hnx⟩ := hd
  subst hnx
  intro H locs ls hl hW hS
  exact lv_pop hexec hb hd (by rw [cv_cat]; exact hv) (kk H locs ls hl hW hS)

theorem g_iload_0 {G : Gt} {d mc ms : Nat} {own : String} {y : Mt} {X : Xt} {P : Pt3} {pc nx : Nat} {st : List Value} {I : It} {h : Ht} {k n : Nat} {rs : List (Option Value)} {x : Int32} (hX : Xok G own y X) (hd : dc y.2.1 pc (.iload_n 0) 1 nx) (kk : GG G d mc ms X P nx (some (.int x) :: rs) (.int x :: st) I h k n) : GG G d mc ms X P pc (some (.int x) :: rs) (st) I h k n := by
  obtain ⟨p, l, e, s, m, args, below, meth, c⟩ := X
  obtain ⟨hexec, hb, hml, hown, hts, hKs, hGk, hlk, hrt, hnm⟩ := hX
  obtain ⟨hd, hnx⟩ := hd
  subst hnx
  intro H locs ls hl hW hS
  exact lv_iload_n hexec hb hd rfl (lpr_at hl (i := 0) rfl) (kk H locs ls hl hW hS)

theorem g_lload_0 {G : Gt} {d mc ms : Nat} {own : String} {y : Mt} {X : Xt} {P : Pt3} {pc nx : Nat} {st : List Value} {I : It} {h : Ht} {k n : Nat} {rs : List (Option Value)} {x : Int64} (hX : Xok G own y X) (hd : dc y.2.1 pc (.lload_n 0) 1 nx) (kk : GG G d mc ms X P nx (some (.long x) :: rs) (.long x :: st) I h k n) : GG G d mc ms X P pc (some (.long x) :: rs) (st) I h k n := by
  obtain ⟨p, l, e, s, m, args, below, meth, c⟩ := X
  obtain ⟨hexec, hb, hml, hown, hts, hKs, hGk, hlk, hrt, hnm⟩ := hX
  obtain ⟨hd, hnx⟩ := hd
  subst hnx
  intro H locs ls hl hW hS
  exact lv_lload_n hexec hb hd rfl (lpr_at hl (i := 0) rfl) (kk H locs ls hl hW hS)

theorem g_aload_0 {G : Gt} {d mc ms : Nat} {own : String} {y : Mt} {X : Xt} {P : Pt3} {pc nx : Nat} {st : List Value} {I : It} {h : Ht} {k n : Nat} {rs : List (Option Value)} {x : Nat} (hX : Xok G own y X) (hd : dc y.2.1 pc (.aload_n 0) 1 nx) (kk : GG G d mc ms X P nx (some (.ref x) :: rs) (.ref x :: st) I h k n) : GG G d mc ms X P pc (some (.ref x) :: rs) (st) I h k n := by
  obtain ⟨p, l, e, s, m, args, below, meth, c⟩ := X
  obtain ⟨hexec, hb, hml, hown, hts, hKs, hGk, hlk, hrt, hnm⟩ := hX
  obtain ⟨hd, hnx⟩ := hd
  subst hnx
  intro H locs ls hl hW hS
  exact lv_aload_n hexec hb hd rfl (lpr_at hl (i := 0) rfl) (kk H locs ls hl hW hS)

theorem g_aloadN_0 {G : Gt} {d mc ms : Nat} {own : String} {y : Mt} {X : Xt} {P : Pt3} {pc nx : Nat} {st : List Value} {I : It} {h : Ht} {k n : Nat} {rs : List (Option Value)}  (hX : Xok G own y X) (hd : dc y.2.1 pc (.aload_n 0) 1 nx) (kk : GG G d mc ms X P nx (some .null :: rs) (.null :: st) I h k n) : GG G d mc ms X P pc (some .null :: rs) (st) I h k n := by
  obtain ⟨p, l, e, s, m, args, below, meth, c⟩ := X
  obtain ⟨hexec, hb, hml, hown, hts, hKs, hGk, hlk, hrt, hnm⟩ := hX
  obtain ⟨hd, hnx⟩ := hd
  subst hnx
  intro H locs ls hl hW hS
  exact lv_aload_nN hexec hb hd rfl (lpr_at hl (i := 0) rfl) (kk H locs ls hl hW hS)

theorem g_istore_0 {G : Gt} {d mc ms : Nat} {own : String} {y : Mt} {X : Xt} {P : Pt3} {pc nx : Nat} {st : List Value} {I : It} {h : Ht} {k n : Nat} {rs : List (Option Value)} {z : Option Value} {x : Int32} (hX : Xok G own y X) (hd : dc y.2.1 pc (.istore_n 0) 1 nx) (hi : 0 < y.2.2.1) (ha : ahd (z :: rs) 0 = true) (kk : GG G d mc ms X P nx (some (.int x) :: rs) st I h k n) : GG G d mc ms X P pc (z :: rs) (.int x :: st) I h k n := by
  obtain ⟨p, l, e, s, m, args, below, meth, c⟩ := X
  obtain ⟨hexec, hb, hml, hown, hts, hKs, hGk, hlk, hrt, hnm⟩ := hX
  obtain ⟨hd, hnx⟩ := hd
  subst hnx
  intro H locs ls hl hW hS
  refine lv_istore_n hexec hb hd rfl hl (by rw [hml]; exact hi) rfl (fun ls2 hl2 => ?_)
  exact kk H locs ls2 (lv_fewer hl2 (lpr_set (lo := z :: rs) (i := 0) (v := .int x) ha (by simp))) hW hS

theorem g_astore_0 {G : Gt} {d mc ms : Nat} {own : String} {y : Mt} {X : Xt} {P : Pt3} {pc nx : Nat} {st : List Value} {I : It} {h : Ht} {k n : Nat} {rs : List (Option Value)} {z : Option Value} {x : Nat} (hX : Xok G own y X) (hd : dc y.2.1 pc (.astore_n 0) 1 nx) (hi : 0 < y.2.2.1) (ha : ahd (z :: rs) 0 = true) (kk : GG G d mc ms X P nx (some (.ref x) :: rs) st I h k n) : GG G d mc ms X P pc (z :: rs) (.ref x :: st) I h k n := by
  obtain ⟨p, l, e, s, m, args, below, meth, c⟩ := X
  obtain ⟨hexec, hb, hml, hown, hts, hKs, hGk, hlk, hrt, hnm⟩ := hX
  obtain ⟨hd, hnx⟩ := hd
  subst hnx
  intro H locs ls hl hW hS
  refine lv_astore_n hexec hb hd rfl hl (by rw [hml]; exact hi) rfl (fun ls2 hl2 => ?_)
  exact kk H locs ls2 (lv_fewer hl2 (lpr_set (lo := z :: rs) (i := 0) (v := .ref x) ha (by simp))) hW hS

theorem g_astoreN_0 {G : Gt} {d mc ms : Nat} {own : String} {y : Mt} {X : Xt} {P : Pt3} {pc nx : Nat} {st : List Value} {I : It} {h : Ht} {k n : Nat} {rs : List (Option Value)} {z : Option Value}  (hX : Xok G own y X) (hd : dc y.2.1 pc (.astore_n 0) 1 nx) (hi : 0 < y.2.2.1) (ha : ahd (z :: rs) 0 = true) (kk : GG G d mc ms X P nx (some (.null) :: rs) st I h k n) : GG G d mc ms X P pc (z :: rs) (.null :: st) I h k n := by
  obtain ⟨p, l, e, s, m, args, below, meth, c⟩ := X
  obtain ⟨hexec, hb, hml, hown, hts, hKs, hGk, hlk, hrt, hnm⟩ := hX
  obtain ⟨hd, hnx⟩ := hd
  subst hnx
  intro H locs ls hl hW hS
  refine lv_astore_nN hexec hb hd rfl hl (by rw [hml]; exact hi) rfl (fun ls2 hl2 => ?_)
  exact kk H locs ls2 (lv_fewer hl2 (lpr_set (lo := z :: rs) (i := 0) (v := .null) ha (by simp))) hW hS

theorem g_lstore_0 {G : Gt} {d mc ms : Nat} {own : String} {y : Mt} {X : Xt} {P : Pt3} {pc nx : Nat} {st : List Value} {I : It} {h : Ht} {k n : Nat} {rs : List (Option Value)} {z z2 : Option Value} {x : Int64} (hX : Xok G own y X) (hd : dc y.2.1 pc (.lstore_n 0) 1 nx) (hi : 0 + 1 < y.2.2.1) (ha : ahd (z :: z2 :: rs) 0 = true) (kk : GG G d mc ms X P nx (some (.long x) :: none :: rs) st I h k n) : GG G d mc ms X P pc (z :: z2 :: rs) (.long x :: st) I h k n := by
  obtain ⟨p, l, e, s, m, args, below, meth, c⟩ := X
  obtain ⟨hexec, hb, hml, hown, hts, hKs, hGk, hlk, hrt, hnm⟩ := hX
  obtain ⟨hd, hnx⟩ := hd
  subst hnx
  intro H locs ls hl hW hS
  refine lv_lstore_n hexec hb hd rfl hl (by rw [hml]; exact hi) rfl (fun ls2 hl2 => ?_)
  exact kk H locs ls2 (lv_fewer hl2 (lpr_set2 (lo := z :: z2 :: rs) (i := 0) (v := .long x) ha (by simp))) hW hS

theorem g_iinc_0 {G : Gt} {d mc ms : Nat} {own : String} {y : Mt} {X : Xt} {P : Pt3} {pc nx : Nat} {st : List Value} {I : It} {h : Ht} {k n : Nat} {rs : List (Option Value)} {x v : Int32} {z : Int} (hX : Xok G own y X) (hd : dc y.2.1 pc (.iinc 0 z) 3 nx) (hv : x + Int32.ofInt z = v) (hi : 0 < y.2.2.1) (ha : ahd (some (.int x) :: rs) 0 = true) (kk : GG G d mc ms X P nx (some (.int v) :: rs) st I h k n) : GG G d mc ms X P pc (some (.int x) :: rs) st I h k n := by
  obtain ⟨p, l, e, s, m, args, below, meth, c⟩ := X
  obtain ⟨hexec, hb, hml, hown, hts, hKs, hGk, hlk, hrt, hnm⟩ := hX
  obtain ⟨hd, hnx⟩ := hd
  subst hnx
  intro H locs ls hl hW hS
  have hmem : (0, Value.int x) ∈ lpr G 0 (some (.int x) :: rs) := (lpr_mem _ 0 _).mpr ⟨0, .int x, rfl, by simp [cv]⟩
  obtain ⟨kq, hkq⟩ := List.getElem?_of_mem hmem
  refine lv_iinc hexec hb hd hl hkq hv (by rw [hml]; exact hi) rfl (fun ls2 hl2 => ?_)
  exact kk H locs ls2 (lv_fewer hl2 (lpr_set (lo := some (.int x) :: rs) (i := 0) (v := .int v) ha (by simp))) hW hS

theorem g_iload_1 {G : Gt} {d mc ms : Nat} {own : String} {y : Mt} {X : Xt} {P : Pt3} {pc nx : Nat} {st : List Value} {I : It} {h : Ht} {k n : Nat} {a0 : Option Value} {rs : List (Option Value)} {x : Int32} (hX : Xok G own y X) (hd : dc y.2.1 pc (.iload_n 1) 1 nx) (kk : GG G d mc ms X P nx (a0 :: some (.int x) :: rs) (.int x :: st) I h k n) : GG G d mc ms X P pc (a0 :: some (.int x) :: rs) (st) I h k n := by
  obtain ⟨p, l, e, s, m, args, below, meth, c⟩ := X
  obtain ⟨hexec, hb, hml, hown, hts, hKs, hGk, hlk, hrt, hnm⟩ := hX
  obtain ⟨hd, hnx⟩ := hd
  subst hnx
  intro H locs ls hl hW hS
  exact lv_iload_n hexec hb hd rfl (lpr_at hl (i := 1) rfl) (kk H locs ls hl hW hS)

theorem g_lload_1 {G : Gt} {d mc ms : Nat} {own : String} {y : Mt} {X : Xt} {P : Pt3} {pc nx : Nat} {st : List Value} {I : It} {h : Ht} {k n : Nat} {a0 : Option Value} {rs : List (Option Value)} {x : Int64} (hX : Xok G own y X) (hd : dc y.2.1 pc (.lload_n 1) 1 nx) (kk : GG G d mc ms X P nx (a0 :: some (.long x) :: rs) (.long x :: st) I h k n) : GG G d mc ms X P pc (a0 :: some (.long x) :: rs) (st) I h k n := by
  obtain ⟨p, l, e, s, m, args, below, meth, c⟩ := X
  obtain ⟨hexec, hb, hml, hown, hts, hKs, hGk, hlk, hrt, hnm⟩ := hX
  obtain ⟨hd, hnx⟩ := hd
  subst hnx
  intro H locs ls hl hW hS
  exact lv_lload_n hexec hb hd rfl (lpr_at hl (i := 1) rfl) (kk H locs ls hl hW hS)

theorem g_aload_1 {G : Gt} {d mc ms : Nat} {own : String} {y : Mt} {X : Xt} {P : Pt3} {pc nx : Nat} {st : List Value} {I : It} {h : Ht} {k n : Nat} {a0 : Option Value} {rs : List (Option Value)} {x : Nat} (hX : Xok G own y X) (hd : dc y.2.1 pc (.aload_n 1) 1 nx) (kk : GG G d mc ms X P nx (a0 :: some (.ref x) :: rs) (.ref x :: st) I h k n) : GG G d mc ms X P pc (a0 :: some (.ref x) :: rs) (st) I h k n := by
  obtain ⟨p, l, e, s, m, args, below, meth, c⟩ := X
  obtain ⟨hexec, hb, hml, hown, hts, hKs, hGk, hlk, hrt, hnm⟩ := hX
  obtain ⟨hd, hnx⟩ := hd
  subst hnx
  intro H locs ls hl hW hS
  exact lv_aload_n hexec hb hd rfl (lpr_at hl (i := 1) rfl) (kk H locs ls hl hW hS)

theorem g_aloadN_1 {G : Gt} {d mc ms : Nat} {own : String} {y : Mt} {X : Xt} {P : Pt3} {pc nx : Nat} {st : List Value} {I : It} {h : Ht} {k n : Nat} {a0 : Option Value} {rs : List (Option Value)}  (hX : Xok G own y X) (hd : dc y.2.1 pc (.aload_n 1) 1 nx) (kk : GG G d mc ms X P nx (a0 :: some .null :: rs) (.null :: st) I h k n) : GG G d mc ms X P pc (a0 :: some .null :: rs) (st) I h k n := by
  obtain ⟨p, l, e, s, m, args, below, meth, c⟩ := X
  obtain ⟨hexec, hb, hml, hown, hts, hKs, hGk, hlk, hrt, hnm⟩ := hX
  obtain ⟨hd, hnx⟩ := hd
  subst hnx
  intro H locs ls hl hW hS
  exact lv_aload_nN hexec hb hd rfl (lpr_at hl (i := 1) rfl) (kk H locs ls hl hW hS)

theorem g_istore_1 {G : Gt} {d mc ms : Nat} {own : String} {y : Mt} {X : Xt} {P : Pt3} {pc nx : Nat} {st : List Value} {I : It} {h : Ht} {k n : Nat} {a0 : Option Value} {rs : List (Option Value)} {z : Option Value} {x : Int32} (hX : Xok G own y X) (hd : dc y.2.1 pc (.istore_n 1) 1 nx) (hi : 1 < y.2.2.1) (ha : ahd (a0 :: z :: rs) 1 = true) (kk : GG G d mc ms X P nx (a0 :: some (.int x) :: rs) st I h k n) : GG G d mc ms X P pc (a0 :: z :: rs) (.int x :: st) I h k n := by
  obtain ⟨p, l, e, s, m, args, below, meth, c⟩ := X
  obtain ⟨hexec, hb, hml, hown, hts, hKs, hGk, hlk, hrt, hnm⟩ := hX
  obtain ⟨hd, hnx⟩ := hd
  subst hnx
  intro H locs ls hl hW hS
  refine lv_istore_n hexec hb hd rfl hl (by rw [hml]; exact hi) rfl (fun ls2 hl2 => ?_)
  exact kk H locs ls2 (lv_fewer hl2 (lpr_set (lo := a0 :: z :: rs) (i := 1) (v := .int x) ha (by simp))) hW hS

theorem g_astore_1 {G : Gt} {d mc ms : Nat} {own : String} {y : Mt} {X : Xt} {P : Pt3} {pc nx : Nat} {st : List Value} {I : It} {h : Ht} {k n : Nat} {a0 : Option Value} {rs : List (Option Value)} {z : Option Value} {x : Nat} (hX : Xok G own y X) (hd : dc y.2.1 pc (.astore_n 1) 1 nx) (hi : 1 < y.2.2.1) (ha : ahd (a0 :: z :: rs) 1 = true) (kk : GG G d mc ms X P nx (a0 :: some (.ref x) :: rs) st I h k n) : GG G d mc ms X P pc (a0 :: z :: rs) (.ref x :: st) I h k n := by
  obtain ⟨p, l, e, s, m, args, below, meth, c⟩ := X
  obtain ⟨hexec, hb, hml, hown, hts, hKs, hGk, hlk, hrt, hnm⟩ := hX
  obtain ⟨hd, hnx⟩ := hd
  subst hnx
  intro H locs ls hl hW hS
  refine lv_astore_n hexec hb hd rfl hl (by rw [hml]; exact hi) rfl (fun ls2 hl2 => ?_)
  exact kk H locs ls2 (lv_fewer hl2 (lpr_set (lo := a0 :: z :: rs) (i := 1) (v := .ref x) ha (by simp))) hW hS

theorem g_astoreN_1 {G : Gt} {d mc ms : Nat} {own : String} {y : Mt} {X : Xt} {P : Pt3} {pc nx : Nat} {st : List Value} {I : It} {h : Ht} {k n : Nat} {a0 : Option Value} {rs : List (Option Value)} {z : Option Value}  (hX : Xok G own y X) (hd : dc y.2.1 pc (.astore_n 1) 1 nx) (hi : 1 < y.2.2.1) (ha : ahd (a0 :: z :: rs) 1 = true) (kk : GG G d mc ms X P nx (a0 :: some (.null) :: rs) st I h k n) : GG G d mc ms X P pc (a0 :: z :: rs) (.null :: st) I h k n := by
  obtain ⟨p, l, e, s, m, args, below, meth, c⟩ := X
  obtain ⟨hexec, hb, hml, hown, hts, hKs, hGk, hlk, hrt, hnm⟩ := hX
  obtain ⟨hd, hnx⟩ := hd
  subst hnx
  intro H locs ls hl hW hS
  refine lv_astore_nN hexec hb hd rfl hl (by rw [hml]; exact hi) rfl (fun ls2 hl2 => ?_)
  exact kk H locs ls2 (lv_fewer hl2 (lpr_set (lo := a0 :: z :: rs) (i := 1) (v := .null) ha (by simp))) hW hS

theorem g_lstore_1 {G : Gt} {d mc ms : Nat} {own : String} {y : Mt} {X : Xt} {P : Pt3} {pc nx : Nat} {st : List Value} {I : It} {h : Ht} {k n : Nat} {a0 : Option Value} {rs : List (Option Value)} {z z2 : Option Value} {x : Int64} (hX : Xok G own y X) (hd : dc y.2.1 pc (.lstore_n 1) 1 nx) (hi : 1 + 1 < y.2.2.1) (ha : ahd (a0 :: z :: z2 :: rs) 1 = true) (kk : GG G d mc ms X P nx (a0 :: some (.long x) :: none :: rs) st I h k n) : GG G d mc ms X P pc (a0 :: z :: z2 :: rs) (.long x :: st) I h k n := by
  obtain ⟨p, l, e, s, m, args, below, meth, c⟩ := X
  obtain ⟨hexec, hb, hml, hown, hts, hKs, hGk, hlk, hrt, hnm⟩ := hX
  obtain ⟨hd, hnx⟩ := hd
  subst hnx
  intro H locs ls hl hW hS
  refine lv_lstore_n hexec hb hd rfl hl (by rw [hml]; exact hi) rfl (fun ls2 hl2 => ?_)
  exact kk H locs ls2 (lv_fewer hl2 (lpr_set2 (lo := a0 :: z :: z2 :: rs) (i := 1) (v := .long x) ha (by simp))) hW hS

theorem g_iinc_1 {G : Gt} {d mc ms : Nat} {own : String} {y : Mt} {X : Xt} {P : Pt3} {pc nx : Nat} {st : List Value} {I : It} {h : Ht} {k n : Nat} {a0 : Option Value} {rs : List (Option Value)} {x v : Int32} {z : Int} (hX : Xok G own y X) (hd : dc y.2.1 pc (.iinc 1 z) 3 nx) (hv : x + Int32.ofInt z = v) (hi : 1 < y.2.2.1) (ha : ahd (a0 :: some (.int x) :: rs) 1 = true) (kk : GG G d mc ms X P nx (a0 :: some (.int v) :: rs) st I h k n) : GG G d mc ms X P pc (a0 :: some (.int x) :: rs) st I h k n := by
  obtain ⟨p, l, e, s, m, args, below, meth, c⟩ := X
  obtain ⟨hexec, hb, hml, hown, hts, hKs, hGk, hlk, hrt, hnm⟩ := hX
  obtain ⟨hd, hnx⟩ := hd
  subst hnx
  intro H locs ls hl hW hS
  have hmem : (1, Value.int x) ∈ lpr G 0 (a0 :: some (.int x) :: rs) := (lpr_mem _ 0 _).mpr ⟨1, .int x, rfl, by simp [cv]⟩
  obtain ⟨kq, hkq⟩ := List.getElem?_of_mem hmem
  refine lv_iinc hexec hb hd hl hkq hv (by rw [hml]; exact hi) rfl (fun ls2 hl2 => ?_)
  exact kk H locs ls2 (lv_fewer hl2 (lpr_set (lo := a0 :: some (.int x) :: rs) (i := 1) (v := .int v) ha (by simp))) hW hS

theorem g_iload_2 {G : Gt} {d mc ms : Nat} {own : String} {y : Mt} {X : Xt} {P : Pt3} {pc nx : Nat} {st : List Value} {I : It} {h : Ht} {k n : Nat} {a0 a1 : Option Value} {rs : List (Option Value)} {x : Int32} (hX : Xok G own y X) (hd : dc y.2.1 pc (.iload_n 2) 1 nx) (kk : GG G d mc ms X P nx (a0 :: a1 :: some (.int x) :: rs) (.int x :: st) I h k n) : GG G d mc ms X P pc (a0 :: a1 :: some (.int x) :: rs) (st) I h k n := by
  obtain ⟨p, l, e, s, m, args, below, meth, c⟩ := X
  obtain ⟨hexec, hb, hml, hown, hts, hKs, hGk, hlk, hrt, hnm⟩ := hX
  obtain ⟨hd, hnx⟩ := hd
  subst hnx
  intro H locs ls hl hW hS
  exact lv_iload_n hexec hb hd rfl (lpr_at hl (i := 2) rfl) (kk H locs ls hl hW hS)

theorem g_lload_2 {G : Gt} {d mc ms : Nat} {own : String} {y : Mt} {X : Xt} {P : Pt3} {pc nx : Nat} {st : List Value} {I : It} {h : Ht} {k n : Nat} {a0 a1 : Option Value} {rs : List (Option Value)} {x : Int64} (hX : Xok G own y X) (hd : dc y.2.1 pc (.lload_n 2) 1 nx) (kk : GG G d mc ms X P nx (a0 :: a1 :: some (.long x) :: rs) (.long x :: st) I h k n) : GG G d mc ms X P pc (a0 :: a1 :: some (.long x) :: rs) (st) I h k n := by
  obtain ⟨p, l, e, s, m, args, below, meth, c⟩ := X
  obtain ⟨hexec, hb, hml, hown, hts, hKs, hGk, hlk, hrt, hnm⟩ := hX
  obtain ⟨hd, hnx⟩ := hd
  subst hnx
  intro H locs ls hl hW hS
  exact lv_lload_n hexec hb hd rfl (lpr_at hl (i := 2) rfl) (kk H locs ls hl hW hS)

theorem g_aload_2 {G : Gt} {d mc ms : Nat} {own : String} {y : Mt} {X : Xt} {P : Pt3} {pc nx : Nat} {st : List Value} {I : It} {h : Ht} {k n : Nat} {a0 a1 : Option Value} {rs : List (Option Value)} {x : Nat} (hX : Xok G own y X) (hd : dc y.2.1 pc (.aload_n 2) 1 nx) (kk : GG G d mc ms X P nx (a0 :: a1 :: some (.ref x) :: rs) (.ref x :: st) I h k n) : GG G d mc ms X P pc (a0 :: a1 :: some (.ref x) :: rs) (st) I h k n := by
  obtain ⟨p, l, e, s, m, args, below, meth, c⟩ := X
  obtain ⟨hexec, hb, hml, hown, hts, hKs, hGk, hlk, hrt, hnm⟩ := hX
  obtain ⟨hd, hnx⟩ := hd
  subst hnx
  intro H locs ls hl hW hS
  exact lv_aload_n hexec hb hd rfl (lpr_at hl (i := 2) rfl) (kk H locs ls hl hW hS)

theorem g_aloadN_2 {G : Gt} {d mc ms : Nat} {own : String} {y : Mt} {X : Xt} {P : Pt3} {pc nx : Nat} {st : List Value} {I : It} {h : Ht} {k n : Nat} {a0 a1 : Option Value} {rs : List (Option Value)}  (hX : Xok G own y X) (hd : dc y.2.1 pc (.aload_n 2) 1 nx) (kk : GG G d mc ms X P nx (a0 :: a1 :: some .null :: rs) (.null :: st) I h k n) : GG G d mc ms X P pc (a0 :: a1 :: some .null :: rs) (st) I h k n := by
  obtain ⟨p, l, e, s, m, args, below, meth, c⟩ := X
  obtain ⟨hexec, hb, hml, hown, hts, hKs, hGk, hlk, hrt, hnm⟩ := hX
  obtain ⟨hd, hnx⟩ := hd
  subst hnx
  intro H locs ls hl hW hS
  exact lv_aload_nN hexec hb hd rfl (lpr_at hl (i := 2) rfl) (kk H locs ls hl hW hS)

theorem g_istore_2 {G : Gt} {d mc ms : Nat} {own : String} {y : Mt} {X : Xt} {P : Pt3} {pc nx : Nat} {st : List Value} {I : It} {h : Ht} {k n : Nat} {a0 a1 : Option Value} {rs : List (Option Value)} {z : Option Value} {x : Int32} (hX : Xok G own y X) (hd : dc y.2.1 pc (.istore_n 2) 1 nx) (hi : 2 < y.2.2.1) (ha : ahd (a0 :: a1 :: z :: rs) 2 = true) (kk : GG G d mc ms X P nx (a0 :: a1 :: some (.int x) :: rs) st I h k n) : GG G d mc ms X P pc (a0 :: a1 :: z :: rs) (.int x :: st) I h k n := by
  obtain ⟨p, l, e, s, m, args, below, meth, c⟩ := X
  obtain ⟨hexec, hb, hml, hown, hts, hKs, hGk, hlk, hrt, hnm⟩ := hX
  obtain ⟨hd, hnx⟩ := hd
  subst hnx
  intro H locs ls hl hW hS
  refine lv_istore_n hexec hb hd rfl hl (by rw [hml]; exact hi) rfl (fun ls2 hl2 => ?_)
  exact kk H locs ls2 (lv_fewer hl2 (lpr_set (lo := a0 :: a1 :: z :: rs) (i := 2) (v := .int x) ha (by simp))) hW hS

theorem g_astore_2 {G : Gt} {d mc ms : Nat} {own : String} {y : Mt} {X : Xt} {P : Pt3} {pc nx : Nat} {st : List Value} {I : It} {h : Ht} {k n : Nat} {a0 a1 : Option Value} {rs : List (Option Value)} {z : Option Value} {x : Nat} (hX : Xok G own y X) (hd : dc y.2.1 pc (.astore_n 2) 1 nx) (hi : 2 < y.2.2.1) (ha : ahd (a0 :: a1 :: z :: rs) 2 = true) (kk : GG G d mc ms X P nx (a0 :: a1 :: some (.ref x) :: rs) st I h k n) : GG G d mc ms X P pc (a0 :: a1 :: z :: rs) (.ref x :: st) I h k n := by
  obtain ⟨p, l, e, s, m, args, below, meth, c⟩ := X
  obtain ⟨hexec, hb, hml, hown, hts, hKs, hGk, hlk, hrt, hnm⟩ := hX
  obtain ⟨hd, hnx⟩ := hd
  subst hnx
  intro H locs ls hl hW hS
  refine lv_astore_n hexec hb hd rfl hl (by rw [hml]; exact hi) rfl (fun ls2 hl2 => ?_)
  exact kk H locs ls2 (lv_fewer hl2 (lpr_set (lo := a0 :: a1 :: z :: rs) (i := 2) (v := .ref x) ha (by simp))) hW hS

theorem g_astoreN_2 {G : Gt} {d mc ms : Nat} {own : String} {y : Mt} {X : Xt} {P : Pt3} {pc nx : Nat} {st : List Value} {I : It} {h : Ht} {k n : Nat} {a0 a1 : Option Value} {rs : List (Option Value)} {z : Option Value}  (hX : Xok G own y X) (hd : dc y.2.1 pc (.astore_n 2) 1 nx) (hi : 2 < y.2.2.1) (ha : ahd (a0 :: a1 :: z :: rs) 2 = true) (kk : GG G d mc ms X P nx (a0 :: a1 :: some (.null) :: rs) st I h k n) : GG G d mc ms X P pc (a0 :: a1 :: z :: rs) (.null :: st) I h k n := by
  obtain ⟨p, l, e, s, m, args, below, meth, c⟩ := X
  obtain ⟨hexec, hb, hml, hown, hts, hKs, hGk, hlk, hrt, hnm⟩ := hX
  obtain ⟨hd, hnx⟩ := hd
  subst hnx
  intro H locs ls hl hW hS
  refine lv_astore_nN hexec hb hd rfl hl (by rw [hml]; exact hi) rfl (fun ls2 hl2 => ?_)
  exact kk H locs ls2 (lv_fewer hl2 (lpr_set (lo := a0 :: a1 :: z :: rs) (i := 2) (v := .null) ha (by simp))) hW hS

theorem g_lstore_2 {G : Gt} {d mc ms : Nat} {own : String} {y : Mt} {X : Xt} {P : Pt3} {pc nx : Nat} {st : List Value} {I : It} {h : Ht} {k n : Nat} {a0 a1 : Option Value} {rs : List (Option Value)} {z z2 : Option Value} {x : Int64} (hX : Xok G own y X) (hd : dc y.2.1 pc (.lstore_n 2) 1 nx) (hi : 2 + 1 < y.2.2.1) (ha : ahd (a0 :: a1 :: z :: z2 :: rs) 2 = true) (kk : GG G d mc ms X P nx (a0 :: a1 :: some (.long x) :: none :: rs) st I h k n) : GG G d mc ms X P pc (a0 :: a1 :: z :: z2 :: rs) (.long x :: st) I h k n := by
  obtain ⟨p, l, e, s, m, args, below, meth, c⟩ := X
  obtain ⟨hexec, hb, hml, hown, hts, hKs, hGk, hlk, hrt, hnm⟩ := hX
  obtain ⟨hd, hnx⟩ := hd
  subst hnx
  intro H locs ls hl hW hS
  refine lv_lstore_n hexec hb hd rfl hl (by rw [hml]; exact hi) rfl (fun ls2 hl2 => ?_)
  exact kk H locs ls2 (lv_fewer hl2 (lpr_set2 (lo := a0 :: a1 :: z :: z2 :: rs) (i := 2) (v := .long x) ha (by simp))) hW hS

theorem g_iinc_2 {G : Gt} {d mc ms : Nat} {own : String} {y : Mt} {X : Xt} {P : Pt3} {pc nx : Nat} {st : List Value} {I : It} {h : Ht} {k n : Nat} {a0 a1 : Option Value} {rs : List (Option Value)} {x v : Int32} {z : Int} (hX : Xok G own y X) (hd : dc y.2.1 pc (.iinc 2 z) 3 nx) (hv : x + Int32.ofInt z = v) (hi : 2 < y.2.2.1) (ha : ahd (a0 :: a1 :: some (.int x) :: rs) 2 = true) (kk : GG G d mc ms X P nx (a0 :: a1 :: some (.int v) :: rs) st I h k n) : GG G d mc ms X P pc (a0 :: a1 :: some (.int x) :: rs) st I h k n := by
  obtain ⟨p, l, e, s, m, args, below, meth, c⟩ := X
  obtain ⟨hexec, hb, hml, hown, hts, hKs, hGk, hlk, hrt, hnm⟩ := hX
  obtain ⟨hd, hnx⟩ := hd
  subst hnx
  intro H locs ls hl hW hS
  have hmem : (2, Value.int x) ∈ lpr G 0 (a0 :: a1 :: some (.int x) :: rs) := (lpr_mem _ 0 _).mpr ⟨2, .int x, rfl, by simp [cv]⟩
  obtain ⟨kq, hkq⟩ := List.getElem?_of_mem hmem
  refine lv_iinc hexec hb hd hl hkq hv (by rw [hml]; exact hi) rfl (fun ls2 hl2 => ?_)
  exact kk H locs ls2 (lv_fewer hl2 (lpr_set (lo := a0 :: a1 :: some (.int x) :: rs) (i := 2) (v := .int v) ha (by simp))) hW hS

theorem g_iload_3 {G : Gt} {d mc ms : Nat} {own : String} {y : Mt} {X : Xt} {P : Pt3} {pc nx : Nat} {st : List Value} {I : It} {h : Ht} {k n : Nat} {a0 a1 a2 : Option Value} {rs : List (Option Value)} {x : Int32} (hX : Xok G own y X) (hd : dc y.2.1 pc (.iload_n 3) 1 nx) (kk : GG G d mc ms X P nx (a0 :: a1 :: a2 :: some (.int x) :: rs) (.int x :: st) I h k n) : GG G d mc ms X P pc (a0 :: a1 :: a2 :: some (.int x) :: rs) (st) I h k n := by
  obtain ⟨p, l, e, s, m, args, below, meth, c⟩ := X
  obtain ⟨hexec, hb, hml, hown, hts, hKs, hGk, hlk, hrt, hnm⟩ := hX
  obtain ⟨hd, hnx⟩ := hd
  subst hnx
  intro H locs ls hl hW hS
  exact lv_iload_n hexec hb hd rfl (lpr_at hl (i := 3) rfl) (kk H locs ls hl hW hS)

theorem g_lload_3 {G : Gt} {d mc ms : Nat} {own : String} {y : Mt} {X : Xt} {P : Pt3} {pc nx : Nat} {st : List Value} {I : It} {h : Ht} {k n : Nat} {a0 a1 a2 : Option Value} {rs : List (Option Value)} {x : Int64} (hX : Xok G own y X) (hd : dc y.2.1 pc (.lload_n 3) 1 nx) (kk : GG G d mc ms X P nx (a0 :: a1 :: a2 :: some (.long x) :: rs) (.long x :: st) I h k n) : GG G d mc ms X P pc (a0 :: a1 :: a2 :: some (.long x) :: rs) (st) I h k n := by
  obtain ⟨p, l, e, s, m, args, below, meth, c⟩ := X
  obtain ⟨hexec, hb, hml, hown, hts, hKs, hGk, hlk, hrt, hnm⟩ := hX
  obtain ⟨hd, hnx⟩ := hd
  subst hnx
  intro H locs ls hl hW hS
  exact lv_lload_n hexec hb hd rfl (lpr_at hl (i := 3) rfl) (kk H locs ls hl hW hS)

theorem g_aload_3 {G : Gt} {d mc ms : Nat} {own : String} {y : Mt} {X : Xt} {P : Pt3} {pc nx : Nat} {st : List Value} {I : It} {h : Ht} {k n : Nat} {a0 a1 a2 : Option Value} {rs : List (Option Value)} {x : Nat} (hX : Xok G own y X) (hd : dc y.2.1 pc (.aload_n 3) 1 nx) (kk : GG G d mc ms X P nx (a0 :: a1 :: a2 :: some (.ref x) :: rs) (.ref x :: st) I h k n) : GG G d mc ms X P pc (a0 :: a1 :: a2 :: some (.ref x) :: rs) (st) I h k n := by
  obtain ⟨p, l, e, s, m, args, below, meth, c⟩ := X
  obtain ⟨hexec, hb, hml, hown, hts, hKs, hGk, hlk, hrt, hnm⟩ := hX
  obtain ⟨hd, hnx⟩ := hd
  subst hnx
  intro H locs ls hl hW hS
  exact lv_aload_n hexec hb hd rfl (lpr_at hl (i := 3) rfl) (kk H locs ls hl hW hS)

theorem g_aloadN_3 {G : Gt} {d mc ms : Nat} {own : String} {y : Mt} {X : Xt} {P : Pt3} {pc nx : Nat} {st : List Value} {I : It} {h : Ht} {k n : Nat} {a0 a1 a2 : Option Value} {rs : List (Option Value)}  (hX : Xok G own y X) (hd : dc y.2.1 pc (.aload_n 3) 1 nx) (kk : GG G d mc ms X P nx (a0 :: a1 :: a2 :: some .null :: rs) (.null :: st) I h k n) : GG G d mc ms X P pc (a0 :: a1 :: a2 :: some .null :: rs) (st) I h k n := by
  obtain ⟨p, l, e, s, m, args, below, meth, c⟩ := X
  obtain ⟨hexec, hb, hml, hown, hts, hKs, hGk, hlk, hrt, hnm⟩ := hX
  obtain ⟨hd, hnx⟩ := hd
  subst hnx
  intro H locs ls hl hW hS
  exact lv_aload_nN hexec hb hd rfl (lpr_at hl (i := 3) rfl) (kk H locs ls hl hW hS)

theorem g_istore_3 {G : Gt} {d mc ms : Nat} {own : String} {y : Mt} {X : Xt} {P : Pt3} {pc nx : Nat} {st : List Value} {I : It} {h : Ht} {k n : Nat} {a0 a1 a2 : Option Value} {rs : List (Option Value)} {z : Option Value} {x : Int32} (hX : Xok G own y X) (hd : dc y.2.1 pc (.istore_n 3) 1 nx) (hi : 3 < y.2.2.1) (ha : ahd (a0 :: a1 :: a2 :: z :: rs) 3 = true) (kk : GG G d mc ms X P nx (a0 :: a1 :: a2 :: some (.int x) :: rs) st I h k n) : GG G d mc ms X P pc (a0 :: a1 :: a2 :: z :: rs) (.int x :: st) I h k n := by
  obtain ⟨p, l, e, s, m, args, below, meth, c⟩ := X
  obtain ⟨hexec, hb, hml, hown, hts, hKs, hGk, hlk, hrt, hnm⟩ := hX
  obtain ⟨hd, hnx⟩ := hd
  subst hnx
  intro H locs ls hl hW hS
  refine lv_istore_n hexec hb hd rfl hl (by rw [hml]; exact hi) rfl (fun ls2 hl2 => ?_)
  exact kk H locs ls2 (lv_fewer hl2 (lpr_set (lo := a0 :: a1 :: a2 :: z :: rs) (i := 3) (v := .int x) ha (by simp))) hW hS

theorem g_astore_3 {G : Gt} {d mc ms : Nat} {own : String} {y : Mt} {X : Xt} {P : Pt3} {pc nx : Nat} {st : List Value} {I : It} {h : Ht} {k n : Nat} {a0 a1 a2 : Option Value} {rs : List (Option Value)} {z : Option Value} {x : Nat} (hX : Xok G own y X) (hd : dc y.2.1 pc (.astore_n 3) 1 nx) (hi : 3 < y.2.2.1) (ha : ahd (a0 :: a1 :: a2 :: z :: rs) 3 = true) (kk : GG G d mc ms X P nx (a0 :: a1 :: a2 :: some (.ref x) :: rs) st I h k n) : GG G d mc ms X P pc (a0 :: a1 :: a2 :: z :: rs) (.ref x :: st) I h k n := by
  obtain ⟨p, l, e, s, m, args, below, meth, c⟩ := X
  obtain ⟨hexec, hb, hml, hown, hts, hKs, hGk, hlk, hrt, hnm⟩ := hX
  obtain ⟨hd, hnx⟩ := hd
  subst hnx
  intro H locs ls hl hW hS
  refine lv_astore_n hexec hb hd rfl hl (by rw [hml]; exact hi) rfl (fun ls2 hl2 => ?_)
  exact kk H locs ls2 (lv_fewer hl2 (lpr_set (lo := a0 :: a1 :: a2 :: z :: rs) (i := 3) (v := .ref x) ha (by simp))) hW hS

theorem g_astoreN_3 {G : Gt} {d mc ms : Nat} {own : String} {y : Mt} {X : Xt} {P : Pt3} {pc nx : Nat} {st : List Value} {I : It} {h : Ht} {k n : Nat} {a0 a1 a2 : Option Value} {rs : List (Option Value)} {z : Option Value}  (hX : Xok G own y X) (hd : dc y.2.1 pc (.astore_n 3) 1 nx) (hi : 3 < y.2.2.1) (ha : ahd (a0 :: a1 :: a2 :: z :: rs) 3 = true) (kk : GG G d mc ms X P nx (a0 :: a1 :: a2 :: some (.null) :: rs) st I h k n) : GG G d mc ms X P pc (a0 :: a1 :: a2 :: z :: rs) (.null :: st) I h k n := by
  obtain ⟨p, l, e, s, m, args, below, meth, c⟩ := X
  obtain ⟨hexec, hb, hml, hown, hts, hKs, hGk, hlk, hrt, hnm⟩ := hX
  obtain ⟨hd, hnx⟩ := hd
  subst hnx
  intro H locs ls hl hW hS
  refine lv_astore_nN hexec hb hd rfl hl (by rw [hml]; exact hi) rfl (fun ls2 hl2 => ?_)
  exact kk H locs ls2 (lv_fewer hl2 (lpr_set (lo := a0 :: a1 :: a2 :: z :: rs) (i := 3) (v := .null) ha (by simp))) hW hS

theorem g_lstore_3 {G : Gt} {d mc ms : Nat} {own : String} {y : Mt} {X : Xt} {P : Pt3} {pc nx : Nat} {st : List Value} {I : It} {h : Ht} {k n : Nat} {a0 a1 a2 : Option Value} {rs : List (Option Value)} {z z2 : Option Value} {x : Int64} (hX : Xok G own y X) (hd : dc y.2.1 pc (.lstore_n 3) 1 nx) (hi : 3 + 1 < y.2.2.1) (ha : ahd (a0 :: a1 :: a2 :: z :: z2 :: rs) 3 = true) (kk : GG G d mc ms X P nx (a0 :: a1 :: a2 :: some (.long x) :: none :: rs) st I h k n) : GG G d mc ms X P pc (a0 :: a1 :: a2 :: z :: z2 :: rs) (.long x :: st) I h k n := by
  obtain ⟨p, l, e, s, m, args, below, meth, c⟩ := X
  obtain ⟨hexec, hb, hml, hown, hts, hKs, hGk, hlk, hrt, hnm⟩ := hX
  obtain ⟨hd, hnx⟩ := hd
  subst hnx
  intro H locs ls hl hW hS
  refine lv_lstore_n hexec hb hd rfl hl (by rw [hml]; exact hi) rfl (fun ls2 hl2 => ?_)
  exact kk H locs ls2 (lv_fewer hl2 (lpr_set2 (lo := a0 :: a1 :: a2 :: z :: z2 :: rs) (i := 3) (v := .long x) ha (by simp))) hW hS

theorem g_iinc_3 {G : Gt} {d mc ms : Nat} {own : String} {y : Mt} {X : Xt} {P : Pt3} {pc nx : Nat} {st : List Value} {I : It} {h : Ht} {k n : Nat} {a0 a1 a2 : Option Value} {rs : List (Option Value)} {x v : Int32} {z : Int} (hX : Xok G own y X) (hd : dc y.2.1 pc (.iinc 3 z) 3 nx) (hv : x + Int32.ofInt z = v) (hi : 3 < y.2.2.1) (ha : ahd (a0 :: a1 :: a2 :: some (.int x) :: rs) 3 = true) (kk : GG G d mc ms X P nx (a0 :: a1 :: a2 :: some (.int v) :: rs) st I h k n) : GG G d mc ms X P pc (a0 :: a1 :: a2 :: some (.int x) :: rs) st I h k n := by
  obtain ⟨p, l, e, s, m, args, below, meth, c⟩ := X
  obtain ⟨hexec, hb, hml, hown, hts, hKs, hGk, hlk, hrt, hnm⟩ := hX
  obtain ⟨hd, hnx⟩ := hd
  subst hnx
  intro H locs ls hl hW hS
  have hmem : (3, Value.int x) ∈ lpr G 0 (a0 :: a1 :: a2 :: some (.int x) :: rs) := (lpr_mem _ 0 _).mpr ⟨3, .int x, rfl, by simp [cv]⟩
  obtain ⟨kq, hkq⟩ := List.getElem?_of_mem hmem
  refine lv_iinc hexec hb hd hl hkq hv (by rw [hml]; exact hi) rfl (fun ls2 hl2 => ?_)
  exact kk H locs ls2 (lv_fewer hl2 (lpr_set (lo := a0 :: a1 :: a2 :: some (.int x) :: rs) (i := 3) (v := .int v) ha (by simp))) hW hS

theorem g_iload_4 {G : Gt} {d mc ms : Nat} {own : String} {y : Mt} {X : Xt} {P : Pt3} {pc nx : Nat} {st : List Value} {I : It} {h : Ht} {k n : Nat} {a0 a1 a2 a3 : Option Value} {rs : List (Option Value)} {x : Int32} (hX : Xok G own y X) (hd : dc y.2.1 pc (.iload 4) 2 nx) (kk : GG G d mc ms X P nx (a0 :: a1 :: a2 :: a3 :: some (.int x) :: rs) (.int x :: st) I h k n) : GG G d mc ms X P pc (a0 :: a1 :: a2 :: a3 :: some (.int x) :: rs) (st) I h k n := by
  obtain ⟨p, l, e, s, m, args, below, meth, c⟩ := X
  obtain ⟨hexec, hb, hml, hown, hts, hKs, hGk, hlk, hrt, hnm⟩ := hX
  obtain ⟨hd, hnx⟩ := hd
  subst hnx
  intro H locs ls hl hW hS
  exact lv_iload hexec hb hd (lpr_at hl (i := 4) rfl) (kk H locs ls hl hW hS)

theorem g_lload_4 {G : Gt} {d mc ms : Nat} {own : String} {y : Mt} {X : Xt} {P : Pt3} {pc nx : Nat} {st : List Value} {I : It} {h : Ht} {k n : Nat} {a0 a1 a2 a3 : Option Value} {rs : List (Option Value)} {x : Int64} (hX : Xok G own y X) (hd : dc y.2.1 pc (.lload 4) 2 nx) (kk : GG G d mc ms X P nx (a0 :: a1 :: a2 :: a3 :: some (.long x) :: rs) (.long x :: st) I h k n) : GG G d mc ms X P pc (a0 :: a1 :: a2 :: a3 :: some (.long x) :: rs) (st) I h k n := by
  obtain ⟨p, l, e, s, m, args, below, meth, c⟩ := X
  obtain ⟨hexec, hb, hml, hown, hts, hKs, hGk, hlk, hrt, hnm⟩ := hX
  obtain ⟨hd, hnx⟩ := hd
  subst hnx
  intro H locs ls hl hW hS
  exact lv_lload hexec hb hd (lpr_at hl (i := 4) rfl) (kk H locs ls hl hW hS)

theorem g_aload_4 {G : Gt} {d mc ms : Nat} {own : String} {y : Mt} {X : Xt} {P : Pt3} {pc nx : Nat} {st : List Value} {I : It} {h : Ht} {k n : Nat} {a0 a1 a2 a3 : Option Value} {rs : List (Option Value)} {x : Nat} (hX : Xok G own y X) (hd : dc y.2.1 pc (.aload 4) 2 nx) (kk : GG G d mc ms X P nx (a0 :: a1 :: a2 :: a3 :: some (.ref x) :: rs) (.ref x :: st) I h k n) : GG G d mc ms X P pc (a0 :: a1 :: a2 :: a3 :: some (.ref x) :: rs) (st) I h k n := by
  obtain ⟨p, l, e, s, m, args, below, meth, c⟩ := X
  obtain ⟨hexec, hb, hml, hown, hts, hKs, hGk, hlk, hrt, hnm⟩ := hX
  obtain ⟨hd, hnx⟩ := hd
  subst hnx
  intro H locs ls hl hW hS
  exact lv_aload hexec hb hd (lpr_at hl (i := 4) rfl) (kk H locs ls hl hW hS)

theorem g_aloadN_4 {G : Gt} {d mc ms : Nat} {own : String} {y : Mt} {X : Xt} {P : Pt3} {pc nx : Nat} {st : List Value} {I : It} {h : Ht} {k n : Nat} {a0 a1 a2 a3 : Option Value} {rs : List (Option Value)}  (hX : Xok G own y X) (hd : dc y.2.1 pc (.aload 4) 2 nx) (kk : GG G d mc ms X P nx (a0 :: a1 :: a2 :: a3 :: some .null :: rs) (.null :: st) I h k n) : GG G d mc ms X P pc (a0 :: a1 :: a2 :: a3 :: some .null :: rs) (st) I h k n := by
  obtain ⟨p, l, e, s, m, args, below, meth, c⟩ := X
  obtain ⟨hexec, hb, hml, hown, hts, hKs, hGk, hlk, hrt, hnm⟩ := hX
  obtain ⟨hd, hnx⟩ := hd
  subst hnx
  intro H locs ls hl hW hS
  exact lv_aloadN hexec hb hd (lpr_at hl (i := 4) rfl) (kk H locs ls hl hW hS)

theorem g_istore_4 {G : Gt} {d mc ms : Nat} {own : String} {y : Mt} {X : Xt} {P : Pt3} {pc nx : Nat} {st : List Value} {I : It} {h : Ht} {k n : Nat} {a0 a1 a2 a3 : Option Value} {rs : List (Option Value)} {z : Option Value} {x : Int32} (hX : Xok G own y X) (hd : dc y.2.1 pc (.istore 4) 2 nx) (hi : 4 < y.2.2.1) (ha : ahd (a0 :: a1 :: a2 :: a3 :: z :: rs) 4 = true) (kk : GG G d mc ms X P nx (a0 :: a1 :: a2 :: a3 :: some (.int x) :: rs) st I h k n) : GG G d mc ms X P pc (a0 :: a1 :: a2 :: a3 :: z :: rs) (.int x :: st) I h k n := by
  obtain ⟨p, l, e, s, m, args, below, meth, c⟩ := X
  obtain ⟨hexec, hb, hml, hown, hts, hKs, hGk, hlk, hrt, hnm⟩ := hX
  obtain ⟨hd, hnx⟩ := hd
  subst hnx
  intro H locs ls hl hW hS
  refine lv_istore hexec hb hd  hl (by rw [hml]; exact hi) rfl (fun ls2 hl2 => ?_)
  exact kk H locs ls2 (lv_fewer hl2 (lpr_set (lo := a0 :: a1 :: a2 :: a3 :: z :: rs) (i := 4) (v := .int x) ha (by simp))) hW hS

theorem g_astore_4 {G : Gt} {d mc ms : Nat} {own : String} {y : Mt} {X : Xt} {P : Pt3} {pc nx : Nat} {st : List Value} {I : It} {h : Ht} {k n : Nat} {a0 a1 a2 a3 : Option Value} {rs : List (Option Value)} {z : Option Value} {x : Nat} (hX : Xok G own y X) (hd : dc y.2.1 pc (.astore 4) 2 nx) (hi : 4 < y.2.2.1) (ha : ahd (a0 :: a1 :: a2 :: a3 :: z :: rs) 4 = true) (kk : GG G d mc ms X P nx (a0 :: a1 :: a2 :: a3 :: some (.ref x) :: rs) st I h k n) : GG G d mc ms X P pc (a0 :: a1 :: a2 :: a3 :: z :: rs) (.ref x :: st) I h k n := by
  obtain ⟨p, l, e, s, m, args, below, meth, c⟩ := X
  obtain ⟨hexec, hb, hml, hown, hts, hKs, hGk, hlk, hrt, hnm⟩ := hX
  obtain ⟨hd, hnx⟩ := hd
  subst hnx
  intro H locs ls hl hW hS
  refine lv_astore hexec hb hd  hl (by rw [hml]; exact hi) rfl (fun ls2 hl2 => ?_)
  exact kk H locs ls2 (lv_fewer hl2 (lpr_set (lo := a0 :: a1 :: a2 :: a3 :: z :: rs) (i := 4) (v := .ref x) ha (by simp))) hW hS

theorem g_astoreN_4 {G : Gt} {d mc ms : Nat} {own : String} {y : Mt} {X : Xt} {P : Pt3} {pc nx : Nat} {st : List Value} {I : It} {h : Ht} {k n : Nat} {a0 a1 a2 a3 : Option Value} {rs : List (Option Value)} {z : Option Value}  (hX : Xok G own y X) (hd : dc y.2.1 pc (.astore 4) 2 nx) (hi : 4 < y.2.2.1) (ha : ahd (a0 :: a1 :: a2 :: a3 :: z :: rs) 4 = true) (kk : GG G d mc ms X P nx (a0 :: a1 :: a2 :: a3 :: some (.null) :: rs) st I h k n) : GG G d mc ms X P pc (a0 :: a1 :: a2 :: a3 :: z :: rs) (.null :: st) I h k n := by
  obtain ⟨p, l, e, s, m, args, below, meth, c⟩ := X
  obtain ⟨hexec, hb, hml, hown, hts, hKs, hGk, hlk, hrt, hnm⟩ := hX
  obtain ⟨hd, hnx⟩ := hd
  subst hnx
  intro H locs ls hl hW hS
  refine lv_astoreN hexec hb hd  hl (by rw [hml]; exact hi) rfl (fun ls2 hl2 => ?_)
  exact kk H locs ls2 (lv_fewer hl2 (lpr_set (lo := a0 :: a1 :: a2 :: a3 :: z :: rs) (i := 4) (v := .null) ha (by simp))) hW hS

theorem g_lstore_4 {G : Gt} {d mc ms : Nat} {own : String} {y : Mt} {X : Xt} {P : Pt3} {pc nx : Nat} {st : List Value} {I : It} {h : Ht} {k n : Nat} {a0 a1 a2 a3 : Option Value} {rs : List (Option Value)} {z z2 : Option Value} {x : Int64} (hX : Xok G own y X) (hd : dc y.2.1 pc (.lstore 4) 2 nx) (hi : 4 + 1 < y.2.2.1) (ha : ahd (a0 :: a1 :: a2 :: a3 :: z :: z2 :: rs) 4 = true) (kk : GG G d mc ms X P nx (a0 :: a1 :: a2 :: a3 :: some (.long x) :: none :: rs) st I h k n) : GG G d mc ms X P pc (a0 :: a1 :: a2 :: a3 :: z :: z2 :: rs) (.long x :: st) I h k n := by
  obtain ⟨p, l, e, s, m, args, below, meth, c⟩ := X
  obtain ⟨hexec, hb, hml, hown, hts, hKs, hGk, hlk, hrt, hnm⟩ := hX
  obtain ⟨hd, hnx⟩ := hd
  subst hnx
  intro H locs ls hl hW hS
  refine lv_lstore hexec hb hd  hl (by rw [hml]; exact hi) rfl (fun ls2 hl2 => ?_)
  exact kk H locs ls2 (lv_fewer hl2 (lpr_set2 (lo := a0 :: a1 :: a2 :: a3 :: z :: z2 :: rs) (i := 4) (v := .long x) ha (by simp))) hW hS

theorem g_iinc_4 {G : Gt} {d mc ms : Nat} {own : String} {y : Mt} {X : Xt} {P : Pt3} {pc nx : Nat} {st : List Value} {I : It} {h : Ht} {k n : Nat} {a0 a1 a2 a3 : Option Value} {rs : List (Option Value)} {x v : Int32} {z : Int} (hX : Xok G own y X) (hd : dc y.2.1 pc (.iinc 4 z) 3 nx) (hv : x + Int32.ofInt z = v) (hi : 4 < y.2.2.1) (ha : ahd (a0 :: a1 :: a2 :: a3 :: some (.int x) :: rs) 4 = true) (kk : GG G d mc ms X P nx (a0 :: a1 :: a2 :: a3 :: some (.int v) :: rs) st I h k n) : GG G d mc ms X P pc (a0 :: a1 :: a2 :: a3 :: some (.int x) :: rs) st I h k n := by
  obtain ⟨p, l, e, s, m, args, below, meth, c⟩ := X
  obtain ⟨hexec, hb, hml, hown, hts, hKs, hGk, hlk, hrt, hnm⟩ := hX
  obtain ⟨hd, hnx⟩ := hd
  subst hnx
  intro H locs ls hl hW hS
  have hmem : (4, Value.int x) ∈ lpr G 0 (a0 :: a1 :: a2 :: a3 :: some (.int x) :: rs) := (lpr_mem _ 0 _).mpr ⟨4, .int x, rfl, by simp [cv]⟩
  obtain ⟨kq, hkq⟩ := List.getElem?_of_mem hmem
  refine lv_iinc hexec hb hd hl hkq hv (by rw [hml]; exact hi) rfl (fun ls2 hl2 => ?_)
  exact kk H locs ls2 (lv_fewer hl2 (lpr_set (lo := a0 :: a1 :: a2 :: a3 :: some (.int x) :: rs) (i := 4) (v := .int v) ha (by simp))) hW hS

theorem g_iload_5 {G : Gt} {d mc ms : Nat} {own : String} {y : Mt} {X : Xt} {P : Pt3} {pc nx : Nat} {st : List Value} {I : It} {h : Ht} {k n : Nat} {a0 a1 a2 a3 a4 : Option Value} {rs : List (Option Value)} {x : Int32} (hX : Xok G own y X) (hd : dc y.2.1 pc (.iload 5) 2 nx) (kk : GG G d mc ms X P nx (a0 :: a1 :: a2 :: a3 :: a4 :: some (.int x) :: rs) (.int x :: st) I h k n) : GG G d mc ms X P pc (a0 :: a1 :: a2 :: a3 :: a4 :: some (.int x) :: rs) (st) I h k n := by
  obtain ⟨p, l, e, s, m, args, below, meth, c⟩ := X
  obtain ⟨hexec, hb, hml, hown, hts, hKs, hGk, hlk, hrt, hnm⟩ := hX
  obtain ⟨hd, hnx⟩ := hd
  subst hnx
  intro H locs ls hl hW hS
  exact lv_iload hexec hb hd (lpr_at hl (i := 5) rfl) (kk H locs ls hl hW hS)

theorem g_lload_5 {G : Gt} {d mc ms : Nat} {own : String} {y : Mt} {X : Xt} {P : Pt3} {pc nx : Nat} {st : List Value} {I : It} {h : Ht} {k n : Nat} {a0 a1 a2 a3 a4 : Option Value} {rs : List (Option Value)} {x : Int64} (hX : Xok G own y X) (hd : dc y.2.1 pc (.lload 5) 2 nx) (kk : GG G d mc ms X P nx (a0 :: a1 :: a2 :: a3 :: a4 :: some (.long x) :: rs) (.long x :: st) I h k n) : GG G d mc ms X P pc (a0 :: a1 :: a2 :: a3 :: a4 :: some (.long x) :: rs) (st) I h k n := by
  obtain ⟨p, l, e, s, m, args, below, meth, c⟩ := X
  obtain ⟨hexec, hb, hml, hown, hts, hKs, hGk, hlk, hrt, hnm⟩ := hX
  obtain ⟨hd, hnx⟩ := hd
  subst hnx
  intro H locs ls hl hW hS
  exact lv_lload hexec hb hd (lpr_at hl (i := 5) rfl) (kk H locs ls hl hW hS)

theorem g_aload_5 {G : Gt} {d mc ms : Nat} {own : String} {y : Mt} {X : Xt} {P : Pt3} {pc nx : Nat} {st : List Value} {I : It} {h : Ht} {k n : Nat} {a0 a1 a2 a3 a4 : Option Value} {rs : List (Option Value)} {x : Nat} (hX : Xok G own y X) (hd : dc y.2.1 pc (.aload 5) 2 nx) (kk : GG G d mc ms X P nx (a0 :: a1 :: a2 :: a3 :: a4 :: some (.ref x) :: rs) (.ref x :: st) I h k n) : GG G d mc ms X P pc (a0 :: a1 :: a2 :: a3 :: a4 :: some (.ref x) :: rs) (st) I h k n := by
  obtain ⟨p, l, e, s, m, args, below, meth, c⟩ := X
  obtain ⟨hexec, hb, hml, hown, hts, hKs, hGk, hlk, hrt, hnm⟩ := hX
  obtain ⟨hd, hnx⟩ := hd
  subst hnx
  intro H locs ls hl hW hS
  exact lv_aload hexec hb hd (lpr_at hl (i := 5) rfl) (kk H locs ls hl hW hS)

theorem g_aloadN_5 {G : Gt} {d mc ms : Nat} {own : String} {y : Mt} {X : Xt} {P : Pt3} {pc nx : Nat} {st : List Value} {I : It} {h : Ht} {k n : Nat} {a0 a1 a2 a3 a4 : Option Value} {rs : List (Option Value)}  (hX : Xok G own y X) (hd : dc y.2.1 pc (.aload 5) 2 nx) (kk : GG G d mc ms X P nx (a0 :: a1 :: a2 :: a3 :: a4 :: some .null :: rs) (.null :: st) I h k n) : GG G d mc ms X P pc (a0 :: a1 :: a2 :: a3 :: a4 :: some .null :: rs) (st) I h k n := by
  obtain ⟨p, l, e, s, m, args, below, meth, c⟩ := X
  obtain ⟨hexec, hb, hml, hown, hts, hKs, hGk, hlk, hrt, hnm⟩ := hX
  obtain ⟨hd, hnx⟩ := hd
  subst hnx
  intro H locs ls hl hW hS
  exact lv_aloadN hexec hb hd (lpr_at hl (i := 5) rfl) (kk H locs ls hl hW hS)

theorem g_istore_5 {G : Gt} {d mc ms : Nat} {own : String} {y : Mt} {X : Xt} {P : Pt3} {pc nx : Nat} {st : List Value} {I : It} {h : Ht} {k n : Nat} {a0 a1 a2 a3 a4 : Option Value} {rs : List (Option Value)} {z : Option Value} {x : Int32} (hX : Xok G own y X) (hd : dc y.2.1 pc (.istore 5) 2 nx) (hi : 5 < y.2.2.1) (ha : ahd (a0 :: a1 :: a2 :: a3 :: a4 :: z :: rs) 5 = true) (kk : GG G d mc ms X P nx (a0 :: a1 :: a2 :: a3 :: a4 :: some (.int x) :: rs) st I h k n) : GG G d mc ms X P pc (a0 :: a1 :: a2 :: a3 :: a4 :: z :: rs) (.int x :: st) I h k n := by
  obtain ⟨p, l, e, s, m, args, below, meth, c⟩ := X
  obtain ⟨hexec, hb, hml, hown, hts, hKs, hGk, hlk, hrt, hnm⟩ := hX
  obtain ⟨hd, hnx⟩ := hd
  subst hnx
  intro H locs ls hl hW hS
  refine lv_istore hexec hb hd  hl (by rw [hml]; exact hi) rfl (fun ls2 hl2 => ?_)
  exact kk H locs ls2 (lv_fewer hl2 (lpr_set (lo := a0 :: a1 :: a2 :: a3 :: a4 :: z :: rs) (i := 5) (v := .int x) ha (by simp))) hW hS

theorem g_astore_5 {G : Gt} {d mc ms : Nat} {own : String} {y : Mt} {X : Xt} {P : Pt3} {pc nx : Nat} {st : List Value} {I : It} {h : Ht} {k n : Nat} {a0 a1 a2 a3 a4 : Option Value} {rs : List (Option Value)} {z : Option Value} {x : Nat} (hX : Xok G own y X) (hd : dc y.2.1 pc (.astore 5) 2 nx) (hi : 5 < y.2.2.1) (ha : ahd (a0 :: a1 :: a2 :: a3 :: a4 :: z :: rs) 5 = true) (kk : GG G d mc ms X P nx (a0 :: a1 :: a2 :: a3 :: a4 :: some (.ref x) :: rs) st I h k n) : GG G d mc ms X P pc (a0 :: a1 :: a2 :: a3 :: a4 :: z :: rs) (.ref x :: st) I h k n := by
  obtain ⟨p, l, e, s, m, args, below, meth, c⟩ := X
  obtain ⟨hexec, hb, hml, hown, hts, hKs, hGk, hlk, hrt, hnm⟩ := hX
  obtain ⟨hd, hnx⟩ := hd
  subst hnx
  intro H locs ls hl hW hS
  refine lv_astore hexec hb hd  hl (by rw [hml]; exact hi) rfl (fun ls2 hl2 => ?_)
  exact kk H locs ls2 (lv_fewer hl2 (lpr_set (lo := a0 :: a1 :: a2 :: a3 :: a4 :: z :: rs) (i := 5) (v := .ref x) ha (by simp))) hW hS

theorem g_astoreN_5 {G : Gt} {d mc ms : Nat} {own : String} {y : Mt} {X : Xt} {P : Pt3} {pc nx : Nat} {st : List Value} {I : It} {h : Ht} {k n : Nat} {a0 a1 a2 a3 a4 : Option Value} {rs : List (Option Value)} {z : Option Value}  (hX : Xok G own y X) (hd : dc y.2.1 pc (.astore 5) 2 nx) (hi : 5 < y.2.2.1) (ha : ahd (a0 :: a1 :: a2 :: a3 :: a4 :: z :: rs) 5 = true) (kk : GG G d mc ms X P nx (a0 :: a1 :: a2 :: a3 :: a4 :: some (.null) :: rs) st I h k n) : GG G d mc ms X P pc (a0 :: a1 :: a2 :: a3 :: a4 :: z :: rs) (.null :: st) I h k n := by
  obtain ⟨p, l, e, s, m, args, below, meth, c⟩ := X
  obtain ⟨hexec, hb, hml, hown, hts, hKs, hGk, hlk, hrt, hnm⟩ := hX
  obtain ⟨hd, hnx⟩ := hd
  subst hnx
  intro H locs ls hl hW hS
  refine lv_astoreN hexec hb hd  hl (by rw [hml]; exact hi) rfl (fun ls2 hl2 => ?_)
  exact kk H locs ls2 (lv_fewer hl2 (lpr_set (lo := a0 :: a1 :: a2 :: a3 :: a4 :: z :: rs) (i := 5) (v := .null) ha (by simp))) hW hS

theorem g_lstore_5 {G : Gt} {d mc ms : Nat} {own : String} {y : Mt} {X : Xt} {P : Pt3} {pc nx : Nat} {st : List Value} {I : It} {h : Ht} {k n : Nat} {a0 a1 a2 a3 a4 : Option Value} {rs : List (Option Value)} {z z2 : Option Value} {x : Int64} (hX : Xok G own y X) (hd : dc y.2.1 pc (.lstore 5) 2 nx) (hi : 5 + 1 < y.2.2.1) (ha : ahd (a0 :: a1 :: a2 :: a3 :: a4 :: z :: z2 :: rs) 5 = true) (kk : GG G d mc ms X P nx (a0 :: a1 :: a2 :: a3 :: a4 :: some (.long x) :: none :: rs) st I h k n) : GG G d mc ms X P pc (a0 :: a1 :: a2 :: a3 :: a4 :: z :: z2 :: rs) (.long x :: st) I h k n := by
  obtain ⟨p, l, e, s, m, args, below, meth, c⟩ := X
  obtain ⟨hexec, hb, hml, hown, hts, hKs, hGk, hlk, hrt, hnm⟩ := hX
  obtain ⟨hd, hnx⟩ := hd
  subst hnx
  intro H locs ls hl hW hS
  refine lv_lstore hexec hb hd  hl (by rw [hml]; exact hi) rfl (fun ls2 hl2 => ?_)
  exact kk H locs ls2 (lv_fewer hl2 (lpr_set2 (lo := a0 :: a1 :: a2 :: a3 :: a4 :: z :: z2 :: rs) (i := 5) (v := .long x) ha (by simp))) hW hS

theorem g_iinc_5 {G : Gt} {d mc ms : Nat} {own : String} {y : Mt} {X : Xt} {P : Pt3} {pc nx : Nat} {st : List Value} {I : It} {h : Ht} {k n : Nat} {a0 a1 a2 a3 a4 : Option Value} {rs : List (Option Value)} {x v : Int32} {z : Int} (hX : Xok G own y X) (hd : dc y.2.1 pc (.iinc 5 z) 3 nx) (hv : x + Int32.ofInt z = v) (hi : 5 < y.2.2.1) (ha : ahd (a0 :: a1 :: a2 :: a3 :: a4 :: some (.int x) :: rs) 5 = true) (kk : GG G d mc ms X P nx (a0 :: a1 :: a2 :: a3 :: a4 :: some (.int v) :: rs) st I h k n) : GG G d mc ms X P pc (a0 :: a1 :: a2 :: a3 :: a4 :: some (.int x) :: rs) st I h k n := by
  obtain ⟨p, l, e, s, m, args, below, meth, c⟩ := X
  obtain ⟨hexec, hb, hml, hown, hts, hKs, hGk, hlk, hrt, hnm⟩ := hX
  obtain ⟨hd, hnx⟩ := hd
  subst hnx
  intro H locs ls hl hW hS
  have hmem : (5, Value.int x) ∈ lpr G 0 (a0 :: a1 :: a2 :: a3 :: a4 :: some (.int x) :: rs) := (lpr_mem _ 0 _).mpr ⟨5, .int x, rfl, by simp [cv]⟩
  obtain ⟨kq, hkq⟩ := List.getElem?_of_mem hmem
  refine lv_iinc hexec hb hd hl hkq hv (by rw [hml]; exact hi) rfl (fun ls2 hl2 => ?_)
  exact kk H locs ls2 (lv_fewer hl2 (lpr_set (lo := a0 :: a1 :: a2 :: a3 :: a4 :: some (.int x) :: rs) (i := 5) (v := .int v) ha (by simp))) hW hS

theorem g_iload_6 {G : Gt} {d mc ms : Nat} {own : String} {y : Mt} {X : Xt} {P : Pt3} {pc nx : Nat} {st : List Value} {I : It} {h : Ht} {k n : Nat} {a0 a1 a2 a3 a4 a5 : Option Value} {rs : List (Option Value)} {x : Int32} (hX : Xok G own y X) (hd : dc y.2.1 pc (.iload 6) 2 nx) (kk : GG G d mc ms X P nx (a0 :: a1 :: a2 :: a3 :: a4 :: a5 :: some (.int x) :: rs) (.int x :: st) I h k n) : GG G d mc ms X P pc (a0 :: a1 :: a2 :: a3 :: a4 :: a5 :: some (.int x) :: rs) (st) I h k n := by
  obtain ⟨p, l, e, s, m, args, below, meth, c⟩ := X
  obtain ⟨hexec, hb, hml, hown, hts, hKs, hGk, hlk, hrt, hnm⟩ := hX
  obtain ⟨hd, hnx⟩ := hd
  subst hnx
  intro H locs ls hl hW hS
  exact lv_iload hexec hb hd (lpr_at hl (i := 6) rfl) (kk H locs ls hl hW hS)

theorem g_lload_6 {G : Gt} {d mc ms : Nat} {own : String} {y : Mt} {X : Xt} {P : Pt3} {pc nx : Nat} {st : List Value} {I : It} {h : Ht} {k n : Nat} {a0 a1 a2 a3 a4 a5 : Option Value} {rs : List (Option Value)} {x : Int64} (hX : Xok G own y X) (hd : dc y.2.1 pc (.lload 6) 2 nx) (kk : GG G d mc ms X P nx (a0 :: a1 :: a2 :: a3 :: a4 :: a5 :: some (.long x) :: rs) (.long x :: st) I h k n) : GG G d mc ms X P pc (a0 :: a1 :: a2 :: a3 :: a4 :: a5 :: some (.long x) :: rs) (st) I h k n := by
  obtain ⟨p, l, e, s, m, args, below, meth, c⟩ := X
  obtain ⟨hexec, hb, hml, hown, hts, hKs, hGk, hlk, hrt, hnm⟩ := hX
  obtain ⟨hd, hnx⟩ := hd
  subst hnx
  intro H locs ls hl hW hS
  exact lv_lload hexec hb hd (lpr_at hl (i := 6) rfl) (kk H locs ls hl hW hS)

theorem g_aload_6 {G : Gt} {d mc ms : Nat} {own : String} {y : Mt} {X : Xt} {P : Pt3} {pc nx : Nat} {st : List Value} {I : It} {h : Ht} {k n : Nat} {a0 a1 a2 a3 a4 a5 : Option Value} {rs : List (Option Value)} {x : Nat} (hX : Xok G own y X) (hd : dc y.2.1 pc (.aload 6) 2 nx) (kk : GG G d mc ms X P nx (a0 :: a1 :: a2 :: a3 :: a4 :: a5 :: some (.ref x) :: rs) (.ref x :: st) I h k n) : GG G d mc ms X P pc (a0 :: a1 :: a2 :: a3 :: a4 :: a5 :: some (.ref x) :: rs) (st) I h k n := by
  obtain ⟨p, l, e, s, m, args, below, meth, c⟩ := X
  obtain ⟨hexec, hb, hml, hown, hts, hKs, hGk, hlk, hrt, hnm⟩ := hX
  obtain ⟨hd, hnx⟩ := hd
  subst hnx
  intro H locs ls hl hW hS
  exact lv_aload hexec hb hd (lpr_at hl (i := 6) rfl) (kk H locs ls hl hW hS)

theorem g_aloadN_6 {G : Gt} {d mc ms : Nat} {own : String} {y : Mt} {X : Xt} {P : Pt3} {pc nx : Nat} {st : List Value} {I : It} {h : Ht} {k n : Nat} {a0 a1 a2 a3 a4 a5 : Option Value} {rs : List (Option Value)}  (hX : Xok G own y X) (hd : dc y.2.1 pc (.aload 6) 2 nx) (kk : GG G d mc ms X P nx (a0 :: a1 :: a2 :: a3 :: a4 :: a5 :: some .null :: rs) (.null :: st) I h k n) : GG G d mc ms X P pc (a0 :: a1 :: a2 :: a3 :: a4 :: a5 :: some .null :: rs) (st) I h k n := by
  obtain ⟨p, l, e, s, m, args, below, meth, c⟩ := X
  obtain ⟨hexec, hb, hml, hown, hts, hKs, hGk, hlk, hrt, hnm⟩ := hX
  obtain ⟨hd, hnx⟩ := hd
  subst hnx
  intro H locs ls hl hW hS
  exact lv_aloadN hexec hb hd (lpr_at hl (i := 6) rfl) (kk H locs ls hl hW hS)

theorem g_istore_6 {G : Gt} {d mc ms : Nat} {own : String} {y : Mt} {X : Xt} {P : Pt3} {pc nx : Nat} {st : List Value} {I : It} {h : Ht} {k n : Nat} {a0 a1 a2 a3 a4 a5 : Option Value} {rs : List (Option Value)} {z : Option Value} {x : Int32} (hX : Xok G own y X) (hd : dc y.2.1 pc (.istore 6) 2 nx) (hi : 6 < y.2.2.1) (ha : ahd (a0 :: a1 :: a2 :: a3 :: a4 :: a5 :: z :: rs) 6 = true) (kk : GG G d mc ms X P nx (a0 :: a1 :: a2 :: a3 :: a4 :: a5 :: some (.int x) :: rs) st I h k n) : GG G d mc ms X P pc (a0 :: a1 :: a2 :: a3 :: a4 :: a5 :: z :: rs) (.int x :: st) I h k n := by
  obtain ⟨p, l, e, s, m, args, below, meth, c⟩ := X
  obtain ⟨hexec, hb, hml, hown, hts, hKs, hGk, hlk, hrt, hnm⟩ := hX
  obtain ⟨hd, hnx⟩ := hd
  subst hnx
  intro H locs ls hl hW hS
  refine lv_istore hexec hb hd  hl (by rw [hml]; exact hi) rfl (fun ls2 hl2 => ?_)
  exact kk H locs ls2 (lv_fewer hl2 (lpr_set (lo := a0 :: a1 :: a2 :: a3 :: a4 :: a5 :: z :: rs) (i := 6) (v := .int x) ha (by simp))) hW hS

theorem g_astore_6 {G : Gt} {d mc ms : Nat} {own : String} {y : Mt} {X : Xt} {P : Pt3} {pc nx : Nat} {st : List Value} {I : It} {h : Ht} {k n : Nat} {a0 a1 a2 a3 a4 a5 : Option Value} {rs : List (Option Value)} {z : Option Value} {x : Nat} (hX : Xok G own y X) (hd : dc y.2.1 pc (.astore 6) 2 nx) (hi : 6 < y.2.2.1) (ha : ahd (a0 :: a1 :: a2 :: a3 :: a4 :: a5 :: z :: rs) 6 = true) (kk : GG G d mc ms X P nx (a0 :: a1 :: a2 :: a3 :: a4 :: a5 :: some (.ref x) :: rs) st I h k n) : GG G d mc ms X P pc (a0 :: a1 :: a2 :: a3 :: a4 :: a5 :: z :: rs) (.ref x :: st) I h k n := by
  obtain ⟨p, l, e, s, m, args, below, meth, c⟩ := X
  obtain ⟨hexec, hb, hml, hown, hts, hKs, hGk, hlk, hrt, hnm⟩ := hX
  obtain ⟨hd, hnx⟩ := hd
  subst hnx
  intro H locs ls hl hW hS
  refine lv_astore hexec hb hd  hl (by rw [hml]; exact hi) rfl (fun ls2 hl2 => ?_)
  exact kk H locs ls2 (lv_fewer hl2 (lpr_set (lo := a0 :: a1 :: a2 :: a3 :: a4 :: a5 :: z :: rs) (i := 6) (v := .ref x) ha (by simp))) hW hS

theorem g_astoreN_6 {G : Gt} {d mc ms : Nat} {own : String} {y : Mt} {X : Xt} {P : Pt3} {pc nx : Nat} {st : List Value} {I : It} {h : Ht} {k n : Nat} {a0 a1 a2 a3 a4 a5 : Option Value} {rs : List (Option Value)} {z : Option Value}  (hX : Xok G own y X) (hd : dc y.2.1 pc (.astore 6) 2 nx) (hi : 6 < y.2.2.1) (ha : ahd (a0 :: a1 :: a2 :: a3 :: a4 :: a5 :: z :: rs) 6 = true) (kk : GG G d mc ms X P nx (a0 :: a1 :: a2 :: a3 :: a4 :: a5 :: some (.null) :: rs) st I h k n) : GG G d mc ms X P pc (a0 :: a1 :: a2 :: a3 :: a4 :: a5 :: z :: rs) (.null :: st) I h k n := by
  obtain ⟨p, l, e, s, m, args, below, meth, c⟩ := X
  obtain ⟨hexec, hb, hml, hown, hts, hKs, hGk, hlk, hrt, hnm⟩ := hX
  obtain ⟨hd, hnx⟩ := hd
  subst hnx
  intro H locs ls hl hW hS
  refine lv_astoreN hexec hb hd  hl (by rw [hml]; exact hi) rfl (fun ls2 hl2 => ?_)
  exact kk H locs ls2 (lv_fewer hl2 (lpr_set (lo := a0 :: a1 :: a2 :: a3 :: a4 :: a5 :: z :: rs) (i := 6) (v := .null) ha (by simp))) hW hS

theorem g_lstore_6 {G : Gt} {d mc ms : Nat} {own : String} {y : Mt} {X : Xt} {P : Pt3} {pc nx : Nat} {st : List Value} {I : It} {h : Ht} {k n : Nat} {a0 a1 a2 a3 a4 a5 : Option Value} {rs : List (Option Value)} {z z2 : Option Value} {x : Int64} (hX : Xok G own y X) (hd : dc y.2.1 pc (.lstore 6) 2 nx) (hi : 6 + 1 < y.2.2.1) (ha : ahd (a0 :: a1 :: a2 :: a3 :: a4 :: a5 :: z :: z2 :: rs) 6 = true) (kk : GG G d mc ms X P nx (a0 :: a1 :: a2 :: a3 :: a4 :: a5 :: some (.long x) :: none :: rs) st I h k n) : GG G d mc ms X P pc (a0 :: a1 :: a2 :: a3 :: a4 :: a5 :: z :: z2 :: rs) (.long x :: st) I h k n := by
  obtain ⟨p, l, e, s, m, args, below, meth, c⟩ := X
  obtain ⟨hexec, hb, hml, hown, hts, hKs, hGk, hlk, hrt, hnm⟩ := hX
  obtain ⟨hd, hnx⟩ := hd
  subst hnx
  intro H locs ls hl hW hS
  refine lv_lstore hexec hb hd  hl (by rw [hml]; exact hi) rfl (fun ls2 hl2 => ?_)
  exact kk H locs ls2 (lv_fewer hl2 (lpr_set2 (lo := a0 :: a1 :: a2 :: a3 :: a4 :: a5 :: z :: z2 :: rs) (i := 6) (v := .long x) ha (by simp))) hW hS

theorem g_iinc_6 {G : Gt} {d mc ms : Nat} {own : String} {y : Mt} {X : Xt} {P : Pt3} {pc nx : Nat} {st : List Value} {I : It} {h : Ht} {k n : Nat} {a0 a1 a2 a3 a4 a5 : Option Value} {rs : List (Option Value)} {x v : Int32} {z : Int} (hX : Xok G own y X) (hd : dc y.2.1 pc (.iinc 6 z) 3 nx) (hv : x + Int32.ofInt z = v) (hi : 6 < y.2.2.1) (ha : ahd (a0 :: a1 :: a2 :: a3 :: a4 :: a5 :: some (.int x) :: rs) 6 = true) (kk : GG G d mc ms X P nx (a0 :: a1 :: a2 :: a3 :: a4 :: a5 :: some (.int v) :: rs) st I h k n) : GG G d mc ms X P pc (a0 :: a1 :: a2 :: a3 :: a4 :: a5 :: some (.int x) :: rs) st I h k n := by
  obtain ⟨p, l, e, s, m, args, below, meth, c⟩ := X
  obtain ⟨hexec, hb, hml, hown, hts, hKs, hGk, hlk, hrt, hnm⟩ := hX
  obtain ⟨hd, hnx⟩ := hd
  subst hnx
  intro H locs ls hl hW hS
  have hmem : (6, Value.int x) ∈ lpr G 0 (a0 :: a1 :: a2 :: a3 :: a4 :: a5 :: some (.int x) :: rs) := (lpr_mem _ 0 _).mpr ⟨6, .int x, rfl, by simp [cv]⟩
  obtain ⟨kq, hkq⟩ := List.getElem?_of_mem hmem
  refine lv_iinc hexec hb hd hl hkq hv (by rw [hml]; exact hi) rfl (fun ls2 hl2 => ?_)
  exact kk H locs ls2 (lv_fewer hl2 (lpr_set (lo := a0 :: a1 :: a2 :: a3 :: a4 :: a5 :: some (.int x) :: rs) (i := 6) (v := .int v) ha (by simp))) hW hS

theorem g_iload_7 {G : Gt} {d mc ms : Nat} {own : String} {y : Mt} {X : Xt} {P : Pt3} {pc nx : Nat} {st : List Value} {I : It} {h : Ht} {k n : Nat} {a0 a1 a2 a3 a4 a5 a6 : Option Value} {rs : List (Option Value)} {x : Int32} (hX : Xok G own y X) (hd : dc y.2.1 pc (.iload 7) 2 nx) (kk : GG G d mc ms X P nx (a0 :: a1 :: a2 :: a3 :: a4 :: a5 :: a6 :: some (.int x) :: rs) (.int x :: st) I h k n) : GG G d mc ms X P pc (a0 :: a1 :: a2 :: a3 :: a4 :: a5 :: a6 :: some (.int x) :: rs) (st) I h k n := by
  obtain ⟨p, l, e, s, m, args, below, meth, c⟩ := X
  obtain ⟨hexec, hb, hml, hown, hts, hKs, hGk, hlk, hrt, hnm⟩ := hX
  obtain ⟨hd, hnx⟩ := hd
  subst hnx
  intro H locs ls hl hW hS
  exact lv_iload hexec hb hd (lpr_at hl (i := 7) rfl) (kk H locs ls hl hW hS)

theorem g_lload_7 {G : Gt} {d mc ms : Nat} {own : String} {y : Mt} {X : Xt} {P : Pt3} {pc nx : Nat} {st : List Value} {I : It} {h : Ht} {k n : Nat} {a0 a1 a2 a3 a4 a5 a6 : Option Value} {rs : List (Option Value)} {x : Int64} (hX : Xok G own y X) (hd : dc y.2.1 pc (.lload 7) 2 nx) (kk : GG G d mc ms X P nx (a0 :: a1 :: a2 :: a3 :: a4 :: a5 :: a6 :: some (.long x) :: rs) (.long x :: st) I h k n) : GG G d mc ms X P pc (a0 :: a1 :: a2 :: a3 :: a4 :: a5 :: a6 :: some (.long x) :: rs) (st) I h k n := by
  obtain ⟨p, l, e, s, m, args, below, meth, c⟩ := X
  obtain ⟨hexec, hb, hml, hown, hts, hKs, hGk, hlk, hrt, hnm⟩ := hX
  obtain ⟨hd, hnx⟩ := hd
  subst hnx
  intro H locs ls hl hW hS
  exact lv_lload hexec hb hd (lpr_at hl (i := 7) rfl) (kk H locs ls hl hW hS)

theorem g_aload_7 {G : Gt} {d mc ms : Nat} {own : String} {y : Mt} {X : Xt} {P : Pt3} {pc nx : Nat} {st : List Value} {I : It} {h : Ht} {k n : Nat} {a0 a1 a2 a3 a4 a5 a6 : Option Value} {rs : List (Option Value)} {x : Nat} (hX : Xok G own y X) (hd : dc y.2.1 pc (.aload 7) 2 nx) (kk : GG G d mc ms X P nx (a0 :: a1 :: a2 :: a3 :: a4 :: a5 :: a6 :: some (.ref x) :: rs) (.ref x :: st) I h k n) : GG G d mc ms X P pc (a0 :: a1 :: a2 :: a3 :: a4 :: a5 :: a6 :: some (.ref x) :: rs) (st) I h k n := by
  obtain ⟨p, l, e, s, m, args, below, meth, c⟩ := X
  obtain ⟨hexec, hb, hml, hown, hts, hKs, hGk, hlk, hrt, hnm⟩ := hX
  obtain ⟨hd, hnx⟩ := hd
  subst hnx
  intro H locs ls hl hW hS
  exact lv_aload hexec hb hd (lpr_at hl (i := 7) rfl) (kk H locs ls hl hW hS)

theorem g_aloadN_7 {G : Gt} {d mc ms : Nat} {own : String} {y : Mt} {X : Xt} {P : Pt3} {pc nx : Nat} {st : List Value} {I : It} {h : Ht} {k n : Nat} {a0 a1 a2 a3 a4 a5 a6 : Option Value} {rs : List (Option Value)}  (hX : Xok G own y X) (hd : dc y.2.1 pc (.aload 7) 2 nx) (kk : GG G d mc ms X P nx (a0 :: a1 :: a2 :: a3 :: a4 :: a5 :: a6 :: some .null :: rs) (.null :: st) I h k n) : GG G d mc ms X P pc (a0 :: a1 :: a2 :: a3 :: a4 :: a5 :: a6 :: some .null :: rs) (st) I h k n := by
  obtain ⟨p, l, e, s, m, args, below, meth, c⟩ := X
  obtain ⟨hexec, hb, hml, hown, hts, hKs, hGk, hlk, hrt, hnm⟩ := hX
  obtain ⟨hd, hnx⟩ := hd
  subst hnx
  intro H locs ls hl hW hS
  exact lv_aloadN hexec hb hd (lpr_at hl (i := 7) rfl) (kk H locs ls hl hW hS)

theorem g_istore_7 {G : Gt} {d mc ms : Nat} {own : String} {y : Mt} {X : Xt} {P : Pt3} {pc nx : Nat} {st : List Value} {I : It} {h : Ht} {k n : Nat} {a0 a1 a2 a3 a4 a5 a6 : Option Value} {rs : List (Option Value)} {z : Option Value} {x : Int32} (hX : Xok G own y X) (hd : dc y.2.1 pc (.istore 7) 2 nx) (hi : 7 < y.2.2.1) (ha : ahd (a0 :: a1 :: a2 :: a3 :: a4 :: a5 :: a6 :: z :: rs) 7 = true) (kk : GG G d mc ms X P nx (a0 :: a1 :: a2 :: a3 :: a4 :: a5 :: a6 :: some (.int x) :: rs) st I h k n) : GG G d mc ms X P pc (a0 :: a1 :: a2 :: a3 :: a4 :: a5 :: a6 :: z :: rs) (.int x :: st) I h k n := by
  obtain ⟨p, l, e, s, m, args, below, meth, c⟩ := X
  obtain ⟨hexec, hb, hml, hown, hts, hKs, hGk, hlk, hrt, hnm⟩ := hX
  obtain ⟨hd, hnx⟩ := hd
  subst hnx
  intro H locs ls hl hW hS
  refine lv_istore hexec hb hd  hl (by rw [hml]; exact hi) rfl (fun ls2 hl2 => ?_)
  exact kk H locs ls2 (lv_fewer hl2 (lpr_set (lo := a0 :: a1 :: a2 :: a3 :: a4 :: a5 :: a6 :: z :: rs) (i := 7) (v := .int x) ha (by simp))) hW hS

theorem g_astore_7 {G : Gt} {d mc ms : Nat} {own : String} {y : Mt} {X : Xt} {P : Pt3} {pc nx : Nat} {st : List Value} {I : It} {h : Ht} {k n : Nat} {a0 a1 a2 a3 a4 a5 a6 : Option Value} {rs : List (Option Value)} {z : Option Value} {x : Nat} (hX : Xok G own y X) (hd : dc y.2.1 pc (.astore 7) 2 nx) (hi : 7 < y.2.2.1) (ha : ahd (a0 :: a1 :: a2 :: a3 :: a4 :: a5 :: a6 :: z :: rs) 7 = true) (kk : GG G d mc ms X P nx (a0 :: a1 :: a2 :: a3 :: a4 :: a5 :: a6 :: some (.ref x) :: rs) st I h k n) : GG G d mc ms X P pc (a0 :: a1 :: a2 :: a3 :: a4 :: a5 :: a6 :: z :: rs) (.ref x :: st) I h k n := by
  obtain ⟨p, l, e, s, m, args, below, meth, c⟩ := X
  obtain ⟨hexec, hb, hml, hown, hts, hKs, hGk, hlk, hrt, hnm⟩ := hX
  obtain ⟨hd, hnx⟩ := hd
  subst hnx
  intro H locs ls hl hW hS
  refine lv_astore hexec hb hd  hl (by rw [hml]; exact hi) rfl (fun ls2 hl2 => ?_)
  exact kk H locs ls2 (lv_fewer hl2 (lpr_set (lo := a0 :: a1 :: a2 :: a3 :: a4 :: a5 :: a6 :: z :: rs) (i := 7) (v := .ref x) ha (by simp))) hW hS

theorem g_astoreN_7 {G : Gt} {d mc ms : Nat} {own : String} {y : Mt} {X : Xt} {P : Pt3} {pc nx : Nat} {st : List Value} {I : It} {h : Ht} {k n : Nat} {a0 a1 a2 a3 a4 a5 a6 : Option Value} {rs : List (Option Value)} {z : Option Value}  (hX : Xok G own y X) (hd : dc y.2.1 pc (.astore 7) 2 nx) (hi : 7 < y.2.2.1) (ha : ahd (a0 :: a1 :: a2 :: a3 :: a4 :: a5 :: a6 :: z :: rs) 7 = true) (kk : GG G d mc ms X P nx (a0 :: a1 :: a2 :: a3 :: a4 :: a5 :: a6 :: some (.null) :: rs) st I h k n) : GG G d mc ms X P pc (a0 :: a1 :: a2 :: a3 :: a4 :: a5 :: a6 :: z :: rs) (.null :: st) I h k n := by
  obtain ⟨p, l, e, s, m, args, below, meth, c⟩ := X
  obtain ⟨hexec, hb, hml, hown, hts, hKs, hGk, hlk, hrt, hnm⟩ := hX
  obtain ⟨hd, hnx⟩ := hd
  subst hnx
  intro H locs ls hl hW hS
  refine lv_astoreN hexec hb hd  hl (by rw [hml]; exact hi) rfl (fun ls2 hl2 => ?_)
  exact kk H locs ls2 (lv_fewer hl2 (lpr_set (lo := a0 :: a1 :: a2 :: a3 :: a4 :: a5 :: a6 :: z :: rs) (i := 7) (v := .null) ha (by simp))) hW hS

theorem g_lstore_7 {G : Gt} {d mc ms : Nat} {own : String} {y : Mt} {X : Xt} {P : Pt3} {pc nx : Nat} {st : List Value} {I : It} {h : Ht} {k n : Nat} {a0 a1 a2 a3 a4 a5 a6 : Option Value} {rs : List (Option Value)} {z z2 : Option Value} {x : Int64} (hX : Xok G own y X) (hd : dc y.2.1 pc (.lstore 7) 2 nx) (hi : 7 + 1 < y.2.2.1) (ha : ahd (a0 :: a1 :: a2 :: a3 :: a4 :: a5 :: a6 :: z :: z2 :: rs) 7 = true) (kk : GG G d mc ms X P nx (a0 :: a1 :: a2 :: a3 :: a4 :: a5 :: a6 :: some (.long x) :: none :: rs) st I h k n) : GG G d mc ms X P pc (a0 :: a1 :: a2 :: a3 :: a4 :: a5 :: a6 :: z :: z2 :: rs) (.long x :: st) I h k n := by
  obtain ⟨p, l, e, s, m, args, below, meth, c⟩ := X
  obtain ⟨hexec, hb, hml, hown, hts, hKs, hGk, hlk, hrt, hnm⟩ := hX
  obtain ⟨hd, hnx⟩ := hd
  subst hnx
  intro H locs ls hl hW hS
  refine lv_lstore hexec hb hd  hl (by rw [hml]; exact hi) rfl (fun ls2 hl2 => ?_)
  exact kk H locs ls2 (lv_fewer hl2 (lpr_set2 (lo := a0 :: a1 :: a2 :: a3 :: a4 :: a5 :: a6 :: z :: z2 :: rs) (i := 7) (v := .long x) ha (by simp))) hW hS

theorem g_iinc_7 {G : Gt} {d mc ms : Nat} {own : String} {y : Mt} {X : Xt} {P : Pt3} {pc nx : Nat} {st : List Value} {I : It} {h : Ht} {k n : Nat} {a0 a1 a2 a3 a4 a5 a6 : Option Value} {rs : List (Option Value)} {x v : Int32} {z : Int} (hX : Xok G own y X) (hd : dc y.2.1 pc (.iinc 7 z) 3 nx) (hv : x + Int32.ofInt z = v) (hi : 7 < y.2.2.1) (ha : ahd (a0 :: a1 :: a2 :: a3 :: a4 :: a5 :: a6 :: some (.int x) :: rs) 7 = true) (kk : GG G d mc ms X P nx (a0 :: a1 :: a2 :: a3 :: a4 :: a5 :: a6 :: some (.int v) :: rs) st I h k n) : GG G d mc ms X P pc (a0 :: a1 :: a2 :: a3 :: a4 :: a5 :: a6 :: some (.int x) :: rs) st I h k n := by
  obtain ⟨p, l, e, s, m, args, below, meth, c⟩ := X
  obtain ⟨hexec, hb, hml, hown, hts, hKs, hGk, hlk, hrt, hnm⟩ := hX
  obtain ⟨hd, hnx⟩ := hd
  subst hnx
  intro H locs ls hl hW hS
  have hmem : (7, Value.int x) ∈ lpr G 0 (a0 :: a1 :: a2 :: a3 :: a4 :: a5 :: a6 :: some (.int x) :: rs) := (lpr_mem _ 0 _).mpr ⟨7, .int x, rfl, by simp [cv]⟩
  obtain ⟨kq, hkq⟩ := List.getElem?_of_mem hmem
  refine lv_iinc hexec hb hd hl hkq hv (by rw [hml]; exact hi) rfl (fun ls2 hl2 => ?_)
  exact kk H locs ls2 (lv_fewer hl2 (lpr_set (lo := a0 :: a1 :: a2 :: a3 :: a4 :: a5 :: a6 :: some (.int x) :: rs) (i := 7) (v := .int v) ha (by simp))) hW hS

theorem g_iload_8 {G : Gt} {d mc ms : Nat} {own : String} {y : Mt} {X : Xt} {P : Pt3} {pc nx : Nat} {st : List Value} {I : It} {h : Ht} {k n : Nat} {a0 a1 a2 a3 a4 a5 a6 a7 : Option Value} {rs : List (Option Value)} {x : Int32} (hX : Xok G own y X) (hd : dc y.2.1 pc (.iload 8) 2 nx) (kk : GG G d mc ms X P nx (a0 :: a1 :: a2 :: a3 :: a4 :: a5 :: a6 :: a7 :: some (.int x) :: rs) (.int x :: st) I h k n) : GG G d mc ms X P pc (a0 :: a1 :: a2 :: a3 :: a4 :: a5 :: a6 :: a7 :: some (.int x) :: rs) (st) I h k n := by
  obtain ⟨p, l, e, s, m, args, below, meth, c⟩ := X
  obtain ⟨hexec, hb, hml, hown, hts, hKs, hGk, hlk, hrt, hnm⟩ := hX
  obtain ⟨hd, hnx⟩ := hd
  subst hnx
  intro H locs ls hl hW hS
  exact lv_iload hexec hb hd (lpr_at hl (i := 8) rfl) (kk H locs ls hl hW hS)

theorem g_lload_8 {G : Gt} {d mc ms : Nat} {own : String} {y : Mt} {X : Xt} {P : Pt3} {pc nx : Nat} {st : List Value} {I : It} {h : Ht} {k n : Nat} {a0 a1 a2 a3 a4 a5 a6 a7 : Option Value} {rs : List (Option Value)} {x : Int64} (hX : Xok G own y X) (hd : dc y.2.1 pc (.lload 8) 2 nx) (kk : GG G d mc ms X P nx (a0 :: a1 :: a2 :: a3 :: a4 :: a5 :: a6 :: a7 :: some (.long x) :: rs) (.long x :: st) I h k n) : GG G d mc ms X P pc (a0 :: a1 :: a2 :: a3 :: a4 :: a5 :: a6 :: a7 :: some (.long x) :: rs) (st) I h k n := by
  obtain ⟨p, l, e, s, m, args, below, meth, c⟩ := X
  obtain ⟨hexec, hb, hml, hown, hts, hKs, hGk, hlk, hrt, hnm⟩ := hX
  obtain ⟨hd, hnx⟩ := hd
  subst hnx
  intro H locs ls hl hW hS
  exact lv_lload hexec hb hd (lpr_at hl (i := 8) rfl) (kk H locs ls hl hW hS)

theorem g_aload_8 {G : Gt} {d mc ms : Nat} {own : String} {y : Mt} {X : Xt} {P : Pt3} {pc nx : Nat} {st : List Value} {I : It} {h : Ht} {k n : Nat} {a0 a1 a2 a3 a4 a5 a6 a7 : Option Value} {rs : List (Option Value)} {x : Nat} (hX : Xok G own y X) (hd : dc y.2.1 pc (.aload 8) 2 nx) (kk : GG G d mc ms X P nx (a0 :: a1 :: a2 :: a3 :: a4 :: a5 :: a6 :: a7 :: some (.ref x) :: rs) (.ref x :: st) I h k n) : GG G d mc ms X P pc (a0 :: a1 :: a2 :: a3 :: a4 :: a5 :: a6 :: a7 :: some (.ref x) :: rs) (st) I h k n := by
  obtain ⟨p, l, e, s, m, args, below, meth, c⟩ := X
  obtain ⟨hexec, hb, hml, hown, hts, hKs, hGk, hlk, hrt, hnm⟩ := hX
  obtain ⟨hd, hnx⟩ := hd
  subst hnx
  intro H locs ls hl hW hS
  exact lv_aload hexec hb hd (lpr_at hl (i := 8) rfl) (kk H locs ls hl hW hS)

theorem g_aloadN_8 {G : Gt} {d mc ms : Nat} {own : String} {y : Mt} {X : Xt} {P : Pt3} {pc nx : Nat} {st : List Value} {I : It} {h : Ht} {k n : Nat} {a0 a1 a2 a3 a4 a5 a6 a7 : Option Value} {rs : List (Option Value)}  (hX : Xok G own y X) (hd : dc y.2.1 pc (.aload 8) 2 nx) (kk : GG G d mc ms X P nx (a0 :: a1 :: a2 :: a3 :: a4 :: a5 :: a6 :: a7 :: some .null :: rs) (.null :: st) I h k n) : GG G d mc ms X P pc (a0 :: a1 :: a2 :: a3 :: a4 :: a5 :: a6 :: a7 :: some .null :: rs) (st) I h k n := by
  obtain ⟨p, l, e, s, m, args, below, meth, c⟩ := X
  obtain ⟨hexec, hb, hml, hown, hts, hKs, hGk, hlk, hrt, hnm⟩ := hX
  obtain ⟨hd, hnx⟩ := hd
  subst hnx
  intro H locs ls hl hW hS
  exact lv_aloadN hexec hb hd (lpr_at hl (i := 8) rfl) (kk H locs ls hl hW hS)

theorem g_istore_8 {G : Gt} {d mc ms : Nat} {own : String} {y : Mt} {X : Xt} {P : Pt3} {pc nx : Nat} {st : List Value} {I : It} {h : Ht} {k n : Nat} {a0 a1 a2 a3 a4 a5 a6 a7 : Option Value} {rs : List (Option Value)} {z : Option Value} {x : Int32} (hX : Xok G own y X) (hd : dc y.2.1 pc (.istore 8) 2 nx) (hi : 8 < y.2.2.1) (ha : ahd (a0 :: a1 :: a2 :: a3 :: a4 :: a5 :: a6 :: a7 :: z :: rs) 8 = true) (kk : GG G d mc ms X P nx (a0 :: a1 :: a2 :: a3 :: a4 :: a5 :: a6 :: a7 :: some (.int x) :: rs) st I h k n) : GG G d mc ms X P pc (a0 :: a1 :: a2 :: a3 :: a4 :: a5 :: a6 :: a7 :: z :: rs) (.int x :: st) I h k n := by
  obtain ⟨p, l, e, s, m, args, below, meth, c⟩ := X
  obtain ⟨hexec, hb, hml, hown, hts, hKs, hGk, hlk, hrt, hnm⟩ := hX
  obtain ⟨hd, hnx⟩ := hd
  subst hnx
  intro H locs ls hl hW hS
  refine lv_istore hexec hb hd  hl (by rw [hml]; exact hi) rfl (fun ls2 hl2 => ?_)
  exact kk H locs ls2 (lv_fewer hl2 (lpr_set (lo := a0 :: a1 :: a2 :: a3 :: a4 :: a5 :: a6 :: a7 :: z :: rs) (i := 8) (v := .int x) ha (by simp))) hW hS

theorem g_astore_8 {G : Gt} {d mc ms : Nat} {own : String} {y : Mt} {X : Xt} {P : Pt3} {pc nx : Nat} {st : List Value} {I : It} {h : Ht} {k n : Nat} {a0 a1 a2 a3 a4 a5 a6 a7 : Option Value} {rs : List (Option Value)} {z : Option Value} {x : Nat} (hX : Xok G own y X) (hd : dc y.2.1 pc (.astore 8) 2 nx) (hi : 8 < y.2.2.1) (ha : ahd (a0 :: a1 :: a2 :: a3 :: a4 :: a5 :: a6 :: a7 :: z :: rs) 8 = true) (kk : GG G d mc ms X P nx (a0 :: a1 :: a2 :: a3 :: a4 :: a5 :: a6 :: a7 :: some (.ref x) :: rs) st I h k n) : GG G d mc ms X P pc (a0 :: a1 :: a2 :: a3 :: a4 :: a5 :: a6 :: a7 :: z :: rs) (.ref x :: st) I h k n := by
  obtain ⟨p, l, e, s, m, args, below, meth, c⟩ := X
  obtain ⟨hexec, hb, hml, hown, hts, hKs, hGk, hlk, hrt, hnm⟩ := hX
  obtain ⟨hd, hnx⟩ := hd
  subst hnx
  intro H locs ls hl hW hS
  refine lv_astore hexec hb hd  hl (by rw [hml]; exact hi) rfl (fun ls2 hl2 => ?_)
  exact kk H locs ls2 (lv_fewer hl2 (lpr_set (lo := a0 :: a1 :: a2 :: a3 :: a4 :: a5 :: a6 :: a7 :: z :: rs) (i := 8) (v := .ref x) ha (by simp))) hW hS

theorem g_astoreN_8 {G : Gt} {d mc ms : Nat} {own : String} {y : Mt} {X : Xt} {P : Pt3} {pc nx : Nat} {st : List Value} {I : It} {h : Ht} {k n : Nat} {a0 a1 a2 a3 a4 a5 a6 a7 : Option Value} {rs : List (Option Value)} {z : Option Value}  (hX : Xok G own y X) (hd : dc y.2.1 pc (.astore 8) 2 nx) (hi : 8 < y.2.2.1) (ha : ahd (a0 :: a1 :: a2 :: a3 :: a4 :: a5 :: a6 :: a7 :: z :: rs) 8 = true) (kk : GG G d mc ms X P nx (a0 :: a1 :: a2 :: a3 :: a4 :: a5 :: a6 :: a7 :: some (.null) :: rs) st I h k n) : GG G d mc ms X P pc (a0 :: a1 :: a2 :: a3 :: a4 :: a5 :: a6 :: a7 :: z :: rs) (.null :: st) I h k n := by
  obtain ⟨p, l, e, s, m, args, below, meth, c⟩ := X
  obtain ⟨hexec, hb, hml, hown, hts, hKs, hGk, hlk, hrt, hnm⟩ := hX
  obtain ⟨hd, hnx⟩ := hd
  subst hnx
  intro H locs ls hl hW hS
  refine lv_astoreN hexec hb hd  hl (by rw [hml]; exact hi) rfl (fun ls2 hl2 => ?_)
  exact kk H locs ls2 (lv_fewer hl2 (lpr_set (lo := a0 :: a1 :: a2 :: a3 :: a4 :: a5 :: a6 :: a7 :: z :: rs) (i := 8) (v := .null) ha (by simp))) hW hS

theorem g_lstore_8 {G : Gt} {d mc ms : Nat} {own : String} {y : Mt} {X : Xt} {P : Pt3} {pc nx : Nat} {st : List Value} {I : It} {h : Ht} {k n : Nat} {a0 a1 a2 a3 a4 a5 a6 a7 : Option Value} {rs : List (Option Value)} {z z2 : Option Value} {x : Int64} (hX : Xok G own y X) (hd : dc y.2.1 pc (.lstore 8) 2 nx) (hi : 8 + 1 < y.2.2.1) (ha : ahd (a0 :: a1 :: a2 :: a3 :: a4 :: a5 :: a6 :: a7 :: z :: z2 :: rs) 8 = true) (kk : GG G d mc ms X P nx (a0 :: a1 :: a2 :: a3 :: a4 :: a5 :: a6 :: a7 :: some (.long x) :: none :: rs) st I h k n) : GG G d mc ms X P pc (a0 :: a1 :: a2 :: a3 :: a4 :: a5 :: a6 :: a7 :: z :: z2 :: rs) (.long x :: st) I h k n := by
  obtain ⟨p, l, e, s, m, args, below, meth, c⟩ := X
  obtain ⟨hexec, hb, hml, hown, hts, hKs, hGk, hlk, hrt, hnm⟩ := hX
  obtain ⟨hd, hnx⟩ := hd
  subst hnx
  intro H locs ls hl hW hS
  refine lv_lstore hexec hb hd  hl (by rw [hml]; exact hi) rfl (fun ls2 hl2 => ?_)
  exact kk H locs ls2 (lv_fewer hl2 (lpr_set2 (lo := a0 :: a1 :: a2 :: a3 :: a4 :: a5 :: a6 :: a7 :: z :: z2 :: rs) (i := 8) (v := .long x) ha (by simp))) hW hS

theorem g_iinc_8 {G : Gt} {d mc ms : Nat} {own : String} {y : Mt} {X : Xt} {P : Pt3} {pc nx : Nat} {st : List Value} {I : It} {h : Ht} {k n : Nat} {a0 a1 a2 a3 a4 a5 a6 a7 : Option Value} {rs : List (Option Value)} {x v : Int32} {z : Int} (hX : Xok G own y X) (hd : dc y.2.1 pc (.iinc 8 z) 3 nx) (hv : x + Int32.ofInt z = v) (hi : 8 < y.2.2.1) (ha : ahd (a0 :: a1 :: a2 :: a3 :: a4 :: a5 :: a6 :: a7 :: some (.int x) :: rs) 8 = true) (kk : GG G d mc ms X P nx (a0 :: a1 :: a2 :: a3 :: a4 :: a5 :: a6 :: a7 :: some (.int v) :: rs) st I h k n) : GG G d mc ms X P pc (a0 :: a1 :: a2 :: a3 :: a4 :: a5 :: a6 :: a7 :: some (.int x) :: rs) st I h k n := by
  obtain ⟨p, l, e, s, m, args, below, meth, c⟩ := X
  obtain ⟨hexec, hb, hml, hown, hts, hKs, hGk, hlk, hrt, hnm⟩ := hX
  obtain ⟨hd, hnx⟩ := hd
  subst hnx
  intro H locs ls hl hW hS
  have hmem : (8, Value.int x) ∈ lpr G 0 (a0 :: a1 :: a2 :: a3 :: a4 :: a5 :: a6 :: a7 :: some (.int x) :: rs) := (lpr_mem _ 0 _).mpr ⟨8, .int x, rfl, by simp [cv]⟩
  obtain ⟨kq, hkq⟩ := List.getElem?_of_mem hmem
  refine lv_iinc hexec hb hd hl hkq hv (by rw [hml]; exact hi) rfl (fun ls2 hl2 => ?_)
  exact kk H locs ls2 (lv_fewer hl2 (lpr_set (lo := a0 :: a1 :: a2 :: a3 :: a4 :: a5 :: a6 :: a7 :: some (.int x) :: rs) (i := 8) (v := .int v) ha (by simp))) hW hS

theorem g_iload_9 {G : Gt} {d mc ms : Nat} {own : String} {y : Mt} {X : Xt} {P : Pt3} {pc nx : Nat} {st : List Value} {I : It} {h : Ht} {k n : Nat} {a0 a1 a2 a3 a4 a5 a6 a7 a8 : Option Value} {rs : List (Option Value)} {x : Int32} (hX : Xok G own y X) (hd : dc y.2.1 pc (.iload 9) 2 nx) (kk : GG G d mc ms X P nx (a0 :: a1 :: a2 :: a3 :: a4 :: a5 :: a6 :: a7 :: a8 :: some (.int x) :: rs) (.int x :: st) I h k n) : GG G d mc ms X P pc (a0 :: a1 :: a2 :: a3 :: a4 :: a5 :: a6 :: a7 :: a8 :: some (.int x) :: rs) (st) I h k n := by
  obtain ⟨p, l, e, s, m, args, below, meth, c⟩ := X
  obtain ⟨hexec, hb, hml, hown, hts, hKs, hGk, hlk, hrt, hnm⟩ := hX
  obtain ⟨hd, hnx⟩ := hd
  subst hnx
  intro H locs ls hl hW hS
  exact lv_iload hexec hb hd (lpr_at hl (i := 9) rfl) (kk H locs ls hl hW hS)

theorem g_lload_9 {G : Gt} {d mc ms : Nat} {own : String} {y : Mt} {X : Xt} {P : Pt3} {pc nx : Nat} {st : List Value} {I : It} {h : Ht} {k n : Nat} {a0 a1 a2 a3 a4 a5 a6 a7 a8 : Option Value} {rs : List (Option Value)} {x : Int64} (hX : Xok G own y X) (hd : dc y.2.1 pc (.lload 9) 2 nx) (kk : GG G d mc ms X P nx (a0 :: a1 :: a2 :: a3 :: a4 :: a5 :: a6 :: a7 :: a8 :: some (.long x) :: rs) (.long x :: st) I h k n) : GG G d mc ms X P pc (a0 :: a1 :: a2 :: a3 :: a4 :: a5 :: a6 :: a7 :: a8 :: some (.long x) :: rs) (st) I h k n := by
  obtain ⟨p, l, e, s, m, args, below, meth, c⟩ := X
  obtain ⟨hexec, hb, hml, hown, hts, hKs, hGk, hlk, hrt, hnm⟩ := hX
  obtain ⟨hd, hnx⟩ := hd
  subst hnx
  intro H locs ls hl hW hS
  exact lv_lload hexec hb hd (lpr_at hl (i := 9) rfl) (kk H locs ls hl hW hS)

theorem g_aload_9 {G : Gt} {d mc ms : Nat} {own : String} {y : Mt} {X : Xt} {P : Pt3} {pc nx : Nat} {st : List Value} {I : It} {h : Ht} {k n : Nat} {a0 a1 a2 a3 a4 a5 a6 a7 a8 : Option Value} {rs : List (Option Value)} {x : Nat} (hX : Xok G own y X) (hd : dc y.2.1 pc (.aload 9) 2 nx) (kk : GG G d mc ms X P nx (a0 :: a1 :: a2 :: a3 :: a4 :: a5 :: a6 :: a7 :: a8 :: some (.ref x) :: rs) (.ref x :: st) I h k n) : GG G d mc ms X P pc (a0 :: a1 :: a2 :: a3 :: a4 :: a5 :: a6 :: a7 :: a8 :: some (.ref x) :: rs) (st) I h k n := by
  obtain ⟨p, l, e, s, m, args, below, meth, c⟩ := X
  obtain ⟨hexec, hb, hml, hown, hts, hKs, hGk, hlk, hrt, hnm⟩ := hX
  obtain ⟨hd, hnx⟩ := hd
  subst hnx
  intro H locs ls hl hW hS
  exact lv_aload hexec hb hd (lpr_at hl (i := 9) rfl) (kk H locs ls hl hW hS)

theorem g_aloadN_9 {G : Gt} {d mc ms : Nat} {own : String} {y : Mt} {X : Xt} {P : Pt3} {pc nx : Nat} {st : List Value} {I : It} {h : Ht} {k n : Nat} {a0 a1 a2 a3 a4 a5 a6 a7 a8 : Option Value} {rs : List (Option Value)}  (hX : Xok G own y X) (hd : dc y.2.1 pc (.aload 9) 2 nx) (kk : GG G d mc ms X P nx (a0 :: a1 :: a2 :: a3 :: a4 :: a5 :: a6 :: a7 :: a8 :: some .null :: rs) (.null :: st) I h k n) : GG G d mc ms X P pc (a0 :: a1 :: a2 :: a3 :: a4 :: a5 :: a6 :: a7 :: a8 :: some .null :: rs) (st) I h k n := by
  obtain ⟨p, l, e, s, m, args, below, meth, c⟩ := X
  obtain ⟨hexec, hb, hml, hown, hts, hKs, hGk, hlk, hrt, hnm⟩ := hX
  obtain ⟨hd, hnx⟩ := hd
  subst hnx
  intro H locs ls hl hW hS
  exact lv_aloadN hexec hb hd (lpr_at hl (i := 9) rfl) (kk H locs ls hl hW hS)

theorem g_istore_9 {G : Gt} {d mc ms : Nat} {own : String} {y : Mt} {X : Xt} {P : Pt3} {pc nx : Nat} {st : List Value} {I : It} {h : Ht} {k n : Nat} {a0 a1 a2 a3 a4 a5 a6 a7 a8 : Option Value} {rs : List (Option Value)} {z : Option Value} {x : Int32} (hX : Xok G own y X) (hd : dc y.2.1 pc (.istore 9) 2 nx) (hi : 9 < y.2.2.1) (ha : ahd (a0 :: a1 :: a2 :: a3 :: a4 :: a5 :: a6 :: a7 :: a8 :: z :: rs) 9 = true) (kk : GG G d mc ms X P nx (a0 :: a1 :: a2 :: a3 :: a4 :: a5 :: a6 :: a7 :: a8 :: some (.int x) :: rs) st I h k n) : GG G d mc ms X P pc (a0 :: a1 :: a2 :: a3 :: a4 :: a5 :: a6 :: a7 :: a8 :: z :: rs) (.int x :: st) I h k n := by
  obtain ⟨p, l, e, s, m, args, below, meth, c⟩ := X
  obtain ⟨hexec, hb, hml, hown, hts, hKs, hGk, hlk, hrt, hnm⟩ := hX
  obtain ⟨hd, hnx⟩ := hd
  subst hnx
  intro H locs ls hl hW hS
  refine lv_istore hexec hb hd  hl (by rw [hml]; exact hi) rfl (fun ls2 hl2 => ?_)
  exact kk H locs ls2 (lv_fewer hl2 (lpr_set (lo := a0 :: a1 :: a2 :: a3 :: a4 :: a5 :: a6 :: a7 :: a8 :: z :: rs) (i := 9) (v := .int x) ha (by simp))) hW hS

theorem g_astore_9 {G : Gt} {d mc ms : Nat} {own : String} {y : Mt} {X : Xt} {P : Pt3} {pc nx : Nat} {st : List Value} {I : It} {h : Ht} {k n : Nat} {a0 a1 a2 a3 a4 a5 a6 a7 a8 : Option Value} {rs : List (Option Value)} {z : Option Value} {x : Nat} (hX : Xok G own y X) (hd : dc y.2.1 pc (.astore 9) 2 nx) (hi : 9 < y.2.2.1) (ha : ahd (a0 :: a1 :: a2 :: a3 :: a4 :: a5 :: a6 :: a7 :: a8 :: z :: rs) 9 = true) (kk : GG G d mc ms X P nx (a0 :: a1 :: a2 :: a3 :: a4 :: a5 :: a6 :: a7 :: a8 :: some (.ref x) :: rs) st I h k n) : GG G d mc ms X P pc (a0 :: a1 :: a2 :: a3 :: a4 :: a5 :: a6 :: a7 :: a8 :: z :: rs) (.ref x :: st) I h k n := by
  obtain ⟨p, l, e, s, m, args, below, meth, c⟩ := X
  obtain ⟨hexec, hb, hml, hown, hts, hKs, hGk, hlk, hrt, hnm⟩ := hX
  obtain ⟨hd, hnx⟩ := hd
  subst hnx
  intro H locs ls hl hW hS
  refine lv_astore hexec hb hd  hl (by rw [hml]; exact hi) rfl (fun ls2 hl2 => ?_)
  exact kk H locs ls2 (lv_fewer hl2 (lpr_set (lo := a0 :: a1 :: a2 :: a3 :: a4 :: a5 :: a6 :: a7 :: a8 :: z :: rs) (i := 9) (v := .ref x) ha (by simp))) hW hS

theorem g_astoreN_9 {G : Gt} {d mc ms : Nat} {own : String} {y : Mt} {X : Xt} {P : Pt3} {pc nx : Nat} {st : List Value} {I : It} {h : Ht} {k n : Nat} {a0 a1 a2 a3 a4 a5 a6 a7 a8 : Option Value} {rs : List (Option Value)} {z : Option Value}  (hX : Xok G own y X) (hd : dc y.2.1 pc (.astore 9) 2 nx) (hi : 9 < y.2.2.1) (ha : ahd (a0 :: a1 :: a2 :: a3 :: a4 :: a5 :: a6 :: a7 :: a8 :: z :: rs) 9 = true) (kk : GG G d mc ms X P nx (a0 :: a1 :: a2 :: a3 :: a4 :: a5 :: a6 :: a7 :: a8 :: some (.null) :: rs) st I h k n) : GG G d mc ms X P pc (a0 :: a1 :: a2 :: a3 :: a4 :: a5 :: a6 :: a7 :: a8 :: z :: rs) (.null :: st) I h k n := by
  obtain ⟨p, l, e, s, m, args, below, meth, c⟩ := X
  obtain ⟨hexec, hb, hml, hown, hts, hKs, hGk, hlk, hrt, hnm⟩ := hX
  obtain ⟨hd, hnx⟩ := hd
  subst hnx
  intro H locs ls hl hW hS
  refine lv_astoreN hexec hb hd  hl (by rw [hml]; exact hi) rfl (fun ls2 hl2 => ?_)
  exact kk H locs ls2 (lv_fewer hl2 (lpr_set (lo := a0 :: a1 :: a2 :: a3 :: a4 :: a5 :: a6 :: a7 :: a8 :: z :: rs) (i := 9) (v := .null) ha (by simp))) hW hS

theorem g_lstore_9 {G : Gt} {d mc ms : Nat} {own : String} {y : Mt} {X : Xt} {P : Pt3} {pc nx : Nat} {st : List Value} {I : It} {h : Ht} {k n : Nat} {a0 a1 a2 a3 a4 a5 a6 a7 a8 : Option Value} {rs : List (Option Value)} {z z2 : Option Value} {x : Int64} (hX : Xok G own y X) (hd : dc y.2.1 pc (.lstore 9) 2 nx) (hi : 9 + 1 < y.2.2.1) (ha : ahd (a0 :: a1 :: a2 :: a3 :: a4 :: a5 :: a6 :: a7 :: a8 :: z :: z2 :: rs) 9 = true) (kk : GG G d mc ms X P nx (a0 :: a1 :: a2 :: a3 :: a4 :: a5 :: a6 :: a7 :: a8 :: some (.long x) :: none :: rs) st I h k n) : GG G d mc ms X P pc (a0 :: a1 :: a2 :: a3 :: a4 :: a5 :: a6 :: a7 :: a8 :: z :: z2 :: rs) (.long x :: st) I h k n := by
  obtain ⟨p, l, e, s, m, args, below, meth, c⟩ := X
  obtain ⟨hexec, hb, hml, hown, hts, hKs, hGk, hlk, hrt, hnm⟩ := hX
  obtain ⟨hd, hnx⟩ := hd
  subst hnx
  intro H locs ls hl hW hS
  refine lv_lstore hexec hb hd  hl (by rw [hml]; exact hi) rfl (fun ls2 hl2 => ?_)
  exact kk H locs ls2 (lv_fewer hl2 (lpr_set2 (lo := a0 :: a1 :: a2 :: a3 :: a4 :: a5 :: a6 :: a7 :: a8 :: z :: z2 :: rs) (i := 9) (v := .long x) ha (by simp))) hW hS

theorem g_iinc_9 {G : Gt} {d mc ms : Nat} {own : String} {y : Mt} {X : Xt} {P : Pt3} {pc nx : Nat} {st : List Value} {I : It} {h : Ht} {k n : Nat} {a0 a1 a2 a3 a4 a5 a6 a7 a8 : Option Value} {rs : List (Option Value)} {x v : Int32} {z : Int} (hX : Xok G own y X) (hd : dc y.2.1 pc (.iinc 9 z) 3 nx) (hv : x + Int32.ofInt z = v) (hi : 9 < y.2.2.1) (ha : ahd (a0 :: a1 :: a2 :: a3 :: a4 :: a5 :: a6 :: a7 :: a8 :: some (.int x) :: rs) 9 = true) (kk : GG G d mc ms X P nx (a0 :: a1 :: a2 :: a3 :: a4 :: a5 :: a6 :: a7 :: a8 :: some (.int v) :: rs) st I h k n) : GG G d mc ms X P pc (a0 :: a1 :: a2 :: a3 :: a4 :: a5 :: a6 :: a7 :: a8 :: some (.int x) :: rs) st I h k n := by
  obtain ⟨p, l, e, s, m, args, below, meth, c⟩ := X
  obtain ⟨hexec, hb, hml, hown, hts, hKs, hGk, hlk, hrt, hnm⟩ := hX
  obtain ⟨hd, hnx⟩ := hd
  subst hnx
  intro H locs ls hl hW hS
  have hmem : (9, Value.int x) ∈ lpr G 0 (a0 :: a1 :: a2 :: a3 :: a4 :: a5 :: a6 :: a7 :: a8 :: some (.int x) :: rs) := (lpr_mem _ 0 _).mpr ⟨9, .int x, rfl, by simp [cv]⟩
  obtain ⟨kq, hkq⟩ := List.getElem?_of_mem hmem
  refine lv_iinc hexec hb hd hl hkq hv (by rw [hml]; exact hi) rfl (fun ls2 hl2 => ?_)
  exact kk H locs ls2 (lv_fewer hl2 (lpr_set (lo := a0 :: a1 :: a2 :: a3 :: a4 :: a5 :: a6 :: a7 :: a8 :: some (.int x) :: rs) (i := 9) (v := .int v) ha (by simp))) hW hS

theorem g_iload_10 {G : Gt} {d mc ms : Nat} {own : String} {y : Mt} {X : Xt} {P : Pt3} {pc nx : Nat} {st : List Value} {I : It} {h : Ht} {k n : Nat} {a0 a1 a2 a3 a4 a5 a6 a7 a8 a9 : Option Value} {rs : List (Option Value)} {x : Int32} (hX : Xok G own y X) (hd : dc y.2.1 pc (.iload 10) 2 nx) (kk : GG G d mc ms X P nx (a0 :: a1 :: a2 :: a3 :: a4 :: a5 :: a6 :: a7 :: a8 :: a9 :: some (.int x) :: rs) (.int x :: st) I h k n) : GG G d mc ms X P pc (a0 :: a1 :: a2 :: a3 :: a4 :: a5 :: a6 :: a7 :: a8 :: a9 :: some (.int x) :: rs) (st) I h k n := by
  obtain ⟨p, l, e, s, m, args, below, meth, c⟩ := X
  obtain ⟨hexec, hb, hml, hown, hts, hKs, hGk, hlk, hrt, hnm⟩ := hX
  obtain ⟨hd, hnx⟩ := hd
  subst hnx
  intro H locs ls hl hW hS
  exact lv_iload hexec hb hd (lpr_at hl (i := 10) rfl) (kk H locs ls hl hW hS)

theorem g_lload_10 {G : Gt} {d mc ms : Nat} {own : String} {y : Mt} {X : Xt} {P : Pt3} {pc nx : Nat} {st : List Value} {I : It} {h : Ht} {k n : Nat} {a0 a1 a2 a3 a4 a5 a6 a7 a8 a9 : Option Value} {rs : List (Option Value)} {x : Int64} (hX : Xok G own y X) (hd : dc y.2.1 pc (.lload 10) 2 nx) (kk : GG G d mc ms X P nx (a0 :: a1 :: a2 :: a3 :: a4 :: a5 :: a6 :: a7 :: a8 :: a9 :: some (.long x) :: rs) (.long x :: st) I h k n) : GG G d mc ms X P pc (a0 :: a1 :: a2 :: a3 :: a4 :: a5 :: a6 :: a7 :: a8 :: a9 :: some (.long x) :: rs) (st) I h k n := by
  obtain ⟨p, l, e, s, m, args, below, meth, c⟩ := X
  obtain ⟨hexec, hb, hml, hown, hts, hKs, hGk, hlk, hrt, hnm⟩ := hX
  obtain ⟨hd, hnx⟩ := hd
  subst hnx
  intro H locs ls hl hW hS
  exact lv_lload hexec hb hd (lpr_at hl (i := 10) rfl) (kk H locs ls hl hW hS)

theorem g_aload_10 {G : Gt} {d mc ms : Nat} {own : String} {y : Mt} {X : Xt} {P : Pt3} {pc nx : Nat} {st : List Value} {I : It} {h : Ht} {k n : Nat} {a0 a1 a2 a3 a4 a5 a6 a7 a8 a9 : Option Value} {rs : List (Option Value)} {x : Nat} (hX : Xok G own y X) (hd : dc y.2.1 pc (.aload 10) 2 nx) (kk : GG G d mc ms X P nx (a0 :: a1 :: a2 :: a3 :: a4 :: a5 :: a6 :: a7 :: a8 :: a9 :: some (.ref x) :: rs) (.ref x :: st) I h k n) : GG G d mc ms X P pc (a0 :: a1 :: a2 :: a3 :: a4 :: a5 :: a6 :: a7 :: a8 :: a9 :: some (.ref x) :: rs) (st) I h k n := by
  obtain ⟨p, l, e, s, m, args, below, meth, c⟩ := X
  obtain ⟨hexec, hb, hml, hown, hts, hKs, hGk, hlk, hrt, hnm⟩ := hX
  obtain ⟨hd, hnx⟩ := hd
  subst hnx
  intro H locs ls hl hW hS
  exact lv_aload hexec hb hd (lpr_at hl (i := 10) rfl) (kk H locs ls hl hW hS)

theorem g_aloadN_10 {G : Gt} {d mc ms : Nat} {own : String} {y : Mt} {X : Xt} {P : Pt3} {pc nx : Nat} {st : List Value} {I : It} {h : Ht} {k n : Nat} {a0 a1 a2 a3 a4 a5 a6 a7 a8 a9 : Option Value} {rs : List (Option Value)}  (hX : Xok G own y X) (hd : dc y.2.1 pc (.aload 10) 2 nx) (kk : GG G d mc ms X P nx (a0 :: a1 :: a2 :: a3 :: a4 :: a5 :: a6 :: a7 :: a8 :: a9 :: some .null :: rs) (.null :: st) I h k n) : GG G d mc ms X P pc (a0 :: a1 :: a2 :: a3 :: a4 :: a5 :: a6 :: a7 :: a8 :: a9 :: some .null :: rs) (st) I h k n := by
  obtain ⟨p, l, e, s, m, args, below, meth, c⟩ := X
  obtain ⟨hexec, hb, hml, hown, hts, hKs, hGk, hlk, hrt, hnm⟩ := hX
  obtain ⟨hd, hnx⟩ := hd
  subst hnx
  intro H locs ls hl hW hS
  exact lv_aloadN hexec hb hd (lpr_at hl (i := 10) rfl) (kk H locs ls hl hW hS)

theorem g_istore_10 {G : Gt} {d mc ms : Nat} {own : String} {y : Mt} {X : Xt} {P : Pt3} {pc nx : Nat} {st : List Value} {I : It} {h : Ht} {k n : Nat} {a0 a1 a2 a3 a4 a5 a6 a7 a8 a9 : Option Value} {rs : List (Option Value)} {z : Option Value} {x : Int32} (hX : Xok G own y X) (hd : dc y.2.1 pc (.istore 10) 2 nx) (hi : 10 < y.2.2.1) (ha : ahd (a0 :: a1 :: a2 :: a3 :: a4 :: a5 :: a6 :: a7 :: a8 :: a9 :: z :: rs) 10 = true) (kk : GG G d mc ms X P nx (a0 :: a1 :: a2 :: a3 :: a4 :: a5 :: a6 :: a7 :: a8 :: a9 :: some (.int x) :: rs) st I h k n) : GG G d mc ms X P pc (a0 :: a1 :: a2 :: a3 :: a4 :: a5 :: a6 :: a7 :: a8 :: a9 :: z :: rs) (.int x :: st) I h k n := by
  obtain ⟨p, l, e, s, m, args, below, meth, c⟩ := X
  obtain ⟨hexec, hb, hml, hown, hts, hKs, hGk, hlk, hrt, hnm⟩ := hX
  obtain ⟨hd, hnx⟩ := hd
  subst hnx
  intro H locs ls hl hW hS
  refine lv_istore hexec hb hd  hl (by rw [hml]; exact hi) rfl (fun ls2 hl2 => ?_)
  exact kk H locs ls2 (lv_fewer hl2 (lpr_set (lo := a0 :: a1 :: a2 :: a3 :: a4 :: a5 :: a6 :: a7 :: a8 :: a9 :: z :: rs) (i := 10) (v := .int x) ha (by simp))) hW hS

theorem g_astore_10 {G : Gt} {d mc ms : Nat} {own : String} {y : Mt} {X : Xt} {P : Pt3} {pc nx : Nat} {st : List Value} {I : It} {h : Ht} {k n : Nat} {a0 a1 a2 a3 a4 a5 a6 a7 a8 a9 : Option Value} {rs : List (Option Value)} {z : Option Value} {x : Nat} (hX : Xok G own y X) (hd : dc y.2.1 pc (.astore 10) 2 nx) (hi : 10 < y.2.2.1) (ha : ahd (a0 :: a1 :: a2 :: a3 :: a4 :: a5 :: a6 :: a7 :: a8 :: a9 :: z :: rs) 10 = true) (kk : GG G d mc ms X P nx (a0 :: a1 :: a2 :: a3 :: a4 :: a5 :: a6 :: a7 :: a8 :: a9 :: some (.ref x) :: rs) st I h k n) : GG G d mc ms X P pc (a0 :: a1 :: a2 :: a3 :: a4 :: a5 :: a6 :: a7 :: a8 :: a9 :: z :: rs) (.ref x :: st) I h k n := by
  obtain ⟨p, l, e, s, m, args, below, meth, c⟩ := X
  obtain ⟨hexec, hb, hml, hown, hts, hKs, hGk, hlk, hrt, hnm⟩ := hX
  obtain ⟨hd, hnx⟩ := hd
  subst hnx
  intro H locs ls hl hW hS
  refine lv_astore hexec hb hd  hl (by rw [hml]; exact hi) rfl (fun ls2 hl2 => ?_)
  exact kk H locs ls2 (lv_fewer hl2 (lpr_set (lo := a0 :: a1 :: a2 :: a3 :: a4 :: a5 :: a6 :: a7 :: a8 :: a9 :: z :: rs) (i := 10) (v := .ref x) ha (by simp))) hW hS

theorem g_astoreN_10 {G : Gt} {d mc ms : Nat} {own : String} {y : Mt} {X : Xt} {P : Pt3} {pc nx : Nat} {st : List Value} {I : It} {h : Ht} {k n : Nat} {a0 a1 a2 a3 a4 a5 a6 a7 a8 a9 : Option Value} {rs : List (Option Value)} {z : Option Value}  (hX : Xok G own y X) (hd : dc y.2.1 pc (.astore 10) 2 nx) (hi : 10 < y.2.2.1) (ha : ahd (a0 :: a1 :: a2 :: a3 :: a4 :: a5 :: a6 :: a7 :: a8 :: a9 :: z :: rs) 10 = true) (kk : GG G d mc ms X P nx (a0 :: a1 :: a2 :: a3 :: a4 :: a5 :: a6 :: a7 :: a8 :: a9 :: some (.null) :: rs) st I h k n) : GG G d mc ms X P pc (a0 :: a1 :: a2 :: a3 :: a4 :: a5 :: a6 :: a7 :: a8 :: a9 :: z :: rs) (.null :: st) I h k n := by
  obtain ⟨p, l, e, s, m, args, below, meth, c⟩ := X
  obtain ⟨hexec, hb, hml, hown, hts, hKs, hGk, hlk, hrt, hnm⟩ := hX
  obtain ⟨hd, hnx⟩ := hd
  subst hnx
  intro H locs ls hl hW hS
  refine lv_astoreN hexec hb hd  hl (by rw [hml]; exact hi) rfl (fun ls2 hl2 => ?_)
  exact kk H locs ls2 (lv_fewer hl2 (lpr_set (lo := a0 :: a1 :: a2 :: a3 :: a4 :: a5 :: a6 :: a7 :: a8 :: a9 :: z :: rs) (i := 10) (v := .null) ha (by simp))) hW hS

theorem g_lstore_10 {G : Gt} {d mc ms : Nat} {own : String} {y : Mt} {X : Xt} {P : Pt3} {pc nx : Nat} {st : List Value} {I : It} {h : Ht} {k n : Nat} {a0 a1 a2 a3 a4 a5 a6 a7 a8 a9 : Option Value} {rs : List (Option Value)} {z z2 : Option Value} {x : Int64} (hX : Xok G own y X) (hd : dc y.2.1 pc (.lstore 10) 2 nx) (hi : 10 + 1 < y.2.2.1) (ha : ahd (a0 :: a1 :: a2 :: a3 :: a4 :: a5 :: a6 :: a7 :: a8 :: a9 :: z :: z2 :: rs) 10 = true) (kk : GG G d mc ms X P nx (a0 :: a1 :: a2 :: a3 :: a4 :: a5 :: a6 :: a7 :: a8 :: a9 :: some (.long x) :: none :: rs) st I h k n) : GG G d mc ms X P pc (a0 :: a1 :: a2 :: a3 :: a4 :: a5 :: a6 :: a7 :: a8 :: a9 :: z :: z2 :: rs) (.long x :: st) I h k n := by
  obtain ⟨p, l, e, s, m, args, below, meth, c⟩ := X
  obtain ⟨hexec, hb, hml, hown, hts, hKs, hGk, hlk, hrt, hnm⟩ := hX
  obtain ⟨hd, hnx⟩ := hd
  subst hnx
  intro H locs ls hl hW hS
  refine lv_lstore hexec hb hd  hl (by rw [hml]; exact hi) rfl (fun ls2 hl2 => ?_)
  exact kk H locs ls2 (lv_fewer hl2 (lpr_set2 (lo := a0 :: a1 :: a2 :: a3 :: a4 :: a5 :: a6 :: a7 :: a8 :: a9 :: z :: z2 :: rs) (i := 10) (v := .long x) ha (by simp))) hW hS

theorem g_iinc_10 {G : Gt} {d mc ms : Nat} {own : String} {y : Mt} {X : Xt} {P : Pt3} {pc nx : Nat} {st : List Value} {I : It} {h : Ht} {k n : Nat} {a0 a1 a2 a3 a4 a5 a6 a7 a8 a9 : Option Value} {rs : List (Option Value)} {x v : Int32} {z : Int} (hX : Xok G own y X) (hd : dc y.2.1 pc (.iinc 10 z) 3 nx) (hv : x + Int32.ofInt z = v) (hi : 10 < y.2.2.1) (ha : ahd (a0 :: a1 :: a2 :: a3 :: a4 :: a5 :: a6 :: a7 :: a8 :: a9 :: some (.int x) :: rs) 10 = true) (kk : GG G d mc ms X P nx (a0 :: a1 :: a2 :: a3 :: a4 :: a5 :: a6 :: a7 :: a8 :: a9 :: some (.int v) :: rs) st I h k n) : GG G d mc ms X P pc (a0 :: a1 :: a2 :: a3 :: a4 :: a5 :: a6 :: a7 :: a8 :: a9 :: some (.int x) :: rs) st I h k n := by
  obtain ⟨p, l, e, s, m, args, below, meth, c⟩ := X
  obtain ⟨hexec, hb, hml, hown, hts, hKs, hGk, hlk, hrt, hnm⟩ := hX
  obtain ⟨hd, hnx⟩ := hd
  subst hnx
  intro H locs ls hl hW hS
  have hmem : (10, Value.int x) ∈ lpr G 0 (a0 :: a1 :: a2 :: a3 :: a4 :: a5 :: a6 :: a7 :: a8 :: a9 :: some (.int x) :: rs) := (lpr_mem _ 0 _).mpr ⟨10, .int x, rfl, by simp [cv]⟩
  obtain ⟨kq, hkq⟩ := List.getElem?_of_mem hmem
  refine lv_iinc hexec hb hd hl hkq hv (by rw [hml]; exact hi) rfl (fun ls2 hl2 => ?_)
  exact kk H locs ls2 (lv_fewer hl2 (lpr_set (lo := a0 :: a1 :: a2 :: a3 :: a4 :: a5 :: a6 :: a7 :: a8 :: a9 :: some (.int x) :: rs) (i := 10) (v := .int v) ha (by simp))) hW hS

theorem g_iload_11 {G : Gt} {d mc ms : Nat} {own : String} {y : Mt} {X : Xt} {P : Pt3} {pc nx : Nat} {st : List Value} {I : It} {h : Ht} {k n : Nat} {a0 a1 a2 a3 a4 a5 a6 a7 a8 a9 a10 : Option Value} {rs : List (Option Value)} {x : Int32} (hX : Xok G own y X) (hd : dc y.2.1 pc (.iload 11) 2 nx) (kk : GG G d mc ms X P nx (a0 :: a1 :: a2 :: a3 :: a4 :: a5 :: a6 :: a7 :: a8 :: a9 :: a10 :: some (.int x) :: rs) (.int x :: st) I h k n) : GG G d mc ms X P pc (a0 :: a1 :: a2 :: a3 :: a4 :: a5 :: a6 :: a7 :: a8 :: a9 :: a10 :: some (.int x) :: rs) (st) I h k n := by
  obtain ⟨p, l, e, s, m, args, below, meth, c⟩ := X
  obtain ⟨hexec, hb, hml, hown, hts, hKs, hGk, hlk, hrt, hnm⟩ := hX
  obtain ⟨hd, hnx⟩ := hd
  subst hnx
  intro H locs ls hl hW hS
  exact lv_iload hexec hb hd (lpr_at hl (i := 11) rfl) (kk H locs ls hl hW hS)

theorem g_lload_11 {G : Gt} {d mc ms : Nat} {own : String} {y : Mt} {X : Xt} {P : Pt3} {pc nx : Nat} {st : List Value} {I : It} {h : Ht} {k n : Nat} {a0 a1 a2 a3 a4 a5 a6 a7 a8 a9 a10 : Option Value} {rs : List (Option Value)} {x : Int64} (hX : Xok G own y X) (hd : dc y.2.1 pc (.lload 11) 2 nx) (kk : GG G d mc ms X P nx (a0 :: a1 :: a2 :: a3 :: a4 :: a5 :: a6 :: a7 :: a8 :: a9 :: a10 :: some (.long x) :: rs) (.long x :: st) I h k n) : GG G d mc ms X P pc (a0 :: a1 :: a2 :: a3 :: a4 :: a5 :: a6 :: a7 :: a8 :: a9 :: a10 :: some (.long x) :: rs) (st) I h k n := by
  obtain ⟨p, l, e, s, m, args, below, meth, c⟩ := X
  obtain ⟨hexec, hb, hml, hown, hts, hKs, hGk, hlk, hrt, hnm⟩ := hX
  obtain ⟨hd, hnx⟩ := hd
  subst hnx
  intro H locs ls hl hW hS
  exact lv_lload hexec hb hd (lpr_at hl (i := 11) rfl) (kk H locs ls hl hW hS)

theorem g_aload_11 {G : Gt} {d mc ms : Nat} {own : String} {y : Mt} {X : Xt} {P : Pt3} {pc nx : Nat} {st : List Value} {I : It} {h : Ht} {k n : Nat} {a0 a1 a2 a3 a4 a5 a6 a7 a8 a9 a10 : Option Value} {rs : List (Option Value)} {x : Nat} (hX : Xok G own y X) (hd : dc y.2.1 pc (.aload 11) 2 nx) (kk : GG G d mc ms X P nx (a0 :: a1 :: a2 :: a3 :: a4 :: a5 :: a6 :: a7 :: a8 :: a9 :: a10 :: some (.ref x) :: rs) (.ref x :: st) I h k n) : GG G d mc ms X P pc (a0 :: a1 :: a2 :: a3 :: a4 :: a5 :: a6 :: a7 :: a8 :: a9 :: a10 :: some (.ref x) :: rs) (st) I h k n := by
  obtain ⟨p, l, e, s, m, args, below, meth, c⟩ := X
  obtain ⟨hexec, hb, hml, hown, hts, hKs, hGk, hlk, hrt, hnm⟩ := hX
  obtain ⟨hd, hnx⟩ := hd
  subst hnx
  intro H locs ls hl hW hS
  exact lv_aload hexec hb hd (lpr_at hl (i := 11) rfl) (kk H locs ls hl hW hS)

theorem g_aloadN_11 {G : Gt} {d mc ms : Nat} {own : String} {y : Mt} {X : Xt} {P : Pt3} {pc nx : Nat} {st : List Value} {I : It} {h : Ht} {k n : Nat} {a0 a1 a2 a3 a4 a5 a6 a7 a8 a9 a10 : Option Value} {rs : List (Option Value)}  (hX : Xok G own y X) (hd : dc y.2.1 pc (.aload 11) 2 nx) (kk : GG G d mc ms X P nx (a0 :: a1 :: a2 :: a3 :: a4 :: a5 :: a6 :: a7 :: a8 :: a9 :: a10 :: some .null :: rs) (.null :: st) I h k n) : GG G d mc ms X P pc (a0 :: a1 :: a2 :: a3 :: a4 :: a5 :: a6 :: a7 :: a8 :: a9 :: a10 :: some .null :: rs) (st) I h k n := by
  obtain ⟨p, l, e, s, m, args, below, meth, c⟩ := X
  obtain ⟨hexec, hb, hml, hown, hts, hKs, hGk, hlk, hrt, hnm⟩ := hX
  obtain ⟨hd, hnx⟩ := hd
  subst hnx
  intro H locs ls hl hW hS
  exact lv_aloadN hexec hb hd (lpr_at hl (i := 11) rfl) (kk H locs ls hl hW hS)

theorem g_istore_11 {G : Gt} {d mc ms : Nat} {own : String} {y : Mt} {X : Xt} {P : Pt3} {pc nx : Nat} {st : List Value} {I : It} {h : Ht} {k n : Nat} {a0 a1 a2 a3 a4 a5 a6 a7 a8 a9 a10 : Option Value} {rs : List (Option Value)} {z : Option Value} {x : Int32} (hX : Xok G own y X) (hd : dc y.2.1 pc (.istore 11) 2 nx) (hi : 11 < y.2.2.1) (ha : ahd (a0 :: a1 :: a2 :: a3 :: a4 :: a5 :: a6 :: a7 :: a8 :: a9 :: a10 :: z :: rs) 11 = true) (kk : GG G d mc ms X P nx (a0 :: a1 :: a2 :: a3 :: a4 :: a5 :: a6 :: a7 :: a8 :: a9 :: a10 :: some (.int x) :: rs) st I h k n) : GG G d mc ms X P pc (a0 :: a1 :: a2 :: a3 :: a4 :: a5 :: a6 :: a7 :: a8 :: a9 :: a10 :: z :: rs) (.int x :: st) I h k n := by
  obtain ⟨p, l, e, s, m, args, below, meth, c⟩ := X
  obtain ⟨hexec, hb, hml, hown, hts, hKs, hGk, hlk, hrt, hnm⟩ := hX
  obtain ⟨hd, hnx⟩ := hd
  subst hnx
  intro H locs ls hl hW hS
  refine lv_istore hexec hb hd  hl (by rw [hml]; exact hi) rfl (fun ls2 hl2 => ?_)
  exact kk H locs ls2 (lv_fewer hl2 (lpr_set (lo := a0 :: a1 :: a2 :: a3 :: a4 :: a5 :: a6 :: a7 :: a8 :: a9 :: a10 :: z :: rs) (i := 11) (v := .int x) ha (by simp))) hW hS

theorem g_astore_11 {G : Gt} {d mc ms : Nat} {own : String} {y : Mt} {X : Xt} {P : Pt3} {pc nx : Nat} {st : List Value} {I : It} {h : Ht} {k n : Nat} {a0 a1 a2 a3 a4 a5 a6 a7 a8 a9 a10 : Option Value} {rs : List (Option Value)} {z : Option Value} {x : Nat} (hX : Xok G own y X) (hd : dc y.2.1 pc (.astore 11) 2 nx) (hi : 11 < y.2.2.1) (ha : ahd (a0 :: a1 :: a2 :: a3 :: a4 :: a5 :: a6 :: a7 :: a8 :: a9 :: a10 :: z :: rs) 11 = true) (kk : GG G d mc ms X P nx (a0 :: a1 :: a2 :: a3 :: a4 :: a5 :: a6 :: a7 :: a8 :: a9 :: a10 :: some (.ref x) :: rs) st I h k n) : GG G d mc ms X P pc (a0 :: a1 :: a2 :: a3 :: a4 :: a5 :: a6 :: a7 :: a8 :: a9 :: a10 :: z :: rs) (.ref x :: st) I h k n := by
  obtain ⟨p, l, e, s, m, args, below, meth, c⟩ := X
  obtain ⟨hexec, hb, hml, hown, hts, hKs, hGk, hlk, hrt, hnm⟩ := hX
  obtain ⟨hd, hnx⟩ := hd
  subst hnx
  intro H locs ls hl hW hS
  refine lv_astore hexec hb hd  hl (by rw [hml]; exact hi) rfl (fun ls2 hl2 => ?_)
  exact kk H locs ls2 (lv_fewer hl2 (lpr_set (lo := a0 :: a1 :: a2 :: a3 :: a4 :: a5 :: a6 :: a7 :: a8 :: a9 :: a10 :: z :: rs) (i := 11) (v := .ref x) ha (by simp))) hW hS

theorem g_astoreN_11 {G : Gt} {d mc ms : Nat} {own : String} {y : Mt} {X : Xt} {P : Pt3} {pc nx : Nat} {st : List Value} {I : It} {h : Ht} {k n : Nat} {a0 a1 a2 a3 a4 a5 a6 a7 a8 a9 a10 : Option Value} {rs : List (Option Value)} {z : Option Value}  (hX : Xok G own y X) (hd : dc y.2.1 pc (.astore 11) 2 nx) (hi : 11 < y.2.2.1) (ha : ahd (a0 :: a1 :: a2 :: a3 :: a4 :: a5 :: a6 :: a7 :: a8 :: a9 :: a10 :: z :: rs) 11 = true) (kk : GG G d mc ms X P nx (a0 :: a1 :: a2 :: a3 :: a4 :: a5 :: a6 :: a7 :: a8 :: a9 :: a10 :: some (.null) :: rs) st I h k n) : GG G d mc ms X P pc (a0 :: a1 :: a2 :: a3 :: a4 :: a5 :: a6 :: a7 :: a8 :: a9 :: a10 :: z :: rs) (.null :: st) I h k n := by
  obtain ⟨p, l, e, s, m, args, below, meth, c⟩ := X
  obtain ⟨hexec, hb, hml, hown, hts, hKs, hGk, hlk, hrt, hnm⟩ := hX
  obtain ⟨hd, hnx⟩ := hd
  subst hnx
  intro H locs ls hl hW hS
  refine lv_astoreN hexec hb hd  hl (by rw [hml]; exact hi) rfl (fun ls2 hl2 => ?_)
  exact kk H locs ls2 (lv_fewer hl2 (lpr_set (lo := a0 :: a1 :: a2 :: a3 :: a4 :: a5 :: a6 :: a7 :: a8 :: a9 :: a10 :: z :: rs) (i := 11) (v := .null) ha (by simp))) hW hS

theorem g_lstore_11 {G : Gt} {d mc ms : Nat} {own : String} {y : Mt} {X : Xt} {P : Pt3} {pc nx : Nat} {st : List Value} {I : It} {h : Ht} {k n : Nat} {a0 a1 a2 a3 a4 a5 a6 a7 a8 a9 a10 : Option Value} {rs : List (Option Value)} {z z2 : Option Value} {x : Int64} (hX : Xok G own y X) (hd : dc y.2.1 pc (.lstore 11) 2 nx) (hi : 11 + 1 < y.2.2.1) (ha : ahd (a0 :: a1 :: a2 :: a3 :: a4 :: a5 :: a6 :: a7 :: a8 :: a9 :: a10 :: z :: z2 :: rs) 11 = true) (kk : GG G d mc ms X P nx (a0 :: a1 :: a2 :: a3 :: a4 :: a5 :: a6 :: a7 :: a8 :: a9 :: a10 :: some (.long x) :: none :: rs) st I h k n) : GG G d mc ms X P pc (a0 :: a1 :: a2 :: a3 :: a4 :: a5 :: a6 :: a7 :: a8 :: a9 :: a10 :: z :: z2 :: rs) (.long x :: st) I h k n := by
  obtain ⟨p, l, e, s, m, args, below, meth, c⟩ := X
  obtain ⟨hexec, hb, hml, hown, hts, hKs, hGk, hlk, hrt, hnm⟩ := hX
  obtain ⟨hd, hnx⟩ := hd
  subst hnx
  intro H locs ls hl hW hS
  refine lv_lstore hexec hb hd  hl (by rw [hml]; exact hi) rfl (fun ls2 hl2 => ?_)
  exact kk H locs ls2 (lv_fewer hl2 (lpr_set2 (lo := a0 :: a1 :: a2 :: a3 :: a4 :: a5 :: a6 :: a7 :: a8 :: a9 :: a10 :: z :: z2 :: rs) (i := 11) (v := .long x) ha (by simp))) hW hS

theorem g_iinc_11 {G : Gt} {d mc ms : Nat} {own : String} {y : Mt} {X : Xt} {P : Pt3} {pc nx : Nat} {st : List Value} {I : It} {h : Ht} {k n : Nat} {a0 a1 a2 a3 a4 a5 a6 a7 a8 a9 a10 : Option Value} {rs : List (Option Value)} {x v : Int32} {z : Int} (hX : Xok G own y X) (hd : dc y.2.1 pc (.iinc 11 z) 3 nx) (hv : x + Int32.ofInt z = v) (hi : 11 < y.2.2.1) (ha : ahd (a0 :: a1 :: a2 :: a3 :: a4 :: a5 :: a6 :: a7 :: a8 :: a9 :: a10 :: some (.int x) :: rs) 11 = true) (kk : GG G d mc ms X P nx (a0 :: a1 :: a2 :: a3 :: a4 :: a5 :: a6 :: a7 :: a8 :: a9 :: a10 :: some (.int v) :: rs) st I h k n) : GG G d mc ms X P pc (a0 :: a1 :: a2 :: a3 :: a4 :: a5 :: a6 :: a7 :: a8 :: a9 :: a10 :: some (.int x) :: rs) st I h k n := by
  obtain ⟨p, l, e, s, m, args, below, meth, c⟩ := X
  obtain ⟨hexec, hb, hml, hown, hts, hKs, hGk, hlk, hrt, hnm⟩ := hX
  obtain ⟨hd, hnx⟩ := hd
  subst hnx
  intro H locs ls hl hW hS
  have hmem : (11, Value.int x) ∈ lpr G 0 (a0 :: a1 :: a2 :: a3 :: a4 :: a5 :: a6 :: a7 :: a8 :: a9 :: a10 :: some (.int x) :: rs) := (lpr_mem _ 0 _).mpr ⟨11, .int x, rfl, by simp [cv]⟩
  obtain ⟨kq, hkq⟩ := List.getElem?_of_mem hmem
  refine lv_iinc hexec hb hd hl hkq hv (by rw [hml]; exact hi) rfl (fun ls2 hl2 => ?_)
  exact kk H locs ls2 (lv_fewer hl2 (lpr_set (lo := a0 :: a1 :: a2 :: a3 :: a4 :: a5 :: a6 :: a7 :: a8 :: a9 :: a10 :: some (.int x) :: rs) (i := 11) (v := .int v) ha (by simp))) hW hS

theorem g_iload_12 {G : Gt} {d mc ms : Nat} {own : String} {y : Mt} {X : Xt} {P : Pt3} {pc nx : Nat} {st : List Value} {I : It} {h : Ht} {k n : Nat} {a0 a1 a2 a3 a4 a5 a6 a7 a8 a9 a10 a11 : Option Value} {rs : List (Option Value)} {x : Int32} (hX : Xok G own y X) (hd : dc y.2.1 pc (.iload 12) 2 nx) (kk : GG G d mc ms X P nx (a0 :: a1 :: a2 :: a3 :: a4 :: a5 :: a6 :: a7 :: a8 :: a9 :: a10 :: a11 :: some (.int x) :: rs) (.int x :: st) I h k n) : GG G d mc ms X P pc (a0 :: a1 :: a2 :: a3 :: a4 :: a5 :: a6 :: a7 :: a8 :: a9 :: a10 :: a11 :: some (.int x) :: rs) (st) I h k n := by
  obtain ⟨p, l, e, s, m, args, below, meth, c⟩ := X
  obtain ⟨hexec, hb, hml, hown, hts, hKs, hGk, hlk, hrt, hnm⟩ := hX
  obtain ⟨hd, hnx⟩ := hd
  subst hnx
  intro H locs ls hl hW hS
  exact lv_iload hexec hb hd (lpr_at hl (i := 12) rfl) (kk H locs ls hl hW hS)

theorem g_lload_12 {G : Gt} {d mc ms : Nat} {own : String} {y : Mt} {X : Xt} {P : Pt3} {pc nx : Nat} {st : List Value} {I : It} {h : Ht} {k n : Nat} {a0 a1 a2 a3 a4 a5 a6 a7 a8 a9 a10 a11 : Option Value} {rs : List (Option Value)} {x : Int64} (hX : Xok G own y X) (hd : dc y.2.1 pc (.lload 12) 2 nx) (kk : GG G d mc ms X P nx (a0 :: a1 :: a2 :: a3 :: a4 :: a5 :: a6 :: a7 :: a8 :: a9 :: a10 :: a11 :: some (.long x) :: rs) (.long x :: st) I h k n) : GG G d mc ms X P pc (a0 :: a1 :: a2 :: a3 :: a4 :: a5 :: a6 :: a7 :: a8 :: a9 :: a10 :: a11 :: some (.long x) :: rs) (st) I h k n := by
  obtain ⟨p, l, e, s, m, args, below, meth, c⟩ := X
  obtain ⟨hexec, hb, hml, hown, hts, hKs, hGk, hlk, hrt, hnm⟩ := hX
  obtain ⟨hd, hnx⟩ := hd
  subst hnx
  intro H locs ls hl hW hS
  exact lv_lload hexec hb hd (lpr_at hl (i := 12) rfl) (kk H locs ls hl hW hS)

theorem g_aload_12 {G : Gt} {d mc ms : Nat} {own : String} {y : Mt} {X : Xt} {P : Pt3} {pc nx : Nat} {st : List Value} {I : It} {h : Ht} {k n : Nat} {a0 a1 a2 a3 a4 a5 a6 a7 a8 a9 a10 a11 : Option Value} {rs : List (Option Value)} {x : Nat} (hX : Xok G own y X) (hd : dc y.2.1 pc (.aload 12) 2 nx) (kk : GG G d mc ms X P nx (a0 :: a1 :: a2 :: a3 :: a4 :: a5 :: a6 :: a7 :: a8 :: a9 :: a10 :: a11 :: some (.ref x) :: rs) (.ref x :: st) I h k n) : GG G d mc ms X P pc (a0 :: a1 :: a2 :: a3 :: a4 :: a5 :: a6 :: a7 :: a8 :: a9 :: a10 :: a11 :: some (.ref x) :: rs) (st) I h k n := by
  obtain ⟨p, l, e, s, m, args, below, meth, c⟩ := X
  obtain ⟨hexec, hb, hml, hown, hts, hKs, hGk, hlk, hrt, hnm⟩ := hX
  obtain ⟨hd, hnx⟩ := hd
  subst hnx
  intro H locs ls hl hW hS
  exact lv_aload hexec hb hd (lpr_at hl (i := 12) rfl) (kk H locs ls hl hW hS)

theorem g_aloadN_12 {G : Gt} {d mc ms : Nat} {own : String} {y : Mt} {X : Xt} {P : Pt3} {pc nx : Nat} {st : List Value} {I : It} {h : Ht} {k n : Nat} {a0 a1 a2 a3 a4 a5 a6 a7 a8 a9 a10 a11 : Option Value} {rs : List (Option Value)}  (hX : Xok G own y X) (hd : dc y.2.1 pc (.aload 12) 2 nx) (kk : GG G d mc ms X P nx (a0 :: a1 :: a2 :: a3 :: a4 :: a5 :: a6 :: a7 :: a8 :: a9 :: a10 :: a11 :: some .null :: rs) (.null :: st) I h k n) : GG G d mc ms X P pc (a0 :: a1 :: a2 :: a3 :: a4 :: a5 :: a6 :: a7 :: a8 :: a9 :: a10 :: a11 :: some .null :: rs) (st) I h k n := by
  obtain ⟨p, l, e, s, m, args, below, meth, c⟩ := X
  obtain ⟨hexec, hb, hml, hown, hts, hKs, hGk, hlk, hrt, hnm⟩ := hX
  obtain ⟨hd, hnx⟩ := hd
  subst hnx
  intro H locs ls hl hW hS
  exact lv_aloadN hexec hb hd (lpr_at hl (i := 12) rfl) (kk H locs ls hl hW hS)

theorem g_istore_12 {G : Gt} {d mc ms : Nat} {own : String} {y : Mt} {X : Xt} {P : Pt3} {pc nx : Nat} {st : List Value} {I : It} {h : Ht} {k n : Nat} {a0 a1 a2 a3 a4 a5 a6 a7 a8 a9 a10 a11 : Option Value} {rs : List (Option Value)} {z : Option Value} {x : Int32} (hX : Xok G own y X) (hd : dc y.2.1 pc (.istore 12) 2 nx) (hi : 12 < y.2.2.1) (ha : ahd (a0 :: a1 :: a2 :: a3 :: a4 :: a5 :: a6 :: a7 :: a8 :: a9 :: a10 :: a11 :: z :: rs) 12 = true) (kk : GG G d mc ms X P nx (a0 :: a1 :: a2 :: a3 :: a4 :: a5 :: a6 :: a7 :: a8 :: a9 :: a10 :: a11 :: some (.int x) :: rs) st I h k n) : GG G d mc ms X P pc (a0 :: a1 :: a2 :: a3 :: a4 :: a5 :: a6 :: a7 :: a8 :: a9 :: a10 :: a11 :: z :: rs) (.int x :: st) I h k n := by
  obtain ⟨p, l, e, s, m, args, below, meth, c⟩ := X
  obtain ⟨hexec, hb, hml, hown, hts, hKs, hGk, hlk, hrt, hnm⟩ := hX
  obtain ⟨hd, hnx⟩ := hd
  subst hnx
  intro H locs ls hl hW hS
  refine lv_istore hexec hb hd  hl (by rw [hml]; exact hi) rfl (fun ls2 hl2 => ?_)
  exact kk H locs ls2 (lv_fewer hl2 (lpr_set (lo := a0 :: a1 :: a2 :: a3 :: a4 :: a5 :: a6 :: a7 :: a8 :: a9 :: a10 :: a11 :: z :: rs) (i := 12) (v := .int x) ha (by simp))) hW hS

theorem g_astore_12 {G : Gt} {d mc ms : Nat} {own : String} {y : Mt} {X : Xt} {P : Pt3} {pc nx : Nat} {st : List Value} {I : It} {h : Ht} {k n : Nat} {a0 a1 a2 a3 a4 a5 a6 a7 a8 a9 a10 a11 : Option Value} {rs : List (Option Value)} {z : Option Value} {x : Nat} (hX : Xok G own y X) (hd : dc y.2.1 pc (.astore 12) 2 nx) (hi : 12 < y.2.2.1) (ha : ahd (a0 :: a1 :: a2 :: a3 :: a4 :: a5 :: a6 :: a7 :: a8 :: a9 :: a10 :: a11 :: z :: rs) 12 = true) (kk : GG G d mc ms X P nx (a0 :: a1 :: a2 :: a3 :: a4 :: a5 :: a6 :: a7 :: a8 :: a9 :: a10 :: a11 :: some (.ref x) :: rs) st I h k n) : GG G d mc ms X P pc (a0 :: a1 :: a2 :: a3 :: a4 :: a5 :: a6 :: a7 :: a8 :: a9 :: a10 :: a11 :: z :: rs) (.ref x :: st) I h k n := by
  obtain ⟨p, l, e, s, m, args, below, meth, c⟩ := X
  obtain ⟨hexec, hb, hml, hown, hts, hKs, hGk, hlk, hrt, hnm⟩ := hX
  obtain ⟨hd, hnx⟩ := hd
  subst hnx
  intro H locs ls hl hW hS
  refine lv_astore hexec hb hd  hl (by rw [hml]; exact hi) rfl (fun ls2 hl2 => ?_)
  exact kk H locs ls2 (lv_fewer hl2 (lpr_set (lo := a0 :: a1 :: a2 :: a3 :: a4 :: a5 :: a6 :: a7 :: a8 :: a9 :: a10 :: a11 :: z :: rs) (i := 12) (v := .ref x) ha (by simp))) hW hS

theorem g_astoreN_12 {G : Gt} {d mc ms : Nat} {own : String} {y : Mt} {X : Xt} {P : Pt3} {pc nx : Nat} {st : List Value} {I : It} {h : Ht} {k n : Nat} {a0 a1 a2 a3 a4 a5 a6 a7 a8 a9 a10 a11 : Option Value} {rs : List (Option Value)} {z : Option Value}  (hX : Xok G own y X) (hd : dc y.2.1 pc (.astore 12) 2 nx) (hi : 12 < y.2.2.1) (ha : ahd (a0 :: a1 :: a2 :: a3 :: a4 :: a5 :: a6 :: a7 :: a8 :: a9 :: a10 :: a11 :: z :: rs) 12 = true) (kk : GG G d mc ms X P nx (a0 :: a1 :: a2 :: a3 :: a4 :: a5 :: a6 :: a7 :: a8 :: a9 :: a10 :: a11 :: some (.null) :: rs) st I h k n) : GG G d mc ms X P pc (a0 :: a1 :: a2 :: a3 :: a4 :: a5 :: a6 :: a7 :: a8 :: a9 :: a10 :: a11 :: z :: rs) (.null :: st) I h k n := by
  obtain ⟨p, l, e, s, m, args, below, meth, c⟩ := X
  obtain ⟨hexec, hb, hml, hown, hts, hKs, hGk, hlk, hrt, hnm⟩ := hX
  obtain ⟨hd, hnx⟩ := hd
  subst hnx
  intro H locs ls hl hW hS
  refine lv_astoreN hexec hb hd  hl (by rw [hml]; exact hi) rfl (fun ls2 hl2 => ?_)
  exact kk H locs ls2 (lv_fewer hl2 (lpr_set (lo := a0 :: a1 :: a2 :: a3 :: a4 :: a5 :: a6 :: a7 :: a8 :: a9 :: a10 :: a11 :: z :: rs) (i := 12) (v := .null) ha (by simp))) hW hS

theorem g_iinc_12 {G : Gt} {d mc ms : Nat} {own : String} {y : Mt} {X : Xt} {P : Pt3} {pc nx : Nat} {st : List Value} {I : It} {h : Ht} {k n : Nat} {a0 a1 a2 a3 a4 a5 a6 a7 a8 a9 a10 a11 : Option Value} {rs : List (Option Value)} {x v : Int32} {z : Int} (hX : Xok G own y X) (hd : dc y.2.1 pc (.iinc 12 z) 3 nx) (hv : x + Int32.ofInt z = v) (hi : 12 < y.2.2.1) (ha : ahd (a0 :: a1 :: a2 :: a3 :: a4 :: a5 :: a6 :: a7 :: a8 :: a9 :: a10 :: a11 :: some (.int x) :: rs) 12 = true) (kk : GG G d mc ms X P nx (a0 :: a1 :: a2 :: a3 :: a4 :: a5 :: a6 :: a7 :: a8 :: a9 :: a10 :: a11 :: some (.int v) :: rs) st I h k n) : GG G d mc ms X P pc (a0 :: a1 :: a2 :: a3 :: a4 :: a5 :: a6 :: a7 :: a8 :: a9 :: a10 :: a11 :: some (.int x) :: rs) st I h k n := by
  obtain ⟨p, l, e, s, m, args, below, meth, c⟩ := X
  obtain ⟨hexec, hb, hml, hown, hts, hKs, hGk, hlk, hrt, hnm⟩ := hX
  obtain ⟨hd, hnx⟩ := hd
  subst hnx
  intro H locs ls hl hW hS
  have hmem : (12, Value.int x) ∈ lpr G 0 (a0 :: a1 :: a2 :: a3 :: a4 :: a5 :: a6 :: a7 :: a8 :: a9 :: a10 :: a11 :: some (.int x) :: rs) := (lpr_mem _ 0 _).mpr ⟨12, .int x, rfl, by simp [cv]⟩
  obtain ⟨kq, hkq⟩ := List.getElem?_of_mem hmem
  refine lv_iinc hexec hb hd hl hkq hv (by rw [hml]; exact hi) rfl (fun ls2 hl2 => ?_)
  exact kk H locs ls2 (lv_fewer hl2 (lpr_set (lo := a0 :: a1 :: a2 :: a3 :: a4 :: a5 :: a6 :: a7 :: a8 :: a9 :: a10 :: a11 :: some (.int x) :: rs) (i := 12) (v := .int v) ha (by simp))) hW hS

theorem g_icmp_eq {G : Gt} {d mc ms : Nat} {own : String} {y : Mt} {X : Xt} {P : Pt3} {pc nx : Nat} {lo : List (Option Value)} {st : List Value} {I : It} {h : Ht} {k n : Nat} {a b : Int32} {off : Int} {tgt : Nat} (hX : Xok G own y X) (hd : dc y.2.1 pc (.if_icmp .eq off) 3 nx) (ht : (pc : Int) + off = (tgt : Int)) (kt : a = b → GG G d mc ms X P tgt lo st I h k n) (kf : ¬ a = b → GG G d mc ms X P nx lo st I h k n) : GG G d mc ms X P pc lo (.int b :: .int a :: st) I h k n := by
  obtain ⟨p, l, e, s, m, args, below, meth, c⟩ := X
  obtain ⟨hexec, hb, hml, hown, hts, hKs, hGk, hlk, hrt, hnm⟩ := hX
  obtain ⟨hd, hnx⟩ := hd
  subst hnx
  intro H locs ls hl hW hS
  exact lv_icmp_eq hexec hb hd ht (fun q => kt q H locs ls hl hW hS) (fun q => kf q H locs ls hl hW hS)

theorem g_if_eq {G : Gt} {d mc ms : Nat} {own : String} {y : Mt} {X : Xt} {P : Pt3} {pc nx : Nat} {lo : List (Option Value)} {st : List Value} {I : It} {h : Ht} {k n : Nat} {a : Int32} {off : Int} {tgt : Nat} (hX : Xok G own y X) (hd : dc y.2.1 pc (.ifCond .eq off) 3 nx) (ht : (pc : Int) + off = (tgt : Int)) (kt : a = 0 → GG G d mc ms X P tgt lo st I h k n) (kf : ¬ a = 0 → GG G d mc ms X P nx lo st I h k n) : GG G d mc ms X P pc lo (.int a :: st) I h k n := by
  obtain ⟨p, l, e, s, m, args, below, meth, c⟩ := X
  obtain ⟨hexec, hb, hml, hown, hts, hKs, hGk, hlk, hrt, hnm⟩ := hX
  obtain ⟨hd, hnx⟩ := hd
  subst hnx
  intro H locs ls hl hW hS
  exact lv_if_eq hexec hb hd ht (fun q => kt q H locs ls hl hW hS) (fun q => kf q H locs ls hl hW hS)

theorem g_icmp_ne {G : Gt} {d mc ms : Nat} {own : String} {y : Mt} {X : Xt} {P : Pt3} {pc nx : Nat} {lo : List (Option Value)} {st : List Value} {I : It} {h : Ht} {k n : Nat} {a b : Int32} {off : Int} {tgt : Nat} (hX : Xok G own y X) (hd : dc y.2.1 pc (.if_icmp .ne off) 3 nx) (ht : (pc : Int) + off = (tgt : Int)) (kt : a ≠ b → GG G d mc ms X P tgt lo st I h k n) (kf : a = b → GG G d mc ms X P nx lo st I h k n) : GG G d mc ms X P pc lo (.int b :: .int a :: st) I h k n := by
  obtain ⟨p, l, e, s, m, args, below, meth, c⟩ := X
  obtain ⟨hexec, hb, hml, hown, hts, hKs, hGk, hlk, hrt, hnm⟩ := hX
  obtain ⟨hd, hnx⟩ := hd
  subst hnx
  intro H locs ls hl hW hS
  exact lv_icmp_ne hexec hb hd ht (fun q => kt q H locs ls hl hW hS) (fun q => kf q H locs ls hl hW hS)

theorem g_if_ne {G : Gt} {d mc ms : Nat} {own : String} {y : Mt} {X : Xt} {P : Pt3} {pc nx : Nat} {lo : List (Option Value)} {st : List Value} {I : It} {h : Ht} {k n : Nat} {a : Int32} {off : Int} {tgt : Nat} (hX : Xok G own y X) (hd : dc y.2.1 pc (.ifCond .ne off) 3 nx) (ht : (pc : Int) + off = (tgt : Int)) (kt : a ≠ 0 → GG G d mc ms X P tgt lo st I h k n) (kf : a = 0 → GG G d mc ms X P nx lo st I h k n) : GG G d mc ms X P pc lo (.int a :: st) I h k n := by
  obtain ⟨p, l, e, s, m, args, below, meth, c⟩ := X
  obtain ⟨hexec, hb, hml, hown, hts, hKs, hGk, hlk, hrt, hnm⟩ := hX
  obtain ⟨hd, hnx⟩ := hd
  subst hnx
  intro H locs ls hl hW hS
  exact lv_if_ne hexec hb hd ht (fun q => kt q H locs ls hl hW hS) (fun q => kf q H locs ls hl hW hS)

theorem g_icmp_lt {G : Gt} {d mc ms : Nat} {own : String} {y : Mt} {X : Xt} {P : Pt3} {pc nx : Nat} {lo : List (Option Value)} {st : List Value} {I : It} {h : Ht} {k n : Nat} {a b : Int32} {off : Int} {tgt : Nat} (hX : Xok G own y X) (hd : dc y.2.1 pc (.if_icmp .lt off) 3 nx) (ht : (pc : Int) + off = (tgt : Int)) (kt : a < b → GG G d mc ms X P tgt lo st I h k n) (kf : ¬ a < b → GG G d mc ms X P nx lo st I h k n) : GG G d mc ms X P pc lo (.int b :: .int a :: st) I h k n := by
  obtain ⟨p, l, e, s, m, args, below, meth, c⟩ := X
  obtain ⟨hexec, hb, hml, hown, hts, hKs, hGk, hlk, hrt, hnm⟩ := hX
  obtain ⟨hd, hnx⟩ := hd
  subst hnx
  intro H locs ls hl hW hS
  exact lv_icmp_lt hexec hb hd ht (fun q => kt q H locs ls hl hW hS) (fun q => kf q H locs ls hl hW hS)

theorem g_if_lt {G : Gt} {d mc ms : Nat} {own : String} {y : Mt} {X : Xt} {P : Pt3} {pc nx : Nat} {lo : List (Option Value)} {st : List Value} {I : It} {h : Ht} {k n : Nat} {a : Int32} {off : Int} {tgt : Nat} (hX : Xok G own y X) (hd : dc y.2.1 pc (.ifCond .lt off) 3 nx) (ht : (pc : Int) + off = (tgt : Int)) (kt : a < 0 → GG G d mc ms X P tgt lo st I h k n) (kf : ¬ a < 0 → GG G d mc ms X P nx lo st I h k n) : GG G d mc ms X P pc lo (.int a :: st) I h k n := by
  obtain ⟨p, l, e, s, m, args, below, meth, c⟩ := X
  obtain ⟨hexec, hb, hml, hown, hts, hKs, hGk, hlk, hrt, hnm⟩ := hX
  obtain ⟨hd, hnx⟩ := hd
  subst hnx
  intro H locs ls hl hW hS
  exact lv_if_lt hexec hb hd ht (fun q => kt q H locs ls hl hW hS) (fun q => kf q H locs ls hl hW hS)

theorem g_icmp_ge {G : Gt} {d mc ms : Nat} {own : String} {y : Mt} {X : Xt} {P : Pt3} {pc nx : Nat} {lo : List (Option Value)} {st : List Value} {I : It} {h : Ht} {k n : Nat} {a b : Int32} {off : Int} {tgt : Nat} (hX : Xok G own y X) (hd : dc y.2.1 pc (.if_icmp .ge off) 3 nx) (ht : (pc : Int) + off = (tgt : Int)) (kt : b ≤ a → GG G d mc ms X P tgt lo st I h k n) (kf : ¬ b ≤ a → GG G d mc ms X P nx lo st I h k n) : GG G d mc ms X P pc lo (.int b :: .int a :: st) I h k n := by
  obtain ⟨p, l, e, s, m, args, below, meth, c⟩ := X
  obtain ⟨hexec, hb, hml, hown, hts, hKs, hGk, hlk, hrt, hnm⟩ := hX
  obtain ⟨hd, hnx⟩ := hd
  subst hnx
  intro H locs ls hl hW hS
  exact lv_icmp_ge hexec hb hd ht (fun q => kt q H locs ls hl hW hS) (fun q => kf q H locs ls hl hW hS)

theorem g_if_ge {G : Gt} {d mc ms : Nat} {own : String} {y : Mt} {X : Xt} {P : Pt3} {pc nx : Nat} {lo : List (Option Value)} {st : List Value} {I : It} {h : Ht} {k n : Nat} {a : Int32} {off : Int} {tgt : Nat} (hX : Xok G own y X) (hd : dc y.2.1 pc (.ifCond .ge off) 3 nx) (ht : (pc : Int) + off = (tgt : Int)) (kt : 0 ≤ a → GG G d mc ms X P tgt lo st I h k n) (kf : ¬ 0 ≤ a → GG G d mc ms X P nx lo st I h k n) : GG G d mc ms X P pc lo (.int a :: st) I h k n := by
  obtain ⟨p, l, e, s, m, args, below, meth, c⟩ := X
  obtain ⟨hexec, hb, hml, hown, hts, hKs, hGk, hlk, hrt, hnm⟩ := hX
  obtain ⟨hd, hnx⟩ := hd
  subst hnx
  intro H locs ls hl hW hS
  exact lv_if_ge hexec hb hd ht (fun q => kt q H locs ls hl hW hS) (fun q => kf q H locs ls hl hW hS)

theorem g_icmp_gt {G : Gt} {d mc ms : Nat} {own : String} {y : Mt} {X : Xt} {P : Pt3} {pc nx : Nat} {lo : List (Option Value)} {st : List Value} {I : It} {h : Ht} {k n : Nat} {a b : Int32} {off : Int} {tgt : Nat} (hX : Xok G own y X) (hd : dc y.2.1 pc (.if_icmp .gt off) 3 nx) (ht : (pc : Int) + off = (tgt : Int)) (kt : b < a → GG G d mc ms X P tgt lo st I h k n) (kf : ¬ b < a → GG G d mc ms X P nx lo st I h k n) : GG G d mc ms X P pc lo (.int b :: .int a :: st) I h k n := by
  obtain ⟨p, l, e, s, m, args, below, meth, c⟩ := X
  obtain ⟨hexec, hb, hml, hown, hts, hKs, hGk, hlk, hrt, hnm⟩ := hX
  obtain ⟨hd, hnx⟩ := hd
  subst hnx
  intro H locs ls hl hW hS
  exact lv_icmp_gt hexec hb hd ht (fun q => kt q H locs ls hl hW hS) (fun q => kf q H locs ls hl hW hS)

theorem g_if_gt {G : Gt} {d mc ms : Nat} {own : String} {y : Mt} {X : Xt} {P : Pt3} {pc nx : Nat} {lo : List (Option Value)} {st : List Value} {I : It} {h : Ht} {k n : Nat} {a : Int32} {off : Int} {tgt : Nat} (hX : Xok G own y X) (hd : dc y.2.1 pc (.ifCond .gt off) 3 nx) (ht : (pc : Int) + off = (tgt : Int)) (kt : 0 < a → GG G d mc ms X P tgt lo st I h k n) (kf : ¬ 0 < a → GG G d mc ms X P nx lo st I h k n) : GG G d mc ms X P pc lo (.int a :: st) I h k n := by
  obtain ⟨p, l, e, s, m, args, below, meth, c⟩ := X
  obtain ⟨hexec, hb, hml, hown, hts, hKs, hGk, hlk, hrt, hnm⟩ := hX
  obtain ⟨hd, hnx⟩ := hd
  subst hnx
  intro H locs ls hl hW hS
  exact lv_if_gt hexec hb hd ht (fun q => kt q H locs ls hl hW hS) (fun q => kf q H locs ls hl hW hS)

theorem g_icmp_le {G : Gt} {d mc ms : Nat} {own : String} {y : Mt} {X : Xt} {P : Pt3} {pc nx : Nat} {lo : List (Option Value)} {st : List Value} {I : It} {h : Ht} {k n : Nat} {a b : Int32} {off : Int} {tgt : Nat} (hX : Xok G own y X) (hd : dc y.2.1 pc (.if_icmp .le off) 3 nx) (ht : (pc : Int) + off = (tgt : Int)) (kt : a ≤ b → GG G d mc ms X P tgt lo st I h k n) (kf : ¬ a ≤ b → GG G d mc ms X P nx lo st I h k n) : GG G d mc ms X P pc lo (.int b :: .int a :: st) I h k n := by
  obtain ⟨p, l, e, s, m, args, below, meth, c⟩ := X
  obtain ⟨hexec, hb, hml, hown, hts, hKs, hGk, hlk, hrt, hnm⟩ := hX
  obtain ⟨hd, hnx⟩ := hd
  subst hnx
  intro H locs ls hl hW hS
  exact lv_icmp_le hexec hb hd ht (fun q => kt q H locs ls hl hW hS) (fun q => kf q H locs ls hl hW hS)

theorem g_if_le {G : Gt} {d mc ms : Nat} {own : String} {y : Mt} {X : Xt} {P : Pt3} {pc nx : Nat} {lo : List (Option Value)} {st : List Value} {I : It} {h : Ht} {k n : Nat} {a : Int32} {off : Int} {tgt : Nat} (hX : Xok G own y X) (hd : dc y.2.1 pc (.ifCond .le off) 3 nx) (ht : (pc : Int) + off = (tgt : Int)) (kt : a ≤ 0 → GG G d mc ms X P tgt lo st I h k n) (kf : ¬ a ≤ 0 → GG G d mc ms X P nx lo st I h k n) : GG G d mc ms X P pc lo (.int a :: st) I h k n := by
  obtain ⟨p, l, e, s, m, args, below, meth, c⟩ := X
  obtain ⟨hexec, hb, hml, hown, hts, hKs, hGk, hlk, hrt, hnm⟩ := hX
  obtain ⟨hd, hnx⟩ := hd
  subst hnx
  intro H locs ls hl hW hS
  exact lv_if_le hexec hb hd ht (fun q => kt q H locs ls hl hW hS) (fun q => kf q H locs ls hl hW hS)

theorem g_goto {G : Gt} {d mc ms : Nat} {own : String} {y : Mt} {X : Xt} {P : Pt3} {pc nx : Nat} {lo : List (Option Value)} {st : List Value} {I : It} {h : Ht} {k n : Nat} {off : Int} {tgt : Nat} (hX : Xok G own y X) (hd : dc y.2.1 pc (.goto off) 3 nx) (ht : (pc : Int) + off = (tgt : Int)) (kk : GG G d mc ms X P tgt lo st I h k n) : GG G d mc ms X P pc lo st I h k n := by
  obtain ⟨p, l, e, s, m, args, below, meth, c⟩ := X
  obtain ⟨hexec, hb, hml, hown, hts, hKs, hGk, hlk, hrt, hnm⟩ := hX
  obtain ⟨hd, hnx⟩ := hd
  subst hnx
  intro H locs ls hl hW hS
  exact lv_goto hexec hb hd ht (kk H locs ls hl hW hS)

theorem g_ifnull {G : Gt} {d mc ms : Nat} {own : String} {y : Mt} {X : Xt} {P : Pt3} {pc nx : Nat} {lo : List (Option Value)} {st : List Value} {I : It} {h : Ht} {k n : Nat}  {off : Int} {tgt : Nat} (hX : Xok G own y X) (hd : dc y.2.1 pc (.ifnull off) 3 nx) (ht : (pc : Int) + off = (tgt : Int)) (kk : GG G d mc ms X P tgt lo st I h k n) : GG G d mc ms X P pc lo (.null :: st) I h k n := by
  obtain ⟨p, l, e, s, m, args, below, meth, c⟩ := X
  obtain ⟨hexec, hb, hml, hown, hts, hKs, hGk, hlk, hrt, hnm⟩ := hX
  obtain ⟨hd, hnx⟩ := hd
  subst hnx
  intro H locs ls hl hW hS
  exact lv_ifnullN hexec hb hd ht (kk H locs ls hl hW hS)

theorem g_ifnullR {G : Gt} {d mc ms : Nat} {own : String} {y : Mt} {X : Xt} {P : Pt3} {pc nx : Nat} {lo : List (Option Value)} {st : List Value} {I : It} {h : Ht} {k n : Nat} {q : Nat} {off : Int} (hX : Xok G own y X) (hd : dc y.2.1 pc (.ifnull off) 3 nx) (kk : GG G d mc ms X P nx lo st I h k n) : GG G d mc ms X P pc lo (.ref q :: st) I h k n := by
  obtain ⟨p, l, e, s, m, args, below, meth, c⟩ := X
  obtain ⟨hexec, hb, hml, hown, hts, hKs, hGk, hlk, hrt, hnm⟩ := hX
  obtain ⟨hd, hnx⟩ := hd
  subst hnx
  intro H locs ls hl hW hS
  exact lv_ifnull hexec hb hd (kk H locs ls hl hW hS)

theorem g_ifnonnull {G : Gt} {d mc ms : Nat} {own : String} {y : Mt} {X : Xt} {P : Pt3} {pc nx : Nat} {lo : List (Option Value)} {st : List Value} {I : It} {h : Ht} {k n : Nat} {q : Nat} {off : Int} {tgt : Nat} (hX : Xok G own y X) (hd : dc y.2.1 pc (.ifnonnull off) 3 nx) (ht : (pc : Int) + off = (tgt : Int)) (kk : GG G d mc ms X P tgt lo st I h k n) : GG G d mc ms X P pc lo (.ref q :: st) I h k n := by
  obtain ⟨p, l, e, s, m, args, below, meth, c⟩ := X
  obtain ⟨hexec, hb, hml, hown, hts, hKs, hGk, hlk, hrt, hnm⟩ := hX
  obtain ⟨hd, hnx⟩ := hd
  subst hnx
  intro H locs ls hl hW hS
  exact lv_ifnonnull hexec hb hd ht (kk H locs ls hl hW hS)

theorem g_ifnonnullN {G : Gt} {d mc ms : Nat} {own : String} {y : Mt} {X : Xt} {P : Pt3} {pc nx : Nat} {lo : List (Option Value)} {st : List Value} {I : It} {h : Ht} {k n : Nat}  {off : Int} (hX : Xok G own y X) (hd : dc y.2.1 pc (.ifnonnull off) 3 nx) (kk : GG G d mc ms X P nx lo st I h k n) : GG G d mc ms X P pc lo (.null :: st) I h k n := by
  obtain ⟨p, l, e, s, m, args, below, meth, c⟩ := X
  obtain ⟨hexec, hb, hml, hown, hts, hKs, hGk, hlk, hrt, hnm⟩ := hX
  obtain ⟨hd, hnx⟩ := hd
  subst hnx
  intro H locs ls hl hW hS
  exact lv_ifnonnullN hexec hb hd (kk H locs ls hl hW hS)
end
section
/-! fields -/
def CLS (ci : Nat) (C : String) (T : u_T) (N : Nat) (ty : Nat → FieldType) : Prop :=
  vwCl[ci]? = some (C, T, N) ∧ (∀ w ∈ u_ws C T N, w ∈ TG) ∧ (∀ k, k < N → parseFieldDescriptor (T k).2.2.1 = some (ty k)) ∧ (∀ a, a < N → ∀ b, b < N → a ≠ b → (T a).2.1 ≠ (T b).2.1) ∧ nf ci = N ∧ ci < 13
theorem ent_obj {G : Gt} {I : It} {h : Ht} {q ci : Nat} (hc : (hs h q).1 = ci) (h13 : ci < 13) : ent G I h q = .inr (ci, fvs G I h q ci) := by
  subst hc
  unfold ent
  rw [if_pos h13]
theorem ent_int {G : Gt} {I : It} {h : Ht} {q t len : Nat} (hc : hs h q = (t, len)) (ht : t = 20 ∨ t = 22 ∨ t = 23) : ent G I h q = .inl (gc G t, len, .inl (I q)) := by
  unfold ent
  rw [hc]
  rcases ht with rfl | rfl | rfl <;> rfl
theorem ent_long {G : Gt} {I : It} {h : Ht} {q len : Nat} (hc : hs h q = (21, len)) : ent G I h q = .inl (gc G 21, len, .inr (.inl (hL h q))) := by
  unfold ent
  rw [hc]
  rfl
theorem ent_ref {G : Gt} {I : It} {h : Ht} {q t len : Nat} (hc : hs h q = (t, len)) (ht : 24 ≤ t) : ent G I h q = .inl (gc G t, len, .inr (.inr (.inr (.inr (fun j => (hR h q j).map (ga G)))))) := by
  unfold ent
  rw [hc]
  simp only []
  rw [if_neg (by omega), if_neg (by omega), if_neg (by omega)]
def Fln (own ref : String) (T : u_T) (idx j : Nat) : Prop := Cond.fieldLink own idx ref (T j).2.1 (T j).2.2.1 ∈ TG ∧ ((T j).1 = ref ∨ Cond.sameField ref (T j).1 (T j).2.1 (T j).2.2.1 ∈ TG)
theorem fln_same {own ref : String} {T : u_T} {idx j : Nat} {s : State} {args : Array Value} (hts : ∀ w ∈ TG, w.before args s = true) (hl : Fln own ref T idx j) : ∀ x, s.fieldFound? (T j).1 (T j).2.1 (T j).2.2.1 = some x → s.fieldFound? ref (T j).2.1 (T j).2.2.1 = some x := by
  intro x hx
  rcases hl.2 with e | e
  · rw [← e]; exact hx
  · exact u_same (hts _ e) x hx
def loc0 : List Value → Nat → List (Option Value) := fun vs => match vs with
  | [] => fun n => List.replicate n none
  | v :: vs => fun n => if v.category = 2 then some v :: none :: loc0 vs (n - 2) else some v :: loc0 vs (n - 1)
section HR
variable {G : Gt} {d mc ms : Nat} {own : String} {y : Mt} {X : Xt} {P : Pt3} {pc nx : Nat} {lo : List (Option Value)} {st : List Value} {I : It} {h : Ht} {k n : Nat}
theorem g_get (hX : Xok G own y X) {idx ci N j q : Nat} {C ref : String} {T : u_T} {ty : Nat → FieldType} (hd : dc y.2.1 pc (.getfield idx) 3 nx) (hC : CLS ci C T N ty) (hl : Fln own ref T idx j) (hj : j < N) (hq : q < hn h) (hc : (hs h q).1 = ci)
    (kk : GG G d mc ms X P nx lo (fvl I h q ci j :: st) I h k n) : GG G d mc ms X P pc lo (.ref q :: st) I h k n := by
  obtain ⟨p, l, e, s, m, args, below, meth, c⟩ := X
  obtain ⟨hexec, hb, hml, hown, hts, hKs, hGk, hlk, hrt, hnm⟩ := hX
  obtain ⟨hd, rfl⟩ := hd
  obtain ⟨h1, h2, h3, h4, h5, h6⟩ := hC
  intro H locs ls hlv hW hS
  exact va_get (ci := ci) (C := C) (T := T) (N := N) hexec hb hts h2 hown hKs.1 hW.1 q (by rw [wl_get hq, ent_obj hc h6]) h1 j hj (hts _ hl.1) (fln_same hts hl) (fvs_get (by rw [h5]; exact hj)) hd (kk H locs ls hlv hW hS)
theorem g_getI (hX : Xok G own y X) {idx ci N j q : Nat} {C ref : String} {T : u_T} {ty : Nat → FieldType} (hd : dc y.2.1 pc (.getfield idx) 3 nx) (hC : CLS ci C T N ty) (hl : Fln own ref T idx j) (hj : j < N) (hr : isr ci j = false) (hq : q < hn h) (hc : (hs h q).1 = ci)
    (kk : GG G d mc ms X P nx lo (.int (I q j) :: st) I h k n) : GG G d mc ms X P pc lo (.ref q :: st) I h k n :=
  g_get hX hd hC hl hj hq hc (by unfold fvl; rw [hr]; exact kk)
theorem g_getR (hX : Xok G own y X) {idx ci N j q : Nat} {C ref : String} {T : u_T} {ty : Nat → FieldType} {r : Option Nat} (hd : dc y.2.1 pc (.getfield idx) 3 nx) (hC : CLS ci C T N ty) (hl : Fln own ref T idx j) (hj : j < N) (hr : isr ci j = true) (hq : q < hn h) (hc : (hs h q).1 = ci) (hv : hR h q j = r)
    (kk : GG G d mc ms X P nx lo (rv r :: st) I h k n) : GG G d mc ms X P pc lo (.ref q :: st) I h k n :=
  g_get hX hd hC hl hj hq hc (by unfold fvl; rw [hr]; subst hv; exact kk)
theorem g_put0 (hX : Xok G own y X) {idx ci N j q : Nat} {C ref : String} {T : u_T} {ty : Nat → FieldType} {v : Value} {I' : It} {h' : Ht} (hd : dc y.2.1 pc (.putfield idx) 3 nx) (hC : CLS ci C T N ty) (hl : Fln own ref T idx j) (hj : j < N) (hq : q < hn h) (hc : (hs h q).1 = ci)
    (hfin : (T j).2.2.2 = false ∨ ((T j).2.2.2 = true ∧ y.1.name = "<init>" ∧ (T j).1 = own)) (hnr : narrow (ty j) (cv G v) = cv G v) (hft : fits (ty j) (cv G v) = true)
    (hn' : hn h' = hn h) (hs' : hs h' = hs h) (hv : fvl I' h' q ci j = v) (ho : ∀ b, b ≠ j → fvl I' h' q ci b = fvl I h q ci b) (hoq : ∀ a, a ≠ q → ent G I' h' a = ent G I h a)
    (kk : GG G d mc ms X P nx lo st I' h' k n) : GG G d mc ms X P pc lo (v :: .ref q :: st) I h k n := by
  obtain ⟨p, l, e, s, m, args, below, meth, c⟩ := X
  obtain ⟨hexec, hb, hml, hown, hts, hKs, hGk, hlk, hrt, hnm⟩ := hX
  obtain ⟨hd, rfl⟩ := hd
  obtain ⟨h1, h2, h3, h4, h5, h6⟩ := hC
  intro H locs ls hlv hW hS
  have hset : (wl G I h).set q (ga G q, .inr (ci, (fvs G I h q ci).set j (cv G v))) = wl G I' h' :=
    wl_set hn' (by rw [ent_obj (by rw [hs']; exact hc) h6, fvs_set (I' := I') (h' := h') (by rw [hv]) ho]) hoq
  have key : ∀ (H1 : Heap) (locs1 : List Loc), va_P (gD G) vwCl ((wl G I h).set q (ga G q, .inr (ci, (fvs G I h q ci).set j (cv G v)))) H1 → va_S (gA G) s.heap H1 locs1 → H1.size = H.size →
      W p l e (rmd d mc ms) s m args below meth c H1 locs1 k n (MQ below (QC G P) args s mc ms (gA G)) (F0 m (pc + 3) ls (st.map (cv G))) := by
    intro H1 locs1 hP1 hS1 hz
    rw [hset] at hP1
    exact kk H1 locs1 ls hlv ⟨hP1, by rw [hz, hn']; exact hW.2⟩ hS1
  have hap := va_apart (own := own) hts h2 ty h3 h4 hKs.1 h1
  have he : ent G I h q = .inr (ci, fvs G I h q ci) := ent_obj hc h6
  have hget : (wl G I h)[q]? = some (ga G q, .inr (ci, fvs G I h q ci)) := by rw [wl_get hq, he]
  obtain ⟨r, g1, cell, q1, q2, q3, q4⟩ := hW.1 q _ hget
  have hr : r = (C, T, N) := Option.some.inj (g1.symm.trans h1)
  subst hr
  obtain ⟨hSl, hfc, kC, hkC, hkind⟩ := hKs.1.1 ci _ h1
  obtain ⟨cf, kf, fi, f, hi, hsl⟩ := hSl j hj
  have hlay := hts _ (h2 _ (u_in_lay hj))
  unfold u_lay at hlay
  have hst := (u_facts hfc hkC (u_lays hts h2 hj) hi).1
  have hlen : j < (fvs G I h q ci).length := by rw [fvs_len, h5]; exact hj
  rcases hfin with hfin | ⟨hfin, hin2, hdecl⟩
  · rw [if_neg (by rw [hfin]; decide)] at hlay
    have h6' := u_store hfc hkC hkind hlay hi (h3 j hj) hnr hft
    refine W.putK hexec hb (f := f) ⟨hown, hts _ hl.1, ⟨_, _, _, fln_same hts hl _ hi⟩, hst⟩ (by rw [q2]; exact h6') q1 q3 (by rw [hsl]; exact k2_hasslot (q4 j hj)) rfl rfl hd fun H' e1 e2 e3 => ?_
    rw [hsl] at e1 ⊢
    exact key H' _ (hW.1.set (wl_D hGk I h) hget ⟨_, h1, t_OB.to (V := updV (vp_V (fvs G I h q ci)) j (cv G v)) ⟨_, e1, q2, q3, t_set q4 hap hj (cv G v)⟩ (fun i _ => vp_updV_set hlen (cv G v) i)⟩ e3) (hS.put e2 e3 (hGk.2 q)) e2
  · rw [if_pos hfin] at hlay
    have hcf : m.cls = cf := by
      obtain ⟨_, _, c', _, _, _, -, -, hf', -, -, -, hown2, -⟩ := Cond.laysFinal_spec hlay
      have e1 : c' = cf := by have := hi.symm.trans hf'; simp at this; exact this.1.symm
      rw [hdecl] at hown2
      rw [← e1]; exact Option.some.inj (hown.symm.trans hown2)
    have h6' := u_fits hfc hkC hkind (Or.inr hlay) hi (h3 j hj) hnr hft
    refine W.putFinK hexec hb hown (hts _ hl.1) (fln_same hts hl _ hi) hst hcf (hnm.trans hin2) (by rw [q2]; exact h6') q1 q3 (by rw [hsl]; exact k2_hasslot (q4 j hj)) rfl rfl hd fun H' e1 e2 e3 => ?_
    rw [hsl] at e1 ⊢
    exact key H' _ (hW.1.set (wl_D hGk I h) hget ⟨_, h1, t_OB.to (V := updV (vp_V (fvs G I h q ci)) j (cv G v)) ⟨_, e1, q2, q3, t_set q4 hap hj (cv G v)⟩ (fun i _ => vp_updV_set hlen (cv G v) i)⟩ e3) (hS.put e2 e3 (hGk.2 q)) e2
theorem g_putI (hX : Xok G own y X) {idx ci N j q : Nat} {C ref : String} {T : u_T} {ty : Nat → FieldType} {x : Int32} (hd : dc y.2.1 pc (.putfield idx) 3 nx) (hC : CLS ci C T N ty) (hl : Fln own ref T idx j) (hj : j < N) (hr : isr ci j = false) (hq : q < hn h) (hc : (hs h q).1 = ci)
    (hfin : (T j).2.2.2 = false ∨ ((T j).2.2.2 = true ∧ y.1.name = "<init>" ∧ (T j).1 = own)) (hnr : narrow (ty j) (.int x) = .int x) (hft : fits (ty j) (.int x) = true)
    (kk : GG G d mc ms X P nx lo st (upI I q j x) h k n) : GG G d mc ms X P pc lo (.int x :: .ref q :: st) I h k n :=
  g_put0 hX hd hC hl hj hq hc hfin hnr hft rfl rfl (by unfold fvl; rw [hr]; simp [upI]) (fun b hb => by unfold fvl; simp [upI, hb]) (fun a ha => ent_congr (upI_off ha) rfl rfl rfl) kk
theorem g_putR (hX : Xok G own y X) {idx ci N j q : Nat} {C ref : String} {T : u_T} {ty : Nat → FieldType} {r : Option Nat} {v : Value} (hd : dc y.2.1 pc (.putfield idx) 3 nx) (hC : CLS ci C T N ty) (hl : Fln own ref T idx j) (hj : j < N) (hr : isr ci j = true) (hq : q < hn h) (hc : (hs h q).1 = ci)
    (hfin : (T j).2.2.2 = false ∨ ((T j).2.2.2 = true ∧ y.1.name = "<init>" ∧ (T j).1 = own)) (hv : rv r = v) (hnr : narrow (ty j) (cv G v) = cv G v) (hft : fits (ty j) (cv G v) = true)
    (kk : GG G d mc ms X P nx lo st I (wR h q j r) k n) : GG G d mc ms X P pc lo (v :: .ref q :: st) I h k n :=
  g_put0 (I' := I) (h' := wR h q j r) hX hd hC hl hj hq hc hfin hnr hft rfl rfl (by unfold fvl; rw [hr]; simp [wR, hR, upR, hv]) (fun b hb => by unfold fvl; simp [wR, hR, upR, hb]) (fun a ha => ent_congr rfl rfl (by show upR (hR h) q j r a = _; exact upR_off ha) rfl) kk
/-! arrays -/
theorem tys_at {G : Gt} {i t : Nat} {ty : FieldType} (hi : tysL[i]? = some (t, ty)) : (tysG G)[i]? = some (gc G t, ty) := by
  unfold tysG
  rw [List.getElem?_map, hi]
  rfl
theorem g_iaload (hX : Xok G own y X) {q len : Nat} {i : Int32} (hd : dc y.2.1 pc .iaload 1 nx) (hq : q < hn h) (hc : hs h q = (20, len)) (hin : vp_in i len)
    (kk : GG G d mc ms X P nx lo (.int (I q i.toNatClampNeg) :: st) I h k n) : GG G d mc ms X P pc lo (.int i :: .ref q :: st) I h k n := by
  obtain ⟨p, l, e, s, m, args, below, meth, c⟩ := X
  obtain ⟨hexec, hb, hml, hown, hts, hKs, hGk, hlk, hrt, hnm⟩ := hX
  obtain ⟨hd, rfl⟩ := hd
  intro H locs ls hlv hW hS
  exact va_iald hexec hb hKs.1 hW.1 q 0 (by rw [wl_get hq, ent_int hc (Or.inl rfl)]) (tys_at rfl) hin hd (kk H locs ls hlv hW hS)
theorem g_baload (hX : Xok G own y X) {q len : Nat} {i : Int32} (hd : dc y.2.1 pc .baload 1 nx) (hq : q < hn h) (hc : hs h q = (22, len)) (hin : vp_in i len)
    (kk : GG G d mc ms X P nx lo (.int (I q i.toNatClampNeg) :: st) I h k n) : GG G d mc ms X P pc lo (.int i :: .ref q :: st) I h k n := by
  obtain ⟨p, l, e, s, m, args, below, meth, c⟩ := X
  obtain ⟨hexec, hb, hml, hown, hts, hKs, hGk, hlk, hrt, hnm⟩ := hX
  obtain ⟨hd, rfl⟩ := hd
  intro H locs ls hlv hW hS
  exact va_bald hexec hb hKs.1 hW.1 q 2 (by rw [wl_get hq, ent_int hc (Or.inr (Or.inl rfl))]) (tys_at rfl) hin hd (kk H locs ls hlv hW hS)
theorem g_zaload (hX : Xok G own y X) {q len : Nat} {i : Int32} (hd : dc y.2.1 pc .baload 1 nx) (hq : q < hn h) (hc : hs h q = (23, len)) (hin : vp_in i len)
    (kk : GG G d mc ms X P nx lo (.int (I q i.toNatClampNeg) :: st) I h k n) : GG G d mc ms X P pc lo (.int i :: .ref q :: st) I h k n := by
  obtain ⟨p, l, e, s, m, args, below, meth, c⟩ := X
  obtain ⟨hexec, hb, hml, hown, hts, hKs, hGk, hlk, hrt, hnm⟩ := hX
  obtain ⟨hd, rfl⟩ := hd
  intro H locs ls hlv hW hS
  exact va_zald hexec hb hKs.1 hW.1 q 3 (by rw [wl_get hq, ent_int hc (Or.inr (Or.inr rfl))]) (tys_at rfl) hin hd (kk H locs ls hlv hW hS)
theorem g_laload (hX : Xok G own y X) {q len : Nat} {i : Int32} (hd : dc y.2.1 pc .laload 1 nx) (hq : q < hn h) (hc : hs h q = (21, len)) (hin : vp_in i len)
    (kk : GG G d mc ms X P nx lo (.long (hL h q i.toNatClampNeg) :: st) I h k n) : GG G d mc ms X P pc lo (.int i :: .ref q :: st) I h k n := by
  obtain ⟨p, l, e, s, m, args, below, meth, c⟩ := X
  obtain ⟨hexec, hb, hml, hown, hts, hKs, hGk, hlk, hrt, hnm⟩ := hX
  obtain ⟨hd, rfl⟩ := hd
  intro H locs ls hlv hW hS
  exact va_lald hexec hb hKs.1 hW.1 q 1 (by rw [wl_get hq, ent_long hc]) (tys_at rfl) hin hd (kk H locs ls hlv hW hS)
theorem g_aaload (hX : Xok G own y X) {q t len i0 : Nat} {ty : FieldType} {i : Int32} {r : Option Nat} (hd : dc y.2.1 pc .aaload 1 nx) (hq : q < hn h) (hc : hs h q = (t, len)) (ht : 24 ≤ t) (hty : tysL[i0]? = some (t, ty)) (hrk : refKind ty = true) (hin : vp_in i len) (hr : hR h q i.toNatClampNeg = r)
    (kk : GG G d mc ms X P nx lo (rv r :: st) I h k n) : GG G d mc ms X P pc lo (.int i :: .ref q :: st) I h k n := by
  obtain ⟨p, l, e, s, m, args, below, meth, c⟩ := X
  obtain ⟨hexec, hb, hml, hown, hts, hKs, hGk, hlk, hrt, hnm⟩ := hX
  obtain ⟨hd, rfl⟩ := hd
  intro H locs ls hlv hW hS
  subst hr
  have hlt : i.toNatClampNeg < len := Nat.not_le.mp fun q => hin (Or.inr q)
  have hget : (wl G I h)[q]? = some (ga G q, .inl (gc G t, len, .inr (.inr (.inr (.inr (fun j => (hR h q j).map (ga G))))))) := by rw [wl_get hq, ent_ref hc ht]
  have hk := kk H locs ls hlv hW hS
  rw [List.map_cons, cv_rv] at hk
  exact W.aald (v := va_rf ((hR h q i.toNatClampNeg).map (ga G))) (ty := ty) hexec hb (hW.1 q _ hget) ((hKs.1.2 i0 _ (tys_at hty)).1 len (fun j => va_rf ((hR h q j).map (ga G)))) hrk (fun q => by cases q) (by show ¬ (i < 0 ∨ (arrV _ _ _).slots.size ≤ _); rw [arrV_size]; exact hin) (by show (arrV _ _ _).slots[_]? = _; rw [arrV_read _ _ hlt]) rfl rfl hd hk
theorem g_alen (hX : Xok G own y X) {q t len i0 : Nat} {ty : FieldType} {v : Int32} (hd : dc y.2.1 pc .arraylength 1 nx) (hq : q < hn h) (hc : hs h q = (t, len)) (ht : t = 20 ∨ t = 22 ∨ t = 23 ∨ t = 21 ∨ 24 ≤ t) (hty : tysL[i0]? = some (t, ty)) (hv : Int32.ofNat len = v)
    (kk : GG G d mc ms X P nx lo (.int v :: st) I h k n) : GG G d mc ms X P pc lo (.ref q :: st) I h k n := by
  obtain ⟨p, l, e, s, m, args, below, meth, c⟩ := X
  obtain ⟨hexec, hb, hml, hown, hts, hKs, hGk, hlk, hrt, hnm⟩ := hX
  obtain ⟨hd, rfl⟩ := hd
  intro H locs ls hlv hW hS
  have hk := kk H locs ls hlv hW hS
  rcases ht with ht | ht | ht | ht | ht
  · exact va_alen hexec hb hKs.1 hW.1 q i0 (by rw [wl_get hq, ent_int hc (Or.inl ht)]) (tys_at hty) hv hd hk
  · exact va_alen hexec hb hKs.1 hW.1 q i0 (by rw [wl_get hq, ent_int hc (Or.inr (Or.inl ht))]) (tys_at hty) hv hd hk
  · exact va_alen hexec hb hKs.1 hW.1 q i0 (by rw [wl_get hq, ent_int hc (Or.inr (Or.inr ht))]) (tys_at hty) hv hd hk
  · subst ht
    exact va_alen hexec hb hKs.1 hW.1 q i0 (by rw [wl_get hq, ent_long hc]) (tys_at hty) hv hd hk
  · exact va_alen hexec hb hKs.1 hW.1 q i0 (by rw [wl_get hq, ent_ref hc ht]) (tys_at hty) hv hd hk
theorem wd_set {G : Gt} {I I' : It} {h h' : Ht} {q : Nat} {e : va_E} {H H1 : Heap} (hw : (wl G I h).set q (ga G q, e) = wl G I' h') (hP : va_P (gD G) vwCl ((wl G I h).set q (ga G q, e)) H1) (hz : H1.size = H.size) (hW : Wd G I h H) (hn' : hn h' = hn h) : Wd G I' h' H1 := ⟨by rw [← hw]; exact hP, by rw [hz, hn']; exact hW.2⟩
theorem g_iastore (hX : Xok G own y X) {q len : Nat} {i x : Int32} (hd : dc y.2.1 pc .iastore 1 nx) (hq : q < hn h) (hc : hs h q = (20, len)) (hin : vp_in i len)
    (kk : GG G d mc ms X P nx lo st (upI I q i.toNatClampNeg x) h k n) : GG G d mc ms X P pc lo (.int x :: .int i :: .ref q :: st) I h k n := by
  obtain ⟨p, l, e, s, m, args, below, meth, c⟩ := X
  obtain ⟨hexec, hb, hml, hown, hts, hKs, hGk, hlk, hrt, hnm⟩ := hX
  obtain ⟨hd, rfl⟩ := hd
  intro H locs ls hlv hW hS
  have hget : (wl G I h)[q]? = some (ga G q, .inl (gc G 20, len, .inl (I q))) := by rw [wl_get hq, ent_int hc (Or.inl rfl)]
  have hcell := hW.1 q _ hget
  refine W.iast hexec hb hcell ((hKs.1.2 0 _ (tys_at rfl)).1 len (fun j => .int (I q j))) (fun q => by cases q) (by show ¬ (i < 0 ∨ (arrV _ _ _).slots.size ≤ _); rw [arrV_size]; exact hin) rfl rfl hd fun H1 e1 z oq => ?_
  refine kk H1 _ ls hlv (wd_set (e := .inl (gc G 20, len, .inl (upd (I q) i.toNatClampNeg x))) (wl_set rfl (by rw [ent_int hc (Or.inl rfl), upI_row]) (fun a ha => ent_congr (upI_off ha) rfl rfl rfl)) (hW.1.set (wl_D hGk I h) hget ?_ oq) z hW rfl) (hS.put z oq (hGk.2 q))
  show H1[ga G q]? = some (vp_cell _ _)
  rw [e1, vp_cell_i, vp_cell_i, arrV_store]
  congr 2
  funext b
  by_cases hq : b = i.toNatClampNeg
  · subst hq
    simp [updV, upd]
  · simp [updV, upd, hq]
theorem g_bastore (hX : Xok G own y X) {q len : Nat} {i x : Int32} (hd : dc y.2.1 pc .bastore 1 nx) (hq : q < hn h) (hc : hs h q = (22, len)) (hin : vp_in i len)
    (kk : GG G d mc ms X P nx lo st (upI I q i.toNatClampNeg (vp_nar .byte x)) h k n) : GG G d mc ms X P pc lo (.int x :: .int i :: .ref q :: st) I h k n := by
  obtain ⟨p, l, e, s, m, args, below, meth, c⟩ := X
  obtain ⟨hexec, hb, hml, hown, hts, hKs, hGk, hlk, hrt, hnm⟩ := hX
  obtain ⟨hd, rfl⟩ := hd
  intro H locs ls hlv hW hS
  have hget : (wl G I h)[q]? = some (ga G q, .inl (gc G 22, len, .inl (I q))) := by rw [wl_get hq, ent_int hc (Or.inr (Or.inl rfl))]
  refine W.bast hexec hb (hW.1 q _ hget) ((hKs.1.2 2 _ (tys_at rfl)).1 len (fun j => .int (I q j))) (fun q => by cases q) (by show ¬ (i < 0 ∨ (arrV _ _ _).slots.size ≤ _); rw [arrV_size]; exact hin) rfl rfl hd fun H1 e1 z oq => ?_
  refine kk H1 _ ls hlv (wd_set (e := .inl (gc G 22, len, .inl (upd (I q) i.toNatClampNeg (vp_nar .byte x)))) (wl_set rfl (by rw [ent_int hc (Or.inr (Or.inl rfl)), upI_row]) (fun a ha => ent_congr (upI_off ha) rfl rfl rfl)) (hW.1.set (wl_D hGk I h) hget ?_ oq) z hW rfl) (hS.put z oq (hGk.2 q))
  show H1[ga G q]? = some (vp_cell _ _)
  rw [e1, vp_cell_i, vp_cell_i, arrV_store]
  congr 2
  funext b
  by_cases hq : b = i.toNatClampNeg
  · subst hq
    simp [updV, upd, vp_nar]
    try rfl
  · simp [updV, upd, hq]
theorem g_zastore (hX : Xok G own y X) {q len : Nat} {i x : Int32} (hd : dc y.2.1 pc .bastore 1 nx) (hq : q < hn h) (hc : hs h q = (23, len)) (hin : vp_in i len)
    (kk : GG G d mc ms X P nx lo st (upI I q i.toNatClampNeg (vp_nar .boolean x)) h k n) : GG G d mc ms X P pc lo (.int x :: .int i :: .ref q :: st) I h k n := by
  obtain ⟨p, l, e, s, m, args, below, meth, c⟩ := X
  obtain ⟨hexec, hb, hml, hown, hts, hKs, hGk, hlk, hrt, hnm⟩ := hX
  obtain ⟨hd, rfl⟩ := hd
  intro H locs ls hlv hW hS
  have hget : (wl G I h)[q]? = some (ga G q, .inl (gc G 23, len, .inl (I q))) := by rw [wl_get hq, ent_int hc (Or.inr (Or.inr rfl))]
  refine W.zast hexec hb (hW.1 q _ hget) ((hKs.1.2 3 _ (tys_at rfl)).1 len (fun j => .int (I q j))) (fun q => by cases q) (by show ¬ (i < 0 ∨ (arrV _ _ _).slots.size ≤ _); rw [arrV_size]; exact hin) rfl rfl hd fun H1 e1 z oq => ?_
  refine kk H1 _ ls hlv (wd_set (e := .inl (gc G 23, len, .inl (upd (I q) i.toNatClampNeg (vp_nar .boolean x)))) (wl_set rfl (by rw [ent_int hc (Or.inr (Or.inr rfl)), upI_row]) (fun a ha => ent_congr (upI_off ha) rfl rfl rfl)) (hW.1.set (wl_D hGk I h) hget ?_ oq) z hW rfl) (hS.put z oq (hGk.2 q))
  show H1[ga G q]? = some (vp_cell _ _)
  rw [e1, vp_cell_i, vp_cell_i, arrV_store]
  congr 2
  funext b
  by_cases hq : b = i.toNatClampNeg
  · subst hq
    simp [updV, upd, vp_nar]
    try rfl
  · simp [updV, upd, hq]
theorem g_lastore (hX : Xok G own y X) {q len : Nat} {i : Int32} {x : Int64} (hd : dc y.2.1 pc .lastore 1 nx) (hq : q < hn h) (hc : hs h q = (21, len)) (hin : vp_in i len)
    (kk : GG G d mc ms X P nx lo st I (wL h q i.toNatClampNeg x) k n) : GG G d mc ms X P pc lo (.long x :: .int i :: .ref q :: st) I h k n := by
  obtain ⟨p, l, e, s, m, args, below, meth, c⟩ := X
  obtain ⟨hexec, hb, hml, hown, hts, hKs, hGk, hlk, hrt, hnm⟩ := hX
  obtain ⟨hd, rfl⟩ := hd
  intro H locs ls hlv hW hS
  have hget : (wl G I h)[q]? = some (ga G q, .inl (gc G 21, len, .inr (.inl (hL h q)))) := by rw [wl_get hq, ent_long hc]
  refine W.last hexec hb (hW.1 q _ hget) ((hKs.1.2 1 _ (tys_at rfl)).1 len (fun j => .long (hL h q j))) (fun q => by cases q) (by show ¬ (i < 0 ∨ (arrV _ _ _).slots.size ≤ _); rw [arrV_size]; exact hin) rfl rfl hd fun H1 e1 z oq => ?_
  refine kk H1 _ ls hlv (wd_set (e := .inl (gc G 21, len, .inr (.inl (vp_updL (hL h q) i.toNatClampNeg x)))) (wl_set (h := h) (q := q) (h' := wL h q i.toNatClampNeg x) rfl (by rw [ent_long (h := wL h q i.toNatClampNeg x) hc, show hL (wL h q i.toNatClampNeg x) q = upL (hL h) q i.toNatClampNeg x q from rfl, upL_row]) (fun a ha => ent_congr rfl (by show upL (hL h) q i.toNatClampNeg x a = hL h a; exact upL_off ha) rfl rfl)) (hW.1.set (wl_D hGk I h) hget ?_ oq) z hW rfl) (hS.put z oq (hGk.2 q))
  show H1[ga G q]? = some (vp_cell _ _)
  rw [e1, vp_cell_l, vp_cell_l, arrV_store]
  congr 2
  funext b
  by_cases hq : b = i.toNatClampNeg
  · subst hq
    simp [updV, vp_updL]
  · simp [updV, vp_updL, hq]
theorem map_upR (G : Gt) (f : Nat → Nat → Option Nat) (q j : Nat) (x : Option Nat) : (fun b => (upR f q j x q b).map (ga G)) = va_up (fun b => (f q b).map (ga G)) j (x.map (ga G)) := by
  funext b
  by_cases hb : b = j
  · subst hb
    simp [upR, va_up]
  · simp [upR, va_up, hb]
theorem g_aastore0 (hX : Xok G own y X) {q t len i0 : Nat} {C : String} {i : Int32} (hd : dc y.2.1 pc .aastore 1 nx) (hq : q < hn h) (hc : hs h q = (t, len)) (ht : 24 ≤ t) (hty : tysL[i0]? = some (t, .object C)) (hin : vp_in i len)
    (kk : GG G d mc ms X P nx lo st I (wR h q i.toNatClampNeg none) k n) : GG G d mc ms X P pc lo (.null :: .int i :: .ref q :: st) I h k n := by
  obtain ⟨p, l, e, s, m, args, below, meth, c⟩ := X
  obtain ⟨hexec, hb, hml, hown, hts, hKs, hGk, hlk, hrt, hnm⟩ := hX
  obtain ⟨hd, rfl⟩ := hd
  intro H locs ls hlv hW hS
  have hget : (wl G I h)[q]? = some (ga G q, .inl (gc G t, len, .inr (.inr (.inr (.inr (fun j => (hR h q j).map (ga G))))))) := by rw [wl_get hq, ent_ref hc ht]
  refine va_WaastN (C := C) hexec hb (hW.1 q _ hget) ((hKs.1.2 i0 _ (tys_at hty)).1 len (fun j => va_rf ((hR h q j).map (ga G)))) (fun h => by cases h) (by show ¬ (i < 0 ∨ (arrV _ _ _).slots.size ≤ _); rw [arrV_size]; exact hin) rfl rfl hd fun H1 e1 z oq => ?_
  refine kk H1 _ ls hlv (wd_set (e := .inl (gc G t, len, .inr (.inr (.inr (.inr (va_up (fun j => (hR h q j).map (ga G)) i.toNatClampNeg none)))))) (wl_set (h := h) (q := q) (h' := wR h q i.toNatClampNeg none) rfl (by rw [ent_ref (h := wR h q i.toNatClampNeg none) hc ht, show hR (wR h q i.toNatClampNeg none) = upR (hR h) q i.toNatClampNeg none from rfl, map_upR]; rfl) (fun a ha => ent_congr rfl rfl (by show upR (hR h) q i.toNatClampNeg none a = hR h a; exact upR_off ha) rfl)) (hW.1.set (wl_D hGk I h) hget ?_ oq) z hW rfl) (hS.put z oq (hGk.2 q))
  show H1[ga G q]? = some (vp_cell _ _)
  rw [e1, vp_cell_q, vp_cell_q, arrV_store]
  congr 2
  funext b
  by_cases hq : b = i.toNatClampNeg
  · subst hq
    simp [updV, va_up, va_rf]
  · simp [updV, va_up, hq]
theorem g_aastore (hX : Xok G own y X) {q t len i0 v ci N : Nat} {C E : String} {T : u_T} {ty : Nat → FieldType} {i : Int32} (hd : dc y.2.1 pc .aastore 1 nx) (hq : q < hn h) (hc : hs h q = (t, len)) (ht : 24 ≤ t) (hty : tysL[i0]? = some (t, .object E)) (hin : vp_in i len)
    (hv : v < hn h) (hvc : (hs h v).1 = ci) (hC : CLS ci C T N ty) (hCE : C = E ∨ (C, E) ∈ castL)
    (kk : GG G d mc ms X P nx lo st I (wR h q i.toNatClampNeg (some v)) k n) : GG G d mc ms X P pc lo (.ref v :: .int i :: .ref q :: st) I h k n := by
  obtain ⟨p, l, e, s, m, args, below, meth, c⟩ := X
  obtain ⟨hexec, hb, hml, hown, hts, hKs, hGk, hlk, hrt, hnm⟩ := hX
  obtain ⟨hd, rfl⟩ := hd
  obtain ⟨c1, c2, c3, c4, c5, c6⟩ := hC
  intro H locs ls hlv hW hS
  have hget : (wl G I h)[q]? = some (ga G q, .inl (gc G t, len, .inr (.inr (.inr (.inr (fun j => (hR h q j).map (ga G))))))) := by rw [wl_get hq, ent_ref hc ht]
  have hgv : (wl G I h)[v]? = some (ga G v, .inr (ci, fvs G I h v ci)) := by rw [wl_get hv, ent_obj hvc c6]
  have hlt : i.toNatClampNeg < len := Nat.not_le.mp fun q => hin (Or.inr q)
  have h0 : ¬ i < 0 := fun q => hin (Or.inl q)
  obtain ⟨r', hr', cellV, g1, g2, g3, -⟩ := hW.1 v _ hgv
  have hcls := (hKs.1.1 ci _ c1).2
  obtain ⟨kA, comp, k1, k2, k3, -⟩ := (hKs.1.2 i0 _ (tys_at hty)).2
  obtain ⟨kE, hkE, -⟩ := Vm.findClass_spec k3
  obtain ⟨kC, hkC, -⟩ := hcls.2
  have hasg : s.vm.assignable cellV.cls comp = true := by
    rw [g2]
    rcases hCE with e | e
    · subst e
      have hcomp : comp = (gD G).1 ci := Option.some.inj (k3.symm.trans hcls.1)
      rw [hcomp]
      exact va_assign hcls
    · obtain ⟨c0, t1, f1, f2, f3⟩ := Cond.castable_spec (va_Nw.use (A := args) rfl (hKs.2.2.1 _ e))
      cases hcls.1.symm.trans f1
      cases k3.symm.trans f2
      exact f3
  refine W.aast hexec hb (hW.1 q _ hget) (fun q h => by cases h) (fun h => by cases h) k1 k2 rfl hkE ⟨h0, by show _ < (arrV _ _ _).slots.size; rw [arrV_size]; exact hlt⟩ g1 (fun q h => by rw [g3] at h; cases h) (by rw [g2]; exact hkC) hasg rfl rfl hd fun H1 e1 z oq => ?_
  refine kk H1 _ ls hlv (wd_set (e := .inl (gc G t, len, .inr (.inr (.inr (.inr (va_up (fun j => (hR h q j).map (ga G)) i.toNatClampNeg (some (ga G v)))))))) (wl_set (h := h) (q := q) (h' := wR h q i.toNatClampNeg (some v)) rfl (by rw [ent_ref (h := wR h q i.toNatClampNeg (some v)) hc ht, show hR (wR h q i.toNatClampNeg (some v)) = upR (hR h) q i.toNatClampNeg (some v) from rfl, map_upR]; rfl) (fun a ha => ent_congr rfl rfl (by show upR (hR h) q i.toNatClampNeg (some v) a = hR h a; exact upR_off ha) rfl)) (hW.1.set (wl_D hGk I h) hget ?_ oq) z hW rfl) (hS.put z oq (hGk.2 q))
  show H1[ga G q]? = some (vp_cell _ _)
  rw [e1, vp_cell_q, vp_cell_q, arrV_store]
  congr 2
  funext b
  by_cases hq : b = i.toNatClampNeg
  · subst hq
    simp [updV, va_up, va_rf]
  · simp [updV, va_up, hq]
/-! the ends -/
theorem wd_end {args : Array Value} {s : State} {H : Heap} {locs : List Loc} {v : Option Value} (hp : P v I h) (hW : Wd G I h H) (hS : va_S (gA G) s.heap H locs) : ∀ t : State, t.heap = H → s.WarmedH t.vm → QC G P args s (.returned (v.map (cv G))) t :=
  fun t ht _ => ⟨⟨v, I, h, rfl, hp, by rw [ht]; exact hW⟩, hS.F ht⟩
theorem g_ireturn (hX : Xok G own y X) {x : Int32} {ty : FieldType} (hd : dc y.2.1 pc .ireturn 1 nx) (hr : y.2.2.2 = some ty) (hnr : narrow ty (.int x) = .int x) (hk : k ≤ mc) (hn' : n ≤ ms) (hp : P (some (.int x)) I h) : GG G d mc ms X P pc lo [.int x] I h k n := by
  obtain ⟨p, l, e, s, m, args, below, meth, c⟩ := X
  obtain ⟨hexec, hb, hml, hown, hts, hKs, hGk, hlk, hrt, hnm⟩ := hX
  obtain ⟨hd, rfl⟩ := hd
  intro H locs ls hlv hW hS
  exact W.widen hk hn' (W.zret (v := x) hexec hb (hrt.trans hr) hnr (wd_end (v := some (.int x)) hp hW hS) hS.2.2 hd hlk)
theorem g_lreturn (hX : Xok G own y X) {x : Int64} (hd : dc y.2.1 pc .lreturn 1 nx) (hr : y.2.2.2 = some .long) (hk : k ≤ mc) (hn' : n ≤ ms) (hp : P (some (.long x)) I h) : GG G d mc ms X P pc lo [.long x] I h k n := by
  obtain ⟨p, l, e, s, m, args, below, meth, c⟩ := X
  obtain ⟨hexec, hb, hml, hown, hts, hKs, hGk, hlk, hrt, hnm⟩ := hX
  obtain ⟨hd, rfl⟩ := hd
  intro H locs ls hlv hW hS
  exact W.widen hk hn' (W.lret (v := x) hexec hb (hrt.trans hr) (wd_end (v := some (.long x)) hp hW hS) hS.2.2 hd hlk)
theorem g_return (hX : Xok G own y X) (hd : dc y.2.1 pc .return_ 1 nx) (hr : y.2.2.2 = none) (hk : k ≤ mc) (hn' : n ≤ ms) (hp : P none I h) : GG G d mc ms X P pc lo [] I h k n := by
  obtain ⟨p, l, e, s, m, args, below, meth, c⟩ := X
  obtain ⟨hexec, hb, hml, hown, hts, hKs, hGk, hlk, hrt, hnm⟩ := hX
  obtain ⟨hd, rfl⟩ := hd
  intro H locs ls hlv hW hS
  exact W.widen hk hn' (W.vret hexec hb (hrt.trans hr) (wd_end (v := none) hp hW hS) hS.2.2 hd hlk)
theorem g_areturn (hX : Xok G own y X) {r : Option Nat} {v : Value} {rt : FieldType} (hd : dc y.2.1 pc .areturn 1 nx) (hv : rv r = v) (hr : y.2.2.2 = some rt) (hrt' : (∃ n, rt = .object n) ∨ ∃ t, rt = .array t) (hk : k ≤ mc) (hn' : n ≤ ms) (hp : P (some (rv r)) I h) : GG G d mc ms X P pc lo [v] I h k n := by
  obtain ⟨p, l, e, s, m, args, below, meth, c⟩ := X
  obtain ⟨hexec, hb, hml, hown, hts, hKs, hGk, hlk, hrt, hnm⟩ := hX
  obtain ⟨hd, rfl⟩ := hd
  subst hv
  intro H locs ls hlv hW hS
  exact W.widen hk hn' (W.aret (v := cv G (rv r)) hexec hb (hrt.trans hr) hrt' (by cases r <;> simp [rv, cv]) (wd_end (v := some (rv r)) hp hW hS) hS.2.2 hd hlk)
/-! the beginning -/
theorem lv_args_mem : ∀ (vs : List Value) (i n : Nat), ∀ q ∈ lpr G i (loc0 vs n), q ∈ lv_args i (vs.map (cv G)) := by
  intro vs
  induction vs with
  | nil =>
    intro i n q hq
    exfalso
    obtain ⟨j, v, h1, -⟩ := (lpr_mem _ _ _).mp hq
    have h2 := List.mem_of_getElem? h1
    simp [loc0] at h2
  | cons v vs ih =>
    intro i n q hq
    have hcat : (cv G v).category = v.category := cv_cat G v
    by_cases hc : v.category = 2
    · simp only [loc0, hc, if_true] at hq
      rw [show lpr G i (some v :: none :: loc0 vs (n - 2)) = (i, cv G v) :: lpr G (i + 2) (loc0 vs (n - 2)) from rfl] at hq
      simp only [List.map_cons, lv_args, hcat, hc, if_true]
      rcases List.mem_cons.mp hq with h | h
      · exact List.mem_cons.mpr (Or.inl h)
      · exact List.mem_cons.mpr (Or.inr (ih (i + 2) (n - 2) q h))
    · simp only [loc0, hc, if_false] at hq
      rw [show lpr G i (some v :: loc0 vs (n - 1)) = (i, cv G v) :: lpr G (i + 1) (loc0 vs (n - 1)) from rfl] at hq
      simp only [List.map_cons, lv_args, hcat, hc, if_false]
      rcases List.mem_cons.mp hq with h | h
      · exact List.mem_cons.mpr (Or.inl h)
      · exact List.mem_cons.mpr (Or.inr (ih (i + 1) (n - 1) q h))
theorem lg_sl_cv (G : Gt) (vs : List Value) : (lg_sl (vs.map (cv G))).length = (lg_sl vs).length := by
  induction vs with
  | nil => rfl
  | cons v vs ih =>
    simp only [lg_sl, List.map_cons, List.flatMap_cons, List.length_append] at ih ⊢
    rw [ih, cv_cat]
    split <;> rfl
theorem con_intro {av : List Value} {lo0 : List (Option Value)} (hG : Gok G) (hown : y.1.cls = own) (hpl : plainName y.1.cls = true) (hlen : (lg_sl av).length ≤ y.2.2.1) (hlo : loc0 av y.2.2.1 = lo0)
    (body : ∀ X, Xok G own y X → GG G d mc ms X P 0 lo0 [] I h 0 0) : Con G d mc ms y av I h P := by
  intro l
  refine Met.ofW (cc := y.2.1) (maxL := y.2.2.1) (ret := y.2.2.2) hpl rfl ?_
  intro p e s m args below meth c s₁ B hml hv
  obtain ⟨rfl, hW, hKs⟩ := hv
  have hts := atoms_spec (ws := ws y) B.pre
  have hX : Xok G own y (p, l, e, s, m, (av.map (cv G)).toArray, below, meth, c) :=
    ⟨B.exec, B.bytes, hml, by rw [← hown]; exact findClass_of_methodNamed B.named, fun w hw => hts w (List.mem_cons_of_mem _ hw), hKs, hG, B.notSynchronized, B.returns, (name_of_methodNamed B.named B.method).1⟩
  have hg := body _ hX
  rw [lg_entry_eq]
  exact hg s.heap [] _ (by rw [hml]; exact lv_fewer (lv_entry (av.map (cv G)) (n := y.2.2.1) (by rw [lg_sl_cv]; exact hlen)) (by subst hlo; exact lv_args_mem av 0 _)) hW va_S.rf
end HR
end
section
/-! calls: a site is a place of a method's code that calls y'; ci: the class that the receiver must have (none: any, or no receiver) -/
def Site (own : String) (y : Mt) (pc nx : Nat) (y' : Mt) (ci : Option Nat) (na : Nat) : Prop :=
  ∀ (G : Gt) (d mc ms : Nat) (X : Xt) (P : Pt3) (lo : List (Option Value)) (rest : List Value) (I : It) (h : Ht) (k n d' mc' ms' : Nat) (av : List Value) (Q : Pt3),
    Xok G own y X → d' + 1 ≤ d → k + mc' ≤ mc → n + ms' ≤ ms → (rest.map fun v => v.category).sum ≤ 8 → av.length = na →
    (∀ c, ci = some c → ∃ b As, av = .ref b :: As ∧ b < hn h ∧ (hs h b).1 = c) → Con G d' mc' ms' y' av I h Q →
    (∀ r I' h', Q r I' h' → GG G d mc ms X P nx lo (r.toList ++ rest) I' h' (k + mc') (n + ms')) → GG G d mc ms X P pc lo (av.reverse ++ rest) I h k n
theorem tg_goodIn {l : List Cond} (h : ∀ w ∈ l, w ∈ TG) : GoodIn TG l := fun w hw => ⟨h w hw, good_of_word (tg_good (h w hw))⟩
theorem tg_ws {y : Mt} (h : Cond.code y.1 y.2.1 y.2.2.1 y.2.2.2 ∈ TG) : GoodIn TG (ws y) := tg_goodIn fun w hw => by
  rcases List.mem_cons.mp hw with e | e
  · rw [e]; exact h
  · exact e
theorem tg_app {l : List Cond} {y : Mt} (hl : ∀ w ∈ l, w ∈ TG) (h : Cond.code y.1 y.2.1 y.2.2.1 y.2.2.2 ∈ TG) : GoodIn TG (l ++ ws y) := tg_goodIn fun w hw => by
  rcases List.mem_append.mp hw with e | e
  · exact hl w e
  · exact (tg_ws h w e).1
theorem pc_blind {G : Gt} {I : It} {h : Ht} {av : List Value} : FrameBlind (va_Pc (av.map (cv G)) (fun U => Wd G I h U.heap ∧ Ks G U)) :=
  fun _ U g mk hp => ⟨hp.1, hp.2.1, Ks.same (u := U) (U := U.calling g mk _) rfl hp.2.2⟩
section CR
variable {G : Gt} {d mc ms : Nat} {own : String} {y : Mt} {P : Pt3} {pc nx : Nat} {lo : List (Option Value)} {I : It} {h : Ht} {k n : Nat}
variable {p : Program} {l : Launch} {e : Env} {s : State} {m : MethodId} {args : Array Value} {below : List Frame} {meth : Method} {c : Code} {H : Heap} {locs : List Loc} {ls : Array Slot}
theorem run_core {mc' ms' : Nat} {st0 rest : List Value} {Q : Pt3} {a : Array Value} (hlv : lv_has ls c.maxLocals (lpr G 0 lo)) (hS : va_S (gA G) s.heap H locs)
    (hr : va_Run p l e (rmd d mc ms) s m args below meth c H locs k n mc' ms' (F0 m pc ls st0) (rest.map (cv G)) (QC G Q a) (gA G))
    (kk : ∀ r I' h', Q r I' h' → GG G d mc ms (p, l, e, s, m, args, below, meth, c) P (pc + 3) lo (r.toList ++ rest) I' h' (k + mc') (n + ms')) :
    W p l e (rmd d mc ms) s m args below meth c H locs k n (MQ below (QC G P) args s mc ms (gA G)) (F0 m pc ls st0) := by
  intro T hT Xs
  obtain ⟨v, st₀, t, T', L, h0, X', hL, e1, e2, ⟨⟨r, I', h', hv, hp, hw⟩, hz, hk⟩, st⟩ := hr T hT Xs
  cases hv
  rw [h0] at hz hk
  obtain ⟨t2, a1, b1⟩ := kk r I' h' hp T'.heap (locs ++ L) ls hlv (by rw [e1]; exact hw)
    ⟨Nat.le_trans hS.1 (by rw [e1]; exact hz), fun q h1 h2 => by rw [e1, hk q (Nat.lt_of_lt_of_le h1 hS.1) h2]; exact hS.2.1 q h1 h2, fun q hq => by
      rcases List.mem_append.mp hq with h | h
      · exact hS.2.2 q h
      · exact hL q h⟩ T' rfl X'
  refine ⟨t2, st t2 ?_, b1⟩
  cases r <;> exact a1
theorem rcv_of (hK : va_K (gD G) vwCl (tysG G) s) (hW : Wd G I h H) {ci N b : Nat} {C : String} {T : u_T} {ty : Nat → FieldType} (hC : CLS ci C T N ty) (hb : b < hn h) (hc : (hs h b).1 = ci) :
    ∃ cell : Cell, H[ga G b]? = some cell ∧ cell.vm.isStatics = false ∧ s.vm.findClass C = some cell.cls :=
  va_recv hK hW.1 hC.1 (by rw [wl_get hb, ent_obj hc hC.2.2.2.2.2])
end CR
def prms (y : MethodName) (n : Nat) : Prop := y.cls ≠ "java/lang/invoke/MethodHandle" ∧ y.cls ≠ "java/lang/invoke/VarHandle" ∧ (parseMethodDescriptor y.desc).map (fun d => d.parameters.length) = some n
theorem prms_len {y : MethodName} {n : Nat} (h : prms y n) : ∀ sig, parseMethodDescriptor y.desc = some sig → n = sig.parameters.length := fun sig hs => by
  have h2 := h.2.2
  rw [hs] at h2
  exact (Option.some.inj h2).symm
theorem rm_ok {d d' mc ms mc' ms' maxL : Nat} (hd : d' + 1 ≤ d) (hm : maxL ≤ 41) : (rmd d' mc' ms').frames + 1 ≤ (rmd d mc ms).frames ∧ 8 + (maxL + 11) + (rmd d' mc' ms').locals ≤ (rmd d mc ms).locals := by
  refine ⟨hd, ?_⟩
  show 8 + (maxL + 11) + 60 * d' ≤ 60 * d
  omega
theorem site_S {own : String} {y : Mt} {pc nx idx na : Nat} {y' : Mt} (hd : dc y.2.1 pc (.invokestatic idx) 3 nx) (h1 : Cond.methodLink own idx y'.1 ∈ TG) (h2 : Cond.static y'.1 ∈ TG) (h3 : Cond.initialized y'.1.cls ∈ TG) (h4 : Cond.code y'.1 y'.2.1 y'.2.2.1 y'.2.2.2 ∈ TG) (h5 : prms y'.1 na) (h6 : y'.2.2.1 ≤ 41) : Site own y pc nx y' none na := by
  intro G d mc ms X P lo rest I h k n d' mc' ms' av Q hX hdd hk hn' hst hlen hrc hC kk
  obtain ⟨p, l, e, s, m, args, below, meth, c⟩ := X
  obtain ⟨hexec, hb, hml, hown, hts, hKs, hGk, hlk, hrt, hnm⟩ := hX
  obtain ⟨hd, rfl⟩ := hd
  intro H locs ls hlv hW hS
  refine run_core hlv hS (va_runS (As := av.map (cv G)) (nL := y.2.2.1) (Ts := TG) ⟨hexec, hb, hml, hown, hts⟩ (hC l) ⟨callB_of na hts (tg_ws h4) rfl rfl rfl (hts _ h3) (hts _ h1) h5 (rm_ok hdd h6), hts _ h2⟩ ⟨pc_blind, fun U hU hWm => ⟨rfl, by rw [hU]; exact hW, hKs.moved hWm⟩⟩ rfl (by rw [List.length_map]; exact hlen) (hlv.1.trans hml) (by simp) (lv_room (by simp only [List.map_map, Function.comp_def, cv_cat]; exact hst)) hd ⟨hk, hn'⟩) kk
theorem site_V {own : String} {y : Mt} {pc nx idx na ci N : Nat} {y' : Mt} {T : u_T} {ty : Nat → FieldType} (hd : dc y.2.1 pc (.invokevirtual idx) 3 nx) (hCls : CLS ci y'.1.cls T N ty) (h1 : Cond.methodLink own idx y'.1 ∈ TG) (h2 : Cond.instanceMethod y'.1 ∈ TG) (h2s : Cond.selects y'.1.cls y'.1 y'.1 ∈ TG) (h3 : Cond.initialized y'.1.cls ∈ TG) (h4 : Cond.code y'.1 y'.2.1 y'.2.2.1 y'.2.2.2 ∈ TG) (h5 : prms y'.1 na) (h6 : y'.2.2.1 ≤ 41) : Site own y pc nx y' (some ci) (na + 1) := by
  intro G d mc ms X P lo rest I h k n d' mc' ms' av Q hX hdd hk hn' hst hlen hrc hC kk
  obtain ⟨p, l, e, s, m, args, below, meth, c⟩ := X
  obtain ⟨hexec, hb, hml, hown, hts, hKs, hGk, hlk, hrt, hnm⟩ := hX
  obtain ⟨hd, rfl⟩ := hd
  obtain ⟨b, As, rfl, hbn, hbc⟩ := hrc ci rfl
  intro H locs ls hlv hW hS
  have hlen' : As.length = na := by simpa using hlen
  refine run_core hlv hS (va_runV (C := y'.1.cls) (b := ga G b) (As := As.map (cv G)) (nL := y.2.2.1) (Ts := TG) ⟨hexec, hb, hml, hown, hts⟩ (hC l) ⟨callB_of na hts (tg_ws h4) rfl rfl rfl (hts _ h3) (hts _ h1) h5 (rm_ok hdd h6), hts _ h2, hts _ h2s⟩ ⟨pc_blind, rcv_of hKs.1 hW hCls hbn hbc, fun U hU hWm => ⟨rfl, by rw [hU]; exact hW, hKs.moved hWm⟩⟩ rfl (by rw [List.length_map]; exact hlen') (hlv.1.trans hml) (by simp [cv]) (lv_room (by simp only [List.map_map, Function.comp_def, cv_cat]; exact hst)) hd ⟨hk, hn'⟩) kk
theorem site_I {own : String} {y : Mt} {pc nx idx na : Nat} {y' : Mt} (hd : dc y.2.1 pc (.invokespecial idx) 3 nx) (hi : y'.1.name = "<init>") (hre : y'.2.2.2 = none) (h1 : Cond.methodLink own idx y'.1 ∈ TG) (h2 : Cond.instanceMethod y'.1 ∈ TG) (h3 : Cond.initialized y'.1.cls ∈ TG) (h4 : Cond.code y'.1 y'.2.1 y'.2.2.1 y'.2.2.2 ∈ TG) (h5 : prms y'.1 na) (h6 : y'.2.2.1 ≤ 41) {ci : Nat} : Site own y pc nx y' (some ci) (na + 1) := by
  intro G d mc ms X P lo rest I h k n d' mc' ms' av Q hX hdd hk hn' hst hlen hrc hC kk
  obtain ⟨p, l, e, s, m, args, below, meth, c⟩ := X
  obtain ⟨hexec, hb, hml, hown, hts, hKs, hGk, hlk, hrt, hnm⟩ := hX
  obtain ⟨hd, rfl⟩ := hd
  obtain ⟨b, As, rfl, hbn, hbc⟩ := hrc ci rfl
  intro H locs ls hlv hW hS
  have hlen' : As.length = na := by simpa using hlen
  refine run_core hlv hS (va_runI (bytes := y'.2.1) (maxL := y'.2.2.1) (b := ga G b) (As := As.map (cv G)) (nL := y.2.2.1) (Ts := TG) ⟨hexec, hb, hml, hown, hts⟩ (hC l) ⟨callB_of (ws' := TG) na hts (tg_ws h4) (by rw [← hre]; rfl) rfl rfl (hts _ h3) (hts _ h1) h5 (rm_ok hdd h6), hi, hts _ h2⟩ ⟨pc_blind, fun U hU hWm => ⟨rfl, by rw [hU]; exact hW, hKs.moved hWm⟩⟩ rfl (by rw [List.length_map]; exact hlen') (hlv.1.trans hml) (by simp [cv]) (lv_room (by simp only [List.map_map, Function.comp_def, cv_cat]; exact hst)) hd ⟨hk, hn'⟩) kk
theorem site_IN {own host : String} {y : Mt} {pc nx idx na : Nat} {y' : Mt} (hd : dc y.2.1 pc (.invokespecial idx) 3 nx) (hi : y'.1.name = "<init>") (hre : y'.2.2.2 = none) (h1 : (own, idx, y'.1, host) ∈ nestL) (h2 : Cond.instanceMethod y'.1 ∈ TG) (h3 : Cond.initialized y'.1.cls ∈ TG) (h4 : Cond.code y'.1 y'.2.1 y'.2.2.1 y'.2.2.2 ∈ TG) (h5 : prms y'.1 na) (h6 : y'.2.2.1 ≤ 41) {ci : Nat} : Site own y pc nx y' (some ci) (na + 1) := by
  intro G d mc ms X P lo rest I h k n d' mc' ms' av Q hX hdd hk hn' hst hlen hrc hC kk
  obtain ⟨p, l, e, s, m, args, below, meth, c⟩ := X
  obtain ⟨hexec, hb, hml, hown, hts, hKs, hGk, hlk, hrt, hnm⟩ := hX
  obtain ⟨hd, rfl⟩ := hd
  obtain ⟨b, As, rfl, hbn, hbc⟩ := hrc ci rfl
  intro H locs ls hlv hW hS
  have hlen' : As.length = na := by simpa using hlen
  refine run_core hlv hS (va_runIN (host := host) (bytes := y'.2.1) (maxL := y'.2.2.1) (b := ga G b) (As := As.map (cv G)) (nL := y.2.2.1) (Ts := TG) ⟨hexec, hb, hml, hown, hts⟩ (hC l) ⟨va_cnB (ws' := TG) na hts (tg_ws h4) (by rw [← hre]; rfl) rfl rfl (hKs.2.1 _ h1) (hts _ h3) h5 (rm_ok hdd h6), hi, hts _ h2⟩ ⟨pc_blind, fun U hU hWm => ⟨rfl, by rw [hU]; exact hW, hKs.moved hWm⟩⟩ rfl (by rw [List.length_map]; exact hlen') (hlv.1.trans hml) (by simp [cv]) (lv_room (by simp only [List.map_map, Function.comp_def, cv_cat]; exact hst)) hd ⟨hk, hn'⟩) kk
theorem site_SN {own host : String} {y : Mt} {pc nx idx na : Nat} {y' : Mt} (hd : dc y.2.1 pc (.invokestatic idx) 3 nx) (h1 : (own, idx, y'.1, host) ∈ nestL) (h2 : Cond.static y'.1 ∈ TG) (h3 : Cond.initialized y'.1.cls ∈ TG) (h4 : Cond.code y'.1 y'.2.1 y'.2.2.1 y'.2.2.2 ∈ TG) (h5 : prms y'.1 na) (h6 : y'.2.2.1 ≤ 41) : Site own y pc nx y' none na := by
  intro G d mc ms X P lo rest I h k n d' mc' ms' av Q hX hdd hk hn' hst hlen hrc hC kk
  obtain ⟨p, l, e, s, m, args, below, meth, c⟩ := X
  obtain ⟨hexec, hb, hml, hown, hts, hKs, hGk, hlk, hrt, hnm⟩ := hX
  obtain ⟨hd, rfl⟩ := hd
  intro H locs ls hlv hW hS
  refine run_core hlv hS (va_runSN (host := host) (As := av.map (cv G)) (nL := y.2.2.1) (Ts := TG) ⟨hexec, hb, hml, hown, hts⟩ (hC l) ⟨va_cnB na hts (tg_ws h4) rfl rfl rfl (hKs.2.1 _ h1) (hts _ h3) h5 (rm_ok hdd h6), hts _ h2, trivial⟩ ⟨pc_blind, fun U hU hWm => ⟨rfl, by rw [hU]; exact hW, hKs.moved hWm⟩⟩ rfl (by rw [List.length_map]; exact hlen) (hlv.1.trans hml) (by simp) (lv_room (by simp only [List.map_map, Function.comp_def, cv_cat]; exact hst)) hd ⟨hk, hn'⟩) kk
/-- a virtual call by x, found in owner; an object of class C runs y' -/
theorem site_U {own owner C : String} {x : MethodName} {y : Mt} {pc nx idx na ci N m0 : Nat} {b0 : ByteArray} {r0 : Option FieldType} {y' : Mt} {T : u_T} {ty : Nat → FieldType} (hd : dc y.2.1 pc (.invokevirtual idx) 3 nx) (hCls : CLS ci C T N ty) (h1 : Cond.methodLink own idx x ∈ TG) (h1s : Cond.sameMethod x.cls owner x.name x.desc ∈ TG) (h2o : Cond.instanceMethod ⟨owner, x.name, x.desc⟩ ∈ TG) (h0 : Cond.code ⟨owner, x.name, x.desc⟩ b0 m0 r0 ∈ TG) (h2 : Cond.instanceMethod y'.1 ∈ TG) (h2s : Cond.selects C x y'.1 ∈ TG) (h3 : Cond.initialized y'.1.cls ∈ TG) (h4 : Cond.code y'.1 y'.2.1 y'.2.2.1 y'.2.2.2 ∈ TG) (h5 : owner ≠ "java/lang/invoke/MethodHandle" ∧ owner ≠ "java/lang/invoke/VarHandle" ∧ (parseMethodDescriptor x.desc).map (fun d => d.parameters.length) = some na) (h6 : y'.2.2.1 ≤ 41) : Site own y pc nx y' (some ci) (na + 1) := by
  intro G d mc ms X P lo rest I h k n d' mc' ms' av Q hX hdd hk hn' hst hlen hrc hC kk
  obtain ⟨p, l, e, s, m, args, below, meth, c⟩ := X
  obtain ⟨hexec, hb, hml, hown, hts, hKs, hGk, hlk, hrt, hnm⟩ := hX
  obtain ⟨hd, rfl⟩ := hd
  obtain ⟨b, As, rfl, hbn, hbc⟩ := hrc ci rfl
  intro H locs ls hlv hW hS
  have hlen' : As.length = na := by simpa using hlen
  have hG : GoodIn TG (va_wsO own idx C owner x y'.1 (ws y')) := tg_app (by
    intro w hw
    simp only [List.mem_cons, List.not_mem_nil, or_false] at hw
    rcases hw with rfl | rfl | rfl | rfl | rfl | rfl <;> assumption) h4
  refine run_core hlv hS (va_runU (C := C) (b := ga G b) (As := As.map (cv G)) (nL := y.2.2.1) (Ts := TG) ⟨hexec, hb, hml, hown, hts⟩ (hC l) (va_cwO na hts hG rfl rfl rfl h0 h5 (rm_ok hdd h6)) ⟨pc_blind, rcv_of hKs.1 hW hCls hbn hbc, fun U hU hWm => ⟨rfl, by rw [hU]; exact hW, hKs.moved hWm⟩⟩ rfl (by rw [List.length_map]; exact hlen') (hlv.1.trans hml) (by simp [cv]) (lv_room (by simp only [List.map_map, Function.comp_def, cv_cat]; exact hst)) hd ⟨hk, hn'⟩) kk
/-- super.x(..), found in y'.cls, the direct superclass x.cls itself or one above -/
theorem site_SU {own C : String} {x : MethodName} {y : Mt} {pc nx idx na ci N : Nat} {y' : Mt} {T : u_T} {ty : Nat → FieldType} (hd : dc y.2.1 pc (.invokespecial idx) 3 nx) (hCls : CLS ci C T N ty) (hy : y'.1.name = x.name ∧ y'.1.desc = x.desc) (h1 : Cond.methodLink own idx x ∈ TG) (h1s : Cond.sameMethod x.cls y'.1.cls x.name x.desc ∈ TG) (hsup : Cond.superclass own x.cls ∈ TG) (hup : x.cls = y'.1.cls ∨ Cond.superclass x.cls y'.1.cls ∈ TG) (h2 : Cond.instanceMethod y'.1 ∈ TG) (h3 : Cond.initialized y'.1.cls ∈ TG) (h4 : Cond.code y'.1 y'.2.1 y'.2.2.1 y'.2.2.2 ∈ TG) (hno : x.name ≠ "<init>") (h5 : (parseMethodDescriptor y'.1.desc).map (fun d => d.parameters.length) = some na) (h6 : y'.2.2.1 ≤ 41) : Site own y pc nx y' (some ci) (na + 1) := by
  intro G d mc ms X P lo rest I h k n d' mc' ms' av Q hX hdd hk hn' hst hlen hrc hC kk
  obtain ⟨p, l, e, s, m, args, below, meth, c⟩ := X
  obtain ⟨hexec, hb, hml, hown, hts, hKs, hGk, hlk, hrt, hnm⟩ := hX
  obtain ⟨hd, rfl⟩ := hd
  obtain ⟨b, As, rfl, hbn, hbc⟩ := hrc ci rfl
  intro H locs ls hlv hW hS
  have hlen' : As.length = na := by simpa using hlen
  obtain ⟨cellB, hcB, hoB, hclB⟩ := rcv_of hKs.1 hW hCls hbn hbc
  obtain ⟨-, kB, hkB, -⟩ := (hKs.1.1 ci _ hCls.1).2
  have hfc := (hKs.1.1 ci _ hCls.1).2.1
  have hcc : cellB.cls = (gD G).1 ci := (Option.some.inj (hfc.symm.trans hclB)).symm
  have hkB2 : s.vm.classes[cellB.cls]? = some kB := by rw [hcc]; exact hkB
  have hK : Back l (rmd d mc ms) p e below s args y'.1 3 8 (PreOf (rmd d mc ms) mc' ms' (va_Pc ((Value.ref b :: As).map (cv G)) (fun U => Wd G I h U.heap ∧ Ks G U))) (PostOf (QC G Q) mc' ms' (gA G)) :=
    back_of (bytes := y'.2.1) (maxL := y'.2.2.1) (ret := y'.2.2.2) (hC l) pc_blind rfl rfl (rm_ok (mc := mc) (ms := ms) (mc' := mc') (ms' := ms') hdd h6).1 (rm_ok (mc := mc) (ms := ms) (mc' := mc') (ms' := ms') hdd h6).2 (pay_in hts (tg_ws h4)) List.mem_cons_self (fun a' U hW => word_at hW (Or.inl (by first | rfl | simp [Cond.onTables, Cond.keeps, Cond.steady])) (hts _ h3))
  refine run_core hlv hS (st0 := ((Value.ref b :: As).reverse ++ rest).map (cv G)) (a := (Value.ref (ga G b) :: As.map (cv G)).toArray) ?_ kk
  intro T hT Xs
  obtain ⟨mk, methM, hnamed, hmethM, hstM, habM⟩ := Cond.instanceMethod_spec (hts _ h2)
  obtain ⟨methM', cM, hmethM', -, -, -, -, -, -, hsigM⟩ := Cond.code_spec hnamed (hts _ h4)
  cases hmethM.symm.trans hmethM'
  obtain ⟨ps, dk, kp, hps, hdk, hkp, hsuper, -, -, hnid⟩ := Cond.superclass_spec hown (hts _ hsup)
  have hyx : (⟨y'.1.cls, x.name, x.desc⟩ : MethodName) = y'.1 := by rw [← hy.1, ← hy.2]
  have hn2 : s.methodNamed? ⟨y'.1.cls, x.name, x.desc⟩ = some mk := by rw [hyx]; exact hnamed
  have hmcls := findClass_of_methodNamed hnamed
  have hsub : s.vm.isSubclass ps mk.cls = true := by
    rcases hup with e | e
    · rw [e] at hps
      have hpm : ps = mk.cls := Option.some.inj (hps.symm.trans hmcls)
      rw [hpm]; simp [Vm.isSubclass, Vm.isSubclassAux]
    · obtain ⟨pz, kz, kpz, hz1, hz2, hz3, hz4, -⟩ := Cond.superclass_spec hps (hts _ e)
      have hpm : pz = mk.cls := Option.some.inj (hz1.symm.trans hmcls)
      subst hpm
      have hsz : ps < s.vm.classes.size := (Array.getElem?_eq_some_iff.mp hz2).1
      obtain ⟨z, hz⟩ : ∃ z, s.vm.classes.size = z + 1 := ⟨_, (Nat.succ_pred_eq_of_pos (Nat.zero_lt_of_lt hsz)).symm⟩
      unfold Vm.isSubclass
      rw [hz]
      simp [Vm.isSubclassAux, hz2, hz4]
  obtain ⟨vm₁, X₁, hstep₁⟩ := Xs.invokespecialUp hexec hown (hts _ h1) (hts _ h1s) hn2 hmethM hstM habM hno hdk hnid hps hsuper hsub (a := ga G b) (cell := cellB) (by rw [hT]; exact hcB)
    (fun z h => by rw [h] at hoB; cases hoB) hkB2 (g := F0 m pc ls (((Value.ref b :: As).reverse ++ rest).map (cv G))) rfl (argsL := As.map (cv G)) (rest := rest.map (cv G)) (by rw [List.length_map, hlen']; have h2 := h5; rw [hsigM] at h2; exact (Option.some.inj h2).symm) (by simp [cv]) (by rw [hb]; exact hd)
  obtain ⟨v, ⟨U', l2, c2, s2⟩, X', ⟨g', mk2, t, L, e1, e2, hq, g1, hL, g2, g3⟩, hsteps⟩ := hK m meth c ⟨T.setVm vm₁, locs, k, n⟩ { F0 m pc ls (((Value.ref b :: As).reverse ++ rest).map (cv G)) with stack := rest.map (cv G) } (.invokespecial idx) mk (Value.ref (ga G b) :: As.map (cv G)).toArray X₁ rfl hlv.1 (by rw [hb]; exact hd) (lv_room (m := m) (pc := pc) (ls := ls) (rest := rest.map (cv G)) (by simp only [List.map_map, Function.comp_def, cv_cat]; exact hst)) (X₁.named hnamed) ⟨hk, hn', rfl, by show Wd G I h T.heap; rw [hT]; exact hW, hKs.moved X₁.warmed⟩
  dsimp only [Pt.U, Pt.locs, Pt.cells, Pt.slots] at X' e1 e2 g1 g2 g3 hsteps
  subst g1; subst g2; subst g3
  exact ⟨v, (T.setVm vm₁).calling g' mk2 (Value.ref (ga G b) :: As.map (cv G)).toArray, t, U', L, hT, X', hL, e1, e2, hq, fun target h => hstep₁ _ (by rw [doInvoke_state]; exact hsteps.trans h)⟩
end
section
/-! switches: the cases one behind another -/
def swk (cases : List (Int32 × Nat)) (dflt : Nat) (x : Int32) (K : Nat → Prop) : Prop := match cases with
  | [] => K dflt
  | q :: r => (x = q.1 → K q.2) ∧ (¬ x = q.1 → swk r dflt x K)
theorem swk_use : ∀ (cs : List (Int32 × Nat)) (dflt : Nat) (x : Int32) (K : Nat → Prop), swk cs dflt x K → (∃ (i : Nat) (q : Int32 × Nat), cs[i]? = some q ∧ x = q.1 ∧ K q.2 ∧ ∀ j, j < i → ∀ q', cs[j]? = some q' → x ≠ q'.1) ∨ ((∀ q ∈ cs, x ≠ q.1) ∧ K dflt) := by
  intro cs
  induction cs with
  | nil => intro d x K h; exact Or.inr ⟨fun q hq => (by cases hq), h⟩
  | cons a r ih =>
    intro d x K h
    obtain ⟨h1, h2⟩ := h
    by_cases hx : x = a.1
    · exact Or.inl ⟨0, a, rfl, hx, h1 hx, fun j hj => absurd hj (Nat.not_lt_zero j)⟩
    · rcases ih d x K (h2 hx) with ⟨i, q, g1, g2, g3, g4⟩ | ⟨g1, g2⟩
      · refine Or.inl ⟨i + 1, q, by simpa using g1, g2, g3, fun j hj q' hq' => ?_⟩
        cases j with
        | zero =>
          simp at hq'
          subst hq'
          exact hx
        | succ j => exact g4 j (by omega) q' (by simpa using hq')
      · exact Or.inr ⟨fun q hq => by
          rcases List.mem_cons.mp hq with e | e
          · rw [e]; exact hx
          · exact g1 q e, g2⟩
def tsOk (pc : Nat) (lo hi dflt : Int) (offs : Array Int) (cs : List (Int32 × Nat)) (dt : Nat) : Bool :=
  decide ((pc : Int) + dflt = (dt : Int)) && decide (hi = lo + (cs.length : Int) - 1) && (List.range cs.length).all fun i => match cs[i]?, offs[i]? with
    | some q, some o => decide ((pc : Int) + o = (q.2 : Int)) && decide (q.1.toInt = lo + (i : Int))
    | _, _ => false
def lsOk (pc : Nat) (dflt : Int) (ps : List (Int × Int)) (cs : List (Int32 × Nat)) (dt : Nat) : Bool := match ps, cs with
  | [], [] => decide ((pc : Int) + dflt = (dt : Int))
  | p :: ps, c :: cs => decide (c.1.toInt = p.1) && decide ((pc : Int) + p.2 = (c.2 : Int)) && lsOk pc dflt ps cs dt
  | _, _ => false
theorem lsOk_use : ∀ (ps : List (Int × Int)) (cs : List (Int32 × Nat)) (pc : Nat) (dflt : Int) (dt : Nat) (x : Int32) (K : Nat → Prop), lsOk pc dflt ps cs dt = true → swk cs dt x K → ∃ t : Nat, K t ∧ (pc : Int) + Op.lookupswitch.offset ps dflt x.toInt = (t : Int) := by
  intro ps
  induction ps with
  | nil =>
    intro cs pc d dt x K h hk
    cases cs with
    | nil => exact ⟨dt, hk, of_decide_eq_true h⟩
    | cons c cs => simp [lsOk] at h
  | cons p ps ih =>
    intro cs pc d dt x K h hk
    cases cs with
    | nil => simp [lsOk] at h
    | cons c cs =>
      simp only [lsOk, Bool.and_eq_true, decide_eq_true_eq] at h
      obtain ⟨⟨h1, h2⟩, h3⟩ := h
      obtain ⟨k1, k2⟩ := hk
      obtain ⟨pa, po⟩ := p
      rw [Op.lookupswitch.offset_cons]
      by_cases hx : x = c.1
      · refine ⟨c.2, k1 hx, ?_⟩
        rw [if_pos (by rw [hx, h1])]
        exact h2
      · rw [if_neg (fun e => hx (Int32.toInt_inj.mp (by first | (rw [e, h1]) | (rw [← e, h1]))))]
        exact ih cs pc d dt x K h3 (k2 hx)
section SW
variable {G : Gt} {d mc ms : Nat} {own : String} {y : Mt} {X : Xt} {P : Pt3} {pc nx : Nat} {lo : List (Option Value)} {st : List Value} {I : It} {h : Ht} {k n : Nat}
theorem g_tswitch (hX : Xok G own y X) {x : Int32} {dflt a b : Int} {offs : Array Int} {len dt : Nat} (cs : List (Int32 × Nat)) (hd : dc y.2.1 pc (.tableswitch dflt a b offs) len nx) (ho : tsOk pc a b dflt offs cs dt = true)
    (kk : swk cs dt x (fun t => GG G d mc ms X P t lo st I h k n)) : GG G d mc ms X P pc lo (.int x :: st) I h k n := by
  obtain ⟨p, l, e, s, m, args, below, meth, c⟩ := X
  obtain ⟨hexec, hb, hml, hown, hts, hKs, hGk, hlk, hrt, hnm⟩ := hX
  obtain ⟨hd, rfl⟩ := hd
  simp only [tsOk, Bool.and_eq_true, decide_eq_true_eq, List.all_eq_true, List.mem_range] at ho
  obtain ⟨⟨h1, h2⟩, h3⟩ := ho
  intro H locs ls hlv hW hS
  rcases swk_use cs dt x _ kk with ⟨i, q, g1, g2, g3, -⟩ | ⟨g1, g2⟩
  · have hi : i < cs.length := (List.getElem?_eq_some_iff.mp g1).1
    have h4 := h3 i hi
    rw [g1] at h4
    cases ho : offs[i]? with
    | none => rw [ho] at h4; simp at h4
    | some o =>
      rw [ho] at h4
      simp only [Bool.and_eq_true, decide_eq_true_eq] at h4
      have hx : x.toInt = a + (i : Int) := by rw [g2]; exact h4.2
      exact lv_tableIn hexec hb hd (by omega) (by omega) (by rw [hx, show (a + (i : Int) - a).toNat = i by omega]; exact ho) h4.1 (g3 H locs ls hlv hW hS)
  · refine lv_tableOut hexec hb hd ?_ h1 (g2 H locs ls hlv hW hS)
    by_cases hr : x.toInt < a ∨ b < x.toInt
    · exact hr
    · exfalso
      obtain ⟨i, hi⟩ : ∃ i : Nat, x.toInt = a + (i : Int) := ⟨(x.toInt - a).toNat, by omega⟩
      have hil : i < cs.length := by omega
      have h4 := h3 i hil
      rw [List.getElem?_eq_getElem hil] at h4
      cases ho : offs[i]? with
      | none => rw [ho] at h4; simp at h4
      | some o =>
        rw [ho] at h4
        simp only [Bool.and_eq_true, decide_eq_true_eq] at h4
        exact g1 _ (List.getElem_mem hil) (Int32.toInt_inj.mp (by rw [hi, h4.2]))
theorem g_lswitch (hX : Xok G own y X) {x : Int32} {dflt : Int} {ps : Array (Int × Int)} {len dt : Nat} (cs : List (Int32 × Nat)) (hd : dc y.2.1 pc (.lookupswitch dflt ps) len nx) (hp : (ps.toList.zip (ps.toList.drop 1)).all (fun (a, next) => a.1 < next.1) = true) (ho : lsOk pc dflt ps.toList cs dt = true)
    (kk : swk cs dt x (fun t => GG G d mc ms X P t lo st I h k n)) : GG G d mc ms X P pc lo (.int x :: st) I h k n := by
  obtain ⟨t, hK, ht⟩ := lsOk_use ps.toList cs pc dflt dt x _ ho kk
  obtain ⟨p, l, e, s, m, args, below, meth, c⟩ := X
  obtain ⟨hexec, hb, hml, hown, hts, hKs, hGk, hlk, hrt, hnm⟩ := hX
  obtain ⟨hd, rfl⟩ := hd
  intro H locs ls hlv hW hS
  exact lv_lookup hexec hb hd hp rfl ht (hK H locs ls hlv hW hS)
/-! what else: Object's constructor, instanceof, new, new arrays -/
theorem g_objInit (hX : Xok G own y X) {idx q : Nat} (hd : dc y.2.1 pc (.invokespecial idx) 3 nx) (h1 : Cond.methodLink own idx objectInit ∈ TG) (h2 : Cond.instanceMethod objectInit ∈ TG) (h3 : Cond.code objectInit ⟨#[0xb1]⟩ 1 none ∈ TG) (hd1 : 1 ≤ d) (hst : (st.map fun v => v.category).sum ≤ 8)
    (kk : GG G d mc ms X P nx lo st I h k n) : GG G d mc ms X P pc lo (.ref q :: st) I h k n := by
  obtain ⟨p, l, e, s, m, args, below, meth, c⟩ := X
  obtain ⟨hexec, hb, hml, hown, hts, hKs, hGk, hlk, hrt, hnm⟩ := hX
  obtain ⟨hd, rfl⟩ := hd
  intro H locs ls hlv hW hS
  refine W.objInit hexec hb hown (hts _ h1) (hts _ h2) (hts _ h3) rfl hlv.1 rfl hd hd1 ?_ (kk H locs ls hlv hW hS)
  show 2 * 0 + ((st.map (cv G)).map fun v => v.category).sum + 12 ≤ 60 * d
  have : ((st.map (cv G)).map fun v => v.category).sum = (st.map fun v => v.category).sum := by simp only [List.map_map, Function.comp_def, cv_cat]
  omega
theorem g_inst (hX : Xok G own y X) {idx q ci N : Nat} {C nm : String} {T : u_T} {ty : Nat → FieldType} {b : Int32} (hd : dc y.2.1 pc (.instanceof idx) 3 nx) (hC : CLS ci C T N ty) (hl : Cond.classLink own idx nm ∈ TG) (hq : q < hn h) (hc : (hs h q).1 = ci)
    (hb : (b = 1 ∧ (C = nm ∨ (C, nm) ∈ castL)) ∨ (b = 0 ∧ (C, nm) ∈ noCastL)) (kk : GG G d mc ms X P nx lo (.int b :: st) I h k n) : GG G d mc ms X P pc lo (.ref q :: st) I h k n := by
  obtain ⟨p, l, e, s, m, args, below, meth, c⟩ := X
  obtain ⟨hexec, hbb, hml, hown, hts, hKs, hGk, hlk, hrt, hnm⟩ := hX
  obtain ⟨hd, rfl⟩ := hd
  intro H locs ls hlv hW hS
  have hr := rcv_of hKs.1 hW hC hq hc
  rcases hb with ⟨rfl, rfl | hb⟩ | ⟨rfl, hb⟩
  · exact va_instS hexec hbb hown (hts _ hl) (hKs.1.1 ci _ hC.1).2 hr hd (kk H locs ls hlv hW hS)
  · exact va_instY hexec hbb hown (hts _ hl) (hKs.2.2.1 _ hb) hr hd (kk H locs ls hlv hW hS)
  · exact va_instNo hexec hbb hown (hts _ hl) (hKs.2.2.2 _ hb) hr hd (kk H locs ls hlv hW hS)
/-- a new cell may be made at the next number -/
def Gnew (G : Gt) (a : Nat) : Prop := gz G a = ga G a ∧ gz G (a + 1) = ga G a + 1
def wN (h : Ht) (sh : Nat × Nat) : Ht := (hL h, hR h, fun a => if a = hn h then sh else hs h a, hn h + 1)
/-- nothing is told of a cell that isn't made yet: a new one's ints, longs, references must be as Java has them -/
theorem wl_new {G : Gt} {I I' : It} {h h' : Ht} {e : va_E} (hn' : hn h' = hn h + 1) (he : ent G I' h' (hn h) = e) (ho : ∀ a, a < hn h → ent G I' h' a = ent G I h a) : wl G I h ++ [(ga G (hn h), e)] = wl G I' h' := by
  apply List.ext_getElem?
  intro i
  by_cases hi : i < hn h
  · rw [List.getElem?_append_left (by rw [wl_len]; exact hi), wl_get hi, wl_get (by omega), ho i hi]
  · by_cases hq : i = hn h
    · subst hq
      rw [List.getElem?_append_right (by rw [wl_len]; omega), wl_len, Nat.sub_self, wl_get (by omega), he]
      rfl
    · rw [List.getElem?_eq_none (by rw [List.length_append, wl_len]; simp; omega), List.getElem?_eq_none (by rw [wl_len]; omega)]
def zI (I : It) (a : Nat) : It := fun b j => if b = a then 0 else I b j
def zH (h : Ht) (sh : Nat × Nat) : Ht := (fun b j => if b = hn h then 0 else hL h b j, fun b j => if b = hn h then none else hR h b j, fun a => if a = hn h then sh else hs h a, hn h + 1)
theorem ent_new {G : Gt} {I : It} {h : Ht} {sh : Nat × Nat} {a : Nat} (ha : a < hn h) : ent G (zI I (hn h)) (zH h sh) a = ent G I h a := by
  have hne : a ≠ hn h := Nat.ne_of_lt ha
  apply ent_congr
  · funext j; simp [zI, hne]
  · funext j; show (if a = hn h then 0 else hL h a j) = hL h a j; rw [if_neg hne]
  · funext j; show (if a = hn h then none else hR h a j) = hR h a j; rw [if_neg hne]
  · show (if a = hn h then sh else hs h a) = hs h a; rw [if_neg hne]
theorem g_new (hX : Xok G own y X) {idx ci N : Nat} {C : String} {T : u_T} {ty : Nat → FieldType} (hd : dc y.2.1 pc (.new idx) 3 nx) (hC : CLS ci C T N ty) (hdf : ∀ j, j < N → defaultValue (ty j) = if isr ci j then .null else .int 0) (hl : Cond.classLink own idx C ∈ TG) (hin : Cond.instantiable C N ∈ TG) (hini : Cond.initialized C ∈ TG) (hG : Gnew G (hn h)) (hk : k + 1 ≤ mc) (hn' : n + N ≤ ms)
    (kk : GG G d mc ms X P nx lo (.ref (hn h) :: st) (zI I (hn h)) (zH h (ci, 0)) (k + 1) (n + N)) : GG G d mc ms X P pc lo st I h k n := by
  obtain ⟨p, l, e, s, m, args, below, meth, c⟩ := X
  obtain ⟨hexec, hb, hml, hown, hts, hKs, hGk, hlk, hrt, hnm⟩ := hX
  obtain ⟨hd, rfl⟩ := hd
  obtain ⟨c1, c2, c3, c4, c5, c6⟩ := hC
  intro H locs ls hlv hW hS
  have hsz : H.size = ga G (hn h) := by rw [hW.2, hG.1]
  have hKn := hKs.1.1 ci _ c1
  refine W.newcK hexec hb hown (hts _ hl) (hts _ hin) (hts _ hini) rfl hd hk hn' hKn.2.1 rfl fun H1 kC hkC e1 z1 o1 => ?_
  rw [hsz]
  have hko : ∀ (i : Nat) (x : Nat × va_E), (wl G I h)[i]? = some x → H1[x.1]? = H[x.1]? := fun i x hx => o1 x.1 ((hW.1 i x hx).lt)
  refine kk H1 locs ls hlv ⟨?_, by rw [z1, hsz]; exact hG.2.symm⟩ ⟨Nat.le_trans hS.1 (by omega), fun x h1 h2 => (o1 x (Nat.lt_of_lt_of_le h1 hS.1)).trans (hS.2.1 x h1 h2), hS.2.2⟩
  rw [← wl_new (I := I) (h := h) (e := .inr (ci, fvs G (zI I (hn h)) (zH h (ci, 0)) (hn h) ci)) rfl (ent_obj (by show (if hn h = hn h then (ci, 0) else hs h (hn h)).1 = ci; rw [if_pos rfl]) c6) (fun a ha => ent_new ha)]
  refine (hW.1.kept hko).app (fun i x hx => ?_)
  have hz : i < 1 := (List.getElem?_eq_some_iff.mp hx).1
  rw [show i = 0 by omega] at hx
  cases hx
  rw [← hsz]
  refine ⟨_, c1, (u_born ty hts c2 hKn hkC e1 c3).to fun j hj => ?_⟩
  rw [hdf j hj]
  show _ = vp_V _ j
  unfold vp_V
  rw [List.getD_eq_getElem?_getD, fvs_get (by rw [c5]; exact hj), Option.getD_some]
  unfold fvl
  by_cases hr : isr ci j = true
  · rw [if_pos hr, if_pos hr]
    show Value.null = cv G (rv (if hn h = hn h then none else hR h (hn h) j))
    rw [if_pos rfl]
    rfl
  · rw [if_neg hr, if_neg hr]
    show Value.int 0 = cv G (.int (if hn h = hn h then 0 else I (hn h) j))
    rw [if_pos rfl]
    rfl
end SW
end
section
set_option maxRecDepth 8000 in
theorem tg_sub {l : List Cond} (ps : List Nat) (h : l = ps.filterMap (fun i => lw_tbl[i]?)) (hg : l.all goodWord = true) : ∀ w ∈ l, w ∈ TG := by
  intro w hw
  have h1 := List.all_eq_true.mp hg w hw
  rw [h] at hw
  obtain ⟨i, -, hi⟩ := List.mem_filterMap.mp hw
  exact tg_of i hi h1
set_option maxRecDepth 8000 in
theorem tg_p (i : Nat) {w : Cond} (h : (k2_sels lw_privs)[i]? = some w) (hg : goodWord w = true) : w ∈ TG := List.mem_filter.mpr ⟨List.mem_append_left _ (List.mem_of_getElem? h), hg⟩
set_option maxRecDepth 8000 in
theorem tg_1 (i : Nat) {w : Cond} (h : tables_1_1[i]? = some w) (hg : goodWord w = true) : w ∈ TG := List.mem_filter.mpr ⟨List.mem_append_right _ (List.mem_append_left _ (List.mem_of_getElem? h)), hg⟩
set_option maxRecDepth 8000 in
theorem tg_2 (i : Nat) {w : Cond} (h : tables_1_2[i]? = some w) (hg : goodWord w = true) : w ∈ TG := List.mem_filter.mpr ⟨List.mem_append_right _ (List.mem_append_right _ (List.mem_append_left _ (List.mem_of_getElem? h))), hg⟩
set_option maxRecDepth 8000 in
theorem tg_3 (i : Nat) {w : Cond} (h : tables_1_3[i]? = some w) (hg : goodWord w = true) : w ∈ TG := List.mem_filter.mpr ⟨List.mem_append_right _ (List.mem_append_right _ (List.mem_append_right _ (List.mem_append_left _ (List.mem_of_getElem? h)))), hg⟩
set_option maxRecDepth 8000 in
theorem tg_4 (i : Nat) {w : Cond} (h : tables_1_4[i]? = some w) (hg : goodWord w = true) : w ∈ TG := List.mem_filter.mpr ⟨List.mem_append_right _ (List.mem_append_right _ (List.mem_append_right _ (List.mem_append_right _ (List.mem_append_left _ (List.mem_of_getElem? h))))), hg⟩
set_option maxRecDepth 8000 in
theorem tg_5 (i : Nat) {w : Cond} (h : tables_1_5[i]? = some w) (hg : goodWord w = true) : w ∈ TG := List.mem_filter.mpr ⟨List.mem_append_right _ (List.mem_append_right _ (List.mem_append_right _ (List.mem_append_right _ (List.mem_append_right _ (List.mem_append_left _ (List.mem_of_getElem? h)))))), hg⟩
set_option maxRecDepth 8000 in
theorem tg_6 (i : Nat) {w : Cond} (h : tables_1_6[i]? = some w) (hg : goodWord w = true) : w ∈ TG := List.mem_filter.mpr ⟨List.mem_append_right _ (List.mem_append_right _ (List.mem_append_right _ (List.mem_append_right _ (List.mem_append_right _ (List.mem_append_right _ (List.mem_append_left _ (List.mem_of_getElem? h))))))), hg⟩
set_option maxRecDepth 8000 in
theorem tg_7 (i : Nat) {w : Cond} (h : tables_1_7[i]? = some w) (hg : goodWord w = true) : w ∈ TG := List.mem_filter.mpr ⟨List.mem_append_right _ (List.mem_append_right _ (List.mem_append_right _ (List.mem_append_right _ (List.mem_append_right _ (List.mem_append_right _ (List.mem_append_right _ (List.mem_of_getElem? h))))))), hg⟩
set_option maxRecDepth 20000 in
theorem KX0 : CLS 0 RX0 TX0 16 tyX0 := ⟨rfl, tg_sub [200, 202, 204, 206, 208, 210, 212, 214, 216, 218, 220, 222, 224, 226, 228, 230] (by decide +kernel) (by decide +kernel), tyX0_ok, nmX0, by decide +kernel, by decide⟩
set_option maxRecDepth 20000 in
theorem KX1 : CLS 1 RX1 TX1 6 tyX1 := ⟨rfl, tg_sub [474, 475, 476, 477, 478, 479] (by decide +kernel) (by decide +kernel), tyX1_ok, nmX1, by decide +kernel, by decide⟩
set_option maxRecDepth 20000 in
theorem KX2 : CLS 2 RX2 TX2 6 tyX2 := ⟨rfl, tg_sub [412, 413, 414, 415, 416, 417] (by decide +kernel) (by decide +kernel), tyX2_ok, nmX2, by decide +kernel, by decide⟩
set_option maxRecDepth 20000 in
theorem KX3 : CLS 3 RX3 TX3 12 tyX3 := ⟨rfl, tg_sub [275, 277, 279, 281, 283, 285, 287, 289, 291, 293, 295, 297] (by decide +kernel) (by decide +kernel), tyX3_ok, nmX3, by decide +kernel, by decide⟩
set_option maxRecDepth 20000 in
theorem KX4 : CLS 4 RX4 TX4 6 tyX4 := ⟨rfl, tg_sub [425, 426, 427, 428, 429, 430] (by decide +kernel) (by decide +kernel), tyX4_ok, nmX4, by decide +kernel, by decide⟩
set_option maxRecDepth 20000 in
theorem KX5 : CLS 5 RX5 TX5 14 tyX5 := ⟨rfl, tg_sub [140, 142, 144, 146, 148, 150, 152, 154, 156, 158, 160, 162, 164, 166] (by decide +kernel) (by decide +kernel), tyX5_ok, nmX5, by decide +kernel, by decide⟩
set_option maxRecDepth 20000 in
theorem KX6 : CLS 6 RX6 TX6 6 tyX6 := ⟨rfl, tg_sub [451, 452, 453, 454, 455, 456] (by decide +kernel) (by decide +kernel), tyX6_ok, nmX6, by decide +kernel, by decide⟩
set_option maxRecDepth 20000 in
theorem KX7 : CLS 7 RX7 TX7 2 tyX7 := ⟨rfl, tg_sub [245, 247] (by decide +kernel) (by decide +kernel), tyX7_ok, nmX7, by decide +kernel, by decide⟩
set_option maxRecDepth 20000 in
theorem KX8 : CLS 8 RX8 TX8 6 tyX8 := ⟨rfl, tg_sub [438, 439, 440, 441, 442, 443] (by decide +kernel) (by decide +kernel), tyX8_ok, nmX8, by decide +kernel, by decide⟩
set_option maxRecDepth 20000 in
theorem KX9 : CLS 9 RX9 TX9 6 tyX9 := ⟨rfl, tg_sub [393, 395, 397, 399, 401, 403] (by decide +kernel) (by decide +kernel), tyX9_ok, nmX9, by decide +kernel, by decide⟩
set_option maxRecDepth 20000 in
theorem KX10 : CLS 10 RX10 TX10 6 tyX10 := ⟨rfl, tg_sub [464, 465, 466, 467, 468, 469] (by decide +kernel) (by decide +kernel), tyX10_ok, nmX10, by decide +kernel, by decide⟩
set_option maxRecDepth 20000 in
theorem KX11 : CLS 11 RX11 TX11 12 tyX11 := ⟨rfl, tg_sub [313, 315, 317, 319, 321, 323, 325, 327, 329, 331, 333, 335] (by decide +kernel) (by decide +kernel), tyX11_ok, nmX11, by decide +kernel, by decide⟩
set_option maxRecDepth 20000 in
theorem KX12 : CLS 12 RX12 TX12 73 tyX12 := ⟨rfl, tg_sub [1097, 1099, 1101, 1103, 1105, 1107, 1109, 1111, 1113, 1115, 1117, 1119, 1121, 1123, 1125, 1127, 1129, 1131, 1133, 1135, 1137, 1139, 1141, 1143, 1145, 1147, 1149, 1151, 1153, 1155, 1157, 1159, 1161, 1163, 1165, 1167, 1169, 1171, 1173, 1175, 1177, 1179, 1181, 1183, 1185, 1187, 1189, 1191, 1193, 1195, 1197, 1199, 1201, 1203, 1205, 1207, 1209, 1211, 1213, 1215, 1217, 1219, 1221, 1223, 1225, 1227, 1229, 1231, 1233, 1235, 1237, 1239, 1241] (by decide +kernel) (by decide +kernel), tyX12_ok, nmX12, by decide +kernel, by decide⟩
set_option maxRecDepth 8000 in
theorem w_107 : (Jvm.Cond.fieldLink "NextOneKnows$State" (11 : Nat) "NextOneKnows$State" "doings" "[LNextOneKnows$Doing;") ∈ TG := tg_1 34 rfl rfl
set_option maxRecDepth 8000 in
theorem fX5_11 : Fln RX5 RX5 TX5 11 0 := ⟨w_107, Or.inl rfl⟩
set_option maxRecDepth 8000 in
theorem w_108 : (Jvm.Cond.fieldLink "NextOneKnows$State" (17 : Nat) "NextOneKnows$State" "odds" "[I") ∈ TG := tg_1 35 rfl rfl
set_option maxRecDepth 8000 in
theorem fX5_17 : Fln RX5 RX5 TX5 17 1 := ⟨w_108, Or.inl rfl⟩
set_option maxRecDepth 8000 in
theorem w_109 : (Jvm.Cond.fieldLink "NextOneKnows" (129 : Nat) "NextOneKnows$State" "odds" "[I") ∈ TG := tg_1 36 rfl rfl
set_option maxRecDepth 8000 in
theorem fX11_129 : Fln RX11 RX5 TX5 129 1 := ⟨w_109, Or.inl rfl⟩
set_option maxRecDepth 8000 in
theorem w_110 : (Jvm.Cond.fieldLink "NextOneKnows" (72 : Nat) "NextOneKnows$State" "count" "I") ∈ TG := tg_1 37 rfl rfl
set_option maxRecDepth 8000 in
theorem fX11_72 : Fln RX11 RX5 TX5 72 2 := ⟨w_110, Or.inl rfl⟩
set_option maxRecDepth 8000 in
theorem w_111 : (Jvm.Cond.fieldLink "NextOneKnows$State" (36 : Nat) "NextOneKnows$State" "count" "I") ∈ TG := tg_1 38 rfl rfl
set_option maxRecDepth 8000 in
theorem fX5_36 : Fln RX5 RX5 TX5 36 2 := ⟨w_111, Or.inl rfl⟩
set_option maxRecDepth 8000 in
theorem w_112 : (Jvm.Cond.fieldLink "NextOneKnows$Ahead" (69 : Nat) "NextOneKnows$State" "count" "I") ∈ TG := tg_1 39 rfl rfl
set_option maxRecDepth 8000 in
theorem fX0_69 : Fln RX0 RX5 TX5 69 2 := ⟨w_112, Or.inl rfl⟩
set_option maxRecDepth 8000 in
theorem w_113 : (Jvm.Cond.fieldLink "NextOneKnows$State" (40 : Nat) "NextOneKnows$State" "known" "I") ∈ TG := tg_1 40 rfl rfl
set_option maxRecDepth 8000 in
theorem fX5_40 : Fln RX5 RX5 TX5 40 3 := ⟨w_113, Or.inl rfl⟩
set_option maxRecDepth 8000 in
theorem w_114 : (Jvm.Cond.fieldLink "NextOneKnows" (116 : Nat) "NextOneKnows$State" "known" "I") ∈ TG := tg_1 41 rfl rfl
set_option maxRecDepth 8000 in
theorem fX11_116 : Fln RX11 RX5 TX5 116 3 := ⟨w_114, Or.inl rfl⟩
set_option maxRecDepth 8000 in
theorem w_115 : (Jvm.Cond.fieldLink "NextOneKnows$Ahead" (161 : Nat) "NextOneKnows$State" "known" "I") ∈ TG := tg_1 42 rfl rfl
set_option maxRecDepth 8000 in
theorem fX0_161 : Fln RX0 RX5 TX5 161 3 := ⟨w_115, Or.inl rfl⟩
set_option maxRecDepth 8000 in
theorem w_116 : (Jvm.Cond.fieldLink "NextOneKnows$State" (43 : Nat) "NextOneKnows$State" "needless" "I") ∈ TG := tg_1 43 rfl rfl
set_option maxRecDepth 8000 in
theorem fX5_43 : Fln RX5 RX5 TX5 43 4 := ⟨w_116, Or.inl rfl⟩
set_option maxRecDepth 8000 in
theorem w_117 : (Jvm.Cond.fieldLink "NextOneKnows" (109 : Nat) "NextOneKnows$State" "needless" "I") ∈ TG := tg_1 44 rfl rfl
set_option maxRecDepth 8000 in
theorem fX11_109 : Fln RX11 RX5 TX5 109 4 := ⟨w_117, Or.inl rfl⟩
set_option maxRecDepth 8000 in
theorem w_118 : (Jvm.Cond.fieldLink "NextOneKnows$Ahead" (166 : Nat) "NextOneKnows$State" "needless" "I") ∈ TG := tg_1 45 rfl rfl
set_option maxRecDepth 8000 in
theorem fX0_166 : Fln RX0 RX5 TX5 166 4 := ⟨w_118, Or.inl rfl⟩
set_option maxRecDepth 8000 in
theorem w_119 : (Jvm.Cond.fieldLink "NextOneKnows$State" (21 : Nat) "NextOneKnows$State" "hours" "[I") ∈ TG := tg_1 46 rfl rfl
set_option maxRecDepth 8000 in
theorem fX5_21 : Fln RX5 RX5 TX5 21 5 := ⟨w_119, Or.inl rfl⟩
set_option maxRecDepth 8000 in
theorem w_120 : (Jvm.Cond.fieldLink "NextOneKnows$Ahead" (101 : Nat) "NextOneKnows$State" "hours" "[I") ∈ TG := tg_1 47 rfl rfl
set_option maxRecDepth 8000 in
theorem fX0_101 : Fln RX0 RX5 TX5 101 5 := ⟨w_120, Or.inl rfl⟩
set_option maxRecDepth 8000 in
theorem w_121 : (Jvm.Cond.fieldLink "NextOneKnows" (139 : Nat) "NextOneKnows$State" "hours" "[I") ∈ TG := tg_1 48 rfl rfl
set_option maxRecDepth 8000 in
theorem fX11_139 : Fln RX11 RX5 TX5 139 5 := ⟨w_121, Or.inl rfl⟩
set_option maxRecDepth 8000 in
theorem w_122 : (Jvm.Cond.fieldLink "NextOneKnows$Ahead" (57 : Nat) "NextOneKnows$State" "week" "I") ∈ TG := tg_1 49 rfl rfl
set_option maxRecDepth 8000 in
theorem fX0_57 : Fln RX0 RX5 TX5 57 6 := ⟨w_122, Or.inl rfl⟩
set_option maxRecDepth 8000 in
theorem w_123 : (Jvm.Cond.fieldLink "NextOneKnows$State" (46 : Nat) "NextOneKnows$State" "week" "I") ∈ TG := tg_1 50 rfl rfl
set_option maxRecDepth 8000 in
theorem fX5_46 : Fln RX5 RX5 TX5 46 6 := ⟨w_123, Or.inl rfl⟩
set_option maxRecDepth 8000 in
theorem w_124 : (Jvm.Cond.fieldLink "NextOneKnows" (122 : Nat) "NextOneKnows$State" "week" "I") ∈ TG := tg_1 51 rfl rfl
set_option maxRecDepth 8000 in
theorem fX11_122 : Fln RX11 RX5 TX5 122 6 := ⟨w_124, Or.inl rfl⟩
set_option maxRecDepth 8000 in
theorem w_125 : (Jvm.Cond.fieldLink "NextOneKnows$State" (49 : Nat) "NextOneKnows$State" "costs" "I") ∈ TG := tg_1 52 rfl rfl
set_option maxRecDepth 8000 in
theorem fX5_49 : Fln RX5 RX5 TX5 49 7 := ⟨w_125, Or.inl rfl⟩
set_option maxRecDepth 8000 in
theorem w_126 : (Jvm.Cond.fieldLink "NextOneKnows" (162 : Nat) "NextOneKnows$State" "costs" "I") ∈ TG := tg_1 53 rfl rfl
set_option maxRecDepth 8000 in
theorem fX11_162 : Fln RX11 RX5 TX5 162 7 := ⟨w_126, Or.inl rfl⟩
set_option maxRecDepth 8000 in
theorem w_127 : (Jvm.Cond.fieldLink "NextOneKnows$State" (52 : Nat) "NextOneKnows$State" "stops" "I") ∈ TG := tg_1 54 rfl rfl
set_option maxRecDepth 8000 in
theorem fX5_52 : Fln RX5 RX5 TX5 52 8 := ⟨w_127, Or.inl rfl⟩
set_option maxRecDepth 8000 in
theorem w_128 : (Jvm.Cond.fieldLink "NextOneKnows" (165 : Nat) "NextOneKnows$State" "stops" "I") ∈ TG := tg_1 55 rfl rfl
set_option maxRecDepth 8000 in
theorem fX11_165 : Fln RX11 RX5 TX5 165 8 := ⟨w_128, Or.inl rfl⟩
set_option maxRecDepth 8000 in
theorem w_129 : (Jvm.Cond.fieldLink "NextOneKnows$State" (55 : Nat) "NextOneKnows$State" "calls" "I") ∈ TG := tg_1 56 rfl rfl
set_option maxRecDepth 8000 in
theorem fX5_55 : Fln RX5 RX5 TX5 55 9 := ⟨w_129, Or.inl rfl⟩
set_option maxRecDepth 8000 in
theorem w_130 : (Jvm.Cond.fieldLink "NextOneKnows" (168 : Nat) "NextOneKnows$State" "calls" "I") ∈ TG := tg_1 57 rfl rfl
set_option maxRecDepth 8000 in
theorem fX11_168 : Fln RX11 RX5 TX5 168 9 := ⟨w_130, Or.inl rfl⟩
set_option maxRecDepth 8000 in
theorem w_131 : (Jvm.Cond.fieldLink "NextOneKnows$State" (24 : Nat) "NextOneKnows$State" "rowWeeks" "[I") ∈ TG := tg_1 58 rfl rfl
set_option maxRecDepth 8000 in
theorem fX5_24 : Fln RX5 RX5 TX5 24 10 := ⟨w_131, Or.inl rfl⟩
set_option maxRecDepth 8000 in
theorem w_132 : (Jvm.Cond.fieldLink "NextOneKnows$Ahead" (187 : Nat) "NextOneKnows$State" "rowWeeks" "[I") ∈ TG := tg_1 59 rfl rfl
set_option maxRecDepth 8000 in
theorem fX0_187 : Fln RX0 RX5 TX5 187 10 := ⟨w_132, Or.inl rfl⟩
set_option maxRecDepth 8000 in
theorem w_133 : (Jvm.Cond.fieldLink "NextOneKnows$State" (27 : Nat) "NextOneKnows$State" "rowDoings" "[I") ∈ TG := tg_1 60 rfl rfl
set_option maxRecDepth 8000 in
theorem fX5_27 : Fln RX5 RX5 TX5 27 11 := ⟨w_133, Or.inl rfl⟩
set_option maxRecDepth 8000 in
theorem w_134 : (Jvm.Cond.fieldLink "NextOneKnows$Ahead" (190 : Nat) "NextOneKnows$State" "rowDoings" "[I") ∈ TG := tg_1 61 rfl rfl
set_option maxRecDepth 8000 in
theorem fX0_190 : Fln RX0 RX5 TX5 190 11 := ⟨w_134, Or.inl rfl⟩
set_option maxRecDepth 8000 in
theorem w_135 : (Jvm.Cond.fieldLink "NextOneKnows$State" (58 : Nat) "NextOneKnows$State" "rows" "I") ∈ TG := tg_1 62 rfl rfl
set_option maxRecDepth 8000 in
theorem fX5_58 : Fln RX5 RX5 TX5 58 12 := ⟨w_135, Or.inl rfl⟩
set_option maxRecDepth 8000 in
theorem w_136 : (Jvm.Cond.fieldLink "NextOneKnows$Ahead" (184 : Nat) "NextOneKnows$State" "rows" "I") ∈ TG := tg_1 63 rfl rfl
set_option maxRecDepth 8000 in
theorem fX0_184 : Fln RX0 RX5 TX5 184 12 := ⟨w_136, Or.inl rfl⟩
set_option maxRecDepth 8000 in
theorem w_137 : (Jvm.Cond.fieldLink "NextOneKnows" (231 : Nat) "NextOneKnows$State" "rows" "I") ∈ TG := tg_1 64 rfl rfl
set_option maxRecDepth 8000 in
theorem fX11_231 : Fln RX11 RX5 TX5 231 12 := ⟨w_137, Or.inl rfl⟩
set_option maxRecDepth 8000 in
theorem w_138 : (Jvm.Cond.fieldLink "NextOneKnows$State" (61 : Nat) "NextOneKnows$State" "post" "LNextOneKnows$Post;") ∈ TG := tg_1 65 rfl rfl
set_option maxRecDepth 8000 in
theorem fX5_61 : Fln RX5 RX5 TX5 61 13 := ⟨w_138, Or.inl rfl⟩
set_option maxRecDepth 8000 in
theorem w_139 : (Jvm.Cond.fieldLink "NextOneKnows" (152 : Nat) "NextOneKnows$State" "post" "LNextOneKnows$Post;") ∈ TG := tg_1 66 rfl rfl
set_option maxRecDepth 8000 in
theorem fX11_152 : Fln RX11 RX5 TX5 152 13 := ⟨w_139, Or.inl rfl⟩
set_option maxRecDepth 8000 in
theorem w_178 : (Jvm.Cond.fieldLink "NextOneKnows$Ahead" (34 : Nat) "NextOneKnows$Ahead" "now" "LNextOneKnows$State;") ∈ TG := tg_1 105 rfl rfl
set_option maxRecDepth 8000 in
theorem fX0_34 : Fln RX0 RX0 TX0 34 0 := ⟨w_178, Or.inl rfl⟩
set_option maxRecDepth 8000 in
theorem w_179 : (Jvm.Cond.fieldLink "NextOneKnows$Ahead" (47 : Nat) "NextOneKnows$Ahead" "span" "I") ∈ TG := tg_1 106 rfl rfl
set_option maxRecDepth 8000 in
theorem fX0_47 : Fln RX0 RX0 TX0 47 1 := ⟨w_179, Or.inl rfl⟩
set_option maxRecDepth 8000 in
theorem w_180 : (Jvm.Cond.fieldLink "NextOneKnows$Ahead" (9 : Nat) "NextOneKnows$Ahead" "coming" "[I") ∈ TG := tg_1 107 rfl rfl
set_option maxRecDepth 8000 in
theorem fX0_9 : Fln RX0 RX0 TX0 9 2 := ⟨w_180, Or.inl rfl⟩
set_option maxRecDepth 8000 in
theorem w_181 : (Jvm.Cond.fieldLink "NextOneKnows$Ahead" (17 : Nat) "NextOneKnows$Ahead" "dear" "[I") ∈ TG := tg_1 108 rfl rfl
set_option maxRecDepth 8000 in
theorem fX0_17 : Fln RX0 RX0 TX0 17 3 := ⟨w_181, Or.inl rfl⟩
set_option maxRecDepth 8000 in
theorem w_182 : (Jvm.Cond.fieldLink "NextOneKnows$Ahead" (22 : Nat) "NextOneKnows$Ahead" "said" "[[I") ∈ TG := tg_1 109 rfl rfl
set_option maxRecDepth 8000 in
theorem fX0_22 : Fln RX0 RX0 TX0 22 4 := ⟨w_182, Or.inl rfl⟩
set_option maxRecDepth 8000 in
theorem w_183 : (Jvm.Cond.fieldLink "NextOneKnows$Ahead" (25 : Nat) "NextOneKnows$Ahead" "stopping" "[I") ∈ TG := tg_1 110 rfl rfl
set_option maxRecDepth 8000 in
theorem fX0_25 : Fln RX0 RX0 TX0 25 5 := ⟨w_183, Or.inl rfl⟩
set_option maxRecDepth 8000 in
theorem w_184 : (Jvm.Cond.fieldLink "NextOneKnows$Ahead" (114 : Nat) "NextOneKnows$Ahead" "needless" "I") ∈ TG := tg_1 111 rfl rfl
set_option maxRecDepth 8000 in
theorem fX0_114 : Fln RX0 RX0 TX0 114 6 := ⟨w_184, Or.inl rfl⟩
set_option maxRecDepth 8000 in
theorem w_185 : (Jvm.Cond.fieldLink "NextOneKnows$Ahead" (117 : Nat) "NextOneKnows$Ahead" "costs" "I") ∈ TG := tg_1 112 rfl rfl
set_option maxRecDepth 8000 in
theorem fX0_117 : Fln RX0 RX0 TX0 117 7 := ⟨w_185, Or.inl rfl⟩
set_option maxRecDepth 8000 in
theorem w_186 : (Jvm.Cond.fieldLink "NextOneKnows$Ahead" (140 : Nat) "NextOneKnows$Ahead" "called" "I") ∈ TG := tg_1 113 rfl rfl
set_option maxRecDepth 8000 in
theorem fX0_140 : Fln RX0 RX0 TX0 140 8 := ⟨w_186, Or.inl rfl⟩
set_option maxRecDepth 8000 in
theorem w_187 : (Jvm.Cond.fieldLink "NextOneKnows$Ahead" (111 : Nat) "NextOneKnows$Ahead" "known" "I") ∈ TG := tg_1 114 rfl rfl
set_option maxRecDepth 8000 in
theorem fX0_111 : Fln RX0 RX0 TX0 111 9 := ⟨w_187, Or.inl rfl⟩
set_option maxRecDepth 8000 in
theorem w_188 : (Jvm.Cond.fieldLink "NextOneKnows" (195 : Nat) "NextOneKnows$Ahead" "known" "I") ∈ TG := tg_1 115 rfl rfl
set_option maxRecDepth 8000 in
theorem fX11_195 : Fln RX11 RX0 TX0 195 9 := ⟨w_188, Or.inl rfl⟩
set_option maxRecDepth 8000 in
theorem w_189 : (Jvm.Cond.fieldLink "NextOneKnows$Ahead" (120 : Nat) "NextOneKnows$Ahead" "stops" "I") ∈ TG := tg_1 116 rfl rfl
set_option maxRecDepth 8000 in
theorem fX0_120 : Fln RX0 RX0 TX0 120 10 := ⟨w_189, Or.inl rfl⟩
set_option maxRecDepth 8000 in
theorem w_190 : (Jvm.Cond.fieldLink "NextOneKnows" (193 : Nat) "NextOneKnows$Ahead" "stops" "I") ∈ TG := tg_1 117 rfl rfl
set_option maxRecDepth 8000 in
theorem fX11_193 : Fln RX11 RX0 TX0 193 10 := ⟨w_190, Or.inl rfl⟩
set_option maxRecDepth 8000 in
theorem w_191 : (Jvm.Cond.fieldLink "NextOneKnows$Ahead" (123 : Nat) "NextOneKnows$Ahead" "calls" "I") ∈ TG := tg_1 118 rfl rfl
set_option maxRecDepth 8000 in
theorem fX0_123 : Fln RX0 RX0 TX0 123 11 := ⟨w_191, Or.inl rfl⟩
set_option maxRecDepth 8000 in
theorem w_192 : (Jvm.Cond.fieldLink "NextOneKnows" (194 : Nat) "NextOneKnows$Ahead" "calls" "I") ∈ TG := tg_1 119 rfl rfl
set_option maxRecDepth 8000 in
theorem fX11_194 : Fln RX11 RX0 TX0 194 11 := ⟨w_192, Or.inl rfl⟩
set_option maxRecDepth 8000 in
theorem w_193 : (Jvm.Cond.fieldLink "NextOneKnows$Ahead" (126 : Nat) "NextOneKnows$Ahead" "firstWeek" "I") ∈ TG := tg_1 120 rfl rfl
set_option maxRecDepth 8000 in
theorem fX0_126 : Fln RX0 RX0 TX0 126 12 := ⟨w_193, Or.inl rfl⟩
set_option maxRecDepth 8000 in
theorem w_194 : (Jvm.Cond.fieldLink "NextOneKnows" (196 : Nat) "NextOneKnows$Ahead" "firstWeek" "I") ∈ TG := tg_1 121 rfl rfl
set_option maxRecDepth 8000 in
theorem fX11_196 : Fln RX11 RX0 TX0 196 12 := ⟨w_194, Or.inl rfl⟩
set_option maxRecDepth 8000 in
theorem w_195 : (Jvm.Cond.fieldLink "NextOneKnows$Ahead" (129 : Nat) "NextOneKnows$Ahead" "firstDoing" "I") ∈ TG := tg_1 122 rfl rfl
set_option maxRecDepth 8000 in
theorem fX0_129 : Fln RX0 RX0 TX0 129 13 := ⟨w_195, Or.inl rfl⟩
set_option maxRecDepth 8000 in
theorem w_196 : (Jvm.Cond.fieldLink "NextOneKnows" (199 : Nat) "NextOneKnows$Ahead" "firstDoing" "I") ∈ TG := tg_1 123 rfl rfl
set_option maxRecDepth 8000 in
theorem fX11_199 : Fln RX11 RX0 TX0 199 13 := ⟨w_196, Or.inl rfl⟩
set_option maxRecDepth 8000 in
theorem w_197 : (Jvm.Cond.fieldLink "NextOneKnows$Ahead" (28 : Nat) "NextOneKnows$Ahead" "shares" "[I") ∈ TG := tg_1 124 rfl rfl
set_option maxRecDepth 8000 in
theorem fX0_28 : Fln RX0 RX0 TX0 28 14 := ⟨w_197, Or.inl rfl⟩
set_option maxRecDepth 8000 in
theorem w_198 : (Jvm.Cond.fieldLink "NextOneKnows$Ahead" (31 : Nat) "NextOneKnows$Ahead" "best" "[I") ∈ TG := tg_1 125 rfl rfl
set_option maxRecDepth 8000 in
theorem fX0_31 : Fln RX0 RX0 TX0 31 15 := ⟨w_198, Or.inl rfl⟩
set_option maxRecDepth 8000 in
theorem w_199 : (Jvm.Cond.fieldLink "NextOneKnows" (205 : Nat) "NextOneKnows$Ahead" "best" "[I") ∈ TG := tg_1 126 rfl rfl
set_option maxRecDepth 8000 in
theorem fX11_205 : Fln RX11 RX0 TX0 205 15 := ⟨w_199, Or.inl rfl⟩
set_option maxRecDepth 8000 in
theorem w_241 : (Jvm.Cond.fieldLink "NextOneKnows$Trace" (7 : Nat) "NextOneKnows$Trace" "bodies" "[I") ∈ TG := tg_1 168 rfl rfl
set_option maxRecDepth 8000 in
theorem fX7_7 : Fln RX7 RX7 TX7 7 0 := ⟨w_241, Or.inl rfl⟩
set_option maxRecDepth 8000 in
theorem w_242 : (Jvm.Cond.fieldLink "NextOneKnows" (271 : Nat) "NextOneKnows$Trace" "bodies" "[I") ∈ TG := tg_1 169 rfl rfl
set_option maxRecDepth 8000 in
theorem fX11_271 : Fln RX11 RX7 TX7 271 0 := ⟨w_242, Or.inl rfl⟩
set_option maxRecDepth 8000 in
theorem w_243 : (Jvm.Cond.fieldLink "NextOneKnows$Trace" (13 : Nat) "NextOneKnows$Trace" "ran" "I") ∈ TG := tg_1 170 rfl rfl
set_option maxRecDepth 8000 in
theorem fX7_13 : Fln RX7 RX7 TX7 13 1 := ⟨w_243, Or.inl rfl⟩
set_option maxRecDepth 8000 in
theorem w_244 : (Jvm.Cond.fieldLink "NextOneKnows" (258 : Nat) "NextOneKnows$Trace" "ran" "I") ∈ TG := tg_1 171 rfl rfl
set_option maxRecDepth 8000 in
theorem fX11_258 : Fln RX11 RX7 TX7 258 1 := ⟨w_244, Or.inl rfl⟩
set_option maxRecDepth 8000 in
theorem w_261 : (Jvm.Cond.fieldLink "NextOneKnows$Post" (51 : Nat) "NextOneKnows$Post" "call" "I") ∈ TG := tg_1 188 rfl rfl
set_option maxRecDepth 8000 in
theorem fX3_51 : Fln RX3 RX3 TX3 51 0 := ⟨w_261, Or.inl rfl⟩
set_option maxRecDepth 8000 in
theorem w_262 : (Jvm.Cond.fieldLink "NextOneKnows$State" (83 : Nat) "NextOneKnows$Post" "call" "I") ∈ TG := tg_1 189 rfl rfl
set_option maxRecDepth 8000 in
theorem fX5_83 : Fln RX5 RX3 TX3 83 0 := ⟨w_262, Or.inl rfl⟩
set_option maxRecDepth 8000 in
theorem w_263 : (Jvm.Cond.fieldLink "NextOneKnows$Post" (54 : Nat) "NextOneKnows$Post" "fade" "I") ∈ TG := tg_1 190 rfl rfl
set_option maxRecDepth 8000 in
theorem fX3_54 : Fln RX3 RX3 TX3 54 1 := ⟨w_263, Or.inl rfl⟩
set_option maxRecDepth 8000 in
theorem w_264 : (Jvm.Cond.fieldLink "NextOneKnows$State" (86 : Nat) "NextOneKnows$Post" "fade" "I") ∈ TG := tg_1 191 rfl rfl
set_option maxRecDepth 8000 in
theorem fX5_86 : Fln RX5 RX3 TX3 86 1 := ⟨w_264, Or.inl rfl⟩
set_option maxRecDepth 8000 in
theorem w_265 : (Jvm.Cond.fieldLink "NextOneKnows$Post" (45 : Nat) "NextOneKnows$Post" "clauses" "I") ∈ TG := tg_1 192 rfl rfl
set_option maxRecDepth 8000 in
theorem fX3_45 : Fln RX3 RX3 TX3 45 2 := ⟨w_265, Or.inl rfl⟩
set_option maxRecDepth 8000 in
theorem w_266 : (Jvm.Cond.fieldLink "NextOneKnows$Post" (11 : Nat) "NextOneKnows$Post" "words" "[I") ∈ TG := tg_1 193 rfl rfl
set_option maxRecDepth 8000 in
theorem fX3_11 : Fln RX3 RX3 TX3 11 3 := ⟨w_266, Or.inl rfl⟩
set_option maxRecDepth 8000 in
theorem w_267 : (Jvm.Cond.fieldLink "NextOneKnows$Post" (15 : Nat) "NextOneKnows$Post" "numbers" "[I") ∈ TG := tg_1 194 rfl rfl
set_option maxRecDepth 8000 in
theorem fX3_15 : Fln RX3 RX3 TX3 15 4 := ⟨w_267, Or.inl rfl⟩
set_option maxRecDepth 8000 in
theorem w_268 : (Jvm.Cond.fieldLink "NextOneKnows$Post" (18 : Nat) "NextOneKnows$Post" "ends" "[I") ∈ TG := tg_1 195 rfl rfl
set_option maxRecDepth 8000 in
theorem fX3_18 : Fln RX3 RX3 TX3 18 5 := ⟨w_268, Or.inl rfl⟩
set_option maxRecDepth 8000 in
theorem w_269 : (Jvm.Cond.fieldLink "NextOneKnows$Post" (21 : Nat) "NextOneKnows$Post" "codes" "[I") ∈ TG := tg_1 196 rfl rfl
set_option maxRecDepth 8000 in
theorem fX3_21 : Fln RX3 RX3 TX3 21 6 := ⟨w_269, Or.inl rfl⟩
set_option maxRecDepth 8000 in
theorem w_270 : (Jvm.Cond.fieldLink "NextOneKnows$Post" (48 : Nat) "NextOneKnows$Post" "codeCount" "I") ∈ TG := tg_1 197 rfl rfl
set_option maxRecDepth 8000 in
theorem fX3_48 : Fln RX3 RX3 TX3 48 7 := ⟨w_270, Or.inl rfl⟩
set_option maxRecDepth 8000 in
theorem w_271 : (Jvm.Cond.fieldLink "NextOneKnows$Post" (24 : Nat) "NextOneKnows$Post" "text" "[B") ∈ TG := tg_1 198 rfl rfl
set_option maxRecDepth 8000 in
theorem fX3_24 : Fln RX3 RX3 TX3 24 8 := ⟨w_271, Or.inl rfl⟩
set_option maxRecDepth 8000 in
theorem w_272 : (Jvm.Cond.fieldLink "NextOneKnows$Post" (34 : Nat) "NextOneKnows$Post" "length" "I") ∈ TG := tg_1 199 rfl rfl
set_option maxRecDepth 8000 in
theorem fX3_34 : Fln RX3 RX3 TX3 34 9 := ⟨w_272, Or.inl rfl⟩
set_option maxRecDepth 8000 in
theorem w_273 : (Jvm.Cond.fieldLink "NextOneKnows$Post" (38 : Nat) "NextOneKnows$Post" "at" "I") ∈ TG := tg_1 200 rfl rfl
set_option maxRecDepth 8000 in
theorem fX3_38 : Fln RX3 RX3 TX3 38 10 := ⟨w_273, Or.inl rfl⟩
set_option maxRecDepth 8000 in
theorem w_274 : (Jvm.Cond.fieldLink "NextOneKnows$Post" (41 : Nat) "NextOneKnows$Post" "faulty" "Z") ∈ TG := tg_1 201 rfl rfl
set_option maxRecDepth 8000 in
theorem fX3_41 : Fln RX3 RX3 TX3 41 11 := ⟨w_274, Or.inl rfl⟩
set_option maxRecDepth 8000 in
theorem w_301 : (Jvm.Cond.fieldLink "NextOneKnows" (12 : Nat) "NextOneKnows" "now" "LNextOneKnows$State;") ∈ TG := tg_1 228 rfl rfl
set_option maxRecDepth 8000 in
theorem fX11_12 : Fln RX11 RX11 TX11 12 0 := ⟨w_301, Or.inl rfl⟩
set_option maxRecDepth 8000 in
theorem w_302 : (Jvm.Cond.fieldLink "NextOneKnows" (18 : Nat) "NextOneKnows" "imaged" "LNextOneKnows$State;") ∈ TG := tg_1 229 rfl rfl
set_option maxRecDepth 8000 in
theorem fX11_18 : Fln RX11 RX11 TX11 18 1 := ⟨w_302, Or.inl rfl⟩
set_option maxRecDepth 8000 in
theorem w_303 : (Jvm.Cond.fieldLink "NextOneKnows" (254 : Nat) "NextOneKnows" "hasImage" "Z") ∈ TG := tg_1 230 rfl rfl
set_option maxRecDepth 8000 in
theorem fX11_254 : Fln RX11 RX11 TX11 254 2 := ⟨w_303, Or.inl rfl⟩
set_option maxRecDepth 8000 in
theorem w_304 : (Jvm.Cond.fieldLink "NextOneKnows" (26 : Nat) "NextOneKnows" "ahead" "LNextOneKnows$Ahead;") ∈ TG := tg_1 231 rfl rfl
set_option maxRecDepth 8000 in
theorem fX11_26 : Fln RX11 RX11 TX11 26 3 := ⟨w_304, Or.inl rfl⟩
set_option maxRecDepth 8000 in
theorem w_305 : (Jvm.Cond.fieldLink "NextOneKnows" (32 : Nat) "NextOneKnows" "posts" "[LNextOneKnows$Post;") ∈ TG := tg_1 232 rfl rfl
set_option maxRecDepth 8000 in
theorem fX11_32 : Fln RX11 RX11 TX11 32 4 := ⟨w_305, Or.inl rfl⟩
set_option maxRecDepth 8000 in
theorem w_306 : (Jvm.Cond.fieldLink "NextOneKnows" (145 : Nat) "NextOneKnows" "postCount" "I") ∈ TG := tg_1 233 rfl rfl
set_option maxRecDepth 8000 in
theorem fX11_145 : Fln RX11 RX11 TX11 145 5 := ⟨w_306, Or.inl rfl⟩
set_option maxRecDepth 8000 in
theorem w_307 : (Jvm.Cond.fieldLink "NextOneKnows" (36 : Nat) "NextOneKnows" "text" "[B") ∈ TG := tg_1 234 rfl rfl
set_option maxRecDepth 8000 in
theorem fX11_36 : Fln RX11 RX11 TX11 36 6 := ⟨w_307, Or.inl rfl⟩
set_option maxRecDepth 8000 in
theorem w_308 : (Jvm.Cond.fieldLink "NextOneKnows" (142 : Nat) "NextOneKnows" "signs" "I") ∈ TG := tg_1 235 rfl rfl
set_option maxRecDepth 8000 in
theorem fX11_142 : Fln RX11 RX11 TX11 142 7 := ⟨w_308, Or.inl rfl⟩
set_option maxRecDepth 8000 in
theorem w_309 : (Jvm.Cond.fieldLink "NextOneKnows" (43 : Nat) "NextOneKnows" "trace" "LNextOneKnows$Trace;") ∈ TG := tg_1 236 rfl rfl
set_option maxRecDepth 8000 in
theorem fX11_43 : Fln RX11 RX11 TX11 43 8 := ⟨w_309, Or.inl rfl⟩
set_option maxRecDepth 8000 in
theorem w_310 : (Jvm.Cond.fieldLink "NextOneKnows" (47 : Nat) "NextOneKnows" "sorts" "[I") ∈ TG := tg_1 237 rfl rfl
set_option maxRecDepth 8000 in
theorem fX11_47 : Fln RX11 RX11 TX11 47 9 := ⟨w_310, Or.inl rfl⟩
set_option maxRecDepth 8000 in
theorem w_311 : (Jvm.Cond.fieldLink "NextOneKnows" (51 : Nat) "NextOneKnows" "sizes" "[I") ∈ TG := tg_1 238 rfl rfl
set_option maxRecDepth 8000 in
theorem fX11_51 : Fln RX11 RX11 TX11 51 10 := ⟨w_311, Or.inl rfl⟩
set_option maxRecDepth 8000 in
theorem w_312 : (Jvm.Cond.fieldLink "NextOneKnows" (56 : Nat) "NextOneKnows" "items" "[[J") ∈ TG := tg_1 239 rfl rfl
set_option maxRecDepth 8000 in
theorem fX11_56 : Fln RX11 RX11 TX11 56 11 := ⟨w_312, Or.inl rfl⟩
set_option maxRecDepth 8000 in
theorem w_360 : (Jvm.Cond.fieldLink "NextOneKnows$Doing" (9 : Nat) "NextOneKnows$Doing" "i" "I") ∈ TG := tg_2 47 rfl rfl
set_option maxRecDepth 8000 in
theorem fX1_9 : Fln RX1 RX1 TX1 9 0 := ⟨w_360, Or.inl rfl⟩
set_option maxRecDepth 8000 in
theorem w_361 : (Jvm.Cond.fieldLink "NextOneKnows" (132 : Nat) "NextOneKnows$Doing" "i" "I") ∈ TG := tg_2 48 rfl rfl
set_option maxRecDepth 8000 in
theorem fX11_132 : Fln RX11 RX1 TX1 132 0 := ⟨w_361, Or.inl rfl⟩
set_option maxRecDepth 8000 in
theorem w_363 : (Jvm.Cond.sameField "NextOneKnows$Tied" "NextOneKnows$Doing" "i" "I") ∈ TG := tg_2 50 rfl rfl
set_option maxRecDepth 8000 in
theorem w_362 : (Jvm.Cond.fieldLink "NextOneKnows$Tied" (25 : Nat) "NextOneKnows$Tied" "i" "I") ∈ TG := tg_2 49 rfl rfl
set_option maxRecDepth 8000 in
theorem fX6_25 : Fln RX6 RX6 TX6 25 0 := ⟨w_362, Or.inr w_363⟩
set_option maxRecDepth 8000 in
theorem w_364 : (Jvm.Cond.fieldLink "NextOneKnows$Ahead" (93 : Nat) "NextOneKnows$Doing" "i" "I") ∈ TG := tg_2 51 rfl rfl
set_option maxRecDepth 8000 in
theorem fX0_93 : Fln RX0 RX1 TX1 93 0 := ⟨w_364, Or.inl rfl⟩
set_option maxRecDepth 8000 in
theorem w_365 : (Jvm.Cond.fieldLink "NextOneKnows$Post" (101 : Nat) "NextOneKnows$Doing" "i" "I") ∈ TG := tg_2 52 rfl rfl
set_option maxRecDepth 8000 in
theorem fX3_101 : Fln RX3 RX1 TX1 101 0 := ⟨w_365, Or.inl rfl⟩
set_option maxRecDepth 8000 in
theorem w_366 : (Jvm.Cond.fieldLink "NextOneKnows$Doing" (15 : Nat) "NextOneKnows$Doing" "v" "I") ∈ TG := tg_2 53 rfl rfl
set_option maxRecDepth 8000 in
theorem fX1_15 : Fln RX1 RX1 TX1 15 1 := ⟨w_366, Or.inl rfl⟩
set_option maxRecDepth 8000 in
theorem w_368 : (Jvm.Cond.sameField "NextOneKnows$Written" "NextOneKnows$Doing" "v" "I") ∈ TG := tg_2 55 rfl rfl
set_option maxRecDepth 8000 in
theorem w_367 : (Jvm.Cond.fieldLink "NextOneKnows$Written" (13 : Nat) "NextOneKnows$Written" "v" "I") ∈ TG := tg_2 54 rfl rfl
set_option maxRecDepth 8000 in
theorem fX9_13 : Fln RX9 RX9 TX9 13 1 := ⟨w_367, Or.inr w_368⟩
set_option maxRecDepth 8000 in
theorem w_370 : (Jvm.Cond.sameField "NextOneKnows$Wrong" "NextOneKnows$Doing" "v" "I") ∈ TG := tg_2 57 rfl rfl
set_option maxRecDepth 8000 in
theorem w_369 : (Jvm.Cond.fieldLink "NextOneKnows$Wrong" (11 : Nat) "NextOneKnows$Wrong" "v" "I") ∈ TG := tg_2 56 rfl rfl
set_option maxRecDepth 8000 in
theorem fX10_11 : Fln RX10 RX10 TX10 11 1 := ⟨w_369, Or.inr w_370⟩
set_option maxRecDepth 8000 in
theorem w_372 : (Jvm.Cond.sameField "NextOneKnows$Tied" "NextOneKnows$Doing" "v" "I") ∈ TG := tg_2 59 rfl rfl
set_option maxRecDepth 8000 in
theorem w_371 : (Jvm.Cond.fieldLink "NextOneKnows$Tied" (13 : Nat) "NextOneKnows$Tied" "v" "I") ∈ TG := tg_2 58 rfl rfl
set_option maxRecDepth 8000 in
theorem fX6_13 : Fln RX6 RX6 TX6 13 1 := ⟨w_371, Or.inr w_372⟩
set_option maxRecDepth 8000 in
theorem w_374 : (Jvm.Cond.sameField "NextOneKnows$Why" "NextOneKnows$Doing" "v" "I") ∈ TG := tg_2 61 rfl rfl
set_option maxRecDepth 8000 in
theorem w_373 : (Jvm.Cond.fieldLink "NextOneKnows$Why" (13 : Nat) "NextOneKnows$Why" "v" "I") ∈ TG := tg_2 60 rfl rfl
set_option maxRecDepth 8000 in
theorem fX8_13 : Fln RX8 RX8 TX8 13 1 := ⟨w_373, Or.inr w_374⟩
set_option maxRecDepth 8000 in
theorem w_375 : (Jvm.Cond.fieldLink "NextOneKnows" (94 : Nat) "NextOneKnows$Doing" "v" "I") ∈ TG := tg_2 62 rfl rfl
set_option maxRecDepth 8000 in
theorem fX11_94 : Fln RX11 RX1 TX1 94 1 := ⟨w_375, Or.inl rfl⟩
set_option maxRecDepth 8000 in
theorem w_377 : (Jvm.Cond.sameField "NextOneKnows$Plain" "NextOneKnows$Doing" "v" "I") ∈ TG := tg_2 64 rfl rfl
set_option maxRecDepth 8000 in
theorem w_376 : (Jvm.Cond.fieldLink "NextOneKnows$Plain" (9 : Nat) "NextOneKnows$Plain" "v" "I") ∈ TG := tg_2 63 rfl rfl
set_option maxRecDepth 8000 in
theorem fX2_9 : Fln RX2 RX2 TX2 9 1 := ⟨w_376, Or.inr w_377⟩
set_option maxRecDepth 8000 in
theorem w_379 : (Jvm.Cond.sameField "NextOneKnows$Rare" "NextOneKnows$Doing" "v" "I") ∈ TG := tg_2 66 rfl rfl
set_option maxRecDepth 8000 in
theorem w_378 : (Jvm.Cond.fieldLink "NextOneKnows$Rare" (13 : Nat) "NextOneKnows$Rare" "v" "I") ∈ TG := tg_2 65 rfl rfl
set_option maxRecDepth 8000 in
theorem fX4_13 : Fln RX4 RX4 TX4 13 1 := ⟨w_378, Or.inr w_379⟩
set_option maxRecDepth 8000 in
theorem w_380 : (Jvm.Cond.fieldLink "NextOneKnows$Post" (112 : Nat) "NextOneKnows$Doing" "v" "I") ∈ TG := tg_2 67 rfl rfl
set_option maxRecDepth 8000 in
theorem fX3_112 : Fln RX3 RX1 TX1 112 1 := ⟨w_380, Or.inl rfl⟩
set_option maxRecDepth 8000 in
theorem w_381 : (Jvm.Cond.fieldLink "NextOneKnows$Doing" (24 : Nat) "NextOneKnows$Doing" "round" "I") ∈ TG := tg_2 68 rfl rfl
set_option maxRecDepth 8000 in
theorem fX1_24 : Fln RX1 RX1 TX1 24 2 := ⟨w_381, Or.inl rfl⟩
set_option maxRecDepth 8000 in
theorem w_382 : (Jvm.Cond.fieldLink "NextOneKnows" (97 : Nat) "NextOneKnows$Doing" "round" "I") ∈ TG := tg_2 69 rfl rfl
set_option maxRecDepth 8000 in
theorem fX11_97 : Fln RX11 RX1 TX1 97 2 := ⟨w_382, Or.inl rfl⟩
set_option maxRecDepth 8000 in
theorem w_383 : (Jvm.Cond.fieldLink "NextOneKnows$Post" (109 : Nat) "NextOneKnows$Doing" "round" "I") ∈ TG := tg_2 70 rfl rfl
set_option maxRecDepth 8000 in
theorem fX3_109 : Fln RX3 RX1 TX1 109 2 := ⟨w_383, Or.inl rfl⟩
set_option maxRecDepth 8000 in
theorem w_384 : (Jvm.Cond.fieldLink "NextOneKnows$Doing" (27 : Nat) "NextOneKnows$Doing" "place" "I") ∈ TG := tg_2 71 rfl rfl
set_option maxRecDepth 8000 in
theorem fX1_27 : Fln RX1 RX1 TX1 27 3 := ⟨w_384, Or.inl rfl⟩
set_option maxRecDepth 8000 in
theorem w_385 : (Jvm.Cond.fieldLink "NextOneKnows" (100 : Nat) "NextOneKnows$Doing" "place" "I") ∈ TG := tg_2 72 rfl rfl
set_option maxRecDepth 8000 in
theorem fX11_100 : Fln RX11 RX1 TX1 100 3 := ⟨w_385, Or.inl rfl⟩
set_option maxRecDepth 8000 in
theorem w_386 : (Jvm.Cond.fieldLink "NextOneKnows$Doing" (30 : Nat) "NextOneKnows$Doing" "cost" "I") ∈ TG := tg_2 73 rfl rfl
set_option maxRecDepth 8000 in
theorem fX1_30 : Fln RX1 RX1 TX1 30 4 := ⟨w_386, Or.inl rfl⟩
set_option maxRecDepth 8000 in
theorem w_387 : (Jvm.Cond.fieldLink "NextOneKnows" (103 : Nat) "NextOneKnows$Doing" "cost" "I") ∈ TG := tg_2 74 rfl rfl
set_option maxRecDepth 8000 in
theorem fX11_103 : Fln RX11 RX1 TX1 103 4 := ⟨w_387, Or.inl rfl⟩
set_option maxRecDepth 8000 in
theorem w_388 : (Jvm.Cond.fieldLink "NextOneKnows$State" (80 : Nat) "NextOneKnows$Doing" "cost" "I") ∈ TG := tg_2 75 rfl rfl
set_option maxRecDepth 8000 in
theorem fX5_80 : Fln RX5 RX1 TX1 80 4 := ⟨w_388, Or.inl rfl⟩
set_option maxRecDepth 8000 in
theorem w_389 : (Jvm.Cond.fieldLink "NextOneKnows$Post" (115 : Nat) "NextOneKnows$Doing" "cost" "I") ∈ TG := tg_2 76 rfl rfl
set_option maxRecDepth 8000 in
theorem fX3_115 : Fln RX3 RX1 TX1 115 4 := ⟨w_389, Or.inl rfl⟩
set_option maxRecDepth 8000 in
theorem w_390 : (Jvm.Cond.fieldLink "NextOneKnows$Doing" (33 : Nat) "NextOneKnows$Doing" "need" "I") ∈ TG := tg_2 77 rfl rfl
set_option maxRecDepth 8000 in
theorem fX1_33 : Fln RX1 RX1 TX1 33 5 := ⟨w_390, Or.inl rfl⟩
set_option maxRecDepth 8000 in
theorem w_391 : (Jvm.Cond.fieldLink "NextOneKnows" (106 : Nat) "NextOneKnows$Doing" "need" "I") ∈ TG := tg_2 78 rfl rfl
set_option maxRecDepth 8000 in
theorem fX11_106 : Fln RX11 RX1 TX1 106 5 := ⟨w_391, Or.inl rfl⟩
set_option maxRecDepth 8000 in
theorem w_392 : (Jvm.Cond.fieldLink "NextOneKnows$Ahead" (108 : Nat) "NextOneKnows$Doing" "need" "I") ∈ TG := tg_2 79 rfl rfl
set_option maxRecDepth 8000 in
theorem fX0_108 : Fln RX0 RX1 TX1 108 5 := ⟨w_392, Or.inl rfl⟩
set_option maxRecDepth 8000 in
theorem w_1024 : (Jvm.Cond.fieldLink "NextOneKnowsModel" (7 : Nat) "NextOneKnowsModel" "doings" "I") ∈ TG := tg_4 231 rfl rfl
set_option maxRecDepth 8000 in
theorem fX12_7 : Fln RX12 RX12 TX12 7 0 := ⟨w_1024, Or.inl rfl⟩
set_option maxRecDepth 8000 in
theorem w_1025 : (Jvm.Cond.fieldLink "NextOneKnowsModel" (13 : Nat) "NextOneKnowsModel" "week" "I") ∈ TG := tg_4 232 rfl rfl
set_option maxRecDepth 8000 in
theorem fX12_13 : Fln RX12 RX12 TX12 13 1 := ⟨w_1025, Or.inl rfl⟩
set_option maxRecDepth 8000 in
theorem w_1026 : (Jvm.Cond.fieldLink "NextOneKnowsModel" (16 : Nat) "NextOneKnowsModel" "costs" "I") ∈ TG := tg_4 233 rfl rfl
set_option maxRecDepth 8000 in
theorem fX12_16 : Fln RX12 RX12 TX12 16 2 := ⟨w_1026, Or.inl rfl⟩
set_option maxRecDepth 8000 in
theorem w_1027 : (Jvm.Cond.fieldLink "NextOneKnowsModel" (19 : Nat) "NextOneKnowsModel" "stops" "I") ∈ TG := tg_4 234 rfl rfl
set_option maxRecDepth 8000 in
theorem fX12_19 : Fln RX12 RX12 TX12 19 3 := ⟨w_1027, Or.inl rfl⟩
set_option maxRecDepth 8000 in
theorem w_1028 : (Jvm.Cond.fieldLink "NextOneKnowsModel" (22 : Nat) "NextOneKnowsModel" "calls" "I") ∈ TG := tg_4 235 rfl rfl
set_option maxRecDepth 8000 in
theorem fX12_22 : Fln RX12 RX12 TX12 22 4 := ⟨w_1028, Or.inl rfl⟩
set_option maxRecDepth 8000 in
theorem w_1029 : (Jvm.Cond.fieldLink "NextOneKnowsModel" (25 : Nat) "NextOneKnowsModel" "knows" "I") ∈ TG := tg_4 236 rfl rfl
set_option maxRecDepth 8000 in
theorem fX12_25 : Fln RX12 RX12 TX12 25 5 := ⟨w_1029, Or.inl rfl⟩
set_option maxRecDepth 8000 in
theorem w_1030 : (Jvm.Cond.fieldLink "NextOneKnowsModel" (28 : Nat) "NextOneKnowsModel" "idle" "I") ∈ TG := tg_4 237 rfl rfl
set_option maxRecDepth 8000 in
theorem fX12_28 : Fln RX12 RX12 TX12 28 6 := ⟨w_1030, Or.inl rfl⟩
set_option maxRecDepth 8000 in
theorem w_1031 : (Jvm.Cond.fieldLink "NextOneKnowsModel" (31 : Nat) "NextOneKnowsModel" "kind" "[I") ∈ TG := tg_4 238 rfl rfl
set_option maxRecDepth 8000 in
theorem fX12_31 : Fln RX12 RX12 TX12 31 7 := ⟨w_1031, Or.inl rfl⟩
set_option maxRecDepth 8000 in
theorem w_1032 : (Jvm.Cond.fieldLink "NextOneKnowsModel" (35 : Nat) "NextOneKnowsModel" "v" "[I") ∈ TG := tg_4 239 rfl rfl
set_option maxRecDepth 8000 in
theorem fX12_35 : Fln RX12 RX12 TX12 35 8 := ⟨w_1032, Or.inl rfl⟩
set_option maxRecDepth 8000 in
theorem w_1033 : (Jvm.Cond.fieldLink "NextOneKnowsModel" (38 : Nat) "NextOneKnowsModel" "round" "[I") ∈ TG := tg_5 0 rfl rfl
set_option maxRecDepth 8000 in
theorem fX12_38 : Fln RX12 RX12 TX12 38 9 := ⟨w_1033, Or.inl rfl⟩
set_option maxRecDepth 8000 in
theorem w_1034 : (Jvm.Cond.fieldLink "NextOneKnowsModel" (41 : Nat) "NextOneKnowsModel" "place" "[I") ∈ TG := tg_5 1 rfl rfl
set_option maxRecDepth 8000 in
theorem fX12_41 : Fln RX12 RX12 TX12 41 10 := ⟨w_1034, Or.inl rfl⟩
set_option maxRecDepth 8000 in
theorem w_1035 : (Jvm.Cond.fieldLink "NextOneKnowsModel" (44 : Nat) "NextOneKnowsModel" "cost" "[I") ∈ TG := tg_5 2 rfl rfl
set_option maxRecDepth 8000 in
theorem fX12_44 : Fln RX12 RX12 TX12 44 11 := ⟨w_1035, Or.inl rfl⟩
set_option maxRecDepth 8000 in
theorem w_1036 : (Jvm.Cond.fieldLink "NextOneKnowsModel" (47 : Nat) "NextOneKnowsModel" "need" "[I") ∈ TG := tg_5 3 rfl rfl
set_option maxRecDepth 8000 in
theorem fX12_47 : Fln RX12 RX12 TX12 47 12 := ⟨w_1036, Or.inl rfl⟩
set_option maxRecDepth 8000 in
theorem w_1037 : (Jvm.Cond.fieldLink "NextOneKnowsModel" (50 : Nat) "NextOneKnowsModel" "odd" "[I") ∈ TG := tg_5 4 rfl rfl
set_option maxRecDepth 8000 in
theorem fX12_50 : Fln RX12 RX12 TX12 50 13 := ⟨w_1037, Or.inl rfl⟩
set_option maxRecDepth 8000 in
theorem w_1038 : (Jvm.Cond.fieldLink "NextOneKnowsModel" (53 : Nat) "NextOneKnowsModel" "hour" "[I") ∈ TG := tg_5 5 rfl rfl
set_option maxRecDepth 8000 in
theorem fX12_53 : Fln RX12 RX12 TX12 53 14 := ⟨w_1038, Or.inl rfl⟩
set_option maxRecDepth 8000 in
theorem w_1039 : (Jvm.Cond.fieldLink "NextOneKnowsModel" (56 : Nat) "NextOneKnowsModel" "posts" "I") ∈ TG := tg_5 6 rfl rfl
set_option maxRecDepth 8000 in
theorem fX12_56 : Fln RX12 RX12 TX12 56 15 := ⟨w_1039, Or.inl rfl⟩
set_option maxRecDepth 8000 in
theorem w_1040 : (Jvm.Cond.fieldLink "NextOneKnowsModel" (59 : Nat) "NextOneKnowsModel" "the" "I") ∈ TG := tg_5 7 rfl rfl
set_option maxRecDepth 8000 in
theorem fX12_59 : Fln RX12 RX12 TX12 59 16 := ⟨w_1040, Or.inl rfl⟩
set_option maxRecDepth 8000 in
theorem w_1041 : (Jvm.Cond.fieldLink "NextOneKnowsModel" (62 : Nat) "NextOneKnowsModel" "fed" "I") ∈ TG := tg_5 8 rfl rfl
set_option maxRecDepth 8000 in
theorem fX12_62 : Fln RX12 RX12 TX12 62 17 := ⟨w_1041, Or.inl rfl⟩
set_option maxRecDepth 8000 in
theorem w_1042 : (Jvm.Cond.fieldLink "NextOneKnowsModel" (65 : Nat) "NextOneKnowsModel" "at" "I") ∈ TG := tg_5 9 rfl rfl
set_option maxRecDepth 8000 in
theorem fX12_65 : Fln RX12 RX12 TX12 65 18 := ⟨w_1042, Or.inl rfl⟩
set_option maxRecDepth 8000 in
theorem w_1043 : (Jvm.Cond.fieldLink "NextOneKnowsModel" (68 : Nat) "NextOneKnowsModel" "digits" "I") ∈ TG := tg_5 10 rfl rfl
set_option maxRecDepth 8000 in
theorem fX12_68 : Fln RX12 RX12 TX12 68 19 := ⟨w_1043, Or.inl rfl⟩
set_option maxRecDepth 8000 in
theorem w_1044 : (Jvm.Cond.fieldLink "NextOneKnowsModel" (71 : Nat) "NextOneKnowsModel" "text" "[I") ∈ TG := tg_5 11 rfl rfl
set_option maxRecDepth 8000 in
theorem fX12_71 : Fln RX12 RX12 TX12 71 20 := ⟨w_1044, Or.inl rfl⟩
set_option maxRecDepth 8000 in
theorem w_1045 : (Jvm.Cond.fieldLink "NextOneKnowsModel" (74 : Nat) "NextOneKnowsModel" "clauses" "[I") ∈ TG := tg_5 12 rfl rfl
set_option maxRecDepth 8000 in
theorem fX12_74 : Fln RX12 RX12 TX12 74 21 := ⟨w_1045, Or.inl rfl⟩
set_option maxRecDepth 8000 in
theorem w_1046 : (Jvm.Cond.fieldLink "NextOneKnowsModel" (77 : Nat) "NextOneKnowsModel" "word" "[I") ∈ TG := tg_5 13 rfl rfl
set_option maxRecDepth 8000 in
theorem fX12_77 : Fln RX12 RX12 TX12 77 22 := ⟨w_1046, Or.inl rfl⟩
set_option maxRecDepth 8000 in
theorem w_1047 : (Jvm.Cond.fieldLink "NextOneKnowsModel" (80 : Nat) "NextOneKnowsModel" "number" "[I") ∈ TG := tg_5 14 rfl rfl
set_option maxRecDepth 8000 in
theorem fX12_80 : Fln RX12 RX12 TX12 80 23 := ⟨w_1047, Or.inl rfl⟩
set_option maxRecDepth 8000 in
theorem w_1048 : (Jvm.Cond.fieldLink "NextOneKnowsModel" (83 : Nat) "NextOneKnowsModel" "from" "[I") ∈ TG := tg_5 15 rfl rfl
set_option maxRecDepth 8000 in
theorem fX12_83 : Fln RX12 RX12 TX12 83 24 := ⟨w_1048, Or.inl rfl⟩
set_option maxRecDepth 8000 in
theorem w_1049 : (Jvm.Cond.fieldLink "NextOneKnowsModel" (86 : Nat) "NextOneKnowsModel" "to" "[I") ∈ TG := tg_5 16 rfl rfl
set_option maxRecDepth 8000 in
theorem fX12_86 : Fln RX12 RX12 TX12 86 25 := ⟨w_1049, Or.inl rfl⟩
set_option maxRecDepth 8000 in
theorem w_1050 : (Jvm.Cond.fieldLink "NextOneKnowsModel" (89 : Nat) "NextOneKnowsModel" "sign" "[I") ∈ TG := tg_5 17 rfl rfl
set_option maxRecDepth 8000 in
theorem fX12_89 : Fln RX12 RX12 TX12 89 26 := ⟨w_1050, Or.inl rfl⟩
set_option maxRecDepth 8000 in
theorem w_1051 : (Jvm.Cond.fieldLink "NextOneKnowsModel" (92 : Nat) "NextOneKnowsModel" "waits" "[I") ∈ TG := tg_5 18 rfl rfl
set_option maxRecDepth 8000 in
theorem fX12_92 : Fln RX12 RX12 TX12 92 27 := ⟨w_1051, Or.inl rfl⟩
set_option maxRecDepth 8000 in
theorem w_1052 : (Jvm.Cond.fieldLink "NextOneKnowsModel" (95 : Nat) "NextOneKnowsModel" "signs" "I") ∈ TG := tg_5 19 rfl rfl
set_option maxRecDepth 8000 in
theorem fX12_95 : Fln RX12 RX12 TX12 95 28 := ⟨w_1052, Or.inl rfl⟩
set_option maxRecDepth 8000 in
theorem w_1053 : (Jvm.Cond.fieldLink "NextOneKnowsModel" (98 : Nat) "NextOneKnowsModel" "waiting" "I") ∈ TG := tg_5 20 rfl rfl
set_option maxRecDepth 8000 in
theorem fX12_98 : Fln RX12 RX12 TX12 98 29 := ⟨w_1053, Or.inl rfl⟩
set_option maxRecDepth 8000 in
theorem w_1054 : (Jvm.Cond.fieldLink "NextOneKnowsModel" (101 : Nat) "NextOneKnowsModel" "open" "I") ∈ TG := tg_5 21 rfl rfl
set_option maxRecDepth 8000 in
theorem fX12_101 : Fln RX12 RX12 TX12 101 30 := ⟨w_1054, Or.inl rfl⟩
set_option maxRecDepth 8000 in
theorem w_1055 : (Jvm.Cond.fieldLink "NextOneKnowsModel" (104 : Nat) "NextOneKnowsModel" "letters" "[I") ∈ TG := tg_5 22 rfl rfl
set_option maxRecDepth 8000 in
theorem fX12_104 : Fln RX12 RX12 TX12 104 31 := ⟨w_1055, Or.inl rfl⟩
set_option maxRecDepth 8000 in
theorem w_1056 : (Jvm.Cond.fieldLink "NextOneKnowsModel" (107 : Nat) "NextOneKnowsModel" "pile" "[Z") ∈ TG := tg_5 23 rfl rfl
set_option maxRecDepth 8000 in
theorem fX12_107 : Fln RX12 RX12 TX12 107 32 := ⟨w_1056, Or.inl rfl⟩
set_option maxRecDepth 8000 in
theorem w_1057 : (Jvm.Cond.fieldLink "NextOneKnowsModel" (111 : Nat) "NextOneKnowsModel" "sayOf" "[I") ∈ TG := tg_5 24 rfl rfl
set_option maxRecDepth 8000 in
theorem fX12_111 : Fln RX12 RX12 TX12 111 33 := ⟨w_1057, Or.inl rfl⟩
set_option maxRecDepth 8000 in
theorem w_1058 : (Jvm.Cond.fieldLink "NextOneKnowsModel" (114 : Nat) "NextOneKnowsModel" "thenKnows" "I") ∈ TG := tg_5 25 rfl rfl
set_option maxRecDepth 8000 in
theorem fX12_114 : Fln RX12 RX12 TX12 114 34 := ⟨w_1058, Or.inl rfl⟩
set_option maxRecDepth 8000 in
theorem w_1059 : (Jvm.Cond.fieldLink "NextOneKnowsModel" (117 : Nat) "NextOneKnowsModel" "thenIdle" "I") ∈ TG := tg_5 26 rfl rfl
set_option maxRecDepth 8000 in
theorem fX12_117 : Fln RX12 RX12 TX12 117 35 := ⟨w_1059, Or.inl rfl⟩
set_option maxRecDepth 8000 in
theorem w_1060 : (Jvm.Cond.fieldLink "NextOneKnowsModel" (120 : Nat) "NextOneKnowsModel" "thenCosts" "I") ∈ TG := tg_5 27 rfl rfl
set_option maxRecDepth 8000 in
theorem fX12_120 : Fln RX12 RX12 TX12 120 36 := ⟨w_1060, Or.inl rfl⟩
set_option maxRecDepth 8000 in
theorem w_1061 : (Jvm.Cond.fieldLink "NextOneKnowsModel" (123 : Nat) "NextOneKnowsModel" "thenStops" "I") ∈ TG := tg_5 28 rfl rfl
set_option maxRecDepth 8000 in
theorem fX12_123 : Fln RX12 RX12 TX12 123 37 := ⟨w_1061, Or.inl rfl⟩
set_option maxRecDepth 8000 in
theorem w_1062 : (Jvm.Cond.fieldLink "NextOneKnowsModel" (126 : Nat) "NextOneKnowsModel" "thenCalls" "I") ∈ TG := tg_5 29 rfl rfl
set_option maxRecDepth 8000 in
theorem fX12_126 : Fln RX12 RX12 TX12 126 38 := ⟨w_1062, Or.inl rfl⟩
set_option maxRecDepth 8000 in
theorem w_1063 : (Jvm.Cond.fieldLink "NextOneKnowsModel" (129 : Nat) "NextOneKnowsModel" "firstWeek" "I") ∈ TG := tg_5 30 rfl rfl
set_option maxRecDepth 8000 in
theorem fX12_129 : Fln RX12 RX12 TX12 129 39 := ⟨w_1063, Or.inl rfl⟩
set_option maxRecDepth 8000 in
theorem w_1064 : (Jvm.Cond.fieldLink "NextOneKnowsModel" (132 : Nat) "NextOneKnowsModel" "firstDoing" "I") ∈ TG := tg_5 31 rfl rfl
set_option maxRecDepth 8000 in
theorem fX12_132 : Fln RX12 RX12 TX12 132 40 := ⟨w_1064, Or.inl rfl⟩
set_option maxRecDepth 8000 in
theorem w_1065 : (Jvm.Cond.fieldLink "NextOneKnowsModel" (135 : Nat) "NextOneKnowsModel" "stopped" "[Z") ∈ TG := tg_5 32 rfl rfl
set_option maxRecDepth 8000 in
theorem fX12_135 : Fln RX12 RX12 TX12 135 41 := ⟨w_1065, Or.inl rfl⟩
set_option maxRecDepth 8000 in
theorem w_1066 : (Jvm.Cond.fieldLink "NextOneKnowsModel" (138 : Nat) "NextOneKnowsModel" "hourWas" "[I") ∈ TG := tg_5 33 rfl rfl
set_option maxRecDepth 8000 in
theorem fX12_138 : Fln RX12 RX12 TX12 138 42 := ⟨w_1066, Or.inl rfl⟩
set_option maxRecDepth 8000 in
theorem w_1067 : (Jvm.Cond.fieldLink "NextOneKnowsModel" (141 : Nat) "NextOneKnowsModel" "bestHour" "[I") ∈ TG := tg_5 34 rfl rfl
set_option maxRecDepth 8000 in
theorem fX12_141 : Fln RX12 RX12 TX12 141 43 := ⟨w_1067, Or.inl rfl⟩
set_option maxRecDepth 8000 in
theorem w_1068 : (Jvm.Cond.fieldLink "NextOneKnowsModel" (144 : Nat) "NextOneKnowsModel" "rows" "I") ∈ TG := tg_5 35 rfl rfl
set_option maxRecDepth 8000 in
theorem fX12_144 : Fln RX12 RX12 TX12 144 44 := ⟨w_1068, Or.inl rfl⟩
set_option maxRecDepth 8000 in
theorem w_1069 : (Jvm.Cond.fieldLink "NextOneKnowsModel" (147 : Nat) "NextOneKnowsModel" "rowWeek" "[I") ∈ TG := tg_5 36 rfl rfl
set_option maxRecDepth 8000 in
theorem fX12_147 : Fln RX12 RX12 TX12 147 45 := ⟨w_1069, Or.inl rfl⟩
set_option maxRecDepth 8000 in
theorem w_1070 : (Jvm.Cond.fieldLink "NextOneKnowsModel" (150 : Nat) "NextOneKnowsModel" "rowDoing" "[I") ∈ TG := tg_5 37 rfl rfl
set_option maxRecDepth 8000 in
theorem fX12_150 : Fln RX12 RX12 TX12 150 46 := ⟨w_1070, Or.inl rfl⟩
set_option maxRecDepth 8000 in
theorem w_1071 : (Jvm.Cond.fieldLink "NextOneKnowsModel" (153 : Nat) "NextOneKnowsModel" "hasImage" "Z") ∈ TG := tg_5 38 rfl rfl
set_option maxRecDepth 8000 in
theorem fX12_153 : Fln RX12 RX12 TX12 153 47 := ⟨w_1071, Or.inl rfl⟩
set_option maxRecDepth 8000 in
theorem w_1072 : (Jvm.Cond.fieldLink "NextOneKnowsModel" (157 : Nat) "NextOneKnowsModel" "imageThe" "I") ∈ TG := tg_5 39 rfl rfl
set_option maxRecDepth 8000 in
theorem fX12_157 : Fln RX12 RX12 TX12 157 48 := ⟨w_1072, Or.inl rfl⟩
set_option maxRecDepth 8000 in
theorem w_1073 : (Jvm.Cond.fieldLink "NextOneKnowsModel" (160 : Nat) "NextOneKnowsModel" "imageDoings" "I") ∈ TG := tg_5 40 rfl rfl
set_option maxRecDepth 8000 in
theorem fX12_160 : Fln RX12 RX12 TX12 160 49 := ⟨w_1073, Or.inl rfl⟩
set_option maxRecDepth 8000 in
theorem w_1074 : (Jvm.Cond.fieldLink "NextOneKnowsModel" (163 : Nat) "NextOneKnowsModel" "imageWeek" "I") ∈ TG := tg_5 41 rfl rfl
set_option maxRecDepth 8000 in
theorem fX12_163 : Fln RX12 RX12 TX12 163 50 := ⟨w_1074, Or.inl rfl⟩
set_option maxRecDepth 8000 in
theorem w_1075 : (Jvm.Cond.fieldLink "NextOneKnowsModel" (166 : Nat) "NextOneKnowsModel" "imageCosts" "I") ∈ TG := tg_5 42 rfl rfl
set_option maxRecDepth 8000 in
theorem fX12_166 : Fln RX12 RX12 TX12 166 51 := ⟨w_1075, Or.inl rfl⟩
set_option maxRecDepth 8000 in
theorem w_1076 : (Jvm.Cond.fieldLink "NextOneKnowsModel" (169 : Nat) "NextOneKnowsModel" "imageStops" "I") ∈ TG := tg_5 43 rfl rfl
set_option maxRecDepth 8000 in
theorem fX12_169 : Fln RX12 RX12 TX12 169 52 := ⟨w_1076, Or.inl rfl⟩
set_option maxRecDepth 8000 in
theorem w_1077 : (Jvm.Cond.fieldLink "NextOneKnowsModel" (172 : Nat) "NextOneKnowsModel" "imageCalls" "I") ∈ TG := tg_5 44 rfl rfl
set_option maxRecDepth 8000 in
theorem fX12_172 : Fln RX12 RX12 TX12 172 53 := ⟨w_1077, Or.inl rfl⟩
set_option maxRecDepth 8000 in
theorem w_1078 : (Jvm.Cond.fieldLink "NextOneKnowsModel" (175 : Nat) "NextOneKnowsModel" "imageKnows" "I") ∈ TG := tg_5 45 rfl rfl
set_option maxRecDepth 8000 in
theorem fX12_175 : Fln RX12 RX12 TX12 175 54 := ⟨w_1078, Or.inl rfl⟩
set_option maxRecDepth 8000 in
theorem w_1079 : (Jvm.Cond.fieldLink "NextOneKnowsModel" (178 : Nat) "NextOneKnowsModel" "imageIdle" "I") ∈ TG := tg_5 46 rfl rfl
set_option maxRecDepth 8000 in
theorem fX12_178 : Fln RX12 RX12 TX12 178 55 := ⟨w_1079, Or.inl rfl⟩
set_option maxRecDepth 8000 in
theorem w_1080 : (Jvm.Cond.fieldLink "NextOneKnowsModel" (181 : Nat) "NextOneKnowsModel" "imageRows" "I") ∈ TG := tg_5 47 rfl rfl
set_option maxRecDepth 8000 in
theorem fX12_181 : Fln RX12 RX12 TX12 181 56 := ⟨w_1080, Or.inl rfl⟩
set_option maxRecDepth 8000 in
theorem w_1081 : (Jvm.Cond.fieldLink "NextOneKnowsModel" (184 : Nat) "NextOneKnowsModel" "imageKind" "[I") ∈ TG := tg_5 48 rfl rfl
set_option maxRecDepth 8000 in
theorem fX12_184 : Fln RX12 RX12 TX12 184 57 := ⟨w_1081, Or.inl rfl⟩
set_option maxRecDepth 8000 in
theorem w_1082 : (Jvm.Cond.fieldLink "NextOneKnowsModel" (187 : Nat) "NextOneKnowsModel" "imageV" "[I") ∈ TG := tg_5 49 rfl rfl
set_option maxRecDepth 8000 in
theorem fX12_187 : Fln RX12 RX12 TX12 187 58 := ⟨w_1082, Or.inl rfl⟩
set_option maxRecDepth 8000 in
theorem w_1083 : (Jvm.Cond.fieldLink "NextOneKnowsModel" (190 : Nat) "NextOneKnowsModel" "imageRound" "[I") ∈ TG := tg_5 50 rfl rfl
set_option maxRecDepth 8000 in
theorem fX12_190 : Fln RX12 RX12 TX12 190 59 := ⟨w_1083, Or.inl rfl⟩
set_option maxRecDepth 8000 in
theorem w_1084 : (Jvm.Cond.fieldLink "NextOneKnowsModel" (193 : Nat) "NextOneKnowsModel" "imagePlace" "[I") ∈ TG := tg_5 51 rfl rfl
set_option maxRecDepth 8000 in
theorem fX12_193 : Fln RX12 RX12 TX12 193 60 := ⟨w_1084, Or.inl rfl⟩
set_option maxRecDepth 8000 in
theorem w_1085 : (Jvm.Cond.fieldLink "NextOneKnowsModel" (196 : Nat) "NextOneKnowsModel" "imageCost" "[I") ∈ TG := tg_5 52 rfl rfl
set_option maxRecDepth 8000 in
theorem fX12_196 : Fln RX12 RX12 TX12 196 61 := ⟨w_1085, Or.inl rfl⟩
set_option maxRecDepth 8000 in
theorem w_1086 : (Jvm.Cond.fieldLink "NextOneKnowsModel" (199 : Nat) "NextOneKnowsModel" "imageNeed" "[I") ∈ TG := tg_5 53 rfl rfl
set_option maxRecDepth 8000 in
theorem fX12_199 : Fln RX12 RX12 TX12 199 62 := ⟨w_1086, Or.inl rfl⟩
set_option maxRecDepth 8000 in
theorem w_1087 : (Jvm.Cond.fieldLink "NextOneKnowsModel" (202 : Nat) "NextOneKnowsModel" "imageOdd" "[I") ∈ TG := tg_5 54 rfl rfl
set_option maxRecDepth 8000 in
theorem fX12_202 : Fln RX12 RX12 TX12 202 63 := ⟨w_1087, Or.inl rfl⟩
set_option maxRecDepth 8000 in
theorem w_1088 : (Jvm.Cond.fieldLink "NextOneKnowsModel" (205 : Nat) "NextOneKnowsModel" "imageHour" "[I") ∈ TG := tg_5 55 rfl rfl
set_option maxRecDepth 8000 in
theorem fX12_205 : Fln RX12 RX12 TX12 205 64 := ⟨w_1088, Or.inl rfl⟩
set_option maxRecDepth 8000 in
theorem w_1089 : (Jvm.Cond.fieldLink "NextOneKnowsModel" (208 : Nat) "NextOneKnowsModel" "imageRowWeek" "[I") ∈ TG := tg_5 56 rfl rfl
set_option maxRecDepth 8000 in
theorem fX12_208 : Fln RX12 RX12 TX12 208 65 := ⟨w_1089, Or.inl rfl⟩
set_option maxRecDepth 8000 in
theorem w_1090 : (Jvm.Cond.fieldLink "NextOneKnowsModel" (211 : Nat) "NextOneKnowsModel" "imageRowDoing" "[I") ∈ TG := tg_5 57 rfl rfl
set_option maxRecDepth 8000 in
theorem fX12_211 : Fln RX12 RX12 TX12 211 66 := ⟨w_1090, Or.inl rfl⟩
set_option maxRecDepth 8000 in
theorem w_1091 : (Jvm.Cond.fieldLink "NextOneKnowsModel" (214 : Nat) "NextOneKnowsModel" "ran" "I") ∈ TG := tg_5 58 rfl rfl
set_option maxRecDepth 8000 in
theorem fX12_214 : Fln RX12 RX12 TX12 214 67 := ⟨w_1091, Or.inl rfl⟩
set_option maxRecDepth 8000 in
theorem w_1092 : (Jvm.Cond.fieldLink "NextOneKnowsModel" (217 : Nat) "NextOneKnowsModel" "bodies" "[I") ∈ TG := tg_5 59 rfl rfl
set_option maxRecDepth 8000 in
theorem fX12_217 : Fln RX12 RX12 TX12 217 68 := ⟨w_1092, Or.inl rfl⟩
set_option maxRecDepth 8000 in
theorem w_1093 : (Jvm.Cond.fieldLink "NextOneKnowsModel" (220 : Nat) "NextOneKnowsModel" "sort" "[I") ∈ TG := tg_5 60 rfl rfl
set_option maxRecDepth 8000 in
theorem fX12_220 : Fln RX12 RX12 TX12 220 69 := ⟨w_1093, Or.inl rfl⟩
set_option maxRecDepth 8000 in
theorem w_1094 : (Jvm.Cond.fieldLink "NextOneKnowsModel" (223 : Nat) "NextOneKnowsModel" "length" "[I") ∈ TG := tg_5 61 rfl rfl
set_option maxRecDepth 8000 in
theorem fX12_223 : Fln RX12 RX12 TX12 223 70 := ⟨w_1094, Or.inl rfl⟩
set_option maxRecDepth 8000 in
theorem w_1095 : (Jvm.Cond.fieldLink "NextOneKnowsModel" (226 : Nat) "NextOneKnowsModel" "item" "[J") ∈ TG := tg_5 62 rfl rfl
set_option maxRecDepth 8000 in
theorem fX12_226 : Fln RX12 RX12 TX12 226 71 := ⟨w_1095, Or.inl rfl⟩
set_option maxRecDepth 8000 in
theorem w_1096 : (Jvm.Cond.fieldLink "NextOneKnowsModel" (230 : Nat) "NextOneKnowsModel" "aside" "[J") ∈ TG := tg_5 63 rfl rfl
set_option maxRecDepth 8000 in
theorem fX12_230 : Fln RX12 RX12 TX12 230 72 := ⟨w_1096, Or.inl rfl⟩
set_option maxRecDepth 8000 in
theorem w_95 : (Jvm.Cond.code ({ cls := "NextOneKnows", name := "<init>", desc := "()V" } : Jvm.MethodName) prog_1_method_1_code (2 : Nat) (Option.none : Option Jvm.ClassFile.FieldType)) ∈ TG := tg_1 22 rfl rfl
set_option maxRecDepth 8000 in
theorem kX11_init : Cond.code mX11_init.1 mX11_init.2.1 mX11_init.2.2.1 mX11_init.2.2.2 ∈ TG := w_95
set_option maxRecDepth 8000 in
theorem w_103 : (Jvm.Cond.code ({ cls := "NextOneKnows$State", name := "<init>", desc := "()V" } : Jvm.MethodName) prog_7_method_1_code (1 : Nat) (Option.none : Option Jvm.ClassFile.FieldType)) ∈ TG := tg_1 30 rfl rfl
set_option maxRecDepth 8000 in
theorem kX5_init : Cond.code mX5_init.1 mX5_init.2.1 mX5_init.2.2.1 mX5_init.2.2.2 ∈ TG := w_103
set_option maxRecDepth 8000 in
theorem w_174 : (Jvm.Cond.code ({ cls := "NextOneKnows$Ahead", name := "<init>", desc := "(LNextOneKnows$State;)V" } : Jvm.MethodName) prog_2_method_1_code (2 : Nat) (Option.none : Option Jvm.ClassFile.FieldType)) ∈ TG := tg_1 101 rfl rfl
set_option maxRecDepth 8000 in
theorem kX0_init : Cond.code mX0_init.1 mX0_init.2.1 mX0_init.2.2.1 mX0_init.2.2.2 ∈ TG := w_174
set_option maxRecDepth 8000 in
theorem w_239 : (Jvm.Cond.code ({ cls := "NextOneKnows$Trace", name := "<init>", desc := "()V" } : Jvm.MethodName) prog_9_method_1_code (1 : Nat) (Option.none : Option Jvm.ClassFile.FieldType)) ∈ TG := tg_1 166 rfl rfl
set_option maxRecDepth 8000 in
theorem kX7_init : Cond.code mX7_init.1 mX7_init.2.1 mX7_init.2.2.1 mX7_init.2.2.2 ∈ TG := w_239
set_option maxRecDepth 8000 in
theorem w_255 : (Jvm.Cond.code ({ cls := "java/util/Arrays", name := "fill", desc := "([II)V" } : Jvm.MethodName) prog_18_method_103_code (4 : Nat) (Option.none : Option Jvm.ClassFile.FieldType)) ∈ TG := tg_1 182 rfl rfl
set_option maxRecDepth 8000 in
theorem kJ7_fill_53178 : Cond.code mJ7_fill_53178.1 mJ7_fill_53178.2.1 mJ7_fill_53178.2.2.1 mJ7_fill_53178.2.2.2 ∈ TG := w_255
set_option maxRecDepth 8000 in
theorem w_259 : (Jvm.Cond.code ({ cls := "NextOneKnows$Post", name := "<init>", desc := "([B)V" } : Jvm.MethodName) prog_5_method_1_code (2 : Nat) (Option.none : Option Jvm.ClassFile.FieldType)) ∈ TG := tg_1 186 rfl rfl
set_option maxRecDepth 8000 in
theorem kX3_init : Cond.code mX3_init.1 mX3_init.2.1 mX3_init.2.2.1 mX3_init.2.2.2 ∈ TG := w_259
set_option maxRecDepth 8000 in
theorem w_341 : (Jvm.Cond.code ({ cls := "NextOneKnows", name := "doing", desc := "(IIIIII)I" } : Jvm.MethodName) prog_1_method_2_code (7 : Nat) (Option.some Jvm.ClassFile.FieldType.int)) ∈ TG := tg_2 28 rfl rfl
set_option maxRecDepth 8000 in
theorem kX11_doing : Cond.code mX11_doing.1 mX11_doing.2.1 mX11_doing.2.2.1 mX11_doing.2.2.2 ∈ TG := w_341
set_option maxRecDepth 8000 in
theorem w_344 : (Jvm.Cond.code ({ cls := "NextOneKnows", name := "isNot", desc := "(III)Z" } : Jvm.MethodName) prog_1_method_37_code (3 : Nat) (Option.some Jvm.ClassFile.FieldType.boolean)) ∈ TG := tg_2 31 rfl rfl
set_option maxRecDepth 8000 in
theorem kX11_isNot : Cond.code mX11_isNot.1 mX11_isNot.2.1 mX11_isNot.2.2.1 mX11_isNot.2.2.2 ∈ TG := w_344
set_option maxRecDepth 8000 in
theorem w_347 : (Jvm.Cond.code ({ cls := "NextOneKnows", name := "made", desc := "(IIIIIII)LNextOneKnows$Doing;" } : Jvm.MethodName) prog_1_method_42_code (7 : Nat) (Option.some (Jvm.ClassFile.FieldType.object "NextOneKnows$Doing"))) ∈ TG := tg_2 34 rfl rfl
set_option maxRecDepth 8000 in
theorem kX11_made : Cond.code mX11_made.1 mX11_made.2.1 mX11_made.2.2.1 mX11_made.2.2.2 ∈ TG := w_347
set_option maxRecDepth 8000 in
theorem w_352 : (Jvm.Cond.code ({ cls := "NextOneKnows$Written", name := "<init>", desc := "(IIIIII)V" } : Jvm.MethodName) prog_11_method_1_code (7 : Nat) (Option.none : Option Jvm.ClassFile.FieldType)) ∈ TG := tg_2 39 rfl rfl
set_option maxRecDepth 8000 in
theorem kX9_init : Cond.code mX9_init.1 mX9_init.2.1 mX9_init.2.2.1 mX9_init.2.2.2 ∈ TG := w_352
set_option maxRecDepth 8000 in
theorem w_355 : (Jvm.Cond.code ({ cls := "NextOneKnows$Doing", name := "<init>", desc := "(IIIIII)V" } : Jvm.MethodName) prog_3_method_1_code (7 : Nat) (Option.none : Option Jvm.ClassFile.FieldType)) ∈ TG := tg_2 42 rfl rfl
set_option maxRecDepth 8000 in
theorem kX1_init : Cond.code mX1_init.1 mX1_init.2.1 mX1_init.2.2.1 mX1_init.2.2.2 ∈ TG := w_355
set_option maxRecDepth 8000 in
theorem w_359 : (Jvm.Cond.code ({ cls := "java/lang/Math", name := "max", desc := "(II)I" } : Jvm.MethodName) prog_16_method_65_code (2 : Nat) (Option.some Jvm.ClassFile.FieldType.int)) ∈ TG := tg_2 46 rfl rfl
set_option maxRecDepth 8000 in
theorem kJ9_max_7cf53 : Cond.code mJ9_max_7cf53.1 mJ9_max_7cf53.2.1 mJ9_max_7cf53.2.2.1 mJ9_max_7cf53.2.2.2 ∈ TG := w_359
set_option maxRecDepth 8000 in
theorem w_410 : (Jvm.Cond.code ({ cls := "NextOneKnows$Plain", name := "<init>", desc := "(IIIIII)V" } : Jvm.MethodName) prog_4_method_1_code (7 : Nat) (Option.none : Option Jvm.ClassFile.FieldType)) ∈ TG := tg_2 97 rfl rfl
set_option maxRecDepth 8000 in
theorem kX2_init : Cond.code mX2_init.1 mX2_init.2.1 mX2_init.2.2.1 mX2_init.2.2.2 ∈ TG := w_410
set_option maxRecDepth 8000 in
theorem w_423 : (Jvm.Cond.code ({ cls := "NextOneKnows$Rare", name := "<init>", desc := "(IIIIII)V" } : Jvm.MethodName) prog_6_method_1_code (7 : Nat) (Option.none : Option Jvm.ClassFile.FieldType)) ∈ TG := tg_2 110 rfl rfl
set_option maxRecDepth 8000 in
theorem kX4_init : Cond.code mX4_init.1 mX4_init.2.1 mX4_init.2.2.1 mX4_init.2.2.2 ∈ TG := w_423
set_option maxRecDepth 8000 in
theorem w_436 : (Jvm.Cond.code ({ cls := "NextOneKnows$Why", name := "<init>", desc := "(IIIIII)V" } : Jvm.MethodName) prog_10_method_1_code (7 : Nat) (Option.none : Option Jvm.ClassFile.FieldType)) ∈ TG := tg_2 123 rfl rfl
set_option maxRecDepth 8000 in
theorem kX8_init : Cond.code mX8_init.1 mX8_init.2.1 mX8_init.2.2.1 mX8_init.2.2.2 ∈ TG := w_436
set_option maxRecDepth 8000 in
theorem w_449 : (Jvm.Cond.code ({ cls := "NextOneKnows$Tied", name := "<init>", desc := "(IIIIII)V" } : Jvm.MethodName) prog_8_method_1_code (7 : Nat) (Option.none : Option Jvm.ClassFile.FieldType)) ∈ TG := tg_2 136 rfl rfl
set_option maxRecDepth 8000 in
theorem kX6_init : Cond.code mX6_init.1 mX6_init.2.1 mX6_init.2.2.1 mX6_init.2.2.2 ∈ TG := w_449
set_option maxRecDepth 8000 in
theorem w_462 : (Jvm.Cond.code ({ cls := "NextOneKnows$Wrong", name := "<init>", desc := "(IIIIII)V" } : Jvm.MethodName) prog_12_method_1_code (7 : Nat) (Option.none : Option Jvm.ClassFile.FieldType)) ∈ TG := tg_2 149 rfl rfl
set_option maxRecDepth 8000 in
theorem kX10_init : Cond.code mX10_init.1 mX10_init.2.1 mX10_init.2.2.1 mX10_init.2.2.2 ∈ TG := w_462
set_option maxRecDepth 8000 in
theorem w_484 : (Jvm.Cond.code ({ cls := "NextOneKnows$State", name := "add", desc := "(LNextOneKnows$Doing;)I" } : Jvm.MethodName) prog_7_method_4_code (2 : Nat) (Option.some Jvm.ClassFile.FieldType.int)) ∈ TG := tg_2 171 rfl rfl
set_option maxRecDepth 8000 in
theorem kX5_add : Cond.code mX5_add.1 mX5_add.2.1 mX5_add.2.2.1 mX5_add.2.2.2 ∈ TG := w_484
set_option maxRecDepth 8000 in
theorem w_488 : (Jvm.Cond.code ({ cls := "NextOneKnows", name := "of", desc := "(II)I" } : Jvm.MethodName) prog_1_method_3_code (4 : Nat) (Option.some Jvm.ClassFile.FieldType.int)) ∈ TG := tg_2 175 rfl rfl
set_option maxRecDepth 8000 in
theorem kX11_of : Cond.code mX11_of.1 mX11_of.2.1 mX11_of.2.2.1 mX11_of.2.2.2 ∈ TG := w_488
set_option maxRecDepth 8000 in
theorem w_492 : (Jvm.Cond.code ({ cls := "NextOneKnows$State", name := "find", desc := "(I)LNextOneKnows$Doing;" } : Jvm.MethodName) prog_7_method_3_code (2 : Nat) (Option.some (Jvm.ClassFile.FieldType.object "NextOneKnows$Doing"))) ∈ TG := tg_2 179 rfl rfl
set_option maxRecDepth 8000 in
theorem kX5_find : Cond.code mX5_find.1 mX5_find.2.1 mX5_find.2.2.1 mX5_find.2.2.2 ∈ TG := w_492
set_option maxRecDepth 8000 in
theorem w_499 : (Jvm.Cond.code ({ cls := "NextOneKnows$Plain", name := "kind", desc := "()I" } : Jvm.MethodName) prog_4_method_2_code (1 : Nat) (Option.some Jvm.ClassFile.FieldType.int)) ∈ TG := tg_2 186 rfl rfl
set_option maxRecDepth 8000 in
theorem kX2_kind : Cond.code mX2_kind.1 mX2_kind.2.1 mX2_kind.2.2.1 mX2_kind.2.2.2 ∈ TG := w_499
set_option maxRecDepth 8000 in
theorem w_502 : (Jvm.Cond.code ({ cls := "NextOneKnows$Rare", name := "kind", desc := "()I" } : Jvm.MethodName) prog_6_method_2_code (1 : Nat) (Option.some Jvm.ClassFile.FieldType.int)) ∈ TG := tg_2 189 rfl rfl
set_option maxRecDepth 8000 in
theorem kX4_kind : Cond.code mX4_kind.1 mX4_kind.2.1 mX4_kind.2.2.1 mX4_kind.2.2.2 ∈ TG := w_502
set_option maxRecDepth 8000 in
theorem w_505 : (Jvm.Cond.code ({ cls := "NextOneKnows$Tied", name := "kind", desc := "()I" } : Jvm.MethodName) prog_8_method_2_code (1 : Nat) (Option.some Jvm.ClassFile.FieldType.int)) ∈ TG := tg_2 192 rfl rfl
set_option maxRecDepth 8000 in
theorem kX6_kind : Cond.code mX6_kind.1 mX6_kind.2.1 mX6_kind.2.2.1 mX6_kind.2.2.2 ∈ TG := w_505
set_option maxRecDepth 8000 in
theorem w_508 : (Jvm.Cond.code ({ cls := "NextOneKnows$Why", name := "kind", desc := "()I" } : Jvm.MethodName) prog_10_method_2_code (1 : Nat) (Option.some Jvm.ClassFile.FieldType.int)) ∈ TG := tg_2 195 rfl rfl
set_option maxRecDepth 8000 in
theorem kX8_kind : Cond.code mX8_kind.1 mX8_kind.2.1 mX8_kind.2.2.1 mX8_kind.2.2.2 ∈ TG := w_508
set_option maxRecDepth 8000 in
theorem w_511 : (Jvm.Cond.code ({ cls := "NextOneKnows$Written", name := "kind", desc := "()I" } : Jvm.MethodName) prog_11_method_2_code (1 : Nat) (Option.some Jvm.ClassFile.FieldType.int)) ∈ TG := tg_2 198 rfl rfl
set_option maxRecDepth 8000 in
theorem kX9_kind : Cond.code mX9_kind.1 mX9_kind.2.1 mX9_kind.2.2.1 mX9_kind.2.2.2 ∈ TG := w_511
set_option maxRecDepth 8000 in
theorem w_514 : (Jvm.Cond.code ({ cls := "NextOneKnows$Wrong", name := "kind", desc := "()I" } : Jvm.MethodName) prog_12_method_2_code (1 : Nat) (Option.some Jvm.ClassFile.FieldType.int)) ∈ TG := tg_2 201 rfl rfl
set_option maxRecDepth 8000 in
theorem kX10_kind : Cond.code mX10_kind.1 mX10_kind.2.1 mX10_kind.2.2.1 mX10_kind.2.2.2 ∈ TG := w_514
set_option maxRecDepth 8000 in
theorem w_515 : (Jvm.Cond.code ({ cls := "NextOneKnows$Doing", name := "kind", desc := "()I" } : Jvm.MethodName) prog_3_method_2_code (1 : Nat) (Option.some Jvm.ClassFile.FieldType.int)) ∈ TG := tg_2 202 rfl rfl
set_option maxRecDepth 8000 in
theorem kX1_kind : Cond.code mX1_kind.1 mX1_kind.2.1 mX1_kind.2.2.1 mX1_kind.2.2.2 ∈ TG := w_515
set_option maxRecDepth 8000 in
theorem w_518 : (Jvm.Cond.code ({ cls := "NextOneKnows", name := "bit", desc := "(II)I" } : Jvm.MethodName) prog_1_method_38_code (2 : Nat) (Option.some Jvm.ClassFile.FieldType.int)) ∈ TG := tg_2 205 rfl rfl
set_option maxRecDepth 8000 in
theorem kX11_bit : Cond.code mX11_bit.1 mX11_bit.2.1 mX11_bit.2.2.1 mX11_bit.2.2.2 ∈ TG := w_518
set_option maxRecDepth 8000 in
theorem w_522 : (Jvm.Cond.code ({ cls := "NextOneKnows$Ahead", name := "saidOf", desc := "(LNextOneKnows$Doing;)I" } : Jvm.MethodName) prog_2_method_7_code (2 : Nat) (Option.some Jvm.ClassFile.FieldType.int)) ∈ TG := tg_2 209 rfl rfl
set_option maxRecDepth 8000 in
theorem kX0_saidOf : Cond.code mX0_saidOf.1 mX0_saidOf.2.1 mX0_saidOf.2.2.1 mX0_saidOf.2.2.2 ∈ TG := w_522
set_option maxRecDepth 8000 in
theorem w_526 : (Jvm.Cond.code ({ cls := "NextOneKnows$Ahead", name := "hearOf", desc := "(LNextOneKnows$Doing;)V" } : Jvm.MethodName) prog_2_method_6_code (3 : Nat) (Option.none : Option Jvm.ClassFile.FieldType)) ∈ TG := tg_2 213 rfl rfl
set_option maxRecDepth 8000 in
theorem kX0_hearOf : Cond.code mX0_hearOf.1 mX0_hearOf.2.1 mX0_hearOf.2.2.1 mX0_hearOf.2.2.2 ∈ TG := w_526
set_option maxRecDepth 8000 in
theorem w_530 : (Jvm.Cond.code ({ cls := "NextOneKnows$State", name := "saidBy", desc := "(LNextOneKnows$Doing;I)I" } : Jvm.MethodName) prog_7_method_8_code (3 : Nat) (Option.some Jvm.ClassFile.FieldType.int)) ∈ TG := tg_2 217 rfl rfl
set_option maxRecDepth 8000 in
theorem kX5_saidBy : Cond.code mX5_saidBy.1 mX5_saidBy.2.1 mX5_saidBy.2.2.1 mX5_saidBy.2.2.2 ∈ TG := w_530
set_option maxRecDepth 8000 in
theorem w_534 : (Jvm.Cond.code ({ cls := "NextOneKnows$Post", name := "together", desc := "(ILNextOneKnows$Doing;II)I" } : Jvm.MethodName) prog_5_method_14_code (7 : Nat) (Option.some Jvm.ClassFile.FieldType.int)) ∈ TG := tg_2 221 rfl rfl
set_option maxRecDepth 8000 in
theorem kX3_together : Cond.code mX3_together.1 mX3_together.2.1 mX3_together.2.2.1 mX3_together.2.2.2 ∈ TG := w_534
set_option maxRecDepth 8000 in
theorem w_538 : (Jvm.Cond.code ({ cls := "NextOneKnows$Post", name := "holds", desc := "(ILNextOneKnows$Doing;II)Z" } : Jvm.MethodName) prog_5_method_15_code (8 : Nat) (Option.some Jvm.ClassFile.FieldType.boolean)) ∈ TG := tg_2 225 rfl rfl
set_option maxRecDepth 8000 in
theorem kX3_holds : Cond.code mX3_holds.1 mX3_holds.2.1 mX3_holds.2.2.1 mX3_holds.2.2.2 ∈ TG := w_538
set_option maxRecDepth 8000 in
theorem w_541 : (Jvm.Cond.code ({ cls := "NextOneKnows$Post", name := "passes", desc := "(ILNextOneKnows$Doing;II)Z" } : Jvm.MethodName) prog_5_method_16_code (6 : Nat) (Option.some Jvm.ClassFile.FieldType.boolean)) ∈ TG := tg_2 228 rfl rfl
set_option maxRecDepth 8000 in
theorem kX3_passes : Cond.code mX3_passes.1 mX3_passes.2.1 mX3_passes.2.2.1 mX3_passes.2.2.2 ∈ TG := w_541
set_option maxRecDepth 8000 in
theorem w_549 : (Jvm.Cond.code ({ cls := "NextOneKnows$Plain", name := "saidOver", desc := "([I[I)I" } : Jvm.MethodName) prog_4_method_3_code (3 : Nat) (Option.some Jvm.ClassFile.FieldType.int)) ∈ TG := tg_2 236 rfl rfl
set_option maxRecDepth 8000 in
theorem kX2_saidOver : Cond.code mX2_saidOver.1 mX2_saidOver.2.1 mX2_saidOver.2.2.1 mX2_saidOver.2.2.2 ∈ TG := w_549
set_option maxRecDepth 8000 in
theorem w_552 : (Jvm.Cond.code ({ cls := "NextOneKnows$Rare", name := "saidOver", desc := "([I[I)I" } : Jvm.MethodName) prog_6_method_3_code (3 : Nat) (Option.some Jvm.ClassFile.FieldType.int)) ∈ TG := tg_2 239 rfl rfl
set_option maxRecDepth 8000 in
theorem kX4_saidOver : Cond.code mX4_saidOver.1 mX4_saidOver.2.1 mX4_saidOver.2.2.1 mX4_saidOver.2.2.2 ∈ TG := w_552
set_option maxRecDepth 8000 in
theorem w_556 : (Jvm.Cond.code ({ cls := "NextOneKnows$Tied", name := "saidOver", desc := "([I[I)I" } : Jvm.MethodName) prog_8_method_3_code (3 : Nat) (Option.some Jvm.ClassFile.FieldType.int)) ∈ TG := tg_3 3 rfl rfl
set_option maxRecDepth 8000 in
theorem kX6_saidOver : Cond.code mX6_saidOver.1 mX6_saidOver.2.1 mX6_saidOver.2.2.1 mX6_saidOver.2.2.2 ∈ TG := w_556
set_option maxRecDepth 8000 in
theorem w_560 : (Jvm.Cond.code ({ cls := "NextOneKnows$Why", name := "saidOver", desc := "([I[I)I" } : Jvm.MethodName) prog_10_method_3_code (3 : Nat) (Option.some Jvm.ClassFile.FieldType.int)) ∈ TG := tg_3 7 rfl rfl
set_option maxRecDepth 8000 in
theorem kX8_saidOver : Cond.code mX8_saidOver.1 mX8_saidOver.2.1 mX8_saidOver.2.2.1 mX8_saidOver.2.2.2 ∈ TG := w_560
set_option maxRecDepth 8000 in
theorem w_563 : (Jvm.Cond.code ({ cls := "NextOneKnows$Written", name := "saidOver", desc := "([I[I)I" } : Jvm.MethodName) prog_11_method_3_code (3 : Nat) (Option.some Jvm.ClassFile.FieldType.int)) ∈ TG := tg_3 10 rfl rfl
set_option maxRecDepth 8000 in
theorem kX9_saidOver : Cond.code mX9_saidOver.1 mX9_saidOver.2.1 mX9_saidOver.2.2.1 mX9_saidOver.2.2.2 ∈ TG := w_563
set_option maxRecDepth 8000 in
theorem w_568 : (Jvm.Cond.code ({ cls := "NextOneKnows$Wrong", name := "saidOver", desc := "([I[I)I" } : Jvm.MethodName) prog_12_method_3_code (3 : Nat) (Option.some Jvm.ClassFile.FieldType.int)) ∈ TG := tg_3 15 rfl rfl
set_option maxRecDepth 8000 in
theorem kX10_saidOver : Cond.code mX10_saidOver.1 mX10_saidOver.2.1 mX10_saidOver.2.2.1 mX10_saidOver.2.2.2 ∈ TG := w_568
set_option maxRecDepth 8000 in
theorem w_570 : (Jvm.Cond.code ({ cls := "NextOneKnows$Doing", name := "saidOver", desc := "([I[I)I" } : Jvm.MethodName) prog_3_method_4_code (5 : Nat) (Option.some Jvm.ClassFile.FieldType.int)) ∈ TG := tg_3 17 rfl rfl
set_option maxRecDepth 8000 in
theorem kX1_saidOver : Cond.code mX1_saidOver.1 mX1_saidOver.2.1 mX1_saidOver.2.2.1 mX1_saidOver.2.2.2 ∈ TG := w_570
set_option maxRecDepth 8000 in
theorem w_574 : (Jvm.Cond.code ({ cls := "NextOneKnows$State", name := "dearIn", desc := "(LNextOneKnows$Doing;I)I" } : Jvm.MethodName) prog_7_method_9_code (3 : Nat) (Option.some Jvm.ClassFile.FieldType.int)) ∈ TG := tg_3 21 rfl rfl
set_option maxRecDepth 8000 in
theorem kX5_dearIn : Cond.code mX5_dearIn.1 mX5_dearIn.2.1 mX5_dearIn.2.2.1 mX5_dearIn.2.2.2 ∈ TG := w_574
set_option maxRecDepth 8000 in
theorem w_578 : (Jvm.Cond.code ({ cls := "NextOneKnows", name := "needless", desc := "(IZ)I" } : Jvm.MethodName) prog_1_method_4_code (4 : Nat) (Option.some Jvm.ClassFile.FieldType.int)) ∈ TG := tg_3 25 rfl rfl
set_option maxRecDepth 8000 in
theorem kX11_needless : Cond.code mX11_needless.1 mX11_needless.2.1 mX11_needless.2.2.1 mX11_needless.2.2.2 ∈ TG := w_578
set_option maxRecDepth 8000 in
theorem w_581 : (Jvm.Cond.code ({ cls := "NextOneKnows", name := "withBit", desc := "(IIZ)I" } : Jvm.MethodName) prog_1_method_39_code (3 : Nat) (Option.some Jvm.ClassFile.FieldType.int)) ∈ TG := tg_3 28 rfl rfl
set_option maxRecDepth 8000 in
theorem kX11_withBit : Cond.code mX11_withBit.1 mX11_withBit.2.1 mX11_withBit.2.2.1 mX11_withBit.2.2.2 ∈ TG := w_581
set_option maxRecDepth 8000 in
theorem w_585 : (Jvm.Cond.code ({ cls := "NextOneKnows", name := "learn", desc := "(IZ)I" } : Jvm.MethodName) prog_1_method_5_code (4 : Nat) (Option.some Jvm.ClassFile.FieldType.int)) ∈ TG := tg_3 32 rfl rfl
set_option maxRecDepth 8000 in
theorem kX11_learn : Cond.code mX11_learn.1 mX11_learn.2.1 mX11_learn.2.2.1 mX11_learn.2.2.2 ∈ TG := w_585
set_option maxRecDepth 8000 in
theorem w_589 : (Jvm.Cond.code ({ cls := "NextOneKnows", name := "odds", desc := "(II)I" } : Jvm.MethodName) prog_1_method_6_code (5 : Nat) (Option.some Jvm.ClassFile.FieldType.int)) ∈ TG := tg_3 36 rfl rfl
set_option maxRecDepth 8000 in
theorem kX11_odds : Cond.code mX11_odds.1 mX11_odds.2.1 mX11_odds.2.2.1 mX11_odds.2.2.2 ∈ TG := w_589
set_option maxRecDepth 8000 in
theorem w_593 : (Jvm.Cond.code ({ cls := "NextOneKnows", name := "hours", desc := "(II)I" } : Jvm.MethodName) prog_1_method_7_code (4 : Nat) (Option.some Jvm.ClassFile.FieldType.int)) ∈ TG := tg_3 40 rfl rfl
set_option maxRecDepth 8000 in
theorem kX11_hours : Cond.code mX11_hours.1 mX11_hours.2.1 mX11_hours.2.2.1 mX11_hours.2.2.2 ∈ TG := w_593
set_option maxRecDepth 8000 in
theorem w_597 : (Jvm.Cond.code ({ cls := "NextOneKnows", name := "feed", desc := "(I)I" } : Jvm.MethodName) prog_1_method_8_code (2 : Nat) (Option.some Jvm.ClassFile.FieldType.int)) ∈ TG := tg_3 44 rfl rfl
set_option maxRecDepth 8000 in
theorem kX11_feed : Cond.code mX11_feed.1 mX11_feed.2.1 mX11_feed.2.2.1 mX11_feed.2.2.2 ∈ TG := w_597
set_option maxRecDepth 8000 in
theorem w_601 : (Jvm.Cond.code ({ cls := "NextOneKnows", name := "post", desc := "()I" } : Jvm.MethodName) prog_1_method_9_code (3 : Nat) (Option.some Jvm.ClassFile.FieldType.int)) ∈ TG := tg_3 48 rfl rfl
set_option maxRecDepth 8000 in
theorem kX11_post : Cond.code mX11_post.1 mX11_post.2.1 mX11_post.2.2.1 mX11_post.2.2.2 ∈ TG := w_601
set_option maxRecDepth 8000 in
theorem w_605 : (Jvm.Cond.code ({ cls := "NextOneKnows$Post", name := "readFrom", desc := "(I)I" } : Jvm.MethodName) prog_5_method_2_code (3 : Nat) (Option.some Jvm.ClassFile.FieldType.int)) ∈ TG := tg_3 52 rfl rfl
set_option maxRecDepth 8000 in
theorem kX3_readFrom : Cond.code mX3_readFrom.1 mX3_readFrom.2.1 mX3_readFrom.2.2.1 mX3_readFrom.2.2.2 ∈ TG := w_605
set_option maxRecDepth 8000 in
theorem w_608 : (Jvm.Cond.code ({ cls := "java/lang/Math", name := "min", desc := "(II)I" } : Jvm.MethodName) prog_16_method_69_code (2 : Nat) (Option.some Jvm.ClassFile.FieldType.int)) ∈ TG := tg_3 55 rfl rfl
set_option maxRecDepth 8000 in
theorem kJ9_min_7cf53 : Cond.code mJ9_min_7cf53.1 mJ9_min_7cf53.2.1 mJ9_min_7cf53.2.2.1 mJ9_min_7cf53.2.2.2 ∈ TG := w_608
set_option maxRecDepth 8000 in
theorem w_612 : (Jvm.Cond.code ({ cls := "NextOneKnows$Post", name := "takes", desc := "(I)Z" } : Jvm.MethodName) prog_5_method_11_code (3 : Nat) (Option.some Jvm.ClassFile.FieldType.boolean)) ∈ TG := tg_3 59 rfl rfl
set_option maxRecDepth 8000 in
theorem kX3_takes : Cond.code mX3_takes.1 mX3_takes.2.1 mX3_takes.2.2.1 mX3_takes.2.2.2 ∈ TG := w_612
set_option maxRecDepth 8000 in
theorem w_616 : (Jvm.Cond.code ({ cls := "NextOneKnows$Post", name := "here", desc := "()I" } : Jvm.MethodName) prog_5_method_10_code (1 : Nat) (Option.some Jvm.ClassFile.FieldType.int)) ∈ TG := tg_3 63 rfl rfl
set_option maxRecDepth 8000 in
theorem kX3_here : Cond.code mX3_here.1 mX3_here.2.1 mX3_here.2.2.1 mX3_here.2.2.2 ∈ TG := w_616
set_option maxRecDepth 8000 in
theorem w_620 : (Jvm.Cond.code ({ cls := "NextOneKnows$Post", name := "readClause", desc := "()V" } : Jvm.MethodName) prog_5_method_3_code (3 : Nat) (Option.none : Option Jvm.ClassFile.FieldType)) ∈ TG := tg_3 67 rfl rfl
set_option maxRecDepth 8000 in
theorem kX3_readClause : Cond.code mX3_readClause.1 mX3_readClause.2.1 mX3_readClause.2.2.1 mX3_readClause.2.2.2 ∈ TG := w_620
set_option maxRecDepth 8000 in
theorem w_624 : (Jvm.Cond.code ({ cls := "NextOneKnows$Post", name := "readWord", desc := "()I" } : Jvm.MethodName) prog_5_method_4_code (1 : Nat) (Option.some Jvm.ClassFile.FieldType.int)) ∈ TG := tg_3 71 rfl rfl
set_option maxRecDepth 8000 in
theorem kX3_readWord : Cond.code mX3_readWord.1 mX3_readWord.2.1 mX3_readWord.2.2.1 mX3_readWord.2.2.2 ∈ TG := w_624
set_option maxRecDepth 8000 in
theorem w_628 : (Jvm.Cond.code ({ cls := "NextOneKnows$Post", name := "needs", desc := "(I)V" } : Jvm.MethodName) prog_5_method_12_code (2 : Nat) (Option.none : Option Jvm.ClassFile.FieldType)) ∈ TG := tg_3 75 rfl rfl
set_option maxRecDepth 8000 in
theorem kX3_needs : Cond.code mX3_needs.1 mX3_needs.2.1 mX3_needs.2.2.1 mX3_needs.2.2.2 ∈ TG := w_628
set_option maxRecDepth 8000 in
theorem w_632 : (Jvm.Cond.code ({ cls := "NextOneKnows$Post", name := "takeIf", desc := "(Z)V" } : Jvm.MethodName) prog_5_method_13_code (2 : Nat) (Option.none : Option Jvm.ClassFile.FieldType)) ∈ TG := tg_3 79 rfl rfl
set_option maxRecDepth 8000 in
theorem kX3_takeIf : Cond.code mX3_takeIf.1 mX3_takeIf.2.1 mX3_takeIf.2.2.1 mX3_takeIf.2.2.2 ∈ TG := w_632
set_option maxRecDepth 8000 in
theorem w_636 : (Jvm.Cond.code ({ cls := "NextOneKnows$Post", name := "readNumber", desc := "()I" } : Jvm.MethodName) prog_5_method_5_code (3 : Nat) (Option.some Jvm.ClassFile.FieldType.int)) ∈ TG := tg_3 83 rfl rfl
set_option maxRecDepth 8000 in
theorem kX3_readNumber : Cond.code mX3_readNumber.1 mX3_readNumber.2.1 mX3_readNumber.2.2.1 mX3_readNumber.2.2.2 ∈ TG := w_636
set_option maxRecDepth 8000 in
theorem w_640 : (Jvm.Cond.code ({ cls := "NextOneKnows$Post", name := "readEither", desc := "(I)V" } : Jvm.MethodName) prog_5_method_6_code (4 : Nat) (Option.none : Option Jvm.ClassFile.FieldType)) ∈ TG := tg_3 87 rfl rfl
set_option maxRecDepth 8000 in
theorem kX3_readEither : Cond.code mX3_readEither.1 mX3_readEither.2.1 mX3_readEither.2.2.1 mX3_readEither.2.2.2 ∈ TG := w_640
set_option maxRecDepth 8000 in
theorem w_644 : (Jvm.Cond.code ({ cls := "NextOneKnows$Post", name := "readPart", desc := "(I)V" } : Jvm.MethodName) prog_5_method_7_code (2 : Nat) (Option.none : Option Jvm.ClassFile.FieldType)) ∈ TG := tg_3 91 rfl rfl
set_option maxRecDepth 8000 in
theorem kX3_readPart : Cond.code mX3_readPart.1 mX3_readPart.2.1 mX3_readPart.2.2.1 mX3_readPart.2.2.2 ∈ TG := w_644
set_option maxRecDepth 8000 in
theorem w_648 : (Jvm.Cond.code ({ cls := "NextOneKnows$Post", name := "keep", desc := "(I)V" } : Jvm.MethodName) prog_5_method_9_code (2 : Nat) (Option.none : Option Jvm.ClassFile.FieldType)) ∈ TG := tg_3 95 rfl rfl
set_option maxRecDepth 8000 in
theorem kX3_keep : Cond.code mX3_keep.1 mX3_keep.2.1 mX3_keep.2.2.1 mX3_keep.2.2.2 ∈ TG := w_648
set_option maxRecDepth 8000 in
theorem w_652 : (Jvm.Cond.code ({ cls := "NextOneKnows$Post", name := "readTest", desc := "()V" } : Jvm.MethodName) prog_5_method_8_code (4 : Nat) (Option.none : Option Jvm.ClassFile.FieldType)) ∈ TG := tg_3 99 rfl rfl
set_option maxRecDepth 8000 in
theorem kX3_readTest : Cond.code mX3_readTest.1 mX3_readTest.2.1 mX3_readTest.2.2.1 mX3_readTest.2.2.2 ∈ TG := w_652
set_option maxRecDepth 8000 in
theorem w_656 : (Jvm.Cond.code ({ cls := "NextOneKnows", name := "told", desc := "(I)I" } : Jvm.MethodName) prog_1_method_10_code (2 : Nat) (Option.some Jvm.ClassFile.FieldType.int)) ∈ TG := tg_3 103 rfl rfl
set_option maxRecDepth 8000 in
theorem kX11_told : Cond.code mX11_told.1 mX11_told.2.1 mX11_told.2.2.1 mX11_told.2.2.2 ∈ TG := w_656
set_option maxRecDepth 8000 in
theorem w_660 : (Jvm.Cond.code ({ cls := "NextOneKnows$State", name := "callsAtFirst", desc := "()I" } : Jvm.MethodName) prog_7_method_10_code (1 : Nat) (Option.some Jvm.ClassFile.FieldType.int)) ∈ TG := tg_3 107 rfl rfl
set_option maxRecDepth 8000 in
theorem kX5_callsAtFirst : Cond.code mX5_callsAtFirst.1 mX5_callsAtFirst.2.1 mX5_callsAtFirst.2.2.1 mX5_callsAtFirst.2.2.2 ∈ TG := w_660
set_option maxRecDepth 8000 in
theorem w_664 : (Jvm.Cond.code ({ cls := "NextOneKnows$State", name := "callsFading", desc := "()I" } : Jvm.MethodName) prog_7_method_11_code (1 : Nat) (Option.some Jvm.ClassFile.FieldType.int)) ∈ TG := tg_3 111 rfl rfl
set_option maxRecDepth 8000 in
theorem kX5_callsFading : Cond.code mX5_callsFading.1 mX5_callsFading.2.1 mX5_callsFading.2.2.1 mX5_callsFading.2.2.2 ∈ TG := w_664
set_option maxRecDepth 8000 in
theorem w_668 : (Jvm.Cond.code ({ cls := "NextOneKnows", name := "said", desc := "(II)I" } : Jvm.MethodName) prog_1_method_11_code (4 : Nat) (Option.some Jvm.ClassFile.FieldType.int)) ∈ TG := tg_3 115 rfl rfl
set_option maxRecDepth 8000 in
theorem kX11_said : Cond.code mX11_said.1 mX11_said.2.1 mX11_said.2.2.1 mX11_said.2.2.2 ∈ TG := w_668
set_option maxRecDepth 8000 in
theorem w_673 : (Jvm.Cond.code ({ cls := "NextOneKnows", name := "hand", desc := "()I" } : Jvm.MethodName) prog_1_method_12_code (2 : Nat) (Option.some Jvm.ClassFile.FieldType.int)) ∈ TG := tg_3 120 rfl rfl
set_option maxRecDepth 8000 in
theorem kX11_hand : Cond.code mX11_hand.1 mX11_hand.2.1 mX11_hand.2.2.1 mX11_hand.2.2.2 ∈ TG := w_673
set_option maxRecDepth 8000 in
theorem w_677 : (Jvm.Cond.code ({ cls := "NextOneKnows$Ahead", name := "hear", desc := "()V" } : Jvm.MethodName) prog_2_method_5_code (3 : Nat) (Option.none : Option Jvm.ClassFile.FieldType)) ∈ TG := tg_3 124 rfl rfl
set_option maxRecDepth 8000 in
theorem kX0_hear : Cond.code mX0_hear.1 mX0_hear.2.1 mX0_hear.2.2.1 mX0_hear.2.2.2 ∈ TG := w_677
set_option maxRecDepth 8000 in
theorem w_682 : (Jvm.Cond.code ({ cls := "NextOneKnows$Ahead", name := "goingOver", desc := "([I)I" } : Jvm.MethodName) prog_2_method_8_code (5 : Nat) (Option.some Jvm.ClassFile.FieldType.int)) ∈ TG := tg_3 129 rfl rfl
set_option maxRecDepth 8000 in
theorem kX0_goingOver : Cond.code mX0_goingOver.1 mX0_goingOver.2.1 mX0_goingOver.2.2.1 mX0_goingOver.2.2.2 ∈ TG := w_682
set_option maxRecDepth 8000 in
theorem w_685 : (Jvm.Cond.code ({ cls := "java/lang/Integer", name := "bitCount", desc := "(I)I" } : Jvm.MethodName) prog_15_method_49_code (1 : Nat) (Option.some Jvm.ClassFile.FieldType.int)) ∈ TG := tg_3 132 rfl rfl
set_option maxRecDepth 8000 in
theorem kJ6_bitCount_0f7a4 : Cond.code mJ6_bitCount_0f7a4.1 mJ6_bitCount_0f7a4.2.1 mJ6_bitCount_0f7a4.2.2.1 mJ6_bitCount_0f7a4.2.2.2 ∈ TG := w_685
set_option maxRecDepth 8000 in
theorem w_692 : (Jvm.Cond.code ({ cls := "NextOneKnows", name := "go", desc := "(I)I" } : Jvm.MethodName) prog_1_method_13_code (2 : Nat) (Option.some Jvm.ClassFile.FieldType.int)) ∈ TG := tg_3 139 rfl rfl
set_option maxRecDepth 8000 in
theorem kX11_go : Cond.code mX11_go.1 mX11_go.2.1 mX11_go.2.2.1 mX11_go.2.2.2 ∈ TG := w_692
set_option maxRecDepth 8000 in
theorem w_696 : (Jvm.Cond.code ({ cls := "NextOneKnows$Ahead", name := "look", desc := "(I)V" } : Jvm.MethodName) prog_2_method_2_code (3 : Nat) (Option.none : Option Jvm.ClassFile.FieldType)) ∈ TG := tg_3 143 rfl rfl
set_option maxRecDepth 8000 in
theorem kX0_look : Cond.code mX0_look.1 mX0_look.2.1 mX0_look.2.2.1 mX0_look.2.2.2 ∈ TG := w_696
set_option maxRecDepth 8000 in
theorem w_703 : (Jvm.Cond.code ({ cls := "NextOneKnows$State", name := "coming", desc := "(I)I" } : Jvm.MethodName) prog_7_method_12_code (5 : Nat) (Option.some Jvm.ClassFile.FieldType.int)) ∈ TG := tg_3 150 rfl rfl
set_option maxRecDepth 8000 in
theorem kX5_coming : Cond.code mX5_coming.1 mX5_coming.2.1 mX5_coming.2.2.1 mX5_coming.2.2.2 ∈ TG := w_703
set_option maxRecDepth 8000 in
theorem w_715 : (Jvm.Cond.code ({ cls := "NextOneKnows$Doing", name := "weeksUntil", desc := "(I)I" } : Jvm.MethodName) prog_3_method_3_code (2 : Nat) (Option.some Jvm.ClassFile.FieldType.int)) ∈ TG := tg_3 162 rfl rfl
set_option maxRecDepth 8000 in
theorem kX1_weeksUntil : Cond.code mX1_weeksUntil.1 mX1_weeksUntil.2.1 mX1_weeksUntil.2.2.1 mX1_weeksUntil.2.2.2 ∈ TG := w_715
set_option maxRecDepth 8000 in
theorem w_718 : (Jvm.Cond.code ({ cls := "java/lang/Math", name := "floorMod", desc := "(II)I" } : Jvm.MethodName) prog_16_method_50_code (3 : Nat) (Option.some Jvm.ClassFile.FieldType.int)) ∈ TG := tg_3 165 rfl rfl
set_option maxRecDepth 8000 in
theorem kJ9_floorMod_7cf53 : Cond.code mJ9_floorMod_7cf53.1 mJ9_floorMod_7cf53.2.1 mJ9_floorMod_7cf53.2.2.1 mJ9_floorMod_7cf53.2.2.2 ∈ TG := w_718
set_option maxRecDepth 8000 in
theorem w_722 : (Jvm.Cond.code ({ cls := "NextOneKnows$Ahead", name := "lookDear", desc := "(II)V" } : Jvm.MethodName) prog_2_method_3_code (6 : Nat) (Option.none : Option Jvm.ClassFile.FieldType)) ∈ TG := tg_3 169 rfl rfl
set_option maxRecDepth 8000 in
theorem kX0_lookDear : Cond.code mX0_lookDear.1 mX0_lookDear.2.1 mX0_lookDear.2.2.1 mX0_lookDear.2.2.2 ∈ TG := w_722
set_option maxRecDepth 8000 in
theorem w_725 : (Jvm.Cond.code ({ cls := "NextOneKnows$Ahead", name := "dearCell", desc := "(II)I" } : Jvm.MethodName) prog_2_method_4_code (2 : Nat) (Option.some Jvm.ClassFile.FieldType.int)) ∈ TG := tg_3 172 rfl rfl
set_option maxRecDepth 8000 in
theorem kX0_dearCell : Cond.code mX0_dearCell.1 mX0_dearCell.2.1 mX0_dearCell.2.2.1 mX0_dearCell.2.2.2 ∈ TG := w_725
set_option maxRecDepth 8000 in
theorem w_732 : (Jvm.Cond.code ({ cls := "NextOneKnows$Ahead", name := "pass", desc := "(II)I" } : Jvm.MethodName) prog_2_method_9_code (4 : Nat) (Option.some Jvm.ClassFile.FieldType.int)) ∈ TG := tg_3 179 rfl rfl
set_option maxRecDepth 8000 in
theorem kX0_pass : Cond.code mX0_pass.1 mX0_pass.2.1 mX0_pass.2.2.1 mX0_pass.2.2.2 ∈ TG := w_732
set_option maxRecDepth 8000 in
theorem w_736 : (Jvm.Cond.code ({ cls := "NextOneKnows$Ahead", name := "stopAll", desc := "(II)V" } : Jvm.MethodName) prog_2_method_10_code (5 : Nat) (Option.none : Option Jvm.ClassFile.FieldType)) ∈ TG := tg_3 183 rfl rfl
set_option maxRecDepth 8000 in
theorem kX0_stopAll : Cond.code mX0_stopAll.1 mX0_stopAll.2.1 mX0_stopAll.2.2.1 mX0_stopAll.2.2.2 ∈ TG := w_736
set_option maxRecDepth 8000 in
theorem w_740 : (Jvm.Cond.code ({ cls := "NextOneKnows$Ahead", name := "stop", desc := "(LNextOneKnows$Doing;I)V" } : Jvm.MethodName) prog_2_method_11_code (4 : Nat) (Option.none : Option Jvm.ClassFile.FieldType)) ∈ TG := tg_3 187 rfl rfl
set_option maxRecDepth 8000 in
theorem kX0_stop : Cond.code mX0_stop.1 mX0_stop.2.1 mX0_stop.2.2.1 mX0_stop.2.2.2 ∈ TG := w_740
set_option maxRecDepth 8000 in
theorem w_754 : (Jvm.Cond.code ({ cls := "NextOneKnows$Wrong", name := "isKnownByCall", desc := "()Z" } : Jvm.MethodName) prog_12_method_4_code (1 : Nat) (Option.some Jvm.ClassFile.FieldType.boolean)) ∈ TG := tg_3 201 rfl rfl
set_option maxRecDepth 8000 in
theorem kX10_isKnownByCall : Cond.code mX10_isKnownByCall.1 mX10_isKnownByCall.2.1 mX10_isKnownByCall.2.2.1 mX10_isKnownByCall.2.2.2 ∈ TG := w_754
set_option maxRecDepth 8000 in
theorem w_755 : (Jvm.Cond.code ({ cls := "NextOneKnows$Doing", name := "isKnownByCall", desc := "()Z" } : Jvm.MethodName) prog_3_method_5_code (1 : Nat) (Option.some Jvm.ClassFile.FieldType.boolean)) ∈ TG := tg_3 202 rfl rfl
set_option maxRecDepth 8000 in
theorem kX1_isKnownByCall : Cond.code mX1_isKnownByCall.1 mX1_isKnownByCall.2.1 mX1_isKnownByCall.2.2.1 mX1_isKnownByCall.2.2.2 ∈ TG := w_755
set_option maxRecDepth 8000 in
theorem w_762 : (Jvm.Cond.code ({ cls := "NextOneKnows$Plain", name := "isKnownByStop", desc := "()Z" } : Jvm.MethodName) prog_4_method_4_code (1 : Nat) (Option.some Jvm.ClassFile.FieldType.boolean)) ∈ TG := tg_3 209 rfl rfl
set_option maxRecDepth 8000 in
theorem kX2_isKnownByStop : Cond.code mX2_isKnownByStop.1 mX2_isKnownByStop.2.1 mX2_isKnownByStop.2.2.1 mX2_isKnownByStop.2.2.2 ∈ TG := w_762
set_option maxRecDepth 8000 in
theorem w_765 : (Jvm.Cond.code ({ cls := "NextOneKnows$Rare", name := "isKnownByStop", desc := "()Z" } : Jvm.MethodName) prog_6_method_4_code (1 : Nat) (Option.some Jvm.ClassFile.FieldType.boolean)) ∈ TG := tg_3 212 rfl rfl
set_option maxRecDepth 8000 in
theorem kX4_isKnownByStop : Cond.code mX4_isKnownByStop.1 mX4_isKnownByStop.2.1 mX4_isKnownByStop.2.2.1 mX4_isKnownByStop.2.2.2 ∈ TG := w_765
set_option maxRecDepth 8000 in
theorem w_770 : (Jvm.Cond.code ({ cls := "NextOneKnows$Doing", name := "isKnownByStop", desc := "()Z" } : Jvm.MethodName) prog_3_method_6_code (1 : Nat) (Option.some Jvm.ClassFile.FieldType.boolean)) ∈ TG := tg_3 217 rfl rfl
set_option maxRecDepth 8000 in
theorem kX1_isKnownByStop : Cond.code mX1_isKnownByStop.1 mX1_isKnownByStop.2.1 mX1_isKnownByStop.2.2.1 mX1_isKnownByStop.2.2.2 ∈ TG := w_770
set_option maxRecDepth 8000 in
theorem w_775 : (Jvm.Cond.code ({ cls := "NextOneKnows", name := "run", desc := "(II)I" } : Jvm.MethodName) prog_1_method_14_code (4 : Nat) (Option.some Jvm.ClassFile.FieldType.int)) ∈ TG := tg_3 222 rfl rfl
set_option maxRecDepth 8000 in
theorem kX11_run : Cond.code mX11_run.1 mX11_run.2.1 mX11_run.2.2.1 mX11_run.2.2.2 ∈ TG := w_775
set_option maxRecDepth 8000 in
theorem w_779 : (Jvm.Cond.code ({ cls := "NextOneKnows", name := "split", desc := "(III)I" } : Jvm.MethodName) prog_1_method_15_code (5 : Nat) (Option.some Jvm.ClassFile.FieldType.int)) ∈ TG := tg_3 226 rfl rfl
set_option maxRecDepth 8000 in
theorem kX11_split : Cond.code mX11_split.1 mX11_split.2.1 mX11_split.2.2.1 mX11_split.2.2.2 ∈ TG := w_779
set_option maxRecDepth 8000 in
theorem w_783 : (Jvm.Cond.code ({ cls := "NextOneKnows$Ahead", name := "bestSplit", desc := "(I)I" } : Jvm.MethodName) prog_2_method_14_code (7 : Nat) (Option.some Jvm.ClassFile.FieldType.int)) ∈ TG := tg_3 230 rfl rfl
set_option maxRecDepth 8000 in
theorem kX0_bestSplit : Cond.code mX0_bestSplit.1 mX0_bestSplit.2.1 mX0_bestSplit.2.2.1 mX0_bestSplit.2.2.2 ∈ TG := w_783
set_option maxRecDepth 8000 in
theorem w_788 : (Jvm.Cond.code ({ cls := "NextOneKnows$Ahead", name := "share", desc := "(IIII)V" } : Jvm.MethodName) prog_2_method_15_code (5 : Nat) (Option.none : Option Jvm.ClassFile.FieldType)) ∈ TG := tg_3 235 rfl rfl
set_option maxRecDepth 8000 in
theorem kX0_share : Cond.code mX0_share.1 mX0_share.2.1 mX0_share.2.2.1 mX0_share.2.2.2 ∈ TG := w_788
set_option maxRecDepth 8000 in
theorem w_792 : (Jvm.Cond.code ({ cls := "NextOneKnows$Ahead", name := "costHanded", desc := "([I)I" } : Jvm.MethodName) prog_2_method_12_code (2 : Nat) (Option.some Jvm.ClassFile.FieldType.int)) ∈ TG := tg_3 239 rfl rfl
set_option maxRecDepth 8000 in
theorem kX0_costHanded : Cond.code mX0_costHanded.1 mX0_costHanded.2.1 mX0_costHanded.2.2.1 mX0_costHanded.2.2.2 ∈ TG := w_792
set_option maxRecDepth 8000 in
theorem w_801 : (Jvm.Cond.code ({ cls := "NextOneKnows", name := "more", desc := "(II)I" } : Jvm.MethodName) prog_1_method_16_code (3 : Nat) (Option.some Jvm.ClassFile.FieldType.int)) ∈ TG := tg_4 8 rfl rfl
set_option maxRecDepth 8000 in
theorem kX11_more : Cond.code mX11_more.1 mX11_more.2.1 mX11_more.2.2.1 mX11_more.2.2.2 ∈ TG := w_801
set_option maxRecDepth 8000 in
theorem w_806 : (Jvm.Cond.code ({ cls := "NextOneKnows$Ahead", name := "hourMore", desc := "(I)[I" } : Jvm.MethodName) prog_2_method_13_code (3 : Nat) (Option.some (Jvm.ClassFile.FieldType.array Jvm.ClassFile.FieldType.int))) ∈ TG := tg_4 13 rfl rfl
set_option maxRecDepth 8000 in
theorem kX0_hourMore : Cond.code mX0_hourMore.1 mX0_hourMore.2.1 mX0_hourMore.2.2.1 mX0_hourMore.2.2.2 ∈ TG := w_806
set_option maxRecDepth 8000 in
theorem w_810 : (Jvm.Cond.code ({ cls := "NextOneKnows", name := "ask", desc := "(I)I" } : Jvm.MethodName) prog_1_method_17_code (2 : Nat) (Option.some Jvm.ClassFile.FieldType.int)) ∈ TG := tg_4 17 rfl rfl
set_option maxRecDepth 8000 in
theorem kX11_ask : Cond.code mX11_ask.1 mX11_ask.2.1 mX11_ask.2.2.1 mX11_ask.2.2.2 ∈ TG := w_810
set_option maxRecDepth 8000 in
theorem w_814 : (Jvm.Cond.code ({ cls := "NextOneKnows$Ahead", name := "bestOf", desc := "(IZ)I" } : Jvm.MethodName) prog_2_method_16_code (8 : Nat) (Option.some Jvm.ClassFile.FieldType.int)) ∈ TG := tg_4 21 rfl rfl
set_option maxRecDepth 8000 in
theorem kX0_bestOf : Cond.code mX0_bestOf.1 mX0_bestOf.2.1 mX0_bestOf.2.2.1 mX0_bestOf.2.2.2 ∈ TG := w_814
set_option maxRecDepth 8000 in
theorem w_818 : (Jvm.Cond.code ({ cls := "NextOneKnows", name := "drop", desc := "(I)I" } : Jvm.MethodName) prog_1_method_18_code (2 : Nat) (Option.some Jvm.ClassFile.FieldType.int)) ∈ TG := tg_4 25 rfl rfl
set_option maxRecDepth 8000 in
theorem kX11_drop : Cond.code mX11_drop.1 mX11_drop.2.1 mX11_drop.2.2.1 mX11_drop.2.2.2 ∈ TG := w_818
set_option maxRecDepth 8000 in
theorem w_822 : (Jvm.Cond.code ({ cls := "NextOneKnows", name := "when", desc := "(I)I" } : Jvm.MethodName) prog_1_method_19_code (3 : Nat) (Option.some Jvm.ClassFile.FieldType.int)) ∈ TG := tg_4 29 rfl rfl
set_option maxRecDepth 8000 in
theorem kX11_when : Cond.code mX11_when.1 mX11_when.2.1 mX11_when.2.2.1 mX11_when.2.2.2 ∈ TG := w_822
set_option maxRecDepth 8000 in
theorem w_827 : (Jvm.Cond.code ({ cls := "NextOneKnows", name := "busiest", desc := "(II)I" } : Jvm.MethodName) prog_1_method_20_code (7 : Nat) (Option.some Jvm.ClassFile.FieldType.int)) ∈ TG := tg_4 34 rfl rfl
set_option maxRecDepth 8000 in
theorem kX11_busiest : Cond.code mX11_busiest.1 mX11_busiest.2.1 mX11_busiest.2.2.1 mX11_busiest.2.2.2 ∈ TG := w_827
set_option maxRecDepth 8000 in
theorem w_832 : (Jvm.Cond.code ({ cls := "NextOneKnows", name := "all", desc := "(I)I" } : Jvm.MethodName) prog_1_method_21_code (4 : Nat) (Option.some Jvm.ClassFile.FieldType.int)) ∈ TG := tg_4 39 rfl rfl
set_option maxRecDepth 8000 in
theorem kX11_all : Cond.code mX11_all.1 mX11_all.2.1 mX11_all.2.2.1 mX11_all.2.2.2 ∈ TG := w_832
set_option maxRecDepth 8000 in
theorem w_836 : (Jvm.Cond.code ({ cls := "NextOneKnows$State", name := "everyDoing", desc := "()I" } : Jvm.MethodName) prog_7_method_7_code (1 : Nat) (Option.some Jvm.ClassFile.FieldType.int)) ∈ TG := tg_4 43 rfl rfl
set_option maxRecDepth 8000 in
theorem kX5_everyDoing : Cond.code mX5_everyDoing.1 mX5_everyDoing.2.1 mX5_everyDoing.2.2.1 mX5_everyDoing.2.2.2 ∈ TG := w_836
set_option maxRecDepth 8000 in
theorem w_840 : (Jvm.Cond.code ({ cls := "NextOneKnows$State", name := "longestWait", desc := "(II)I" } : Jvm.MethodName) prog_7_method_13_code (6 : Nat) (Option.some Jvm.ClassFile.FieldType.int)) ∈ TG := tg_4 47 rfl rfl
set_option maxRecDepth 8000 in
theorem kX5_longestWait : Cond.code mX5_longestWait.1 mX5_longestWait.2.1 mX5_longestWait.2.2.1 mX5_longestWait.2.2.2 ∈ TG := w_840
set_option maxRecDepth 8000 in
theorem w_846 : (Jvm.Cond.code ({ cls := "NextOneKnows", name := "list", desc := "(II)I" } : Jvm.MethodName) prog_1_method_22_code (3 : Nat) (Option.some Jvm.ClassFile.FieldType.int)) ∈ TG := tg_4 53 rfl rfl
set_option maxRecDepth 8000 in
theorem kX11_list : Cond.code mX11_list.1 mX11_list.2.1 mX11_list.2.2.1 mX11_list.2.2.2 ∈ TG := w_846
set_option maxRecDepth 8000 in
theorem w_850 : (Jvm.Cond.code ({ cls := "NextOneKnows$State", name := "addRow", desc := "(II)I" } : Jvm.MethodName) prog_7_method_5_code (3 : Nat) (Option.some Jvm.ClassFile.FieldType.int)) ∈ TG := tg_4 57 rfl rfl
set_option maxRecDepth 8000 in
theorem kX5_addRow : Cond.code mX5_addRow.1 mX5_addRow.2.1 mX5_addRow.2.2.1 mX5_addRow.2.2.2 ∈ TG := w_850
set_option maxRecDepth 8000 in
theorem w_854 : (Jvm.Cond.code ({ cls := "NextOneKnows", name := "looked", desc := "()I" } : Jvm.MethodName) prog_1_method_23_code (1 : Nat) (Option.some Jvm.ClassFile.FieldType.int)) ∈ TG := tg_4 61 rfl rfl
set_option maxRecDepth 8000 in
theorem kX11_looked : Cond.code mX11_looked.1 mX11_looked.2.1 mX11_looked.2.2.1 mX11_looked.2.2.2 ∈ TG := w_854
set_option maxRecDepth 8000 in
theorem w_858 : (Jvm.Cond.code ({ cls := "NextOneKnows$State", name := "weeksToRows", desc := "()I" } : Jvm.MethodName) prog_7_method_6_code (3 : Nat) (Option.some Jvm.ClassFile.FieldType.int)) ∈ TG := tg_4 65 rfl rfl
set_option maxRecDepth 8000 in
theorem kX5_weeksToRows : Cond.code mX5_weeksToRows.1 mX5_weeksToRows.2.1 mX5_weeksToRows.2.2.1 mX5_weeksToRows.2.2.2 ∈ TG := w_858
set_option maxRecDepth 8000 in
theorem w_863 : (Jvm.Cond.code ({ cls := "NextOneKnows$Ahead", name := "firstRowNotSo", desc := "()I" } : Jvm.MethodName) prog_2_method_17_code (3 : Nat) (Option.some Jvm.ClassFile.FieldType.int)) ∈ TG := tg_4 70 rfl rfl
set_option maxRecDepth 8000 in
theorem kX0_firstRowNotSo : Cond.code mX0_firstRowNotSo.1 mX0_firstRowNotSo.2.1 mX0_firstRowNotSo.2.2.1 mX0_firstRowNotSo.2.2.2 ∈ TG := w_863
set_option maxRecDepth 8000 in
theorem w_867 : (Jvm.Cond.code ({ cls := "NextOneKnows", name := "fits", desc := "()I" } : Jvm.MethodName) prog_1_method_24_code (3 : Nat) (Option.some Jvm.ClassFile.FieldType.int)) ∈ TG := tg_4 74 rfl rfl
set_option maxRecDepth 8000 in
theorem kX11_fits : Cond.code mX11_fits.1 mX11_fits.2.1 mX11_fits.2.2.1 mX11_fits.2.2.2 ∈ TG := w_867
set_option maxRecDepth 8000 in
theorem w_871 : (Jvm.Cond.code ({ cls := "NextOneKnows", name := "chance", desc := "(II)J" } : Jvm.MethodName) prog_1_method_25_code (9 : Nat) (Option.some Jvm.ClassFile.FieldType.long)) ∈ TG := tg_4 78 rfl rfl
set_option maxRecDepth 8000 in
theorem kX11_chance : Cond.code mX11_chance.1 mX11_chance.2.1 mX11_chance.2.2.1 mX11_chance.2.2.2 ∈ TG := w_871
set_option maxRecDepth 8000 in
theorem w_876 : (Jvm.Cond.code ({ cls := "NextOneKnows", name := "commonDivisor", desc := "(JJ)J" } : Jvm.MethodName) prog_1_method_40_code (11 : Nat) (Option.some Jvm.ClassFile.FieldType.long)) ∈ TG := tg_4 83 rfl rfl
set_option maxRecDepth 8000 in
theorem kX11_commonDivisor : Cond.code mX11_commonDivisor.1 mX11_commonDivisor.2.1 mX11_commonDivisor.2.2.1 mX11_commonDivisor.2.2.2 ∈ TG := w_876
set_option maxRecDepth 8000 in
theorem w_879 : (Jvm.Cond.code ({ cls := "java/lang/Math", name := "max", desc := "(JJ)J" } : Jvm.MethodName) prog_16_method_66_code (4 : Nat) (Option.some Jvm.ClassFile.FieldType.long)) ∈ TG := tg_4 86 rfl rfl
set_option maxRecDepth 8000 in
theorem kJ9_max_f86c9 : Cond.code mJ9_max_f86c9.1 mJ9_max_f86c9.2.1 mJ9_max_f86c9.2.2.1 mJ9_max_f86c9.2.2.2 ∈ TG := w_879
set_option maxRecDepth 8000 in
theorem w_883 : (Jvm.Cond.code ({ cls := "NextOneKnows", name := "judge", desc := "(II)I" } : Jvm.MethodName) prog_1_method_26_code (4 : Nat) (Option.some Jvm.ClassFile.FieldType.int)) ∈ TG := tg_4 90 rfl rfl
set_option maxRecDepth 8000 in
theorem kX11_judge : Cond.code mX11_judge.1 mX11_judge.2.1 mX11_judge.2.2.1 mX11_judge.2.2.2 ∈ TG := w_883
set_option maxRecDepth 8000 in
theorem w_887 : (Jvm.Cond.code ({ cls := "NextOneKnows", name := "image", desc := "()I" } : Jvm.MethodName) prog_1_method_27_code (1 : Nat) (Option.some Jvm.ClassFile.FieldType.int)) ∈ TG := tg_4 94 rfl rfl
set_option maxRecDepth 8000 in
theorem kX11_image : Cond.code mX11_image.1 mX11_image.2.1 mX11_image.2.2.1 mX11_image.2.2.2 ∈ TG := w_887
set_option maxRecDepth 8000 in
theorem w_891 : (Jvm.Cond.code ({ cls := "NextOneKnows$State", name := "takeFrom", desc := "(LNextOneKnows$State;)V" } : Jvm.MethodName) prog_7_method_2_code (3 : Nat) (Option.none : Option Jvm.ClassFile.FieldType)) ∈ TG := tg_4 98 rfl rfl
set_option maxRecDepth 8000 in
theorem kX5_takeFrom : Cond.code mX5_takeFrom.1 mX5_takeFrom.2.1 mX5_takeFrom.2.2.1 mX5_takeFrom.2.2.2 ∈ TG := w_891
set_option maxRecDepth 8000 in
theorem w_896 : (Jvm.Cond.code ({ cls := "NextOneKnows", name := "undo", desc := "()I" } : Jvm.MethodName) prog_1_method_28_code (1 : Nat) (Option.some Jvm.ClassFile.FieldType.int)) ∈ TG := tg_4 103 rfl rfl
set_option maxRecDepth 8000 in
theorem kX11_undo : Cond.code mX11_undo.1 mX11_undo.2.1 mX11_undo.2.2.1 mX11_undo.2.2.2 ∈ TG := w_896
set_option maxRecDepth 8000 in
theorem w_900 : (Jvm.Cond.code ({ cls := "NextOneKnows", name := "act", desc := "(III)I" } : Jvm.MethodName) prog_1_method_29_code (5 : Nat) (Option.some Jvm.ClassFile.FieldType.int)) ∈ TG := tg_4 107 rfl rfl
set_option maxRecDepth 8000 in
theorem kX11_act : Cond.code mX11_act.1 mX11_act.2.1 mX11_act.2.2.1 mX11_act.2.2.2 ∈ TG := w_900
set_option maxRecDepth 8000 in
theorem w_907 : (Jvm.Cond.code ({ cls := "NextOneKnows$Plain", name := "says", desc := "(ILNextOneKnows$Trace;)I" } : Jvm.MethodName) prog_4_method_5_code (3 : Nat) (Option.some Jvm.ClassFile.FieldType.int)) ∈ TG := tg_4 114 rfl rfl
set_option maxRecDepth 8000 in
theorem kX2_says : Cond.code mX2_says.1 mX2_says.2.1 mX2_says.2.2.1 mX2_says.2.2.2 ∈ TG := w_907
set_option maxRecDepth 8000 in
theorem w_911 : (Jvm.Cond.code ({ cls := "NextOneKnows$Trace", name := "begins", desc := "(I)V" } : Jvm.MethodName) prog_9_method_2_code (2 : Nat) (Option.none : Option Jvm.ClassFile.FieldType)) ∈ TG := tg_4 118 rfl rfl
set_option maxRecDepth 8000 in
theorem kX7_begins : Cond.code mX7_begins.1 mX7_begins.2.1 mX7_begins.2.2.1 mX7_begins.2.2.2 ∈ TG := w_911
set_option maxRecDepth 8000 in
theorem w_917 : (Jvm.Cond.code ({ cls := "NextOneKnows$Why", name := "says", desc := "(ILNextOneKnows$Trace;)I" } : Jvm.MethodName) prog_10_method_4_code (3 : Nat) (Option.some Jvm.ClassFile.FieldType.int)) ∈ TG := tg_4 124 rfl rfl
set_option maxRecDepth 8000 in
theorem kX8_says : Cond.code mX8_says.1 mX8_says.2.1 mX8_says.2.2.1 mX8_says.2.2.2 ∈ TG := w_917
set_option maxRecDepth 8000 in
theorem w_925 : (Jvm.Cond.code ({ cls := "NextOneKnows$Wrong", name := "says", desc := "(ILNextOneKnows$Trace;)I" } : Jvm.MethodName) prog_12_method_6_code (3 : Nat) (Option.some Jvm.ClassFile.FieldType.int)) ∈ TG := tg_4 132 rfl rfl
set_option maxRecDepth 8000 in
theorem kX10_says : Cond.code mX10_says.1 mX10_says.2.1 mX10_says.2.2.1 mX10_says.2.2.2 ∈ TG := w_925
set_option maxRecDepth 8000 in
theorem w_929 : (Jvm.Cond.code ({ cls := "NextOneKnows$Doing", name := "says", desc := "(ILNextOneKnows$Trace;)I" } : Jvm.MethodName) prog_3_method_7_code (3 : Nat) (Option.some Jvm.ClassFile.FieldType.int)) ∈ TG := tg_4 136 rfl rfl
set_option maxRecDepth 8000 in
theorem kX1_says : Cond.code mX1_says.1 mX1_says.2.1 mX1_says.2.2.1 mX1_says.2.2.2 ∈ TG := w_929
set_option maxRecDepth 8000 in
theorem w_940 : (Jvm.Cond.code ({ cls := "NextOneKnows$Why", name := "holds", desc := "(ILNextOneKnows$Trace;)I" } : Jvm.MethodName) prog_10_method_5_code (3 : Nat) (Option.some Jvm.ClassFile.FieldType.int)) ∈ TG := tg_4 147 rfl rfl
set_option maxRecDepth 8000 in
theorem kX8_holds : Cond.code mX8_holds.1 mX8_holds.2.1 mX8_holds.2.2.1 mX8_holds.2.2.2 ∈ TG := w_940
set_option maxRecDepth 8000 in
theorem w_943 : (Jvm.Cond.code ({ cls := "NextOneKnows$Written", name := "holds", desc := "(ILNextOneKnows$Trace;)I" } : Jvm.MethodName) prog_11_method_4_code (3 : Nat) (Option.some Jvm.ClassFile.FieldType.int)) ∈ TG := tg_4 150 rfl rfl
set_option maxRecDepth 8000 in
theorem kX9_holds : Cond.code mX9_holds.1 mX9_holds.2.1 mX9_holds.2.2.1 mX9_holds.2.2.2 ∈ TG := w_943
set_option maxRecDepth 8000 in
theorem w_949 : (Jvm.Cond.code ({ cls := "NextOneKnows$Wrong", name := "holds", desc := "(ILNextOneKnows$Trace;)I" } : Jvm.MethodName) prog_12_method_5_code (3 : Nat) (Option.some Jvm.ClassFile.FieldType.int)) ∈ TG := tg_4 156 rfl rfl
set_option maxRecDepth 8000 in
theorem kX10_holds : Cond.code mX10_holds.1 mX10_holds.2.1 mX10_holds.2.2.1 mX10_holds.2.2.2 ∈ TG := w_949
set_option maxRecDepth 8000 in
theorem w_953 : (Jvm.Cond.code ({ cls := "NextOneKnows$Doing", name := "holds", desc := "(ILNextOneKnows$Trace;)I" } : Jvm.MethodName) prog_3_method_8_code (3 : Nat) (Option.some Jvm.ClassFile.FieldType.int)) ∈ TG := tg_4 160 rfl rfl
set_option maxRecDepth 8000 in
theorem kX1_holds : Cond.code mX1_holds.1 mX1_holds.2.1 mX1_holds.2.2.1 mX1_holds.2.2.2 ∈ TG := w_953
set_option maxRecDepth 8000 in
theorem w_962 : (Jvm.Cond.code ({ cls := "NextOneKnows$Rare", name := "tells", desc := "(ILNextOneKnows$Trace;)I" } : Jvm.MethodName) prog_6_method_5_code (3 : Nat) (Option.some Jvm.ClassFile.FieldType.int)) ∈ TG := tg_4 169 rfl rfl
set_option maxRecDepth 8000 in
theorem kX4_tells : Cond.code mX4_tells.1 mX4_tells.2.1 mX4_tells.2.2.1 mX4_tells.2.2.2 ∈ TG := w_962
set_option maxRecDepth 8000 in
theorem w_970 : (Jvm.Cond.code ({ cls := "NextOneKnows$Tied", name := "tells", desc := "(ILNextOneKnows$Trace;)I" } : Jvm.MethodName) prog_8_method_4_code (3 : Nat) (Option.some Jvm.ClassFile.FieldType.int)) ∈ TG := tg_4 177 rfl rfl
set_option maxRecDepth 8000 in
theorem kX6_tells : Cond.code mX6_tells.1 mX6_tells.2.1 mX6_tells.2.2.1 mX6_tells.2.2.2 ∈ TG := w_970
set_option maxRecDepth 8000 in
theorem w_978 : (Jvm.Cond.code ({ cls := "NextOneKnows$Doing", name := "tells", desc := "(ILNextOneKnows$Trace;)I" } : Jvm.MethodName) prog_3_method_9_code (3 : Nat) (Option.some Jvm.ClassFile.FieldType.int)) ∈ TG := tg_4 185 rfl rfl
set_option maxRecDepth 8000 in
theorem kX1_tells : Cond.code mX1_tells.1 mX1_tells.2.1 mX1_tells.2.2.1 mX1_tells.2.2.2 ∈ TG := w_978
set_option maxRecDepth 8000 in
theorem w_983 : (Jvm.Cond.code ({ cls := "NextOneKnows", name := "trace", desc := "(I)I" } : Jvm.MethodName) prog_1_method_30_code (2 : Nat) (Option.some Jvm.ClassFile.FieldType.int)) ∈ TG := tg_4 190 rfl rfl
set_option maxRecDepth 8000 in
theorem kX11_trace : Cond.code mX11_trace.1 mX11_trace.2.1 mX11_trace.2.2.1 mX11_trace.2.2.2 ∈ TG := w_983
set_option maxRecDepth 8000 in
theorem w_987 : (Jvm.Cond.code ({ cls := "NextOneKnows", name := "taken", desc := "(II)I" } : Jvm.MethodName) prog_1_method_31_code (4 : Nat) (Option.some Jvm.ClassFile.FieldType.int)) ∈ TG := tg_4 194 rfl rfl
set_option maxRecDepth 8000 in
theorem kX11_taken : Cond.code mX11_taken.1 mX11_taken.2.1 mX11_taken.2.2.1 mX11_taken.2.2.2 ∈ TG := w_987
set_option maxRecDepth 8000 in
theorem w_990 : (Jvm.Cond.code ({ cls := "NextOneKnows", name := "isOfKind", desc := "(LNextOneKnows$Doing;I)Z" } : Jvm.MethodName) prog_1_method_43_code (2 : Nat) (Option.some Jvm.ClassFile.FieldType.boolean)) ∈ TG := tg_4 197 rfl rfl
set_option maxRecDepth 8000 in
theorem kX11_isOfKind : Cond.code mX11_isOfKind.1 mX11_isOfKind.2.1 mX11_isOfKind.2.2.1 mX11_isOfKind.2.2.2 ∈ TG := w_990
set_option maxRecDepth 8000 in
theorem w_994 : (Jvm.Cond.code ({ cls := "NextOneKnows", name := "count", desc := "(I)I" } : Jvm.MethodName) prog_1_method_32_code (2 : Nat) (Option.some Jvm.ClassFile.FieldType.int)) ∈ TG := tg_4 201 rfl rfl
set_option maxRecDepth 8000 in
theorem kX11_count : Cond.code mX11_count.1 mX11_count.2.1 mX11_count.2.2.1 mX11_count.2.2.2 ∈ TG := w_994
set_option maxRecDepth 8000 in
theorem w_998 : (Jvm.Cond.code ({ cls := "NextOneKnows", name := "tape", desc := "(III)I" } : Jvm.MethodName) prog_1_method_33_code (4 : Nat) (Option.some Jvm.ClassFile.FieldType.int)) ∈ TG := tg_4 205 rfl rfl
set_option maxRecDepth 8000 in
theorem kX11_tape : Cond.code mX11_tape.1 mX11_tape.2.1 mX11_tape.2.2.1 mX11_tape.2.2.2 ∈ TG := w_998
set_option maxRecDepth 8000 in
theorem w_1001 : (Jvm.Cond.code ({ cls := "java/util/Arrays", name := "fill", desc := "([JJ)V" } : Jvm.MethodName) prog_18_method_101_code (5 : Nat) (Option.none : Option Jvm.ClassFile.FieldType)) ∈ TG := tg_4 208 rfl rfl
set_option maxRecDepth 8000 in
theorem kJ7_fill_d0a16 : Cond.code mJ7_fill_d0a16.1 mJ7_fill_d0a16.2.1 mJ7_fill_d0a16.2.2.1 mJ7_fill_d0a16.2.2.2 ∈ TG := w_1001
set_option maxRecDepth 8000 in
theorem w_1005 : (Jvm.Cond.code ({ cls := "NextOneKnows", name := "item", desc := "(IIJ)I" } : Jvm.MethodName) prog_1_method_34_code (5 : Nat) (Option.some Jvm.ClassFile.FieldType.int)) ∈ TG := tg_4 212 rfl rfl
set_option maxRecDepth 8000 in
theorem kX11_item : Cond.code mX11_item.1 mX11_item.2.1 mX11_item.2.2.1 mX11_item.2.2.2 ∈ TG := w_1005
set_option maxRecDepth 8000 in
theorem w_1008 : (Jvm.Cond.code ({ cls := "NextOneKnows", name := "cut", desc := "(JI)J" } : Jvm.MethodName) prog_1_method_41_code (3 : Nat) (Option.some Jvm.ClassFile.FieldType.long)) ∈ TG := tg_4 215 rfl rfl
set_option maxRecDepth 8000 in
theorem kX11_cut : Cond.code mX11_cut.1 mX11_cut.2.1 mX11_cut.2.2.1 mX11_cut.2.2.2 ∈ TG := w_1008
set_option maxRecDepth 8000 in
theorem w_1012 : (Jvm.Cond.code ({ cls := "NextOneKnows", name := "read", desc := "(II)J" } : Jvm.MethodName) prog_1_method_35_code (3 : Nat) (Option.some Jvm.ClassFile.FieldType.long)) ∈ TG := tg_4 219 rfl rfl
set_option maxRecDepth 8000 in
theorem kX11_read : Cond.code mX11_read.1 mX11_read.2.1 mX11_read.2.2.1 mX11_read.2.2.2 ∈ TG := w_1012
set_option maxRecDepth 8000 in
theorem w_1016 : (Jvm.Cond.code ({ cls := "NextOneKnows", name := "shift", desc := "(IIIII)I" } : Jvm.MethodName) prog_1_method_36_code (6 : Nat) (Option.some Jvm.ClassFile.FieldType.int)) ∈ TG := tg_4 223 rfl rfl
set_option maxRecDepth 8000 in
theorem kX11_shift : Cond.code mX11_shift.1 mX11_shift.2.1 mX11_shift.2.2.1 mX11_shift.2.2.2 ∈ TG := w_1016
set_option maxRecDepth 8000 in
theorem w_1022 : (Jvm.Cond.code ({ cls := "NextOneKnowsModel", name := "<init>", desc := "()V" } : Jvm.MethodName) prog_14_method_1_code (1 : Nat) (Option.none : Option Jvm.ClassFile.FieldType)) ∈ TG := tg_4 229 rfl rfl
set_option maxRecDepth 8000 in
theorem kX12_init : Cond.code mX12_init.1 mX12_init.2.1 mX12_init.2.2.1 mX12_init.2.2.2 ∈ TG := w_1022
set_option maxRecDepth 8000 in
theorem w_1248 : (Jvm.Cond.code ({ cls := "NextOneKnowsModel", name := "doing", desc := "(IIIIII)I" } : Jvm.MethodName) prog_14_method_7_code (8 : Nat) (Option.some Jvm.ClassFile.FieldType.int)) ∈ TG := tg_5 215 rfl rfl
set_option maxRecDepth 8000 in
theorem kX12_doing : Cond.code mX12_doing.1 mX12_doing.2.1 mX12_doing.2.2.1 mX12_doing.2.2.2 ∈ TG := w_1248
set_option maxRecDepth 8000 in
theorem w_1252 : (Jvm.Cond.code ({ cls := "NextOneKnowsModel", name := "in", desc := "(III)Z" } : Jvm.MethodName) prog_14_method_2_code (4 : Nat) (Option.some Jvm.ClassFile.FieldType.boolean)) ∈ TG := tg_5 219 rfl rfl
set_option maxRecDepth 8000 in
theorem kX12_in : Cond.code mX12_in.1 mX12_in.2.1 mX12_in.2.2.1 mX12_in.2.2.2 ∈ TG := w_1252
set_option maxRecDepth 8000 in
theorem w_1256 : (Jvm.Cond.code ({ cls := "NextOneKnowsModel", name := "with", desc := "(IIZ)I" } : Jvm.MethodName) prog_14_method_6_code (4 : Nat) (Option.some Jvm.ClassFile.FieldType.int)) ∈ TG := tg_5 223 rfl rfl
set_option maxRecDepth 8000 in
theorem kX12_with : Cond.code mX12_with.1 mX12_with.2.1 mX12_with.2.2.1 mX12_with.2.2.2 ∈ TG := w_1256
set_option maxRecDepth 8000 in
theorem w_1260 : (Jvm.Cond.code ({ cls := "NextOneKnowsModel", name := "needless", desc := "(IZ)I" } : Jvm.MethodName) prog_14_method_8_code (4 : Nat) (Option.some Jvm.ClassFile.FieldType.int)) ∈ TG := tg_5 227 rfl rfl
set_option maxRecDepth 8000 in
theorem kX12_needless : Cond.code mX12_needless.1 mX12_needless.2.1 mX12_needless.2.2.1 mX12_needless.2.2.2 ∈ TG := w_1260
set_option maxRecDepth 8000 in
theorem w_1264 : (Jvm.Cond.code ({ cls := "NextOneKnowsModel", name := "isDoing", desc := "(I)Z" } : Jvm.MethodName) prog_14_method_4_code (2 : Nat) (Option.some Jvm.ClassFile.FieldType.boolean)) ∈ TG := tg_5 231 rfl rfl
set_option maxRecDepth 8000 in
theorem kX12_isDoing : Cond.code mX12_isDoing.1 mX12_isDoing.2.1 mX12_isDoing.2.2.1 mX12_isDoing.2.2.2 ∈ TG := w_1264
set_option maxRecDepth 8000 in
theorem w_1268 : (Jvm.Cond.code ({ cls := "NextOneKnowsModel", name := "has", desc := "(II)Z" } : Jvm.MethodName) prog_14_method_3_code (3 : Nat) (Option.some Jvm.ClassFile.FieldType.boolean)) ∈ TG := tg_5 235 rfl rfl
set_option maxRecDepth 8000 in
theorem kX12_has : Cond.code mX12_has.1 mX12_has.2.1 mX12_has.2.2.1 mX12_has.2.2.2 ∈ TG := w_1268
set_option maxRecDepth 8000 in
theorem w_1272 : (Jvm.Cond.code ({ cls := "NextOneKnowsModel", name := "learn", desc := "(IZ)I" } : Jvm.MethodName) prog_14_method_9_code (4 : Nat) (Option.some Jvm.ClassFile.FieldType.int)) ∈ TG := tg_5 239 rfl rfl
set_option maxRecDepth 8000 in
theorem kX12_learn : Cond.code mX12_learn.1 mX12_learn.2.1 mX12_learn.2.2.1 mX12_learn.2.2.2 ∈ TG := w_1272
set_option maxRecDepth 8000 in
theorem w_1276 : (Jvm.Cond.code ({ cls := "NextOneKnowsModel", name := "odds", desc := "(II)I" } : Jvm.MethodName) prog_14_method_10_code (4 : Nat) (Option.some Jvm.ClassFile.FieldType.int)) ∈ TG := tg_6 3 rfl rfl
set_option maxRecDepth 8000 in
theorem kX12_odds : Cond.code mX12_odds.1 mX12_odds.2.1 mX12_odds.2.2.1 mX12_odds.2.2.2 ∈ TG := w_1276
set_option maxRecDepth 8000 in
theorem w_1280 : (Jvm.Cond.code ({ cls := "NextOneKnowsModel", name := "hours", desc := "(II)I" } : Jvm.MethodName) prog_14_method_11_code (4 : Nat) (Option.some Jvm.ClassFile.FieldType.int)) ∈ TG := tg_6 7 rfl rfl
set_option maxRecDepth 8000 in
theorem kX12_hours : Cond.code mX12_hours.1 mX12_hours.2.1 mX12_hours.2.2.1 mX12_hours.2.2.2 ∈ TG := w_1280
set_option maxRecDepth 8000 in
theorem w_1284 : (Jvm.Cond.code ({ cls := "NextOneKnowsModel", name := "isWay", desc := "(I)Z" } : Jvm.MethodName) prog_14_method_5_code (2 : Nat) (Option.some Jvm.ClassFile.FieldType.boolean)) ∈ TG := tg_6 11 rfl rfl
set_option maxRecDepth 8000 in
theorem kX12_isWay : Cond.code mX12_isWay.1 mX12_isWay.2.1 mX12_isWay.2.2.1 mX12_isWay.2.2.2 ∈ TG := w_1284
set_option maxRecDepth 8000 in
theorem w_1288 : (Jvm.Cond.code ({ cls := "NextOneKnowsModel", name := "feed", desc := "(I)I" } : Jvm.MethodName) prog_14_method_12_code (2 : Nat) (Option.some Jvm.ClassFile.FieldType.int)) ∈ TG := tg_6 15 rfl rfl
set_option maxRecDepth 8000 in
theorem kX12_feed : Cond.code mX12_feed.1 mX12_feed.2.1 mX12_feed.2.2.1 mX12_feed.2.2.2 ∈ TG := w_1288
set_option maxRecDepth 8000 in
theorem w_1292 : (Jvm.Cond.code ({ cls := "NextOneKnowsModel", name := "post", desc := "()I" } : Jvm.MethodName) prog_14_method_28_code (2 : Nat) (Option.some Jvm.ClassFile.FieldType.int)) ∈ TG := tg_6 19 rfl rfl
set_option maxRecDepth 8000 in
theorem kX12_post : Cond.code mX12_post.1 mX12_post.2.1 mX12_post.2.2.1 mX12_post.2.2.2 ∈ TG := w_1292
set_option maxRecDepth 8000 in
theorem w_1296 : (Jvm.Cond.code ({ cls := "NextOneKnowsModel", name := "goesText", desc := "(I)Z" } : Jvm.MethodName) prog_14_method_27_code (3 : Nat) (Option.some Jvm.ClassFile.FieldType.boolean)) ∈ TG := tg_6 23 rfl rfl
set_option maxRecDepth 8000 in
theorem kX12_goesText : Cond.code mX12_goesText.1 mX12_goesText.2.1 mX12_goesText.2.2.1 mX12_goesText.2.2.2 ∈ TG := w_1296
set_option maxRecDepth 8000 in
theorem w_1300 : (Jvm.Cond.code ({ cls := "NextOneKnowsModel", name := "takesClause", desc := "(I)Z" } : Jvm.MethodName) prog_14_method_26_code (2 : Nat) (Option.some Jvm.ClassFile.FieldType.boolean)) ∈ TG := tg_6 27 rfl rfl
set_option maxRecDepth 8000 in
theorem kX12_takesClause : Cond.code mX12_takesClause.1 mX12_takesClause.2.1 mX12_takesClause.2.2.1 mX12_takesClause.2.2.2 ∈ TG := w_1300
set_option maxRecDepth 8000 in
theorem w_1304 : (Jvm.Cond.code ({ cls := "NextOneKnowsModel", name := "takesHead", desc := "(I)Z" } : Jvm.MethodName) prog_14_method_25_code (3 : Nat) (Option.some Jvm.ClassFile.FieldType.boolean)) ∈ TG := tg_6 31 rfl rfl
set_option maxRecDepth 8000 in
theorem kX12_takesHead : Cond.code mX12_takesHead.1 mX12_takesHead.2.1 mX12_takesHead.2.2.1 mX12_takesHead.2.2.2 ∈ TG := w_1304
set_option maxRecDepth 8000 in
theorem w_1308 : (Jvm.Cond.code ({ cls := "NextOneKnowsModel", name := "second", desc := "()I" } : Jvm.MethodName) prog_14_method_14_code (1 : Nat) (Option.some Jvm.ClassFile.FieldType.int)) ∈ TG := tg_6 35 rfl rfl
set_option maxRecDepth 8000 in
theorem kX12_second : Cond.code mX12_second.1 mX12_second.2.1 mX12_second.2.2.1 mX12_second.2.2.2 ∈ TG := w_1308
set_option maxRecDepth 8000 in
theorem w_1312 : (Jvm.Cond.code ({ cls := "NextOneKnowsModel", name := "next", desc := "()I" } : Jvm.MethodName) prog_14_method_13_code (1 : Nat) (Option.some Jvm.ClassFile.FieldType.int)) ∈ TG := tg_6 39 rfl rfl
set_option maxRecDepth 8000 in
theorem kX12_next : Cond.code mX12_next.1 mX12_next.2.1 mX12_next.2.2.1 mX12_next.2.2.2 ∈ TG := w_1312
set_option maxRecDepth 8000 in
theorem w_1316 : (Jvm.Cond.code ({ cls := "NextOneKnowsModel", name := "takesWord", desc := "(II)Z" } : Jvm.MethodName) prog_14_method_16_code (4 : Nat) (Option.some Jvm.ClassFile.FieldType.boolean)) ∈ TG := tg_6 43 rfl rfl
set_option maxRecDepth 8000 in
theorem kX12_takesWord : Cond.code mX12_takesWord.1 mX12_takesWord.2.1 mX12_takesWord.2.2.1 mX12_takesWord.2.2.2 ∈ TG := w_1316
set_option maxRecDepth 8000 in
theorem w_1320 : (Jvm.Cond.code ({ cls := "NextOneKnowsModel", name := "takes", desc := "(I)Z" } : Jvm.MethodName) prog_14_method_15_code (2 : Nat) (Option.some Jvm.ClassFile.FieldType.boolean)) ∈ TG := tg_6 47 rfl rfl
set_option maxRecDepth 8000 in
theorem kX12_takes : Cond.code mX12_takes.1 mX12_takes.2.1 mX12_takes.2.2.1 mX12_takes.2.2.2 ∈ TG := w_1320
set_option maxRecDepth 8000 in
theorem w_1324 : (Jvm.Cond.code ({ cls := "NextOneKnowsModel", name := "takesNumber", desc := "()Z" } : Jvm.MethodName) prog_14_method_18_code (2 : Nat) (Option.some Jvm.ClassFile.FieldType.boolean)) ∈ TG := tg_6 51 rfl rfl
set_option maxRecDepth 8000 in
theorem kX12_takesNumber : Cond.code mX12_takesNumber.1 mX12_takesNumber.2.1 mX12_takesNumber.2.2.1 mX12_takesNumber.2.2.2 ∈ TG := w_1324
set_option maxRecDepth 8000 in
theorem w_1328 : (Jvm.Cond.code ({ cls := "NextOneKnowsModel", name := "isDigit", desc := "()Z" } : Jvm.MethodName) prog_14_method_17_code (1 : Nat) (Option.some Jvm.ClassFile.FieldType.boolean)) ∈ TG := tg_6 55 rfl rfl
set_option maxRecDepth 8000 in
theorem kX12_isDigit : Cond.code mX12_isDigit.1 mX12_isDigit.2.1 mX12_isDigit.2.2.1 mX12_isDigit.2.2.2 ∈ TG := w_1328
set_option maxRecDepth 8000 in
theorem w_1332 : (Jvm.Cond.code ({ cls := "NextOneKnowsModel", name := "takesE", desc := "(I)Z" } : Jvm.MethodName) prog_14_method_24_code (4 : Nat) (Option.some Jvm.ClassFile.FieldType.boolean)) ∈ TG := tg_6 59 rfl rfl
set_option maxRecDepth 8000 in
theorem kX12_takesE : Cond.code mX12_takesE.1 mX12_takesE.2.1 mX12_takesE.2.2.1 mX12_takesE.2.2.2 ∈ TG := w_1332
set_option maxRecDepth 8000 in
theorem w_1336 : (Jvm.Cond.code ({ cls := "NextOneKnowsModel", name := "takesTest", desc := "()Z" } : Jvm.MethodName) prog_14_method_23_code (3 : Nat) (Option.some Jvm.ClassFile.FieldType.boolean)) ∈ TG := tg_6 63 rfl rfl
set_option maxRecDepth 8000 in
theorem kX12_takesTest : Cond.code mX12_takesTest.1 mX12_takesTest.2.1 mX12_takesTest.2.2.1 mX12_takesTest.2.2.2 ∈ TG := w_1336
set_option maxRecDepth 8000 in
theorem w_1340 : (Jvm.Cond.code ({ cls := "NextOneKnowsModel", name := "place", desc := "(I)I" } : Jvm.MethodName) prog_14_method_22_code (2 : Nat) (Option.some Jvm.ClassFile.FieldType.int)) ∈ TG := tg_6 67 rfl rfl
set_option maxRecDepth 8000 in
theorem kX12_place : Cond.code mX12_place.1 mX12_place.2.1 mX12_place.2.2.1 mX12_place.2.2.2 ∈ TG := w_1340
set_option maxRecDepth 8000 in
theorem w_1344 : (Jvm.Cond.code ({ cls := "NextOneKnowsModel", name := "put", desc := "(I)V" } : Jvm.MethodName) prog_14_method_19_code (2 : Nat) (Option.none : Option Jvm.ClassFile.FieldType)) ∈ TG := tg_6 71 rfl rfl
set_option maxRecDepth 8000 in
theorem kX12_put : Cond.code mX12_put.1 mX12_put.2.1 mX12_put.2.2.1 mX12_put.2.2.2 ∈ TG := w_1344
set_option maxRecDepth 8000 in
theorem w_1348 : (Jvm.Cond.code ({ cls := "NextOneKnowsModel", name := "whole", desc := "()V" } : Jvm.MethodName) prog_14_method_20_code (1 : Nat) (Option.none : Option Jvm.ClassFile.FieldType)) ∈ TG := tg_6 75 rfl rfl
set_option maxRecDepth 8000 in
theorem kX12_whole : Cond.code mX12_whole.1 mX12_whole.2.1 mX12_whole.2.2.1 mX12_whole.2.2.2 ∈ TG := w_1348
set_option maxRecDepth 8000 in
theorem w_1352 : (Jvm.Cond.code ({ cls := "NextOneKnowsModel", name := "settle", desc := "(I)V" } : Jvm.MethodName) prog_14_method_21_code (2 : Nat) (Option.none : Option Jvm.ClassFile.FieldType)) ∈ TG := tg_6 79 rfl rfl
set_option maxRecDepth 8000 in
theorem kX12_settle : Cond.code mX12_settle.1 mX12_settle.2.1 mX12_settle.2.2.1 mX12_settle.2.2.2 ∈ TG := w_1352
set_option maxRecDepth 8000 in
theorem w_1356 : (Jvm.Cond.code ({ cls := "NextOneKnowsModel", name := "of", desc := "(II)I" } : Jvm.MethodName) prog_14_method_40_code (3 : Nat) (Option.some Jvm.ClassFile.FieldType.int)) ∈ TG := tg_6 83 rfl rfl
set_option maxRecDepth 8000 in
theorem kX12_of : Cond.code mX12_of.1 mX12_of.2.1 mX12_of.2.2.1 mX12_of.2.2.2 ∈ TG := w_1356
set_option maxRecDepth 8000 in
theorem w_1360 : (Jvm.Cond.code ({ cls := "NextOneKnowsModel", name := "laySaid", desc := "()V" } : Jvm.MethodName) prog_14_method_36_code (3 : Nat) (Option.none : Option Jvm.ClassFile.FieldType)) ∈ TG := tg_6 87 rfl rfl
set_option maxRecDepth 8000 in
theorem kX12_laySaid : Cond.code mX12_laySaid.1 mX12_laySaid.2.1 mX12_laySaid.2.2.1 mX12_laySaid.2.2.2 ∈ TG := w_1360
set_option maxRecDepth 8000 in
theorem w_1364 : (Jvm.Cond.code ({ cls := "NextOneKnowsModel", name := "sumOf", desc := "(IIII)I" } : Jvm.MethodName) prog_14_method_34_code (7 : Nat) (Option.some Jvm.ClassFile.FieldType.int)) ∈ TG := tg_6 91 rfl rfl
set_option maxRecDepth 8000 in
theorem kX12_sumOf : Cond.code mX12_sumOf.1 mX12_sumOf.2.1 mX12_sumOf.2.2.1 mX12_sumOf.2.2.2 ∈ TG := w_1364
set_option maxRecDepth 8000 in
theorem w_1368 : (Jvm.Cond.code ({ cls := "NextOneKnowsModel", name := "begin", desc := "()I" } : Jvm.MethodName) prog_14_method_29_code (1 : Nat) (Option.some Jvm.ClassFile.FieldType.int)) ∈ TG := tg_6 95 rfl rfl
set_option maxRecDepth 8000 in
theorem kX12_begin : Cond.code mX12_begin.1 mX12_begin.2.1 mX12_begin.2.2.1 mX12_begin.2.2.2 ∈ TG := w_1368
set_option maxRecDepth 8000 in
theorem w_1372 : (Jvm.Cond.code ({ cls := "NextOneKnowsModel", name := "behind", desc := "()I" } : Jvm.MethodName) prog_14_method_30_code (1 : Nat) (Option.some Jvm.ClassFile.FieldType.int)) ∈ TG := tg_6 99 rfl rfl
set_option maxRecDepth 8000 in
theorem kX12_behind : Cond.code mX12_behind.1 mX12_behind.2.1 mX12_behind.2.2.1 mX12_behind.2.2.2 ∈ TG := w_1372
set_option maxRecDepth 8000 in
theorem w_1376 : (Jvm.Cond.code ({ cls := "NextOneKnowsModel", name := "holds", desc := "(IIII)Z" } : Jvm.MethodName) prog_14_method_33_code (10 : Nat) (Option.some Jvm.ClassFile.FieldType.boolean)) ∈ TG := tg_6 103 rfl rfl
set_option maxRecDepth 8000 in
theorem kX12_holds : Cond.code mX12_holds.1 mX12_holds.2.1 mX12_holds.2.2.1 mX12_holds.2.2.2 ∈ TG := w_1376
set_option maxRecDepth 8000 in
theorem w_1380 : (Jvm.Cond.code ({ cls := "NextOneKnowsModel", name := "factOf", desc := "(IIII)I" } : Jvm.MethodName) prog_14_method_32_code (5 : Nat) (Option.some Jvm.ClassFile.FieldType.int)) ∈ TG := tg_6 107 rfl rfl
set_option maxRecDepth 8000 in
theorem kX12_factOf : Cond.code mX12_factOf.1 mX12_factOf.2.1 mX12_factOf.2.2.1 mX12_factOf.2.2.2 ∈ TG := w_1380
set_option maxRecDepth 8000 in
theorem w_1384 : (Jvm.Cond.code ({ cls := "NextOneKnowsModel", name := "saidOf", desc := "(I)I" } : Jvm.MethodName) prog_14_method_38_code (3 : Nat) (Option.some Jvm.ClassFile.FieldType.int)) ∈ TG := tg_6 111 rfl rfl
set_option maxRecDepth 8000 in
theorem kX12_saidOf : Cond.code mX12_saidOf.1 mX12_saidOf.2.1 mX12_saidOf.2.2.1 mX12_saidOf.2.2.2 ∈ TG := w_1384
set_option maxRecDepth 8000 in
theorem w_1388 : (Jvm.Cond.code ({ cls := "NextOneKnowsModel", name := "saidAll", desc := "(II)I" } : Jvm.MethodName) prog_14_method_37_code (5 : Nat) (Option.some Jvm.ClassFile.FieldType.int)) ∈ TG := tg_6 115 rfl rfl
set_option maxRecDepth 8000 in
theorem kX12_saidAll : Cond.code mX12_saidAll.1 mX12_saidAll.2.1 mX12_saidAll.2.2.1 mX12_saidAll.2.2.2 ∈ TG := w_1388
set_option maxRecDepth 8000 in
theorem w_1392 : (Jvm.Cond.code ({ cls := "NextOneKnowsModel", name := "dear", desc := "(II)I" } : Jvm.MethodName) prog_14_method_35_code (3 : Nat) (Option.some Jvm.ClassFile.FieldType.int)) ∈ TG := tg_6 119 rfl rfl
set_option maxRecDepth 8000 in
theorem kX12_dear : Cond.code mX12_dear.1 mX12_dear.2.1 mX12_dear.2.2.1 mX12_dear.2.2.2 ∈ TG := w_1392
set_option maxRecDepth 8000 in
theorem w_1396 : (Jvm.Cond.code ({ cls := "NextOneKnowsModel", name := "told", desc := "(I)I" } : Jvm.MethodName) prog_14_method_41_code (2 : Nat) (Option.some Jvm.ClassFile.FieldType.int)) ∈ TG := tg_6 123 rfl rfl
set_option maxRecDepth 8000 in
theorem kX12_told : Cond.code mX12_told.1 mX12_told.2.1 mX12_told.2.2.1 mX12_told.2.2.2 ∈ TG := w_1396
set_option maxRecDepth 8000 in
theorem w_1400 : (Jvm.Cond.code ({ cls := "NextOneKnowsModel", name := "lastOf", desc := "(II)I" } : Jvm.MethodName) prog_14_method_31_code (5 : Nat) (Option.some Jvm.ClassFile.FieldType.int)) ∈ TG := tg_6 127 rfl rfl
set_option maxRecDepth 8000 in
theorem kX12_lastOf : Cond.code mX12_lastOf.1 mX12_lastOf.2.1 mX12_lastOf.2.2.1 mX12_lastOf.2.2.2 ∈ TG := w_1400
set_option maxRecDepth 8000 in
theorem w_1404 : (Jvm.Cond.code ({ cls := "NextOneKnowsModel", name := "said", desc := "(II)I" } : Jvm.MethodName) prog_14_method_42_code (3 : Nat) (Option.some Jvm.ClassFile.FieldType.int)) ∈ TG := tg_6 131 rfl rfl
set_option maxRecDepth 8000 in
theorem kX12_said : Cond.code mX12_said.1 mX12_said.2.1 mX12_said.2.2.1 mX12_said.2.2.2 ∈ TG := w_1404
set_option maxRecDepth 8000 in
theorem w_1408 : (Jvm.Cond.code ({ cls := "NextOneKnowsModel", name := "hand", desc := "()I" } : Jvm.MethodName) prog_14_method_44_code (2 : Nat) (Option.some Jvm.ClassFile.FieldType.int)) ∈ TG := tg_6 135 rfl rfl
set_option maxRecDepth 8000 in
theorem kX12_hand : Cond.code mX12_hand.1 mX12_hand.2.1 mX12_hand.2.2.1 mX12_hand.2.2.2 ∈ TG := w_1408
set_option maxRecDepth 8000 in
theorem w_1412 : (Jvm.Cond.code ({ cls := "NextOneKnowsModel", name := "ones", desc := "(I)I" } : Jvm.MethodName) prog_14_method_43_code (4 : Nat) (Option.some Jvm.ClassFile.FieldType.int)) ∈ TG := tg_6 139 rfl rfl
set_option maxRecDepth 8000 in
theorem kX12_ones : Cond.code mX12_ones.1 mX12_ones.2.1 mX12_ones.2.2.1 mX12_ones.2.2.2 ∈ TG := w_1412
set_option maxRecDepth 8000 in
theorem w_1416 : (Jvm.Cond.code ({ cls := "NextOneKnowsModel", name := "over", desc := "()I" } : Jvm.MethodName) prog_14_method_39_code (3 : Nat) (Option.some Jvm.ClassFile.FieldType.int)) ∈ TG := tg_6 143 rfl rfl
set_option maxRecDepth 8000 in
theorem kX12_over : Cond.code mX12_over.1 mX12_over.2.1 mX12_over.2.2.1 mX12_over.2.2.2 ∈ TG := w_1416
set_option maxRecDepth 8000 in
theorem w_1420 : (Jvm.Cond.code ({ cls := "NextOneKnowsModel", name := "go", desc := "(I)I" } : Jvm.MethodName) prog_14_method_51_code (2 : Nat) (Option.some Jvm.ClassFile.FieldType.int)) ∈ TG := tg_6 147 rfl rfl
set_option maxRecDepth 8000 in
theorem kX12_go : Cond.code mX12_go.1 mX12_go.2.1 mX12_go.2.2.1 mX12_go.2.2.2 ∈ TG := w_1420
set_option maxRecDepth 8000 in
theorem w_1424 : (Jvm.Cond.code ({ cls := "NextOneKnowsModel", name := "begins", desc := "(II)V" } : Jvm.MethodName) prog_14_method_47_code (3 : Nat) (Option.none : Option Jvm.ClassFile.FieldType)) ∈ TG := tg_6 151 rfl rfl
set_option maxRecDepth 8000 in
theorem kX12_begins : Cond.code mX12_begins.1 mX12_begins.2.1 mX12_begins.2.2.1 mX12_begins.2.2.2 ∈ TG := w_1424
set_option maxRecDepth 8000 in
theorem w_1428 : (Jvm.Cond.code ({ cls := "NextOneKnowsModel", name := "goWeeks", desc := "(I)V" } : Jvm.MethodName) prog_14_method_49_code (5 : Nat) (Option.none : Option Jvm.ClassFile.FieldType)) ∈ TG := tg_6 155 rfl rfl
set_option maxRecDepth 8000 in
theorem kX12_goWeeks : Cond.code mX12_goWeeks.1 mX12_goWeeks.2.1 mX12_goWeeks.2.2.1 mX12_goWeeks.2.2.2 ∈ TG := w_1428
set_option maxRecDepth 8000 in
theorem w_1432 : (Jvm.Cond.code ({ cls := "NextOneKnowsModel", name := "goWeek", desc := "(II)V" } : Jvm.MethodName) prog_14_method_48_code (5 : Nat) (Option.none : Option Jvm.ClassFile.FieldType)) ∈ TG := tg_6 159 rfl rfl
set_option maxRecDepth 8000 in
theorem kX12_goWeek : Cond.code mX12_goWeek.1 mX12_goWeek.2.1 mX12_goWeek.2.2.1 mX12_goWeek.2.2.2 ∈ TG := w_1432
set_option maxRecDepth 8000 in
theorem w_1436 : (Jvm.Cond.code ({ cls := "NextOneKnowsModel", name := "comes", desc := "(II)Z" } : Jvm.MethodName) prog_14_method_45_code (3 : Nat) (Option.some Jvm.ClassFile.FieldType.boolean)) ∈ TG := tg_6 163 rfl rfl
set_option maxRecDepth 8000 in
theorem kX12_comes : Cond.code mX12_comes.1 mX12_comes.2.1 mX12_comes.2.2.1 mX12_comes.2.2.2 ∈ TG := w_1436
set_option maxRecDepth 8000 in
theorem w_1440 : (Jvm.Cond.code ({ cls := "NextOneKnowsModel", name := "learnsBy", desc := "(I)Z" } : Jvm.MethodName) prog_14_method_46_code (2 : Nat) (Option.some Jvm.ClassFile.FieldType.boolean)) ∈ TG := tg_6 167 rfl rfl
set_option maxRecDepth 8000 in
theorem kX12_learnsBy : Cond.code mX12_learnsBy.1 mX12_learnsBy.2.1 mX12_learnsBy.2.2.1 mX12_learnsBy.2.2.2 ∈ TG := w_1440
set_option maxRecDepth 8000 in
theorem w_1444 : (Jvm.Cond.code ({ cls := "NextOneKnowsModel", name := "run", desc := "(II)I" } : Jvm.MethodName) prog_14_method_52_code (3 : Nat) (Option.some Jvm.ClassFile.FieldType.int)) ∈ TG := tg_6 171 rfl rfl
set_option maxRecDepth 8000 in
theorem kX12_run : Cond.code mX12_run.1 mX12_run.2.1 mX12_run.2.2.1 mX12_run.2.2.2 ∈ TG := w_1444
set_option maxRecDepth 8000 in
theorem w_1448 : (Jvm.Cond.code ({ cls := "NextOneKnowsModel", name := "split", desc := "(III)I" } : Jvm.MethodName) prog_14_method_56_code (9 : Nat) (Option.some Jvm.ClassFile.FieldType.int)) ∈ TG := tg_6 175 rfl rfl
set_option maxRecDepth 8000 in
theorem kX12_split : Cond.code mX12_split.1 mX12_split.2.1 mX12_split.2.2.1 mX12_split.2.2.2 ∈ TG := w_1448
set_option maxRecDepth 8000 in
theorem w_1452 : (Jvm.Cond.code ({ cls := "NextOneKnowsModel", name := "keepHours", desc := "()V" } : Jvm.MethodName) prog_14_method_53_code (2 : Nat) (Option.none : Option Jvm.ClassFile.FieldType)) ∈ TG := tg_6 179 rfl rfl
set_option maxRecDepth 8000 in
theorem kX12_keepHours : Cond.code mX12_keepHours.1 mX12_keepHours.2.1 mX12_keepHours.2.2.1 mX12_keepHours.2.2.2 ∈ TG := w_1452
set_option maxRecDepth 8000 in
theorem w_1456 : (Jvm.Cond.code ({ cls := "NextOneKnowsModel", name := "costHanded", desc := "(I)I" } : Jvm.MethodName) prog_14_method_55_code (2 : Nat) (Option.some Jvm.ClassFile.FieldType.int)) ∈ TG := tg_6 183 rfl rfl
set_option maxRecDepth 8000 in
theorem kX12_costHanded : Cond.code mX12_costHanded.1 mX12_costHanded.2.1 mX12_costHanded.2.2.1 mX12_costHanded.2.2.2 ∈ TG := w_1456
set_option maxRecDepth 8000 in
theorem w_1460 : (Jvm.Cond.code ({ cls := "NextOneKnowsModel", name := "costBy", desc := "(III)I" } : Jvm.MethodName) prog_14_method_50_code (4 : Nat) (Option.some Jvm.ClassFile.FieldType.int)) ∈ TG := tg_6 187 rfl rfl
set_option maxRecDepth 8000 in
theorem kX12_costBy : Cond.code mX12_costBy.1 mX12_costBy.2.1 mX12_costBy.2.2.1 mX12_costBy.2.2.2 ∈ TG := w_1460
set_option maxRecDepth 8000 in
theorem w_1464 : (Jvm.Cond.code ({ cls := "NextOneKnowsModel", name := "putHours", desc := "()V" } : Jvm.MethodName) prog_14_method_54_code (2 : Nat) (Option.none : Option Jvm.ClassFile.FieldType)) ∈ TG := tg_6 191 rfl rfl
set_option maxRecDepth 8000 in
theorem kX12_putHours : Cond.code mX12_putHours.1 mX12_putHours.2.1 mX12_putHours.2.2.1 mX12_putHours.2.2.2 ∈ TG := w_1464
set_option maxRecDepth 8000 in
theorem w_1468 : (Jvm.Cond.code ({ cls := "NextOneKnowsModel", name := "more", desc := "(II)I" } : Jvm.MethodName) prog_14_method_57_code (5 : Nat) (Option.some Jvm.ClassFile.FieldType.int)) ∈ TG := tg_6 195 rfl rfl
set_option maxRecDepth 8000 in
theorem kX12_more : Cond.code mX12_more.1 mX12_more.2.1 mX12_more.2.2.1 mX12_more.2.2.2 ∈ TG := w_1468
set_option maxRecDepth 8000 in
theorem w_1472 : (Jvm.Cond.code ({ cls := "NextOneKnowsModel", name := "ask", desc := "(I)I" } : Jvm.MethodName) prog_14_method_58_code (6 : Nat) (Option.some Jvm.ClassFile.FieldType.int)) ∈ TG := tg_6 199 rfl rfl
set_option maxRecDepth 8000 in
theorem kX12_ask : Cond.code mX12_ask.1 mX12_ask.2.1 mX12_ask.2.2.1 mX12_ask.2.2.2 ∈ TG := w_1472
set_option maxRecDepth 8000 in
theorem w_1476 : (Jvm.Cond.code ({ cls := "NextOneKnowsModel", name := "drop", desc := "(I)I" } : Jvm.MethodName) prog_14_method_59_code (6 : Nat) (Option.some Jvm.ClassFile.FieldType.int)) ∈ TG := tg_6 203 rfl rfl
set_option maxRecDepth 8000 in
theorem kX12_drop : Cond.code mX12_drop.1 mX12_drop.2.1 mX12_drop.2.2.1 mX12_drop.2.2.2 ∈ TG := w_1476
set_option maxRecDepth 8000 in
theorem w_1480 : (Jvm.Cond.code ({ cls := "NextOneKnowsModel", name := "when", desc := "(I)I" } : Jvm.MethodName) prog_14_method_60_code (3 : Nat) (Option.some Jvm.ClassFile.FieldType.int)) ∈ TG := tg_6 207 rfl rfl
set_option maxRecDepth 8000 in
theorem kX12_when : Cond.code mX12_when.1 mX12_when.2.1 mX12_when.2.2.1 mX12_when.2.2.2 ∈ TG := w_1480
set_option maxRecDepth 8000 in
theorem w_1484 : (Jvm.Cond.code ({ cls := "NextOneKnowsModel", name := "busiest", desc := "(II)I" } : Jvm.MethodName) prog_14_method_62_code (5 : Nat) (Option.some Jvm.ClassFile.FieldType.int)) ∈ TG := tg_6 211 rfl rfl
set_option maxRecDepth 8000 in
theorem kX12_busiest : Cond.code mX12_busiest.1 mX12_busiest.2.1 mX12_busiest.2.2.1 mX12_busiest.2.2.2 ∈ TG := w_1484
set_option maxRecDepth 8000 in
theorem w_1488 : (Jvm.Cond.code ({ cls := "NextOneKnowsModel", name := "manyIn", desc := "(I)I" } : Jvm.MethodName) prog_14_method_61_code (4 : Nat) (Option.some Jvm.ClassFile.FieldType.int)) ∈ TG := tg_6 215 rfl rfl
set_option maxRecDepth 8000 in
theorem kX12_manyIn : Cond.code mX12_manyIn.1 mX12_manyIn.2.1 mX12_manyIn.2.2.1 mX12_manyIn.2.2.2 ∈ TG := w_1488
set_option maxRecDepth 8000 in
theorem w_1492 : (Jvm.Cond.code ({ cls := "NextOneKnowsModel", name := "all", desc := "(I)I" } : Jvm.MethodName) prog_14_method_64_code (3 : Nat) (Option.some Jvm.ClassFile.FieldType.int)) ∈ TG := tg_6 219 rfl rfl
set_option maxRecDepth 8000 in
theorem kX12_all : Cond.code mX12_all.1 mX12_all.2.1 mX12_all.2.2.1 mX12_all.2.2.2 ∈ TG := w_1492
set_option maxRecDepth 8000 in
theorem w_1496 : (Jvm.Cond.code ({ cls := "NextOneKnowsModel", name := "allCome", desc := "(II)Z" } : Jvm.MethodName) prog_14_method_63_code (4 : Nat) (Option.some Jvm.ClassFile.FieldType.boolean)) ∈ TG := tg_6 223 rfl rfl
set_option maxRecDepth 8000 in
theorem kX12_allCome : Cond.code mX12_allCome.1 mX12_allCome.2.1 mX12_allCome.2.2.1 mX12_allCome.2.2.2 ∈ TG := w_1496
set_option maxRecDepth 8000 in
theorem w_1500 : (Jvm.Cond.code ({ cls := "NextOneKnowsModel", name := "list", desc := "(II)I" } : Jvm.MethodName) prog_14_method_65_code (3 : Nat) (Option.some Jvm.ClassFile.FieldType.int)) ∈ TG := tg_6 227 rfl rfl
set_option maxRecDepth 8000 in
theorem kX12_list : Cond.code mX12_list.1 mX12_list.2.1 mX12_list.2.2.1 mX12_list.2.2.2 ∈ TG := w_1500
set_option maxRecDepth 8000 in
theorem w_1504 : (Jvm.Cond.code ({ cls := "NextOneKnowsModel", name := "looked", desc := "()I" } : Jvm.MethodName) prog_14_method_67_code (1 : Nat) (Option.some Jvm.ClassFile.FieldType.int)) ∈ TG := tg_6 231 rfl rfl
set_option maxRecDepth 8000 in
theorem kX12_looked : Cond.code mX12_looked.1 mX12_looked.2.1 mX12_looked.2.2.1 mX12_looked.2.2.2 ∈ TG := w_1504
set_option maxRecDepth 8000 in
theorem w_1508 : (Jvm.Cond.code ({ cls := "NextOneKnowsModel", name := "firstOff", desc := "(I)I" } : Jvm.MethodName) prog_14_method_66_code (3 : Nat) (Option.some Jvm.ClassFile.FieldType.int)) ∈ TG := tg_6 235 rfl rfl
set_option maxRecDepth 8000 in
theorem kX12_firstOff : Cond.code mX12_firstOff.1 mX12_firstOff.2.1 mX12_firstOff.2.2.1 mX12_firstOff.2.2.2 ∈ TG := w_1508
set_option maxRecDepth 8000 in
theorem w_1512 : (Jvm.Cond.code ({ cls := "NextOneKnowsModel", name := "fits", desc := "()I" } : Jvm.MethodName) prog_14_method_68_code (3 : Nat) (Option.some Jvm.ClassFile.FieldType.int)) ∈ TG := tg_6 239 rfl rfl
set_option maxRecDepth 8000 in
theorem kX12_fits : Cond.code mX12_fits.1 mX12_fits.2.1 mX12_fits.2.2.1 mX12_fits.2.2.2 ∈ TG := w_1512
set_option maxRecDepth 8000 in
theorem w_1516 : (Jvm.Cond.code ({ cls := "NextOneKnowsModel", name := "chance", desc := "(II)J" } : Jvm.MethodName) prog_14_method_71_code (9 : Nat) (Option.some Jvm.ClassFile.FieldType.long)) ∈ TG := tg_7 3 rfl rfl
set_option maxRecDepth 8000 in
theorem kX12_chance : Cond.code mX12_chance.1 mX12_chance.2.1 mX12_chance.2.2.1 mX12_chance.2.2.2 ∈ TG := w_1516
set_option maxRecDepth 8000 in
theorem w_1521 : (Jvm.Cond.code ({ cls := "NextOneKnowsModel", name := "comesIn", desc := "(II)Z" } : Jvm.MethodName) prog_14_method_70_code (4 : Nat) (Option.some Jvm.ClassFile.FieldType.boolean)) ∈ TG := tg_7 8 rfl rfl
set_option maxRecDepth 8000 in
theorem kX12_comesIn : Cond.code mX12_comesIn.1 mX12_comesIn.2.1 mX12_comesIn.2.2.1 mX12_comesIn.2.2.2 ∈ TG := w_1521
set_option maxRecDepth 8000 in
theorem w_1526 : (Jvm.Cond.code ({ cls := "NextOneKnowsModel", name := "divisor", desc := "(JJ)J" } : Jvm.MethodName) prog_14_method_69_code (11 : Nat) (Option.some Jvm.ClassFile.FieldType.long)) ∈ TG := tg_7 13 rfl rfl
set_option maxRecDepth 8000 in
theorem kX12_divisor : Cond.code mX12_divisor.1 mX12_divisor.2.1 mX12_divisor.2.2.1 mX12_divisor.2.2.2 ∈ TG := w_1526
set_option maxRecDepth 8000 in
theorem w_1530 : (Jvm.Cond.code ({ cls := "NextOneKnowsModel", name := "judge", desc := "(II)I" } : Jvm.MethodName) prog_14_method_72_code (4 : Nat) (Option.some Jvm.ClassFile.FieldType.int)) ∈ TG := tg_7 17 rfl rfl
set_option maxRecDepth 8000 in
theorem kX12_judge : Cond.code mX12_judge.1 mX12_judge.2.1 mX12_judge.2.2.1 mX12_judge.2.2.2 ∈ TG := w_1530
set_option maxRecDepth 8000 in
theorem w_1534 : (Jvm.Cond.code ({ cls := "NextOneKnowsModel", name := "isTape", desc := "(I)Z" } : Jvm.MethodName) prog_14_method_87_code (2 : Nat) (Option.some Jvm.ClassFile.FieldType.boolean)) ∈ TG := tg_7 21 rfl rfl
set_option maxRecDepth 8000 in
theorem kX12_isTape : Cond.code mX12_isTape.1 mX12_isTape.2.1 mX12_isTape.2.2.1 mX12_isTape.2.2.2 ∈ TG := w_1534
set_option maxRecDepth 8000 in
theorem w_1538 : (Jvm.Cond.code ({ cls := "NextOneKnowsModel", name := "image", desc := "()I" } : Jvm.MethodName) prog_14_method_73_code (2 : Nat) (Option.some Jvm.ClassFile.FieldType.int)) ∈ TG := tg_7 25 rfl rfl
set_option maxRecDepth 8000 in
theorem kX12_image : Cond.code mX12_image.1 mX12_image.2.1 mX12_image.2.2.1 mX12_image.2.2.2 ∈ TG := w_1538
set_option maxRecDepth 8000 in
theorem w_1542 : (Jvm.Cond.code ({ cls := "NextOneKnowsModel", name := "undo", desc := "()I" } : Jvm.MethodName) prog_14_method_74_code (2 : Nat) (Option.some Jvm.ClassFile.FieldType.int)) ∈ TG := tg_7 29 rfl rfl
set_option maxRecDepth 8000 in
theorem kX12_undo : Cond.code mX12_undo.1 mX12_undo.2.1 mX12_undo.2.2.1 mX12_undo.2.2.2 ∈ TG := w_1542
set_option maxRecDepth 8000 in
theorem w_1546 : (Jvm.Cond.code ({ cls := "NextOneKnowsModel", name := "act", desc := "(III)I" } : Jvm.MethodName) prog_14_method_83_code (4 : Nat) (Option.some Jvm.ClassFile.FieldType.int)) ∈ TG := tg_7 33 rfl rfl
set_option maxRecDepth 8000 in
theorem kX12_act : Cond.code mX12_act.1 mX12_act.2.1 mX12_act.2.2.1 mX12_act.2.2.2 ∈ TG := w_1546
set_option maxRecDepth 8000 in
theorem w_1550 : (Jvm.Cond.code ({ cls := "NextOneKnowsModel", name := "saysAct", desc := "(II)I" } : Jvm.MethodName) prog_14_method_77_code (3 : Nat) (Option.some Jvm.ClassFile.FieldType.int)) ∈ TG := tg_7 37 rfl rfl
set_option maxRecDepth 8000 in
theorem kX12_saysAct : Cond.code mX12_saysAct.1 mX12_saysAct.2.1 mX12_saysAct.2.2.1 mX12_saysAct.2.2.2 ∈ TG := w_1550
set_option maxRecDepth 8000 in
theorem w_1554 : (Jvm.Cond.code ({ cls := "NextOneKnowsModel", name := "body", desc := "(I)V" } : Jvm.MethodName) prog_14_method_75_code (2 : Nat) (Option.none : Option Jvm.ClassFile.FieldType)) ∈ TG := tg_7 41 rfl rfl
set_option maxRecDepth 8000 in
theorem kX12_body : Cond.code mX12_body.1 mX12_body.2.1 mX12_body.2.2.1 mX12_body.2.2.2 ∈ TG := w_1554
set_option maxRecDepth 8000 in
theorem w_1558 : (Jvm.Cond.code ({ cls := "NextOneKnowsModel", name := "knowingSays", desc := "(II)I" } : Jvm.MethodName) prog_14_method_76_code (3 : Nat) (Option.some Jvm.ClassFile.FieldType.int)) ∈ TG := tg_7 45 rfl rfl
set_option maxRecDepth 8000 in
theorem kX12_knowingSays : Cond.code mX12_knowingSays.1 mX12_knowingSays.2.1 mX12_knowingSays.2.2.1 mX12_knowingSays.2.2.2 ∈ TG := w_1558
set_option maxRecDepth 8000 in
theorem w_1562 : (Jvm.Cond.code ({ cls := "NextOneKnowsModel", name := "holdsAct", desc := "(II)I" } : Jvm.MethodName) prog_14_method_80_code (4 : Nat) (Option.some Jvm.ClassFile.FieldType.int)) ∈ TG := tg_7 49 rfl rfl
set_option maxRecDepth 8000 in
theorem kX12_holdsAct : Cond.code mX12_holdsAct.1 mX12_holdsAct.2.1 mX12_holdsAct.2.2.1 mX12_holdsAct.2.2.2 ∈ TG := w_1562
set_option maxRecDepth 8000 in
theorem w_1566 : (Jvm.Cond.code ({ cls := "NextOneKnowsModel", name := "writtenHolds", desc := "(II)I" } : Jvm.MethodName) prog_14_method_79_code (3 : Nat) (Option.some Jvm.ClassFile.FieldType.int)) ∈ TG := tg_7 53 rfl rfl
set_option maxRecDepth 8000 in
theorem kX12_writtenHolds : Cond.code mX12_writtenHolds.1 mX12_writtenHolds.2.1 mX12_writtenHolds.2.2.1 mX12_writtenHolds.2.2.2 ∈ TG := w_1566
set_option maxRecDepth 8000 in
theorem w_1570 : (Jvm.Cond.code ({ cls := "NextOneKnowsModel", name := "knowingHolds", desc := "(II)I" } : Jvm.MethodName) prog_14_method_78_code (3 : Nat) (Option.some Jvm.ClassFile.FieldType.int)) ∈ TG := tg_7 57 rfl rfl
set_option maxRecDepth 8000 in
theorem kX12_knowingHolds : Cond.code mX12_knowingHolds.1 mX12_knowingHolds.2.1 mX12_knowingHolds.2.2.1 mX12_knowingHolds.2.2.2 ∈ TG := w_1570
set_option maxRecDepth 8000 in
theorem w_1574 : (Jvm.Cond.code ({ cls := "NextOneKnowsModel", name := "tellsAct", desc := "(II)I" } : Jvm.MethodName) prog_14_method_82_code (4 : Nat) (Option.some Jvm.ClassFile.FieldType.int)) ∈ TG := tg_7 61 rfl rfl
set_option maxRecDepth 8000 in
theorem kX12_tellsAct : Cond.code mX12_tellsAct.1 mX12_tellsAct.2.1 mX12_tellsAct.2.2.1 mX12_tellsAct.2.2.2 ∈ TG := w_1574
set_option maxRecDepth 8000 in
theorem w_1578 : (Jvm.Cond.code ({ cls := "NextOneKnowsModel", name := "knowingTells", desc := "(II)I" } : Jvm.MethodName) prog_14_method_81_code (3 : Nat) (Option.some Jvm.ClassFile.FieldType.int)) ∈ TG := tg_7 65 rfl rfl
set_option maxRecDepth 8000 in
theorem kX12_knowingTells : Cond.code mX12_knowingTells.1 mX12_knowingTells.2.1 mX12_knowingTells.2.2.1 mX12_knowingTells.2.2.2 ∈ TG := w_1578
set_option maxRecDepth 8000 in
theorem w_1582 : (Jvm.Cond.code ({ cls := "NextOneKnowsModel", name := "trace", desc := "(I)I" } : Jvm.MethodName) prog_14_method_84_code (2 : Nat) (Option.some Jvm.ClassFile.FieldType.int)) ∈ TG := tg_7 69 rfl rfl
set_option maxRecDepth 8000 in
theorem kX12_trace : Cond.code mX12_trace.1 mX12_trace.2.1 mX12_trace.2.2.1 mX12_trace.2.2.2 ∈ TG := w_1582
set_option maxRecDepth 8000 in
theorem w_1586 : (Jvm.Cond.code ({ cls := "NextOneKnowsModel", name := "taken", desc := "(II)I" } : Jvm.MethodName) prog_14_method_85_code (4 : Nat) (Option.some Jvm.ClassFile.FieldType.int)) ∈ TG := tg_7 73 rfl rfl
set_option maxRecDepth 8000 in
theorem kX12_taken : Cond.code mX12_taken.1 mX12_taken.2.1 mX12_taken.2.2.1 mX12_taken.2.2.2 ∈ TG := w_1586
set_option maxRecDepth 8000 in
theorem w_1590 : (Jvm.Cond.code ({ cls := "NextOneKnowsModel", name := "count", desc := "(I)I" } : Jvm.MethodName) prog_14_method_86_code (2 : Nat) (Option.some Jvm.ClassFile.FieldType.int)) ∈ TG := tg_7 77 rfl rfl
set_option maxRecDepth 8000 in
theorem kX12_count : Cond.code mX12_count.1 mX12_count.2.1 mX12_count.2.2.1 mX12_count.2.2.2 ∈ TG := w_1590
set_option maxRecDepth 8000 in
theorem w_1594 : (Jvm.Cond.code ({ cls := "NextOneKnowsModel", name := "tape", desc := "(III)I" } : Jvm.MethodName) prog_14_method_88_code (5 : Nat) (Option.some Jvm.ClassFile.FieldType.int)) ∈ TG := tg_7 81 rfl rfl
set_option maxRecDepth 8000 in
theorem kX12_tape : Cond.code mX12_tape.1 mX12_tape.2.1 mX12_tape.2.2.1 mX12_tape.2.2.2 ∈ TG := w_1594
set_option maxRecDepth 8000 in
theorem w_1598 : (Jvm.Cond.code ({ cls := "NextOneKnowsModel", name := "item", desc := "(IIJ)I" } : Jvm.MethodName) prog_14_method_90_code (5 : Nat) (Option.some Jvm.ClassFile.FieldType.int)) ∈ TG := tg_7 85 rfl rfl
set_option maxRecDepth 8000 in
theorem kX12_item : Cond.code mX12_item.1 mX12_item.2.1 mX12_item.2.2.1 mX12_item.2.2.2 ∈ TG := w_1598
set_option maxRecDepth 8000 in
theorem w_1602 : (Jvm.Cond.code ({ cls := "NextOneKnowsModel", name := "narrow", desc := "(IJ)J" } : Jvm.MethodName) prog_14_method_89_code (4 : Nat) (Option.some Jvm.ClassFile.FieldType.long)) ∈ TG := tg_7 89 rfl rfl
set_option maxRecDepth 8000 in
theorem kX12_narrow : Cond.code mX12_narrow.1 mX12_narrow.2.1 mX12_narrow.2.2.1 mX12_narrow.2.2.2 ∈ TG := w_1602
set_option maxRecDepth 8000 in
theorem w_1606 : (Jvm.Cond.code ({ cls := "NextOneKnowsModel", name := "read", desc := "(II)J" } : Jvm.MethodName) prog_14_method_91_code (3 : Nat) (Option.some Jvm.ClassFile.FieldType.long)) ∈ TG := tg_7 93 rfl rfl
set_option maxRecDepth 8000 in
theorem kX12_read : Cond.code mX12_read.1 mX12_read.2.1 mX12_read.2.2.1 mX12_read.2.2.2 ∈ TG := w_1606
set_option maxRecDepth 8000 in
theorem w_1610 : (Jvm.Cond.code ({ cls := "NextOneKnowsModel", name := "shift", desc := "(IIIII)I" } : Jvm.MethodName) prog_14_method_92_code (7 : Nat) (Option.some Jvm.ClassFile.FieldType.int)) ∈ TG := tg_7 97 rfl rfl
set_option maxRecDepth 8000 in
theorem kX12_shift : Cond.code mX12_shift.1 mX12_shift.2.1 mX12_shift.2.2.1 mX12_shift.2.2.2 ∈ TG := w_1610
set_option maxRecDepth 8000 in
theorem pmX11_init : prms yX11_init 0 := ⟨by decide +kernel, by decide +kernel, by decide +kernel⟩
set_option maxRecDepth 8000 in
theorem pmX5_init : prms yX5_init 0 := ⟨by decide +kernel, by decide +kernel, by decide +kernel⟩
set_option maxRecDepth 8000 in
theorem pmX0_init : prms yX0_init 1 := ⟨by decide +kernel, by decide +kernel, by decide +kernel⟩
set_option maxRecDepth 8000 in
theorem pmX7_init : prms yX7_init 0 := ⟨by decide +kernel, by decide +kernel, by decide +kernel⟩
set_option maxRecDepth 8000 in
theorem pmJ7_fill_53178 : prms yJ7_fill_53178 2 := ⟨by decide +kernel, by decide +kernel, by decide +kernel⟩
set_option maxRecDepth 8000 in
theorem pmX3_init : prms yX3_init 1 := ⟨by decide +kernel, by decide +kernel, by decide +kernel⟩
set_option maxRecDepth 8000 in
theorem pmX11_doing : prms yX11_doing 6 := ⟨by decide +kernel, by decide +kernel, by decide +kernel⟩
set_option maxRecDepth 8000 in
theorem pmX11_isNot : prms yX11_isNot 3 := ⟨by decide +kernel, by decide +kernel, by decide +kernel⟩
set_option maxRecDepth 8000 in
theorem pmX11_made : prms yX11_made 7 := ⟨by decide +kernel, by decide +kernel, by decide +kernel⟩
set_option maxRecDepth 8000 in
theorem pmX9_init : prms yX9_init 6 := ⟨by decide +kernel, by decide +kernel, by decide +kernel⟩
set_option maxRecDepth 8000 in
theorem pmX1_init : prms yX1_init 6 := ⟨by decide +kernel, by decide +kernel, by decide +kernel⟩
set_option maxRecDepth 8000 in
theorem pmJ9_max_7cf53 : prms yJ9_max_7cf53 2 := ⟨by decide +kernel, by decide +kernel, by decide +kernel⟩
set_option maxRecDepth 8000 in
theorem pmX2_init : prms yX2_init 6 := ⟨by decide +kernel, by decide +kernel, by decide +kernel⟩
set_option maxRecDepth 8000 in
theorem pmX4_init : prms yX4_init 6 := ⟨by decide +kernel, by decide +kernel, by decide +kernel⟩
set_option maxRecDepth 8000 in
theorem pmX8_init : prms yX8_init 6 := ⟨by decide +kernel, by decide +kernel, by decide +kernel⟩
set_option maxRecDepth 8000 in
theorem pmX6_init : prms yX6_init 6 := ⟨by decide +kernel, by decide +kernel, by decide +kernel⟩
set_option maxRecDepth 8000 in
theorem pmX10_init : prms yX10_init 6 := ⟨by decide +kernel, by decide +kernel, by decide +kernel⟩
set_option maxRecDepth 8000 in
theorem pmX5_add : prms yX5_add 1 := ⟨by decide +kernel, by decide +kernel, by decide +kernel⟩
set_option maxRecDepth 8000 in
theorem pmX11_of : prms yX11_of 2 := ⟨by decide +kernel, by decide +kernel, by decide +kernel⟩
set_option maxRecDepth 8000 in
theorem pmX5_find : prms yX5_find 1 := ⟨by decide +kernel, by decide +kernel, by decide +kernel⟩
set_option maxRecDepth 8000 in
theorem pmX2_kind : prms yX2_kind 0 := ⟨by decide +kernel, by decide +kernel, by decide +kernel⟩
set_option maxRecDepth 8000 in
theorem pmX4_kind : prms yX4_kind 0 := ⟨by decide +kernel, by decide +kernel, by decide +kernel⟩
set_option maxRecDepth 8000 in
theorem pmX6_kind : prms yX6_kind 0 := ⟨by decide +kernel, by decide +kernel, by decide +kernel⟩
set_option maxRecDepth 8000 in
theorem pmX8_kind : prms yX8_kind 0 := ⟨by decide +kernel, by decide +kernel, by decide +kernel⟩
set_option maxRecDepth 8000 in
theorem pmX9_kind : prms yX9_kind 0 := ⟨by decide +kernel, by decide +kernel, by decide +kernel⟩
set_option maxRecDepth 8000 in
theorem pmX10_kind : prms yX10_kind 0 := ⟨by decide +kernel, by decide +kernel, by decide +kernel⟩
set_option maxRecDepth 8000 in
theorem pmX1_kind : prms yX1_kind 0 := ⟨by decide +kernel, by decide +kernel, by decide +kernel⟩
set_option maxRecDepth 8000 in
theorem pmX11_bit : prms yX11_bit 2 := ⟨by decide +kernel, by decide +kernel, by decide +kernel⟩
set_option maxRecDepth 8000 in
theorem pmX0_saidOf : prms yX0_saidOf 1 := ⟨by decide +kernel, by decide +kernel, by decide +kernel⟩
set_option maxRecDepth 8000 in
theorem pmX0_hearOf : prms yX0_hearOf 1 := ⟨by decide +kernel, by decide +kernel, by decide +kernel⟩
set_option maxRecDepth 8000 in
theorem pmX5_saidBy : prms yX5_saidBy 2 := ⟨by decide +kernel, by decide +kernel, by decide +kernel⟩
set_option maxRecDepth 8000 in
theorem pmX3_together : prms yX3_together 4 := ⟨by decide +kernel, by decide +kernel, by decide +kernel⟩
set_option maxRecDepth 8000 in
theorem pmX3_holds : prms yX3_holds 4 := ⟨by decide +kernel, by decide +kernel, by decide +kernel⟩
set_option maxRecDepth 8000 in
theorem pmX3_passes : prms yX3_passes 4 := ⟨by decide +kernel, by decide +kernel, by decide +kernel⟩
set_option maxRecDepth 8000 in
theorem pmX2_saidOver : prms yX2_saidOver 2 := ⟨by decide +kernel, by decide +kernel, by decide +kernel⟩
set_option maxRecDepth 8000 in
theorem pmX4_saidOver : prms yX4_saidOver 2 := ⟨by decide +kernel, by decide +kernel, by decide +kernel⟩
set_option maxRecDepth 8000 in
theorem pmX6_saidOver : prms yX6_saidOver 2 := ⟨by decide +kernel, by decide +kernel, by decide +kernel⟩
set_option maxRecDepth 8000 in
theorem pmX8_saidOver : prms yX8_saidOver 2 := ⟨by decide +kernel, by decide +kernel, by decide +kernel⟩
set_option maxRecDepth 8000 in
theorem pmX9_saidOver : prms yX9_saidOver 2 := ⟨by decide +kernel, by decide +kernel, by decide +kernel⟩
set_option maxRecDepth 8000 in
theorem pmX10_saidOver : prms yX10_saidOver 2 := ⟨by decide +kernel, by decide +kernel, by decide +kernel⟩
set_option maxRecDepth 8000 in
theorem pmX1_saidOver : prms yX1_saidOver 2 := ⟨by decide +kernel, by decide +kernel, by decide +kernel⟩
set_option maxRecDepth 8000 in
theorem pmX5_dearIn : prms yX5_dearIn 2 := ⟨by decide +kernel, by decide +kernel, by decide +kernel⟩
set_option maxRecDepth 8000 in
theorem pmX11_needless : prms yX11_needless 2 := ⟨by decide +kernel, by decide +kernel, by decide +kernel⟩
set_option maxRecDepth 8000 in
theorem pmX11_withBit : prms yX11_withBit 3 := ⟨by decide +kernel, by decide +kernel, by decide +kernel⟩
set_option maxRecDepth 8000 in
theorem pmX11_learn : prms yX11_learn 2 := ⟨by decide +kernel, by decide +kernel, by decide +kernel⟩
set_option maxRecDepth 8000 in
theorem pmX11_odds : prms yX11_odds 2 := ⟨by decide +kernel, by decide +kernel, by decide +kernel⟩
set_option maxRecDepth 8000 in
theorem pmX11_hours : prms yX11_hours 2 := ⟨by decide +kernel, by decide +kernel, by decide +kernel⟩
set_option maxRecDepth 8000 in
theorem pmX11_feed : prms yX11_feed 1 := ⟨by decide +kernel, by decide +kernel, by decide +kernel⟩
set_option maxRecDepth 8000 in
theorem pmX11_post : prms yX11_post 0 := ⟨by decide +kernel, by decide +kernel, by decide +kernel⟩
set_option maxRecDepth 8000 in
theorem pmX3_readFrom : prms yX3_readFrom 1 := ⟨by decide +kernel, by decide +kernel, by decide +kernel⟩
set_option maxRecDepth 8000 in
theorem pmJ9_min_7cf53 : prms yJ9_min_7cf53 2 := ⟨by decide +kernel, by decide +kernel, by decide +kernel⟩
set_option maxRecDepth 8000 in
theorem pmX3_takes : prms yX3_takes 1 := ⟨by decide +kernel, by decide +kernel, by decide +kernel⟩
set_option maxRecDepth 8000 in
theorem pmX3_here : prms yX3_here 0 := ⟨by decide +kernel, by decide +kernel, by decide +kernel⟩
set_option maxRecDepth 8000 in
theorem pmX3_readClause : prms yX3_readClause 0 := ⟨by decide +kernel, by decide +kernel, by decide +kernel⟩
set_option maxRecDepth 8000 in
theorem pmX3_readWord : prms yX3_readWord 0 := ⟨by decide +kernel, by decide +kernel, by decide +kernel⟩
set_option maxRecDepth 8000 in
theorem pmX3_needs : prms yX3_needs 1 := ⟨by decide +kernel, by decide +kernel, by decide +kernel⟩
set_option maxRecDepth 8000 in
theorem pmX3_takeIf : prms yX3_takeIf 1 := ⟨by decide +kernel, by decide +kernel, by decide +kernel⟩
set_option maxRecDepth 8000 in
theorem pmX3_readNumber : prms yX3_readNumber 0 := ⟨by decide +kernel, by decide +kernel, by decide +kernel⟩
set_option maxRecDepth 8000 in
theorem pmX3_readEither : prms yX3_readEither 1 := ⟨by decide +kernel, by decide +kernel, by decide +kernel⟩
set_option maxRecDepth 8000 in
theorem pmX3_readPart : prms yX3_readPart 1 := ⟨by decide +kernel, by decide +kernel, by decide +kernel⟩
set_option maxRecDepth 8000 in
theorem pmX3_keep : prms yX3_keep 1 := ⟨by decide +kernel, by decide +kernel, by decide +kernel⟩
set_option maxRecDepth 8000 in
theorem pmX3_readTest : prms yX3_readTest 0 := ⟨by decide +kernel, by decide +kernel, by decide +kernel⟩
set_option maxRecDepth 8000 in
theorem pmX11_told : prms yX11_told 1 := ⟨by decide +kernel, by decide +kernel, by decide +kernel⟩
set_option maxRecDepth 8000 in
theorem pmX5_callsAtFirst : prms yX5_callsAtFirst 0 := ⟨by decide +kernel, by decide +kernel, by decide +kernel⟩
set_option maxRecDepth 8000 in
theorem pmX5_callsFading : prms yX5_callsFading 0 := ⟨by decide +kernel, by decide +kernel, by decide +kernel⟩
set_option maxRecDepth 8000 in
theorem pmX11_said : prms yX11_said 2 := ⟨by decide +kernel, by decide +kernel, by decide +kernel⟩
set_option maxRecDepth 8000 in
theorem pmX11_hand : prms yX11_hand 0 := ⟨by decide +kernel, by decide +kernel, by decide +kernel⟩
set_option maxRecDepth 8000 in
theorem pmX0_hear : prms yX0_hear 0 := ⟨by decide +kernel, by decide +kernel, by decide +kernel⟩
set_option maxRecDepth 8000 in
theorem pmX0_goingOver : prms yX0_goingOver 1 := ⟨by decide +kernel, by decide +kernel, by decide +kernel⟩
set_option maxRecDepth 8000 in
theorem pmJ6_bitCount_0f7a4 : prms yJ6_bitCount_0f7a4 1 := ⟨by decide +kernel, by decide +kernel, by decide +kernel⟩
set_option maxRecDepth 8000 in
theorem pmX11_go : prms yX11_go 1 := ⟨by decide +kernel, by decide +kernel, by decide +kernel⟩
set_option maxRecDepth 8000 in
theorem pmX0_look : prms yX0_look 1 := ⟨by decide +kernel, by decide +kernel, by decide +kernel⟩
set_option maxRecDepth 8000 in
theorem pmX5_coming : prms yX5_coming 1 := ⟨by decide +kernel, by decide +kernel, by decide +kernel⟩
set_option maxRecDepth 8000 in
theorem pmX1_weeksUntil : prms yX1_weeksUntil 1 := ⟨by decide +kernel, by decide +kernel, by decide +kernel⟩
set_option maxRecDepth 8000 in
theorem pmJ9_floorMod_7cf53 : prms yJ9_floorMod_7cf53 2 := ⟨by decide +kernel, by decide +kernel, by decide +kernel⟩
set_option maxRecDepth 8000 in
theorem pmX0_lookDear : prms yX0_lookDear 2 := ⟨by decide +kernel, by decide +kernel, by decide +kernel⟩
set_option maxRecDepth 8000 in
theorem pmX0_dearCell : prms yX0_dearCell 2 := ⟨by decide +kernel, by decide +kernel, by decide +kernel⟩
set_option maxRecDepth 8000 in
theorem pmX0_pass : prms yX0_pass 2 := ⟨by decide +kernel, by decide +kernel, by decide +kernel⟩
set_option maxRecDepth 8000 in
theorem pmX0_stopAll : prms yX0_stopAll 2 := ⟨by decide +kernel, by decide +kernel, by decide +kernel⟩
set_option maxRecDepth 8000 in
theorem pmX0_stop : prms yX0_stop 2 := ⟨by decide +kernel, by decide +kernel, by decide +kernel⟩
set_option maxRecDepth 8000 in
theorem pmX10_isKnownByCall : prms yX10_isKnownByCall 0 := ⟨by decide +kernel, by decide +kernel, by decide +kernel⟩
set_option maxRecDepth 8000 in
theorem pmX1_isKnownByCall : prms yX1_isKnownByCall 0 := ⟨by decide +kernel, by decide +kernel, by decide +kernel⟩
set_option maxRecDepth 8000 in
theorem pmX2_isKnownByStop : prms yX2_isKnownByStop 0 := ⟨by decide +kernel, by decide +kernel, by decide +kernel⟩
set_option maxRecDepth 8000 in
theorem pmX4_isKnownByStop : prms yX4_isKnownByStop 0 := ⟨by decide +kernel, by decide +kernel, by decide +kernel⟩
set_option maxRecDepth 8000 in
theorem pmX1_isKnownByStop : prms yX1_isKnownByStop 0 := ⟨by decide +kernel, by decide +kernel, by decide +kernel⟩
set_option maxRecDepth 8000 in
theorem pmX11_run : prms yX11_run 2 := ⟨by decide +kernel, by decide +kernel, by decide +kernel⟩
set_option maxRecDepth 8000 in
theorem pmX11_split : prms yX11_split 3 := ⟨by decide +kernel, by decide +kernel, by decide +kernel⟩
set_option maxRecDepth 8000 in
theorem pmX0_bestSplit : prms yX0_bestSplit 1 := ⟨by decide +kernel, by decide +kernel, by decide +kernel⟩
set_option maxRecDepth 8000 in
theorem pmX0_share : prms yX0_share 4 := ⟨by decide +kernel, by decide +kernel, by decide +kernel⟩
set_option maxRecDepth 8000 in
theorem pmX0_costHanded : prms yX0_costHanded 1 := ⟨by decide +kernel, by decide +kernel, by decide +kernel⟩
set_option maxRecDepth 8000 in
theorem pmX11_more : prms yX11_more 2 := ⟨by decide +kernel, by decide +kernel, by decide +kernel⟩
set_option maxRecDepth 8000 in
theorem pmX0_hourMore : prms yX0_hourMore 1 := ⟨by decide +kernel, by decide +kernel, by decide +kernel⟩
set_option maxRecDepth 8000 in
theorem pmX11_ask : prms yX11_ask 1 := ⟨by decide +kernel, by decide +kernel, by decide +kernel⟩
set_option maxRecDepth 8000 in
theorem pmX0_bestOf : prms yX0_bestOf 2 := ⟨by decide +kernel, by decide +kernel, by decide +kernel⟩
set_option maxRecDepth 8000 in
theorem pmX11_drop : prms yX11_drop 1 := ⟨by decide +kernel, by decide +kernel, by decide +kernel⟩
set_option maxRecDepth 8000 in
theorem pmX11_when : prms yX11_when 1 := ⟨by decide +kernel, by decide +kernel, by decide +kernel⟩
set_option maxRecDepth 8000 in
theorem pmX11_busiest : prms yX11_busiest 2 := ⟨by decide +kernel, by decide +kernel, by decide +kernel⟩
set_option maxRecDepth 8000 in
theorem pmX11_all : prms yX11_all 1 := ⟨by decide +kernel, by decide +kernel, by decide +kernel⟩
set_option maxRecDepth 8000 in
theorem pmX5_everyDoing : prms yX5_everyDoing 0 := ⟨by decide +kernel, by decide +kernel, by decide +kernel⟩
set_option maxRecDepth 8000 in
theorem pmX5_longestWait : prms yX5_longestWait 2 := ⟨by decide +kernel, by decide +kernel, by decide +kernel⟩
set_option maxRecDepth 8000 in
theorem pmX11_list : prms yX11_list 2 := ⟨by decide +kernel, by decide +kernel, by decide +kernel⟩
set_option maxRecDepth 8000 in
theorem pmX5_addRow : prms yX5_addRow 2 := ⟨by decide +kernel, by decide +kernel, by decide +kernel⟩
set_option maxRecDepth 8000 in
theorem pmX11_looked : prms yX11_looked 0 := ⟨by decide +kernel, by decide +kernel, by decide +kernel⟩
set_option maxRecDepth 8000 in
theorem pmX5_weeksToRows : prms yX5_weeksToRows 0 := ⟨by decide +kernel, by decide +kernel, by decide +kernel⟩
set_option maxRecDepth 8000 in
theorem pmX0_firstRowNotSo : prms yX0_firstRowNotSo 0 := ⟨by decide +kernel, by decide +kernel, by decide +kernel⟩
set_option maxRecDepth 8000 in
theorem pmX11_fits : prms yX11_fits 0 := ⟨by decide +kernel, by decide +kernel, by decide +kernel⟩
set_option maxRecDepth 8000 in
theorem pmX11_chance : prms yX11_chance 2 := ⟨by decide +kernel, by decide +kernel, by decide +kernel⟩
set_option maxRecDepth 8000 in
theorem pmX11_commonDivisor : prms yX11_commonDivisor 2 := ⟨by decide +kernel, by decide +kernel, by decide +kernel⟩
set_option maxRecDepth 8000 in
theorem pmJ9_max_f86c9 : prms yJ9_max_f86c9 2 := ⟨by decide +kernel, by decide +kernel, by decide +kernel⟩
set_option maxRecDepth 8000 in
theorem pmX11_judge : prms yX11_judge 2 := ⟨by decide +kernel, by decide +kernel, by decide +kernel⟩
set_option maxRecDepth 8000 in
theorem pmX11_image : prms yX11_image 0 := ⟨by decide +kernel, by decide +kernel, by decide +kernel⟩
set_option maxRecDepth 8000 in
theorem pmX5_takeFrom : prms yX5_takeFrom 1 := ⟨by decide +kernel, by decide +kernel, by decide +kernel⟩
set_option maxRecDepth 8000 in
theorem pmX11_undo : prms yX11_undo 0 := ⟨by decide +kernel, by decide +kernel, by decide +kernel⟩
set_option maxRecDepth 8000 in
theorem pmX11_act : prms yX11_act 3 := ⟨by decide +kernel, by decide +kernel, by decide +kernel⟩
set_option maxRecDepth 8000 in
theorem pmX2_says : prms yX2_says 2 := ⟨by decide +kernel, by decide +kernel, by decide +kernel⟩
set_option maxRecDepth 8000 in
theorem pmX7_begins : prms yX7_begins 1 := ⟨by decide +kernel, by decide +kernel, by decide +kernel⟩
set_option maxRecDepth 8000 in
theorem pmX8_says : prms yX8_says 2 := ⟨by decide +kernel, by decide +kernel, by decide +kernel⟩
set_option maxRecDepth 8000 in
theorem pmX10_says : prms yX10_says 2 := ⟨by decide +kernel, by decide +kernel, by decide +kernel⟩
set_option maxRecDepth 8000 in
theorem pmX1_says : prms yX1_says 2 := ⟨by decide +kernel, by decide +kernel, by decide +kernel⟩
set_option maxRecDepth 8000 in
theorem pmX8_holds : prms yX8_holds 2 := ⟨by decide +kernel, by decide +kernel, by decide +kernel⟩
set_option maxRecDepth 8000 in
theorem pmX9_holds : prms yX9_holds 2 := ⟨by decide +kernel, by decide +kernel, by decide +kernel⟩
set_option maxRecDepth 8000 in
theorem pmX10_holds : prms yX10_holds 2 := ⟨by decide +kernel, by decide +kernel, by decide +kernel⟩
set_option maxRecDepth 8000 in
theorem pmX1_holds : prms yX1_holds 2 := ⟨by decide +kernel, by decide +kernel, by decide +kernel⟩
set_option maxRecDepth 8000 in
theorem pmX4_tells : prms yX4_tells 2 := ⟨by decide +kernel, by decide +kernel, by decide +kernel⟩
set_option maxRecDepth 8000 in
theorem pmX6_tells : prms yX6_tells 2 := ⟨by decide +kernel, by decide +kernel, by decide +kernel⟩
set_option maxRecDepth 8000 in
theorem pmX1_tells : prms yX1_tells 2 := ⟨by decide +kernel, by decide +kernel, by decide +kernel⟩
set_option maxRecDepth 8000 in
theorem pmX11_trace : prms yX11_trace 1 := ⟨by decide +kernel, by decide +kernel, by decide +kernel⟩
set_option maxRecDepth 8000 in
theorem pmX11_taken : prms yX11_taken 2 := ⟨by decide +kernel, by decide +kernel, by decide +kernel⟩
set_option maxRecDepth 8000 in
theorem pmX11_isOfKind : prms yX11_isOfKind 2 := ⟨by decide +kernel, by decide +kernel, by decide +kernel⟩
set_option maxRecDepth 8000 in
theorem pmX11_count : prms yX11_count 1 := ⟨by decide +kernel, by decide +kernel, by decide +kernel⟩
set_option maxRecDepth 8000 in
theorem pmX11_tape : prms yX11_tape 3 := ⟨by decide +kernel, by decide +kernel, by decide +kernel⟩
set_option maxRecDepth 8000 in
theorem pmJ7_fill_d0a16 : prms yJ7_fill_d0a16 2 := ⟨by decide +kernel, by decide +kernel, by decide +kernel⟩
set_option maxRecDepth 8000 in
theorem pmX11_item : prms yX11_item 3 := ⟨by decide +kernel, by decide +kernel, by decide +kernel⟩
set_option maxRecDepth 8000 in
theorem pmX11_cut : prms yX11_cut 2 := ⟨by decide +kernel, by decide +kernel, by decide +kernel⟩
set_option maxRecDepth 8000 in
theorem pmX11_read : prms yX11_read 2 := ⟨by decide +kernel, by decide +kernel, by decide +kernel⟩
set_option maxRecDepth 8000 in
theorem pmX11_shift : prms yX11_shift 5 := ⟨by decide +kernel, by decide +kernel, by decide +kernel⟩
set_option maxRecDepth 8000 in
theorem pmX12_init : prms yX12_init 0 := ⟨by decide +kernel, by decide +kernel, by decide +kernel⟩
set_option maxRecDepth 8000 in
theorem pmX12_doing : prms yX12_doing 6 := ⟨by decide +kernel, by decide +kernel, by decide +kernel⟩
set_option maxRecDepth 8000 in
theorem pmX12_in : prms yX12_in 3 := ⟨by decide +kernel, by decide +kernel, by decide +kernel⟩
set_option maxRecDepth 8000 in
theorem pmX12_with : prms yX12_with 3 := ⟨by decide +kernel, by decide +kernel, by decide +kernel⟩
set_option maxRecDepth 8000 in
theorem pmX12_needless : prms yX12_needless 2 := ⟨by decide +kernel, by decide +kernel, by decide +kernel⟩
set_option maxRecDepth 8000 in
theorem pmX12_isDoing : prms yX12_isDoing 1 := ⟨by decide +kernel, by decide +kernel, by decide +kernel⟩
set_option maxRecDepth 8000 in
theorem pmX12_has : prms yX12_has 2 := ⟨by decide +kernel, by decide +kernel, by decide +kernel⟩
set_option maxRecDepth 8000 in
theorem pmX12_learn : prms yX12_learn 2 := ⟨by decide +kernel, by decide +kernel, by decide +kernel⟩
set_option maxRecDepth 8000 in
theorem pmX12_odds : prms yX12_odds 2 := ⟨by decide +kernel, by decide +kernel, by decide +kernel⟩
set_option maxRecDepth 8000 in
theorem pmX12_hours : prms yX12_hours 2 := ⟨by decide +kernel, by decide +kernel, by decide +kernel⟩
set_option maxRecDepth 8000 in
theorem pmX12_isWay : prms yX12_isWay 1 := ⟨by decide +kernel, by decide +kernel, by decide +kernel⟩
set_option maxRecDepth 8000 in
theorem pmX12_feed : prms yX12_feed 1 := ⟨by decide +kernel, by decide +kernel, by decide +kernel⟩
set_option maxRecDepth 8000 in
theorem pmX12_post : prms yX12_post 0 := ⟨by decide +kernel, by decide +kernel, by decide +kernel⟩
set_option maxRecDepth 8000 in
theorem pmX12_goesText : prms yX12_goesText 1 := ⟨by decide +kernel, by decide +kernel, by decide +kernel⟩
set_option maxRecDepth 8000 in
theorem pmX12_takesClause : prms yX12_takesClause 1 := ⟨by decide +kernel, by decide +kernel, by decide +kernel⟩
set_option maxRecDepth 8000 in
theorem pmX12_takesHead : prms yX12_takesHead 1 := ⟨by decide +kernel, by decide +kernel, by decide +kernel⟩
set_option maxRecDepth 8000 in
theorem pmX12_second : prms yX12_second 0 := ⟨by decide +kernel, by decide +kernel, by decide +kernel⟩
set_option maxRecDepth 8000 in
theorem pmX12_next : prms yX12_next 0 := ⟨by decide +kernel, by decide +kernel, by decide +kernel⟩
set_option maxRecDepth 8000 in
theorem pmX12_takesWord : prms yX12_takesWord 2 := ⟨by decide +kernel, by decide +kernel, by decide +kernel⟩
set_option maxRecDepth 8000 in
theorem pmX12_takes : prms yX12_takes 1 := ⟨by decide +kernel, by decide +kernel, by decide +kernel⟩
set_option maxRecDepth 8000 in
theorem pmX12_takesNumber : prms yX12_takesNumber 0 := ⟨by decide +kernel, by decide +kernel, by decide +kernel⟩
set_option maxRecDepth 8000 in
theorem pmX12_isDigit : prms yX12_isDigit 0 := ⟨by decide +kernel, by decide +kernel, by decide +kernel⟩
set_option maxRecDepth 8000 in
theorem pmX12_takesE : prms yX12_takesE 1 := ⟨by decide +kernel, by decide +kernel, by decide +kernel⟩
set_option maxRecDepth 8000 in
theorem pmX12_takesTest : prms yX12_takesTest 0 := ⟨by decide +kernel, by decide +kernel, by decide +kernel⟩
set_option maxRecDepth 8000 in
theorem pmX12_place : prms yX12_place 1 := ⟨by decide +kernel, by decide +kernel, by decide +kernel⟩
set_option maxRecDepth 8000 in
theorem pmX12_put : prms yX12_put 1 := ⟨by decide +kernel, by decide +kernel, by decide +kernel⟩
set_option maxRecDepth 8000 in
theorem pmX12_whole : prms yX12_whole 0 := ⟨by decide +kernel, by decide +kernel, by decide +kernel⟩
set_option maxRecDepth 8000 in
theorem pmX12_settle : prms yX12_settle 1 := ⟨by decide +kernel, by decide +kernel, by decide +kernel⟩
set_option maxRecDepth 8000 in
theorem pmX12_of : prms yX12_of 2 := ⟨by decide +kernel, by decide +kernel, by decide +kernel⟩
set_option maxRecDepth 8000 in
theorem pmX12_laySaid : prms yX12_laySaid 0 := ⟨by decide +kernel, by decide +kernel, by decide +kernel⟩
set_option maxRecDepth 8000 in
theorem pmX12_sumOf : prms yX12_sumOf 4 := ⟨by decide +kernel, by decide +kernel, by decide +kernel⟩
set_option maxRecDepth 8000 in
theorem pmX12_begin : prms yX12_begin 0 := ⟨by decide +kernel, by decide +kernel, by decide +kernel⟩
set_option maxRecDepth 8000 in
theorem pmX12_behind : prms yX12_behind 0 := ⟨by decide +kernel, by decide +kernel, by decide +kernel⟩
set_option maxRecDepth 8000 in
theorem pmX12_holds : prms yX12_holds 4 := ⟨by decide +kernel, by decide +kernel, by decide +kernel⟩
set_option maxRecDepth 8000 in
theorem pmX12_factOf : prms yX12_factOf 4 := ⟨by decide +kernel, by decide +kernel, by decide +kernel⟩
set_option maxRecDepth 8000 in
theorem pmX12_saidOf : prms yX12_saidOf 1 := ⟨by decide +kernel, by decide +kernel, by decide +kernel⟩
set_option maxRecDepth 8000 in
theorem pmX12_saidAll : prms yX12_saidAll 2 := ⟨by decide +kernel, by decide +kernel, by decide +kernel⟩
set_option maxRecDepth 8000 in
theorem pmX12_dear : prms yX12_dear 2 := ⟨by decide +kernel, by decide +kernel, by decide +kernel⟩
set_option maxRecDepth 8000 in
theorem pmX12_told : prms yX12_told 1 := ⟨by decide +kernel, by decide +kernel, by decide +kernel⟩
set_option maxRecDepth 8000 in
theorem pmX12_lastOf : prms yX12_lastOf 2 := ⟨by decide +kernel, by decide +kernel, by decide +kernel⟩
set_option maxRecDepth 8000 in
theorem pmX12_said : prms yX12_said 2 := ⟨by decide +kernel, by decide +kernel, by decide +kernel⟩
set_option maxRecDepth 8000 in
theorem pmX12_hand : prms yX12_hand 0 := ⟨by decide +kernel, by decide +kernel, by decide +kernel⟩
set_option maxRecDepth 8000 in
theorem pmX12_ones : prms yX12_ones 1 := ⟨by decide +kernel, by decide +kernel, by decide +kernel⟩
set_option maxRecDepth 8000 in
theorem pmX12_over : prms yX12_over 0 := ⟨by decide +kernel, by decide +kernel, by decide +kernel⟩
set_option maxRecDepth 8000 in
theorem pmX12_go : prms yX12_go 1 := ⟨by decide +kernel, by decide +kernel, by decide +kernel⟩
set_option maxRecDepth 8000 in
theorem pmX12_begins : prms yX12_begins 2 := ⟨by decide +kernel, by decide +kernel, by decide +kernel⟩
set_option maxRecDepth 8000 in
theorem pmX12_goWeeks : prms yX12_goWeeks 1 := ⟨by decide +kernel, by decide +kernel, by decide +kernel⟩
set_option maxRecDepth 8000 in
theorem pmX12_goWeek : prms yX12_goWeek 2 := ⟨by decide +kernel, by decide +kernel, by decide +kernel⟩
set_option maxRecDepth 8000 in
theorem pmX12_comes : prms yX12_comes 2 := ⟨by decide +kernel, by decide +kernel, by decide +kernel⟩
set_option maxRecDepth 8000 in
theorem pmX12_learnsBy : prms yX12_learnsBy 1 := ⟨by decide +kernel, by decide +kernel, by decide +kernel⟩
set_option maxRecDepth 8000 in
theorem pmX12_run : prms yX12_run 2 := ⟨by decide +kernel, by decide +kernel, by decide +kernel⟩
set_option maxRecDepth 8000 in
theorem pmX12_split : prms yX12_split 3 := ⟨by decide +kernel, by decide +kernel, by decide +kernel⟩
set_option maxRecDepth 8000 in
theorem pmX12_keepHours : prms yX12_keepHours 0 := ⟨by decide +kernel, by decide +kernel, by decide +kernel⟩
set_option maxRecDepth 8000 in
theorem pmX12_costHanded : prms yX12_costHanded 1 := ⟨by decide +kernel, by decide +kernel, by decide +kernel⟩
set_option maxRecDepth 8000 in
theorem pmX12_costBy : prms yX12_costBy 3 := ⟨by decide +kernel, by decide +kernel, by decide +kernel⟩
set_option maxRecDepth 8000 in
theorem pmX12_putHours : prms yX12_putHours 0 := ⟨by decide +kernel, by decide +kernel, by decide +kernel⟩
set_option maxRecDepth 8000 in
theorem pmX12_more : prms yX12_more 2 := ⟨by decide +kernel, by decide +kernel, by decide +kernel⟩
set_option maxRecDepth 8000 in
theorem pmX12_ask : prms yX12_ask 1 := ⟨by decide +kernel, by decide +kernel, by decide +kernel⟩
set_option maxRecDepth 8000 in
theorem pmX12_drop : prms yX12_drop 1 := ⟨by decide +kernel, by decide +kernel, by decide +kernel⟩
set_option maxRecDepth 8000 in
theorem pmX12_when : prms yX12_when 1 := ⟨by decide +kernel, by decide +kernel, by decide +kernel⟩
set_option maxRecDepth 8000 in
theorem pmX12_busiest : prms yX12_busiest 2 := ⟨by decide +kernel, by decide +kernel, by decide +kernel⟩
set_option maxRecDepth 8000 in
theorem pmX12_manyIn : prms yX12_manyIn 1 := ⟨by decide +kernel, by decide +kernel, by decide +kernel⟩
set_option maxRecDepth 8000 in
theorem pmX12_all : prms yX12_all 1 := ⟨by decide +kernel, by decide +kernel, by decide +kernel⟩
set_option maxRecDepth 8000 in
theorem pmX12_allCome : prms yX12_allCome 2 := ⟨by decide +kernel, by decide +kernel, by decide +kernel⟩
set_option maxRecDepth 8000 in
theorem pmX12_list : prms yX12_list 2 := ⟨by decide +kernel, by decide +kernel, by decide +kernel⟩
set_option maxRecDepth 8000 in
theorem pmX12_looked : prms yX12_looked 0 := ⟨by decide +kernel, by decide +kernel, by decide +kernel⟩
set_option maxRecDepth 8000 in
theorem pmX12_firstOff : prms yX12_firstOff 1 := ⟨by decide +kernel, by decide +kernel, by decide +kernel⟩
set_option maxRecDepth 8000 in
theorem pmX12_fits : prms yX12_fits 0 := ⟨by decide +kernel, by decide +kernel, by decide +kernel⟩
set_option maxRecDepth 8000 in
theorem pmX12_chance : prms yX12_chance 2 := ⟨by decide +kernel, by decide +kernel, by decide +kernel⟩
set_option maxRecDepth 8000 in
theorem pmX12_comesIn : prms yX12_comesIn 2 := ⟨by decide +kernel, by decide +kernel, by decide +kernel⟩
set_option maxRecDepth 8000 in
theorem pmX12_divisor : prms yX12_divisor 2 := ⟨by decide +kernel, by decide +kernel, by decide +kernel⟩
set_option maxRecDepth 8000 in
theorem pmX12_judge : prms yX12_judge 2 := ⟨by decide +kernel, by decide +kernel, by decide +kernel⟩
set_option maxRecDepth 8000 in
theorem pmX12_isTape : prms yX12_isTape 1 := ⟨by decide +kernel, by decide +kernel, by decide +kernel⟩
set_option maxRecDepth 8000 in
theorem pmX12_image : prms yX12_image 0 := ⟨by decide +kernel, by decide +kernel, by decide +kernel⟩
set_option maxRecDepth 8000 in
theorem pmX12_undo : prms yX12_undo 0 := ⟨by decide +kernel, by decide +kernel, by decide +kernel⟩
set_option maxRecDepth 8000 in
theorem pmX12_act : prms yX12_act 3 := ⟨by decide +kernel, by decide +kernel, by decide +kernel⟩
set_option maxRecDepth 8000 in
theorem pmX12_saysAct : prms yX12_saysAct 2 := ⟨by decide +kernel, by decide +kernel, by decide +kernel⟩
set_option maxRecDepth 8000 in
theorem pmX12_body : prms yX12_body 1 := ⟨by decide +kernel, by decide +kernel, by decide +kernel⟩
set_option maxRecDepth 8000 in
theorem pmX12_knowingSays : prms yX12_knowingSays 2 := ⟨by decide +kernel, by decide +kernel, by decide +kernel⟩
set_option maxRecDepth 8000 in
theorem pmX12_holdsAct : prms yX12_holdsAct 2 := ⟨by decide +kernel, by decide +kernel, by decide +kernel⟩
set_option maxRecDepth 8000 in
theorem pmX12_writtenHolds : prms yX12_writtenHolds 2 := ⟨by decide +kernel, by decide +kernel, by decide +kernel⟩
set_option maxRecDepth 8000 in
theorem pmX12_knowingHolds : prms yX12_knowingHolds 2 := ⟨by decide +kernel, by decide +kernel, by decide +kernel⟩
set_option maxRecDepth 8000 in
theorem pmX12_tellsAct : prms yX12_tellsAct 2 := ⟨by decide +kernel, by decide +kernel, by decide +kernel⟩
set_option maxRecDepth 8000 in
theorem pmX12_knowingTells : prms yX12_knowingTells 2 := ⟨by decide +kernel, by decide +kernel, by decide +kernel⟩
set_option maxRecDepth 8000 in
theorem pmX12_trace : prms yX12_trace 1 := ⟨by decide +kernel, by decide +kernel, by decide +kernel⟩
set_option maxRecDepth 8000 in
theorem pmX12_taken : prms yX12_taken 2 := ⟨by decide +kernel, by decide +kernel, by decide +kernel⟩
set_option maxRecDepth 8000 in
theorem pmX12_count : prms yX12_count 1 := ⟨by decide +kernel, by decide +kernel, by decide +kernel⟩
set_option maxRecDepth 8000 in
theorem pmX12_tape : prms yX12_tape 3 := ⟨by decide +kernel, by decide +kernel, by decide +kernel⟩
set_option maxRecDepth 8000 in
theorem pmX12_item : prms yX12_item 3 := ⟨by decide +kernel, by decide +kernel, by decide +kernel⟩
set_option maxRecDepth 8000 in
theorem pmX12_narrow : prms yX12_narrow 2 := ⟨by decide +kernel, by decide +kernel, by decide +kernel⟩
set_option maxRecDepth 8000 in
theorem pmX12_read : prms yX12_read 2 := ⟨by decide +kernel, by decide +kernel, by decide +kernel⟩
set_option maxRecDepth 8000 in
theorem pmX12_shift : prms yX12_shift 5 := ⟨by decide +kernel, by decide +kernel, by decide +kernel⟩
set_option maxRecDepth 8000 in
theorem w_697 : (Jvm.Cond.methodLink "NextOneKnows$Ahead" (38 : Nat) ({ cls := "java/lang/Math", name := "min", desc := "(II)I" } : Jvm.MethodName)) ∈ TG := tg_3 144 rfl rfl
set_option maxRecDepth 8000 in
theorem w_607 : (Jvm.Cond.static ({ cls := "java/lang/Math", name := "min", desc := "(II)I" } : Jvm.MethodName)) ∈ TG := tg_3 54 rfl rfl
set_option maxRecDepth 8000 in
theorem w_83 : (Jvm.Cond.initialized "java/lang/Math") ∈ TG := tg_1 10 rfl rfl
set_option maxRecDepth 8000 in
theorem sX0_look_6 : Site RX0 mX0_look 6 9 mJ9_min_7cf53 none 2 := site_S (dk DX0_look 4 rfl) w_697 w_607 w_83 kJ9_min_7cf53 pmJ9_min_7cf53 (by decide)
set_option maxRecDepth 8000 in
theorem w_698 : (Jvm.Cond.methodLink "NextOneKnows$Ahead" (44 : Nat) ({ cls := "java/lang/Math", name := "max", desc := "(II)I" } : Jvm.MethodName)) ∈ TG := tg_3 145 rfl rfl
set_option maxRecDepth 8000 in
theorem w_358 : (Jvm.Cond.static ({ cls := "java/lang/Math", name := "max", desc := "(II)I" } : Jvm.MethodName)) ∈ TG := tg_2 45 rfl rfl
set_option maxRecDepth 8000 in
theorem sX0_look_9 : Site RX0 mX0_look 9 12 mJ9_max_7cf53 none 2 := site_S (dk DX0_look 5 rfl) w_698 w_358 w_83 kJ9_max_7cf53 pmJ9_max_7cf53 (by decide)
set_option maxRecDepth 8000 in
theorem w_699 : (Jvm.Cond.methodLink "NextOneKnows$Ahead" (51 : Nat) ({ cls := "java/util/Arrays", name := "fill", desc := "([II)V" } : Jvm.MethodName)) ∈ TG := tg_3 146 rfl rfl
set_option maxRecDepth 8000 in
theorem w_254 : (Jvm.Cond.static ({ cls := "java/util/Arrays", name := "fill", desc := "([II)V" } : Jvm.MethodName)) ∈ TG := tg_1 181 rfl rfl
set_option maxRecDepth 8000 in
theorem w_78 : (Jvm.Cond.initialized "java/util/Arrays") ∈ TG := tg_1 5 rfl rfl
set_option maxRecDepth 8000 in
theorem sX0_look_20 : Site RX0 mX0_look 20 23 mJ7_fill_53178 none 2 := site_S (dk DX0_look 10 rfl) w_699 w_254 w_78 kJ7_fill_53178 pmJ7_fill_53178 (by decide)
set_option maxRecDepth 8000 in
theorem w_702 : (Jvm.Cond.selects "NextOneKnows$State" ({ cls := "NextOneKnows$State", name := "coming", desc := "(I)I" } : Jvm.MethodName) ({ cls := "NextOneKnows$State", name := "coming", desc := "(I)I" } : Jvm.MethodName)) ∈ TG := tg_3 149 rfl rfl
set_option maxRecDepth 8000 in
theorem w_700 : (Jvm.Cond.methodLink "NextOneKnows$Ahead" (62 : Nat) ({ cls := "NextOneKnows$State", name := "coming", desc := "(I)I" } : Jvm.MethodName)) ∈ TG := tg_3 147 rfl rfl
set_option maxRecDepth 8000 in
theorem w_701 : (Jvm.Cond.instanceMethod ({ cls := "NextOneKnows$State", name := "coming", desc := "(I)I" } : Jvm.MethodName)) ∈ TG := tg_3 148 rfl rfl
set_option maxRecDepth 8000 in
theorem w_75 : (Jvm.Cond.initialized "NextOneKnows$State") ∈ TG := tg_1 2 rfl rfl
set_option maxRecDepth 8000 in
theorem sX0_look_51 : Site RX0 mX0_look 51 54 mX5_coming (some 5) 2 := site_V (dk DX0_look 27 rfl) KX5 w_700 w_701 w_702 w_75 kX5_coming pmX5_coming (by decide)
set_option maxRecDepth 8000 in
theorem w_13 : Cond.selects "NextOneKnows$Ahead" ({ cls := "NextOneKnows$Ahead", name := "lookDear", desc := "(II)V" } : Jvm.MethodName) ({ cls := "NextOneKnows$Ahead", name := "lookDear", desc := "(II)V" } : Jvm.MethodName) ∈ TG := tg_p 13 rfl rfl
set_option maxRecDepth 8000 in
theorem w_719 : (Jvm.Cond.methodLink "NextOneKnows$Ahead" (65 : Nat) ({ cls := "NextOneKnows$Ahead", name := "lookDear", desc := "(II)V" } : Jvm.MethodName)) ∈ TG := tg_3 166 rfl rfl
set_option maxRecDepth 8000 in
theorem w_721 : (Jvm.Cond.instanceMethod ({ cls := "NextOneKnows$Ahead", name := "lookDear", desc := "(II)V" } : Jvm.MethodName)) ∈ TG := tg_3 168 rfl rfl
set_option maxRecDepth 8000 in
theorem w_76 : (Jvm.Cond.initialized "NextOneKnows$Ahead") ∈ TG := tg_1 3 rfl rfl
set_option maxRecDepth 8000 in
theorem sX0_look_71 : Site RX0 mX0_look 71 74 mX0_lookDear (some 0) 3 := site_V (dk DX0_look 39 rfl) KX0 w_719 w_721 w_13 w_76 kX0_lookDear pmX0_lookDear (by decide)
set_option maxRecDepth 8000 in
theorem w_723 : (Jvm.Cond.methodLink "NextOneKnows$Ahead" (72 : Nat) ({ cls := "NextOneKnows$Ahead", name := "dearCell", desc := "(II)I" } : Jvm.MethodName)) ∈ TG := tg_3 170 rfl rfl
set_option maxRecDepth 8000 in
theorem w_724 : (Jvm.Cond.static ({ cls := "NextOneKnows$Ahead", name := "dearCell", desc := "(II)I" } : Jvm.MethodName)) ∈ TG := tg_3 171 rfl rfl
set_option maxRecDepth 8000 in
theorem sX0_lookDear_15 : Site RX0 mX0_lookDear 15 18 mX0_dearCell none 2 := site_S (dk DX0_lookDear 9 rfl) w_723 w_724 w_76 kX0_dearCell pmX0_dearCell (by decide)
set_option maxRecDepth 8000 in
theorem w_491 : (Jvm.Cond.selects "NextOneKnows$State" ({ cls := "NextOneKnows$State", name := "find", desc := "(I)LNextOneKnows$Doing;" } : Jvm.MethodName) ({ cls := "NextOneKnows$State", name := "find", desc := "(I)LNextOneKnows$Doing;" } : Jvm.MethodName)) ∈ TG := tg_2 178 rfl rfl
set_option maxRecDepth 8000 in
theorem w_678 : (Jvm.Cond.methodLink "NextOneKnows$Ahead" (75 : Nat) ({ cls := "NextOneKnows$State", name := "find", desc := "(I)LNextOneKnows$Doing;" } : Jvm.MethodName)) ∈ TG := tg_3 125 rfl rfl
set_option maxRecDepth 8000 in
theorem w_490 : (Jvm.Cond.instanceMethod ({ cls := "NextOneKnows$State", name := "find", desc := "(I)LNextOneKnows$Doing;" } : Jvm.MethodName)) ∈ TG := tg_2 177 rfl rfl
set_option maxRecDepth 8000 in
theorem sX0_lookDear_25 : Site RX0 mX0_lookDear 25 28 mX5_find (some 5) 2 := site_V (dk DX0_lookDear 14 rfl) KX5 w_678 w_490 w_491 w_75 kX5_find pmX5_find (by decide)
set_option maxRecDepth 8000 in
theorem w_517 : (Jvm.Cond.static ({ cls := "NextOneKnows", name := "bit", desc := "(II)I" } : Jvm.MethodName)) ∈ TG := tg_2 204 rfl rfl
set_option maxRecDepth 8000 in
theorem w_74 : (Jvm.Cond.initialized "NextOneKnows") ∈ TG := tg_1 1 rfl rfl
set_option maxRecDepth 8000 in
theorem sX0_lookDear_37 : Site RX0 mX0_lookDear 37 40 mX11_bit none 2 := site_SN (host := "NextOneKnows") (dk DX0_lookDear 20 rfl) (by decide +kernel) w_517 w_74 kX11_bit pmX11_bit (by decide)
set_option maxRecDepth 8000 in
theorem w_573 : (Jvm.Cond.selects "NextOneKnows$State" ({ cls := "NextOneKnows$State", name := "dearIn", desc := "(LNextOneKnows$Doing;I)I" } : Jvm.MethodName) ({ cls := "NextOneKnows$State", name := "dearIn", desc := "(LNextOneKnows$Doing;I)I" } : Jvm.MethodName)) ∈ TG := tg_3 20 rfl rfl
set_option maxRecDepth 8000 in
theorem w_728 : (Jvm.Cond.methodLink "NextOneKnows$Ahead" (82 : Nat) ({ cls := "NextOneKnows$State", name := "dearIn", desc := "(LNextOneKnows$Doing;I)I" } : Jvm.MethodName)) ∈ TG := tg_3 175 rfl rfl
set_option maxRecDepth 8000 in
theorem w_572 : (Jvm.Cond.instanceMethod ({ cls := "NextOneKnows$State", name := "dearIn", desc := "(LNextOneKnows$Doing;I)I" } : Jvm.MethodName)) ∈ TG := tg_3 19 rfl rfl
set_option maxRecDepth 8000 in
theorem sX0_lookDear_66 : Site RX0 mX0_lookDear 66 69 mX5_dearIn (some 5) 3 := site_V (dk DX0_lookDear 34 rfl) KX5 w_728 w_572 w_573 w_75 kX5_dearIn pmX5_dearIn (by decide)
set_option maxRecDepth 8000 in
theorem w_726 : (Jvm.Cond.methodLink "NextOneKnows$Ahead" (86 : Nat) ({ cls := "java/lang/Math", name := "floorMod", desc := "(II)I" } : Jvm.MethodName)) ∈ TG := tg_3 173 rfl rfl
set_option maxRecDepth 8000 in
theorem w_717 : (Jvm.Cond.static ({ cls := "java/lang/Math", name := "floorMod", desc := "(II)I" } : Jvm.MethodName)) ∈ TG := tg_3 164 rfl rfl
set_option maxRecDepth 8000 in
theorem sX0_dearCell_7 : Site RX0 mX0_dearCell 7 10 mJ9_floorMod_7cf53 none 2 := site_S (dk DX0_dearCell 5 rfl) w_726 w_717 w_83 kJ9_floorMod_7cf53 pmJ9_floorMod_7cf53 (by decide)
set_option maxRecDepth 8000 in
theorem sX0_hear_18 : Site RX0 mX0_hear 18 21 mX5_find (some 5) 2 := site_V (dk DX0_hear 10 rfl) KX5 w_678 w_490 w_491 w_75 kX5_find pmX5_find (by decide)
set_option maxRecDepth 8000 in
theorem w_0 : Cond.selects "NextOneKnows$Ahead" ({ cls := "NextOneKnows$Ahead", name := "hearOf", desc := "(LNextOneKnows$Doing;)V" } : Jvm.MethodName) ({ cls := "NextOneKnows$Ahead", name := "hearOf", desc := "(LNextOneKnows$Doing;)V" } : Jvm.MethodName) ∈ TG := tg_p 0 rfl rfl
set_option maxRecDepth 8000 in
theorem w_523 : (Jvm.Cond.methodLink "NextOneKnows$Ahead" (89 : Nat) ({ cls := "NextOneKnows$Ahead", name := "hearOf", desc := "(LNextOneKnows$Doing;)V" } : Jvm.MethodName)) ∈ TG := tg_2 210 rfl rfl
set_option maxRecDepth 8000 in
theorem w_525 : (Jvm.Cond.instanceMethod ({ cls := "NextOneKnows$Ahead", name := "hearOf", desc := "(LNextOneKnows$Doing;)V" } : Jvm.MethodName)) ∈ TG := tg_2 212 rfl rfl
set_option maxRecDepth 8000 in
theorem sX0_hear_28 : Site RX0 mX0_hear 28 31 mX0_hearOf (some 0) 2 := site_V (dk DX0_hear 16 rfl) KX0 w_523 w_525 w_0 w_76 kX0_hearOf pmX0_hearOf (by decide)
set_option maxRecDepth 8000 in
theorem w_529 : (Jvm.Cond.selects "NextOneKnows$State" ({ cls := "NextOneKnows$State", name := "saidBy", desc := "(LNextOneKnows$Doing;I)I" } : Jvm.MethodName) ({ cls := "NextOneKnows$State", name := "saidBy", desc := "(LNextOneKnows$Doing;I)I" } : Jvm.MethodName)) ∈ TG := tg_2 216 rfl rfl
set_option maxRecDepth 8000 in
theorem w_527 : (Jvm.Cond.methodLink "NextOneKnows$Ahead" (98 : Nat) ({ cls := "NextOneKnows$State", name := "saidBy", desc := "(LNextOneKnows$Doing;I)I" } : Jvm.MethodName)) ∈ TG := tg_2 214 rfl rfl
set_option maxRecDepth 8000 in
theorem w_528 : (Jvm.Cond.instanceMethod ({ cls := "NextOneKnows$State", name := "saidBy", desc := "(LNextOneKnows$Doing;I)I" } : Jvm.MethodName)) ∈ TG := tg_2 215 rfl rfl
set_option maxRecDepth 8000 in
theorem sX0_hearOf_23 : Site RX0 mX0_hearOf 23 26 mX5_saidBy (some 5) 3 := site_V (dk DX0_hearOf 15 rfl) KX5 w_527 w_528 w_529 w_75 kX5_saidBy pmX5_saidBy (by decide)
set_option maxRecDepth 8000 in
theorem sX0_saidOf_2 : Site RX0 mX0_saidOf 2 5 mX0_hearOf (some 0) 2 := site_V (dk DX0_saidOf 2 rfl) KX0 w_523 w_525 w_0 w_76 kX0_hearOf pmX0_hearOf (by decide)
set_option maxRecDepth 8000 in
theorem w_543 : (Jvm.Cond.methodLink "NextOneKnows$Ahead" (104 : Nat) ({ cls := "NextOneKnows$Doing", name := "saidOver", desc := "([I[I)I" } : Jvm.MethodName)) ∈ TG := tg_2 230 rfl rfl
set_option maxRecDepth 8000 in
theorem w_546 : (Jvm.Cond.sameMethod "NextOneKnows$Doing" "NextOneKnows$Doing" "saidOver" "([I[I)I") ∈ TG := tg_2 233 rfl rfl
set_option maxRecDepth 8000 in
theorem w_544 : (Jvm.Cond.instanceMethod ({ cls := "NextOneKnows$Doing", name := "saidOver", desc := "([I[I)I" } : Jvm.MethodName)) ∈ TG := tg_2 231 rfl rfl
set_option maxRecDepth 8000 in
theorem w_545 : (Jvm.Cond.selects "NextOneKnows$Doing" ({ cls := "NextOneKnows$Doing", name := "saidOver", desc := "([I[I)I" } : Jvm.MethodName) ({ cls := "NextOneKnows$Doing", name := "saidOver", desc := "([I[I)I" } : Jvm.MethodName)) ∈ TG := tg_2 232 rfl rfl
set_option maxRecDepth 8000 in
theorem w_81 : (Jvm.Cond.initialized "NextOneKnows$Doing") ∈ TG := tg_1 8 rfl rfl
set_option maxRecDepth 8000 in
theorem sX0_saidOf_22_c1 : Site RX0 mX0_saidOf 22 25 mX1_saidOver (some 1) 3 := site_U (owner := RX1) (x := ⟨RX1, "saidOver", "([I[I)I"⟩) (dk DX0_saidOf 12 rfl) KX1 w_543 w_546 w_544 (kX1_saidOver) w_544 w_545 w_81 kX1_saidOver pmX1_saidOver (by decide)
set_option maxRecDepth 8000 in
theorem w_562 : (Jvm.Cond.instanceMethod ({ cls := "NextOneKnows$Written", name := "saidOver", desc := "([I[I)I" } : Jvm.MethodName)) ∈ TG := tg_3 9 rfl rfl
set_option maxRecDepth 8000 in
theorem w_565 : (Jvm.Cond.selects "NextOneKnows$Written" ({ cls := "NextOneKnows$Doing", name := "saidOver", desc := "([I[I)I" } : Jvm.MethodName) ({ cls := "NextOneKnows$Written", name := "saidOver", desc := "([I[I)I" } : Jvm.MethodName)) ∈ TG := tg_3 12 rfl rfl
set_option maxRecDepth 8000 in
theorem w_82 : (Jvm.Cond.initialized "NextOneKnows$Written") ∈ TG := tg_1 9 rfl rfl
set_option maxRecDepth 8000 in
theorem sX0_saidOf_22_c9 : Site RX0 mX0_saidOf 22 25 mX9_saidOver (some 9) 3 := site_U (owner := RX1) (x := ⟨RX1, "saidOver", "([I[I)I"⟩) (dk DX0_saidOf 12 rfl) KX9 w_543 w_546 w_544 (kX1_saidOver) w_562 w_565 w_82 kX9_saidOver pmX1_saidOver (by decide)
set_option maxRecDepth 8000 in
theorem w_559 : (Jvm.Cond.instanceMethod ({ cls := "NextOneKnows$Why", name := "saidOver", desc := "([I[I)I" } : Jvm.MethodName)) ∈ TG := tg_3 6 rfl rfl
set_option maxRecDepth 8000 in
theorem w_558 : (Jvm.Cond.selects "NextOneKnows$Why" ({ cls := "NextOneKnows$Doing", name := "saidOver", desc := "([I[I)I" } : Jvm.MethodName) ({ cls := "NextOneKnows$Why", name := "saidOver", desc := "([I[I)I" } : Jvm.MethodName)) ∈ TG := tg_3 5 rfl rfl
set_option maxRecDepth 8000 in
theorem w_86 : (Jvm.Cond.initialized "NextOneKnows$Why") ∈ TG := tg_1 13 rfl rfl
set_option maxRecDepth 8000 in
theorem sX0_saidOf_22_c8 : Site RX0 mX0_saidOf 22 25 mX8_saidOver (some 8) 3 := site_U (owner := RX1) (x := ⟨RX1, "saidOver", "([I[I)I"⟩) (dk DX0_saidOf 12 rfl) KX8 w_543 w_546 w_544 (kX1_saidOver) w_559 w_558 w_86 kX8_saidOver pmX1_saidOver (by decide)
set_option maxRecDepth 8000 in
theorem w_548 : (Jvm.Cond.instanceMethod ({ cls := "NextOneKnows$Plain", name := "saidOver", desc := "([I[I)I" } : Jvm.MethodName)) ∈ TG := tg_2 235 rfl rfl
set_option maxRecDepth 8000 in
theorem w_547 : (Jvm.Cond.selects "NextOneKnows$Plain" ({ cls := "NextOneKnows$Doing", name := "saidOver", desc := "([I[I)I" } : Jvm.MethodName) ({ cls := "NextOneKnows$Plain", name := "saidOver", desc := "([I[I)I" } : Jvm.MethodName)) ∈ TG := tg_2 234 rfl rfl
set_option maxRecDepth 8000 in
theorem w_84 : (Jvm.Cond.initialized "NextOneKnows$Plain") ∈ TG := tg_1 11 rfl rfl
set_option maxRecDepth 8000 in
theorem sX0_saidOf_22_c2 : Site RX0 mX0_saidOf 22 25 mX2_saidOver (some 2) 3 := site_U (owner := RX1) (x := ⟨RX1, "saidOver", "([I[I)I"⟩) (dk DX0_saidOf 12 rfl) KX2 w_543 w_546 w_544 (kX1_saidOver) w_548 w_547 w_84 kX2_saidOver pmX1_saidOver (by decide)
set_option maxRecDepth 8000 in
theorem w_555 : (Jvm.Cond.instanceMethod ({ cls := "NextOneKnows$Tied", name := "saidOver", desc := "([I[I)I" } : Jvm.MethodName)) ∈ TG := tg_3 2 rfl rfl
set_option maxRecDepth 8000 in
theorem w_554 : (Jvm.Cond.selects "NextOneKnows$Tied" ({ cls := "NextOneKnows$Doing", name := "saidOver", desc := "([I[I)I" } : Jvm.MethodName) ({ cls := "NextOneKnows$Tied", name := "saidOver", desc := "([I[I)I" } : Jvm.MethodName)) ∈ TG := tg_3 1 rfl rfl
set_option maxRecDepth 8000 in
theorem w_87 : (Jvm.Cond.initialized "NextOneKnows$Tied") ∈ TG := tg_1 14 rfl rfl
set_option maxRecDepth 8000 in
theorem sX0_saidOf_22_c6 : Site RX0 mX0_saidOf 22 25 mX6_saidOver (some 6) 3 := site_U (owner := RX1) (x := ⟨RX1, "saidOver", "([I[I)I"⟩) (dk DX0_saidOf 12 rfl) KX6 w_543 w_546 w_544 (kX1_saidOver) w_555 w_554 w_87 kX6_saidOver pmX1_saidOver (by decide)
set_option maxRecDepth 8000 in
theorem w_551 : (Jvm.Cond.instanceMethod ({ cls := "NextOneKnows$Rare", name := "saidOver", desc := "([I[I)I" } : Jvm.MethodName)) ∈ TG := tg_2 238 rfl rfl
set_option maxRecDepth 8000 in
theorem w_550 : (Jvm.Cond.selects "NextOneKnows$Rare" ({ cls := "NextOneKnows$Doing", name := "saidOver", desc := "([I[I)I" } : Jvm.MethodName) ({ cls := "NextOneKnows$Rare", name := "saidOver", desc := "([I[I)I" } : Jvm.MethodName)) ∈ TG := tg_2 237 rfl rfl
set_option maxRecDepth 8000 in
theorem w_85 : (Jvm.Cond.initialized "NextOneKnows$Rare") ∈ TG := tg_1 12 rfl rfl
set_option maxRecDepth 8000 in
theorem sX0_saidOf_22_c4 : Site RX0 mX0_saidOf 22 25 mX4_saidOver (some 4) 3 := site_U (owner := RX1) (x := ⟨RX1, "saidOver", "([I[I)I"⟩) (dk DX0_saidOf 12 rfl) KX4 w_543 w_546 w_544 (kX1_saidOver) w_551 w_550 w_85 kX4_saidOver pmX1_saidOver (by decide)
set_option maxRecDepth 8000 in
theorem w_567 : (Jvm.Cond.instanceMethod ({ cls := "NextOneKnows$Wrong", name := "saidOver", desc := "([I[I)I" } : Jvm.MethodName)) ∈ TG := tg_3 14 rfl rfl
set_option maxRecDepth 8000 in
theorem w_566 : (Jvm.Cond.selects "NextOneKnows$Wrong" ({ cls := "NextOneKnows$Doing", name := "saidOver", desc := "([I[I)I" } : Jvm.MethodName) ({ cls := "NextOneKnows$Wrong", name := "saidOver", desc := "([I[I)I" } : Jvm.MethodName)) ∈ TG := tg_3 13 rfl rfl
set_option maxRecDepth 8000 in
theorem w_88 : (Jvm.Cond.initialized "NextOneKnows$Wrong") ∈ TG := tg_1 15 rfl rfl
set_option maxRecDepth 8000 in
theorem sX0_saidOf_22_c10 : Site RX0 mX0_saidOf 22 25 mX10_saidOver (some 10) 3 := site_U (owner := RX1) (x := ⟨RX1, "saidOver", "([I[I)I"⟩) (dk DX0_saidOf 12 rfl) KX10 w_543 w_546 w_544 (kX1_saidOver) w_567 w_566 w_88 kX10_saidOver pmX1_saidOver (by decide)
set_option maxRecDepth 8000 in
theorem sX0_goingOver_20 : Site RX0 mX0_goingOver 20 23 mX5_find (some 5) 2 := site_V (dk DX0_goingOver 12 rfl) KX5 w_678 w_490 w_491 w_75 kX5_find pmX5_find (by decide)
set_option maxRecDepth 8000 in
theorem sX0_goingOver_39_c1 : Site RX0 mX0_goingOver 39 42 mX1_saidOver (some 1) 3 := site_U (owner := RX1) (x := ⟨RX1, "saidOver", "([I[I)I"⟩) (dk DX0_goingOver 22 rfl) KX1 w_543 w_546 w_544 (kX1_saidOver) w_544 w_545 w_81 kX1_saidOver pmX1_saidOver (by decide)
set_option maxRecDepth 8000 in
theorem sX0_goingOver_39_c9 : Site RX0 mX0_goingOver 39 42 mX9_saidOver (some 9) 3 := site_U (owner := RX1) (x := ⟨RX1, "saidOver", "([I[I)I"⟩) (dk DX0_goingOver 22 rfl) KX9 w_543 w_546 w_544 (kX1_saidOver) w_562 w_565 w_82 kX9_saidOver pmX1_saidOver (by decide)
set_option maxRecDepth 8000 in
theorem sX0_goingOver_39_c8 : Site RX0 mX0_goingOver 39 42 mX8_saidOver (some 8) 3 := site_U (owner := RX1) (x := ⟨RX1, "saidOver", "([I[I)I"⟩) (dk DX0_goingOver 22 rfl) KX8 w_543 w_546 w_544 (kX1_saidOver) w_559 w_558 w_86 kX8_saidOver pmX1_saidOver (by decide)
set_option maxRecDepth 8000 in
theorem sX0_goingOver_39_c2 : Site RX0 mX0_goingOver 39 42 mX2_saidOver (some 2) 3 := site_U (owner := RX1) (x := ⟨RX1, "saidOver", "([I[I)I"⟩) (dk DX0_goingOver 22 rfl) KX2 w_543 w_546 w_544 (kX1_saidOver) w_548 w_547 w_84 kX2_saidOver pmX1_saidOver (by decide)
set_option maxRecDepth 8000 in
theorem sX0_goingOver_39_c6 : Site RX0 mX0_goingOver 39 42 mX6_saidOver (some 6) 3 := site_U (owner := RX1) (x := ⟨RX1, "saidOver", "([I[I)I"⟩) (dk DX0_goingOver 22 rfl) KX6 w_543 w_546 w_544 (kX1_saidOver) w_555 w_554 w_87 kX6_saidOver pmX1_saidOver (by decide)
set_option maxRecDepth 8000 in
theorem sX0_goingOver_39_c4 : Site RX0 mX0_goingOver 39 42 mX4_saidOver (some 4) 3 := site_U (owner := RX1) (x := ⟨RX1, "saidOver", "([I[I)I"⟩) (dk DX0_goingOver 22 rfl) KX4 w_543 w_546 w_544 (kX1_saidOver) w_551 w_550 w_85 kX4_saidOver pmX1_saidOver (by decide)
set_option maxRecDepth 8000 in
theorem sX0_goingOver_39_c10 : Site RX0 mX0_goingOver 39 42 mX10_saidOver (some 10) 3 := site_U (owner := RX1) (x := ⟨RX1, "saidOver", "([I[I)I"⟩) (dk DX0_goingOver 22 rfl) KX10 w_543 w_546 w_544 (kX1_saidOver) w_567 w_566 w_88 kX10_saidOver pmX1_saidOver (by decide)
set_option maxRecDepth 8000 in
theorem w_14 : Cond.selects "NextOneKnows$Ahead" ({ cls := "NextOneKnows$Ahead", name := "stopAll", desc := "(II)V" } : Jvm.MethodName) ({ cls := "NextOneKnows$Ahead", name := "stopAll", desc := "(II)V" } : Jvm.MethodName) ∈ TG := tg_p 14 rfl rfl
set_option maxRecDepth 8000 in
theorem w_733 : (Jvm.Cond.methodLink "NextOneKnows$Ahead" (132 : Nat) ({ cls := "NextOneKnows$Ahead", name := "stopAll", desc := "(II)V" } : Jvm.MethodName)) ∈ TG := tg_3 180 rfl rfl
set_option maxRecDepth 8000 in
theorem w_735 : (Jvm.Cond.instanceMethod ({ cls := "NextOneKnows$Ahead", name := "stopAll", desc := "(II)V" } : Jvm.MethodName)) ∈ TG := tg_3 182 rfl rfl
set_option maxRecDepth 8000 in
theorem sX0_pass_98 : Site RX0 mX0_pass 98 101 mX0_stopAll (some 0) 3 := site_V (dk DX0_pass_1 0 rfl) KX0 w_733 w_735 w_14 w_76 kX0_stopAll pmX0_stopAll (by decide)
set_option maxRecDepth 8000 in
theorem w_771 : (Jvm.Cond.methodLink "NextOneKnows$Ahead" (135 : Nat) ({ cls := "java/lang/Integer", name := "bitCount", desc := "(I)I" } : Jvm.MethodName)) ∈ TG := tg_3 218 rfl rfl
set_option maxRecDepth 8000 in
theorem w_684 : (Jvm.Cond.static ({ cls := "java/lang/Integer", name := "bitCount", desc := "(I)I" } : Jvm.MethodName)) ∈ TG := tg_3 131 rfl rfl
set_option maxRecDepth 8000 in
theorem w_89 : (Jvm.Cond.initialized "java/lang/Integer") ∈ TG := tg_1 16 rfl rfl
set_option maxRecDepth 8000 in
theorem sX0_pass_122 : Site RX0 mX0_pass 122 125 mJ6_bitCount_0f7a4 none 1 := site_S (dk DX0_pass_1 14 rfl) w_771 w_684 w_89 kJ6_bitCount_0f7a4 pmJ6_bitCount_0f7a4 (by decide)
set_option maxRecDepth 8000 in
theorem sX0_stopAll_23 : Site RX0 mX0_stopAll 23 26 mX5_find (some 5) 2 := site_V (dk DX0_stopAll 13 rfl) KX5 w_678 w_490 w_491 w_75 kX5_find pmX5_find (by decide)
set_option maxRecDepth 8000 in
theorem sX0_stopAll_35 : Site RX0 mX0_stopAll 35 38 mX11_bit none 2 := site_SN (host := "NextOneKnows") (dk DX0_stopAll 19 rfl) (by decide +kernel) w_517 w_74 kX11_bit pmX11_bit (by decide)
set_option maxRecDepth 8000 in
theorem w_15 : Cond.selects "NextOneKnows$Ahead" ({ cls := "NextOneKnows$Ahead", name := "stop", desc := "(LNextOneKnows$Doing;I)V" } : Jvm.MethodName) ({ cls := "NextOneKnows$Ahead", name := "stop", desc := "(LNextOneKnows$Doing;I)V" } : Jvm.MethodName) ∈ TG := tg_p 15 rfl rfl
set_option maxRecDepth 8000 in
theorem w_737 : (Jvm.Cond.methodLink "NextOneKnows$Ahead" (143 : Nat) ({ cls := "NextOneKnows$Ahead", name := "stop", desc := "(LNextOneKnows$Doing;I)V" } : Jvm.MethodName)) ∈ TG := tg_3 184 rfl rfl
set_option maxRecDepth 8000 in
theorem w_739 : (Jvm.Cond.instanceMethod ({ cls := "NextOneKnows$Ahead", name := "stop", desc := "(LNextOneKnows$Doing;I)V" } : Jvm.MethodName)) ∈ TG := tg_3 186 rfl rfl
set_option maxRecDepth 8000 in
theorem sX0_stopAll_45 : Site RX0 mX0_stopAll 45 48 mX0_stop (some 0) 3 := site_V (dk DX0_stopAll 24 rfl) KX0 w_737 w_739 w_15 w_76 kX0_stop pmX0_stop (by decide)
set_option maxRecDepth 8000 in
theorem w_659 : (Jvm.Cond.selects "NextOneKnows$State" ({ cls := "NextOneKnows$State", name := "callsAtFirst", desc := "()I" } : Jvm.MethodName) ({ cls := "NextOneKnows$State", name := "callsAtFirst", desc := "()I" } : Jvm.MethodName)) ∈ TG := tg_3 106 rfl rfl
set_option maxRecDepth 8000 in
theorem w_741 : (Jvm.Cond.methodLink "NextOneKnows$Ahead" (147 : Nat) ({ cls := "NextOneKnows$State", name := "callsAtFirst", desc := "()I" } : Jvm.MethodName)) ∈ TG := tg_3 188 rfl rfl
set_option maxRecDepth 8000 in
theorem w_658 : (Jvm.Cond.instanceMethod ({ cls := "NextOneKnows$State", name := "callsAtFirst", desc := "()I" } : Jvm.MethodName)) ∈ TG := tg_3 105 rfl rfl
set_option maxRecDepth 8000 in
theorem sX0_stop_38 : Site RX0 mX0_stop 38 41 mX5_callsAtFirst (some 5) 1 := site_V (dk DX0_stop_0 20 rfl) KX5 w_741 w_658 w_659 w_75 kX5_callsAtFirst pmX5_callsAtFirst (by decide)
set_option maxRecDepth 8000 in
theorem w_663 : (Jvm.Cond.selects "NextOneKnows$State" ({ cls := "NextOneKnows$State", name := "callsFading", desc := "()I" } : Jvm.MethodName) ({ cls := "NextOneKnows$State", name := "callsFading", desc := "()I" } : Jvm.MethodName)) ∈ TG := tg_3 110 rfl rfl
set_option maxRecDepth 8000 in
theorem w_742 : (Jvm.Cond.methodLink "NextOneKnows$Ahead" (151 : Nat) ({ cls := "NextOneKnows$State", name := "callsFading", desc := "()I" } : Jvm.MethodName)) ∈ TG := tg_3 189 rfl rfl
set_option maxRecDepth 8000 in
theorem w_662 : (Jvm.Cond.instanceMethod ({ cls := "NextOneKnows$State", name := "callsFading", desc := "()I" } : Jvm.MethodName)) ∈ TG := tg_3 109 rfl rfl
set_option maxRecDepth 8000 in
theorem sX0_stop_45 : Site RX0 mX0_stop 45 48 mX5_callsFading (some 5) 1 := site_V (dk DX0_stop_0 23 rfl) KX5 w_742 w_662 w_663 w_75 kX5_callsFading pmX5_callsFading (by decide)
set_option maxRecDepth 8000 in
theorem sX0_stop_106 : Site RX0 mX0_stop 106 109 mX0_dearCell none 2 := site_S (dk DX0_stop_0 58 rfl) w_723 w_724 w_76 kX0_dearCell pmX0_dearCell (by decide)
set_option maxRecDepth 8000 in
theorem w_743 : (Jvm.Cond.methodLink "NextOneKnows$Ahead" (154 : Nat) ({ cls := "NextOneKnows$Doing", name := "isKnownByCall", desc := "()Z" } : Jvm.MethodName)) ∈ TG := tg_3 190 rfl rfl
set_option maxRecDepth 8000 in
theorem w_746 : (Jvm.Cond.sameMethod "NextOneKnows$Doing" "NextOneKnows$Doing" "isKnownByCall" "()Z") ∈ TG := tg_3 193 rfl rfl
set_option maxRecDepth 8000 in
theorem w_744 : (Jvm.Cond.instanceMethod ({ cls := "NextOneKnows$Doing", name := "isKnownByCall", desc := "()Z" } : Jvm.MethodName)) ∈ TG := tg_3 191 rfl rfl
set_option maxRecDepth 8000 in
theorem w_745 : (Jvm.Cond.selects "NextOneKnows$Doing" ({ cls := "NextOneKnows$Doing", name := "isKnownByCall", desc := "()Z" } : Jvm.MethodName) ({ cls := "NextOneKnows$Doing", name := "isKnownByCall", desc := "()Z" } : Jvm.MethodName)) ∈ TG := tg_3 192 rfl rfl
set_option maxRecDepth 8000 in
theorem sX0_stop_119_c1 : Site RX0 mX0_stop 119 122 mX1_isKnownByCall (some 1) 1 := site_U (owner := RX1) (x := ⟨RX1, "isKnownByCall", "()Z"⟩) (dk DX0_stop_1 5 rfl) KX1 w_743 w_746 w_744 (kX1_isKnownByCall) w_744 w_745 w_81 kX1_isKnownByCall pmX1_isKnownByCall (by decide)
set_option maxRecDepth 8000 in
theorem w_751 : (Jvm.Cond.selects "NextOneKnows$Written" ({ cls := "NextOneKnows$Doing", name := "isKnownByCall", desc := "()Z" } : Jvm.MethodName) ({ cls := "NextOneKnows$Doing", name := "isKnownByCall", desc := "()Z" } : Jvm.MethodName)) ∈ TG := tg_3 198 rfl rfl
set_option maxRecDepth 8000 in
theorem sX0_stop_119_c9 : Site RX0 mX0_stop 119 122 mX1_isKnownByCall (some 9) 1 := site_U (owner := RX1) (x := ⟨RX1, "isKnownByCall", "()Z"⟩) (dk DX0_stop_1 5 rfl) KX9 w_743 w_746 w_744 (kX1_isKnownByCall) w_744 w_751 w_81 kX1_isKnownByCall pmX1_isKnownByCall (by decide)
set_option maxRecDepth 8000 in
theorem w_750 : (Jvm.Cond.selects "NextOneKnows$Why" ({ cls := "NextOneKnows$Doing", name := "isKnownByCall", desc := "()Z" } : Jvm.MethodName) ({ cls := "NextOneKnows$Doing", name := "isKnownByCall", desc := "()Z" } : Jvm.MethodName)) ∈ TG := tg_3 197 rfl rfl
set_option maxRecDepth 8000 in
theorem sX0_stop_119_c8 : Site RX0 mX0_stop 119 122 mX1_isKnownByCall (some 8) 1 := site_U (owner := RX1) (x := ⟨RX1, "isKnownByCall", "()Z"⟩) (dk DX0_stop_1 5 rfl) KX8 w_743 w_746 w_744 (kX1_isKnownByCall) w_744 w_750 w_81 kX1_isKnownByCall pmX1_isKnownByCall (by decide)
set_option maxRecDepth 8000 in
theorem w_747 : (Jvm.Cond.selects "NextOneKnows$Plain" ({ cls := "NextOneKnows$Doing", name := "isKnownByCall", desc := "()Z" } : Jvm.MethodName) ({ cls := "NextOneKnows$Doing", name := "isKnownByCall", desc := "()Z" } : Jvm.MethodName)) ∈ TG := tg_3 194 rfl rfl
set_option maxRecDepth 8000 in
theorem sX0_stop_119_c2 : Site RX0 mX0_stop 119 122 mX1_isKnownByCall (some 2) 1 := site_U (owner := RX1) (x := ⟨RX1, "isKnownByCall", "()Z"⟩) (dk DX0_stop_1 5 rfl) KX2 w_743 w_746 w_744 (kX1_isKnownByCall) w_744 w_747 w_81 kX1_isKnownByCall pmX1_isKnownByCall (by decide)
set_option maxRecDepth 8000 in
theorem w_749 : (Jvm.Cond.selects "NextOneKnows$Tied" ({ cls := "NextOneKnows$Doing", name := "isKnownByCall", desc := "()Z" } : Jvm.MethodName) ({ cls := "NextOneKnows$Doing", name := "isKnownByCall", desc := "()Z" } : Jvm.MethodName)) ∈ TG := tg_3 196 rfl rfl
set_option maxRecDepth 8000 in
theorem sX0_stop_119_c6 : Site RX0 mX0_stop 119 122 mX1_isKnownByCall (some 6) 1 := site_U (owner := RX1) (x := ⟨RX1, "isKnownByCall", "()Z"⟩) (dk DX0_stop_1 5 rfl) KX6 w_743 w_746 w_744 (kX1_isKnownByCall) w_744 w_749 w_81 kX1_isKnownByCall pmX1_isKnownByCall (by decide)
set_option maxRecDepth 8000 in
theorem w_748 : (Jvm.Cond.selects "NextOneKnows$Rare" ({ cls := "NextOneKnows$Doing", name := "isKnownByCall", desc := "()Z" } : Jvm.MethodName) ({ cls := "NextOneKnows$Doing", name := "isKnownByCall", desc := "()Z" } : Jvm.MethodName)) ∈ TG := tg_3 195 rfl rfl
set_option maxRecDepth 8000 in
theorem sX0_stop_119_c4 : Site RX0 mX0_stop 119 122 mX1_isKnownByCall (some 4) 1 := site_U (owner := RX1) (x := ⟨RX1, "isKnownByCall", "()Z"⟩) (dk DX0_stop_1 5 rfl) KX4 w_743 w_746 w_744 (kX1_isKnownByCall) w_744 w_748 w_81 kX1_isKnownByCall pmX1_isKnownByCall (by decide)
set_option maxRecDepth 8000 in
theorem w_753 : (Jvm.Cond.instanceMethod ({ cls := "NextOneKnows$Wrong", name := "isKnownByCall", desc := "()Z" } : Jvm.MethodName)) ∈ TG := tg_3 200 rfl rfl
set_option maxRecDepth 8000 in
theorem w_752 : (Jvm.Cond.selects "NextOneKnows$Wrong" ({ cls := "NextOneKnows$Doing", name := "isKnownByCall", desc := "()Z" } : Jvm.MethodName) ({ cls := "NextOneKnows$Wrong", name := "isKnownByCall", desc := "()Z" } : Jvm.MethodName)) ∈ TG := tg_3 199 rfl rfl
set_option maxRecDepth 8000 in
theorem sX0_stop_119_c10 : Site RX0 mX0_stop 119 122 mX10_isKnownByCall (some 10) 1 := site_U (owner := RX1) (x := ⟨RX1, "isKnownByCall", "()Z"⟩) (dk DX0_stop_1 5 rfl) KX10 w_743 w_746 w_744 (kX1_isKnownByCall) w_753 w_752 w_88 kX10_isKnownByCall pmX1_isKnownByCall (by decide)
set_option maxRecDepth 8000 in
theorem w_756 : (Jvm.Cond.methodLink "NextOneKnows$Ahead" (158 : Nat) ({ cls := "NextOneKnows$Doing", name := "isKnownByStop", desc := "()Z" } : Jvm.MethodName)) ∈ TG := tg_3 203 rfl rfl
set_option maxRecDepth 8000 in
theorem w_759 : (Jvm.Cond.sameMethod "NextOneKnows$Doing" "NextOneKnows$Doing" "isKnownByStop" "()Z") ∈ TG := tg_3 206 rfl rfl
set_option maxRecDepth 8000 in
theorem w_757 : (Jvm.Cond.instanceMethod ({ cls := "NextOneKnows$Doing", name := "isKnownByStop", desc := "()Z" } : Jvm.MethodName)) ∈ TG := tg_3 204 rfl rfl
set_option maxRecDepth 8000 in
theorem w_758 : (Jvm.Cond.selects "NextOneKnows$Doing" ({ cls := "NextOneKnows$Doing", name := "isKnownByStop", desc := "()Z" } : Jvm.MethodName) ({ cls := "NextOneKnows$Doing", name := "isKnownByStop", desc := "()Z" } : Jvm.MethodName)) ∈ TG := tg_3 205 rfl rfl
set_option maxRecDepth 8000 in
theorem sX0_stop_129_c1 : Site RX0 mX0_stop 129 132 mX1_isKnownByStop (some 1) 1 := site_U (owner := RX1) (x := ⟨RX1, "isKnownByStop", "()Z"⟩) (dk DX0_stop_1 9 rfl) KX1 w_756 w_759 w_757 (kX1_isKnownByStop) w_757 w_758 w_81 kX1_isKnownByStop pmX1_isKnownByStop (by decide)
set_option maxRecDepth 8000 in
theorem w_768 : (Jvm.Cond.selects "NextOneKnows$Written" ({ cls := "NextOneKnows$Doing", name := "isKnownByStop", desc := "()Z" } : Jvm.MethodName) ({ cls := "NextOneKnows$Doing", name := "isKnownByStop", desc := "()Z" } : Jvm.MethodName)) ∈ TG := tg_3 215 rfl rfl
set_option maxRecDepth 8000 in
theorem sX0_stop_129_c9 : Site RX0 mX0_stop 129 132 mX1_isKnownByStop (some 9) 1 := site_U (owner := RX1) (x := ⟨RX1, "isKnownByStop", "()Z"⟩) (dk DX0_stop_1 9 rfl) KX9 w_756 w_759 w_757 (kX1_isKnownByStop) w_757 w_768 w_81 kX1_isKnownByStop pmX1_isKnownByStop (by decide)
set_option maxRecDepth 8000 in
theorem w_767 : (Jvm.Cond.selects "NextOneKnows$Why" ({ cls := "NextOneKnows$Doing", name := "isKnownByStop", desc := "()Z" } : Jvm.MethodName) ({ cls := "NextOneKnows$Doing", name := "isKnownByStop", desc := "()Z" } : Jvm.MethodName)) ∈ TG := tg_3 214 rfl rfl
set_option maxRecDepth 8000 in
theorem sX0_stop_129_c8 : Site RX0 mX0_stop 129 132 mX1_isKnownByStop (some 8) 1 := site_U (owner := RX1) (x := ⟨RX1, "isKnownByStop", "()Z"⟩) (dk DX0_stop_1 9 rfl) KX8 w_756 w_759 w_757 (kX1_isKnownByStop) w_757 w_767 w_81 kX1_isKnownByStop pmX1_isKnownByStop (by decide)
set_option maxRecDepth 8000 in
theorem w_761 : (Jvm.Cond.instanceMethod ({ cls := "NextOneKnows$Plain", name := "isKnownByStop", desc := "()Z" } : Jvm.MethodName)) ∈ TG := tg_3 208 rfl rfl
set_option maxRecDepth 8000 in
theorem w_760 : (Jvm.Cond.selects "NextOneKnows$Plain" ({ cls := "NextOneKnows$Doing", name := "isKnownByStop", desc := "()Z" } : Jvm.MethodName) ({ cls := "NextOneKnows$Plain", name := "isKnownByStop", desc := "()Z" } : Jvm.MethodName)) ∈ TG := tg_3 207 rfl rfl
set_option maxRecDepth 8000 in
theorem sX0_stop_129_c2 : Site RX0 mX0_stop 129 132 mX2_isKnownByStop (some 2) 1 := site_U (owner := RX1) (x := ⟨RX1, "isKnownByStop", "()Z"⟩) (dk DX0_stop_1 9 rfl) KX2 w_756 w_759 w_757 (kX1_isKnownByStop) w_761 w_760 w_84 kX2_isKnownByStop pmX1_isKnownByStop (by decide)
set_option maxRecDepth 8000 in
theorem w_766 : (Jvm.Cond.selects "NextOneKnows$Tied" ({ cls := "NextOneKnows$Doing", name := "isKnownByStop", desc := "()Z" } : Jvm.MethodName) ({ cls := "NextOneKnows$Plain", name := "isKnownByStop", desc := "()Z" } : Jvm.MethodName)) ∈ TG := tg_3 213 rfl rfl
set_option maxRecDepth 8000 in
theorem sX0_stop_129_c6 : Site RX0 mX0_stop 129 132 mX2_isKnownByStop (some 6) 1 := site_U (owner := RX1) (x := ⟨RX1, "isKnownByStop", "()Z"⟩) (dk DX0_stop_1 9 rfl) KX6 w_756 w_759 w_757 (kX1_isKnownByStop) w_761 w_766 w_84 kX2_isKnownByStop pmX1_isKnownByStop (by decide)
set_option maxRecDepth 8000 in
theorem w_764 : (Jvm.Cond.instanceMethod ({ cls := "NextOneKnows$Rare", name := "isKnownByStop", desc := "()Z" } : Jvm.MethodName)) ∈ TG := tg_3 211 rfl rfl
set_option maxRecDepth 8000 in
theorem w_763 : (Jvm.Cond.selects "NextOneKnows$Rare" ({ cls := "NextOneKnows$Doing", name := "isKnownByStop", desc := "()Z" } : Jvm.MethodName) ({ cls := "NextOneKnows$Rare", name := "isKnownByStop", desc := "()Z" } : Jvm.MethodName)) ∈ TG := tg_3 210 rfl rfl
set_option maxRecDepth 8000 in
theorem sX0_stop_129_c4 : Site RX0 mX0_stop 129 132 mX4_isKnownByStop (some 4) 1 := site_U (owner := RX1) (x := ⟨RX1, "isKnownByStop", "()Z"⟩) (dk DX0_stop_1 9 rfl) KX4 w_756 w_759 w_757 (kX1_isKnownByStop) w_764 w_763 w_85 kX4_isKnownByStop pmX1_isKnownByStop (by decide)
set_option maxRecDepth 8000 in
theorem w_769 : (Jvm.Cond.selects "NextOneKnows$Wrong" ({ cls := "NextOneKnows$Doing", name := "isKnownByStop", desc := "()Z" } : Jvm.MethodName) ({ cls := "NextOneKnows$Rare", name := "isKnownByStop", desc := "()Z" } : Jvm.MethodName)) ∈ TG := tg_3 216 rfl rfl
set_option maxRecDepth 8000 in
theorem sX0_stop_129_c10 : Site RX0 mX0_stop 129 132 mX4_isKnownByStop (some 10) 1 := site_U (owner := RX1) (x := ⟨RX1, "isKnownByStop", "()Z"⟩) (dk DX0_stop_1 9 rfl) KX10 w_756 w_759 w_757 (kX1_isKnownByStop) w_764 w_769 w_85 kX4_isKnownByStop pmX1_isKnownByStop (by decide)
set_option maxRecDepth 8000 in
theorem w_681 : (Jvm.Cond.selects "NextOneKnows$Ahead" ({ cls := "NextOneKnows$Ahead", name := "goingOver", desc := "([I)I" } : Jvm.MethodName) ({ cls := "NextOneKnows$Ahead", name := "goingOver", desc := "([I)I" } : Jvm.MethodName)) ∈ TG := tg_3 128 rfl rfl
set_option maxRecDepth 8000 in
theorem w_793 : (Jvm.Cond.methodLink "NextOneKnows$Ahead" (162 : Nat) ({ cls := "NextOneKnows$Ahead", name := "goingOver", desc := "([I)I" } : Jvm.MethodName)) ∈ TG := tg_4 0 rfl rfl
set_option maxRecDepth 8000 in
theorem w_680 : (Jvm.Cond.instanceMethod ({ cls := "NextOneKnows$Ahead", name := "goingOver", desc := "([I)I" } : Jvm.MethodName)) ∈ TG := tg_3 127 rfl rfl
set_option maxRecDepth 8000 in
theorem sX0_costHanded_10 : Site RX0 mX0_costHanded 10 13 mX0_goingOver (some 0) 2 := site_V (dk DX0_costHanded 6 rfl) KX0 w_793 w_680 w_681 w_76 kX0_goingOver pmX0_goingOver (by decide)
set_option maxRecDepth 8000 in
theorem w_731 : (Jvm.Cond.selects "NextOneKnows$Ahead" ({ cls := "NextOneKnows$Ahead", name := "pass", desc := "(II)I" } : Jvm.MethodName) ({ cls := "NextOneKnows$Ahead", name := "pass", desc := "(II)I" } : Jvm.MethodName)) ∈ TG := tg_3 178 rfl rfl
set_option maxRecDepth 8000 in
theorem w_794 : (Jvm.Cond.methodLink "NextOneKnows$Ahead" (167 : Nat) ({ cls := "NextOneKnows$Ahead", name := "pass", desc := "(II)I" } : Jvm.MethodName)) ∈ TG := tg_4 1 rfl rfl
set_option maxRecDepth 8000 in
theorem w_730 : (Jvm.Cond.instanceMethod ({ cls := "NextOneKnows$Ahead", name := "pass", desc := "(II)I" } : Jvm.MethodName)) ∈ TG := tg_3 177 rfl rfl
set_option maxRecDepth 8000 in
theorem sX0_costHanded_21 : Site RX0 mX0_costHanded 21 24 mX0_pass (some 0) 3 := site_V (dk DX0_costHanded 11 rfl) KX0 w_794 w_730 w_731 w_76 kX0_pass pmX0_pass (by decide)
set_option maxRecDepth 8000 in
theorem w_16 : Cond.selects "NextOneKnows$Ahead" ({ cls := "NextOneKnows$Ahead", name := "share", desc := "(IIII)V" } : Jvm.MethodName) ({ cls := "NextOneKnows$Ahead", name := "share", desc := "(IIII)V" } : Jvm.MethodName) ∈ TG := tg_p 16 rfl rfl
set_option maxRecDepth 8000 in
theorem w_785 : (Jvm.Cond.methodLink "NextOneKnows$Ahead" (171 : Nat) ({ cls := "NextOneKnows$Ahead", name := "share", desc := "(IIII)V" } : Jvm.MethodName)) ∈ TG := tg_3 232 rfl rfl
set_option maxRecDepth 8000 in
theorem w_787 : (Jvm.Cond.instanceMethod ({ cls := "NextOneKnows$Ahead", name := "share", desc := "(IIII)V" } : Jvm.MethodName)) ∈ TG := tg_3 234 rfl rfl
set_option maxRecDepth 8000 in
theorem sX0_bestSplit_50 : Site RX0 mX0_bestSplit 50 53 mX0_share (some 0) 5 := site_V (dk DX0_bestSplit_0 34 rfl) KX0 w_785 w_787 w_16 w_76 kX0_share pmX0_share (by decide)
set_option maxRecDepth 8000 in
theorem w_791 : (Jvm.Cond.selects "NextOneKnows$Ahead" ({ cls := "NextOneKnows$Ahead", name := "costHanded", desc := "([I)I" } : Jvm.MethodName) ({ cls := "NextOneKnows$Ahead", name := "costHanded", desc := "([I)I" } : Jvm.MethodName)) ∈ TG := tg_3 238 rfl rfl
set_option maxRecDepth 8000 in
theorem w_789 : (Jvm.Cond.methodLink "NextOneKnows$Ahead" (175 : Nat) ({ cls := "NextOneKnows$Ahead", name := "costHanded", desc := "([I)I" } : Jvm.MethodName)) ∈ TG := tg_3 236 rfl rfl
set_option maxRecDepth 8000 in
theorem w_790 : (Jvm.Cond.instanceMethod ({ cls := "NextOneKnows$Ahead", name := "costHanded", desc := "([I)I" } : Jvm.MethodName)) ∈ TG := tg_3 237 rfl rfl
set_option maxRecDepth 8000 in
theorem sX0_bestSplit_58 : Site RX0 mX0_bestSplit 58 61 mX0_costHanded (some 0) 2 := site_V (dk DX0_bestSplit_0 38 rfl) KX0 w_789 w_790 w_791 w_76 kX0_costHanded pmX0_costHanded (by decide)
set_option maxRecDepth 8000 in
theorem sX0_bestOf_25 : Site RX0 mX0_bestOf 25 28 mX11_bit none 2 := site_SN (host := "NextOneKnows") (dk DX0_bestOf 13 rfl) (by decide +kernel) w_517 w_74 kX11_bit pmX11_bit (by decide)
set_option maxRecDepth 8000 in
theorem sX0_bestOf_59 : Site RX0 mX0_bestOf 59 62 mX0_pass (some 0) 3 := site_V (dk DX0_bestOf 30 rfl) KX0 w_794 w_730 w_731 w_76 kX0_pass pmX0_pass (by decide)
set_option maxRecDepth 8000 in
theorem sX0_bestOf_83 : Site RX0 mX0_bestOf 83 86 mX0_pass (some 0) 3 := site_V (dk DX0_bestOf 41 rfl) KX0 w_794 w_730 w_731 w_76 kX0_pass pmX0_pass (by decide)
set_option maxRecDepth 8000 in
theorem sX0_firstRowNotSo_58 : Site RX0 mX0_firstRowNotSo 58 61 mX11_bit none 2 := site_SN (host := "NextOneKnows") (dk DX0_firstRowNotSo 32 rfl) (by decide +kernel) w_517 w_74 kX11_bit pmX11_bit (by decide)
set_option maxRecDepth 8000 in
theorem w_357 : (Jvm.Cond.methodLink "NextOneKnows$Doing" (18 : Nat) ({ cls := "java/lang/Math", name := "max", desc := "(II)I" } : Jvm.MethodName)) ∈ TG := tg_2 44 rfl rfl
set_option maxRecDepth 8000 in
theorem sX1_init_17 : Site RX1 mX1_init 17 20 mJ9_max_7cf53 none 2 := site_S (dk DX1_init 11 rfl) w_357 w_358 w_83 kJ9_max_7cf53 pmJ9_max_7cf53 (by decide)
set_option maxRecDepth 8000 in
theorem w_716 : (Jvm.Cond.methodLink "NextOneKnows$Doing" (36 : Nat) ({ cls := "java/lang/Math", name := "floorMod", desc := "(II)I" } : Jvm.MethodName)) ∈ TG := tg_3 163 rfl rfl
set_option maxRecDepth 8000 in
theorem sX1_weeksUntil_10 : Site RX1 mX1_weeksUntil 10 13 mJ9_floorMod_7cf53 none 2 := site_S (dk DX1_weeksUntil 6 rfl) w_716 w_717 w_83 kJ9_floorMod_7cf53 pmJ9_floorMod_7cf53 (by decide)
set_option maxRecDepth 8000 in
theorem w_910 : (Jvm.Cond.selects "NextOneKnows$Trace" ({ cls := "NextOneKnows$Trace", name := "begins", desc := "(I)V" } : Jvm.MethodName) ({ cls := "NextOneKnows$Trace", name := "begins", desc := "(I)V" } : Jvm.MethodName)) ∈ TG := tg_4 117 rfl rfl
set_option maxRecDepth 8000 in
theorem w_930 : (Jvm.Cond.methodLink "NextOneKnows$Doing" (39 : Nat) ({ cls := "NextOneKnows$Trace", name := "begins", desc := "(I)V" } : Jvm.MethodName)) ∈ TG := tg_4 137 rfl rfl
set_option maxRecDepth 8000 in
theorem w_909 : (Jvm.Cond.instanceMethod ({ cls := "NextOneKnows$Trace", name := "begins", desc := "(I)V" } : Jvm.MethodName)) ∈ TG := tg_4 116 rfl rfl
set_option maxRecDepth 8000 in
theorem w_77 : (Jvm.Cond.initialized "NextOneKnows$Trace") ∈ TG := tg_1 4 rfl rfl
set_option maxRecDepth 8000 in
theorem sX1_says_3 : Site RX1 mX1_says 3 6 mX7_begins (some 7) 2 := site_V (dk DX1_says 2 rfl) KX7 w_930 w_909 w_910 w_77 kX7_begins pmX7_begins (by decide)
set_option maxRecDepth 8000 in
theorem sX1_holds_3 : Site RX1 mX1_holds 3 6 mX7_begins (some 7) 2 := site_V (dk DX1_holds 2 rfl) KX7 w_930 w_909 w_910 w_77 kX7_begins pmX7_begins (by decide)
set_option maxRecDepth 8000 in
theorem w_954 : (Jvm.Cond.methodLink "NextOneKnows$Doing" (45 : Nat) ({ cls := "NextOneKnows$Doing", name := "says", desc := "(ILNextOneKnows$Trace;)I" } : Jvm.MethodName)) ∈ TG := tg_4 161 rfl rfl
set_option maxRecDepth 8000 in
theorem w_904 : (Jvm.Cond.sameMethod "NextOneKnows$Doing" "NextOneKnows$Doing" "says" "(ILNextOneKnows$Trace;)I") ∈ TG := tg_4 111 rfl rfl
set_option maxRecDepth 8000 in
theorem w_902 : (Jvm.Cond.instanceMethod ({ cls := "NextOneKnows$Doing", name := "says", desc := "(ILNextOneKnows$Trace;)I" } : Jvm.MethodName)) ∈ TG := tg_4 109 rfl rfl
set_option maxRecDepth 8000 in
theorem w_903 : (Jvm.Cond.selects "NextOneKnows$Doing" ({ cls := "NextOneKnows$Doing", name := "says", desc := "(ILNextOneKnows$Trace;)I" } : Jvm.MethodName) ({ cls := "NextOneKnows$Doing", name := "says", desc := "(ILNextOneKnows$Trace;)I" } : Jvm.MethodName)) ∈ TG := tg_4 110 rfl rfl
set_option maxRecDepth 8000 in
theorem sX1_holds_9_c1 : Site RX1 mX1_holds 9 12 mX1_says (some 1) 3 := site_U (owner := RX1) (x := ⟨RX1, "says", "(ILNextOneKnows$Trace;)I"⟩) (dk DX1_holds 6 rfl) KX1 w_954 w_904 w_902 (kX1_says) w_902 w_903 w_81 kX1_says pmX1_says (by decide)
set_option maxRecDepth 8000 in
theorem w_922 : (Jvm.Cond.selects "NextOneKnows$Written" ({ cls := "NextOneKnows$Doing", name := "says", desc := "(ILNextOneKnows$Trace;)I" } : Jvm.MethodName) ({ cls := "NextOneKnows$Doing", name := "says", desc := "(ILNextOneKnows$Trace;)I" } : Jvm.MethodName)) ∈ TG := tg_4 129 rfl rfl
set_option maxRecDepth 8000 in
theorem sX1_holds_9_c9 : Site RX1 mX1_holds 9 12 mX1_says (some 9) 3 := site_U (owner := RX1) (x := ⟨RX1, "says", "(ILNextOneKnows$Trace;)I"⟩) (dk DX1_holds 6 rfl) KX9 w_954 w_904 w_902 (kX1_says) w_902 w_922 w_81 kX1_says pmX1_says (by decide)
set_option maxRecDepth 8000 in
theorem w_916 : (Jvm.Cond.instanceMethod ({ cls := "NextOneKnows$Why", name := "says", desc := "(ILNextOneKnows$Trace;)I" } : Jvm.MethodName)) ∈ TG := tg_4 123 rfl rfl
set_option maxRecDepth 8000 in
theorem w_915 : (Jvm.Cond.selects "NextOneKnows$Why" ({ cls := "NextOneKnows$Doing", name := "says", desc := "(ILNextOneKnows$Trace;)I" } : Jvm.MethodName) ({ cls := "NextOneKnows$Why", name := "says", desc := "(ILNextOneKnows$Trace;)I" } : Jvm.MethodName)) ∈ TG := tg_4 122 rfl rfl
set_option maxRecDepth 8000 in
theorem sX1_holds_9_c8 : Site RX1 mX1_holds 9 12 mX8_says (some 8) 3 := site_U (owner := RX1) (x := ⟨RX1, "says", "(ILNextOneKnows$Trace;)I"⟩) (dk DX1_holds 6 rfl) KX8 w_954 w_904 w_902 (kX1_says) w_916 w_915 w_86 kX8_says pmX1_says (by decide)
set_option maxRecDepth 8000 in
theorem w_906 : (Jvm.Cond.instanceMethod ({ cls := "NextOneKnows$Plain", name := "says", desc := "(ILNextOneKnows$Trace;)I" } : Jvm.MethodName)) ∈ TG := tg_4 113 rfl rfl
set_option maxRecDepth 8000 in
theorem w_905 : (Jvm.Cond.selects "NextOneKnows$Plain" ({ cls := "NextOneKnows$Doing", name := "says", desc := "(ILNextOneKnows$Trace;)I" } : Jvm.MethodName) ({ cls := "NextOneKnows$Plain", name := "says", desc := "(ILNextOneKnows$Trace;)I" } : Jvm.MethodName)) ∈ TG := tg_4 112 rfl rfl
set_option maxRecDepth 8000 in
theorem sX1_holds_9_c2 : Site RX1 mX1_holds 9 12 mX2_says (some 2) 3 := site_U (owner := RX1) (x := ⟨RX1, "says", "(ILNextOneKnows$Trace;)I"⟩) (dk DX1_holds 6 rfl) KX2 w_954 w_904 w_902 (kX1_says) w_906 w_905 w_84 kX2_says pmX1_says (by decide)
set_option maxRecDepth 8000 in
theorem w_914 : (Jvm.Cond.selects "NextOneKnows$Tied" ({ cls := "NextOneKnows$Doing", name := "says", desc := "(ILNextOneKnows$Trace;)I" } : Jvm.MethodName) ({ cls := "NextOneKnows$Plain", name := "says", desc := "(ILNextOneKnows$Trace;)I" } : Jvm.MethodName)) ∈ TG := tg_4 121 rfl rfl
set_option maxRecDepth 8000 in
theorem sX1_holds_9_c6 : Site RX1 mX1_holds 9 12 mX2_says (some 6) 3 := site_U (owner := RX1) (x := ⟨RX1, "says", "(ILNextOneKnows$Trace;)I"⟩) (dk DX1_holds 6 rfl) KX6 w_954 w_904 w_902 (kX1_says) w_906 w_914 w_84 kX2_says pmX1_says (by decide)
set_option maxRecDepth 8000 in
theorem w_913 : (Jvm.Cond.selects "NextOneKnows$Rare" ({ cls := "NextOneKnows$Doing", name := "says", desc := "(ILNextOneKnows$Trace;)I" } : Jvm.MethodName) ({ cls := "NextOneKnows$Doing", name := "says", desc := "(ILNextOneKnows$Trace;)I" } : Jvm.MethodName)) ∈ TG := tg_4 120 rfl rfl
set_option maxRecDepth 8000 in
theorem sX1_holds_9_c4 : Site RX1 mX1_holds 9 12 mX1_says (some 4) 3 := site_U (owner := RX1) (x := ⟨RX1, "says", "(ILNextOneKnows$Trace;)I"⟩) (dk DX1_holds 6 rfl) KX4 w_954 w_904 w_902 (kX1_says) w_902 w_913 w_81 kX1_says pmX1_says (by decide)
set_option maxRecDepth 8000 in
theorem w_924 : (Jvm.Cond.instanceMethod ({ cls := "NextOneKnows$Wrong", name := "says", desc := "(ILNextOneKnows$Trace;)I" } : Jvm.MethodName)) ∈ TG := tg_4 131 rfl rfl
set_option maxRecDepth 8000 in
theorem w_923 : (Jvm.Cond.selects "NextOneKnows$Wrong" ({ cls := "NextOneKnows$Doing", name := "says", desc := "(ILNextOneKnows$Trace;)I" } : Jvm.MethodName) ({ cls := "NextOneKnows$Wrong", name := "says", desc := "(ILNextOneKnows$Trace;)I" } : Jvm.MethodName)) ∈ TG := tg_4 130 rfl rfl
set_option maxRecDepth 8000 in
theorem sX1_holds_9_c10 : Site RX1 mX1_holds 9 12 mX10_says (some 10) 3 := site_U (owner := RX1) (x := ⟨RX1, "says", "(ILNextOneKnows$Trace;)I"⟩) (dk DX1_holds 6 rfl) KX10 w_954 w_904 w_902 (kX1_says) w_924 w_923 w_88 kX10_says pmX1_says (by decide)
set_option maxRecDepth 8000 in
theorem sX1_tells_3 : Site RX1 mX1_tells 3 6 mX7_begins (some 7) 2 := site_V (dk DX1_tells 2 rfl) KX7 w_930 w_909 w_910 w_77 kX7_begins pmX7_begins (by decide)
set_option maxRecDepth 8000 in
theorem w_979 : (Jvm.Cond.methodLink "NextOneKnows$Doing" (49 : Nat) ({ cls := "NextOneKnows$Doing", name := "holds", desc := "(ILNextOneKnows$Trace;)I" } : Jvm.MethodName)) ∈ TG := tg_4 186 rfl rfl
set_option maxRecDepth 8000 in
theorem w_934 : (Jvm.Cond.sameMethod "NextOneKnows$Doing" "NextOneKnows$Doing" "holds" "(ILNextOneKnows$Trace;)I") ∈ TG := tg_4 141 rfl rfl
set_option maxRecDepth 8000 in
theorem w_932 : (Jvm.Cond.instanceMethod ({ cls := "NextOneKnows$Doing", name := "holds", desc := "(ILNextOneKnows$Trace;)I" } : Jvm.MethodName)) ∈ TG := tg_4 139 rfl rfl
set_option maxRecDepth 8000 in
theorem w_933 : (Jvm.Cond.selects "NextOneKnows$Doing" ({ cls := "NextOneKnows$Doing", name := "holds", desc := "(ILNextOneKnows$Trace;)I" } : Jvm.MethodName) ({ cls := "NextOneKnows$Doing", name := "holds", desc := "(ILNextOneKnows$Trace;)I" } : Jvm.MethodName)) ∈ TG := tg_4 140 rfl rfl
set_option maxRecDepth 8000 in
theorem sX1_tells_9_c1 : Site RX1 mX1_tells 9 12 mX1_holds (some 1) 3 := site_U (owner := RX1) (x := ⟨RX1, "holds", "(ILNextOneKnows$Trace;)I"⟩) (dk DX1_tells 6 rfl) KX1 w_979 w_934 w_932 (kX1_holds) w_932 w_933 w_81 kX1_holds pmX1_holds (by decide)
set_option maxRecDepth 8000 in
theorem w_942 : (Jvm.Cond.instanceMethod ({ cls := "NextOneKnows$Written", name := "holds", desc := "(ILNextOneKnows$Trace;)I" } : Jvm.MethodName)) ∈ TG := tg_4 149 rfl rfl
set_option maxRecDepth 8000 in
theorem w_946 : (Jvm.Cond.selects "NextOneKnows$Written" ({ cls := "NextOneKnows$Doing", name := "holds", desc := "(ILNextOneKnows$Trace;)I" } : Jvm.MethodName) ({ cls := "NextOneKnows$Written", name := "holds", desc := "(ILNextOneKnows$Trace;)I" } : Jvm.MethodName)) ∈ TG := tg_4 153 rfl rfl
set_option maxRecDepth 8000 in
theorem sX1_tells_9_c9 : Site RX1 mX1_tells 9 12 mX9_holds (some 9) 3 := site_U (owner := RX1) (x := ⟨RX1, "holds", "(ILNextOneKnows$Trace;)I"⟩) (dk DX1_tells 6 rfl) KX9 w_979 w_934 w_932 (kX1_holds) w_942 w_946 w_82 kX9_holds pmX1_holds (by decide)
set_option maxRecDepth 8000 in
theorem w_939 : (Jvm.Cond.instanceMethod ({ cls := "NextOneKnows$Why", name := "holds", desc := "(ILNextOneKnows$Trace;)I" } : Jvm.MethodName)) ∈ TG := tg_4 146 rfl rfl
set_option maxRecDepth 8000 in
theorem w_938 : (Jvm.Cond.selects "NextOneKnows$Why" ({ cls := "NextOneKnows$Doing", name := "holds", desc := "(ILNextOneKnows$Trace;)I" } : Jvm.MethodName) ({ cls := "NextOneKnows$Why", name := "holds", desc := "(ILNextOneKnows$Trace;)I" } : Jvm.MethodName)) ∈ TG := tg_4 145 rfl rfl
set_option maxRecDepth 8000 in
theorem sX1_tells_9_c8 : Site RX1 mX1_tells 9 12 mX8_holds (some 8) 3 := site_U (owner := RX1) (x := ⟨RX1, "holds", "(ILNextOneKnows$Trace;)I"⟩) (dk DX1_tells 6 rfl) KX8 w_979 w_934 w_932 (kX1_holds) w_939 w_938 w_86 kX8_holds pmX1_holds (by decide)
set_option maxRecDepth 8000 in
theorem w_935 : (Jvm.Cond.selects "NextOneKnows$Plain" ({ cls := "NextOneKnows$Doing", name := "holds", desc := "(ILNextOneKnows$Trace;)I" } : Jvm.MethodName) ({ cls := "NextOneKnows$Doing", name := "holds", desc := "(ILNextOneKnows$Trace;)I" } : Jvm.MethodName)) ∈ TG := tg_4 142 rfl rfl
set_option maxRecDepth 8000 in
theorem sX1_tells_9_c2 : Site RX1 mX1_tells 9 12 mX1_holds (some 2) 3 := site_U (owner := RX1) (x := ⟨RX1, "holds", "(ILNextOneKnows$Trace;)I"⟩) (dk DX1_tells 6 rfl) KX2 w_979 w_934 w_932 (kX1_holds) w_932 w_935 w_81 kX1_holds pmX1_holds (by decide)
set_option maxRecDepth 8000 in
theorem w_937 : (Jvm.Cond.selects "NextOneKnows$Tied" ({ cls := "NextOneKnows$Doing", name := "holds", desc := "(ILNextOneKnows$Trace;)I" } : Jvm.MethodName) ({ cls := "NextOneKnows$Doing", name := "holds", desc := "(ILNextOneKnows$Trace;)I" } : Jvm.MethodName)) ∈ TG := tg_4 144 rfl rfl
set_option maxRecDepth 8000 in
theorem sX1_tells_9_c6 : Site RX1 mX1_tells 9 12 mX1_holds (some 6) 3 := site_U (owner := RX1) (x := ⟨RX1, "holds", "(ILNextOneKnows$Trace;)I"⟩) (dk DX1_tells 6 rfl) KX6 w_979 w_934 w_932 (kX1_holds) w_932 w_937 w_81 kX1_holds pmX1_holds (by decide)
set_option maxRecDepth 8000 in
theorem w_936 : (Jvm.Cond.selects "NextOneKnows$Rare" ({ cls := "NextOneKnows$Doing", name := "holds", desc := "(ILNextOneKnows$Trace;)I" } : Jvm.MethodName) ({ cls := "NextOneKnows$Doing", name := "holds", desc := "(ILNextOneKnows$Trace;)I" } : Jvm.MethodName)) ∈ TG := tg_4 143 rfl rfl
set_option maxRecDepth 8000 in
theorem sX1_tells_9_c4 : Site RX1 mX1_tells 9 12 mX1_holds (some 4) 3 := site_U (owner := RX1) (x := ⟨RX1, "holds", "(ILNextOneKnows$Trace;)I"⟩) (dk DX1_tells 6 rfl) KX4 w_979 w_934 w_932 (kX1_holds) w_932 w_936 w_81 kX1_holds pmX1_holds (by decide)
set_option maxRecDepth 8000 in
theorem w_948 : (Jvm.Cond.instanceMethod ({ cls := "NextOneKnows$Wrong", name := "holds", desc := "(ILNextOneKnows$Trace;)I" } : Jvm.MethodName)) ∈ TG := tg_4 155 rfl rfl
set_option maxRecDepth 8000 in
theorem w_947 : (Jvm.Cond.selects "NextOneKnows$Wrong" ({ cls := "NextOneKnows$Doing", name := "holds", desc := "(ILNextOneKnows$Trace;)I" } : Jvm.MethodName) ({ cls := "NextOneKnows$Wrong", name := "holds", desc := "(ILNextOneKnows$Trace;)I" } : Jvm.MethodName)) ∈ TG := tg_4 154 rfl rfl
set_option maxRecDepth 8000 in
theorem sX1_tells_9_c10 : Site RX1 mX1_tells 9 12 mX10_holds (some 10) 3 := site_U (owner := RX1) (x := ⟨RX1, "holds", "(ILNextOneKnows$Trace;)I"⟩) (dk DX1_tells 6 rfl) KX10 w_979 w_934 w_932 (kX1_holds) w_948 w_947 w_88 kX10_holds pmX1_holds (by decide)
set_option maxRecDepth 8000 in
theorem w_411 : (Jvm.Cond.methodLink "NextOneKnows$Plain" (3 : Nat) ({ cls := "NextOneKnows$Doing", name := "<init>", desc := "(IIIIII)V" } : Jvm.MethodName)) ∈ TG := tg_2 98 rfl rfl
set_option maxRecDepth 8000 in
theorem w_354 : (Jvm.Cond.instanceMethod ({ cls := "NextOneKnows$Doing", name := "<init>", desc := "(IIIIII)V" } : Jvm.MethodName)) ∈ TG := tg_2 41 rfl rfl
set_option maxRecDepth 8000 in
theorem sX2_init_10 {ci : Nat} : Site RX2 mX2_init 10 13 mX1_init (some ci) 7 := site_I (dk DX2_init 7 rfl) rfl rfl w_411 w_354 w_81 kX1_init pmX1_init (by decide)
set_option maxRecDepth 8000 in
theorem w_908 : (Jvm.Cond.methodLink "NextOneKnows$Plain" (15 : Nat) ({ cls := "NextOneKnows$Trace", name := "begins", desc := "(I)V" } : Jvm.MethodName)) ∈ TG := tg_4 115 rfl rfl
set_option maxRecDepth 8000 in
theorem sX2_says_3 : Site RX2 mX2_says 3 6 mX7_begins (some 7) 2 := site_V (dk DX2_says 2 rfl) KX7 w_908 w_909 w_910 w_77 kX7_begins pmX7_begins (by decide)
set_option maxRecDepth 8000 in
theorem w_912 : (Jvm.Cond.methodLink "NextOneKnows$Plain" (21 : Nat) ({ cls := "NextOneKnows$Doing", name := "says", desc := "(ILNextOneKnows$Trace;)I" } : Jvm.MethodName)) ∈ TG := tg_4 119 rfl rfl
set_option maxRecDepth 8000 in
theorem w_418 : (Jvm.Cond.superclass "NextOneKnows$Plain" "NextOneKnows$Doing") ∈ TG := tg_2 105 rfl rfl
set_option maxRecDepth 8000 in
theorem sX2_says_11_c2 : Site RX2 mX2_says 11 14 mX1_says (some 2) 3 := site_SU (x := ⟨RX1, "says", "(ILNextOneKnows$Trace;)I"⟩) (dk DX2_says 8 rfl) KX2 ⟨rfl, rfl⟩ w_912 w_904 w_418 (Or.inl rfl) w_902 w_81 kX1_says (by decide +kernel) pmX1_says.2.2 (by decide)
set_option maxRecDepth 8000 in
theorem sX2_says_11_c6 : Site RX2 mX2_says 11 14 mX1_says (some 6) 3 := site_SU (x := ⟨RX1, "says", "(ILNextOneKnows$Trace;)I"⟩) (dk DX2_says 8 rfl) KX6 ⟨rfl, rfl⟩ w_912 w_904 w_418 (Or.inl rfl) w_902 w_81 kX1_says (by decide +kernel) pmX1_says.2.2 (by decide)
set_option maxRecDepth 8000 in
theorem w_606 : (Jvm.Cond.methodLink "NextOneKnows$Post" (28 : Nat) ({ cls := "java/lang/Math", name := "min", desc := "(II)I" } : Jvm.MethodName)) ∈ TG := tg_3 53 rfl rfl
set_option maxRecDepth 8000 in
theorem sX3_readFrom_7 : Site RX3 mX3_readFrom 7 10 mJ9_min_7cf53 none 2 := site_S (dk DX3_readFrom 5 rfl) w_606 w_607 w_83 kJ9_min_7cf53 pmJ9_min_7cf53 (by decide)
set_option maxRecDepth 8000 in
theorem w_2 : Cond.selects "NextOneKnows$Post" ({ cls := "NextOneKnows$Post", name := "takes", desc := "(I)Z" } : Jvm.MethodName) ({ cls := "NextOneKnows$Post", name := "takes", desc := "(I)Z" } : Jvm.MethodName) ∈ TG := tg_p 2 rfl rfl
set_option maxRecDepth 8000 in
theorem w_609 : (Jvm.Cond.methodLink "NextOneKnows$Post" (57 : Nat) ({ cls := "NextOneKnows$Post", name := "takes", desc := "(I)Z" } : Jvm.MethodName)) ∈ TG := tg_3 56 rfl rfl
set_option maxRecDepth 8000 in
theorem w_611 : (Jvm.Cond.instanceMethod ({ cls := "NextOneKnows$Post", name := "takes", desc := "(I)Z" } : Jvm.MethodName)) ∈ TG := tg_3 58 rfl rfl
set_option maxRecDepth 8000 in
theorem w_79 : (Jvm.Cond.initialized "NextOneKnows$Post") ∈ TG := tg_1 6 rfl rfl
set_option maxRecDepth 8000 in
theorem sX3_readFrom_59 : Site RX3 mX3_readFrom 59 62 mX3_takes (some 3) 2 := site_V (dk DX3_readFrom 34 rfl) KX3 w_609 w_611 w_2 w_79 kX3_takes pmX3_takes (by decide)
set_option maxRecDepth 8000 in
theorem w_4 : Cond.selects "NextOneKnows$Post" ({ cls := "NextOneKnows$Post", name := "readClause", desc := "()V" } : Jvm.MethodName) ({ cls := "NextOneKnows$Post", name := "readClause", desc := "()V" } : Jvm.MethodName) ∈ TG := tg_p 4 rfl rfl
set_option maxRecDepth 8000 in
theorem w_617 : (Jvm.Cond.methodLink "NextOneKnows$Post" (61 : Nat) ({ cls := "NextOneKnows$Post", name := "readClause", desc := "()V" } : Jvm.MethodName)) ∈ TG := tg_3 64 rfl rfl
set_option maxRecDepth 8000 in
theorem w_619 : (Jvm.Cond.instanceMethod ({ cls := "NextOneKnows$Post", name := "readClause", desc := "()V" } : Jvm.MethodName)) ∈ TG := tg_3 66 rfl rfl
set_option maxRecDepth 8000 in
theorem sX3_readFrom_66 : Site RX3 mX3_readFrom 66 69 mX3_readClause (some 3) 1 := site_V (dk DX3_readFrom 37 rfl) KX3 w_617 w_619 w_4 w_79 kX3_readClause pmX3_readClause (by decide)
set_option maxRecDepth 8000 in
theorem w_5 : Cond.selects "NextOneKnows$Post" ({ cls := "NextOneKnows$Post", name := "readWord", desc := "()I" } : Jvm.MethodName) ({ cls := "NextOneKnows$Post", name := "readWord", desc := "()I" } : Jvm.MethodName) ∈ TG := tg_p 5 rfl rfl
set_option maxRecDepth 8000 in
theorem w_621 : (Jvm.Cond.methodLink "NextOneKnows$Post" (64 : Nat) ({ cls := "NextOneKnows$Post", name := "readWord", desc := "()I" } : Jvm.MethodName)) ∈ TG := tg_3 68 rfl rfl
set_option maxRecDepth 8000 in
theorem w_623 : (Jvm.Cond.instanceMethod ({ cls := "NextOneKnows$Post", name := "readWord", desc := "()I" } : Jvm.MethodName)) ∈ TG := tg_3 70 rfl rfl
set_option maxRecDepth 8000 in
theorem sX3_readClause_1 : Site RX3 mX3_readClause 1 4 mX3_readWord (some 3) 1 := site_V (dk DX3_readClause_0 1 rfl) KX3 w_621 w_623 w_5 w_79 kX3_readWord pmX3_readWord (by decide)
set_option maxRecDepth 8000 in
theorem w_6 : Cond.selects "NextOneKnows$Post" ({ cls := "NextOneKnows$Post", name := "needs", desc := "(I)V" } : Jvm.MethodName) ({ cls := "NextOneKnows$Post", name := "needs", desc := "(I)V" } : Jvm.MethodName) ∈ TG := tg_p 6 rfl rfl
set_option maxRecDepth 8000 in
theorem w_625 : (Jvm.Cond.methodLink "NextOneKnows$Post" (68 : Nat) ({ cls := "NextOneKnows$Post", name := "needs", desc := "(I)V" } : Jvm.MethodName)) ∈ TG := tg_3 72 rfl rfl
set_option maxRecDepth 8000 in
theorem w_627 : (Jvm.Cond.instanceMethod ({ cls := "NextOneKnows$Post", name := "needs", desc := "(I)V" } : Jvm.MethodName)) ∈ TG := tg_3 74 rfl rfl
set_option maxRecDepth 8000 in
theorem sX3_readClause_8 : Site RX3 mX3_readClause 8 11 mX3_needs (some 3) 2 := site_V (dk DX3_readClause_0 5 rfl) KX3 w_625 w_627 w_6 w_79 kX3_needs pmX3_needs (by decide)
set_option maxRecDepth 8000 in
theorem w_8 : Cond.selects "NextOneKnows$Post" ({ cls := "NextOneKnows$Post", name := "readNumber", desc := "()I" } : Jvm.MethodName) ({ cls := "NextOneKnows$Post", name := "readNumber", desc := "()I" } : Jvm.MethodName) ∈ TG := tg_p 8 rfl rfl
set_option maxRecDepth 8000 in
theorem w_633 : (Jvm.Cond.methodLink "NextOneKnows$Post" (72 : Nat) ({ cls := "NextOneKnows$Post", name := "readNumber", desc := "()I" } : Jvm.MethodName)) ∈ TG := tg_3 80 rfl rfl
set_option maxRecDepth 8000 in
theorem w_635 : (Jvm.Cond.instanceMethod ({ cls := "NextOneKnows$Post", name := "readNumber", desc := "()I" } : Jvm.MethodName)) ∈ TG := tg_3 82 rfl rfl
set_option maxRecDepth 8000 in
theorem sX3_readClause_12 : Site RX3 mX3_readClause 12 15 mX3_readNumber (some 3) 1 := site_V (dk DX3_readClause_0 7 rfl) KX3 w_633 w_635 w_8 w_79 kX3_readNumber pmX3_readNumber (by decide)
set_option maxRecDepth 8000 in
theorem sX3_readClause_31 : Site RX3 mX3_readClause 31 34 mX3_needs (some 3) 2 := site_V (dk DX3_readClause_0 17 rfl) KX3 w_625 w_627 w_6 w_79 kX3_needs pmX3_needs (by decide)
set_option maxRecDepth 8000 in
theorem w_9 : Cond.selects "NextOneKnows$Post" ({ cls := "NextOneKnows$Post", name := "readEither", desc := "(I)V" } : Jvm.MethodName) ({ cls := "NextOneKnows$Post", name := "readEither", desc := "(I)V" } : Jvm.MethodName) ∈ TG := tg_p 9 rfl rfl
set_option maxRecDepth 8000 in
theorem w_637 : (Jvm.Cond.methodLink "NextOneKnows$Post" (75 : Nat) ({ cls := "NextOneKnows$Post", name := "readEither", desc := "(I)V" } : Jvm.MethodName)) ∈ TG := tg_3 84 rfl rfl
set_option maxRecDepth 8000 in
theorem w_639 : (Jvm.Cond.instanceMethod ({ cls := "NextOneKnows$Post", name := "readEither", desc := "(I)V" } : Jvm.MethodName)) ∈ TG := tg_3 86 rfl rfl
set_option maxRecDepth 8000 in
theorem sX3_readClause_36 : Site RX3 mX3_readClause 36 39 mX3_readEither (some 3) 2 := site_V (dk DX3_readClause_0 20 rfl) KX3 w_637 w_639 w_9 w_79 kX3_readEither pmX3_readEither (by decide)
set_option maxRecDepth 8000 in
theorem sX3_readWord_3 : Site RX3 mX3_readWord 3 6 mX3_takes (some 3) 2 := site_V (dk DX3_readWord 2 rfl) KX3 w_609 w_611 w_2 w_79 kX3_takes pmX3_takes (by decide)
set_option maxRecDepth 8000 in
theorem sX3_readWord_12 : Site RX3 mX3_readWord 12 15 mX3_needs (some 3) 2 := site_V (dk DX3_readWord 6 rfl) KX3 w_625 w_627 w_6 w_79 kX3_needs pmX3_needs (by decide)
set_option maxRecDepth 8000 in
theorem sX3_readWord_18 : Site RX3 mX3_readWord 18 21 mX3_needs (some 3) 2 := site_V (dk DX3_readWord 9 rfl) KX3 w_625 w_627 w_6 w_79 kX3_needs pmX3_needs (by decide)
set_option maxRecDepth 8000 in
theorem sX3_readWord_27 : Site RX3 mX3_readWord 27 30 mX3_takes (some 3) 2 := site_V (dk DX3_readWord 14 rfl) KX3 w_609 w_611 w_2 w_79 kX3_takes pmX3_takes (by decide)
set_option maxRecDepth 8000 in
theorem sX3_readWord_36 : Site RX3 mX3_readWord 36 39 mX3_needs (some 3) 2 := site_V (dk DX3_readWord 18 rfl) KX3 w_625 w_627 w_6 w_79 kX3_needs pmX3_needs (by decide)
set_option maxRecDepth 8000 in
theorem sX3_readWord_42 : Site RX3 mX3_readWord 42 45 mX3_needs (some 3) 2 := site_V (dk DX3_readWord 21 rfl) KX3 w_625 w_627 w_6 w_79 kX3_needs pmX3_needs (by decide)
set_option maxRecDepth 8000 in
theorem sX3_readWord_48 : Site RX3 mX3_readWord 48 51 mX3_needs (some 3) 2 := site_V (dk DX3_readWord 24 rfl) KX3 w_625 w_627 w_6 w_79 kX3_needs pmX3_needs (by decide)
set_option maxRecDepth 8000 in
theorem sX3_readWord_57 : Site RX3 mX3_readWord 57 60 mX3_needs (some 3) 2 := site_V (dk DX3_readWord 29 rfl) KX3 w_625 w_627 w_6 w_79 kX3_needs pmX3_needs (by decide)
set_option maxRecDepth 8000 in
theorem sX3_readWord_63 : Site RX3 mX3_readWord 63 66 mX3_takes (some 3) 2 := site_V (dk DX3_readWord 32 rfl) KX3 w_609 w_611 w_2 w_79 kX3_takes pmX3_takes (by decide)
set_option maxRecDepth 8000 in
theorem sX3_readWord_72 : Site RX3 mX3_readWord 72 75 mX3_needs (some 3) 2 := site_V (dk DX3_readWord 36 rfl) KX3 w_625 w_627 w_6 w_79 kX3_needs pmX3_needs (by decide)
set_option maxRecDepth 8000 in
theorem sX3_readWord_78 : Site RX3 mX3_readWord 78 81 mX3_needs (some 3) 2 := site_V (dk DX3_readWord 39 rfl) KX3 w_625 w_627 w_6 w_79 kX3_needs pmX3_needs (by decide)
set_option maxRecDepth 8000 in
theorem sX3_readWord_87 : Site RX3 mX3_readWord 87 90 mX3_needs (some 3) 2 := site_V (dk DX3_readWord 44 rfl) KX3 w_625 w_627 w_6 w_79 kX3_needs pmX3_needs (by decide)
set_option maxRecDepth 8000 in
theorem sX3_readWord_93 : Site RX3 mX3_readWord 93 96 mX3_needs (some 3) 2 := site_V (dk DX3_readWord 47 rfl) KX3 w_625 w_627 w_6 w_79 kX3_needs pmX3_needs (by decide)
set_option maxRecDepth 8000 in
theorem sX3_readWord_99 : Site RX3 mX3_readWord 99 102 mX3_needs (some 3) 2 := site_V (dk DX3_readWord 50 rfl) KX3 w_625 w_627 w_6 w_79 kX3_needs pmX3_needs (by decide)
set_option maxRecDepth 8000 in
theorem w_3 : Cond.selects "NextOneKnows$Post" ({ cls := "NextOneKnows$Post", name := "here", desc := "()I" } : Jvm.MethodName) ({ cls := "NextOneKnows$Post", name := "here", desc := "()I" } : Jvm.MethodName) ∈ TG := tg_p 3 rfl rfl
set_option maxRecDepth 8000 in
theorem w_613 : (Jvm.Cond.methodLink "NextOneKnows$Post" (78 : Nat) ({ cls := "NextOneKnows$Post", name := "here", desc := "()I" } : Jvm.MethodName)) ∈ TG := tg_3 60 rfl rfl
set_option maxRecDepth 8000 in
theorem w_615 : (Jvm.Cond.instanceMethod ({ cls := "NextOneKnows$Post", name := "here", desc := "()I" } : Jvm.MethodName)) ∈ TG := tg_3 62 rfl rfl
set_option maxRecDepth 8000 in
theorem sX3_readNumber_10 : Site RX3 mX3_readNumber 10 13 mX3_here (some 3) 1 := site_V (dk DX3_readNumber 8 rfl) KX3 w_613 w_615 w_3 w_79 kX3_here pmX3_here (by decide)
set_option maxRecDepth 8000 in
theorem sX3_readNumber_19 : Site RX3 mX3_readNumber 19 22 mX3_here (some 3) 1 := site_V (dk DX3_readNumber 12 rfl) KX3 w_613 w_615 w_3 w_79 kX3_here pmX3_here (by decide)
set_option maxRecDepth 8000 in
theorem sX3_readNumber_32 : Site RX3 mX3_readNumber 32 35 mX3_here (some 3) 1 := site_V (dk DX3_readNumber 19 rfl) KX3 w_613 w_615 w_3 w_79 kX3_here pmX3_here (by decide)
set_option maxRecDepth 8000 in
theorem sX3_readEither_15 : Site RX3 mX3_readEither 15 18 mX3_takes (some 3) 2 := site_V (dk DX3_readEither 9 rfl) KX3 w_609 w_611 w_2 w_79 kX3_takes pmX3_takes (by decide)
set_option maxRecDepth 8000 in
theorem w_10 : Cond.selects "NextOneKnows$Post" ({ cls := "NextOneKnows$Post", name := "readPart", desc := "(I)V" } : Jvm.MethodName) ({ cls := "NextOneKnows$Post", name := "readPart", desc := "(I)V" } : Jvm.MethodName) ∈ TG := tg_p 10 rfl rfl
set_option maxRecDepth 8000 in
theorem w_641 : (Jvm.Cond.methodLink "NextOneKnows$Post" (81 : Nat) ({ cls := "NextOneKnows$Post", name := "readPart", desc := "(I)V" } : Jvm.MethodName)) ∈ TG := tg_3 88 rfl rfl
set_option maxRecDepth 8000 in
theorem w_643 : (Jvm.Cond.instanceMethod ({ cls := "NextOneKnows$Post", name := "readPart", desc := "(I)V" } : Jvm.MethodName)) ∈ TG := tg_3 90 rfl rfl
set_option maxRecDepth 8000 in
theorem sX3_readEither_23 : Site RX3 mX3_readEither 23 26 mX3_readPart (some 3) 2 := site_V (dk DX3_readEither 13 rfl) KX3 w_641 w_643 w_10 w_79 kX3_readPart pmX3_readPart (by decide)
set_option maxRecDepth 8000 in
theorem sX3_readEither_37 : Site RX3 mX3_readEither 37 40 mX3_takes (some 3) 2 := site_V (dk DX3_readEither 21 rfl) KX3 w_609 w_611 w_2 w_79 kX3_takes pmX3_takes (by decide)
set_option maxRecDepth 8000 in
theorem sX3_readEither_45 : Site RX3 mX3_readEither 45 48 mX3_readPart (some 3) 2 := site_V (dk DX3_readEither 25 rfl) KX3 w_641 w_643 w_10 w_79 kX3_readPart pmX3_readPart (by decide)
set_option maxRecDepth 8000 in
theorem w_11 : Cond.selects "NextOneKnows$Post" ({ cls := "NextOneKnows$Post", name := "keep", desc := "(I)V" } : Jvm.MethodName) ({ cls := "NextOneKnows$Post", name := "keep", desc := "(I)V" } : Jvm.MethodName) ∈ TG := tg_p 11 rfl rfl
set_option maxRecDepth 8000 in
theorem w_645 : (Jvm.Cond.methodLink "NextOneKnows$Post" (84 : Nat) ({ cls := "NextOneKnows$Post", name := "keep", desc := "(I)V" } : Jvm.MethodName)) ∈ TG := tg_3 92 rfl rfl
set_option maxRecDepth 8000 in
theorem w_647 : (Jvm.Cond.instanceMethod ({ cls := "NextOneKnows$Post", name := "keep", desc := "(I)V" } : Jvm.MethodName)) ∈ TG := tg_3 94 rfl rfl
set_option maxRecDepth 8000 in
theorem sX3_readEither_51 : Site RX3 mX3_readEither 51 54 mX3_keep (some 3) 2 := site_V (dk DX3_readEither 28 rfl) KX3 w_645 w_647 w_11 w_79 kX3_keep pmX3_keep (by decide)
set_option maxRecDepth 8000 in
theorem sX3_readEither_67 : Site RX3 mX3_readEither 67 70 mX3_keep (some 3) 2 := site_V (dk DX3_readEither 35 rfl) KX3 w_645 w_647 w_11 w_79 kX3_keep pmX3_keep (by decide)
set_option maxRecDepth 8000 in
theorem sX3_readPart_8 : Site RX3 mX3_readPart 8 11 mX3_takes (some 3) 2 := site_V (dk DX3_readPart 5 rfl) KX3 w_609 w_611 w_2 w_79 kX3_takes pmX3_takes (by decide)
set_option maxRecDepth 8000 in
theorem sX3_readPart_18 : Site RX3 mX3_readPart 18 21 mX3_readPart (some 3) 2 := site_V (dk DX3_readPart 11 rfl) KX3 w_641 w_643 w_10 w_79 kX3_readPart pmX3_readPart (by decide)
set_option maxRecDepth 8000 in
theorem sX3_readPart_24 : Site RX3 mX3_readPart 24 27 mX3_keep (some 3) 2 := site_V (dk DX3_readPart 14 rfl) KX3 w_645 w_647 w_11 w_79 kX3_keep pmX3_keep (by decide)
set_option maxRecDepth 8000 in
theorem sX3_readPart_38 : Site RX3 mX3_readPart 38 41 mX3_takes (some 3) 2 := site_V (dk DX3_readPart 21 rfl) KX3 w_609 w_611 w_2 w_79 kX3_takes pmX3_takes (by decide)
set_option maxRecDepth 8000 in
theorem sX3_readPart_48 : Site RX3 mX3_readPart 48 51 mX3_readEither (some 3) 2 := site_V (dk DX3_readPart 27 rfl) KX3 w_637 w_639 w_9 w_79 kX3_readEither pmX3_readEither (by decide)
set_option maxRecDepth 8000 in
theorem sX3_readPart_54 : Site RX3 mX3_readPart 54 57 mX3_needs (some 3) 2 := site_V (dk DX3_readPart 30 rfl) KX3 w_625 w_627 w_6 w_79 kX3_needs pmX3_needs (by decide)
set_option maxRecDepth 8000 in
theorem w_12 : Cond.selects "NextOneKnows$Post" ({ cls := "NextOneKnows$Post", name := "readTest", desc := "()V" } : Jvm.MethodName) ({ cls := "NextOneKnows$Post", name := "readTest", desc := "()V" } : Jvm.MethodName) ∈ TG := tg_p 12 rfl rfl
set_option maxRecDepth 8000 in
theorem w_649 : (Jvm.Cond.methodLink "NextOneKnows$Post" (87 : Nat) ({ cls := "NextOneKnows$Post", name := "readTest", desc := "()V" } : Jvm.MethodName)) ∈ TG := tg_3 96 rfl rfl
set_option maxRecDepth 8000 in
theorem w_651 : (Jvm.Cond.instanceMethod ({ cls := "NextOneKnows$Post", name := "readTest", desc := "()V" } : Jvm.MethodName)) ∈ TG := tg_3 98 rfl rfl
set_option maxRecDepth 8000 in
theorem sX3_readPart_61 : Site RX3 mX3_readPart 61 64 mX3_readTest (some 3) 1 := site_V (dk DX3_readPart 33 rfl) KX3 w_649 w_651 w_12 w_79 kX3_readTest pmX3_readTest (by decide)
set_option maxRecDepth 8000 in
theorem sX3_readTest_1 : Site RX3 mX3_readTest 1 4 mX3_here (some 3) 1 := site_V (dk DX3_readTest_0 1 rfl) KX3 w_613 w_615 w_3 w_79 kX3_here pmX3_here (by decide)
set_option maxRecDepth 8000 in
theorem w_7 : Cond.selects "NextOneKnows$Post" ({ cls := "NextOneKnows$Post", name := "takeIf", desc := "(Z)V" } : Jvm.MethodName) ({ cls := "NextOneKnows$Post", name := "takeIf", desc := "(Z)V" } : Jvm.MethodName) ∈ TG := tg_p 7 rfl rfl
set_option maxRecDepth 8000 in
theorem w_629 : (Jvm.Cond.methodLink "NextOneKnows$Post" (90 : Nat) ({ cls := "NextOneKnows$Post", name := "takeIf", desc := "(Z)V" } : Jvm.MethodName)) ∈ TG := tg_3 76 rfl rfl
set_option maxRecDepth 8000 in
theorem w_631 : (Jvm.Cond.instanceMethod ({ cls := "NextOneKnows$Post", name := "takeIf", desc := "(Z)V" } : Jvm.MethodName)) ∈ TG := tg_3 78 rfl rfl
set_option maxRecDepth 8000 in
theorem sX3_readTest_55 : Site RX3 mX3_readTest 55 58 mX3_takeIf (some 3) 2 := site_V (dk DX3_readTest_0 30 rfl) KX3 w_629 w_631 w_7 w_79 kX3_takeIf pmX3_takeIf (by decide)
set_option maxRecDepth 8000 in
theorem sX3_readTest_59 : Site RX3 mX3_readTest 59 62 mX3_here (some 3) 1 := site_V (dk DX3_readTest_0 32 rfl) KX3 w_613 w_615 w_3 w_79 kX3_here pmX3_here (by decide)
set_option maxRecDepth 8000 in
theorem sX3_readTest_87 : Site RX3 mX3_readTest 87 90 mX3_takeIf (some 3) 2 := site_V (dk DX3_readTest_0 47 rfl) KX3 w_629 w_631 w_7 w_79 kX3_takeIf pmX3_takeIf (by decide)
set_option maxRecDepth 8000 in
theorem sX3_readTest_98 : Site RX3 mX3_readTest 98 101 mX3_readNumber (some 3) 1 := site_V (dk DX3_readTest_0 55 rfl) KX3 w_633 w_635 w_8 w_79 kX3_readNumber pmX3_readNumber (by decide)
set_option maxRecDepth 8000 in
theorem sX3_readTest_105 : Site RX3 mX3_readTest 105 108 mX3_keep (some 3) 2 := site_V (dk DX3_readTest_0 59 rfl) KX3 w_645 w_647 w_11 w_79 kX3_keep pmX3_keep (by decide)
set_option maxRecDepth 8000 in
theorem sX3_takes_1 : Site RX3 mX3_takes 1 4 mX3_here (some 3) 1 := site_V (dk DX3_takes 1 rfl) KX3 w_613 w_615 w_3 w_79 kX3_here pmX3_here (by decide)
set_option maxRecDepth 8000 in
theorem sX3_needs_2 : Site RX3 mX3_needs 2 5 mX3_here (some 3) 1 := site_V (dk DX3_needs 2 rfl) KX3 w_613 w_615 w_3 w_79 kX3_here pmX3_here (by decide)
set_option maxRecDepth 8000 in
theorem sX3_needs_14 : Site RX3 mX3_needs 14 17 mX3_takeIf (some 3) 2 := site_V (dk DX3_needs 8 rfl) KX3 w_629 w_631 w_7 w_79 kX3_takeIf pmX3_takeIf (by decide)
set_option maxRecDepth 8000 in
theorem w_1 : Cond.selects "NextOneKnows$Post" ({ cls := "NextOneKnows$Post", name := "holds", desc := "(ILNextOneKnows$Doing;II)Z" } : Jvm.MethodName) ({ cls := "NextOneKnows$Post", name := "holds", desc := "(ILNextOneKnows$Doing;II)Z" } : Jvm.MethodName) ∈ TG := tg_p 1 rfl rfl
set_option maxRecDepth 8000 in
theorem w_535 : (Jvm.Cond.methodLink "NextOneKnows$Post" (94 : Nat) ({ cls := "NextOneKnows$Post", name := "holds", desc := "(ILNextOneKnows$Doing;II)Z" } : Jvm.MethodName)) ∈ TG := tg_2 222 rfl rfl
set_option maxRecDepth 8000 in
theorem w_537 : (Jvm.Cond.instanceMethod ({ cls := "NextOneKnows$Post", name := "holds", desc := "(ILNextOneKnows$Doing;II)Z" } : Jvm.MethodName)) ∈ TG := tg_2 224 rfl rfl
set_option maxRecDepth 8000 in
theorem sX3_together_33 : Site RX3 mX3_together 33 36 mX3_holds (some 3) 5 := site_V (dk DX3_together 19 rfl) KX3 w_535 w_537 w_1 w_79 kX3_holds pmX3_holds (by decide)
set_option maxRecDepth 8000 in
theorem w_539 : (Jvm.Cond.methodLink "NextOneKnows$Post" (98 : Nat) ({ cls := "NextOneKnows$Post", name := "passes", desc := "(ILNextOneKnows$Doing;II)Z" } : Jvm.MethodName)) ∈ TG := tg_2 226 rfl rfl
set_option maxRecDepth 8000 in
theorem w_540 : (Jvm.Cond.static ({ cls := "NextOneKnows$Post", name := "passes", desc := "(ILNextOneKnows$Doing;II)Z" } : Jvm.MethodName)) ∈ TG := tg_2 227 rfl rfl
set_option maxRecDepth 8000 in
theorem sX3_holds_110 : Site RX3 mX3_holds 110 113 mX3_passes none 4 := site_S (dk DX3_holds_1 3 rfl) w_539 w_540 w_79 kX3_passes pmX3_passes (by decide)
set_option maxRecDepth 8000 in
theorem w_542 : (Jvm.Cond.methodLink "NextOneKnows$Post" (106 : Nat) ({ cls := "NextOneKnows$Doing", name := "kind", desc := "()I" } : Jvm.MethodName)) ∈ TG := tg_2 229 rfl rfl
set_option maxRecDepth 8000 in
theorem w_496 : (Jvm.Cond.sameMethod "NextOneKnows$Doing" "NextOneKnows$Doing" "kind" "()I") ∈ TG := tg_2 183 rfl rfl
set_option maxRecDepth 8000 in
theorem w_494 : (Jvm.Cond.instanceMethod ({ cls := "NextOneKnows$Doing", name := "kind", desc := "()I" } : Jvm.MethodName)) ∈ TG := tg_2 181 rfl rfl
set_option maxRecDepth 8000 in
theorem w_495 : (Jvm.Cond.selects "NextOneKnows$Doing" ({ cls := "NextOneKnows$Doing", name := "kind", desc := "()I" } : Jvm.MethodName) ({ cls := "NextOneKnows$Doing", name := "kind", desc := "()I" } : Jvm.MethodName)) ∈ TG := tg_2 182 rfl rfl
set_option maxRecDepth 8000 in
theorem sX3_passes_78_c1 : Site RX3 mX3_passes 78 81 mX1_kind (some 1) 1 := site_U (owner := RX1) (x := ⟨RX1, "kind", "()I"⟩) (dk DX3_passes_0 13 rfl) KX1 w_542 w_496 w_494 (kX1_kind) w_494 w_495 w_81 kX1_kind pmX1_kind (by decide)
set_option maxRecDepth 8000 in
theorem w_510 : (Jvm.Cond.instanceMethod ({ cls := "NextOneKnows$Written", name := "kind", desc := "()I" } : Jvm.MethodName)) ∈ TG := tg_2 197 rfl rfl
set_option maxRecDepth 8000 in
theorem w_509 : (Jvm.Cond.selects "NextOneKnows$Written" ({ cls := "NextOneKnows$Doing", name := "kind", desc := "()I" } : Jvm.MethodName) ({ cls := "NextOneKnows$Written", name := "kind", desc := "()I" } : Jvm.MethodName)) ∈ TG := tg_2 196 rfl rfl
set_option maxRecDepth 8000 in
theorem sX3_passes_78_c9 : Site RX3 mX3_passes 78 81 mX9_kind (some 9) 1 := site_U (owner := RX1) (x := ⟨RX1, "kind", "()I"⟩) (dk DX3_passes_0 13 rfl) KX9 w_542 w_496 w_494 (kX1_kind) w_510 w_509 w_82 kX9_kind pmX1_kind (by decide)
set_option maxRecDepth 8000 in
theorem w_507 : (Jvm.Cond.instanceMethod ({ cls := "NextOneKnows$Why", name := "kind", desc := "()I" } : Jvm.MethodName)) ∈ TG := tg_2 194 rfl rfl
set_option maxRecDepth 8000 in
theorem w_506 : (Jvm.Cond.selects "NextOneKnows$Why" ({ cls := "NextOneKnows$Doing", name := "kind", desc := "()I" } : Jvm.MethodName) ({ cls := "NextOneKnows$Why", name := "kind", desc := "()I" } : Jvm.MethodName)) ∈ TG := tg_2 193 rfl rfl
set_option maxRecDepth 8000 in
theorem sX3_passes_78_c8 : Site RX3 mX3_passes 78 81 mX8_kind (some 8) 1 := site_U (owner := RX1) (x := ⟨RX1, "kind", "()I"⟩) (dk DX3_passes_0 13 rfl) KX8 w_542 w_496 w_494 (kX1_kind) w_507 w_506 w_86 kX8_kind pmX1_kind (by decide)
set_option maxRecDepth 8000 in
theorem w_498 : (Jvm.Cond.instanceMethod ({ cls := "NextOneKnows$Plain", name := "kind", desc := "()I" } : Jvm.MethodName)) ∈ TG := tg_2 185 rfl rfl
set_option maxRecDepth 8000 in
theorem w_497 : (Jvm.Cond.selects "NextOneKnows$Plain" ({ cls := "NextOneKnows$Doing", name := "kind", desc := "()I" } : Jvm.MethodName) ({ cls := "NextOneKnows$Plain", name := "kind", desc := "()I" } : Jvm.MethodName)) ∈ TG := tg_2 184 rfl rfl
set_option maxRecDepth 8000 in
theorem sX3_passes_78_c2 : Site RX3 mX3_passes 78 81 mX2_kind (some 2) 1 := site_U (owner := RX1) (x := ⟨RX1, "kind", "()I"⟩) (dk DX3_passes_0 13 rfl) KX2 w_542 w_496 w_494 (kX1_kind) w_498 w_497 w_84 kX2_kind pmX1_kind (by decide)
set_option maxRecDepth 8000 in
theorem w_504 : (Jvm.Cond.instanceMethod ({ cls := "NextOneKnows$Tied", name := "kind", desc := "()I" } : Jvm.MethodName)) ∈ TG := tg_2 191 rfl rfl
set_option maxRecDepth 8000 in
theorem w_503 : (Jvm.Cond.selects "NextOneKnows$Tied" ({ cls := "NextOneKnows$Doing", name := "kind", desc := "()I" } : Jvm.MethodName) ({ cls := "NextOneKnows$Tied", name := "kind", desc := "()I" } : Jvm.MethodName)) ∈ TG := tg_2 190 rfl rfl
set_option maxRecDepth 8000 in
theorem sX3_passes_78_c6 : Site RX3 mX3_passes 78 81 mX6_kind (some 6) 1 := site_U (owner := RX1) (x := ⟨RX1, "kind", "()I"⟩) (dk DX3_passes_0 13 rfl) KX6 w_542 w_496 w_494 (kX1_kind) w_504 w_503 w_87 kX6_kind pmX1_kind (by decide)
set_option maxRecDepth 8000 in
theorem w_501 : (Jvm.Cond.instanceMethod ({ cls := "NextOneKnows$Rare", name := "kind", desc := "()I" } : Jvm.MethodName)) ∈ TG := tg_2 188 rfl rfl
set_option maxRecDepth 8000 in
theorem w_500 : (Jvm.Cond.selects "NextOneKnows$Rare" ({ cls := "NextOneKnows$Doing", name := "kind", desc := "()I" } : Jvm.MethodName) ({ cls := "NextOneKnows$Rare", name := "kind", desc := "()I" } : Jvm.MethodName)) ∈ TG := tg_2 187 rfl rfl
set_option maxRecDepth 8000 in
theorem sX3_passes_78_c4 : Site RX3 mX3_passes 78 81 mX4_kind (some 4) 1 := site_U (owner := RX1) (x := ⟨RX1, "kind", "()I"⟩) (dk DX3_passes_0 13 rfl) KX4 w_542 w_496 w_494 (kX1_kind) w_501 w_500 w_85 kX4_kind pmX1_kind (by decide)
set_option maxRecDepth 8000 in
theorem w_513 : (Jvm.Cond.instanceMethod ({ cls := "NextOneKnows$Wrong", name := "kind", desc := "()I" } : Jvm.MethodName)) ∈ TG := tg_2 200 rfl rfl
set_option maxRecDepth 8000 in
theorem w_512 : (Jvm.Cond.selects "NextOneKnows$Wrong" ({ cls := "NextOneKnows$Doing", name := "kind", desc := "()I" } : Jvm.MethodName) ({ cls := "NextOneKnows$Wrong", name := "kind", desc := "()I" } : Jvm.MethodName)) ∈ TG := tg_2 199 rfl rfl
set_option maxRecDepth 8000 in
theorem sX3_passes_78_c10 : Site RX3 mX3_passes 78 81 mX10_kind (some 10) 1 := site_U (owner := RX1) (x := ⟨RX1, "kind", "()I"⟩) (dk DX3_passes_0 13 rfl) KX10 w_542 w_496 w_494 (kX1_kind) w_513 w_512 w_88 kX10_kind pmX1_kind (by decide)
set_option maxRecDepth 8000 in
theorem w_424 : (Jvm.Cond.methodLink "NextOneKnows$Rare" (3 : Nat) ({ cls := "NextOneKnows$Doing", name := "<init>", desc := "(IIIIII)V" } : Jvm.MethodName)) ∈ TG := tg_2 111 rfl rfl
set_option maxRecDepth 8000 in
theorem sX4_init_10 {ci : Nat} : Site RX4 mX4_init 10 13 mX1_init (some ci) 7 := site_I (dk DX4_init 7 rfl) rfl rfl w_424 w_354 w_81 kX1_init pmX1_init (by decide)
set_option maxRecDepth 8000 in
theorem w_553 : (Jvm.Cond.methodLink "NextOneKnows$Rare" (9 : Nat) ({ cls := "NextOneKnows$Doing", name := "saidOver", desc := "([I[I)I" } : Jvm.MethodName)) ∈ TG := tg_3 0 rfl rfl
set_option maxRecDepth 8000 in
theorem w_431 : (Jvm.Cond.superclass "NextOneKnows$Rare" "NextOneKnows$Doing") ∈ TG := tg_2 118 rfl rfl
set_option maxRecDepth 8000 in
theorem sX4_saidOver_13_c4 : Site RX4 mX4_saidOver 13 16 mX1_saidOver (some 4) 3 := site_SU (x := ⟨RX1, "saidOver", "([I[I)I"⟩) (dk DX4_saidOver 9 rfl) KX4 ⟨rfl, rfl⟩ w_553 w_546 w_431 (Or.inl rfl) w_544 w_81 kX1_saidOver (by decide +kernel) pmX1_saidOver.2.2 (by decide)
set_option maxRecDepth 8000 in
theorem sX4_saidOver_13_c10 : Site RX4 mX4_saidOver 13 16 mX1_saidOver (some 10) 3 := site_SU (x := ⟨RX1, "saidOver", "([I[I)I"⟩) (dk DX4_saidOver 9 rfl) KX10 ⟨rfl, rfl⟩ w_553 w_546 w_431 (Or.inl rfl) w_544 w_81 kX1_saidOver (by decide +kernel) pmX1_saidOver.2.2 (by decide)
set_option maxRecDepth 8000 in
theorem w_963 : (Jvm.Cond.methodLink "NextOneKnows$Rare" (19 : Nat) ({ cls := "NextOneKnows$Trace", name := "begins", desc := "(I)V" } : Jvm.MethodName)) ∈ TG := tg_4 170 rfl rfl
set_option maxRecDepth 8000 in
theorem sX4_tells_3 : Site RX4 mX4_tells 3 6 mX7_begins (some 7) 2 := site_V (dk DX4_tells 2 rfl) KX7 w_963 w_909 w_910 w_77 kX7_begins pmX7_begins (by decide)
set_option maxRecDepth 8000 in
theorem w_964 : (Jvm.Cond.methodLink "NextOneKnows$Rare" (25 : Nat) ({ cls := "NextOneKnows$Doing", name := "tells", desc := "(ILNextOneKnows$Trace;)I" } : Jvm.MethodName)) ∈ TG := tg_4 171 rfl rfl
set_option maxRecDepth 8000 in
theorem w_958 : (Jvm.Cond.sameMethod "NextOneKnows$Doing" "NextOneKnows$Doing" "tells" "(ILNextOneKnows$Trace;)I") ∈ TG := tg_4 165 rfl rfl
set_option maxRecDepth 8000 in
theorem w_956 : (Jvm.Cond.instanceMethod ({ cls := "NextOneKnows$Doing", name := "tells", desc := "(ILNextOneKnows$Trace;)I" } : Jvm.MethodName)) ∈ TG := tg_4 163 rfl rfl
set_option maxRecDepth 8000 in
theorem sX4_tells_9_c4 : Site RX4 mX4_tells 9 12 mX1_tells (some 4) 3 := site_SU (x := ⟨RX1, "tells", "(ILNextOneKnows$Trace;)I"⟩) (dk DX4_tells 6 rfl) KX4 ⟨rfl, rfl⟩ w_964 w_958 w_431 (Or.inl rfl) w_956 w_81 kX1_tells (by decide +kernel) pmX1_tells.2.2 (by decide)
set_option maxRecDepth 8000 in
theorem sX4_tells_9_c10 : Site RX4 mX4_tells 9 12 mX1_tells (some 10) 3 := site_SU (x := ⟨RX1, "tells", "(ILNextOneKnows$Trace;)I"⟩) (dk DX4_tells 6 rfl) KX10 ⟨rfl, rfl⟩ w_964 w_958 w_431 (Or.inl rfl) w_956 w_81 kX1_tells (by decide +kernel) pmX1_tells.2.2 (by decide)
set_option maxRecDepth 8000 in
theorem w_965 : (Jvm.Cond.methodLink "NextOneKnows$Rare" (29 : Nat) ({ cls := "NextOneKnows$Rare", name := "holds", desc := "(ILNextOneKnows$Trace;)I" } : Jvm.MethodName)) ∈ TG := tg_4 172 rfl rfl
set_option maxRecDepth 8000 in
theorem w_951 : (Jvm.Cond.sameMethod "NextOneKnows$Rare" "NextOneKnows$Doing" "holds" "(ILNextOneKnows$Trace;)I") ∈ TG := tg_4 158 rfl rfl
set_option maxRecDepth 8000 in
theorem w_966 : (Jvm.Cond.selects "NextOneKnows$Rare" ({ cls := "NextOneKnows$Rare", name := "holds", desc := "(ILNextOneKnows$Trace;)I" } : Jvm.MethodName) ({ cls := "NextOneKnows$Doing", name := "holds", desc := "(ILNextOneKnows$Trace;)I" } : Jvm.MethodName)) ∈ TG := tg_4 173 rfl rfl
set_option maxRecDepth 8000 in
theorem sX4_tells_15_c4 : Site RX4 mX4_tells 15 18 mX1_holds (some 4) 3 := site_U (owner := RX1) (x := ⟨RX4, "holds", "(ILNextOneKnows$Trace;)I"⟩) (dk DX4_tells 10 rfl) KX4 w_965 w_951 w_932 (kX1_holds) w_932 w_966 w_81 kX1_holds pmX1_holds (by decide)
set_option maxRecDepth 8000 in
theorem w_967 : (Jvm.Cond.selects "NextOneKnows$Wrong" ({ cls := "NextOneKnows$Rare", name := "holds", desc := "(ILNextOneKnows$Trace;)I" } : Jvm.MethodName) ({ cls := "NextOneKnows$Wrong", name := "holds", desc := "(ILNextOneKnows$Trace;)I" } : Jvm.MethodName)) ∈ TG := tg_4 174 rfl rfl
set_option maxRecDepth 8000 in
theorem sX4_tells_15_c10 : Site RX4 mX4_tells 15 18 mX10_holds (some 10) 3 := site_U (owner := RX1) (x := ⟨RX4, "holds", "(ILNextOneKnows$Trace;)I"⟩) (dk DX4_tells 10 rfl) KX10 w_965 w_951 w_932 (kX1_holds) w_948 w_967 w_88 kX10_holds pmX1_holds (by decide)
set_option maxRecDepth 8000 in
theorem w_842 : (Jvm.Cond.methodLink "NextOneKnows$State" (65 : Nat) ({ cls := "java/lang/Math", name := "max", desc := "(II)I" } : Jvm.MethodName)) ∈ TG := tg_4 49 rfl rfl
set_option maxRecDepth 8000 in
theorem sX5_weeksToRows_26 : Site RX5 mX5_weeksToRows 26 29 mJ9_max_7cf53 none 2 := site_S (dk DX5_weeksToRows 18 rfl) w_842 w_358 w_83 kJ9_max_7cf53 pmJ9_max_7cf53 (by decide)
set_option maxRecDepth 8000 in
theorem w_859 : (Jvm.Cond.methodLink "NextOneKnows$State" (71 : Nat) ({ cls := "java/lang/Math", name := "min", desc := "(II)I" } : Jvm.MethodName)) ∈ TG := tg_4 66 rfl rfl
set_option maxRecDepth 8000 in
theorem sX5_weeksToRows_39 : Site RX5 mX5_weeksToRows 39 42 mJ9_min_7cf53 none 2 := site_S (dk DX5_weeksToRows 24 rfl) w_859 w_607 w_83 kJ9_min_7cf53 pmJ9_min_7cf53 (by decide)
set_option maxRecDepth 8000 in
theorem w_533 : (Jvm.Cond.selects "NextOneKnows$Post" ({ cls := "NextOneKnows$Post", name := "together", desc := "(ILNextOneKnows$Doing;II)I" } : Jvm.MethodName) ({ cls := "NextOneKnows$Post", name := "together", desc := "(ILNextOneKnows$Doing;II)I" } : Jvm.MethodName)) ∈ TG := tg_2 220 rfl rfl
set_option maxRecDepth 8000 in
theorem w_531 : (Jvm.Cond.methodLink "NextOneKnows$State" (76 : Nat) ({ cls := "NextOneKnows$Post", name := "together", desc := "(ILNextOneKnows$Doing;II)I" } : Jvm.MethodName)) ∈ TG := tg_2 218 rfl rfl
set_option maxRecDepth 8000 in
theorem w_532 : (Jvm.Cond.instanceMethod ({ cls := "NextOneKnows$Post", name := "together", desc := "(ILNextOneKnows$Doing;II)I" } : Jvm.MethodName)) ∈ TG := tg_2 219 rfl rfl
set_option maxRecDepth 8000 in
theorem sX5_saidBy_20 : Site RX5 mX5_saidBy 20 23 mX3_together (some 3) 5 := site_V (dk DX5_saidBy 11 rfl) KX3 w_531 w_532 w_533 w_79 kX3_together pmX3_together (by decide)
set_option maxRecDepth 8000 in
theorem sX5_dearIn_28 : Site RX5 mX5_dearIn 28 31 mX3_together (some 3) 5 := site_V (dk DX5_dearIn 15 rfl) KX3 w_531 w_532 w_533 w_79 kX3_together pmX3_together (by decide)
set_option maxRecDepth 8000 in
theorem w_704 : (Jvm.Cond.methodLink "NextOneKnows$State" (89 : Nat) ({ cls := "NextOneKnows$State", name := "find", desc := "(I)LNextOneKnows$Doing;" } : Jvm.MethodName)) ∈ TG := tg_3 151 rfl rfl
set_option maxRecDepth 8000 in
theorem sX5_coming_14 : Site RX5 mX5_coming 14 17 mX5_find (some 5) 2 := site_V (dk DX5_coming 10 rfl) KX5 w_704 w_490 w_491 w_75 kX5_find pmX5_find (by decide)
set_option maxRecDepth 8000 in
theorem w_705 : (Jvm.Cond.methodLink "NextOneKnows$State" (93 : Nat) ({ cls := "NextOneKnows$Doing", name := "weeksUntil", desc := "(I)I" } : Jvm.MethodName)) ∈ TG := tg_3 152 rfl rfl
set_option maxRecDepth 8000 in
theorem w_708 : (Jvm.Cond.sameMethod "NextOneKnows$Doing" "NextOneKnows$Doing" "weeksUntil" "(I)I") ∈ TG := tg_3 155 rfl rfl
set_option maxRecDepth 8000 in
theorem w_706 : (Jvm.Cond.instanceMethod ({ cls := "NextOneKnows$Doing", name := "weeksUntil", desc := "(I)I" } : Jvm.MethodName)) ∈ TG := tg_3 153 rfl rfl
set_option maxRecDepth 8000 in
theorem w_707 : (Jvm.Cond.selects "NextOneKnows$Doing" ({ cls := "NextOneKnows$Doing", name := "weeksUntil", desc := "(I)I" } : Jvm.MethodName) ({ cls := "NextOneKnows$Doing", name := "weeksUntil", desc := "(I)I" } : Jvm.MethodName)) ∈ TG := tg_3 154 rfl rfl
set_option maxRecDepth 8000 in
theorem sX5_coming_27_c1 : Site RX5 mX5_coming 27 30 mX1_weeksUntil (some 1) 2 := site_U (owner := RX1) (x := ⟨RX1, "weeksUntil", "(I)I"⟩) (dk DX5_coming 16 rfl) KX1 w_705 w_708 w_706 (kX1_weeksUntil) w_706 w_707 w_81 kX1_weeksUntil pmX1_weeksUntil (by decide)
set_option maxRecDepth 8000 in
theorem w_713 : (Jvm.Cond.selects "NextOneKnows$Written" ({ cls := "NextOneKnows$Doing", name := "weeksUntil", desc := "(I)I" } : Jvm.MethodName) ({ cls := "NextOneKnows$Doing", name := "weeksUntil", desc := "(I)I" } : Jvm.MethodName)) ∈ TG := tg_3 160 rfl rfl
set_option maxRecDepth 8000 in
theorem sX5_coming_27_c9 : Site RX5 mX5_coming 27 30 mX1_weeksUntil (some 9) 2 := site_U (owner := RX1) (x := ⟨RX1, "weeksUntil", "(I)I"⟩) (dk DX5_coming 16 rfl) KX9 w_705 w_708 w_706 (kX1_weeksUntil) w_706 w_713 w_81 kX1_weeksUntil pmX1_weeksUntil (by decide)
set_option maxRecDepth 8000 in
theorem w_712 : (Jvm.Cond.selects "NextOneKnows$Why" ({ cls := "NextOneKnows$Doing", name := "weeksUntil", desc := "(I)I" } : Jvm.MethodName) ({ cls := "NextOneKnows$Doing", name := "weeksUntil", desc := "(I)I" } : Jvm.MethodName)) ∈ TG := tg_3 159 rfl rfl
set_option maxRecDepth 8000 in
theorem sX5_coming_27_c8 : Site RX5 mX5_coming 27 30 mX1_weeksUntil (some 8) 2 := site_U (owner := RX1) (x := ⟨RX1, "weeksUntil", "(I)I"⟩) (dk DX5_coming 16 rfl) KX8 w_705 w_708 w_706 (kX1_weeksUntil) w_706 w_712 w_81 kX1_weeksUntil pmX1_weeksUntil (by decide)
set_option maxRecDepth 8000 in
theorem w_709 : (Jvm.Cond.selects "NextOneKnows$Plain" ({ cls := "NextOneKnows$Doing", name := "weeksUntil", desc := "(I)I" } : Jvm.MethodName) ({ cls := "NextOneKnows$Doing", name := "weeksUntil", desc := "(I)I" } : Jvm.MethodName)) ∈ TG := tg_3 156 rfl rfl
set_option maxRecDepth 8000 in
theorem sX5_coming_27_c2 : Site RX5 mX5_coming 27 30 mX1_weeksUntil (some 2) 2 := site_U (owner := RX1) (x := ⟨RX1, "weeksUntil", "(I)I"⟩) (dk DX5_coming 16 rfl) KX2 w_705 w_708 w_706 (kX1_weeksUntil) w_706 w_709 w_81 kX1_weeksUntil pmX1_weeksUntil (by decide)
set_option maxRecDepth 8000 in
theorem w_711 : (Jvm.Cond.selects "NextOneKnows$Tied" ({ cls := "NextOneKnows$Doing", name := "weeksUntil", desc := "(I)I" } : Jvm.MethodName) ({ cls := "NextOneKnows$Doing", name := "weeksUntil", desc := "(I)I" } : Jvm.MethodName)) ∈ TG := tg_3 158 rfl rfl
set_option maxRecDepth 8000 in
theorem sX5_coming_27_c6 : Site RX5 mX5_coming 27 30 mX1_weeksUntil (some 6) 2 := site_U (owner := RX1) (x := ⟨RX1, "weeksUntil", "(I)I"⟩) (dk DX5_coming 16 rfl) KX6 w_705 w_708 w_706 (kX1_weeksUntil) w_706 w_711 w_81 kX1_weeksUntil pmX1_weeksUntil (by decide)
set_option maxRecDepth 8000 in
theorem w_710 : (Jvm.Cond.selects "NextOneKnows$Rare" ({ cls := "NextOneKnows$Doing", name := "weeksUntil", desc := "(I)I" } : Jvm.MethodName) ({ cls := "NextOneKnows$Doing", name := "weeksUntil", desc := "(I)I" } : Jvm.MethodName)) ∈ TG := tg_3 157 rfl rfl
set_option maxRecDepth 8000 in
theorem sX5_coming_27_c4 : Site RX5 mX5_coming 27 30 mX1_weeksUntil (some 4) 2 := site_U (owner := RX1) (x := ⟨RX1, "weeksUntil", "(I)I"⟩) (dk DX5_coming 16 rfl) KX4 w_705 w_708 w_706 (kX1_weeksUntil) w_706 w_710 w_81 kX1_weeksUntil pmX1_weeksUntil (by decide)
set_option maxRecDepth 8000 in
theorem w_714 : (Jvm.Cond.selects "NextOneKnows$Wrong" ({ cls := "NextOneKnows$Doing", name := "weeksUntil", desc := "(I)I" } : Jvm.MethodName) ({ cls := "NextOneKnows$Doing", name := "weeksUntil", desc := "(I)I" } : Jvm.MethodName)) ∈ TG := tg_3 161 rfl rfl
set_option maxRecDepth 8000 in
theorem sX5_coming_27_c10 : Site RX5 mX5_coming 27 30 mX1_weeksUntil (some 10) 2 := site_U (owner := RX1) (x := ⟨RX1, "weeksUntil", "(I)I"⟩) (dk DX5_coming 16 rfl) KX10 w_705 w_708 w_706 (kX1_weeksUntil) w_706 w_714 w_81 kX1_weeksUntil pmX1_weeksUntil (by decide)
set_option maxRecDepth 8000 in
theorem sX5_longestWait_17 : Site RX5 mX5_longestWait 17 20 mX5_find (some 5) 2 := site_V (dk DX5_longestWait 10 rfl) KX5 w_704 w_490 w_491 w_75 kX5_find pmX5_find (by decide)
set_option maxRecDepth 8000 in
theorem sX5_longestWait_30 : Site RX5 mX5_longestWait 30 33 mX11_bit none 2 := site_SN (host := "NextOneKnows") (dk DX5_longestWait 16 rfl) (by decide +kernel) w_517 w_74 kX11_bit pmX11_bit (by decide)
set_option maxRecDepth 8000 in
theorem sX5_longestWait_40_c1 : Site RX5 mX5_longestWait 40 43 mX1_weeksUntil (some 1) 2 := site_U (owner := RX1) (x := ⟨RX1, "weeksUntil", "(I)I"⟩) (dk DX5_longestWait 21 rfl) KX1 w_705 w_708 w_706 (kX1_weeksUntil) w_706 w_707 w_81 kX1_weeksUntil pmX1_weeksUntil (by decide)
set_option maxRecDepth 8000 in
theorem sX5_longestWait_40_c9 : Site RX5 mX5_longestWait 40 43 mX1_weeksUntil (some 9) 2 := site_U (owner := RX1) (x := ⟨RX1, "weeksUntil", "(I)I"⟩) (dk DX5_longestWait 21 rfl) KX9 w_705 w_708 w_706 (kX1_weeksUntil) w_706 w_713 w_81 kX1_weeksUntil pmX1_weeksUntil (by decide)
set_option maxRecDepth 8000 in
theorem sX5_longestWait_40_c8 : Site RX5 mX5_longestWait 40 43 mX1_weeksUntil (some 8) 2 := site_U (owner := RX1) (x := ⟨RX1, "weeksUntil", "(I)I"⟩) (dk DX5_longestWait 21 rfl) KX8 w_705 w_708 w_706 (kX1_weeksUntil) w_706 w_712 w_81 kX1_weeksUntil pmX1_weeksUntil (by decide)
set_option maxRecDepth 8000 in
theorem sX5_longestWait_40_c2 : Site RX5 mX5_longestWait 40 43 mX1_weeksUntil (some 2) 2 := site_U (owner := RX1) (x := ⟨RX1, "weeksUntil", "(I)I"⟩) (dk DX5_longestWait 21 rfl) KX2 w_705 w_708 w_706 (kX1_weeksUntil) w_706 w_709 w_81 kX1_weeksUntil pmX1_weeksUntil (by decide)
set_option maxRecDepth 8000 in
theorem sX5_longestWait_40_c6 : Site RX5 mX5_longestWait 40 43 mX1_weeksUntil (some 6) 2 := site_U (owner := RX1) (x := ⟨RX1, "weeksUntil", "(I)I"⟩) (dk DX5_longestWait 21 rfl) KX6 w_705 w_708 w_706 (kX1_weeksUntil) w_706 w_711 w_81 kX1_weeksUntil pmX1_weeksUntil (by decide)
set_option maxRecDepth 8000 in
theorem sX5_longestWait_40_c4 : Site RX5 mX5_longestWait 40 43 mX1_weeksUntil (some 4) 2 := site_U (owner := RX1) (x := ⟨RX1, "weeksUntil", "(I)I"⟩) (dk DX5_longestWait 21 rfl) KX4 w_705 w_708 w_706 (kX1_weeksUntil) w_706 w_710 w_81 kX1_weeksUntil pmX1_weeksUntil (by decide)
set_option maxRecDepth 8000 in
theorem sX5_longestWait_40_c10 : Site RX5 mX5_longestWait 40 43 mX1_weeksUntil (some 10) 2 := site_U (owner := RX1) (x := ⟨RX1, "weeksUntil", "(I)I"⟩) (dk DX5_longestWait 21 rfl) KX10 w_705 w_708 w_706 (kX1_weeksUntil) w_706 w_714 w_81 kX1_weeksUntil pmX1_weeksUntil (by decide)
set_option maxRecDepth 8000 in
theorem sX5_longestWait_43 : Site RX5 mX5_longestWait 43 46 mJ9_max_7cf53 none 2 := site_S (dk DX5_longestWait 22 rfl) w_842 w_358 w_83 kJ9_max_7cf53 pmJ9_max_7cf53 (by decide)
set_option maxRecDepth 8000 in
theorem w_450 : (Jvm.Cond.methodLink "NextOneKnows$Tied" (3 : Nat) ({ cls := "NextOneKnows$Plain", name := "<init>", desc := "(IIIIII)V" } : Jvm.MethodName)) ∈ TG := tg_2 137 rfl rfl
set_option maxRecDepth 8000 in
theorem w_409 : (Jvm.Cond.instanceMethod ({ cls := "NextOneKnows$Plain", name := "<init>", desc := "(IIIIII)V" } : Jvm.MethodName)) ∈ TG := tg_2 96 rfl rfl
set_option maxRecDepth 8000 in
theorem sX6_init_10 {ci : Nat} : Site RX6 mX6_init 10 13 mX2_init (some ci) 7 := site_I (dk DX6_init 7 rfl) rfl rfl w_450 w_409 w_84 kX2_init pmX2_init (by decide)
set_option maxRecDepth 8000 in
theorem w_557 : (Jvm.Cond.methodLink "NextOneKnows$Tied" (9 : Nat) ({ cls := "NextOneKnows$Plain", name := "saidOver", desc := "([I[I)I" } : Jvm.MethodName)) ∈ TG := tg_3 4 rfl rfl
set_option maxRecDepth 8000 in
theorem w_1612 : (Jvm.Cond.sameMethod "NextOneKnows$Plain" "NextOneKnows$Plain" "saidOver" "([I[I)I") ∈ TG := tg_7 99 rfl rfl
set_option maxRecDepth 8000 in
theorem w_457 : (Jvm.Cond.superclass "NextOneKnows$Tied" "NextOneKnows$Plain") ∈ TG := tg_2 144 rfl rfl
set_option maxRecDepth 8000 in
theorem sX6_saidOver_3_c6 : Site RX6 mX6_saidOver 3 6 mX2_saidOver (some 6) 3 := site_SU (x := ⟨RX2, "saidOver", "([I[I)I"⟩) (dk DX6_saidOver 3 rfl) KX6 ⟨rfl, rfl⟩ w_557 w_1612 w_457 (Or.inl rfl) w_548 w_84 kX2_saidOver (by decide +kernel) pmX2_saidOver.2.2 (by decide)
set_option maxRecDepth 8000 in
theorem w_971 : (Jvm.Cond.methodLink "NextOneKnows$Tied" (19 : Nat) ({ cls := "NextOneKnows$Trace", name := "begins", desc := "(I)V" } : Jvm.MethodName)) ∈ TG := tg_4 178 rfl rfl
set_option maxRecDepth 8000 in
theorem sX6_tells_3 : Site RX6 mX6_tells 3 6 mX7_begins (some 7) 2 := site_V (dk DX6_tells 2 rfl) KX7 w_971 w_909 w_910 w_77 kX7_begins pmX7_begins (by decide)
set_option maxRecDepth 8000 in
theorem w_972 : (Jvm.Cond.methodLink "NextOneKnows$Tied" (28 : Nat) ({ cls := "NextOneKnows$Plain", name := "tells", desc := "(ILNextOneKnows$Trace;)I" } : Jvm.MethodName)) ∈ TG := tg_4 179 rfl rfl
set_option maxRecDepth 8000 in
theorem w_973 : (Jvm.Cond.sameMethod "NextOneKnows$Plain" "NextOneKnows$Doing" "tells" "(ILNextOneKnows$Trace;)I") ∈ TG := tg_4 180 rfl rfl
set_option maxRecDepth 8000 in
theorem sX6_tells_14_c6 : Site RX6 mX6_tells 14 17 mX1_tells (some 6) 3 := site_SU (x := ⟨RX2, "tells", "(ILNextOneKnows$Trace;)I"⟩) (dk DX6_tells 9 rfl) KX6 ⟨rfl, rfl⟩ w_972 w_973 w_457 (Or.inr w_418) w_956 w_81 kX1_tells (by decide +kernel) pmX1_tells.2.2 (by decide)
set_option maxRecDepth 8000 in
theorem w_437 : (Jvm.Cond.methodLink "NextOneKnows$Why" (3 : Nat) ({ cls := "NextOneKnows$Written", name := "<init>", desc := "(IIIIII)V" } : Jvm.MethodName)) ∈ TG := tg_2 124 rfl rfl
set_option maxRecDepth 8000 in
theorem w_351 : (Jvm.Cond.instanceMethod ({ cls := "NextOneKnows$Written", name := "<init>", desc := "(IIIIII)V" } : Jvm.MethodName)) ∈ TG := tg_2 38 rfl rfl
set_option maxRecDepth 8000 in
theorem sX8_init_10 {ci : Nat} : Site RX8 mX8_init 10 13 mX9_init (some ci) 7 := site_I (dk DX8_init 7 rfl) rfl rfl w_437 w_351 w_82 kX9_init pmX9_init (by decide)
set_option maxRecDepth 8000 in
theorem w_561 : (Jvm.Cond.methodLink "NextOneKnows$Why" (9 : Nat) ({ cls := "NextOneKnows$Written", name := "saidOver", desc := "([I[I)I" } : Jvm.MethodName)) ∈ TG := tg_3 8 rfl rfl
set_option maxRecDepth 8000 in
theorem w_1613 : (Jvm.Cond.sameMethod "NextOneKnows$Written" "NextOneKnows$Written" "saidOver" "([I[I)I") ∈ TG := tg_7 100 rfl rfl
set_option maxRecDepth 8000 in
theorem w_444 : (Jvm.Cond.superclass "NextOneKnows$Why" "NextOneKnows$Written") ∈ TG := tg_2 131 rfl rfl
set_option maxRecDepth 8000 in
theorem sX8_saidOver_3_c8 : Site RX8 mX8_saidOver 3 6 mX9_saidOver (some 8) 3 := site_SU (x := ⟨RX9, "saidOver", "([I[I)I"⟩) (dk DX8_saidOver 3 rfl) KX8 ⟨rfl, rfl⟩ w_561 w_1613 w_444 (Or.inl rfl) w_562 w_82 kX9_saidOver (by decide +kernel) pmX9_saidOver.2.2 (by decide)
set_option maxRecDepth 8000 in
theorem w_918 : (Jvm.Cond.methodLink "NextOneKnows$Why" (19 : Nat) ({ cls := "NextOneKnows$Trace", name := "begins", desc := "(I)V" } : Jvm.MethodName)) ∈ TG := tg_4 125 rfl rfl
set_option maxRecDepth 8000 in
theorem sX8_says_3 : Site RX8 mX8_says 3 6 mX7_begins (some 7) 2 := site_V (dk DX8_says 2 rfl) KX7 w_918 w_909 w_910 w_77 kX7_begins pmX7_begins (by decide)
set_option maxRecDepth 8000 in
theorem w_405 : (Jvm.Cond.superclass "NextOneKnows$Written" "NextOneKnows$Doing") ∈ TG := tg_2 92 rfl rfl
set_option maxRecDepth 8000 in
theorem w_919 : (Jvm.Cond.methodLink "NextOneKnows$Why" (25 : Nat) ({ cls := "NextOneKnows$Written", name := "says", desc := "(ILNextOneKnows$Trace;)I" } : Jvm.MethodName)) ∈ TG := tg_4 126 rfl rfl
set_option maxRecDepth 8000 in
theorem w_920 : (Jvm.Cond.sameMethod "NextOneKnows$Written" "NextOneKnows$Doing" "says" "(ILNextOneKnows$Trace;)I") ∈ TG := tg_4 127 rfl rfl
set_option maxRecDepth 8000 in
theorem sX8_says_9_c8 : Site RX8 mX8_says 9 12 mX1_says (some 8) 3 := site_SU (x := ⟨RX9, "says", "(ILNextOneKnows$Trace;)I"⟩) (dk DX8_says 6 rfl) KX8 ⟨rfl, rfl⟩ w_919 w_920 w_444 (Or.inr w_405) w_902 w_81 kX1_says (by decide +kernel) pmX1_says.2.2 (by decide)
set_option maxRecDepth 8000 in
theorem sX8_holds_3 : Site RX8 mX8_holds 3 6 mX7_begins (some 7) 2 := site_V (dk DX8_holds 2 rfl) KX7 w_918 w_909 w_910 w_77 kX7_begins pmX7_begins (by decide)
set_option maxRecDepth 8000 in
theorem w_941 : (Jvm.Cond.methodLink "NextOneKnows$Why" (29 : Nat) ({ cls := "NextOneKnows$Written", name := "holds", desc := "(ILNextOneKnows$Trace;)I" } : Jvm.MethodName)) ∈ TG := tg_4 148 rfl rfl
set_option maxRecDepth 8000 in
theorem w_1615 : (Jvm.Cond.sameMethod "NextOneKnows$Written" "NextOneKnows$Written" "holds" "(ILNextOneKnows$Trace;)I") ∈ TG := tg_7 102 rfl rfl
set_option maxRecDepth 8000 in
theorem sX8_holds_11_c8 : Site RX8 mX8_holds 11 14 mX9_holds (some 8) 3 := site_SU (x := ⟨RX9, "holds", "(ILNextOneKnows$Trace;)I"⟩) (dk DX8_holds 8 rfl) KX8 ⟨rfl, rfl⟩ w_941 w_1615 w_444 (Or.inl rfl) w_942 w_82 kX9_holds (by decide +kernel) pmX9_holds.2.2 (by decide)
set_option maxRecDepth 8000 in
theorem w_353 : (Jvm.Cond.methodLink "NextOneKnows$Written" (3 : Nat) ({ cls := "NextOneKnows$Doing", name := "<init>", desc := "(IIIIII)V" } : Jvm.MethodName)) ∈ TG := tg_2 40 rfl rfl
set_option maxRecDepth 8000 in
theorem sX9_init_10 {ci : Nat} : Site RX9 mX9_init 10 13 mX1_init (some ci) 7 := site_I (dk DX9_init 7 rfl) rfl rfl w_353 w_354 w_81 kX1_init pmX1_init (by decide)
set_option maxRecDepth 8000 in
theorem w_564 : (Jvm.Cond.methodLink "NextOneKnows$Written" (9 : Nat) ({ cls := "NextOneKnows$Doing", name := "saidOver", desc := "([I[I)I" } : Jvm.MethodName)) ∈ TG := tg_3 11 rfl rfl
set_option maxRecDepth 8000 in
theorem sX9_saidOver_3_c9 : Site RX9 mX9_saidOver 3 6 mX1_saidOver (some 9) 3 := site_SU (x := ⟨RX1, "saidOver", "([I[I)I"⟩) (dk DX9_saidOver 3 rfl) KX9 ⟨rfl, rfl⟩ w_564 w_546 w_405 (Or.inl rfl) w_544 w_81 kX1_saidOver (by decide +kernel) pmX1_saidOver.2.2 (by decide)
set_option maxRecDepth 8000 in
theorem sX9_saidOver_3_c8 : Site RX9 mX9_saidOver 3 6 mX1_saidOver (some 8) 3 := site_SU (x := ⟨RX1, "saidOver", "([I[I)I"⟩) (dk DX9_saidOver 3 rfl) KX8 ⟨rfl, rfl⟩ w_564 w_546 w_405 (Or.inl rfl) w_544 w_81 kX1_saidOver (by decide +kernel) pmX1_saidOver.2.2 (by decide)
set_option maxRecDepth 8000 in
theorem w_944 : (Jvm.Cond.methodLink "NextOneKnows$Written" (19 : Nat) ({ cls := "NextOneKnows$Trace", name := "begins", desc := "(I)V" } : Jvm.MethodName)) ∈ TG := tg_4 151 rfl rfl
set_option maxRecDepth 8000 in
theorem sX9_holds_3 : Site RX9 mX9_holds 3 6 mX7_begins (some 7) 2 := site_V (dk DX9_holds 2 rfl) KX7 w_944 w_909 w_910 w_77 kX7_begins pmX7_begins (by decide)
set_option maxRecDepth 8000 in
theorem w_945 : (Jvm.Cond.methodLink "NextOneKnows$Written" (25 : Nat) ({ cls := "NextOneKnows$Doing", name := "holds", desc := "(ILNextOneKnows$Trace;)I" } : Jvm.MethodName)) ∈ TG := tg_4 152 rfl rfl
set_option maxRecDepth 8000 in
theorem sX9_holds_9_c9 : Site RX9 mX9_holds 9 12 mX1_holds (some 9) 3 := site_SU (x := ⟨RX1, "holds", "(ILNextOneKnows$Trace;)I"⟩) (dk DX9_holds 6 rfl) KX9 ⟨rfl, rfl⟩ w_945 w_934 w_405 (Or.inl rfl) w_932 w_81 kX1_holds (by decide +kernel) pmX1_holds.2.2 (by decide)
set_option maxRecDepth 8000 in
theorem sX9_holds_9_c8 : Site RX9 mX9_holds 9 12 mX1_holds (some 8) 3 := site_SU (x := ⟨RX1, "holds", "(ILNextOneKnows$Trace;)I"⟩) (dk DX9_holds 6 rfl) KX8 ⟨rfl, rfl⟩ w_945 w_934 w_405 (Or.inl rfl) w_932 w_81 kX1_holds (by decide +kernel) pmX1_holds.2.2 (by decide)
set_option maxRecDepth 8000 in
theorem w_463 : (Jvm.Cond.methodLink "NextOneKnows$Wrong" (1 : Nat) ({ cls := "NextOneKnows$Rare", name := "<init>", desc := "(IIIIII)V" } : Jvm.MethodName)) ∈ TG := tg_2 150 rfl rfl
set_option maxRecDepth 8000 in
theorem w_422 : (Jvm.Cond.instanceMethod ({ cls := "NextOneKnows$Rare", name := "<init>", desc := "(IIIIII)V" } : Jvm.MethodName)) ∈ TG := tg_2 109 rfl rfl
set_option maxRecDepth 8000 in
theorem sX10_init_10 {ci : Nat} : Site RX10 mX10_init 10 13 mX4_init (some ci) 7 := site_I (dk DX10_init 7 rfl) rfl rfl w_463 w_422 w_85 kX4_init pmX4_init (by decide)
set_option maxRecDepth 8000 in
theorem w_569 : (Jvm.Cond.methodLink "NextOneKnows$Wrong" (7 : Nat) ({ cls := "NextOneKnows$Rare", name := "saidOver", desc := "([I[I)I" } : Jvm.MethodName)) ∈ TG := tg_3 16 rfl rfl
set_option maxRecDepth 8000 in
theorem w_1614 : (Jvm.Cond.sameMethod "NextOneKnows$Rare" "NextOneKnows$Rare" "saidOver" "([I[I)I") ∈ TG := tg_7 101 rfl rfl
set_option maxRecDepth 8000 in
theorem w_470 : (Jvm.Cond.superclass "NextOneKnows$Wrong" "NextOneKnows$Rare") ∈ TG := tg_2 157 rfl rfl
set_option maxRecDepth 8000 in
theorem sX10_saidOver_3_c10 : Site RX10 mX10_saidOver 3 6 mX4_saidOver (some 10) 3 := site_SU (x := ⟨RX4, "saidOver", "([I[I)I"⟩) (dk DX10_saidOver 3 rfl) KX10 ⟨rfl, rfl⟩ w_569 w_1614 w_470 (Or.inl rfl) w_551 w_85 kX4_saidOver (by decide +kernel) pmX4_saidOver.2.2 (by decide)
set_option maxRecDepth 8000 in
theorem w_926 : (Jvm.Cond.methodLink "NextOneKnows$Wrong" (17 : Nat) ({ cls := "NextOneKnows$Trace", name := "begins", desc := "(I)V" } : Jvm.MethodName)) ∈ TG := tg_4 133 rfl rfl
set_option maxRecDepth 8000 in
theorem sX10_holds_3 : Site RX10 mX10_holds 3 6 mX7_begins (some 7) 2 := site_V (dk DX10_holds 2 rfl) KX7 w_926 w_909 w_910 w_77 kX7_begins pmX7_begins (by decide)
set_option maxRecDepth 8000 in
theorem w_950 : (Jvm.Cond.methodLink "NextOneKnows$Wrong" (23 : Nat) ({ cls := "NextOneKnows$Rare", name := "holds", desc := "(ILNextOneKnows$Trace;)I" } : Jvm.MethodName)) ∈ TG := tg_4 157 rfl rfl
set_option maxRecDepth 8000 in
theorem sX10_holds_9_c10 : Site RX10 mX10_holds 9 12 mX1_holds (some 10) 3 := site_SU (x := ⟨RX4, "holds", "(ILNextOneKnows$Trace;)I"⟩) (dk DX10_holds 6 rfl) KX10 ⟨rfl, rfl⟩ w_950 w_951 w_470 (Or.inr w_431) w_932 w_81 kX1_holds (by decide +kernel) pmX1_holds.2.2 (by decide)
set_option maxRecDepth 8000 in
theorem w_927 : (Jvm.Cond.methodLink "NextOneKnows$Wrong" (27 : Nat) ({ cls := "NextOneKnows$Rare", name := "says", desc := "(ILNextOneKnows$Trace;)I" } : Jvm.MethodName)) ∈ TG := tg_4 134 rfl rfl
set_option maxRecDepth 8000 in
theorem w_928 : (Jvm.Cond.sameMethod "NextOneKnows$Rare" "NextOneKnows$Doing" "says" "(ILNextOneKnows$Trace;)I") ∈ TG := tg_4 135 rfl rfl
set_option maxRecDepth 8000 in
theorem sX10_holds_15_c10 : Site RX10 mX10_holds 15 18 mX1_says (some 10) 3 := site_SU (x := ⟨RX4, "says", "(ILNextOneKnows$Trace;)I"⟩) (dk DX10_holds 10 rfl) KX10 ⟨rfl, rfl⟩ w_927 w_928 w_470 (Or.inr w_431) w_902 w_81 kX1_says (by decide +kernel) pmX1_says.2.2 (by decide)
set_option maxRecDepth 8000 in
theorem sX10_says_3 : Site RX10 mX10_says 3 6 mX7_begins (some 7) 2 := site_V (dk DX10_says 2 rfl) KX7 w_926 w_909 w_910 w_77 kX7_begins pmX7_begins (by decide)
set_option maxRecDepth 8000 in
theorem sX10_says_9_c10 : Site RX10 mX10_says 9 12 mX1_says (some 10) 3 := site_SU (x := ⟨RX4, "says", "(ILNextOneKnows$Trace;)I"⟩) (dk DX10_says 6 rfl) KX10 ⟨rfl, rfl⟩ w_927 w_928 w_470 (Or.inr w_431) w_902 w_81 kX1_says (by decide +kernel) pmX1_says.2.2 (by decide)
set_option maxRecDepth 8000 in
theorem w_102 : (Jvm.Cond.instanceMethod ({ cls := "NextOneKnows$State", name := "<init>", desc := "()V" } : Jvm.MethodName)) ∈ TG := tg_1 29 rfl rfl
set_option maxRecDepth 8000 in
theorem sX11_init_9 {ci : Nat} : Site RX11 mX11_init 9 12 mX5_init (some ci) 1 := site_IN (host := "NextOneKnows") (dk DX11_init_0 5 rfl) rfl rfl (by decide +kernel) w_102 w_75 kX5_init pmX5_init (by decide)
set_option maxRecDepth 8000 in
theorem sX11_init_20 {ci : Nat} : Site RX11 mX11_init 20 23 mX5_init (some ci) 1 := site_IN (host := "NextOneKnows") (dk DX11_init_0 10 rfl) rfl rfl (by decide +kernel) w_102 w_75 kX5_init pmX5_init (by decide)
set_option maxRecDepth 8000 in
theorem w_172 : (Jvm.Cond.methodLink "NextOneKnows" (23 : Nat) ({ cls := "NextOneKnows$Ahead", name := "<init>", desc := "(LNextOneKnows$State;)V" } : Jvm.MethodName)) ∈ TG := tg_1 99 rfl rfl
set_option maxRecDepth 8000 in
theorem w_173 : (Jvm.Cond.instanceMethod ({ cls := "NextOneKnows$Ahead", name := "<init>", desc := "(LNextOneKnows$State;)V" } : Jvm.MethodName)) ∈ TG := tg_1 100 rfl rfl
set_option maxRecDepth 8000 in
theorem sX11_init_35 {ci : Nat} : Site RX11 mX11_init 35 38 mX0_init (some ci) 2 := site_I (dk DX11_init_0 17 rfl) rfl rfl w_172 w_173 w_76 kX0_init pmX0_init (by decide)
set_option maxRecDepth 8000 in
theorem w_238 : (Jvm.Cond.instanceMethod ({ cls := "NextOneKnows$Trace", name := "<init>", desc := "()V" } : Jvm.MethodName)) ∈ TG := tg_1 165 rfl rfl
set_option maxRecDepth 8000 in
theorem sX11_init_63 {ci : Nat} : Site RX11 mX11_init 63 66 mX7_init (some ci) 1 := site_IN (host := "NextOneKnows") (dk DX11_init_0 30 rfl) rfl rfl (by decide +kernel) w_238 w_77 kX7_init pmX7_init (by decide)
set_option maxRecDepth 8000 in
theorem w_253 : (Jvm.Cond.methodLink "NextOneKnows" (59 : Nat) ({ cls := "java/util/Arrays", name := "fill", desc := "([II)V" } : Jvm.MethodName)) ∈ TG := tg_1 180 rfl rfl
set_option maxRecDepth 8000 in
theorem sX11_init_102 : Site RX11 mX11_init 102 105 mJ7_fill_53178 none 2 := site_S (dk DX11_init_0 48 rfl) w_253 w_254 w_78 kJ7_fill_53178 pmJ7_fill_53178 (by decide)
set_option maxRecDepth 8000 in
theorem w_257 : (Jvm.Cond.methodLink "NextOneKnows" (65 : Nat) ({ cls := "NextOneKnows$Post", name := "<init>", desc := "([B)V" } : Jvm.MethodName)) ∈ TG := tg_1 184 rfl rfl
set_option maxRecDepth 8000 in
theorem w_258 : (Jvm.Cond.instanceMethod ({ cls := "NextOneKnows$Post", name := "<init>", desc := "([B)V" } : Jvm.MethodName)) ∈ TG := tg_1 185 rfl rfl
set_option maxRecDepth 8000 in
theorem sX11_init_129 {ci : Nat} : Site RX11 mX11_init 129 132 mX3_init (some ci) 2 := site_I (dk DX11_init_1 3 rfl) rfl rfl w_257 w_258 w_79 kX3_init pmX3_init (by decide)
set_option maxRecDepth 8000 in
theorem w_342 : (Jvm.Cond.methodLink "NextOneKnows" (68 : Nat) ({ cls := "NextOneKnows", name := "isNot", desc := "(III)Z" } : Jvm.MethodName)) ∈ TG := tg_2 29 rfl rfl
set_option maxRecDepth 8000 in
theorem w_343 : (Jvm.Cond.static ({ cls := "NextOneKnows", name := "isNot", desc := "(III)Z" } : Jvm.MethodName)) ∈ TG := tg_2 30 rfl rfl
set_option maxRecDepth 8000 in
theorem sX11_doing_4 : Site RX11 mX11_doing 4 7 mX11_isNot none 3 := site_S (dk DX11_doing 3 rfl) w_342 w_343 w_74 kX11_isNot pmX11_isNot (by decide)
set_option maxRecDepth 8000 in
theorem sX11_doing_16 : Site RX11 mX11_doing 16 19 mX11_isNot none 3 := site_S (dk DX11_doing 10 rfl) w_342 w_343 w_74 kX11_isNot pmX11_isNot (by decide)
set_option maxRecDepth 8000 in
theorem sX11_doing_26 : Site RX11 mX11_doing 26 29 mX11_isNot none 3 := site_S (dk DX11_doing 15 rfl) w_342 w_343 w_74 kX11_isNot pmX11_isNot (by decide)
set_option maxRecDepth 8000 in
theorem sX11_doing_38 : Site RX11 mX11_doing 38 41 mX11_isNot none 3 := site_S (dk DX11_doing 22 rfl) w_342 w_343 w_74 kX11_isNot pmX11_isNot (by decide)
set_option maxRecDepth 8000 in
theorem sX11_doing_49 : Site RX11 mX11_doing 49 52 mX11_isNot none 3 := site_S (dk DX11_doing 27 rfl) w_342 w_343 w_74 kX11_isNot pmX11_isNot (by decide)
set_option maxRecDepth 8000 in
theorem sX11_doing_60 : Site RX11 mX11_doing 60 63 mX11_isNot none 3 := site_S (dk DX11_doing 32 rfl) w_342 w_343 w_74 kX11_isNot pmX11_isNot (by decide)
set_option maxRecDepth 8000 in
theorem w_345 : (Jvm.Cond.methodLink "NextOneKnows" (76 : Nat) ({ cls := "NextOneKnows", name := "made", desc := "(IIIIIII)LNextOneKnows$Doing;" } : Jvm.MethodName)) ∈ TG := tg_2 32 rfl rfl
set_option maxRecDepth 8000 in
theorem w_346 : (Jvm.Cond.static ({ cls := "NextOneKnows", name := "made", desc := "(IIIIIII)LNextOneKnows$Doing;" } : Jvm.MethodName)) ∈ TG := tg_2 33 rfl rfl
set_option maxRecDepth 8000 in
theorem sX11_doing_104 : Site RX11 mX11_doing 104 107 mX11_made none 7 := site_S (dk DX11_doing 54 rfl) w_345 w_346 w_74 kX11_made pmX11_made (by decide)
set_option maxRecDepth 8000 in
theorem w_483 : (Jvm.Cond.selects "NextOneKnows$State" ({ cls := "NextOneKnows$State", name := "add", desc := "(LNextOneKnows$Doing;)I" } : Jvm.MethodName) ({ cls := "NextOneKnows$State", name := "add", desc := "(LNextOneKnows$Doing;)I" } : Jvm.MethodName)) ∈ TG := tg_2 170 rfl rfl
set_option maxRecDepth 8000 in
theorem w_481 : (Jvm.Cond.methodLink "NextOneKnows" (80 : Nat) ({ cls := "NextOneKnows$State", name := "add", desc := "(LNextOneKnows$Doing;)I" } : Jvm.MethodName)) ∈ TG := tg_2 168 rfl rfl
set_option maxRecDepth 8000 in
theorem w_482 : (Jvm.Cond.instanceMethod ({ cls := "NextOneKnows$State", name := "add", desc := "(LNextOneKnows$Doing;)I" } : Jvm.MethodName)) ∈ TG := tg_2 169 rfl rfl
set_option maxRecDepth 8000 in
theorem sX11_doing_107 : Site RX11 mX11_doing 107 110 mX5_add (some 5) 2 := site_V (dk DX11_doing 55 rfl) KX5 w_481 w_482 w_483 w_75 kX5_add pmX5_add (by decide)
set_option maxRecDepth 8000 in
theorem w_489 : (Jvm.Cond.methodLink "NextOneKnows" (84 : Nat) ({ cls := "NextOneKnows$State", name := "find", desc := "(I)LNextOneKnows$Doing;" } : Jvm.MethodName)) ∈ TG := tg_2 176 rfl rfl
set_option maxRecDepth 8000 in
theorem sX11_of_5 : Site RX11 mX11_of 5 8 mX5_find (some 5) 2 := site_V (dk DX11_of_0 3 rfl) KX5 w_489 w_490 w_491 w_75 kX5_find pmX5_find (by decide)
set_option maxRecDepth 8000 in
theorem w_493 : (Jvm.Cond.methodLink "NextOneKnows" (88 : Nat) ({ cls := "NextOneKnows$Doing", name := "kind", desc := "()I" } : Jvm.MethodName)) ∈ TG := tg_2 180 rfl rfl
set_option maxRecDepth 8000 in
theorem sX11_of_81_c1 : Site RX11 mX11_of 81 84 mX1_kind (some 1) 1 := site_U (owner := RX1) (x := ⟨RX1, "kind", "()I"⟩) (dk DX11_of_0 12 rfl) KX1 w_493 w_496 w_494 (kX1_kind) w_494 w_495 w_81 kX1_kind pmX1_kind (by decide)
set_option maxRecDepth 8000 in
theorem sX11_of_81_c9 : Site RX11 mX11_of 81 84 mX9_kind (some 9) 1 := site_U (owner := RX1) (x := ⟨RX1, "kind", "()I"⟩) (dk DX11_of_0 12 rfl) KX9 w_493 w_496 w_494 (kX1_kind) w_510 w_509 w_82 kX9_kind pmX1_kind (by decide)
set_option maxRecDepth 8000 in
theorem sX11_of_81_c8 : Site RX11 mX11_of 81 84 mX8_kind (some 8) 1 := site_U (owner := RX1) (x := ⟨RX1, "kind", "()I"⟩) (dk DX11_of_0 12 rfl) KX8 w_493 w_496 w_494 (kX1_kind) w_507 w_506 w_86 kX8_kind pmX1_kind (by decide)
set_option maxRecDepth 8000 in
theorem sX11_of_81_c2 : Site RX11 mX11_of 81 84 mX2_kind (some 2) 1 := site_U (owner := RX1) (x := ⟨RX1, "kind", "()I"⟩) (dk DX11_of_0 12 rfl) KX2 w_493 w_496 w_494 (kX1_kind) w_498 w_497 w_84 kX2_kind pmX1_kind (by decide)
set_option maxRecDepth 8000 in
theorem sX11_of_81_c6 : Site RX11 mX11_of 81 84 mX6_kind (some 6) 1 := site_U (owner := RX1) (x := ⟨RX1, "kind", "()I"⟩) (dk DX11_of_0 12 rfl) KX6 w_493 w_496 w_494 (kX1_kind) w_504 w_503 w_87 kX6_kind pmX1_kind (by decide)
set_option maxRecDepth 8000 in
theorem sX11_of_81_c4 : Site RX11 mX11_of 81 84 mX4_kind (some 4) 1 := site_U (owner := RX1) (x := ⟨RX1, "kind", "()I"⟩) (dk DX11_of_0 12 rfl) KX4 w_493 w_496 w_494 (kX1_kind) w_501 w_500 w_85 kX4_kind pmX1_kind (by decide)
set_option maxRecDepth 8000 in
theorem sX11_of_81_c10 : Site RX11 mX11_of 81 84 mX10_kind (some 10) 1 := site_U (owner := RX1) (x := ⟨RX1, "kind", "()I"⟩) (dk DX11_of_0 12 rfl) KX10 w_493 w_496 w_494 (kX1_kind) w_513 w_512 w_88 kX10_kind pmX1_kind (by decide)
set_option maxRecDepth 8000 in
theorem w_516 : (Jvm.Cond.methodLink "NextOneKnows" (112 : Nat) ({ cls := "NextOneKnows", name := "bit", desc := "(II)I" } : Jvm.MethodName)) ∈ TG := tg_2 203 rfl rfl
set_option maxRecDepth 8000 in
theorem sX11_of_118 : Site RX11 mX11_of 118 121 mX11_bit none 2 := site_S (dk DX11_of_0 33 rfl) w_516 w_517 w_74 kX11_bit pmX11_bit (by decide)
set_option maxRecDepth 8000 in
theorem sX11_of_130 : Site RX11 mX11_of 130 133 mX11_bit none 2 := site_S (dk DX11_of_0 39 rfl) w_516 w_517 w_74 kX11_bit pmX11_bit (by decide)
set_option maxRecDepth 8000 in
theorem w_521 : (Jvm.Cond.selects "NextOneKnows$Ahead" ({ cls := "NextOneKnows$Ahead", name := "saidOf", desc := "(LNextOneKnows$Doing;)I" } : Jvm.MethodName) ({ cls := "NextOneKnows$Ahead", name := "saidOf", desc := "(LNextOneKnows$Doing;)I" } : Jvm.MethodName)) ∈ TG := tg_2 208 rfl rfl
set_option maxRecDepth 8000 in
theorem w_519 : (Jvm.Cond.methodLink "NextOneKnows" (119 : Nat) ({ cls := "NextOneKnows$Ahead", name := "saidOf", desc := "(LNextOneKnows$Doing;)I" } : Jvm.MethodName)) ∈ TG := tg_2 206 rfl rfl
set_option maxRecDepth 8000 in
theorem w_520 : (Jvm.Cond.instanceMethod ({ cls := "NextOneKnows$Ahead", name := "saidOf", desc := "(LNextOneKnows$Doing;)I" } : Jvm.MethodName)) ∈ TG := tg_2 207 rfl rfl
set_option maxRecDepth 8000 in
theorem sX11_of_139 : Site RX11 mX11_of 139 142 mX0_saidOf (some 0) 2 := site_V (dk DX11_of_0 44 rfl) KX0 w_519 w_520 w_521 w_76 kX0_saidOf pmX0_saidOf (by decide)
set_option maxRecDepth 8000 in
theorem sX11_of_148 : Site RX11 mX11_of 148 151 mX0_saidOf (some 0) 2 := site_V (dk DX11_of_0 49 rfl) KX0 w_519 w_520 w_521 w_76 kX0_saidOf pmX0_saidOf (by decide)
set_option maxRecDepth 8000 in
theorem w_571 : (Jvm.Cond.methodLink "NextOneKnows" (125 : Nat) ({ cls := "NextOneKnows$State", name := "dearIn", desc := "(LNextOneKnows$Doing;I)I" } : Jvm.MethodName)) ∈ TG := tg_3 18 rfl rfl
set_option maxRecDepth 8000 in
theorem sX11_of_176 : Site RX11 mX11_of 176 179 mX5_dearIn (some 5) 3 := site_V (dk DX11_of_1 3 rfl) KX5 w_571 w_572 w_573 w_75 kX5_dearIn pmX5_dearIn (by decide)
set_option maxRecDepth 8000 in
theorem sX11_needless_5 : Site RX11 mX11_needless 5 8 mX5_find (some 5) 2 := site_V (dk DX11_needless 3 rfl) KX5 w_489 w_490 w_491 w_75 kX5_find pmX5_find (by decide)
set_option maxRecDepth 8000 in
theorem sX11_needless_21 : Site RX11 mX11_needless 21 24 mX11_bit none 2 := site_S (dk DX11_needless 11 rfl) w_516 w_517 w_74 kX11_bit pmX11_bit (by decide)
set_option maxRecDepth 8000 in
theorem w_579 : (Jvm.Cond.methodLink "NextOneKnows" (135 : Nat) ({ cls := "NextOneKnows", name := "withBit", desc := "(IIZ)I" } : Jvm.MethodName)) ∈ TG := tg_3 26 rfl rfl
set_option maxRecDepth 8000 in
theorem w_580 : (Jvm.Cond.static ({ cls := "NextOneKnows", name := "withBit", desc := "(IIZ)I" } : Jvm.MethodName)) ∈ TG := tg_3 27 rfl rfl
set_option maxRecDepth 8000 in
theorem sX11_needless_38 : Site RX11 mX11_needless 38 41 mX11_withBit none 3 := site_S (dk DX11_needless 20 rfl) w_579 w_580 w_74 kX11_withBit pmX11_withBit (by decide)
set_option maxRecDepth 8000 in
theorem sX11_learn_5 : Site RX11 mX11_learn 5 8 mX5_find (some 5) 2 := site_V (dk DX11_learn 3 rfl) KX5 w_489 w_490 w_491 w_75 kX5_find pmX5_find (by decide)
set_option maxRecDepth 8000 in
theorem sX11_learn_21 : Site RX11 mX11_learn 21 24 mX11_bit none 2 := site_S (dk DX11_learn 11 rfl) w_516 w_517 w_74 kX11_bit pmX11_bit (by decide)
set_option maxRecDepth 8000 in
theorem sX11_learn_38 : Site RX11 mX11_learn 38 41 mX11_withBit none 3 := site_S (dk DX11_learn 20 rfl) w_579 w_580 w_74 kX11_withBit pmX11_withBit (by decide)
set_option maxRecDepth 8000 in
theorem sX11_odds_5 : Site RX11 mX11_odds 5 8 mX5_find (some 5) 2 := site_V (dk DX11_odds 3 rfl) KX5 w_489 w_490 w_491 w_75 kX5_find pmX5_find (by decide)
set_option maxRecDepth 8000 in
theorem sX11_odds_19 : Site RX11 mX11_odds 19 22 mX11_isNot none 3 := site_S (dk DX11_odds 12 rfl) w_342 w_343 w_74 kX11_isNot pmX11_isNot (by decide)
set_option maxRecDepth 8000 in
theorem sX11_hours_3 : Site RX11 mX11_hours 3 6 mX11_isNot none 3 := site_S (dk DX11_hours 3 rfl) w_342 w_343 w_74 kX11_isNot pmX11_isNot (by decide)
set_option maxRecDepth 8000 in
theorem sX11_hours_15 : Site RX11 mX11_hours 15 18 mX11_isNot none 3 := site_S (dk DX11_hours 10 rfl) w_342 w_343 w_74 kX11_isNot pmX11_isNot (by decide)
set_option maxRecDepth 8000 in
theorem sX11_feed_4 : Site RX11 mX11_feed 4 7 mX11_isNot none 3 := site_S (dk DX11_feed 3 rfl) w_342 w_343 w_74 kX11_isNot pmX11_isNot (by decide)
set_option maxRecDepth 8000 in
theorem w_604 : (Jvm.Cond.selects "NextOneKnows$Post" ({ cls := "NextOneKnows$Post", name := "readFrom", desc := "(I)I" } : Jvm.MethodName) ({ cls := "NextOneKnows$Post", name := "readFrom", desc := "(I)I" } : Jvm.MethodName)) ∈ TG := tg_3 51 rfl rfl
set_option maxRecDepth 8000 in
theorem w_602 : (Jvm.Cond.methodLink "NextOneKnows" (148 : Nat) ({ cls := "NextOneKnows$Post", name := "readFrom", desc := "(I)I" } : Jvm.MethodName)) ∈ TG := tg_3 49 rfl rfl
set_option maxRecDepth 8000 in
theorem w_603 : (Jvm.Cond.instanceMethod ({ cls := "NextOneKnows$Post", name := "readFrom", desc := "(I)I" } : Jvm.MethodName)) ∈ TG := tg_3 50 rfl rfl
set_option maxRecDepth 8000 in
theorem sX11_post_30 : Site RX11 mX11_post 30 33 mX3_readFrom (some 3) 2 := site_V (dk DX11_post 17 rfl) KX3 w_602 w_603 w_604 w_79 kX3_readFrom pmX3_readFrom (by decide)
set_option maxRecDepth 8000 in
theorem w_657 : (Jvm.Cond.methodLink "NextOneKnows" (156 : Nat) ({ cls := "NextOneKnows$State", name := "callsAtFirst", desc := "()I" } : Jvm.MethodName)) ∈ TG := tg_3 104 rfl rfl
set_option maxRecDepth 8000 in
theorem sX11_told_44 : Site RX11 mX11_told 44 47 mX5_callsAtFirst (some 5) 1 := site_V (dk DX11_told 4 rfl) KX5 w_657 w_658 w_659 w_75 kX5_callsAtFirst pmX5_callsAtFirst (by decide)
set_option maxRecDepth 8000 in
theorem w_661 : (Jvm.Cond.methodLink "NextOneKnows" (159 : Nat) ({ cls := "NextOneKnows$State", name := "callsFading", desc := "()I" } : Jvm.MethodName)) ∈ TG := tg_3 108 rfl rfl
set_option maxRecDepth 8000 in
theorem sX11_told_52 : Site RX11 mX11_told 52 55 mX5_callsFading (some 5) 1 := site_V (dk DX11_told 8 rfl) KX5 w_661 w_662 w_663 w_75 kX5_callsFading pmX5_callsFading (by decide)
set_option maxRecDepth 8000 in
theorem sX11_told_93 : Site RX11 mX11_told 93 96 mX11_isNot none 3 := site_S (dk DX11_told 29 rfl) w_342 w_343 w_74 kX11_isNot pmX11_isNot (by decide)
set_option maxRecDepth 8000 in
theorem sX11_said_5 : Site RX11 mX11_said 5 8 mX5_find (some 5) 2 := site_V (dk DX11_said 3 rfl) KX5 w_489 w_490 w_491 w_75 kX5_find pmX5_find (by decide)
set_option maxRecDepth 8000 in
theorem sX11_said_16 : Site RX11 mX11_said 16 19 mX11_isNot none 3 := site_S (dk DX11_said 10 rfl) w_342 w_343 w_74 kX11_isNot pmX11_isNot (by decide)
set_option maxRecDepth 8000 in
theorem w_669 : (Jvm.Cond.methodLink "NextOneKnows" (171 : Nat) ({ cls := "NextOneKnows$State", name := "saidBy", desc := "(LNextOneKnows$Doing;I)I" } : Jvm.MethodName)) ∈ TG := tg_3 116 rfl rfl
set_option maxRecDepth 8000 in
theorem sX11_said_30 : Site RX11 mX11_said 30 33 mX5_saidBy (some 5) 3 := site_V (dk DX11_said 18 rfl) KX5 w_669 w_528 w_529 w_75 kX5_saidBy pmX5_saidBy (by decide)
set_option maxRecDepth 8000 in
theorem w_676 : (Jvm.Cond.selects "NextOneKnows$Ahead" ({ cls := "NextOneKnows$Ahead", name := "hear", desc := "()V" } : Jvm.MethodName) ({ cls := "NextOneKnows$Ahead", name := "hear", desc := "()V" } : Jvm.MethodName)) ∈ TG := tg_3 123 rfl rfl
set_option maxRecDepth 8000 in
theorem w_674 : (Jvm.Cond.methodLink "NextOneKnows" (174 : Nat) ({ cls := "NextOneKnows$Ahead", name := "hear", desc := "()V" } : Jvm.MethodName)) ∈ TG := tg_3 121 rfl rfl
set_option maxRecDepth 8000 in
theorem w_675 : (Jvm.Cond.instanceMethod ({ cls := "NextOneKnows$Ahead", name := "hear", desc := "()V" } : Jvm.MethodName)) ∈ TG := tg_3 122 rfl rfl
set_option maxRecDepth 8000 in
theorem sX11_hand_4 : Site RX11 mX11_hand 4 7 mX0_hear (some 0) 1 := site_V (dk DX11_hand 2 rfl) KX0 w_674 w_675 w_676 w_76 kX0_hear pmX0_hear (by decide)
set_option maxRecDepth 8000 in
theorem w_679 : (Jvm.Cond.methodLink "NextOneKnows" (177 : Nat) ({ cls := "NextOneKnows$Ahead", name := "goingOver", desc := "([I)I" } : Jvm.MethodName)) ∈ TG := tg_3 126 rfl rfl
set_option maxRecDepth 8000 in
theorem sX11_hand_18 : Site RX11 mX11_hand 18 21 mX0_goingOver (some 0) 2 := site_V (dk DX11_hand 8 rfl) KX0 w_679 w_680 w_681 w_76 kX0_goingOver pmX0_goingOver (by decide)
set_option maxRecDepth 8000 in
theorem w_683 : (Jvm.Cond.methodLink "NextOneKnows" (181 : Nat) ({ cls := "java/lang/Integer", name := "bitCount", desc := "(I)I" } : Jvm.MethodName)) ∈ TG := tg_3 130 rfl rfl
set_option maxRecDepth 8000 in
theorem sX11_hand_46 : Site RX11 mX11_hand 46 49 mJ6_bitCount_0f7a4 none 1 := site_S (dk DX11_hand 24 rfl) w_683 w_684 w_89 kJ6_bitCount_0f7a4 pmJ6_bitCount_0f7a4 (by decide)
set_option maxRecDepth 8000 in
theorem sX11_go_4 : Site RX11 mX11_go 4 7 mX11_isNot none 3 := site_S (dk DX11_go_0 3 rfl) w_342 w_343 w_74 kX11_isNot pmX11_isNot (by decide)
set_option maxRecDepth 8000 in
theorem w_695 : (Jvm.Cond.selects "NextOneKnows$Ahead" ({ cls := "NextOneKnows$Ahead", name := "look", desc := "(I)V" } : Jvm.MethodName) ({ cls := "NextOneKnows$Ahead", name := "look", desc := "(I)V" } : Jvm.MethodName)) ∈ TG := tg_3 142 rfl rfl
set_option maxRecDepth 8000 in
theorem w_693 : (Jvm.Cond.methodLink "NextOneKnows" (186 : Nat) ({ cls := "NextOneKnows$Ahead", name := "look", desc := "(I)V" } : Jvm.MethodName)) ∈ TG := tg_3 140 rfl rfl
set_option maxRecDepth 8000 in
theorem w_694 : (Jvm.Cond.instanceMethod ({ cls := "NextOneKnows$Ahead", name := "look", desc := "(I)V" } : Jvm.MethodName)) ∈ TG := tg_3 141 rfl rfl
set_option maxRecDepth 8000 in
theorem sX11_go_36 : Site RX11 mX11_go 36 39 mX0_look (some 0) 2 := site_V (dk DX11_go_0 19 rfl) KX0 w_693 w_694 w_695 w_76 kX0_look pmX0_look (by decide)
set_option maxRecDepth 8000 in
theorem w_729 : (Jvm.Cond.methodLink "NextOneKnows" (190 : Nat) ({ cls := "NextOneKnows$Ahead", name := "pass", desc := "(II)I" } : Jvm.MethodName)) ∈ TG := tg_3 176 rfl rfl
set_option maxRecDepth 8000 in
theorem sX11_go_65 : Site RX11 mX11_go 65 68 mX0_pass (some 0) 3 := site_V (dk DX11_go_0 32 rfl) KX0 w_729 w_730 w_731 w_76 kX0_pass pmX0_pass (by decide)
set_option maxRecDepth 8000 in
theorem sX11_run_3 : Site RX11 mX11_run 3 6 mX11_isNot none 3 := site_S (dk DX11_run 3 rfl) w_342 w_343 w_74 kX11_isNot pmX11_isNot (by decide)
set_option maxRecDepth 8000 in
theorem sX11_run_18 : Site RX11 mX11_run 18 21 mX11_isNot none 3 := site_S (dk DX11_run 10 rfl) w_342 w_343 w_74 kX11_isNot pmX11_isNot (by decide)
set_option maxRecDepth 8000 in
theorem sX11_run_33 : Site RX11 mX11_run 33 36 mX0_look (some 0) 2 := site_V (dk DX11_run 17 rfl) KX0 w_693 w_694 w_695 w_76 kX0_look pmX0_look (by decide)
set_option maxRecDepth 8000 in
theorem sX11_run_54 : Site RX11 mX11_run 54 57 mX0_pass (some 0) 3 := site_V (dk DX11_run 26 rfl) KX0 w_729 w_730 w_731 w_76 kX0_pass pmX0_pass (by decide)
set_option maxRecDepth 8000 in
theorem sX11_run_117 : Site RX11 mX11_run 117 120 mJ6_bitCount_0f7a4 none 1 := site_S (dk DX11_run 43 rfl) w_683 w_684 w_89 kJ6_bitCount_0f7a4 pmJ6_bitCount_0f7a4 (by decide)
set_option maxRecDepth 8000 in
theorem sX11_split_3 : Site RX11 mX11_split 3 6 mX11_isNot none 3 := site_S (dk DX11_split 3 rfl) w_342 w_343 w_74 kX11_isNot pmX11_isNot (by decide)
set_option maxRecDepth 8000 in
theorem sX11_split_17 : Site RX11 mX11_split 17 20 mX11_isNot none 3 := site_S (dk DX11_split 10 rfl) w_342 w_343 w_74 kX11_isNot pmX11_isNot (by decide)
set_option maxRecDepth 8000 in
theorem sX11_split_27 : Site RX11 mX11_split 27 30 mX11_isNot none 3 := site_S (dk DX11_split 15 rfl) w_342 w_343 w_74 kX11_isNot pmX11_isNot (by decide)
set_option maxRecDepth 8000 in
theorem sX11_split_42 : Site RX11 mX11_split 42 45 mX0_look (some 0) 2 := site_V (dk DX11_split 22 rfl) KX0 w_693 w_694 w_695 w_76 kX0_look pmX0_look (by decide)
set_option maxRecDepth 8000 in
theorem sX11_split_49 : Site RX11 mX11_split 49 52 mX0_hear (some 0) 1 := site_V (dk DX11_split 25 rfl) KX0 w_674 w_675 w_676 w_76 kX0_hear pmX0_hear (by decide)
set_option maxRecDepth 8000 in
theorem w_782 : (Jvm.Cond.selects "NextOneKnows$Ahead" ({ cls := "NextOneKnows$Ahead", name := "bestSplit", desc := "(I)I" } : Jvm.MethodName) ({ cls := "NextOneKnows$Ahead", name := "bestSplit", desc := "(I)I" } : Jvm.MethodName)) ∈ TG := tg_3 229 rfl rfl
set_option maxRecDepth 8000 in
theorem w_780 : (Jvm.Cond.methodLink "NextOneKnows" (202 : Nat) ({ cls := "NextOneKnows$Ahead", name := "bestSplit", desc := "(I)I" } : Jvm.MethodName)) ∈ TG := tg_3 227 rfl rfl
set_option maxRecDepth 8000 in
theorem w_781 : (Jvm.Cond.instanceMethod ({ cls := "NextOneKnows$Ahead", name := "bestSplit", desc := "(I)I" } : Jvm.MethodName)) ∈ TG := tg_3 228 rfl rfl
set_option maxRecDepth 8000 in
theorem sX11_split_57 : Site RX11 mX11_split 57 60 mX0_bestSplit (some 0) 2 := site_V (dk DX11_split 29 rfl) KX0 w_780 w_781 w_782 w_76 kX0_bestSplit pmX0_bestSplit (by decide)
set_option maxRecDepth 8000 in
theorem sX11_more_3 : Site RX11 mX11_more 3 6 mX11_isNot none 3 := site_S (dk DX11_more 3 rfl) w_342 w_343 w_74 kX11_isNot pmX11_isNot (by decide)
set_option maxRecDepth 8000 in
theorem sX11_more_17 : Site RX11 mX11_more 17 20 mX11_isNot none 3 := site_S (dk DX11_more 10 rfl) w_342 w_343 w_74 kX11_isNot pmX11_isNot (by decide)
set_option maxRecDepth 8000 in
theorem sX11_more_48 : Site RX11 mX11_more 48 51 mX0_look (some 0) 2 := site_V (dk DX11_more 26 rfl) KX0 w_693 w_694 w_695 w_76 kX0_look pmX0_look (by decide)
set_option maxRecDepth 8000 in
theorem sX11_more_55 : Site RX11 mX11_more 55 58 mX0_hear (some 0) 1 := site_V (dk DX11_more 29 rfl) KX0 w_674 w_675 w_676 w_76 kX0_hear pmX0_hear (by decide)
set_option maxRecDepth 8000 in
theorem w_802 : (Jvm.Cond.methodLink "NextOneKnows" (208 : Nat) ({ cls := "NextOneKnows$Ahead", name := "costHanded", desc := "([I)I" } : Jvm.MethodName)) ∈ TG := tg_4 9 rfl rfl
set_option maxRecDepth 8000 in
theorem sX11_more_69 : Site RX11 mX11_more 69 72 mX0_costHanded (some 0) 2 := site_V (dk DX11_more 35 rfl) KX0 w_802 w_790 w_791 w_76 kX0_costHanded pmX0_costHanded (by decide)
set_option maxRecDepth 8000 in
theorem w_805 : (Jvm.Cond.selects "NextOneKnows$Ahead" ({ cls := "NextOneKnows$Ahead", name := "hourMore", desc := "(I)[I" } : Jvm.MethodName) ({ cls := "NextOneKnows$Ahead", name := "hourMore", desc := "(I)[I" } : Jvm.MethodName)) ∈ TG := tg_4 12 rfl rfl
set_option maxRecDepth 8000 in
theorem w_803 : (Jvm.Cond.methodLink "NextOneKnows" (211 : Nat) ({ cls := "NextOneKnows$Ahead", name := "hourMore", desc := "(I)[I" } : Jvm.MethodName)) ∈ TG := tg_4 10 rfl rfl
set_option maxRecDepth 8000 in
theorem w_804 : (Jvm.Cond.instanceMethod ({ cls := "NextOneKnows$Ahead", name := "hourMore", desc := "(I)[I" } : Jvm.MethodName)) ∈ TG := tg_4 11 rfl rfl
set_option maxRecDepth 8000 in
theorem sX11_more_81 : Site RX11 mX11_more 81 84 mX0_hourMore (some 0) 2 := site_V (dk DX11_more 41 rfl) KX0 w_803 w_804 w_805 w_76 kX0_hourMore pmX0_hourMore (by decide)
set_option maxRecDepth 8000 in
theorem sX11_more_84 : Site RX11 mX11_more 84 87 mX0_costHanded (some 0) 2 := site_V (dk DX11_more 42 rfl) KX0 w_802 w_790 w_791 w_76 kX0_costHanded pmX0_costHanded (by decide)
set_option maxRecDepth 8000 in
theorem sX11_ask_4 : Site RX11 mX11_ask 4 7 mX11_isNot none 3 := site_S (dk DX11_ask 3 rfl) w_342 w_343 w_74 kX11_isNot pmX11_isNot (by decide)
set_option maxRecDepth 8000 in
theorem sX11_ask_18 : Site RX11 mX11_ask 18 21 mX0_look (some 0) 2 := site_V (dk DX11_ask 10 rfl) KX0 w_693 w_694 w_695 w_76 kX0_look pmX0_look (by decide)
set_option maxRecDepth 8000 in
theorem w_813 : (Jvm.Cond.selects "NextOneKnows$Ahead" ({ cls := "NextOneKnows$Ahead", name := "bestOf", desc := "(IZ)I" } : Jvm.MethodName) ({ cls := "NextOneKnows$Ahead", name := "bestOf", desc := "(IZ)I" } : Jvm.MethodName)) ∈ TG := tg_4 20 rfl rfl
set_option maxRecDepth 8000 in
theorem w_811 : (Jvm.Cond.methodLink "NextOneKnows" (215 : Nat) ({ cls := "NextOneKnows$Ahead", name := "bestOf", desc := "(IZ)I" } : Jvm.MethodName)) ∈ TG := tg_4 18 rfl rfl
set_option maxRecDepth 8000 in
theorem w_812 : (Jvm.Cond.instanceMethod ({ cls := "NextOneKnows$Ahead", name := "bestOf", desc := "(IZ)I" } : Jvm.MethodName)) ∈ TG := tg_4 19 rfl rfl
set_option maxRecDepth 8000 in
theorem sX11_ask_35 : Site RX11 mX11_ask 35 38 mX0_bestOf (some 0) 3 := site_V (dk DX11_ask 19 rfl) KX0 w_811 w_812 w_813 w_76 kX0_bestOf pmX0_bestOf (by decide)
set_option maxRecDepth 8000 in
theorem sX11_drop_4 : Site RX11 mX11_drop 4 7 mX11_isNot none 3 := site_S (dk DX11_drop 3 rfl) w_342 w_343 w_74 kX11_isNot pmX11_isNot (by decide)
set_option maxRecDepth 8000 in
theorem sX11_drop_18 : Site RX11 mX11_drop 18 21 mX0_look (some 0) 2 := site_V (dk DX11_drop 10 rfl) KX0 w_693 w_694 w_695 w_76 kX0_look pmX0_look (by decide)
set_option maxRecDepth 8000 in
theorem sX11_drop_35 : Site RX11 mX11_drop 35 38 mX0_bestOf (some 0) 3 := site_V (dk DX11_drop 19 rfl) KX0 w_811 w_812 w_813 w_76 kX0_bestOf pmX0_bestOf (by decide)
set_option maxRecDepth 8000 in
theorem sX11_when_5 : Site RX11 mX11_when 5 8 mX5_find (some 5) 2 := site_V (dk DX11_when 3 rfl) KX5 w_489 w_490 w_491 w_75 kX5_find pmX5_find (by decide)
set_option maxRecDepth 8000 in
theorem w_823 : (Jvm.Cond.methodLink "NextOneKnows" (219 : Nat) ({ cls := "NextOneKnows$Doing", name := "weeksUntil", desc := "(I)I" } : Jvm.MethodName)) ∈ TG := tg_4 30 rfl rfl
set_option maxRecDepth 8000 in
theorem sX11_when_32_c1 : Site RX11 mX11_when 32 35 mX1_weeksUntil (some 1) 2 := site_U (owner := RX1) (x := ⟨RX1, "weeksUntil", "(I)I"⟩) (dk DX11_when 16 rfl) KX1 w_823 w_708 w_706 (kX1_weeksUntil) w_706 w_707 w_81 kX1_weeksUntil pmX1_weeksUntil (by decide)
set_option maxRecDepth 8000 in
theorem sX11_when_32_c9 : Site RX11 mX11_when 32 35 mX1_weeksUntil (some 9) 2 := site_U (owner := RX1) (x := ⟨RX1, "weeksUntil", "(I)I"⟩) (dk DX11_when 16 rfl) KX9 w_823 w_708 w_706 (kX1_weeksUntil) w_706 w_713 w_81 kX1_weeksUntil pmX1_weeksUntil (by decide)
set_option maxRecDepth 8000 in
theorem sX11_when_32_c8 : Site RX11 mX11_when 32 35 mX1_weeksUntil (some 8) 2 := site_U (owner := RX1) (x := ⟨RX1, "weeksUntil", "(I)I"⟩) (dk DX11_when 16 rfl) KX8 w_823 w_708 w_706 (kX1_weeksUntil) w_706 w_712 w_81 kX1_weeksUntil pmX1_weeksUntil (by decide)
set_option maxRecDepth 8000 in
theorem sX11_when_32_c2 : Site RX11 mX11_when 32 35 mX1_weeksUntil (some 2) 2 := site_U (owner := RX1) (x := ⟨RX1, "weeksUntil", "(I)I"⟩) (dk DX11_when 16 rfl) KX2 w_823 w_708 w_706 (kX1_weeksUntil) w_706 w_709 w_81 kX1_weeksUntil pmX1_weeksUntil (by decide)
set_option maxRecDepth 8000 in
theorem sX11_when_32_c6 : Site RX11 mX11_when 32 35 mX1_weeksUntil (some 6) 2 := site_U (owner := RX1) (x := ⟨RX1, "weeksUntil", "(I)I"⟩) (dk DX11_when 16 rfl) KX6 w_823 w_708 w_706 (kX1_weeksUntil) w_706 w_711 w_81 kX1_weeksUntil pmX1_weeksUntil (by decide)
set_option maxRecDepth 8000 in
theorem sX11_when_32_c4 : Site RX11 mX11_when 32 35 mX1_weeksUntil (some 4) 2 := site_U (owner := RX1) (x := ⟨RX1, "weeksUntil", "(I)I"⟩) (dk DX11_when 16 rfl) KX4 w_823 w_708 w_706 (kX1_weeksUntil) w_706 w_710 w_81 kX1_weeksUntil pmX1_weeksUntil (by decide)
set_option maxRecDepth 8000 in
theorem sX11_when_32_c10 : Site RX11 mX11_when 32 35 mX1_weeksUntil (some 10) 2 := site_U (owner := RX1) (x := ⟨RX1, "weeksUntil", "(I)I"⟩) (dk DX11_when 16 rfl) KX10 w_823 w_708 w_706 (kX1_weeksUntil) w_706 w_714 w_81 kX1_weeksUntil pmX1_weeksUntil (by decide)
set_option maxRecDepth 8000 in
theorem sX11_busiest_3 : Site RX11 mX11_busiest 3 6 mX11_isNot none 3 := site_S (dk DX11_busiest 3 rfl) w_342 w_343 w_74 kX11_isNot pmX11_isNot (by decide)
set_option maxRecDepth 8000 in
theorem sX11_busiest_16 : Site RX11 mX11_busiest 16 19 mX11_isNot none 3 := site_S (dk DX11_busiest 10 rfl) w_342 w_343 w_74 kX11_isNot pmX11_isNot (by decide)
set_option maxRecDepth 8000 in
theorem w_828 : (Jvm.Cond.methodLink "NextOneKnows" (222 : Nat) ({ cls := "NextOneKnows$State", name := "coming", desc := "(I)I" } : Jvm.MethodName)) ∈ TG := tg_4 35 rfl rfl
set_option maxRecDepth 8000 in
theorem sX11_busiest_53 : Site RX11 mX11_busiest 53 56 mX5_coming (some 5) 2 := site_V (dk DX11_busiest 30 rfl) KX5 w_828 w_701 w_702 w_75 kX5_coming pmX5_coming (by decide)
set_option maxRecDepth 8000 in
theorem sX11_busiest_56 : Site RX11 mX11_busiest 56 59 mJ6_bitCount_0f7a4 none 1 := site_S (dk DX11_busiest 31 rfl) w_683 w_684 w_89 kJ6_bitCount_0f7a4 pmJ6_bitCount_0f7a4 (by decide)
set_option maxRecDepth 8000 in
theorem w_835 : (Jvm.Cond.selects "NextOneKnows$State" ({ cls := "NextOneKnows$State", name := "everyDoing", desc := "()I" } : Jvm.MethodName) ({ cls := "NextOneKnows$State", name := "everyDoing", desc := "()I" } : Jvm.MethodName)) ∈ TG := tg_4 42 rfl rfl
set_option maxRecDepth 8000 in
theorem w_833 : (Jvm.Cond.methodLink "NextOneKnows" (225 : Nat) ({ cls := "NextOneKnows$State", name := "everyDoing", desc := "()I" } : Jvm.MethodName)) ∈ TG := tg_4 40 rfl rfl
set_option maxRecDepth 8000 in
theorem w_834 : (Jvm.Cond.instanceMethod ({ cls := "NextOneKnows$State", name := "everyDoing", desc := "()I" } : Jvm.MethodName)) ∈ TG := tg_4 41 rfl rfl
set_option maxRecDepth 8000 in
theorem sX11_all_9 : Site RX11 mX11_all 9 12 mX5_everyDoing (some 5) 1 := site_V (dk DX11_all 5 rfl) KX5 w_833 w_834 w_835 w_75 kX5_everyDoing pmX5_everyDoing (by decide)
set_option maxRecDepth 8000 in
theorem w_839 : (Jvm.Cond.selects "NextOneKnows$State" ({ cls := "NextOneKnows$State", name := "longestWait", desc := "(II)I" } : Jvm.MethodName) ({ cls := "NextOneKnows$State", name := "longestWait", desc := "(II)I" } : Jvm.MethodName)) ∈ TG := tg_4 46 rfl rfl
set_option maxRecDepth 8000 in
theorem w_837 : (Jvm.Cond.methodLink "NextOneKnows" (228 : Nat) ({ cls := "NextOneKnows$State", name := "longestWait", desc := "(II)I" } : Jvm.MethodName)) ∈ TG := tg_4 44 rfl rfl
set_option maxRecDepth 8000 in
theorem w_838 : (Jvm.Cond.instanceMethod ({ cls := "NextOneKnows$State", name := "longestWait", desc := "(II)I" } : Jvm.MethodName)) ∈ TG := tg_4 45 rfl rfl
set_option maxRecDepth 8000 in
theorem sX11_all_44 : Site RX11 mX11_all 44 47 mX5_longestWait (some 5) 3 := site_V (dk DX11_all 25 rfl) KX5 w_837 w_838 w_839 w_75 kX5_longestWait pmX5_longestWait (by decide)
set_option maxRecDepth 8000 in
theorem sX11_list_19 : Site RX11 mX11_list 19 22 mX11_isNot none 3 := site_S (dk DX11_list 12 rfl) w_342 w_343 w_74 kX11_isNot pmX11_isNot (by decide)
set_option maxRecDepth 8000 in
theorem sX11_list_33 : Site RX11 mX11_list 33 36 mX5_find (some 5) 2 := site_V (dk DX11_list 19 rfl) KX5 w_489 w_490 w_491 w_75 kX5_find pmX5_find (by decide)
set_option maxRecDepth 8000 in
theorem w_849 : (Jvm.Cond.selects "NextOneKnows$State" ({ cls := "NextOneKnows$State", name := "addRow", desc := "(II)I" } : Jvm.MethodName) ({ cls := "NextOneKnows$State", name := "addRow", desc := "(II)I" } : Jvm.MethodName)) ∈ TG := tg_4 56 rfl rfl
set_option maxRecDepth 8000 in
theorem w_847 : (Jvm.Cond.methodLink "NextOneKnows" (234 : Nat) ({ cls := "NextOneKnows$State", name := "addRow", desc := "(II)I" } : Jvm.MethodName)) ∈ TG := tg_4 54 rfl rfl
set_option maxRecDepth 8000 in
theorem w_848 : (Jvm.Cond.instanceMethod ({ cls := "NextOneKnows$State", name := "addRow", desc := "(II)I" } : Jvm.MethodName)) ∈ TG := tg_4 55 rfl rfl
set_option maxRecDepth 8000 in
theorem sX11_list_72 : Site RX11 mX11_list 72 75 mX5_addRow (some 5) 3 := site_V (dk DX11_list 38 rfl) KX5 w_847 w_848 w_849 w_75 kX5_addRow pmX5_addRow (by decide)
set_option maxRecDepth 8000 in
theorem w_857 : (Jvm.Cond.selects "NextOneKnows$State" ({ cls := "NextOneKnows$State", name := "weeksToRows", desc := "()I" } : Jvm.MethodName) ({ cls := "NextOneKnows$State", name := "weeksToRows", desc := "()I" } : Jvm.MethodName)) ∈ TG := tg_4 64 rfl rfl
set_option maxRecDepth 8000 in
theorem w_855 : (Jvm.Cond.methodLink "NextOneKnows" (237 : Nat) ({ cls := "NextOneKnows$State", name := "weeksToRows", desc := "()I" } : Jvm.MethodName)) ∈ TG := tg_4 62 rfl rfl
set_option maxRecDepth 8000 in
theorem w_856 : (Jvm.Cond.instanceMethod ({ cls := "NextOneKnows$State", name := "weeksToRows", desc := "()I" } : Jvm.MethodName)) ∈ TG := tg_4 63 rfl rfl
set_option maxRecDepth 8000 in
theorem sX11_looked_8 : Site RX11 mX11_looked 8 11 mX5_weeksToRows (some 5) 1 := site_V (dk DX11_looked 4 rfl) KX5 w_855 w_856 w_857 w_75 kX5_weeksToRows pmX5_weeksToRows (by decide)
set_option maxRecDepth 8000 in
theorem sX11_looked_11 : Site RX11 mX11_looked 11 14 mX0_look (some 0) 2 := site_V (dk DX11_looked 5 rfl) KX0 w_693 w_694 w_695 w_76 kX0_look pmX0_look (by decide)
set_option maxRecDepth 8000 in
theorem sX11_looked_32 : Site RX11 mX11_looked 32 35 mX0_pass (some 0) 3 := site_V (dk DX11_looked 14 rfl) KX0 w_729 w_730 w_731 w_76 kX0_pass pmX0_pass (by decide)
set_option maxRecDepth 8000 in
theorem w_862 : (Jvm.Cond.selects "NextOneKnows$Ahead" ({ cls := "NextOneKnows$Ahead", name := "firstRowNotSo", desc := "()I" } : Jvm.MethodName) ({ cls := "NextOneKnows$Ahead", name := "firstRowNotSo", desc := "()I" } : Jvm.MethodName)) ∈ TG := tg_4 69 rfl rfl
set_option maxRecDepth 8000 in
theorem w_860 : (Jvm.Cond.methodLink "NextOneKnows" (240 : Nat) ({ cls := "NextOneKnows$Ahead", name := "firstRowNotSo", desc := "()I" } : Jvm.MethodName)) ∈ TG := tg_4 67 rfl rfl
set_option maxRecDepth 8000 in
theorem w_861 : (Jvm.Cond.instanceMethod ({ cls := "NextOneKnows$Ahead", name := "firstRowNotSo", desc := "()I" } : Jvm.MethodName)) ∈ TG := tg_4 68 rfl rfl
set_option maxRecDepth 8000 in
theorem sX11_looked_40 : Site RX11 mX11_looked 40 43 mX0_firstRowNotSo (some 0) 1 := site_V (dk DX11_looked 18 rfl) KX0 w_860 w_861 w_862 w_76 kX0_firstRowNotSo pmX0_firstRowNotSo (by decide)
set_option maxRecDepth 8000 in
theorem sX11_fits_23 : Site RX11 mX11_fits 23 26 mX5_weeksToRows (some 5) 1 := site_V (dk DX11_fits 11 rfl) KX5 w_855 w_856 w_857 w_75 kX5_weeksToRows pmX5_weeksToRows (by decide)
set_option maxRecDepth 8000 in
theorem sX11_fits_26 : Site RX11 mX11_fits 26 29 mX0_look (some 0) 2 := site_V (dk DX11_fits 12 rfl) KX0 w_693 w_694 w_695 w_76 kX0_look pmX0_look (by decide)
set_option maxRecDepth 8000 in
theorem sX11_fits_38 : Site RX11 mX11_fits 38 41 mX5_everyDoing (some 5) 1 := site_V (dk DX11_fits 20 rfl) KX5 w_833 w_834 w_835 w_75 kX5_everyDoing pmX5_everyDoing (by decide)
set_option maxRecDepth 8000 in
theorem sX11_fits_56 : Site RX11 mX11_fits 56 59 mX0_pass (some 0) 3 := site_V (dk DX11_fits 28 rfl) KX0 w_729 w_730 w_731 w_76 kX0_pass pmX0_pass (by decide)
set_option maxRecDepth 8000 in
theorem sX11_fits_64 : Site RX11 mX11_fits 64 67 mX0_firstRowNotSo (some 0) 1 := site_V (dk DX11_fits 32 rfl) KX0 w_860 w_861 w_862 w_76 kX0_firstRowNotSo pmX0_firstRowNotSo (by decide)
set_option maxRecDepth 8000 in
theorem sX11_chance_4 : Site RX11 mX11_chance 4 7 mX11_isNot none 3 := site_S (dk DX11_chance_0 3 rfl) w_342 w_343 w_74 kX11_isNot pmX11_isNot (by decide)
set_option maxRecDepth 8000 in
theorem sX11_chance_13 : Site RX11 mX11_chance 13 16 mX11_isNot none 3 := site_S (dk DX11_chance_0 8 rfl) w_342 w_343 w_74 kX11_isNot pmX11_isNot (by decide)
set_option maxRecDepth 8000 in
theorem sX11_chance_49 : Site RX11 mX11_chance 49 52 mX5_find (some 5) 2 := site_V (dk DX11_chance_0 26 rfl) KX5 w_489 w_490 w_491 w_75 kX5_find pmX5_find (by decide)
set_option maxRecDepth 8000 in
theorem sX11_chance_68 : Site RX11 mX11_chance 68 71 mX11_bit none 2 := site_S (dk DX11_chance_0 34 rfl) w_516 w_517 w_74 kX11_bit pmX11_bit (by decide)
set_option maxRecDepth 8000 in
theorem sX11_chance_83_c1 : Site RX11 mX11_chance 83 86 mX1_weeksUntil (some 1) 2 := site_U (owner := RX1) (x := ⟨RX1, "weeksUntil", "(I)I"⟩) (dk DX11_chance_0 40 rfl) KX1 w_823 w_708 w_706 (kX1_weeksUntil) w_706 w_707 w_81 kX1_weeksUntil pmX1_weeksUntil (by decide)
set_option maxRecDepth 8000 in
theorem sX11_chance_83_c9 : Site RX11 mX11_chance 83 86 mX1_weeksUntil (some 9) 2 := site_U (owner := RX1) (x := ⟨RX1, "weeksUntil", "(I)I"⟩) (dk DX11_chance_0 40 rfl) KX9 w_823 w_708 w_706 (kX1_weeksUntil) w_706 w_713 w_81 kX1_weeksUntil pmX1_weeksUntil (by decide)
set_option maxRecDepth 8000 in
theorem sX11_chance_83_c8 : Site RX11 mX11_chance 83 86 mX1_weeksUntil (some 8) 2 := site_U (owner := RX1) (x := ⟨RX1, "weeksUntil", "(I)I"⟩) (dk DX11_chance_0 40 rfl) KX8 w_823 w_708 w_706 (kX1_weeksUntil) w_706 w_712 w_81 kX1_weeksUntil pmX1_weeksUntil (by decide)
set_option maxRecDepth 8000 in
theorem sX11_chance_83_c2 : Site RX11 mX11_chance 83 86 mX1_weeksUntil (some 2) 2 := site_U (owner := RX1) (x := ⟨RX1, "weeksUntil", "(I)I"⟩) (dk DX11_chance_0 40 rfl) KX2 w_823 w_708 w_706 (kX1_weeksUntil) w_706 w_709 w_81 kX1_weeksUntil pmX1_weeksUntil (by decide)
set_option maxRecDepth 8000 in
theorem sX11_chance_83_c6 : Site RX11 mX11_chance 83 86 mX1_weeksUntil (some 6) 2 := site_U (owner := RX1) (x := ⟨RX1, "weeksUntil", "(I)I"⟩) (dk DX11_chance_0 40 rfl) KX6 w_823 w_708 w_706 (kX1_weeksUntil) w_706 w_711 w_81 kX1_weeksUntil pmX1_weeksUntil (by decide)
set_option maxRecDepth 8000 in
theorem sX11_chance_83_c4 : Site RX11 mX11_chance 83 86 mX1_weeksUntil (some 4) 2 := site_U (owner := RX1) (x := ⟨RX1, "weeksUntil", "(I)I"⟩) (dk DX11_chance_0 40 rfl) KX4 w_823 w_708 w_706 (kX1_weeksUntil) w_706 w_710 w_81 kX1_weeksUntil pmX1_weeksUntil (by decide)
set_option maxRecDepth 8000 in
theorem sX11_chance_83_c10 : Site RX11 mX11_chance 83 86 mX1_weeksUntil (some 10) 2 := site_U (owner := RX1) (x := ⟨RX1, "weeksUntil", "(I)I"⟩) (dk DX11_chance_0 40 rfl) KX10 w_823 w_708 w_706 (kX1_weeksUntil) w_706 w_714 w_81 kX1_weeksUntil pmX1_weeksUntil (by decide)
set_option maxRecDepth 8000 in
theorem w_874 : (Jvm.Cond.methodLink "NextOneKnows" (247 : Nat) ({ cls := "NextOneKnows", name := "commonDivisor", desc := "(JJ)J" } : Jvm.MethodName)) ∈ TG := tg_4 81 rfl rfl
set_option maxRecDepth 8000 in
theorem w_875 : (Jvm.Cond.static ({ cls := "NextOneKnows", name := "commonDivisor", desc := "(JJ)J" } : Jvm.MethodName)) ∈ TG := tg_4 82 rfl rfl
set_option maxRecDepth 8000 in
theorem sX11_chance_121 : Site RX11 mX11_chance 121 124 mX11_commonDivisor none 2 := site_S (dk DX11_chance_1 0 rfl) w_874 w_875 w_74 kX11_commonDivisor pmX11_commonDivisor (by decide)
set_option maxRecDepth 8000 in
theorem sX11_judge_3 : Site RX11 mX11_judge 3 6 mX11_isNot none 3 := site_S (dk DX11_judge_0 3 rfl) w_342 w_343 w_74 kX11_isNot pmX11_isNot (by decide)
set_option maxRecDepth 8000 in
theorem sX11_judge_86 : Site RX11 mX11_judge 86 89 mX11_bit none 2 := site_S (dk DX11_judge_0 54 rfl) w_516 w_517 w_74 kX11_bit pmX11_bit (by decide)
set_option maxRecDepth 8000 in
theorem w_890 : (Jvm.Cond.selects "NextOneKnows$State" ({ cls := "NextOneKnows$State", name := "takeFrom", desc := "(LNextOneKnows$State;)V" } : Jvm.MethodName) ({ cls := "NextOneKnows$State", name := "takeFrom", desc := "(LNextOneKnows$State;)V" } : Jvm.MethodName)) ∈ TG := tg_4 97 rfl rfl
set_option maxRecDepth 8000 in
theorem w_888 : (Jvm.Cond.methodLink "NextOneKnows" (251 : Nat) ({ cls := "NextOneKnows$State", name := "takeFrom", desc := "(LNextOneKnows$State;)V" } : Jvm.MethodName)) ∈ TG := tg_4 95 rfl rfl
set_option maxRecDepth 8000 in
theorem w_889 : (Jvm.Cond.instanceMethod ({ cls := "NextOneKnows$State", name := "takeFrom", desc := "(LNextOneKnows$State;)V" } : Jvm.MethodName)) ∈ TG := tg_4 96 rfl rfl
set_option maxRecDepth 8000 in
theorem sX11_image_8 : Site RX11 mX11_image 8 11 mX5_takeFrom (some 5) 2 := site_V (dk DX11_image 4 rfl) KX5 w_888 w_889 w_890 w_75 kX5_takeFrom pmX5_takeFrom (by decide)
set_option maxRecDepth 8000 in
theorem sX11_undo_18 : Site RX11 mX11_undo 18 21 mX5_takeFrom (some 5) 2 := site_V (dk DX11_undo 9 rfl) KX5 w_888 w_889 w_890 w_75 kX5_takeFrom pmX5_takeFrom (by decide)
set_option maxRecDepth 8000 in
theorem sX11_act_13 : Site RX11 mX11_act 13 16 mX5_find (some 5) 2 := site_V (dk DX11_act 7 rfl) KX5 w_489 w_490 w_491 w_75 kX5_find pmX5_find (by decide)
set_option maxRecDepth 8000 in
theorem w_901 : (Jvm.Cond.methodLink "NextOneKnows" (261 : Nat) ({ cls := "NextOneKnows$Doing", name := "says", desc := "(ILNextOneKnows$Trace;)I" } : Jvm.MethodName)) ∈ TG := tg_4 108 rfl rfl
set_option maxRecDepth 8000 in
theorem sX11_act_59_c1 : Site RX11 mX11_act 59 62 mX1_says (some 1) 3 := site_U (owner := RX1) (x := ⟨RX1, "says", "(ILNextOneKnows$Trace;)I"⟩) (dk DX11_act 19 rfl) KX1 w_901 w_904 w_902 (kX1_says) w_902 w_903 w_81 kX1_says pmX1_says (by decide)
set_option maxRecDepth 8000 in
theorem sX11_act_59_c9 : Site RX11 mX11_act 59 62 mX1_says (some 9) 3 := site_U (owner := RX1) (x := ⟨RX1, "says", "(ILNextOneKnows$Trace;)I"⟩) (dk DX11_act 19 rfl) KX9 w_901 w_904 w_902 (kX1_says) w_902 w_922 w_81 kX1_says pmX1_says (by decide)
set_option maxRecDepth 8000 in
theorem sX11_act_59_c8 : Site RX11 mX11_act 59 62 mX8_says (some 8) 3 := site_U (owner := RX1) (x := ⟨RX1, "says", "(ILNextOneKnows$Trace;)I"⟩) (dk DX11_act 19 rfl) KX8 w_901 w_904 w_902 (kX1_says) w_916 w_915 w_86 kX8_says pmX1_says (by decide)
set_option maxRecDepth 8000 in
theorem sX11_act_59_c2 : Site RX11 mX11_act 59 62 mX2_says (some 2) 3 := site_U (owner := RX1) (x := ⟨RX1, "says", "(ILNextOneKnows$Trace;)I"⟩) (dk DX11_act 19 rfl) KX2 w_901 w_904 w_902 (kX1_says) w_906 w_905 w_84 kX2_says pmX1_says (by decide)
set_option maxRecDepth 8000 in
theorem sX11_act_59_c6 : Site RX11 mX11_act 59 62 mX2_says (some 6) 3 := site_U (owner := RX1) (x := ⟨RX1, "says", "(ILNextOneKnows$Trace;)I"⟩) (dk DX11_act 19 rfl) KX6 w_901 w_904 w_902 (kX1_says) w_906 w_914 w_84 kX2_says pmX1_says (by decide)
set_option maxRecDepth 8000 in
theorem sX11_act_59_c4 : Site RX11 mX11_act 59 62 mX1_says (some 4) 3 := site_U (owner := RX1) (x := ⟨RX1, "says", "(ILNextOneKnows$Trace;)I"⟩) (dk DX11_act 19 rfl) KX4 w_901 w_904 w_902 (kX1_says) w_902 w_913 w_81 kX1_says pmX1_says (by decide)
set_option maxRecDepth 8000 in
theorem sX11_act_59_c10 : Site RX11 mX11_act 59 62 mX10_says (some 10) 3 := site_U (owner := RX1) (x := ⟨RX1, "says", "(ILNextOneKnows$Trace;)I"⟩) (dk DX11_act 19 rfl) KX10 w_901 w_904 w_902 (kX1_says) w_924 w_923 w_88 kX10_says pmX1_says (by decide)
set_option maxRecDepth 8000 in
theorem w_931 : (Jvm.Cond.methodLink "NextOneKnows" (265 : Nat) ({ cls := "NextOneKnows$Doing", name := "holds", desc := "(ILNextOneKnows$Trace;)I" } : Jvm.MethodName)) ∈ TG := tg_4 138 rfl rfl
set_option maxRecDepth 8000 in
theorem sX11_act_70_c1 : Site RX11 mX11_act 70 73 mX1_holds (some 1) 3 := site_U (owner := RX1) (x := ⟨RX1, "holds", "(ILNextOneKnows$Trace;)I"⟩) (dk DX11_act 25 rfl) KX1 w_931 w_934 w_932 (kX1_holds) w_932 w_933 w_81 kX1_holds pmX1_holds (by decide)
set_option maxRecDepth 8000 in
theorem sX11_act_70_c9 : Site RX11 mX11_act 70 73 mX9_holds (some 9) 3 := site_U (owner := RX1) (x := ⟨RX1, "holds", "(ILNextOneKnows$Trace;)I"⟩) (dk DX11_act 25 rfl) KX9 w_931 w_934 w_932 (kX1_holds) w_942 w_946 w_82 kX9_holds pmX1_holds (by decide)
set_option maxRecDepth 8000 in
theorem sX11_act_70_c8 : Site RX11 mX11_act 70 73 mX8_holds (some 8) 3 := site_U (owner := RX1) (x := ⟨RX1, "holds", "(ILNextOneKnows$Trace;)I"⟩) (dk DX11_act 25 rfl) KX8 w_931 w_934 w_932 (kX1_holds) w_939 w_938 w_86 kX8_holds pmX1_holds (by decide)
set_option maxRecDepth 8000 in
theorem sX11_act_70_c2 : Site RX11 mX11_act 70 73 mX1_holds (some 2) 3 := site_U (owner := RX1) (x := ⟨RX1, "holds", "(ILNextOneKnows$Trace;)I"⟩) (dk DX11_act 25 rfl) KX2 w_931 w_934 w_932 (kX1_holds) w_932 w_935 w_81 kX1_holds pmX1_holds (by decide)
set_option maxRecDepth 8000 in
theorem sX11_act_70_c6 : Site RX11 mX11_act 70 73 mX1_holds (some 6) 3 := site_U (owner := RX1) (x := ⟨RX1, "holds", "(ILNextOneKnows$Trace;)I"⟩) (dk DX11_act 25 rfl) KX6 w_931 w_934 w_932 (kX1_holds) w_932 w_937 w_81 kX1_holds pmX1_holds (by decide)
set_option maxRecDepth 8000 in
theorem sX11_act_70_c4 : Site RX11 mX11_act 70 73 mX1_holds (some 4) 3 := site_U (owner := RX1) (x := ⟨RX1, "holds", "(ILNextOneKnows$Trace;)I"⟩) (dk DX11_act 25 rfl) KX4 w_931 w_934 w_932 (kX1_holds) w_932 w_936 w_81 kX1_holds pmX1_holds (by decide)
set_option maxRecDepth 8000 in
theorem sX11_act_70_c10 : Site RX11 mX11_act 70 73 mX10_holds (some 10) 3 := site_U (owner := RX1) (x := ⟨RX1, "holds", "(ILNextOneKnows$Trace;)I"⟩) (dk DX11_act 25 rfl) KX10 w_931 w_934 w_932 (kX1_holds) w_948 w_947 w_88 kX10_holds pmX1_holds (by decide)
set_option maxRecDepth 8000 in
theorem w_955 : (Jvm.Cond.methodLink "NextOneKnows" (268 : Nat) ({ cls := "NextOneKnows$Doing", name := "tells", desc := "(ILNextOneKnows$Trace;)I" } : Jvm.MethodName)) ∈ TG := tg_4 162 rfl rfl
set_option maxRecDepth 8000 in
theorem w_957 : (Jvm.Cond.selects "NextOneKnows$Doing" ({ cls := "NextOneKnows$Doing", name := "tells", desc := "(ILNextOneKnows$Trace;)I" } : Jvm.MethodName) ({ cls := "NextOneKnows$Doing", name := "tells", desc := "(ILNextOneKnows$Trace;)I" } : Jvm.MethodName)) ∈ TG := tg_4 164 rfl rfl
set_option maxRecDepth 8000 in
theorem sX11_act_81_c1 : Site RX11 mX11_act 81 84 mX1_tells (some 1) 3 := site_U (owner := RX1) (x := ⟨RX1, "tells", "(ILNextOneKnows$Trace;)I"⟩) (dk DX11_act 31 rfl) KX1 w_955 w_958 w_956 (kX1_tells) w_956 w_957 w_81 kX1_tells pmX1_tells (by decide)
set_option maxRecDepth 8000 in
theorem w_976 : (Jvm.Cond.selects "NextOneKnows$Written" ({ cls := "NextOneKnows$Doing", name := "tells", desc := "(ILNextOneKnows$Trace;)I" } : Jvm.MethodName) ({ cls := "NextOneKnows$Doing", name := "tells", desc := "(ILNextOneKnows$Trace;)I" } : Jvm.MethodName)) ∈ TG := tg_4 183 rfl rfl
set_option maxRecDepth 8000 in
theorem sX11_act_81_c9 : Site RX11 mX11_act 81 84 mX1_tells (some 9) 3 := site_U (owner := RX1) (x := ⟨RX1, "tells", "(ILNextOneKnows$Trace;)I"⟩) (dk DX11_act 31 rfl) KX9 w_955 w_958 w_956 (kX1_tells) w_956 w_976 w_81 kX1_tells pmX1_tells (by decide)
set_option maxRecDepth 8000 in
theorem w_975 : (Jvm.Cond.selects "NextOneKnows$Why" ({ cls := "NextOneKnows$Doing", name := "tells", desc := "(ILNextOneKnows$Trace;)I" } : Jvm.MethodName) ({ cls := "NextOneKnows$Doing", name := "tells", desc := "(ILNextOneKnows$Trace;)I" } : Jvm.MethodName)) ∈ TG := tg_4 182 rfl rfl
set_option maxRecDepth 8000 in
theorem sX11_act_81_c8 : Site RX11 mX11_act 81 84 mX1_tells (some 8) 3 := site_U (owner := RX1) (x := ⟨RX1, "tells", "(ILNextOneKnows$Trace;)I"⟩) (dk DX11_act 31 rfl) KX8 w_955 w_958 w_956 (kX1_tells) w_956 w_975 w_81 kX1_tells pmX1_tells (by decide)
set_option maxRecDepth 8000 in
theorem w_959 : (Jvm.Cond.selects "NextOneKnows$Plain" ({ cls := "NextOneKnows$Doing", name := "tells", desc := "(ILNextOneKnows$Trace;)I" } : Jvm.MethodName) ({ cls := "NextOneKnows$Doing", name := "tells", desc := "(ILNextOneKnows$Trace;)I" } : Jvm.MethodName)) ∈ TG := tg_4 166 rfl rfl
set_option maxRecDepth 8000 in
theorem sX11_act_81_c2 : Site RX11 mX11_act 81 84 mX1_tells (some 2) 3 := site_U (owner := RX1) (x := ⟨RX1, "tells", "(ILNextOneKnows$Trace;)I"⟩) (dk DX11_act 31 rfl) KX2 w_955 w_958 w_956 (kX1_tells) w_956 w_959 w_81 kX1_tells pmX1_tells (by decide)
set_option maxRecDepth 8000 in
theorem w_969 : (Jvm.Cond.instanceMethod ({ cls := "NextOneKnows$Tied", name := "tells", desc := "(ILNextOneKnows$Trace;)I" } : Jvm.MethodName)) ∈ TG := tg_4 176 rfl rfl
set_option maxRecDepth 8000 in
theorem w_968 : (Jvm.Cond.selects "NextOneKnows$Tied" ({ cls := "NextOneKnows$Doing", name := "tells", desc := "(ILNextOneKnows$Trace;)I" } : Jvm.MethodName) ({ cls := "NextOneKnows$Tied", name := "tells", desc := "(ILNextOneKnows$Trace;)I" } : Jvm.MethodName)) ∈ TG := tg_4 175 rfl rfl
set_option maxRecDepth 8000 in
theorem sX11_act_81_c6 : Site RX11 mX11_act 81 84 mX6_tells (some 6) 3 := site_U (owner := RX1) (x := ⟨RX1, "tells", "(ILNextOneKnows$Trace;)I"⟩) (dk DX11_act 31 rfl) KX6 w_955 w_958 w_956 (kX1_tells) w_969 w_968 w_87 kX6_tells pmX1_tells (by decide)
set_option maxRecDepth 8000 in
theorem w_961 : (Jvm.Cond.instanceMethod ({ cls := "NextOneKnows$Rare", name := "tells", desc := "(ILNextOneKnows$Trace;)I" } : Jvm.MethodName)) ∈ TG := tg_4 168 rfl rfl
set_option maxRecDepth 8000 in
theorem w_960 : (Jvm.Cond.selects "NextOneKnows$Rare" ({ cls := "NextOneKnows$Doing", name := "tells", desc := "(ILNextOneKnows$Trace;)I" } : Jvm.MethodName) ({ cls := "NextOneKnows$Rare", name := "tells", desc := "(ILNextOneKnows$Trace;)I" } : Jvm.MethodName)) ∈ TG := tg_4 167 rfl rfl
set_option maxRecDepth 8000 in
theorem sX11_act_81_c4 : Site RX11 mX11_act 81 84 mX4_tells (some 4) 3 := site_U (owner := RX1) (x := ⟨RX1, "tells", "(ILNextOneKnows$Trace;)I"⟩) (dk DX11_act 31 rfl) KX4 w_955 w_958 w_956 (kX1_tells) w_961 w_960 w_85 kX4_tells pmX1_tells (by decide)
set_option maxRecDepth 8000 in
theorem w_977 : (Jvm.Cond.selects "NextOneKnows$Wrong" ({ cls := "NextOneKnows$Doing", name := "tells", desc := "(ILNextOneKnows$Trace;)I" } : Jvm.MethodName) ({ cls := "NextOneKnows$Rare", name := "tells", desc := "(ILNextOneKnows$Trace;)I" } : Jvm.MethodName)) ∈ TG := tg_4 184 rfl rfl
set_option maxRecDepth 8000 in
theorem sX11_act_81_c10 : Site RX11 mX11_act 81 84 mX4_tells (some 10) 3 := site_U (owner := RX1) (x := ⟨RX1, "tells", "(ILNextOneKnows$Trace;)I"⟩) (dk DX11_act 31 rfl) KX10 w_955 w_958 w_956 (kX1_tells) w_961 w_977 w_85 kX4_tells pmX1_tells (by decide)
set_option maxRecDepth 8000 in
theorem sX11_taken_4 : Site RX11 mX11_taken 4 7 mX11_isNot none 3 := site_S (dk DX11_taken 3 rfl) w_342 w_343 w_74 kX11_isNot pmX11_isNot (by decide)
set_option maxRecDepth 8000 in
theorem sX11_taken_18 : Site RX11 mX11_taken 18 21 mX5_find (some 5) 2 := site_V (dk DX11_taken 10 rfl) KX5 w_489 w_490 w_491 w_75 kX5_find pmX5_find (by decide)
set_option maxRecDepth 8000 in
theorem w_988 : (Jvm.Cond.methodLink "NextOneKnows" (274 : Nat) ({ cls := "NextOneKnows", name := "isOfKind", desc := "(LNextOneKnows$Doing;I)Z" } : Jvm.MethodName)) ∈ TG := tg_4 195 rfl rfl
set_option maxRecDepth 8000 in
theorem w_989 : (Jvm.Cond.static ({ cls := "NextOneKnows", name := "isOfKind", desc := "(LNextOneKnows$Doing;I)Z" } : Jvm.MethodName)) ∈ TG := tg_4 196 rfl rfl
set_option maxRecDepth 8000 in
theorem sX11_taken_31 : Site RX11 mX11_taken 31 34 mX11_isOfKind none 2 := site_S (dk DX11_taken 18 rfl) w_988 w_989 w_74 kX11_isOfKind pmX11_isOfKind (by decide)
set_option maxRecDepth 8000 in
theorem sX11_taken_38_c1 : Site RX11 mX11_taken 38 41 mX1_kind (some 1) 1 := site_U (owner := RX1) (x := ⟨RX1, "kind", "()I"⟩) (dk DX11_taken 21 rfl) KX1 w_493 w_496 w_494 (kX1_kind) w_494 w_495 w_81 kX1_kind pmX1_kind (by decide)
set_option maxRecDepth 8000 in
theorem sX11_taken_38_c9 : Site RX11 mX11_taken 38 41 mX9_kind (some 9) 1 := site_U (owner := RX1) (x := ⟨RX1, "kind", "()I"⟩) (dk DX11_taken 21 rfl) KX9 w_493 w_496 w_494 (kX1_kind) w_510 w_509 w_82 kX9_kind pmX1_kind (by decide)
set_option maxRecDepth 8000 in
theorem sX11_taken_38_c8 : Site RX11 mX11_taken 38 41 mX8_kind (some 8) 1 := site_U (owner := RX1) (x := ⟨RX1, "kind", "()I"⟩) (dk DX11_taken 21 rfl) KX8 w_493 w_496 w_494 (kX1_kind) w_507 w_506 w_86 kX8_kind pmX1_kind (by decide)
set_option maxRecDepth 8000 in
theorem sX11_taken_38_c2 : Site RX11 mX11_taken 38 41 mX2_kind (some 2) 1 := site_U (owner := RX1) (x := ⟨RX1, "kind", "()I"⟩) (dk DX11_taken 21 rfl) KX2 w_493 w_496 w_494 (kX1_kind) w_498 w_497 w_84 kX2_kind pmX1_kind (by decide)
set_option maxRecDepth 8000 in
theorem sX11_taken_38_c6 : Site RX11 mX11_taken 38 41 mX6_kind (some 6) 1 := site_U (owner := RX1) (x := ⟨RX1, "kind", "()I"⟩) (dk DX11_taken 21 rfl) KX6 w_493 w_496 w_494 (kX1_kind) w_504 w_503 w_87 kX6_kind pmX1_kind (by decide)
set_option maxRecDepth 8000 in
theorem sX11_taken_38_c4 : Site RX11 mX11_taken 38 41 mX4_kind (some 4) 1 := site_U (owner := RX1) (x := ⟨RX1, "kind", "()I"⟩) (dk DX11_taken 21 rfl) KX4 w_493 w_496 w_494 (kX1_kind) w_501 w_500 w_85 kX4_kind pmX1_kind (by decide)
set_option maxRecDepth 8000 in
theorem sX11_taken_38_c10 : Site RX11 mX11_taken 38 41 mX10_kind (some 10) 1 := site_U (owner := RX1) (x := ⟨RX1, "kind", "()I"⟩) (dk DX11_taken 21 rfl) KX10 w_493 w_496 w_494 (kX1_kind) w_513 w_512 w_88 kX10_kind pmX1_kind (by decide)
set_option maxRecDepth 8000 in
theorem sX11_count_81 : Site RX11 mX11_count 81 84 mJ6_bitCount_0f7a4 none 1 := site_S (dk DX11_count 23 rfl) w_683 w_684 w_89 kJ6_bitCount_0f7a4 pmJ6_bitCount_0f7a4 (by decide)
set_option maxRecDepth 8000 in
theorem sX11_tape_3 : Site RX11 mX11_tape 3 6 mX11_isNot none 3 := site_S (dk DX11_tape 3 rfl) w_342 w_343 w_74 kX11_isNot pmX11_isNot (by decide)
set_option maxRecDepth 8000 in
theorem sX11_tape_14 : Site RX11 mX11_tape 14 17 mX11_isNot none 3 := site_S (dk DX11_tape 10 rfl) w_342 w_343 w_74 kX11_isNot pmX11_isNot (by decide)
set_option maxRecDepth 8000 in
theorem w_999 : (Jvm.Cond.methodLink "NextOneKnows" (278 : Nat) ({ cls := "java/util/Arrays", name := "fill", desc := "([JJ)V" } : Jvm.MethodName)) ∈ TG := tg_4 206 rfl rfl
set_option maxRecDepth 8000 in
theorem w_1000 : (Jvm.Cond.static ({ cls := "java/util/Arrays", name := "fill", desc := "([JJ)V" } : Jvm.MethodName)) ∈ TG := tg_4 207 rfl rfl
set_option maxRecDepth 8000 in
theorem sX11_tape_76 : Site RX11 mX11_tape 76 79 mJ7_fill_d0a16 none 2 := site_S (dk DX11_tape 47 rfl) w_999 w_1000 w_78 kJ7_fill_d0a16 pmJ7_fill_d0a16 (by decide)
set_option maxRecDepth 8000 in
theorem sX11_item_3 : Site RX11 mX11_item 3 6 mX11_isNot none 3 := site_S (dk DX11_item 3 rfl) w_342 w_343 w_74 kX11_isNot pmX11_isNot (by decide)
set_option maxRecDepth 8000 in
theorem sX11_item_34 : Site RX11 mX11_item 34 37 mX11_isNot none 3 := site_S (dk DX11_item 23 rfl) w_342 w_343 w_74 kX11_isNot pmX11_isNot (by decide)
set_option maxRecDepth 8000 in
theorem w_1006 : (Jvm.Cond.methodLink "NextOneKnows" (281 : Nat) ({ cls := "NextOneKnows", name := "cut", desc := "(JI)J" } : Jvm.MethodName)) ∈ TG := tg_4 213 rfl rfl
set_option maxRecDepth 8000 in
theorem w_1007 : (Jvm.Cond.static ({ cls := "NextOneKnows", name := "cut", desc := "(JI)J" } : Jvm.MethodName)) ∈ TG := tg_4 214 rfl rfl
set_option maxRecDepth 8000 in
theorem sX11_item_57 : Site RX11 mX11_item 57 60 mX11_cut none 2 := site_S (dk DX11_item 37 rfl) w_1006 w_1007 w_74 kX11_cut pmX11_cut (by decide)
set_option maxRecDepth 8000 in
theorem sX11_read_3 : Site RX11 mX11_read 3 6 mX11_isNot none 3 := site_S (dk DX11_read 3 rfl) w_342 w_343 w_74 kX11_isNot pmX11_isNot (by decide)
set_option maxRecDepth 8000 in
theorem sX11_read_19 : Site RX11 mX11_read 19 22 mX11_isNot none 3 := site_S (dk DX11_read 13 rfl) w_342 w_343 w_74 kX11_isNot pmX11_isNot (by decide)
set_option maxRecDepth 8000 in
theorem sX11_shift_3 : Site RX11 mX11_shift 3 6 mX11_isNot none 3 := site_S (dk DX11_shift_0 3 rfl) w_342 w_343 w_74 kX11_isNot pmX11_isNot (by decide)
set_option maxRecDepth 8000 in
theorem sX11_shift_12 : Site RX11 mX11_shift 12 15 mX11_isNot none 3 := site_S (dk DX11_shift_0 8 rfl) w_342 w_343 w_74 kX11_isNot pmX11_isNot (by decide)
set_option maxRecDepth 8000 in
theorem sX11_shift_77 : Site RX11 mX11_shift 77 80 mX11_isNot none 3 := site_S (dk DX11_shift_0 47 rfl) w_342 w_343 w_74 kX11_isNot pmX11_isNot (by decide)
set_option maxRecDepth 8000 in
theorem sX11_shift_95 : Site RX11 mX11_shift 95 98 mX11_isNot none 3 := site_S (dk DX11_shift_0 57 rfl) w_342 w_343 w_74 kX11_isNot pmX11_isNot (by decide)
set_option maxRecDepth 8000 in
theorem w_877 : (Jvm.Cond.methodLink "NextOneKnows" (291 : Nat) ({ cls := "java/lang/Math", name := "max", desc := "(JJ)J" } : Jvm.MethodName)) ∈ TG := tg_4 84 rfl rfl
set_option maxRecDepth 8000 in
theorem w_878 : (Jvm.Cond.static ({ cls := "java/lang/Math", name := "max", desc := "(JJ)J" } : Jvm.MethodName)) ∈ TG := tg_4 85 rfl rfl
set_option maxRecDepth 8000 in
theorem sX11_commonDivisor_47 : Site RX11 mX11_commonDivisor 47 50 mJ9_max_f86c9 none 2 := site_S (dk DX11_commonDivisor 25 rfl) w_877 w_878 w_83 kJ9_max_f86c9 pmJ9_max_f86c9 (by decide)
set_option maxRecDepth 8000 in
theorem w_350 : (Jvm.Cond.methodLink "NextOneKnows" (298 : Nat) ({ cls := "NextOneKnows$Written", name := "<init>", desc := "(IIIIII)V" } : Jvm.MethodName)) ∈ TG := tg_2 37 rfl rfl
set_option maxRecDepth 8000 in
theorem sX11_made_53 {ci : Nat} : Site RX11 mX11_made 53 56 mX9_init (some ci) 7 := site_I (dk DX11_made_0 10 rfl) rfl rfl w_350 w_351 w_82 kX9_init pmX9_init (by decide)
set_option maxRecDepth 8000 in
theorem w_408 : (Jvm.Cond.methodLink "NextOneKnows" (303 : Nat) ({ cls := "NextOneKnows$Plain", name := "<init>", desc := "(IIIIII)V" } : Jvm.MethodName)) ∈ TG := tg_2 95 rfl rfl
set_option maxRecDepth 8000 in
theorem sX11_made_70 {ci : Nat} : Site RX11 mX11_made 70 73 mX2_init (some ci) 7 := site_I (dk DX11_made_0 20 rfl) rfl rfl w_408 w_409 w_84 kX2_init pmX2_init (by decide)
set_option maxRecDepth 8000 in
theorem w_421 : (Jvm.Cond.methodLink "NextOneKnows" (306 : Nat) ({ cls := "NextOneKnows$Rare", name := "<init>", desc := "(IIIIII)V" } : Jvm.MethodName)) ∈ TG := tg_2 108 rfl rfl
set_option maxRecDepth 8000 in
theorem sX11_made_87 {ci : Nat} : Site RX11 mX11_made 87 90 mX4_init (some ci) 7 := site_I (dk DX11_made_0 30 rfl) rfl rfl w_421 w_422 w_85 kX4_init pmX4_init (by decide)
set_option maxRecDepth 8000 in
theorem w_434 : (Jvm.Cond.methodLink "NextOneKnows" (309 : Nat) ({ cls := "NextOneKnows$Why", name := "<init>", desc := "(IIIIII)V" } : Jvm.MethodName)) ∈ TG := tg_2 121 rfl rfl
set_option maxRecDepth 8000 in
theorem w_435 : (Jvm.Cond.instanceMethod ({ cls := "NextOneKnows$Why", name := "<init>", desc := "(IIIIII)V" } : Jvm.MethodName)) ∈ TG := tg_2 122 rfl rfl
set_option maxRecDepth 8000 in
theorem sX11_made_104 {ci : Nat} : Site RX11 mX11_made 104 107 mX8_init (some ci) 7 := site_I (dk DX11_made_0 40 rfl) rfl rfl w_434 w_435 w_86 kX8_init pmX8_init (by decide)
set_option maxRecDepth 8000 in
theorem w_447 : (Jvm.Cond.methodLink "NextOneKnows" (312 : Nat) ({ cls := "NextOneKnows$Tied", name := "<init>", desc := "(IIIIII)V" } : Jvm.MethodName)) ∈ TG := tg_2 134 rfl rfl
set_option maxRecDepth 8000 in
theorem w_448 : (Jvm.Cond.instanceMethod ({ cls := "NextOneKnows$Tied", name := "<init>", desc := "(IIIIII)V" } : Jvm.MethodName)) ∈ TG := tg_2 135 rfl rfl
set_option maxRecDepth 8000 in
theorem sX11_made_121 {ci : Nat} : Site RX11 mX11_made 121 124 mX6_init (some ci) 7 := site_I (dk DX11_made_0 50 rfl) rfl rfl w_447 w_448 w_87 kX6_init pmX6_init (by decide)
set_option maxRecDepth 8000 in
theorem w_460 : (Jvm.Cond.methodLink "NextOneKnows" (315 : Nat) ({ cls := "NextOneKnows$Wrong", name := "<init>", desc := "(IIIIII)V" } : Jvm.MethodName)) ∈ TG := tg_2 147 rfl rfl
set_option maxRecDepth 8000 in
theorem w_461 : (Jvm.Cond.instanceMethod ({ cls := "NextOneKnows$Wrong", name := "<init>", desc := "(IIIIII)V" } : Jvm.MethodName)) ∈ TG := tg_2 148 rfl rfl
set_option maxRecDepth 8000 in
theorem sX11_made_138 {ci : Nat} : Site RX11 mX11_made 138 141 mX10_init (some ci) 7 := site_I (dk DX11_made_1 0 rfl) rfl rfl w_460 w_461 w_88 kX10_init pmX10_init (by decide)
set_option maxRecDepth 8000 in
theorem w_473 : (Jvm.Cond.methodLink "NextOneKnows" (316 : Nat) ({ cls := "NextOneKnows$Doing", name := "<init>", desc := "(IIIIII)V" } : Jvm.MethodName)) ∈ TG := tg_2 160 rfl rfl
set_option maxRecDepth 8000 in
theorem sX11_made_155 {ci : Nat} : Site RX11 mX11_made 155 158 mX1_init (some ci) 7 := site_I (dk DX11_made_1 10 rfl) rfl rfl w_473 w_354 w_81 kX1_init pmX1_init (by decide)
set_option maxRecDepth 8000 in
theorem w_17 : Cond.selects "NextOneKnowsModel" ({ cls := "NextOneKnowsModel", name := "in", desc := "(III)Z" } : Jvm.MethodName) ({ cls := "NextOneKnowsModel", name := "in", desc := "(III)Z" } : Jvm.MethodName) ∈ TG := tg_p 17 rfl rfl
set_option maxRecDepth 8000 in
theorem w_1249 : (Jvm.Cond.methodLink "NextOneKnowsModel" (233 : Nat) ({ cls := "NextOneKnowsModel", name := "in", desc := "(III)Z" } : Jvm.MethodName)) ∈ TG := tg_5 216 rfl rfl
set_option maxRecDepth 8000 in
theorem w_1251 : (Jvm.Cond.instanceMethod ({ cls := "NextOneKnowsModel", name := "in", desc := "(III)Z" } : Jvm.MethodName)) ∈ TG := tg_5 218 rfl rfl
set_option maxRecDepth 8000 in
theorem w_80 : (Jvm.Cond.initialized "NextOneKnowsModel") ∈ TG := tg_1 7 rfl rfl
set_option maxRecDepth 8000 in
theorem sX12_isDoing_9 : Site RX12 mX12_isDoing 9 12 mX12_in (some 12) 4 := site_V (dk DX12_isDoing 7 rfl) KX12 w_1249 w_1251 w_17 w_80 kX12_in pmX12_in (by decide)
set_option maxRecDepth 8000 in
theorem sX12_isWay_4 : Site RX12 mX12_isWay 4 7 mX12_in (some 12) 4 := site_V (dk DX12_isWay 4 rfl) KX12 w_1249 w_1251 w_17 w_80 kX12_in pmX12_in (by decide)
set_option maxRecDepth 8000 in
theorem sX12_doing_5 : Site RX12 mX12_doing 5 8 mX12_in (some 12) 4 := site_V (dk DX12_doing_0 4 rfl) KX12 w_1249 w_1251 w_17 w_80 kX12_in pmX12_in (by decide)
set_option maxRecDepth 8000 in
theorem sX12_doing_18 : Site RX12 mX12_doing 18 21 mX12_in (some 12) 4 := site_V (dk DX12_doing_0 12 rfl) KX12 w_1249 w_1251 w_17 w_80 kX12_in pmX12_in (by decide)
set_option maxRecDepth 8000 in
theorem sX12_doing_29 : Site RX12 mX12_doing 29 32 mX12_in (some 12) 4 := site_V (dk DX12_doing_0 18 rfl) KX12 w_1249 w_1251 w_17 w_80 kX12_in pmX12_in (by decide)
set_option maxRecDepth 8000 in
theorem sX12_doing_42 : Site RX12 mX12_doing 42 45 mX12_in (some 12) 4 := site_V (dk DX12_doing_0 26 rfl) KX12 w_1249 w_1251 w_17 w_80 kX12_in pmX12_in (by decide)
set_option maxRecDepth 8000 in
theorem sX12_doing_54 : Site RX12 mX12_doing 54 57 mX12_in (some 12) 4 := site_V (dk DX12_doing_0 32 rfl) KX12 w_1249 w_1251 w_17 w_80 kX12_in pmX12_in (by decide)
set_option maxRecDepth 8000 in
theorem sX12_doing_66 : Site RX12 mX12_doing 66 69 mX12_in (some 12) 4 := site_V (dk DX12_doing_0 38 rfl) KX12 w_1249 w_1251 w_17 w_80 kX12_in pmX12_in (by decide)
set_option maxRecDepth 8000 in
theorem w_18 : Cond.selects "NextOneKnowsModel" ({ cls := "NextOneKnowsModel", name := "with", desc := "(IIZ)I" } : Jvm.MethodName) ({ cls := "NextOneKnowsModel", name := "with", desc := "(IIZ)I" } : Jvm.MethodName) ∈ TG := tg_p 18 rfl rfl
set_option maxRecDepth 8000 in
theorem w_1253 : (Jvm.Cond.methodLink "NextOneKnowsModel" (237 : Nat) ({ cls := "NextOneKnowsModel", name := "with", desc := "(IIZ)I" } : Jvm.MethodName)) ∈ TG := tg_5 220 rfl rfl
set_option maxRecDepth 8000 in
theorem w_1255 : (Jvm.Cond.instanceMethod ({ cls := "NextOneKnowsModel", name := "with", desc := "(IIZ)I" } : Jvm.MethodName)) ∈ TG := tg_5 222 rfl rfl
set_option maxRecDepth 8000 in
theorem sX12_doing_161 : Site RX12 mX12_doing 161 164 mX12_with (some 12) 4 := site_V (dk DX12_doing_1 32 rfl) KX12 w_1253 w_1255 w_18 w_80 kX12_with pmX12_with (by decide)
set_option maxRecDepth 8000 in
theorem sX12_doing_176 : Site RX12 mX12_doing 176 179 mX12_with (some 12) 4 := site_V (dk DX12_doing_1 40 rfl) KX12 w_1253 w_1255 w_18 w_80 kX12_with pmX12_with (by decide)
set_option maxRecDepth 8000 in
theorem w_19 : Cond.selects "NextOneKnowsModel" ({ cls := "NextOneKnowsModel", name := "isDoing", desc := "(I)Z" } : Jvm.MethodName) ({ cls := "NextOneKnowsModel", name := "isDoing", desc := "(I)Z" } : Jvm.MethodName) ∈ TG := tg_p 19 rfl rfl
set_option maxRecDepth 8000 in
theorem w_1261 : (Jvm.Cond.methodLink "NextOneKnowsModel" (241 : Nat) ({ cls := "NextOneKnowsModel", name := "isDoing", desc := "(I)Z" } : Jvm.MethodName)) ∈ TG := tg_5 228 rfl rfl
set_option maxRecDepth 8000 in
theorem w_1263 : (Jvm.Cond.instanceMethod ({ cls := "NextOneKnowsModel", name := "isDoing", desc := "(I)Z" } : Jvm.MethodName)) ∈ TG := tg_5 230 rfl rfl
set_option maxRecDepth 8000 in
theorem sX12_needless_2 : Site RX12 mX12_needless 2 5 mX12_isDoing (some 12) 2 := site_V (dk DX12_needless 2 rfl) KX12 w_1261 w_1263 w_19 w_80 kX12_isDoing pmX12_isDoing (by decide)
set_option maxRecDepth 8000 in
theorem w_20 : Cond.selects "NextOneKnowsModel" ({ cls := "NextOneKnowsModel", name := "has", desc := "(II)Z" } : Jvm.MethodName) ({ cls := "NextOneKnowsModel", name := "has", desc := "(II)Z" } : Jvm.MethodName) ∈ TG := tg_p 20 rfl rfl
set_option maxRecDepth 8000 in
theorem w_1265 : (Jvm.Cond.methodLink "NextOneKnowsModel" (245 : Nat) ({ cls := "NextOneKnowsModel", name := "has", desc := "(II)Z" } : Jvm.MethodName)) ∈ TG := tg_5 232 rfl rfl
set_option maxRecDepth 8000 in
theorem w_1267 : (Jvm.Cond.instanceMethod ({ cls := "NextOneKnowsModel", name := "has", desc := "(II)Z" } : Jvm.MethodName)) ∈ TG := tg_5 234 rfl rfl
set_option maxRecDepth 8000 in
theorem sX12_needless_16 : Site RX12 mX12_needless 16 19 mX12_has (some 12) 3 := site_V (dk DX12_needless 10 rfl) KX12 w_1265 w_1267 w_20 w_80 kX12_has pmX12_has (by decide)
set_option maxRecDepth 8000 in
theorem sX12_needless_36 : Site RX12 mX12_needless 36 39 mX12_with (some 12) 4 := site_V (dk DX12_needless 22 rfl) KX12 w_1253 w_1255 w_18 w_80 kX12_with pmX12_with (by decide)
set_option maxRecDepth 8000 in
theorem sX12_learn_2 : Site RX12 mX12_learn 2 5 mX12_isDoing (some 12) 2 := site_V (dk DX12_learn 2 rfl) KX12 w_1261 w_1263 w_19 w_80 kX12_isDoing pmX12_isDoing (by decide)
set_option maxRecDepth 8000 in
theorem sX12_learn_16 : Site RX12 mX12_learn 16 19 mX12_has (some 12) 3 := site_V (dk DX12_learn 10 rfl) KX12 w_1265 w_1267 w_20 w_80 kX12_has pmX12_has (by decide)
set_option maxRecDepth 8000 in
theorem sX12_learn_36 : Site RX12 mX12_learn 36 39 mX12_with (some 12) 4 := site_V (dk DX12_learn 22 rfl) KX12 w_1253 w_1255 w_18 w_80 kX12_with pmX12_with (by decide)
set_option maxRecDepth 8000 in
theorem sX12_odds_2 : Site RX12 mX12_odds 2 5 mX12_isDoing (some 12) 2 := site_V (dk DX12_odds 2 rfl) KX12 w_1261 w_1263 w_19 w_80 kX12_isDoing pmX12_isDoing (by decide)
set_option maxRecDepth 8000 in
theorem sX12_odds_15 : Site RX12 mX12_odds 15 18 mX12_in (some 12) 4 := site_V (dk DX12_odds 10 rfl) KX12 w_1249 w_1251 w_17 w_80 kX12_in pmX12_in (by decide)
set_option maxRecDepth 8000 in
theorem w_21 : Cond.selects "NextOneKnowsModel" ({ cls := "NextOneKnowsModel", name := "isWay", desc := "(I)Z" } : Jvm.MethodName) ({ cls := "NextOneKnowsModel", name := "isWay", desc := "(I)Z" } : Jvm.MethodName) ∈ TG := tg_p 21 rfl rfl
set_option maxRecDepth 8000 in
theorem w_1281 : (Jvm.Cond.methodLink "NextOneKnowsModel" (249 : Nat) ({ cls := "NextOneKnowsModel", name := "isWay", desc := "(I)Z" } : Jvm.MethodName)) ∈ TG := tg_6 8 rfl rfl
set_option maxRecDepth 8000 in
theorem w_1283 : (Jvm.Cond.instanceMethod ({ cls := "NextOneKnowsModel", name := "isWay", desc := "(I)Z" } : Jvm.MethodName)) ∈ TG := tg_6 10 rfl rfl
set_option maxRecDepth 8000 in
theorem sX12_hours_2 : Site RX12 mX12_hours 2 5 mX12_isWay (some 12) 2 := site_V (dk DX12_hours 2 rfl) KX12 w_1281 w_1283 w_21 w_80 kX12_isWay pmX12_isWay (by decide)
set_option maxRecDepth 8000 in
theorem sX12_hours_15 : Site RX12 mX12_hours 15 18 mX12_in (some 12) 4 := site_V (dk DX12_hours 10 rfl) KX12 w_1249 w_1251 w_17 w_80 kX12_in pmX12_in (by decide)
set_option maxRecDepth 8000 in
theorem sX12_feed_5 : Site RX12 mX12_feed 5 8 mX12_in (some 12) 4 := site_V (dk DX12_feed 4 rfl) KX12 w_1249 w_1251 w_17 w_80 kX12_in pmX12_in (by decide)
set_option maxRecDepth 8000 in
theorem w_26 : Cond.selects "NextOneKnowsModel" ({ cls := "NextOneKnowsModel", name := "next", desc := "()I" } : Jvm.MethodName) ({ cls := "NextOneKnowsModel", name := "next", desc := "()I" } : Jvm.MethodName) ∈ TG := tg_p 26 rfl rfl
set_option maxRecDepth 8000 in
theorem w_1309 : (Jvm.Cond.methodLink "NextOneKnowsModel" (252 : Nat) ({ cls := "NextOneKnowsModel", name := "next", desc := "()I" } : Jvm.MethodName)) ∈ TG := tg_6 36 rfl rfl
set_option maxRecDepth 8000 in
theorem w_1311 : (Jvm.Cond.instanceMethod ({ cls := "NextOneKnowsModel", name := "next", desc := "()I" } : Jvm.MethodName)) ∈ TG := tg_6 38 rfl rfl
set_option maxRecDepth 8000 in
theorem sX12_takes_1 : Site RX12 mX12_takes 1 4 mX12_next (some 12) 1 := site_V (dk DX12_takes 1 rfl) KX12 w_1309 w_1311 w_26 w_80 kX12_next pmX12_next (by decide)
set_option maxRecDepth 8000 in
theorem w_28 : Cond.selects "NextOneKnowsModel" ({ cls := "NextOneKnowsModel", name := "takes", desc := "(I)Z" } : Jvm.MethodName) ({ cls := "NextOneKnowsModel", name := "takes", desc := "(I)Z" } : Jvm.MethodName) ∈ TG := tg_p 28 rfl rfl
set_option maxRecDepth 8000 in
theorem w_1317 : (Jvm.Cond.methodLink "NextOneKnowsModel" (256 : Nat) ({ cls := "NextOneKnowsModel", name := "takes", desc := "(I)Z" } : Jvm.MethodName)) ∈ TG := tg_6 44 rfl rfl
set_option maxRecDepth 8000 in
theorem w_1319 : (Jvm.Cond.instanceMethod ({ cls := "NextOneKnowsModel", name := "takes", desc := "(I)Z" } : Jvm.MethodName)) ∈ TG := tg_6 46 rfl rfl
set_option maxRecDepth 8000 in
theorem sX12_takesWord_16 : Site RX12 mX12_takesWord 16 19 mX12_takes (some 12) 2 := site_V (dk DX12_takesWord 12 rfl) KX12 w_1317 w_1319 w_28 w_80 kX12_takes pmX12_takes (by decide)
set_option maxRecDepth 8000 in
theorem sX12_takesWord_33 : Site RX12 mX12_takesWord 33 36 mX12_takes (some 12) 2 := site_V (dk DX12_takesWord 20 rfl) KX12 w_1317 w_1319 w_28 w_80 kX12_takes pmX12_takes (by decide)
set_option maxRecDepth 8000 in
theorem sX12_isDigit_2 : Site RX12 mX12_isDigit 2 5 mX12_next (some 12) 1 := site_V (dk DX12_isDigit 2 rfl) KX12 w_1309 w_1311 w_26 w_80 kX12_next pmX12_next (by decide)
set_option maxRecDepth 8000 in
theorem sX12_isDigit_9 : Site RX12 mX12_isDigit 9 12 mX12_in (some 12) 4 := site_V (dk DX12_isDigit 5 rfl) KX12 w_1249 w_1251 w_17 w_80 kX12_in pmX12_in (by decide)
set_option maxRecDepth 8000 in
theorem w_30 : Cond.selects "NextOneKnowsModel" ({ cls := "NextOneKnowsModel", name := "isDigit", desc := "()Z" } : Jvm.MethodName) ({ cls := "NextOneKnowsModel", name := "isDigit", desc := "()Z" } : Jvm.MethodName) ∈ TG := tg_p 30 rfl rfl
set_option maxRecDepth 8000 in
theorem w_1325 : (Jvm.Cond.methodLink "NextOneKnowsModel" (259 : Nat) ({ cls := "NextOneKnowsModel", name := "isDigit", desc := "()Z" } : Jvm.MethodName)) ∈ TG := tg_6 52 rfl rfl
set_option maxRecDepth 8000 in
theorem w_1327 : (Jvm.Cond.instanceMethod ({ cls := "NextOneKnowsModel", name := "isDigit", desc := "()Z" } : Jvm.MethodName)) ∈ TG := tg_6 54 rfl rfl
set_option maxRecDepth 8000 in
theorem sX12_takesNumber_1 : Site RX12 mX12_takesNumber 1 4 mX12_isDigit (some 12) 1 := site_V (dk DX12_takesNumber 1 rfl) KX12 w_1325 w_1327 w_30 w_80 kX12_isDigit pmX12_isDigit (by decide)
set_option maxRecDepth 8000 in
theorem sX12_takesNumber_22 : Site RX12 mX12_takesNumber 22 25 mX12_isDigit (some 12) 1 := site_V (dk DX12_takesNumber 14 rfl) KX12 w_1325 w_1327 w_30 w_80 kX12_isDigit pmX12_isDigit (by decide)
set_option maxRecDepth 8000 in
theorem sX12_takesNumber_37 : Site RX12 mX12_takesNumber 37 40 mX12_next (some 12) 1 := site_V (dk DX12_takesNumber 22 rfl) KX12 w_1309 w_1311 w_26 w_80 kX12_next pmX12_next (by decide)
set_option maxRecDepth 8000 in
theorem w_34 : Cond.selects "NextOneKnowsModel" ({ cls := "NextOneKnowsModel", name := "put", desc := "(I)V" } : Jvm.MethodName) ({ cls := "NextOneKnowsModel", name := "put", desc := "(I)V" } : Jvm.MethodName) ∈ TG := tg_p 34 rfl rfl
set_option maxRecDepth 8000 in
theorem w_1341 : (Jvm.Cond.methodLink "NextOneKnowsModel" (263 : Nat) ({ cls := "NextOneKnowsModel", name := "put", desc := "(I)V" } : Jvm.MethodName)) ∈ TG := tg_6 68 rfl rfl
set_option maxRecDepth 8000 in
theorem w_1343 : (Jvm.Cond.instanceMethod ({ cls := "NextOneKnowsModel", name := "put", desc := "(I)V" } : Jvm.MethodName)) ∈ TG := tg_6 70 rfl rfl
set_option maxRecDepth 8000 in
theorem sX12_whole_26 : Site RX12 mX12_whole 26 29 mX12_put (some 12) 2 := site_V (dk DX12_whole 14 rfl) KX12 w_1341 w_1343 w_34 w_80 kX12_put pmX12_put (by decide)
set_option maxRecDepth 8000 in
theorem sX12_settle_66 : Site RX12 mX12_settle 66 69 mX12_put (some 12) 2 := site_V (dk DX12_settle 37 rfl) KX12 w_1341 w_1343 w_34 w_80 kX12_put pmX12_put (by decide)
set_option maxRecDepth 8000 in
theorem sX12_takesTest_2 : Site RX12 mX12_takesTest 2 5 mX12_next (some 12) 1 := site_V (dk DX12_takesTest 2 rfl) KX12 w_1309 w_1311 w_26 w_80 kX12_next pmX12_next (by decide)
set_option maxRecDepth 8000 in
theorem w_33 : Cond.selects "NextOneKnowsModel" ({ cls := "NextOneKnowsModel", name := "place", desc := "(I)I" } : Jvm.MethodName) ({ cls := "NextOneKnowsModel", name := "place", desc := "(I)I" } : Jvm.MethodName) ∈ TG := tg_p 33 rfl rfl
set_option maxRecDepth 8000 in
theorem w_1337 : (Jvm.Cond.methodLink "NextOneKnowsModel" (267 : Nat) ({ cls := "NextOneKnowsModel", name := "place", desc := "(I)I" } : Jvm.MethodName)) ∈ TG := tg_6 64 rfl rfl
set_option maxRecDepth 8000 in
theorem w_1339 : (Jvm.Cond.instanceMethod ({ cls := "NextOneKnowsModel", name := "place", desc := "(I)I" } : Jvm.MethodName)) ∈ TG := tg_6 66 rfl rfl
set_option maxRecDepth 8000 in
theorem sX12_takesTest_5 : Site RX12 mX12_takesTest 5 8 mX12_place (some 12) 2 := site_V (dk DX12_takesTest 3 rfl) KX12 w_1337 w_1339 w_33 w_80 kX12_place pmX12_place (by decide)
set_option maxRecDepth 8000 in
theorem sX12_takesTest_26 : Site RX12 mX12_takesTest 26 29 mX12_next (some 12) 1 := site_V (dk DX12_takesTest 16 rfl) KX12 w_1309 w_1311 w_26 w_80 kX12_next pmX12_next (by decide)
set_option maxRecDepth 8000 in
theorem sX12_takesTest_36 : Site RX12 mX12_takesTest 36 39 mX12_in (some 12) 4 := site_V (dk DX12_takesTest 22 rfl) KX12 w_1249 w_1251 w_17 w_80 kX12_in pmX12_in (by decide)
set_option maxRecDepth 8000 in
theorem w_29 : Cond.selects "NextOneKnowsModel" ({ cls := "NextOneKnowsModel", name := "takesNumber", desc := "()Z" } : Jvm.MethodName) ({ cls := "NextOneKnowsModel", name := "takesNumber", desc := "()Z" } : Jvm.MethodName) ∈ TG := tg_p 29 rfl rfl
set_option maxRecDepth 8000 in
theorem w_1321 : (Jvm.Cond.methodLink "NextOneKnowsModel" (270 : Nat) ({ cls := "NextOneKnowsModel", name := "takesNumber", desc := "()Z" } : Jvm.MethodName)) ∈ TG := tg_6 48 rfl rfl
set_option maxRecDepth 8000 in
theorem w_1323 : (Jvm.Cond.instanceMethod ({ cls := "NextOneKnowsModel", name := "takesNumber", desc := "()Z" } : Jvm.MethodName)) ∈ TG := tg_6 50 rfl rfl
set_option maxRecDepth 8000 in
theorem sX12_takesTest_55 : Site RX12 mX12_takesTest 55 58 mX12_takesNumber (some 12) 1 := site_V (dk DX12_takesTest 33 rfl) KX12 w_1321 w_1323 w_29 w_80 kX12_takesNumber pmX12_takesNumber (by decide)
set_option maxRecDepth 8000 in
theorem sX12_takesTest_82 : Site RX12 mX12_takesTest 82 85 mX12_put (some 12) 2 := site_V (dk DX12_takesTest 50 rfl) KX12 w_1341 w_1343 w_34 w_80 kX12_put pmX12_put (by decide)
set_option maxRecDepth 8000 in
theorem w_35 : Cond.selects "NextOneKnowsModel" ({ cls := "NextOneKnowsModel", name := "whole", desc := "()V" } : Jvm.MethodName) ({ cls := "NextOneKnowsModel", name := "whole", desc := "()V" } : Jvm.MethodName) ∈ TG := tg_p 35 rfl rfl
set_option maxRecDepth 8000 in
theorem w_1345 : (Jvm.Cond.methodLink "NextOneKnowsModel" (273 : Nat) ({ cls := "NextOneKnowsModel", name := "whole", desc := "()V" } : Jvm.MethodName)) ∈ TG := tg_6 72 rfl rfl
set_option maxRecDepth 8000 in
theorem w_1347 : (Jvm.Cond.instanceMethod ({ cls := "NextOneKnowsModel", name := "whole", desc := "()V" } : Jvm.MethodName)) ∈ TG := tg_6 74 rfl rfl
set_option maxRecDepth 8000 in
theorem sX12_takesTest_86 : Site RX12 mX12_takesTest 86 89 mX12_whole (some 12) 1 := site_V (dk DX12_takesTest 52 rfl) KX12 w_1345 w_1347 w_35 w_80 kX12_whole pmX12_whole (by decide)
set_option maxRecDepth 8000 in
theorem sX12_takesE_23 : Site RX12 mX12_takesE 23 26 mX12_next (some 12) 1 := site_V (dk DX12_takesE_0 15 rfl) KX12 w_1309 w_1311 w_26 w_80 kX12_next pmX12_next (by decide)
set_option maxRecDepth 8000 in
theorem w_32 : Cond.selects "NextOneKnowsModel" ({ cls := "NextOneKnowsModel", name := "takesTest", desc := "()Z" } : Jvm.MethodName) ({ cls := "NextOneKnowsModel", name := "takesTest", desc := "()Z" } : Jvm.MethodName) ∈ TG := tg_p 32 rfl rfl
set_option maxRecDepth 8000 in
theorem w_1333 : (Jvm.Cond.methodLink "NextOneKnowsModel" (276 : Nat) ({ cls := "NextOneKnowsModel", name := "takesTest", desc := "()Z" } : Jvm.MethodName)) ∈ TG := tg_6 60 rfl rfl
set_option maxRecDepth 8000 in
theorem w_1335 : (Jvm.Cond.instanceMethod ({ cls := "NextOneKnowsModel", name := "takesTest", desc := "()Z" } : Jvm.MethodName)) ∈ TG := tg_6 62 rfl rfl
set_option maxRecDepth 8000 in
theorem sX12_takesE_97 : Site RX12 mX12_takesE 97 100 mX12_takesTest (some 12) 1 := site_V (dk DX12_takesE_0 57 rfl) KX12 w_1333 w_1335 w_32 w_80 kX12_takesTest pmX12_takesTest (by decide)
set_option maxRecDepth 8000 in
theorem w_36 : Cond.selects "NextOneKnowsModel" ({ cls := "NextOneKnowsModel", name := "settle", desc := "(I)V" } : Jvm.MethodName) ({ cls := "NextOneKnowsModel", name := "settle", desc := "(I)V" } : Jvm.MethodName) ∈ TG := tg_p 36 rfl rfl
set_option maxRecDepth 8000 in
theorem w_1349 : (Jvm.Cond.methodLink "NextOneKnowsModel" (279 : Nat) ({ cls := "NextOneKnowsModel", name := "settle", desc := "(I)V" } : Jvm.MethodName)) ∈ TG := tg_6 76 rfl rfl
set_option maxRecDepth 8000 in
theorem w_1351 : (Jvm.Cond.instanceMethod ({ cls := "NextOneKnowsModel", name := "settle", desc := "(I)V" } : Jvm.MethodName)) ∈ TG := tg_6 78 rfl rfl
set_option maxRecDepth 8000 in
theorem sX12_takesE_124 : Site RX12 mX12_takesE 124 127 mX12_settle (some 12) 2 := site_V (dk DX12_takesE_1 12 rfl) KX12 w_1349 w_1351 w_36 w_80 kX12_settle pmX12_settle (by decide)
set_option maxRecDepth 8000 in
theorem sX12_takesE_165 : Site RX12 mX12_takesE 165 168 mX12_settle (some 12) 2 := site_V (dk DX12_takesE_1 36 rfl) KX12 w_1349 w_1351 w_36 w_80 kX12_settle pmX12_settle (by decide)
set_option maxRecDepth 8000 in
theorem sX12_takesE_226 : Site RX12 mX12_takesE 226 229 mX12_whole (some 12) 1 := site_V (dk DX12_takesE_2 12 rfl) KX12 w_1345 w_1347 w_35 w_80 kX12_whole pmX12_whole (by decide)
set_option maxRecDepth 8000 in
theorem w_25 : Cond.selects "NextOneKnowsModel" ({ cls := "NextOneKnowsModel", name := "second", desc := "()I" } : Jvm.MethodName) ({ cls := "NextOneKnowsModel", name := "second", desc := "()I" } : Jvm.MethodName) ∈ TG := tg_p 25 rfl rfl
set_option maxRecDepth 8000 in
theorem w_1305 : (Jvm.Cond.methodLink "NextOneKnowsModel" (282 : Nat) ({ cls := "NextOneKnowsModel", name := "second", desc := "()I" } : Jvm.MethodName)) ∈ TG := tg_6 32 rfl rfl
set_option maxRecDepth 8000 in
theorem w_1307 : (Jvm.Cond.instanceMethod ({ cls := "NextOneKnowsModel", name := "second", desc := "()I" } : Jvm.MethodName)) ∈ TG := tg_6 34 rfl rfl
set_option maxRecDepth 8000 in
theorem sX12_takesHead_1 : Site RX12 mX12_takesHead 1 4 mX12_second (some 12) 1 := site_V (dk DX12_takesHead 1 rfl) KX12 w_1305 w_1307 w_25 w_80 kX12_second pmX12_second (by decide)
set_option maxRecDepth 8000 in
theorem sX12_takesHead_6 : Site RX12 mX12_takesHead 6 9 mX12_next (some 12) 1 := site_V (dk DX12_takesHead 4 rfl) KX12 w_1309 w_1311 w_26 w_80 kX12_next pmX12_next (by decide)
set_option maxRecDepth 8000 in
theorem w_27 : Cond.selects "NextOneKnowsModel" ({ cls := "NextOneKnowsModel", name := "takesWord", desc := "(II)Z" } : Jvm.MethodName) ({ cls := "NextOneKnowsModel", name := "takesWord", desc := "(II)Z" } : Jvm.MethodName) ∈ TG := tg_p 27 rfl rfl
set_option maxRecDepth 8000 in
theorem w_1313 : (Jvm.Cond.methodLink "NextOneKnowsModel" (285 : Nat) ({ cls := "NextOneKnowsModel", name := "takesWord", desc := "(II)Z" } : Jvm.MethodName)) ∈ TG := tg_6 40 rfl rfl
set_option maxRecDepth 8000 in
theorem w_1315 : (Jvm.Cond.instanceMethod ({ cls := "NextOneKnowsModel", name := "takesWord", desc := "(II)Z" } : Jvm.MethodName)) ∈ TG := tg_6 42 rfl rfl
set_option maxRecDepth 8000 in
theorem sX12_takesHead_46 : Site RX12 mX12_takesHead 46 49 mX12_takesWord (some 12) 3 := site_V (dk DX12_takesHead 14 rfl) KX12 w_1313 w_1315 w_27 w_80 kX12_takesWord pmX12_takesWord (by decide)
set_option maxRecDepth 8000 in
theorem sX12_takesHead_77 : Site RX12 mX12_takesHead 77 80 mX12_takesWord (some 12) 3 := site_V (dk DX12_takesHead 32 rfl) KX12 w_1313 w_1315 w_27 w_80 kX12_takesWord pmX12_takesWord (by decide)
set_option maxRecDepth 8000 in
theorem sX12_takesHead_86 : Site RX12 mX12_takesHead 86 89 mX12_takesWord (some 12) 3 := site_V (dk DX12_takesHead 37 rfl) KX12 w_1313 w_1315 w_27 w_80 kX12_takesWord pmX12_takesWord (by decide)
set_option maxRecDepth 8000 in
theorem sX12_takesHead_101 : Site RX12 mX12_takesHead 101 104 mX12_takesWord (some 12) 3 := site_V (dk DX12_takesHead 47 rfl) KX12 w_1313 w_1315 w_27 w_80 kX12_takesWord pmX12_takesWord (by decide)
set_option maxRecDepth 8000 in
theorem w_24 : Cond.selects "NextOneKnowsModel" ({ cls := "NextOneKnowsModel", name := "takesHead", desc := "(I)Z" } : Jvm.MethodName) ({ cls := "NextOneKnowsModel", name := "takesHead", desc := "(I)Z" } : Jvm.MethodName) ∈ TG := tg_p 24 rfl rfl
set_option maxRecDepth 8000 in
theorem w_1301 : (Jvm.Cond.methodLink "NextOneKnowsModel" (288 : Nat) ({ cls := "NextOneKnowsModel", name := "takesHead", desc := "(I)Z" } : Jvm.MethodName)) ∈ TG := tg_6 28 rfl rfl
set_option maxRecDepth 8000 in
theorem w_1303 : (Jvm.Cond.instanceMethod ({ cls := "NextOneKnowsModel", name := "takesHead", desc := "(I)Z" } : Jvm.MethodName)) ∈ TG := tg_6 30 rfl rfl
set_option maxRecDepth 8000 in
theorem sX12_takesClause_2 : Site RX12 mX12_takesClause 2 5 mX12_takesHead (some 12) 2 := site_V (dk DX12_takesClause 2 rfl) KX12 w_1301 w_1303 w_24 w_80 kX12_takesHead pmX12_takesHead (by decide)
set_option maxRecDepth 8000 in
theorem sX12_takesClause_9 : Site RX12 mX12_takesClause 9 12 mX12_takesNumber (some 12) 1 := site_V (dk DX12_takesClause 5 rfl) KX12 w_1321 w_1323 w_29 w_80 kX12_takesNumber pmX12_takesNumber (by decide)
set_option maxRecDepth 8000 in
theorem sX12_takesClause_40 : Site RX12 mX12_takesClause 40 43 mX12_takes (some 12) 2 := site_V (dk DX12_takesClause 23 rfl) KX12 w_1317 w_1319 w_28 w_80 kX12_takes pmX12_takes (by decide)
set_option maxRecDepth 8000 in
theorem w_31 : Cond.selects "NextOneKnowsModel" ({ cls := "NextOneKnowsModel", name := "takesE", desc := "(I)Z" } : Jvm.MethodName) ({ cls := "NextOneKnowsModel", name := "takesE", desc := "(I)Z" } : Jvm.MethodName) ∈ TG := tg_p 31 rfl rfl
set_option maxRecDepth 8000 in
theorem w_1329 : (Jvm.Cond.methodLink "NextOneKnowsModel" (291 : Nat) ({ cls := "NextOneKnowsModel", name := "takesE", desc := "(I)Z" } : Jvm.MethodName)) ∈ TG := tg_6 56 rfl rfl
set_option maxRecDepth 8000 in
theorem w_1331 : (Jvm.Cond.instanceMethod ({ cls := "NextOneKnowsModel", name := "takesE", desc := "(I)Z" } : Jvm.MethodName)) ∈ TG := tg_6 58 rfl rfl
set_option maxRecDepth 8000 in
theorem sX12_takesClause_48 : Site RX12 mX12_takesClause 48 51 mX12_takesE (some 12) 2 := site_V (dk DX12_takesClause 27 rfl) KX12 w_1329 w_1331 w_31 w_80 kX12_takesE pmX12_takesE (by decide)
set_option maxRecDepth 8000 in
theorem w_23 : Cond.selects "NextOneKnowsModel" ({ cls := "NextOneKnowsModel", name := "takesClause", desc := "(I)Z" } : Jvm.MethodName) ({ cls := "NextOneKnowsModel", name := "takesClause", desc := "(I)Z" } : Jvm.MethodName) ∈ TG := tg_p 23 rfl rfl
set_option maxRecDepth 8000 in
theorem w_1297 : (Jvm.Cond.methodLink "NextOneKnowsModel" (294 : Nat) ({ cls := "NextOneKnowsModel", name := "takesClause", desc := "(I)Z" } : Jvm.MethodName)) ∈ TG := tg_6 24 rfl rfl
set_option maxRecDepth 8000 in
theorem w_1299 : (Jvm.Cond.instanceMethod ({ cls := "NextOneKnowsModel", name := "takesClause", desc := "(I)Z" } : Jvm.MethodName)) ∈ TG := tg_6 26 rfl rfl
set_option maxRecDepth 8000 in
theorem sX12_goesText_22 : Site RX12 mX12_goesText 22 25 mX12_takesClause (some 12) 2 := site_V (dk DX12_goesText 16 rfl) KX12 w_1297 w_1299 w_23 w_80 kX12_takesClause pmX12_takesClause (by decide)
set_option maxRecDepth 8000 in
theorem sX12_goesText_62 : Site RX12 mX12_goesText 62 65 mX12_takes (some 12) 2 := site_V (dk DX12_goesText 38 rfl) KX12 w_1317 w_1319 w_28 w_80 kX12_takes pmX12_takes (by decide)
set_option maxRecDepth 8000 in
theorem w_22 : Cond.selects "NextOneKnowsModel" ({ cls := "NextOneKnowsModel", name := "goesText", desc := "(I)Z" } : Jvm.MethodName) ({ cls := "NextOneKnowsModel", name := "goesText", desc := "(I)Z" } : Jvm.MethodName) ∈ TG := tg_p 22 rfl rfl
set_option maxRecDepth 8000 in
theorem w_1293 : (Jvm.Cond.methodLink "NextOneKnowsModel" (297 : Nat) ({ cls := "NextOneKnowsModel", name := "goesText", desc := "(I)Z" } : Jvm.MethodName)) ∈ TG := tg_6 20 rfl rfl
set_option maxRecDepth 8000 in
theorem w_1295 : (Jvm.Cond.instanceMethod ({ cls := "NextOneKnowsModel", name := "goesText", desc := "(I)Z" } : Jvm.MethodName)) ∈ TG := tg_6 22 rfl rfl
set_option maxRecDepth 8000 in
theorem sX12_post_17 : Site RX12 mX12_post 17 20 mX12_goesText (some 12) 2 := site_V (dk DX12_post 9 rfl) KX12 w_1293 w_1295 w_22 w_80 kX12_goesText pmX12_goesText (by decide)
set_option maxRecDepth 8000 in
theorem w_39 : Cond.selects "NextOneKnowsModel" ({ cls := "NextOneKnowsModel", name := "begin", desc := "()I" } : Jvm.MethodName) ({ cls := "NextOneKnowsModel", name := "begin", desc := "()I" } : Jvm.MethodName) ∈ TG := tg_p 39 rfl rfl
set_option maxRecDepth 8000 in
theorem w_1365 : (Jvm.Cond.methodLink "NextOneKnowsModel" (300 : Nat) ({ cls := "NextOneKnowsModel", name := "begin", desc := "()I" } : Jvm.MethodName)) ∈ TG := tg_6 92 rfl rfl
set_option maxRecDepth 8000 in
theorem w_1367 : (Jvm.Cond.instanceMethod ({ cls := "NextOneKnowsModel", name := "begin", desc := "()I" } : Jvm.MethodName)) ∈ TG := tg_6 94 rfl rfl
set_option maxRecDepth 8000 in
theorem sX12_lastOf_3 : Site RX12 mX12_lastOf 3 6 mX12_begin (some 12) 1 := site_V (dk DX12_lastOf 3 rfl) KX12 w_1365 w_1367 w_39 w_80 kX12_begin pmX12_begin (by decide)
set_option maxRecDepth 8000 in
theorem w_40 : Cond.selects "NextOneKnowsModel" ({ cls := "NextOneKnowsModel", name := "behind", desc := "()I" } : Jvm.MethodName) ({ cls := "NextOneKnowsModel", name := "behind", desc := "()I" } : Jvm.MethodName) ∈ TG := tg_p 40 rfl rfl
set_option maxRecDepth 8000 in
theorem w_1369 : (Jvm.Cond.methodLink "NextOneKnowsModel" (303 : Nat) ({ cls := "NextOneKnowsModel", name := "behind", desc := "()I" } : Jvm.MethodName)) ∈ TG := tg_6 96 rfl rfl
set_option maxRecDepth 8000 in
theorem w_1371 : (Jvm.Cond.instanceMethod ({ cls := "NextOneKnowsModel", name := "behind", desc := "()I" } : Jvm.MethodName)) ∈ TG := tg_6 98 rfl rfl
set_option maxRecDepth 8000 in
theorem sX12_lastOf_11 : Site RX12 mX12_lastOf 11 14 mX12_behind (some 12) 1 := site_V (dk DX12_lastOf 7 rfl) KX12 w_1369 w_1371 w_40 w_80 kX12_behind pmX12_behind (by decide)
set_option maxRecDepth 8000 in
theorem w_42 : Cond.selects "NextOneKnowsModel" ({ cls := "NextOneKnowsModel", name := "factOf", desc := "(IIII)I" } : Jvm.MethodName) ({ cls := "NextOneKnowsModel", name := "factOf", desc := "(IIII)I" } : Jvm.MethodName) ∈ TG := tg_p 42 rfl rfl
set_option maxRecDepth 8000 in
theorem w_1377 : (Jvm.Cond.methodLink "NextOneKnowsModel" (306 : Nat) ({ cls := "NextOneKnowsModel", name := "factOf", desc := "(IIII)I" } : Jvm.MethodName)) ∈ TG := tg_6 104 rfl rfl
set_option maxRecDepth 8000 in
theorem w_1379 : (Jvm.Cond.instanceMethod ({ cls := "NextOneKnowsModel", name := "factOf", desc := "(IIII)I" } : Jvm.MethodName)) ∈ TG := tg_6 106 rfl rfl
set_option maxRecDepth 8000 in
theorem sX12_holds_162 : Site RX12 mX12_holds 162 165 mX12_factOf (some 12) 5 := site_V (dk DX12_holds_1 29 rfl) KX12 w_1377 w_1379 w_42 w_80 kX12_factOf pmX12_factOf (by decide)
set_option maxRecDepth 8000 in
theorem sX12_sumOf_4 : Site RX12 mX12_sumOf 4 7 mX12_begin (some 12) 1 := site_V (dk DX12_sumOf 3 rfl) KX12 w_1365 w_1367 w_39 w_80 kX12_begin pmX12_begin (by decide)
set_option maxRecDepth 8000 in
theorem sX12_sumOf_12 : Site RX12 mX12_sumOf 12 15 mX12_behind (some 12) 1 := site_V (dk DX12_sumOf 7 rfl) KX12 w_1369 w_1371 w_40 w_80 kX12_behind pmX12_behind (by decide)
set_option maxRecDepth 8000 in
theorem w_41 : Cond.selects "NextOneKnowsModel" ({ cls := "NextOneKnowsModel", name := "holds", desc := "(IIII)Z" } : Jvm.MethodName) ({ cls := "NextOneKnowsModel", name := "holds", desc := "(IIII)Z" } : Jvm.MethodName) ∈ TG := tg_p 41 rfl rfl
set_option maxRecDepth 8000 in
theorem w_1373 : (Jvm.Cond.methodLink "NextOneKnowsModel" (310 : Nat) ({ cls := "NextOneKnowsModel", name := "holds", desc := "(IIII)Z" } : Jvm.MethodName)) ∈ TG := tg_6 100 rfl rfl
set_option maxRecDepth 8000 in
theorem w_1375 : (Jvm.Cond.instanceMethod ({ cls := "NextOneKnowsModel", name := "holds", desc := "(IIII)Z" } : Jvm.MethodName)) ∈ TG := tg_6 102 rfl rfl
set_option maxRecDepth 8000 in
theorem sX12_sumOf_38 : Site RX12 mX12_sumOf 38 41 mX12_holds (some 12) 5 := site_V (dk DX12_sumOf 21 rfl) KX12 w_1373 w_1375 w_41 w_80 kX12_holds pmX12_holds (by decide)
set_option maxRecDepth 8000 in
theorem w_38 : Cond.selects "NextOneKnowsModel" ({ cls := "NextOneKnowsModel", name := "sumOf", desc := "(IIII)I" } : Jvm.MethodName) ({ cls := "NextOneKnowsModel", name := "sumOf", desc := "(IIII)I" } : Jvm.MethodName) ∈ TG := tg_p 38 rfl rfl
set_option maxRecDepth 8000 in
theorem w_1361 : (Jvm.Cond.methodLink "NextOneKnowsModel" (314 : Nat) ({ cls := "NextOneKnowsModel", name := "sumOf", desc := "(IIII)I" } : Jvm.MethodName)) ∈ TG := tg_6 88 rfl rfl
set_option maxRecDepth 8000 in
theorem w_1363 : (Jvm.Cond.instanceMethod ({ cls := "NextOneKnowsModel", name := "sumOf", desc := "(IIII)I" } : Jvm.MethodName)) ∈ TG := tg_6 90 rfl rfl
set_option maxRecDepth 8000 in
theorem sX12_dear_15 : Site RX12 mX12_dear 15 18 mX12_sumOf (some 12) 5 := site_V (dk DX12_dear 11 rfl) KX12 w_1361 w_1363 w_38 w_80 kX12_sumOf pmX12_sumOf (by decide)
set_option maxRecDepth 8000 in
theorem sX12_laySaid_31 : Site RX12 mX12_laySaid 31 34 mX12_sumOf (some 12) 5 := site_V (dk DX12_laySaid 23 rfl) KX12 w_1361 w_1363 w_38 w_80 kX12_sumOf pmX12_sumOf (by decide)
set_option maxRecDepth 8000 in
theorem w_44 : Cond.selects "NextOneKnowsModel" ({ cls := "NextOneKnowsModel", name := "saidAll", desc := "(II)I" } : Jvm.MethodName) ({ cls := "NextOneKnowsModel", name := "saidAll", desc := "(II)I" } : Jvm.MethodName) ∈ TG := tg_p 44 rfl rfl
set_option maxRecDepth 8000 in
theorem w_1385 : (Jvm.Cond.methodLink "NextOneKnowsModel" (317 : Nat) ({ cls := "NextOneKnowsModel", name := "saidAll", desc := "(II)I" } : Jvm.MethodName)) ∈ TG := tg_6 112 rfl rfl
set_option maxRecDepth 8000 in
theorem w_1387 : (Jvm.Cond.instanceMethod ({ cls := "NextOneKnowsModel", name := "saidAll", desc := "(II)I" } : Jvm.MethodName)) ∈ TG := tg_6 114 rfl rfl
set_option maxRecDepth 8000 in
theorem sX12_saidOf_55 : Site RX12 mX12_saidOf 55 58 mX12_saidAll (some 12) 3 := site_V (dk DX12_saidOf_0 13 rfl) KX12 w_1385 w_1387 w_44 w_80 kX12_saidAll pmX12_saidAll (by decide)
set_option maxRecDepth 8000 in
theorem sX12_saidOf_71 : Site RX12 mX12_saidOf 71 74 mX12_saidAll (some 12) 3 := site_V (dk DX12_saidOf_0 25 rfl) KX12 w_1385 w_1387 w_44 w_80 kX12_saidAll pmX12_saidAll (by decide)
set_option maxRecDepth 8000 in
theorem sX12_saidOf_102 : Site RX12 mX12_saidOf 102 105 mX12_saidAll (some 12) 3 := site_V (dk DX12_saidOf_0 46 rfl) KX12 w_1385 w_1387 w_44 w_80 kX12_saidAll pmX12_saidAll (by decide)
set_option maxRecDepth 8000 in
theorem sX12_saidOf_109 : Site RX12 mX12_saidOf 109 112 mX12_saidAll (some 12) 3 := site_V (dk DX12_saidOf_0 51 rfl) KX12 w_1385 w_1387 w_44 w_80 kX12_saidAll pmX12_saidAll (by decide)
set_option maxRecDepth 8000 in
theorem sX12_saidOf_140 : Site RX12 mX12_saidOf 140 143 mX12_saidAll (some 12) 3 := site_V (dk DX12_saidOf_1 12 rfl) KX12 w_1385 w_1387 w_44 w_80 kX12_saidAll pmX12_saidAll (by decide)
set_option maxRecDepth 8000 in
theorem sX12_saidOf_160 : Site RX12 mX12_saidOf 160 163 mX12_saidAll (some 12) 3 := site_V (dk DX12_saidOf_1 24 rfl) KX12 w_1385 w_1387 w_44 w_80 kX12_saidAll pmX12_saidAll (by decide)
set_option maxRecDepth 8000 in
theorem sX12_saidOf_169 : Site RX12 mX12_saidOf 169 172 mX12_saidAll (some 12) 3 := site_V (dk DX12_saidOf_1 31 rfl) KX12 w_1385 w_1387 w_44 w_80 kX12_saidAll pmX12_saidAll (by decide)
set_option maxRecDepth 8000 in
theorem w_43 : Cond.selects "NextOneKnowsModel" ({ cls := "NextOneKnowsModel", name := "saidOf", desc := "(I)I" } : Jvm.MethodName) ({ cls := "NextOneKnowsModel", name := "saidOf", desc := "(I)I" } : Jvm.MethodName) ∈ TG := tg_p 43 rfl rfl
set_option maxRecDepth 8000 in
theorem w_1381 : (Jvm.Cond.methodLink "NextOneKnowsModel" (321 : Nat) ({ cls := "NextOneKnowsModel", name := "saidOf", desc := "(I)I" } : Jvm.MethodName)) ∈ TG := tg_6 108 rfl rfl
set_option maxRecDepth 8000 in
theorem w_1383 : (Jvm.Cond.instanceMethod ({ cls := "NextOneKnowsModel", name := "saidOf", desc := "(I)I" } : Jvm.MethodName)) ∈ TG := tg_6 110 rfl rfl
set_option maxRecDepth 8000 in
theorem sX12_over_15 : Site RX12 mX12_over 15 18 mX12_saidOf (some 12) 2 := site_V (dk DX12_over 11 rfl) KX12 w_1381 w_1383 w_43 w_80 kX12_saidOf pmX12_saidOf (by decide)
set_option maxRecDepth 8000 in
theorem sX12_of_2 : Site RX12 mX12_of 2 5 mX12_isDoing (some 12) 2 := site_V (dk DX12_of_0 2 rfl) KX12 w_1261 w_1263 w_19 w_80 kX12_isDoing pmX12_isDoing (by decide)
set_option maxRecDepth 8000 in
theorem w_37 : Cond.selects "NextOneKnowsModel" ({ cls := "NextOneKnowsModel", name := "laySaid", desc := "()V" } : Jvm.MethodName) ({ cls := "NextOneKnowsModel", name := "laySaid", desc := "()V" } : Jvm.MethodName) ∈ TG := tg_p 37 rfl rfl
set_option maxRecDepth 8000 in
theorem w_1357 : (Jvm.Cond.methodLink "NextOneKnowsModel" (324 : Nat) ({ cls := "NextOneKnowsModel", name := "laySaid", desc := "()V" } : Jvm.MethodName)) ∈ TG := tg_6 84 rfl rfl
set_option maxRecDepth 8000 in
theorem w_1359 : (Jvm.Cond.instanceMethod ({ cls := "NextOneKnowsModel", name := "laySaid", desc := "()V" } : Jvm.MethodName)) ∈ TG := tg_6 86 rfl rfl
set_option maxRecDepth 8000 in
theorem sX12_of_13 : Site RX12 mX12_of 13 16 mX12_laySaid (some 12) 1 := site_V (dk DX12_of_0 7 rfl) KX12 w_1357 w_1359 w_37 w_80 kX12_laySaid pmX12_laySaid (by decide)
set_option maxRecDepth 8000 in
theorem sX12_of_128 : Site RX12 mX12_of 128 131 mX12_has (some 12) 3 := site_V (dk DX12_of_0 44 rfl) KX12 w_1265 w_1267 w_20 w_80 kX12_has pmX12_has (by decide)
set_option maxRecDepth 8000 in
theorem sX12_of_146 : Site RX12 mX12_of 146 149 mX12_has (some 12) 3 := site_V (dk DX12_of_0 54 rfl) KX12 w_1265 w_1267 w_20 w_80 kX12_has pmX12_has (by decide)
set_option maxRecDepth 8000 in
theorem sX12_of_160 : Site RX12 mX12_of 160 163 mX12_saidOf (some 12) 2 := site_V (dk DX12_of_1 2 rfl) KX12 w_1381 w_1383 w_43 w_80 kX12_saidOf pmX12_saidOf (by decide)
set_option maxRecDepth 8000 in
theorem sX12_of_166 : Site RX12 mX12_of 166 169 mX12_saidOf (some 12) 2 := site_V (dk DX12_of_1 6 rfl) KX12 w_1381 w_1383 w_43 w_80 kX12_saidOf pmX12_saidOf (by decide)
set_option maxRecDepth 8000 in
theorem w_45 : Cond.selects "NextOneKnowsModel" ({ cls := "NextOneKnowsModel", name := "dear", desc := "(II)I" } : Jvm.MethodName) ({ cls := "NextOneKnowsModel", name := "dear", desc := "(II)I" } : Jvm.MethodName) ∈ TG := tg_p 45 rfl rfl
set_option maxRecDepth 8000 in
theorem w_1389 : (Jvm.Cond.methodLink "NextOneKnowsModel" (327 : Nat) ({ cls := "NextOneKnowsModel", name := "dear", desc := "(II)I" } : Jvm.MethodName)) ∈ TG := tg_6 116 rfl rfl
set_option maxRecDepth 8000 in
theorem w_1391 : (Jvm.Cond.instanceMethod ({ cls := "NextOneKnowsModel", name := "dear", desc := "(II)I" } : Jvm.MethodName)) ∈ TG := tg_6 118 rfl rfl
set_option maxRecDepth 8000 in
theorem sX12_of_190 : Site RX12 mX12_of 190 193 mX12_dear (some 12) 3 := site_V (dk DX12_of_1 20 rfl) KX12 w_1389 w_1391 w_45 w_80 kX12_dear pmX12_dear (by decide)
set_option maxRecDepth 8000 in
theorem sX12_told_6 : Site RX12 mX12_told 6 9 mX12_in (some 12) 4 := site_V (dk DX12_told 4 rfl) KX12 w_1249 w_1251 w_17 w_80 kX12_in pmX12_in (by decide)
set_option maxRecDepth 8000 in
theorem w_46 : Cond.selects "NextOneKnowsModel" ({ cls := "NextOneKnowsModel", name := "lastOf", desc := "(II)I" } : Jvm.MethodName) ({ cls := "NextOneKnowsModel", name := "lastOf", desc := "(II)I" } : Jvm.MethodName) ∈ TG := tg_p 46 rfl rfl
set_option maxRecDepth 8000 in
theorem w_1397 : (Jvm.Cond.methodLink "NextOneKnowsModel" (330 : Nat) ({ cls := "NextOneKnowsModel", name := "lastOf", desc := "(II)I" } : Jvm.MethodName)) ∈ TG := tg_6 124 rfl rfl
set_option maxRecDepth 8000 in
theorem w_1399 : (Jvm.Cond.instanceMethod ({ cls := "NextOneKnowsModel", name := "lastOf", desc := "(II)I" } : Jvm.MethodName)) ∈ TG := tg_6 126 rfl rfl
set_option maxRecDepth 8000 in
theorem sX12_told_64 : Site RX12 mX12_told 64 67 mX12_lastOf (some 12) 3 := site_V (dk DX12_told 18 rfl) KX12 w_1397 w_1399 w_46 w_80 kX12_lastOf pmX12_lastOf (by decide)
set_option maxRecDepth 8000 in
theorem sX12_told_71 : Site RX12 mX12_told 71 74 mX12_lastOf (some 12) 3 := site_V (dk DX12_told 23 rfl) KX12 w_1397 w_1399 w_46 w_80 kX12_lastOf pmX12_lastOf (by decide)
set_option maxRecDepth 8000 in
theorem sX12_said_2 : Site RX12 mX12_said 2 5 mX12_isDoing (some 12) 2 := site_V (dk DX12_said 2 rfl) KX12 w_1261 w_1263 w_19 w_80 kX12_isDoing pmX12_isDoing (by decide)
set_option maxRecDepth 8000 in
theorem sX12_said_10 : Site RX12 mX12_said 10 13 mX12_isWay (some 12) 2 := site_V (dk DX12_said 6 rfl) KX12 w_1281 w_1283 w_21 w_80 kX12_isWay pmX12_isWay (by decide)
set_option maxRecDepth 8000 in
theorem sX12_said_21 : Site RX12 mX12_said 21 24 mX12_sumOf (some 12) 5 := site_V (dk DX12_said 13 rfl) KX12 w_1361 w_1363 w_38 w_80 kX12_sumOf pmX12_sumOf (by decide)
set_option maxRecDepth 8000 in
theorem sX12_hand_1 : Site RX12 mX12_hand 1 4 mX12_laySaid (some 12) 1 := site_V (dk DX12_hand 1 rfl) KX12 w_1357 w_1359 w_37 w_80 kX12_laySaid pmX12_laySaid (by decide)
set_option maxRecDepth 8000 in
theorem w_47 : Cond.selects "NextOneKnowsModel" ({ cls := "NextOneKnowsModel", name := "ones", desc := "(I)I" } : Jvm.MethodName) ({ cls := "NextOneKnowsModel", name := "ones", desc := "(I)I" } : Jvm.MethodName) ∈ TG := tg_p 47 rfl rfl
set_option maxRecDepth 8000 in
theorem w_1409 : (Jvm.Cond.methodLink "NextOneKnowsModel" (333 : Nat) ({ cls := "NextOneKnowsModel", name := "ones", desc := "(I)I" } : Jvm.MethodName)) ∈ TG := tg_6 136 rfl rfl
set_option maxRecDepth 8000 in
theorem w_1411 : (Jvm.Cond.instanceMethod ({ cls := "NextOneKnowsModel", name := "ones", desc := "(I)I" } : Jvm.MethodName)) ∈ TG := tg_6 138 rfl rfl
set_option maxRecDepth 8000 in
theorem sX12_hand_9 : Site RX12 mX12_hand 9 12 mX12_ones (some 12) 2 := site_V (dk DX12_hand 5 rfl) KX12 w_1409 w_1411 w_47 w_80 kX12_ones pmX12_ones (by decide)
set_option maxRecDepth 8000 in
theorem w_48 : Cond.selects "NextOneKnowsModel" ({ cls := "NextOneKnowsModel", name := "over", desc := "()I" } : Jvm.MethodName) ({ cls := "NextOneKnowsModel", name := "over", desc := "()I" } : Jvm.MethodName) ∈ TG := tg_p 48 rfl rfl
set_option maxRecDepth 8000 in
theorem w_1413 : (Jvm.Cond.methodLink "NextOneKnowsModel" (336 : Nat) ({ cls := "NextOneKnowsModel", name := "over", desc := "()I" } : Jvm.MethodName)) ∈ TG := tg_6 140 rfl rfl
set_option maxRecDepth 8000 in
theorem w_1415 : (Jvm.Cond.instanceMethod ({ cls := "NextOneKnowsModel", name := "over", desc := "()I" } : Jvm.MethodName)) ∈ TG := tg_6 142 rfl rfl
set_option maxRecDepth 8000 in
theorem sX12_hand_19 : Site RX12 mX12_hand 19 22 mX12_over (some 12) 1 := site_V (dk DX12_hand 11 rfl) KX12 w_1413 w_1415 w_48 w_80 kX12_over pmX12_over (by decide)
set_option maxRecDepth 8000 in
theorem sX12_hand_31 : Site RX12 mX12_hand 31 34 mX12_ones (some 12) 2 := site_V (dk DX12_hand 17 rfl) KX12 w_1409 w_1411 w_47 w_80 kX12_ones pmX12_ones (by decide)
set_option maxRecDepth 8000 in
theorem w_52 : Cond.selects "NextOneKnowsModel" ({ cls := "NextOneKnowsModel", name := "comes", desc := "(II)Z" } : Jvm.MethodName) ({ cls := "NextOneKnowsModel", name := "comes", desc := "(II)Z" } : Jvm.MethodName) ∈ TG := tg_p 52 rfl rfl
set_option maxRecDepth 8000 in
theorem w_1433 : (Jvm.Cond.methodLink "NextOneKnowsModel" (339 : Nat) ({ cls := "NextOneKnowsModel", name := "comes", desc := "(II)Z" } : Jvm.MethodName)) ∈ TG := tg_6 160 rfl rfl
set_option maxRecDepth 8000 in
theorem w_1435 : (Jvm.Cond.instanceMethod ({ cls := "NextOneKnowsModel", name := "comes", desc := "(II)Z" } : Jvm.MethodName)) ∈ TG := tg_6 162 rfl rfl
set_option maxRecDepth 8000 in
theorem sX12_goWeek_18 : Site RX12 mX12_goWeek 18 21 mX12_comes (some 12) 3 := site_V (dk DX12_goWeek_0 11 rfl) KX12 w_1433 w_1435 w_52 w_80 kX12_comes pmX12_comes (by decide)
set_option maxRecDepth 8000 in
theorem sX12_goWeek_34 : Site RX12 mX12_goWeek 34 37 mX12_has (some 12) 3 := site_V (dk DX12_goWeek_0 18 rfl) KX12 w_1265 w_1267 w_20 w_80 kX12_has pmX12_has (by decide)
set_option maxRecDepth 8000 in
theorem sX12_goWeek_52 : Site RX12 mX12_goWeek 52 55 mX12_has (some 12) 3 := site_V (dk DX12_goWeek_0 27 rfl) KX12 w_1265 w_1267 w_20 w_80 kX12_has pmX12_has (by decide)
set_option maxRecDepth 8000 in
theorem sX12_goWeek_77 : Site RX12 mX12_goWeek 77 80 mX12_has (some 12) 3 := site_V (dk DX12_goWeek_0 39 rfl) KX12 w_1265 w_1267 w_20 w_80 kX12_has pmX12_has (by decide)
set_option maxRecDepth 8000 in
theorem sX12_goWeek_196 : Site RX12 mX12_goWeek 196 199 mX12_with (some 12) 4 := site_V (dk DX12_goWeek_1 45 rfl) KX12 w_1253 w_1255 w_18 w_80 kX12_with pmX12_with (by decide)
set_option maxRecDepth 8000 in
theorem sX12_goWeek_214 : Site RX12 mX12_goWeek 214 217 mX12_dear (some 12) 3 := site_V (dk DX12_goWeek_1 54 rfl) KX12 w_1389 w_1391 w_45 w_80 kX12_dear pmX12_dear (by decide)
set_option maxRecDepth 8000 in
theorem w_53 : Cond.selects "NextOneKnowsModel" ({ cls := "NextOneKnowsModel", name := "learnsBy", desc := "(I)Z" } : Jvm.MethodName) ({ cls := "NextOneKnowsModel", name := "learnsBy", desc := "(I)Z" } : Jvm.MethodName) ∈ TG := tg_p 53 rfl rfl
set_option maxRecDepth 8000 in
theorem w_1437 : (Jvm.Cond.methodLink "NextOneKnowsModel" (342 : Nat) ({ cls := "NextOneKnowsModel", name := "learnsBy", desc := "(I)Z" } : Jvm.MethodName)) ∈ TG := tg_6 164 rfl rfl
set_option maxRecDepth 8000 in
theorem w_1439 : (Jvm.Cond.instanceMethod ({ cls := "NextOneKnowsModel", name := "learnsBy", desc := "(I)Z" } : Jvm.MethodName)) ∈ TG := tg_6 166 rfl rfl
set_option maxRecDepth 8000 in
theorem sX12_goWeek_232 : Site RX12 mX12_goWeek 232 235 mX12_learnsBy (some 12) 2 := site_V (dk DX12_goWeek_2 4 rfl) KX12 w_1437 w_1439 w_53 w_80 kX12_learnsBy pmX12_learnsBy (by decide)
set_option maxRecDepth 8000 in
theorem sX12_goWeek_235 : Site RX12 mX12_goWeek 235 238 mX12_with (some 12) 4 := site_V (dk DX12_goWeek_2 5 rfl) KX12 w_1253 w_1255 w_18 w_80 kX12_with pmX12_with (by decide)
set_option maxRecDepth 8000 in
theorem sX12_goWeeks_4 : Site RX12 mX12_goWeeks 4 7 mX12_lastOf (some 12) 3 := site_V (dk DX12_goWeeks 3 rfl) KX12 w_1397 w_1399 w_46 w_80 kX12_lastOf pmX12_lastOf (by decide)
set_option maxRecDepth 8000 in
theorem sX12_goWeeks_11 : Site RX12 mX12_goWeeks 11 14 mX12_lastOf (some 12) 3 := site_V (dk DX12_goWeeks 8 rfl) KX12 w_1397 w_1399 w_46 w_80 kX12_lastOf pmX12_lastOf (by decide)
set_option maxRecDepth 8000 in
theorem w_51 : Cond.selects "NextOneKnowsModel" ({ cls := "NextOneKnowsModel", name := "goWeek", desc := "(II)V" } : Jvm.MethodName) ({ cls := "NextOneKnowsModel", name := "goWeek", desc := "(II)V" } : Jvm.MethodName) ∈ TG := tg_p 51 rfl rfl
set_option maxRecDepth 8000 in
theorem w_1429 : (Jvm.Cond.methodLink "NextOneKnowsModel" (345 : Nat) ({ cls := "NextOneKnowsModel", name := "goWeek", desc := "(II)V" } : Jvm.MethodName)) ∈ TG := tg_6 156 rfl rfl
set_option maxRecDepth 8000 in
theorem w_1431 : (Jvm.Cond.instanceMethod ({ cls := "NextOneKnowsModel", name := "goWeek", desc := "(II)V" } : Jvm.MethodName)) ∈ TG := tg_6 158 rfl rfl
set_option maxRecDepth 8000 in
theorem sX12_goWeeks_41 : Site RX12 mX12_goWeeks 41 44 mX12_goWeek (some 12) 3 := site_V (dk DX12_goWeeks 26 rfl) KX12 w_1429 w_1431 w_51 w_80 kX12_goWeek pmX12_goWeek (by decide)
set_option maxRecDepth 8000 in
theorem w_49 : Cond.selects "NextOneKnowsModel" ({ cls := "NextOneKnowsModel", name := "begins", desc := "(II)V" } : Jvm.MethodName) ({ cls := "NextOneKnowsModel", name := "begins", desc := "(II)V" } : Jvm.MethodName) ∈ TG := tg_p 49 rfl rfl
set_option maxRecDepth 8000 in
theorem w_1421 : (Jvm.Cond.methodLink "NextOneKnowsModel" (349 : Nat) ({ cls := "NextOneKnowsModel", name := "begins", desc := "(II)V" } : Jvm.MethodName)) ∈ TG := tg_6 148 rfl rfl
set_option maxRecDepth 8000 in
theorem w_1423 : (Jvm.Cond.instanceMethod ({ cls := "NextOneKnowsModel", name := "begins", desc := "(II)V" } : Jvm.MethodName)) ∈ TG := tg_6 150 rfl rfl
set_option maxRecDepth 8000 in
theorem sX12_costBy_3 : Site RX12 mX12_costBy 3 6 mX12_begins (some 12) 3 := site_V (dk DX12_costBy 3 rfl) KX12 w_1421 w_1423 w_49 w_80 kX12_begins pmX12_begins (by decide)
set_option maxRecDepth 8000 in
theorem w_50 : Cond.selects "NextOneKnowsModel" ({ cls := "NextOneKnowsModel", name := "goWeeks", desc := "(I)V" } : Jvm.MethodName) ({ cls := "NextOneKnowsModel", name := "goWeeks", desc := "(I)V" } : Jvm.MethodName) ∈ TG := tg_p 50 rfl rfl
set_option maxRecDepth 8000 in
theorem w_1425 : (Jvm.Cond.methodLink "NextOneKnowsModel" (352 : Nat) ({ cls := "NextOneKnowsModel", name := "goWeeks", desc := "(I)V" } : Jvm.MethodName)) ∈ TG := tg_6 152 rfl rfl
set_option maxRecDepth 8000 in
theorem w_1427 : (Jvm.Cond.instanceMethod ({ cls := "NextOneKnowsModel", name := "goWeeks", desc := "(I)V" } : Jvm.MethodName)) ∈ TG := tg_6 154 rfl rfl
set_option maxRecDepth 8000 in
theorem sX12_costBy_8 : Site RX12 mX12_costBy 8 11 mX12_goWeeks (some 12) 2 := site_V (dk DX12_costBy 6 rfl) KX12 w_1425 w_1427 w_50 w_80 kX12_goWeeks pmX12_goWeeks (by decide)
set_option maxRecDepth 8000 in
theorem sX12_go_5 : Site RX12 mX12_go 5 8 mX12_in (some 12) 4 := site_V (dk DX12_go 4 rfl) KX12 w_1249 w_1251 w_17 w_80 kX12_in pmX12_in (by decide)
set_option maxRecDepth 8000 in
theorem sX12_go_38 : Site RX12 mX12_go 38 41 mX12_begins (some 12) 3 := site_V (dk DX12_go 21 rfl) KX12 w_1421 w_1423 w_49 w_80 kX12_begins pmX12_begins (by decide)
set_option maxRecDepth 8000 in
theorem sX12_go_43 : Site RX12 mX12_go 43 46 mX12_goWeeks (some 12) 2 := site_V (dk DX12_go 24 rfl) KX12 w_1425 w_1427 w_50 w_80 kX12_goWeeks pmX12_goWeeks (by decide)
set_option maxRecDepth 8000 in
theorem sX12_run_4 : Site RX12 mX12_run 4 7 mX12_in (some 12) 4 := site_V (dk DX12_run 4 rfl) KX12 w_1249 w_1251 w_17 w_80 kX12_in pmX12_in (by decide)
set_option maxRecDepth 8000 in
theorem sX12_run_20 : Site RX12 mX12_run 20 23 mX12_in (some 12) 4 := site_V (dk DX12_run 12 rfl) KX12 w_1249 w_1251 w_17 w_80 kX12_in pmX12_in (by decide)
set_option maxRecDepth 8000 in
theorem sX12_run_39 : Site RX12 mX12_run 39 42 mX12_begins (some 12) 3 := site_V (dk DX12_run 21 rfl) KX12 w_1421 w_1423 w_49 w_80 kX12_begins pmX12_begins (by decide)
set_option maxRecDepth 8000 in
theorem sX12_run_44 : Site RX12 mX12_run 44 47 mX12_goWeeks (some 12) 2 := site_V (dk DX12_run 24 rfl) KX12 w_1425 w_1427 w_50 w_80 kX12_goWeeks pmX12_goWeeks (by decide)
set_option maxRecDepth 8000 in
theorem sX12_run_104 : Site RX12 mX12_run 104 107 mX12_ones (some 12) 2 := site_V (dk DX12_run 39 rfl) KX12 w_1409 w_1411 w_47 w_80 kX12_ones pmX12_ones (by decide)
set_option maxRecDepth 8000 in
theorem sX12_costHanded_6 : Site RX12 mX12_costHanded 6 9 mX12_over (some 12) 1 := site_V (dk DX12_costHanded 4 rfl) KX12 w_1413 w_1415 w_48 w_80 kX12_over pmX12_over (by decide)
set_option maxRecDepth 8000 in
theorem w_56 : Cond.selects "NextOneKnowsModel" ({ cls := "NextOneKnowsModel", name := "costBy", desc := "(III)I" } : Jvm.MethodName) ({ cls := "NextOneKnowsModel", name := "costBy", desc := "(III)I" } : Jvm.MethodName) ∈ TG := tg_p 56 rfl rfl
set_option maxRecDepth 8000 in
theorem w_1457 : (Jvm.Cond.methodLink "NextOneKnowsModel" (355 : Nat) ({ cls := "NextOneKnowsModel", name := "costBy", desc := "(III)I" } : Jvm.MethodName)) ∈ TG := tg_6 184 rfl rfl
set_option maxRecDepth 8000 in
theorem w_1459 : (Jvm.Cond.instanceMethod ({ cls := "NextOneKnowsModel", name := "costBy", desc := "(III)I" } : Jvm.MethodName)) ∈ TG := tg_6 186 rfl rfl
set_option maxRecDepth 8000 in
theorem sX12_costHanded_15 : Site RX12 mX12_costHanded 15 18 mX12_costBy (some 12) 4 := site_V (dk DX12_costHanded 9 rfl) KX12 w_1457 w_1459 w_56 w_80 kX12_costBy pmX12_costBy (by decide)
set_option maxRecDepth 8000 in
theorem sX12_split_4 : Site RX12 mX12_split 4 7 mX12_in (some 12) 4 := site_V (dk DX12_split_0 4 rfl) KX12 w_1249 w_1251 w_17 w_80 kX12_in pmX12_in (by decide)
set_option maxRecDepth 8000 in
theorem sX12_split_19 : Site RX12 mX12_split 19 22 mX12_in (some 12) 4 := site_V (dk DX12_split_0 12 rfl) KX12 w_1249 w_1251 w_17 w_80 kX12_in pmX12_in (by decide)
set_option maxRecDepth 8000 in
theorem sX12_split_30 : Site RX12 mX12_split 30 33 mX12_in (some 12) 4 := site_V (dk DX12_split_0 18 rfl) KX12 w_1249 w_1251 w_17 w_80 kX12_in pmX12_in (by decide)
set_option maxRecDepth 8000 in
theorem sX12_split_41 : Site RX12 mX12_split 41 44 mX12_laySaid (some 12) 1 := site_V (dk DX12_split_0 23 rfl) KX12 w_1357 w_1359 w_37 w_80 kX12_laySaid pmX12_laySaid (by decide)
set_option maxRecDepth 8000 in
theorem w_54 : Cond.selects "NextOneKnowsModel" ({ cls := "NextOneKnowsModel", name := "keepHours", desc := "()V" } : Jvm.MethodName) ({ cls := "NextOneKnowsModel", name := "keepHours", desc := "()V" } : Jvm.MethodName) ∈ TG := tg_p 54 rfl rfl
set_option maxRecDepth 8000 in
theorem w_1449 : (Jvm.Cond.methodLink "NextOneKnowsModel" (359 : Nat) ({ cls := "NextOneKnowsModel", name := "keepHours", desc := "()V" } : Jvm.MethodName)) ∈ TG := tg_6 176 rfl rfl
set_option maxRecDepth 8000 in
theorem w_1451 : (Jvm.Cond.instanceMethod ({ cls := "NextOneKnowsModel", name := "keepHours", desc := "()V" } : Jvm.MethodName)) ∈ TG := tg_6 178 rfl rfl
set_option maxRecDepth 8000 in
theorem sX12_split_45 : Site RX12 mX12_split 45 48 mX12_keepHours (some 12) 1 := site_V (dk DX12_split_0 25 rfl) KX12 w_1449 w_1451 w_54 w_80 kX12_keepHours pmX12_keepHours (by decide)
set_option maxRecDepth 8000 in
theorem w_55 : Cond.selects "NextOneKnowsModel" ({ cls := "NextOneKnowsModel", name := "costHanded", desc := "(I)I" } : Jvm.MethodName) ({ cls := "NextOneKnowsModel", name := "costHanded", desc := "(I)I" } : Jvm.MethodName) ∈ TG := tg_p 55 rfl rfl
set_option maxRecDepth 8000 in
theorem w_1453 : (Jvm.Cond.methodLink "NextOneKnowsModel" (362 : Nat) ({ cls := "NextOneKnowsModel", name := "costHanded", desc := "(I)I" } : Jvm.MethodName)) ∈ TG := tg_6 180 rfl rfl
set_option maxRecDepth 8000 in
theorem w_1455 : (Jvm.Cond.instanceMethod ({ cls := "NextOneKnowsModel", name := "costHanded", desc := "(I)I" } : Jvm.MethodName)) ∈ TG := tg_6 182 rfl rfl
set_option maxRecDepth 8000 in
theorem sX12_split_141 : Site RX12 mX12_split 141 144 mX12_costHanded (some 12) 2 := site_V (dk DX12_split_1 23 rfl) KX12 w_1453 w_1455 w_55 w_80 kX12_costHanded pmX12_costHanded (by decide)
set_option maxRecDepth 8000 in
theorem w_57 : Cond.selects "NextOneKnowsModel" ({ cls := "NextOneKnowsModel", name := "putHours", desc := "()V" } : Jvm.MethodName) ({ cls := "NextOneKnowsModel", name := "putHours", desc := "()V" } : Jvm.MethodName) ∈ TG := tg_p 57 rfl rfl
set_option maxRecDepth 8000 in
theorem w_1461 : (Jvm.Cond.methodLink "NextOneKnowsModel" (365 : Nat) ({ cls := "NextOneKnowsModel", name := "putHours", desc := "()V" } : Jvm.MethodName)) ∈ TG := tg_6 188 rfl rfl
set_option maxRecDepth 8000 in
theorem w_1463 : (Jvm.Cond.instanceMethod ({ cls := "NextOneKnowsModel", name := "putHours", desc := "()V" } : Jvm.MethodName)) ∈ TG := tg_6 190 rfl rfl
set_option maxRecDepth 8000 in
theorem sX12_split_201 : Site RX12 mX12_split 201 204 mX12_putHours (some 12) 1 := site_V (dk DX12_split_1 51 rfl) KX12 w_1461 w_1463 w_57 w_80 kX12_putHours pmX12_putHours (by decide)
set_option maxRecDepth 8000 in
theorem sX12_more_2 : Site RX12 mX12_more 2 5 mX12_isWay (some 12) 2 := site_V (dk DX12_more 2 rfl) KX12 w_1281 w_1283 w_21 w_80 kX12_isWay pmX12_isWay (by decide)
set_option maxRecDepth 8000 in
theorem sX12_more_17 : Site RX12 mX12_more 17 20 mX12_in (some 12) 4 := site_V (dk DX12_more 10 rfl) KX12 w_1249 w_1251 w_17 w_80 kX12_in pmX12_in (by decide)
set_option maxRecDepth 8000 in
theorem sX12_more_41 : Site RX12 mX12_more 41 44 mX12_laySaid (some 12) 1 := site_V (dk DX12_more 23 rfl) KX12 w_1357 w_1359 w_37 w_80 kX12_laySaid pmX12_laySaid (by decide)
set_option maxRecDepth 8000 in
theorem sX12_more_46 : Site RX12 mX12_more 46 49 mX12_costHanded (some 12) 2 := site_V (dk DX12_more 26 rfl) KX12 w_1453 w_1455 w_55 w_80 kX12_costHanded pmX12_costHanded (by decide)
set_option maxRecDepth 8000 in
theorem sX12_more_62 : Site RX12 mX12_more 62 65 mX12_costHanded (some 12) 2 := site_V (dk DX12_more 38 rfl) KX12 w_1453 w_1455 w_55 w_80 kX12_costHanded pmX12_costHanded (by decide)
set_option maxRecDepth 8000 in
theorem sX12_ask_5 : Site RX12 mX12_ask 5 8 mX12_in (some 12) 4 := site_V (dk DX12_ask 4 rfl) KX12 w_1249 w_1251 w_17 w_80 kX12_in pmX12_in (by decide)
set_option maxRecDepth 8000 in
theorem sX12_ask_38 : Site RX12 mX12_ask 38 41 mX12_has (some 12) 3 := site_V (dk DX12_ask 22 rfl) KX12 w_1265 w_1267 w_20 w_80 kX12_has pmX12_has (by decide)
set_option maxRecDepth 8000 in
theorem sX12_ask_56 : Site RX12 mX12_ask 56 59 mX12_with (some 12) 4 := site_V (dk DX12_ask 31 rfl) KX12 w_1253 w_1255 w_18 w_80 kX12_with pmX12_with (by decide)
set_option maxRecDepth 8000 in
theorem sX12_ask_64 : Site RX12 mX12_ask 64 67 mX12_costBy (some 12) 4 := site_V (dk DX12_ask 35 rfl) KX12 w_1457 w_1459 w_56 w_80 kX12_costBy pmX12_costBy (by decide)
set_option maxRecDepth 8000 in
theorem sX12_drop_5 : Site RX12 mX12_drop 5 8 mX12_in (some 12) 4 := site_V (dk DX12_drop 4 rfl) KX12 w_1249 w_1251 w_17 w_80 kX12_in pmX12_in (by decide)
set_option maxRecDepth 8000 in
theorem sX12_drop_38 : Site RX12 mX12_drop 38 41 mX12_has (some 12) 3 := site_V (dk DX12_drop 22 rfl) KX12 w_1265 w_1267 w_20 w_80 kX12_has pmX12_has (by decide)
set_option maxRecDepth 8000 in
theorem sX12_drop_60 : Site RX12 mX12_drop 60 63 mX12_with (some 12) 4 := site_V (dk DX12_drop 33 rfl) KX12 w_1253 w_1255 w_18 w_80 kX12_with pmX12_with (by decide)
set_option maxRecDepth 8000 in
theorem sX12_drop_64 : Site RX12 mX12_drop 64 67 mX12_costBy (some 12) 4 := site_V (dk DX12_drop 35 rfl) KX12 w_1457 w_1459 w_56 w_80 kX12_costBy pmX12_costBy (by decide)
set_option maxRecDepth 8000 in
theorem sX12_when_2 : Site RX12 mX12_when 2 5 mX12_isDoing (some 12) 2 := site_V (dk DX12_when 2 rfl) KX12 w_1261 w_1263 w_19 w_80 kX12_isDoing pmX12_isDoing (by decide)
set_option maxRecDepth 8000 in
theorem sX12_when_18 : Site RX12 mX12_when 18 21 mX12_comes (some 12) 3 := site_V (dk DX12_when 12 rfl) KX12 w_1433 w_1435 w_52 w_80 kX12_comes pmX12_comes (by decide)
set_option maxRecDepth 8000 in
theorem sX12_manyIn_16 : Site RX12 mX12_manyIn 16 19 mX12_comes (some 12) 3 := site_V (dk DX12_manyIn 12 rfl) KX12 w_1433 w_1435 w_52 w_80 kX12_comes pmX12_comes (by decide)
set_option maxRecDepth 8000 in
theorem sX12_busiest_4 : Site RX12 mX12_busiest 4 7 mX12_in (some 12) 4 := site_V (dk DX12_busiest 4 rfl) KX12 w_1249 w_1251 w_17 w_80 kX12_in pmX12_in (by decide)
set_option maxRecDepth 8000 in
theorem sX12_busiest_18 : Site RX12 mX12_busiest 18 21 mX12_in (some 12) 4 := site_V (dk DX12_busiest 12 rfl) KX12 w_1249 w_1251 w_17 w_80 kX12_in pmX12_in (by decide)
set_option maxRecDepth 8000 in
theorem w_58 : Cond.selects "NextOneKnowsModel" ({ cls := "NextOneKnowsModel", name := "manyIn", desc := "(I)I" } : Jvm.MethodName) ({ cls := "NextOneKnowsModel", name := "manyIn", desc := "(I)I" } : Jvm.MethodName) ∈ TG := tg_p 58 rfl rfl
set_option maxRecDepth 8000 in
theorem w_1485 : (Jvm.Cond.methodLink "NextOneKnowsModel" (368 : Nat) ({ cls := "NextOneKnowsModel", name := "manyIn", desc := "(I)I" } : Jvm.MethodName)) ∈ TG := tg_6 212 rfl rfl
set_option maxRecDepth 8000 in
theorem w_1487 : (Jvm.Cond.instanceMethod ({ cls := "NextOneKnowsModel", name := "manyIn", desc := "(I)I" } : Jvm.MethodName)) ∈ TG := tg_6 214 rfl rfl
set_option maxRecDepth 8000 in
theorem sX12_busiest_54 : Site RX12 mX12_busiest 54 57 mX12_manyIn (some 12) 2 := site_V (dk DX12_busiest 32 rfl) KX12 w_1485 w_1487 w_58 w_80 kX12_manyIn pmX12_manyIn (by decide)
set_option maxRecDepth 8000 in
theorem sX12_busiest_59 : Site RX12 mX12_busiest 59 62 mX12_manyIn (some 12) 2 := site_V (dk DX12_busiest 35 rfl) KX12 w_1485 w_1487 w_58 w_80 kX12_manyIn pmX12_manyIn (by decide)
set_option maxRecDepth 8000 in
theorem sX12_busiest_88 : Site RX12 mX12_busiest 88 91 mX12_manyIn (some 12) 2 := site_V (dk DX12_busiest 49 rfl) KX12 w_1485 w_1487 w_58 w_80 kX12_manyIn pmX12_manyIn (by decide)
set_option maxRecDepth 8000 in
theorem sX12_allCome_13 : Site RX12 mX12_allCome 13 16 mX12_has (some 12) 3 := site_V (dk DX12_allCome 9 rfl) KX12 w_1265 w_1267 w_20 w_80 kX12_has pmX12_has (by decide)
set_option maxRecDepth 8000 in
theorem sX12_allCome_22 : Site RX12 mX12_allCome 22 25 mX12_comes (some 12) 3 := site_V (dk DX12_allCome 14 rfl) KX12 w_1433 w_1435 w_52 w_80 kX12_comes pmX12_comes (by decide)
set_option maxRecDepth 8000 in
theorem sX12_all_11 : Site RX12 mX12_all 11 14 mX12_in (some 12) 4 := site_V (dk DX12_all 9 rfl) KX12 w_1249 w_1251 w_17 w_80 kX12_in pmX12_in (by decide)
set_option maxRecDepth 8000 in
theorem w_59 : Cond.selects "NextOneKnowsModel" ({ cls := "NextOneKnowsModel", name := "allCome", desc := "(II)Z" } : Jvm.MethodName) ({ cls := "NextOneKnowsModel", name := "allCome", desc := "(II)Z" } : Jvm.MethodName) ∈ TG := tg_p 59 rfl rfl
set_option maxRecDepth 8000 in
theorem w_1493 : (Jvm.Cond.methodLink "NextOneKnowsModel" (371 : Nat) ({ cls := "NextOneKnowsModel", name := "allCome", desc := "(II)Z" } : Jvm.MethodName)) ∈ TG := tg_6 220 rfl rfl
set_option maxRecDepth 8000 in
theorem w_1495 : (Jvm.Cond.instanceMethod ({ cls := "NextOneKnowsModel", name := "allCome", desc := "(II)Z" } : Jvm.MethodName)) ∈ TG := tg_6 222 rfl rfl
set_option maxRecDepth 8000 in
theorem sX12_all_37 : Site RX12 mX12_all 37 40 mX12_allCome (some 12) 3 := site_V (dk DX12_all 24 rfl) KX12 w_1493 w_1495 w_59 w_80 kX12_allCome pmX12_allCome (by decide)
set_option maxRecDepth 8000 in
theorem sX12_list_17 : Site RX12 mX12_list 17 20 mX12_in (some 12) 4 := site_V (dk DX12_list 12 rfl) KX12 w_1249 w_1251 w_17 w_80 kX12_in pmX12_in (by decide)
set_option maxRecDepth 8000 in
theorem sX12_list_28 : Site RX12 mX12_list 28 31 mX12_isDoing (some 12) 2 := site_V (dk DX12_list 18 rfl) KX12 w_1261 w_1263 w_19 w_80 kX12_isDoing pmX12_isDoing (by decide)
set_option maxRecDepth 8000 in
theorem sX12_firstOff_28 : Site RX12 mX12_firstOff 28 31 mX12_begins (some 12) 3 := site_V (dk DX12_firstOff 16 rfl) KX12 w_1421 w_1423 w_49 w_80 kX12_begins pmX12_begins (by decide)
set_option maxRecDepth 8000 in
theorem sX12_firstOff_34 : Site RX12 mX12_firstOff 34 37 mX12_goWeeks (some 12) 2 := site_V (dk DX12_firstOff 19 rfl) KX12 w_1425 w_1427 w_50 w_80 kX12_goWeeks pmX12_goWeeks (by decide)
set_option maxRecDepth 8000 in
theorem w_60 : Cond.selects "NextOneKnowsModel" ({ cls := "NextOneKnowsModel", name := "firstOff", desc := "(I)I" } : Jvm.MethodName) ({ cls := "NextOneKnowsModel", name := "firstOff", desc := "(I)I" } : Jvm.MethodName) ∈ TG := tg_p 60 rfl rfl
set_option maxRecDepth 8000 in
theorem w_1505 : (Jvm.Cond.methodLink "NextOneKnowsModel" (374 : Nat) ({ cls := "NextOneKnowsModel", name := "firstOff", desc := "(I)I" } : Jvm.MethodName)) ∈ TG := tg_6 232 rfl rfl
set_option maxRecDepth 8000 in
theorem w_1507 : (Jvm.Cond.instanceMethod ({ cls := "NextOneKnowsModel", name := "firstOff", desc := "(I)I" } : Jvm.MethodName)) ∈ TG := tg_6 234 rfl rfl
set_option maxRecDepth 8000 in
theorem sX12_looked_5 : Site RX12 mX12_looked 5 8 mX12_firstOff (some 12) 2 := site_V (dk DX12_looked 3 rfl) KX12 w_1505 w_1507 w_60 w_80 kX12_firstOff pmX12_firstOff (by decide)
set_option maxRecDepth 8000 in
theorem sX12_fits_29 : Site RX12 mX12_fits 29 32 mX12_firstOff (some 12) 2 := site_V (dk DX12_fits 19 rfl) KX12 w_1505 w_1507 w_60 w_80 kX12_firstOff pmX12_firstOff (by decide)
set_option maxRecDepth 8000 in
theorem sX12_comesIn_18 : Site RX12 mX12_comesIn 18 21 mX12_comes (some 12) 3 := site_V (dk DX12_comesIn 12 rfl) KX12 w_1433 w_1435 w_52 w_80 kX12_comes pmX12_comes (by decide)
set_option maxRecDepth 8000 in
theorem sX12_chance_5 : Site RX12 mX12_chance 5 8 mX12_in (some 12) 4 := site_V (dk DX12_chance_0 4 rfl) KX12 w_1249 w_1251 w_17 w_80 kX12_in pmX12_in (by decide)
set_option maxRecDepth 8000 in
theorem sX12_chance_15 : Site RX12 mX12_chance 15 18 mX12_in (some 12) 4 := site_V (dk DX12_chance_0 10 rfl) KX12 w_1249 w_1251 w_17 w_80 kX12_in pmX12_in (by decide)
set_option maxRecDepth 8000 in
theorem sX12_chance_49 : Site RX12 mX12_chance 49 52 mX12_has (some 12) 3 := site_V (dk DX12_chance_0 28 rfl) KX12 w_1265 w_1267 w_20 w_80 kX12_has pmX12_has (by decide)
set_option maxRecDepth 8000 in
theorem w_61 : Cond.selects "NextOneKnowsModel" ({ cls := "NextOneKnowsModel", name := "comesIn", desc := "(II)Z" } : Jvm.MethodName) ({ cls := "NextOneKnowsModel", name := "comesIn", desc := "(II)Z" } : Jvm.MethodName) ∈ TG := tg_p 61 rfl rfl
set_option maxRecDepth 8000 in
theorem w_1518 : (Jvm.Cond.methodLink "NextOneKnowsModel" (379 : Nat) ({ cls := "NextOneKnowsModel", name := "comesIn", desc := "(II)Z" } : Jvm.MethodName)) ∈ TG := tg_7 5 rfl rfl
set_option maxRecDepth 8000 in
theorem w_1520 : (Jvm.Cond.instanceMethod ({ cls := "NextOneKnowsModel", name := "comesIn", desc := "(II)Z" } : Jvm.MethodName)) ∈ TG := tg_7 7 rfl rfl
set_option maxRecDepth 8000 in
theorem sX12_chance_59 : Site RX12 mX12_chance 59 62 mX12_comesIn (some 12) 3 := site_V (dk DX12_chance_0 33 rfl) KX12 w_1518 w_1520 w_61 w_80 kX12_comesIn pmX12_comesIn (by decide)
set_option maxRecDepth 8000 in
theorem w_62 : Cond.selects "NextOneKnowsModel" ({ cls := "NextOneKnowsModel", name := "divisor", desc := "(JJ)J" } : Jvm.MethodName) ({ cls := "NextOneKnowsModel", name := "divisor", desc := "(JJ)J" } : Jvm.MethodName) ∈ TG := tg_p 62 rfl rfl
set_option maxRecDepth 8000 in
theorem w_1523 : (Jvm.Cond.methodLink "NextOneKnowsModel" (384 : Nat) ({ cls := "NextOneKnowsModel", name := "divisor", desc := "(JJ)J" } : Jvm.MethodName)) ∈ TG := tg_7 10 rfl rfl
set_option maxRecDepth 8000 in
theorem w_1525 : (Jvm.Cond.instanceMethod ({ cls := "NextOneKnowsModel", name := "divisor", desc := "(JJ)J" } : Jvm.MethodName)) ∈ TG := tg_7 12 rfl rfl
set_option maxRecDepth 8000 in
theorem sX12_chance_97 : Site RX12 mX12_chance 97 100 mX12_divisor (some 12) 3 := site_V (dk DX12_chance_0 53 rfl) KX12 w_1523 w_1525 w_62 w_80 kX12_divisor pmX12_divisor (by decide)
set_option maxRecDepth 8000 in
theorem w_63 : Cond.selects "NextOneKnowsModel" ({ cls := "NextOneKnowsModel", name := "isTape", desc := "(I)Z" } : Jvm.MethodName) ({ cls := "NextOneKnowsModel", name := "isTape", desc := "(I)Z" } : Jvm.MethodName) ∈ TG := tg_p 63 rfl rfl
set_option maxRecDepth 8000 in
theorem w_1531 : (Jvm.Cond.methodLink "NextOneKnowsModel" (388 : Nat) ({ cls := "NextOneKnowsModel", name := "isTape", desc := "(I)Z" } : Jvm.MethodName)) ∈ TG := tg_7 18 rfl rfl
set_option maxRecDepth 8000 in
theorem w_1533 : (Jvm.Cond.instanceMethod ({ cls := "NextOneKnowsModel", name := "isTape", desc := "(I)Z" } : Jvm.MethodName)) ∈ TG := tg_7 20 rfl rfl
set_option maxRecDepth 8000 in
theorem sX12_judge_2 : Site RX12 mX12_judge 2 5 mX12_isTape (some 12) 2 := site_V (dk DX12_judge_0 2 rfl) KX12 w_1531 w_1533 w_63 w_80 kX12_isTape pmX12_isTape (by decide)
set_option maxRecDepth 8000 in
theorem sX12_judge_93 : Site RX12 mX12_judge 93 96 mX12_has (some 12) 3 := site_V (dk DX12_judge_1 0 rfl) KX12 w_1265 w_1267 w_20 w_80 kX12_has pmX12_has (by decide)
set_option maxRecDepth 8000 in
theorem w_65 : Cond.selects "NextOneKnowsModel" ({ cls := "NextOneKnowsModel", name := "body", desc := "(I)V" } : Jvm.MethodName) ({ cls := "NextOneKnowsModel", name := "body", desc := "(I)V" } : Jvm.MethodName) ∈ TG := tg_p 65 rfl rfl
set_option maxRecDepth 8000 in
theorem w_1551 : (Jvm.Cond.methodLink "NextOneKnowsModel" (391 : Nat) ({ cls := "NextOneKnowsModel", name := "body", desc := "(I)V" } : Jvm.MethodName)) ∈ TG := tg_7 38 rfl rfl
set_option maxRecDepth 8000 in
theorem w_1553 : (Jvm.Cond.instanceMethod ({ cls := "NextOneKnowsModel", name := "body", desc := "(I)V" } : Jvm.MethodName)) ∈ TG := tg_7 40 rfl rfl
set_option maxRecDepth 8000 in
theorem sX12_knowingSays_3 : Site RX12 mX12_knowingSays 3 6 mX12_body (some 12) 2 := site_V (dk DX12_knowingSays 2 rfl) KX12 w_1551 w_1553 w_65 w_80 kX12_body pmX12_body (by decide)
set_option maxRecDepth 8000 in
theorem sX12_saysAct_43 : Site RX12 mX12_saysAct 43 46 mX12_body (some 12) 2 := site_V (dk DX12_saysAct 7 rfl) KX12 w_1551 w_1553 w_65 w_80 kX12_body pmX12_body (by decide)
set_option maxRecDepth 8000 in
theorem w_66 : Cond.selects "NextOneKnowsModel" ({ cls := "NextOneKnowsModel", name := "knowingSays", desc := "(II)I" } : Jvm.MethodName) ({ cls := "NextOneKnowsModel", name := "knowingSays", desc := "(II)I" } : Jvm.MethodName) ∈ TG := tg_p 66 rfl rfl
set_option maxRecDepth 8000 in
theorem w_1555 : (Jvm.Cond.methodLink "NextOneKnowsModel" (394 : Nat) ({ cls := "NextOneKnowsModel", name := "knowingSays", desc := "(II)I" } : Jvm.MethodName)) ∈ TG := tg_7 42 rfl rfl
set_option maxRecDepth 8000 in
theorem w_1557 : (Jvm.Cond.instanceMethod ({ cls := "NextOneKnowsModel", name := "knowingSays", desc := "(II)I" } : Jvm.MethodName)) ∈ TG := tg_7 44 rfl rfl
set_option maxRecDepth 8000 in
theorem sX12_saysAct_51 : Site RX12 mX12_saysAct 51 54 mX12_knowingSays (some 12) 3 := site_V (dk DX12_saysAct 13 rfl) KX12 w_1555 w_1557 w_66 w_80 kX12_knowingSays pmX12_knowingSays (by decide)
set_option maxRecDepth 8000 in
theorem sX12_saysAct_58 : Site RX12 mX12_saysAct 58 61 mX12_body (some 12) 2 := site_V (dk DX12_saysAct 17 rfl) KX12 w_1551 w_1553 w_65 w_80 kX12_body pmX12_body (by decide)
set_option maxRecDepth 8000 in
theorem sX12_saysAct_64 : Site RX12 mX12_saysAct 64 67 mX12_knowingSays (some 12) 3 := site_V (dk DX12_saysAct 21 rfl) KX12 w_1555 w_1557 w_66 w_80 kX12_knowingSays pmX12_knowingSays (by decide)
set_option maxRecDepth 8000 in
theorem sX12_saysAct_72 : Site RX12 mX12_saysAct 72 75 mX12_body (some 12) 2 := site_V (dk DX12_saysAct 26 rfl) KX12 w_1551 w_1553 w_65 w_80 kX12_body pmX12_body (by decide)
set_option maxRecDepth 8000 in
theorem sX12_saysAct_78 : Site RX12 mX12_saysAct 78 81 mX12_knowingSays (some 12) 3 := site_V (dk DX12_saysAct 30 rfl) KX12 w_1555 w_1557 w_66 w_80 kX12_knowingSays pmX12_knowingSays (by decide)
set_option maxRecDepth 8000 in
theorem sX12_saysAct_92 : Site RX12 mX12_saysAct 92 95 mX12_knowingSays (some 12) 3 := site_V (dk DX12_saysAct 40 rfl) KX12 w_1555 w_1557 w_66 w_80 kX12_knowingSays pmX12_knowingSays (by decide)
set_option maxRecDepth 8000 in
theorem sX12_knowingHolds_3 : Site RX12 mX12_knowingHolds 3 6 mX12_body (some 12) 2 := site_V (dk DX12_knowingHolds 2 rfl) KX12 w_1551 w_1553 w_65 w_80 kX12_body pmX12_body (by decide)
set_option maxRecDepth 8000 in
theorem w_64 : Cond.selects "NextOneKnowsModel" ({ cls := "NextOneKnowsModel", name := "saysAct", desc := "(II)I" } : Jvm.MethodName) ({ cls := "NextOneKnowsModel", name := "saysAct", desc := "(II)I" } : Jvm.MethodName) ∈ TG := tg_p 64 rfl rfl
set_option maxRecDepth 8000 in
theorem w_1547 : (Jvm.Cond.methodLink "NextOneKnowsModel" (397 : Nat) ({ cls := "NextOneKnowsModel", name := "saysAct", desc := "(II)I" } : Jvm.MethodName)) ∈ TG := tg_7 34 rfl rfl
set_option maxRecDepth 8000 in
theorem w_1549 : (Jvm.Cond.instanceMethod ({ cls := "NextOneKnowsModel", name := "saysAct", desc := "(II)I" } : Jvm.MethodName)) ∈ TG := tg_7 36 rfl rfl
set_option maxRecDepth 8000 in
theorem sX12_knowingHolds_9 : Site RX12 mX12_knowingHolds 9 12 mX12_saysAct (some 12) 3 := site_V (dk DX12_knowingHolds 6 rfl) KX12 w_1547 w_1549 w_64 w_80 kX12_saysAct pmX12_saysAct (by decide)
set_option maxRecDepth 8000 in
theorem sX12_writtenHolds_3 : Site RX12 mX12_writtenHolds 3 6 mX12_body (some 12) 2 := site_V (dk DX12_writtenHolds 2 rfl) KX12 w_1551 w_1553 w_65 w_80 kX12_body pmX12_body (by decide)
set_option maxRecDepth 8000 in
theorem w_69 : Cond.selects "NextOneKnowsModel" ({ cls := "NextOneKnowsModel", name := "knowingHolds", desc := "(II)I" } : Jvm.MethodName) ({ cls := "NextOneKnowsModel", name := "knowingHolds", desc := "(II)I" } : Jvm.MethodName) ∈ TG := tg_p 69 rfl rfl
set_option maxRecDepth 8000 in
theorem w_1567 : (Jvm.Cond.methodLink "NextOneKnowsModel" (400 : Nat) ({ cls := "NextOneKnowsModel", name := "knowingHolds", desc := "(II)I" } : Jvm.MethodName)) ∈ TG := tg_7 54 rfl rfl
set_option maxRecDepth 8000 in
theorem w_1569 : (Jvm.Cond.instanceMethod ({ cls := "NextOneKnowsModel", name := "knowingHolds", desc := "(II)I" } : Jvm.MethodName)) ∈ TG := tg_7 56 rfl rfl
set_option maxRecDepth 8000 in
theorem sX12_writtenHolds_9 : Site RX12 mX12_writtenHolds 9 12 mX12_knowingHolds (some 12) 3 := site_V (dk DX12_writtenHolds 6 rfl) KX12 w_1567 w_1569 w_69 w_80 kX12_knowingHolds pmX12_knowingHolds (by decide)
set_option maxRecDepth 8000 in
theorem w_68 : Cond.selects "NextOneKnowsModel" ({ cls := "NextOneKnowsModel", name := "writtenHolds", desc := "(II)I" } : Jvm.MethodName) ({ cls := "NextOneKnowsModel", name := "writtenHolds", desc := "(II)I" } : Jvm.MethodName) ∈ TG := tg_p 68 rfl rfl
set_option maxRecDepth 8000 in
theorem w_1563 : (Jvm.Cond.methodLink "NextOneKnowsModel" (403 : Nat) ({ cls := "NextOneKnowsModel", name := "writtenHolds", desc := "(II)I" } : Jvm.MethodName)) ∈ TG := tg_7 50 rfl rfl
set_option maxRecDepth 8000 in
theorem w_1565 : (Jvm.Cond.instanceMethod ({ cls := "NextOneKnowsModel", name := "writtenHolds", desc := "(II)I" } : Jvm.MethodName)) ∈ TG := tg_7 52 rfl rfl
set_option maxRecDepth 8000 in
theorem sX12_holdsAct_43 : Site RX12 mX12_holdsAct 43 46 mX12_writtenHolds (some 12) 3 := site_V (dk DX12_holdsAct 8 rfl) KX12 w_1563 w_1565 w_68 w_80 kX12_writtenHolds pmX12_writtenHolds (by decide)
set_option maxRecDepth 8000 in
theorem sX12_holdsAct_50 : Site RX12 mX12_holdsAct 50 53 mX12_body (some 12) 2 := site_V (dk DX12_holdsAct 12 rfl) KX12 w_1551 w_1553 w_65 w_80 kX12_body pmX12_body (by decide)
set_option maxRecDepth 8000 in
theorem sX12_holdsAct_58 : Site RX12 mX12_holdsAct 58 61 mX12_writtenHolds (some 12) 3 := site_V (dk DX12_holdsAct 18 rfl) KX12 w_1563 w_1565 w_68 w_80 kX12_writtenHolds pmX12_writtenHolds (by decide)
set_option maxRecDepth 8000 in
theorem sX12_holdsAct_65 : Site RX12 mX12_holdsAct 65 68 mX12_body (some 12) 2 := site_V (dk DX12_holdsAct 22 rfl) KX12 w_1551 w_1553 w_65 w_80 kX12_body pmX12_body (by decide)
set_option maxRecDepth 8000 in
theorem sX12_holdsAct_71 : Site RX12 mX12_holdsAct 71 74 mX12_knowingHolds (some 12) 3 := site_V (dk DX12_holdsAct 26 rfl) KX12 w_1567 w_1569 w_69 w_80 kX12_knowingHolds pmX12_knowingHolds (by decide)
set_option maxRecDepth 8000 in
theorem sX12_holdsAct_79 : Site RX12 mX12_holdsAct 79 82 mX12_knowingSays (some 12) 3 := site_V (dk DX12_holdsAct 32 rfl) KX12 w_1555 w_1557 w_66 w_80 kX12_knowingSays pmX12_knowingSays (by decide)
set_option maxRecDepth 8000 in
theorem sX12_holdsAct_87 : Site RX12 mX12_holdsAct 87 90 mX12_knowingHolds (some 12) 3 := site_V (dk DX12_holdsAct 38 rfl) KX12 w_1567 w_1569 w_69 w_80 kX12_knowingHolds pmX12_knowingHolds (by decide)
set_option maxRecDepth 8000 in
theorem sX12_knowingTells_3 : Site RX12 mX12_knowingTells 3 6 mX12_body (some 12) 2 := site_V (dk DX12_knowingTells 2 rfl) KX12 w_1551 w_1553 w_65 w_80 kX12_body pmX12_body (by decide)
set_option maxRecDepth 8000 in
theorem w_67 : Cond.selects "NextOneKnowsModel" ({ cls := "NextOneKnowsModel", name := "holdsAct", desc := "(II)I" } : Jvm.MethodName) ({ cls := "NextOneKnowsModel", name := "holdsAct", desc := "(II)I" } : Jvm.MethodName) ∈ TG := tg_p 67 rfl rfl
set_option maxRecDepth 8000 in
theorem w_1559 : (Jvm.Cond.methodLink "NextOneKnowsModel" (406 : Nat) ({ cls := "NextOneKnowsModel", name := "holdsAct", desc := "(II)I" } : Jvm.MethodName)) ∈ TG := tg_7 46 rfl rfl
set_option maxRecDepth 8000 in
theorem w_1561 : (Jvm.Cond.instanceMethod ({ cls := "NextOneKnowsModel", name := "holdsAct", desc := "(II)I" } : Jvm.MethodName)) ∈ TG := tg_7 48 rfl rfl
set_option maxRecDepth 8000 in
theorem sX12_knowingTells_9 : Site RX12 mX12_knowingTells 9 12 mX12_holdsAct (some 12) 3 := site_V (dk DX12_knowingTells 6 rfl) KX12 w_1559 w_1561 w_67 w_80 kX12_holdsAct pmX12_holdsAct (by decide)
set_option maxRecDepth 8000 in
theorem sX12_tellsAct_39 : Site RX12 mX12_tellsAct 39 42 mX12_body (some 12) 2 := site_V (dk DX12_tellsAct 7 rfl) KX12 w_1551 w_1553 w_65 w_80 kX12_body pmX12_body (by decide)
set_option maxRecDepth 8000 in
theorem w_71 : Cond.selects "NextOneKnowsModel" ({ cls := "NextOneKnowsModel", name := "knowingTells", desc := "(II)I" } : Jvm.MethodName) ({ cls := "NextOneKnowsModel", name := "knowingTells", desc := "(II)I" } : Jvm.MethodName) ∈ TG := tg_p 71 rfl rfl
set_option maxRecDepth 8000 in
theorem w_1575 : (Jvm.Cond.methodLink "NextOneKnowsModel" (409 : Nat) ({ cls := "NextOneKnowsModel", name := "knowingTells", desc := "(II)I" } : Jvm.MethodName)) ∈ TG := tg_7 62 rfl rfl
set_option maxRecDepth 8000 in
theorem w_1577 : (Jvm.Cond.instanceMethod ({ cls := "NextOneKnowsModel", name := "knowingTells", desc := "(II)I" } : Jvm.MethodName)) ∈ TG := tg_7 64 rfl rfl
set_option maxRecDepth 8000 in
theorem sX12_tellsAct_45 : Site RX12 mX12_tellsAct 45 48 mX12_knowingTells (some 12) 3 := site_V (dk DX12_tellsAct 11 rfl) KX12 w_1575 w_1577 w_71 w_80 kX12_knowingTells pmX12_knowingTells (by decide)
set_option maxRecDepth 8000 in
theorem sX12_tellsAct_53 : Site RX12 mX12_tellsAct 53 56 mX12_holdsAct (some 12) 3 := site_V (dk DX12_tellsAct 17 rfl) KX12 w_1559 w_1561 w_67 w_80 kX12_holdsAct pmX12_holdsAct (by decide)
set_option maxRecDepth 8000 in
theorem sX12_tellsAct_61 : Site RX12 mX12_tellsAct 61 64 mX12_body (some 12) 2 := site_V (dk DX12_tellsAct 22 rfl) KX12 w_1551 w_1553 w_65 w_80 kX12_body pmX12_body (by decide)
set_option maxRecDepth 8000 in
theorem sX12_tellsAct_69 : Site RX12 mX12_tellsAct 69 72 mX12_knowingTells (some 12) 3 := site_V (dk DX12_tellsAct 28 rfl) KX12 w_1575 w_1577 w_71 w_80 kX12_knowingTells pmX12_knowingTells (by decide)
set_option maxRecDepth 8000 in
theorem sX12_tellsAct_76 : Site RX12 mX12_tellsAct 76 79 mX12_knowingTells (some 12) 3 := site_V (dk DX12_tellsAct 33 rfl) KX12 w_1575 w_1577 w_71 w_80 kX12_knowingTells pmX12_knowingTells (by decide)
set_option maxRecDepth 8000 in
theorem sX12_act_7 : Site RX12 mX12_act 7 10 mX12_isDoing (some 12) 2 := site_V (dk DX12_act 5 rfl) KX12 w_1261 w_1263 w_19 w_80 kX12_isDoing pmX12_isDoing (by decide)
set_option maxRecDepth 8000 in
theorem sX12_act_17 : Site RX12 mX12_act 17 20 mX12_in (some 12) 4 := site_V (dk DX12_act 11 rfl) KX12 w_1249 w_1251 w_17 w_80 kX12_in pmX12_in (by decide)
set_option maxRecDepth 8000 in
theorem sX12_act_32 : Site RX12 mX12_act 32 35 mX12_saysAct (some 12) 3 := site_V (dk DX12_act 20 rfl) KX12 w_1547 w_1549 w_64 w_80 kX12_saysAct pmX12_saysAct (by decide)
set_option maxRecDepth 8000 in
theorem sX12_act_46 : Site RX12 mX12_act 46 49 mX12_holdsAct (some 12) 3 := site_V (dk DX12_act 28 rfl) KX12 w_1559 w_1561 w_67 w_80 kX12_holdsAct pmX12_holdsAct (by decide)
set_option maxRecDepth 8000 in
theorem w_70 : Cond.selects "NextOneKnowsModel" ({ cls := "NextOneKnowsModel", name := "tellsAct", desc := "(II)I" } : Jvm.MethodName) ({ cls := "NextOneKnowsModel", name := "tellsAct", desc := "(II)I" } : Jvm.MethodName) ∈ TG := tg_p 70 rfl rfl
set_option maxRecDepth 8000 in
theorem w_1571 : (Jvm.Cond.methodLink "NextOneKnowsModel" (412 : Nat) ({ cls := "NextOneKnowsModel", name := "tellsAct", desc := "(II)I" } : Jvm.MethodName)) ∈ TG := tg_7 58 rfl rfl
set_option maxRecDepth 8000 in
theorem w_1573 : (Jvm.Cond.instanceMethod ({ cls := "NextOneKnowsModel", name := "tellsAct", desc := "(II)I" } : Jvm.MethodName)) ∈ TG := tg_7 60 rfl rfl
set_option maxRecDepth 8000 in
theorem sX12_act_55 : Site RX12 mX12_act 55 58 mX12_tellsAct (some 12) 3 := site_V (dk DX12_act 33 rfl) KX12 w_1571 w_1573 w_70 w_80 kX12_tellsAct pmX12_tellsAct (by decide)
set_option maxRecDepth 8000 in
theorem sX12_trace_5 : Site RX12 mX12_trace 5 8 mX12_in (some 12) 4 := site_V (dk DX12_trace 4 rfl) KX12 w_1249 w_1251 w_17 w_80 kX12_in pmX12_in (by decide)
set_option maxRecDepth 8000 in
theorem sX12_taken_5 : Site RX12 mX12_taken 5 8 mX12_in (some 12) 4 := site_V (dk DX12_taken 4 rfl) KX12 w_1249 w_1251 w_17 w_80 kX12_in pmX12_in (by decide)
set_option maxRecDepth 8000 in
theorem sX12_taken_16 : Site RX12 mX12_taken 16 19 mX12_isDoing (some 12) 2 := site_V (dk DX12_taken 10 rfl) KX12 w_1261 w_1263 w_19 w_80 kX12_isDoing pmX12_isDoing (by decide)
set_option maxRecDepth 8000 in
theorem sX12_count_70 : Site RX12 mX12_count 70 73 mX12_ones (some 12) 2 := site_V (dk DX12_count 20 rfl) KX12 w_1409 w_1411 w_47 w_80 kX12_ones pmX12_ones (by decide)
set_option maxRecDepth 8000 in
theorem sX12_isTape_4 : Site RX12 mX12_isTape 4 7 mX12_in (some 12) 4 := site_V (dk DX12_isTape 4 rfl) KX12 w_1249 w_1251 w_17 w_80 kX12_in pmX12_in (by decide)
set_option maxRecDepth 8000 in
theorem sX12_tape_2 : Site RX12 mX12_tape 2 5 mX12_isTape (some 12) 2 := site_V (dk DX12_tape 2 rfl) KX12 w_1531 w_1533 w_63 w_80 kX12_isTape pmX12_isTape (by decide)
set_option maxRecDepth 8000 in
theorem sX12_tape_14 : Site RX12 mX12_tape 14 17 mX12_in (some 12) 4 := site_V (dk DX12_tape 10 rfl) KX12 w_1249 w_1251 w_17 w_80 kX12_in pmX12_in (by decide)
set_option maxRecDepth 8000 in
theorem sX12_item_2 : Site RX12 mX12_item 2 5 mX12_isTape (some 12) 2 := site_V (dk DX12_item 2 rfl) KX12 w_1531 w_1533 w_63 w_80 kX12_isTape pmX12_isTape (by decide)
set_option maxRecDepth 8000 in
theorem sX12_item_33 : Site RX12 mX12_item 33 36 mX12_in (some 12) 4 := site_V (dk DX12_item 22 rfl) KX12 w_1249 w_1251 w_17 w_80 kX12_in pmX12_in (by decide)
set_option maxRecDepth 8000 in
theorem w_72 : Cond.selects "NextOneKnowsModel" ({ cls := "NextOneKnowsModel", name := "narrow", desc := "(IJ)J" } : Jvm.MethodName) ({ cls := "NextOneKnowsModel", name := "narrow", desc := "(IJ)J" } : Jvm.MethodName) ∈ TG := tg_p 72 rfl rfl
set_option maxRecDepth 8000 in
theorem w_1599 : (Jvm.Cond.methodLink "NextOneKnowsModel" (415 : Nat) ({ cls := "NextOneKnowsModel", name := "narrow", desc := "(IJ)J" } : Jvm.MethodName)) ∈ TG := tg_7 86 rfl rfl
set_option maxRecDepth 8000 in
theorem w_1601 : (Jvm.Cond.instanceMethod ({ cls := "NextOneKnowsModel", name := "narrow", desc := "(IJ)J" } : Jvm.MethodName)) ∈ TG := tg_7 88 rfl rfl
set_option maxRecDepth 8000 in
theorem sX12_item_60 : Site RX12 mX12_item 60 63 mX12_narrow (some 12) 3 := site_V (dk DX12_item 39 rfl) KX12 w_1599 w_1601 w_72 w_80 kX12_narrow pmX12_narrow (by decide)
set_option maxRecDepth 8000 in
theorem sX12_read_2 : Site RX12 mX12_read 2 5 mX12_isTape (some 12) 2 := site_V (dk DX12_read 2 rfl) KX12 w_1531 w_1533 w_63 w_80 kX12_isTape pmX12_isTape (by decide)
set_option maxRecDepth 8000 in
theorem sX12_read_28 : Site RX12 mX12_read 28 31 mX12_in (some 12) 4 := site_V (dk DX12_read 18 rfl) KX12 w_1249 w_1251 w_17 w_80 kX12_in pmX12_in (by decide)
set_option maxRecDepth 8000 in
theorem sX12_shift_2 : Site RX12 mX12_shift 2 5 mX12_isTape (some 12) 2 := site_V (dk DX12_shift_0 2 rfl) KX12 w_1531 w_1533 w_63 w_80 kX12_isTape pmX12_isTape (by decide)
set_option maxRecDepth 8000 in
theorem sX12_shift_10 : Site RX12 mX12_shift 10 13 mX12_isTape (some 12) 2 := site_V (dk DX12_shift_0 6 rfl) KX12 w_1531 w_1533 w_63 w_80 kX12_isTape pmX12_isTape (by decide)
end
section
def rI (x : Int32) (I : It) (h : Ht) : Pt3 := fun r I' h' => r = some (.int x) ∧ I' = I ∧ h' = h
def rL (x : Int64) (I : It) (h : Ht) : Pt3 := fun r I' h' => r = some (.long x) ∧ I' = I ∧ h' = h
def rV (I : It) (h : Ht) : Pt3 := fun r I' h' => r = none ∧ I' = I ∧ h' = h
def rR (x : Option Nat) (I : It) (h : Ht) : Pt3 := fun r I' h' => r = some (rv x) ∧ I' = I ∧ h' = h
/-- an int and a world of which something is said -/
def qI (f : Int32 → It → Ht → Prop) : Pt3 := fun r I' h' => ∃ x, r = some (.int x) ∧ f x I' h'
def qL (f : Int64 → It → Ht → Prop) : Pt3 := fun r I' h' => ∃ x, r = some (.long x) ∧ f x I' h'
def qV (f : It → Ht → Prop) : Pt3 := fun r I' h' => r = none ∧ f I' h'
theorem rI_of {v x : Int32} {I I0 : It} {h h0 : Ht} (e : v = x) (e1 : I0 = I) (e2 : h0 = h) : rI x I h (some (.int v)) I0 h0 := ⟨by rw [e], e1, e2⟩
theorem rL_of {v x : Int64} {I I0 : It} {h h0 : Ht} (e : v = x) (e1 : I0 = I) (e2 : h0 = h) : rL x I h (some (.long v)) I0 h0 := ⟨by rw [e], e1, e2⟩
theorem rV_of {I I0 : It} {h h0 : Ht} (e1 : I0 = I) (e2 : h0 = h) : rV I h none I0 h0 := ⟨rfl, e1, e2⟩
theorem rR_of {v x : Option Nat} {I I0 : It} {h h0 : Ht} (e : v = x) (e1 : I0 = I) (e2 : h0 = h) : rR x I h (some (rv v)) I0 h0 := ⟨by rw [e], e1, e2⟩
theorem qI_of {v : Int32} {f : Int32 → It → Ht → Prop} {I0 : It} {h0 : Ht} (e : f v I0 h0) : qI f (some (.int v)) I0 h0 := ⟨v, rfl, e⟩
theorem qL_of {v : Int64} {f : Int64 → It → Ht → Prop} {I0 : It} {h0 : Ht} (e : f v I0 h0) : qL f (some (.long v)) I0 h0 := ⟨v, rfl, e⟩
theorem qV_of {f : It → Ht → Prop} {I0 : It} {h0 : Ht} (e : f I0 h0) : qV f none I0 h0 := ⟨rfl, e⟩
def bI (p : Prop) [Decidable p] : Int32 := if p then 1 else 0
theorem bI_t {p : Prop} [Decidable p] (hp : p) : bI p = 1 := if_pos hp
theorem bI_f {p : Prop} [Decidable p] (hp : ¬ p) : bI p = 0 := if_neg hp
theorem bI_0 {p : Prop} [Decidable p] : bI p = 0 ↔ ¬ p := by unfold bI; split <;> simp_all
theorem bI_n {p : Prop} [Decidable p] : bI p ≠ 0 ↔ p := by unfold bI; split <;> simp_all
theorem bI_01 (p : Prop) [Decidable p] : bI p = 0 ∨ bI p = 1 := by unfold bI; split <;> simp
theorem bI_c {p q : Prop} [Decidable p] [Decidable q] (e : p ↔ q) : bI p = bI q := by unfold bI; simp [e]
theorem nar01 {x : Int32} (hx : x = 0 ∨ x = 1) : narrow .boolean (.int x) = .int x := by rcases hx with rfl | rfl <;> decide
theorem narB (p : Prop) [Decidable p] : narrow .boolean (.int (bI p)) = .int (bI p) := nar01 (bI_01 p)
def idx (i : Int32) (j len : Nat) : Prop := i = nI j ∧ j < len ∧ len < 2 ^ 31
theorem idx_in {i : Int32} {j len : Nat} (hi : idx i j len) : vp_in i len := by obtain ⟨rfl, h1, h2⟩ := hi; exact vp_in_nI h1 h2
theorem idx_cl {i : Int32} {j len : Nat} (hi : idx i j len) : i.toNatClampNeg = j := by obtain ⟨rfl, h1, h2⟩ := hi; exact nI_clamp (by omega)
/-- an int that is not below 0, as a number -/
def tN (x : Int32) : Nat := x.toNatClampNeg
theorem tN_nI {n : Nat} (hn : n < 2 ^ 31) : tN (nI n) = n := nI_clamp hn
theorem nI_tN {x : Int32} (h : ¬ x < 0) : nI (tN x) = x := by
  obtain ⟨j, hj, rfl⟩ := nI_of h
  rw [tN_nI hj]
theorem idx_of {x : Int32} {len : Nat} (h0 : ¬ x < 0) (h1 : tN x < len) (h2 : len < 2 ^ 31) : idx x (tN x) len := ⟨(nI_tN h0).symm, h1, h2⟩

section FM
variable {G : Gt} {d mc ms : Nat} {own : String} {y : Mt} {X : Xt} {P : Pt3} {pc nx : Nat} {lo : List (Option Value)} {st : List Value} {I : It} {h : Ht} {k n : Nat}
theorem i_iaload (hX : Xok G own y X) {q len j : Nat} {i : Int32} (hd : dc y.2.1 pc .iaload 1 nx) (hq : q < hn h) (hc : hs h q = (20, len)) (hj : idx i j len) (kk : GG G d mc ms X P nx lo (.int (I q j) :: st) I h k n) : GG G d mc ms X P pc lo (.int i :: .ref q :: st) I h k n :=
  g_iaload hX hd hq hc (idx_in hj) (by rw [idx_cl hj]; exact kk)
theorem i_baload (hX : Xok G own y X) {q len j : Nat} {i : Int32} (hd : dc y.2.1 pc .baload 1 nx) (hq : q < hn h) (hc : hs h q = (22, len)) (hj : idx i j len) (kk : GG G d mc ms X P nx lo (.int (I q j) :: st) I h k n) : GG G d mc ms X P pc lo (.int i :: .ref q :: st) I h k n :=
  g_baload hX hd hq hc (idx_in hj) (by rw [idx_cl hj]; exact kk)
theorem i_zaload (hX : Xok G own y X) {q len j : Nat} {i : Int32} (hd : dc y.2.1 pc .baload 1 nx) (hq : q < hn h) (hc : hs h q = (23, len)) (hj : idx i j len) (kk : GG G d mc ms X P nx lo (.int (I q j) :: st) I h k n) : GG G d mc ms X P pc lo (.int i :: .ref q :: st) I h k n :=
  g_zaload hX hd hq hc (idx_in hj) (by rw [idx_cl hj]; exact kk)
theorem i_laload (hX : Xok G own y X) {q len j : Nat} {i : Int32} (hd : dc y.2.1 pc .laload 1 nx) (hq : q < hn h) (hc : hs h q = (21, len)) (hj : idx i j len) (kk : GG G d mc ms X P nx lo (.long (hL h q j) :: st) I h k n) : GG G d mc ms X P pc lo (.int i :: .ref q :: st) I h k n :=
  g_laload hX hd hq hc (idx_in hj) (by rw [idx_cl hj]; exact kk)
theorem i_iastore (hX : Xok G own y X) {q len j : Nat} {i : Int32} {x : Int32} (hd : dc y.2.1 pc .iastore 1 nx) (hq : q < hn h) (hc : hs h q = (20, len)) (hj : idx i j len) (kk : GG G d mc ms X P nx lo st (upI I q j x) h k n) : GG G d mc ms X P pc lo (.int x :: .int i :: .ref q :: st) I h k n :=
  g_iastore hX hd hq hc (idx_in hj) (by rw [idx_cl hj]; exact kk)
theorem i_bastore (hX : Xok G own y X) {q len j : Nat} {i : Int32} {x : Int32} (hd : dc y.2.1 pc .bastore 1 nx) (hq : q < hn h) (hc : hs h q = (22, len)) (hj : idx i j len) (kk : GG G d mc ms X P nx lo st (upI I q j (vp_nar .byte x)) h k n) : GG G d mc ms X P pc lo (.int x :: .int i :: .ref q :: st) I h k n :=
  g_bastore hX hd hq hc (idx_in hj) (by rw [idx_cl hj]; exact kk)
theorem i_zastore (hX : Xok G own y X) {q len j : Nat} {i : Int32} {x : Int32} (hd : dc y.2.1 pc .bastore 1 nx) (hq : q < hn h) (hc : hs h q = (23, len)) (hj : idx i j len) (kk : GG G d mc ms X P nx lo st (upI I q j (vp_nar .boolean x)) h k n) : GG G d mc ms X P pc lo (.int x :: .int i :: .ref q :: st) I h k n :=
  g_zastore hX hd hq hc (idx_in hj) (by rw [idx_cl hj]; exact kk)
theorem i_lastore (hX : Xok G own y X) {q len j : Nat} {i : Int32} {x : Int64} (hd : dc y.2.1 pc .lastore 1 nx) (hq : q < hn h) (hc : hs h q = (21, len)) (hj : idx i j len) (kk : GG G d mc ms X P nx lo st I (wL h q j x) k n) : GG G d mc ms X P pc lo (.long x :: .int i :: .ref q :: st) I h k n :=
  g_lastore hX hd hq hc (idx_in hj) (by rw [idx_cl hj]; exact kk)
theorem i_aaload (hX : Xok G own y X) {q t len i0 j : Nat} {ty : FieldType} {i : Int32} {r : Option Nat} (hd : dc y.2.1 pc .aaload 1 nx) (hq : q < hn h) (hc : hs h q = (t, len)) (ht : 24 ≤ t) (hty : tysL[i0]? = some (t, ty)) (hrk : refKind ty = true) (hj : idx i j len) (hr : hR h q j = r) (kk : GG G d mc ms X P nx lo (rv r :: st) I h k n) : GG G d mc ms X P pc lo (.int i :: .ref q :: st) I h k n :=
  g_aaload hX hd hq hc ht hty hrk (idx_in hj) (by rw [idx_cl hj]; exact hr) kk
theorem g_getRs (hX : Xok G own y X) {idx ci N j q r : Nat} {C ref : String} {T : u_T} {ty : Nat → FieldType} (hd : dc y.2.1 pc (.getfield idx) 3 nx) (hC : CLS ci C T N ty) (hl : Fln own ref T idx j) (hj : j < N) (hr : isr ci j = true) (hq : q < hn h) (hc : (hs h q).1 = ci) (hv : hR h q j = some r)
    (kk : GG G d mc ms X P nx lo (.ref r :: st) I h k n) : GG G d mc ms X P pc lo (.ref q :: st) I h k n := g_getR hX hd hC hl hj hr hq hc hv kk
theorem rc0 {av As : List Value} {b c : Nat} (hav : av = .ref b :: As) (hb : b < hn h) (hc : (hs h b).1 = c) : ∀ c', some c = some c' → ∃ b As, av = .ref b :: As ∧ b < hn h ∧ (hs h b).1 = c' := fun c' e => by cases e; exact ⟨b, As, hav, hb, hc⟩
theorem rcN {av : List Value} : ∀ c', none = some c' → ∃ b As, av = .ref b :: As ∧ b < hn h ∧ (hs h b).1 = c' := fun c' e => by cases e
theorem g_c0 (hX : Xok G own y X) {y2 : Mt} {ci : Option Nat} {d2 mc2 ms2 : Nat}  {Q : Pt3} (S : Site own y pc nx y2 ci 0) (hdd : d2 + 1 ≤ d) (hst : (st.map fun v => v.category).sum ≤ 8) (hrc : ∀ c, ci = some c → ∃ b As, ([] : List Value) = .ref b :: As ∧ b < hn h ∧ (hs h b).1 = c) (hk : k + mc2 ≤ mc) (hms : n + ms2 ≤ ms) (hC : Con G d2 mc2 ms2 y2 [] I h Q) (kk : ∀ r I' h', Q r I' h' → GG G d mc ms X P nx lo (r.toList ++ st) I' h' (k + mc2) (n + ms2)) : GG G d mc ms X P pc lo (st) I h k n :=
  S G d mc ms X P lo st I h k n d2 mc2 ms2 [] Q hX hdd hk hms hst rfl hrc hC kk
theorem g_c0I (hX : Xok G own y X) {y2 : Mt} {ci : Option Nat} {d2 : Nat}  {x : Int32} {I1 : It} {h1 : Ht} (S : Site own y pc nx y2 ci 0) (hdd : d2 + 1 ≤ d) (hst : (st.map fun v => v.category).sum ≤ 8) (hrc : ∀ c, ci = some c → ∃ b As, ([] : List Value) = .ref b :: As ∧ b < hn h ∧ (hs h b).1 = c) (hk : k ≤ mc) (hms : n ≤ ms) (hC : Con G d2 0 0 y2 [] I h (rI x I1 h1)) (kk : GG G d mc ms X P nx lo (.int x :: st) I1 h1 k n) : GG G d mc ms X P pc lo (st) I h k n :=
  g_c0 hX S hdd hst hrc hk hms hC (fun r I' h' hq => by obtain ⟨rfl, rfl, rfl⟩ := hq; exact kk)
theorem g_c0L (hX : Xok G own y X) {y2 : Mt} {ci : Option Nat} {d2 : Nat}  {x : Int64} {I1 : It} {h1 : Ht} (S : Site own y pc nx y2 ci 0) (hdd : d2 + 1 ≤ d) (hst : (st.map fun v => v.category).sum ≤ 8) (hrc : ∀ c, ci = some c → ∃ b As, ([] : List Value) = .ref b :: As ∧ b < hn h ∧ (hs h b).1 = c) (hk : k ≤ mc) (hms : n ≤ ms) (hC : Con G d2 0 0 y2 [] I h (rL x I1 h1)) (kk : GG G d mc ms X P nx lo (.long x :: st) I1 h1 k n) : GG G d mc ms X P pc lo (st) I h k n :=
  g_c0 hX S hdd hst hrc hk hms hC (fun r I' h' hq => by obtain ⟨rfl, rfl, rfl⟩ := hq; exact kk)
theorem g_c0V (hX : Xok G own y X) {y2 : Mt} {ci : Option Nat} {d2 : Nat}  {I1 : It} {h1 : Ht} (S : Site own y pc nx y2 ci 0) (hdd : d2 + 1 ≤ d) (hst : (st.map fun v => v.category).sum ≤ 8) (hrc : ∀ c, ci = some c → ∃ b As, ([] : List Value) = .ref b :: As ∧ b < hn h ∧ (hs h b).1 = c) (hk : k ≤ mc) (hms : n ≤ ms) (hC : Con G d2 0 0 y2 [] I h (rV I1 h1)) (kk : GG G d mc ms X P nx lo st I1 h1 k n) : GG G d mc ms X P pc lo (st) I h k n :=
  g_c0 hX S hdd hst hrc hk hms hC (fun r I' h' hq => by obtain ⟨rfl, rfl, rfl⟩ := hq; exact kk)
theorem g_c0R (hX : Xok G own y X) {y2 : Mt} {ci : Option Nat} {d2 : Nat}  {x : Option Nat} {I1 : It} {h1 : Ht} (S : Site own y pc nx y2 ci 0) (hdd : d2 + 1 ≤ d) (hst : (st.map fun v => v.category).sum ≤ 8) (hrc : ∀ c, ci = some c → ∃ b As, ([] : List Value) = .ref b :: As ∧ b < hn h ∧ (hs h b).1 = c) (hk : k ≤ mc) (hms : n ≤ ms) (hC : Con G d2 0 0 y2 [] I h (rR x I1 h1)) (kk : GG G d mc ms X P nx lo (rv x :: st) I1 h1 k n) : GG G d mc ms X P pc lo (st) I h k n :=
  g_c0 hX S hdd hst hrc hk hms hC (fun r I' h' hq => by obtain ⟨rfl, rfl, rfl⟩ := hq; exact kk)
theorem g_c0q (hX : Xok G own y X) {y2 : Mt} {ci : Option Nat} {d2 : Nat}  {f : Int32 → It → Ht → Prop} (S : Site own y pc nx y2 ci 0) (hdd : d2 + 1 ≤ d) (hst : (st.map fun v => v.category).sum ≤ 8) (hrc : ∀ c, ci = some c → ∃ b As, ([] : List Value) = .ref b :: As ∧ b < hn h ∧ (hs h b).1 = c) (hk : k ≤ mc) (hms : n ≤ ms) (hC : Con G d2 0 0 y2 [] I h (qI f)) (kk : ∀ x I' h', f x I' h' → GG G d mc ms X P nx lo (.int x :: st) I' h' k n) : GG G d mc ms X P pc lo (st) I h k n :=
  g_c0 hX S hdd hst hrc hk hms hC (fun r I' h' hq => by obtain ⟨x, rfl, hf⟩ := hq; exact kk x I' h' hf)
theorem g_c0v (hX : Xok G own y X) {y2 : Mt} {ci : Option Nat} {d2 : Nat}  {f : It → Ht → Prop} (S : Site own y pc nx y2 ci 0) (hdd : d2 + 1 ≤ d) (hst : (st.map fun v => v.category).sum ≤ 8) (hrc : ∀ c, ci = some c → ∃ b As, ([] : List Value) = .ref b :: As ∧ b < hn h ∧ (hs h b).1 = c) (hk : k ≤ mc) (hms : n ≤ ms) (hC : Con G d2 0 0 y2 [] I h (qV f)) (kk : ∀ I' h', f I' h' → GG G d mc ms X P nx lo st I' h' k n) : GG G d mc ms X P pc lo (st) I h k n :=
  g_c0 hX S hdd hst hrc hk hms hC (fun r I' h' hq => by obtain ⟨rfl, hf⟩ := hq; exact kk I' h' hf)
theorem g_c1 (hX : Xok G own y X) {y2 : Mt} {ci : Option Nat} {d2 mc2 ms2 : Nat} {v0 : Value}  {Q : Pt3} (S : Site own y pc nx y2 ci 1) (hdd : d2 + 1 ≤ d) (hst : (st.map fun v => v.category).sum ≤ 8) (hrc : ∀ c, ci = some c → ∃ b As, ([v0] : List Value) = .ref b :: As ∧ b < hn h ∧ (hs h b).1 = c) (hk : k + mc2 ≤ mc) (hms : n + ms2 ≤ ms) (hC : Con G d2 mc2 ms2 y2 [v0] I h Q) (kk : ∀ r I' h', Q r I' h' → GG G d mc ms X P nx lo (r.toList ++ st) I' h' (k + mc2) (n + ms2)) : GG G d mc ms X P pc lo (v0 :: st) I h k n :=
  S G d mc ms X P lo st I h k n d2 mc2 ms2 [v0] Q hX hdd hk hms hst rfl hrc hC kk
theorem g_c1I (hX : Xok G own y X) {y2 : Mt} {ci : Option Nat} {d2 : Nat} {v0 : Value}  {x : Int32} {I1 : It} {h1 : Ht} (S : Site own y pc nx y2 ci 1) (hdd : d2 + 1 ≤ d) (hst : (st.map fun v => v.category).sum ≤ 8) (hrc : ∀ c, ci = some c → ∃ b As, ([v0] : List Value) = .ref b :: As ∧ b < hn h ∧ (hs h b).1 = c) (hk : k ≤ mc) (hms : n ≤ ms) (hC : Con G d2 0 0 y2 [v0] I h (rI x I1 h1)) (kk : GG G d mc ms X P nx lo (.int x :: st) I1 h1 k n) : GG G d mc ms X P pc lo (v0 :: st) I h k n :=
  g_c1 hX S hdd hst hrc hk hms hC (fun r I' h' hq => by obtain ⟨rfl, rfl, rfl⟩ := hq; exact kk)
theorem g_c1L (hX : Xok G own y X) {y2 : Mt} {ci : Option Nat} {d2 : Nat} {v0 : Value}  {x : Int64} {I1 : It} {h1 : Ht} (S : Site own y pc nx y2 ci 1) (hdd : d2 + 1 ≤ d) (hst : (st.map fun v => v.category).sum ≤ 8) (hrc : ∀ c, ci = some c → ∃ b As, ([v0] : List Value) = .ref b :: As ∧ b < hn h ∧ (hs h b).1 = c) (hk : k ≤ mc) (hms : n ≤ ms) (hC : Con G d2 0 0 y2 [v0] I h (rL x I1 h1)) (kk : GG G d mc ms X P nx lo (.long x :: st) I1 h1 k n) : GG G d mc ms X P pc lo (v0 :: st) I h k n :=
  g_c1 hX S hdd hst hrc hk hms hC (fun r I' h' hq => by obtain ⟨rfl, rfl, rfl⟩ := hq; exact kk)
theorem g_c1V (hX : Xok G own y X) {y2 : Mt} {ci : Option Nat} {d2 : Nat} {v0 : Value}  {I1 : It} {h1 : Ht} (S : Site own y pc nx y2 ci 1) (hdd : d2 + 1 ≤ d) (hst : (st.map fun v => v.category).sum ≤ 8) (hrc : ∀ c, ci = some c → ∃ b As, ([v0] : List Value) = .ref b :: As ∧ b < hn h ∧ (hs h b).1 = c) (hk : k ≤ mc) (hms : n ≤ ms) (hC : Con G d2 0 0 y2 [v0] I h (rV I1 h1)) (kk : GG G d mc ms X P nx lo st I1 h1 k n) : GG G d mc ms X P pc lo (v0 :: st) I h k n :=
  g_c1 hX S hdd hst hrc hk hms hC (fun r I' h' hq => by obtain ⟨rfl, rfl, rfl⟩ := hq; exact kk)
theorem g_c1R (hX : Xok G own y X) {y2 : Mt} {ci : Option Nat} {d2 : Nat} {v0 : Value}  {x : Option Nat} {I1 : It} {h1 : Ht} (S : Site own y pc nx y2 ci 1) (hdd : d2 + 1 ≤ d) (hst : (st.map fun v => v.category).sum ≤ 8) (hrc : ∀ c, ci = some c → ∃ b As, ([v0] : List Value) = .ref b :: As ∧ b < hn h ∧ (hs h b).1 = c) (hk : k ≤ mc) (hms : n ≤ ms) (hC : Con G d2 0 0 y2 [v0] I h (rR x I1 h1)) (kk : GG G d mc ms X P nx lo (rv x :: st) I1 h1 k n) : GG G d mc ms X P pc lo (v0 :: st) I h k n :=
  g_c1 hX S hdd hst hrc hk hms hC (fun r I' h' hq => by obtain ⟨rfl, rfl, rfl⟩ := hq; exact kk)
theorem g_c1q (hX : Xok G own y X) {y2 : Mt} {ci : Option Nat} {d2 : Nat} {v0 : Value}  {f : Int32 → It → Ht → Prop} (S : Site own y pc nx y2 ci 1) (hdd : d2 + 1 ≤ d) (hst : (st.map fun v => v.category).sum ≤ 8) (hrc : ∀ c, ci = some c → ∃ b As, ([v0] : List Value) = .ref b :: As ∧ b < hn h ∧ (hs h b).1 = c) (hk : k ≤ mc) (hms : n ≤ ms) (hC : Con G d2 0 0 y2 [v0] I h (qI f)) (kk : ∀ x I' h', f x I' h' → GG G d mc ms X P nx lo (.int x :: st) I' h' k n) : GG G d mc ms X P pc lo (v0 :: st) I h k n :=
  g_c1 hX S hdd hst hrc hk hms hC (fun r I' h' hq => by obtain ⟨x, rfl, hf⟩ := hq; exact kk x I' h' hf)
theorem g_c1v (hX : Xok G own y X) {y2 : Mt} {ci : Option Nat} {d2 : Nat} {v0 : Value}  {f : It → Ht → Prop} (S : Site own y pc nx y2 ci 1) (hdd : d2 + 1 ≤ d) (hst : (st.map fun v => v.category).sum ≤ 8) (hrc : ∀ c, ci = some c → ∃ b As, ([v0] : List Value) = .ref b :: As ∧ b < hn h ∧ (hs h b).1 = c) (hk : k ≤ mc) (hms : n ≤ ms) (hC : Con G d2 0 0 y2 [v0] I h (qV f)) (kk : ∀ I' h', f I' h' → GG G d mc ms X P nx lo st I' h' k n) : GG G d mc ms X P pc lo (v0 :: st) I h k n :=
  g_c1 hX S hdd hst hrc hk hms hC (fun r I' h' hq => by obtain ⟨rfl, hf⟩ := hq; exact kk I' h' hf)
theorem g_c2 (hX : Xok G own y X) {y2 : Mt} {ci : Option Nat} {d2 mc2 ms2 : Nat} {v0 v1 : Value}  {Q : Pt3} (S : Site own y pc nx y2 ci 2) (hdd : d2 + 1 ≤ d) (hst : (st.map fun v => v.category).sum ≤ 8) (hrc : ∀ c, ci = some c → ∃ b As, ([v0, v1] : List Value) = .ref b :: As ∧ b < hn h ∧ (hs h b).1 = c) (hk : k + mc2 ≤ mc) (hms : n + ms2 ≤ ms) (hC : Con G d2 mc2 ms2 y2 [v0, v1] I h Q) (kk : ∀ r I' h', Q r I' h' → GG G d mc ms X P nx lo (r.toList ++ st) I' h' (k + mc2) (n + ms2)) : GG G d mc ms X P pc lo (v1 :: v0 :: st) I h k n :=
  S G d mc ms X P lo st I h k n d2 mc2 ms2 [v0, v1] Q hX hdd hk hms hst rfl hrc hC kk
theorem g_c2I (hX : Xok G own y X) {y2 : Mt} {ci : Option Nat} {d2 : Nat} {v0 v1 : Value}  {x : Int32} {I1 : It} {h1 : Ht} (S : Site own y pc nx y2 ci 2) (hdd : d2 + 1 ≤ d) (hst : (st.map fun v => v.category).sum ≤ 8) (hrc : ∀ c, ci = some c → ∃ b As, ([v0, v1] : List Value) = .ref b :: As ∧ b < hn h ∧ (hs h b).1 = c) (hk : k ≤ mc) (hms : n ≤ ms) (hC : Con G d2 0 0 y2 [v0, v1] I h (rI x I1 h1)) (kk : GG G d mc ms X P nx lo (.int x :: st) I1 h1 k n) : GG G d mc ms X P pc lo (v1 :: v0 :: st) I h k n :=
  g_c2 hX S hdd hst hrc hk hms hC (fun r I' h' hq => by obtain ⟨rfl, rfl, rfl⟩ := hq; exact kk)
theorem g_c2L (hX : Xok G own y X) {y2 : Mt} {ci : Option Nat} {d2 : Nat} {v0 v1 : Value}  {x : Int64} {I1 : It} {h1 : Ht} (S : Site own y pc nx y2 ci 2) (hdd : d2 + 1 ≤ d) (hst : (st.map fun v => v.category).sum ≤ 8) (hrc : ∀ c, ci = some c → ∃ b As, ([v0, v1] : List Value) = .ref b :: As ∧ b < hn h ∧ (hs h b).1 = c) (hk : k ≤ mc) (hms : n ≤ ms) (hC : Con G d2 0 0 y2 [v0, v1] I h (rL x I1 h1)) (kk : GG G d mc ms X P nx lo (.long x :: st) I1 h1 k n) : GG G d mc ms X P pc lo (v1 :: v0 :: st) I h k n :=
  g_c2 hX S hdd hst hrc hk hms hC (fun r I' h' hq => by obtain ⟨rfl, rfl, rfl⟩ := hq; exact kk)
theorem g_c2V (hX : Xok G own y X) {y2 : Mt} {ci : Option Nat} {d2 : Nat} {v0 v1 : Value}  {I1 : It} {h1 : Ht} (S : Site own y pc nx y2 ci 2) (hdd : d2 + 1 ≤ d) (hst : (st.map fun v => v.category).sum ≤ 8) (hrc : ∀ c, ci = some c → ∃ b As, ([v0, v1] : List Value) = .ref b :: As ∧ b < hn h ∧ (hs h b).1 = c) (hk : k ≤ mc) (hms : n ≤ ms) (hC : Con G d2 0 0 y2 [v0, v1] I h (rV I1 h1)) (kk : GG G d mc ms X P nx lo st I1 h1 k n) : GG G d mc ms X P pc lo (v1 :: v0 :: st) I h k n :=
  g_c2 hX S hdd hst hrc hk hms hC (fun r I' h' hq => by obtain ⟨rfl, rfl, rfl⟩ := hq; exact kk)
theorem g_c2R (hX : Xok G own y X) {y2 : Mt} {ci : Option Nat} {d2 : Nat} {v0 v1 : Value}  {x : Option Nat} {I1 : It} {h1 : Ht} (S : Site own y pc nx y2 ci 2) (hdd : d2 + 1 ≤ d) (hst : (st.map fun v => v.category).sum ≤ 8) (hrc : ∀ c, ci = some c → ∃ b As, ([v0, v1] : List Value) = .ref b :: As ∧ b < hn h ∧ (hs h b).1 = c) (hk : k ≤ mc) (hms : n ≤ ms) (hC : Con G d2 0 0 y2 [v0, v1] I h (rR x I1 h1)) (kk : GG G d mc ms X P nx lo (rv x :: st) I1 h1 k n) : GG G d mc ms X P pc lo (v1 :: v0 :: st) I h k n :=
  g_c2 hX S hdd hst hrc hk hms hC (fun r I' h' hq => by obtain ⟨rfl, rfl, rfl⟩ := hq; exact kk)
theorem g_c2q (hX : Xok G own y X) {y2 : Mt} {ci : Option Nat} {d2 : Nat} {v0 v1 : Value}  {f : Int32 → It → Ht → Prop} (S : Site own y pc nx y2 ci 2) (hdd : d2 + 1 ≤ d) (hst : (st.map fun v => v.category).sum ≤ 8) (hrc : ∀ c, ci = some c → ∃ b As, ([v0, v1] : List Value) = .ref b :: As ∧ b < hn h ∧ (hs h b).1 = c) (hk : k ≤ mc) (hms : n ≤ ms) (hC : Con G d2 0 0 y2 [v0, v1] I h (qI f)) (kk : ∀ x I' h', f x I' h' → GG G d mc ms X P nx lo (.int x :: st) I' h' k n) : GG G d mc ms X P pc lo (v1 :: v0 :: st) I h k n :=
  g_c2 hX S hdd hst hrc hk hms hC (fun r I' h' hq => by obtain ⟨x, rfl, hf⟩ := hq; exact kk x I' h' hf)
theorem g_c2v (hX : Xok G own y X) {y2 : Mt} {ci : Option Nat} {d2 : Nat} {v0 v1 : Value}  {f : It → Ht → Prop} (S : Site own y pc nx y2 ci 2) (hdd : d2 + 1 ≤ d) (hst : (st.map fun v => v.category).sum ≤ 8) (hrc : ∀ c, ci = some c → ∃ b As, ([v0, v1] : List Value) = .ref b :: As ∧ b < hn h ∧ (hs h b).1 = c) (hk : k ≤ mc) (hms : n ≤ ms) (hC : Con G d2 0 0 y2 [v0, v1] I h (qV f)) (kk : ∀ I' h', f I' h' → GG G d mc ms X P nx lo st I' h' k n) : GG G d mc ms X P pc lo (v1 :: v0 :: st) I h k n :=
  g_c2 hX S hdd hst hrc hk hms hC (fun r I' h' hq => by obtain ⟨rfl, hf⟩ := hq; exact kk I' h' hf)
theorem g_c3 (hX : Xok G own y X) {y2 : Mt} {ci : Option Nat} {d2 mc2 ms2 : Nat} {v0 v1 v2 : Value}  {Q : Pt3} (S : Site own y pc nx y2 ci 3) (hdd : d2 + 1 ≤ d) (hst : (st.map fun v => v.category).sum ≤ 8) (hrc : ∀ c, ci = some c → ∃ b As, ([v0, v1, v2] : List Value) = .ref b :: As ∧ b < hn h ∧ (hs h b).1 = c) (hk : k + mc2 ≤ mc) (hms : n + ms2 ≤ ms) (hC : Con G d2 mc2 ms2 y2 [v0, v1, v2] I h Q) (kk : ∀ r I' h', Q r I' h' → GG G d mc ms X P nx lo (r.toList ++ st) I' h' (k + mc2) (n + ms2)) : GG G d mc ms X P pc lo (v2 :: v1 :: v0 :: st) I h k n :=
  S G d mc ms X P lo st I h k n d2 mc2 ms2 [v0, v1, v2] Q hX hdd hk hms hst rfl hrc hC kk
theorem g_c3I (hX : Xok G own y X) {y2 : Mt} {ci : Option Nat} {d2 : Nat} {v0 v1 v2 : Value}  {x : Int32} {I1 : It} {h1 : Ht} (S : Site own y pc nx y2 ci 3) (hdd : d2 + 1 ≤ d) (hst : (st.map fun v => v.category).sum ≤ 8) (hrc : ∀ c, ci = some c → ∃ b As, ([v0, v1, v2] : List Value) = .ref b :: As ∧ b < hn h ∧ (hs h b).1 = c) (hk : k ≤ mc) (hms : n ≤ ms) (hC : Con G d2 0 0 y2 [v0, v1, v2] I h (rI x I1 h1)) (kk : GG G d mc ms X P nx lo (.int x :: st) I1 h1 k n) : GG G d mc ms X P pc lo (v2 :: v1 :: v0 :: st) I h k n :=
  g_c3 hX S hdd hst hrc hk hms hC (fun r I' h' hq => by obtain ⟨rfl, rfl, rfl⟩ := hq; exact kk)
theorem g_c3L (hX : Xok G own y X) {y2 : Mt} {ci : Option Nat} {d2 : Nat} {v0 v1 v2 : Value}  {x : Int64} {I1 : It} {h1 : Ht} (S : Site own y pc nx y2 ci 3) (hdd : d2 + 1 ≤ d) (hst : (st.map fun v => v.category).sum ≤ 8) (hrc : ∀ c, ci = some c → ∃ b As, ([v0, v1, v2] : List Value) = .ref b :: As ∧ b < hn h ∧ (hs h b).1 = c) (hk : k ≤ mc) (hms : n ≤ ms) (hC : Con G d2 0 0 y2 [v0, v1, v2] I h (rL x I1 h1)) (kk : GG G d mc ms X P nx lo (.long x :: st) I1 h1 k n) : GG G d mc ms X P pc lo (v2 :: v1 :: v0 :: st) I h k n :=
  g_c3 hX S hdd hst hrc hk hms hC (fun r I' h' hq => by obtain ⟨rfl, rfl, rfl⟩ := hq; exact kk)
theorem g_c3V (hX : Xok G own y X) {y2 : Mt} {ci : Option Nat} {d2 : Nat} {v0 v1 v2 : Value}  {I1 : It} {h1 : Ht} (S : Site own y pc nx y2 ci 3) (hdd : d2 + 1 ≤ d) (hst : (st.map fun v => v.category).sum ≤ 8) (hrc : ∀ c, ci = some c → ∃ b As, ([v0, v1, v2] : List Value) = .ref b :: As ∧ b < hn h ∧ (hs h b).1 = c) (hk : k ≤ mc) (hms : n ≤ ms) (hC : Con G d2 0 0 y2 [v0, v1, v2] I h (rV I1 h1)) (kk : GG G d mc ms X P nx lo st I1 h1 k n) : GG G d mc ms X P pc lo (v2 :: v1 :: v0 :: st) I h k n :=
  g_c3 hX S hdd hst hrc hk hms hC (fun r I' h' hq => by obtain ⟨rfl, rfl, rfl⟩ := hq; exact kk)
theorem g_c3R (hX : Xok G own y X) {y2 : Mt} {ci : Option Nat} {d2 : Nat} {v0 v1 v2 : Value}  {x : Option Nat} {I1 : It} {h1 : Ht} (S : Site own y pc nx y2 ci 3) (hdd : d2 + 1 ≤ d) (hst : (st.map fun v => v.category).sum ≤ 8) (hrc : ∀ c, ci = some c → ∃ b As, ([v0, v1, v2] : List Value) = .ref b :: As ∧ b < hn h ∧ (hs h b).1 = c) (hk : k ≤ mc) (hms : n ≤ ms) (hC : Con G d2 0 0 y2 [v0, v1, v2] I h (rR x I1 h1)) (kk : GG G d mc ms X P nx lo (rv x :: st) I1 h1 k n) : GG G d mc ms X P pc lo (v2 :: v1 :: v0 :: st) I h k n :=
  g_c3 hX S hdd hst hrc hk hms hC (fun r I' h' hq => by obtain ⟨rfl, rfl, rfl⟩ := hq; exact kk)
theorem g_c3q (hX : Xok G own y X) {y2 : Mt} {ci : Option Nat} {d2 : Nat} {v0 v1 v2 : Value}  {f : Int32 → It → Ht → Prop} (S : Site own y pc nx y2 ci 3) (hdd : d2 + 1 ≤ d) (hst : (st.map fun v => v.category).sum ≤ 8) (hrc : ∀ c, ci = some c → ∃ b As, ([v0, v1, v2] : List Value) = .ref b :: As ∧ b < hn h ∧ (hs h b).1 = c) (hk : k ≤ mc) (hms : n ≤ ms) (hC : Con G d2 0 0 y2 [v0, v1, v2] I h (qI f)) (kk : ∀ x I' h', f x I' h' → GG G d mc ms X P nx lo (.int x :: st) I' h' k n) : GG G d mc ms X P pc lo (v2 :: v1 :: v0 :: st) I h k n :=
  g_c3 hX S hdd hst hrc hk hms hC (fun r I' h' hq => by obtain ⟨x, rfl, hf⟩ := hq; exact kk x I' h' hf)
theorem g_c3v (hX : Xok G own y X) {y2 : Mt} {ci : Option Nat} {d2 : Nat} {v0 v1 v2 : Value}  {f : It → Ht → Prop} (S : Site own y pc nx y2 ci 3) (hdd : d2 + 1 ≤ d) (hst : (st.map fun v => v.category).sum ≤ 8) (hrc : ∀ c, ci = some c → ∃ b As, ([v0, v1, v2] : List Value) = .ref b :: As ∧ b < hn h ∧ (hs h b).1 = c) (hk : k ≤ mc) (hms : n ≤ ms) (hC : Con G d2 0 0 y2 [v0, v1, v2] I h (qV f)) (kk : ∀ I' h', f I' h' → GG G d mc ms X P nx lo st I' h' k n) : GG G d mc ms X P pc lo (v2 :: v1 :: v0 :: st) I h k n :=
  g_c3 hX S hdd hst hrc hk hms hC (fun r I' h' hq => by obtain ⟨rfl, hf⟩ := hq; exact kk I' h' hf)
theorem g_c4 (hX : Xok G own y X) {y2 : Mt} {ci : Option Nat} {d2 mc2 ms2 : Nat} {v0 v1 v2 v3 : Value}  {Q : Pt3} (S : Site own y pc nx y2 ci 4) (hdd : d2 + 1 ≤ d) (hst : (st.map fun v => v.category).sum ≤ 8) (hrc : ∀ c, ci = some c → ∃ b As, ([v0, v1, v2, v3] : List Value) = .ref b :: As ∧ b < hn h ∧ (hs h b).1 = c) (hk : k + mc2 ≤ mc) (hms : n + ms2 ≤ ms) (hC : Con G d2 mc2 ms2 y2 [v0, v1, v2, v3] I h Q) (kk : ∀ r I' h', Q r I' h' → GG G d mc ms X P nx lo (r.toList ++ st) I' h' (k + mc2) (n + ms2)) : GG G d mc ms X P pc lo (v3 :: v2 :: v1 :: v0 :: st) I h k n :=
  S G d mc ms X P lo st I h k n d2 mc2 ms2 [v0, v1, v2, v3] Q hX hdd hk hms hst rfl hrc hC kk
theorem g_c4I (hX : Xok G own y X) {y2 : Mt} {ci : Option Nat} {d2 : Nat} {v0 v1 v2 v3 : Value}  {x : Int32} {I1 : It} {h1 : Ht} (S : Site own y pc nx y2 ci 4) (hdd : d2 + 1 ≤ d) (hst : (st.map fun v => v.category).sum ≤ 8) (hrc : ∀ c, ci = some c → ∃ b As, ([v0, v1, v2, v3] : List Value) = .ref b :: As ∧ b < hn h ∧ (hs h b).1 = c) (hk : k ≤ mc) (hms : n ≤ ms) (hC : Con G d2 0 0 y2 [v0, v1, v2, v3] I h (rI x I1 h1)) (kk : GG G d mc ms X P nx lo (.int x :: st) I1 h1 k n) : GG G d mc ms X P pc lo (v3 :: v2 :: v1 :: v0 :: st) I h k n :=
  g_c4 hX S hdd hst hrc hk hms hC (fun r I' h' hq => by obtain ⟨rfl, rfl, rfl⟩ := hq; exact kk)
theorem g_c4L (hX : Xok G own y X) {y2 : Mt} {ci : Option Nat} {d2 : Nat} {v0 v1 v2 v3 : Value}  {x : Int64} {I1 : It} {h1 : Ht} (S : Site own y pc nx y2 ci 4) (hdd : d2 + 1 ≤ d) (hst : (st.map fun v => v.category).sum ≤ 8) (hrc : ∀ c, ci = some c → ∃ b As, ([v0, v1, v2, v3] : List Value) = .ref b :: As ∧ b < hn h ∧ (hs h b).1 = c) (hk : k ≤ mc) (hms : n ≤ ms) (hC : Con G d2 0 0 y2 [v0, v1, v2, v3] I h (rL x I1 h1)) (kk : GG G d mc ms X P nx lo (.long x :: st) I1 h1 k n) : GG G d mc ms X P pc lo (v3 :: v2 :: v1 :: v0 :: st) I h k n :=
  g_c4 hX S hdd hst hrc hk hms hC (fun r I' h' hq => by obtain ⟨rfl, rfl, rfl⟩ := hq; exact kk)
theorem g_c4V (hX : Xok G own y X) {y2 : Mt} {ci : Option Nat} {d2 : Nat} {v0 v1 v2 v3 : Value}  {I1 : It} {h1 : Ht} (S : Site own y pc nx y2 ci 4) (hdd : d2 + 1 ≤ d) (hst : (st.map fun v => v.category).sum ≤ 8) (hrc : ∀ c, ci = some c → ∃ b As, ([v0, v1, v2, v3] : List Value) = .ref b :: As ∧ b < hn h ∧ (hs h b).1 = c) (hk : k ≤ mc) (hms : n ≤ ms) (hC : Con G d2 0 0 y2 [v0, v1, v2, v3] I h (rV I1 h1)) (kk : GG G d mc ms X P nx lo st I1 h1 k n) : GG G d mc ms X P pc lo (v3 :: v2 :: v1 :: v0 :: st) I h k n :=
  g_c4 hX S hdd hst hrc hk hms hC (fun r I' h' hq => by obtain ⟨rfl, rfl, rfl⟩ := hq; exact kk)
theorem g_c4R (hX : Xok G own y X) {y2 : Mt} {ci : Option Nat} {d2 : Nat} {v0 v1 v2 v3 : Value}  {x : Option Nat} {I1 : It} {h1 : Ht} (S : Site own y pc nx y2 ci 4) (hdd : d2 + 1 ≤ d) (hst : (st.map fun v => v.category).sum ≤ 8) (hrc : ∀ c, ci = some c → ∃ b As, ([v0, v1, v2, v3] : List Value) = .ref b :: As ∧ b < hn h ∧ (hs h b).1 = c) (hk : k ≤ mc) (hms : n ≤ ms) (hC : Con G d2 0 0 y2 [v0, v1, v2, v3] I h (rR x I1 h1)) (kk : GG G d mc ms X P nx lo (rv x :: st) I1 h1 k n) : GG G d mc ms X P pc lo (v3 :: v2 :: v1 :: v0 :: st) I h k n :=
  g_c4 hX S hdd hst hrc hk hms hC (fun r I' h' hq => by obtain ⟨rfl, rfl, rfl⟩ := hq; exact kk)
theorem g_c4q (hX : Xok G own y X) {y2 : Mt} {ci : Option Nat} {d2 : Nat} {v0 v1 v2 v3 : Value}  {f : Int32 → It → Ht → Prop} (S : Site own y pc nx y2 ci 4) (hdd : d2 + 1 ≤ d) (hst : (st.map fun v => v.category).sum ≤ 8) (hrc : ∀ c, ci = some c → ∃ b As, ([v0, v1, v2, v3] : List Value) = .ref b :: As ∧ b < hn h ∧ (hs h b).1 = c) (hk : k ≤ mc) (hms : n ≤ ms) (hC : Con G d2 0 0 y2 [v0, v1, v2, v3] I h (qI f)) (kk : ∀ x I' h', f x I' h' → GG G d mc ms X P nx lo (.int x :: st) I' h' k n) : GG G d mc ms X P pc lo (v3 :: v2 :: v1 :: v0 :: st) I h k n :=
  g_c4 hX S hdd hst hrc hk hms hC (fun r I' h' hq => by obtain ⟨x, rfl, hf⟩ := hq; exact kk x I' h' hf)
theorem g_c4v (hX : Xok G own y X) {y2 : Mt} {ci : Option Nat} {d2 : Nat} {v0 v1 v2 v3 : Value}  {f : It → Ht → Prop} (S : Site own y pc nx y2 ci 4) (hdd : d2 + 1 ≤ d) (hst : (st.map fun v => v.category).sum ≤ 8) (hrc : ∀ c, ci = some c → ∃ b As, ([v0, v1, v2, v3] : List Value) = .ref b :: As ∧ b < hn h ∧ (hs h b).1 = c) (hk : k ≤ mc) (hms : n ≤ ms) (hC : Con G d2 0 0 y2 [v0, v1, v2, v3] I h (qV f)) (kk : ∀ I' h', f I' h' → GG G d mc ms X P nx lo st I' h' k n) : GG G d mc ms X P pc lo (v3 :: v2 :: v1 :: v0 :: st) I h k n :=
  g_c4 hX S hdd hst hrc hk hms hC (fun r I' h' hq => by obtain ⟨rfl, hf⟩ := hq; exact kk I' h' hf)
theorem g_c5 (hX : Xok G own y X) {y2 : Mt} {ci : Option Nat} {d2 mc2 ms2 : Nat} {v0 v1 v2 v3 v4 : Value}  {Q : Pt3} (S : Site own y pc nx y2 ci 5) (hdd : d2 + 1 ≤ d) (hst : (st.map fun v => v.category).sum ≤ 8) (hrc : ∀ c, ci = some c → ∃ b As, ([v0, v1, v2, v3, v4] : List Value) = .ref b :: As ∧ b < hn h ∧ (hs h b).1 = c) (hk : k + mc2 ≤ mc) (hms : n + ms2 ≤ ms) (hC : Con G d2 mc2 ms2 y2 [v0, v1, v2, v3, v4] I h Q) (kk : ∀ r I' h', Q r I' h' → GG G d mc ms X P nx lo (r.toList ++ st) I' h' (k + mc2) (n + ms2)) : GG G d mc ms X P pc lo (v4 :: v3 :: v2 :: v1 :: v0 :: st) I h k n :=
  S G d mc ms X P lo st I h k n d2 mc2 ms2 [v0, v1, v2, v3, v4] Q hX hdd hk hms hst rfl hrc hC kk
theorem g_c5I (hX : Xok G own y X) {y2 : Mt} {ci : Option Nat} {d2 : Nat} {v0 v1 v2 v3 v4 : Value}  {x : Int32} {I1 : It} {h1 : Ht} (S : Site own y pc nx y2 ci 5) (hdd : d2 + 1 ≤ d) (hst : (st.map fun v => v.category).sum ≤ 8) (hrc : ∀ c, ci = some c → ∃ b As, ([v0, v1, v2, v3, v4] : List Value) = .ref b :: As ∧ b < hn h ∧ (hs h b).1 = c) (hk : k ≤ mc) (hms : n ≤ ms) (hC : Con G d2 0 0 y2 [v0, v1, v2, v3, v4] I h (rI x I1 h1)) (kk : GG G d mc ms X P nx lo (.int x :: st) I1 h1 k n) : GG G d mc ms X P pc lo (v4 :: v3 :: v2 :: v1 :: v0 :: st) I h k n :=
  g_c5 hX S hdd hst hrc hk hms hC (fun r I' h' hq => by obtain ⟨rfl, rfl, rfl⟩ := hq; exact kk)
theorem g_c5L (hX : Xok G own y X) {y2 : Mt} {ci : Option Nat} {d2 : Nat} {v0 v1 v2 v3 v4 : Value}  {x : Int64} {I1 : It} {h1 : Ht} (S : Site own y pc nx y2 ci 5) (hdd : d2 + 1 ≤ d) (hst : (st.map fun v => v.category).sum ≤ 8) (hrc : ∀ c, ci = some c → ∃ b As, ([v0, v1, v2, v3, v4] : List Value) = .ref b :: As ∧ b < hn h ∧ (hs h b).1 = c) (hk : k ≤ mc) (hms : n ≤ ms) (hC : Con G d2 0 0 y2 [v0, v1, v2, v3, v4] I h (rL x I1 h1)) (kk : GG G d mc ms X P nx lo (.long x :: st) I1 h1 k n) : GG G d mc ms X P pc lo (v4 :: v3 :: v2 :: v1 :: v0 :: st) I h k n :=
  g_c5 hX S hdd hst hrc hk hms hC (fun r I' h' hq => by obtain ⟨rfl, rfl, rfl⟩ := hq; exact kk)
theorem g_c5V (hX : Xok G own y X) {y2 : Mt} {ci : Option Nat} {d2 : Nat} {v0 v1 v2 v3 v4 : Value}  {I1 : It} {h1 : Ht} (S : Site own y pc nx y2 ci 5) (hdd : d2 + 1 ≤ d) (hst : (st.map fun v => v.category).sum ≤ 8) (hrc : ∀ c, ci = some c → ∃ b As, ([v0, v1, v2, v3, v4] : List Value) = .ref b :: As ∧ b < hn h ∧ (hs h b).1 = c) (hk : k ≤ mc) (hms : n ≤ ms) (hC : Con G d2 0 0 y2 [v0, v1, v2, v3, v4] I h (rV I1 h1)) (kk : GG G d mc ms X P nx lo st I1 h1 k n) : GG G d mc ms X P pc lo (v4 :: v3 :: v2 :: v1 :: v0 :: st) I h k n :=
  g_c5 hX S hdd hst hrc hk hms hC (fun r I' h' hq => by obtain ⟨rfl, rfl, rfl⟩ := hq; exact kk)
theorem g_c5R (hX : Xok G own y X) {y2 : Mt} {ci : Option Nat} {d2 : Nat} {v0 v1 v2 v3 v4 : Value}  {x : Option Nat} {I1 : It} {h1 : Ht} (S : Site own y pc nx y2 ci 5) (hdd : d2 + 1 ≤ d) (hst : (st.map fun v => v.category).sum ≤ 8) (hrc : ∀ c, ci = some c → ∃ b As, ([v0, v1, v2, v3, v4] : List Value) = .ref b :: As ∧ b < hn h ∧ (hs h b).1 = c) (hk : k ≤ mc) (hms : n ≤ ms) (hC : Con G d2 0 0 y2 [v0, v1, v2, v3, v4] I h (rR x I1 h1)) (kk : GG G d mc ms X P nx lo (rv x :: st) I1 h1 k n) : GG G d mc ms X P pc lo (v4 :: v3 :: v2 :: v1 :: v0 :: st) I h k n :=
  g_c5 hX S hdd hst hrc hk hms hC (fun r I' h' hq => by obtain ⟨rfl, rfl, rfl⟩ := hq; exact kk)
theorem g_c5q (hX : Xok G own y X) {y2 : Mt} {ci : Option Nat} {d2 : Nat} {v0 v1 v2 v3 v4 : Value}  {f : Int32 → It → Ht → Prop} (S : Site own y pc nx y2 ci 5) (hdd : d2 + 1 ≤ d) (hst : (st.map fun v => v.category).sum ≤ 8) (hrc : ∀ c, ci = some c → ∃ b As, ([v0, v1, v2, v3, v4] : List Value) = .ref b :: As ∧ b < hn h ∧ (hs h b).1 = c) (hk : k ≤ mc) (hms : n ≤ ms) (hC : Con G d2 0 0 y2 [v0, v1, v2, v3, v4] I h (qI f)) (kk : ∀ x I' h', f x I' h' → GG G d mc ms X P nx lo (.int x :: st) I' h' k n) : GG G d mc ms X P pc lo (v4 :: v3 :: v2 :: v1 :: v0 :: st) I h k n :=
  g_c5 hX S hdd hst hrc hk hms hC (fun r I' h' hq => by obtain ⟨x, rfl, hf⟩ := hq; exact kk x I' h' hf)
theorem g_c5v (hX : Xok G own y X) {y2 : Mt} {ci : Option Nat} {d2 : Nat} {v0 v1 v2 v3 v4 : Value}  {f : It → Ht → Prop} (S : Site own y pc nx y2 ci 5) (hdd : d2 + 1 ≤ d) (hst : (st.map fun v => v.category).sum ≤ 8) (hrc : ∀ c, ci = some c → ∃ b As, ([v0, v1, v2, v3, v4] : List Value) = .ref b :: As ∧ b < hn h ∧ (hs h b).1 = c) (hk : k ≤ mc) (hms : n ≤ ms) (hC : Con G d2 0 0 y2 [v0, v1, v2, v3, v4] I h (qV f)) (kk : ∀ I' h', f I' h' → GG G d mc ms X P nx lo st I' h' k n) : GG G d mc ms X P pc lo (v4 :: v3 :: v2 :: v1 :: v0 :: st) I h k n :=
  g_c5 hX S hdd hst hrc hk hms hC (fun r I' h' hq => by obtain ⟨rfl, hf⟩ := hq; exact kk I' h' hf)
theorem g_c6 (hX : Xok G own y X) {y2 : Mt} {ci : Option Nat} {d2 mc2 ms2 : Nat} {v0 v1 v2 v3 v4 v5 : Value}  {Q : Pt3} (S : Site own y pc nx y2 ci 6) (hdd : d2 + 1 ≤ d) (hst : (st.map fun v => v.category).sum ≤ 8) (hrc : ∀ c, ci = some c → ∃ b As, ([v0, v1, v2, v3, v4, v5] : List Value) = .ref b :: As ∧ b < hn h ∧ (hs h b).1 = c) (hk : k + mc2 ≤ mc) (hms : n + ms2 ≤ ms) (hC : Con G d2 mc2 ms2 y2 [v0, v1, v2, v3, v4, v5] I h Q) (kk : ∀ r I' h', Q r I' h' → GG G d mc ms X P nx lo (r.toList ++ st) I' h' (k + mc2) (n + ms2)) : GG G d mc ms X P pc lo (v5 :: v4 :: v3 :: v2 :: v1 :: v0 :: st) I h k n :=
  S G d mc ms X P lo st I h k n d2 mc2 ms2 [v0, v1, v2, v3, v4, v5] Q hX hdd hk hms hst rfl hrc hC kk
theorem g_c6I (hX : Xok G own y X) {y2 : Mt} {ci : Option Nat} {d2 : Nat} {v0 v1 v2 v3 v4 v5 : Value}  {x : Int32} {I1 : It} {h1 : Ht} (S : Site own y pc nx y2 ci 6) (hdd : d2 + 1 ≤ d) (hst : (st.map fun v => v.category).sum ≤ 8) (hrc : ∀ c, ci = some c → ∃ b As, ([v0, v1, v2, v3, v4, v5] : List Value) = .ref b :: As ∧ b < hn h ∧ (hs h b).1 = c) (hk : k ≤ mc) (hms : n ≤ ms) (hC : Con G d2 0 0 y2 [v0, v1, v2, v3, v4, v5] I h (rI x I1 h1)) (kk : GG G d mc ms X P nx lo (.int x :: st) I1 h1 k n) : GG G d mc ms X P pc lo (v5 :: v4 :: v3 :: v2 :: v1 :: v0 :: st) I h k n :=
  g_c6 hX S hdd hst hrc hk hms hC (fun r I' h' hq => by obtain ⟨rfl, rfl, rfl⟩ := hq; exact kk)
theorem g_c6L (hX : Xok G own y X) {y2 : Mt} {ci : Option Nat} {d2 : Nat} {v0 v1 v2 v3 v4 v5 : Value}  {x : Int64} {I1 : It} {h1 : Ht} (S : Site own y pc nx y2 ci 6) (hdd : d2 + 1 ≤ d) (hst : (st.map fun v => v.category).sum ≤ 8) (hrc : ∀ c, ci = some c → ∃ b As, ([v0, v1, v2, v3, v4, v5] : List Value) = .ref b :: As ∧ b < hn h ∧ (hs h b).1 = c) (hk : k ≤ mc) (hms : n ≤ ms) (hC : Con G d2 0 0 y2 [v0, v1, v2, v3, v4, v5] I h (rL x I1 h1)) (kk : GG G d mc ms X P nx lo (.long x :: st) I1 h1 k n) : GG G d mc ms X P pc lo (v5 :: v4 :: v3 :: v2 :: v1 :: v0 :: st) I h k n :=
  g_c6 hX S hdd hst hrc hk hms hC (fun r I' h' hq => by obtain ⟨rfl, rfl, rfl⟩ := hq; exact kk)
theorem g_c6V (hX : Xok G own y X) {y2 : Mt} {ci : Option Nat} {d2 : Nat} {v0 v1 v2 v3 v4 v5 : Value}  {I1 : It} {h1 : Ht} (S : Site own y pc nx y2 ci 6) (hdd : d2 + 1 ≤ d) (hst : (st.map fun v => v.category).sum ≤ 8) (hrc : ∀ c, ci = some c → ∃ b As, ([v0, v1, v2, v3, v4, v5] : List Value) = .ref b :: As ∧ b < hn h ∧ (hs h b).1 = c) (hk : k ≤ mc) (hms : n ≤ ms) (hC : Con G d2 0 0 y2 [v0, v1, v2, v3, v4, v5] I h (rV I1 h1)) (kk : GG G d mc ms X P nx lo st I1 h1 k n) : GG G d mc ms X P pc lo (v5 :: v4 :: v3 :: v2 :: v1 :: v0 :: st) I h k n :=
  g_c6 hX S hdd hst hrc hk hms hC (fun r I' h' hq => by obtain ⟨rfl, rfl, rfl⟩ := hq; exact kk)
theorem g_c6R (hX : Xok G own y X) {y2 : Mt} {ci : Option Nat} {d2 : Nat} {v0 v1 v2 v3 v4 v5 : Value}  {x : Option Nat} {I1 : It} {h1 : Ht} (S : Site own y pc nx y2 ci 6) (hdd : d2 + 1 ≤ d) (hst : (st.map fun v => v.category).sum ≤ 8) (hrc : ∀ c, ci = some c → ∃ b As, ([v0, v1, v2, v3, v4, v5] : List Value) = .ref b :: As ∧ b < hn h ∧ (hs h b).1 = c) (hk : k ≤ mc) (hms : n ≤ ms) (hC : Con G d2 0 0 y2 [v0, v1, v2, v3, v4, v5] I h (rR x I1 h1)) (kk : GG G d mc ms X P nx lo (rv x :: st) I1 h1 k n) : GG G d mc ms X P pc lo (v5 :: v4 :: v3 :: v2 :: v1 :: v0 :: st) I h k n :=
  g_c6 hX S hdd hst hrc hk hms hC (fun r I' h' hq => by obtain ⟨rfl, rfl, rfl⟩ := hq; exact kk)
theorem g_c6q (hX : Xok G own y X) {y2 : Mt} {ci : Option Nat} {d2 : Nat} {v0 v1 v2 v3 v4 v5 : Value}  {f : Int32 → It → Ht → Prop} (S : Site own y pc nx y2 ci 6) (hdd : d2 + 1 ≤ d) (hst : (st.map fun v => v.category).sum ≤ 8) (hrc : ∀ c, ci = some c → ∃ b As, ([v0, v1, v2, v3, v4, v5] : List Value) = .ref b :: As ∧ b < hn h ∧ (hs h b).1 = c) (hk : k ≤ mc) (hms : n ≤ ms) (hC : Con G d2 0 0 y2 [v0, v1, v2, v3, v4, v5] I h (qI f)) (kk : ∀ x I' h', f x I' h' → GG G d mc ms X P nx lo (.int x :: st) I' h' k n) : GG G d mc ms X P pc lo (v5 :: v4 :: v3 :: v2 :: v1 :: v0 :: st) I h k n :=
  g_c6 hX S hdd hst hrc hk hms hC (fun r I' h' hq => by obtain ⟨x, rfl, hf⟩ := hq; exact kk x I' h' hf)
theorem g_c6v (hX : Xok G own y X) {y2 : Mt} {ci : Option Nat} {d2 : Nat} {v0 v1 v2 v3 v4 v5 : Value}  {f : It → Ht → Prop} (S : Site own y pc nx y2 ci 6) (hdd : d2 + 1 ≤ d) (hst : (st.map fun v => v.category).sum ≤ 8) (hrc : ∀ c, ci = some c → ∃ b As, ([v0, v1, v2, v3, v4, v5] : List Value) = .ref b :: As ∧ b < hn h ∧ (hs h b).1 = c) (hk : k ≤ mc) (hms : n ≤ ms) (hC : Con G d2 0 0 y2 [v0, v1, v2, v3, v4, v5] I h (qV f)) (kk : ∀ I' h', f I' h' → GG G d mc ms X P nx lo st I' h' k n) : GG G d mc ms X P pc lo (v5 :: v4 :: v3 :: v2 :: v1 :: v0 :: st) I h k n :=
  g_c6 hX S hdd hst hrc hk hms hC (fun r I' h' hq => by obtain ⟨rfl, hf⟩ := hq; exact kk I' h' hf)
theorem g_c7 (hX : Xok G own y X) {y2 : Mt} {ci : Option Nat} {d2 mc2 ms2 : Nat} {v0 v1 v2 v3 v4 v5 v6 : Value}  {Q : Pt3} (S : Site own y pc nx y2 ci 7) (hdd : d2 + 1 ≤ d) (hst : (st.map fun v => v.category).sum ≤ 8) (hrc : ∀ c, ci = some c → ∃ b As, ([v0, v1, v2, v3, v4, v5, v6] : List Value) = .ref b :: As ∧ b < hn h ∧ (hs h b).1 = c) (hk : k + mc2 ≤ mc) (hms : n + ms2 ≤ ms) (hC : Con G d2 mc2 ms2 y2 [v0, v1, v2, v3, v4, v5, v6] I h Q) (kk : ∀ r I' h', Q r I' h' → GG G d mc ms X P nx lo (r.toList ++ st) I' h' (k + mc2) (n + ms2)) : GG G d mc ms X P pc lo (v6 :: v5 :: v4 :: v3 :: v2 :: v1 :: v0 :: st) I h k n :=
  S G d mc ms X P lo st I h k n d2 mc2 ms2 [v0, v1, v2, v3, v4, v5, v6] Q hX hdd hk hms hst rfl hrc hC kk
theorem g_c7I (hX : Xok G own y X) {y2 : Mt} {ci : Option Nat} {d2 : Nat} {v0 v1 v2 v3 v4 v5 v6 : Value}  {x : Int32} {I1 : It} {h1 : Ht} (S : Site own y pc nx y2 ci 7) (hdd : d2 + 1 ≤ d) (hst : (st.map fun v => v.category).sum ≤ 8) (hrc : ∀ c, ci = some c → ∃ b As, ([v0, v1, v2, v3, v4, v5, v6] : List Value) = .ref b :: As ∧ b < hn h ∧ (hs h b).1 = c) (hk : k ≤ mc) (hms : n ≤ ms) (hC : Con G d2 0 0 y2 [v0, v1, v2, v3, v4, v5, v6] I h (rI x I1 h1)) (kk : GG G d mc ms X P nx lo (.int x :: st) I1 h1 k n) : GG G d mc ms X P pc lo (v6 :: v5 :: v4 :: v3 :: v2 :: v1 :: v0 :: st) I h k n :=
  g_c7 hX S hdd hst hrc hk hms hC (fun r I' h' hq => by obtain ⟨rfl, rfl, rfl⟩ := hq; exact kk)
theorem g_c7L (hX : Xok G own y X) {y2 : Mt} {ci : Option Nat} {d2 : Nat} {v0 v1 v2 v3 v4 v5 v6 : Value}  {x : Int64} {I1 : It} {h1 : Ht} (S : Site own y pc nx y2 ci 7) (hdd : d2 + 1 ≤ d) (hst : (st.map fun v => v.category).sum ≤ 8) (hrc : ∀ c, ci = some c → ∃ b As, ([v0, v1, v2, v3, v4, v5, v6] : List Value) = .ref b :: As ∧ b < hn h ∧ (hs h b).1 = c) (hk : k ≤ mc) (hms : n ≤ ms) (hC : Con G d2 0 0 y2 [v0, v1, v2, v3, v4, v5, v6] I h (rL x I1 h1)) (kk : GG G d mc ms X P nx lo (.long x :: st) I1 h1 k n) : GG G d mc ms X P pc lo (v6 :: v5 :: v4 :: v3 :: v2 :: v1 :: v0 :: st) I h k n :=
  g_c7 hX S hdd hst hrc hk hms hC (fun r I' h' hq => by obtain ⟨rfl, rfl, rfl⟩ := hq; exact kk)
theorem g_c7V (hX : Xok G own y X) {y2 : Mt} {ci : Option Nat} {d2 : Nat} {v0 v1 v2 v3 v4 v5 v6 : Value}  {I1 : It} {h1 : Ht} (S : Site own y pc nx y2 ci 7) (hdd : d2 + 1 ≤ d) (hst : (st.map fun v => v.category).sum ≤ 8) (hrc : ∀ c, ci = some c → ∃ b As, ([v0, v1, v2, v3, v4, v5, v6] : List Value) = .ref b :: As ∧ b < hn h ∧ (hs h b).1 = c) (hk : k ≤ mc) (hms : n ≤ ms) (hC : Con G d2 0 0 y2 [v0, v1, v2, v3, v4, v5, v6] I h (rV I1 h1)) (kk : GG G d mc ms X P nx lo st I1 h1 k n) : GG G d mc ms X P pc lo (v6 :: v5 :: v4 :: v3 :: v2 :: v1 :: v0 :: st) I h k n :=
  g_c7 hX S hdd hst hrc hk hms hC (fun r I' h' hq => by obtain ⟨rfl, rfl, rfl⟩ := hq; exact kk)
theorem g_c7R (hX : Xok G own y X) {y2 : Mt} {ci : Option Nat} {d2 : Nat} {v0 v1 v2 v3 v4 v5 v6 : Value}  {x : Option Nat} {I1 : It} {h1 : Ht} (S : Site own y pc nx y2 ci 7) (hdd : d2 + 1 ≤ d) (hst : (st.map fun v => v.category).sum ≤ 8) (hrc : ∀ c, ci = some c → ∃ b As, ([v0, v1, v2, v3, v4, v5, v6] : List Value) = .ref b :: As ∧ b < hn h ∧ (hs h b).1 = c) (hk : k ≤ mc) (hms : n ≤ ms) (hC : Con G d2 0 0 y2 [v0, v1, v2, v3, v4, v5, v6] I h (rR x I1 h1)) (kk : GG G d mc ms X P nx lo (rv x :: st) I1 h1 k n) : GG G d mc ms X P pc lo (v6 :: v5 :: v4 :: v3 :: v2 :: v1 :: v0 :: st) I h k n :=
  g_c7 hX S hdd hst hrc hk hms hC (fun r I' h' hq => by obtain ⟨rfl, rfl, rfl⟩ := hq; exact kk)
theorem g_c7q (hX : Xok G own y X) {y2 : Mt} {ci : Option Nat} {d2 : Nat} {v0 v1 v2 v3 v4 v5 v6 : Value}  {f : Int32 → It → Ht → Prop} (S : Site own y pc nx y2 ci 7) (hdd : d2 + 1 ≤ d) (hst : (st.map fun v => v.category).sum ≤ 8) (hrc : ∀ c, ci = some c → ∃ b As, ([v0, v1, v2, v3, v4, v5, v6] : List Value) = .ref b :: As ∧ b < hn h ∧ (hs h b).1 = c) (hk : k ≤ mc) (hms : n ≤ ms) (hC : Con G d2 0 0 y2 [v0, v1, v2, v3, v4, v5, v6] I h (qI f)) (kk : ∀ x I' h', f x I' h' → GG G d mc ms X P nx lo (.int x :: st) I' h' k n) : GG G d mc ms X P pc lo (v6 :: v5 :: v4 :: v3 :: v2 :: v1 :: v0 :: st) I h k n :=
  g_c7 hX S hdd hst hrc hk hms hC (fun r I' h' hq => by obtain ⟨x, rfl, hf⟩ := hq; exact kk x I' h' hf)
theorem g_c7v (hX : Xok G own y X) {y2 : Mt} {ci : Option Nat} {d2 : Nat} {v0 v1 v2 v3 v4 v5 v6 : Value}  {f : It → Ht → Prop} (S : Site own y pc nx y2 ci 7) (hdd : d2 + 1 ≤ d) (hst : (st.map fun v => v.category).sum ≤ 8) (hrc : ∀ c, ci = some c → ∃ b As, ([v0, v1, v2, v3, v4, v5, v6] : List Value) = .ref b :: As ∧ b < hn h ∧ (hs h b).1 = c) (hk : k ≤ mc) (hms : n ≤ ms) (hC : Con G d2 0 0 y2 [v0, v1, v2, v3, v4, v5, v6] I h (qV f)) (kk : ∀ I' h', f I' h' → GG G d mc ms X P nx lo st I' h' k n) : GG G d mc ms X P pc lo (v6 :: v5 :: v4 :: v3 :: v2 :: v1 :: v0 :: st) I h k n :=
  g_c7 hX S hdd hst hrc hk hms hC (fun r I' h' hq => by obtain ⟨rfl, hf⟩ := hq; exact kk I' h' hf)
theorem g_ifb_eq (hX : Xok G own y X) {p : Prop} [Decidable p] {off : Int} {tgt : Nat} (hd : dc y.2.1 pc (.ifCond .eq off) 3 nx) (ht : (pc : Int) + off = (tgt : Int)) (kt : ¬ p → GG G d mc ms X P tgt lo st I h k n) (kf : p → GG G d mc ms X P nx lo st I h k n) : GG G d mc ms X P pc lo (.int (bI p) :: st) I h k n :=
  g_if_eq hX hd ht (fun e => kt (bI_0.mp e)) (fun e => kf (bI_n.mp e))
theorem g_ifb_ne (hX : Xok G own y X) {p : Prop} [Decidable p] {off : Int} {tgt : Nat} (hd : dc y.2.1 pc (.ifCond .ne off) 3 nx) (ht : (pc : Int) + off = (tgt : Int)) (kt : p → GG G d mc ms X P tgt lo st I h k n) (kf : ¬ p → GG G d mc ms X P nx lo st I h k n) : GG G d mc ms X P pc lo (.int (bI p) :: st) I h k n :=
  g_if_ne hX hd ht (fun e => kt (bI_n.mp e)) (fun e => kf (bI_0.mp e))
end FM
theorem pl_X0 : plainName RX0 = true := by decide +kernel
theorem pl_X1 : plainName RX1 = true := by decide +kernel
theorem pl_X2 : plainName RX2 = true := by decide +kernel
theorem pl_X3 : plainName RX3 = true := by decide +kernel
theorem pl_X4 : plainName RX4 = true := by decide +kernel
theorem pl_X5 : plainName RX5 = true := by decide +kernel
theorem pl_X6 : plainName RX6 = true := by decide +kernel
theorem pl_X7 : plainName RX7 = true := by decide +kernel
theorem pl_X8 : plainName RX8 = true := by decide +kernel
theorem pl_X9 : plainName RX9 = true := by decide +kernel
theorem pl_X10 : plainName RX10 = true := by decide +kernel
theorem pl_X11 : plainName RX11 = true := by decide +kernel
theorem pl_X12 : plainName RX12 = true := by decide +kernel
def SML : List (Nat × Nat) := [(12, 0), (20, 10), (20, 10), (20, 10), (20, 10), (20, 10), (20, 10), (20, 10), (20, 4), (20, 100), (20, 6), (20, 60), (20, 60), (20, 60), (20, 60), (20, 600), (20, 101), (20, 15), (23, 100), (20, 40), (23, 1000), (20, 4), (20, 4), (20, 12), (20, 12), (20, 10), (20, 10), (20, 10), (20, 10), (20, 10), (20, 10), (20, 10), (20, 4), (20, 12), (20, 12), (20, 20), (20, 6), (20, 6), (21, 360), (21, 60)]
def RML : List (Option Nat) := [none, none, none, none, none, none, none, some 1, some 2, some 3, some 4, some 5, some 6, some 7, some 8, none, none, none, none, none, some 9, some 10, some 11, some 12, some 13, some 14, some 15, some 16, none, none, none, some 17, some 18, some 19, none, none, none, none, none, none, none, some 20, some 21, some 22, none, some 23, some 24, none, none, none, none, none, none, none, none, none, none, some 25, some 26, some 27, some 28, some 29, some 30, some 31, some 32, some 33, some 34, none, some 35, some 36, some 37, some 38, some 39]
/-- the model's cells: the object 0, its arrays 1 .. 39, in the order of its fields -/
def HM (h : Ht) : Prop := hn h = 40 ∧ (∀ q, q < 40 → hs h q = SML.getD q (0, 0)) ∧ ∀ j, j < 73 → hR h 0 j = RML.getD j none
theorem MLt {h : Ht} (hM : HM h) {q : Nat} (hq : q < 40) : q < hn h := by rw [hM.1]; exact hq
theorem MC {h : Ht} (hM : HM h) : (hs h 0).1 = 12 := by rw [hM.2.1 0 (by decide)]; rfl
theorem MS {h : Ht} (hM : HM h) (q : Nat) {x : Nat × Nat} (hq : q < 40) (e : SML.getD q (0, 0) = x) : hs h q = x := by rw [hM.2.1 q hq, e]
theorem MR {h : Ht} (hM : HM h) (j : Nat) {x : Option Nat} (hj : j < 73) (e : RML.getD j none = x) : hR h 0 j = x := by rw [hM.2.2 j hj, e]
theorem HMw {h : Ht} (hM : HM h) {q j : Nat} {x : Int64} : HM (wL h q j x) := hM
end
section
/-! the model's small methods -/
def hasI (s k : Int32) : Prop := (s >>> (k &&& 31)) &&& 1 = 1
def bitI (k : Int32) : Int32 := (1 : Int32) <<< (k &&& 31)
def withI (s k z : Int32) : Int32 := if z = 0 then s &&& (bitI k ^^^ (-1)) else s ||| bitI k
theorem le_nlt (a b : Int32) : a ≤ b ↔ ¬ b < a := Int32.not_lt.symm

set_option maxRecDepth 8000 in
set_option maxHeartbeats 4000000 in
theorem c_X12_in {G : Gt} (hG : Gok G) {I : It} {h : Ht}  {a b c : Int32} : Con G 1 0 0 mX12_in [.ref 0, .int a, .int b, .int c] I h (rI (bI (b ≤ a ∧ a ≤ c)) I h) := by
  refine con_intro (own := RX12) (lo0 := [some (.ref 0), some (.int a), some (.int b), some (.int c)]) hG rfl pl_X12 (Nat.le_of_ble_eq_true rfl) rfl (fun X hX => ?_)
  refine g_iload_1 hX (dk DX12_in 0 rfl) ?_
  refine g_iload_2 hX (dk DX12_in 1 rfl) ?_
  refine g_icmp_lt (tgt := 14) hX (dk DX12_in 2 rfl) (by decide) (fun hc1 => ?_) (fun hc1 => ?_)
  · refine g_iconst (v := 0) hX (dk DX12_in 8 rfl) (by decide) ?_
    refine g_ireturn hX (dk DX12_in 9 rfl) rfl (by decide) (by decide) (by decide) ?_
    exact rI_of (by grind [bI]) rfl rfl
  · refine g_iload_1 hX (dk DX12_in 3 rfl) ?_
    refine g_iload_3 hX (dk DX12_in 4 rfl) ?_
    refine g_icmp_gt (tgt := 14) hX (dk DX12_in 5 rfl) (by decide) (fun hc2 => ?_) (fun hc2 => ?_)
    · refine g_iconst (v := 0) hX (dk DX12_in 8 rfl) (by decide) ?_
      refine g_ireturn hX (dk DX12_in 9 rfl) rfl (by decide) (by decide) (by decide) ?_
      exact rI_of (by grind [bI]) rfl rfl
    · refine g_iconst (v := 1) hX (dk DX12_in 6 rfl) (by decide) ?_
      refine g_goto (tgt := 15) hX (dk DX12_in 7 rfl) (by decide) ?_
      refine g_ireturn hX (dk DX12_in 9 rfl) rfl (by decide) (by decide) (by decide) ?_
      exact rI_of (by grind [bI]) rfl rfl

set_option maxRecDepth 8000 in
set_option maxHeartbeats 4000000 in
theorem c_X12_has {G : Gt} (hG : Gok G) {I : It} {h : Ht}  {a b : Int32} : Con G 1 0 0 mX12_has [.ref 0, .int a, .int b] I h (rI (bI ((a >>> (b &&& 31)) &&& 1 = 1)) I h) := by
  refine con_intro (own := RX12) (lo0 := [some (.ref 0), some (.int a), some (.int b)]) hG rfl pl_X12 (Nat.le_of_ble_eq_true rfl) rfl (fun X hX => ?_)
  refine g_iload_1 hX (dk DX12_has 0 rfl) ?_
  refine g_iload_2 hX (dk DX12_has 1 rfl) ?_
  refine g_ishr hX (dk DX12_has 2 rfl) ?_
  refine g_iconst (v := 1) hX (dk DX12_has 3 rfl) (by decide) ?_
  refine g_iand hX (dk DX12_has 4 rfl) ?_
  refine g_iconst (v := 1) hX (dk DX12_has 5 rfl) (by decide) ?_
  refine g_icmp_ne (tgt := 13) hX (dk DX12_has 6 rfl) (by decide) (fun hc1 => ?_) (fun hc1 => ?_)
  · refine g_iconst (v := 0) hX (dk DX12_has 9 rfl) (by decide) ?_
    refine g_ireturn hX (dk DX12_has 10 rfl) rfl (by decide) (by decide) (by decide) ?_
    exact rI_of (by grind [bI]) rfl rfl
  · refine g_iconst (v := 1) hX (dk DX12_has 7 rfl) (by decide) ?_
    refine g_goto (tgt := 14) hX (dk DX12_has 8 rfl) (by decide) ?_
    refine g_ireturn hX (dk DX12_has 10 rfl) rfl (by decide) (by decide) (by decide) ?_
    exact rI_of (by grind [bI]) rfl rfl

set_option maxRecDepth 8000 in
set_option maxHeartbeats 4000000 in
theorem c_X12_isDoing {G : Gt} (hG : Gok G) {I : It} {h : Ht} (hM : HM h) {a : Int32} : Con G 2 0 0 mX12_isDoing [.ref 0, .int a] I h (rI (bI (0 ≤ a ∧ a ≤ I 0 0 - 1)) I h) := by
  refine con_intro (own := RX12) (lo0 := [some (.ref 0), some (.int a)]) hG rfl pl_X12 (Nat.le_of_ble_eq_true rfl) rfl (fun X hX => ?_)
  refine g_aload_0 hX (dk DX12_isDoing 0 rfl) ?_
  refine g_iload_1 hX (dk DX12_isDoing 1 rfl) ?_
  refine g_iconst (v := 0) hX (dk DX12_isDoing 2 rfl) (by decide) ?_
  refine g_aload_0 hX (dk DX12_isDoing 3 rfl) ?_
  refine g_getI hX (dk DX12_isDoing 4 rfl) KX12 fX12_7 (by decide) rfl (MLt hM (by decide)) (MC hM) ?_
  refine g_iconst (v := 1) hX (dk DX12_isDoing 5 rfl) (by decide) ?_
  refine g_isub hX (dk DX12_isDoing 6 rfl) ?_
  refine g_c4I hX sX12_isDoing_9 (by decide) (Nat.le_of_ble_eq_true rfl) (rc0 rfl (MLt hM (by decide)) (MC hM)) (by decide) (by decide) (c_X12_in hG ) ?_
  refine g_ireturn hX (dk DX12_isDoing 8 rfl) rfl (narB _) (by decide) (by decide) ?_
  exact rI_of rfl rfl rfl

set_option maxRecDepth 8000 in
set_option maxHeartbeats 4000000 in
theorem c_X12_isWay {G : Gt} (hG : Gok G) {I : It} {h : Ht} (hM : HM h) {a : Int32} : Con G 2 0 0 mX12_isWay [.ref 0, .int a] I h (rI (bI (0 ≤ a ∧ a ≤ 3)) I h) := by
  refine con_intro (own := RX12) (lo0 := [some (.ref 0), some (.int a)]) hG rfl pl_X12 (Nat.le_of_ble_eq_true rfl) rfl (fun X hX => ?_)
  refine g_aload_0 hX (dk DX12_isWay 0 rfl) ?_
  refine g_iload_1 hX (dk DX12_isWay 1 rfl) ?_
  refine g_iconst (v := 0) hX (dk DX12_isWay 2 rfl) (by decide) ?_
  refine g_iconst (v := 3) hX (dk DX12_isWay 3 rfl) (by decide) ?_
  refine g_c4I hX sX12_isWay_4 (by decide) (Nat.le_of_ble_eq_true rfl) (rc0 rfl (MLt hM (by decide)) (MC hM)) (by decide) (by decide) (c_X12_in hG ) ?_
  refine g_ireturn hX (dk DX12_isWay 5 rfl) rfl (narB _) (by decide) (by decide) ?_
  exact rI_of rfl rfl rfl

set_option maxRecDepth 8000 in
set_option maxHeartbeats 4000000 in
theorem c_X12_with {G : Gt} (hG : Gok G) {I : It} {h : Ht}  {a b z : Int32} : Con G 1 0 0 mX12_with [.ref 0, .int a, .int b, .int z] I h (rI (withI a b z) I h) := by
  refine con_intro (own := RX12) (lo0 := [some (.ref 0), some (.int a), some (.int b), some (.int z)]) hG rfl pl_X12 (Nat.le_of_ble_eq_true rfl) rfl (fun X hX => ?_)
  refine g_iload_3 hX (dk DX12_with 0 rfl) ?_
  refine g_if_eq (tgt := 12) hX (dk DX12_with 1 rfl) (by decide) (fun hc1 => ?_) (fun hc1 => ?_)
  · refine g_iload_1 hX (dk DX12_with 8 rfl) ?_
    refine g_iconst (v := 1) hX (dk DX12_with 9 rfl) (by decide) ?_
    refine g_iload_2 hX (dk DX12_with 10 rfl) ?_
    refine g_ishl hX (dk DX12_with 11 rfl) ?_
    refine g_iconst (v := -1) hX (dk DX12_with 12 rfl) (by decide) ?_
    refine g_ixor hX (dk DX12_with 13 rfl) ?_
    refine g_iand hX (dk DX12_with 14 rfl) ?_
    refine g_ireturn hX (dk DX12_with 15 rfl) rfl (rfl) (by decide) (by decide) ?_
    exact rI_of (by simp_all [withI, bitI]) rfl rfl
  · refine g_iload_1 hX (dk DX12_with 2 rfl) ?_
    refine g_iconst (v := 1) hX (dk DX12_with 3 rfl) (by decide) ?_
    refine g_iload_2 hX (dk DX12_with 4 rfl) ?_
    refine g_ishl hX (dk DX12_with 5 rfl) ?_
    refine g_ior hX (dk DX12_with 6 rfl) ?_
    refine g_goto (tgt := 19) hX (dk DX12_with 7 rfl) (by decide) ?_
    refine g_ireturn hX (dk DX12_with 15 rfl) rfl (rfl) (by decide) (by decide) ?_
    exact rI_of (by simp_all [withI, bitI]) rfl rfl
end
