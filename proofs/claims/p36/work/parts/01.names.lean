def lw_okq (q : MethodName × Nat) : Prop := (q.1.cls ≠ "java/lang/invoke/MethodHandle" ∧ q.1.cls ≠ "java/lang/invoke/VarHandle") ∧ Cond.instantiable q.1.cls q.2 ∈ tables_1 ∧ Cond.privateMethod q.1 ∈ tables_1 ∧ Cond.instanceMethod q.1 ∈ tables_1
set_option maxRecDepth 100000 in
theorem lw_p0 : lw_okq (⟨"NextOneKnows$Ahead", "hearOf", "(LNextOneKnows$Doing;)V"⟩, 16) := ⟨⟨by decide +kernel, by decide +kernel⟩, List.mem_of_getElem? (i := 98) (by first | rfl | decide +kernel), List.mem_of_getElem? (i := 451) (by first | rfl | decide +kernel), List.mem_of_getElem? (i := 452) (by first | rfl | decide +kernel)⟩
set_option maxRecDepth 100000 in
theorem lw_p1 : lw_okq (⟨"NextOneKnows$Post", "holds", "(ILNextOneKnows$Doing;II)Z"⟩, 12) := ⟨⟨by decide +kernel, by decide +kernel⟩, List.mem_of_getElem? (i := 183) (by first | rfl | decide +kernel), List.mem_of_getElem? (i := 463) (by first | rfl | decide +kernel), List.mem_of_getElem? (i := 464) (by first | rfl | decide +kernel)⟩
set_option maxRecDepth 100000 in
theorem lw_p2 : lw_okq (⟨"NextOneKnows$Post", "takes", "(I)Z"⟩, 12) := ⟨⟨by decide +kernel, by decide +kernel⟩, List.mem_of_getElem? (i := 183) (by first | rfl | decide +kernel), List.mem_of_getElem? (i := 537) (by first | rfl | decide +kernel), List.mem_of_getElem? (i := 538) (by first | rfl | decide +kernel)⟩
set_option maxRecDepth 100000 in
theorem lw_p3 : lw_okq (⟨"NextOneKnows$Post", "here", "()I"⟩, 12) := ⟨⟨by decide +kernel, by decide +kernel⟩, List.mem_of_getElem? (i := 183) (by first | rfl | decide +kernel), List.mem_of_getElem? (i := 541) (by first | rfl | decide +kernel), List.mem_of_getElem? (i := 542) (by first | rfl | decide +kernel)⟩
set_option maxRecDepth 100000 in
theorem lw_p4 : lw_okq (⟨"NextOneKnows$Post", "readClause", "()V"⟩, 12) := ⟨⟨by decide +kernel, by decide +kernel⟩, List.mem_of_getElem? (i := 183) (by first | rfl | decide +kernel), List.mem_of_getElem? (i := 545) (by first | rfl | decide +kernel), List.mem_of_getElem? (i := 546) (by first | rfl | decide +kernel)⟩
set_option maxRecDepth 100000 in
theorem lw_p5 : lw_okq (⟨"NextOneKnows$Post", "readWord", "()I"⟩, 12) := ⟨⟨by decide +kernel, by decide +kernel⟩, List.mem_of_getElem? (i := 183) (by first | rfl | decide +kernel), List.mem_of_getElem? (i := 549) (by first | rfl | decide +kernel), List.mem_of_getElem? (i := 550) (by first | rfl | decide +kernel)⟩
set_option maxRecDepth 100000 in
theorem lw_p6 : lw_okq (⟨"NextOneKnows$Post", "needs", "(I)V"⟩, 12) := ⟨⟨by decide +kernel, by decide +kernel⟩, List.mem_of_getElem? (i := 183) (by first | rfl | decide +kernel), List.mem_of_getElem? (i := 553) (by first | rfl | decide +kernel), List.mem_of_getElem? (i := 554) (by first | rfl | decide +kernel)⟩
set_option maxRecDepth 100000 in
theorem lw_p7 : lw_okq (⟨"NextOneKnows$Post", "takeIf", "(Z)V"⟩, 12) := ⟨⟨by decide +kernel, by decide +kernel⟩, List.mem_of_getElem? (i := 183) (by first | rfl | decide +kernel), List.mem_of_getElem? (i := 557) (by first | rfl | decide +kernel), List.mem_of_getElem? (i := 558) (by first | rfl | decide +kernel)⟩
set_option maxRecDepth 100000 in
theorem lw_p8 : lw_okq (⟨"NextOneKnows$Post", "readNumber", "()I"⟩, 12) := ⟨⟨by decide +kernel, by decide +kernel⟩, List.mem_of_getElem? (i := 183) (by first | rfl | decide +kernel), List.mem_of_getElem? (i := 561) (by first | rfl | decide +kernel), List.mem_of_getElem? (i := 562) (by first | rfl | decide +kernel)⟩
set_option maxRecDepth 100000 in
theorem lw_p9 : lw_okq (⟨"NextOneKnows$Post", "readEither", "(I)V"⟩, 12) := ⟨⟨by decide +kernel, by decide +kernel⟩, List.mem_of_getElem? (i := 183) (by first | rfl | decide +kernel), List.mem_of_getElem? (i := 565) (by first | rfl | decide +kernel), List.mem_of_getElem? (i := 566) (by first | rfl | decide +kernel)⟩
set_option maxRecDepth 100000 in
theorem lw_p10 : lw_okq (⟨"NextOneKnows$Post", "readPart", "(I)V"⟩, 12) := ⟨⟨by decide +kernel, by decide +kernel⟩, List.mem_of_getElem? (i := 183) (by first | rfl | decide +kernel), List.mem_of_getElem? (i := 569) (by first | rfl | decide +kernel), List.mem_of_getElem? (i := 570) (by first | rfl | decide +kernel)⟩
set_option maxRecDepth 100000 in
theorem lw_p11 : lw_okq (⟨"NextOneKnows$Post", "keep", "(I)V"⟩, 12) := ⟨⟨by decide +kernel, by decide +kernel⟩, List.mem_of_getElem? (i := 183) (by first | rfl | decide +kernel), List.mem_of_getElem? (i := 573) (by first | rfl | decide +kernel), List.mem_of_getElem? (i := 574) (by first | rfl | decide +kernel)⟩
set_option maxRecDepth 100000 in
theorem lw_p12 : lw_okq (⟨"NextOneKnows$Post", "readTest", "()V"⟩, 12) := ⟨⟨by decide +kernel, by decide +kernel⟩, List.mem_of_getElem? (i := 183) (by first | rfl | decide +kernel), List.mem_of_getElem? (i := 577) (by first | rfl | decide +kernel), List.mem_of_getElem? (i := 578) (by first | rfl | decide +kernel)⟩
set_option maxRecDepth 100000 in
theorem lw_p13 : lw_okq (⟨"NextOneKnows$Ahead", "lookDear", "(II)V"⟩, 16) := ⟨⟨by decide +kernel, by decide +kernel⟩, List.mem_of_getElem? (i := 98) (by first | rfl | decide +kernel), List.mem_of_getElem? (i := 647) (by first | rfl | decide +kernel), List.mem_of_getElem? (i := 648) (by first | rfl | decide +kernel)⟩
set_option maxRecDepth 100000 in
theorem lw_p14 : lw_okq (⟨"NextOneKnows$Ahead", "stopAll", "(II)V"⟩, 16) := ⟨⟨by decide +kernel, by decide +kernel⟩, List.mem_of_getElem? (i := 98) (by first | rfl | decide +kernel), List.mem_of_getElem? (i := 661) (by first | rfl | decide +kernel), List.mem_of_getElem? (i := 662) (by first | rfl | decide +kernel)⟩
set_option maxRecDepth 100000 in
theorem lw_p15 : lw_okq (⟨"NextOneKnows$Ahead", "stop", "(LNextOneKnows$Doing;I)V"⟩, 16) := ⟨⟨by decide +kernel, by decide +kernel⟩, List.mem_of_getElem? (i := 98) (by first | rfl | decide +kernel), List.mem_of_getElem? (i := 665) (by first | rfl | decide +kernel), List.mem_of_getElem? (i := 666) (by first | rfl | decide +kernel)⟩
def lw_privs_1 : List (MethodName × Nat) := [(⟨"NextOneKnows$Ahead", "hearOf", "(LNextOneKnows$Doing;)V"⟩, 16), (⟨"NextOneKnows$Post", "holds", "(ILNextOneKnows$Doing;II)Z"⟩, 12), (⟨"NextOneKnows$Post", "takes", "(I)Z"⟩, 12), (⟨"NextOneKnows$Post", "here", "()I"⟩, 12), (⟨"NextOneKnows$Post", "readClause", "()V"⟩, 12), (⟨"NextOneKnows$Post", "readWord", "()I"⟩, 12), (⟨"NextOneKnows$Post", "needs", "(I)V"⟩, 12), (⟨"NextOneKnows$Post", "takeIf", "(Z)V"⟩, 12), (⟨"NextOneKnows$Post", "readNumber", "()I"⟩, 12), (⟨"NextOneKnows$Post", "readEither", "(I)V"⟩, 12), (⟨"NextOneKnows$Post", "readPart", "(I)V"⟩, 12), (⟨"NextOneKnows$Post", "keep", "(I)V"⟩, 12), (⟨"NextOneKnows$Post", "readTest", "()V"⟩, 12), (⟨"NextOneKnows$Ahead", "lookDear", "(II)V"⟩, 16), (⟨"NextOneKnows$Ahead", "stopAll", "(II)V"⟩, 16), (⟨"NextOneKnows$Ahead", "stop", "(LNextOneKnows$Doing;I)V"⟩, 16)]
theorem lw_r1 : ∀ q ∈ lw_privs_1, lw_okq q := List.forall_mem_cons.mpr ⟨lw_p0, List.forall_mem_cons.mpr ⟨lw_p1, List.forall_mem_cons.mpr ⟨lw_p2, List.forall_mem_cons.mpr ⟨lw_p3, List.forall_mem_cons.mpr ⟨lw_p4, List.forall_mem_cons.mpr ⟨lw_p5, List.forall_mem_cons.mpr ⟨lw_p6, List.forall_mem_cons.mpr ⟨lw_p7, List.forall_mem_cons.mpr ⟨lw_p8, List.forall_mem_cons.mpr ⟨lw_p9, List.forall_mem_cons.mpr ⟨lw_p10, List.forall_mem_cons.mpr ⟨lw_p11, List.forall_mem_cons.mpr ⟨lw_p12, List.forall_mem_cons.mpr ⟨lw_p13, List.forall_mem_cons.mpr ⟨lw_p14, List.forall_mem_cons.mpr ⟨lw_p15, fun _ h => absurd h List.not_mem_nil⟩⟩⟩⟩⟩⟩⟩⟩⟩⟩⟩⟩⟩⟩⟩⟩
set_option maxRecDepth 100000 in
theorem lw_p16 : lw_okq (⟨"NextOneKnows$Ahead", "share", "(IIII)V"⟩, 16) := ⟨⟨by decide +kernel, by decide +kernel⟩, List.mem_of_getElem? (i := 98) (by first | rfl | decide +kernel), List.mem_of_getElem? (i := 713) (by first | rfl | decide +kernel), List.mem_of_getElem? (i := 714) (by first | rfl | decide +kernel)⟩
set_option maxRecDepth 100000 in
theorem lw_p17 : lw_okq (⟨"NextOneKnowsModel", "in", "(III)Z"⟩, 73) := ⟨⟨by decide +kernel, by decide +kernel⟩, List.mem_of_getElem? (i := 946) (by first | rfl | decide +kernel), List.mem_of_getElem? (i := 1177) (by first | rfl | decide +kernel), List.mem_of_getElem? (i := 1178) (by first | rfl | decide +kernel)⟩
set_option maxRecDepth 100000 in
theorem lw_p18 : lw_okq (⟨"NextOneKnowsModel", "with", "(IIZ)I"⟩, 73) := ⟨⟨by decide +kernel, by decide +kernel⟩, List.mem_of_getElem? (i := 946) (by first | rfl | decide +kernel), List.mem_of_getElem? (i := 1181) (by first | rfl | decide +kernel), List.mem_of_getElem? (i := 1182) (by first | rfl | decide +kernel)⟩
set_option maxRecDepth 100000 in
theorem lw_p19 : lw_okq (⟨"NextOneKnowsModel", "isDoing", "(I)Z"⟩, 73) := ⟨⟨by decide +kernel, by decide +kernel⟩, List.mem_of_getElem? (i := 946) (by first | rfl | decide +kernel), List.mem_of_getElem? (i := 1189) (by first | rfl | decide +kernel), List.mem_of_getElem? (i := 1190) (by first | rfl | decide +kernel)⟩
set_option maxRecDepth 100000 in
theorem lw_p20 : lw_okq (⟨"NextOneKnowsModel", "has", "(II)Z"⟩, 73) := ⟨⟨by decide +kernel, by decide +kernel⟩, List.mem_of_getElem? (i := 946) (by first | rfl | decide +kernel), List.mem_of_getElem? (i := 1193) (by first | rfl | decide +kernel), List.mem_of_getElem? (i := 1194) (by first | rfl | decide +kernel)⟩
set_option maxRecDepth 100000 in
theorem lw_p21 : lw_okq (⟨"NextOneKnowsModel", "isWay", "(I)Z"⟩, 73) := ⟨⟨by decide +kernel, by decide +kernel⟩, List.mem_of_getElem? (i := 946) (by first | rfl | decide +kernel), List.mem_of_getElem? (i := 1209) (by first | rfl | decide +kernel), List.mem_of_getElem? (i := 1210) (by first | rfl | decide +kernel)⟩
set_option maxRecDepth 100000 in
theorem lw_p22 : lw_okq (⟨"NextOneKnowsModel", "goesText", "(I)Z"⟩, 73) := ⟨⟨by decide +kernel, by decide +kernel⟩, List.mem_of_getElem? (i := 946) (by first | rfl | decide +kernel), List.mem_of_getElem? (i := 1221) (by first | rfl | decide +kernel), List.mem_of_getElem? (i := 1222) (by first | rfl | decide +kernel)⟩
set_option maxRecDepth 100000 in
theorem lw_p23 : lw_okq (⟨"NextOneKnowsModel", "takesClause", "(I)Z"⟩, 73) := ⟨⟨by decide +kernel, by decide +kernel⟩, List.mem_of_getElem? (i := 946) (by first | rfl | decide +kernel), List.mem_of_getElem? (i := 1225) (by first | rfl | decide +kernel), List.mem_of_getElem? (i := 1226) (by first | rfl | decide +kernel)⟩
set_option maxRecDepth 100000 in
theorem lw_p24 : lw_okq (⟨"NextOneKnowsModel", "takesHead", "(I)Z"⟩, 73) := ⟨⟨by decide +kernel, by decide +kernel⟩, List.mem_of_getElem? (i := 946) (by first | rfl | decide +kernel), List.mem_of_getElem? (i := 1229) (by first | rfl | decide +kernel), List.mem_of_getElem? (i := 1230) (by first | rfl | decide +kernel)⟩
set_option maxRecDepth 100000 in
theorem lw_p25 : lw_okq (⟨"NextOneKnowsModel", "second", "()I"⟩, 73) := ⟨⟨by decide +kernel, by decide +kernel⟩, List.mem_of_getElem? (i := 946) (by first | rfl | decide +kernel), List.mem_of_getElem? (i := 1233) (by first | rfl | decide +kernel), List.mem_of_getElem? (i := 1234) (by first | rfl | decide +kernel)⟩
set_option maxRecDepth 100000 in
theorem lw_p26 : lw_okq (⟨"NextOneKnowsModel", "next", "()I"⟩, 73) := ⟨⟨by decide +kernel, by decide +kernel⟩, List.mem_of_getElem? (i := 946) (by first | rfl | decide +kernel), List.mem_of_getElem? (i := 1237) (by first | rfl | decide +kernel), List.mem_of_getElem? (i := 1238) (by first | rfl | decide +kernel)⟩
set_option maxRecDepth 100000 in
theorem lw_p27 : lw_okq (⟨"NextOneKnowsModel", "takesWord", "(II)Z"⟩, 73) := ⟨⟨by decide +kernel, by decide +kernel⟩, List.mem_of_getElem? (i := 946) (by first | rfl | decide +kernel), List.mem_of_getElem? (i := 1241) (by first | rfl | decide +kernel), List.mem_of_getElem? (i := 1242) (by first | rfl | decide +kernel)⟩
set_option maxRecDepth 100000 in
theorem lw_p28 : lw_okq (⟨"NextOneKnowsModel", "takes", "(I)Z"⟩, 73) := ⟨⟨by decide +kernel, by decide +kernel⟩, List.mem_of_getElem? (i := 946) (by first | rfl | decide +kernel), List.mem_of_getElem? (i := 1245) (by first | rfl | decide +kernel), List.mem_of_getElem? (i := 1246) (by first | rfl | decide +kernel)⟩
set_option maxRecDepth 100000 in
theorem lw_p29 : lw_okq (⟨"NextOneKnowsModel", "takesNumber", "()Z"⟩, 73) := ⟨⟨by decide +kernel, by decide +kernel⟩, List.mem_of_getElem? (i := 946) (by first | rfl | decide +kernel), List.mem_of_getElem? (i := 1249) (by first | rfl | decide +kernel), List.mem_of_getElem? (i := 1250) (by first | rfl | decide +kernel)⟩
set_option maxRecDepth 100000 in
theorem lw_p30 : lw_okq (⟨"NextOneKnowsModel", "isDigit", "()Z"⟩, 73) := ⟨⟨by decide +kernel, by decide +kernel⟩, List.mem_of_getElem? (i := 946) (by first | rfl | decide +kernel), List.mem_of_getElem? (i := 1253) (by first | rfl | decide +kernel), List.mem_of_getElem? (i := 1254) (by first | rfl | decide +kernel)⟩
set_option maxRecDepth 100000 in
theorem lw_p31 : lw_okq (⟨"NextOneKnowsModel", "takesE", "(I)Z"⟩, 73) := ⟨⟨by decide +kernel, by decide +kernel⟩, List.mem_of_getElem? (i := 946) (by first | rfl | decide +kernel), List.mem_of_getElem? (i := 1257) (by first | rfl | decide +kernel), List.mem_of_getElem? (i := 1258) (by first | rfl | decide +kernel)⟩
def lw_privs_2 : List (MethodName × Nat) := [(⟨"NextOneKnows$Ahead", "share", "(IIII)V"⟩, 16), (⟨"NextOneKnowsModel", "in", "(III)Z"⟩, 73), (⟨"NextOneKnowsModel", "with", "(IIZ)I"⟩, 73), (⟨"NextOneKnowsModel", "isDoing", "(I)Z"⟩, 73), (⟨"NextOneKnowsModel", "has", "(II)Z"⟩, 73), (⟨"NextOneKnowsModel", "isWay", "(I)Z"⟩, 73), (⟨"NextOneKnowsModel", "goesText", "(I)Z"⟩, 73), (⟨"NextOneKnowsModel", "takesClause", "(I)Z"⟩, 73), (⟨"NextOneKnowsModel", "takesHead", "(I)Z"⟩, 73), (⟨"NextOneKnowsModel", "second", "()I"⟩, 73), (⟨"NextOneKnowsModel", "next", "()I"⟩, 73), (⟨"NextOneKnowsModel", "takesWord", "(II)Z"⟩, 73), (⟨"NextOneKnowsModel", "takes", "(I)Z"⟩, 73), (⟨"NextOneKnowsModel", "takesNumber", "()Z"⟩, 73), (⟨"NextOneKnowsModel", "isDigit", "()Z"⟩, 73), (⟨"NextOneKnowsModel", "takesE", "(I)Z"⟩, 73)]
theorem lw_r2 : ∀ q ∈ lw_privs_2, lw_okq q := List.forall_mem_cons.mpr ⟨lw_p16, List.forall_mem_cons.mpr ⟨lw_p17, List.forall_mem_cons.mpr ⟨lw_p18, List.forall_mem_cons.mpr ⟨lw_p19, List.forall_mem_cons.mpr ⟨lw_p20, List.forall_mem_cons.mpr ⟨lw_p21, List.forall_mem_cons.mpr ⟨lw_p22, List.forall_mem_cons.mpr ⟨lw_p23, List.forall_mem_cons.mpr ⟨lw_p24, List.forall_mem_cons.mpr ⟨lw_p25, List.forall_mem_cons.mpr ⟨lw_p26, List.forall_mem_cons.mpr ⟨lw_p27, List.forall_mem_cons.mpr ⟨lw_p28, List.forall_mem_cons.mpr ⟨lw_p29, List.forall_mem_cons.mpr ⟨lw_p30, List.forall_mem_cons.mpr ⟨lw_p31, fun _ h => absurd h List.not_mem_nil⟩⟩⟩⟩⟩⟩⟩⟩⟩⟩⟩⟩⟩⟩⟩⟩
set_option maxRecDepth 100000 in
theorem lw_p32 : lw_okq (⟨"NextOneKnowsModel", "takesTest", "()Z"⟩, 73) := ⟨⟨by decide +kernel, by decide +kernel⟩, List.mem_of_getElem? (i := 946) (by first | rfl | decide +kernel), List.mem_of_getElem? (i := 1261) (by first | rfl | decide +kernel), List.mem_of_getElem? (i := 1262) (by first | rfl | decide +kernel)⟩
set_option maxRecDepth 100000 in
theorem lw_p33 : lw_okq (⟨"NextOneKnowsModel", "place", "(I)I"⟩, 73) := ⟨⟨by decide +kernel, by decide +kernel⟩, List.mem_of_getElem? (i := 946) (by first | rfl | decide +kernel), List.mem_of_getElem? (i := 1265) (by first | rfl | decide +kernel), List.mem_of_getElem? (i := 1266) (by first | rfl | decide +kernel)⟩
set_option maxRecDepth 100000 in
theorem lw_p34 : lw_okq (⟨"NextOneKnowsModel", "put", "(I)V"⟩, 73) := ⟨⟨by decide +kernel, by decide +kernel⟩, List.mem_of_getElem? (i := 946) (by first | rfl | decide +kernel), List.mem_of_getElem? (i := 1269) (by first | rfl | decide +kernel), List.mem_of_getElem? (i := 1270) (by first | rfl | decide +kernel)⟩
set_option maxRecDepth 100000 in
theorem lw_p35 : lw_okq (⟨"NextOneKnowsModel", "whole", "()V"⟩, 73) := ⟨⟨by decide +kernel, by decide +kernel⟩, List.mem_of_getElem? (i := 946) (by first | rfl | decide +kernel), List.mem_of_getElem? (i := 1273) (by first | rfl | decide +kernel), List.mem_of_getElem? (i := 1274) (by first | rfl | decide +kernel)⟩
set_option maxRecDepth 100000 in
theorem lw_p36 : lw_okq (⟨"NextOneKnowsModel", "settle", "(I)V"⟩, 73) := ⟨⟨by decide +kernel, by decide +kernel⟩, List.mem_of_getElem? (i := 946) (by first | rfl | decide +kernel), List.mem_of_getElem? (i := 1277) (by first | rfl | decide +kernel), List.mem_of_getElem? (i := 1278) (by first | rfl | decide +kernel)⟩
set_option maxRecDepth 100000 in
theorem lw_p37 : lw_okq (⟨"NextOneKnowsModel", "laySaid", "()V"⟩, 73) := ⟨⟨by decide +kernel, by decide +kernel⟩, List.mem_of_getElem? (i := 946) (by first | rfl | decide +kernel), List.mem_of_getElem? (i := 1285) (by first | rfl | decide +kernel), List.mem_of_getElem? (i := 1286) (by first | rfl | decide +kernel)⟩
set_option maxRecDepth 100000 in
theorem lw_p38 : lw_okq (⟨"NextOneKnowsModel", "sumOf", "(IIII)I"⟩, 73) := ⟨⟨by decide +kernel, by decide +kernel⟩, List.mem_of_getElem? (i := 946) (by first | rfl | decide +kernel), List.mem_of_getElem? (i := 1289) (by first | rfl | decide +kernel), List.mem_of_getElem? (i := 1290) (by first | rfl | decide +kernel)⟩
set_option maxRecDepth 100000 in
theorem lw_p39 : lw_okq (⟨"NextOneKnowsModel", "begin", "()I"⟩, 73) := ⟨⟨by decide +kernel, by decide +kernel⟩, List.mem_of_getElem? (i := 946) (by first | rfl | decide +kernel), List.mem_of_getElem? (i := 1293) (by first | rfl | decide +kernel), List.mem_of_getElem? (i := 1294) (by first | rfl | decide +kernel)⟩
set_option maxRecDepth 100000 in
theorem lw_p40 : lw_okq (⟨"NextOneKnowsModel", "behind", "()I"⟩, 73) := ⟨⟨by decide +kernel, by decide +kernel⟩, List.mem_of_getElem? (i := 946) (by first | rfl | decide +kernel), List.mem_of_getElem? (i := 1297) (by first | rfl | decide +kernel), List.mem_of_getElem? (i := 1298) (by first | rfl | decide +kernel)⟩
set_option maxRecDepth 100000 in
theorem lw_p41 : lw_okq (⟨"NextOneKnowsModel", "holds", "(IIII)Z"⟩, 73) := ⟨⟨by decide +kernel, by decide +kernel⟩, List.mem_of_getElem? (i := 946) (by first | rfl | decide +kernel), List.mem_of_getElem? (i := 1301) (by first | rfl | decide +kernel), List.mem_of_getElem? (i := 1302) (by first | rfl | decide +kernel)⟩
set_option maxRecDepth 100000 in
theorem lw_p42 : lw_okq (⟨"NextOneKnowsModel", "factOf", "(IIII)I"⟩, 73) := ⟨⟨by decide +kernel, by decide +kernel⟩, List.mem_of_getElem? (i := 946) (by first | rfl | decide +kernel), List.mem_of_getElem? (i := 1305) (by first | rfl | decide +kernel), List.mem_of_getElem? (i := 1306) (by first | rfl | decide +kernel)⟩
set_option maxRecDepth 100000 in
theorem lw_p43 : lw_okq (⟨"NextOneKnowsModel", "saidOf", "(I)I"⟩, 73) := ⟨⟨by decide +kernel, by decide +kernel⟩, List.mem_of_getElem? (i := 946) (by first | rfl | decide +kernel), List.mem_of_getElem? (i := 1309) (by first | rfl | decide +kernel), List.mem_of_getElem? (i := 1310) (by first | rfl | decide +kernel)⟩
set_option maxRecDepth 100000 in
theorem lw_p44 : lw_okq (⟨"NextOneKnowsModel", "saidAll", "(II)I"⟩, 73) := ⟨⟨by decide +kernel, by decide +kernel⟩, List.mem_of_getElem? (i := 946) (by first | rfl | decide +kernel), List.mem_of_getElem? (i := 1313) (by first | rfl | decide +kernel), List.mem_of_getElem? (i := 1314) (by first | rfl | decide +kernel)⟩
set_option maxRecDepth 100000 in
theorem lw_p45 : lw_okq (⟨"NextOneKnowsModel", "dear", "(II)I"⟩, 73) := ⟨⟨by decide +kernel, by decide +kernel⟩, List.mem_of_getElem? (i := 946) (by first | rfl | decide +kernel), List.mem_of_getElem? (i := 1317) (by first | rfl | decide +kernel), List.mem_of_getElem? (i := 1318) (by first | rfl | decide +kernel)⟩
set_option maxRecDepth 100000 in
theorem lw_p46 : lw_okq (⟨"NextOneKnowsModel", "lastOf", "(II)I"⟩, 73) := ⟨⟨by decide +kernel, by decide +kernel⟩, List.mem_of_getElem? (i := 946) (by first | rfl | decide +kernel), List.mem_of_getElem? (i := 1325) (by first | rfl | decide +kernel), List.mem_of_getElem? (i := 1326) (by first | rfl | decide +kernel)⟩
set_option maxRecDepth 100000 in
theorem lw_p47 : lw_okq (⟨"NextOneKnowsModel", "ones", "(I)I"⟩, 73) := ⟨⟨by decide +kernel, by decide +kernel⟩, List.mem_of_getElem? (i := 946) (by first | rfl | decide +kernel), List.mem_of_getElem? (i := 1337) (by first | rfl | decide +kernel), List.mem_of_getElem? (i := 1338) (by first | rfl | decide +kernel)⟩
def lw_privs_3 : List (MethodName × Nat) := [(⟨"NextOneKnowsModel", "takesTest", "()Z"⟩, 73), (⟨"NextOneKnowsModel", "place", "(I)I"⟩, 73), (⟨"NextOneKnowsModel", "put", "(I)V"⟩, 73), (⟨"NextOneKnowsModel", "whole", "()V"⟩, 73), (⟨"NextOneKnowsModel", "settle", "(I)V"⟩, 73), (⟨"NextOneKnowsModel", "laySaid", "()V"⟩, 73), (⟨"NextOneKnowsModel", "sumOf", "(IIII)I"⟩, 73), (⟨"NextOneKnowsModel", "begin", "()I"⟩, 73), (⟨"NextOneKnowsModel", "behind", "()I"⟩, 73), (⟨"NextOneKnowsModel", "holds", "(IIII)Z"⟩, 73), (⟨"NextOneKnowsModel", "factOf", "(IIII)I"⟩, 73), (⟨"NextOneKnowsModel", "saidOf", "(I)I"⟩, 73), (⟨"NextOneKnowsModel", "saidAll", "(II)I"⟩, 73), (⟨"NextOneKnowsModel", "dear", "(II)I"⟩, 73), (⟨"NextOneKnowsModel", "lastOf", "(II)I"⟩, 73), (⟨"NextOneKnowsModel", "ones", "(I)I"⟩, 73)]
theorem lw_r3 : ∀ q ∈ lw_privs_3, lw_okq q := List.forall_mem_cons.mpr ⟨lw_p32, List.forall_mem_cons.mpr ⟨lw_p33, List.forall_mem_cons.mpr ⟨lw_p34, List.forall_mem_cons.mpr ⟨lw_p35, List.forall_mem_cons.mpr ⟨lw_p36, List.forall_mem_cons.mpr ⟨lw_p37, List.forall_mem_cons.mpr ⟨lw_p38, List.forall_mem_cons.mpr ⟨lw_p39, List.forall_mem_cons.mpr ⟨lw_p40, List.forall_mem_cons.mpr ⟨lw_p41, List.forall_mem_cons.mpr ⟨lw_p42, List.forall_mem_cons.mpr ⟨lw_p43, List.forall_mem_cons.mpr ⟨lw_p44, List.forall_mem_cons.mpr ⟨lw_p45, List.forall_mem_cons.mpr ⟨lw_p46, List.forall_mem_cons.mpr ⟨lw_p47, fun _ h => absurd h List.not_mem_nil⟩⟩⟩⟩⟩⟩⟩⟩⟩⟩⟩⟩⟩⟩⟩⟩
set_option maxRecDepth 100000 in
theorem lw_p48 : lw_okq (⟨"NextOneKnowsModel", "over", "()I"⟩, 73) := ⟨⟨by decide +kernel, by decide +kernel⟩, List.mem_of_getElem? (i := 946) (by first | rfl | decide +kernel), List.mem_of_getElem? (i := 1341) (by first | rfl | decide +kernel), List.mem_of_getElem? (i := 1342) (by first | rfl | decide +kernel)⟩
set_option maxRecDepth 100000 in
theorem lw_p49 : lw_okq (⟨"NextOneKnowsModel", "begins", "(II)V"⟩, 73) := ⟨⟨by decide +kernel, by decide +kernel⟩, List.mem_of_getElem? (i := 946) (by first | rfl | decide +kernel), List.mem_of_getElem? (i := 1349) (by first | rfl | decide +kernel), List.mem_of_getElem? (i := 1350) (by first | rfl | decide +kernel)⟩
set_option maxRecDepth 100000 in
theorem lw_p50 : lw_okq (⟨"NextOneKnowsModel", "goWeeks", "(I)V"⟩, 73) := ⟨⟨by decide +kernel, by decide +kernel⟩, List.mem_of_getElem? (i := 946) (by first | rfl | decide +kernel), List.mem_of_getElem? (i := 1353) (by first | rfl | decide +kernel), List.mem_of_getElem? (i := 1354) (by first | rfl | decide +kernel)⟩
set_option maxRecDepth 100000 in
theorem lw_p51 : lw_okq (⟨"NextOneKnowsModel", "goWeek", "(II)V"⟩, 73) := ⟨⟨by decide +kernel, by decide +kernel⟩, List.mem_of_getElem? (i := 946) (by first | rfl | decide +kernel), List.mem_of_getElem? (i := 1357) (by first | rfl | decide +kernel), List.mem_of_getElem? (i := 1358) (by first | rfl | decide +kernel)⟩
set_option maxRecDepth 100000 in
theorem lw_p52 : lw_okq (⟨"NextOneKnowsModel", "comes", "(II)Z"⟩, 73) := ⟨⟨by decide +kernel, by decide +kernel⟩, List.mem_of_getElem? (i := 946) (by first | rfl | decide +kernel), List.mem_of_getElem? (i := 1361) (by first | rfl | decide +kernel), List.mem_of_getElem? (i := 1362) (by first | rfl | decide +kernel)⟩
set_option maxRecDepth 100000 in
theorem lw_p53 : lw_okq (⟨"NextOneKnowsModel", "learnsBy", "(I)Z"⟩, 73) := ⟨⟨by decide +kernel, by decide +kernel⟩, List.mem_of_getElem? (i := 946) (by first | rfl | decide +kernel), List.mem_of_getElem? (i := 1365) (by first | rfl | decide +kernel), List.mem_of_getElem? (i := 1366) (by first | rfl | decide +kernel)⟩
set_option maxRecDepth 100000 in
theorem lw_p54 : lw_okq (⟨"NextOneKnowsModel", "keepHours", "()V"⟩, 73) := ⟨⟨by decide +kernel, by decide +kernel⟩, List.mem_of_getElem? (i := 946) (by first | rfl | decide +kernel), List.mem_of_getElem? (i := 1377) (by first | rfl | decide +kernel), List.mem_of_getElem? (i := 1378) (by first | rfl | decide +kernel)⟩
set_option maxRecDepth 100000 in
theorem lw_p55 : lw_okq (⟨"NextOneKnowsModel", "costHanded", "(I)I"⟩, 73) := ⟨⟨by decide +kernel, by decide +kernel⟩, List.mem_of_getElem? (i := 946) (by first | rfl | decide +kernel), List.mem_of_getElem? (i := 1381) (by first | rfl | decide +kernel), List.mem_of_getElem? (i := 1382) (by first | rfl | decide +kernel)⟩
set_option maxRecDepth 100000 in
theorem lw_p56 : lw_okq (⟨"NextOneKnowsModel", "costBy", "(III)I"⟩, 73) := ⟨⟨by decide +kernel, by decide +kernel⟩, List.mem_of_getElem? (i := 946) (by first | rfl | decide +kernel), List.mem_of_getElem? (i := 1385) (by first | rfl | decide +kernel), List.mem_of_getElem? (i := 1386) (by first | rfl | decide +kernel)⟩
set_option maxRecDepth 100000 in
theorem lw_p57 : lw_okq (⟨"NextOneKnowsModel", "putHours", "()V"⟩, 73) := ⟨⟨by decide +kernel, by decide +kernel⟩, List.mem_of_getElem? (i := 946) (by first | rfl | decide +kernel), List.mem_of_getElem? (i := 1389) (by first | rfl | decide +kernel), List.mem_of_getElem? (i := 1390) (by first | rfl | decide +kernel)⟩
set_option maxRecDepth 100000 in
theorem lw_p58 : lw_okq (⟨"NextOneKnowsModel", "manyIn", "(I)I"⟩, 73) := ⟨⟨by decide +kernel, by decide +kernel⟩, List.mem_of_getElem? (i := 946) (by first | rfl | decide +kernel), List.mem_of_getElem? (i := 1413) (by first | rfl | decide +kernel), List.mem_of_getElem? (i := 1414) (by first | rfl | decide +kernel)⟩
set_option maxRecDepth 100000 in
theorem lw_p59 : lw_okq (⟨"NextOneKnowsModel", "allCome", "(II)Z"⟩, 73) := ⟨⟨by decide +kernel, by decide +kernel⟩, List.mem_of_getElem? (i := 946) (by first | rfl | decide +kernel), List.mem_of_getElem? (i := 1421) (by first | rfl | decide +kernel), List.mem_of_getElem? (i := 1422) (by first | rfl | decide +kernel)⟩
set_option maxRecDepth 100000 in
theorem lw_p60 : lw_okq (⟨"NextOneKnowsModel", "firstOff", "(I)I"⟩, 73) := ⟨⟨by decide +kernel, by decide +kernel⟩, List.mem_of_getElem? (i := 946) (by first | rfl | decide +kernel), List.mem_of_getElem? (i := 1433) (by first | rfl | decide +kernel), List.mem_of_getElem? (i := 1434) (by first | rfl | decide +kernel)⟩
set_option maxRecDepth 100000 in
theorem lw_p61 : lw_okq (⟨"NextOneKnowsModel", "comesIn", "(II)Z"⟩, 73) := ⟨⟨by decide +kernel, by decide +kernel⟩, List.mem_of_getElem? (i := 946) (by first | rfl | decide +kernel), List.mem_of_getElem? (i := 1446) (by first | rfl | decide +kernel), List.mem_of_getElem? (i := 1447) (by first | rfl | decide +kernel)⟩
set_option maxRecDepth 100000 in
theorem lw_p62 : lw_okq (⟨"NextOneKnowsModel", "divisor", "(JJ)J"⟩, 73) := ⟨⟨by decide +kernel, by decide +kernel⟩, List.mem_of_getElem? (i := 946) (by first | rfl | decide +kernel), List.mem_of_getElem? (i := 1451) (by first | rfl | decide +kernel), List.mem_of_getElem? (i := 1452) (by first | rfl | decide +kernel)⟩
set_option maxRecDepth 100000 in
theorem lw_p63 : lw_okq (⟨"NextOneKnowsModel", "isTape", "(I)Z"⟩, 73) := ⟨⟨by decide +kernel, by decide +kernel⟩, List.mem_of_getElem? (i := 946) (by first | rfl | decide +kernel), List.mem_of_getElem? (i := 1459) (by first | rfl | decide +kernel), List.mem_of_getElem? (i := 1460) (by first | rfl | decide +kernel)⟩
def lw_privs_4 : List (MethodName × Nat) := [(⟨"NextOneKnowsModel", "over", "()I"⟩, 73), (⟨"NextOneKnowsModel", "begins", "(II)V"⟩, 73), (⟨"NextOneKnowsModel", "goWeeks", "(I)V"⟩, 73), (⟨"NextOneKnowsModel", "goWeek", "(II)V"⟩, 73), (⟨"NextOneKnowsModel", "comes", "(II)Z"⟩, 73), (⟨"NextOneKnowsModel", "learnsBy", "(I)Z"⟩, 73), (⟨"NextOneKnowsModel", "keepHours", "()V"⟩, 73), (⟨"NextOneKnowsModel", "costHanded", "(I)I"⟩, 73), (⟨"NextOneKnowsModel", "costBy", "(III)I"⟩, 73), (⟨"NextOneKnowsModel", "putHours", "()V"⟩, 73), (⟨"NextOneKnowsModel", "manyIn", "(I)I"⟩, 73), (⟨"NextOneKnowsModel", "allCome", "(II)Z"⟩, 73), (⟨"NextOneKnowsModel", "firstOff", "(I)I"⟩, 73), (⟨"NextOneKnowsModel", "comesIn", "(II)Z"⟩, 73), (⟨"NextOneKnowsModel", "divisor", "(JJ)J"⟩, 73), (⟨"NextOneKnowsModel", "isTape", "(I)Z"⟩, 73)]
theorem lw_r4 : ∀ q ∈ lw_privs_4, lw_okq q := List.forall_mem_cons.mpr ⟨lw_p48, List.forall_mem_cons.mpr ⟨lw_p49, List.forall_mem_cons.mpr ⟨lw_p50, List.forall_mem_cons.mpr ⟨lw_p51, List.forall_mem_cons.mpr ⟨lw_p52, List.forall_mem_cons.mpr ⟨lw_p53, List.forall_mem_cons.mpr ⟨lw_p54, List.forall_mem_cons.mpr ⟨lw_p55, List.forall_mem_cons.mpr ⟨lw_p56, List.forall_mem_cons.mpr ⟨lw_p57, List.forall_mem_cons.mpr ⟨lw_p58, List.forall_mem_cons.mpr ⟨lw_p59, List.forall_mem_cons.mpr ⟨lw_p60, List.forall_mem_cons.mpr ⟨lw_p61, List.forall_mem_cons.mpr ⟨lw_p62, List.forall_mem_cons.mpr ⟨lw_p63, fun _ h => absurd h List.not_mem_nil⟩⟩⟩⟩⟩⟩⟩⟩⟩⟩⟩⟩⟩⟩⟩⟩
set_option maxRecDepth 100000 in
theorem lw_p64 : lw_okq (⟨"NextOneKnowsModel", "saysAct", "(II)I"⟩, 73) := ⟨⟨by decide +kernel, by decide +kernel⟩, List.mem_of_getElem? (i := 946) (by first | rfl | decide +kernel), List.mem_of_getElem? (i := 1475) (by first | rfl | decide +kernel), List.mem_of_getElem? (i := 1476) (by first | rfl | decide +kernel)⟩
set_option maxRecDepth 100000 in
theorem lw_p65 : lw_okq (⟨"NextOneKnowsModel", "body", "(I)V"⟩, 73) := ⟨⟨by decide +kernel, by decide +kernel⟩, List.mem_of_getElem? (i := 946) (by first | rfl | decide +kernel), List.mem_of_getElem? (i := 1479) (by first | rfl | decide +kernel), List.mem_of_getElem? (i := 1480) (by first | rfl | decide +kernel)⟩
set_option maxRecDepth 100000 in
theorem lw_p66 : lw_okq (⟨"NextOneKnowsModel", "knowingSays", "(II)I"⟩, 73) := ⟨⟨by decide +kernel, by decide +kernel⟩, List.mem_of_getElem? (i := 946) (by first | rfl | decide +kernel), List.mem_of_getElem? (i := 1483) (by first | rfl | decide +kernel), List.mem_of_getElem? (i := 1484) (by first | rfl | decide +kernel)⟩
set_option maxRecDepth 100000 in
theorem lw_p67 : lw_okq (⟨"NextOneKnowsModel", "holdsAct", "(II)I"⟩, 73) := ⟨⟨by decide +kernel, by decide +kernel⟩, List.mem_of_getElem? (i := 946) (by first | rfl | decide +kernel), List.mem_of_getElem? (i := 1487) (by first | rfl | decide +kernel), List.mem_of_getElem? (i := 1488) (by first | rfl | decide +kernel)⟩
set_option maxRecDepth 100000 in
theorem lw_p68 : lw_okq (⟨"NextOneKnowsModel", "writtenHolds", "(II)I"⟩, 73) := ⟨⟨by decide +kernel, by decide +kernel⟩, List.mem_of_getElem? (i := 946) (by first | rfl | decide +kernel), List.mem_of_getElem? (i := 1491) (by first | rfl | decide +kernel), List.mem_of_getElem? (i := 1492) (by first | rfl | decide +kernel)⟩
set_option maxRecDepth 100000 in
theorem lw_p69 : lw_okq (⟨"NextOneKnowsModel", "knowingHolds", "(II)I"⟩, 73) := ⟨⟨by decide +kernel, by decide +kernel⟩, List.mem_of_getElem? (i := 946) (by first | rfl | decide +kernel), List.mem_of_getElem? (i := 1495) (by first | rfl | decide +kernel), List.mem_of_getElem? (i := 1496) (by first | rfl | decide +kernel)⟩
set_option maxRecDepth 100000 in
theorem lw_p70 : lw_okq (⟨"NextOneKnowsModel", "tellsAct", "(II)I"⟩, 73) := ⟨⟨by decide +kernel, by decide +kernel⟩, List.mem_of_getElem? (i := 946) (by first | rfl | decide +kernel), List.mem_of_getElem? (i := 1499) (by first | rfl | decide +kernel), List.mem_of_getElem? (i := 1500) (by first | rfl | decide +kernel)⟩
set_option maxRecDepth 100000 in
theorem lw_p71 : lw_okq (⟨"NextOneKnowsModel", "knowingTells", "(II)I"⟩, 73) := ⟨⟨by decide +kernel, by decide +kernel⟩, List.mem_of_getElem? (i := 946) (by first | rfl | decide +kernel), List.mem_of_getElem? (i := 1503) (by first | rfl | decide +kernel), List.mem_of_getElem? (i := 1504) (by first | rfl | decide +kernel)⟩
set_option maxRecDepth 100000 in
theorem lw_p72 : lw_okq (⟨"NextOneKnowsModel", "narrow", "(IJ)J"⟩, 73) := ⟨⟨by decide +kernel, by decide +kernel⟩, List.mem_of_getElem? (i := 946) (by first | rfl | decide +kernel), List.mem_of_getElem? (i := 1527) (by first | rfl | decide +kernel), List.mem_of_getElem? (i := 1528) (by first | rfl | decide +kernel)⟩
def lw_privs_5 : List (MethodName × Nat) := [(⟨"NextOneKnowsModel", "saysAct", "(II)I"⟩, 73), (⟨"NextOneKnowsModel", "body", "(I)V"⟩, 73), (⟨"NextOneKnowsModel", "knowingSays", "(II)I"⟩, 73), (⟨"NextOneKnowsModel", "holdsAct", "(II)I"⟩, 73), (⟨"NextOneKnowsModel", "writtenHolds", "(II)I"⟩, 73), (⟨"NextOneKnowsModel", "knowingHolds", "(II)I"⟩, 73), (⟨"NextOneKnowsModel", "tellsAct", "(II)I"⟩, 73), (⟨"NextOneKnowsModel", "knowingTells", "(II)I"⟩, 73), (⟨"NextOneKnowsModel", "narrow", "(IJ)J"⟩, 73)]
theorem lw_r5 : ∀ q ∈ lw_privs_5, lw_okq q := List.forall_mem_cons.mpr ⟨lw_p64, List.forall_mem_cons.mpr ⟨lw_p65, List.forall_mem_cons.mpr ⟨lw_p66, List.forall_mem_cons.mpr ⟨lw_p67, List.forall_mem_cons.mpr ⟨lw_p68, List.forall_mem_cons.mpr ⟨lw_p69, List.forall_mem_cons.mpr ⟨lw_p70, List.forall_mem_cons.mpr ⟨lw_p71, List.forall_mem_cons.mpr ⟨lw_p72, fun _ h => absurd h List.not_mem_nil⟩⟩⟩⟩⟩⟩⟩⟩⟩
def lw_privs : List (MethodName × Nat) := lw_privs_1 ++ (lw_privs_2 ++ (lw_privs_3 ++ (lw_privs_4 ++ (lw_privs_5))))
def lw_tbl : List Cond := k2_sels lw_privs ++ tables_1
set_option maxRecDepth 100000 in
theorem lw_privs_ok : ∀ q ∈ lw_privs, lw_okq q := by
  show ∀ q ∈ lw_privs_1 ++ (lw_privs_2 ++ (lw_privs_3 ++ (lw_privs_4 ++ (lw_privs_5)))), lw_okq q
  exact List.forall_mem_append.mpr ⟨lw_r1, List.forall_mem_append.mpr ⟨lw_r2, List.forall_mem_append.mpr ⟨lw_r3, List.forall_mem_append.mpr ⟨lw_r4, lw_r5⟩⟩⟩⟩

def RX0 : String := "NextOneKnows$Ahead"
def TX0 : u_T := fun k => match k with
  | 0 => ("NextOneKnows$Ahead", "now", "LNextOneKnows$State;", true)
  | 1 => ("NextOneKnows$Ahead", "span", "I", false)
  | 2 => ("NextOneKnows$Ahead", "coming", "[I", true)
  | 3 => ("NextOneKnows$Ahead", "dear", "[I", true)
  | 4 => ("NextOneKnows$Ahead", "said", "[[I", true)
  | 5 => ("NextOneKnows$Ahead", "stopping", "[I", true)
  | 6 => ("NextOneKnows$Ahead", "needless", "I", false)
  | 7 => ("NextOneKnows$Ahead", "costs", "I", false)
  | 8 => ("NextOneKnows$Ahead", "called", "I", false)
  | 9 => ("NextOneKnows$Ahead", "known", "I", false)
  | 10 => ("NextOneKnows$Ahead", "stops", "I", false)
  | 11 => ("NextOneKnows$Ahead", "calls", "I", false)
  | 12 => ("NextOneKnows$Ahead", "firstWeek", "I", false)
  | 13 => ("NextOneKnows$Ahead", "firstDoing", "I", false)
  | 14 => ("NextOneKnows$Ahead", "shares", "[I", true)
  | _ => ("NextOneKnows$Ahead", "best", "[I", true)
def tyX0 : Nat → FieldType := fun k => match k with
  | 0 => .object "NextOneKnows$State"
  | 1 => .int
  | 2 => .array .int
  | 3 => .array .int
  | 4 => .array (.array .int)
  | 5 => .array .int
  | 6 => .int
  | 7 => .int
  | 8 => .int
  | 9 => .int
  | 10 => .int
  | 11 => .int
  | 12 => .int
  | 13 => .int
  | 14 => .array .int
  | _ => .array .int
theorem nmX0 : ∀ a, a < 16 → ∀ b, b < 16 → a ≠ b → (TX0 a).2.1 ≠ (TX0 b).2.1 := by decide +kernel
theorem tyX0_ok : ∀ k, k < 16 → parseFieldDescriptor (TX0 k).2.2.1 = some (tyX0 k) := by decide +kernel
abbrev cX0_init : ByteArray := prog_2_method_1_code
def yX0_init : MethodName := ⟨RX0, "<init>", "(LNextOneKnows$State;)V"⟩
abbrev cX0_look : ByteArray := prog_2_method_2_code
def yX0_look : MethodName := ⟨RX0, "look", "(I)V"⟩
abbrev cX0_lookDear : ByteArray := prog_2_method_3_code
def yX0_lookDear : MethodName := ⟨RX0, "lookDear", "(II)V"⟩
abbrev cX0_dearCell : ByteArray := prog_2_method_4_code
def yX0_dearCell : MethodName := ⟨RX0, "dearCell", "(II)I"⟩
abbrev cX0_hear : ByteArray := prog_2_method_5_code
def yX0_hear : MethodName := ⟨RX0, "hear", "()V"⟩
abbrev cX0_hearOf : ByteArray := prog_2_method_6_code
def yX0_hearOf : MethodName := ⟨RX0, "hearOf", "(LNextOneKnows$Doing;)V"⟩
abbrev cX0_saidOf : ByteArray := prog_2_method_7_code
def yX0_saidOf : MethodName := ⟨RX0, "saidOf", "(LNextOneKnows$Doing;)I"⟩
abbrev cX0_goingOver : ByteArray := prog_2_method_8_code
def yX0_goingOver : MethodName := ⟨RX0, "goingOver", "([I)I"⟩
abbrev cX0_pass : ByteArray := prog_2_method_9_code
def yX0_pass : MethodName := ⟨RX0, "pass", "(II)I"⟩
abbrev cX0_stopAll : ByteArray := prog_2_method_10_code
def yX0_stopAll : MethodName := ⟨RX0, "stopAll", "(II)V"⟩
abbrev cX0_stop : ByteArray := prog_2_method_11_code
def yX0_stop : MethodName := ⟨RX0, "stop", "(LNextOneKnows$Doing;I)V"⟩
abbrev cX0_costHanded : ByteArray := prog_2_method_12_code
def yX0_costHanded : MethodName := ⟨RX0, "costHanded", "([I)I"⟩
abbrev cX0_hourMore : ByteArray := prog_2_method_13_code
def yX0_hourMore : MethodName := ⟨RX0, "hourMore", "(I)[I"⟩
abbrev cX0_bestSplit : ByteArray := prog_2_method_14_code
def yX0_bestSplit : MethodName := ⟨RX0, "bestSplit", "(I)I"⟩
abbrev cX0_share : ByteArray := prog_2_method_15_code
def yX0_share : MethodName := ⟨RX0, "share", "(IIII)V"⟩
abbrev cX0_bestOf : ByteArray := prog_2_method_16_code
def yX0_bestOf : MethodName := ⟨RX0, "bestOf", "(IZ)I"⟩
abbrev cX0_firstRowNotSo : ByteArray := prog_2_method_17_code
def yX0_firstRowNotSo : MethodName := ⟨RX0, "firstRowNotSo", "()I"⟩
def RX1 : String := "NextOneKnows$Doing"
def TX1 : u_T := fun k => match k with
  | 0 => ("NextOneKnows$Doing", "i", "I", true)
  | 1 => ("NextOneKnows$Doing", "v", "I", true)
  | 2 => ("NextOneKnows$Doing", "round", "I", true)
  | 3 => ("NextOneKnows$Doing", "place", "I", true)
  | 4 => ("NextOneKnows$Doing", "cost", "I", true)
  | _ => ("NextOneKnows$Doing", "need", "I", true)
def tyX1 : Nat → FieldType := fun k => match k with
  | 0 => .int
  | 1 => .int
  | 2 => .int
  | 3 => .int
  | 4 => .int
  | _ => .int
theorem nmX1 : ∀ a, a < 6 → ∀ b, b < 6 → a ≠ b → (TX1 a).2.1 ≠ (TX1 b).2.1 := by decide +kernel
theorem tyX1_ok : ∀ k, k < 6 → parseFieldDescriptor (TX1 k).2.2.1 = some (tyX1 k) := by decide +kernel
abbrev cX1_init : ByteArray := prog_3_method_1_code
def yX1_init : MethodName := ⟨RX1, "<init>", "(IIIIII)V"⟩
abbrev cX1_kind : ByteArray := prog_3_method_2_code
def yX1_kind : MethodName := ⟨RX1, "kind", "()I"⟩
abbrev cX1_weeksUntil : ByteArray := prog_3_method_3_code
def yX1_weeksUntil : MethodName := ⟨RX1, "weeksUntil", "(I)I"⟩
abbrev cX1_saidOver : ByteArray := prog_3_method_4_code
def yX1_saidOver : MethodName := ⟨RX1, "saidOver", "([I[I)I"⟩
abbrev cX1_isKnownByCall : ByteArray := prog_3_method_5_code
def yX1_isKnownByCall : MethodName := ⟨RX1, "isKnownByCall", "()Z"⟩
abbrev cX1_isKnownByStop : ByteArray := prog_3_method_6_code
def yX1_isKnownByStop : MethodName := ⟨RX1, "isKnownByStop", "()Z"⟩
abbrev cX1_says : ByteArray := prog_3_method_7_code
def yX1_says : MethodName := ⟨RX1, "says", "(ILNextOneKnows$Trace;)I"⟩
abbrev cX1_holds : ByteArray := prog_3_method_8_code
def yX1_holds : MethodName := ⟨RX1, "holds", "(ILNextOneKnows$Trace;)I"⟩
abbrev cX1_tells : ByteArray := prog_3_method_9_code
def yX1_tells : MethodName := ⟨RX1, "tells", "(ILNextOneKnows$Trace;)I"⟩
def RX2 : String := "NextOneKnows$Plain"
def TX2 : u_T := fun k => match k with
  | 0 => ("NextOneKnows$Doing", "i", "I", true)
  | 1 => ("NextOneKnows$Doing", "v", "I", true)
  | 2 => ("NextOneKnows$Doing", "round", "I", true)
  | 3 => ("NextOneKnows$Doing", "place", "I", true)
  | 4 => ("NextOneKnows$Doing", "cost", "I", true)
  | _ => ("NextOneKnows$Doing", "need", "I", true)
def tyX2 : Nat → FieldType := fun k => match k with
  | 0 => .int
  | 1 => .int
  | 2 => .int
  | 3 => .int
  | 4 => .int
  | _ => .int
theorem nmX2 : ∀ a, a < 6 → ∀ b, b < 6 → a ≠ b → (TX2 a).2.1 ≠ (TX2 b).2.1 := by decide +kernel
theorem tyX2_ok : ∀ k, k < 6 → parseFieldDescriptor (TX2 k).2.2.1 = some (tyX2 k) := by decide +kernel
abbrev cX2_init : ByteArray := prog_4_method_1_code
def yX2_init : MethodName := ⟨RX2, "<init>", "(IIIIII)V"⟩
abbrev cX2_kind : ByteArray := prog_4_method_2_code
def yX2_kind : MethodName := ⟨RX2, "kind", "()I"⟩
abbrev cX2_saidOver : ByteArray := prog_4_method_3_code
def yX2_saidOver : MethodName := ⟨RX2, "saidOver", "([I[I)I"⟩
abbrev cX2_isKnownByStop : ByteArray := prog_4_method_4_code
def yX2_isKnownByStop : MethodName := ⟨RX2, "isKnownByStop", "()Z"⟩
abbrev cX2_says : ByteArray := prog_4_method_5_code
def yX2_says : MethodName := ⟨RX2, "says", "(ILNextOneKnows$Trace;)I"⟩
def RX3 : String := "NextOneKnows$Post"
def TX3 : u_T := fun k => match k with
  | 0 => ("NextOneKnows$Post", "call", "I", false)
  | 1 => ("NextOneKnows$Post", "fade", "I", false)
  | 2 => ("NextOneKnows$Post", "clauses", "I", false)
  | 3 => ("NextOneKnows$Post", "words", "[I", true)
  | 4 => ("NextOneKnows$Post", "numbers", "[I", true)
  | 5 => ("NextOneKnows$Post", "ends", "[I", true)
  | 6 => ("NextOneKnows$Post", "codes", "[I", true)
  | 7 => ("NextOneKnows$Post", "codeCount", "I", false)
  | 8 => ("NextOneKnows$Post", "text", "[B", true)
  | 9 => ("NextOneKnows$Post", "length", "I", false)
  | 10 => ("NextOneKnows$Post", "at", "I", false)
  | _ => ("NextOneKnows$Post", "faulty", "Z", false)
def tyX3 : Nat → FieldType := fun k => match k with
  | 0 => .int
  | 1 => .int
  | 2 => .int
  | 3 => .array .int
  | 4 => .array .int
  | 5 => .array .int
  | 6 => .array .int
  | 7 => .int
  | 8 => .array .byte
  | 9 => .int
  | 10 => .int
  | _ => .boolean
theorem nmX3 : ∀ a, a < 12 → ∀ b, b < 12 → a ≠ b → (TX3 a).2.1 ≠ (TX3 b).2.1 := by decide +kernel
theorem tyX3_ok : ∀ k, k < 12 → parseFieldDescriptor (TX3 k).2.2.1 = some (tyX3 k) := by decide +kernel
abbrev cX3_init : ByteArray := prog_5_method_1_code
def yX3_init : MethodName := ⟨RX3, "<init>", "([B)V"⟩
abbrev cX3_readFrom : ByteArray := prog_5_method_2_code
def yX3_readFrom : MethodName := ⟨RX3, "readFrom", "(I)I"⟩
abbrev cX3_readClause : ByteArray := prog_5_method_3_code
def yX3_readClause : MethodName := ⟨RX3, "readClause", "()V"⟩
abbrev cX3_readWord : ByteArray := prog_5_method_4_code
def yX3_readWord : MethodName := ⟨RX3, "readWord", "()I"⟩
abbrev cX3_readNumber : ByteArray := prog_5_method_5_code
def yX3_readNumber : MethodName := ⟨RX3, "readNumber", "()I"⟩
abbrev cX3_readEither : ByteArray := prog_5_method_6_code
def yX3_readEither : MethodName := ⟨RX3, "readEither", "(I)V"⟩
abbrev cX3_readPart : ByteArray := prog_5_method_7_code
def yX3_readPart : MethodName := ⟨RX3, "readPart", "(I)V"⟩
abbrev cX3_readTest : ByteArray := prog_5_method_8_code
def yX3_readTest : MethodName := ⟨RX3, "readTest", "()V"⟩
abbrev cX3_keep : ByteArray := prog_5_method_9_code
def yX3_keep : MethodName := ⟨RX3, "keep", "(I)V"⟩
abbrev cX3_here : ByteArray := prog_5_method_10_code
def yX3_here : MethodName := ⟨RX3, "here", "()I"⟩
abbrev cX3_takes : ByteArray := prog_5_method_11_code
def yX3_takes : MethodName := ⟨RX3, "takes", "(I)Z"⟩
abbrev cX3_needs : ByteArray := prog_5_method_12_code
def yX3_needs : MethodName := ⟨RX3, "needs", "(I)V"⟩
abbrev cX3_takeIf : ByteArray := prog_5_method_13_code
def yX3_takeIf : MethodName := ⟨RX3, "takeIf", "(Z)V"⟩
abbrev cX3_together : ByteArray := prog_5_method_14_code
def yX3_together : MethodName := ⟨RX3, "together", "(ILNextOneKnows$Doing;II)I"⟩
abbrev cX3_holds : ByteArray := prog_5_method_15_code
def yX3_holds : MethodName := ⟨RX3, "holds", "(ILNextOneKnows$Doing;II)Z"⟩
abbrev cX3_passes : ByteArray := prog_5_method_16_code
def yX3_passes : MethodName := ⟨RX3, "passes", "(ILNextOneKnows$Doing;II)Z"⟩
def RX4 : String := "NextOneKnows$Rare"
def TX4 : u_T := fun k => match k with
  | 0 => ("NextOneKnows$Doing", "i", "I", true)
  | 1 => ("NextOneKnows$Doing", "v", "I", true)
  | 2 => ("NextOneKnows$Doing", "round", "I", true)
  | 3 => ("NextOneKnows$Doing", "place", "I", true)
  | 4 => ("NextOneKnows$Doing", "cost", "I", true)
  | _ => ("NextOneKnows$Doing", "need", "I", true)
def tyX4 : Nat → FieldType := fun k => match k with
  | 0 => .int
  | 1 => .int
  | 2 => .int
  | 3 => .int
  | 4 => .int
  | _ => .int
theorem nmX4 : ∀ a, a < 6 → ∀ b, b < 6 → a ≠ b → (TX4 a).2.1 ≠ (TX4 b).2.1 := by decide +kernel
theorem tyX4_ok : ∀ k, k < 6 → parseFieldDescriptor (TX4 k).2.2.1 = some (tyX4 k) := by decide +kernel
abbrev cX4_init : ByteArray := prog_6_method_1_code
def yX4_init : MethodName := ⟨RX4, "<init>", "(IIIIII)V"⟩
abbrev cX4_kind : ByteArray := prog_6_method_2_code
def yX4_kind : MethodName := ⟨RX4, "kind", "()I"⟩
abbrev cX4_saidOver : ByteArray := prog_6_method_3_code
def yX4_saidOver : MethodName := ⟨RX4, "saidOver", "([I[I)I"⟩
abbrev cX4_isKnownByStop : ByteArray := prog_6_method_4_code
def yX4_isKnownByStop : MethodName := ⟨RX4, "isKnownByStop", "()Z"⟩
abbrev cX4_tells : ByteArray := prog_6_method_5_code
def yX4_tells : MethodName := ⟨RX4, "tells", "(ILNextOneKnows$Trace;)I"⟩
def RX5 : String := "NextOneKnows$State"
def TX5 : u_T := fun k => match k with
  | 0 => ("NextOneKnows$State", "doings", "[LNextOneKnows$Doing;", true)
  | 1 => ("NextOneKnows$State", "odds", "[I", true)
  | 2 => ("NextOneKnows$State", "count", "I", false)
  | 3 => ("NextOneKnows$State", "known", "I", false)
  | 4 => ("NextOneKnows$State", "needless", "I", false)
  | 5 => ("NextOneKnows$State", "hours", "[I", true)
  | 6 => ("NextOneKnows$State", "week", "I", false)
  | 7 => ("NextOneKnows$State", "costs", "I", false)
  | 8 => ("NextOneKnows$State", "stops", "I", false)
  | 9 => ("NextOneKnows$State", "calls", "I", false)
  | 10 => ("NextOneKnows$State", "rowWeeks", "[I", true)
  | 11 => ("NextOneKnows$State", "rowDoings", "[I", true)
  | 12 => ("NextOneKnows$State", "rows", "I", false)
  | _ => ("NextOneKnows$State", "post", "LNextOneKnows$Post;", false)
def tyX5 : Nat → FieldType := fun k => match k with
  | 0 => .array (.object "NextOneKnows$Doing")
  | 1 => .array .int
  | 2 => .int
  | 3 => .int
  | 4 => .int
  | 5 => .array .int
  | 6 => .int
  | 7 => .int
  | 8 => .int
  | 9 => .int
  | 10 => .array .int
  | 11 => .array .int
  | 12 => .int
  | _ => .object "NextOneKnows$Post"
theorem nmX5 : ∀ a, a < 14 → ∀ b, b < 14 → a ≠ b → (TX5 a).2.1 ≠ (TX5 b).2.1 := by decide +kernel
theorem tyX5_ok : ∀ k, k < 14 → parseFieldDescriptor (TX5 k).2.2.1 = some (tyX5 k) := by decide +kernel
abbrev cX5_init : ByteArray := prog_7_method_1_code
def yX5_init : MethodName := ⟨RX5, "<init>", "()V"⟩
abbrev cX5_takeFrom : ByteArray := prog_7_method_2_code
def yX5_takeFrom : MethodName := ⟨RX5, "takeFrom", "(LNextOneKnows$State;)V"⟩
abbrev cX5_find : ByteArray := prog_7_method_3_code
def yX5_find : MethodName := ⟨RX5, "find", "(I)LNextOneKnows$Doing;"⟩
abbrev cX5_add : ByteArray := prog_7_method_4_code
def yX5_add : MethodName := ⟨RX5, "add", "(LNextOneKnows$Doing;)I"⟩
abbrev cX5_addRow : ByteArray := prog_7_method_5_code
def yX5_addRow : MethodName := ⟨RX5, "addRow", "(II)I"⟩
abbrev cX5_weeksToRows : ByteArray := prog_7_method_6_code
def yX5_weeksToRows : MethodName := ⟨RX5, "weeksToRows", "()I"⟩
abbrev cX5_everyDoing : ByteArray := prog_7_method_7_code
def yX5_everyDoing : MethodName := ⟨RX5, "everyDoing", "()I"⟩
abbrev cX5_saidBy : ByteArray := prog_7_method_8_code
def yX5_saidBy : MethodName := ⟨RX5, "saidBy", "(LNextOneKnows$Doing;I)I"⟩
abbrev cX5_dearIn : ByteArray := prog_7_method_9_code
def yX5_dearIn : MethodName := ⟨RX5, "dearIn", "(LNextOneKnows$Doing;I)I"⟩
abbrev cX5_callsAtFirst : ByteArray := prog_7_method_10_code
def yX5_callsAtFirst : MethodName := ⟨RX5, "callsAtFirst", "()I"⟩
abbrev cX5_callsFading : ByteArray := prog_7_method_11_code
def yX5_callsFading : MethodName := ⟨RX5, "callsFading", "()I"⟩
abbrev cX5_coming : ByteArray := prog_7_method_12_code
def yX5_coming : MethodName := ⟨RX5, "coming", "(I)I"⟩
abbrev cX5_longestWait : ByteArray := prog_7_method_13_code
def yX5_longestWait : MethodName := ⟨RX5, "longestWait", "(II)I"⟩
def RX6 : String := "NextOneKnows$Tied"
def TX6 : u_T := fun k => match k with
  | 0 => ("NextOneKnows$Doing", "i", "I", true)
  | 1 => ("NextOneKnows$Doing", "v", "I", true)
  | 2 => ("NextOneKnows$Doing", "round", "I", true)
  | 3 => ("NextOneKnows$Doing", "place", "I", true)
  | 4 => ("NextOneKnows$Doing", "cost", "I", true)
  | _ => ("NextOneKnows$Doing", "need", "I", true)
def tyX6 : Nat → FieldType := fun k => match k with
  | 0 => .int
  | 1 => .int
  | 2 => .int
  | 3 => .int
  | 4 => .int
  | _ => .int
theorem nmX6 : ∀ a, a < 6 → ∀ b, b < 6 → a ≠ b → (TX6 a).2.1 ≠ (TX6 b).2.1 := by decide +kernel
theorem tyX6_ok : ∀ k, k < 6 → parseFieldDescriptor (TX6 k).2.2.1 = some (tyX6 k) := by decide +kernel
abbrev cX6_init : ByteArray := prog_8_method_1_code
def yX6_init : MethodName := ⟨RX6, "<init>", "(IIIIII)V"⟩
abbrev cX6_kind : ByteArray := prog_8_method_2_code
def yX6_kind : MethodName := ⟨RX6, "kind", "()I"⟩
abbrev cX6_saidOver : ByteArray := prog_8_method_3_code
def yX6_saidOver : MethodName := ⟨RX6, "saidOver", "([I[I)I"⟩
abbrev cX6_tells : ByteArray := prog_8_method_4_code
def yX6_tells : MethodName := ⟨RX6, "tells", "(ILNextOneKnows$Trace;)I"⟩
def RX7 : String := "NextOneKnows$Trace"
def TX7 : u_T := fun k => match k with
  | 0 => ("NextOneKnows$Trace", "bodies", "[I", true)
  | _ => ("NextOneKnows$Trace", "ran", "I", false)
def tyX7 : Nat → FieldType := fun k => match k with
  | 0 => .array .int
  | _ => .int
theorem nmX7 : ∀ a, a < 2 → ∀ b, b < 2 → a ≠ b → (TX7 a).2.1 ≠ (TX7 b).2.1 := by decide +kernel
theorem tyX7_ok : ∀ k, k < 2 → parseFieldDescriptor (TX7 k).2.2.1 = some (tyX7 k) := by decide +kernel
abbrev cX7_init : ByteArray := prog_9_method_1_code
def yX7_init : MethodName := ⟨RX7, "<init>", "()V"⟩
abbrev cX7_begins : ByteArray := prog_9_method_2_code
def yX7_begins : MethodName := ⟨RX7, "begins", "(I)V"⟩
def RX8 : String := "NextOneKnows$Why"
def TX8 : u_T := fun k => match k with
  | 0 => ("NextOneKnows$Doing", "i", "I", true)
  | 1 => ("NextOneKnows$Doing", "v", "I", true)
  | 2 => ("NextOneKnows$Doing", "round", "I", true)
  | 3 => ("NextOneKnows$Doing", "place", "I", true)
  | 4 => ("NextOneKnows$Doing", "cost", "I", true)
  | _ => ("NextOneKnows$Doing", "need", "I", true)
def tyX8 : Nat → FieldType := fun k => match k with
  | 0 => .int
  | 1 => .int
  | 2 => .int
  | 3 => .int
  | 4 => .int
  | _ => .int
theorem nmX8 : ∀ a, a < 6 → ∀ b, b < 6 → a ≠ b → (TX8 a).2.1 ≠ (TX8 b).2.1 := by decide +kernel
theorem tyX8_ok : ∀ k, k < 6 → parseFieldDescriptor (TX8 k).2.2.1 = some (tyX8 k) := by decide +kernel
abbrev cX8_init : ByteArray := prog_10_method_1_code
def yX8_init : MethodName := ⟨RX8, "<init>", "(IIIIII)V"⟩
abbrev cX8_kind : ByteArray := prog_10_method_2_code
def yX8_kind : MethodName := ⟨RX8, "kind", "()I"⟩
abbrev cX8_saidOver : ByteArray := prog_10_method_3_code
def yX8_saidOver : MethodName := ⟨RX8, "saidOver", "([I[I)I"⟩
abbrev cX8_says : ByteArray := prog_10_method_4_code
def yX8_says : MethodName := ⟨RX8, "says", "(ILNextOneKnows$Trace;)I"⟩
abbrev cX8_holds : ByteArray := prog_10_method_5_code
def yX8_holds : MethodName := ⟨RX8, "holds", "(ILNextOneKnows$Trace;)I"⟩
def RX9 : String := "NextOneKnows$Written"
def TX9 : u_T := fun k => match k with
  | 0 => ("NextOneKnows$Doing", "i", "I", true)
  | 1 => ("NextOneKnows$Doing", "v", "I", true)
  | 2 => ("NextOneKnows$Doing", "round", "I", true)
  | 3 => ("NextOneKnows$Doing", "place", "I", true)
  | 4 => ("NextOneKnows$Doing", "cost", "I", true)
  | _ => ("NextOneKnows$Doing", "need", "I", true)
def tyX9 : Nat → FieldType := fun k => match k with
  | 0 => .int
  | 1 => .int
  | 2 => .int
  | 3 => .int
  | 4 => .int
  | _ => .int
theorem nmX9 : ∀ a, a < 6 → ∀ b, b < 6 → a ≠ b → (TX9 a).2.1 ≠ (TX9 b).2.1 := by decide +kernel
theorem tyX9_ok : ∀ k, k < 6 → parseFieldDescriptor (TX9 k).2.2.1 = some (tyX9 k) := by decide +kernel
abbrev cX9_init : ByteArray := prog_11_method_1_code
def yX9_init : MethodName := ⟨RX9, "<init>", "(IIIIII)V"⟩
abbrev cX9_kind : ByteArray := prog_11_method_2_code
def yX9_kind : MethodName := ⟨RX9, "kind", "()I"⟩
abbrev cX9_saidOver : ByteArray := prog_11_method_3_code
def yX9_saidOver : MethodName := ⟨RX9, "saidOver", "([I[I)I"⟩
abbrev cX9_holds : ByteArray := prog_11_method_4_code
def yX9_holds : MethodName := ⟨RX9, "holds", "(ILNextOneKnows$Trace;)I"⟩
def RX10 : String := "NextOneKnows$Wrong"
def TX10 : u_T := fun k => match k with
  | 0 => ("NextOneKnows$Doing", "i", "I", true)
  | 1 => ("NextOneKnows$Doing", "v", "I", true)
  | 2 => ("NextOneKnows$Doing", "round", "I", true)
  | 3 => ("NextOneKnows$Doing", "place", "I", true)
  | 4 => ("NextOneKnows$Doing", "cost", "I", true)
  | _ => ("NextOneKnows$Doing", "need", "I", true)
def tyX10 : Nat → FieldType := fun k => match k with
  | 0 => .int
  | 1 => .int
  | 2 => .int
  | 3 => .int
  | 4 => .int
  | _ => .int
theorem nmX10 : ∀ a, a < 6 → ∀ b, b < 6 → a ≠ b → (TX10 a).2.1 ≠ (TX10 b).2.1 := by decide +kernel
theorem tyX10_ok : ∀ k, k < 6 → parseFieldDescriptor (TX10 k).2.2.1 = some (tyX10 k) := by decide +kernel
abbrev cX10_init : ByteArray := prog_12_method_1_code
def yX10_init : MethodName := ⟨RX10, "<init>", "(IIIIII)V"⟩
abbrev cX10_kind : ByteArray := prog_12_method_2_code
def yX10_kind : MethodName := ⟨RX10, "kind", "()I"⟩
abbrev cX10_saidOver : ByteArray := prog_12_method_3_code
def yX10_saidOver : MethodName := ⟨RX10, "saidOver", "([I[I)I"⟩
abbrev cX10_isKnownByCall : ByteArray := prog_12_method_4_code
def yX10_isKnownByCall : MethodName := ⟨RX10, "isKnownByCall", "()Z"⟩
abbrev cX10_holds : ByteArray := prog_12_method_5_code
def yX10_holds : MethodName := ⟨RX10, "holds", "(ILNextOneKnows$Trace;)I"⟩
abbrev cX10_says : ByteArray := prog_12_method_6_code
def yX10_says : MethodName := ⟨RX10, "says", "(ILNextOneKnows$Trace;)I"⟩
def RX11 : String := "NextOneKnows"
def TX11 : u_T := fun k => match k with
  | 0 => ("NextOneKnows", "now", "LNextOneKnows$State;", true)
  | 1 => ("NextOneKnows", "imaged", "LNextOneKnows$State;", true)
  | 2 => ("NextOneKnows", "hasImage", "Z", false)
  | 3 => ("NextOneKnows", "ahead", "LNextOneKnows$Ahead;", true)
  | 4 => ("NextOneKnows", "posts", "[LNextOneKnows$Post;", true)
  | 5 => ("NextOneKnows", "postCount", "I", false)
  | 6 => ("NextOneKnows", "text", "[B", true)
  | 7 => ("NextOneKnows", "signs", "I", false)
  | 8 => ("NextOneKnows", "trace", "LNextOneKnows$Trace;", true)
  | 9 => ("NextOneKnows", "sorts", "[I", true)
  | 10 => ("NextOneKnows", "sizes", "[I", true)
  | _ => ("NextOneKnows", "items", "[[J", true)
def tyX11 : Nat → FieldType := fun k => match k with
  | 0 => .object "NextOneKnows$State"
  | 1 => .object "NextOneKnows$State"
  | 2 => .boolean
  | 3 => .object "NextOneKnows$Ahead"
  | 4 => .array (.object "NextOneKnows$Post")
  | 5 => .int
  | 6 => .array .byte
  | 7 => .int
  | 8 => .object "NextOneKnows$Trace"
  | 9 => .array .int
  | 10 => .array .int
  | _ => .array (.array .long)
theorem nmX11 : ∀ a, a < 12 → ∀ b, b < 12 → a ≠ b → (TX11 a).2.1 ≠ (TX11 b).2.1 := by decide +kernel
theorem tyX11_ok : ∀ k, k < 12 → parseFieldDescriptor (TX11 k).2.2.1 = some (tyX11 k) := by decide +kernel
abbrev cX11_init : ByteArray := prog_1_method_1_code
def yX11_init : MethodName := ⟨RX11, "<init>", "()V"⟩
abbrev cX11_doing : ByteArray := prog_1_method_2_code
def yX11_doing : MethodName := ⟨RX11, "doing", "(IIIIII)I"⟩
abbrev cX11_of : ByteArray := prog_1_method_3_code
def yX11_of : MethodName := ⟨RX11, "of", "(II)I"⟩
abbrev cX11_needless : ByteArray := prog_1_method_4_code
def yX11_needless : MethodName := ⟨RX11, "needless", "(IZ)I"⟩
abbrev cX11_learn : ByteArray := prog_1_method_5_code
def yX11_learn : MethodName := ⟨RX11, "learn", "(IZ)I"⟩
abbrev cX11_odds : ByteArray := prog_1_method_6_code
def yX11_odds : MethodName := ⟨RX11, "odds", "(II)I"⟩
abbrev cX11_hours : ByteArray := prog_1_method_7_code
def yX11_hours : MethodName := ⟨RX11, "hours", "(II)I"⟩
abbrev cX11_feed : ByteArray := prog_1_method_8_code
def yX11_feed : MethodName := ⟨RX11, "feed", "(I)I"⟩
abbrev cX11_post : ByteArray := prog_1_method_9_code
def yX11_post : MethodName := ⟨RX11, "post", "()I"⟩
abbrev cX11_told : ByteArray := prog_1_method_10_code
def yX11_told : MethodName := ⟨RX11, "told", "(I)I"⟩
abbrev cX11_said : ByteArray := prog_1_method_11_code
def yX11_said : MethodName := ⟨RX11, "said", "(II)I"⟩
abbrev cX11_hand : ByteArray := prog_1_method_12_code
def yX11_hand : MethodName := ⟨RX11, "hand", "()I"⟩
abbrev cX11_go : ByteArray := prog_1_method_13_code
def yX11_go : MethodName := ⟨RX11, "go", "(I)I"⟩
abbrev cX11_run : ByteArray := prog_1_method_14_code
def yX11_run : MethodName := ⟨RX11, "run", "(II)I"⟩
abbrev cX11_split : ByteArray := prog_1_method_15_code
def yX11_split : MethodName := ⟨RX11, "split", "(III)I"⟩
abbrev cX11_more : ByteArray := prog_1_method_16_code
def yX11_more : MethodName := ⟨RX11, "more", "(II)I"⟩
abbrev cX11_ask : ByteArray := prog_1_method_17_code
def yX11_ask : MethodName := ⟨RX11, "ask", "(I)I"⟩
abbrev cX11_drop : ByteArray := prog_1_method_18_code
def yX11_drop : MethodName := ⟨RX11, "drop", "(I)I"⟩
abbrev cX11_when : ByteArray := prog_1_method_19_code
def yX11_when : MethodName := ⟨RX11, "when", "(I)I"⟩
abbrev cX11_busiest : ByteArray := prog_1_method_20_code
def yX11_busiest : MethodName := ⟨RX11, "busiest", "(II)I"⟩
abbrev cX11_all : ByteArray := prog_1_method_21_code
def yX11_all : MethodName := ⟨RX11, "all", "(I)I"⟩
abbrev cX11_list : ByteArray := prog_1_method_22_code
def yX11_list : MethodName := ⟨RX11, "list", "(II)I"⟩
abbrev cX11_looked : ByteArray := prog_1_method_23_code
def yX11_looked : MethodName := ⟨RX11, "looked", "()I"⟩
abbrev cX11_fits : ByteArray := prog_1_method_24_code
def yX11_fits : MethodName := ⟨RX11, "fits", "()I"⟩
abbrev cX11_chance : ByteArray := prog_1_method_25_code
def yX11_chance : MethodName := ⟨RX11, "chance", "(II)J"⟩
abbrev cX11_judge : ByteArray := prog_1_method_26_code
def yX11_judge : MethodName := ⟨RX11, "judge", "(II)I"⟩
abbrev cX11_image : ByteArray := prog_1_method_27_code
def yX11_image : MethodName := ⟨RX11, "image", "()I"⟩
abbrev cX11_undo : ByteArray := prog_1_method_28_code
def yX11_undo : MethodName := ⟨RX11, "undo", "()I"⟩
abbrev cX11_act : ByteArray := prog_1_method_29_code
def yX11_act : MethodName := ⟨RX11, "act", "(III)I"⟩
abbrev cX11_trace : ByteArray := prog_1_method_30_code
def yX11_trace : MethodName := ⟨RX11, "trace", "(I)I"⟩
abbrev cX11_taken : ByteArray := prog_1_method_31_code
def yX11_taken : MethodName := ⟨RX11, "taken", "(II)I"⟩
abbrev cX11_count : ByteArray := prog_1_method_32_code
def yX11_count : MethodName := ⟨RX11, "count", "(I)I"⟩
abbrev cX11_tape : ByteArray := prog_1_method_33_code
def yX11_tape : MethodName := ⟨RX11, "tape", "(III)I"⟩
abbrev cX11_item : ByteArray := prog_1_method_34_code
def yX11_item : MethodName := ⟨RX11, "item", "(IIJ)I"⟩
abbrev cX11_read : ByteArray := prog_1_method_35_code
def yX11_read : MethodName := ⟨RX11, "read", "(II)J"⟩
abbrev cX11_shift : ByteArray := prog_1_method_36_code
def yX11_shift : MethodName := ⟨RX11, "shift", "(IIIII)I"⟩
abbrev cX11_isNot : ByteArray := prog_1_method_37_code
def yX11_isNot : MethodName := ⟨RX11, "isNot", "(III)Z"⟩
abbrev cX11_bit : ByteArray := prog_1_method_38_code
def yX11_bit : MethodName := ⟨RX11, "bit", "(II)I"⟩
abbrev cX11_withBit : ByteArray := prog_1_method_39_code
def yX11_withBit : MethodName := ⟨RX11, "withBit", "(IIZ)I"⟩
abbrev cX11_commonDivisor : ByteArray := prog_1_method_40_code
def yX11_commonDivisor : MethodName := ⟨RX11, "commonDivisor", "(JJ)J"⟩
abbrev cX11_cut : ByteArray := prog_1_method_41_code
def yX11_cut : MethodName := ⟨RX11, "cut", "(JI)J"⟩
abbrev cX11_made : ByteArray := prog_1_method_42_code
def yX11_made : MethodName := ⟨RX11, "made", "(IIIIIII)LNextOneKnows$Doing;"⟩
abbrev cX11_isOfKind : ByteArray := prog_1_method_43_code
def yX11_isOfKind : MethodName := ⟨RX11, "isOfKind", "(LNextOneKnows$Doing;I)Z"⟩
def RX12 : String := "NextOneKnowsModel"
def TX12 : u_T := fun k => match k with
  | 0 => ("NextOneKnowsModel", "doings", "I", false)
  | 1 => ("NextOneKnowsModel", "week", "I", false)
  | 2 => ("NextOneKnowsModel", "costs", "I", false)
  | 3 => ("NextOneKnowsModel", "stops", "I", false)
  | 4 => ("NextOneKnowsModel", "calls", "I", false)
  | 5 => ("NextOneKnowsModel", "knows", "I", false)
  | 6 => ("NextOneKnowsModel", "idle", "I", false)
  | 7 => ("NextOneKnowsModel", "kind", "[I", true)
  | 8 => ("NextOneKnowsModel", "v", "[I", true)
  | 9 => ("NextOneKnowsModel", "round", "[I", true)
  | 10 => ("NextOneKnowsModel", "place", "[I", true)
  | 11 => ("NextOneKnowsModel", "cost", "[I", true)
  | 12 => ("NextOneKnowsModel", "need", "[I", true)
  | 13 => ("NextOneKnowsModel", "odd", "[I", true)
  | 14 => ("NextOneKnowsModel", "hour", "[I", true)
  | 15 => ("NextOneKnowsModel", "posts", "I", false)
  | 16 => ("NextOneKnowsModel", "the", "I", false)
  | 17 => ("NextOneKnowsModel", "fed", "I", false)
  | 18 => ("NextOneKnowsModel", "at", "I", false)
  | 19 => ("NextOneKnowsModel", "digits", "I", false)
  | 20 => ("NextOneKnowsModel", "text", "[I", true)
  | 21 => ("NextOneKnowsModel", "clauses", "[I", true)
  | 22 => ("NextOneKnowsModel", "word", "[I", true)
  | 23 => ("NextOneKnowsModel", "number", "[I", true)
  | 24 => ("NextOneKnowsModel", "from", "[I", true)
  | 25 => ("NextOneKnowsModel", "to", "[I", true)
  | 26 => ("NextOneKnowsModel", "sign", "[I", true)
  | 27 => ("NextOneKnowsModel", "waits", "[I", true)
  | 28 => ("NextOneKnowsModel", "signs", "I", false)
  | 29 => ("NextOneKnowsModel", "waiting", "I", false)
  | 30 => ("NextOneKnowsModel", "open", "I", false)
  | 31 => ("NextOneKnowsModel", "letters", "[I", true)
  | 32 => ("NextOneKnowsModel", "pile", "[Z", true)
  | 33 => ("NextOneKnowsModel", "sayOf", "[I", true)
  | 34 => ("NextOneKnowsModel", "thenKnows", "I", false)
  | 35 => ("NextOneKnowsModel", "thenIdle", "I", false)
  | 36 => ("NextOneKnowsModel", "thenCosts", "I", false)
  | 37 => ("NextOneKnowsModel", "thenStops", "I", false)
  | 38 => ("NextOneKnowsModel", "thenCalls", "I", false)
  | 39 => ("NextOneKnowsModel", "firstWeek", "I", false)
  | 40 => ("NextOneKnowsModel", "firstDoing", "I", false)
  | 41 => ("NextOneKnowsModel", "stopped", "[Z", true)
  | 42 => ("NextOneKnowsModel", "hourWas", "[I", true)
  | 43 => ("NextOneKnowsModel", "bestHour", "[I", true)
  | 44 => ("NextOneKnowsModel", "rows", "I", false)
  | 45 => ("NextOneKnowsModel", "rowWeek", "[I", true)
  | 46 => ("NextOneKnowsModel", "rowDoing", "[I", true)
  | 47 => ("NextOneKnowsModel", "hasImage", "Z", false)
  | 48 => ("NextOneKnowsModel", "imageThe", "I", false)
  | 49 => ("NextOneKnowsModel", "imageDoings", "I", false)
  | 50 => ("NextOneKnowsModel", "imageWeek", "I", false)
  | 51 => ("NextOneKnowsModel", "imageCosts", "I", false)
  | 52 => ("NextOneKnowsModel", "imageStops", "I", false)
  | 53 => ("NextOneKnowsModel", "imageCalls", "I", false)
  | 54 => ("NextOneKnowsModel", "imageKnows", "I", false)
  | 55 => ("NextOneKnowsModel", "imageIdle", "I", false)
  | 56 => ("NextOneKnowsModel", "imageRows", "I", false)
  | 57 => ("NextOneKnowsModel", "imageKind", "[I", true)
  | 58 => ("NextOneKnowsModel", "imageV", "[I", true)
  | 59 => ("NextOneKnowsModel", "imageRound", "[I", true)
  | 60 => ("NextOneKnowsModel", "imagePlace", "[I", true)
  | 61 => ("NextOneKnowsModel", "imageCost", "[I", true)
  | 62 => ("NextOneKnowsModel", "imageNeed", "[I", true)
  | 63 => ("NextOneKnowsModel", "imageOdd", "[I", true)
  | 64 => ("NextOneKnowsModel", "imageHour", "[I", true)
  | 65 => ("NextOneKnowsModel", "imageRowWeek", "[I", true)
  | 66 => ("NextOneKnowsModel", "imageRowDoing", "[I", true)
  | 67 => ("NextOneKnowsModel", "ran", "I", false)
  | 68 => ("NextOneKnowsModel", "bodies", "[I", true)
  | 69 => ("NextOneKnowsModel", "sort", "[I", true)
  | 70 => ("NextOneKnowsModel", "length", "[I", true)
  | 71 => ("NextOneKnowsModel", "item", "[J", true)
  | _ => ("NextOneKnowsModel", "aside", "[J", true)
def tyX12 : Nat → FieldType := fun k => match k with
  | 0 => .int
  | 1 => .int
  | 2 => .int
  | 3 => .int
  | 4 => .int
  | 5 => .int
  | 6 => .int
  | 7 => .array .int
  | 8 => .array .int
  | 9 => .array .int
  | 10 => .array .int
  | 11 => .array .int
  | 12 => .array .int
  | 13 => .array .int
  | 14 => .array .int
  | 15 => .int
  | 16 => .int
  | 17 => .int
  | 18 => .int
  | 19 => .int
  | 20 => .array .int
  | 21 => .array .int
  | 22 => .array .int
  | 23 => .array .int
  | 24 => .array .int
  | 25 => .array .int
  | 26 => .array .int
  | 27 => .array .int
  | 28 => .int
  | 29 => .int
  | 30 => .int
  | 31 => .array .int
  | 32 => .array .boolean
  | 33 => .array .int
  | 34 => .int
  | 35 => .int
  | 36 => .int
  | 37 => .int
  | 38 => .int
  | 39 => .int
  | 40 => .int
  | 41 => .array .boolean
  | 42 => .array .int
  | 43 => .array .int
  | 44 => .int
  | 45 => .array .int
  | 46 => .array .int
  | 47 => .boolean
  | 48 => .int
  | 49 => .int
  | 50 => .int
  | 51 => .int
  | 52 => .int
  | 53 => .int
  | 54 => .int
  | 55 => .int
  | 56 => .int
  | 57 => .array .int
  | 58 => .array .int
  | 59 => .array .int
  | 60 => .array .int
  | 61 => .array .int
  | 62 => .array .int
  | 63 => .array .int
  | 64 => .array .int
  | 65 => .array .int
  | 66 => .array .int
  | 67 => .int
  | 68 => .array .int
  | 69 => .array .int
  | 70 => .array .int
  | 71 => .array .long
  | _ => .array .long
theorem nmX12 : ∀ a, a < 73 → ∀ b, b < 73 → a ≠ b → (TX12 a).2.1 ≠ (TX12 b).2.1 := by decide +kernel
theorem tyX12_ok : ∀ k, k < 73 → parseFieldDescriptor (TX12 k).2.2.1 = some (tyX12 k) := by decide +kernel
abbrev cX12_init : ByteArray := prog_14_method_1_code
def yX12_init : MethodName := ⟨RX12, "<init>", "()V"⟩
abbrev cX12_in : ByteArray := prog_14_method_2_code
def yX12_in : MethodName := ⟨RX12, "in", "(III)Z"⟩
abbrev cX12_has : ByteArray := prog_14_method_3_code
def yX12_has : MethodName := ⟨RX12, "has", "(II)Z"⟩
abbrev cX12_isDoing : ByteArray := prog_14_method_4_code
def yX12_isDoing : MethodName := ⟨RX12, "isDoing", "(I)Z"⟩
abbrev cX12_isWay : ByteArray := prog_14_method_5_code
def yX12_isWay : MethodName := ⟨RX12, "isWay", "(I)Z"⟩
abbrev cX12_with : ByteArray := prog_14_method_6_code
def yX12_with : MethodName := ⟨RX12, "with", "(IIZ)I"⟩
abbrev cX12_doing : ByteArray := prog_14_method_7_code
def yX12_doing : MethodName := ⟨RX12, "doing", "(IIIIII)I"⟩
abbrev cX12_needless : ByteArray := prog_14_method_8_code
def yX12_needless : MethodName := ⟨RX12, "needless", "(IZ)I"⟩
abbrev cX12_learn : ByteArray := prog_14_method_9_code
def yX12_learn : MethodName := ⟨RX12, "learn", "(IZ)I"⟩
abbrev cX12_odds : ByteArray := prog_14_method_10_code
def yX12_odds : MethodName := ⟨RX12, "odds", "(II)I"⟩
abbrev cX12_hours : ByteArray := prog_14_method_11_code
def yX12_hours : MethodName := ⟨RX12, "hours", "(II)I"⟩
abbrev cX12_feed : ByteArray := prog_14_method_12_code
def yX12_feed : MethodName := ⟨RX12, "feed", "(I)I"⟩
abbrev cX12_next : ByteArray := prog_14_method_13_code
def yX12_next : MethodName := ⟨RX12, "next", "()I"⟩
abbrev cX12_second : ByteArray := prog_14_method_14_code
def yX12_second : MethodName := ⟨RX12, "second", "()I"⟩
abbrev cX12_takes : ByteArray := prog_14_method_15_code
def yX12_takes : MethodName := ⟨RX12, "takes", "(I)Z"⟩
abbrev cX12_takesWord : ByteArray := prog_14_method_16_code
def yX12_takesWord : MethodName := ⟨RX12, "takesWord", "(II)Z"⟩
abbrev cX12_isDigit : ByteArray := prog_14_method_17_code
def yX12_isDigit : MethodName := ⟨RX12, "isDigit", "()Z"⟩
abbrev cX12_takesNumber : ByteArray := prog_14_method_18_code
def yX12_takesNumber : MethodName := ⟨RX12, "takesNumber", "()Z"⟩
abbrev cX12_put : ByteArray := prog_14_method_19_code
def yX12_put : MethodName := ⟨RX12, "put", "(I)V"⟩
abbrev cX12_whole : ByteArray := prog_14_method_20_code
def yX12_whole : MethodName := ⟨RX12, "whole", "()V"⟩
abbrev cX12_settle : ByteArray := prog_14_method_21_code
def yX12_settle : MethodName := ⟨RX12, "settle", "(I)V"⟩
abbrev cX12_place : ByteArray := prog_14_method_22_code
def yX12_place : MethodName := ⟨RX12, "place", "(I)I"⟩
abbrev cX12_takesTest : ByteArray := prog_14_method_23_code
def yX12_takesTest : MethodName := ⟨RX12, "takesTest", "()Z"⟩
abbrev cX12_takesE : ByteArray := prog_14_method_24_code
def yX12_takesE : MethodName := ⟨RX12, "takesE", "(I)Z"⟩
abbrev cX12_takesHead : ByteArray := prog_14_method_25_code
def yX12_takesHead : MethodName := ⟨RX12, "takesHead", "(I)Z"⟩
abbrev cX12_takesClause : ByteArray := prog_14_method_26_code
def yX12_takesClause : MethodName := ⟨RX12, "takesClause", "(I)Z"⟩
abbrev cX12_goesText : ByteArray := prog_14_method_27_code
def yX12_goesText : MethodName := ⟨RX12, "goesText", "(I)Z"⟩
abbrev cX12_post : ByteArray := prog_14_method_28_code
def yX12_post : MethodName := ⟨RX12, "post", "()I"⟩
abbrev cX12_begin : ByteArray := prog_14_method_29_code
def yX12_begin : MethodName := ⟨RX12, "begin", "()I"⟩
abbrev cX12_behind : ByteArray := prog_14_method_30_code
def yX12_behind : MethodName := ⟨RX12, "behind", "()I"⟩
abbrev cX12_lastOf : ByteArray := prog_14_method_31_code
def yX12_lastOf : MethodName := ⟨RX12, "lastOf", "(II)I"⟩
abbrev cX12_factOf : ByteArray := prog_14_method_32_code
def yX12_factOf : MethodName := ⟨RX12, "factOf", "(IIII)I"⟩
abbrev cX12_holds : ByteArray := prog_14_method_33_code
def yX12_holds : MethodName := ⟨RX12, "holds", "(IIII)Z"⟩
abbrev cX12_sumOf : ByteArray := prog_14_method_34_code
def yX12_sumOf : MethodName := ⟨RX12, "sumOf", "(IIII)I"⟩
abbrev cX12_dear : ByteArray := prog_14_method_35_code
def yX12_dear : MethodName := ⟨RX12, "dear", "(II)I"⟩
abbrev cX12_laySaid : ByteArray := prog_14_method_36_code
def yX12_laySaid : MethodName := ⟨RX12, "laySaid", "()V"⟩
abbrev cX12_saidAll : ByteArray := prog_14_method_37_code
def yX12_saidAll : MethodName := ⟨RX12, "saidAll", "(II)I"⟩
abbrev cX12_saidOf : ByteArray := prog_14_method_38_code
def yX12_saidOf : MethodName := ⟨RX12, "saidOf", "(I)I"⟩
abbrev cX12_over : ByteArray := prog_14_method_39_code
def yX12_over : MethodName := ⟨RX12, "over", "()I"⟩
abbrev cX12_of : ByteArray := prog_14_method_40_code
def yX12_of : MethodName := ⟨RX12, "of", "(II)I"⟩
abbrev cX12_told : ByteArray := prog_14_method_41_code
def yX12_told : MethodName := ⟨RX12, "told", "(I)I"⟩
abbrev cX12_said : ByteArray := prog_14_method_42_code
def yX12_said : MethodName := ⟨RX12, "said", "(II)I"⟩
abbrev cX12_ones : ByteArray := prog_14_method_43_code
def yX12_ones : MethodName := ⟨RX12, "ones", "(I)I"⟩
abbrev cX12_hand : ByteArray := prog_14_method_44_code
def yX12_hand : MethodName := ⟨RX12, "hand", "()I"⟩
abbrev cX12_comes : ByteArray := prog_14_method_45_code
def yX12_comes : MethodName := ⟨RX12, "comes", "(II)Z"⟩
abbrev cX12_learnsBy : ByteArray := prog_14_method_46_code
def yX12_learnsBy : MethodName := ⟨RX12, "learnsBy", "(I)Z"⟩
abbrev cX12_begins : ByteArray := prog_14_method_47_code
def yX12_begins : MethodName := ⟨RX12, "begins", "(II)V"⟩
abbrev cX12_goWeek : ByteArray := prog_14_method_48_code
def yX12_goWeek : MethodName := ⟨RX12, "goWeek", "(II)V"⟩
abbrev cX12_goWeeks : ByteArray := prog_14_method_49_code
def yX12_goWeeks : MethodName := ⟨RX12, "goWeeks", "(I)V"⟩
abbrev cX12_costBy : ByteArray := prog_14_method_50_code
def yX12_costBy : MethodName := ⟨RX12, "costBy", "(III)I"⟩
abbrev cX12_go : ByteArray := prog_14_method_51_code
def yX12_go : MethodName := ⟨RX12, "go", "(I)I"⟩
abbrev cX12_run : ByteArray := prog_14_method_52_code
def yX12_run : MethodName := ⟨RX12, "run", "(II)I"⟩
abbrev cX12_keepHours : ByteArray := prog_14_method_53_code
def yX12_keepHours : MethodName := ⟨RX12, "keepHours", "()V"⟩
abbrev cX12_putHours : ByteArray := prog_14_method_54_code
def yX12_putHours : MethodName := ⟨RX12, "putHours", "()V"⟩
abbrev cX12_costHanded : ByteArray := prog_14_method_55_code
def yX12_costHanded : MethodName := ⟨RX12, "costHanded", "(I)I"⟩
abbrev cX12_split : ByteArray := prog_14_method_56_code
def yX12_split : MethodName := ⟨RX12, "split", "(III)I"⟩
abbrev cX12_more : ByteArray := prog_14_method_57_code
def yX12_more : MethodName := ⟨RX12, "more", "(II)I"⟩
abbrev cX12_ask : ByteArray := prog_14_method_58_code
def yX12_ask : MethodName := ⟨RX12, "ask", "(I)I"⟩
abbrev cX12_drop : ByteArray := prog_14_method_59_code
def yX12_drop : MethodName := ⟨RX12, "drop", "(I)I"⟩
abbrev cX12_when : ByteArray := prog_14_method_60_code
def yX12_when : MethodName := ⟨RX12, "when", "(I)I"⟩
abbrev cX12_manyIn : ByteArray := prog_14_method_61_code
def yX12_manyIn : MethodName := ⟨RX12, "manyIn", "(I)I"⟩
abbrev cX12_busiest : ByteArray := prog_14_method_62_code
def yX12_busiest : MethodName := ⟨RX12, "busiest", "(II)I"⟩
abbrev cX12_allCome : ByteArray := prog_14_method_63_code
def yX12_allCome : MethodName := ⟨RX12, "allCome", "(II)Z"⟩
abbrev cX12_all : ByteArray := prog_14_method_64_code
def yX12_all : MethodName := ⟨RX12, "all", "(I)I"⟩
abbrev cX12_list : ByteArray := prog_14_method_65_code
def yX12_list : MethodName := ⟨RX12, "list", "(II)I"⟩
abbrev cX12_firstOff : ByteArray := prog_14_method_66_code
def yX12_firstOff : MethodName := ⟨RX12, "firstOff", "(I)I"⟩
abbrev cX12_looked : ByteArray := prog_14_method_67_code
def yX12_looked : MethodName := ⟨RX12, "looked", "()I"⟩
abbrev cX12_fits : ByteArray := prog_14_method_68_code
def yX12_fits : MethodName := ⟨RX12, "fits", "()I"⟩
abbrev cX12_divisor : ByteArray := prog_14_method_69_code
def yX12_divisor : MethodName := ⟨RX12, "divisor", "(JJ)J"⟩
abbrev cX12_comesIn : ByteArray := prog_14_method_70_code
def yX12_comesIn : MethodName := ⟨RX12, "comesIn", "(II)Z"⟩
abbrev cX12_chance : ByteArray := prog_14_method_71_code
def yX12_chance : MethodName := ⟨RX12, "chance", "(II)J"⟩
abbrev cX12_judge : ByteArray := prog_14_method_72_code
def yX12_judge : MethodName := ⟨RX12, "judge", "(II)I"⟩
abbrev cX12_image : ByteArray := prog_14_method_73_code
def yX12_image : MethodName := ⟨RX12, "image", "()I"⟩
abbrev cX12_undo : ByteArray := prog_14_method_74_code
def yX12_undo : MethodName := ⟨RX12, "undo", "()I"⟩
abbrev cX12_body : ByteArray := prog_14_method_75_code
def yX12_body : MethodName := ⟨RX12, "body", "(I)V"⟩
abbrev cX12_knowingSays : ByteArray := prog_14_method_76_code
def yX12_knowingSays : MethodName := ⟨RX12, "knowingSays", "(II)I"⟩
abbrev cX12_saysAct : ByteArray := prog_14_method_77_code
def yX12_saysAct : MethodName := ⟨RX12, "saysAct", "(II)I"⟩
abbrev cX12_knowingHolds : ByteArray := prog_14_method_78_code
def yX12_knowingHolds : MethodName := ⟨RX12, "knowingHolds", "(II)I"⟩
abbrev cX12_writtenHolds : ByteArray := prog_14_method_79_code
def yX12_writtenHolds : MethodName := ⟨RX12, "writtenHolds", "(II)I"⟩
abbrev cX12_holdsAct : ByteArray := prog_14_method_80_code
def yX12_holdsAct : MethodName := ⟨RX12, "holdsAct", "(II)I"⟩
abbrev cX12_knowingTells : ByteArray := prog_14_method_81_code
def yX12_knowingTells : MethodName := ⟨RX12, "knowingTells", "(II)I"⟩
abbrev cX12_tellsAct : ByteArray := prog_14_method_82_code
def yX12_tellsAct : MethodName := ⟨RX12, "tellsAct", "(II)I"⟩
abbrev cX12_act : ByteArray := prog_14_method_83_code
def yX12_act : MethodName := ⟨RX12, "act", "(III)I"⟩
abbrev cX12_trace : ByteArray := prog_14_method_84_code
def yX12_trace : MethodName := ⟨RX12, "trace", "(I)I"⟩
abbrev cX12_taken : ByteArray := prog_14_method_85_code
def yX12_taken : MethodName := ⟨RX12, "taken", "(II)I"⟩
abbrev cX12_count : ByteArray := prog_14_method_86_code
def yX12_count : MethodName := ⟨RX12, "count", "(I)I"⟩
abbrev cX12_isTape : ByteArray := prog_14_method_87_code
def yX12_isTape : MethodName := ⟨RX12, "isTape", "(I)Z"⟩
abbrev cX12_tape : ByteArray := prog_14_method_88_code
def yX12_tape : MethodName := ⟨RX12, "tape", "(III)I"⟩
abbrev cX12_narrow : ByteArray := prog_14_method_89_code
def yX12_narrow : MethodName := ⟨RX12, "narrow", "(IJ)J"⟩
abbrev cX12_item : ByteArray := prog_14_method_90_code
def yX12_item : MethodName := ⟨RX12, "item", "(IIJ)I"⟩
abbrev cX12_read : ByteArray := prog_14_method_91_code
def yX12_read : MethodName := ⟨RX12, "read", "(II)J"⟩
abbrev cX12_shift : ByteArray := prog_14_method_92_code
def yX12_shift : MethodName := ⟨RX12, "shift", "(IIIII)I"⟩
def RJ6 : String := "java/lang/Integer"
abbrev cJ6_bitCount_0f7a4 : ByteArray := prog_15_method_49_code
def yJ6_bitCount_0f7a4 : MethodName := ⟨RJ6, "bitCount", "(I)I"⟩
def RJ9 : String := "java/lang/Math"
abbrev cJ9_floorMod_7cf53 : ByteArray := prog_16_method_50_code
def yJ9_floorMod_7cf53 : MethodName := ⟨RJ9, "floorMod", "(II)I"⟩
abbrev cJ9_max_7cf53 : ByteArray := prog_16_method_65_code
def yJ9_max_7cf53 : MethodName := ⟨RJ9, "max", "(II)I"⟩
abbrev cJ9_max_f86c9 : ByteArray := prog_16_method_66_code
def yJ9_max_f86c9 : MethodName := ⟨RJ9, "max", "(JJ)J"⟩
abbrev cJ9_min_7cf53 : ByteArray := prog_16_method_69_code
def yJ9_min_7cf53 : MethodName := ⟨RJ9, "min", "(II)I"⟩
def RJ10 : String := "java/lang/System"
def RJ7 : String := "java/util/Arrays"
abbrev cJ7_fill_d0a16 : ByteArray := prog_18_method_101_code
def yJ7_fill_d0a16 : MethodName := ⟨RJ7, "fill", "([JJ)V"⟩
abbrev cJ7_fill_53178 : ByteArray := prog_18_method_103_code
def yJ7_fill_53178 : MethodName := ⟨RJ7, "fill", "([II)V"⟩
def RL : String := "NextOneKnowsLaw"
abbrev cL_law : ByteArray := code
abbrev vwCl : List vw_C := [(RX0, TX0, 16), (RX1, TX1, 6), (RX2, TX2, 6), (RX3, TX3, 12), (RX4, TX4, 6), (RX5, TX5, 14), (RX6, TX6, 6), (RX7, TX7, 2), (RX8, TX8, 6), (RX9, TX9, 6), (RX10, TX10, 6), (RX11, TX11, 12), (RX12, TX12, 73)]
abbrev Mt : Type := MethodName × ByteArray × Nat × Option FieldType
def mX11_init : Mt := (yX11_init, cX11_init, 2, none)
def mX5_init : Mt := (yX5_init, cX5_init, 1, none)
def mX0_init : Mt := (yX0_init, cX0_init, 2, none)
def mX7_init : Mt := (yX7_init, cX7_init, 1, none)
def mJ7_fill_53178 : Mt := (yJ7_fill_53178, cJ7_fill_53178, 4, none)
def mX3_init : Mt := (yX3_init, cX3_init, 2, none)
def mX11_doing : Mt := (yX11_doing, cX11_doing, 7, some FieldType.int)
def mX11_isNot : Mt := (yX11_isNot, cX11_isNot, 3, some FieldType.boolean)
def mX11_made : Mt := (yX11_made, cX11_made, 7, some (FieldType.object "NextOneKnows$Doing"))
def mX9_init : Mt := (yX9_init, cX9_init, 7, none)
def mX1_init : Mt := (yX1_init, cX1_init, 7, none)
def mJ9_max_7cf53 : Mt := (yJ9_max_7cf53, cJ9_max_7cf53, 2, some FieldType.int)
def mX2_init : Mt := (yX2_init, cX2_init, 7, none)
def mX4_init : Mt := (yX4_init, cX4_init, 7, none)
def mX8_init : Mt := (yX8_init, cX8_init, 7, none)
def mX6_init : Mt := (yX6_init, cX6_init, 7, none)
def mX10_init : Mt := (yX10_init, cX10_init, 7, none)
def mX5_add : Mt := (yX5_add, cX5_add, 2, some FieldType.int)
def mX11_of : Mt := (yX11_of, cX11_of, 4, some FieldType.int)
def mX5_find : Mt := (yX5_find, cX5_find, 2, some (FieldType.object "NextOneKnows$Doing"))
def mX2_kind : Mt := (yX2_kind, cX2_kind, 1, some FieldType.int)
def mX4_kind : Mt := (yX4_kind, cX4_kind, 1, some FieldType.int)
def mX6_kind : Mt := (yX6_kind, cX6_kind, 1, some FieldType.int)
def mX8_kind : Mt := (yX8_kind, cX8_kind, 1, some FieldType.int)
def mX9_kind : Mt := (yX9_kind, cX9_kind, 1, some FieldType.int)
def mX10_kind : Mt := (yX10_kind, cX10_kind, 1, some FieldType.int)
def mX1_kind : Mt := (yX1_kind, cX1_kind, 1, some FieldType.int)
def mX11_bit : Mt := (yX11_bit, cX11_bit, 2, some FieldType.int)
def mX0_saidOf : Mt := (yX0_saidOf, cX0_saidOf, 2, some FieldType.int)
def mX0_hearOf : Mt := (yX0_hearOf, cX0_hearOf, 3, none)
def mX5_saidBy : Mt := (yX5_saidBy, cX5_saidBy, 3, some FieldType.int)
def mX3_together : Mt := (yX3_together, cX3_together, 7, some FieldType.int)
def mX3_holds : Mt := (yX3_holds, cX3_holds, 8, some FieldType.boolean)
def mX3_passes : Mt := (yX3_passes, cX3_passes, 6, some FieldType.boolean)
def mX2_saidOver : Mt := (yX2_saidOver, cX2_saidOver, 3, some FieldType.int)
def mX4_saidOver : Mt := (yX4_saidOver, cX4_saidOver, 3, some FieldType.int)
def mX6_saidOver : Mt := (yX6_saidOver, cX6_saidOver, 3, some FieldType.int)
def mX8_saidOver : Mt := (yX8_saidOver, cX8_saidOver, 3, some FieldType.int)
def mX9_saidOver : Mt := (yX9_saidOver, cX9_saidOver, 3, some FieldType.int)
def mX10_saidOver : Mt := (yX10_saidOver, cX10_saidOver, 3, some FieldType.int)
def mX1_saidOver : Mt := (yX1_saidOver, cX1_saidOver, 5, some FieldType.int)
def mX5_dearIn : Mt := (yX5_dearIn, cX5_dearIn, 3, some FieldType.int)
def mX11_needless : Mt := (yX11_needless, cX11_needless, 4, some FieldType.int)
def mX11_withBit : Mt := (yX11_withBit, cX11_withBit, 3, some FieldType.int)
def mX11_learn : Mt := (yX11_learn, cX11_learn, 4, some FieldType.int)
def mX11_odds : Mt := (yX11_odds, cX11_odds, 5, some FieldType.int)
def mX11_hours : Mt := (yX11_hours, cX11_hours, 4, some FieldType.int)
def mX11_feed : Mt := (yX11_feed, cX11_feed, 2, some FieldType.int)
def mX11_post : Mt := (yX11_post, cX11_post, 3, some FieldType.int)
def mX3_readFrom : Mt := (yX3_readFrom, cX3_readFrom, 3, some FieldType.int)
def mJ9_min_7cf53 : Mt := (yJ9_min_7cf53, cJ9_min_7cf53, 2, some FieldType.int)
def mX3_takes : Mt := (yX3_takes, cX3_takes, 3, some FieldType.boolean)
def mX3_here : Mt := (yX3_here, cX3_here, 1, some FieldType.int)
def mX3_readClause : Mt := (yX3_readClause, cX3_readClause, 3, none)
def mX3_readWord : Mt := (yX3_readWord, cX3_readWord, 1, some FieldType.int)
def mX3_needs : Mt := (yX3_needs, cX3_needs, 2, none)
def mX3_takeIf : Mt := (yX3_takeIf, cX3_takeIf, 2, none)
def mX3_readNumber : Mt := (yX3_readNumber, cX3_readNumber, 3, some FieldType.int)
def mX3_readEither : Mt := (yX3_readEither, cX3_readEither, 4, none)
def mX3_readPart : Mt := (yX3_readPart, cX3_readPart, 2, none)
def mX3_keep : Mt := (yX3_keep, cX3_keep, 2, none)
def mX3_readTest : Mt := (yX3_readTest, cX3_readTest, 4, none)
def mX11_told : Mt := (yX11_told, cX11_told, 2, some FieldType.int)
def mX5_callsAtFirst : Mt := (yX5_callsAtFirst, cX5_callsAtFirst, 1, some FieldType.int)
def mX5_callsFading : Mt := (yX5_callsFading, cX5_callsFading, 1, some FieldType.int)
def mX11_said : Mt := (yX11_said, cX11_said, 4, some FieldType.int)
def mX11_hand : Mt := (yX11_hand, cX11_hand, 2, some FieldType.int)
def mX0_hear : Mt := (yX0_hear, cX0_hear, 3, none)
def mX0_goingOver : Mt := (yX0_goingOver, cX0_goingOver, 5, some FieldType.int)
def mJ6_bitCount_0f7a4 : Mt := (yJ6_bitCount_0f7a4, cJ6_bitCount_0f7a4, 1, some FieldType.int)
def mX11_go : Mt := (yX11_go, cX11_go, 2, some FieldType.int)
def mX0_look : Mt := (yX0_look, cX0_look, 3, none)
def mX5_coming : Mt := (yX5_coming, cX5_coming, 5, some FieldType.int)
def mX1_weeksUntil : Mt := (yX1_weeksUntil, cX1_weeksUntil, 2, some FieldType.int)
def mJ9_floorMod_7cf53 : Mt := (yJ9_floorMod_7cf53, cJ9_floorMod_7cf53, 3, some FieldType.int)
def mX0_lookDear : Mt := (yX0_lookDear, cX0_lookDear, 6, none)
def mX0_dearCell : Mt := (yX0_dearCell, cX0_dearCell, 2, some FieldType.int)
def mX0_pass : Mt := (yX0_pass, cX0_pass, 4, some FieldType.int)
def mX0_stopAll : Mt := (yX0_stopAll, cX0_stopAll, 5, none)
def mX0_stop : Mt := (yX0_stop, cX0_stop, 4, none)
def mX10_isKnownByCall : Mt := (yX10_isKnownByCall, cX10_isKnownByCall, 1, some FieldType.boolean)
def mX1_isKnownByCall : Mt := (yX1_isKnownByCall, cX1_isKnownByCall, 1, some FieldType.boolean)
def mX2_isKnownByStop : Mt := (yX2_isKnownByStop, cX2_isKnownByStop, 1, some FieldType.boolean)
def mX4_isKnownByStop : Mt := (yX4_isKnownByStop, cX4_isKnownByStop, 1, some FieldType.boolean)
def mX1_isKnownByStop : Mt := (yX1_isKnownByStop, cX1_isKnownByStop, 1, some FieldType.boolean)
def mX11_run : Mt := (yX11_run, cX11_run, 4, some FieldType.int)
def mX11_split : Mt := (yX11_split, cX11_split, 5, some FieldType.int)
def mX0_bestSplit : Mt := (yX0_bestSplit, cX0_bestSplit, 7, some FieldType.int)
def mX0_share : Mt := (yX0_share, cX0_share, 5, none)
def mX0_costHanded : Mt := (yX0_costHanded, cX0_costHanded, 2, some FieldType.int)
def mX11_more : Mt := (yX11_more, cX11_more, 3, some FieldType.int)
def mX0_hourMore : Mt := (yX0_hourMore, cX0_hourMore, 3, some (FieldType.array FieldType.int))
def mX11_ask : Mt := (yX11_ask, cX11_ask, 2, some FieldType.int)
def mX0_bestOf : Mt := (yX0_bestOf, cX0_bestOf, 8, some FieldType.int)
def mX11_drop : Mt := (yX11_drop, cX11_drop, 2, some FieldType.int)
def mX11_when : Mt := (yX11_when, cX11_when, 3, some FieldType.int)
def mX11_busiest : Mt := (yX11_busiest, cX11_busiest, 7, some FieldType.int)
def mX11_all : Mt := (yX11_all, cX11_all, 4, some FieldType.int)
def mX5_everyDoing : Mt := (yX5_everyDoing, cX5_everyDoing, 1, some FieldType.int)
def mX5_longestWait : Mt := (yX5_longestWait, cX5_longestWait, 6, some FieldType.int)
def mX11_list : Mt := (yX11_list, cX11_list, 3, some FieldType.int)
def mX5_addRow : Mt := (yX5_addRow, cX5_addRow, 3, some FieldType.int)
def mX11_looked : Mt := (yX11_looked, cX11_looked, 1, some FieldType.int)
def mX5_weeksToRows : Mt := (yX5_weeksToRows, cX5_weeksToRows, 3, some FieldType.int)
def mX0_firstRowNotSo : Mt := (yX0_firstRowNotSo, cX0_firstRowNotSo, 3, some FieldType.int)
def mX11_fits : Mt := (yX11_fits, cX11_fits, 3, some FieldType.int)
def mX11_chance : Mt := (yX11_chance, cX11_chance, 9, some FieldType.long)
def mX11_commonDivisor : Mt := (yX11_commonDivisor, cX11_commonDivisor, 11, some FieldType.long)
def mJ9_max_f86c9 : Mt := (yJ9_max_f86c9, cJ9_max_f86c9, 4, some FieldType.long)
def mX11_judge : Mt := (yX11_judge, cX11_judge, 4, some FieldType.int)
def mX11_image : Mt := (yX11_image, cX11_image, 1, some FieldType.int)
def mX5_takeFrom : Mt := (yX5_takeFrom, cX5_takeFrom, 3, none)
def mX11_undo : Mt := (yX11_undo, cX11_undo, 1, some FieldType.int)
def mX11_act : Mt := (yX11_act, cX11_act, 5, some FieldType.int)
def mX2_says : Mt := (yX2_says, cX2_says, 3, some FieldType.int)
def mX7_begins : Mt := (yX7_begins, cX7_begins, 2, none)
def mX8_says : Mt := (yX8_says, cX8_says, 3, some FieldType.int)
def mX10_says : Mt := (yX10_says, cX10_says, 3, some FieldType.int)
def mX1_says : Mt := (yX1_says, cX1_says, 3, some FieldType.int)
def mX8_holds : Mt := (yX8_holds, cX8_holds, 3, some FieldType.int)
def mX9_holds : Mt := (yX9_holds, cX9_holds, 3, some FieldType.int)
def mX10_holds : Mt := (yX10_holds, cX10_holds, 3, some FieldType.int)
def mX1_holds : Mt := (yX1_holds, cX1_holds, 3, some FieldType.int)
def mX4_tells : Mt := (yX4_tells, cX4_tells, 3, some FieldType.int)
def mX6_tells : Mt := (yX6_tells, cX6_tells, 3, some FieldType.int)
def mX1_tells : Mt := (yX1_tells, cX1_tells, 3, some FieldType.int)
def mX11_trace : Mt := (yX11_trace, cX11_trace, 2, some FieldType.int)
def mX11_taken : Mt := (yX11_taken, cX11_taken, 4, some FieldType.int)
def mX11_isOfKind : Mt := (yX11_isOfKind, cX11_isOfKind, 2, some FieldType.boolean)
def mX11_count : Mt := (yX11_count, cX11_count, 2, some FieldType.int)
def mX11_tape : Mt := (yX11_tape, cX11_tape, 4, some FieldType.int)
def mJ7_fill_d0a16 : Mt := (yJ7_fill_d0a16, cJ7_fill_d0a16, 5, none)
def mX11_item : Mt := (yX11_item, cX11_item, 5, some FieldType.int)
def mX11_cut : Mt := (yX11_cut, cX11_cut, 3, some FieldType.long)
def mX11_read : Mt := (yX11_read, cX11_read, 3, some FieldType.long)
def mX11_shift : Mt := (yX11_shift, cX11_shift, 6, some FieldType.int)
def mX12_init : Mt := (yX12_init, cX12_init, 1, none)
def mX12_doing : Mt := (yX12_doing, cX12_doing, 8, some FieldType.int)
def mX12_in : Mt := (yX12_in, cX12_in, 4, some FieldType.boolean)
def mX12_with : Mt := (yX12_with, cX12_with, 4, some FieldType.int)
def mX12_needless : Mt := (yX12_needless, cX12_needless, 4, some FieldType.int)
def mX12_isDoing : Mt := (yX12_isDoing, cX12_isDoing, 2, some FieldType.boolean)
def mX12_has : Mt := (yX12_has, cX12_has, 3, some FieldType.boolean)
def mX12_learn : Mt := (yX12_learn, cX12_learn, 4, some FieldType.int)
def mX12_odds : Mt := (yX12_odds, cX12_odds, 4, some FieldType.int)
def mX12_hours : Mt := (yX12_hours, cX12_hours, 4, some FieldType.int)
def mX12_isWay : Mt := (yX12_isWay, cX12_isWay, 2, some FieldType.boolean)
def mX12_feed : Mt := (yX12_feed, cX12_feed, 2, some FieldType.int)
def mX12_post : Mt := (yX12_post, cX12_post, 2, some FieldType.int)
def mX12_goesText : Mt := (yX12_goesText, cX12_goesText, 3, some FieldType.boolean)
def mX12_takesClause : Mt := (yX12_takesClause, cX12_takesClause, 2, some FieldType.boolean)
def mX12_takesHead : Mt := (yX12_takesHead, cX12_takesHead, 3, some FieldType.boolean)
def mX12_second : Mt := (yX12_second, cX12_second, 1, some FieldType.int)
def mX12_next : Mt := (yX12_next, cX12_next, 1, some FieldType.int)
def mX12_takesWord : Mt := (yX12_takesWord, cX12_takesWord, 4, some FieldType.boolean)
def mX12_takes : Mt := (yX12_takes, cX12_takes, 2, some FieldType.boolean)
def mX12_takesNumber : Mt := (yX12_takesNumber, cX12_takesNumber, 2, some FieldType.boolean)
def mX12_isDigit : Mt := (yX12_isDigit, cX12_isDigit, 1, some FieldType.boolean)
def mX12_takesE : Mt := (yX12_takesE, cX12_takesE, 4, some FieldType.boolean)
def mX12_takesTest : Mt := (yX12_takesTest, cX12_takesTest, 3, some FieldType.boolean)
def mX12_place : Mt := (yX12_place, cX12_place, 2, some FieldType.int)
def mX12_put : Mt := (yX12_put, cX12_put, 2, none)
def mX12_whole : Mt := (yX12_whole, cX12_whole, 1, none)
def mX12_settle : Mt := (yX12_settle, cX12_settle, 2, none)
def mX12_of : Mt := (yX12_of, cX12_of, 3, some FieldType.int)
def mX12_laySaid : Mt := (yX12_laySaid, cX12_laySaid, 3, none)
def mX12_sumOf : Mt := (yX12_sumOf, cX12_sumOf, 7, some FieldType.int)
def mX12_begin : Mt := (yX12_begin, cX12_begin, 1, some FieldType.int)
def mX12_behind : Mt := (yX12_behind, cX12_behind, 1, some FieldType.int)
def mX12_holds : Mt := (yX12_holds, cX12_holds, 10, some FieldType.boolean)
def mX12_factOf : Mt := (yX12_factOf, cX12_factOf, 5, some FieldType.int)
def mX12_saidOf : Mt := (yX12_saidOf, cX12_saidOf, 3, some FieldType.int)
def mX12_saidAll : Mt := (yX12_saidAll, cX12_saidAll, 5, some FieldType.int)
def mX12_dear : Mt := (yX12_dear, cX12_dear, 3, some FieldType.int)
def mX12_told : Mt := (yX12_told, cX12_told, 2, some FieldType.int)
def mX12_lastOf : Mt := (yX12_lastOf, cX12_lastOf, 5, some FieldType.int)
def mX12_said : Mt := (yX12_said, cX12_said, 3, some FieldType.int)
def mX12_hand : Mt := (yX12_hand, cX12_hand, 2, some FieldType.int)
def mX12_ones : Mt := (yX12_ones, cX12_ones, 4, some FieldType.int)
def mX12_over : Mt := (yX12_over, cX12_over, 3, some FieldType.int)
def mX12_go : Mt := (yX12_go, cX12_go, 2, some FieldType.int)
def mX12_begins : Mt := (yX12_begins, cX12_begins, 3, none)
def mX12_goWeeks : Mt := (yX12_goWeeks, cX12_goWeeks, 5, none)
def mX12_goWeek : Mt := (yX12_goWeek, cX12_goWeek, 5, none)
def mX12_comes : Mt := (yX12_comes, cX12_comes, 3, some FieldType.boolean)
def mX12_learnsBy : Mt := (yX12_learnsBy, cX12_learnsBy, 2, some FieldType.boolean)
def mX12_run : Mt := (yX12_run, cX12_run, 3, some FieldType.int)
def mX12_split : Mt := (yX12_split, cX12_split, 9, some FieldType.int)
def mX12_keepHours : Mt := (yX12_keepHours, cX12_keepHours, 2, none)
def mX12_costHanded : Mt := (yX12_costHanded, cX12_costHanded, 2, some FieldType.int)
def mX12_costBy : Mt := (yX12_costBy, cX12_costBy, 4, some FieldType.int)
def mX12_putHours : Mt := (yX12_putHours, cX12_putHours, 2, none)
def mX12_more : Mt := (yX12_more, cX12_more, 5, some FieldType.int)
def mX12_ask : Mt := (yX12_ask, cX12_ask, 6, some FieldType.int)
def mX12_drop : Mt := (yX12_drop, cX12_drop, 6, some FieldType.int)
def mX12_when : Mt := (yX12_when, cX12_when, 3, some FieldType.int)
def mX12_busiest : Mt := (yX12_busiest, cX12_busiest, 5, some FieldType.int)
def mX12_manyIn : Mt := (yX12_manyIn, cX12_manyIn, 4, some FieldType.int)
def mX12_all : Mt := (yX12_all, cX12_all, 3, some FieldType.int)
def mX12_allCome : Mt := (yX12_allCome, cX12_allCome, 4, some FieldType.boolean)
def mX12_list : Mt := (yX12_list, cX12_list, 3, some FieldType.int)
def mX12_looked : Mt := (yX12_looked, cX12_looked, 1, some FieldType.int)
def mX12_firstOff : Mt := (yX12_firstOff, cX12_firstOff, 3, some FieldType.int)
def mX12_fits : Mt := (yX12_fits, cX12_fits, 3, some FieldType.int)
def mX12_chance : Mt := (yX12_chance, cX12_chance, 9, some FieldType.long)
def mX12_comesIn : Mt := (yX12_comesIn, cX12_comesIn, 4, some FieldType.boolean)
def mX12_divisor : Mt := (yX12_divisor, cX12_divisor, 11, some FieldType.long)
def mX12_judge : Mt := (yX12_judge, cX12_judge, 4, some FieldType.int)
def mX12_isTape : Mt := (yX12_isTape, cX12_isTape, 2, some FieldType.boolean)
def mX12_image : Mt := (yX12_image, cX12_image, 2, some FieldType.int)
def mX12_undo : Mt := (yX12_undo, cX12_undo, 2, some FieldType.int)
def mX12_act : Mt := (yX12_act, cX12_act, 4, some FieldType.int)
def mX12_saysAct : Mt := (yX12_saysAct, cX12_saysAct, 3, some FieldType.int)
def mX12_body : Mt := (yX12_body, cX12_body, 2, none)
def mX12_knowingSays : Mt := (yX12_knowingSays, cX12_knowingSays, 3, some FieldType.int)
def mX12_holdsAct : Mt := (yX12_holdsAct, cX12_holdsAct, 4, some FieldType.int)
def mX12_writtenHolds : Mt := (yX12_writtenHolds, cX12_writtenHolds, 3, some FieldType.int)
def mX12_knowingHolds : Mt := (yX12_knowingHolds, cX12_knowingHolds, 3, some FieldType.int)
def mX12_tellsAct : Mt := (yX12_tellsAct, cX12_tellsAct, 4, some FieldType.int)
def mX12_knowingTells : Mt := (yX12_knowingTells, cX12_knowingTells, 3, some FieldType.int)
def mX12_trace : Mt := (yX12_trace, cX12_trace, 2, some FieldType.int)
def mX12_taken : Mt := (yX12_taken, cX12_taken, 4, some FieldType.int)
def mX12_count : Mt := (yX12_count, cX12_count, 2, some FieldType.int)
def mX12_tape : Mt := (yX12_tape, cX12_tape, 5, some FieldType.int)
def mX12_item : Mt := (yX12_item, cX12_item, 5, some FieldType.int)
def mX12_narrow : Mt := (yX12_narrow, cX12_narrow, 4, some FieldType.long)
def mX12_read : Mt := (yX12_read, cX12_read, 3, some FieldType.long)
def mX12_shift : Mt := (yX12_shift, cX12_shift, 7, some FieldType.int)
def dc (cc : ByteArray) (pc : Nat) (ins : Instr) (len nx : Nat) : Prop := decode cc pc = .ok (ins, len) ∧ pc + len = nx
def dcl (cc : ByteArray) (L : List (Nat × Instr × Nat × Nat)) : Prop := ∀ q ∈ L, decode cc q.1 = .ok (q.2.1, q.2.2.1) ∧ q.1 + q.2.2.1 = q.2.2.2
theorem dk {cc : ByteArray} {L : List (Nat × Instr × Nat × Nat)} (h : dcl cc L) (i : Nat) {pc : Nat} {ins : Instr} {len nx : Nat} (hi : L[i]? = some (pc, ins, len, nx)) : dc cc pc ins len nx := by
  obtain ⟨a, b⟩ := h (pc, ins, len, nx) (List.mem_of_getElem? hi)
  exact ⟨a, b⟩
def TG : List Cond := lw_tbl.filter goodWord
theorem tg_of (i : Nat) {w : Cond} (h : lw_tbl[i]? = some w) (hg : goodWord w = true) : w ∈ TG := List.mem_filter.mpr ⟨List.mem_of_getElem? h, hg⟩
theorem tg_good {w : Cond} (h : w ∈ TG) : goodWord w = true := (List.mem_filter.mp h).2
theorem tg_tbl {w : Cond} (h : w ∈ TG) : w ∈ lw_tbl := (List.mem_filter.mp h).1
