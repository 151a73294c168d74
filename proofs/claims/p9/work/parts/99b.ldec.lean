section
set_option maxRecDepth 20000 in
theorem DL_9 : dcl code [(732, .iload_n 3, 1, 733), (733, .iconst 1, 1, 734), (734, .iadd, 1, 735), (735, .iaload, 1, 736), (736, .invokevirtual 86, 3, 739), (739, .pop, 1, 740), (740, .goto 567, 3, 743), (743, .aload_n 1, 1, 744), (744, .aload_n 0, 1, 745), (745, .iload_n 3, 1, 746), (746, .iconst 1, 1, 747), (747, .iadd, 1, 748), (748, .iaload, 1, 749), (749, .invokevirtual 87, 3, 752), (752, .pop, 1, 753), (753, .aload_n 2, 1, 754), (754, .aload_n 0, 1, 755), (755, .iload_n 3, 1, 756), (756, .iconst 1, 1, 757), (757, .iadd, 1, 758), (758, .iaload, 1, 759), (759, .invokevirtual 90, 3, 762), (762, .pop, 1, 763), (763, .goto 544, 3, 766), (766, .aload_n 1, 1, 767), (767, .aload_n 0, 1, 768), (768, .iload_n 3, 1, 769), (769, .iconst 1, 1, 770), (770, .iadd, 1, 771), (771, .iaload, 1, 772), (772, .aload_n 0, 1, 773), (773, .iload_n 3, 1, 774), (774, .iconst 2, 1, 775), (775, .iadd, 1, 776), (776, .iaload, 1, 777), (777, .invokevirtual 91, 3, 780), (780, .pop, 1, 781), (781, .aload_n 2, 1, 782), (782, .aload_n 0, 1, 783), (783, .iload_n 3, 1, 784), (784, .iconst 1, 1, 785), (785, .iadd, 1, 786), (786, .iaload, 1, 787), (787, .aload_n 0, 1, 788), (788, .iload_n 3, 1, 789), (789, .iconst 2, 1, 790), (790, .iadd, 1, 791), (791, .iaload, 1, 792), (792, .invokevirtual 94, 3, 795), (795, .pop, 1, 796)] := by unfold dcl; decide +kernel
set_option maxRecDepth 20000 in
theorem DL_10 : dcl code [(796, .goto 511, 3, 799), (799, .aload_n 1, 1, 800), (800, .aload_n 0, 1, 801), (801, .iload_n 3, 1, 802), (802, .iconst 1, 1, 803), (803, .iadd, 1, 804), (804, .iaload, 1, 805), (805, .invokevirtual 95, 3, 808), (808, .pop, 1, 809), (809, .aload_n 2, 1, 810), (810, .aload_n 0, 1, 811), (811, .iload_n 3, 1, 812), (812, .iconst 1, 1, 813), (813, .iadd, 1, 814), (814, .iaload, 1, 815), (815, .invokevirtual 98, 3, 818), (818, .pop, 1, 819), (819, .goto 488, 3, 822), (822, .aload_n 1, 1, 823), (823, .aload_n 0, 1, 824), (824, .iload_n 3, 1, 825), (825, .iconst 1, 1, 826), (826, .iadd, 1, 827), (827, .iaload, 1, 828), (828, .aload_n 0, 1, 829), (829, .iload_n 3, 1, 830), (830, .iconst 2, 1, 831), (831, .iadd, 1, 832), (832, .iaload, 1, 833), (833, .invokevirtual 99, 3, 836), (836, .pop, 1, 837), (837, .aload_n 2, 1, 838), (838, .aload_n 0, 1, 839), (839, .iload_n 3, 1, 840), (840, .iconst 1, 1, 841), (841, .iadd, 1, 842), (842, .iaload, 1, 843), (843, .aload_n 0, 1, 844), (844, .iload_n 3, 1, 845), (845, .iconst 2, 1, 846), (846, .iadd, 1, 847), (847, .iaload, 1, 848), (848, .invokevirtual 102, 3, 851), (851, .pop, 1, 852), (852, .goto 455, 3, 855), (855, .aload_n 1, 1, 856), (856, .invokevirtual 103, 3, 859), (859, .pop, 1, 860), (860, .aload_n 2, 1, 861), (861, .invokevirtual 106, 3, 864)] := by unfold dcl; decide +kernel
set_option maxRecDepth 20000 in
theorem DL_11 : dcl code [(864, .pop, 1, 865), (865, .goto 442, 3, 868), (868, .aload_n 1, 1, 869), (869, .invokevirtual 107, 3, 872), (872, .pop, 1, 873), (873, .aload_n 2, 1, 874), (874, .invokevirtual 110, 3, 877), (877, .pop, 1, 878), (878, .goto 429, 3, 881), (881, .aload_n 1, 1, 882), (882, .aload_n 0, 1, 883), (883, .iload_n 3, 1, 884), (884, .iconst 1, 1, 885), (885, .iadd, 1, 886), (886, .iaload, 1, 887), (887, .aload_n 0, 1, 888), (888, .iload_n 3, 1, 889), (889, .iconst 2, 1, 890), (890, .iadd, 1, 891), (891, .iaload, 1, 892), (892, .invokevirtual 111, 3, 895), (895, .pop2, 1, 896), (896, .aload_n 2, 1, 897), (897, .aload_n 0, 1, 898), (898, .iload_n 3, 1, 899), (899, .iconst 1, 1, 900), (900, .iadd, 1, 901), (901, .iaload, 1, 902), (902, .aload_n 0, 1, 903), (903, .iload_n 3, 1, 904), (904, .iconst 2, 1, 905), (905, .iadd, 1, 906), (906, .iaload, 1, 907), (907, .invokevirtual 115, 3, 910), (910, .pop2, 1, 911), (911, .goto 396, 3, 914), (914, .aload_n 1, 1, 915), (915, .aload_n 0, 1, 916), (916, .iload_n 3, 1, 917), (917, .iconst 1, 1, 918), (918, .iadd, 1, 919), (919, .iaload, 1, 920), (920, .aload_n 0, 1, 921), (921, .iload_n 3, 1, 922), (922, .iconst 2, 1, 923), (923, .iadd, 1, 924), (924, .iaload, 1, 925), (925, .invokevirtual 116, 3, 928), (928, .pop, 1, 929), (929, .aload_n 2, 1, 930)] := by unfold dcl; decide +kernel
set_option maxRecDepth 20000 in
theorem DL_12 : dcl code [(930, .aload_n 0, 1, 931), (931, .iload_n 3, 1, 932), (932, .iconst 1, 1, 933), (933, .iadd, 1, 934), (934, .iaload, 1, 935), (935, .aload_n 0, 1, 936), (936, .iload_n 3, 1, 937), (937, .iconst 2, 1, 938), (938, .iadd, 1, 939), (939, .iaload, 1, 940), (940, .invokevirtual 119, 3, 943), (943, .pop, 1, 944), (944, .goto 363, 3, 947), (947, .aload_n 1, 1, 948), (948, .invokevirtual 120, 3, 951), (951, .pop, 1, 952), (952, .aload_n 2, 1, 953), (953, .invokevirtual 123, 3, 956), (956, .pop, 1, 957), (957, .goto 350, 3, 960), (960, .aload_n 1, 1, 961), (961, .invokevirtual 124, 3, 964), (964, .pop, 1, 965), (965, .aload_n 2, 1, 966), (966, .invokevirtual 127, 3, 969), (969, .pop, 1, 970), (970, .goto 337, 3, 973), (973, .aload_n 1, 1, 974), (974, .aload_n 0, 1, 975), (975, .iload_n 3, 1, 976), (976, .iconst 1, 1, 977), (977, .iadd, 1, 978), (978, .iaload, 1, 979), (979, .aload_n 0, 1, 980), (980, .iload_n 3, 1, 981), (981, .iconst 2, 1, 982), (982, .iadd, 1, 983), (983, .iaload, 1, 984), (984, .aload_n 0, 1, 985), (985, .iload_n 3, 1, 986), (986, .iconst 3, 1, 987), (987, .iadd, 1, 988), (988, .iaload, 1, 989), (989, .invokevirtual 128, 3, 992), (992, .pop, 1, 993), (993, .aload_n 2, 1, 994), (994, .aload_n 0, 1, 995), (995, .iload_n 3, 1, 996), (996, .iconst 1, 1, 997), (997, .iadd, 1, 998)] := by unfold dcl; decide +kernel
set_option maxRecDepth 20000 in
theorem DL_13 : dcl code [(998, .iaload, 1, 999), (999, .aload_n 0, 1, 1000), (1000, .iload_n 3, 1, 1001), (1001, .iconst 2, 1, 1002), (1002, .iadd, 1, 1003), (1003, .iaload, 1, 1004), (1004, .aload_n 0, 1, 1005), (1005, .iload_n 3, 1, 1006), (1006, .iconst 3, 1, 1007), (1007, .iadd, 1, 1008), (1008, .iaload, 1, 1009), (1009, .invokevirtual 131, 3, 1012), (1012, .pop, 1, 1013), (1013, .goto 294, 3, 1016), (1016, .aload_n 1, 1, 1017), (1017, .aload_n 0, 1, 1018), (1018, .iload_n 3, 1, 1019), (1019, .iconst 1, 1, 1020), (1020, .iadd, 1, 1021), (1021, .iaload, 1, 1022), (1022, .invokevirtual 132, 3, 1025), (1025, .pop, 1, 1026), (1026, .aload_n 2, 1, 1027), (1027, .aload_n 0, 1, 1028), (1028, .iload_n 3, 1, 1029), (1029, .iconst 1, 1, 1030), (1030, .iadd, 1, 1031), (1031, .iaload, 1, 1032), (1032, .invokevirtual 135, 3, 1035), (1035, .pop, 1, 1036), (1036, .goto 271, 3, 1039), (1039, .aload_n 1, 1, 1040), (1040, .aload_n 0, 1, 1041), (1041, .iload_n 3, 1, 1042), (1042, .iconst 1, 1, 1043), (1043, .iadd, 1, 1044), (1044, .iaload, 1, 1045), (1045, .aload_n 0, 1, 1046), (1046, .iload_n 3, 1, 1047), (1047, .iconst 2, 1, 1048), (1048, .iadd, 1, 1049), (1049, .iaload, 1, 1050), (1050, .invokevirtual 136, 3, 1053), (1053, .pop, 1, 1054), (1054, .aload_n 2, 1, 1055), (1055, .aload_n 0, 1, 1056), (1056, .iload_n 3, 1, 1057), (1057, .iconst 1, 1, 1058), (1058, .iadd, 1, 1059), (1059, .iaload, 1, 1060)] := by unfold dcl; decide +kernel
set_option maxRecDepth 20000 in
theorem DL_14 : dcl code [(1060, .aload_n 0, 1, 1061), (1061, .iload_n 3, 1, 1062), (1062, .iconst 2, 1, 1063), (1063, .iadd, 1, 1064), (1064, .iaload, 1, 1065), (1065, .invokevirtual 139, 3, 1068), (1068, .pop, 1, 1069), (1069, .goto 238, 3, 1072), (1072, .aload_n 1, 1, 1073), (1073, .aload_n 0, 1, 1074), (1074, .iload_n 3, 1, 1075), (1075, .iconst 1, 1, 1076), (1076, .iadd, 1, 1077), (1077, .iaload, 1, 1078), (1078, .invokevirtual 140, 3, 1081), (1081, .pop, 1, 1082), (1082, .aload_n 2, 1, 1083), (1083, .aload_n 0, 1, 1084), (1084, .iload_n 3, 1, 1085), (1085, .iconst 1, 1, 1086), (1086, .iadd, 1, 1087), (1087, .iaload, 1, 1088), (1088, .invokevirtual 143, 3, 1091), (1091, .pop, 1, 1092), (1092, .goto 215, 3, 1095), (1095, .aload_n 1, 1, 1096), (1096, .aload_n 0, 1, 1097), (1097, .iload_n 3, 1, 1098), (1098, .iconst 1, 1, 1099), (1099, .iadd, 1, 1100), (1100, .iaload, 1, 1101), (1101, .aload_n 0, 1, 1102), (1102, .iload_n 3, 1, 1103), (1103, .iconst 2, 1, 1104), (1104, .iadd, 1, 1105), (1105, .iaload, 1, 1106), (1106, .aload_n 0, 1, 1107), (1107, .iload_n 3, 1, 1108), (1108, .iconst 3, 1, 1109), (1109, .iadd, 1, 1110), (1110, .iaload, 1, 1111), (1111, .invokevirtual 144, 3, 1114), (1114, .pop, 1, 1115), (1115, .aload_n 2, 1, 1116), (1116, .aload_n 0, 1, 1117), (1117, .iload_n 3, 1, 1118), (1118, .iconst 1, 1, 1119), (1119, .iadd, 1, 1120), (1120, .iaload, 1, 1121), (1121, .aload_n 0, 1, 1122)] := by unfold dcl; decide +kernel
set_option maxRecDepth 20000 in
theorem DL_15 : dcl code [(1122, .iload_n 3, 1, 1123), (1123, .iconst 2, 1, 1124), (1124, .iadd, 1, 1125), (1125, .iaload, 1, 1126), (1126, .aload_n 0, 1, 1127), (1127, .iload_n 3, 1, 1128), (1128, .iconst 3, 1, 1129), (1129, .iadd, 1, 1130), (1130, .iaload, 1, 1131), (1131, .invokevirtual 147, 3, 1134), (1134, .pop, 1, 1135), (1135, .goto 172, 3, 1138), (1138, .aload_n 1, 1, 1139), (1139, .aload_n 0, 1, 1140), (1140, .iload_n 3, 1, 1141), (1141, .iconst 1, 1, 1142), (1142, .iadd, 1, 1143), (1143, .iaload, 1, 1144), (1144, .aload_n 0, 1, 1145), (1145, .iload_n 3, 1, 1146), (1146, .iconst 2, 1, 1147), (1147, .iadd, 1, 1148), (1148, .iaload, 1, 1149), (1149, .aload_n 0, 1, 1150), (1150, .iload_n 3, 1, 1151), (1151, .iconst 3, 1, 1152), (1152, .iadd, 1, 1153), (1153, .iaload, 1, 1154), (1154, .i2l, 1, 1155), (1155, .bipush 32, 2, 1157), (1157, .lshl, 1, 1158), (1158, .aload_n 0, 1, 1159), (1159, .iload_n 3, 1, 1160), (1160, .iconst 4, 1, 1161), (1161, .iadd, 1, 1162), (1162, .iaload, 1, 1163), (1163, .i2l, 1, 1164), (1164, .ldc2_w 148, 3, 1167), (1167, .land, 1, 1168), (1168, .lor, 1, 1169), (1169, .invokevirtual 150, 3, 1172), (1172, .pop, 1, 1173), (1173, .aload_n 2, 1, 1174), (1174, .aload_n 0, 1, 1175), (1175, .iload_n 3, 1, 1176), (1176, .iconst 1, 1, 1177), (1177, .iadd, 1, 1178), (1178, .iaload, 1, 1179), (1179, .aload_n 0, 1, 1180), (1180, .iload_n 3, 1, 1181)] := by unfold dcl; decide +kernel
set_option maxRecDepth 20000 in
theorem DL_16 : dcl code [(1181, .iconst 2, 1, 1182), (1182, .iadd, 1, 1183), (1183, .iaload, 1, 1184), (1184, .aload_n 0, 1, 1185), (1185, .iload_n 3, 1, 1186), (1186, .iconst 3, 1, 1187), (1187, .iadd, 1, 1188), (1188, .iaload, 1, 1189), (1189, .i2l, 1, 1190), (1190, .bipush 32, 2, 1192), (1192, .lshl, 1, 1193), (1193, .aload_n 0, 1, 1194), (1194, .iload_n 3, 1, 1195), (1195, .iconst 4, 1, 1196), (1196, .iadd, 1, 1197), (1197, .iaload, 1, 1198), (1198, .i2l, 1, 1199), (1199, .ldc2_w 148, 3, 1202), (1202, .land, 1, 1203), (1203, .lor, 1, 1204), (1204, .invokevirtual 154, 3, 1207), (1207, .pop, 1, 1208), (1208, .goto 99, 3, 1211), (1211, .aload_n 1, 1, 1212), (1212, .aload_n 0, 1, 1213), (1213, .iload_n 3, 1, 1214), (1214, .iconst 1, 1, 1215), (1215, .iadd, 1, 1216), (1216, .iaload, 1, 1217), (1217, .aload_n 0, 1, 1218), (1218, .iload_n 3, 1, 1219), (1219, .iconst 2, 1, 1220), (1220, .iadd, 1, 1221), (1221, .iaload, 1, 1222), (1222, .invokevirtual 155, 3, 1225), (1225, .pop2, 1, 1226), (1226, .aload_n 2, 1, 1227), (1227, .aload_n 0, 1, 1228), (1228, .iload_n 3, 1, 1229), (1229, .iconst 1, 1, 1230), (1230, .iadd, 1, 1231), (1231, .iaload, 1, 1232), (1232, .aload_n 0, 1, 1233), (1233, .iload_n 3, 1, 1234), (1234, .iconst 2, 1, 1235), (1235, .iadd, 1, 1236), (1236, .iaload, 1, 1237), (1237, .invokevirtual 158, 3, 1240), (1240, .pop2, 1, 1241), (1241, .goto 66, 3, 1244)] := by unfold dcl; decide +kernel
set_option maxRecDepth 20000 in
theorem DL_17 : dcl code [(1244, .aload_n 1, 1, 1245), (1245, .aload_n 0, 1, 1246), (1246, .iload_n 3, 1, 1247), (1247, .iconst 1, 1, 1248), (1248, .iadd, 1, 1249), (1249, .iaload, 1, 1250), (1250, .aload_n 0, 1, 1251), (1251, .iload_n 3, 1, 1252), (1252, .iconst 2, 1, 1253), (1253, .iadd, 1, 1254), (1254, .iaload, 1, 1255), (1255, .aload_n 0, 1, 1256), (1256, .iload_n 3, 1, 1257), (1257, .iconst 3, 1, 1258), (1258, .iadd, 1, 1259), (1259, .iaload, 1, 1260), (1260, .aload_n 0, 1, 1261), (1261, .iload_n 3, 1, 1262), (1262, .iconst 4, 1, 1263), (1263, .iadd, 1, 1264), (1264, .iaload, 1, 1265), (1265, .aload_n 0, 1, 1266), (1266, .iload_n 3, 1, 1267), (1267, .iconst 5, 1, 1268), (1268, .iadd, 1, 1269), (1269, .iaload, 1, 1270), (1270, .invokevirtual 159, 3, 1273), (1273, .pop, 1, 1274), (1274, .aload_n 2, 1, 1275), (1275, .aload_n 0, 1, 1276), (1276, .iload_n 3, 1, 1277), (1277, .iconst 1, 1, 1278), (1278, .iadd, 1, 1279), (1279, .iaload, 1, 1280), (1280, .aload_n 0, 1, 1281), (1281, .iload_n 3, 1, 1282), (1282, .iconst 2, 1, 1283), (1283, .iadd, 1, 1284), (1284, .iaload, 1, 1285), (1285, .aload_n 0, 1, 1286), (1286, .iload_n 3, 1, 1287), (1287, .iconst 3, 1, 1288), (1288, .iadd, 1, 1289), (1289, .iaload, 1, 1290), (1290, .aload_n 0, 1, 1291), (1291, .iload_n 3, 1, 1292), (1292, .iconst 4, 1, 1293), (1293, .iadd, 1, 1294), (1294, .iaload, 1, 1295), (1295, .aload_n 0, 1, 1296)] := by unfold dcl; decide +kernel
set_option maxRecDepth 20000 in
theorem DL_18 : dcl code [(1296, .iload_n 3, 1, 1297), (1297, .iconst 5, 1, 1298), (1298, .iadd, 1, 1299), (1299, .iaload, 1, 1300), (1300, .invokevirtual 163, 3, 1303), (1303, .pop, 1, 1304), (1304, .goto 3, 3, 1307), (1307, .iinc 3 7, 3, 1310), (1310, .goto (-1292), 3, 1313), (1313, .iconst 1, 1, 1314), (1314, .ireturn, 1, 1315)] := by unfold dcl; decide +kernel
end
section
def R_law : String := "NextOneKnowsLaw"
def lw_P (b : Addr) (xs : List Int32) (args : Array Value) (s : State) : Prop := args = #[.ref b] ∧ s.IntsAt b xs ∧ xs.length ≤ 3584 ∧ (Jvm.Cond.and given_1 narrow_1).before args s = true
def lw_Q (_ : Array Value) (s : State) (o : Outcome) (t : State) : Prop := o = .returned (some (.int 1)) ∧ Framed s o t [] 600000 7302250
def lw_Z (below : List Frame) (a : Array Value) (s : State) : State → Prop := fun t => ∃ o, t.status = .running ∧ Ended t below o ∧ lw_Q a s o t
theorem lw_ret {p : Program} {l : Launch} {e : Env} {s : State} {m : MethodId} {below : List Frame} {meth : Method} {c : Code} {b : Nat} (hx : p.tables.exec = Jvm.exec) (hb : c.code = code) (hr : meth.sig.returnType = ret) (hlocks : meth.locks = false) {pc : Nat} {H : Heap} {ls : Array Slot} (hdg : decode code pc = .ok (.ireturn, 1)) : W p l e room_1 s m #[Value.ref b] below meth c H [] 600000 7302250 (lw_Z below #[Value.ref b] s) (F0 m pc ls [.int 1]) := by
  intro T hT X
  obtain ⟨fs, hret, hrun, hended, hW, hframe⟩ := X.leave (v := some (.int 1)) (hlocks := hlocks) (fun h => by rw [hr] at h; cases h)
  have hmeth' : T.vm.method? m = some meth := X.method'
  refine ⟨T.setFrames fs, ?_, .returned (some (.int 1)), hrun, hended, rfl, ⟨_, rfl⟩, hW, hframe⟩
  jvm_step X.here [X.here.top, hx, hb, hdg, hmeth', hr, ret, narrow_b1]
  (try refine ⟨rfl, ?_⟩); (try refine ⟨rfl, ?_⟩)
  first | (intro acts; rw [hret _ acts rfl rfl rfl]) | rw [hret _ _ rfl rfl rfl]
  exact Steps.refl _
def lw_At (p : Program) (s : State) (m : MethodId) (meth : Method) (c : Code) (b L : Nat) (xs : Nat → Int32) : Prop :=
  p.tables.exec = Jvm.exec ∧ c.code = code ∧ meth.sig.returnType = ret ∧ c.maxLocals = 4 ∧ s.vm.findClass R_law = some m.cls ∧ (∀ w ∈ lw_tbl, w.before #[Value.ref b] s = true) ∧ va_X b L xs s s.heap ∧ b < s.heap.size ∧ meth.locks = false ∧ (Jvm.Cond.and given_1 narrow_1).before #[Value.ref b] s = true
end
section
/-! the law: two worlds in one heap -/
/-- the class's addresses: the object and what it is made with from b0 on, the reference's 40 cells, then the DOINGS -/
def gX (D : va_G) (ci : Nat → ClassId) (b0 off : Nat) : Gt := (D, ci, fun a => if a < 73 then b0 + a else b0 + 40 + a, fun n => b0 + off + n, fun q => (b0 ≤ q ∧ q < b0 + 73) ∨ b0 + 113 ≤ q)
def gM (D : va_G) (ci : Nat → ClassId) (b0 : Nat) (z : Nat → Nat) : Gt := (D, ci, fun a => if a < 40 then b0 + 73 + a else b0 + 1000000 + a, z, fun q => (b0 + 73 ≤ q ∧ q < b0 + 113) ∨ b0 + 1000000 ≤ q)
theorem gX_ok {D : va_G} {ci : Nat → ClassId} {b0 off : Nat} : Gok (gX D ci b0 off) := by
  refine ⟨fun a b e => ?_, fun a => ?_⟩
  · replace e : (if a < 73 then b0 + a else b0 + 40 + a) = (if b < 73 then b0 + b else b0 + 40 + b) := e
    split at e <;> split at e <;> omega
  · show (b0 ≤ (if a < 73 then b0 + a else b0 + 40 + a) ∧ (if a < 73 then b0 + a else b0 + 40 + a) < b0 + 73) ∨ b0 + 113 ≤ (if a < 73 then b0 + a else b0 + 40 + a)
    split <;> omega
theorem gM_ok {D : va_G} {ci : Nat → ClassId} {b0 : Nat} {z : Nat → Nat} : Gok (gM D ci b0 z) := by
  refine ⟨fun a b e => ?_, fun a => ?_⟩
  · replace e : (if a < 40 then b0 + 73 + a else b0 + 1000000 + a) = (if b < 40 then b0 + 73 + b else b0 + 1000000 + b) := e
    split at e <;> split at e <;> omega
  · show (b0 + 73 ≤ (if a < 40 then b0 + 73 + a else b0 + 1000000 + a) ∧ (if a < 40 then b0 + 73 + a else b0 + 1000000 + a) < b0 + 113) ∨ b0 + 1000000 ≤ (if a < 40 then b0 + 73 + a else b0 + 1000000 + a)
    split <;> omega
theorem gX_low {D : va_G} {ci : Nat → ClassId} {b0 off q : Nat} (h : gA (gX D ci b0 off) q) : b0 ≤ q := by
  rcases (show (b0 ≤ q ∧ q < b0 + 73) ∨ b0 + 113 ≤ q from h) with z | z <;> omega
theorem gM_low {D : va_G} {ci : Nat → ClassId} {b0 q : Nat} {z : Nat → Nat} (h : gA (gM D ci b0 z) q) : b0 ≤ q := by
  rcases (show (b0 + 73 ≤ q ∧ q < b0 + 113) ∨ b0 + 1000000 ≤ q from h) with z | z <;> omega
theorem gX_new {D : va_G} {ci : Nat → ClassId} {b0 a : Nat} (ha : 73 ≤ a) : Gnew (gX D ci b0 40) a :=
  ⟨by show b0 + 40 + a = if a < 73 then b0 + a else b0 + 40 + a; rw [if_neg (by omega)], by show b0 + 40 + (a + 1) = (if a < 73 then b0 + a else b0 + 40 + a) + 1; rw [if_neg (by omega)]; omega⟩
theorem gX_new0 {D : va_G} {ci : Nat → ClassId} {b0 a : Nat} (ha : a < 73) : Gnew (gX D ci b0 0) a :=
  ⟨by show b0 + 0 + a = if a < 73 then b0 + a else b0 + 40 + a; rw [if_pos ha]; omega, by show b0 + 0 + (a + 1) = (if a < 73 then b0 + a else b0 + 40 + a) + 1; rw [if_pos ha]; omega⟩
theorem gM_new0 {D : va_G} {ci : Nat → ClassId} {b0 a : Nat} (ha : a < 40) : Gnew (gM D ci b0 (fun n => b0 + 73 + n)) a :=
  ⟨by show b0 + 73 + a = if a < 40 then b0 + 73 + a else b0 + 1000000 + a; rw [if_pos ha], by show b0 + 73 + (a + 1) = (if a < 40 then b0 + 73 + a else b0 + 1000000 + a) + 1; rw [if_pos ha]; omega⟩
theorem wl_at {G : Gt} {I : It} {h : Ht} {k : Nat} {x : Nat × va_E} (hx : (wl G I h)[k]? = some x) : k < hn h ∧ x.1 = ga G k := by
  have hl : k < hn h := by
    have := (List.getElem?_eq_some_iff.mp hx).1
    rwa [wl_len] at this
  rw [wl_get hl] at hx
  cases hx
  exact ⟨hl, rfl⟩
/-- the reference's cells stand while the class works, and the other way round -/
theorem keepM {D : va_G} {ci : Nat → ClassId} {b0 off : Nat} {z : Nat → Nat} {I : It} {h : Ht} {H H1 : Heap} (hn' : hn h = 40) (hP : va_P D vwCl (wl (gM D ci b0 z) I h) H) (hk : ∀ q, q < H.size → ¬ gA (gX D ci b0 off) q → H1[q]? = H[q]?) : va_P D vwCl (wl (gM D ci b0 z) I h) H1 := by
  refine hP.kept fun k x hx => ?_
  obtain ⟨h1, h2⟩ := wl_at hx
  refine hk x.1 ((hP k x hx).lt) ?_
  rw [h2]
  show ¬ ((b0 ≤ (if k < 40 then b0 + 73 + k else b0 + 1000000 + k) ∧ (if k < 40 then b0 + 73 + k else b0 + 1000000 + k) < b0 + 73) ∨ b0 + 113 ≤ (if k < 40 then b0 + 73 + k else b0 + 1000000 + k))
  rw [if_pos (by omega)]
  omega
theorem keepX {D : va_G} {ci : Nat → ClassId} {b0 off : Nat} {z : Nat → Nat} {I : It} {h : Ht} {H H1 : Heap} (hn' : hn h ≤ 1000) (hP : va_P D vwCl (wl (gX D ci b0 off) I h) H) (hk : ∀ q, q < H.size → ¬ gA (gM D ci b0 z) q → H1[q]? = H[q]?) : va_P D vwCl (wl (gX D ci b0 off) I h) H1 := by
  refine hP.kept fun k x hx => ?_
  obtain ⟨h1, h2⟩ := wl_at hx
  refine hk x.1 ((hP k x hx).lt) ?_
  rw [h2]
  show ¬ ((b0 + 73 ≤ (if k < 73 then b0 + k else b0 + 40 + k) ∧ (if k < 73 then b0 + k else b0 + 40 + k) < b0 + 113) ∨ b0 + 1000000 ≤ (if k < 73 then b0 + k else b0 + 40 + k))
  split <;> omega
/-! what the tables say -/
theorem ky_prim {s : State} {A : Array Value} {ty : FieldType} (ht : ∀ n, ty ≠ .object n) (h : (Cond.arrayClass ty).before A s = true) : ∃ cA, ArrOfT s cA ty ∧ va_RA s cA ty := by
  obtain ⟨c, k, comp, h1, h2, h3⟩ := Cond.arrayClass_spec h
  refine ⟨c, fun n z => ⟨(fun k h => by cases h), k, h2, comp, h3⟩, ?_⟩
  cases ty <;> first | exact h1 | exact absurd rfl (ht _)
theorem ky_obj {s : State} {A : Array Value} {C : String} (h : (Cond.arrayOver (.object C)).before A s = true) : ∃ cA, ArrOfT s cA (.object C) ∧ va_RA s cA (.object C) := by
  obtain ⟨comp, c, k, h1, -, h2, h3, h4⟩ := Cond.arrayOver_spec h
  exact ⟨c, fun n z => ⟨(fun k h => by cases h), k, h2, comp, h3⟩, k, comp, h2, h3, h1, h4⟩
theorem ky_arr {s : State} {A : Array Value} {t : FieldType} (h : (Cond.arrayOver (.array t)).before A s = true) : ∃ cA, ArrOfT s cA (.array t) ∧ va_RA s cA (.array t) := by
  obtain ⟨comp, c, k, h1, -, h2, h3, h4⟩ := arrayOverA_spec h
  exact ⟨c, fun n z => ⟨(fun k h => by cases h), k, h2, comp, h3⟩, h4⟩
theorem tb_1 (i : Nat) {w : Cond} (h : tables_1_1[i]? = some w) : w ∈ lw_tbl := List.mem_append_right _ (List.mem_append_left _ (List.mem_of_getElem? h))
theorem tb_2 (i : Nat) {w : Cond} (h : tables_1_2[i]? = some w) : w ∈ lw_tbl := List.mem_append_right _ (List.mem_append_right _ (List.mem_append_left _ (List.mem_of_getElem? h)))
theorem tb_3 (i : Nat) {w : Cond} (h : tables_1_3[i]? = some w) : w ∈ lw_tbl := List.mem_append_right _ (List.mem_append_right _ (List.mem_append_right _ (List.mem_append_left _ (List.mem_of_getElem? h))))
theorem tb_4 (i : Nat) {w : Cond} (h : tables_1_4[i]? = some w) : w ∈ lw_tbl := List.mem_append_right _ (List.mem_append_right _ (List.mem_append_right _ (List.mem_append_right _ (List.mem_append_left _ (List.mem_of_getElem? h)))))
theorem tb_5 (i : Nat) {w : Cond} (h : tables_1_5[i]? = some w) : w ∈ lw_tbl := List.mem_append_right _ (List.mem_append_right _ (List.mem_append_right _ (List.mem_append_right _ (List.mem_append_right _ (List.mem_append_left _ (List.mem_of_getElem? h))))))
theorem tb_6 (i : Nat) {w : Cond} (h : tables_1_6[i]? = some w) : w ∈ lw_tbl := List.mem_append_right _ (List.mem_append_right _ (List.mem_append_right _ (List.mem_append_right _ (List.mem_append_right _ (List.mem_append_right _ (List.mem_append_left _ (List.mem_of_getElem? h)))))))
theorem tb_7 (i : Nat) {w : Cond} (h : tables_1_7[i]? = some w) : w ∈ lw_tbl := List.mem_append_right _ (List.mem_append_right _ (List.mem_append_right _ (List.mem_append_right _ (List.mem_append_right _ (List.mem_append_right _ (List.mem_append_right _ (List.mem_of_getElem? h)))))))
set_option maxRecDepth 20000 in
theorem nest_mem : ∀ q ∈ nestL, Cond.methodLinkNest q.1 q.2.1 q.2.2.1 q.2.2.2 ∈ lw_tbl := List.forall_mem_cons.mpr ⟨(tb_1 28 rfl), List.forall_mem_cons.mpr ⟨(tb_1 164 rfl), List.forall_mem_cons.mpr ⟨(tb_3 174 rfl), List.forall_mem_cons.mpr ⟨(tb_4 48 rfl), fun _ h => absurd h List.not_mem_nil⟩⟩⟩⟩
set_option maxRecDepth 20000 in
theorem cast_mem : ∀ q ∈ castL, Cond.castable q.1 q.2 ∈ lw_tbl := List.forall_mem_cons.mpr ⟨(tb_7 103 rfl), List.forall_mem_cons.mpr ⟨(tb_7 104 rfl), List.forall_mem_cons.mpr ⟨(tb_7 105 rfl), List.forall_mem_cons.mpr ⟨(tb_7 106 rfl), List.forall_mem_cons.mpr ⟨(tb_7 107 rfl), List.forall_mem_cons.mpr ⟨(tb_7 108 rfl), List.forall_mem_cons.mpr ⟨(tb_7 109 rfl), List.forall_mem_cons.mpr ⟨(tb_7 110 rfl), List.forall_mem_cons.mpr ⟨(tb_7 111 rfl), fun _ h => absurd h List.not_mem_nil⟩⟩⟩⟩⟩⟩⟩⟩⟩
set_option maxRecDepth 20000 in
theorem noc_mem : ∀ q ∈ noCastL, Cond.not (.castable q.1 q.2) ∈ flatC (Cond.and given_1 narrow_1) := by decide +kernel
set_option maxHeartbeats 4000000 in
set_option maxRecDepth 20000 in
theorem ks_start {s : State} {A : Array Value} (hts0 : ∀ w ∈ lw_tbl, w.before A s = true) (hgv : (Cond.and given_1 narrow_1).before A s = true) : ∃ (D : va_G) (ci : Nat → ClassId), ∀ G : Gt, gD G = D → gc G = ci → Ks G s := by
  have hts : ∀ w ∈ TG, w.before A s = true := fun w hw => hts0 w (tg_tbl hw)
  have hcl : ∀ k : Nat, ∃ q : ClassId × (Nat → Nat), ∀ r, vwCl[k]? = some r → u_Kn s r.1 r.2.1 r.2.2 q.1 q.2 := by
    intro k
    by_cases hk : ¬ k < 13
    · exact ⟨((0 : Nat), fun _ => 0), fun r hr => absurd (List.getElem?_eq_some_iff.mp hr).1 hk⟩
    rcases (by omega : k = 0 ∨ k = 1 ∨ k = 2 ∨ k = 3 ∨ k = 4 ∨ k = 5 ∨ k = 6 ∨ k = 7 ∨ k = 8 ∨ k = 9 ∨ k = 10 ∨ k = 11 ∨ k = 12) with rfl | rfl | rfl | rfl | rfl | rfl | rfl | rfl | rfl | rfl | rfl | rfl | rfl
    · obtain ⟨cC, iS, h⟩ := u_known (C := RX0) (T := TX0) (N := 16) (n := 16) hts KX0.2.1 (hts0 _ (tb_1 98 rfl))
      exact ⟨(cC, iS), fun r hr => by cases hr; exact h⟩
    · obtain ⟨cC, iS, h⟩ := u_known (C := RX1) (T := TX1) (N := 6) (n := 6) hts KX1.2.1 (hts0 _ (tb_2 159 rfl))
      exact ⟨(cC, iS), fun r hr => by cases hr; exact h⟩
    · obtain ⟨cC, iS, h⟩ := u_known (C := RX2) (T := TX2) (N := 6) (n := 6) hts KX2.2.1 (hts0 _ (tb_2 94 rfl))
      exact ⟨(cC, iS), fun r hr => by cases hr; exact h⟩
    · obtain ⟨cC, iS, h⟩ := u_known (C := RX3) (T := TX3) (N := 12) (n := 12) hts KX3.2.1 (hts0 _ (tb_1 183 rfl))
      exact ⟨(cC, iS), fun r hr => by cases hr; exact h⟩
    · obtain ⟨cC, iS, h⟩ := u_known (C := RX4) (T := TX4) (N := 6) (n := 6) hts KX4.2.1 (hts0 _ (tb_2 107 rfl))
      exact ⟨(cC, iS), fun r hr => by cases hr; exact h⟩
    · obtain ⟨cC, iS, h⟩ := u_known (C := RX5) (T := TX5) (N := 14) (n := 14) hts KX5.2.1 (hts0 _ (tb_1 27 rfl))
      exact ⟨(cC, iS), fun r hr => by cases hr; exact h⟩
    · obtain ⟨cC, iS, h⟩ := u_known (C := RX6) (T := TX6) (N := 6) (n := 6) hts KX6.2.1 (hts0 _ (tb_2 133 rfl))
      exact ⟨(cC, iS), fun r hr => by cases hr; exact h⟩
    · obtain ⟨cC, iS, h⟩ := u_known (C := RX7) (T := TX7) (N := 2) (n := 2) hts KX7.2.1 (hts0 _ (tb_1 163 rfl))
      exact ⟨(cC, iS), fun r hr => by cases hr; exact h⟩
    · obtain ⟨cC, iS, h⟩ := u_known (C := RX8) (T := TX8) (N := 6) (n := 6) hts KX8.2.1 (hts0 _ (tb_2 120 rfl))
      exact ⟨(cC, iS), fun r hr => by cases hr; exact h⟩
    · obtain ⟨cC, iS, h⟩ := u_known (C := RX9) (T := TX9) (N := 6) (n := 6) hts KX9.2.1 (hts0 _ (tb_2 36 rfl))
      exact ⟨(cC, iS), fun r hr => by cases hr; exact h⟩
    · obtain ⟨cC, iS, h⟩ := u_known (C := RX10) (T := TX10) (N := 6) (n := 6) hts KX10.2.1 (hts0 _ (tb_2 146 rfl))
      exact ⟨(cC, iS), fun r hr => by cases hr; exact h⟩
    · obtain ⟨cC, iS, h⟩ := u_known (C := RX11) (T := TX11) (N := 12) (n := 12) hts KX11.2.1 (hts0 _ (tb_1 19 rfl))
      exact ⟨(cC, iS), fun r hr => by cases hr; exact h⟩
    · obtain ⟨cC, iS, h⟩ := u_known (C := RX12) (T := TX12) (N := 73) (n := 73) hts KX12.2.1 (hts0 _ (tb_4 226 rfl))
      exact ⟨(cC, iS), fun r hr => by cases hr; exact h⟩
  obtain ⟨f, hf⟩ := Classical.axiomOfChoice hcl
  have har : ∀ t : Nat, ∃ cA : ClassId, ∀ q, q ∈ tysL → q.1 = t → ArrOfT s cA q.2 ∧ va_RA s cA q.2 := by
    intro t
    by_cases hk : ¬ (20 ≤ t ∧ t < 28)
    · exact ⟨(0 : Nat), fun q hq e => by
        simp only [tysL, List.mem_cons, List.not_mem_nil, or_false] at hq
        exfalso
        rcases hq with rfl | rfl | rfl | rfl | rfl | rfl | rfl | rfl <;> (apply hk; rw [← e]; decide)⟩
    rcases (by omega : t = 20 ∨ t = 21 ∨ t = 22 ∨ t = 23 ∨ t = 24 ∨ t = 25 ∨ t = 26 ∨ t = 27) with rfl | rfl | rfl | rfl | rfl | rfl | rfl | rfl
    · obtain ⟨cA, h⟩ := ky_prim (by intro n h; cases h) (hts0 _ (tb_1 96 rfl))
      exact ⟨cA, fun q hq e => by
        simp only [tysL, List.mem_cons, List.not_mem_nil, or_false] at hq
        rcases hq with rfl | rfl | rfl | rfl | rfl | rfl | rfl | rfl <;> first | exact h | exact absurd e (by decide)⟩
    · obtain ⟨cA, h⟩ := ky_prim (by intro n h; cases h) (hts0 _ (tb_1 227 rfl))
      exact ⟨cA, fun q hq e => by
        simp only [tysL, List.mem_cons, List.not_mem_nil, or_false] at hq
        rcases hq with rfl | rfl | rfl | rfl | rfl | rfl | rfl | rfl <;> first | exact h | exact absurd e (by decide)⟩
    · obtain ⟨cA, h⟩ := ky_prim (by intro n h; cases h) (hts0 _ (tb_1 177 rfl))
      exact ⟨cA, fun q hq e => by
        simp only [tysL, List.mem_cons, List.not_mem_nil, or_false] at hq
        rcases hq with rfl | rfl | rfl | rfl | rfl | rfl | rfl | rfl <;> first | exact h | exact absurd e (by decide)⟩
    · obtain ⟨cA, h⟩ := ky_prim (by intro n h; cases h) (hts0 _ (tb_5 211 rfl))
      exact ⟨cA, fun q hq e => by
        simp only [tysL, List.mem_cons, List.not_mem_nil, or_false] at hq
        rcases hq with rfl | rfl | rfl | rfl | rfl | rfl | rfl | rfl <;> first | exact h | exact absurd e (by decide)⟩
    · obtain ⟨cA, h⟩ := ky_obj (hts0 _ (tb_1 33 rfl))
      exact ⟨cA, fun q hq e => by
        simp only [tysL, List.mem_cons, List.not_mem_nil, or_false] at hq
        rcases hq with rfl | rfl | rfl | rfl | rfl | rfl | rfl | rfl <;> first | exact h | exact absurd e (by decide)⟩
    · obtain ⟨cA, h⟩ := ky_obj (hts0 _ (tb_1 161 rfl))
      exact ⟨cA, fun q hq e => by
        simp only [tysL, List.mem_cons, List.not_mem_nil, or_false] at hq
        rcases hq with rfl | rfl | rfl | rfl | rfl | rfl | rfl | rfl <;> first | exact h | exact absurd e (by decide)⟩
    · obtain ⟨cA, h⟩ := ky_arr (hts0 _ (tb_1 104 rfl))
      exact ⟨cA, fun q hq e => by
        simp only [tysL, List.mem_cons, List.not_mem_nil, or_false] at hq
        rcases hq with rfl | rfl | rfl | rfl | rfl | rfl | rfl | rfl <;> first | exact h | exact absurd e (by decide)⟩
    · obtain ⟨cA, h⟩ := ky_arr (hts0 _ (tb_1 179 rfl))
      exact ⟨cA, fun q hq e => by
        simp only [tysL, List.mem_cons, List.not_mem_nil, or_false] at hq
        rcases hq with rfl | rfl | rfl | rfl | rfl | rfl | rfl | rfl <;> first | exact h | exact absurd e (by decide)⟩
  obtain ⟨g, hg⟩ := Classical.axiomOfChoice har
  refine ⟨(fun k => (f k).1, fun k => (f k).2), g, fun G hD hc => ⟨⟨fun k q hq => by rw [hD]; exact hf k q hq, fun k q hq => ?_⟩, ?_⟩⟩
  · unfold tysG at hq
    rw [List.getElem?_map] at hq
    cases hx : tysL[k]? with
    | none => rw [hx] at hq; cases hq
    | some x =>
      rw [hx] at hq
      cases hq
      show ArrOfT s (gc G x.1) x.2 ∧ va_RA s (gc G x.1) x.2
      rw [hc]
      exact hg x.1 x (List.mem_of_getElem? hx) rfl
  · exact ⟨fun q hq => va_Nw.of rfl (hts0 _ (nest_mem q hq)), fun q hq => va_Nw.of rfl (hts0 _ (cast_mem q hq)), fun q hq => va_Nc.of (flat_of_before _ hgv _ (noc_mem q hq)), ⟨va_AO.of (hts0 _ (tb_1 33 rfl)), va_AO.of (hts0 _ (tb_1 161 rfl))⟩, hts0 _ (tb_1 104 rfl), hts0 _ (tb_1 179 rfl)⟩
theorem rm_f : room_1.frames = 2048 := rfl
theorem rm_l : room_1.locals = 84000 := rfl
theorem rm_c : room_1.cells = 600000 := rfl
theorem rm_s : room_1.slots = 7302250 := rfl
section LAWC
variable {p : Program} {l : Launch} {e : Env} {s : State} {m : MethodId} {below : List Frame} {meth : Method} {c : Code} {b L : Nat} {xs : Nat → Int32} {H : Heap} {locs : List Loc} {ls : Array Slot} {k n pc : Nat}
/-- a call of a public method: the receiver is cell 0 of its world -/
theorem lcallV (C0 : lw_At p s m meth c b L xs) {G : Gt} (hG : Gok G) (hKs : Ks G s) (hlow : ∀ q, gA G q → s.heap.size ≤ q) {y' : Mt} {idx na ci N : Nat} {T : u_T} {ty : Nat → FieldType} {av rest : List Value} {I : It} {h : Ht} {Q : Pt3} {d' mc' ms' : Nat}
    (hd : decode code pc = .ok (.invokevirtual idx, 3)) (hCls : CLS ci y'.1.cls T N ty) (h1 : Cond.methodLink R_law idx y'.1 ∈ TG) (h2 : Cond.instanceMethod y'.1 ∈ TG) (h2s : Cond.selects y'.1.cls y'.1 y'.1 ∈ TG) (h3 : Cond.initialized y'.1.cls ∈ TG) (h4 : Cond.code y'.1 y'.2.1 y'.2.2.1 y'.2.2.2 ∈ TG) (h5 : prms y'.1 na) (h6 : y'.2.2.1 ≤ 41)
    (hcl : (hs h 0).1 = ci) (h0 : 0 < hn h) (hlen : av.length = na) (hav : av.map (cv G) = av) (hC : Con G d' mc' ms' y' (.ref 0 :: av) I h Q) (hdd : d' ≤ 1000) (hk : k + mc' ≤ 600000) (hn' : n + ms' ≤ 7302250) (hls : ls.size = 4) (hst : (rest.map fun v => v.category).sum ≤ 8)
    (hW : Wd G I h H) (hS : va_S (fun q => s.heap.size ≤ q) s.heap H locs)
    (kk : ∀ r I' h' H' locs', Q r I' h' → Wd G I' h' H' → (H.size ≤ H'.size ∧ ∀ q, q < H.size → ¬ gA G q → H'[q]? = H[q]?) → va_S (fun q => s.heap.size ≤ q) s.heap H' locs' → W p l e room_1 s m #[Value.ref b] below meth c H' locs' (k + mc') (n + ms') (lw_Z below #[Value.ref b] s) (F0 m (pc + 3) ls ((r.map (cv G)).toList ++ rest))) :
    W p l e room_1 s m #[Value.ref b] below meth c H locs k n (lw_Z below #[Value.ref b] s) (F0 m pc ls (av.reverse ++ .ref (ga G 0) :: rest)) := by
  obtain ⟨hexec, hb, hrt, hml, hown, hts0, hX, hbl, hlk, hgv⟩ := C0
  have hts : ∀ w ∈ TG, w.before #[Value.ref b] s = true := fun w hw => hts0 w (tg_tbl hw)
  have r1 : (rmd d' mc' ms').frames + 1 ≤ room_1.frames := by rw [rm_f]; show d' + 1 ≤ 2048; omega
  have r2 : 8 + (y'.2.2.1 + 11) + (rmd d' mc' ms').locals ≤ room_1.locals := by rw [rm_l]; show 8 + (y'.2.2.1 + 11) + 60 * d' ≤ 84000; omega
  have r3 : k + mc' ≤ room_1.cells := by rw [rm_c]; exact hk
  have r4 : n + ms' ≤ room_1.slots := by rw [rm_s]; exact hn'
  intro T hT Xs
  have hrun : va_Run p l e room_1 s m #[Value.ref b] below meth c H locs k n mc' ms' (F0 m pc ls (av.reverse ++ .ref (ga G 0) :: rest)) rest (QC G Q (Value.ref (ga G 0) :: av).toArray) (gA G) :=
    va_runV (C := y'.1.cls) (b := ga G 0) (As := av) (nL := 4) (Ts := TG) (own := R_law) (rest := rest) ⟨hexec, hb, hml, hown, hts⟩ (hC l)
    ⟨callB_of na hts (tg_ws h4) rfl rfl rfl (hts _ h3) (hts _ h1) h5 ⟨r1, r2⟩, hts _ h2, hts _ h2s⟩
    ⟨pc_blind, rcv_of hKs.1 hW hCls h0 hcl, fun U hU hWm => ⟨by simp only [List.map_cons, hav]; rfl, by rw [hU]; exact hW, hKs.moved hWm⟩⟩ rfl hlen hls rfl (by show 2 * 0 + _ ≤ 8; omega) hd ⟨r3, r4⟩
  obtain ⟨v, st₀, t, T', L', q0, X', hL, e1, e2, ⟨⟨r, I', h', hv, hp, hw⟩, hz, hkp⟩, st⟩ := hrun T hT Xs
  cases hv
  rw [q0] at hz hkp
  obtain ⟨t2, a1, b1⟩ := kk r I' h' T'.heap (locs ++ L') hp (by rw [e1]; exact hw) ⟨by rw [e1]; exact hz, fun q z1 z2 => by rw [e1]; exact hkp q z1 z2⟩
    ⟨Nat.le_trans hS.1 (by rw [e1]; exact hz), fun q z1 z2 => by rw [e1, hkp q (Nat.lt_of_lt_of_le z1 hS.1) (fun z => z2 (hlow q z))]; exact hS.2.1 q z1 z2, fun q hq => by
      rcases List.mem_append.mp hq with z | z
      · exact hS.2.2 q z
      · exact hlow _ (hL q z)⟩ T' rfl X'
  exact ⟨t2, st t2 a1, b1⟩
/-- a constructor's call -/
theorem lcallI (C0 : lw_At p s m meth c b L xs) {G : Gt} (hG : Gok G) (hKs : Ks G s) (hlow : ∀ q, gA G q → s.heap.size ≤ q) {y' : Mt} {idx : Nat} {rest : List Value} {I : It} {h : Ht} {Q : Pt3} {d' mc' ms' : Nat}
    (hd : decode code pc = .ok (.invokespecial idx, 3)) (hi : y'.1.name = "<init>") (hre : y'.2.2.2 = none) (h1 : Cond.methodLink R_law idx y'.1 ∈ TG) (h2 : Cond.instanceMethod y'.1 ∈ TG) (h3 : Cond.initialized y'.1.cls ∈ TG) (h4 : Cond.code y'.1 y'.2.1 y'.2.2.1 y'.2.2.2 ∈ TG) (h5 : prms y'.1 0) (h6 : y'.2.2.1 ≤ 41)
    (hC : Con G d' mc' ms' y' [.ref 0] I h Q) (hdd : d' ≤ 1000) (hk : k + mc' ≤ 600000) (hn' : n + ms' ≤ 7302250) (hls : ls.size = 4) (hst : (rest.map fun v => v.category).sum ≤ 8)
    (hW : Wd G I h H) (hS : va_S (fun q => s.heap.size ≤ q) s.heap H locs)
    (kk : ∀ r I' h' H' locs', Q r I' h' → Wd G I' h' H' → (H.size ≤ H'.size ∧ ∀ q, q < H.size → ¬ gA G q → H'[q]? = H[q]?) → va_S (fun q => s.heap.size ≤ q) s.heap H' locs' → W p l e room_1 s m #[Value.ref b] below meth c H' locs' (k + mc') (n + ms') (lw_Z below #[Value.ref b] s) (F0 m (pc + 3) ls ((r.map (cv G)).toList ++ rest))) :
    W p l e room_1 s m #[Value.ref b] below meth c H locs k n (lw_Z below #[Value.ref b] s) (F0 m pc ls (.ref (ga G 0) :: rest)) := by
  obtain ⟨hexec, hb, hrt, hml, hown, hts0, hX, hbl, hlk, hgv⟩ := C0
  have hts : ∀ w ∈ TG, w.before #[Value.ref b] s = true := fun w hw => hts0 w (tg_tbl hw)
  have r1 : (rmd d' mc' ms').frames + 1 ≤ room_1.frames := by rw [rm_f]; show d' + 1 ≤ 2048; omega
  have r2 : 8 + (y'.2.2.1 + 11) + (rmd d' mc' ms').locals ≤ room_1.locals := by rw [rm_l]; show 8 + (y'.2.2.1 + 11) + 60 * d' ≤ 84000; omega
  have r3 : k + mc' ≤ room_1.cells := by rw [rm_c]; exact hk
  have r4 : n + ms' ≤ room_1.slots := by rw [rm_s]; exact hn'
  intro T hT Xs
  have hrun : va_Run p l e room_1 s m #[Value.ref b] below meth c H locs k n mc' ms' (F0 m pc ls (.ref (ga G 0) :: rest)) rest (QC G Q (Value.ref (ga G 0) :: []).toArray) (gA G) :=
    va_runI (bytes := y'.2.1) (maxL := y'.2.2.1) (b := ga G 0) (As := []) (nL := 4) (Ts := TG) (own := R_law) (rest := rest) ⟨hexec, hb, hml, hown, hts⟩ (hC l)
    ⟨callB_of (ws' := TG) 0 hts (tg_ws h4) (by rw [← hre]; rfl) rfl rfl (hts _ h3) (hts _ h1) h5 ⟨r1, r2⟩, hi, hts _ h2⟩
    ⟨pc_blind, fun U hU hWm => ⟨rfl, by rw [hU]; exact hW, hKs.moved hWm⟩⟩ rfl rfl hls rfl (by show 2 * 0 + _ ≤ 8; omega) hd ⟨r3, r4⟩
  obtain ⟨v, st₀, t, T', L', q0, X', hL, e1, e2, ⟨⟨r, I', h', hv, hp, hw⟩, hz, hkp⟩, st⟩ := hrun T hT Xs
  cases hv
  rw [q0] at hz hkp
  obtain ⟨t2, a1, b1⟩ := kk r I' h' T'.heap (locs ++ L') hp (by rw [e1]; exact hw) ⟨by rw [e1]; exact hz, fun q z1 z2 => by rw [e1]; exact hkp q z1 z2⟩
    ⟨Nat.le_trans hS.1 (by rw [e1]; exact hz), fun q z1 z2 => by rw [e1, hkp q (Nat.lt_of_lt_of_le z1 hS.1) (fun z => z2 (hlow q z))]; exact hS.2.1 q z1 z2, fun q hq => by
      rcases List.mem_append.mp hq with z | z
      · exact hS.2.2 q z
      · exact hlow _ (hL q z)⟩ T' rfl X'
  exact ⟨t2, st t2 a1, b1⟩
def hE : Ht := (fun _ _ => 0, fun _ _ => none, fun _ => (0, 0), 0)
def iE : It := fun _ _ => 0
/-- the first cell of a world is made -/
theorem lnew (C0 : lw_At p s m meth c b L xs) {G : Gt} (hKs : Ks G s) {idx ci N : Nat} {C : String} {T : u_T} {ty : Nat → FieldType} {st : List Value} (hd : decode code pc = .ok (.new idx, 3)) (hC : CLS ci C T N ty) (hdf : ∀ j, j < N → defaultValue (ty j) = if isr ci j then .null else .int 0) (hl : Cond.classLink R_law idx C ∈ TG) (hin : Cond.instantiable C N ∈ TG) (hini : Cond.initialized C ∈ TG)
    (hGn : Gnew G 0) (hsz : H.size = ga G 0) (hk : k + 1 ≤ 600000) (hn' : n + N ≤ 7302250) (hS : va_S (fun q => s.heap.size ≤ q) s.heap H locs)
    (kk : ∀ H1, Wd G (zI iE 0) (zH hE (ci, 0)) H1 → (∀ q, q < H.size → H1[q]? = H[q]?) → H1.size = H.size + 1 → va_S (fun q => s.heap.size ≤ q) s.heap H1 locs → W p l e room_1 s m #[Value.ref b] below meth c H1 locs (k + 1) (n + N) (lw_Z below #[Value.ref b] s) (F0 m (pc + 3) ls (.ref (ga G 0) :: st))) :
    W p l e room_1 s m #[Value.ref b] below meth c H locs k n (lw_Z below #[Value.ref b] s) (F0 m pc ls st) := by
  obtain ⟨hexec, hb, hrt, hml, hown, hts0, hX, hbl, hlk, hgv⟩ := C0
  have hts : ∀ w ∈ TG, w.before #[Value.ref b] s = true := fun w hw => hts0 w (tg_tbl hw)
  obtain ⟨c1, c2, c3, c4, c5, c6⟩ := hC
  have hKn := hKs.1.1 ci _ c1
  refine W.newcK hexec hb hown (hts _ hl) (hts _ hin) (hts _ hini) rfl hd hk hn' hKn.2.1 rfl fun H1 kC hkC e1 z1 o1 => ?_
  rw [hsz]
  refine kk H1 ⟨?_, by rw [z1, hsz]; exact hGn.2.symm⟩ o1 z1 ⟨Nat.le_trans hS.1 (by omega), fun x h1 h2 => (o1 x (Nat.lt_of_lt_of_le h1 hS.1)).trans (hS.2.1 x h1 h2), hS.2.2⟩
  intro i x hx
  obtain ⟨hi, hxa⟩ := wl_at hx
  have hi0 : i = 0 := by
    have : i < 0 + 1 := hi
    omega
  subst hi0
  rw [wl_get (show 0 < hn (zH hE (ci, 0)) from Nat.zero_lt_one)] at hx
  cases hx
  rw [ent_obj (show (hs (zH hE (ci, 0)) 0).1 = ci from congrArg Prod.fst (show (if (0 : Nat) = 0 then (ci, 0) else (0, 0)) = (ci, 0) from if_pos rfl)) c6, ← hsz]
  refine ⟨_, c1, (u_born ty hts c2 hKn hkC e1 c3).to fun j hj => ?_⟩
  rw [hdf j hj]
  show _ = vp_V _ j
  unfold vp_V
  rw [List.getD_eq_getElem?_getD, fvs_get (by rw [c5]; exact hj), Option.getD_some]
  unfold fvl
  by_cases hr : isr ci j = true
  · rw [if_pos hr, if_pos hr]; rfl
  · rw [if_neg hr, if_neg hr]; rfl
/-- an int of the script -/
theorem larg (C0 : lw_At p s m meth c b L xs) {i k0 : Nat} {z : Int} {rest : List Value} {lv : List (Nat × Value)} (hl : lv_has ls 4 lv) (h0 : lv[0]? = some (0, .ref b)) (h3 : lv[3]? = some (3, .int (nI i))) (hS : va_S (fun q => s.heap.size ≤ q) s.heap H locs)
    (d0 : decode code pc = .ok (.aload_n 0, 1)) (d1 : decode code (pc + 1) = .ok (.iload_n 3, 1)) (d2 : decode code (pc + 1 + 1) = .ok (.iconst z, 1)) (d3 : decode code (pc + 1 + 1 + 1) = .ok (.iadd, 1)) (d4 : decode code (pc + 1 + 1 + 1 + 1) = .ok (.iaload, 1)) (hz : Int32.ofInt z = nI k0) (hik : i + k0 < L) (hL : L < 2 ^ 31)
    (kk : W p l e room_1 s m #[Value.ref b] below meth c H locs k n (lw_Z below #[Value.ref b] s) (F0 m (pc + 1 + 1 + 1 + 1 + 1) ls (.int (xs (i + k0)) :: rest))) :
    W p l e room_1 s m #[Value.ref b] below meth c H locs k n (lw_Z below #[Value.ref b] s) (F0 m pc ls rest) := by
  obtain ⟨hexec, hb, hrt, hml, hown, hts0, hX, hbl, hlk, hgv⟩ := C0
  refine lv_aload_n hexec hb d0 rfl (lv_at hl 0 h0) ?_
  refine lv_iload_n hexec hb d1 rfl (lv_at hl 3 h3) ?_
  refine lv_iconst (v := nI k0) hexec hb d2 hz ?_
  refine lv_iadd hexec hb d3 ?_
  rw [nI_add]
  refine va_sld hexec hb hX hbl (Nat.not_le.mpr hbl) hS (vp_in_nI hik hL) d4 ?_
  rw [nI_clamp (by omega)]
  exact kk
theorem larg6 (C0 : lw_At p s m meth c b L xs) {i k0 : Nat} {z : Int} {rest : List Value} {lv : List (Nat × Value)} (hl : lv_has ls 4 lv) (h0 : lv[0]? = some (0, .ref b)) (h3 : lv[3]? = some (3, .int (nI i))) (hS : va_S (fun q => s.heap.size ≤ q) s.heap H locs)
    (d0 : decode code pc = .ok (.aload_n 0, 1)) (d1 : decode code (pc + 1) = .ok (.iload_n 3, 1)) (d2 : decode code (pc + 1 + 1) = .ok (.bipush z, 2)) (d3 : decode code (pc + 1 + 1 + 2) = .ok (.iadd, 1)) (d4 : decode code (pc + 1 + 1 + 2 + 1) = .ok (.iaload, 1)) (hz : (Int8.ofInt z).toInt32 = nI k0) (hik : i + k0 < L) (hL : L < 2 ^ 31)
    (kk : W p l e room_1 s m #[Value.ref b] below meth c H locs k n (lw_Z below #[Value.ref b] s) (F0 m (pc + 1 + 1 + 2 + 1 + 1) ls (.int (xs (i + k0)) :: rest))) :
    W p l e room_1 s m #[Value.ref b] below meth c H locs k n (lw_Z below #[Value.ref b] s) (F0 m pc ls rest) := by
  obtain ⟨hexec, hb, hrt, hml, hown, hts0, hX, hbl, hlk, hgv⟩ := C0
  refine lv_aload_n hexec hb d0 rfl (lv_at hl 0 h0) ?_
  refine lv_iload_n hexec hb d1 rfl (lv_at hl 3 h3) ?_
  refine lv_bipush (v := nI k0) hexec hb d2 hz ?_
  refine lv_iadd hexec hb d3 ?_
  rw [nI_add]
  refine va_sld hexec hb hX hbl (Nat.not_le.mpr hbl) hS (vp_in_nI hik hL) d4 ?_
  rw [nI_clamp (by omega)]
  exact kk
/-- the switch on what is to be called -/
theorem ltswitch (C0 : lw_At p s m meth c b L xs) {x : Int32} {dflt lo hi : Int} {offs : Array Int} {len dt : Nat} {st : List Value} (cs : List (Int32 × Nat)) (hd : decode code pc = .ok (.tableswitch dflt lo hi offs, len)) (ho : tsOk pc lo hi dflt offs cs dt = true)
    (kk : swk cs dt x (fun t => W p l e room_1 s m #[Value.ref b] below meth c H locs k n (lw_Z below #[Value.ref b] s) (F0 m t ls st))) : W p l e room_1 s m #[Value.ref b] below meth c H locs k n (lw_Z below #[Value.ref b] s) (F0 m pc ls (.int x :: st)) := by
  obtain ⟨hexec, hb, hrt, hml, hown, hts0, hX, hbl, hlk, hgv⟩ := C0
  simp only [tsOk, Bool.and_eq_true, decide_eq_true_eq, List.all_eq_true, List.mem_range] at ho
  obtain ⟨⟨h1, h2⟩, h3⟩ := ho
  rcases swk_use cs dt x _ kk with ⟨i, q, g1, g2, g3, -⟩ | ⟨g1, g2⟩
  · have hi : i < cs.length := (List.getElem?_eq_some_iff.mp g1).1
    have h4 := h3 i hi
    rw [g1] at h4
    cases ho : offs[i]? with
    | none => rw [ho] at h4; simp at h4
    | some o =>
      rw [ho] at h4
      simp only [Bool.and_eq_true, decide_eq_true_eq] at h4
      have hx : x.toInt = lo + (i : Int) := by rw [g2]; exact h4.2
      exact lv_tableIn hexec hb hd (by omega) (by omega) (by rw [hx, show (lo + (i : Int) - lo).toNat = i by omega]; exact ho) h4.1 g3
  · refine lv_tableOut hexec hb hd ?_ h1 g2
    by_cases hr : x.toInt < lo ∨ hi < x.toInt
    · exact hr
    · exfalso
      obtain ⟨i, hi⟩ : ∃ i : Nat, x.toInt = lo + (i : Int) := ⟨(x.toInt - lo).toNat, by omega⟩
      have hil : i < cs.length := by omega
      have h4 := h3 i hil
      rw [List.getElem?_eq_getElem hil] at h4
      cases ho : offs[i]? with
      | none => rw [ho] at h4; simp at h4
      | some o =>
        rw [ho] at h4
        simp only [Bool.and_eq_true, decide_eq_true_eq] at h4
        exact g1 _ (List.getElem_mem hil) (Int32.toInt_inj.mp (by rw [hi, h4.2]))
end LAWC
end
section
/-! the law's loop: both worlds, one picture -/
theorem fr_z {E : It} (hF : fresh E) (j : Nat) (hj : j ∈ pfL) (h1 : j ≠ 16) (h2 : j ≠ 48) : E 0 j = 0 := by
  rw [hF.1 j hj, if_neg (by omega)]
theorem fr_c {E : It} (hF : fresh E) (a j : Nat) (ha : a ∈ pcL) (h1 : a ≠ 36) : E a j = 0 := hF.2.1 a ha h1 j
theorem fr_inv {E : It} (hF : fresh E) : Inv E := by
  have z := fr_z hF
  have e0 : E 0 0 = nI 0 := z 0 (by decide) (by decide) (by decide)
  have e15 : E 0 15 = nI 0 := z 15 (by decide) (by decide) (by decide)
  have hn : nP E = 0 := by unfold nP; rw [e15]; rfl
  refine ⟨⟨⟨0, by decide, e0, fun d hd => absurd hd (Nat.not_lt_zero d)⟩, ⟨0, by decide, z 1 (by decide) (by decide) (by decide)⟩, Or.inl ?_, ⟨0, by decide, z 44 (by decide) (by decide) (by decide)⟩, fun y _ => ⟨0, by decide, fr_c hF 8 y (by decide) (by decide)⟩, fun k _ => ⟨0, 0, by decide, by decide, fr_c hF 23 k (by decide) (by decide), fr_c hF 24 k (by decide) (by decide)⟩, ⟨0, Nat.two_pow_pos _, z 5 (by decide) (by decide) (by decide)⟩, ⟨0, Nat.two_pow_pos _, z 6 (by decide) (by decide) (by decide)⟩⟩, Or.inl (z 47 (by decide) (by decide) (by decide)), ⟨by rw [hn]; exact e15, by rw [hn]; decide⟩, fun p hp => by rw [hn] at hp; exact absurd hp (Nat.not_lt_zero p), ⟨0, by decide, z 17 (by decide) (by decide) (by decide), fun j hj => absurd hj (Nat.not_lt_zero j)⟩, ⟨0, by decide, z 67 (by decide) (by decide) (by decide)⟩, fun t ht => Or.inl ⟨hF.2.2 t ht, fr_c hF 37 t (by decide) (by decide)⟩⟩
  rw [hF.1 16 (by decide), if_pos (Or.inl rfl)]
theorem RY_start {Ix E : It} {hx : Ht} (hI : IX0 Ix) (hH : HX0 hx) (hF : fresh E) : RY E (fun _ => 0) Ix hx := by
  have z := fr_z hF
  have c := fr_c hF
  have i0 : ∀ q, q < 73 → q ≠ 34 → ∀ j, Ix q j = 0 := hI.1
  have e0 : E 0 0 = 0 := z 0 (by decide) (by decide) (by decide)
  refine ⟨hH.hx, ⟨⟨?_, ?_, ?_, ?_⟩, fun j hj => ?_, fun y hy => ?_, fun d hd => ?_⟩, ⟨?_, fun e => ?_⟩, ⟨fun j hj v e => ?_, fun j hj v e => ?_⟩, ⟨⟨fun r e => ?_, fun p hp => ⟨⟨0, by decide, i0 _ (by omega) (by omega) 2⟩, fun k hk => ⟨0, by decide, i0 _ (by omega) (by omega) k⟩⟩⟩, fun r e => ?_⟩, ⟨?_, fun j hj => ?_⟩, fun t ht => ⟨?_, ?_, fun j hj => hH.2.2.2.2.2 _ (by omega) (by omega) j⟩, ⟨0, by decide, i0 0 (by decide) (by decide) 5⟩, ⟨0, by decide, i0 0 (by decide) (by decide) 7⟩⟩
  · rw [i0 1 (by decide) (by decide), e0]
  · rw [i0 1 (by decide) (by decide), z 1 (by decide) (by decide) (by decide)]
  · rw [i0 1 (by decide) (by decide), z 6 (by decide) (by decide) (by decide)]
  · rw [i0 1 (by decide) (by decide), z 44 (by decide) (by decide) (by decide)]
  · rw [i0 3 (by decide) (by decide), c 7 j (by decide) (by decide)]
  · rw [i0 4 (by decide) (by decide), c 8 y (by decide) (by decide)]
  · rw [e0] at hd; exact absurd hd (Nat.not_lt_zero d)
  · rw [i0 0 (by decide) (by decide), z 47 (by decide) (by decide) (by decide)]
  · rw [z 47 (by decide) (by decide) (by decide)] at e; exact absurd e (by decide)
  · rw [(hH.2.2.2.1 j hj).1] at e; cases e
  · rw [(hH.2.2.2.1 j hj).2] at e; cases e
  · rw [hH.2.2.2.2.1.1] at e; cases e
  · rw [hH.2.2.2.2.1.2] at e; cases e
  · rw [i0 32 (by decide) (by decide), z 67 (by decide) (by decide) (by decide)]
  · rw [i0 33 (by decide) (by decide), c 35 j (by decide) (by decide)]
  · rw [hI.2 t ht, hF.2.2 t ht]
  · rw [i0 35 (by decide) (by decide), c 37 t (by decide) (by decide)]
/-- the two worlds, of one picture -/
def LI (D : va_G) (ci : Nat → ClassId) (b0 : Nat) (E : It) (L : Nat → Int64) (Ix : It) (hx : Ht) (Im : It) (hm : Ht) (H : Heap) : Prop :=
  RZ E L Ix hx ∧ Inv E ∧ SM E L Im hm ∧ Wd (gX D ci b0 40) Ix hx H ∧ va_P D vwCl (wl (gM D ci b0 (fun n => n)) Im hm) H
def lvs (b b0 i : Nat) : List (Nat × Value) := [(0, .ref b), (1, .ref b0), (2, .ref (b0 + 73)), (3, .int (nI i))]
section LC2
variable {p : Program} {l : Launch} {e : Env} {s : State} {m : MethodId} {below : List Frame} {meth : Method} {c : Code} {b L : Nat} {xs : Nat → Int32} {H : Heap} {locs : List Loc} {ls : Array Slot} {k n pc : Nat} {D : va_G} {ci : Nat → ClassId} {b0 : Nat} {Ix : It} {hx : Ht} {Im : It} {hm : Ht}
/-- the class's call: an int comes back -/
theorem kxI (C0 : lw_At p s m meth c b L xs) (hKs : ∀ G, gD G = D → gc G = ci → Ks G s) (hb0 : b0 = s.heap.size) (hW : Wd (gX D ci b0 40) Ix hx H) (hH : HX hx) (hm40 : hn hm = 40) (hPM : va_P D vwCl (wl (gM D ci b0 (fun n => n)) Im hm) H) (hS : va_S (fun q => s.heap.size ≤ q) s.heap H locs) (hls : ls.size = 4)
    {y' : Mt} {idx na : Nat} {av rest : List Value} {f : Int32 → It → Ht → Prop} {d' mc' ms' : Nat}
    (hd : decode code pc = .ok (.invokevirtual idx, 3)) (hcls : y'.1.cls = RX11) (h1 : Cond.methodLink R_law idx y'.1 ∈ TG) (h2 : Cond.instanceMethod y'.1 ∈ TG) (h2s : Cond.selects y'.1.cls y'.1 y'.1 ∈ TG) (h3 : Cond.initialized y'.1.cls ∈ TG) (h4 : Cond.code y'.1 y'.2.1 y'.2.2.1 y'.2.2.2 ∈ TG) (h5 : prms y'.1 na) (h6 : y'.2.2.1 ≤ 41)
    (hlen : av.length = na) (hav : ∀ G, av.map (cv G) = av) (hC : Con (gX D ci b0 40) d' mc' ms' y' (.ref 0 :: av) Ix hx (qI f)) (hdd : d' ≤ 1000) (hk : k + mc' ≤ 600000) (hn' : n + ms' ≤ 7302250) (hst : (rest.map fun v => v.category).sum ≤ 8)
    (kk : ∀ (x : Int32) (I' : It) (h' : Ht) (H' : Heap) (locs' : List Loc), f x I' h' → Wd (gX D ci b0 40) I' h' H' → va_P D vwCl (wl (gM D ci b0 (fun n => n)) Im hm) H' → va_S (fun q => s.heap.size ≤ q) s.heap H' locs' → W p l e room_1 s m #[Value.ref b] below meth c H' locs' (k + mc') (n + ms') (lw_Z below #[Value.ref b] s) (F0 m (pc + 3) ls (.int x :: rest))) :
    W p l e room_1 s m #[Value.ref b] below meth c H locs k n (lw_Z below #[Value.ref b] s) (F0 m pc ls (av.reverse ++ .ref b0 :: rest)) := by
  refine lcallV C0 gX_ok (hKs _ rfl rfl) (fun q hq => by rw [← hb0]; exact gX_low hq) hd (by rw [hcls]; exact KX11) h1 h2 h2s h3 h4 h5 h6 (CC hH 0 (by decide) rfl) (CLt hH (by decide)) hlen (hav _) hC hdd hk hn' hls hst hW hS (fun r I' h' H' locs' hq hW' hfr hS' => ?_)
  obtain ⟨x, rfl, hf⟩ := hq
  exact kk x I' h' H' locs' hf hW' (keepM hm40 hPM hfr.2) hS'
theorem kxL (C0 : lw_At p s m meth c b L xs) (hKs : ∀ G, gD G = D → gc G = ci → Ks G s) (hb0 : b0 = s.heap.size) (hW : Wd (gX D ci b0 40) Ix hx H) (hH : HX hx) (hm40 : hn hm = 40) (hPM : va_P D vwCl (wl (gM D ci b0 (fun n => n)) Im hm) H) (hS : va_S (fun q => s.heap.size ≤ q) s.heap H locs) (hls : ls.size = 4)
    {y' : Mt} {idx na : Nat} {av rest : List Value} {f : Int64 → It → Ht → Prop} {d' mc' ms' : Nat}
    (hd : decode code pc = .ok (.invokevirtual idx, 3)) (hcls : y'.1.cls = RX11) (h1 : Cond.methodLink R_law idx y'.1 ∈ TG) (h2 : Cond.instanceMethod y'.1 ∈ TG) (h2s : Cond.selects y'.1.cls y'.1 y'.1 ∈ TG) (h3 : Cond.initialized y'.1.cls ∈ TG) (h4 : Cond.code y'.1 y'.2.1 y'.2.2.1 y'.2.2.2 ∈ TG) (h5 : prms y'.1 na) (h6 : y'.2.2.1 ≤ 41)
    (hlen : av.length = na) (hav : ∀ G, av.map (cv G) = av) (hC : Con (gX D ci b0 40) d' mc' ms' y' (.ref 0 :: av) Ix hx (qL f)) (hdd : d' ≤ 1000) (hk : k + mc' ≤ 600000) (hn' : n + ms' ≤ 7302250) (hst : (rest.map fun v => v.category).sum ≤ 8)
    (kk : ∀ (x : Int64) (I' : It) (h' : Ht) (H' : Heap) (locs' : List Loc), f x I' h' → Wd (gX D ci b0 40) I' h' H' → va_P D vwCl (wl (gM D ci b0 (fun n => n)) Im hm) H' → va_S (fun q => s.heap.size ≤ q) s.heap H' locs' → W p l e room_1 s m #[Value.ref b] below meth c H' locs' (k + mc') (n + ms') (lw_Z below #[Value.ref b] s) (F0 m (pc + 3) ls (.long x :: rest))) :
    W p l e room_1 s m #[Value.ref b] below meth c H locs k n (lw_Z below #[Value.ref b] s) (F0 m pc ls (av.reverse ++ .ref b0 :: rest)) := by
  refine lcallV C0 gX_ok (hKs _ rfl rfl) (fun q hq => by rw [← hb0]; exact gX_low hq) hd (by rw [hcls]; exact KX11) h1 h2 h2s h3 h4 h5 h6 (CC hH 0 (by decide) rfl) (CLt hH (by decide)) hlen (hav _) hC hdd hk hn' hls hst hW hS (fun r I' h' H' locs' hq hW' hfr hS' => ?_)
  obtain ⟨x, rfl, hf⟩ := hq
  exact kk x I' h' H' locs' hf hW' (keepM hm40 hPM hfr.2) hS'
/-- the reference's call -/
theorem kmI (C0 : lw_At p s m meth c b L xs) (hKs : ∀ G, gD G = D → gc G = ci → Ks G s) (hb0 : b0 = s.heap.size) (hW : Wd (gX D ci b0 40) Ix hx H) (hx1000 : hn hx ≤ 1000) (hM : HM hm) (hPM : va_P D vwCl (wl (gM D ci b0 (fun n => n)) Im hm) H) (hS : va_S (fun q => s.heap.size ≤ q) s.heap H locs) (hls : ls.size = 4)
    {y' : Mt} {idx na : Nat} {av rest : List Value} {f : Int32 → It → Ht → Prop} {d' : Nat}
    (hd : decode code pc = .ok (.invokevirtual idx, 3)) (hcls : y'.1.cls = RX12) (h1 : Cond.methodLink R_law idx y'.1 ∈ TG) (h2 : Cond.instanceMethod y'.1 ∈ TG) (h2s : Cond.selects y'.1.cls y'.1 y'.1 ∈ TG) (h3 : Cond.initialized y'.1.cls ∈ TG) (h4 : Cond.code y'.1 y'.2.1 y'.2.2.1 y'.2.2.2 ∈ TG) (h5 : prms y'.1 na) (h6 : y'.2.2.1 ≤ 41)
    (hlen : av.length = na) (hav : ∀ G, av.map (cv G) = av) (hC : ∀ G, Gok G → Con G d' 0 0 y' (.ref 0 :: av) Im hm (qI f)) (hdd : d' ≤ 1000) (hk : k ≤ 600000) (hn' : n ≤ 7302250) (hst : (rest.map fun v => v.category).sum ≤ 8)
    (kk : ∀ (x : Int32) (I' : It) (h' : Ht) (H' : Heap) (locs' : List Loc), f x I' h' → Wd (gX D ci b0 40) Ix hx H' → va_P D vwCl (wl (gM D ci b0 (fun n => n)) I' h') H' → va_S (fun q => s.heap.size ≤ q) s.heap H' locs' → W p l e room_1 s m #[Value.ref b] below meth c H' locs' k n (lw_Z below #[Value.ref b] s) (F0 m (pc + 3) ls (.int x :: rest))) :
    W p l e room_1 s m #[Value.ref b] below meth c H locs k n (lw_Z below #[Value.ref b] s) (F0 m pc ls (av.reverse ++ .ref (b0 + 73) :: rest)) := by
  refine lcallV (G := gM D ci b0 (fun _ => H.size)) C0 gM_ok (hKs _ rfl rfl) (fun q hq => by rw [← hb0]; exact gM_low hq) hd (by rw [hcls]; exact KX12) h1 h2 h2s h3 h4 h5 h6 (MC hM) (MLt hM (by decide)) hlen (hav _) (hC _ gM_ok) hdd hk hn' hls hst ⟨hPM, rfl⟩ hS (fun r I' h' H' locs' hq hW' hfr hS' => ?_)
  obtain ⟨x, rfl, hf⟩ := hq
  exact kk x I' h' H' locs' hf ⟨keepX hx1000 hW.1 hfr.2, hW'.2.trans hW.2⟩ hW'.1 hS'
theorem kmL (C0 : lw_At p s m meth c b L xs) (hKs : ∀ G, gD G = D → gc G = ci → Ks G s) (hb0 : b0 = s.heap.size) (hW : Wd (gX D ci b0 40) Ix hx H) (hx1000 : hn hx ≤ 1000) (hM : HM hm) (hPM : va_P D vwCl (wl (gM D ci b0 (fun n => n)) Im hm) H) (hS : va_S (fun q => s.heap.size ≤ q) s.heap H locs) (hls : ls.size = 4)
    {y' : Mt} {idx na : Nat} {av rest : List Value} {f : Int64 → It → Ht → Prop} {d' : Nat}
    (hd : decode code pc = .ok (.invokevirtual idx, 3)) (hcls : y'.1.cls = RX12) (h1 : Cond.methodLink R_law idx y'.1 ∈ TG) (h2 : Cond.instanceMethod y'.1 ∈ TG) (h2s : Cond.selects y'.1.cls y'.1 y'.1 ∈ TG) (h3 : Cond.initialized y'.1.cls ∈ TG) (h4 : Cond.code y'.1 y'.2.1 y'.2.2.1 y'.2.2.2 ∈ TG) (h5 : prms y'.1 na) (h6 : y'.2.2.1 ≤ 41)
    (hlen : av.length = na) (hav : ∀ G, av.map (cv G) = av) (hC : ∀ G, Gok G → Con G d' 0 0 y' (.ref 0 :: av) Im hm (qL f)) (hdd : d' ≤ 1000) (hk : k ≤ 600000) (hn' : n ≤ 7302250) (hst : (rest.map fun v => v.category).sum ≤ 8)
    (kk : ∀ (x : Int64) (I' : It) (h' : Ht) (H' : Heap) (locs' : List Loc), f x I' h' → Wd (gX D ci b0 40) Ix hx H' → va_P D vwCl (wl (gM D ci b0 (fun n => n)) I' h') H' → va_S (fun q => s.heap.size ≤ q) s.heap H' locs' → W p l e room_1 s m #[Value.ref b] below meth c H' locs' k n (lw_Z below #[Value.ref b] s) (F0 m (pc + 3) ls (.long x :: rest))) :
    W p l e room_1 s m #[Value.ref b] below meth c H locs k n (lw_Z below #[Value.ref b] s) (F0 m pc ls (av.reverse ++ .ref (b0 + 73) :: rest)) := by
  refine lcallV (G := gM D ci b0 (fun _ => H.size)) C0 gM_ok (hKs _ rfl rfl) (fun q hq => by rw [← hb0]; exact gM_low hq) hd (by rw [hcls]; exact KX12) h1 h2 h2s h3 h4 h5 h6 (MC hM) (MLt hM (by decide)) hlen (hav _) (hC _ gM_ok) hdd hk hn' hls hst ⟨hPM, rfl⟩ hS (fun r I' h' H' locs' hq hW' hfr hS' => ?_)
  obtain ⟨x, rfl, hf⟩ := hq
  exact kk x I' h' H' locs' hf ⟨keepX hx1000 hW.1 hfr.2, hW'.2.trans hW.2⟩ hW'.1 hS'
end LC2
/-! queries leave the picture -/
theorem told_2 (E : It) (w : Int32) : (toldS E w).2 = E := by unfold toldS; split <;> (try split) <;> (try split) <;> (try split) <;> (try split) <;> (try split) <;> (try split) <;> rfl
theorem said_2 (E : It) (a y : Int32) : (saidS E a y).2 = E := by unfold saidS; split <;> (try split) <;> rfl
theorem count_2 (E : It) (w : Int32) : (countS E w).2 = E := by unfold countS; split <;> (try split) <;> (try split) <;> (try split) <;> (try split) <;> (try split) <;> rfl
theorem it2g {c : Prop} [Decidable c] {E : It} {t s : Int32 × It} (h1 : t.2 = E) (h2 : s.2 = E) : (if c then t else s).2 = E := by
  by_cases h : c
  · rw [if_pos h]; exact h1
  · rw [if_neg h]; exact h2
theorem of_2 (E : It) (a w : Int32) : (ofS E a w).2 = E := by
  unfold ofS
  repeat (first | rfl | apply it2g)
theorem run_2 (E : It) (n w : Int32) : (runS E n w).2 = E := by unfold runS; split <;> (try split) <;> (try split) <;> (try split) <;> (try split) <;> (try split) <;> (try split) <;> rfl
theorem more_2 (E : It) (y n : Int32) : (moreS E y n).2 = E := by unfold moreS; split <;> (try split) <;> (try split) <;> rfl
theorem ask_2 (E : It) (n : Int32) : (askS E n).2 = E := by unfold askS; split <;> rfl
theorem drop_2 (E : It) (n : Int32) : (dropS E n).2 = E := by unfold dropS; split <;> rfl
theorem judge_2 (E : It) (L : Nat → Int64) (t i : Int32) : (judgeS E L t i).2 = E := by unfold judgeS; split <;> (try split) <;> (try split) <;> rfl
theorem split_2 (E : It) (h n w : Int32) : (splitS E h n w).2 = E := by unfold splitS; split <;> (try split) <;> (try split) <;> (try split) <;> rfl
theorem when_2 (E : It) (a : Int32) : (whenS E a).2 = E := by unfold whenS; split <;> rfl
theorem busiest_2 (E : It) (a w : Int32) : (busiestS E a w).2 = E := by unfold busiestS; split <;> (try split) <;> (try split) <;> rfl
theorem all_2 (E : It) (a : Int32) : (allS E a).2 = E := by unfold allS; split <;> rfl
theorem trace_2 (E : It) (a : Int32) : (traceS E a).2 = E := by unfold traceS; split <;> (try split) <;> rfl
theorem taken_2 (E : It) (a k : Int32) : (takenS E a k).2 = E := by unfold takenS; split <;> (try split) <;> (try split) <;> rfl
theorem RY.feed {E : It} {L : Nat → Int64} {I : It} {h : Ht} {s : Int32} (hY : RY E L I h) : RY (feedS E s).2 L I h := by
  unfold feedS
  split
  · exact hY
  · split
    · exact hY
    · exact (hY.cc (by decide)).f (by decide)
theorem RY.post {E E2 : It} {L : Nat → Int64} {I : It} {h : Ht} {v : Int32} (hY : RY E L I h) (hP : PoS E E2 v) : RY E2 L I h := hY.eE hP.eE.1 hP.eE.2
theorem li7 {L i : Nat} (hL : L ≤ 3584) (h : ¬ nI L - 7 < nI i) (hi : i < 2 ^ 31) : i + 7 ≤ L := by
  have h1 := Int32.le_iff_toInt_le.mp (Int32.not_lt.mp h)
  rw [show (7 : Int32) = nI 7 from rfl, Int32.toInt_sub, nI_toInt (show L < 2 ^ 31 by omega), nI_toInt (show 7 < 2 ^ 31 by decide), nI_toInt hi, Int.bmod_eq_of_le (by omega) (by omega)] at h1
  omega
end
section
set_option maxHeartbeats 4000000 in
set_option maxRecDepth 20000 in
theorem lc_0 {p : Program} {l : Launch} {e : Env} {s : State} {m : MethodId} {below : List Frame} {meth : Method} {c : Code} {b L i k n : Nat} {xs : Nat → Int32} {H : Heap} {locs : List Loc} {ls : Array Slot} {D : va_G} {ci : Nat → ClassId} {b0 : Nat} {E : It} {Li : Nat → Int64} {Ix : It} {hxx : Ht} {Im : It} {hmm : Ht} (C0 : lw_At p s m meth c b L xs) (hKs : ∀ G, gD G = D → gc G = ci → Ks G s) (hb0 : b0 = s.heap.size) (F : LI D ci b0 E Li Ix hxx Im hmm H) (h900 : hn hxx ≤ 900) (hk : k + 1 ≤ 600000) (hnn : n + 6 ≤ 7302250) (hl : lv_has ls 4 (lvs b b0 i)) (hS : va_S (fun q => s.heap.size ≤ q) s.heap H locs) (h7 : i + 7 ≤ L) (hL31 : L < 2 ^ 31)
    (hend : ∀ (E' : It) (L' : Nat → Int64) (Ix' : It) (hx' : Ht) (Im' : It) (hm' : Ht) (H' : Heap) (locs' : List Loc), LI D ci b0 E' L' Ix' hx' Im' hm' H' → hn hx' ≤ hn hxx + 1 → va_S (fun q => s.heap.size ≤ q) s.heap H' locs' → W p l e room_1 s m #[Value.ref b] below meth c H' locs' (k + 1) (n + 6) (lw_Z below #[Value.ref b] s) (F0 m 1307 ls [])) : W p l e room_1 s m #[Value.ref b] below meth c H locs k n (lw_Z below #[Value.ref b] s) (F0 m 188 ls []) := by
  obtain ⟨hx, hb, -, hml, hown, hts0, -, -, -, -⟩ := id C0
  refine lv_aload_n hx hb (dk DL_0 22 rfl).1 rfl (lv_at hl 1 rfl) ?_
  refine larg (k0 := 1) C0 hl rfl rfl hS (dk DL_0 23 rfl).1 (dk DL_0 24 rfl).1 (dk DL_0 25 rfl).1 (dk DL_0 26 rfl).1 (dk DL_0 27 rfl).1 rfl (by omega) hL31 ?_
  refine larg (k0 := 2) C0 hl rfl rfl hS (dk DL_0 28 rfl).1 (dk DL_0 29 rfl).1 (dk DL_0 30 rfl).1 (dk DL_0 31 rfl).1 (dk DL_0 32 rfl).1 rfl (by omega) hL31 ?_
  refine larg (k0 := 3) C0 hl rfl rfl hS (dk DL_0 33 rfl).1 (dk DL_0 34 rfl).1 (dk DL_0 35 rfl).1 (dk DL_0 36 rfl).1 (dk DL_0 37 rfl).1 rfl (by omega) hL31 ?_
  refine larg (k0 := 4) C0 hl rfl rfl hS (dk DL_0 38 rfl).1 (dk DL_0 39 rfl).1 (dk DL_0 40 rfl).1 (dk DL_0 41 rfl).1 (dk DL_0 42 rfl).1 rfl (by omega) hL31 ?_
  refine larg (k0 := 5) C0 hl rfl rfl hS (dk DL_0 43 rfl).1 (dk DL_0 44 rfl).1 (dk DL_0 45 rfl).1 (dk DL_0 46 rfl).1 (dk DL_0 47 rfl).1 rfl (by omega) hL31 ?_
  refine larg6 (k0 := 6) C0 hl rfl rfl hS (dk DL_0 48 rfl).1 (dk DL_0 49 rfl).1 (dk DL_1 0 rfl).1 (dk DL_1 1 rfl).1 (dk DL_1 2 rfl).1 rfl (by omega) hL31 ?_
  refine kxI (av := [.int (xs (i + 1)), .int (xs (i + 2)), .int (xs (i + 3)), .int (xs (i + 4)), .int (xs (i + 5)), .int (xs (i + 6))]) C0 hKs hb0 F.2.2.2.1 F.1.1.1 F.2.2.1.2.1.1 F.2.2.2.2 hS hl.1 (dk DL_1 3 rfl).1 rfl (tg_2 25 rfl rfl) (tg_2 26 rfl rfl) (tg_2 27 rfl rfl) (tg_1 1 rfl rfl) kX11_doing pmX11_doing (by decide) rfl (fun _ => rfl) (zx_doing gX_ok F.2.1 F.1 (gX_new F.1.1.1.1)) (Nat.le_of_ble_eq_true rfl) (by omega) (by omega) (Nat.le_of_ble_eq_true rfl) (fun x1 I1 h1 H1 locs1 hq1 hW1 hP1 hS => ?_)
  obtain ⟨rfl, hY1, hn1⟩ := hq1
  refine lv_pop hx hb (dk DL_1 4 rfl).1 rfl ?_
  refine lv_aload_n hx hb (dk DL_1 5 rfl).1 rfl (lv_at hl 2 rfl) ?_
  refine larg (k0 := 1) C0 hl rfl rfl hS (dk DL_1 6 rfl).1 (dk DL_1 7 rfl).1 (dk DL_1 8 rfl).1 (dk DL_1 9 rfl).1 (dk DL_1 10 rfl).1 rfl (by omega) hL31 ?_
  refine larg (k0 := 2) C0 hl rfl rfl hS (dk DL_1 11 rfl).1 (dk DL_1 12 rfl).1 (dk DL_1 13 rfl).1 (dk DL_1 14 rfl).1 (dk DL_1 15 rfl).1 rfl (by omega) hL31 ?_
  refine larg (k0 := 3) C0 hl rfl rfl hS (dk DL_1 16 rfl).1 (dk DL_1 17 rfl).1 (dk DL_1 18 rfl).1 (dk DL_1 19 rfl).1 (dk DL_1 20 rfl).1 rfl (by omega) hL31 ?_
  refine larg (k0 := 4) C0 hl rfl rfl hS (dk DL_1 21 rfl).1 (dk DL_1 22 rfl).1 (dk DL_1 23 rfl).1 (dk DL_1 24 rfl).1 (dk DL_1 25 rfl).1 rfl (by omega) hL31 ?_
  refine larg (k0 := 5) C0 hl rfl rfl hS (dk DL_1 26 rfl).1 (dk DL_1 27 rfl).1 (dk DL_1 28 rfl).1 (dk DL_1 29 rfl).1 (dk DL_1 30 rfl).1 rfl (by omega) hL31 ?_
  refine larg6 (k0 := 6) C0 hl rfl rfl hS (dk DL_1 31 rfl).1 (dk DL_1 32 rfl).1 (dk DL_1 33 rfl).1 (dk DL_1 34 rfl).1 (dk DL_1 35 rfl).1 rfl (by omega) hL31 ?_
  refine kmI (av := [.int (xs (i + 1)), .int (xs (i + 2)), .int (xs (i + 3)), .int (xs (i + 4)), .int (xs (i + 5)), .int (xs (i + 6))]) C0 hKs hb0 hW1 (by omega) F.2.2.1.2.1 hP1 hS hl.1 (dk DL_1 36 rfl).1 rfl (tg_5 212 rfl rfl) (tg_5 213 rfl rfl) (tg_5 214 rfl rfl) (tg_1 7 rfl rfl) kX12_doing pmX12_doing (by decide) rfl (fun _ => rfl) (fun G hG => c_X12_doing hG F.2.2.1.2.1 F.2.1 F.2.2.1.1 F.2.2.1.2.2) (Nat.le_of_ble_eq_true rfl) (by omega) (by omega) (Nat.le_of_ble_eq_true rfl) (fun x2 I2 h2 H2 locs2 hq2 hW2 hP2 hS => ?_)
  obtain ⟨rfl, hR2⟩ := hq2
  refine lv_pop hx hb (dk DL_1 37 rfl).1 rfl ?_
  refine lv_goto (tgt := 1307) hx hb (dk DL_1 38 rfl).1 (by decide) ?_
  exact W.widen (by omega) (by omega) (hend _ _ _ _ _ _ _ _ ⟨hY1, F.2.1.doing, hR2, hW2, hP2⟩ (by omega) hS)
set_option maxHeartbeats 4000000 in
set_option maxRecDepth 20000 in
theorem lc_1 {p : Program} {l : Launch} {e : Env} {s : State} {m : MethodId} {below : List Frame} {meth : Method} {c : Code} {b L i k n : Nat} {xs : Nat → Int32} {H : Heap} {locs : List Loc} {ls : Array Slot} {D : va_G} {ci : Nat → ClassId} {b0 : Nat} {E : It} {Li : Nat → Int64} {Ix : It} {hxx : Ht} {Im : It} {hmm : Ht} (C0 : lw_At p s m meth c b L xs) (hKs : ∀ G, gD G = D → gc G = ci → Ks G s) (hb0 : b0 = s.heap.size) (F : LI D ci b0 E Li Ix hxx Im hmm H) (h900 : hn hxx ≤ 900) (hk : k + 1 ≤ 600000) (hnn : n + 6 ≤ 7302250) (hl : lv_has ls 4 (lvs b b0 i)) (hS : va_S (fun q => s.heap.size ≤ q) s.heap H locs) (h7 : i + 7 ≤ L) (hL31 : L < 2 ^ 31)
    (hend : ∀ (E' : It) (L' : Nat → Int64) (Ix' : It) (hx' : Ht) (Im' : It) (hm' : Ht) (H' : Heap) (locs' : List Loc), LI D ci b0 E' L' Ix' hx' Im' hm' H' → hn hx' ≤ hn hxx + 1 → va_S (fun q => s.heap.size ≤ q) s.heap H' locs' → W p l e room_1 s m #[Value.ref b] below meth c H' locs' (k + 1) (n + 6) (lw_Z below #[Value.ref b] s) (F0 m 1307 ls [])) : W p l e room_1 s m #[Value.ref b] below meth c H locs k n (lw_Z below #[Value.ref b] s) (F0 m 263 ls []) := by
  obtain ⟨hx, hb, -, hml, hown, hts0, -, -, -, -⟩ := id C0
  refine lv_aload_n hx hb (dk DL_1 39 rfl).1 rfl (lv_at hl 1 rfl) ?_
  refine larg (k0 := 1) C0 hl rfl rfl hS (dk DL_1 40 rfl).1 (dk DL_1 41 rfl).1 (dk DL_1 42 rfl).1 (dk DL_1 43 rfl).1 (dk DL_1 44 rfl).1 rfl (by omega) hL31 ?_
  refine larg (k0 := 2) C0 hl rfl rfl hS (dk DL_1 45 rfl).1 (dk DL_1 46 rfl).1 (dk DL_1 47 rfl).1 (dk DL_1 48 rfl).1 (dk DL_1 49 rfl).1 rfl (by omega) hL31 ?_
  refine kxI (av := [.int (xs (i + 1)), .int (xs (i + 2))]) C0 hKs hb0 F.2.2.2.1 F.1.1.1 F.2.2.1.2.1.1 F.2.2.2.2 hS hl.1 (dk DL_2 0 rfl).1 rfl (tg_2 172 rfl rfl) (tg_2 173 rfl rfl) (tg_2 174 rfl rfl) (tg_1 1 rfl rfl) kX11_of pmX11_of (by decide) rfl (fun _ => rfl) (zx_of gX_ok F.2.1 F.1) (Nat.le_of_ble_eq_true rfl) (by omega) (by omega) (Nat.le_of_ble_eq_true rfl) (fun x1 I1 h1 H1 locs1 hq1 hW1 hP1 hS => ?_)
  obtain ⟨rfl, hY1, hn1⟩ := hq1
  refine lv_pop hx hb (dk DL_2 1 rfl).1 rfl ?_
  refine lv_aload_n hx hb (dk DL_2 2 rfl).1 rfl (lv_at hl 2 rfl) ?_
  refine larg (k0 := 1) C0 hl rfl rfl hS (dk DL_2 3 rfl).1 (dk DL_2 4 rfl).1 (dk DL_2 5 rfl).1 (dk DL_2 6 rfl).1 (dk DL_2 7 rfl).1 rfl (by omega) hL31 ?_
  refine larg (k0 := 2) C0 hl rfl rfl hS (dk DL_2 8 rfl).1 (dk DL_2 9 rfl).1 (dk DL_2 10 rfl).1 (dk DL_2 11 rfl).1 (dk DL_2 12 rfl).1 rfl (by omega) hL31 ?_
  refine kmI (av := [.int (xs (i + 1)), .int (xs (i + 2))]) C0 hKs hb0 hW1 (by omega) F.2.2.1.2.1 hP1 hS hl.1 (dk DL_2 13 rfl).1 rfl (tg_6 80 rfl rfl) (tg_6 81 rfl rfl) (tg_6 82 rfl rfl) (tg_1 7 rfl rfl) kX12_of pmX12_of (by decide) rfl (fun _ => rfl) (fun G hG => c_X12_of hG F.2.2.1.2.1 F.2.1 F.2.2.1.1 F.2.2.1.2.2) (Nat.le_of_ble_eq_true rfl) (by omega) (by omega) (Nat.le_of_ble_eq_true rfl) (fun x2 I2 h2 H2 locs2 hq2 hW2 hP2 hS => ?_)
  obtain ⟨rfl, hR2⟩ := hq2
  refine lv_pop hx hb (dk DL_2 14 rfl).1 rfl ?_
  refine lv_goto (tgt := 1307) hx hb (dk DL_2 15 rfl).1 (by decide) ?_
  exact W.widen (by omega) (by omega) (hend _ _ _ _ _ _ _ _ ⟨hY1, (by rw [of_2]; exact F.2.1), hR2, hW2, hP2⟩ (by omega) hS)
set_option maxHeartbeats 4000000 in
set_option maxRecDepth 20000 in
theorem lc_2 {p : Program} {l : Launch} {e : Env} {s : State} {m : MethodId} {below : List Frame} {meth : Method} {c : Code} {b L i k n : Nat} {xs : Nat → Int32} {H : Heap} {locs : List Loc} {ls : Array Slot} {D : va_G} {ci : Nat → ClassId} {b0 : Nat} {E : It} {Li : Nat → Int64} {Ix : It} {hxx : Ht} {Im : It} {hmm : Ht} (C0 : lw_At p s m meth c b L xs) (hKs : ∀ G, gD G = D → gc G = ci → Ks G s) (hb0 : b0 = s.heap.size) (F : LI D ci b0 E Li Ix hxx Im hmm H) (h900 : hn hxx ≤ 900) (hk : k + 1 ≤ 600000) (hnn : n + 6 ≤ 7302250) (hl : lv_has ls 4 (lvs b b0 i)) (hS : va_S (fun q => s.heap.size ≤ q) s.heap H locs) (h7 : i + 7 ≤ L) (hL31 : L < 2 ^ 31)
    (hend : ∀ (E' : It) (L' : Nat → Int64) (Ix' : It) (hx' : Ht) (Im' : It) (hm' : Ht) (H' : Heap) (locs' : List Loc), LI D ci b0 E' L' Ix' hx' Im' hm' H' → hn hx' ≤ hn hxx + 1 → va_S (fun q => s.heap.size ≤ q) s.heap H' locs' → W p l e room_1 s m #[Value.ref b] below meth c H' locs' (k + 1) (n + 6) (lw_Z below #[Value.ref b] s) (F0 m 1307 ls [])) : W p l e room_1 s m #[Value.ref b] below meth c H locs k n (lw_Z below #[Value.ref b] s) (F0 m 296 ls []) := by
  obtain ⟨hx, hb, -, hml, hown, hts0, -, -, -, -⟩ := id C0
  refine lv_aload_n hx hb (dk DL_2 16 rfl).1 rfl (lv_at hl 1 rfl) ?_
  refine larg (k0 := 1) C0 hl rfl rfl hS (dk DL_2 17 rfl).1 (dk DL_2 18 rfl).1 (dk DL_2 19 rfl).1 (dk DL_2 20 rfl).1 (dk DL_2 21 rfl).1 rfl (by omega) hL31 ?_
  refine larg (k0 := 2) C0 hl rfl rfl hS (dk DL_2 22 rfl).1 (dk DL_2 23 rfl).1 (dk DL_2 24 rfl).1 (dk DL_2 25 rfl).1 (dk DL_2 26 rfl).1 rfl (by omega) hL31 ?_
  refine lv_if_eq (tgt := 314) hx hb (dk DL_2 27 rfl).1 (by decide) (fun hz => ?_) (fun hz => ?_)
  · refine lv_iconst (v := 0) hx hb (dk DL_2 30 rfl).1 (by decide) ?_
    refine kxI (av := [.int (xs (i + 1)), .int 0]) C0 hKs hb0 F.2.2.2.1 F.1.1.1 F.2.2.1.2.1.1 F.2.2.2.2 hS hl.1 (dk DL_2 31 rfl).1 rfl (tg_3 22 rfl rfl) (tg_3 23 rfl rfl) (tg_3 24 rfl rfl) (tg_1 1 rfl rfl) kX11_needless pmX11_needless (by decide) rfl (fun _ => rfl) (zx_needless gX_ok F.2.1 F.1) (Nat.le_of_ble_eq_true rfl) (by omega) (by omega) (Nat.le_of_ble_eq_true rfl) (fun x1 I1 h1 H1 locs1 hq1 hW1 hP1 hS => ?_)
    obtain ⟨rfl, hY1, hn1⟩ := hq1
    refine lv_pop hx hb (dk DL_2 32 rfl).1 rfl ?_
    refine lv_aload_n hx hb (dk DL_2 33 rfl).1 rfl (lv_at hl 2 rfl) ?_
    refine larg (k0 := 1) C0 hl rfl rfl hS (dk DL_2 34 rfl).1 (dk DL_2 35 rfl).1 (dk DL_2 36 rfl).1 (dk DL_2 37 rfl).1 (dk DL_2 38 rfl).1 rfl (by omega) hL31 ?_
    refine larg (k0 := 2) C0 hl rfl rfl hS (dk DL_2 39 rfl).1 (dk DL_2 40 rfl).1 (dk DL_2 41 rfl).1 (dk DL_2 42 rfl).1 (dk DL_2 43 rfl).1 rfl (by omega) hL31 ?_
    refine lv_if_eq (tgt := 337) hx hb (dk DL_2 44 rfl).1 (by decide) (fun _ => ?_) (fun hc => absurd hz hc)
    refine lv_iconst (v := 0) hx hb (dk DL_2 47 rfl).1 (by decide) ?_
    refine kmI (av := [.int (xs (i + 1)), .int 0]) C0 hKs hb0 hW1 (by omega) F.2.2.1.2.1 hP1 hS hl.1 (dk DL_2 48 rfl).1 rfl (tg_5 224 rfl rfl) (tg_5 225 rfl rfl) (tg_5 226 rfl rfl) (tg_1 7 rfl rfl) kX12_needless pmX12_needless (by decide) rfl (fun _ => rfl) (fun G hG => c_X12_needless hG F.2.2.1.2.1 F.2.1 F.2.2.1.1 F.2.2.1.2.2) (Nat.le_of_ble_eq_true rfl) (by omega) (by omega) (Nat.le_of_ble_eq_true rfl) (fun x2 I2 h2 H2 locs2 hq2 hW2 hP2 hS => ?_)
    obtain ⟨rfl, hR2⟩ := hq2
    refine lv_pop hx hb (dk DL_2 49 rfl).1 rfl ?_
    refine lv_goto (tgt := 1307) hx hb (dk DL_3 0 rfl).1 (by decide) ?_
    exact W.widen (by omega) (by omega) (hend _ _ _ _ _ _ _ _ ⟨hY1, F.2.1.needless, hR2, hW2, hP2⟩ (by omega) hS)
  · refine lv_iconst (v := 1) hx hb (dk DL_2 28 rfl).1 (by decide) ?_
    refine lv_goto (tgt := 315) hx hb (dk DL_2 29 rfl).1 (by decide) ?_
    refine kxI (av := [.int (xs (i + 1)), .int 1]) C0 hKs hb0 F.2.2.2.1 F.1.1.1 F.2.2.1.2.1.1 F.2.2.2.2 hS hl.1 (dk DL_2 31 rfl).1 rfl (tg_3 22 rfl rfl) (tg_3 23 rfl rfl) (tg_3 24 rfl rfl) (tg_1 1 rfl rfl) kX11_needless pmX11_needless (by decide) rfl (fun _ => rfl) (zx_needless gX_ok F.2.1 F.1) (Nat.le_of_ble_eq_true rfl) (by omega) (by omega) (Nat.le_of_ble_eq_true rfl) (fun x1 I1 h1 H1 locs1 hq1 hW1 hP1 hS => ?_)
    obtain ⟨rfl, hY1, hn1⟩ := hq1
    refine lv_pop hx hb (dk DL_2 32 rfl).1 rfl ?_
    refine lv_aload_n hx hb (dk DL_2 33 rfl).1 rfl (lv_at hl 2 rfl) ?_
    refine larg (k0 := 1) C0 hl rfl rfl hS (dk DL_2 34 rfl).1 (dk DL_2 35 rfl).1 (dk DL_2 36 rfl).1 (dk DL_2 37 rfl).1 (dk DL_2 38 rfl).1 rfl (by omega) hL31 ?_
    refine larg (k0 := 2) C0 hl rfl rfl hS (dk DL_2 39 rfl).1 (dk DL_2 40 rfl).1 (dk DL_2 41 rfl).1 (dk DL_2 42 rfl).1 (dk DL_2 43 rfl).1 rfl (by omega) hL31 ?_
    refine lv_if_eq (tgt := 337) hx hb (dk DL_2 44 rfl).1 (by decide) (fun hc => absurd hc hz) (fun _ => ?_)
    refine lv_iconst (v := 1) hx hb (dk DL_2 45 rfl).1 (by decide) ?_
    refine lv_goto (tgt := 338) hx hb (dk DL_2 46 rfl).1 (by decide) ?_
    refine kmI (av := [.int (xs (i + 1)), .int 1]) C0 hKs hb0 hW1 (by omega) F.2.2.1.2.1 hP1 hS hl.1 (dk DL_2 48 rfl).1 rfl (tg_5 224 rfl rfl) (tg_5 225 rfl rfl) (tg_5 226 rfl rfl) (tg_1 7 rfl rfl) kX12_needless pmX12_needless (by decide) rfl (fun _ => rfl) (fun G hG => c_X12_needless hG F.2.2.1.2.1 F.2.1 F.2.2.1.1 F.2.2.1.2.2) (Nat.le_of_ble_eq_true rfl) (by omega) (by omega) (Nat.le_of_ble_eq_true rfl) (fun x2 I2 h2 H2 locs2 hq2 hW2 hP2 hS => ?_)
    obtain ⟨rfl, hR2⟩ := hq2
    refine lv_pop hx hb (dk DL_2 49 rfl).1 rfl ?_
    refine lv_goto (tgt := 1307) hx hb (dk DL_3 0 rfl).1 (by decide) ?_
    exact W.widen (by omega) (by omega) (hend _ _ _ _ _ _ _ _ ⟨hY1, F.2.1.needless, hR2, hW2, hP2⟩ (by omega) hS)
set_option maxHeartbeats 4000000 in
set_option maxRecDepth 20000 in
theorem lc_3 {p : Program} {l : Launch} {e : Env} {s : State} {m : MethodId} {below : List Frame} {meth : Method} {c : Code} {b L i k n : Nat} {xs : Nat → Int32} {H : Heap} {locs : List Loc} {ls : Array Slot} {D : va_G} {ci : Nat → ClassId} {b0 : Nat} {E : It} {Li : Nat → Int64} {Ix : It} {hxx : Ht} {Im : It} {hmm : Ht} (C0 : lw_At p s m meth c b L xs) (hKs : ∀ G, gD G = D → gc G = ci → Ks G s) (hb0 : b0 = s.heap.size) (F : LI D ci b0 E Li Ix hxx Im hmm H) (h900 : hn hxx ≤ 900) (hk : k + 1 ≤ 600000) (hnn : n + 6 ≤ 7302250) (hl : lv_has ls 4 (lvs b b0 i)) (hS : va_S (fun q => s.heap.size ≤ q) s.heap H locs) (h7 : i + 7 ≤ L) (hL31 : L < 2 ^ 31)
    (hend : ∀ (E' : It) (L' : Nat → Int64) (Ix' : It) (hx' : Ht) (Im' : It) (hm' : Ht) (H' : Heap) (locs' : List Loc), LI D ci b0 E' L' Ix' hx' Im' hm' H' → hn hx' ≤ hn hxx + 1 → va_S (fun q => s.heap.size ≤ q) s.heap H' locs' → W p l e room_1 s m #[Value.ref b] below meth c H' locs' (k + 1) (n + 6) (lw_Z below #[Value.ref b] s) (F0 m 1307 ls [])) : W p l e room_1 s m #[Value.ref b] below meth c H locs k n (lw_Z below #[Value.ref b] s) (F0 m 345 ls []) := by
  obtain ⟨hx, hb, -, hml, hown, hts0, -, -, -, -⟩ := id C0
  refine lv_aload_n hx hb (dk DL_3 1 rfl).1 rfl (lv_at hl 1 rfl) ?_
  refine larg (k0 := 1) C0 hl rfl rfl hS (dk DL_3 2 rfl).1 (dk DL_3 3 rfl).1 (dk DL_3 4 rfl).1 (dk DL_3 5 rfl).1 (dk DL_3 6 rfl).1 rfl (by omega) hL31 ?_
  refine larg (k0 := 2) C0 hl rfl rfl hS (dk DL_3 7 rfl).1 (dk DL_3 8 rfl).1 (dk DL_3 9 rfl).1 (dk DL_3 10 rfl).1 (dk DL_3 11 rfl).1 rfl (by omega) hL31 ?_
  refine lv_if_eq (tgt := 363) hx hb (dk DL_3 12 rfl).1 (by decide) (fun hz => ?_) (fun hz => ?_)
  · refine lv_iconst (v := 0) hx hb (dk DL_3 15 rfl).1 (by decide) ?_
    refine kxI (av := [.int (xs (i + 1)), .int 0]) C0 hKs hb0 F.2.2.2.1 F.1.1.1 F.2.2.1.2.1.1 F.2.2.2.2 hS hl.1 (dk DL_3 16 rfl).1 rfl (tg_3 29 rfl rfl) (tg_3 30 rfl rfl) (tg_3 31 rfl rfl) (tg_1 1 rfl rfl) kX11_learn pmX11_learn (by decide) rfl (fun _ => rfl) (zx_learn gX_ok F.2.1 F.1) (Nat.le_of_ble_eq_true rfl) (by omega) (by omega) (Nat.le_of_ble_eq_true rfl) (fun x1 I1 h1 H1 locs1 hq1 hW1 hP1 hS => ?_)
    obtain ⟨rfl, hY1, hn1⟩ := hq1
    refine lv_pop hx hb (dk DL_3 17 rfl).1 rfl ?_
    refine lv_aload_n hx hb (dk DL_3 18 rfl).1 rfl (lv_at hl 2 rfl) ?_
    refine larg (k0 := 1) C0 hl rfl rfl hS (dk DL_3 19 rfl).1 (dk DL_3 20 rfl).1 (dk DL_3 21 rfl).1 (dk DL_3 22 rfl).1 (dk DL_3 23 rfl).1 rfl (by omega) hL31 ?_
    refine larg (k0 := 2) C0 hl rfl rfl hS (dk DL_3 24 rfl).1 (dk DL_3 25 rfl).1 (dk DL_3 26 rfl).1 (dk DL_3 27 rfl).1 (dk DL_3 28 rfl).1 rfl (by omega) hL31 ?_
    refine lv_if_eq (tgt := 386) hx hb (dk DL_3 29 rfl).1 (by decide) (fun _ => ?_) (fun hc => absurd hz hc)
    refine lv_iconst (v := 0) hx hb (dk DL_3 32 rfl).1 (by decide) ?_
    refine kmI (av := [.int (xs (i + 1)), .int 0]) C0 hKs hb0 hW1 (by omega) F.2.2.1.2.1 hP1 hS hl.1 (dk DL_3 33 rfl).1 rfl (tg_5 236 rfl rfl) (tg_5 237 rfl rfl) (tg_5 238 rfl rfl) (tg_1 7 rfl rfl) kX12_learn pmX12_learn (by decide) rfl (fun _ => rfl) (fun G hG => c_X12_learn hG F.2.2.1.2.1 F.2.1 F.2.2.1.1 F.2.2.1.2.2) (Nat.le_of_ble_eq_true rfl) (by omega) (by omega) (Nat.le_of_ble_eq_true rfl) (fun x2 I2 h2 H2 locs2 hq2 hW2 hP2 hS => ?_)
    obtain ⟨rfl, hR2⟩ := hq2
    refine lv_pop hx hb (dk DL_3 34 rfl).1 rfl ?_
    refine lv_goto (tgt := 1307) hx hb (dk DL_3 35 rfl).1 (by decide) ?_
    exact W.widen (by omega) (by omega) (hend _ _ _ _ _ _ _ _ ⟨hY1, F.2.1.learn, hR2, hW2, hP2⟩ (by omega) hS)
  · refine lv_iconst (v := 1) hx hb (dk DL_3 13 rfl).1 (by decide) ?_
    refine lv_goto (tgt := 364) hx hb (dk DL_3 14 rfl).1 (by decide) ?_
    refine kxI (av := [.int (xs (i + 1)), .int 1]) C0 hKs hb0 F.2.2.2.1 F.1.1.1 F.2.2.1.2.1.1 F.2.2.2.2 hS hl.1 (dk DL_3 16 rfl).1 rfl (tg_3 29 rfl rfl) (tg_3 30 rfl rfl) (tg_3 31 rfl rfl) (tg_1 1 rfl rfl) kX11_learn pmX11_learn (by decide) rfl (fun _ => rfl) (zx_learn gX_ok F.2.1 F.1) (Nat.le_of_ble_eq_true rfl) (by omega) (by omega) (Nat.le_of_ble_eq_true rfl) (fun x1 I1 h1 H1 locs1 hq1 hW1 hP1 hS => ?_)
    obtain ⟨rfl, hY1, hn1⟩ := hq1
    refine lv_pop hx hb (dk DL_3 17 rfl).1 rfl ?_
    refine lv_aload_n hx hb (dk DL_3 18 rfl).1 rfl (lv_at hl 2 rfl) ?_
    refine larg (k0 := 1) C0 hl rfl rfl hS (dk DL_3 19 rfl).1 (dk DL_3 20 rfl).1 (dk DL_3 21 rfl).1 (dk DL_3 22 rfl).1 (dk DL_3 23 rfl).1 rfl (by omega) hL31 ?_
    refine larg (k0 := 2) C0 hl rfl rfl hS (dk DL_3 24 rfl).1 (dk DL_3 25 rfl).1 (dk DL_3 26 rfl).1 (dk DL_3 27 rfl).1 (dk DL_3 28 rfl).1 rfl (by omega) hL31 ?_
    refine lv_if_eq (tgt := 386) hx hb (dk DL_3 29 rfl).1 (by decide) (fun hc => absurd hc hz) (fun _ => ?_)
    refine lv_iconst (v := 1) hx hb (dk DL_3 30 rfl).1 (by decide) ?_
    refine lv_goto (tgt := 387) hx hb (dk DL_3 31 rfl).1 (by decide) ?_
    refine kmI (av := [.int (xs (i + 1)), .int 1]) C0 hKs hb0 hW1 (by omega) F.2.2.1.2.1 hP1 hS hl.1 (dk DL_3 33 rfl).1 rfl (tg_5 236 rfl rfl) (tg_5 237 rfl rfl) (tg_5 238 rfl rfl) (tg_1 7 rfl rfl) kX12_learn pmX12_learn (by decide) rfl (fun _ => rfl) (fun G hG => c_X12_learn hG F.2.2.1.2.1 F.2.1 F.2.2.1.1 F.2.2.1.2.2) (Nat.le_of_ble_eq_true rfl) (by omega) (by omega) (Nat.le_of_ble_eq_true rfl) (fun x2 I2 h2 H2 locs2 hq2 hW2 hP2 hS => ?_)
    obtain ⟨rfl, hR2⟩ := hq2
    refine lv_pop hx hb (dk DL_3 34 rfl).1 rfl ?_
    refine lv_goto (tgt := 1307) hx hb (dk DL_3 35 rfl).1 (by decide) ?_
    exact W.widen (by omega) (by omega) (hend _ _ _ _ _ _ _ _ ⟨hY1, F.2.1.learn, hR2, hW2, hP2⟩ (by omega) hS)
set_option maxHeartbeats 4000000 in
set_option maxRecDepth 20000 in
theorem lc_4 {p : Program} {l : Launch} {e : Env} {s : State} {m : MethodId} {below : List Frame} {meth : Method} {c : Code} {b L i k n : Nat} {xs : Nat → Int32} {H : Heap} {locs : List Loc} {ls : Array Slot} {D : va_G} {ci : Nat → ClassId} {b0 : Nat} {E : It} {Li : Nat → Int64} {Ix : It} {hxx : Ht} {Im : It} {hmm : Ht} (C0 : lw_At p s m meth c b L xs) (hKs : ∀ G, gD G = D → gc G = ci → Ks G s) (hb0 : b0 = s.heap.size) (F : LI D ci b0 E Li Ix hxx Im hmm H) (h900 : hn hxx ≤ 900) (hk : k + 1 ≤ 600000) (hnn : n + 6 ≤ 7302250) (hl : lv_has ls 4 (lvs b b0 i)) (hS : va_S (fun q => s.heap.size ≤ q) s.heap H locs) (h7 : i + 7 ≤ L) (hL31 : L < 2 ^ 31)
    (hend : ∀ (E' : It) (L' : Nat → Int64) (Ix' : It) (hx' : Ht) (Im' : It) (hm' : Ht) (H' : Heap) (locs' : List Loc), LI D ci b0 E' L' Ix' hx' Im' hm' H' → hn hx' ≤ hn hxx + 1 → va_S (fun q => s.heap.size ≤ q) s.heap H' locs' → W p l e room_1 s m #[Value.ref b] below meth c H' locs' (k + 1) (n + 6) (lw_Z below #[Value.ref b] s) (F0 m 1307 ls [])) : W p l e room_1 s m #[Value.ref b] below meth c H locs k n (lw_Z below #[Value.ref b] s) (F0 m 394 ls []) := by
  obtain ⟨hx, hb, -, hml, hown, hts0, -, -, -, -⟩ := id C0
  refine lv_aload_n hx hb (dk DL_3 36 rfl).1 rfl (lv_at hl 1 rfl) ?_
  refine larg (k0 := 1) C0 hl rfl rfl hS (dk DL_3 37 rfl).1 (dk DL_3 38 rfl).1 (dk DL_3 39 rfl).1 (dk DL_3 40 rfl).1 (dk DL_3 41 rfl).1 rfl (by omega) hL31 ?_
  refine larg (k0 := 2) C0 hl rfl rfl hS (dk DL_3 42 rfl).1 (dk DL_3 43 rfl).1 (dk DL_3 44 rfl).1 (dk DL_3 45 rfl).1 (dk DL_3 46 rfl).1 rfl (by omega) hL31 ?_
  refine kxI (av := [.int (xs (i + 1)), .int (xs (i + 2))]) C0 hKs hb0 F.2.2.2.1 F.1.1.1 F.2.2.1.2.1.1 F.2.2.2.2 hS hl.1 (dk DL_3 47 rfl).1 rfl (tg_3 33 rfl rfl) (tg_3 34 rfl rfl) (tg_3 35 rfl rfl) (tg_1 1 rfl rfl) kX11_odds pmX11_odds (by decide) rfl (fun _ => rfl) (zx_odds gX_ok F.2.1 F.1) (Nat.le_of_ble_eq_true rfl) (by omega) (by omega) (Nat.le_of_ble_eq_true rfl) (fun x1 I1 h1 H1 locs1 hq1 hW1 hP1 hS => ?_)
  obtain ⟨rfl, hY1, hn1⟩ := hq1
  refine lv_pop hx hb (dk DL_3 48 rfl).1 rfl ?_
  refine lv_aload_n hx hb (dk DL_3 49 rfl).1 rfl (lv_at hl 2 rfl) ?_
  refine larg (k0 := 1) C0 hl rfl rfl hS (dk DL_4 0 rfl).1 (dk DL_4 1 rfl).1 (dk DL_4 2 rfl).1 (dk DL_4 3 rfl).1 (dk DL_4 4 rfl).1 rfl (by omega) hL31 ?_
  refine larg (k0 := 2) C0 hl rfl rfl hS (dk DL_4 5 rfl).1 (dk DL_4 6 rfl).1 (dk DL_4 7 rfl).1 (dk DL_4 8 rfl).1 (dk DL_4 9 rfl).1 rfl (by omega) hL31 ?_
  refine kmI (av := [.int (xs (i + 1)), .int (xs (i + 2))]) C0 hKs hb0 hW1 (by omega) F.2.2.1.2.1 hP1 hS hl.1 (dk DL_4 10 rfl).1 rfl (tg_6 0 rfl rfl) (tg_6 1 rfl rfl) (tg_6 2 rfl rfl) (tg_1 7 rfl rfl) kX12_odds pmX12_odds (by decide) rfl (fun _ => rfl) (fun G hG => c_X12_odds hG F.2.2.1.2.1 F.2.1 F.2.2.1.1 F.2.2.1.2.2) (Nat.le_of_ble_eq_true rfl) (by omega) (by omega) (Nat.le_of_ble_eq_true rfl) (fun x2 I2 h2 H2 locs2 hq2 hW2 hP2 hS => ?_)
  obtain ⟨rfl, hR2⟩ := hq2
  refine lv_pop hx hb (dk DL_4 11 rfl).1 rfl ?_
  refine lv_goto (tgt := 1307) hx hb (dk DL_4 12 rfl).1 (by decide) ?_
  exact W.widen (by omega) (by omega) (hend _ _ _ _ _ _ _ _ ⟨hY1, F.2.1.odds, hR2, hW2, hP2⟩ (by omega) hS)
set_option maxHeartbeats 4000000 in
set_option maxRecDepth 20000 in
theorem lc_5 {p : Program} {l : Launch} {e : Env} {s : State} {m : MethodId} {below : List Frame} {meth : Method} {c : Code} {b L i k n : Nat} {xs : Nat → Int32} {H : Heap} {locs : List Loc} {ls : Array Slot} {D : va_G} {ci : Nat → ClassId} {b0 : Nat} {E : It} {Li : Nat → Int64} {Ix : It} {hxx : Ht} {Im : It} {hmm : Ht} (C0 : lw_At p s m meth c b L xs) (hKs : ∀ G, gD G = D → gc G = ci → Ks G s) (hb0 : b0 = s.heap.size) (F : LI D ci b0 E Li Ix hxx Im hmm H) (h900 : hn hxx ≤ 900) (hk : k + 1 ≤ 600000) (hnn : n + 6 ≤ 7302250) (hl : lv_has ls 4 (lvs b b0 i)) (hS : va_S (fun q => s.heap.size ≤ q) s.heap H locs) (h7 : i + 7 ≤ L) (hL31 : L < 2 ^ 31)
    (hend : ∀ (E' : It) (L' : Nat → Int64) (Ix' : It) (hx' : Ht) (Im' : It) (hm' : Ht) (H' : Heap) (locs' : List Loc), LI D ci b0 E' L' Ix' hx' Im' hm' H' → hn hx' ≤ hn hxx + 1 → va_S (fun q => s.heap.size ≤ q) s.heap H' locs' → W p l e room_1 s m #[Value.ref b] below meth c H' locs' (k + 1) (n + 6) (lw_Z below #[Value.ref b] s) (F0 m 1307 ls [])) : W p l e room_1 s m #[Value.ref b] below meth c H locs k n (lw_Z below #[Value.ref b] s) (F0 m 427 ls []) := by
  obtain ⟨hx, hb, -, hml, hown, hts0, -, -, -, -⟩ := id C0
  refine lv_aload_n hx hb (dk DL_4 13 rfl).1 rfl (lv_at hl 1 rfl) ?_
  refine larg (k0 := 1) C0 hl rfl rfl hS (dk DL_4 14 rfl).1 (dk DL_4 15 rfl).1 (dk DL_4 16 rfl).1 (dk DL_4 17 rfl).1 (dk DL_4 18 rfl).1 rfl (by omega) hL31 ?_
  refine larg (k0 := 2) C0 hl rfl rfl hS (dk DL_4 19 rfl).1 (dk DL_4 20 rfl).1 (dk DL_4 21 rfl).1 (dk DL_4 22 rfl).1 (dk DL_4 23 rfl).1 rfl (by omega) hL31 ?_
  refine kxI (av := [.int (xs (i + 1)), .int (xs (i + 2))]) C0 hKs hb0 F.2.2.2.1 F.1.1.1 F.2.2.1.2.1.1 F.2.2.2.2 hS hl.1 (dk DL_4 24 rfl).1 rfl (tg_3 37 rfl rfl) (tg_3 38 rfl rfl) (tg_3 39 rfl rfl) (tg_1 1 rfl rfl) kX11_hours pmX11_hours (by decide) rfl (fun _ => rfl) (zx_hours gX_ok F.2.1 F.1) (Nat.le_of_ble_eq_true rfl) (by omega) (by omega) (Nat.le_of_ble_eq_true rfl) (fun x1 I1 h1 H1 locs1 hq1 hW1 hP1 hS => ?_)
  obtain ⟨rfl, hY1, hn1⟩ := hq1
  refine lv_pop hx hb (dk DL_4 25 rfl).1 rfl ?_
  refine lv_aload_n hx hb (dk DL_4 26 rfl).1 rfl (lv_at hl 2 rfl) ?_
  refine larg (k0 := 1) C0 hl rfl rfl hS (dk DL_4 27 rfl).1 (dk DL_4 28 rfl).1 (dk DL_4 29 rfl).1 (dk DL_4 30 rfl).1 (dk DL_4 31 rfl).1 rfl (by omega) hL31 ?_
  refine larg (k0 := 2) C0 hl rfl rfl hS (dk DL_4 32 rfl).1 (dk DL_4 33 rfl).1 (dk DL_4 34 rfl).1 (dk DL_4 35 rfl).1 (dk DL_4 36 rfl).1 rfl (by omega) hL31 ?_
  refine kmI (av := [.int (xs (i + 1)), .int (xs (i + 2))]) C0 hKs hb0 hW1 (by omega) F.2.2.1.2.1 hP1 hS hl.1 (dk DL_4 37 rfl).1 rfl (tg_6 4 rfl rfl) (tg_6 5 rfl rfl) (tg_6 6 rfl rfl) (tg_1 7 rfl rfl) kX12_hours pmX12_hours (by decide) rfl (fun _ => rfl) (fun G hG => c_X12_hours hG F.2.2.1.2.1 F.2.1 F.2.2.1.1 F.2.2.1.2.2) (Nat.le_of_ble_eq_true rfl) (by omega) (by omega) (Nat.le_of_ble_eq_true rfl) (fun x2 I2 h2 H2 locs2 hq2 hW2 hP2 hS => ?_)
  obtain ⟨rfl, hR2⟩ := hq2
  refine lv_pop hx hb (dk DL_4 38 rfl).1 rfl ?_
  refine lv_goto (tgt := 1307) hx hb (dk DL_4 39 rfl).1 (by decide) ?_
  exact W.widen (by omega) (by omega) (hend _ _ _ _ _ _ _ _ ⟨hY1, F.2.1.hours, hR2, hW2, hP2⟩ (by omega) hS)
set_option maxHeartbeats 4000000 in
set_option maxRecDepth 20000 in
theorem lc_6 {p : Program} {l : Launch} {e : Env} {s : State} {m : MethodId} {below : List Frame} {meth : Method} {c : Code} {b L i k n : Nat} {xs : Nat → Int32} {H : Heap} {locs : List Loc} {ls : Array Slot} {D : va_G} {ci : Nat → ClassId} {b0 : Nat} {E : It} {Li : Nat → Int64} {Ix : It} {hxx : Ht} {Im : It} {hmm : Ht} (C0 : lw_At p s m meth c b L xs) (hKs : ∀ G, gD G = D → gc G = ci → Ks G s) (hb0 : b0 = s.heap.size) (F : LI D ci b0 E Li Ix hxx Im hmm H) (h900 : hn hxx ≤ 900) (hk : k + 1 ≤ 600000) (hnn : n + 6 ≤ 7302250) (hl : lv_has ls 4 (lvs b b0 i)) (hS : va_S (fun q => s.heap.size ≤ q) s.heap H locs) (h7 : i + 7 ≤ L) (hL31 : L < 2 ^ 31)
    (hend : ∀ (E' : It) (L' : Nat → Int64) (Ix' : It) (hx' : Ht) (Im' : It) (hm' : Ht) (H' : Heap) (locs' : List Loc), LI D ci b0 E' L' Ix' hx' Im' hm' H' → hn hx' ≤ hn hxx + 1 → va_S (fun q => s.heap.size ≤ q) s.heap H' locs' → W p l e room_1 s m #[Value.ref b] below meth c H' locs' (k + 1) (n + 6) (lw_Z below #[Value.ref b] s) (F0 m 1307 ls [])) : W p l e room_1 s m #[Value.ref b] below meth c H locs k n (lw_Z below #[Value.ref b] s) (F0 m 460 ls []) := by
  obtain ⟨hx, hb, -, hml, hown, hts0, -, -, -, -⟩ := id C0
  refine lv_aload_n hx hb (dk DL_4 40 rfl).1 rfl (lv_at hl 1 rfl) ?_
  refine larg (k0 := 1) C0 hl rfl rfl hS (dk DL_4 41 rfl).1 (dk DL_4 42 rfl).1 (dk DL_4 43 rfl).1 (dk DL_4 44 rfl).1 (dk DL_4 45 rfl).1 rfl (by omega) hL31 ?_
  refine kxI (av := [.int (xs (i + 1))]) C0 hKs hb0 F.2.2.2.1 F.1.1.1 F.2.2.1.2.1.1 F.2.2.2.2 hS hl.1 (dk DL_4 46 rfl).1 rfl (tg_3 41 rfl rfl) (tg_3 42 rfl rfl) (tg_3 43 rfl rfl) (tg_1 1 rfl rfl) kX11_feed pmX11_feed (by decide) rfl (fun _ => rfl) (zx_feed gX_ok F.2.1 F.1) (Nat.le_of_ble_eq_true rfl) (by omega) (by omega) (Nat.le_of_ble_eq_true rfl) (fun x1 I1 h1 H1 locs1 hq1 hW1 hP1 hS => ?_)
  obtain ⟨rfl, hY1, hn1⟩ := hq1
  refine lv_pop hx hb (dk DL_4 47 rfl).1 rfl ?_
  refine lv_aload_n hx hb (dk DL_4 48 rfl).1 rfl (lv_at hl 2 rfl) ?_
  refine larg (k0 := 1) C0 hl rfl rfl hS (dk DL_4 49 rfl).1 (dk DL_5 0 rfl).1 (dk DL_5 1 rfl).1 (dk DL_5 2 rfl).1 (dk DL_5 3 rfl).1 rfl (by omega) hL31 ?_
  refine kmI (av := [.int (xs (i + 1))]) C0 hKs hb0 hW1 (by omega) F.2.2.1.2.1 hP1 hS hl.1 (dk DL_5 4 rfl).1 rfl (tg_6 12 rfl rfl) (tg_6 13 rfl rfl) (tg_6 14 rfl rfl) (tg_1 7 rfl rfl) kX12_feed pmX12_feed (by decide) rfl (fun _ => rfl) (fun G hG => c_X12_feed hG F.2.2.1.2.1 F.2.1 F.2.2.1.1 F.2.2.1.2.2) (Nat.le_of_ble_eq_true rfl) (by omega) (by omega) (Nat.le_of_ble_eq_true rfl) (fun x2 I2 h2 H2 locs2 hq2 hW2 hP2 hS => ?_)
  obtain ⟨rfl, hR2⟩ := hq2
  refine lv_pop hx hb (dk DL_5 5 rfl).1 rfl ?_
  refine lv_goto (tgt := 1307) hx hb (dk DL_5 6 rfl).1 (by decide) ?_
  exact W.widen (by omega) (by omega) (hend _ _ _ _ _ _ _ _ ⟨hY1, F.2.1.feed, hR2, hW2, hP2⟩ (by omega) hS)
set_option maxHeartbeats 4000000 in
set_option maxRecDepth 20000 in
theorem lc_7 {p : Program} {l : Launch} {e : Env} {s : State} {m : MethodId} {below : List Frame} {meth : Method} {c : Code} {b L i k n : Nat} {xs : Nat → Int32} {H : Heap} {locs : List Loc} {ls : Array Slot} {D : va_G} {ci : Nat → ClassId} {b0 : Nat} {E : It} {Li : Nat → Int64} {Ix : It} {hxx : Ht} {Im : It} {hmm : Ht} (C0 : lw_At p s m meth c b L xs) (hKs : ∀ G, gD G = D → gc G = ci → Ks G s) (hb0 : b0 = s.heap.size) (F : LI D ci b0 E Li Ix hxx Im hmm H) (h900 : hn hxx ≤ 900) (hk : k + 1 ≤ 600000) (hnn : n + 6 ≤ 7302250) (hl : lv_has ls 4 (lvs b b0 i)) (hS : va_S (fun q => s.heap.size ≤ q) s.heap H locs) (h7 : i + 7 ≤ L) (hL31 : L < 2 ^ 31)
    (hend : ∀ (E' : It) (L' : Nat → Int64) (Ix' : It) (hx' : Ht) (Im' : It) (hm' : Ht) (H' : Heap) (locs' : List Loc), LI D ci b0 E' L' Ix' hx' Im' hm' H' → hn hx' ≤ hn hxx + 1 → va_S (fun q => s.heap.size ≤ q) s.heap H' locs' → W p l e room_1 s m #[Value.ref b] below meth c H' locs' (k + 1) (n + 6) (lw_Z below #[Value.ref b] s) (F0 m 1307 ls [])) : W p l e room_1 s m #[Value.ref b] below meth c H locs k n (lw_Z below #[Value.ref b] s) (F0 m 483 ls []) := by
  obtain ⟨hx, hb, -, hml, hown, hts0, -, -, -, -⟩ := id C0
  refine lv_aload_n hx hb (dk DL_5 7 rfl).1 rfl (lv_at hl 1 rfl) ?_
  refine kxI (av := []) C0 hKs hb0 F.2.2.2.1 F.1.1.1 F.2.2.1.2.1.1 F.2.2.2.2 hS hl.1 (dk DL_5 8 rfl).1 rfl (tg_3 45 rfl rfl) (tg_3 46 rfl rfl) (tg_3 47 rfl rfl) (tg_1 1 rfl rfl) kX11_post pmX11_post (by decide) rfl (fun _ => rfl) (zx_post gX_ok F.2.1 F.1) (Nat.le_of_ble_eq_true rfl) (by omega) (by omega) (Nat.le_of_ble_eq_true rfl) (fun x1 I1 h1 H1 locs1 hq1 hW1 hP1 hS => ?_)
  obtain ⟨hY1, hn1⟩ := hq1
  refine lv_aload_n hx hb (dk DL_5 9 rfl).1 rfl (lv_at hl 2 rfl) ?_
  refine kmI (av := []) C0 hKs hb0 hW1 (by omega) F.2.2.1.2.1 hP1 hS hl.1 (dk DL_5 10 rfl).1 rfl (tg_6 16 rfl rfl) (tg_6 17 rfl rfl) (tg_6 18 rfl rfl) (tg_1 7 rfl rfl) kX12_post pmX12_post (by decide) rfl (fun _ => rfl) (fun G hG => c_X12_post hG F.2.2.1.2.1 F.2.1 F.2.2.1.1 F.2.2.1.2.2) (Nat.le_of_ble_eq_true rfl) (by omega) (by omega) (Nat.le_of_ble_eq_true rfl) (fun x2 I2 h2 H2 locs2 hq2 hW2 hP2 hS => ?_)
  obtain ⟨E2, hpo, hR2⟩ := hq2
  obtain ⟨e1, hY1⟩ := hY1 _ _ hpo
  subst e1
  refine lv_icmp_eq (tgt := 1307) hx hb (dk DL_5 11 rfl).1 (by decide) (fun _ => ?_) (fun hc => absurd rfl hc)
  exact W.widen (by omega) (by omega) (hend _ _ _ _ _ _ _ _ ⟨hY1, (PoS.inv F.2.1 hpo), hR2, hW2, hP2⟩ (by omega) hS)
set_option maxHeartbeats 4000000 in
set_option maxRecDepth 20000 in
theorem lc_8 {p : Program} {l : Launch} {e : Env} {s : State} {m : MethodId} {below : List Frame} {meth : Method} {c : Code} {b L i k n : Nat} {xs : Nat → Int32} {H : Heap} {locs : List Loc} {ls : Array Slot} {D : va_G} {ci : Nat → ClassId} {b0 : Nat} {E : It} {Li : Nat → Int64} {Ix : It} {hxx : Ht} {Im : It} {hmm : Ht} (C0 : lw_At p s m meth c b L xs) (hKs : ∀ G, gD G = D → gc G = ci → Ks G s) (hb0 : b0 = s.heap.size) (F : LI D ci b0 E Li Ix hxx Im hmm H) (h900 : hn hxx ≤ 900) (hk : k + 1 ≤ 600000) (hnn : n + 6 ≤ 7302250) (hl : lv_has ls 4 (lvs b b0 i)) (hS : va_S (fun q => s.heap.size ≤ q) s.heap H locs) (h7 : i + 7 ≤ L) (hL31 : L < 2 ^ 31)
    (hend : ∀ (E' : It) (L' : Nat → Int64) (Ix' : It) (hx' : Ht) (Im' : It) (hm' : Ht) (H' : Heap) (locs' : List Loc), LI D ci b0 E' L' Ix' hx' Im' hm' H' → hn hx' ≤ hn hxx + 1 → va_S (fun q => s.heap.size ≤ q) s.heap H' locs' → W p l e room_1 s m #[Value.ref b] below meth c H' locs' (k + 1) (n + 6) (lw_Z below #[Value.ref b] s) (F0 m 1307 ls [])) : W p l e room_1 s m #[Value.ref b] below meth c H locs k n (lw_Z below #[Value.ref b] s) (F0 m 496 ls []) := by
  obtain ⟨hx, hb, -, hml, hown, hts0, -, -, -, -⟩ := id C0
  refine lv_aload_n hx hb (dk DL_5 14 rfl).1 rfl (lv_at hl 1 rfl) ?_
  refine larg (k0 := 1) C0 hl rfl rfl hS (dk DL_5 15 rfl).1 (dk DL_5 16 rfl).1 (dk DL_5 17 rfl).1 (dk DL_5 18 rfl).1 (dk DL_5 19 rfl).1 rfl (by omega) hL31 ?_
  refine kxI (av := [.int (xs (i + 1))]) C0 hKs hb0 F.2.2.2.1 F.1.1.1 F.2.2.1.2.1.1 F.2.2.2.2 hS hl.1 (dk DL_5 20 rfl).1 rfl (tg_3 100 rfl rfl) (tg_3 101 rfl rfl) (tg_3 102 rfl rfl) (tg_1 1 rfl rfl) kX11_told pmX11_told (by decide) rfl (fun _ => rfl) (zx_told gX_ok F.2.1 F.1) (Nat.le_of_ble_eq_true rfl) (by omega) (by omega) (Nat.le_of_ble_eq_true rfl) (fun x1 I1 h1 H1 locs1 hq1 hW1 hP1 hS => ?_)
  obtain ⟨rfl, hY1, hn1⟩ := hq1
  refine lv_pop hx hb (dk DL_5 21 rfl).1 rfl ?_
  refine lv_aload_n hx hb (dk DL_5 22 rfl).1 rfl (lv_at hl 2 rfl) ?_
  refine larg (k0 := 1) C0 hl rfl rfl hS (dk DL_5 23 rfl).1 (dk DL_5 24 rfl).1 (dk DL_5 25 rfl).1 (dk DL_5 26 rfl).1 (dk DL_5 27 rfl).1 rfl (by omega) hL31 ?_
  refine kmI (av := [.int (xs (i + 1))]) C0 hKs hb0 hW1 (by omega) F.2.2.1.2.1 hP1 hS hl.1 (dk DL_5 28 rfl).1 rfl (tg_6 120 rfl rfl) (tg_6 121 rfl rfl) (tg_6 122 rfl rfl) (tg_1 7 rfl rfl) kX12_told pmX12_told (by decide) rfl (fun _ => rfl) (fun G hG => c_X12_told hG F.2.2.1.2.1 F.2.1 F.2.2.1.1 F.2.2.1.2.2) (Nat.le_of_ble_eq_true rfl) (by omega) (by omega) (Nat.le_of_ble_eq_true rfl) (fun x2 I2 h2 H2 locs2 hq2 hW2 hP2 hS => ?_)
  obtain ⟨rfl, hR2⟩ := hq2
  refine lv_pop hx hb (dk DL_5 29 rfl).1 rfl ?_
  refine lv_goto (tgt := 1307) hx hb (dk DL_5 30 rfl).1 (by decide) ?_
  exact W.widen (by omega) (by omega) (hend _ _ _ _ _ _ _ _ ⟨hY1, (by rw [told_2]; exact F.2.1), hR2, hW2, hP2⟩ (by omega) hS)
set_option maxHeartbeats 4000000 in
set_option maxRecDepth 20000 in
theorem lc_9 {p : Program} {l : Launch} {e : Env} {s : State} {m : MethodId} {below : List Frame} {meth : Method} {c : Code} {b L i k n : Nat} {xs : Nat → Int32} {H : Heap} {locs : List Loc} {ls : Array Slot} {D : va_G} {ci : Nat → ClassId} {b0 : Nat} {E : It} {Li : Nat → Int64} {Ix : It} {hxx : Ht} {Im : It} {hmm : Ht} (C0 : lw_At p s m meth c b L xs) (hKs : ∀ G, gD G = D → gc G = ci → Ks G s) (hb0 : b0 = s.heap.size) (F : LI D ci b0 E Li Ix hxx Im hmm H) (h900 : hn hxx ≤ 900) (hk : k + 1 ≤ 600000) (hnn : n + 6 ≤ 7302250) (hl : lv_has ls 4 (lvs b b0 i)) (hS : va_S (fun q => s.heap.size ≤ q) s.heap H locs) (h7 : i + 7 ≤ L) (hL31 : L < 2 ^ 31)
    (hend : ∀ (E' : It) (L' : Nat → Int64) (Ix' : It) (hx' : Ht) (Im' : It) (hm' : Ht) (H' : Heap) (locs' : List Loc), LI D ci b0 E' L' Ix' hx' Im' hm' H' → hn hx' ≤ hn hxx + 1 → va_S (fun q => s.heap.size ≤ q) s.heap H' locs' → W p l e room_1 s m #[Value.ref b] below meth c H' locs' (k + 1) (n + 6) (lw_Z below #[Value.ref b] s) (F0 m 1307 ls [])) : W p l e room_1 s m #[Value.ref b] below meth c H locs k n (lw_Z below #[Value.ref b] s) (F0 m 519 ls []) := by
  obtain ⟨hx, hb, -, hml, hown, hts0, -, -, -, -⟩ := id C0
  refine lv_aload_n hx hb (dk DL_5 31 rfl).1 rfl (lv_at hl 1 rfl) ?_
  refine larg (k0 := 1) C0 hl rfl rfl hS (dk DL_5 32 rfl).1 (dk DL_5 33 rfl).1 (dk DL_5 34 rfl).1 (dk DL_5 35 rfl).1 (dk DL_5 36 rfl).1 rfl (by omega) hL31 ?_
  refine larg (k0 := 2) C0 hl rfl rfl hS (dk DL_5 37 rfl).1 (dk DL_5 38 rfl).1 (dk DL_5 39 rfl).1 (dk DL_5 40 rfl).1 (dk DL_5 41 rfl).1 rfl (by omega) hL31 ?_
  refine kxI (av := [.int (xs (i + 1)), .int (xs (i + 2))]) C0 hKs hb0 F.2.2.2.1 F.1.1.1 F.2.2.1.2.1.1 F.2.2.2.2 hS hl.1 (dk DL_5 42 rfl).1 rfl (tg_3 112 rfl rfl) (tg_3 113 rfl rfl) (tg_3 114 rfl rfl) (tg_1 1 rfl rfl) kX11_said pmX11_said (by decide) rfl (fun _ => rfl) (zx_said gX_ok F.2.1 F.1) (Nat.le_of_ble_eq_true rfl) (by omega) (by omega) (Nat.le_of_ble_eq_true rfl) (fun x1 I1 h1 H1 locs1 hq1 hW1 hP1 hS => ?_)
  obtain ⟨rfl, hY1, hn1⟩ := hq1
  refine lv_pop hx hb (dk DL_5 43 rfl).1 rfl ?_
  refine lv_aload_n hx hb (dk DL_5 44 rfl).1 rfl (lv_at hl 2 rfl) ?_
  refine larg (k0 := 1) C0 hl rfl rfl hS (dk DL_5 45 rfl).1 (dk DL_5 46 rfl).1 (dk DL_5 47 rfl).1 (dk DL_5 48 rfl).1 (dk DL_5 49 rfl).1 rfl (by omega) hL31 ?_
  refine larg (k0 := 2) C0 hl rfl rfl hS (dk DL_6 0 rfl).1 (dk DL_6 1 rfl).1 (dk DL_6 2 rfl).1 (dk DL_6 3 rfl).1 (dk DL_6 4 rfl).1 rfl (by omega) hL31 ?_
  refine kmI (av := [.int (xs (i + 1)), .int (xs (i + 2))]) C0 hKs hb0 hW1 (by omega) F.2.2.1.2.1 hP1 hS hl.1 (dk DL_6 5 rfl).1 rfl (tg_6 128 rfl rfl) (tg_6 129 rfl rfl) (tg_6 130 rfl rfl) (tg_1 7 rfl rfl) kX12_said pmX12_said (by decide) rfl (fun _ => rfl) (fun G hG => c_X12_said hG F.2.2.1.2.1 F.2.1 F.2.2.1.1 F.2.2.1.2.2) (Nat.le_of_ble_eq_true rfl) (by omega) (by omega) (Nat.le_of_ble_eq_true rfl) (fun x2 I2 h2 H2 locs2 hq2 hW2 hP2 hS => ?_)
  obtain ⟨rfl, hR2⟩ := hq2
  refine lv_pop hx hb (dk DL_6 6 rfl).1 rfl ?_
  refine lv_goto (tgt := 1307) hx hb (dk DL_6 7 rfl).1 (by decide) ?_
  exact W.widen (by omega) (by omega) (hend _ _ _ _ _ _ _ _ ⟨hY1, (by rw [said_2]; exact F.2.1), hR2, hW2, hP2⟩ (by omega) hS)
set_option maxHeartbeats 4000000 in
set_option maxRecDepth 20000 in
theorem lc_10 {p : Program} {l : Launch} {e : Env} {s : State} {m : MethodId} {below : List Frame} {meth : Method} {c : Code} {b L i k n : Nat} {xs : Nat → Int32} {H : Heap} {locs : List Loc} {ls : Array Slot} {D : va_G} {ci : Nat → ClassId} {b0 : Nat} {E : It} {Li : Nat → Int64} {Ix : It} {hxx : Ht} {Im : It} {hmm : Ht} (C0 : lw_At p s m meth c b L xs) (hKs : ∀ G, gD G = D → gc G = ci → Ks G s) (hb0 : b0 = s.heap.size) (F : LI D ci b0 E Li Ix hxx Im hmm H) (h900 : hn hxx ≤ 900) (hk : k + 1 ≤ 600000) (hnn : n + 6 ≤ 7302250) (hl : lv_has ls 4 (lvs b b0 i)) (hS : va_S (fun q => s.heap.size ≤ q) s.heap H locs) (h7 : i + 7 ≤ L) (hL31 : L < 2 ^ 31)
    (hend : ∀ (E' : It) (L' : Nat → Int64) (Ix' : It) (hx' : Ht) (Im' : It) (hm' : Ht) (H' : Heap) (locs' : List Loc), LI D ci b0 E' L' Ix' hx' Im' hm' H' → hn hx' ≤ hn hxx + 1 → va_S (fun q => s.heap.size ≤ q) s.heap H' locs' → W p l e room_1 s m #[Value.ref b] below meth c H' locs' (k + 1) (n + 6) (lw_Z below #[Value.ref b] s) (F0 m 1307 ls [])) : W p l e room_1 s m #[Value.ref b] below meth c H locs k n (lw_Z below #[Value.ref b] s) (F0 m 552 ls []) := by
  obtain ⟨hx, hb, -, hml, hown, hts0, -, -, -, -⟩ := id C0
  refine lv_aload_n hx hb (dk DL_6 8 rfl).1 rfl (lv_at hl 1 rfl) ?_
  refine kxI (av := []) C0 hKs hb0 F.2.2.2.1 F.1.1.1 F.2.2.1.2.1.1 F.2.2.2.2 hS hl.1 (dk DL_6 9 rfl).1 rfl (tg_3 117 rfl rfl) (tg_3 118 rfl rfl) (tg_3 119 rfl rfl) (tg_1 1 rfl rfl) kX11_hand pmX11_hand (by decide) rfl (fun _ => rfl) (zx_hand gX_ok F.2.1 F.1) (Nat.le_of_ble_eq_true rfl) (by omega) (by omega) (Nat.le_of_ble_eq_true rfl) (fun x1 I1 h1 H1 locs1 hq1 hW1 hP1 hS => ?_)
  obtain ⟨rfl, hY1, hn1⟩ := hq1
  refine lv_pop hx hb (dk DL_6 10 rfl).1 rfl ?_
  refine lv_aload_n hx hb (dk DL_6 11 rfl).1 rfl (lv_at hl 2 rfl) ?_
  refine kmI (av := []) C0 hKs hb0 hW1 (by omega) F.2.2.1.2.1 hP1 hS hl.1 (dk DL_6 12 rfl).1 rfl (tg_6 132 rfl rfl) (tg_6 133 rfl rfl) (tg_6 134 rfl rfl) (tg_1 7 rfl rfl) kX12_hand pmX12_hand (by decide) rfl (fun _ => rfl) (fun G hG => c_X12_hand hG F.2.2.1.2.1 F.2.1 F.2.2.1.1 F.2.2.1.2.2) (Nat.le_of_ble_eq_true rfl) (by omega) (by omega) (Nat.le_of_ble_eq_true rfl) (fun x2 I2 h2 H2 locs2 hq2 hW2 hP2 hS => ?_)
  obtain ⟨rfl, hR2⟩ := hq2
  refine lv_pop hx hb (dk DL_6 13 rfl).1 rfl ?_
  refine lv_goto (tgt := 1307) hx hb (dk DL_6 14 rfl).1 (by decide) ?_
  exact W.widen (by omega) (by omega) (hend _ _ _ _ _ _ _ _ ⟨hY1, F.2.1.hand, hR2, hW2, hP2⟩ (by omega) hS)
set_option maxHeartbeats 4000000 in
set_option maxRecDepth 20000 in
theorem lc_11 {p : Program} {l : Launch} {e : Env} {s : State} {m : MethodId} {below : List Frame} {meth : Method} {c : Code} {b L i k n : Nat} {xs : Nat → Int32} {H : Heap} {locs : List Loc} {ls : Array Slot} {D : va_G} {ci : Nat → ClassId} {b0 : Nat} {E : It} {Li : Nat → Int64} {Ix : It} {hxx : Ht} {Im : It} {hmm : Ht} (C0 : lw_At p s m meth c b L xs) (hKs : ∀ G, gD G = D → gc G = ci → Ks G s) (hb0 : b0 = s.heap.size) (F : LI D ci b0 E Li Ix hxx Im hmm H) (h900 : hn hxx ≤ 900) (hk : k + 1 ≤ 600000) (hnn : n + 6 ≤ 7302250) (hl : lv_has ls 4 (lvs b b0 i)) (hS : va_S (fun q => s.heap.size ≤ q) s.heap H locs) (h7 : i + 7 ≤ L) (hL31 : L < 2 ^ 31)
    (hend : ∀ (E' : It) (L' : Nat → Int64) (Ix' : It) (hx' : Ht) (Im' : It) (hm' : Ht) (H' : Heap) (locs' : List Loc), LI D ci b0 E' L' Ix' hx' Im' hm' H' → hn hx' ≤ hn hxx + 1 → va_S (fun q => s.heap.size ≤ q) s.heap H' locs' → W p l e room_1 s m #[Value.ref b] below meth c H' locs' (k + 1) (n + 6) (lw_Z below #[Value.ref b] s) (F0 m 1307 ls [])) : W p l e room_1 s m #[Value.ref b] below meth c H locs k n (lw_Z below #[Value.ref b] s) (F0 m 565 ls []) := by
  obtain ⟨hx, hb, -, hml, hown, hts0, -, -, -, -⟩ := id C0
  refine lv_aload_n hx hb (dk DL_6 15 rfl).1 rfl (lv_at hl 1 rfl) ?_
  refine larg (k0 := 1) C0 hl rfl rfl hS (dk DL_6 16 rfl).1 (dk DL_6 17 rfl).1 (dk DL_6 18 rfl).1 (dk DL_6 19 rfl).1 (dk DL_6 20 rfl).1 rfl (by omega) hL31 ?_
  refine kxI (av := [.int (xs (i + 1))]) C0 hKs hb0 F.2.2.2.1 F.1.1.1 F.2.2.1.2.1.1 F.2.2.2.2 hS hl.1 (dk DL_6 21 rfl).1 rfl (tg_3 136 rfl rfl) (tg_3 137 rfl rfl) (tg_3 138 rfl rfl) (tg_1 1 rfl rfl) kX11_go pmX11_go (by decide) rfl (fun _ => rfl) (zx_go gX_ok F.2.1 F.1) (Nat.le_of_ble_eq_true rfl) (by omega) (by omega) (Nat.le_of_ble_eq_true rfl) (fun x1 I1 h1 H1 locs1 hq1 hW1 hP1 hS => ?_)
  obtain ⟨rfl, hY1, hn1⟩ := hq1
  refine lv_pop hx hb (dk DL_6 22 rfl).1 rfl ?_
  refine lv_aload_n hx hb (dk DL_6 23 rfl).1 rfl (lv_at hl 2 rfl) ?_
  refine larg (k0 := 1) C0 hl rfl rfl hS (dk DL_6 24 rfl).1 (dk DL_6 25 rfl).1 (dk DL_6 26 rfl).1 (dk DL_6 27 rfl).1 (dk DL_6 28 rfl).1 rfl (by omega) hL31 ?_
  refine kmI (av := [.int (xs (i + 1))]) C0 hKs hb0 hW1 (by omega) F.2.2.1.2.1 hP1 hS hl.1 (dk DL_6 29 rfl).1 rfl (tg_6 144 rfl rfl) (tg_6 145 rfl rfl) (tg_6 146 rfl rfl) (tg_1 7 rfl rfl) kX12_go pmX12_go (by decide) rfl (fun _ => rfl) (fun G hG => c_X12_go hG F.2.2.1.2.1 F.2.1 F.2.2.1.1 F.2.2.1.2.2) (Nat.le_of_ble_eq_true rfl) (by omega) (by omega) (Nat.le_of_ble_eq_true rfl) (fun x2 I2 h2 H2 locs2 hq2 hW2 hP2 hS => ?_)
  obtain ⟨rfl, hR2⟩ := hq2
  refine lv_pop hx hb (dk DL_6 30 rfl).1 rfl ?_
  refine lv_goto (tgt := 1307) hx hb (dk DL_6 31 rfl).1 (by decide) ?_
  exact W.widen (by omega) (by omega) (hend _ _ _ _ _ _ _ _ ⟨hY1, F.2.1.go, hR2, hW2, hP2⟩ (by omega) hS)
end
section
set_option maxHeartbeats 4000000 in
set_option maxRecDepth 20000 in
theorem lc_12 {p : Program} {l : Launch} {e : Env} {s : State} {m : MethodId} {below : List Frame} {meth : Method} {c : Code} {b L i k n : Nat} {xs : Nat → Int32} {H : Heap} {locs : List Loc} {ls : Array Slot} {D : va_G} {ci : Nat → ClassId} {b0 : Nat} {E : It} {Li : Nat → Int64} {Ix : It} {hxx : Ht} {Im : It} {hmm : Ht} (C0 : lw_At p s m meth c b L xs) (hKs : ∀ G, gD G = D → gc G = ci → Ks G s) (hb0 : b0 = s.heap.size) (F : LI D ci b0 E Li Ix hxx Im hmm H) (h900 : hn hxx ≤ 900) (hk : k + 1 ≤ 600000) (hnn : n + 6 ≤ 7302250) (hl : lv_has ls 4 (lvs b b0 i)) (hS : va_S (fun q => s.heap.size ≤ q) s.heap H locs) (h7 : i + 7 ≤ L) (hL31 : L < 2 ^ 31)
    (hend : ∀ (E' : It) (L' : Nat → Int64) (Ix' : It) (hx' : Ht) (Im' : It) (hm' : Ht) (H' : Heap) (locs' : List Loc), LI D ci b0 E' L' Ix' hx' Im' hm' H' → hn hx' ≤ hn hxx + 1 → va_S (fun q => s.heap.size ≤ q) s.heap H' locs' → W p l e room_1 s m #[Value.ref b] below meth c H' locs' (k + 1) (n + 6) (lw_Z below #[Value.ref b] s) (F0 m 1307 ls [])) : W p l e room_1 s m #[Value.ref b] below meth c H locs k n (lw_Z below #[Value.ref b] s) (F0 m 588 ls []) := by
  obtain ⟨hx, hb, -, hml, hown, hts0, -, -, -, -⟩ := id C0
  refine lv_aload_n hx hb (dk DL_6 32 rfl).1 rfl (lv_at hl 1 rfl) ?_
  refine larg (k0 := 1) C0 hl rfl rfl hS (dk DL_6 33 rfl).1 (dk DL_6 34 rfl).1 (dk DL_6 35 rfl).1 (dk DL_6 36 rfl).1 (dk DL_6 37 rfl).1 rfl (by omega) hL31 ?_
  refine larg (k0 := 2) C0 hl rfl rfl hS (dk DL_6 38 rfl).1 (dk DL_6 39 rfl).1 (dk DL_6 40 rfl).1 (dk DL_6 41 rfl).1 (dk DL_6 42 rfl).1 rfl (by omega) hL31 ?_
  refine kxI (av := [.int (xs (i + 1)), .int (xs (i + 2))]) C0 hKs hb0 F.2.2.2.1 F.1.1.1 F.2.2.1.2.1.1 F.2.2.2.2 hS hl.1 (dk DL_6 43 rfl).1 rfl (tg_3 219 rfl rfl) (tg_3 220 rfl rfl) (tg_3 221 rfl rfl) (tg_1 1 rfl rfl) kX11_run pmX11_run (by decide) rfl (fun _ => rfl) (zx_run gX_ok F.2.1 F.1) (Nat.le_of_ble_eq_true rfl) (by omega) (by omega) (Nat.le_of_ble_eq_true rfl) (fun x1 I1 h1 H1 locs1 hq1 hW1 hP1 hS => ?_)
  obtain ⟨rfl, hY1, hn1⟩ := hq1
  refine lv_pop hx hb (dk DL_6 44 rfl).1 rfl ?_
  refine lv_aload_n hx hb (dk DL_6 45 rfl).1 rfl (lv_at hl 2 rfl) ?_
  refine larg (k0 := 1) C0 hl rfl rfl hS (dk DL_6 46 rfl).1 (dk DL_6 47 rfl).1 (dk DL_6 48 rfl).1 (dk DL_6 49 rfl).1 (dk DL_7 0 rfl).1 rfl (by omega) hL31 ?_
  refine larg (k0 := 2) C0 hl rfl rfl hS (dk DL_7 1 rfl).1 (dk DL_7 2 rfl).1 (dk DL_7 3 rfl).1 (dk DL_7 4 rfl).1 (dk DL_7 5 rfl).1 rfl (by omega) hL31 ?_
  refine kmI (av := [.int (xs (i + 1)), .int (xs (i + 2))]) C0 hKs hb0 hW1 (by omega) F.2.2.1.2.1 hP1 hS hl.1 (dk DL_7 6 rfl).1 rfl (tg_6 168 rfl rfl) (tg_6 169 rfl rfl) (tg_6 170 rfl rfl) (tg_1 7 rfl rfl) kX12_run pmX12_run (by decide) rfl (fun _ => rfl) (fun G hG => c_X12_run hG F.2.2.1.2.1 F.2.1 F.2.2.1.1 F.2.2.1.2.2) (Nat.le_of_ble_eq_true rfl) (by omega) (by omega) (Nat.le_of_ble_eq_true rfl) (fun x2 I2 h2 H2 locs2 hq2 hW2 hP2 hS => ?_)
  obtain ⟨rfl, hR2⟩ := hq2
  refine lv_pop hx hb (dk DL_7 7 rfl).1 rfl ?_
  refine lv_goto (tgt := 1307) hx hb (dk DL_7 8 rfl).1 (by decide) ?_
  exact W.widen (by omega) (by omega) (hend _ _ _ _ _ _ _ _ ⟨hY1, (by rw [run_2]; exact F.2.1), hR2, hW2, hP2⟩ (by omega) hS)
set_option maxHeartbeats 4000000 in
set_option maxRecDepth 20000 in
theorem lc_13 {p : Program} {l : Launch} {e : Env} {s : State} {m : MethodId} {below : List Frame} {meth : Method} {c : Code} {b L i k n : Nat} {xs : Nat → Int32} {H : Heap} {locs : List Loc} {ls : Array Slot} {D : va_G} {ci : Nat → ClassId} {b0 : Nat} {E : It} {Li : Nat → Int64} {Ix : It} {hxx : Ht} {Im : It} {hmm : Ht} (C0 : lw_At p s m meth c b L xs) (hKs : ∀ G, gD G = D → gc G = ci → Ks G s) (hb0 : b0 = s.heap.size) (F : LI D ci b0 E Li Ix hxx Im hmm H) (h900 : hn hxx ≤ 900) (hk : k + 1 ≤ 600000) (hnn : n + 6 ≤ 7302250) (hl : lv_has ls 4 (lvs b b0 i)) (hS : va_S (fun q => s.heap.size ≤ q) s.heap H locs) (h7 : i + 7 ≤ L) (hL31 : L < 2 ^ 31)
    (hend : ∀ (E' : It) (L' : Nat → Int64) (Ix' : It) (hx' : Ht) (Im' : It) (hm' : Ht) (H' : Heap) (locs' : List Loc), LI D ci b0 E' L' Ix' hx' Im' hm' H' → hn hx' ≤ hn hxx + 1 → va_S (fun q => s.heap.size ≤ q) s.heap H' locs' → W p l e room_1 s m #[Value.ref b] below meth c H' locs' (k + 1) (n + 6) (lw_Z below #[Value.ref b] s) (F0 m 1307 ls [])) : W p l e room_1 s m #[Value.ref b] below meth c H locs k n (lw_Z below #[Value.ref b] s) (F0 m 621 ls []) := by
  obtain ⟨hx, hb, -, hml, hown, hts0, -, -, -, -⟩ := id C0
  refine lv_aload_n hx hb (dk DL_7 9 rfl).1 rfl (lv_at hl 1 rfl) ?_
  refine larg (k0 := 1) C0 hl rfl rfl hS (dk DL_7 10 rfl).1 (dk DL_7 11 rfl).1 (dk DL_7 12 rfl).1 (dk DL_7 13 rfl).1 (dk DL_7 14 rfl).1 rfl (by omega) hL31 ?_
  refine larg (k0 := 2) C0 hl rfl rfl hS (dk DL_7 15 rfl).1 (dk DL_7 16 rfl).1 (dk DL_7 17 rfl).1 (dk DL_7 18 rfl).1 (dk DL_7 19 rfl).1 rfl (by omega) hL31 ?_
  refine larg (k0 := 3) C0 hl rfl rfl hS (dk DL_7 20 rfl).1 (dk DL_7 21 rfl).1 (dk DL_7 22 rfl).1 (dk DL_7 23 rfl).1 (dk DL_7 24 rfl).1 rfl (by omega) hL31 ?_
  refine kxI (av := [.int (xs (i + 1)), .int (xs (i + 2)), .int (xs (i + 3))]) C0 hKs hb0 F.2.2.2.1 F.1.1.1 F.2.2.1.2.1.1 F.2.2.2.2 hS hl.1 (dk DL_7 25 rfl).1 rfl (tg_3 223 rfl rfl) (tg_3 224 rfl rfl) (tg_3 225 rfl rfl) (tg_1 1 rfl rfl) kX11_split pmX11_split (by decide) rfl (fun _ => rfl) (zx_split gX_ok F.2.1 F.1) (Nat.le_of_ble_eq_true rfl) (by omega) (by omega) (Nat.le_of_ble_eq_true rfl) (fun x1 I1 h1 H1 locs1 hq1 hW1 hP1 hS => ?_)
  obtain ⟨rfl, hY1, hn1⟩ := hq1
  refine lv_pop hx hb (dk DL_7 26 rfl).1 rfl ?_
  refine lv_aload_n hx hb (dk DL_7 27 rfl).1 rfl (lv_at hl 2 rfl) ?_
  refine larg (k0 := 1) C0 hl rfl rfl hS (dk DL_7 28 rfl).1 (dk DL_7 29 rfl).1 (dk DL_7 30 rfl).1 (dk DL_7 31 rfl).1 (dk DL_7 32 rfl).1 rfl (by omega) hL31 ?_
  refine larg (k0 := 2) C0 hl rfl rfl hS (dk DL_7 33 rfl).1 (dk DL_7 34 rfl).1 (dk DL_7 35 rfl).1 (dk DL_7 36 rfl).1 (dk DL_7 37 rfl).1 rfl (by omega) hL31 ?_
  refine larg (k0 := 3) C0 hl rfl rfl hS (dk DL_7 38 rfl).1 (dk DL_7 39 rfl).1 (dk DL_7 40 rfl).1 (dk DL_7 41 rfl).1 (dk DL_7 42 rfl).1 rfl (by omega) hL31 ?_
  refine kmI (av := [.int (xs (i + 1)), .int (xs (i + 2)), .int (xs (i + 3))]) C0 hKs hb0 hW1 (by omega) F.2.2.1.2.1 hP1 hS hl.1 (dk DL_7 43 rfl).1 rfl (tg_6 172 rfl rfl) (tg_6 173 rfl rfl) (tg_6 174 rfl rfl) (tg_1 7 rfl rfl) kX12_split pmX12_split (by decide) rfl (fun _ => rfl) (fun G hG => c_X12_split hG F.2.2.1.2.1 F.2.1 F.2.2.1.1 F.2.2.1.2.2) (Nat.le_of_ble_eq_true rfl) (by omega) (by omega) (Nat.le_of_ble_eq_true rfl) (fun x2 I2 h2 H2 locs2 hq2 hW2 hP2 hS => ?_)
  obtain ⟨rfl, hR2⟩ := hq2
  refine lv_pop hx hb (dk DL_7 44 rfl).1 rfl ?_
  refine lv_goto (tgt := 1307) hx hb (dk DL_7 45 rfl).1 (by decide) ?_
  exact W.widen (by omega) (by omega) (hend _ _ _ _ _ _ _ _ ⟨hY1, (by rw [split_2]; exact F.2.1), hR2, hW2, hP2⟩ (by omega) hS)
set_option maxHeartbeats 4000000 in
set_option maxRecDepth 20000 in
theorem lc_14 {p : Program} {l : Launch} {e : Env} {s : State} {m : MethodId} {below : List Frame} {meth : Method} {c : Code} {b L i k n : Nat} {xs : Nat → Int32} {H : Heap} {locs : List Loc} {ls : Array Slot} {D : va_G} {ci : Nat → ClassId} {b0 : Nat} {E : It} {Li : Nat → Int64} {Ix : It} {hxx : Ht} {Im : It} {hmm : Ht} (C0 : lw_At p s m meth c b L xs) (hKs : ∀ G, gD G = D → gc G = ci → Ks G s) (hb0 : b0 = s.heap.size) (F : LI D ci b0 E Li Ix hxx Im hmm H) (h900 : hn hxx ≤ 900) (hk : k + 1 ≤ 600000) (hnn : n + 6 ≤ 7302250) (hl : lv_has ls 4 (lvs b b0 i)) (hS : va_S (fun q => s.heap.size ≤ q) s.heap H locs) (h7 : i + 7 ≤ L) (hL31 : L < 2 ^ 31)
    (hend : ∀ (E' : It) (L' : Nat → Int64) (Ix' : It) (hx' : Ht) (Im' : It) (hm' : Ht) (H' : Heap) (locs' : List Loc), LI D ci b0 E' L' Ix' hx' Im' hm' H' → hn hx' ≤ hn hxx + 1 → va_S (fun q => s.heap.size ≤ q) s.heap H' locs' → W p l e room_1 s m #[Value.ref b] below meth c H' locs' (k + 1) (n + 6) (lw_Z below #[Value.ref b] s) (F0 m 1307 ls [])) : W p l e room_1 s m #[Value.ref b] below meth c H locs k n (lw_Z below #[Value.ref b] s) (F0 m 664 ls []) := by
  obtain ⟨hx, hb, -, hml, hown, hts0, -, -, -, -⟩ := id C0
  refine lv_aload_n hx hb (dk DL_7 46 rfl).1 rfl (lv_at hl 1 rfl) ?_
  refine larg (k0 := 1) C0 hl rfl rfl hS (dk DL_7 47 rfl).1 (dk DL_7 48 rfl).1 (dk DL_7 49 rfl).1 (dk DL_8 0 rfl).1 (dk DL_8 1 rfl).1 rfl (by omega) hL31 ?_
  refine larg (k0 := 2) C0 hl rfl rfl hS (dk DL_8 2 rfl).1 (dk DL_8 3 rfl).1 (dk DL_8 4 rfl).1 (dk DL_8 5 rfl).1 (dk DL_8 6 rfl).1 rfl (by omega) hL31 ?_
  refine kxI (av := [.int (xs (i + 1)), .int (xs (i + 2))]) C0 hKs hb0 F.2.2.2.1 F.1.1.1 F.2.2.1.2.1.1 F.2.2.2.2 hS hl.1 (dk DL_8 7 rfl).1 rfl (tg_4 5 rfl rfl) (tg_4 6 rfl rfl) (tg_4 7 rfl rfl) (tg_1 1 rfl rfl) kX11_more pmX11_more (by decide) rfl (fun _ => rfl) (zx_more gX_ok F.2.1 F.1) (Nat.le_of_ble_eq_true rfl) (by omega) (by omega) (Nat.le_of_ble_eq_true rfl) (fun x1 I1 h1 H1 locs1 hq1 hW1 hP1 hS => ?_)
  obtain ⟨rfl, hY1, hn1⟩ := hq1
  refine lv_pop hx hb (dk DL_8 8 rfl).1 rfl ?_
  refine lv_aload_n hx hb (dk DL_8 9 rfl).1 rfl (lv_at hl 2 rfl) ?_
  refine larg (k0 := 1) C0 hl rfl rfl hS (dk DL_8 10 rfl).1 (dk DL_8 11 rfl).1 (dk DL_8 12 rfl).1 (dk DL_8 13 rfl).1 (dk DL_8 14 rfl).1 rfl (by omega) hL31 ?_
  refine larg (k0 := 2) C0 hl rfl rfl hS (dk DL_8 15 rfl).1 (dk DL_8 16 rfl).1 (dk DL_8 17 rfl).1 (dk DL_8 18 rfl).1 (dk DL_8 19 rfl).1 rfl (by omega) hL31 ?_
  refine kmI (av := [.int (xs (i + 1)), .int (xs (i + 2))]) C0 hKs hb0 hW1 (by omega) F.2.2.1.2.1 hP1 hS hl.1 (dk DL_8 20 rfl).1 rfl (tg_6 192 rfl rfl) (tg_6 193 rfl rfl) (tg_6 194 rfl rfl) (tg_1 7 rfl rfl) kX12_more pmX12_more (by decide) rfl (fun _ => rfl) (fun G hG => c_X12_more hG F.2.2.1.2.1 F.2.1 F.2.2.1.1 F.2.2.1.2.2) (Nat.le_of_ble_eq_true rfl) (by omega) (by omega) (Nat.le_of_ble_eq_true rfl) (fun x2 I2 h2 H2 locs2 hq2 hW2 hP2 hS => ?_)
  obtain ⟨rfl, hR2⟩ := hq2
  refine lv_pop hx hb (dk DL_8 21 rfl).1 rfl ?_
  refine lv_goto (tgt := 1307) hx hb (dk DL_8 22 rfl).1 (by decide) ?_
  exact W.widen (by omega) (by omega) (hend _ _ _ _ _ _ _ _ ⟨hY1, (by rw [more_2]; exact F.2.1), hR2, hW2, hP2⟩ (by omega) hS)
set_option maxHeartbeats 4000000 in
set_option maxRecDepth 20000 in
theorem lc_15 {p : Program} {l : Launch} {e : Env} {s : State} {m : MethodId} {below : List Frame} {meth : Method} {c : Code} {b L i k n : Nat} {xs : Nat → Int32} {H : Heap} {locs : List Loc} {ls : Array Slot} {D : va_G} {ci : Nat → ClassId} {b0 : Nat} {E : It} {Li : Nat → Int64} {Ix : It} {hxx : Ht} {Im : It} {hmm : Ht} (C0 : lw_At p s m meth c b L xs) (hKs : ∀ G, gD G = D → gc G = ci → Ks G s) (hb0 : b0 = s.heap.size) (F : LI D ci b0 E Li Ix hxx Im hmm H) (h900 : hn hxx ≤ 900) (hk : k + 1 ≤ 600000) (hnn : n + 6 ≤ 7302250) (hl : lv_has ls 4 (lvs b b0 i)) (hS : va_S (fun q => s.heap.size ≤ q) s.heap H locs) (h7 : i + 7 ≤ L) (hL31 : L < 2 ^ 31)
    (hend : ∀ (E' : It) (L' : Nat → Int64) (Ix' : It) (hx' : Ht) (Im' : It) (hm' : Ht) (H' : Heap) (locs' : List Loc), LI D ci b0 E' L' Ix' hx' Im' hm' H' → hn hx' ≤ hn hxx + 1 → va_S (fun q => s.heap.size ≤ q) s.heap H' locs' → W p l e room_1 s m #[Value.ref b] below meth c H' locs' (k + 1) (n + 6) (lw_Z below #[Value.ref b] s) (F0 m 1307 ls [])) : W p l e room_1 s m #[Value.ref b] below meth c H locs k n (lw_Z below #[Value.ref b] s) (F0 m 697 ls []) := by
  obtain ⟨hx, hb, -, hml, hown, hts0, -, -, -, -⟩ := id C0
  refine lv_aload_n hx hb (dk DL_8 23 rfl).1 rfl (lv_at hl 1 rfl) ?_
  refine larg (k0 := 1) C0 hl rfl rfl hS (dk DL_8 24 rfl).1 (dk DL_8 25 rfl).1 (dk DL_8 26 rfl).1 (dk DL_8 27 rfl).1 (dk DL_8 28 rfl).1 rfl (by omega) hL31 ?_
  refine kxI (av := [.int (xs (i + 1))]) C0 hKs hb0 F.2.2.2.1 F.1.1.1 F.2.2.1.2.1.1 F.2.2.2.2 hS hl.1 (dk DL_8 29 rfl).1 rfl (tg_4 14 rfl rfl) (tg_4 15 rfl rfl) (tg_4 16 rfl rfl) (tg_1 1 rfl rfl) kX11_ask pmX11_ask (by decide) rfl (fun _ => rfl) (zx_ask gX_ok F.2.1 F.1) (Nat.le_of_ble_eq_true rfl) (by omega) (by omega) (Nat.le_of_ble_eq_true rfl) (fun x1 I1 h1 H1 locs1 hq1 hW1 hP1 hS => ?_)
  obtain ⟨rfl, hY1, hn1⟩ := hq1
  refine lv_pop hx hb (dk DL_8 30 rfl).1 rfl ?_
  refine lv_aload_n hx hb (dk DL_8 31 rfl).1 rfl (lv_at hl 2 rfl) ?_
  refine larg (k0 := 1) C0 hl rfl rfl hS (dk DL_8 32 rfl).1 (dk DL_8 33 rfl).1 (dk DL_8 34 rfl).1 (dk DL_8 35 rfl).1 (dk DL_8 36 rfl).1 rfl (by omega) hL31 ?_
  refine kmI (av := [.int (xs (i + 1))]) C0 hKs hb0 hW1 (by omega) F.2.2.1.2.1 hP1 hS hl.1 (dk DL_8 37 rfl).1 rfl (tg_6 196 rfl rfl) (tg_6 197 rfl rfl) (tg_6 198 rfl rfl) (tg_1 7 rfl rfl) kX12_ask pmX12_ask (by decide) rfl (fun _ => rfl) (fun G hG => c_X12_ask hG F.2.2.1.2.1 F.2.1 F.2.2.1.1 F.2.2.1.2.2) (Nat.le_of_ble_eq_true rfl) (by omega) (by omega) (Nat.le_of_ble_eq_true rfl) (fun x2 I2 h2 H2 locs2 hq2 hW2 hP2 hS => ?_)
  obtain ⟨rfl, hR2⟩ := hq2
  refine lv_pop hx hb (dk DL_8 38 rfl).1 rfl ?_
  refine lv_goto (tgt := 1307) hx hb (dk DL_8 39 rfl).1 (by decide) ?_
  exact W.widen (by omega) (by omega) (hend _ _ _ _ _ _ _ _ ⟨hY1, (by rw [ask_2]; exact F.2.1), hR2, hW2, hP2⟩ (by omega) hS)
set_option maxHeartbeats 4000000 in
set_option maxRecDepth 20000 in
theorem lc_16 {p : Program} {l : Launch} {e : Env} {s : State} {m : MethodId} {below : List Frame} {meth : Method} {c : Code} {b L i k n : Nat} {xs : Nat → Int32} {H : Heap} {locs : List Loc} {ls : Array Slot} {D : va_G} {ci : Nat → ClassId} {b0 : Nat} {E : It} {Li : Nat → Int64} {Ix : It} {hxx : Ht} {Im : It} {hmm : Ht} (C0 : lw_At p s m meth c b L xs) (hKs : ∀ G, gD G = D → gc G = ci → Ks G s) (hb0 : b0 = s.heap.size) (F : LI D ci b0 E Li Ix hxx Im hmm H) (h900 : hn hxx ≤ 900) (hk : k + 1 ≤ 600000) (hnn : n + 6 ≤ 7302250) (hl : lv_has ls 4 (lvs b b0 i)) (hS : va_S (fun q => s.heap.size ≤ q) s.heap H locs) (h7 : i + 7 ≤ L) (hL31 : L < 2 ^ 31)
    (hend : ∀ (E' : It) (L' : Nat → Int64) (Ix' : It) (hx' : Ht) (Im' : It) (hm' : Ht) (H' : Heap) (locs' : List Loc), LI D ci b0 E' L' Ix' hx' Im' hm' H' → hn hx' ≤ hn hxx + 1 → va_S (fun q => s.heap.size ≤ q) s.heap H' locs' → W p l e room_1 s m #[Value.ref b] below meth c H' locs' (k + 1) (n + 6) (lw_Z below #[Value.ref b] s) (F0 m 1307 ls [])) : W p l e room_1 s m #[Value.ref b] below meth c H locs k n (lw_Z below #[Value.ref b] s) (F0 m 720 ls []) := by
  obtain ⟨hx, hb, -, hml, hown, hts0, -, -, -, -⟩ := id C0
  refine lv_aload_n hx hb (dk DL_8 40 rfl).1 rfl (lv_at hl 1 rfl) ?_
  refine larg (k0 := 1) C0 hl rfl rfl hS (dk DL_8 41 rfl).1 (dk DL_8 42 rfl).1 (dk DL_8 43 rfl).1 (dk DL_8 44 rfl).1 (dk DL_8 45 rfl).1 rfl (by omega) hL31 ?_
  refine kxI (av := [.int (xs (i + 1))]) C0 hKs hb0 F.2.2.2.1 F.1.1.1 F.2.2.1.2.1.1 F.2.2.2.2 hS hl.1 (dk DL_8 46 rfl).1 rfl (tg_4 22 rfl rfl) (tg_4 23 rfl rfl) (tg_4 24 rfl rfl) (tg_1 1 rfl rfl) kX11_drop pmX11_drop (by decide) rfl (fun _ => rfl) (zx_drop gX_ok F.2.1 F.1) (Nat.le_of_ble_eq_true rfl) (by omega) (by omega) (Nat.le_of_ble_eq_true rfl) (fun x1 I1 h1 H1 locs1 hq1 hW1 hP1 hS => ?_)
  obtain ⟨rfl, hY1, hn1⟩ := hq1
  refine lv_pop hx hb (dk DL_8 47 rfl).1 rfl ?_
  refine lv_aload_n hx hb (dk DL_8 48 rfl).1 rfl (lv_at hl 2 rfl) ?_
  refine larg (k0 := 1) C0 hl rfl rfl hS (dk DL_8 49 rfl).1 (dk DL_9 0 rfl).1 (dk DL_9 1 rfl).1 (dk DL_9 2 rfl).1 (dk DL_9 3 rfl).1 rfl (by omega) hL31 ?_
  refine kmI (av := [.int (xs (i + 1))]) C0 hKs hb0 hW1 (by omega) F.2.2.1.2.1 hP1 hS hl.1 (dk DL_9 4 rfl).1 rfl (tg_6 200 rfl rfl) (tg_6 201 rfl rfl) (tg_6 202 rfl rfl) (tg_1 7 rfl rfl) kX12_drop pmX12_drop (by decide) rfl (fun _ => rfl) (fun G hG => c_X12_drop hG F.2.2.1.2.1 F.2.1 F.2.2.1.1 F.2.2.1.2.2) (Nat.le_of_ble_eq_true rfl) (by omega) (by omega) (Nat.le_of_ble_eq_true rfl) (fun x2 I2 h2 H2 locs2 hq2 hW2 hP2 hS => ?_)
  obtain ⟨rfl, hR2⟩ := hq2
  refine lv_pop hx hb (dk DL_9 5 rfl).1 rfl ?_
  refine lv_goto (tgt := 1307) hx hb (dk DL_9 6 rfl).1 (by decide) ?_
  exact W.widen (by omega) (by omega) (hend _ _ _ _ _ _ _ _ ⟨hY1, (by rw [drop_2]; exact F.2.1), hR2, hW2, hP2⟩ (by omega) hS)
set_option maxHeartbeats 4000000 in
set_option maxRecDepth 20000 in
theorem lc_17 {p : Program} {l : Launch} {e : Env} {s : State} {m : MethodId} {below : List Frame} {meth : Method} {c : Code} {b L i k n : Nat} {xs : Nat → Int32} {H : Heap} {locs : List Loc} {ls : Array Slot} {D : va_G} {ci : Nat → ClassId} {b0 : Nat} {E : It} {Li : Nat → Int64} {Ix : It} {hxx : Ht} {Im : It} {hmm : Ht} (C0 : lw_At p s m meth c b L xs) (hKs : ∀ G, gD G = D → gc G = ci → Ks G s) (hb0 : b0 = s.heap.size) (F : LI D ci b0 E Li Ix hxx Im hmm H) (h900 : hn hxx ≤ 900) (hk : k + 1 ≤ 600000) (hnn : n + 6 ≤ 7302250) (hl : lv_has ls 4 (lvs b b0 i)) (hS : va_S (fun q => s.heap.size ≤ q) s.heap H locs) (h7 : i + 7 ≤ L) (hL31 : L < 2 ^ 31)
    (hend : ∀ (E' : It) (L' : Nat → Int64) (Ix' : It) (hx' : Ht) (Im' : It) (hm' : Ht) (H' : Heap) (locs' : List Loc), LI D ci b0 E' L' Ix' hx' Im' hm' H' → hn hx' ≤ hn hxx + 1 → va_S (fun q => s.heap.size ≤ q) s.heap H' locs' → W p l e room_1 s m #[Value.ref b] below meth c H' locs' (k + 1) (n + 6) (lw_Z below #[Value.ref b] s) (F0 m 1307 ls [])) : W p l e room_1 s m #[Value.ref b] below meth c H locs k n (lw_Z below #[Value.ref b] s) (F0 m 743 ls []) := by
  obtain ⟨hx, hb, -, hml, hown, hts0, -, -, -, -⟩ := id C0
  refine lv_aload_n hx hb (dk DL_9 7 rfl).1 rfl (lv_at hl 1 rfl) ?_
  refine larg (k0 := 1) C0 hl rfl rfl hS (dk DL_9 8 rfl).1 (dk DL_9 9 rfl).1 (dk DL_9 10 rfl).1 (dk DL_9 11 rfl).1 (dk DL_9 12 rfl).1 rfl (by omega) hL31 ?_
  refine kxI (av := [.int (xs (i + 1))]) C0 hKs hb0 F.2.2.2.1 F.1.1.1 F.2.2.1.2.1.1 F.2.2.2.2 hS hl.1 (dk DL_9 13 rfl).1 rfl (tg_4 26 rfl rfl) (tg_4 27 rfl rfl) (tg_4 28 rfl rfl) (tg_1 1 rfl rfl) kX11_when pmX11_when (by decide) rfl (fun _ => rfl) (zx_when gX_ok F.2.1 F.1) (Nat.le_of_ble_eq_true rfl) (by omega) (by omega) (Nat.le_of_ble_eq_true rfl) (fun x1 I1 h1 H1 locs1 hq1 hW1 hP1 hS => ?_)
  obtain ⟨rfl, hY1, hn1⟩ := hq1
  refine lv_pop hx hb (dk DL_9 14 rfl).1 rfl ?_
  refine lv_aload_n hx hb (dk DL_9 15 rfl).1 rfl (lv_at hl 2 rfl) ?_
  refine larg (k0 := 1) C0 hl rfl rfl hS (dk DL_9 16 rfl).1 (dk DL_9 17 rfl).1 (dk DL_9 18 rfl).1 (dk DL_9 19 rfl).1 (dk DL_9 20 rfl).1 rfl (by omega) hL31 ?_
  refine kmI (av := [.int (xs (i + 1))]) C0 hKs hb0 hW1 (by omega) F.2.2.1.2.1 hP1 hS hl.1 (dk DL_9 21 rfl).1 rfl (tg_6 204 rfl rfl) (tg_6 205 rfl rfl) (tg_6 206 rfl rfl) (tg_1 7 rfl rfl) kX12_when pmX12_when (by decide) rfl (fun _ => rfl) (fun G hG => c_X12_when hG F.2.2.1.2.1 F.2.1 F.2.2.1.1 F.2.2.1.2.2) (Nat.le_of_ble_eq_true rfl) (by omega) (by omega) (Nat.le_of_ble_eq_true rfl) (fun x2 I2 h2 H2 locs2 hq2 hW2 hP2 hS => ?_)
  obtain ⟨rfl, hR2⟩ := hq2
  refine lv_pop hx hb (dk DL_9 22 rfl).1 rfl ?_
  refine lv_goto (tgt := 1307) hx hb (dk DL_9 23 rfl).1 (by decide) ?_
  exact W.widen (by omega) (by omega) (hend _ _ _ _ _ _ _ _ ⟨hY1, (by rw [when_2]; exact F.2.1), hR2, hW2, hP2⟩ (by omega) hS)
set_option maxHeartbeats 4000000 in
set_option maxRecDepth 20000 in
theorem lc_18 {p : Program} {l : Launch} {e : Env} {s : State} {m : MethodId} {below : List Frame} {meth : Method} {c : Code} {b L i k n : Nat} {xs : Nat → Int32} {H : Heap} {locs : List Loc} {ls : Array Slot} {D : va_G} {ci : Nat → ClassId} {b0 : Nat} {E : It} {Li : Nat → Int64} {Ix : It} {hxx : Ht} {Im : It} {hmm : Ht} (C0 : lw_At p s m meth c b L xs) (hKs : ∀ G, gD G = D → gc G = ci → Ks G s) (hb0 : b0 = s.heap.size) (F : LI D ci b0 E Li Ix hxx Im hmm H) (h900 : hn hxx ≤ 900) (hk : k + 1 ≤ 600000) (hnn : n + 6 ≤ 7302250) (hl : lv_has ls 4 (lvs b b0 i)) (hS : va_S (fun q => s.heap.size ≤ q) s.heap H locs) (h7 : i + 7 ≤ L) (hL31 : L < 2 ^ 31)
    (hend : ∀ (E' : It) (L' : Nat → Int64) (Ix' : It) (hx' : Ht) (Im' : It) (hm' : Ht) (H' : Heap) (locs' : List Loc), LI D ci b0 E' L' Ix' hx' Im' hm' H' → hn hx' ≤ hn hxx + 1 → va_S (fun q => s.heap.size ≤ q) s.heap H' locs' → W p l e room_1 s m #[Value.ref b] below meth c H' locs' (k + 1) (n + 6) (lw_Z below #[Value.ref b] s) (F0 m 1307 ls [])) : W p l e room_1 s m #[Value.ref b] below meth c H locs k n (lw_Z below #[Value.ref b] s) (F0 m 766 ls []) := by
  obtain ⟨hx, hb, -, hml, hown, hts0, -, -, -, -⟩ := id C0
  refine lv_aload_n hx hb (dk DL_9 24 rfl).1 rfl (lv_at hl 1 rfl) ?_
  refine larg (k0 := 1) C0 hl rfl rfl hS (dk DL_9 25 rfl).1 (dk DL_9 26 rfl).1 (dk DL_9 27 rfl).1 (dk DL_9 28 rfl).1 (dk DL_9 29 rfl).1 rfl (by omega) hL31 ?_
  refine larg (k0 := 2) C0 hl rfl rfl hS (dk DL_9 30 rfl).1 (dk DL_9 31 rfl).1 (dk DL_9 32 rfl).1 (dk DL_9 33 rfl).1 (dk DL_9 34 rfl).1 rfl (by omega) hL31 ?_
  refine kxI (av := [.int (xs (i + 1)), .int (xs (i + 2))]) C0 hKs hb0 F.2.2.2.1 F.1.1.1 F.2.2.1.2.1.1 F.2.2.2.2 hS hl.1 (dk DL_9 35 rfl).1 rfl (tg_4 31 rfl rfl) (tg_4 32 rfl rfl) (tg_4 33 rfl rfl) (tg_1 1 rfl rfl) kX11_busiest pmX11_busiest (by decide) rfl (fun _ => rfl) (zx_busiest gX_ok F.2.1 F.1) (Nat.le_of_ble_eq_true rfl) (by omega) (by omega) (Nat.le_of_ble_eq_true rfl) (fun x1 I1 h1 H1 locs1 hq1 hW1 hP1 hS => ?_)
  obtain ⟨rfl, hY1, hn1⟩ := hq1
  refine lv_pop hx hb (dk DL_9 36 rfl).1 rfl ?_
  refine lv_aload_n hx hb (dk DL_9 37 rfl).1 rfl (lv_at hl 2 rfl) ?_
  refine larg (k0 := 1) C0 hl rfl rfl hS (dk DL_9 38 rfl).1 (dk DL_9 39 rfl).1 (dk DL_9 40 rfl).1 (dk DL_9 41 rfl).1 (dk DL_9 42 rfl).1 rfl (by omega) hL31 ?_
  refine larg (k0 := 2) C0 hl rfl rfl hS (dk DL_9 43 rfl).1 (dk DL_9 44 rfl).1 (dk DL_9 45 rfl).1 (dk DL_9 46 rfl).1 (dk DL_9 47 rfl).1 rfl (by omega) hL31 ?_
  refine kmI (av := [.int (xs (i + 1)), .int (xs (i + 2))]) C0 hKs hb0 hW1 (by omega) F.2.2.1.2.1 hP1 hS hl.1 (dk DL_9 48 rfl).1 rfl (tg_6 208 rfl rfl) (tg_6 209 rfl rfl) (tg_6 210 rfl rfl) (tg_1 7 rfl rfl) kX12_busiest pmX12_busiest (by decide) rfl (fun _ => rfl) (fun G hG => c_X12_busiest hG F.2.2.1.2.1 F.2.1 F.2.2.1.1 F.2.2.1.2.2) (Nat.le_of_ble_eq_true rfl) (by omega) (by omega) (Nat.le_of_ble_eq_true rfl) (fun x2 I2 h2 H2 locs2 hq2 hW2 hP2 hS => ?_)
  obtain ⟨rfl, hR2⟩ := hq2
  refine lv_pop hx hb (dk DL_9 49 rfl).1 rfl ?_
  refine lv_goto (tgt := 1307) hx hb (dk DL_10 0 rfl).1 (by decide) ?_
  exact W.widen (by omega) (by omega) (hend _ _ _ _ _ _ _ _ ⟨hY1, (by rw [busiest_2]; exact F.2.1), hR2, hW2, hP2⟩ (by omega) hS)
set_option maxHeartbeats 4000000 in
set_option maxRecDepth 20000 in
theorem lc_19 {p : Program} {l : Launch} {e : Env} {s : State} {m : MethodId} {below : List Frame} {meth : Method} {c : Code} {b L i k n : Nat} {xs : Nat → Int32} {H : Heap} {locs : List Loc} {ls : Array Slot} {D : va_G} {ci : Nat → ClassId} {b0 : Nat} {E : It} {Li : Nat → Int64} {Ix : It} {hxx : Ht} {Im : It} {hmm : Ht} (C0 : lw_At p s m meth c b L xs) (hKs : ∀ G, gD G = D → gc G = ci → Ks G s) (hb0 : b0 = s.heap.size) (F : LI D ci b0 E Li Ix hxx Im hmm H) (h900 : hn hxx ≤ 900) (hk : k + 1 ≤ 600000) (hnn : n + 6 ≤ 7302250) (hl : lv_has ls 4 (lvs b b0 i)) (hS : va_S (fun q => s.heap.size ≤ q) s.heap H locs) (h7 : i + 7 ≤ L) (hL31 : L < 2 ^ 31)
    (hend : ∀ (E' : It) (L' : Nat → Int64) (Ix' : It) (hx' : Ht) (Im' : It) (hm' : Ht) (H' : Heap) (locs' : List Loc), LI D ci b0 E' L' Ix' hx' Im' hm' H' → hn hx' ≤ hn hxx + 1 → va_S (fun q => s.heap.size ≤ q) s.heap H' locs' → W p l e room_1 s m #[Value.ref b] below meth c H' locs' (k + 1) (n + 6) (lw_Z below #[Value.ref b] s) (F0 m 1307 ls [])) : W p l e room_1 s m #[Value.ref b] below meth c H locs k n (lw_Z below #[Value.ref b] s) (F0 m 799 ls []) := by
  obtain ⟨hx, hb, -, hml, hown, hts0, -, -, -, -⟩ := id C0
  refine lv_aload_n hx hb (dk DL_10 1 rfl).1 rfl (lv_at hl 1 rfl) ?_
  refine larg (k0 := 1) C0 hl rfl rfl hS (dk DL_10 2 rfl).1 (dk DL_10 3 rfl).1 (dk DL_10 4 rfl).1 (dk DL_10 5 rfl).1 (dk DL_10 6 rfl).1 rfl (by omega) hL31 ?_
  refine kxI (av := [.int (xs (i + 1))]) C0 hKs hb0 F.2.2.2.1 F.1.1.1 F.2.2.1.2.1.1 F.2.2.2.2 hS hl.1 (dk DL_10 7 rfl).1 rfl (tg_4 36 rfl rfl) (tg_4 37 rfl rfl) (tg_4 38 rfl rfl) (tg_1 1 rfl rfl) kX11_all pmX11_all (by decide) rfl (fun _ => rfl) (zx_all gX_ok F.2.1 F.1) (Nat.le_of_ble_eq_true rfl) (by omega) (by omega) (Nat.le_of_ble_eq_true rfl) (fun x1 I1 h1 H1 locs1 hq1 hW1 hP1 hS => ?_)
  obtain ⟨rfl, hY1, hn1⟩ := hq1
  refine lv_pop hx hb (dk DL_10 8 rfl).1 rfl ?_
  refine lv_aload_n hx hb (dk DL_10 9 rfl).1 rfl (lv_at hl 2 rfl) ?_
  refine larg (k0 := 1) C0 hl rfl rfl hS (dk DL_10 10 rfl).1 (dk DL_10 11 rfl).1 (dk DL_10 12 rfl).1 (dk DL_10 13 rfl).1 (dk DL_10 14 rfl).1 rfl (by omega) hL31 ?_
  refine kmI (av := [.int (xs (i + 1))]) C0 hKs hb0 hW1 (by omega) F.2.2.1.2.1 hP1 hS hl.1 (dk DL_10 15 rfl).1 rfl (tg_6 216 rfl rfl) (tg_6 217 rfl rfl) (tg_6 218 rfl rfl) (tg_1 7 rfl rfl) kX12_all pmX12_all (by decide) rfl (fun _ => rfl) (fun G hG => c_X12_all hG F.2.2.1.2.1 F.2.1 F.2.2.1.1 F.2.2.1.2.2) (Nat.le_of_ble_eq_true rfl) (by omega) (by omega) (Nat.le_of_ble_eq_true rfl) (fun x2 I2 h2 H2 locs2 hq2 hW2 hP2 hS => ?_)
  obtain ⟨rfl, hR2⟩ := hq2
  refine lv_pop hx hb (dk DL_10 16 rfl).1 rfl ?_
  refine lv_goto (tgt := 1307) hx hb (dk DL_10 17 rfl).1 (by decide) ?_
  exact W.widen (by omega) (by omega) (hend _ _ _ _ _ _ _ _ ⟨hY1, (by rw [all_2]; exact F.2.1), hR2, hW2, hP2⟩ (by omega) hS)
set_option maxHeartbeats 4000000 in
set_option maxRecDepth 20000 in
theorem lc_20 {p : Program} {l : Launch} {e : Env} {s : State} {m : MethodId} {below : List Frame} {meth : Method} {c : Code} {b L i k n : Nat} {xs : Nat → Int32} {H : Heap} {locs : List Loc} {ls : Array Slot} {D : va_G} {ci : Nat → ClassId} {b0 : Nat} {E : It} {Li : Nat → Int64} {Ix : It} {hxx : Ht} {Im : It} {hmm : Ht} (C0 : lw_At p s m meth c b L xs) (hKs : ∀ G, gD G = D → gc G = ci → Ks G s) (hb0 : b0 = s.heap.size) (F : LI D ci b0 E Li Ix hxx Im hmm H) (h900 : hn hxx ≤ 900) (hk : k + 1 ≤ 600000) (hnn : n + 6 ≤ 7302250) (hl : lv_has ls 4 (lvs b b0 i)) (hS : va_S (fun q => s.heap.size ≤ q) s.heap H locs) (h7 : i + 7 ≤ L) (hL31 : L < 2 ^ 31)
    (hend : ∀ (E' : It) (L' : Nat → Int64) (Ix' : It) (hx' : Ht) (Im' : It) (hm' : Ht) (H' : Heap) (locs' : List Loc), LI D ci b0 E' L' Ix' hx' Im' hm' H' → hn hx' ≤ hn hxx + 1 → va_S (fun q => s.heap.size ≤ q) s.heap H' locs' → W p l e room_1 s m #[Value.ref b] below meth c H' locs' (k + 1) (n + 6) (lw_Z below #[Value.ref b] s) (F0 m 1307 ls [])) : W p l e room_1 s m #[Value.ref b] below meth c H locs k n (lw_Z below #[Value.ref b] s) (F0 m 822 ls []) := by
  obtain ⟨hx, hb, -, hml, hown, hts0, -, -, -, -⟩ := id C0
  refine lv_aload_n hx hb (dk DL_10 18 rfl).1 rfl (lv_at hl 1 rfl) ?_
  refine larg (k0 := 1) C0 hl rfl rfl hS (dk DL_10 19 rfl).1 (dk DL_10 20 rfl).1 (dk DL_10 21 rfl).1 (dk DL_10 22 rfl).1 (dk DL_10 23 rfl).1 rfl (by omega) hL31 ?_
  refine larg (k0 := 2) C0 hl rfl rfl hS (dk DL_10 24 rfl).1 (dk DL_10 25 rfl).1 (dk DL_10 26 rfl).1 (dk DL_10 27 rfl).1 (dk DL_10 28 rfl).1 rfl (by omega) hL31 ?_
  refine kxI (av := [.int (xs (i + 1)), .int (xs (i + 2))]) C0 hKs hb0 F.2.2.2.1 F.1.1.1 F.2.2.1.2.1.1 F.2.2.2.2 hS hl.1 (dk DL_10 29 rfl).1 rfl (tg_4 50 rfl rfl) (tg_4 51 rfl rfl) (tg_4 52 rfl rfl) (tg_1 1 rfl rfl) kX11_list pmX11_list (by decide) rfl (fun _ => rfl) (zx_list gX_ok F.2.1 F.1) (Nat.le_of_ble_eq_true rfl) (by omega) (by omega) (Nat.le_of_ble_eq_true rfl) (fun x1 I1 h1 H1 locs1 hq1 hW1 hP1 hS => ?_)
  obtain ⟨rfl, hY1, hn1⟩ := hq1
  refine lv_pop hx hb (dk DL_10 30 rfl).1 rfl ?_
  refine lv_aload_n hx hb (dk DL_10 31 rfl).1 rfl (lv_at hl 2 rfl) ?_
  refine larg (k0 := 1) C0 hl rfl rfl hS (dk DL_10 32 rfl).1 (dk DL_10 33 rfl).1 (dk DL_10 34 rfl).1 (dk DL_10 35 rfl).1 (dk DL_10 36 rfl).1 rfl (by omega) hL31 ?_
  refine larg (k0 := 2) C0 hl rfl rfl hS (dk DL_10 37 rfl).1 (dk DL_10 38 rfl).1 (dk DL_10 39 rfl).1 (dk DL_10 40 rfl).1 (dk DL_10 41 rfl).1 rfl (by omega) hL31 ?_
  refine kmI (av := [.int (xs (i + 1)), .int (xs (i + 2))]) C0 hKs hb0 hW1 (by omega) F.2.2.1.2.1 hP1 hS hl.1 (dk DL_10 42 rfl).1 rfl (tg_6 224 rfl rfl) (tg_6 225 rfl rfl) (tg_6 226 rfl rfl) (tg_1 7 rfl rfl) kX12_list pmX12_list (by decide) rfl (fun _ => rfl) (fun G hG => c_X12_list hG F.2.2.1.2.1 F.2.1 F.2.2.1.1 F.2.2.1.2.2) (Nat.le_of_ble_eq_true rfl) (by omega) (by omega) (Nat.le_of_ble_eq_true rfl) (fun x2 I2 h2 H2 locs2 hq2 hW2 hP2 hS => ?_)
  obtain ⟨rfl, hR2⟩ := hq2
  refine lv_pop hx hb (dk DL_10 43 rfl).1 rfl ?_
  refine lv_goto (tgt := 1307) hx hb (dk DL_10 44 rfl).1 (by decide) ?_
  exact W.widen (by omega) (by omega) (hend _ _ _ _ _ _ _ _ ⟨hY1, F.2.1.list, hR2, hW2, hP2⟩ (by omega) hS)
set_option maxHeartbeats 4000000 in
set_option maxRecDepth 20000 in
theorem lc_21 {p : Program} {l : Launch} {e : Env} {s : State} {m : MethodId} {below : List Frame} {meth : Method} {c : Code} {b L i k n : Nat} {xs : Nat → Int32} {H : Heap} {locs : List Loc} {ls : Array Slot} {D : va_G} {ci : Nat → ClassId} {b0 : Nat} {E : It} {Li : Nat → Int64} {Ix : It} {hxx : Ht} {Im : It} {hmm : Ht} (C0 : lw_At p s m meth c b L xs) (hKs : ∀ G, gD G = D → gc G = ci → Ks G s) (hb0 : b0 = s.heap.size) (F : LI D ci b0 E Li Ix hxx Im hmm H) (h900 : hn hxx ≤ 900) (hk : k + 1 ≤ 600000) (hnn : n + 6 ≤ 7302250) (hl : lv_has ls 4 (lvs b b0 i)) (hS : va_S (fun q => s.heap.size ≤ q) s.heap H locs) (h7 : i + 7 ≤ L) (hL31 : L < 2 ^ 31)
    (hend : ∀ (E' : It) (L' : Nat → Int64) (Ix' : It) (hx' : Ht) (Im' : It) (hm' : Ht) (H' : Heap) (locs' : List Loc), LI D ci b0 E' L' Ix' hx' Im' hm' H' → hn hx' ≤ hn hxx + 1 → va_S (fun q => s.heap.size ≤ q) s.heap H' locs' → W p l e room_1 s m #[Value.ref b] below meth c H' locs' (k + 1) (n + 6) (lw_Z below #[Value.ref b] s) (F0 m 1307 ls [])) : W p l e room_1 s m #[Value.ref b] below meth c H locs k n (lw_Z below #[Value.ref b] s) (F0 m 855 ls []) := by
  obtain ⟨hx, hb, -, hml, hown, hts0, -, -, -, -⟩ := id C0
  refine lv_aload_n hx hb (dk DL_10 45 rfl).1 rfl (lv_at hl 1 rfl) ?_
  refine kxI (av := []) C0 hKs hb0 F.2.2.2.1 F.1.1.1 F.2.2.1.2.1.1 F.2.2.2.2 hS hl.1 (dk DL_10 46 rfl).1 rfl (tg_4 58 rfl rfl) (tg_4 59 rfl rfl) (tg_4 60 rfl rfl) (tg_1 1 rfl rfl) kX11_looked pmX11_looked (by decide) rfl (fun _ => rfl) (zx_looked gX_ok F.2.1 F.1) (Nat.le_of_ble_eq_true rfl) (by omega) (by omega) (Nat.le_of_ble_eq_true rfl) (fun x1 I1 h1 H1 locs1 hq1 hW1 hP1 hS => ?_)
  obtain ⟨hY1, hn1⟩ := hq1
  refine lv_pop hx hb (dk DL_10 47 rfl).1 rfl ?_
  refine lv_aload_n hx hb (dk DL_10 48 rfl).1 rfl (lv_at hl 2 rfl) ?_
  refine kmI (av := []) C0 hKs hb0 hW1 (by omega) F.2.2.1.2.1 hP1 hS hl.1 (dk DL_10 49 rfl).1 rfl (tg_6 228 rfl rfl) (tg_6 229 rfl rfl) (tg_6 230 rfl rfl) (tg_1 7 rfl rfl) kX12_looked pmX12_looked (by decide) rfl (fun _ => rfl) (fun G hG => c_X12_looked hG F.2.2.1.2.1 F.2.1 F.2.2.1.1 F.2.2.1.2.2) (Nat.le_of_ble_eq_true rfl) (by omega) (by omega) (Nat.le_of_ble_eq_true rfl) (fun x2 I2 h2 H2 locs2 hq2 hW2 hP2 hS => ?_)
  have hR2 := hq2
  refine lv_pop hx hb (dk DL_11 0 rfl).1 rfl ?_
  refine lv_goto (tgt := 1307) hx hb (dk DL_11 1 rfl).1 (by decide) ?_
  exact W.widen (by omega) (by omega) (hend _ _ _ _ _ _ _ _ ⟨hY1, F.2.1, hR2, hW2, hP2⟩ (by omega) hS)
set_option maxHeartbeats 4000000 in
set_option maxRecDepth 20000 in
theorem lc_22 {p : Program} {l : Launch} {e : Env} {s : State} {m : MethodId} {below : List Frame} {meth : Method} {c : Code} {b L i k n : Nat} {xs : Nat → Int32} {H : Heap} {locs : List Loc} {ls : Array Slot} {D : va_G} {ci : Nat → ClassId} {b0 : Nat} {E : It} {Li : Nat → Int64} {Ix : It} {hxx : Ht} {Im : It} {hmm : Ht} (C0 : lw_At p s m meth c b L xs) (hKs : ∀ G, gD G = D → gc G = ci → Ks G s) (hb0 : b0 = s.heap.size) (F : LI D ci b0 E Li Ix hxx Im hmm H) (h900 : hn hxx ≤ 900) (hk : k + 1 ≤ 600000) (hnn : n + 6 ≤ 7302250) (hl : lv_has ls 4 (lvs b b0 i)) (hS : va_S (fun q => s.heap.size ≤ q) s.heap H locs) (h7 : i + 7 ≤ L) (hL31 : L < 2 ^ 31)
    (hend : ∀ (E' : It) (L' : Nat → Int64) (Ix' : It) (hx' : Ht) (Im' : It) (hm' : Ht) (H' : Heap) (locs' : List Loc), LI D ci b0 E' L' Ix' hx' Im' hm' H' → hn hx' ≤ hn hxx + 1 → va_S (fun q => s.heap.size ≤ q) s.heap H' locs' → W p l e room_1 s m #[Value.ref b] below meth c H' locs' (k + 1) (n + 6) (lw_Z below #[Value.ref b] s) (F0 m 1307 ls [])) : W p l e room_1 s m #[Value.ref b] below meth c H locs k n (lw_Z below #[Value.ref b] s) (F0 m 868 ls []) := by
  obtain ⟨hx, hb, -, hml, hown, hts0, -, -, -, -⟩ := id C0
  refine lv_aload_n hx hb (dk DL_11 2 rfl).1 rfl (lv_at hl 1 rfl) ?_
  refine kxI (av := []) C0 hKs hb0 F.2.2.2.1 F.1.1.1 F.2.2.1.2.1.1 F.2.2.2.2 hS hl.1 (dk DL_11 3 rfl).1 rfl (tg_4 71 rfl rfl) (tg_4 72 rfl rfl) (tg_4 73 rfl rfl) (tg_1 1 rfl rfl) kX11_fits pmX11_fits (by decide) rfl (fun _ => rfl) (zx_fits gX_ok F.2.1 F.1) (Nat.le_of_ble_eq_true rfl) (by omega) (by omega) (Nat.le_of_ble_eq_true rfl) (fun x1 I1 h1 H1 locs1 hq1 hW1 hP1 hS => ?_)
  obtain ⟨hY1, hn1⟩ := hq1
  refine lv_pop hx hb (dk DL_11 4 rfl).1 rfl ?_
  refine lv_aload_n hx hb (dk DL_11 5 rfl).1 rfl (lv_at hl 2 rfl) ?_
  refine kmI (av := []) C0 hKs hb0 hW1 (by omega) F.2.2.1.2.1 hP1 hS hl.1 (dk DL_11 6 rfl).1 rfl (tg_6 236 rfl rfl) (tg_6 237 rfl rfl) (tg_6 238 rfl rfl) (tg_1 7 rfl rfl) kX12_fits pmX12_fits (by decide) rfl (fun _ => rfl) (fun G hG => c_X12_fits hG F.2.2.1.2.1 F.2.1 F.2.2.1.1 F.2.2.1.2.2) (Nat.le_of_ble_eq_true rfl) (by omega) (by omega) (Nat.le_of_ble_eq_true rfl) (fun x2 I2 h2 H2 locs2 hq2 hW2 hP2 hS => ?_)
  have hR2 := hq2
  refine lv_pop hx hb (dk DL_11 7 rfl).1 rfl ?_
  refine lv_goto (tgt := 1307) hx hb (dk DL_11 8 rfl).1 (by decide) ?_
  exact W.widen (by omega) (by omega) (hend _ _ _ _ _ _ _ _ ⟨hY1, F.2.1, hR2, hW2, hP2⟩ (by omega) hS)
set_option maxHeartbeats 4000000 in
set_option maxRecDepth 20000 in
theorem lc_23 {p : Program} {l : Launch} {e : Env} {s : State} {m : MethodId} {below : List Frame} {meth : Method} {c : Code} {b L i k n : Nat} {xs : Nat → Int32} {H : Heap} {locs : List Loc} {ls : Array Slot} {D : va_G} {ci : Nat → ClassId} {b0 : Nat} {E : It} {Li : Nat → Int64} {Ix : It} {hxx : Ht} {Im : It} {hmm : Ht} (C0 : lw_At p s m meth c b L xs) (hKs : ∀ G, gD G = D → gc G = ci → Ks G s) (hb0 : b0 = s.heap.size) (F : LI D ci b0 E Li Ix hxx Im hmm H) (h900 : hn hxx ≤ 900) (hk : k + 1 ≤ 600000) (hnn : n + 6 ≤ 7302250) (hl : lv_has ls 4 (lvs b b0 i)) (hS : va_S (fun q => s.heap.size ≤ q) s.heap H locs) (h7 : i + 7 ≤ L) (hL31 : L < 2 ^ 31)
    (hend : ∀ (E' : It) (L' : Nat → Int64) (Ix' : It) (hx' : Ht) (Im' : It) (hm' : Ht) (H' : Heap) (locs' : List Loc), LI D ci b0 E' L' Ix' hx' Im' hm' H' → hn hx' ≤ hn hxx + 1 → va_S (fun q => s.heap.size ≤ q) s.heap H' locs' → W p l e room_1 s m #[Value.ref b] below meth c H' locs' (k + 1) (n + 6) (lw_Z below #[Value.ref b] s) (F0 m 1307 ls [])) : W p l e room_1 s m #[Value.ref b] below meth c H locs k n (lw_Z below #[Value.ref b] s) (F0 m 881 ls []) := by
  obtain ⟨hx, hb, -, hml, hown, hts0, -, -, -, -⟩ := id C0
  refine lv_aload_n hx hb (dk DL_11 9 rfl).1 rfl (lv_at hl 1 rfl) ?_
  refine larg (k0 := 1) C0 hl rfl rfl hS (dk DL_11 10 rfl).1 (dk DL_11 11 rfl).1 (dk DL_11 12 rfl).1 (dk DL_11 13 rfl).1 (dk DL_11 14 rfl).1 rfl (by omega) hL31 ?_
  refine larg (k0 := 2) C0 hl rfl rfl hS (dk DL_11 15 rfl).1 (dk DL_11 16 rfl).1 (dk DL_11 17 rfl).1 (dk DL_11 18 rfl).1 (dk DL_11 19 rfl).1 rfl (by omega) hL31 ?_
  refine kxL (av := [.int (xs (i + 1)), .int (xs (i + 2))]) C0 hKs hb0 F.2.2.2.1 F.1.1.1 F.2.2.1.2.1.1 F.2.2.2.2 hS hl.1 (dk DL_11 20 rfl).1 rfl (tg_4 75 rfl rfl) (tg_4 76 rfl rfl) (tg_4 77 rfl rfl) (tg_1 1 rfl rfl) kX11_chance pmX11_chance (by decide) rfl (fun _ => rfl) (zx_chance gX_ok F.2.1 F.1) (Nat.le_of_ble_eq_true rfl) (by omega) (by omega) (Nat.le_of_ble_eq_true rfl) (fun x1 I1 h1 H1 locs1 hq1 hW1 hP1 hS => ?_)
  obtain ⟨rfl, hY1, hn1⟩ := hq1
  refine lv_pop2_2 hx hb (dk DL_11 21 rfl).1 rfl ?_
  refine lv_aload_n hx hb (dk DL_11 22 rfl).1 rfl (lv_at hl 2 rfl) ?_
  refine larg (k0 := 1) C0 hl rfl rfl hS (dk DL_11 23 rfl).1 (dk DL_11 24 rfl).1 (dk DL_11 25 rfl).1 (dk DL_11 26 rfl).1 (dk DL_11 27 rfl).1 rfl (by omega) hL31 ?_
  refine larg (k0 := 2) C0 hl rfl rfl hS (dk DL_11 28 rfl).1 (dk DL_11 29 rfl).1 (dk DL_11 30 rfl).1 (dk DL_11 31 rfl).1 (dk DL_11 32 rfl).1 rfl (by omega) hL31 ?_
  refine kmL (av := [.int (xs (i + 1)), .int (xs (i + 2))]) C0 hKs hb0 hW1 (by omega) F.2.2.1.2.1 hP1 hS hl.1 (dk DL_11 33 rfl).1 rfl (tg_7 0 rfl rfl) (tg_7 1 rfl rfl) (tg_7 2 rfl rfl) (tg_1 7 rfl rfl) kX12_chance pmX12_chance (by decide) rfl (fun _ => rfl) (fun G hG => c_X12_chance hG F.2.2.1.2.1 F.2.1 F.2.2.1.1 F.2.2.1.2.2) (Nat.le_of_ble_eq_true rfl) (by omega) (by omega) (Nat.le_of_ble_eq_true rfl) (fun x2 I2 h2 H2 locs2 hq2 hW2 hP2 hS => ?_)
  obtain ⟨rfl, hR2⟩ := hq2
  refine lv_pop2_2 hx hb (dk DL_11 34 rfl).1 rfl ?_
  refine lv_goto (tgt := 1307) hx hb (dk DL_11 35 rfl).1 (by decide) ?_
  exact W.widen (by omega) (by omega) (hend _ _ _ _ _ _ _ _ ⟨hY1, F.2.1, hR2, hW2, hP2⟩ (by omega) hS)
end
section
set_option maxHeartbeats 4000000 in
set_option maxRecDepth 20000 in
theorem lc_24 {p : Program} {l : Launch} {e : Env} {s : State} {m : MethodId} {below : List Frame} {meth : Method} {c : Code} {b L i k n : Nat} {xs : Nat → Int32} {H : Heap} {locs : List Loc} {ls : Array Slot} {D : va_G} {ci : Nat → ClassId} {b0 : Nat} {E : It} {Li : Nat → Int64} {Ix : It} {hxx : Ht} {Im : It} {hmm : Ht} (C0 : lw_At p s m meth c b L xs) (hKs : ∀ G, gD G = D → gc G = ci → Ks G s) (hb0 : b0 = s.heap.size) (F : LI D ci b0 E Li Ix hxx Im hmm H) (h900 : hn hxx ≤ 900) (hk : k + 1 ≤ 600000) (hnn : n + 6 ≤ 7302250) (hl : lv_has ls 4 (lvs b b0 i)) (hS : va_S (fun q => s.heap.size ≤ q) s.heap H locs) (h7 : i + 7 ≤ L) (hL31 : L < 2 ^ 31)
    (hend : ∀ (E' : It) (L' : Nat → Int64) (Ix' : It) (hx' : Ht) (Im' : It) (hm' : Ht) (H' : Heap) (locs' : List Loc), LI D ci b0 E' L' Ix' hx' Im' hm' H' → hn hx' ≤ hn hxx + 1 → va_S (fun q => s.heap.size ≤ q) s.heap H' locs' → W p l e room_1 s m #[Value.ref b] below meth c H' locs' (k + 1) (n + 6) (lw_Z below #[Value.ref b] s) (F0 m 1307 ls [])) : W p l e room_1 s m #[Value.ref b] below meth c H locs k n (lw_Z below #[Value.ref b] s) (F0 m 914 ls []) := by
  obtain ⟨hx, hb, -, hml, hown, hts0, -, -, -, -⟩ := id C0
  refine lv_aload_n hx hb (dk DL_11 36 rfl).1 rfl (lv_at hl 1 rfl) ?_
  refine larg (k0 := 1) C0 hl rfl rfl hS (dk DL_11 37 rfl).1 (dk DL_11 38 rfl).1 (dk DL_11 39 rfl).1 (dk DL_11 40 rfl).1 (dk DL_11 41 rfl).1 rfl (by omega) hL31 ?_
  refine larg (k0 := 2) C0 hl rfl rfl hS (dk DL_11 42 rfl).1 (dk DL_11 43 rfl).1 (dk DL_11 44 rfl).1 (dk DL_11 45 rfl).1 (dk DL_11 46 rfl).1 rfl (by omega) hL31 ?_
  refine kxI (av := [.int (xs (i + 1)), .int (xs (i + 2))]) C0 hKs hb0 F.2.2.2.1 F.1.1.1 F.2.2.1.2.1.1 F.2.2.2.2 hS hl.1 (dk DL_11 47 rfl).1 rfl (tg_4 87 rfl rfl) (tg_4 88 rfl rfl) (tg_4 89 rfl rfl) (tg_1 1 rfl rfl) kX11_judge pmX11_judge (by decide) rfl (fun _ => rfl) (zx_judge gX_ok F.2.1 F.1) (Nat.le_of_ble_eq_true rfl) (by omega) (by omega) (Nat.le_of_ble_eq_true rfl) (fun x1 I1 h1 H1 locs1 hq1 hW1 hP1 hS => ?_)
  obtain ⟨rfl, hY1, hn1⟩ := hq1
  refine lv_pop hx hb (dk DL_11 48 rfl).1 rfl ?_
  refine lv_aload_n hx hb (dk DL_11 49 rfl).1 rfl (lv_at hl 2 rfl) ?_
  refine larg (k0 := 1) C0 hl rfl rfl hS (dk DL_12 0 rfl).1 (dk DL_12 1 rfl).1 (dk DL_12 2 rfl).1 (dk DL_12 3 rfl).1 (dk DL_12 4 rfl).1 rfl (by omega) hL31 ?_
  refine larg (k0 := 2) C0 hl rfl rfl hS (dk DL_12 5 rfl).1 (dk DL_12 6 rfl).1 (dk DL_12 7 rfl).1 (dk DL_12 8 rfl).1 (dk DL_12 9 rfl).1 rfl (by omega) hL31 ?_
  refine kmI (av := [.int (xs (i + 1)), .int (xs (i + 2))]) C0 hKs hb0 hW1 (by omega) F.2.2.1.2.1 hP1 hS hl.1 (dk DL_12 10 rfl).1 rfl (tg_7 14 rfl rfl) (tg_7 15 rfl rfl) (tg_7 16 rfl rfl) (tg_1 7 rfl rfl) kX12_judge pmX12_judge (by decide) rfl (fun _ => rfl) (fun G hG => c_X12_judge hG F.2.2.1.2.1 F.2.1 F.2.2.1.1 F.2.2.1.2.2) (Nat.le_of_ble_eq_true rfl) (by omega) (by omega) (Nat.le_of_ble_eq_true rfl) (fun x2 I2 h2 H2 locs2 hq2 hW2 hP2 hS => ?_)
  obtain ⟨rfl, hR2⟩ := hq2
  refine lv_pop hx hb (dk DL_12 11 rfl).1 rfl ?_
  refine lv_goto (tgt := 1307) hx hb (dk DL_12 12 rfl).1 (by decide) ?_
  exact W.widen (by omega) (by omega) (hend _ _ _ _ _ _ _ _ ⟨hY1, (by rw [judge_2]; exact F.2.1), hR2, hW2, hP2⟩ (by omega) hS)
set_option maxHeartbeats 4000000 in
set_option maxRecDepth 20000 in
theorem lc_25 {p : Program} {l : Launch} {e : Env} {s : State} {m : MethodId} {below : List Frame} {meth : Method} {c : Code} {b L i k n : Nat} {xs : Nat → Int32} {H : Heap} {locs : List Loc} {ls : Array Slot} {D : va_G} {ci : Nat → ClassId} {b0 : Nat} {E : It} {Li : Nat → Int64} {Ix : It} {hxx : Ht} {Im : It} {hmm : Ht} (C0 : lw_At p s m meth c b L xs) (hKs : ∀ G, gD G = D → gc G = ci → Ks G s) (hb0 : b0 = s.heap.size) (F : LI D ci b0 E Li Ix hxx Im hmm H) (h900 : hn hxx ≤ 900) (hk : k + 1 ≤ 600000) (hnn : n + 6 ≤ 7302250) (hl : lv_has ls 4 (lvs b b0 i)) (hS : va_S (fun q => s.heap.size ≤ q) s.heap H locs) (h7 : i + 7 ≤ L) (hL31 : L < 2 ^ 31)
    (hend : ∀ (E' : It) (L' : Nat → Int64) (Ix' : It) (hx' : Ht) (Im' : It) (hm' : Ht) (H' : Heap) (locs' : List Loc), LI D ci b0 E' L' Ix' hx' Im' hm' H' → hn hx' ≤ hn hxx + 1 → va_S (fun q => s.heap.size ≤ q) s.heap H' locs' → W p l e room_1 s m #[Value.ref b] below meth c H' locs' (k + 1) (n + 6) (lw_Z below #[Value.ref b] s) (F0 m 1307 ls [])) : W p l e room_1 s m #[Value.ref b] below meth c H locs k n (lw_Z below #[Value.ref b] s) (F0 m 947 ls []) := by
  obtain ⟨hx, hb, -, hml, hown, hts0, -, -, -, -⟩ := id C0
  refine lv_aload_n hx hb (dk DL_12 13 rfl).1 rfl (lv_at hl 1 rfl) ?_
  refine kxI (av := []) C0 hKs hb0 F.2.2.2.1 F.1.1.1 F.2.2.1.2.1.1 F.2.2.2.2 hS hl.1 (dk DL_12 14 rfl).1 rfl (tg_4 91 rfl rfl) (tg_4 92 rfl rfl) (tg_4 93 rfl rfl) (tg_1 1 rfl rfl) kX11_image pmX11_image (by decide) rfl (fun _ => rfl) (zx_image gX_ok F.2.1 F.1) (Nat.le_of_ble_eq_true rfl) (by omega) (by omega) (Nat.le_of_ble_eq_true rfl) (fun x1 I1 h1 H1 locs1 hq1 hW1 hP1 hS => ?_)
  obtain ⟨rfl, hY1, hn1⟩ := hq1
  refine lv_pop hx hb (dk DL_12 15 rfl).1 rfl ?_
  refine lv_aload_n hx hb (dk DL_12 16 rfl).1 rfl (lv_at hl 2 rfl) ?_
  refine kmI (av := []) C0 hKs hb0 hW1 (by omega) F.2.2.1.2.1 hP1 hS hl.1 (dk DL_12 17 rfl).1 rfl (tg_7 22 rfl rfl) (tg_7 23 rfl rfl) (tg_7 24 rfl rfl) (tg_1 7 rfl rfl) kX12_image pmX12_image (by decide) rfl (fun _ => rfl) (fun G hG => c_X12_image hG F.2.2.1.2.1 F.2.1 F.2.2.1.1 F.2.2.1.2.2) (Nat.le_of_ble_eq_true rfl) (by omega) (by omega) (Nat.le_of_ble_eq_true rfl) (fun x2 I2 h2 H2 locs2 hq2 hW2 hP2 hS => ?_)
  obtain ⟨rfl, hR2⟩ := hq2
  refine lv_pop hx hb (dk DL_12 18 rfl).1 rfl ?_
  refine lv_goto (tgt := 1307) hx hb (dk DL_12 19 rfl).1 (by decide) ?_
  exact W.widen (by omega) (by omega) (hend _ _ _ _ _ _ _ _ ⟨hY1, F.2.1.image, hR2, hW2, hP2⟩ (by omega) hS)
set_option maxHeartbeats 4000000 in
set_option maxRecDepth 20000 in
theorem lc_26 {p : Program} {l : Launch} {e : Env} {s : State} {m : MethodId} {below : List Frame} {meth : Method} {c : Code} {b L i k n : Nat} {xs : Nat → Int32} {H : Heap} {locs : List Loc} {ls : Array Slot} {D : va_G} {ci : Nat → ClassId} {b0 : Nat} {E : It} {Li : Nat → Int64} {Ix : It} {hxx : Ht} {Im : It} {hmm : Ht} (C0 : lw_At p s m meth c b L xs) (hKs : ∀ G, gD G = D → gc G = ci → Ks G s) (hb0 : b0 = s.heap.size) (F : LI D ci b0 E Li Ix hxx Im hmm H) (h900 : hn hxx ≤ 900) (hk : k + 1 ≤ 600000) (hnn : n + 6 ≤ 7302250) (hl : lv_has ls 4 (lvs b b0 i)) (hS : va_S (fun q => s.heap.size ≤ q) s.heap H locs) (h7 : i + 7 ≤ L) (hL31 : L < 2 ^ 31)
    (hend : ∀ (E' : It) (L' : Nat → Int64) (Ix' : It) (hx' : Ht) (Im' : It) (hm' : Ht) (H' : Heap) (locs' : List Loc), LI D ci b0 E' L' Ix' hx' Im' hm' H' → hn hx' ≤ hn hxx + 1 → va_S (fun q => s.heap.size ≤ q) s.heap H' locs' → W p l e room_1 s m #[Value.ref b] below meth c H' locs' (k + 1) (n + 6) (lw_Z below #[Value.ref b] s) (F0 m 1307 ls [])) : W p l e room_1 s m #[Value.ref b] below meth c H locs k n (lw_Z below #[Value.ref b] s) (F0 m 960 ls []) := by
  obtain ⟨hx, hb, -, hml, hown, hts0, -, -, -, -⟩ := id C0
  refine lv_aload_n hx hb (dk DL_12 20 rfl).1 rfl (lv_at hl 1 rfl) ?_
  refine kxI (av := []) C0 hKs hb0 F.2.2.2.1 F.1.1.1 F.2.2.1.2.1.1 F.2.2.2.2 hS hl.1 (dk DL_12 21 rfl).1 rfl (tg_4 100 rfl rfl) (tg_4 101 rfl rfl) (tg_4 102 rfl rfl) (tg_1 1 rfl rfl) kX11_undo pmX11_undo (by decide) rfl (fun _ => rfl) (zx_undo gX_ok F.2.1 F.1) (Nat.le_of_ble_eq_true rfl) (by omega) (by omega) (Nat.le_of_ble_eq_true rfl) (fun x1 I1 h1 H1 locs1 hq1 hW1 hP1 hS => ?_)
  obtain ⟨rfl, hY1, hn1⟩ := hq1
  refine lv_pop hx hb (dk DL_12 22 rfl).1 rfl ?_
  refine lv_aload_n hx hb (dk DL_12 23 rfl).1 rfl (lv_at hl 2 rfl) ?_
  refine kmI (av := []) C0 hKs hb0 hW1 (by omega) F.2.2.1.2.1 hP1 hS hl.1 (dk DL_12 24 rfl).1 rfl (tg_7 26 rfl rfl) (tg_7 27 rfl rfl) (tg_7 28 rfl rfl) (tg_1 7 rfl rfl) kX12_undo pmX12_undo (by decide) rfl (fun _ => rfl) (fun G hG => c_X12_undo hG F.2.2.1.2.1 F.2.1 F.2.2.1.1 F.2.2.1.2.2) (Nat.le_of_ble_eq_true rfl) (by omega) (by omega) (Nat.le_of_ble_eq_true rfl) (fun x2 I2 h2 H2 locs2 hq2 hW2 hP2 hS => ?_)
  obtain ⟨rfl, hR2⟩ := hq2
  refine lv_pop hx hb (dk DL_12 25 rfl).1 rfl ?_
  refine lv_goto (tgt := 1307) hx hb (dk DL_12 26 rfl).1 (by decide) ?_
  exact W.widen (by omega) (by omega) (hend _ _ _ _ _ _ _ _ ⟨hY1, F.2.1.undo, hR2, hW2, hP2⟩ (by omega) hS)
set_option maxHeartbeats 4000000 in
set_option maxRecDepth 20000 in
theorem lc_27 {p : Program} {l : Launch} {e : Env} {s : State} {m : MethodId} {below : List Frame} {meth : Method} {c : Code} {b L i k n : Nat} {xs : Nat → Int32} {H : Heap} {locs : List Loc} {ls : Array Slot} {D : va_G} {ci : Nat → ClassId} {b0 : Nat} {E : It} {Li : Nat → Int64} {Ix : It} {hxx : Ht} {Im : It} {hmm : Ht} (C0 : lw_At p s m meth c b L xs) (hKs : ∀ G, gD G = D → gc G = ci → Ks G s) (hb0 : b0 = s.heap.size) (F : LI D ci b0 E Li Ix hxx Im hmm H) (h900 : hn hxx ≤ 900) (hk : k + 1 ≤ 600000) (hnn : n + 6 ≤ 7302250) (hl : lv_has ls 4 (lvs b b0 i)) (hS : va_S (fun q => s.heap.size ≤ q) s.heap H locs) (h7 : i + 7 ≤ L) (hL31 : L < 2 ^ 31)
    (hend : ∀ (E' : It) (L' : Nat → Int64) (Ix' : It) (hx' : Ht) (Im' : It) (hm' : Ht) (H' : Heap) (locs' : List Loc), LI D ci b0 E' L' Ix' hx' Im' hm' H' → hn hx' ≤ hn hxx + 1 → va_S (fun q => s.heap.size ≤ q) s.heap H' locs' → W p l e room_1 s m #[Value.ref b] below meth c H' locs' (k + 1) (n + 6) (lw_Z below #[Value.ref b] s) (F0 m 1307 ls [])) : W p l e room_1 s m #[Value.ref b] below meth c H locs k n (lw_Z below #[Value.ref b] s) (F0 m 973 ls []) := by
  obtain ⟨hx, hb, -, hml, hown, hts0, -, -, -, -⟩ := id C0
  refine lv_aload_n hx hb (dk DL_12 27 rfl).1 rfl (lv_at hl 1 rfl) ?_
  refine larg (k0 := 1) C0 hl rfl rfl hS (dk DL_12 28 rfl).1 (dk DL_12 29 rfl).1 (dk DL_12 30 rfl).1 (dk DL_12 31 rfl).1 (dk DL_12 32 rfl).1 rfl (by omega) hL31 ?_
  refine larg (k0 := 2) C0 hl rfl rfl hS (dk DL_12 33 rfl).1 (dk DL_12 34 rfl).1 (dk DL_12 35 rfl).1 (dk DL_12 36 rfl).1 (dk DL_12 37 rfl).1 rfl (by omega) hL31 ?_
  refine larg (k0 := 3) C0 hl rfl rfl hS (dk DL_12 38 rfl).1 (dk DL_12 39 rfl).1 (dk DL_12 40 rfl).1 (dk DL_12 41 rfl).1 (dk DL_12 42 rfl).1 rfl (by omega) hL31 ?_
  refine kxI (av := [.int (xs (i + 1)), .int (xs (i + 2)), .int (xs (i + 3))]) C0 hKs hb0 F.2.2.2.1 F.1.1.1 F.2.2.1.2.1.1 F.2.2.2.2 hS hl.1 (dk DL_12 43 rfl).1 rfl (tg_4 104 rfl rfl) (tg_4 105 rfl rfl) (tg_4 106 rfl rfl) (tg_1 1 rfl rfl) kX11_act pmX11_act (by decide) rfl (fun _ => rfl) (zx_act gX_ok F.2.1 F.1) (Nat.le_of_ble_eq_true rfl) (by omega) (by omega) (Nat.le_of_ble_eq_true rfl) (fun x1 I1 h1 H1 locs1 hq1 hW1 hP1 hS => ?_)
  obtain ⟨rfl, hY1, hn1⟩ := hq1
  refine lv_pop hx hb (dk DL_12 44 rfl).1 rfl ?_
  refine lv_aload_n hx hb (dk DL_12 45 rfl).1 rfl (lv_at hl 2 rfl) ?_
  refine larg (k0 := 1) C0 hl rfl rfl hS (dk DL_12 46 rfl).1 (dk DL_12 47 rfl).1 (dk DL_12 48 rfl).1 (dk DL_12 49 rfl).1 (dk DL_13 0 rfl).1 rfl (by omega) hL31 ?_
  refine larg (k0 := 2) C0 hl rfl rfl hS (dk DL_13 1 rfl).1 (dk DL_13 2 rfl).1 (dk DL_13 3 rfl).1 (dk DL_13 4 rfl).1 (dk DL_13 5 rfl).1 rfl (by omega) hL31 ?_
  refine larg (k0 := 3) C0 hl rfl rfl hS (dk DL_13 6 rfl).1 (dk DL_13 7 rfl).1 (dk DL_13 8 rfl).1 (dk DL_13 9 rfl).1 (dk DL_13 10 rfl).1 rfl (by omega) hL31 ?_
  refine kmI (av := [.int (xs (i + 1)), .int (xs (i + 2)), .int (xs (i + 3))]) C0 hKs hb0 hW1 (by omega) F.2.2.1.2.1 hP1 hS hl.1 (dk DL_13 11 rfl).1 rfl (tg_7 30 rfl rfl) (tg_7 31 rfl rfl) (tg_7 32 rfl rfl) (tg_1 7 rfl rfl) kX12_act pmX12_act (by decide) rfl (fun _ => rfl) (fun G hG => c_X12_act hG F.2.2.1.2.1 F.2.1 F.2.2.1.1 F.2.2.1.2.2) (Nat.le_of_ble_eq_true rfl) (by omega) (by omega) (Nat.le_of_ble_eq_true rfl) (fun x2 I2 h2 H2 locs2 hq2 hW2 hP2 hS => ?_)
  obtain ⟨rfl, hR2⟩ := hq2
  refine lv_pop hx hb (dk DL_13 12 rfl).1 rfl ?_
  refine lv_goto (tgt := 1307) hx hb (dk DL_13 13 rfl).1 (by decide) ?_
  exact W.widen (by omega) (by omega) (hend _ _ _ _ _ _ _ _ ⟨hY1, F.2.1.act, hR2, hW2, hP2⟩ (by omega) hS)
set_option maxHeartbeats 4000000 in
set_option maxRecDepth 20000 in
theorem lc_28 {p : Program} {l : Launch} {e : Env} {s : State} {m : MethodId} {below : List Frame} {meth : Method} {c : Code} {b L i k n : Nat} {xs : Nat → Int32} {H : Heap} {locs : List Loc} {ls : Array Slot} {D : va_G} {ci : Nat → ClassId} {b0 : Nat} {E : It} {Li : Nat → Int64} {Ix : It} {hxx : Ht} {Im : It} {hmm : Ht} (C0 : lw_At p s m meth c b L xs) (hKs : ∀ G, gD G = D → gc G = ci → Ks G s) (hb0 : b0 = s.heap.size) (F : LI D ci b0 E Li Ix hxx Im hmm H) (h900 : hn hxx ≤ 900) (hk : k + 1 ≤ 600000) (hnn : n + 6 ≤ 7302250) (hl : lv_has ls 4 (lvs b b0 i)) (hS : va_S (fun q => s.heap.size ≤ q) s.heap H locs) (h7 : i + 7 ≤ L) (hL31 : L < 2 ^ 31)
    (hend : ∀ (E' : It) (L' : Nat → Int64) (Ix' : It) (hx' : Ht) (Im' : It) (hm' : Ht) (H' : Heap) (locs' : List Loc), LI D ci b0 E' L' Ix' hx' Im' hm' H' → hn hx' ≤ hn hxx + 1 → va_S (fun q => s.heap.size ≤ q) s.heap H' locs' → W p l e room_1 s m #[Value.ref b] below meth c H' locs' (k + 1) (n + 6) (lw_Z below #[Value.ref b] s) (F0 m 1307 ls [])) : W p l e room_1 s m #[Value.ref b] below meth c H locs k n (lw_Z below #[Value.ref b] s) (F0 m 1016 ls []) := by
  obtain ⟨hx, hb, -, hml, hown, hts0, -, -, -, -⟩ := id C0
  refine lv_aload_n hx hb (dk DL_13 14 rfl).1 rfl (lv_at hl 1 rfl) ?_
  refine larg (k0 := 1) C0 hl rfl rfl hS (dk DL_13 15 rfl).1 (dk DL_13 16 rfl).1 (dk DL_13 17 rfl).1 (dk DL_13 18 rfl).1 (dk DL_13 19 rfl).1 rfl (by omega) hL31 ?_
  refine kxI (av := [.int (xs (i + 1))]) C0 hKs hb0 F.2.2.2.1 F.1.1.1 F.2.2.1.2.1.1 F.2.2.2.2 hS hl.1 (dk DL_13 20 rfl).1 rfl (tg_4 187 rfl rfl) (tg_4 188 rfl rfl) (tg_4 189 rfl rfl) (tg_1 1 rfl rfl) kX11_trace pmX11_trace (by decide) rfl (fun _ => rfl) (zx_trace gX_ok F.2.1 F.1) (Nat.le_of_ble_eq_true rfl) (by omega) (by omega) (Nat.le_of_ble_eq_true rfl) (fun x1 I1 h1 H1 locs1 hq1 hW1 hP1 hS => ?_)
  obtain ⟨rfl, hY1, hn1⟩ := hq1
  refine lv_pop hx hb (dk DL_13 21 rfl).1 rfl ?_
  refine lv_aload_n hx hb (dk DL_13 22 rfl).1 rfl (lv_at hl 2 rfl) ?_
  refine larg (k0 := 1) C0 hl rfl rfl hS (dk DL_13 23 rfl).1 (dk DL_13 24 rfl).1 (dk DL_13 25 rfl).1 (dk DL_13 26 rfl).1 (dk DL_13 27 rfl).1 rfl (by omega) hL31 ?_
  refine kmI (av := [.int (xs (i + 1))]) C0 hKs hb0 hW1 (by omega) F.2.2.1.2.1 hP1 hS hl.1 (dk DL_13 28 rfl).1 rfl (tg_7 66 rfl rfl) (tg_7 67 rfl rfl) (tg_7 68 rfl rfl) (tg_1 7 rfl rfl) kX12_trace pmX12_trace (by decide) rfl (fun _ => rfl) (fun G hG => c_X12_trace hG F.2.2.1.2.1 F.2.1 F.2.2.1.1 F.2.2.1.2.2) (Nat.le_of_ble_eq_true rfl) (by omega) (by omega) (Nat.le_of_ble_eq_true rfl) (fun x2 I2 h2 H2 locs2 hq2 hW2 hP2 hS => ?_)
  obtain ⟨rfl, hR2⟩ := hq2
  refine lv_pop hx hb (dk DL_13 29 rfl).1 rfl ?_
  refine lv_goto (tgt := 1307) hx hb (dk DL_13 30 rfl).1 (by decide) ?_
  exact W.widen (by omega) (by omega) (hend _ _ _ _ _ _ _ _ ⟨hY1, (by rw [trace_2]; exact F.2.1), hR2, hW2, hP2⟩ (by omega) hS)
set_option maxHeartbeats 4000000 in
set_option maxRecDepth 20000 in
theorem lc_29 {p : Program} {l : Launch} {e : Env} {s : State} {m : MethodId} {below : List Frame} {meth : Method} {c : Code} {b L i k n : Nat} {xs : Nat → Int32} {H : Heap} {locs : List Loc} {ls : Array Slot} {D : va_G} {ci : Nat → ClassId} {b0 : Nat} {E : It} {Li : Nat → Int64} {Ix : It} {hxx : Ht} {Im : It} {hmm : Ht} (C0 : lw_At p s m meth c b L xs) (hKs : ∀ G, gD G = D → gc G = ci → Ks G s) (hb0 : b0 = s.heap.size) (F : LI D ci b0 E Li Ix hxx Im hmm H) (h900 : hn hxx ≤ 900) (hk : k + 1 ≤ 600000) (hnn : n + 6 ≤ 7302250) (hl : lv_has ls 4 (lvs b b0 i)) (hS : va_S (fun q => s.heap.size ≤ q) s.heap H locs) (h7 : i + 7 ≤ L) (hL31 : L < 2 ^ 31)
    (hend : ∀ (E' : It) (L' : Nat → Int64) (Ix' : It) (hx' : Ht) (Im' : It) (hm' : Ht) (H' : Heap) (locs' : List Loc), LI D ci b0 E' L' Ix' hx' Im' hm' H' → hn hx' ≤ hn hxx + 1 → va_S (fun q => s.heap.size ≤ q) s.heap H' locs' → W p l e room_1 s m #[Value.ref b] below meth c H' locs' (k + 1) (n + 6) (lw_Z below #[Value.ref b] s) (F0 m 1307 ls [])) : W p l e room_1 s m #[Value.ref b] below meth c H locs k n (lw_Z below #[Value.ref b] s) (F0 m 1039 ls []) := by
  obtain ⟨hx, hb, -, hml, hown, hts0, -, -, -, -⟩ := id C0
  refine lv_aload_n hx hb (dk DL_13 31 rfl).1 rfl (lv_at hl 1 rfl) ?_
  refine larg (k0 := 1) C0 hl rfl rfl hS (dk DL_13 32 rfl).1 (dk DL_13 33 rfl).1 (dk DL_13 34 rfl).1 (dk DL_13 35 rfl).1 (dk DL_13 36 rfl).1 rfl (by omega) hL31 ?_
  refine larg (k0 := 2) C0 hl rfl rfl hS (dk DL_13 37 rfl).1 (dk DL_13 38 rfl).1 (dk DL_13 39 rfl).1 (dk DL_13 40 rfl).1 (dk DL_13 41 rfl).1 rfl (by omega) hL31 ?_
  refine kxI (av := [.int (xs (i + 1)), .int (xs (i + 2))]) C0 hKs hb0 F.2.2.2.1 F.1.1.1 F.2.2.1.2.1.1 F.2.2.2.2 hS hl.1 (dk DL_13 42 rfl).1 rfl (tg_4 191 rfl rfl) (tg_4 192 rfl rfl) (tg_4 193 rfl rfl) (tg_1 1 rfl rfl) kX11_taken pmX11_taken (by decide) rfl (fun _ => rfl) (zx_taken gX_ok F.2.1 F.1) (Nat.le_of_ble_eq_true rfl) (by omega) (by omega) (Nat.le_of_ble_eq_true rfl) (fun x1 I1 h1 H1 locs1 hq1 hW1 hP1 hS => ?_)
  obtain ⟨rfl, hY1, hn1⟩ := hq1
  refine lv_pop hx hb (dk DL_13 43 rfl).1 rfl ?_
  refine lv_aload_n hx hb (dk DL_13 44 rfl).1 rfl (lv_at hl 2 rfl) ?_
  refine larg (k0 := 1) C0 hl rfl rfl hS (dk DL_13 45 rfl).1 (dk DL_13 46 rfl).1 (dk DL_13 47 rfl).1 (dk DL_13 48 rfl).1 (dk DL_13 49 rfl).1 rfl (by omega) hL31 ?_
  refine larg (k0 := 2) C0 hl rfl rfl hS (dk DL_14 0 rfl).1 (dk DL_14 1 rfl).1 (dk DL_14 2 rfl).1 (dk DL_14 3 rfl).1 (dk DL_14 4 rfl).1 rfl (by omega) hL31 ?_
  refine kmI (av := [.int (xs (i + 1)), .int (xs (i + 2))]) C0 hKs hb0 hW1 (by omega) F.2.2.1.2.1 hP1 hS hl.1 (dk DL_14 5 rfl).1 rfl (tg_7 70 rfl rfl) (tg_7 71 rfl rfl) (tg_7 72 rfl rfl) (tg_1 7 rfl rfl) kX12_taken pmX12_taken (by decide) rfl (fun _ => rfl) (fun G hG => c_X12_taken hG F.2.2.1.2.1 F.2.1 F.2.2.1.1 F.2.2.1.2.2) (Nat.le_of_ble_eq_true rfl) (by omega) (by omega) (Nat.le_of_ble_eq_true rfl) (fun x2 I2 h2 H2 locs2 hq2 hW2 hP2 hS => ?_)
  obtain ⟨rfl, hR2⟩ := hq2
  refine lv_pop hx hb (dk DL_14 6 rfl).1 rfl ?_
  refine lv_goto (tgt := 1307) hx hb (dk DL_14 7 rfl).1 (by decide) ?_
  exact W.widen (by omega) (by omega) (hend _ _ _ _ _ _ _ _ ⟨hY1, (by rw [taken_2]; exact F.2.1), hR2, hW2, hP2⟩ (by omega) hS)
set_option maxHeartbeats 4000000 in
set_option maxRecDepth 20000 in
theorem lc_30 {p : Program} {l : Launch} {e : Env} {s : State} {m : MethodId} {below : List Frame} {meth : Method} {c : Code} {b L i k n : Nat} {xs : Nat → Int32} {H : Heap} {locs : List Loc} {ls : Array Slot} {D : va_G} {ci : Nat → ClassId} {b0 : Nat} {E : It} {Li : Nat → Int64} {Ix : It} {hxx : Ht} {Im : It} {hmm : Ht} (C0 : lw_At p s m meth c b L xs) (hKs : ∀ G, gD G = D → gc G = ci → Ks G s) (hb0 : b0 = s.heap.size) (F : LI D ci b0 E Li Ix hxx Im hmm H) (h900 : hn hxx ≤ 900) (hk : k + 1 ≤ 600000) (hnn : n + 6 ≤ 7302250) (hl : lv_has ls 4 (lvs b b0 i)) (hS : va_S (fun q => s.heap.size ≤ q) s.heap H locs) (h7 : i + 7 ≤ L) (hL31 : L < 2 ^ 31)
    (hend : ∀ (E' : It) (L' : Nat → Int64) (Ix' : It) (hx' : Ht) (Im' : It) (hm' : Ht) (H' : Heap) (locs' : List Loc), LI D ci b0 E' L' Ix' hx' Im' hm' H' → hn hx' ≤ hn hxx + 1 → va_S (fun q => s.heap.size ≤ q) s.heap H' locs' → W p l e room_1 s m #[Value.ref b] below meth c H' locs' (k + 1) (n + 6) (lw_Z below #[Value.ref b] s) (F0 m 1307 ls [])) : W p l e room_1 s m #[Value.ref b] below meth c H locs k n (lw_Z below #[Value.ref b] s) (F0 m 1072 ls []) := by
  obtain ⟨hx, hb, -, hml, hown, hts0, -, -, -, -⟩ := id C0
  refine lv_aload_n hx hb (dk DL_14 8 rfl).1 rfl (lv_at hl 1 rfl) ?_
  refine larg (k0 := 1) C0 hl rfl rfl hS (dk DL_14 9 rfl).1 (dk DL_14 10 rfl).1 (dk DL_14 11 rfl).1 (dk DL_14 12 rfl).1 (dk DL_14 13 rfl).1 rfl (by omega) hL31 ?_
  refine kxI (av := [.int (xs (i + 1))]) C0 hKs hb0 F.2.2.2.1 F.1.1.1 F.2.2.1.2.1.1 F.2.2.2.2 hS hl.1 (dk DL_14 14 rfl).1 rfl (tg_4 198 rfl rfl) (tg_4 199 rfl rfl) (tg_4 200 rfl rfl) (tg_1 1 rfl rfl) kX11_count pmX11_count (by decide) rfl (fun _ => rfl) (zx_count gX_ok F.2.1 F.1) (Nat.le_of_ble_eq_true rfl) (by omega) (by omega) (Nat.le_of_ble_eq_true rfl) (fun x1 I1 h1 H1 locs1 hq1 hW1 hP1 hS => ?_)
  obtain ⟨rfl, hY1, hn1⟩ := hq1
  refine lv_pop hx hb (dk DL_14 15 rfl).1 rfl ?_
  refine lv_aload_n hx hb (dk DL_14 16 rfl).1 rfl (lv_at hl 2 rfl) ?_
  refine larg (k0 := 1) C0 hl rfl rfl hS (dk DL_14 17 rfl).1 (dk DL_14 18 rfl).1 (dk DL_14 19 rfl).1 (dk DL_14 20 rfl).1 (dk DL_14 21 rfl).1 rfl (by omega) hL31 ?_
  refine kmI (av := [.int (xs (i + 1))]) C0 hKs hb0 hW1 (by omega) F.2.2.1.2.1 hP1 hS hl.1 (dk DL_14 22 rfl).1 rfl (tg_7 74 rfl rfl) (tg_7 75 rfl rfl) (tg_7 76 rfl rfl) (tg_1 7 rfl rfl) kX12_count pmX12_count (by decide) rfl (fun _ => rfl) (fun G hG => c_X12_count hG F.2.2.1.2.1 F.2.1 F.2.2.1.1 F.2.2.1.2.2) (Nat.le_of_ble_eq_true rfl) (by omega) (by omega) (Nat.le_of_ble_eq_true rfl) (fun x2 I2 h2 H2 locs2 hq2 hW2 hP2 hS => ?_)
  obtain ⟨rfl, hR2⟩ := hq2
  refine lv_pop hx hb (dk DL_14 23 rfl).1 rfl ?_
  refine lv_goto (tgt := 1307) hx hb (dk DL_14 24 rfl).1 (by decide) ?_
  exact W.widen (by omega) (by omega) (hend _ _ _ _ _ _ _ _ ⟨hY1, (by rw [count_2]; exact F.2.1), hR2, hW2, hP2⟩ (by omega) hS)
set_option maxHeartbeats 4000000 in
set_option maxRecDepth 20000 in
theorem lc_31 {p : Program} {l : Launch} {e : Env} {s : State} {m : MethodId} {below : List Frame} {meth : Method} {c : Code} {b L i k n : Nat} {xs : Nat → Int32} {H : Heap} {locs : List Loc} {ls : Array Slot} {D : va_G} {ci : Nat → ClassId} {b0 : Nat} {E : It} {Li : Nat → Int64} {Ix : It} {hxx : Ht} {Im : It} {hmm : Ht} (C0 : lw_At p s m meth c b L xs) (hKs : ∀ G, gD G = D → gc G = ci → Ks G s) (hb0 : b0 = s.heap.size) (F : LI D ci b0 E Li Ix hxx Im hmm H) (h900 : hn hxx ≤ 900) (hk : k + 1 ≤ 600000) (hnn : n + 6 ≤ 7302250) (hl : lv_has ls 4 (lvs b b0 i)) (hS : va_S (fun q => s.heap.size ≤ q) s.heap H locs) (h7 : i + 7 ≤ L) (hL31 : L < 2 ^ 31)
    (hend : ∀ (E' : It) (L' : Nat → Int64) (Ix' : It) (hx' : Ht) (Im' : It) (hm' : Ht) (H' : Heap) (locs' : List Loc), LI D ci b0 E' L' Ix' hx' Im' hm' H' → hn hx' ≤ hn hxx + 1 → va_S (fun q => s.heap.size ≤ q) s.heap H' locs' → W p l e room_1 s m #[Value.ref b] below meth c H' locs' (k + 1) (n + 6) (lw_Z below #[Value.ref b] s) (F0 m 1307 ls [])) : W p l e room_1 s m #[Value.ref b] below meth c H locs k n (lw_Z below #[Value.ref b] s) (F0 m 1095 ls []) := by
  obtain ⟨hx, hb, -, hml, hown, hts0, -, -, -, -⟩ := id C0
  refine lv_aload_n hx hb (dk DL_14 25 rfl).1 rfl (lv_at hl 1 rfl) ?_
  refine larg (k0 := 1) C0 hl rfl rfl hS (dk DL_14 26 rfl).1 (dk DL_14 27 rfl).1 (dk DL_14 28 rfl).1 (dk DL_14 29 rfl).1 (dk DL_14 30 rfl).1 rfl (by omega) hL31 ?_
  refine larg (k0 := 2) C0 hl rfl rfl hS (dk DL_14 31 rfl).1 (dk DL_14 32 rfl).1 (dk DL_14 33 rfl).1 (dk DL_14 34 rfl).1 (dk DL_14 35 rfl).1 rfl (by omega) hL31 ?_
  refine larg (k0 := 3) C0 hl rfl rfl hS (dk DL_14 36 rfl).1 (dk DL_14 37 rfl).1 (dk DL_14 38 rfl).1 (dk DL_14 39 rfl).1 (dk DL_14 40 rfl).1 rfl (by omega) hL31 ?_
  refine kxI (av := [.int (xs (i + 1)), .int (xs (i + 2)), .int (xs (i + 3))]) C0 hKs hb0 F.2.2.2.1 F.1.1.1 F.2.2.1.2.1.1 F.2.2.2.2 hS hl.1 (dk DL_14 41 rfl).1 rfl (tg_4 202 rfl rfl) (tg_4 203 rfl rfl) (tg_4 204 rfl rfl) (tg_1 1 rfl rfl) kX11_tape pmX11_tape (by decide) rfl (fun _ => rfl) (zx_tape gX_ok F.2.1 F.1) (Nat.le_of_ble_eq_true rfl) (by omega) (by omega) (Nat.le_of_ble_eq_true rfl) (fun x1 I1 h1 H1 locs1 hq1 hW1 hP1 hS => ?_)
  obtain ⟨rfl, hY1, hn1⟩ := hq1
  refine lv_pop hx hb (dk DL_14 42 rfl).1 rfl ?_
  refine lv_aload_n hx hb (dk DL_14 43 rfl).1 rfl (lv_at hl 2 rfl) ?_
  refine larg (k0 := 1) C0 hl rfl rfl hS (dk DL_14 44 rfl).1 (dk DL_14 45 rfl).1 (dk DL_14 46 rfl).1 (dk DL_14 47 rfl).1 (dk DL_14 48 rfl).1 rfl (by omega) hL31 ?_
  refine larg (k0 := 2) C0 hl rfl rfl hS (dk DL_14 49 rfl).1 (dk DL_15 0 rfl).1 (dk DL_15 1 rfl).1 (dk DL_15 2 rfl).1 (dk DL_15 3 rfl).1 rfl (by omega) hL31 ?_
  refine larg (k0 := 3) C0 hl rfl rfl hS (dk DL_15 4 rfl).1 (dk DL_15 5 rfl).1 (dk DL_15 6 rfl).1 (dk DL_15 7 rfl).1 (dk DL_15 8 rfl).1 rfl (by omega) hL31 ?_
  refine kmI (av := [.int (xs (i + 1)), .int (xs (i + 2)), .int (xs (i + 3))]) C0 hKs hb0 hW1 (by omega) F.2.2.1.2.1 hP1 hS hl.1 (dk DL_15 9 rfl).1 rfl (tg_7 78 rfl rfl) (tg_7 79 rfl rfl) (tg_7 80 rfl rfl) (tg_1 7 rfl rfl) kX12_tape pmX12_tape (by decide) rfl (fun _ => rfl) (fun G hG => c_X12_tape hG F.2.2.1.2.1 F.2.1 F.2.2.1.1 F.2.2.1.2.2) (Nat.le_of_ble_eq_true rfl) (by omega) (by omega) (Nat.le_of_ble_eq_true rfl) (fun x2 I2 h2 H2 locs2 hq2 hW2 hP2 hS => ?_)
  obtain ⟨rfl, hR2⟩ := hq2
  refine lv_pop hx hb (dk DL_15 10 rfl).1 rfl ?_
  refine lv_goto (tgt := 1307) hx hb (dk DL_15 11 rfl).1 (by decide) ?_
  exact W.widen (by omega) (by omega) (hend _ _ _ _ _ _ _ _ ⟨hY1, F.2.1.tape, hR2, hW2, hP2⟩ (by omega) hS)
set_option maxHeartbeats 4000000 in
set_option maxRecDepth 20000 in
theorem lc_32 {p : Program} {l : Launch} {e : Env} {s : State} {m : MethodId} {below : List Frame} {meth : Method} {c : Code} {b L i k n : Nat} {xs : Nat → Int32} {H : Heap} {locs : List Loc} {ls : Array Slot} {D : va_G} {ci : Nat → ClassId} {b0 : Nat} {E : It} {Li : Nat → Int64} {Ix : It} {hxx : Ht} {Im : It} {hmm : Ht} (C0 : lw_At p s m meth c b L xs) (hKs : ∀ G, gD G = D → gc G = ci → Ks G s) (hb0 : b0 = s.heap.size) (F : LI D ci b0 E Li Ix hxx Im hmm H) (h900 : hn hxx ≤ 900) (hk : k + 1 ≤ 600000) (hnn : n + 6 ≤ 7302250) (hl : lv_has ls 4 (lvs b b0 i)) (hS : va_S (fun q => s.heap.size ≤ q) s.heap H locs) (h7 : i + 7 ≤ L) (hL31 : L < 2 ^ 31)
    (hend : ∀ (E' : It) (L' : Nat → Int64) (Ix' : It) (hx' : Ht) (Im' : It) (hm' : Ht) (H' : Heap) (locs' : List Loc), LI D ci b0 E' L' Ix' hx' Im' hm' H' → hn hx' ≤ hn hxx + 1 → va_S (fun q => s.heap.size ≤ q) s.heap H' locs' → W p l e room_1 s m #[Value.ref b] below meth c H' locs' (k + 1) (n + 6) (lw_Z below #[Value.ref b] s) (F0 m 1307 ls [])) : W p l e room_1 s m #[Value.ref b] below meth c H locs k n (lw_Z below #[Value.ref b] s) (F0 m 1138 ls []) := by
  obtain ⟨hx, hb, -, hml, hown, hts0, -, -, -, -⟩ := id C0
  refine lv_aload_n hx hb (dk DL_15 12 rfl).1 rfl (lv_at hl 1 rfl) ?_
  refine larg (k0 := 1) C0 hl rfl rfl hS (dk DL_15 13 rfl).1 (dk DL_15 14 rfl).1 (dk DL_15 15 rfl).1 (dk DL_15 16 rfl).1 (dk DL_15 17 rfl).1 rfl (by omega) hL31 ?_
  refine larg (k0 := 2) C0 hl rfl rfl hS (dk DL_15 18 rfl).1 (dk DL_15 19 rfl).1 (dk DL_15 20 rfl).1 (dk DL_15 21 rfl).1 (dk DL_15 22 rfl).1 rfl (by omega) hL31 ?_
  refine larg (k0 := 3) C0 hl rfl rfl hS (dk DL_15 23 rfl).1 (dk DL_15 24 rfl).1 (dk DL_15 25 rfl).1 (dk DL_15 26 rfl).1 (dk DL_15 27 rfl).1 rfl (by omega) hL31 ?_
  refine lv_i2l hx hb (dk DL_15 28 rfl).1 rfl ?_
  refine lv_bipush (v := 32) hx hb (dk DL_15 29 rfl).1 (by decide) ?_
  refine lv_lshl hx hb (dk DL_15 30 rfl).1 rfl ?_
  refine larg (k0 := 4) C0 hl rfl rfl hS (dk DL_15 31 rfl).1 (dk DL_15 32 rfl).1 (dk DL_15 33 rfl).1 (dk DL_15 34 rfl).1 (dk DL_15 35 rfl).1 rfl (by omega) hL31 ?_
  refine lv_i2l hx hb (dk DL_15 36 rfl).1 rfl ?_
  refine lv_ldc2 (v := 4294967295) hx hb hown (hts0 _ (tb_7 98 rfl)) (dk DL_15 37 rfl).1 ?_
  refine lv_land hx hb (dk DL_15 38 rfl).1 ?_
  refine lv_lor hx hb (dk DL_15 39 rfl).1 ?_
  refine kxI (av := [.int (xs (i + 1)), .int (xs (i + 2)), .long ((((xs (i + 3))).toInt64 <<< ((32 : Int32).toInt64 &&& 63)) ||| (((xs (i + 4))).toInt64 &&& 4294967295))]) C0 hKs hb0 F.2.2.2.1 F.1.1.1 F.2.2.1.2.1.1 F.2.2.2.2 hS hl.1 (dk DL_15 40 rfl).1 rfl (tg_4 209 rfl rfl) (tg_4 210 rfl rfl) (tg_4 211 rfl rfl) (tg_1 1 rfl rfl) kX11_item pmX11_item (by decide) rfl (fun _ => rfl) (zx_item gX_ok F.2.1 F.1) (Nat.le_of_ble_eq_true rfl) (by omega) (by omega) (Nat.le_of_ble_eq_true rfl) (fun x1 I1 h1 H1 locs1 hq1 hW1 hP1 hS => ?_)
  obtain ⟨rfl, hY1, hn1⟩ := hq1
  refine lv_pop hx hb (dk DL_15 41 rfl).1 rfl ?_
  refine lv_aload_n hx hb (dk DL_15 42 rfl).1 rfl (lv_at hl 2 rfl) ?_
  refine larg (k0 := 1) C0 hl rfl rfl hS (dk DL_15 43 rfl).1 (dk DL_15 44 rfl).1 (dk DL_15 45 rfl).1 (dk DL_15 46 rfl).1 (dk DL_15 47 rfl).1 rfl (by omega) hL31 ?_
  refine larg (k0 := 2) C0 hl rfl rfl hS (dk DL_15 48 rfl).1 (dk DL_15 49 rfl).1 (dk DL_16 0 rfl).1 (dk DL_16 1 rfl).1 (dk DL_16 2 rfl).1 rfl (by omega) hL31 ?_
  refine larg (k0 := 3) C0 hl rfl rfl hS (dk DL_16 3 rfl).1 (dk DL_16 4 rfl).1 (dk DL_16 5 rfl).1 (dk DL_16 6 rfl).1 (dk DL_16 7 rfl).1 rfl (by omega) hL31 ?_
  refine lv_i2l hx hb (dk DL_16 8 rfl).1 rfl ?_
  refine lv_bipush (v := 32) hx hb (dk DL_16 9 rfl).1 (by decide) ?_
  refine lv_lshl hx hb (dk DL_16 10 rfl).1 rfl ?_
  refine larg (k0 := 4) C0 hl rfl rfl hS (dk DL_16 11 rfl).1 (dk DL_16 12 rfl).1 (dk DL_16 13 rfl).1 (dk DL_16 14 rfl).1 (dk DL_16 15 rfl).1 rfl (by omega) hL31 ?_
  refine lv_i2l hx hb (dk DL_16 16 rfl).1 rfl ?_
  refine lv_ldc2 (v := 4294967295) hx hb hown (hts0 _ (tb_7 98 rfl)) (dk DL_16 17 rfl).1 ?_
  refine lv_land hx hb (dk DL_16 18 rfl).1 ?_
  refine lv_lor hx hb (dk DL_16 19 rfl).1 ?_
  refine kmI (av := [.int (xs (i + 1)), .int (xs (i + 2)), .long ((((xs (i + 3))).toInt64 <<< ((32 : Int32).toInt64 &&& 63)) ||| (((xs (i + 4))).toInt64 &&& 4294967295))]) C0 hKs hb0 hW1 (by omega) F.2.2.1.2.1 hP1 hS hl.1 (dk DL_16 20 rfl).1 rfl (tg_7 82 rfl rfl) (tg_7 83 rfl rfl) (tg_7 84 rfl rfl) (tg_1 7 rfl rfl) kX12_item pmX12_item (by decide) rfl (fun _ => rfl) (fun G hG => c_X12_item hG F.2.2.1.2.1 F.2.1 F.2.2.1.1 F.2.2.1.2.2) (Nat.le_of_ble_eq_true rfl) (by omega) (by omega) (Nat.le_of_ble_eq_true rfl) (fun x2 I2 h2 H2 locs2 hq2 hW2 hP2 hS => ?_)
  obtain ⟨rfl, hR2⟩ := hq2
  refine lv_pop hx hb (dk DL_16 21 rfl).1 rfl ?_
  refine lv_goto (tgt := 1307) hx hb (dk DL_16 22 rfl).1 (by decide) ?_
  exact W.widen (by omega) (by omega) (hend _ _ _ _ _ _ _ _ ⟨hY1, F.2.1, hR2, hW2, hP2⟩ (by omega) hS)
set_option maxHeartbeats 4000000 in
set_option maxRecDepth 20000 in
theorem lc_33 {p : Program} {l : Launch} {e : Env} {s : State} {m : MethodId} {below : List Frame} {meth : Method} {c : Code} {b L i k n : Nat} {xs : Nat → Int32} {H : Heap} {locs : List Loc} {ls : Array Slot} {D : va_G} {ci : Nat → ClassId} {b0 : Nat} {E : It} {Li : Nat → Int64} {Ix : It} {hxx : Ht} {Im : It} {hmm : Ht} (C0 : lw_At p s m meth c b L xs) (hKs : ∀ G, gD G = D → gc G = ci → Ks G s) (hb0 : b0 = s.heap.size) (F : LI D ci b0 E Li Ix hxx Im hmm H) (h900 : hn hxx ≤ 900) (hk : k + 1 ≤ 600000) (hnn : n + 6 ≤ 7302250) (hl : lv_has ls 4 (lvs b b0 i)) (hS : va_S (fun q => s.heap.size ≤ q) s.heap H locs) (h7 : i + 7 ≤ L) (hL31 : L < 2 ^ 31)
    (hend : ∀ (E' : It) (L' : Nat → Int64) (Ix' : It) (hx' : Ht) (Im' : It) (hm' : Ht) (H' : Heap) (locs' : List Loc), LI D ci b0 E' L' Ix' hx' Im' hm' H' → hn hx' ≤ hn hxx + 1 → va_S (fun q => s.heap.size ≤ q) s.heap H' locs' → W p l e room_1 s m #[Value.ref b] below meth c H' locs' (k + 1) (n + 6) (lw_Z below #[Value.ref b] s) (F0 m 1307 ls [])) : W p l e room_1 s m #[Value.ref b] below meth c H locs k n (lw_Z below #[Value.ref b] s) (F0 m 1211 ls []) := by
  obtain ⟨hx, hb, -, hml, hown, hts0, -, -, -, -⟩ := id C0
  refine lv_aload_n hx hb (dk DL_16 23 rfl).1 rfl (lv_at hl 1 rfl) ?_
  refine larg (k0 := 1) C0 hl rfl rfl hS (dk DL_16 24 rfl).1 (dk DL_16 25 rfl).1 (dk DL_16 26 rfl).1 (dk DL_16 27 rfl).1 (dk DL_16 28 rfl).1 rfl (by omega) hL31 ?_
  refine larg (k0 := 2) C0 hl rfl rfl hS (dk DL_16 29 rfl).1 (dk DL_16 30 rfl).1 (dk DL_16 31 rfl).1 (dk DL_16 32 rfl).1 (dk DL_16 33 rfl).1 rfl (by omega) hL31 ?_
  refine kxL (av := [.int (xs (i + 1)), .int (xs (i + 2))]) C0 hKs hb0 F.2.2.2.1 F.1.1.1 F.2.2.1.2.1.1 F.2.2.2.2 hS hl.1 (dk DL_16 34 rfl).1 rfl (tg_4 216 rfl rfl) (tg_4 217 rfl rfl) (tg_4 218 rfl rfl) (tg_1 1 rfl rfl) kX11_read pmX11_read (by decide) rfl (fun _ => rfl) (zx_read gX_ok F.2.1 F.1) (Nat.le_of_ble_eq_true rfl) (by omega) (by omega) (Nat.le_of_ble_eq_true rfl) (fun x1 I1 h1 H1 locs1 hq1 hW1 hP1 hS => ?_)
  obtain ⟨rfl, hY1, hn1⟩ := hq1
  refine lv_pop2_2 hx hb (dk DL_16 35 rfl).1 rfl ?_
  refine lv_aload_n hx hb (dk DL_16 36 rfl).1 rfl (lv_at hl 2 rfl) ?_
  refine larg (k0 := 1) C0 hl rfl rfl hS (dk DL_16 37 rfl).1 (dk DL_16 38 rfl).1 (dk DL_16 39 rfl).1 (dk DL_16 40 rfl).1 (dk DL_16 41 rfl).1 rfl (by omega) hL31 ?_
  refine larg (k0 := 2) C0 hl rfl rfl hS (dk DL_16 42 rfl).1 (dk DL_16 43 rfl).1 (dk DL_16 44 rfl).1 (dk DL_16 45 rfl).1 (dk DL_16 46 rfl).1 rfl (by omega) hL31 ?_
  refine kmL (av := [.int (xs (i + 1)), .int (xs (i + 2))]) C0 hKs hb0 hW1 (by omega) F.2.2.1.2.1 hP1 hS hl.1 (dk DL_16 47 rfl).1 rfl (tg_7 90 rfl rfl) (tg_7 91 rfl rfl) (tg_7 92 rfl rfl) (tg_1 7 rfl rfl) kX12_read pmX12_read (by decide) rfl (fun _ => rfl) (fun G hG => c_X12_read hG F.2.2.1.2.1 F.2.1 F.2.2.1.1 F.2.2.1.2.2) (Nat.le_of_ble_eq_true rfl) (by omega) (by omega) (Nat.le_of_ble_eq_true rfl) (fun x2 I2 h2 H2 locs2 hq2 hW2 hP2 hS => ?_)
  obtain ⟨rfl, hR2⟩ := hq2
  refine lv_pop2_2 hx hb (dk DL_16 48 rfl).1 rfl ?_
  refine lv_goto (tgt := 1307) hx hb (dk DL_16 49 rfl).1 (by decide) ?_
  exact W.widen (by omega) (by omega) (hend _ _ _ _ _ _ _ _ ⟨hY1, F.2.1, hR2, hW2, hP2⟩ (by omega) hS)
set_option maxHeartbeats 4000000 in
set_option maxRecDepth 20000 in
theorem lc_34 {p : Program} {l : Launch} {e : Env} {s : State} {m : MethodId} {below : List Frame} {meth : Method} {c : Code} {b L i k n : Nat} {xs : Nat → Int32} {H : Heap} {locs : List Loc} {ls : Array Slot} {D : va_G} {ci : Nat → ClassId} {b0 : Nat} {E : It} {Li : Nat → Int64} {Ix : It} {hxx : Ht} {Im : It} {hmm : Ht} (C0 : lw_At p s m meth c b L xs) (hKs : ∀ G, gD G = D → gc G = ci → Ks G s) (hb0 : b0 = s.heap.size) (F : LI D ci b0 E Li Ix hxx Im hmm H) (h900 : hn hxx ≤ 900) (hk : k + 1 ≤ 600000) (hnn : n + 6 ≤ 7302250) (hl : lv_has ls 4 (lvs b b0 i)) (hS : va_S (fun q => s.heap.size ≤ q) s.heap H locs) (h7 : i + 7 ≤ L) (hL31 : L < 2 ^ 31)
    (hend : ∀ (E' : It) (L' : Nat → Int64) (Ix' : It) (hx' : Ht) (Im' : It) (hm' : Ht) (H' : Heap) (locs' : List Loc), LI D ci b0 E' L' Ix' hx' Im' hm' H' → hn hx' ≤ hn hxx + 1 → va_S (fun q => s.heap.size ≤ q) s.heap H' locs' → W p l e room_1 s m #[Value.ref b] below meth c H' locs' (k + 1) (n + 6) (lw_Z below #[Value.ref b] s) (F0 m 1307 ls [])) : W p l e room_1 s m #[Value.ref b] below meth c H locs k n (lw_Z below #[Value.ref b] s) (F0 m 1244 ls []) := by
  obtain ⟨hx, hb, -, hml, hown, hts0, -, -, -, -⟩ := id C0
  refine lv_aload_n hx hb (dk DL_17 0 rfl).1 rfl (lv_at hl 1 rfl) ?_
  refine larg (k0 := 1) C0 hl rfl rfl hS (dk DL_17 1 rfl).1 (dk DL_17 2 rfl).1 (dk DL_17 3 rfl).1 (dk DL_17 4 rfl).1 (dk DL_17 5 rfl).1 rfl (by omega) hL31 ?_
  refine larg (k0 := 2) C0 hl rfl rfl hS (dk DL_17 6 rfl).1 (dk DL_17 7 rfl).1 (dk DL_17 8 rfl).1 (dk DL_17 9 rfl).1 (dk DL_17 10 rfl).1 rfl (by omega) hL31 ?_
  refine larg (k0 := 3) C0 hl rfl rfl hS (dk DL_17 11 rfl).1 (dk DL_17 12 rfl).1 (dk DL_17 13 rfl).1 (dk DL_17 14 rfl).1 (dk DL_17 15 rfl).1 rfl (by omega) hL31 ?_
  refine larg (k0 := 4) C0 hl rfl rfl hS (dk DL_17 16 rfl).1 (dk DL_17 17 rfl).1 (dk DL_17 18 rfl).1 (dk DL_17 19 rfl).1 (dk DL_17 20 rfl).1 rfl (by omega) hL31 ?_
  refine larg (k0 := 5) C0 hl rfl rfl hS (dk DL_17 21 rfl).1 (dk DL_17 22 rfl).1 (dk DL_17 23 rfl).1 (dk DL_17 24 rfl).1 (dk DL_17 25 rfl).1 rfl (by omega) hL31 ?_
  refine kxI (av := [.int (xs (i + 1)), .int (xs (i + 2)), .int (xs (i + 3)), .int (xs (i + 4)), .int (xs (i + 5))]) C0 hKs hb0 F.2.2.2.1 F.1.1.1 F.2.2.1.2.1.1 F.2.2.2.2 hS hl.1 (dk DL_17 26 rfl).1 rfl (tg_4 220 rfl rfl) (tg_4 221 rfl rfl) (tg_4 222 rfl rfl) (tg_1 1 rfl rfl) kX11_shift pmX11_shift (by decide) rfl (fun _ => rfl) (zx_shift gX_ok F.2.1 F.1) (Nat.le_of_ble_eq_true rfl) (by omega) (by omega) (Nat.le_of_ble_eq_true rfl) (fun x1 I1 h1 H1 locs1 hq1 hW1 hP1 hS => ?_)
  obtain ⟨rfl, hY1, hn1⟩ := hq1
  refine lv_pop hx hb (dk DL_17 27 rfl).1 rfl ?_
  refine lv_aload_n hx hb (dk DL_17 28 rfl).1 rfl (lv_at hl 2 rfl) ?_
  refine larg (k0 := 1) C0 hl rfl rfl hS (dk DL_17 29 rfl).1 (dk DL_17 30 rfl).1 (dk DL_17 31 rfl).1 (dk DL_17 32 rfl).1 (dk DL_17 33 rfl).1 rfl (by omega) hL31 ?_
  refine larg (k0 := 2) C0 hl rfl rfl hS (dk DL_17 34 rfl).1 (dk DL_17 35 rfl).1 (dk DL_17 36 rfl).1 (dk DL_17 37 rfl).1 (dk DL_17 38 rfl).1 rfl (by omega) hL31 ?_
  refine larg (k0 := 3) C0 hl rfl rfl hS (dk DL_17 39 rfl).1 (dk DL_17 40 rfl).1 (dk DL_17 41 rfl).1 (dk DL_17 42 rfl).1 (dk DL_17 43 rfl).1 rfl (by omega) hL31 ?_
  refine larg (k0 := 4) C0 hl rfl rfl hS (dk DL_17 44 rfl).1 (dk DL_17 45 rfl).1 (dk DL_17 46 rfl).1 (dk DL_17 47 rfl).1 (dk DL_17 48 rfl).1 rfl (by omega) hL31 ?_
  refine larg (k0 := 5) C0 hl rfl rfl hS (dk DL_17 49 rfl).1 (dk DL_18 0 rfl).1 (dk DL_18 1 rfl).1 (dk DL_18 2 rfl).1 (dk DL_18 3 rfl).1 rfl (by omega) hL31 ?_
  refine kmI (av := [.int (xs (i + 1)), .int (xs (i + 2)), .int (xs (i + 3)), .int (xs (i + 4)), .int (xs (i + 5))]) C0 hKs hb0 hW1 (by omega) F.2.2.1.2.1 hP1 hS hl.1 (dk DL_18 4 rfl).1 rfl (tg_7 94 rfl rfl) (tg_7 95 rfl rfl) (tg_7 96 rfl rfl) (tg_1 7 rfl rfl) kX12_shift pmX12_shift (by decide) rfl (fun _ => rfl) (fun G hG => c_X12_shift hG F.2.2.1.2.1 F.2.1 F.2.2.1.1 F.2.2.1.2.2) (Nat.le_of_ble_eq_true rfl) (by omega) (by omega) (Nat.le_of_ble_eq_true rfl) (fun x2 I2 h2 H2 locs2 hq2 hW2 hP2 hS => ?_)
  obtain ⟨rfl, hR2⟩ := hq2
  refine lv_pop hx hb (dk DL_18 5 rfl).1 rfl ?_
  refine lv_goto (tgt := 1307) hx hb (dk DL_18 6 rfl).1 (by decide) ?_
  exact W.widen (by omega) (by omega) (hend _ _ _ _ _ _ _ _ ⟨hY1, F.2.1, hR2, hW2, hP2⟩ (by omega) hS)
end
section
set_option maxHeartbeats 4000000 in
set_option maxRecDepth 20000 in
/-- the end: 1 -/
theorem lexit {p : Program} {l : Launch} {e : Env} {s : State} {m : MethodId} {below : List Frame} {meth : Method} {c : Code} {b L : Nat} {xs : Nat → Int32} {H : Heap} {locs : List Loc} {ls : Array Slot} {k n : Nat} (C0 : lw_At p s m meth c b L xs) (hk : k ≤ 600000) (hn' : n ≤ 7302250) (hS : va_S (fun q => s.heap.size ≤ q) s.heap H locs) : W p l e room_1 s m #[Value.ref b] below meth c H locs k n (lw_Z below #[Value.ref b] s) (F0 m 1313 ls []) := by
  obtain ⟨hx, hb, hr, hml, hown, hts0, hX, hbl, hlocks, hgv⟩ := C0
  refine lv_iconst (v := 1) hx hb (dk DL_18 9 rfl).1 (by decide) ?_
  refine va_forget (fun q hq => hS.2.2 q hq) ?_
  refine W.widen (k := 600000) (n := 7302250) hk hn' ?_
  exact lw_ret hx hb hr hlocks (dk DL_18 10 rfl).1
set_option maxHeartbeats 8000000 in
set_option maxRecDepth 20000 in
/-- the loop -/
theorem lloop {p : Program} {l : Launch} {e : Env} {s : State} {m : MethodId} {below : List Frame} {meth : Method} {c : Code} {b L : Nat} {xs : Nat → Int32} {D : va_G} {ci : Nat → ClassId} (C0 : lw_At p s m meth c b L xs) (hL : L ≤ 3584) (hKs : ∀ G, gD G = D → gc G = ci → Ks G s) : ∀ (r t : Nat) (E : It) (Li : Nat → Int64) (Ix : It) (hxx : Ht) (Im : It) (hmm : Ht) (H : Heap) (locs : List Loc) (ls : Array Slot), L ≤ 7 * t + 7 * r + 6 → 7 * t ≤ 3584 → LI D ci s.heap.size E Li Ix hxx Im hmm H → hn hxx ≤ 73 + t → lv_has ls 4 (lvs b s.heap.size (7 * t)) → va_S (fun q => s.heap.size ≤ q) s.heap H locs → W p l e room_1 s m #[Value.ref b] below meth c H locs (113 + t) (5499 + 6 * t) (lw_Z below #[Value.ref b] s) (F0 m 18 ls []) := by
  obtain ⟨hx, hb, hr, hml, hown, hts0, hX, hbl, hlocks, hgv⟩ := id C0
  have hbA : ¬ (fun q : Nat => s.heap.size ≤ q) b := Nat.not_le.mpr hbl
  intro r
  induction r using Nat.strongRecOn with | _ r ih => ?_
  intro t E Li Ix hxx Im hmm H locs ls hr7 ht F hnx hl hS
  refine lv_iload_n hx hb (dk DL_0 10 rfl).1 rfl (lv_at hl 3 rfl) ?_
  refine lv_aload_n hx hb (dk DL_0 11 rfl).1 rfl (lv_at hl 0 rfl) ?_
  refine va_slen hx hb hX hbl hbA hS (dk DL_0 12 rfl).1 ?_
  refine lv_bipush (v := 7) hx hb (dk DL_0 13 rfl).1 (by decide) ?_
  refine lv_isub hx hb (dk DL_0 14 rfl).1 ?_
  refine lv_icmp_gt (tgt := 1313) hx hb (dk DL_0 15 rfl).1 (by decide) (fun hc => ?_) (fun hc => ?_)
  · exact lexit C0 (by omega) (by omega) hS
  have h7 : 7 * t + 7 ≤ L := li7 hL hc (by omega)
  have hend : ∀ (E' : It) (L' : Nat → Int64) (Ix' : It) (hx' : Ht) (Im' : It) (hm' : Ht) (H' : Heap) (locs' : List Loc), LI D ci s.heap.size E' L' Ix' hx' Im' hm' H' → hn hx' ≤ hn hxx + 1 → va_S (fun q => s.heap.size ≤ q) s.heap H' locs' → W p l e room_1 s m #[Value.ref b] below meth c H' locs' (113 + t + 1) (5499 + 6 * t + 6) (lw_Z below #[Value.ref b] s) (F0 m 1307 ls []) := by
    intro E' L' Ix' hx' Im' hm' H' locs' F' hn2 hS
    refine lv_iinc (v := nI (7 * (t + 1))) (lv' := [(3, .int (nI (7 * (t + 1)))), (0, .ref b), (1, .ref s.heap.size), (2, .ref (s.heap.size + 73))]) hx hb (dk DL_18 7 rfl).1 hl (k := 3) rfl (show nI (7 * t) + 7 = nI (7 * t + 7) from nI_add _ 7) (by decide) rfl (fun ls hl => ?_)
    refine lv_goto (tgt := 18) hx hb (dk DL_18 8 rfl).1 (by decide) ?_
    exact ih (r - 1) (by omega) (t + 1) E' L' Ix' hx' Im' hm' H' locs' ls (by omega) (by omega) F' (by omega) (lv_sub hl [1, 2, 3, 0] rfl) hS
  refine lv_aload_n hx hb (dk DL_0 16 rfl).1 rfl (lv_at hl 0 rfl) ?_
  refine lv_iload_n hx hb (dk DL_0 17 rfl).1 rfl (lv_at hl 3 rfl) ?_
  refine va_sld hx hb hX hbl hbA hS (vp_in_nI (by omega) (by omega)) (dk DL_0 18 rfl).1 ?_
  refine lv_bipush (v := 63) hx hb (dk DL_0 19 rfl).1 (by decide) ?_
  refine lv_iand hx hb (dk DL_0 20 rfl).1 ?_
  exact ltswitch C0 [(0, 188), (1, 263), (2, 296), (3, 345), (4, 394), (5, 427), (6, 460), (7, 483), (8, 496), (9, 519), (10, 552), (11, 565), (12, 588), (13, 621), (14, 664), (15, 697), (16, 720), (17, 743), (18, 766), (19, 799), (20, 822), (21, 855), (22, 868), (23, 881), (24, 914), (25, 947), (26, 960), (27, 973), (28, 1016), (29, 1039), (30, 1072), (31, 1095), (32, 1138), (33, 1211), (34, 1244)] (dk DL_0 21 rfl).1 (dt := 1307) (by decide +kernel) ⟨fun _ => lc_0 C0 hKs rfl F (by omega) (by omega) (by omega) hl hS h7 (by omega) hend, fun _ => ⟨fun _ => lc_1 C0 hKs rfl F (by omega) (by omega) (by omega) hl hS h7 (by omega) hend, fun _ => ⟨fun _ => lc_2 C0 hKs rfl F (by omega) (by omega) (by omega) hl hS h7 (by omega) hend, fun _ => ⟨fun _ => lc_3 C0 hKs rfl F (by omega) (by omega) (by omega) hl hS h7 (by omega) hend, fun _ => ⟨fun _ => lc_4 C0 hKs rfl F (by omega) (by omega) (by omega) hl hS h7 (by omega) hend, fun _ => ⟨fun _ => lc_5 C0 hKs rfl F (by omega) (by omega) (by omega) hl hS h7 (by omega) hend, fun _ => ⟨fun _ => lc_6 C0 hKs rfl F (by omega) (by omega) (by omega) hl hS h7 (by omega) hend, fun _ => ⟨fun _ => lc_7 C0 hKs rfl F (by omega) (by omega) (by omega) hl hS h7 (by omega) hend, fun _ => ⟨fun _ => lc_8 C0 hKs rfl F (by omega) (by omega) (by omega) hl hS h7 (by omega) hend, fun _ => ⟨fun _ => lc_9 C0 hKs rfl F (by omega) (by omega) (by omega) hl hS h7 (by omega) hend, fun _ => ⟨fun _ => lc_10 C0 hKs rfl F (by omega) (by omega) (by omega) hl hS h7 (by omega) hend, fun _ => ⟨fun _ => lc_11 C0 hKs rfl F (by omega) (by omega) (by omega) hl hS h7 (by omega) hend, fun _ => ⟨fun _ => lc_12 C0 hKs rfl F (by omega) (by omega) (by omega) hl hS h7 (by omega) hend, fun _ => ⟨fun _ => lc_13 C0 hKs rfl F (by omega) (by omega) (by omega) hl hS h7 (by omega) hend, fun _ => ⟨fun _ => lc_14 C0 hKs rfl F (by omega) (by omega) (by omega) hl hS h7 (by omega) hend, fun _ => ⟨fun _ => lc_15 C0 hKs rfl F (by omega) (by omega) (by omega) hl hS h7 (by omega) hend, fun _ => ⟨fun _ => lc_16 C0 hKs rfl F (by omega) (by omega) (by omega) hl hS h7 (by omega) hend, fun _ => ⟨fun _ => lc_17 C0 hKs rfl F (by omega) (by omega) (by omega) hl hS h7 (by omega) hend, fun _ => ⟨fun _ => lc_18 C0 hKs rfl F (by omega) (by omega) (by omega) hl hS h7 (by omega) hend, fun _ => ⟨fun _ => lc_19 C0 hKs rfl F (by omega) (by omega) (by omega) hl hS h7 (by omega) hend, fun _ => ⟨fun _ => lc_20 C0 hKs rfl F (by omega) (by omega) (by omega) hl hS h7 (by omega) hend, fun _ => ⟨fun _ => lc_21 C0 hKs rfl F (by omega) (by omega) (by omega) hl hS h7 (by omega) hend, fun _ => ⟨fun _ => lc_22 C0 hKs rfl F (by omega) (by omega) (by omega) hl hS h7 (by omega) hend, fun _ => ⟨fun _ => lc_23 C0 hKs rfl F (by omega) (by omega) (by omega) hl hS h7 (by omega) hend, fun _ => ⟨fun _ => lc_24 C0 hKs rfl F (by omega) (by omega) (by omega) hl hS h7 (by omega) hend, fun _ => ⟨fun _ => lc_25 C0 hKs rfl F (by omega) (by omega) (by omega) hl hS h7 (by omega) hend, fun _ => ⟨fun _ => lc_26 C0 hKs rfl F (by omega) (by omega) (by omega) hl hS h7 (by omega) hend, fun _ => ⟨fun _ => lc_27 C0 hKs rfl F (by omega) (by omega) (by omega) hl hS h7 (by omega) hend, fun _ => ⟨fun _ => lc_28 C0 hKs rfl F (by omega) (by omega) (by omega) hl hS h7 (by omega) hend, fun _ => ⟨fun _ => lc_29 C0 hKs rfl F (by omega) (by omega) (by omega) hl hS h7 (by omega) hend, fun _ => ⟨fun _ => lc_30 C0 hKs rfl F (by omega) (by omega) (by omega) hl hS h7 (by omega) hend, fun _ => ⟨fun _ => lc_31 C0 hKs rfl F (by omega) (by omega) (by omega) hl hS h7 (by omega) hend, fun _ => ⟨fun _ => lc_32 C0 hKs rfl F (by omega) (by omega) (by omega) hl hS h7 (by omega) hend, fun _ => ⟨fun _ => lc_33 C0 hKs rfl F (by omega) (by omega) (by omega) hl hS h7 (by omega) hend, fun _ => ⟨fun _ => lc_34 C0 hKs rfl F (by omega) (by omega) (by omega) hl hS h7 (by omega) hend, fun _ => W.widen (by omega) (by omega) (hend _ _ _ _ _ _ _ _ F (by omega) hS)⟩⟩⟩⟩⟩⟩⟩⟩⟩⟩⟩⟩⟩⟩⟩⟩⟩⟩⟩⟩⟩⟩⟩⟩⟩⟩⟩⟩⟩⟩⟩⟩⟩⟩⟩
set_option maxHeartbeats 4000000 in
set_option maxRecDepth 20000 in
theorem whole_start {p : Program} {e : Env} {s : State} {m : MethodId} {below : List Frame} {meth : Method} {c : Code} (l : Launch) (hflags : l.flags = flags0) {b L : Nat} {xs : Nat → Int32} (hL : L ≤ 3584) (C0 : lw_At p s m meth c b L xs) : W p l e room_1 s m #[Value.ref b] below meth c s.heap [] 0 0 (lw_Z below #[Value.ref b] s) (entryFrame m ([Value.ref b] : List Value).toArray 4) := by
  obtain ⟨hx, hb, hr, hml, hown, hts0, hX, hbl, hlocks, hgv⟩ := id C0
  obtain ⟨D, ci, hKs⟩ := ks_start hts0 hgv
  have hS : va_S (fun q => s.heap.size ≤ q) s.heap s.heap [] := va_S.rf
  have hl := lv_entry ([.ref b]) (n := 4) (Nat.le_of_ble_eq_true rfl)
  rw [lg_entry_eq]
  generalize (lg_sl ([.ref b]) ++ List.replicate (4 - (lg_sl ([.ref b])).length) Slot.unset).toArray = ls at hl ⊢
  have hl : lv_has ls 4 [(0, .ref b)] := hl
  refine lnew (G := gX D ci s.heap.size 0) C0 (hKs _ rfl rfl) (dk DL_0 0 rfl).1 KX11 (by decide) (tg_1 18 rfl rfl) (tg_1 19 rfl rfl) (tg_1 1 rfl rfl) (gX_new0 (by decide)) rfl (Nat.le_of_ble_eq_true rfl) (Nat.le_of_ble_eq_true rfl) hS (fun H1 hW1 o1 z1 hS => ?_)
  refine lv_dup hx hb (dk DL_0 1 rfl).1 rfl ?_
  refine lcallI (I := zI iE 0) (h := zH hE (11, 0)) C0 gX_ok (hKs _ rfl rfl) (fun q hq => gX_low hq) (dk DL_0 2 rfl).1 rfl rfl (tg_1 20 rfl rfl) (tg_1 21 rfl rfl) (tg_1 1 rfl rfl) kX11_init pmX11_init (by decide) (c_X11_init gX_ok (fun a _ h2 => gX_new0 h2) (fun _ => rfl) (fun _ => rfl) rfl) (by decide) (Nat.le_of_ble_eq_true rfl) (Nat.le_of_ble_eq_true rfl) hl.1 (Nat.le_of_ble_eq_true rfl) hW1 hS (fun r Ix hxx H2 locs2 hq hWx hfr hS => ?_)
  obtain ⟨rfl, hI0, hH0⟩ := hq
  refine lv_astore_n (lv' := [(1, .ref s.heap.size), (0, .ref b)]) hx hb (dk DL_0 3 rfl).1 rfl hl (by decide) rfl (fun ls hl => ?_)
  have hz2 : H2.size = s.heap.size + 73 := by rw [hWx.2]; show s.heap.size + 0 + hn hxx = _; rw [hH0.1]
  refine lnew (G := gM D ci s.heap.size (fun n => s.heap.size + 73 + n)) C0 (hKs _ rfl rfl) (dk DL_0 4 rfl).1 KX12 (by decide) (tg_4 225 rfl rfl) (tg_4 226 rfl rfl) (tg_1 7 rfl rfl) (gM_new0 (by decide)) hz2 (Nat.le_of_ble_eq_true rfl) (Nat.le_of_ble_eq_true rfl) hS (fun H3 hW3 o3 z3 hS => ?_)
  have hPX3 : va_P D vwCl (wl (gX D ci s.heap.size 0) Ix hxx) H3 := hWx.1.kept fun k x hx => o3 x.1 ((hWx.1 k x hx).lt)
  refine lv_dup hx hb (dk DL_0 5 rfl).1 rfl ?_
  refine lcallI (I := zI iE 0) (h := zH hE (12, 0)) C0 gM_ok (hKs _ rfl rfl) (fun q hq => gM_low hq) (dk DL_0 6 rfl).1 rfl rfl (tg_4 227 rfl rfl) (tg_4 228 rfl rfl) (tg_1 7 rfl rfl) kX12_init pmX12_init (by decide) (c_X12_init gM_ok (fun a _ h2 => gM_new0 h2) (S0 := fun q => if q = 0 then (12, 0) else (0, 0)) (if_pos rfl) (fun _ => rfl) (by
    show ((_, _, _, _) : Ht) = (_, _, _, _)
    congr 3
    funext q
    by_cases hq : q = 0
    · subst hq; rfl
    · show (if q = 0 then (12, 0) else (0, 0)) = (if q = 0 then (12, 0) else if q = 0 then (12, 0) else (0, 0))
      simp only [if_neg hq])) (by decide) (Nat.le_of_ble_eq_true rfl) (Nat.le_of_ble_eq_true rfl) hl.1 (Nat.le_of_ble_eq_true rfl) hW3 hS (fun r Im hmm H4 locs4 hq hWm hfr4 hS => ?_)
  obtain ⟨rfl, hF, hRM, hHM, hL38⟩ := hq
  refine lv_astore_n (lv' := [(2, .ref (s.heap.size + 73)), (1, .ref s.heap.size), (0, .ref b)]) hx hb (dk DL_0 7 rfl).1 rfl hl (by decide) rfl (fun ls hl => ?_)
  refine lv_iconst (v := 0) hx hb (dk DL_0 8 rfl).1 (by decide) ?_
  refine lv_istore_n (lv' := [(3, .int 0), (2, .ref (s.heap.size + 73)), (1, .ref s.heap.size), (0, .ref b)]) hx hb (dk DL_0 9 rfl).1 rfl hl (by decide) rfl (fun ls hl => ?_)
  have hz4 : H4.size = s.heap.size + 40 + hn hxx := by rw [hWm.2]; show s.heap.size + 73 + hn hmm = _; rw [hHM.1, hH0.1]
  exact lloop C0 hL hKs 512 0 Im _ Ix hxx Im hmm H4 _ ls (by omega) (by decide) ⟨RZ_start hI0 hH0 hF (RY_start hI0 hH0 hF), fr_inv hF, ⟨hRM, hHM, hL38⟩, ⟨keepX (off := 40) (by rw [hH0.1]; decide) hPX3 hfr4.2, hz4⟩, hWm.1⟩ (by rw [hH0.1]; decide) (lv_sub hl [3, 2, 1, 0] rfl) hS
end
