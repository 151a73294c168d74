set_option maxRecDepth 8000 in
theorem tg_sub {l : List Cond} (ps : List Nat) (h : l = ps.filterMap (fun i => lw_tbl[i]?)) (hg : l.all goodWord = true) : ∀ w ∈ l, w ∈ TG := by
  intro w hw
  have h1 := List.all_eq_true.mp hg w hw
  rw [h] at hw
  obtain ⟨i, -, hi⟩ := List.mem_filterMap.mp hw
  exact tg_of i hi h1
set_option maxRecDepth 8000 in
theorem tg_p (i : Nat) {w : Cond} (h : (k2_sels lw_privs)[i]? = some w) (hg : goodWord w = true) : w ∈ TG := List.mem_filter.mpr ⟨List.mem_append_left _ (List.mem_of_getElem? h), hg⟩
set_option maxRecDepth 8000 in
theorem tg_1 (i : Nat) {w : Cond} (h : tables_1_1[i]? = some w) (hg : goodWord w = true) : w ∈ TG := List.mem_filter.mpr ⟨List.mem_append_right _ (List.mem_append_left _ (List.mem_of_getElem? h)), hg⟩
set_option maxRecDepth 8000 in
theorem tg_2 (i : Nat) {w : Cond} (h : tables_1_2[i]? = some w) (hg : goodWord w = true) : w ∈ TG := List.mem_filter.mpr ⟨List.mem_append_right _ (List.mem_append_right _ (List.mem_append_left _ (List.mem_of_getElem? h))), hg⟩
set_option maxRecDepth 8000 in
theorem tg_3 (i : Nat) {w : Cond} (h : tables_1_3[i]? = some w) (hg : goodWord w = true) : w ∈ TG := List.mem_filter.mpr ⟨List.mem_append_right _ (List.mem_append_right _ (List.mem_append_right _ (List.mem_append_left _ (List.mem_of_getElem? h)))), hg⟩
set_option maxRecDepth 8000 in
theorem tg_4 (i : Nat) {w : Cond} (h : tables_1_4[i]? = some w) (hg : goodWord w = true) : w ∈ TG := List.mem_filter.mpr ⟨List.mem_append_right _ (List.mem_append_right _ (List.mem_append_right _ (List.mem_append_right _ (List.mem_append_left _ (List.mem_of_getElem? h))))), hg⟩
set_option maxRecDepth 8000 in
theorem tg_5 (i : Nat) {w : Cond} (h : tables_1_5[i]? = some w) (hg : goodWord w = true) : w ∈ TG := List.mem_filter.mpr ⟨List.mem_append_right _ (List.mem_append_right _ (List.mem_append_right _ (List.mem_append_right _ (List.mem_append_right _ (List.mem_append_left _ (List.mem_of_getElem? h)))))), hg⟩
set_option maxRecDepth 8000 in
theorem tg_6 (i : Nat) {w : Cond} (h : tables_1_6[i]? = some w) (hg : goodWord w = true) : w ∈ TG := List.mem_filter.mpr ⟨List.mem_append_right _ (List.mem_append_right _ (List.mem_append_right _ (List.mem_append_right _ (List.mem_append_right _ (List.mem_append_right _ (List.mem_append_left _ (List.mem_of_getElem? h))))))), hg⟩
set_option maxRecDepth 8000 in
theorem tg_7 (i : Nat) {w : Cond} (h : tables_1_7[i]? = some w) (hg : goodWord w = true) : w ∈ TG := List.mem_filter.mpr ⟨List.mem_append_right _ (List.mem_append_right _ (List.mem_append_right _ (List.mem_append_right _ (List.mem_append_right _ (List.mem_append_right _ (List.mem_append_right _ (List.mem_of_getElem? h))))))), hg⟩
set_option maxRecDepth 20000 in
theorem KX0 : CLS 0 RX0 TX0 16 tyX0 := ⟨rfl, tg_sub [200, 202, 204, 206, 208, 210, 212, 214, 216, 218, 220, 222, 224, 226, 228, 230] (by decide +kernel) (by decide +kernel), tyX0_ok, nmX0, by decide +kernel, by decide⟩
set_option maxRecDepth 20000 in
theorem KX1 : CLS 1 RX1 TX1 6 tyX1 := ⟨rfl, tg_sub [474, 475, 476, 477, 478, 479] (by decide +kernel) (by decide +kernel), tyX1_ok, nmX1, by decide +kernel, by decide⟩
set_option maxRecDepth 20000 in
theorem KX2 : CLS 2 RX2 TX2 6 tyX2 := ⟨rfl, tg_sub [412, 413, 414, 415, 416, 417] (by decide +kernel) (by decide +kernel), tyX2_ok, nmX2, by decide +kernel, by decide⟩
set_option maxRecDepth 20000 in
theorem KX3 : CLS 3 RX3 TX3 12 tyX3 := ⟨rfl, tg_sub [275, 277, 279, 281, 283, 285, 287, 289, 291, 293, 295, 297] (by decide +kernel) (by decide +kernel), tyX3_ok, nmX3, by decide +kernel, by decide⟩
set_option maxRecDepth 20000 in
theorem KX4 : CLS 4 RX4 TX4 6 tyX4 := ⟨rfl, tg_sub [425, 426, 427, 428, 429, 430] (by decide +kernel) (by decide +kernel), tyX4_ok, nmX4, by decide +kernel, by decide⟩
set_option maxRecDepth 20000 in
theorem KX5 : CLS 5 RX5 TX5 14 tyX5 := ⟨rfl, tg_sub [140, 142, 144, 146, 148, 150, 152, 154, 156, 158, 160, 162, 164, 166] (by decide +kernel) (by decide +kernel), tyX5_ok, nmX5, by decide +kernel, by decide⟩
set_option maxRecDepth 20000 in
theorem KX6 : CLS 6 RX6 TX6 6 tyX6 := ⟨rfl, tg_sub [451, 452, 453, 454, 455, 456] (by decide +kernel) (by decide +kernel), tyX6_ok, nmX6, by decide +kernel, by decide⟩
set_option maxRecDepth 20000 in
theorem KX7 : CLS 7 RX7 TX7 2 tyX7 := ⟨rfl, tg_sub [245, 247] (by decide +kernel) (by decide +kernel), tyX7_ok, nmX7, by decide +kernel, by decide⟩
set_option maxRecDepth 20000 in
theorem KX8 : CLS 8 RX8 TX8 6 tyX8 := ⟨rfl, tg_sub [438, 439, 440, 441, 442, 443] (by decide +kernel) (by decide +kernel), tyX8_ok, nmX8, by decide +kernel, by decide⟩
set_option maxRecDepth 20000 in
theorem KX9 : CLS 9 RX9 TX9 6 tyX9 := ⟨rfl, tg_sub [393, 395, 397, 399, 401, 403] (by decide +kernel) (by decide +kernel), tyX9_ok, nmX9, by decide +kernel, by decide⟩
set_option maxRecDepth 20000 in
theorem KX10 : CLS 10 RX10 TX10 6 tyX10 := ⟨rfl, tg_sub [464, 465, 466, 467, 468, 469] (by decide +kernel) (by decide +kernel), tyX10_ok, nmX10, by decide +kernel, by decide⟩
set_option maxRecDepth 20000 in
theorem KX11 : CLS 11 RX11 TX11 12 tyX11 := ⟨rfl, tg_sub [313, 315, 317, 319, 321, 323, 325, 327, 329, 331, 333, 335] (by decide +kernel) (by decide +kernel), tyX11_ok, nmX11, by decide +kernel, by decide⟩
set_option maxRecDepth 20000 in
theorem KX12 : CLS 12 RX12 TX12 73 tyX12 := ⟨rfl, tg_sub [1097, 1099, 1101, 1103, 1105, 1107, 1109, 1111, 1113, 1115, 1117, 1119, 1121, 1123, 1125, 1127, 1129, 1131, 1133, 1135, 1137, 1139, 1141, 1143, 1145, 1147, 1149, 1151, 1153, 1155, 1157, 1159, 1161, 1163, 1165, 1167, 1169, 1171, 1173, 1175, 1177, 1179, 1181, 1183, 1185, 1187, 1189, 1191, 1193, 1195, 1197, 1199, 1201, 1203, 1205, 1207, 1209, 1211, 1213, 1215, 1217, 1219, 1221, 1223, 1225, 1227, 1229, 1231, 1233, 1235, 1237, 1239, 1241] (by decide +kernel) (by decide +kernel), tyX12_ok, nmX12, by decide +kernel, by decide⟩
set_option maxRecDepth 8000 in
theorem w_107 : (Jvm.Cond.fieldLink "NextOneKnows$State" (11 : Nat) "NextOneKnows$State" "doings" "[LNextOneKnows$Doing;") ∈ TG := tg_1 34 rfl rfl
set_option maxRecDepth 8000 in
theorem fX5_11 : Fln RX5 RX5 TX5 11 0 := ⟨w_107, Or.inl rfl⟩
set_option maxRecDepth 8000 in
theorem w_108 : (Jvm.Cond.fieldLink "NextOneKnows$State" (17 : Nat) "NextOneKnows$State" "odds" "[I") ∈ TG := tg_1 35 rfl rfl
set_option maxRecDepth 8000 in
theorem fX5_17 : Fln RX5 RX5 TX5 17 1 := ⟨w_108, Or.inl rfl⟩
set_option maxRecDepth 8000 in
theorem w_109 : (Jvm.Cond.fieldLink "NextOneKnows" (129 : Nat) "NextOneKnows$State" "odds" "[I") ∈ TG := tg_1 36 rfl rfl
set_option maxRecDepth 8000 in
theorem fX11_129 : Fln RX11 RX5 TX5 129 1 := ⟨w_109, Or.inl rfl⟩
set_option maxRecDepth 8000 in
theorem w_110 : (Jvm.Cond.fieldLink "NextOneKnows" (72 : Nat) "NextOneKnows$State" "count" "I") ∈ TG := tg_1 37 rfl rfl
set_option maxRecDepth 8000 in
theorem fX11_72 : Fln RX11 RX5 TX5 72 2 := ⟨w_110, Or.inl rfl⟩
set_option maxRecDepth 8000 in
theorem w_111 : (Jvm.Cond.fieldLink "NextOneKnows$State" (36 : Nat) "NextOneKnows$State" "count" "I") ∈ TG := tg_1 38 rfl rfl
set_option maxRecDepth 8000 in
theorem fX5_36 : Fln RX5 RX5 TX5 36 2 := ⟨w_111, Or.inl rfl⟩
set_option maxRecDepth 8000 in
theorem w_112 : (Jvm.Cond.fieldLink "NextOneKnows$Ahead" (69 : Nat) "NextOneKnows$State" "count" "I") ∈ TG := tg_1 39 rfl rfl
set_option maxRecDepth 8000 in
theorem fX0_69 : Fln RX0 RX5 TX5 69 2 := ⟨w_112, Or.inl rfl⟩
set_option maxRecDepth 8000 in
theorem w_113 : (Jvm.Cond.fieldLink "NextOneKnows$State" (40 : Nat) "NextOneKnows$State" "known" "I") ∈ TG := tg_1 40 rfl rfl
set_option maxRecDepth 8000 in
theorem fX5_40 : Fln RX5 RX5 TX5 40 3 := ⟨w_113, Or.inl rfl⟩
set_option maxRecDepth 8000 in
theorem w_114 : (Jvm.Cond.fieldLink "NextOneKnows" (116 : Nat) "NextOneKnows$State" "known" "I") ∈ TG := tg_1 41 rfl rfl
set_option maxRecDepth 8000 in
theorem fX11_116 : Fln RX11 RX5 TX5 116 3 := ⟨w_114, Or.inl rfl⟩
set_option maxRecDepth 8000 in
theorem w_115 : (Jvm.Cond.fieldLink "NextOneKnows$Ahead" (161 : Nat) "NextOneKnows$State" "known" "I") ∈ TG := tg_1 42 rfl rfl
set_option maxRecDepth 8000 in
theorem fX0_161 : Fln RX0 RX5 TX5 161 3 := ⟨w_115, Or.inl rfl⟩
set_option maxRecDepth 8000 in
theorem w_116 : (Jvm.Cond.fieldLink "NextOneKnows$State" (43 : Nat) "NextOneKnows$State" "needless" "I") ∈ TG := tg_1 43 rfl rfl
set_option maxRecDepth 8000 in
theorem fX5_43 : Fln RX5 RX5 TX5 43 4 := ⟨w_116, Or.inl rfl⟩
set_option maxRecDepth 8000 in
theorem w_117 : (Jvm.Cond.fieldLink "NextOneKnows" (109 : Nat) "NextOneKnows$State" "needless" "I") ∈ TG := tg_1 44 rfl rfl
set_option maxRecDepth 8000 in
theorem fX11_109 : Fln RX11 RX5 TX5 109 4 := ⟨w_117, Or.inl rfl⟩
set_option maxRecDepth 8000 in
theorem w_118 : (Jvm.Cond.fieldLink "NextOneKnows$Ahead" (166 : Nat) "NextOneKnows$State" "needless" "I") ∈ TG := tg_1 45 rfl rfl
set_option maxRecDepth 8000 in
theorem fX0_166 : Fln RX0 RX5 TX5 166 4 := ⟨w_118, Or.inl rfl⟩
set_option maxRecDepth 8000 in
theorem w_119 : (Jvm.Cond.fieldLink "NextOneKnows$State" (21 : Nat) "NextOneKnows$State" "hours" "[I") ∈ TG := tg_1 46 rfl rfl
set_option maxRecDepth 8000 in
theorem fX5_21 : Fln RX5 RX5 TX5 21 5 := ⟨w_119, Or.inl rfl⟩
set_option maxRecDepth 8000 in
theorem w_120 : (Jvm.Cond.fieldLink "NextOneKnows$Ahead" (101 : Nat) "NextOneKnows$State" "hours" "[I") ∈ TG := tg_1 47 rfl rfl
set_option maxRecDepth 8000 in
theorem fX0_101 : Fln RX0 RX5 TX5 101 5 := ⟨w_120, Or.inl rfl⟩
set_option maxRecDepth 8000 in
theorem w_121 : (Jvm.Cond.fieldLink "NextOneKnows" (139 : Nat) "NextOneKnows$State" "hours" "[I") ∈ TG := tg_1 48 rfl rfl
set_option maxRecDepth 8000 in
theorem fX11_139 : Fln RX11 RX5 TX5 139 5 := ⟨w_121, Or.inl rfl⟩
set_option maxRecDepth 8000 in
theorem w_122 : (Jvm.Cond.fieldLink "NextOneKnows$Ahead" (57 : Nat) "NextOneKnows$State" "week" "I") ∈ TG := tg_1 49 rfl rfl
set_option maxRecDepth 8000 in
theorem fX0_57 : Fln RX0 RX5 TX5 57 6 := ⟨w_122, Or.inl rfl⟩
set_option maxRecDepth 8000 in
theorem w_123 : (Jvm.Cond.fieldLink "NextOneKnows$State" (46 : Nat) "NextOneKnows$State" "week" "I") ∈ TG := tg_1 50 rfl rfl
set_option maxRecDepth 8000 in
theorem fX5_46 : Fln RX5 RX5 TX5 46 6 := ⟨w_123, Or.inl rfl⟩
set_option maxRecDepth 8000 in
theorem w_124 : (Jvm.Cond.fieldLink "NextOneKnows" (122 : Nat) "NextOneKnows$State" "week" "I") ∈ TG := tg_1 51 rfl rfl
set_option maxRecDepth 8000 in
theorem fX11_122 : Fln RX11 RX5 TX5 122 6 := ⟨w_124, Or.inl rfl⟩
set_option maxRecDepth 8000 in
theorem w_125 : (Jvm.Cond.fieldLink "NextOneKnows$State" (49 : Nat) "NextOneKnows$State" "costs" "I") ∈ TG := tg_1 52 rfl rfl
set_option maxRecDepth 8000 in
theorem fX5_49 : Fln RX5 RX5 TX5 49 7 := ⟨w_125, Or.inl rfl⟩
set_option maxRecDepth 8000 in
theorem w_126 : (Jvm.Cond.fieldLink "NextOneKnows" (162 : Nat) "NextOneKnows$State" "costs" "I") ∈ TG := tg_1 53 rfl rfl
set_option maxRecDepth 8000 in
theorem fX11_162 : Fln RX11 RX5 TX5 162 7 := ⟨w_126, Or.inl rfl⟩
set_option maxRecDepth 8000 in
theorem w_127 : (Jvm.Cond.fieldLink "NextOneKnows$State" (52 : Nat) "NextOneKnows$State" "stops" "I") ∈ TG := tg_1 54 rfl rfl
set_option maxRecDepth 8000 in
theorem fX5_52 : Fln RX5 RX5 TX5 52 8 := ⟨w_127, Or.inl rfl⟩
set_option maxRecDepth 8000 in
theorem w_128 : (Jvm.Cond.fieldLink "NextOneKnows" (165 : Nat) "NextOneKnows$State" "stops" "I") ∈ TG := tg_1 55 rfl rfl
set_option maxRecDepth 8000 in
theorem fX11_165 : Fln RX11 RX5 TX5 165 8 := ⟨w_128, Or.inl rfl⟩
set_option maxRecDepth 8000 in
theorem w_129 : (Jvm.Cond.fieldLink "NextOneKnows$State" (55 : Nat) "NextOneKnows$State" "calls" "I") ∈ TG := tg_1 56 rfl rfl
set_option maxRecDepth 8000 in
theorem fX5_55 : Fln RX5 RX5 TX5 55 9 := ⟨w_129, Or.inl rfl⟩
set_option maxRecDepth 8000 in
theorem w_130 : (Jvm.Cond.fieldLink "NextOneKnows" (168 : Nat) "NextOneKnows$State" "calls" "I") ∈ TG := tg_1 57 rfl rfl
set_option maxRecDepth 8000 in
theorem fX11_168 : Fln RX11 RX5 TX5 168 9 := ⟨w_130, Or.inl rfl⟩
set_option maxRecDepth 8000 in
theorem w_131 : (Jvm.Cond.fieldLink "NextOneKnows$State" (24 : Nat) "NextOneKnows$State" "rowWeeks" "[I") ∈ TG := tg_1 58 rfl rfl
set_option maxRecDepth 8000 in
theorem fX5_24 : Fln RX5 RX5 TX5 24 10 := ⟨w_131, Or.inl rfl⟩
set_option maxRecDepth 8000 in
theorem w_132 : (Jvm.Cond.fieldLink "NextOneKnows$Ahead" (187 : Nat) "NextOneKnows$State" "rowWeeks" "[I") ∈ TG := tg_1 59 rfl rfl
set_option maxRecDepth 8000 in
theorem fX0_187 : Fln RX0 RX5 TX5 187 10 := ⟨w_132, Or.inl rfl⟩
set_option maxRecDepth 8000 in
theorem w_133 : (Jvm.Cond.fieldLink "NextOneKnows$State" (27 : Nat) "NextOneKnows$State" "rowDoings" "[I") ∈ TG := tg_1 60 rfl rfl
set_option maxRecDepth 8000 in
theorem fX5_27 : Fln RX5 RX5 TX5 27 11 := ⟨w_133, Or.inl rfl⟩
set_option maxRecDepth 8000 in
theorem w_134 : (Jvm.Cond.fieldLink "NextOneKnows$Ahead" (190 : Nat) "NextOneKnows$State" "rowDoings" "[I") ∈ TG := tg_1 61 rfl rfl
set_option maxRecDepth 8000 in
theorem fX0_190 : Fln RX0 RX5 TX5 190 11 := ⟨w_134, Or.inl rfl⟩
set_option maxRecDepth 8000 in
theorem w_135 : (Jvm.Cond.fieldLink "NextOneKnows$State" (58 : Nat) "NextOneKnows$State" "rows" "I") ∈ TG := tg_1 62 rfl rfl
set_option maxRecDepth 8000 in
theorem fX5_58 : Fln RX5 RX5 TX5 58 12 := ⟨w_135, Or.inl rfl⟩
set_option maxRecDepth 8000 in
theorem w_136 : (Jvm.Cond.fieldLink "NextOneKnows$Ahead" (184 : Nat) "NextOneKnows$State" "rows" "I") ∈ TG := tg_1 63 rfl rfl
set_option maxRecDepth 8000 in
theorem fX0_184 : Fln RX0 RX5 TX5 184 12 := ⟨w_136, Or.inl rfl⟩
set_option maxRecDepth 8000 in
theorem w_137 : (Jvm.Cond.fieldLink "NextOneKnows" (231 : Nat) "NextOneKnows$State" "rows" "I") ∈ TG := tg_1 64 rfl rfl
set_option maxRecDepth 8000 in
theorem fX11_231 : Fln RX11 RX5 TX5 231 12 := ⟨w_137, Or.inl rfl⟩
set_option maxRecDepth 8000 in
theorem w_138 : (Jvm.Cond.fieldLink "NextOneKnows$State" (61 : Nat) "NextOneKnows$State" "post" "LNextOneKnows$Post;") ∈ TG := tg_1 65 rfl rfl
set_option maxRecDepth 8000 in
theorem fX5_61 : Fln RX5 RX5 TX5 61 13 := ⟨w_138, Or.inl rfl⟩
set_option maxRecDepth 8000 in
theorem w_139 : (Jvm.Cond.fieldLink "NextOneKnows" (152 : Nat) "NextOneKnows$State" "post" "LNextOneKnows$Post;") ∈ TG := tg_1 66 rfl rfl
set_option maxRecDepth 8000 in
theorem fX11_152 : Fln RX11 RX5 TX5 152 13 := ⟨w_139, Or.inl rfl⟩
set_option maxRecDepth 8000 in
theorem w_178 : (Jvm.Cond.fieldLink "NextOneKnows$Ahead" (34 : Nat) "NextOneKnows$Ahead" "now" "LNextOneKnows$State;") ∈ TG := tg_1 105 rfl rfl
set_option maxRecDepth 8000 in
theorem fX0_34 : Fln RX0 RX0 TX0 34 0 := ⟨w_178, Or.inl rfl⟩
set_option maxRecDepth 8000 in
theorem w_179 : (Jvm.Cond.fieldLink "NextOneKnows$Ahead" (47 : Nat) "NextOneKnows$Ahead" "span" "I") ∈ TG := tg_1 106 rfl rfl
set_option maxRecDepth 8000 in
theorem fX0_47 : Fln RX0 RX0 TX0 47 1 := ⟨w_179, Or.inl rfl⟩
set_option maxRecDepth 8000 in
theorem w_180 : (Jvm.Cond.fieldLink "NextOneKnows$Ahead" (9 : Nat) "NextOneKnows$Ahead" "coming" "[I") ∈ TG := tg_1 107 rfl rfl
set_option maxRecDepth 8000 in
theorem fX0_9 : Fln RX0 RX0 TX0 9 2 := ⟨w_180, Or.inl rfl⟩
set_option maxRecDepth 8000 in
theorem w_181 : (Jvm.Cond.fieldLink "NextOneKnows$Ahead" (17 : Nat) "NextOneKnows$Ahead" "dear" "[I") ∈ TG := tg_1 108 rfl rfl
set_option maxRecDepth 8000 in
theorem fX0_17 : Fln RX0 RX0 TX0 17 3 := ⟨w_181, Or.inl rfl⟩
set_option maxRecDepth 8000 in
theorem w_182 : (Jvm.Cond.fieldLink "NextOneKnows$Ahead" (22 : Nat) "NextOneKnows$Ahead" "said" "[[I") ∈ TG := tg_1 109 rfl rfl
set_option maxRecDepth 8000 in
theorem fX0_22 : Fln RX0 RX0 TX0 22 4 := ⟨w_182, Or.inl rfl⟩
set_option maxRecDepth 8000 in
theorem w_183 : (Jvm.Cond.fieldLink "NextOneKnows$Ahead" (25 : Nat) "NextOneKnows$Ahead" "stopping" "[I") ∈ TG := tg_1 110 rfl rfl
set_option maxRecDepth 8000 in
theorem fX0_25 : Fln RX0 RX0 TX0 25 5 := ⟨w_183, Or.inl rfl⟩
set_option maxRecDepth 8000 in
theorem w_184 : (Jvm.Cond.fieldLink "NextOneKnows$Ahead" (114 : Nat) "NextOneKnows$Ahead" "needless" "I") ∈ TG := tg_1 111 rfl rfl
set_option maxRecDepth 8000 in
theorem fX0_114 : Fln RX0 RX0 TX0 114 6 := ⟨w_184, Or.inl rfl⟩
set_option maxRecDepth 8000 in
theorem w_185 : (Jvm.Cond.fieldLink "NextOneKnows$Ahead" (117 : Nat) "NextOneKnows$Ahead" "costs" "I") ∈ TG := tg_1 112 rfl rfl
set_option maxRecDepth 8000 in
theorem fX0_117 : Fln RX0 RX0 TX0 117 7 := ⟨w_185, Or.inl rfl⟩
set_option maxRecDepth 8000 in
theorem w_186 : (Jvm.Cond.fieldLink "NextOneKnows$Ahead" (140 : Nat) "NextOneKnows$Ahead" "called" "I") ∈ TG := tg_1 113 rfl rfl
set_option maxRecDepth 8000 in
theorem fX0_140 : Fln RX0 RX0 TX0 140 8 := ⟨w_186, Or.inl rfl⟩
set_option maxRecDepth 8000 in
theorem w_187 : (Jvm.Cond.fieldLink "NextOneKnows$Ahead" (111 : Nat) "NextOneKnows$Ahead" "known" "I") ∈ TG := tg_1 114 rfl rfl
set_option maxRecDepth 8000 in
theorem fX0_111 : Fln RX0 RX0 TX0 111 9 := ⟨w_187, Or.inl rfl⟩
set_option maxRecDepth 8000 in
theorem w_188 : (Jvm.Cond.fieldLink "NextOneKnows" (195 : Nat) "NextOneKnows$Ahead" "known" "I") ∈ TG := tg_1 115 rfl rfl
set_option maxRecDepth 8000 in
theorem fX11_195 : Fln RX11 RX0 TX0 195 9 := ⟨w_188, Or.inl rfl⟩
set_option maxRecDepth 8000 in
theorem w_189 : (Jvm.Cond.fieldLink "NextOneKnows$Ahead" (120 : Nat) "NextOneKnows$Ahead" "stops" "I") ∈ TG := tg_1 116 rfl rfl
set_option maxRecDepth 8000 in
theorem fX0_120 : Fln RX0 RX0 TX0 120 10 := ⟨w_189, Or.inl rfl⟩
set_option maxRecDepth 8000 in
theorem w_190 : (Jvm.Cond.fieldLink "NextOneKnows" (193 : Nat) "NextOneKnows$Ahead" "stops" "I") ∈ TG := tg_1 117 rfl rfl
set_option maxRecDepth 8000 in
theorem fX11_193 : Fln RX11 RX0 TX0 193 10 := ⟨w_190, Or.inl rfl⟩
set_option maxRecDepth 8000 in
theorem w_191 : (Jvm.Cond.fieldLink "NextOneKnows$Ahead" (123 : Nat) "NextOneKnows$Ahead" "calls" "I") ∈ TG := tg_1 118 rfl rfl
set_option maxRecDepth 8000 in
theorem fX0_123 : Fln RX0 RX0 TX0 123 11 := ⟨w_191, Or.inl rfl⟩
set_option maxRecDepth 8000 in
theorem w_192 : (Jvm.Cond.fieldLink "NextOneKnows" (194 : Nat) "NextOneKnows$Ahead" "calls" "I") ∈ TG := tg_1 119 rfl rfl
set_option maxRecDepth 8000 in
theorem fX11_194 : Fln RX11 RX0 TX0 194 11 := ⟨w_192, Or.inl rfl⟩
set_option maxRecDepth 8000 in
theorem w_193 : (Jvm.Cond.fieldLink "NextOneKnows$Ahead" (126 : Nat) "NextOneKnows$Ahead" "firstWeek" "I") ∈ TG := tg_1 120 rfl rfl
set_option maxRecDepth 8000 in
theorem fX0_126 : Fln RX0 RX0 TX0 126 12 := ⟨w_193, Or.inl rfl⟩
set_option maxRecDepth 8000 in
theorem w_194 : (Jvm.Cond.fieldLink "NextOneKnows" (196 : Nat) "NextOneKnows$Ahead" "firstWeek" "I") ∈ TG := tg_1 121 rfl rfl
set_option maxRecDepth 8000 in
theorem fX11_196 : Fln RX11 RX0 TX0 196 12 := ⟨w_194, Or.inl rfl⟩
set_option maxRecDepth 8000 in
theorem w_195 : (Jvm.Cond.fieldLink "NextOneKnows$Ahead" (129 : Nat) "NextOneKnows$Ahead" "firstDoing" "I") ∈ TG := tg_1 122 rfl rfl
set_option maxRecDepth 8000 in
theorem fX0_129 : Fln RX0 RX0 TX0 129 13 := ⟨w_195, Or.inl rfl⟩
set_option maxRecDepth 8000 in
theorem w_196 : (Jvm.Cond.fieldLink "NextOneKnows" (199 : Nat) "NextOneKnows$Ahead" "firstDoing" "I") ∈ TG := tg_1 123 rfl rfl
set_option maxRecDepth 8000 in
theorem fX11_199 : Fln RX11 RX0 TX0 199 13 := ⟨w_196, Or.inl rfl⟩
set_option maxRecDepth 8000 in
theorem w_197 : (Jvm.Cond.fieldLink "NextOneKnows$Ahead" (28 : Nat) "NextOneKnows$Ahead" "shares" "[I") ∈ TG := tg_1 124 rfl rfl
set_option maxRecDepth 8000 in
theorem fX0_28 : Fln RX0 RX0 TX0 28 14 := ⟨w_197, Or.inl rfl⟩
set_option maxRecDepth 8000 in
theorem w_198 : (Jvm.Cond.fieldLink "NextOneKnows$Ahead" (31 : Nat) "NextOneKnows$Ahead" "best" "[I") ∈ TG := tg_1 125 rfl rfl
set_option maxRecDepth 8000 in
theorem fX0_31 : Fln RX0 RX0 TX0 31 15 := ⟨w_198, Or.inl rfl⟩
set_option maxRecDepth 8000 in
theorem w_199 : (Jvm.Cond.fieldLink "NextOneKnows" (205 : Nat) "NextOneKnows$Ahead" "best" "[I") ∈ TG := tg_1 126 rfl rfl
set_option maxRecDepth 8000 in
theorem fX11_205 : Fln RX11 RX0 TX0 205 15 := ⟨w_199, Or.inl rfl⟩
set_option maxRecDepth 8000 in
theorem w_241 : (Jvm.Cond.fieldLink "NextOneKnows$Trace" (7 : Nat) "NextOneKnows$Trace" "bodies" "[I") ∈ TG := tg_1 168 rfl rfl
set_option maxRecDepth 8000 in
theorem fX7_7 : Fln RX7 RX7 TX7 7 0 := ⟨w_241, Or.inl rfl⟩
set_option maxRecDepth 8000 in
theorem w_242 : (Jvm.Cond.fieldLink "NextOneKnows" (271 : Nat) "NextOneKnows$Trace" "bodies" "[I") ∈ TG := tg_1 169 rfl rfl
set_option maxRecDepth 8000 in
theorem fX11_271 : Fln RX11 RX7 TX7 271 0 := ⟨w_242, Or.inl rfl⟩
set_option maxRecDepth 8000 in
theorem w_243 : (Jvm.Cond.fieldLink "NextOneKnows$Trace" (13 : Nat) "NextOneKnows$Trace" "ran" "I") ∈ TG := tg_1 170 rfl rfl
set_option maxRecDepth 8000 in
theorem fX7_13 : Fln RX7 RX7 TX7 13 1 := ⟨w_243, Or.inl rfl⟩
set_option maxRecDepth 8000 in
theorem w_244 : (Jvm.Cond.fieldLink "NextOneKnows" (258 : Nat) "NextOneKnows$Trace" "ran" "I") ∈ TG := tg_1 171 rfl rfl
set_option maxRecDepth 8000 in
theorem fX11_258 : Fln RX11 RX7 TX7 258 1 := ⟨w_244, Or.inl rfl⟩
set_option maxRecDepth 8000 in
theorem w_261 : (Jvm.Cond.fieldLink "NextOneKnows$Post" (51 : Nat) "NextOneKnows$Post" "call" "I") ∈ TG := tg_1 188 rfl rfl
set_option maxRecDepth 8000 in
theorem fX3_51 : Fln RX3 RX3 TX3 51 0 := ⟨w_261, Or.inl rfl⟩
set_option maxRecDepth 8000 in
theorem w_262 : (Jvm.Cond.fieldLink "NextOneKnows$State" (83 : Nat) "NextOneKnows$Post" "call" "I") ∈ TG := tg_1 189 rfl rfl
set_option maxRecDepth 8000 in
theorem fX5_83 : Fln RX5 RX3 TX3 83 0 := ⟨w_262, Or.inl rfl⟩
set_option maxRecDepth 8000 in
theorem w_263 : (Jvm.Cond.fieldLink "NextOneKnows$Post" (54 : Nat) "NextOneKnows$Post" "fade" "I") ∈ TG := tg_1 190 rfl rfl
set_option maxRecDepth 8000 in
theorem fX3_54 : Fln RX3 RX3 TX3 54 1 := ⟨w_263, Or.inl rfl⟩
set_option maxRecDepth 8000 in
theorem w_264 : (Jvm.Cond.fieldLink "NextOneKnows$State" (86 : Nat) "NextOneKnows$Post" "fade" "I") ∈ TG := tg_1 191 rfl rfl
set_option maxRecDepth 8000 in
theorem fX5_86 : Fln RX5 RX3 TX3 86 1 := ⟨w_264, Or.inl rfl⟩
set_option maxRecDepth 8000 in
theorem w_265 : (Jvm.Cond.fieldLink "NextOneKnows$Post" (45 : Nat) "NextOneKnows$Post" "clauses" "I") ∈ TG := tg_1 192 rfl rfl
set_option maxRecDepth 8000 in
theorem fX3_45 : Fln RX3 RX3 TX3 45 2 := ⟨w_265, Or.inl rfl⟩
set_option maxRecDepth 8000 in
theorem w_266 : (Jvm.Cond.fieldLink "NextOneKnows$Post" (11 : Nat) "NextOneKnows$Post" "words" "[I") ∈ TG := tg_1 193 rfl rfl
set_option maxRecDepth 8000 in
theorem fX3_11 : Fln RX3 RX3 TX3 11 3 := ⟨w_266, Or.inl rfl⟩
set_option maxRecDepth 8000 in
theorem w_267 : (Jvm.Cond.fieldLink "NextOneKnows$Post" (15 : Nat) "NextOneKnows$Post" "numbers" "[I") ∈ TG := tg_1 194 rfl rfl
set_option maxRecDepth 8000 in
theorem fX3_15 : Fln RX3 RX3 TX3 15 4 := ⟨w_267, Or.inl rfl⟩
set_option maxRecDepth 8000 in
theorem w_268 : (Jvm.Cond.fieldLink "NextOneKnows$Post" (18 : Nat) "NextOneKnows$Post" "ends" "[I") ∈ TG := tg_1 195 rfl rfl
set_option maxRecDepth 8000 in
theorem fX3_18 : Fln RX3 RX3 TX3 18 5 := ⟨w_268, Or.inl rfl⟩
set_option maxRecDepth 8000 in
theorem w_269 : (Jvm.Cond.fieldLink "NextOneKnows$Post" (21 : Nat) "NextOneKnows$Post" "codes" "[I") ∈ TG := tg_1 196 rfl rfl
set_option maxRecDepth 8000 in
theorem fX3_21 : Fln RX3 RX3 TX3 21 6 := ⟨w_269, Or.inl rfl⟩
set_option maxRecDepth 8000 in
theorem w_270 : (Jvm.Cond.fieldLink "NextOneKnows$Post" (48 : Nat) "NextOneKnows$Post" "codeCount" "I") ∈ TG := tg_1 197 rfl rfl
set_option maxRecDepth 8000 in
theorem fX3_48 : Fln RX3 RX3 TX3 48 7 := ⟨w_270, Or.inl rfl⟩
set_option maxRecDepth 8000 in
theorem w_271 : (Jvm.Cond.fieldLink "NextOneKnows$Post" (24 : Nat) "NextOneKnows$Post" "text" "[B") ∈ TG := tg_1 198 rfl rfl
set_option maxRecDepth 8000 in
theorem fX3_24 : Fln RX3 RX3 TX3 24 8 := ⟨w_271, Or.inl rfl⟩
set_option maxRecDepth 8000 in
theorem w_272 : (Jvm.Cond.fieldLink "NextOneKnows$Post" (34 : Nat) "NextOneKnows$Post" "length" "I") ∈ TG := tg_1 199 rfl rfl
set_option maxRecDepth 8000 in
theorem fX3_34 : Fln RX3 RX3 TX3 34 9 := ⟨w_272, Or.inl rfl⟩
set_option maxRecDepth 8000 in
theorem w_273 : (Jvm.Cond.fieldLink "NextOneKnows$Post" (38 : Nat) "NextOneKnows$Post" "at" "I") ∈ TG := tg_1 200 rfl rfl
set_option maxRecDepth 8000 in
theorem fX3_38 : Fln RX3 RX3 TX3 38 10 := ⟨w_273, Or.inl rfl⟩
set_option maxRecDepth 8000 in
theorem w_274 : (Jvm.Cond.fieldLink "NextOneKnows$Post" (41 : Nat) "NextOneKnows$Post" "faulty" "Z") ∈ TG := tg_1 201 rfl rfl
set_option maxRecDepth 8000 in
theorem fX3_41 : Fln RX3 RX3 TX3 41 11 := ⟨w_274, Or.inl rfl⟩
set_option maxRecDepth 8000 in
theorem w_301 : (Jvm.Cond.fieldLink "NextOneKnows" (12 : Nat) "NextOneKnows" "now" "LNextOneKnows$State;") ∈ TG := tg_1 228 rfl rfl
set_option maxRecDepth 8000 in
theorem fX11_12 : Fln RX11 RX11 TX11 12 0 := ⟨w_301, Or.inl rfl⟩
set_option maxRecDepth 8000 in
theorem w_302 : (Jvm.Cond.fieldLink "NextOneKnows" (18 : Nat) "NextOneKnows" "imaged" "LNextOneKnows$State;") ∈ TG := tg_1 229 rfl rfl
set_option maxRecDepth 8000 in
theorem fX11_18 : Fln RX11 RX11 TX11 18 1 := ⟨w_302, Or.inl rfl⟩
set_option maxRecDepth 8000 in
theorem w_303 : (Jvm.Cond.fieldLink "NextOneKnows" (254 : Nat) "NextOneKnows" "hasImage" "Z") ∈ TG := tg_1 230 rfl rfl
set_option maxRecDepth 8000 in
theorem fX11_254 : Fln RX11 RX11 TX11 254 2 := ⟨w_303, Or.inl rfl⟩
set_option maxRecDepth 8000 in
theorem w_304 : (Jvm.Cond.fieldLink "NextOneKnows" (26 : Nat) "NextOneKnows" "ahead" "LNextOneKnows$Ahead;") ∈ TG := tg_1 231 rfl rfl
set_option maxRecDepth 8000 in
theorem fX11_26 : Fln RX11 RX11 TX11 26 3 := ⟨w_304, Or.inl rfl⟩
set_option maxRecDepth 8000 in
theorem w_305 : (Jvm.Cond.fieldLink "NextOneKnows" (32 : Nat) "NextOneKnows" "posts" "[LNextOneKnows$Post;") ∈ TG := tg_1 232 rfl rfl
set_option maxRecDepth 8000 in
theorem fX11_32 : Fln RX11 RX11 TX11 32 4 := ⟨w_305, Or.inl rfl⟩
set_option maxRecDepth 8000 in
theorem w_306 : (Jvm.Cond.fieldLink "NextOneKnows" (145 : Nat) "NextOneKnows" "postCount" "I") ∈ TG := tg_1 233 rfl rfl
set_option maxRecDepth 8000 in
theorem fX11_145 : Fln RX11 RX11 TX11 145 5 := ⟨w_306, Or.inl rfl⟩
set_option maxRecDepth 8000 in
theorem w_307 : (Jvm.Cond.fieldLink "NextOneKnows" (36 : Nat) "NextOneKnows" "text" "[B") ∈ TG := tg_1 234 rfl rfl
set_option maxRecDepth 8000 in
theorem fX11_36 : Fln RX11 RX11 TX11 36 6 := ⟨w_307, Or.inl rfl⟩
set_option maxRecDepth 8000 in
theorem w_308 : (Jvm.Cond.fieldLink "NextOneKnows" (142 : Nat) "NextOneKnows" "signs" "I") ∈ TG := tg_1 235 rfl rfl
set_option maxRecDepth 8000 in
theorem fX11_142 : Fln RX11 RX11 TX11 142 7 := ⟨w_308, Or.inl rfl⟩
set_option maxRecDepth 8000 in
theorem w_309 : (Jvm.Cond.fieldLink "NextOneKnows" (43 : Nat) "NextOneKnows" "trace" "LNextOneKnows$Trace;") ∈ TG := tg_1 236 rfl rfl
set_option maxRecDepth 8000 in
theorem fX11_43 : Fln RX11 RX11 TX11 43 8 := ⟨w_309, Or.inl rfl⟩
set_option maxRecDepth 8000 in
theorem w_310 : (Jvm.Cond.fieldLink "NextOneKnows" (47 : Nat) "NextOneKnows" "sorts" "[I") ∈ TG := tg_1 237 rfl rfl
set_option maxRecDepth 8000 in
theorem fX11_47 : Fln RX11 RX11 TX11 47 9 := ⟨w_310, Or.inl rfl⟩
set_option maxRecDepth 8000 in
theorem w_311 : (Jvm.Cond.fieldLink "NextOneKnows" (51 : Nat) "NextOneKnows" "sizes" "[I") ∈ TG := tg_1 238 rfl rfl
set_option maxRecDepth 8000 in
theorem fX11_51 : Fln RX11 RX11 TX11 51 10 := ⟨w_311, Or.inl rfl⟩
set_option maxRecDepth 8000 in
theorem w_312 : (Jvm.Cond.fieldLink "NextOneKnows" (56 : Nat) "NextOneKnows" "items" "[[J") ∈ TG := tg_1 239 rfl rfl
set_option maxRecDepth 8000 in
theorem fX11_56 : Fln RX11 RX11 TX11 56 11 := ⟨w_312, Or.inl rfl⟩
set_option maxRecDepth 8000 in
theorem w_360 : (Jvm.Cond.fieldLink "NextOneKnows$Doing" (9 : Nat) "NextOneKnows$Doing" "i" "I") ∈ TG := tg_2 47 rfl rfl
set_option maxRecDepth 8000 in
theorem fX1_9 : Fln RX1 RX1 TX1 9 0 := ⟨w_360, Or.inl rfl⟩
set_option maxRecDepth 8000 in
theorem w_361 : (Jvm.Cond.fieldLink "NextOneKnows" (132 : Nat) "NextOneKnows$Doing" "i" "I") ∈ TG := tg_2 48 rfl rfl
set_option maxRecDepth 8000 in
theorem fX11_132 : Fln RX11 RX1 TX1 132 0 := ⟨w_361, Or.inl rfl⟩
set_option maxRecDepth 8000 in
theorem w_363 : (Jvm.Cond.sameField "NextOneKnows$Tied" "NextOneKnows$Doing" "i" "I") ∈ TG := tg_2 50 rfl rfl
set_option maxRecDepth 8000 in
theorem w_362 : (Jvm.Cond.fieldLink "NextOneKnows$Tied" (25 : Nat) "NextOneKnows$Tied" "i" "I") ∈ TG := tg_2 49 rfl rfl
set_option maxRecDepth 8000 in
theorem fX6_25 : Fln RX6 RX6 TX6 25 0 := ⟨w_362, Or.inr w_363⟩
set_option maxRecDepth 8000 in
theorem w_364 : (Jvm.Cond.fieldLink "NextOneKnows$Ahead" (93 : Nat) "NextOneKnows$Doing" "i" "I") ∈ TG := tg_2 51 rfl rfl
set_option maxRecDepth 8000 in
theorem fX0_93 : Fln RX0 RX1 TX1 93 0 := ⟨w_364, Or.inl rfl⟩
set_option maxRecDepth 8000 in
theorem w_365 : (Jvm.Cond.fieldLink "NextOneKnows$Post" (101 : Nat) "NextOneKnows$Doing" "i" "I") ∈ TG := tg_2 52 rfl rfl
set_option maxRecDepth 8000 in
theorem fX3_101 : Fln RX3 RX1 TX1 101 0 := ⟨w_365, Or.inl rfl⟩
set_option maxRecDepth 8000 in
theorem w_366 : (Jvm.Cond.fieldLink "NextOneKnows$Doing" (15 : Nat) "NextOneKnows$Doing" "v" "I") ∈ TG := tg_2 53 rfl rfl
set_option maxRecDepth 8000 in
theorem fX1_15 : Fln RX1 RX1 TX1 15 1 := ⟨w_366, Or.inl rfl⟩
set_option maxRecDepth 8000 in
theorem w_368 : (Jvm.Cond.sameField "NextOneKnows$Written" "NextOneKnows$Doing" "v" "I") ∈ TG := tg_2 55 rfl rfl
set_option maxRecDepth 8000 in
theorem w_367 : (Jvm.Cond.fieldLink "NextOneKnows$Written" (13 : Nat) "NextOneKnows$Written" "v" "I") ∈ TG := tg_2 54 rfl rfl
set_option maxRecDepth 8000 in
theorem fX9_13 : Fln RX9 RX9 TX9 13 1 := ⟨w_367, Or.inr w_368⟩
set_option maxRecDepth 8000 in
theorem w_370 : (Jvm.Cond.sameField "NextOneKnows$Wrong" "NextOneKnows$Doing" "v" "I") ∈ TG := tg_2 57 rfl rfl
set_option maxRecDepth 8000 in
theorem w_369 : (Jvm.Cond.fieldLink "NextOneKnows$Wrong" (11 : Nat) "NextOneKnows$Wrong" "v" "I") ∈ TG := tg_2 56 rfl rfl
set_option maxRecDepth 8000 in
theorem fX10_11 : Fln RX10 RX10 TX10 11 1 := ⟨w_369, Or.inr w_370⟩
set_option maxRecDepth 8000 in
theorem w_372 : (Jvm.Cond.sameField "NextOneKnows$Tied" "NextOneKnows$Doing" "v" "I") ∈ TG := tg_2 59 rfl rfl
set_option maxRecDepth 8000 in
theorem w_371 : (Jvm.Cond.fieldLink "NextOneKnows$Tied" (13 : Nat) "NextOneKnows$Tied" "v" "I") ∈ TG := tg_2 58 rfl rfl
set_option maxRecDepth 8000 in
theorem fX6_13 : Fln RX6 RX6 TX6 13 1 := ⟨w_371, Or.inr w_372⟩
set_option maxRecDepth 8000 in
theorem w_374 : (Jvm.Cond.sameField "NextOneKnows$Why" "NextOneKnows$Doing" "v" "I") ∈ TG := tg_2 61 rfl rfl
set_option maxRecDepth 8000 in
theorem w_373 : (Jvm.Cond.fieldLink "NextOneKnows$Why" (13 : Nat) "NextOneKnows$Why" "v" "I") ∈ TG := tg_2 60 rfl rfl
set_option maxRecDepth 8000 in
theorem fX8_13 : Fln RX8 RX8 TX8 13 1 := ⟨w_373, Or.inr w_374⟩
set_option maxRecDepth 8000 in
theorem w_375 : (Jvm.Cond.fieldLink "NextOneKnows" (94 : Nat) "NextOneKnows$Doing" "v" "I") ∈ TG := tg_2 62 rfl rfl
set_option maxRecDepth 8000 in
theorem fX11_94 : Fln RX11 RX1 TX1 94 1 := ⟨w_375, Or.inl rfl⟩
set_option maxRecDepth 8000 in
theorem w_377 : (Jvm.Cond.sameField "NextOneKnows$Plain" "NextOneKnows$Doing" "v" "I") ∈ TG := tg_2 64 rfl rfl
set_option maxRecDepth 8000 in
theorem w_376 : (Jvm.Cond.fieldLink "NextOneKnows$Plain" (9 : Nat) "NextOneKnows$Plain" "v" "I") ∈ TG := tg_2 63 rfl rfl
set_option maxRecDepth 8000 in
theorem fX2_9 : Fln RX2 RX2 TX2 9 1 := ⟨w_376, Or.inr w_377⟩
set_option maxRecDepth 8000 in
theorem w_379 : (Jvm.Cond.sameField "NextOneKnows$Rare" "NextOneKnows$Doing" "v" "I") ∈ TG := tg_2 66 rfl rfl
set_option maxRecDepth 8000 in
theorem w_378 : (Jvm.Cond.fieldLink "NextOneKnows$Rare" (13 : Nat) "NextOneKnows$Rare" "v" "I") ∈ TG := tg_2 65 rfl rfl
set_option maxRecDepth 8000 in
theorem fX4_13 : Fln RX4 RX4 TX4 13 1 := ⟨w_378, Or.inr w_379⟩
set_option maxRecDepth 8000 in
theorem w_380 : (Jvm.Cond.fieldLink "NextOneKnows$Post" (112 : Nat) "NextOneKnows$Doing" "v" "I") ∈ TG := tg_2 67 rfl rfl
set_option maxRecDepth 8000 in
theorem fX3_112 : Fln RX3 RX1 TX1 112 1 := ⟨w_380, Or.inl rfl⟩
set_option maxRecDepth 8000 in
theorem w_381 : (Jvm.Cond.fieldLink "NextOneKnows$Doing" (24 : Nat) "NextOneKnows$Doing" "round" "I") ∈ TG := tg_2 68 rfl rfl
set_option maxRecDepth 8000 in
theorem fX1_24 : Fln RX1 RX1 TX1 24 2 := ⟨w_381, Or.inl rfl⟩
set_option maxRecDepth 8000 in
theorem w_382 : (Jvm.Cond.fieldLink "NextOneKnows" (97 : Nat) "NextOneKnows$Doing" "round" "I") ∈ TG := tg_2 69 rfl rfl
set_option maxRecDepth 8000 in
theorem fX11_97 : Fln RX11 RX1 TX1 97 2 := ⟨w_382, Or.inl rfl⟩
set_option maxRecDepth 8000 in
theorem w_383 : (Jvm.Cond.fieldLink "NextOneKnows$Post" (109 : Nat) "NextOneKnows$Doing" "round" "I") ∈ TG := tg_2 70 rfl rfl
set_option maxRecDepth 8000 in
theorem fX3_109 : Fln RX3 RX1 TX1 109 2 := ⟨w_383, Or.inl rfl⟩
set_option maxRecDepth 8000 in
theorem w_384 : (Jvm.Cond.fieldLink "NextOneKnows$Doing" (27 : Nat) "NextOneKnows$Doing" "place" "I") ∈ TG := tg_2 71 rfl rfl
set_option maxRecDepth 8000 in
theorem fX1_27 : Fln RX1 RX1 TX1 27 3 := ⟨w_384, Or.inl rfl⟩
set_option maxRecDepth 8000 in
theorem w_385 : (Jvm.Cond.fieldLink "NextOneKnows" (100 : Nat) "NextOneKnows$Doing" "place" "I") ∈ TG := tg_2 72 rfl rfl
set_option maxRecDepth 8000 in
theorem fX11_100 : Fln RX11 RX1 TX1 100 3 := ⟨w_385, Or.inl rfl⟩
set_option maxRecDepth 8000 in
theorem w_386 : (Jvm.Cond.fieldLink "NextOneKnows$Doing" (30 : Nat) "NextOneKnows$Doing" "cost" "I") ∈ TG := tg_2 73 rfl rfl
set_option maxRecDepth 8000 in
theorem fX1_30 : Fln RX1 RX1 TX1 30 4 := ⟨w_386, Or.inl rfl⟩
set_option maxRecDepth 8000 in
theorem w_387 : (Jvm.Cond.fieldLink "NextOneKnows" (103 : Nat) "NextOneKnows$Doing" "cost" "I") ∈ TG := tg_2 74 rfl rfl
set_option maxRecDepth 8000 in
theorem fX11_103 : Fln RX11 RX1 TX1 103 4 := ⟨w_387, Or.inl rfl⟩
set_option maxRecDepth 8000 in
theorem w_388 : (Jvm.Cond.fieldLink "NextOneKnows$State" (80 : Nat) "NextOneKnows$Doing" "cost" "I") ∈ TG := tg_2 75 rfl rfl
set_option maxRecDepth 8000 in
theorem fX5_80 : Fln RX5 RX1 TX1 80 4 := ⟨w_388, Or.inl rfl⟩
set_option maxRecDepth 8000 in
theorem w_389 : (Jvm.Cond.fieldLink "NextOneKnows$Post" (115 : Nat) "NextOneKnows$Doing" "cost" "I") ∈ TG := tg_2 76 rfl rfl
set_option maxRecDepth 8000 in
theorem fX3_115 : Fln RX3 RX1 TX1 115 4 := ⟨w_389, Or.inl rfl⟩
set_option maxRecDepth 8000 in
theorem w_390 : (Jvm.Cond.fieldLink "NextOneKnows$Doing" (33 : Nat) "NextOneKnows$Doing" "need" "I") ∈ TG := tg_2 77 rfl rfl
set_option maxRecDepth 8000 in
theorem fX1_33 : Fln RX1 RX1 TX1 33 5 := ⟨w_390, Or.inl rfl⟩
set_option maxRecDepth 8000 in
theorem w_391 : (Jvm.Cond.fieldLink "NextOneKnows" (106 : Nat) "NextOneKnows$Doing" "need" "I") ∈ TG := tg_2 78 rfl rfl
set_option maxRecDepth 8000 in
theorem fX11_106 : Fln RX11 RX1 TX1 106 5 := ⟨w_391, Or.inl rfl⟩
set_option maxRecDepth 8000 in
theorem w_392 : (Jvm.Cond.fieldLink "NextOneKnows$Ahead" (108 : Nat) "NextOneKnows$Doing" "need" "I") ∈ TG := tg_2 79 rfl rfl
set_option maxRecDepth 8000 in
theorem fX0_108 : Fln RX0 RX1 TX1 108 5 := ⟨w_392, Or.inl rfl⟩
set_option maxRecDepth 8000 in
theorem w_1024 : (Jvm.Cond.fieldLink "NextOneKnowsModel" (7 : Nat) "NextOneKnowsModel" "doings" "I") ∈ TG := tg_4 231 rfl rfl
set_option maxRecDepth 8000 in
theorem fX12_7 : Fln RX12 RX12 TX12 7 0 := ⟨w_1024, Or.inl rfl⟩
set_option maxRecDepth 8000 in
theorem w_1025 : (Jvm.Cond.fieldLink "NextOneKnowsModel" (13 : Nat) "NextOneKnowsModel" "week" "I") ∈ TG := tg_4 232 rfl rfl
set_option maxRecDepth 8000 in
theorem fX12_13 : Fln RX12 RX12 TX12 13 1 := ⟨w_1025, Or.inl rfl⟩
set_option maxRecDepth 8000 in
theorem w_1026 : (Jvm.Cond.fieldLink "NextOneKnowsModel" (16 : Nat) "NextOneKnowsModel" "costs" "I") ∈ TG := tg_4 233 rfl rfl
set_option maxRecDepth 8000 in
theorem fX12_16 : Fln RX12 RX12 TX12 16 2 := ⟨w_1026, Or.inl rfl⟩
set_option maxRecDepth 8000 in
theorem w_1027 : (Jvm.Cond.fieldLink "NextOneKnowsModel" (19 : Nat) "NextOneKnowsModel" "stops" "I") ∈ TG := tg_4 234 rfl rfl
set_option maxRecDepth 8000 in
theorem fX12_19 : Fln RX12 RX12 TX12 19 3 := ⟨w_1027, Or.inl rfl⟩
set_option maxRecDepth 8000 in
theorem w_1028 : (Jvm.Cond.fieldLink "NextOneKnowsModel" (22 : Nat) "NextOneKnowsModel" "calls" "I") ∈ TG := tg_4 235 rfl rfl
set_option maxRecDepth 8000 in
theorem fX12_22 : Fln RX12 RX12 TX12 22 4 := ⟨w_1028, Or.inl rfl⟩
set_option maxRecDepth 8000 in
theorem w_1029 : (Jvm.Cond.fieldLink "NextOneKnowsModel" (25 : Nat) "NextOneKnowsModel" "knows" "I") ∈ TG := tg_4 236 rfl rfl
set_option maxRecDepth 8000 in
theorem fX12_25 : Fln RX12 RX12 TX12 25 5 := ⟨w_1029, Or.inl rfl⟩
set_option maxRecDepth 8000 in
theorem w_1030 : (Jvm.Cond.fieldLink "NextOneKnowsModel" (28 : Nat) "NextOneKnowsModel" "idle" "I") ∈ TG := tg_4 237 rfl rfl
set_option maxRecDepth 8000 in
theorem fX12_28 : Fln RX12 RX12 TX12 28 6 := ⟨w_1030, Or.inl rfl⟩
set_option maxRecDepth 8000 in
theorem w_1031 : (Jvm.Cond.fieldLink "NextOneKnowsModel" (31 : Nat) "NextOneKnowsModel" "kind" "[I") ∈ TG := tg_4 238 rfl rfl
set_option maxRecDepth 8000 in
theorem fX12_31 : Fln RX12 RX12 TX12 31 7 := ⟨w_1031, Or.inl rfl⟩
set_option maxRecDepth 8000 in
theorem w_1032 : (Jvm.Cond.fieldLink "NextOneKnowsModel" (35 : Nat) "NextOneKnowsModel" "v" "[I") ∈ TG := tg_4 239 rfl rfl
set_option maxRecDepth 8000 in
theorem fX12_35 : Fln RX12 RX12 TX12 35 8 := ⟨w_1032, Or.inl rfl⟩
set_option maxRecDepth 8000 in
theorem w_1033 : (Jvm.Cond.fieldLink "NextOneKnowsModel" (38 : Nat) "NextOneKnowsModel" "round" "[I") ∈ TG := tg_5 0 rfl rfl
set_option maxRecDepth 8000 in
theorem fX12_38 : Fln RX12 RX12 TX12 38 9 := ⟨w_1033, Or.inl rfl⟩
set_option maxRecDepth 8000 in
theorem w_1034 : (Jvm.Cond.fieldLink "NextOneKnowsModel" (41 : Nat) "NextOneKnowsModel" "place" "[I") ∈ TG := tg_5 1 rfl rfl
set_option maxRecDepth 8000 in
theorem fX12_41 : Fln RX12 RX12 TX12 41 10 := ⟨w_1034, Or.inl rfl⟩
set_option maxRecDepth 8000 in
theorem w_1035 : (Jvm.Cond.fieldLink "NextOneKnowsModel" (44 : Nat) "NextOneKnowsModel" "cost" "[I") ∈ TG := tg_5 2 rfl rfl
set_option maxRecDepth 8000 in
theorem fX12_44 : Fln RX12 RX12 TX12 44 11 := ⟨w_1035, Or.inl rfl⟩
set_option maxRecDepth 8000 in
theorem w_1036 : (Jvm.Cond.fieldLink "NextOneKnowsModel" (47 : Nat) "NextOneKnowsModel" "need" "[I") ∈ TG := tg_5 3 rfl rfl
set_option maxRecDepth 8000 in
theorem fX12_47 : Fln RX12 RX12 TX12 47 12 := ⟨w_1036, Or.inl rfl⟩
set_option maxRecDepth 8000 in
theorem w_1037 : (Jvm.Cond.fieldLink "NextOneKnowsModel" (50 : Nat) "NextOneKnowsModel" "odd" "[I") ∈ TG := tg_5 4 rfl rfl
set_option maxRecDepth 8000 in
theorem fX12_50 : Fln RX12 RX12 TX12 50 13 := ⟨w_1037, Or.inl rfl⟩
set_option maxRecDepth 8000 in
theorem w_1038 : (Jvm.Cond.fieldLink "NextOneKnowsModel" (53 : Nat) "NextOneKnowsModel" "hour" "[I") ∈ TG := tg_5 5 rfl rfl
set_option maxRecDepth 8000 in
theorem fX12_53 : Fln RX12 RX12 TX12 53 14 := ⟨w_1038, Or.inl rfl⟩
set_option maxRecDepth 8000 in
theorem w_1039 : (Jvm.Cond.fieldLink "NextOneKnowsModel" (56 : Nat) "NextOneKnowsModel" "posts" "I") ∈ TG := tg_5 6 rfl rfl
set_option maxRecDepth 8000 in
theorem fX12_56 : Fln RX12 RX12 TX12 56 15 := ⟨w_1039, Or.inl rfl⟩
set_option maxRecDepth 8000 in
theorem w_1040 : (Jvm.Cond.fieldLink "NextOneKnowsModel" (59 : Nat) "NextOneKnowsModel" "the" "I") ∈ TG := tg_5 7 rfl rfl
set_option maxRecDepth 8000 in
theorem fX12_59 : Fln RX12 RX12 TX12 59 16 := ⟨w_1040, Or.inl rfl⟩
set_option maxRecDepth 8000 in
theorem w_1041 : (Jvm.Cond.fieldLink "NextOneKnowsModel" (62 : Nat) "NextOneKnowsModel" "fed" "I") ∈ TG := tg_5 8 rfl rfl
set_option maxRecDepth 8000 in
theorem fX12_62 : Fln RX12 RX12 TX12 62 17 := ⟨w_1041, Or.inl rfl⟩
set_option maxRecDepth 8000 in
theorem w_1042 : (Jvm.Cond.fieldLink "NextOneKnowsModel" (65 : Nat) "NextOneKnowsModel" "at" "I") ∈ TG := tg_5 9 rfl rfl
set_option maxRecDepth 8000 in
theorem fX12_65 : Fln RX12 RX12 TX12 65 18 := ⟨w_1042, Or.inl rfl⟩
set_option maxRecDepth 8000 in
theorem w_1043 : (Jvm.Cond.fieldLink "NextOneKnowsModel" (68 : Nat) "NextOneKnowsModel" "digits" "I") ∈ TG := tg_5 10 rfl rfl
set_option maxRecDepth 8000 in
theorem fX12_68 : Fln RX12 RX12 TX12 68 19 := ⟨w_1043, Or.inl rfl⟩
set_option maxRecDepth 8000 in
theorem w_1044 : (Jvm.Cond.fieldLink "NextOneKnowsModel" (71 : Nat) "NextOneKnowsModel" "text" "[I") ∈ TG := tg_5 11 rfl rfl
set_option maxRecDepth 8000 in
theorem fX12_71 : Fln RX12 RX12 TX12 71 20 := ⟨w_1044, Or.inl rfl⟩
set_option maxRecDepth 8000 in
theorem w_1045 : (Jvm.Cond.fieldLink "NextOneKnowsModel" (74 : Nat) "NextOneKnowsModel" "clauses" "[I") ∈ TG := tg_5 12 rfl rfl
set_option maxRecDepth 8000 in
theorem fX12_74 : Fln RX12 RX12 TX12 74 21 := ⟨w_1045, Or.inl rfl⟩
set_option maxRecDepth 8000 in
theorem w_1046 : (Jvm.Cond.fieldLink "NextOneKnowsModel" (77 : Nat) "NextOneKnowsModel" "word" "[I") ∈ TG := tg_5 13 rfl rfl
set_option maxRecDepth 8000 in
theorem fX12_77 : Fln RX12 RX12 TX12 77 22 := ⟨w_1046, Or.inl rfl⟩
set_option maxRecDepth 8000 in
theorem w_1047 : (Jvm.Cond.fieldLink "NextOneKnowsModel" (80 : Nat) "NextOneKnowsModel" "number" "[I") ∈ TG := tg_5 14 rfl rfl
set_option maxRecDepth 8000 in
theorem fX12_80 : Fln RX12 RX12 TX12 80 23 := ⟨w_1047, Or.inl rfl⟩
set_option maxRecDepth 8000 in
theorem w_1048 : (Jvm.Cond.fieldLink "NextOneKnowsModel" (83 : Nat) "NextOneKnowsModel" "from" "[I") ∈ TG := tg_5 15 rfl rfl
set_option maxRecDepth 8000 in
theorem fX12_83 : Fln RX12 RX12 TX12 83 24 := ⟨w_1048, Or.inl rfl⟩
set_option maxRecDepth 8000 in
theorem w_1049 : (Jvm.Cond.fieldLink "NextOneKnowsModel" (86 : Nat) "NextOneKnowsModel" "to" "[I") ∈ TG := tg_5 16 rfl rfl
set_option maxRecDepth 8000 in
theorem fX12_86 : Fln RX12 RX12 TX12 86 25 := ⟨w_1049, Or.inl rfl⟩
set_option maxRecDepth 8000 in
theorem w_1050 : (Jvm.Cond.fieldLink "NextOneKnowsModel" (89 : Nat) "NextOneKnowsModel" "sign" "[I") ∈ TG := tg_5 17 rfl rfl
set_option maxRecDepth 8000 in
theorem fX12_89 : Fln RX12 RX12 TX12 89 26 := ⟨w_1050, Or.inl rfl⟩
set_option maxRecDepth 8000 in
theorem w_1051 : (Jvm.Cond.fieldLink "NextOneKnowsModel" (92 : Nat) "NextOneKnowsModel" "waits" "[I") ∈ TG := tg_5 18 rfl rfl
set_option maxRecDepth 8000 in
theorem fX12_92 : Fln RX12 RX12 TX12 92 27 := ⟨w_1051, Or.inl rfl⟩
set_option maxRecDepth 8000 in
theorem w_1052 : (Jvm.Cond.fieldLink "NextOneKnowsModel" (95 : Nat) "NextOneKnowsModel" "signs" "I") ∈ TG := tg_5 19 rfl rfl
set_option maxRecDepth 8000 in
theorem fX12_95 : Fln RX12 RX12 TX12 95 28 := ⟨w_1052, Or.inl rfl⟩
set_option maxRecDepth 8000 in
theorem w_1053 : (Jvm.Cond.fieldLink "NextOneKnowsModel" (98 : Nat) "NextOneKnowsModel" "waiting" "I") ∈ TG := tg_5 20 rfl rfl
set_option maxRecDepth 8000 in
theorem fX12_98 : Fln RX12 RX12 TX12 98 29 := ⟨w_1053, Or.inl rfl⟩
set_option maxRecDepth 8000 in
theorem w_1054 : (Jvm.Cond.fieldLink "NextOneKnowsModel" (101 : Nat) "NextOneKnowsModel" "open" "I") ∈ TG := tg_5 21 rfl rfl
set_option maxRecDepth 8000 in
theorem fX12_101 : Fln RX12 RX12 TX12 101 30 := ⟨w_1054, Or.inl rfl⟩
set_option maxRecDepth 8000 in
theorem w_1055 : (Jvm.Cond.fieldLink "NextOneKnowsModel" (104 : Nat) "NextOneKnowsModel" "letters" "[I") ∈ TG := tg_5 22 rfl rfl
set_option maxRecDepth 8000 in
theorem fX12_104 : Fln RX12 RX12 TX12 104 31 := ⟨w_1055, Or.inl rfl⟩
set_option maxRecDepth 8000 in
theorem w_1056 : (Jvm.Cond.fieldLink "NextOneKnowsModel" (107 : Nat) "NextOneKnowsModel" "pile" "[Z") ∈ TG := tg_5 23 rfl rfl
set_option maxRecDepth 8000 in
theorem fX12_107 : Fln RX12 RX12 TX12 107 32 := ⟨w_1056, Or.inl rfl⟩
set_option maxRecDepth 8000 in
theorem w_1057 : (Jvm.Cond.fieldLink "NextOneKnowsModel" (111 : Nat) "NextOneKnowsModel" "sayOf" "[I") ∈ TG := tg_5 24 rfl rfl
set_option maxRecDepth 8000 in
theorem fX12_111 : Fln RX12 RX12 TX12 111 33 := ⟨w_1057, Or.inl rfl⟩
set_option maxRecDepth 8000 in
theorem w_1058 : (Jvm.Cond.fieldLink "NextOneKnowsModel" (114 : Nat) "NextOneKnowsModel" "thenKnows" "I") ∈ TG := tg_5 25 rfl rfl
set_option maxRecDepth 8000 in
theorem fX12_114 : Fln RX12 RX12 TX12 114 34 := ⟨w_1058, Or.inl rfl⟩
set_option maxRecDepth 8000 in
theorem w_1059 : (Jvm.Cond.fieldLink "NextOneKnowsModel" (117 : Nat) "NextOneKnowsModel" "thenIdle" "I") ∈ TG := tg_5 26 rfl rfl
set_option maxRecDepth 8000 in
theorem fX12_117 : Fln RX12 RX12 TX12 117 35 := ⟨w_1059, Or.inl rfl⟩
set_option maxRecDepth 8000 in
theorem w_1060 : (Jvm.Cond.fieldLink "NextOneKnowsModel" (120 : Nat) "NextOneKnowsModel" "thenCosts" "I") ∈ TG := tg_5 27 rfl rfl
set_option maxRecDepth 8000 in
theorem fX12_120 : Fln RX12 RX12 TX12 120 36 := ⟨w_1060, Or.inl rfl⟩
set_option maxRecDepth 8000 in
theorem w_1061 : (Jvm.Cond.fieldLink "NextOneKnowsModel" (123 : Nat) "NextOneKnowsModel" "thenStops" "I") ∈ TG := tg_5 28 rfl rfl
set_option maxRecDepth 8000 in
theorem fX12_123 : Fln RX12 RX12 TX12 123 37 := ⟨w_1061, Or.inl rfl⟩
set_option maxRecDepth 8000 in
theorem w_1062 : (Jvm.Cond.fieldLink "NextOneKnowsModel" (126 : Nat) "NextOneKnowsModel" "thenCalls" "I") ∈ TG := tg_5 29 rfl rfl
set_option maxRecDepth 8000 in
theorem fX12_126 : Fln RX12 RX12 TX12 126 38 := ⟨w_1062, Or.inl rfl⟩
set_option maxRecDepth 8000 in
theorem w_1063 : (Jvm.Cond.fieldLink "NextOneKnowsModel" (129 : Nat) "NextOneKnowsModel" "firstWeek" "I") ∈ TG := tg_5 30 rfl rfl
set_option maxRecDepth 8000 in
theorem fX12_129 : Fln RX12 RX12 TX12 129 39 := ⟨w_1063, Or.inl rfl⟩
set_option maxRecDepth 8000 in
theorem w_1064 : (Jvm.Cond.fieldLink "NextOneKnowsModel" (132 : Nat) "NextOneKnowsModel" "firstDoing" "I") ∈ TG := tg_5 31 rfl rfl
set_option maxRecDepth 8000 in
theorem fX12_132 : Fln RX12 RX12 TX12 132 40 := ⟨w_1064, Or.inl rfl⟩
set_option maxRecDepth 8000 in
theorem w_1065 : (Jvm.Cond.fieldLink "NextOneKnowsModel" (135 : Nat) "NextOneKnowsModel" "stopped" "[Z") ∈ TG := tg_5 32 rfl rfl
set_option maxRecDepth 8000 in
theorem fX12_135 : Fln RX12 RX12 TX12 135 41 := ⟨w_1065, Or.inl rfl⟩
set_option maxRecDepth 8000 in
theorem w_1066 : (Jvm.Cond.fieldLink "NextOneKnowsModel" (138 : Nat) "NextOneKnowsModel" "hourWas" "[I") ∈ TG := tg_5 33 rfl rfl
set_option maxRecDepth 8000 in
theorem fX12_138 : Fln RX12 RX12 TX12 138 42 := ⟨w_1066, Or.inl rfl⟩
set_option maxRecDepth 8000 in
theorem w_1067 : (Jvm.Cond.fieldLink "NextOneKnowsModel" (141 : Nat) "NextOneKnowsModel" "bestHour" "[I") ∈ TG := tg_5 34 rfl rfl
set_option maxRecDepth 8000 in
theorem fX12_141 : Fln RX12 RX12 TX12 141 43 := ⟨w_1067, Or.inl rfl⟩
set_option maxRecDepth 8000 in
theorem w_1068 : (Jvm.Cond.fieldLink "NextOneKnowsModel" (144 : Nat) "NextOneKnowsModel" "rows" "I") ∈ TG := tg_5 35 rfl rfl
set_option maxRecDepth 8000 in
theorem fX12_144 : Fln RX12 RX12 TX12 144 44 := ⟨w_1068, Or.inl rfl⟩
set_option maxRecDepth 8000 in
theorem w_1069 : (Jvm.Cond.fieldLink "NextOneKnowsModel" (147 : Nat) "NextOneKnowsModel" "rowWeek" "[I") ∈ TG := tg_5 36 rfl rfl
set_option maxRecDepth 8000 in
theorem fX12_147 : Fln RX12 RX12 TX12 147 45 := ⟨w_1069, Or.inl rfl⟩
set_option maxRecDepth 8000 in
theorem w_1070 : (Jvm.Cond.fieldLink "NextOneKnowsModel" (150 : Nat) "NextOneKnowsModel" "rowDoing" "[I") ∈ TG := tg_5 37 rfl rfl
set_option maxRecDepth 8000 in
theorem fX12_150 : Fln RX12 RX12 TX12 150 46 := ⟨w_1070, Or.inl rfl⟩
set_option maxRecDepth 8000 in
theorem w_1071 : (Jvm.Cond.fieldLink "NextOneKnowsModel" (153 : Nat) "NextOneKnowsModel" "hasImage" "Z") ∈ TG := tg_5 38 rfl rfl
set_option maxRecDepth 8000 in
theorem fX12_153 : Fln RX12 RX12 TX12 153 47 := ⟨w_1071, Or.inl rfl⟩
set_option maxRecDepth 8000 in
theorem w_1072 : (Jvm.Cond.fieldLink "NextOneKnowsModel" (157 : Nat) "NextOneKnowsModel" "imageThe" "I") ∈ TG := tg_5 39 rfl rfl
set_option maxRecDepth 8000 in
theorem fX12_157 : Fln RX12 RX12 TX12 157 48 := ⟨w_1072, Or.inl rfl⟩
set_option maxRecDepth 8000 in
theorem w_1073 : (Jvm.Cond.fieldLink "NextOneKnowsModel" (160 : Nat) "NextOneKnowsModel" "imageDoings" "I") ∈ TG := tg_5 40 rfl rfl
set_option maxRecDepth 8000 in
theorem fX12_160 : Fln RX12 RX12 TX12 160 49 := ⟨w_1073, Or.inl rfl⟩
set_option maxRecDepth 8000 in
theorem w_1074 : (Jvm.Cond.fieldLink "NextOneKnowsModel" (163 : Nat) "NextOneKnowsModel" "imageWeek" "I") ∈ TG := tg_5 41 rfl rfl
set_option maxRecDepth 8000 in
theorem fX12_163 : Fln RX12 RX12 TX12 163 50 := ⟨w_1074, Or.inl rfl⟩
set_option maxRecDepth 8000 in
theorem w_1075 : (Jvm.Cond.fieldLink "NextOneKnowsModel" (166 : Nat) "NextOneKnowsModel" "imageCosts" "I") ∈ TG := tg_5 42 rfl rfl
set_option maxRecDepth 8000 in
theorem fX12_166 : Fln RX12 RX12 TX12 166 51 := ⟨w_1075, Or.inl rfl⟩
set_option maxRecDepth 8000 in
theorem w_1076 : (Jvm.Cond.fieldLink "NextOneKnowsModel" (169 : Nat) "NextOneKnowsModel" "imageStops" "I") ∈ TG := tg_5 43 rfl rfl
set_option maxRecDepth 8000 in
theorem fX12_169 : Fln RX12 RX12 TX12 169 52 := ⟨w_1076, Or.inl rfl⟩
set_option maxRecDepth 8000 in
theorem w_1077 : (Jvm.Cond.fieldLink "NextOneKnowsModel" (172 : Nat) "NextOneKnowsModel" "imageCalls" "I") ∈ TG := tg_5 44 rfl rfl
set_option maxRecDepth 8000 in
theorem fX12_172 : Fln RX12 RX12 TX12 172 53 := ⟨w_1077, Or.inl rfl⟩
set_option maxRecDepth 8000 in
theorem w_1078 : (Jvm.Cond.fieldLink "NextOneKnowsModel" (175 : Nat) "NextOneKnowsModel" "imageKnows" "I") ∈ TG := tg_5 45 rfl rfl
set_option maxRecDepth 8000 in
theorem fX12_175 : Fln RX12 RX12 TX12 175 54 := ⟨w_1078, Or.inl rfl⟩
set_option maxRecDepth 8000 in
theorem w_1079 : (Jvm.Cond.fieldLink "NextOneKnowsModel" (178 : Nat) "NextOneKnowsModel" "imageIdle" "I") ∈ TG := tg_5 46 rfl rfl
set_option maxRecDepth 8000 in
theorem fX12_178 : Fln RX12 RX12 TX12 178 55 := ⟨w_1079, Or.inl rfl⟩
set_option maxRecDepth 8000 in
theorem w_1080 : (Jvm.Cond.fieldLink "NextOneKnowsModel" (181 : Nat) "NextOneKnowsModel" "imageRows" "I") ∈ TG := tg_5 47 rfl rfl
set_option maxRecDepth 8000 in
theorem fX12_181 : Fln RX12 RX12 TX12 181 56 := ⟨w_1080, Or.inl rfl⟩
set_option maxRecDepth 8000 in
theorem w_1081 : (Jvm.Cond.fieldLink "NextOneKnowsModel" (184 : Nat) "NextOneKnowsModel" "imageKind" "[I") ∈ TG := tg_5 48 rfl rfl
set_option maxRecDepth 8000 in
theorem fX12_184 : Fln RX12 RX12 TX12 184 57 := ⟨w_1081, Or.inl rfl⟩
set_option maxRecDepth 8000 in
theorem w_1082 : (Jvm.Cond.fieldLink "NextOneKnowsModel" (187 : Nat) "NextOneKnowsModel" "imageV" "[I") ∈ TG := tg_5 49 rfl rfl
set_option maxRecDepth 8000 in
theorem fX12_187 : Fln RX12 RX12 TX12 187 58 := ⟨w_1082, Or.inl rfl⟩
set_option maxRecDepth 8000 in
theorem w_1083 : (Jvm.Cond.fieldLink "NextOneKnowsModel" (190 : Nat) "NextOneKnowsModel" "imageRound" "[I") ∈ TG := tg_5 50 rfl rfl
set_option maxRecDepth 8000 in
theorem fX12_190 : Fln RX12 RX12 TX12 190 59 := ⟨w_1083, Or.inl rfl⟩
set_option maxRecDepth 8000 in
theorem w_1084 : (Jvm.Cond.fieldLink "NextOneKnowsModel" (193 : Nat) "NextOneKnowsModel" "imagePlace" "[I") ∈ TG := tg_5 51 rfl rfl
set_option maxRecDepth 8000 in
theorem fX12_193 : Fln RX12 RX12 TX12 193 60 := ⟨w_1084, Or.inl rfl⟩
set_option maxRecDepth 8000 in
theorem w_1085 : (Jvm.Cond.fieldLink "NextOneKnowsModel" (196 : Nat) "NextOneKnowsModel" "imageCost" "[I") ∈ TG := tg_5 52 rfl rfl
set_option maxRecDepth 8000 in
theorem fX12_196 : Fln RX12 RX12 TX12 196 61 := ⟨w_1085, Or.inl rfl⟩
set_option maxRecDepth 8000 in
theorem w_1086 : (Jvm.Cond.fieldLink "NextOneKnowsModel" (199 : Nat) "NextOneKnowsModel" "imageNeed" "[I") ∈ TG := tg_5 53 rfl rfl
set_option maxRecDepth 8000 in
theorem fX12_199 : Fln RX12 RX12 TX12 199 62 := ⟨w_1086, Or.inl rfl⟩
set_option maxRecDepth 8000 in
theorem w_1087 : (Jvm.Cond.fieldLink "NextOneKnowsModel" (202 : Nat) "NextOneKnowsModel" "imageOdd" "[I") ∈ TG := tg_5 54 rfl rfl
set_option maxRecDepth 8000 in
theorem fX12_202 : Fln RX12 RX12 TX12 202 63 := ⟨w_1087, Or.inl rfl⟩
set_option maxRecDepth 8000 in
theorem w_1088 : (Jvm.Cond.fieldLink "NextOneKnowsModel" (205 : Nat) "NextOneKnowsModel" "imageHour" "[I") ∈ TG := tg_5 55 rfl rfl
set_option maxRecDepth 8000 in
theorem fX12_205 : Fln RX12 RX12 TX12 205 64 := ⟨w_1088, Or.inl rfl⟩
set_option maxRecDepth 8000 in
theorem w_1089 : (Jvm.Cond.fieldLink "NextOneKnowsModel" (208 : Nat) "NextOneKnowsModel" "imageRowWeek" "[I") ∈ TG := tg_5 56 rfl rfl
set_option maxRecDepth 8000 in
theorem fX12_208 : Fln RX12 RX12 TX12 208 65 := ⟨w_1089, Or.inl rfl⟩
set_option maxRecDepth 8000 in
theorem w_1090 : (Jvm.Cond.fieldLink "NextOneKnowsModel" (211 : Nat) "NextOneKnowsModel" "imageRowDoing" "[I") ∈ TG := tg_5 57 rfl rfl
set_option maxRecDepth 8000 in
theorem fX12_211 : Fln RX12 RX12 TX12 211 66 := ⟨w_1090, Or.inl rfl⟩
set_option maxRecDepth 8000 in
theorem w_1091 : (Jvm.Cond.fieldLink "NextOneKnowsModel" (214 : Nat) "NextOneKnowsModel" "ran" "I") ∈ TG := tg_5 58 rfl rfl
set_option maxRecDepth 8000 in
theorem fX12_214 : Fln RX12 RX12 TX12 214 67 := ⟨w_1091, Or.inl rfl⟩
set_option maxRecDepth 8000 in
theorem w_1092 : (Jvm.Cond.fieldLink "NextOneKnowsModel" (217 : Nat) "NextOneKnowsModel" "bodies" "[I") ∈ TG := tg_5 59 rfl rfl
set_option maxRecDepth 8000 in
theorem fX12_217 : Fln RX12 RX12 TX12 217 68 := ⟨w_1092, Or.inl rfl⟩
set_option maxRecDepth 8000 in
theorem w_1093 : (Jvm.Cond.fieldLink "NextOneKnowsModel" (220 : Nat) "NextOneKnowsModel" "sort" "[I") ∈ TG := tg_5 60 rfl rfl
set_option maxRecDepth 8000 in
theorem fX12_220 : Fln RX12 RX12 TX12 220 69 := ⟨w_1093, Or.inl rfl⟩
set_option maxRecDepth 8000 in
theorem w_1094 : (Jvm.Cond.fieldLink "NextOneKnowsModel" (223 : Nat) "NextOneKnowsModel" "length" "[I") ∈ TG := tg_5 61 rfl rfl
set_option maxRecDepth 8000 in
theorem fX12_223 : Fln RX12 RX12 TX12 223 70 := ⟨w_1094, Or.inl rfl⟩
set_option maxRecDepth 8000 in
theorem w_1095 : (Jvm.Cond.fieldLink "NextOneKnowsModel" (226 : Nat) "NextOneKnowsModel" "item" "[J") ∈ TG := tg_5 62 rfl rfl
set_option maxRecDepth 8000 in
theorem fX12_226 : Fln RX12 RX12 TX12 226 71 := ⟨w_1095, Or.inl rfl⟩
set_option maxRecDepth 8000 in
theorem w_1096 : (Jvm.Cond.fieldLink "NextOneKnowsModel" (230 : Nat) "NextOneKnowsModel" "aside" "[J") ∈ TG := tg_5 63 rfl rfl
set_option maxRecDepth 8000 in
theorem fX12_230 : Fln RX12 RX12 TX12 230 72 := ⟨w_1096, Or.inl rfl⟩
set_option maxRecDepth 8000 in
theorem w_95 : (Jvm.Cond.code ({ cls := "NextOneKnows", name := "<init>", desc := "()V" } : Jvm.MethodName) prog_1_method_1_code (2 : Nat) (Option.none : Option Jvm.ClassFile.FieldType)) ∈ TG := tg_1 22 rfl rfl
set_option maxRecDepth 8000 in
theorem kX11_init : Cond.code mX11_init.1 mX11_init.2.1 mX11_init.2.2.1 mX11_init.2.2.2 ∈ TG := w_95
set_option maxRecDepth 8000 in
theorem w_103 : (Jvm.Cond.code ({ cls := "NextOneKnows$State", name := "<init>", desc := "()V" } : Jvm.MethodName) prog_7_method_1_code (1 : Nat) (Option.none : Option Jvm.ClassFile.FieldType)) ∈ TG := tg_1 30 rfl rfl
set_option maxRecDepth 8000 in
theorem kX5_init : Cond.code mX5_init.1 mX5_init.2.1 mX5_init.2.2.1 mX5_init.2.2.2 ∈ TG := w_103
set_option maxRecDepth 8000 in
theorem w_174 : (Jvm.Cond.code ({ cls := "NextOneKnows$Ahead", name := "<init>", desc := "(LNextOneKnows$State;)V" } : Jvm.MethodName) prog_2_method_1_code (2 : Nat) (Option.none : Option Jvm.ClassFile.FieldType)) ∈ TG := tg_1 101 rfl rfl
set_option maxRecDepth 8000 in
theorem kX0_init : Cond.code mX0_init.1 mX0_init.2.1 mX0_init.2.2.1 mX0_init.2.2.2 ∈ TG := w_174
set_option maxRecDepth 8000 in
theorem w_239 : (Jvm.Cond.code ({ cls := "NextOneKnows$Trace", name := "<init>", desc := "()V" } : Jvm.MethodName) prog_9_method_1_code (1 : Nat) (Option.none : Option Jvm.ClassFile.FieldType)) ∈ TG := tg_1 166 rfl rfl
set_option maxRecDepth 8000 in
theorem kX7_init : Cond.code mX7_init.1 mX7_init.2.1 mX7_init.2.2.1 mX7_init.2.2.2 ∈ TG := w_239
set_option maxRecDepth 8000 in
theorem w_255 : (Jvm.Cond.code ({ cls := "java/util/Arrays", name := "fill", desc := "([II)V" } : Jvm.MethodName) prog_18_method_103_code (4 : Nat) (Option.none : Option Jvm.ClassFile.FieldType)) ∈ TG := tg_1 182 rfl rfl
set_option maxRecDepth 8000 in
theorem kJ7_fill_53178 : Cond.code mJ7_fill_53178.1 mJ7_fill_53178.2.1 mJ7_fill_53178.2.2.1 mJ7_fill_53178.2.2.2 ∈ TG := w_255
set_option maxRecDepth 8000 in
theorem w_259 : (Jvm.Cond.code ({ cls := "NextOneKnows$Post", name := "<init>", desc := "([B)V" } : Jvm.MethodName) prog_5_method_1_code (2 : Nat) (Option.none : Option Jvm.ClassFile.FieldType)) ∈ TG := tg_1 186 rfl rfl
set_option maxRecDepth 8000 in
theorem kX3_init : Cond.code mX3_init.1 mX3_init.2.1 mX3_init.2.2.1 mX3_init.2.2.2 ∈ TG := w_259
set_option maxRecDepth 8000 in
theorem w_341 : (Jvm.Cond.code ({ cls := "NextOneKnows", name := "doing", desc := "(IIIIII)I" } : Jvm.MethodName) prog_1_method_2_code (7 : Nat) (Option.some Jvm.ClassFile.FieldType.int)) ∈ TG := tg_2 28 rfl rfl
set_option maxRecDepth 8000 in
theorem kX11_doing : Cond.code mX11_doing.1 mX11_doing.2.1 mX11_doing.2.2.1 mX11_doing.2.2.2 ∈ TG := w_341
set_option maxRecDepth 8000 in
theorem w_344 : (Jvm.Cond.code ({ cls := "NextOneKnows", name := "isNot", desc := "(III)Z" } : Jvm.MethodName) prog_1_method_37_code (3 : Nat) (Option.some Jvm.ClassFile.FieldType.boolean)) ∈ TG := tg_2 31 rfl rfl
set_option maxRecDepth 8000 in
theorem kX11_isNot : Cond.code mX11_isNot.1 mX11_isNot.2.1 mX11_isNot.2.2.1 mX11_isNot.2.2.2 ∈ TG := w_344
set_option maxRecDepth 8000 in
theorem w_347 : (Jvm.Cond.code ({ cls := "NextOneKnows", name := "made", desc := "(IIIIIII)LNextOneKnows$Doing;" } : Jvm.MethodName) prog_1_method_42_code (7 : Nat) (Option.some (Jvm.ClassFile.FieldType.object "NextOneKnows$Doing"))) ∈ TG := tg_2 34 rfl rfl
set_option maxRecDepth 8000 in
theorem kX11_made : Cond.code mX11_made.1 mX11_made.2.1 mX11_made.2.2.1 mX11_made.2.2.2 ∈ TG := w_347
set_option maxRecDepth 8000 in
theorem w_352 : (Jvm.Cond.code ({ cls := "NextOneKnows$Written", name := "<init>", desc := "(IIIIII)V" } : Jvm.MethodName) prog_11_method_1_code (7 : Nat) (Option.none : Option Jvm.ClassFile.FieldType)) ∈ TG := tg_2 39 rfl rfl
set_option maxRecDepth 8000 in
theorem kX9_init : Cond.code mX9_init.1 mX9_init.2.1 mX9_init.2.2.1 mX9_init.2.2.2 ∈ TG := w_352
set_option maxRecDepth 8000 in
theorem w_355 : (Jvm.Cond.code ({ cls := "NextOneKnows$Doing", name := "<init>", desc := "(IIIIII)V" } : Jvm.MethodName) prog_3_method_1_code (7 : Nat) (Option.none : Option Jvm.ClassFile.FieldType)) ∈ TG := tg_2 42 rfl rfl
set_option maxRecDepth 8000 in
theorem kX1_init : Cond.code mX1_init.1 mX1_init.2.1 mX1_init.2.2.1 mX1_init.2.2.2 ∈ TG := w_355
set_option maxRecDepth 8000 in
theorem w_359 : (Jvm.Cond.code ({ cls := "java/lang/Math", name := "max", desc := "(II)I" } : Jvm.MethodName) prog_16_method_65_code (2 : Nat) (Option.some Jvm.ClassFile.FieldType.int)) ∈ TG := tg_2 46 rfl rfl
set_option maxRecDepth 8000 in
theorem kJ9_max_7cf53 : Cond.code mJ9_max_7cf53.1 mJ9_max_7cf53.2.1 mJ9_max_7cf53.2.2.1 mJ9_max_7cf53.2.2.2 ∈ TG := w_359
set_option maxRecDepth 8000 in
theorem w_410 : (Jvm.Cond.code ({ cls := "NextOneKnows$Plain", name := "<init>", desc := "(IIIIII)V" } : Jvm.MethodName) prog_4_method_1_code (7 : Nat) (Option.none : Option Jvm.ClassFile.FieldType)) ∈ TG := tg_2 97 rfl rfl
set_option maxRecDepth 8000 in
theorem kX2_init : Cond.code mX2_init.1 mX2_init.2.1 mX2_init.2.2.1 mX2_init.2.2.2 ∈ TG := w_410
set_option maxRecDepth 8000 in
theorem w_423 : (Jvm.Cond.code ({ cls := "NextOneKnows$Rare", name := "<init>", desc := "(IIIIII)V" } : Jvm.MethodName) prog_6_method_1_code (7 : Nat) (Option.none : Option Jvm.ClassFile.FieldType)) ∈ TG := tg_2 110 rfl rfl
set_option maxRecDepth 8000 in
theorem kX4_init : Cond.code mX4_init.1 mX4_init.2.1 mX4_init.2.2.1 mX4_init.2.2.2 ∈ TG := w_423
set_option maxRecDepth 8000 in
theorem w_436 : (Jvm.Cond.code ({ cls := "NextOneKnows$Why", name := "<init>", desc := "(IIIIII)V" } : Jvm.MethodName) prog_10_method_1_code (7 : Nat) (Option.none : Option Jvm.ClassFile.FieldType)) ∈ TG := tg_2 123 rfl rfl
set_option maxRecDepth 8000 in
theorem kX8_init : Cond.code mX8_init.1 mX8_init.2.1 mX8_init.2.2.1 mX8_init.2.2.2 ∈ TG := w_436
set_option maxRecDepth 8000 in
theorem w_449 : (Jvm.Cond.code ({ cls := "NextOneKnows$Tied", name := "<init>", desc := "(IIIIII)V" } : Jvm.MethodName) prog_8_method_1_code (7 : Nat) (Option.none : Option Jvm.ClassFile.FieldType)) ∈ TG := tg_2 136 rfl rfl
set_option maxRecDepth 8000 in
theorem kX6_init : Cond.code mX6_init.1 mX6_init.2.1 mX6_init.2.2.1 mX6_init.2.2.2 ∈ TG := w_449
set_option maxRecDepth 8000 in
theorem w_462 : (Jvm.Cond.code ({ cls := "NextOneKnows$Wrong", name := "<init>", desc := "(IIIIII)V" } : Jvm.MethodName) prog_12_method_1_code (7 : Nat) (Option.none : Option Jvm.ClassFile.FieldType)) ∈ TG := tg_2 149 rfl rfl
set_option maxRecDepth 8000 in
theorem kX10_init : Cond.code mX10_init.1 mX10_init.2.1 mX10_init.2.2.1 mX10_init.2.2.2 ∈ TG := w_462
set_option maxRecDepth 8000 in
theorem w_484 : (Jvm.Cond.code ({ cls := "NextOneKnows$State", name := "add", desc := "(LNextOneKnows$Doing;)I" } : Jvm.MethodName) prog_7_method_4_code (2 : Nat) (Option.some Jvm.ClassFile.FieldType.int)) ∈ TG := tg_2 171 rfl rfl
set_option maxRecDepth 8000 in
theorem kX5_add : Cond.code mX5_add.1 mX5_add.2.1 mX5_add.2.2.1 mX5_add.2.2.2 ∈ TG := w_484
set_option maxRecDepth 8000 in
theorem w_488 : (Jvm.Cond.code ({ cls := "NextOneKnows", name := "of", desc := "(II)I" } : Jvm.MethodName) prog_1_method_3_code (4 : Nat) (Option.some Jvm.ClassFile.FieldType.int)) ∈ TG := tg_2 175 rfl rfl
set_option maxRecDepth 8000 in
theorem kX11_of : Cond.code mX11_of.1 mX11_of.2.1 mX11_of.2.2.1 mX11_of.2.2.2 ∈ TG := w_488
set_option maxRecDepth 8000 in
theorem w_492 : (Jvm.Cond.code ({ cls := "NextOneKnows$State", name := "find", desc := "(I)LNextOneKnows$Doing;" } : Jvm.MethodName) prog_7_method_3_code (2 : Nat) (Option.some (Jvm.ClassFile.FieldType.object "NextOneKnows$Doing"))) ∈ TG := tg_2 179 rfl rfl
set_option maxRecDepth 8000 in
theorem kX5_find : Cond.code mX5_find.1 mX5_find.2.1 mX5_find.2.2.1 mX5_find.2.2.2 ∈ TG := w_492
set_option maxRecDepth 8000 in
theorem w_499 : (Jvm.Cond.code ({ cls := "NextOneKnows$Plain", name := "kind", desc := "()I" } : Jvm.MethodName) prog_4_method_2_code (1 : Nat) (Option.some Jvm.ClassFile.FieldType.int)) ∈ TG := tg_2 186 rfl rfl
set_option maxRecDepth 8000 in
theorem kX2_kind : Cond.code mX2_kind.1 mX2_kind.2.1 mX2_kind.2.2.1 mX2_kind.2.2.2 ∈ TG := w_499
set_option maxRecDepth 8000 in
theorem w_502 : (Jvm.Cond.code ({ cls := "NextOneKnows$Rare", name := "kind", desc := "()I" } : Jvm.MethodName) prog_6_method_2_code (1 : Nat) (Option.some Jvm.ClassFile.FieldType.int)) ∈ TG := tg_2 189 rfl rfl
set_option maxRecDepth 8000 in
theorem kX4_kind : Cond.code mX4_kind.1 mX4_kind.2.1 mX4_kind.2.2.1 mX4_kind.2.2.2 ∈ TG := w_502
set_option maxRecDepth 8000 in
theorem w_505 : (Jvm.Cond.code ({ cls := "NextOneKnows$Tied", name := "kind", desc := "()I" } : Jvm.MethodName) prog_8_method_2_code (1 : Nat) (Option.some Jvm.ClassFile.FieldType.int)) ∈ TG := tg_2 192 rfl rfl
set_option maxRecDepth 8000 in
theorem kX6_kind : Cond.code mX6_kind.1 mX6_kind.2.1 mX6_kind.2.2.1 mX6_kind.2.2.2 ∈ TG := w_505
set_option maxRecDepth 8000 in
theorem w_508 : (Jvm.Cond.code ({ cls := "NextOneKnows$Why", name := "kind", desc := "()I" } : Jvm.MethodName) prog_10_method_2_code (1 : Nat) (Option.some Jvm.ClassFile.FieldType.int)) ∈ TG := tg_2 195 rfl rfl
set_option maxRecDepth 8000 in
theorem kX8_kind : Cond.code mX8_kind.1 mX8_kind.2.1 mX8_kind.2.2.1 mX8_kind.2.2.2 ∈ TG := w_508
set_option maxRecDepth 8000 in
theorem w_511 : (Jvm.Cond.code ({ cls := "NextOneKnows$Written", name := "kind", desc := "()I" } : Jvm.MethodName) prog_11_method_2_code (1 : Nat) (Option.some Jvm.ClassFile.FieldType.int)) ∈ TG := tg_2 198 rfl rfl
set_option maxRecDepth 8000 in
theorem kX9_kind : Cond.code mX9_kind.1 mX9_kind.2.1 mX9_kind.2.2.1 mX9_kind.2.2.2 ∈ TG := w_511
set_option maxRecDepth 8000 in
theorem w_514 : (Jvm.Cond.code ({ cls := "NextOneKnows$Wrong", name := "kind", desc := "()I" } : Jvm.MethodName) prog_12_method_2_code (1 : Nat) (Option.some Jvm.ClassFile.FieldType.int)) ∈ TG := tg_2 201 rfl rfl
set_option maxRecDepth 8000 in
theorem kX10_kind : Cond.code mX10_kind.1 mX10_kind.2.1 mX10_kind.2.2.1 mX10_kind.2.2.2 ∈ TG := w_514
set_option maxRecDepth 8000 in
theorem w_515 : (Jvm.Cond.code ({ cls := "NextOneKnows$Doing", name := "kind", desc := "()I" } : Jvm.MethodName) prog_3_method_2_code (1 : Nat) (Option.some Jvm.ClassFile.FieldType.int)) ∈ TG := tg_2 202 rfl rfl
set_option maxRecDepth 8000 in
theorem kX1_kind : Cond.code mX1_kind.1 mX1_kind.2.1 mX1_kind.2.2.1 mX1_kind.2.2.2 ∈ TG := w_515
set_option maxRecDepth 8000 in
theorem w_518 : (Jvm.Cond.code ({ cls := "NextOneKnows", name := "bit", desc := "(II)I" } : Jvm.MethodName) prog_1_method_38_code (2 : Nat) (Option.some Jvm.ClassFile.FieldType.int)) ∈ TG := tg_2 205 rfl rfl
set_option maxRecDepth 8000 in
theorem kX11_bit : Cond.code mX11_bit.1 mX11_bit.2.1 mX11_bit.2.2.1 mX11_bit.2.2.2 ∈ TG := w_518
set_option maxRecDepth 8000 in
theorem w_522 : (Jvm.Cond.code ({ cls := "NextOneKnows$Ahead", name := "saidOf", desc := "(LNextOneKnows$Doing;)I" } : Jvm.MethodName) prog_2_method_7_code (2 : Nat) (Option.some Jvm.ClassFile.FieldType.int)) ∈ TG := tg_2 209 rfl rfl
set_option maxRecDepth 8000 in
theorem kX0_saidOf : Cond.code mX0_saidOf.1 mX0_saidOf.2.1 mX0_saidOf.2.2.1 mX0_saidOf.2.2.2 ∈ TG := w_522
set_option maxRecDepth 8000 in
theorem w_526 : (Jvm.Cond.code ({ cls := "NextOneKnows$Ahead", name := "hearOf", desc := "(LNextOneKnows$Doing;)V" } : Jvm.MethodName) prog_2_method_6_code (3 : Nat) (Option.none : Option Jvm.ClassFile.FieldType)) ∈ TG := tg_2 213 rfl rfl
set_option maxRecDepth 8000 in
theorem kX0_hearOf : Cond.code mX0_hearOf.1 mX0_hearOf.2.1 mX0_hearOf.2.2.1 mX0_hearOf.2.2.2 ∈ TG := w_526
set_option maxRecDepth 8000 in
theorem w_530 : (Jvm.Cond.code ({ cls := "NextOneKnows$State", name := "saidBy", desc := "(LNextOneKnows$Doing;I)I" } : Jvm.MethodName) prog_7_method_8_code (3 : Nat) (Option.some Jvm.ClassFile.FieldType.int)) ∈ TG := tg_2 217 rfl rfl
set_option maxRecDepth 8000 in
theorem kX5_saidBy : Cond.code mX5_saidBy.1 mX5_saidBy.2.1 mX5_saidBy.2.2.1 mX5_saidBy.2.2.2 ∈ TG := w_530
set_option maxRecDepth 8000 in
theorem w_534 : (Jvm.Cond.code ({ cls := "NextOneKnows$Post", name := "together", desc := "(ILNextOneKnows$Doing;II)I" } : Jvm.MethodName) prog_5_method_14_code (7 : Nat) (Option.some Jvm.ClassFile.FieldType.int)) ∈ TG := tg_2 221 rfl rfl
set_option maxRecDepth 8000 in
theorem kX3_together : Cond.code mX3_together.1 mX3_together.2.1 mX3_together.2.2.1 mX3_together.2.2.2 ∈ TG := w_534
set_option maxRecDepth 8000 in
theorem w_538 : (Jvm.Cond.code ({ cls := "NextOneKnows$Post", name := "holds", desc := "(ILNextOneKnows$Doing;II)Z" } : Jvm.MethodName) prog_5_method_15_code (8 : Nat) (Option.some Jvm.ClassFile.FieldType.boolean)) ∈ TG := tg_2 225 rfl rfl
set_option maxRecDepth 8000 in
theorem kX3_holds : Cond.code mX3_holds.1 mX3_holds.2.1 mX3_holds.2.2.1 mX3_holds.2.2.2 ∈ TG := w_538
set_option maxRecDepth 8000 in
theorem w_541 : (Jvm.Cond.code ({ cls := "NextOneKnows$Post", name := "passes", desc := "(ILNextOneKnows$Doing;II)Z" } : Jvm.MethodName) prog_5_method_16_code (6 : Nat) (Option.some Jvm.ClassFile.FieldType.boolean)) ∈ TG := tg_2 228 rfl rfl
set_option maxRecDepth 8000 in
theorem kX3_passes : Cond.code mX3_passes.1 mX3_passes.2.1 mX3_passes.2.2.1 mX3_passes.2.2.2 ∈ TG := w_541
set_option maxRecDepth 8000 in
theorem w_549 : (Jvm.Cond.code ({ cls := "NextOneKnows$Plain", name := "saidOver", desc := "([I[I)I" } : Jvm.MethodName) prog_4_method_3_code (3 : Nat) (Option.some Jvm.ClassFile.FieldType.int)) ∈ TG := tg_2 236 rfl rfl
set_option maxRecDepth 8000 in
theorem kX2_saidOver : Cond.code mX2_saidOver.1 mX2_saidOver.2.1 mX2_saidOver.2.2.1 mX2_saidOver.2.2.2 ∈ TG := w_549
set_option maxRecDepth 8000 in
theorem w_552 : (Jvm.Cond.code ({ cls := "NextOneKnows$Rare", name := "saidOver", desc := "([I[I)I" } : Jvm.MethodName) prog_6_method_3_code (3 : Nat) (Option.some Jvm.ClassFile.FieldType.int)) ∈ TG := tg_2 239 rfl rfl
set_option maxRecDepth 8000 in
theorem kX4_saidOver : Cond.code mX4_saidOver.1 mX4_saidOver.2.1 mX4_saidOver.2.2.1 mX4_saidOver.2.2.2 ∈ TG := w_552
set_option maxRecDepth 8000 in
theorem w_556 : (Jvm.Cond.code ({ cls := "NextOneKnows$Tied", name := "saidOver", desc := "([I[I)I" } : Jvm.MethodName) prog_8_method_3_code (3 : Nat) (Option.some Jvm.ClassFile.FieldType.int)) ∈ TG := tg_3 3 rfl rfl
set_option maxRecDepth 8000 in
theorem kX6_saidOver : Cond.code mX6_saidOver.1 mX6_saidOver.2.1 mX6_saidOver.2.2.1 mX6_saidOver.2.2.2 ∈ TG := w_556
set_option maxRecDepth 8000 in
theorem w_560 : (Jvm.Cond.code ({ cls := "NextOneKnows$Why", name := "saidOver", desc := "([I[I)I" } : Jvm.MethodName) prog_10_method_3_code (3 : Nat) (Option.some Jvm.ClassFile.FieldType.int)) ∈ TG := tg_3 7 rfl rfl
set_option maxRecDepth 8000 in
theorem kX8_saidOver : Cond.code mX8_saidOver.1 mX8_saidOver.2.1 mX8_saidOver.2.2.1 mX8_saidOver.2.2.2 ∈ TG := w_560
set_option maxRecDepth 8000 in
theorem w_563 : (Jvm.Cond.code ({ cls := "NextOneKnows$Written", name := "saidOver", desc := "([I[I)I" } : Jvm.MethodName) prog_11_method_3_code (3 : Nat) (Option.some Jvm.ClassFile.FieldType.int)) ∈ TG := tg_3 10 rfl rfl
set_option maxRecDepth 8000 in
theorem kX9_saidOver : Cond.code mX9_saidOver.1 mX9_saidOver.2.1 mX9_saidOver.2.2.1 mX9_saidOver.2.2.2 ∈ TG := w_563
set_option maxRecDepth 8000 in
theorem w_568 : (Jvm.Cond.code ({ cls := "NextOneKnows$Wrong", name := "saidOver", desc := "([I[I)I" } : Jvm.MethodName) prog_12_method_3_code (3 : Nat) (Option.some Jvm.ClassFile.FieldType.int)) ∈ TG := tg_3 15 rfl rfl
set_option maxRecDepth 8000 in
theorem kX10_saidOver : Cond.code mX10_saidOver.1 mX10_saidOver.2.1 mX10_saidOver.2.2.1 mX10_saidOver.2.2.2 ∈ TG := w_568
set_option maxRecDepth 8000 in
theorem w_570 : (Jvm.Cond.code ({ cls := "NextOneKnows$Doing", name := "saidOver", desc := "([I[I)I" } : Jvm.MethodName) prog_3_method_4_code (5 : Nat) (Option.some Jvm.ClassFile.FieldType.int)) ∈ TG := tg_3 17 rfl rfl
set_option maxRecDepth 8000 in
theorem kX1_saidOver : Cond.code mX1_saidOver.1 mX1_saidOver.2.1 mX1_saidOver.2.2.1 mX1_saidOver.2.2.2 ∈ TG := w_570
set_option maxRecDepth 8000 in
theorem w_574 : (Jvm.Cond.code ({ cls := "NextOneKnows$State", name := "dearIn", desc := "(LNextOneKnows$Doing;I)I" } : Jvm.MethodName) prog_7_method_9_code (3 : Nat) (Option.some Jvm.ClassFile.FieldType.int)) ∈ TG := tg_3 21 rfl rfl
set_option maxRecDepth 8000 in
theorem kX5_dearIn : Cond.code mX5_dearIn.1 mX5_dearIn.2.1 mX5_dearIn.2.2.1 mX5_dearIn.2.2.2 ∈ TG := w_574
set_option maxRecDepth 8000 in
theorem w_578 : (Jvm.Cond.code ({ cls := "NextOneKnows", name := "needless", desc := "(IZ)I" } : Jvm.MethodName) prog_1_method_4_code (4 : Nat) (Option.some Jvm.ClassFile.FieldType.int)) ∈ TG := tg_3 25 rfl rfl
set_option maxRecDepth 8000 in
theorem kX11_needless : Cond.code mX11_needless.1 mX11_needless.2.1 mX11_needless.2.2.1 mX11_needless.2.2.2 ∈ TG := w_578
set_option maxRecDepth 8000 in
theorem w_581 : (Jvm.Cond.code ({ cls := "NextOneKnows", name := "withBit", desc := "(IIZ)I" } : Jvm.MethodName) prog_1_method_39_code (3 : Nat) (Option.some Jvm.ClassFile.FieldType.int)) ∈ TG := tg_3 28 rfl rfl
set_option maxRecDepth 8000 in
theorem kX11_withBit : Cond.code mX11_withBit.1 mX11_withBit.2.1 mX11_withBit.2.2.1 mX11_withBit.2.2.2 ∈ TG := w_581
set_option maxRecDepth 8000 in
theorem w_585 : (Jvm.Cond.code ({ cls := "NextOneKnows", name := "learn", desc := "(IZ)I" } : Jvm.MethodName) prog_1_method_5_code (4 : Nat) (Option.some Jvm.ClassFile.FieldType.int)) ∈ TG := tg_3 32 rfl rfl
set_option maxRecDepth 8000 in
theorem kX11_learn : Cond.code mX11_learn.1 mX11_learn.2.1 mX11_learn.2.2.1 mX11_learn.2.2.2 ∈ TG := w_585
set_option maxRecDepth 8000 in
theorem w_589 : (Jvm.Cond.code ({ cls := "NextOneKnows", name := "odds", desc := "(II)I" } : Jvm.MethodName) prog_1_method_6_code (5 : Nat) (Option.some Jvm.ClassFile.FieldType.int)) ∈ TG := tg_3 36 rfl rfl
set_option maxRecDepth 8000 in
theorem kX11_odds : Cond.code mX11_odds.1 mX11_odds.2.1 mX11_odds.2.2.1 mX11_odds.2.2.2 ∈ TG := w_589
set_option maxRecDepth 8000 in
theorem w_593 : (Jvm.Cond.code ({ cls := "NextOneKnows", name := "hours", desc := "(II)I" } : Jvm.MethodName) prog_1_method_7_code (4 : Nat) (Option.some Jvm.ClassFile.FieldType.int)) ∈ TG := tg_3 40 rfl rfl
set_option maxRecDepth 8000 in
theorem kX11_hours : Cond.code mX11_hours.1 mX11_hours.2.1 mX11_hours.2.2.1 mX11_hours.2.2.2 ∈ TG := w_593
set_option maxRecDepth 8000 in
theorem w_597 : (Jvm.Cond.code ({ cls := "NextOneKnows", name := "feed", desc := "(I)I" } : Jvm.MethodName) prog_1_method_8_code (2 : Nat) (Option.some Jvm.ClassFile.FieldType.int)) ∈ TG := tg_3 44 rfl rfl
set_option maxRecDepth 8000 in
theorem kX11_feed : Cond.code mX11_feed.1 mX11_feed.2.1 mX11_feed.2.2.1 mX11_feed.2.2.2 ∈ TG := w_597
set_option maxRecDepth 8000 in
theorem w_601 : (Jvm.Cond.code ({ cls := "NextOneKnows", name := "post", desc := "()I" } : Jvm.MethodName) prog_1_method_9_code (3 : Nat) (Option.some Jvm.ClassFile.FieldType.int)) ∈ TG := tg_3 48 rfl rfl
set_option maxRecDepth 8000 in
theorem kX11_post : Cond.code mX11_post.1 mX11_post.2.1 mX11_post.2.2.1 mX11_post.2.2.2 ∈ TG := w_601
set_option maxRecDepth 8000 in
theorem w_605 : (Jvm.Cond.code ({ cls := "NextOneKnows$Post", name := "readFrom", desc := "(I)I" } : Jvm.MethodName) prog_5_method_2_code (3 : Nat) (Option.some Jvm.ClassFile.FieldType.int)) ∈ TG := tg_3 52 rfl rfl
set_option maxRecDepth 8000 in
theorem kX3_readFrom : Cond.code mX3_readFrom.1 mX3_readFrom.2.1 mX3_readFrom.2.2.1 mX3_readFrom.2.2.2 ∈ TG := w_605
set_option maxRecDepth 8000 in
theorem w_608 : (Jvm.Cond.code ({ cls := "java/lang/Math", name := "min", desc := "(II)I" } : Jvm.MethodName) prog_16_method_69_code (2 : Nat) (Option.some Jvm.ClassFile.FieldType.int)) ∈ TG := tg_3 55 rfl rfl
set_option maxRecDepth 8000 in
theorem kJ9_min_7cf53 : Cond.code mJ9_min_7cf53.1 mJ9_min_7cf53.2.1 mJ9_min_7cf53.2.2.1 mJ9_min_7cf53.2.2.2 ∈ TG := w_608
set_option maxRecDepth 8000 in
theorem w_612 : (Jvm.Cond.code ({ cls := "NextOneKnows$Post", name := "takes", desc := "(I)Z" } : Jvm.MethodName) prog_5_method_11_code (3 : Nat) (Option.some Jvm.ClassFile.FieldType.boolean)) ∈ TG := tg_3 59 rfl rfl
set_option maxRecDepth 8000 in
theorem kX3_takes : Cond.code mX3_takes.1 mX3_takes.2.1 mX3_takes.2.2.1 mX3_takes.2.2.2 ∈ TG := w_612
set_option maxRecDepth 8000 in
theorem w_616 : (Jvm.Cond.code ({ cls := "NextOneKnows$Post", name := "here", desc := "()I" } : Jvm.MethodName) prog_5_method_10_code (1 : Nat) (Option.some Jvm.ClassFile.FieldType.int)) ∈ TG := tg_3 63 rfl rfl
set_option maxRecDepth 8000 in
theorem kX3_here : Cond.code mX3_here.1 mX3_here.2.1 mX3_here.2.2.1 mX3_here.2.2.2 ∈ TG := w_616
set_option maxRecDepth 8000 in
theorem w_620 : (Jvm.Cond.code ({ cls := "NextOneKnows$Post", name := "readClause", desc := "()V" } : Jvm.MethodName) prog_5_method_3_code (3 : Nat) (Option.none : Option Jvm.ClassFile.FieldType)) ∈ TG := tg_3 67 rfl rfl
set_option maxRecDepth 8000 in
theorem kX3_readClause : Cond.code mX3_readClause.1 mX3_readClause.2.1 mX3_readClause.2.2.1 mX3_readClause.2.2.2 ∈ TG := w_620
set_option maxRecDepth 8000 in
theorem w_624 : (Jvm.Cond.code ({ cls := "NextOneKnows$Post", name := "readWord", desc := "()I" } : Jvm.MethodName) prog_5_method_4_code (1 : Nat) (Option.some Jvm.ClassFile.FieldType.int)) ∈ TG := tg_3 71 rfl rfl
set_option maxRecDepth 8000 in
theorem kX3_readWord : Cond.code mX3_readWord.1 mX3_readWord.2.1 mX3_readWord.2.2.1 mX3_readWord.2.2.2 ∈ TG := w_624
set_option maxRecDepth 8000 in
theorem w_628 : (Jvm.Cond.code ({ cls := "NextOneKnows$Post", name := "needs", desc := "(I)V" } : Jvm.MethodName) prog_5_method_12_code (2 : Nat) (Option.none : Option Jvm.ClassFile.FieldType)) ∈ TG := tg_3 75 rfl rfl
set_option maxRecDepth 8000 in
theorem kX3_needs : Cond.code mX3_needs.1 mX3_needs.2.1 mX3_needs.2.2.1 mX3_needs.2.2.2 ∈ TG := w_628
set_option maxRecDepth 8000 in
theorem w_632 : (Jvm.Cond.code ({ cls := "NextOneKnows$Post", name := "takeIf", desc := "(Z)V" } : Jvm.MethodName) prog_5_method_13_code (2 : Nat) (Option.none : Option Jvm.ClassFile.FieldType)) ∈ TG := tg_3 79 rfl rfl
set_option maxRecDepth 8000 in
theorem kX3_takeIf : Cond.code mX3_takeIf.1 mX3_takeIf.2.1 mX3_takeIf.2.2.1 mX3_takeIf.2.2.2 ∈ TG := w_632
set_option maxRecDepth 8000 in
theorem w_636 : (Jvm.Cond.code ({ cls := "NextOneKnows$Post", name := "readNumber", desc := "()I" } : Jvm.MethodName) prog_5_method_5_code (3 : Nat) (Option.some Jvm.ClassFile.FieldType.int)) ∈ TG := tg_3 83 rfl rfl
set_option maxRecDepth 8000 in
theorem kX3_readNumber : Cond.code mX3_readNumber.1 mX3_readNumber.2.1 mX3_readNumber.2.2.1 mX3_readNumber.2.2.2 ∈ TG := w_636
set_option maxRecDepth 8000 in
theorem w_640 : (Jvm.Cond.code ({ cls := "NextOneKnows$Post", name := "readEither", desc := "(I)V" } : Jvm.MethodName) prog_5_method_6_code (4 : Nat) (Option.none : Option Jvm.ClassFile.FieldType)) ∈ TG := tg_3 87 rfl rfl
set_option maxRecDepth 8000 in
theorem kX3_readEither : Cond.code mX3_readEither.1 mX3_readEither.2.1 mX3_readEither.2.2.1 mX3_readEither.2.2.2 ∈ TG := w_640
set_option maxRecDepth 8000 in
theorem w_644 : (Jvm.Cond.code ({ cls := "NextOneKnows$Post", name := "readPart", desc := "(I)V" } : Jvm.MethodName) prog_5_method_7_code (2 : Nat) (Option.none : Option Jvm.ClassFile.FieldType)) ∈ TG := tg_3 91 rfl rfl
set_option maxRecDepth 8000 in
theorem kX3_readPart : Cond.code mX3_readPart.1 mX3_readPart.2.1 mX3_readPart.2.2.1 mX3_readPart.2.2.2 ∈ TG := w_644
set_option maxRecDepth 8000 in
theorem w_648 : (Jvm.Cond.code ({ cls := "NextOneKnows$Post", name := "keep", desc := "(I)V" } : Jvm.MethodName) prog_5_method_9_code (2 : Nat) (Option.none : Option Jvm.ClassFile.FieldType)) ∈ TG := tg_3 95 rfl rfl
set_option maxRecDepth 8000 in
theorem kX3_keep : Cond.code mX3_keep.1 mX3_keep.2.1 mX3_keep.2.2.1 mX3_keep.2.2.2 ∈ TG := w_648
set_option maxRecDepth 8000 in
theorem w_652 : (Jvm.Cond.code ({ cls := "NextOneKnows$Post", name := "readTest", desc := "()V" } : Jvm.MethodName) prog_5_method_8_code (4 : Nat) (Option.none : Option Jvm.ClassFile.FieldType)) ∈ TG := tg_3 99 rfl rfl
set_option maxRecDepth 8000 in
theorem kX3_readTest : Cond.code mX3_readTest.1 mX3_readTest.2.1 mX3_readTest.2.2.1 mX3_readTest.2.2.2 ∈ TG := w_652
set_option maxRecDepth 8000 in
theorem w_656 : (Jvm.Cond.code ({ cls := "NextOneKnows", name := "told", desc := "(I)I" } : Jvm.MethodName) prog_1_method_10_code (2 : Nat) (Option.some Jvm.ClassFile.FieldType.int)) ∈ TG := tg_3 103 rfl rfl
set_option maxRecDepth 8000 in
theorem kX11_told : Cond.code mX11_told.1 mX11_told.2.1 mX11_told.2.2.1 mX11_told.2.2.2 ∈ TG := w_656
set_option maxRecDepth 8000 in
theorem w_660 : (Jvm.Cond.code ({ cls := "NextOneKnows$State", name := "callsAtFirst", desc := "()I" } : Jvm.MethodName) prog_7_method_10_code (1 : Nat) (Option.some Jvm.ClassFile.FieldType.int)) ∈ TG := tg_3 107 rfl rfl
set_option maxRecDepth 8000 in
theorem kX5_callsAtFirst : Cond.code mX5_callsAtFirst.1 mX5_callsAtFirst.2.1 mX5_callsAtFirst.2.2.1 mX5_callsAtFirst.2.2.2 ∈ TG := w_660
set_option maxRecDepth 8000 in
theorem w_664 : (Jvm.Cond.code ({ cls := "NextOneKnows$State", name := "callsFading", desc := "()I" } : Jvm.MethodName) prog_7_method_11_code (1 : Nat) (Option.some Jvm.ClassFile.FieldType.int)) ∈ TG := tg_3 111 rfl rfl
set_option maxRecDepth 8000 in
theorem kX5_callsFading : Cond.code mX5_callsFading.1 mX5_callsFading.2.1 mX5_callsFading.2.2.1 mX5_callsFading.2.2.2 ∈ TG := w_664
set_option maxRecDepth 8000 in
theorem w_668 : (Jvm.Cond.code ({ cls := "NextOneKnows", name := "said", desc := "(II)I" } : Jvm.MethodName) prog_1_method_11_code (4 : Nat) (Option.some Jvm.ClassFile.FieldType.int)) ∈ TG := tg_3 115 rfl rfl
set_option maxRecDepth 8000 in
theorem kX11_said : Cond.code mX11_said.1 mX11_said.2.1 mX11_said.2.2.1 mX11_said.2.2.2 ∈ TG := w_668
set_option maxRecDepth 8000 in
theorem w_673 : (Jvm.Cond.code ({ cls := "NextOneKnows", name := "hand", desc := "()I" } : Jvm.MethodName) prog_1_method_12_code (2 : Nat) (Option.some Jvm.ClassFile.FieldType.int)) ∈ TG := tg_3 120 rfl rfl
set_option maxRecDepth 8000 in
theorem kX11_hand : Cond.code mX11_hand.1 mX11_hand.2.1 mX11_hand.2.2.1 mX11_hand.2.2.2 ∈ TG := w_673
set_option maxRecDepth 8000 in
theorem w_677 : (Jvm.Cond.code ({ cls := "NextOneKnows$Ahead", name := "hear", desc := "()V" } : Jvm.MethodName) prog_2_method_5_code (3 : Nat) (Option.none : Option Jvm.ClassFile.FieldType)) ∈ TG := tg_3 124 rfl rfl
set_option maxRecDepth 8000 in
theorem kX0_hear : Cond.code mX0_hear.1 mX0_hear.2.1 mX0_hear.2.2.1 mX0_hear.2.2.2 ∈ TG := w_677
set_option maxRecDepth 8000 in
theorem w_682 : (Jvm.Cond.code ({ cls := "NextOneKnows$Ahead", name := "goingOver", desc := "([I)I" } : Jvm.MethodName) prog_2_method_8_code (5 : Nat) (Option.some Jvm.ClassFile.FieldType.int)) ∈ TG := tg_3 129 rfl rfl
set_option maxRecDepth 8000 in
theorem kX0_goingOver : Cond.code mX0_goingOver.1 mX0_goingOver.2.1 mX0_goingOver.2.2.1 mX0_goingOver.2.2.2 ∈ TG := w_682
set_option maxRecDepth 8000 in
theorem w_685 : (Jvm.Cond.code ({ cls := "java/lang/Integer", name := "bitCount", desc := "(I)I" } : Jvm.MethodName) prog_15_method_49_code (1 : Nat) (Option.some Jvm.ClassFile.FieldType.int)) ∈ TG := tg_3 132 rfl rfl
set_option maxRecDepth 8000 in
theorem kJ6_bitCount_0f7a4 : Cond.code mJ6_bitCount_0f7a4.1 mJ6_bitCount_0f7a4.2.1 mJ6_bitCount_0f7a4.2.2.1 mJ6_bitCount_0f7a4.2.2.2 ∈ TG := w_685
set_option maxRecDepth 8000 in
theorem w_692 : (Jvm.Cond.code ({ cls := "NextOneKnows", name := "go", desc := "(I)I" } : Jvm.MethodName) prog_1_method_13_code (2 : Nat) (Option.some Jvm.ClassFile.FieldType.int)) ∈ TG := tg_3 139 rfl rfl
set_option maxRecDepth 8000 in
theorem kX11_go : Cond.code mX11_go.1 mX11_go.2.1 mX11_go.2.2.1 mX11_go.2.2.2 ∈ TG := w_692
set_option maxRecDepth 8000 in
theorem w_696 : (Jvm.Cond.code ({ cls := "NextOneKnows$Ahead", name := "look", desc := "(I)V" } : Jvm.MethodName) prog_2_method_2_code (3 : Nat) (Option.none : Option Jvm.ClassFile.FieldType)) ∈ TG := tg_3 143 rfl rfl
set_option maxRecDepth 8000 in
theorem kX0_look : Cond.code mX0_look.1 mX0_look.2.1 mX0_look.2.2.1 mX0_look.2.2.2 ∈ TG := w_696
set_option maxRecDepth 8000 in
theorem w_703 : (Jvm.Cond.code ({ cls := "NextOneKnows$State", name := "coming", desc := "(I)I" } : Jvm.MethodName) prog_7_method_12_code (5 : Nat) (Option.some Jvm.ClassFile.FieldType.int)) ∈ TG := tg_3 150 rfl rfl
set_option maxRecDepth 8000 in
theorem kX5_coming : Cond.code mX5_coming.1 mX5_coming.2.1 mX5_coming.2.2.1 mX5_coming.2.2.2 ∈ TG := w_703
set_option maxRecDepth 8000 in
theorem w_715 : (Jvm.Cond.code ({ cls := "NextOneKnows$Doing", name := "weeksUntil", desc := "(I)I" } : Jvm.MethodName) prog_3_method_3_code (2 : Nat) (Option.some Jvm.ClassFile.FieldType.int)) ∈ TG := tg_3 162 rfl rfl
set_option maxRecDepth 8000 in
theorem kX1_weeksUntil : Cond.code mX1_weeksUntil.1 mX1_weeksUntil.2.1 mX1_weeksUntil.2.2.1 mX1_weeksUntil.2.2.2 ∈ TG := w_715
set_option maxRecDepth 8000 in
theorem w_718 : (Jvm.Cond.code ({ cls := "java/lang/Math", name := "floorMod", desc := "(II)I" } : Jvm.MethodName) prog_16_method_50_code (3 : Nat) (Option.some Jvm.ClassFile.FieldType.int)) ∈ TG := tg_3 165 rfl rfl
set_option maxRecDepth 8000 in
theorem kJ9_floorMod_7cf53 : Cond.code mJ9_floorMod_7cf53.1 mJ9_floorMod_7cf53.2.1 mJ9_floorMod_7cf53.2.2.1 mJ9_floorMod_7cf53.2.2.2 ∈ TG := w_718
set_option maxRecDepth 8000 in
theorem w_722 : (Jvm.Cond.code ({ cls := "NextOneKnows$Ahead", name := "lookDear", desc := "(II)V" } : Jvm.MethodName) prog_2_method_3_code (6 : Nat) (Option.none : Option Jvm.ClassFile.FieldType)) ∈ TG := tg_3 169 rfl rfl
set_option maxRecDepth 8000 in
theorem kX0_lookDear : Cond.code mX0_lookDear.1 mX0_lookDear.2.1 mX0_lookDear.2.2.1 mX0_lookDear.2.2.2 ∈ TG := w_722
set_option maxRecDepth 8000 in
theorem w_725 : (Jvm.Cond.code ({ cls := "NextOneKnows$Ahead", name := "dearCell", desc := "(II)I" } : Jvm.MethodName) prog_2_method_4_code (2 : Nat) (Option.some Jvm.ClassFile.FieldType.int)) ∈ TG := tg_3 172 rfl rfl
set_option maxRecDepth 8000 in
theorem kX0_dearCell : Cond.code mX0_dearCell.1 mX0_dearCell.2.1 mX0_dearCell.2.2.1 mX0_dearCell.2.2.2 ∈ TG := w_725
set_option maxRecDepth 8000 in
theorem w_732 : (Jvm.Cond.code ({ cls := "NextOneKnows$Ahead", name := "pass", desc := "(II)I" } : Jvm.MethodName) prog_2_method_9_code (4 : Nat) (Option.some Jvm.ClassFile.FieldType.int)) ∈ TG := tg_3 179 rfl rfl
set_option maxRecDepth 8000 in
theorem kX0_pass : Cond.code mX0_pass.1 mX0_pass.2.1 mX0_pass.2.2.1 mX0_pass.2.2.2 ∈ TG := w_732
set_option maxRecDepth 8000 in
theorem w_736 : (Jvm.Cond.code ({ cls := "NextOneKnows$Ahead", name := "stopAll", desc := "(II)V" } : Jvm.MethodName) prog_2_method_10_code (5 : Nat) (Option.none : Option Jvm.ClassFile.FieldType)) ∈ TG := tg_3 183 rfl rfl
set_option maxRecDepth 8000 in
theorem kX0_stopAll : Cond.code mX0_stopAll.1 mX0_stopAll.2.1 mX0_stopAll.2.2.1 mX0_stopAll.2.2.2 ∈ TG := w_736
set_option maxRecDepth 8000 in
theorem w_740 : (Jvm.Cond.code ({ cls := "NextOneKnows$Ahead", name := "stop", desc := "(LNextOneKnows$Doing;I)V" } : Jvm.MethodName) prog_2_method_11_code (4 : Nat) (Option.none : Option Jvm.ClassFile.FieldType)) ∈ TG := tg_3 187 rfl rfl
set_option maxRecDepth 8000 in
theorem kX0_stop : Cond.code mX0_stop.1 mX0_stop.2.1 mX0_stop.2.2.1 mX0_stop.2.2.2 ∈ TG := w_740
set_option maxRecDepth 8000 in
theorem w_754 : (Jvm.Cond.code ({ cls := "NextOneKnows$Wrong", name := "isKnownByCall", desc := "()Z" } : Jvm.MethodName) prog_12_method_4_code (1 : Nat) (Option.some Jvm.ClassFile.FieldType.boolean)) ∈ TG := tg_3 201 rfl rfl
set_option maxRecDepth 8000 in
theorem kX10_isKnownByCall : Cond.code mX10_isKnownByCall.1 mX10_isKnownByCall.2.1 mX10_isKnownByCall.2.2.1 mX10_isKnownByCall.2.2.2 ∈ TG := w_754
set_option maxRecDepth 8000 in
theorem w_755 : (Jvm.Cond.code ({ cls := "NextOneKnows$Doing", name := "isKnownByCall", desc := "()Z" } : Jvm.MethodName) prog_3_method_5_code (1 : Nat) (Option.some Jvm.ClassFile.FieldType.boolean)) ∈ TG := tg_3 202 rfl rfl
set_option maxRecDepth 8000 in
theorem kX1_isKnownByCall : Cond.code mX1_isKnownByCall.1 mX1_isKnownByCall.2.1 mX1_isKnownByCall.2.2.1 mX1_isKnownByCall.2.2.2 ∈ TG := w_755
set_option maxRecDepth 8000 in
theorem w_762 : (Jvm.Cond.code ({ cls := "NextOneKnows$Plain", name := "isKnownByStop", desc := "()Z" } : Jvm.MethodName) prog_4_method_4_code (1 : Nat) (Option.some Jvm.ClassFile.FieldType.boolean)) ∈ TG := tg_3 209 rfl rfl
set_option maxRecDepth 8000 in
theorem kX2_isKnownByStop : Cond.code mX2_isKnownByStop.1 mX2_isKnownByStop.2.1 mX2_isKnownByStop.2.2.1 mX2_isKnownByStop.2.2.2 ∈ TG := w_762
set_option maxRecDepth 8000 in
theorem w_765 : (Jvm.Cond.code ({ cls := "NextOneKnows$Rare", name := "isKnownByStop", desc := "()Z" } : Jvm.MethodName) prog_6_method_4_code (1 : Nat) (Option.some Jvm.ClassFile.FieldType.boolean)) ∈ TG := tg_3 212 rfl rfl
set_option maxRecDepth 8000 in
theorem kX4_isKnownByStop : Cond.code mX4_isKnownByStop.1 mX4_isKnownByStop.2.1 mX4_isKnownByStop.2.2.1 mX4_isKnownByStop.2.2.2 ∈ TG := w_765
set_option maxRecDepth 8000 in
theorem w_770 : (Jvm.Cond.code ({ cls := "NextOneKnows$Doing", name := "isKnownByStop", desc := "()Z" } : Jvm.MethodName) prog_3_method_6_code (1 : Nat) (Option.some Jvm.ClassFile.FieldType.boolean)) ∈ TG := tg_3 217 rfl rfl
set_option maxRecDepth 8000 in
theorem kX1_isKnownByStop : Cond.code mX1_isKnownByStop.1 mX1_isKnownByStop.2.1 mX1_isKnownByStop.2.2.1 mX1_isKnownByStop.2.2.2 ∈ TG := w_770
set_option maxRecDepth 8000 in
theorem w_775 : (Jvm.Cond.code ({ cls := "NextOneKnows", name := "run", desc := "(II)I" } : Jvm.MethodName) prog_1_method_14_code (4 : Nat) (Option.some Jvm.ClassFile.FieldType.int)) ∈ TG := tg_3 222 rfl rfl
set_option maxRecDepth 8000 in
theorem kX11_run : Cond.code mX11_run.1 mX11_run.2.1 mX11_run.2.2.1 mX11_run.2.2.2 ∈ TG := w_775
set_option maxRecDepth 8000 in
theorem w_779 : (Jvm.Cond.code ({ cls := "NextOneKnows", name := "split", desc := "(III)I" } : Jvm.MethodName) prog_1_method_15_code (5 : Nat) (Option.some Jvm.ClassFile.FieldType.int)) ∈ TG := tg_3 226 rfl rfl
set_option maxRecDepth 8000 in
theorem kX11_split : Cond.code mX11_split.1 mX11_split.2.1 mX11_split.2.2.1 mX11_split.2.2.2 ∈ TG := w_779
set_option maxRecDepth 8000 in
theorem w_783 : (Jvm.Cond.code ({ cls := "NextOneKnows$Ahead", name := "bestSplit", desc := "(I)I" } : Jvm.MethodName) prog_2_method_14_code (7 : Nat) (Option.some Jvm.ClassFile.FieldType.int)) ∈ TG := tg_3 230 rfl rfl
set_option maxRecDepth 8000 in
theorem kX0_bestSplit : Cond.code mX0_bestSplit.1 mX0_bestSplit.2.1 mX0_bestSplit.2.2.1 mX0_bestSplit.2.2.2 ∈ TG := w_783
set_option maxRecDepth 8000 in
theorem w_788 : (Jvm.Cond.code ({ cls := "NextOneKnows$Ahead", name := "share", desc := "(IIII)V" } : Jvm.MethodName) prog_2_method_15_code (5 : Nat) (Option.none : Option Jvm.ClassFile.FieldType)) ∈ TG := tg_3 235 rfl rfl
set_option maxRecDepth 8000 in
theorem kX0_share : Cond.code mX0_share.1 mX0_share.2.1 mX0_share.2.2.1 mX0_share.2.2.2 ∈ TG := w_788
set_option maxRecDepth 8000 in
theorem w_792 : (Jvm.Cond.code ({ cls := "NextOneKnows$Ahead", name := "costHanded", desc := "([I)I" } : Jvm.MethodName) prog_2_method_12_code (2 : Nat) (Option.some Jvm.ClassFile.FieldType.int)) ∈ TG := tg_3 239 rfl rfl
set_option maxRecDepth 8000 in
theorem kX0_costHanded : Cond.code mX0_costHanded.1 mX0_costHanded.2.1 mX0_costHanded.2.2.1 mX0_costHanded.2.2.2 ∈ TG := w_792
set_option maxRecDepth 8000 in
theorem w_801 : (Jvm.Cond.code ({ cls := "NextOneKnows", name := "more", desc := "(II)I" } : Jvm.MethodName) prog_1_method_16_code (3 : Nat) (Option.some Jvm.ClassFile.FieldType.int)) ∈ TG := tg_4 8 rfl rfl
set_option maxRecDepth 8000 in
theorem kX11_more : Cond.code mX11_more.1 mX11_more.2.1 mX11_more.2.2.1 mX11_more.2.2.2 ∈ TG := w_801
set_option maxRecDepth 8000 in
theorem w_806 : (Jvm.Cond.code ({ cls := "NextOneKnows$Ahead", name := "hourMore", desc := "(I)[I" } : Jvm.MethodName) prog_2_method_13_code (3 : Nat) (Option.some (Jvm.ClassFile.FieldType.array Jvm.ClassFile.FieldType.int))) ∈ TG := tg_4 13 rfl rfl
set_option maxRecDepth 8000 in
theorem kX0_hourMore : Cond.code mX0_hourMore.1 mX0_hourMore.2.1 mX0_hourMore.2.2.1 mX0_hourMore.2.2.2 ∈ TG := w_806
set_option maxRecDepth 8000 in
theorem w_810 : (Jvm.Cond.code ({ cls := "NextOneKnows", name := "ask", desc := "(I)I" } : Jvm.MethodName) prog_1_method_17_code (2 : Nat) (Option.some Jvm.ClassFile.FieldType.int)) ∈ TG := tg_4 17 rfl rfl
set_option maxRecDepth 8000 in
theorem kX11_ask : Cond.code mX11_ask.1 mX11_ask.2.1 mX11_ask.2.2.1 mX11_ask.2.2.2 ∈ TG := w_810
set_option maxRecDepth 8000 in
theorem w_814 : (Jvm.Cond.code ({ cls := "NextOneKnows$Ahead", name := "bestOf", desc := "(IZ)I" } : Jvm.MethodName) prog_2_method_16_code (8 : Nat) (Option.some Jvm.ClassFile.FieldType.int)) ∈ TG := tg_4 21 rfl rfl
set_option maxRecDepth 8000 in
theorem kX0_bestOf : Cond.code mX0_bestOf.1 mX0_bestOf.2.1 mX0_bestOf.2.2.1 mX0_bestOf.2.2.2 ∈ TG := w_814
set_option maxRecDepth 8000 in
theorem w_818 : (Jvm.Cond.code ({ cls := "NextOneKnows", name := "drop", desc := "(I)I" } : Jvm.MethodName) prog_1_method_18_code (2 : Nat) (Option.some Jvm.ClassFile.FieldType.int)) ∈ TG := tg_4 25 rfl rfl
set_option maxRecDepth 8000 in
theorem kX11_drop : Cond.code mX11_drop.1 mX11_drop.2.1 mX11_drop.2.2.1 mX11_drop.2.2.2 ∈ TG := w_818
set_option maxRecDepth 8000 in
theorem w_822 : (Jvm.Cond.code ({ cls := "NextOneKnows", name := "when", desc := "(I)I" } : Jvm.MethodName) prog_1_method_19_code (3 : Nat) (Option.some Jvm.ClassFile.FieldType.int)) ∈ TG := tg_4 29 rfl rfl
set_option maxRecDepth 8000 in
theorem kX11_when : Cond.code mX11_when.1 mX11_when.2.1 mX11_when.2.2.1 mX11_when.2.2.2 ∈ TG := w_822
set_option maxRecDepth 8000 in
theorem w_827 : (Jvm.Cond.code ({ cls := "NextOneKnows", name := "busiest", desc := "(II)I" } : Jvm.MethodName) prog_1_method_20_code (7 : Nat) (Option.some Jvm.ClassFile.FieldType.int)) ∈ TG := tg_4 34 rfl rfl
set_option maxRecDepth 8000 in
theorem kX11_busiest : Cond.code mX11_busiest.1 mX11_busiest.2.1 mX11_busiest.2.2.1 mX11_busiest.2.2.2 ∈ TG := w_827
set_option maxRecDepth 8000 in
theorem w_832 : (Jvm.Cond.code ({ cls := "NextOneKnows", name := "all", desc := "(I)I" } : Jvm.MethodName) prog_1_method_21_code (4 : Nat) (Option.some Jvm.ClassFile.FieldType.int)) ∈ TG := tg_4 39 rfl rfl
set_option maxRecDepth 8000 in
theorem kX11_all : Cond.code mX11_all.1 mX11_all.2.1 mX11_all.2.2.1 mX11_all.2.2.2 ∈ TG := w_832
set_option maxRecDepth 8000 in
theorem w_836 : (Jvm.Cond.code ({ cls := "NextOneKnows$State", name := "everyDoing", desc := "()I" } : Jvm.MethodName) prog_7_method_7_code (1 : Nat) (Option.some Jvm.ClassFile.FieldType.int)) ∈ TG := tg_4 43 rfl rfl
set_option maxRecDepth 8000 in
theorem kX5_everyDoing : Cond.code mX5_everyDoing.1 mX5_everyDoing.2.1 mX5_everyDoing.2.2.1 mX5_everyDoing.2.2.2 ∈ TG := w_836
set_option maxRecDepth 8000 in
theorem w_840 : (Jvm.Cond.code ({ cls := "NextOneKnows$State", name := "longestWait", desc := "(II)I" } : Jvm.MethodName) prog_7_method_13_code (6 : Nat) (Option.some Jvm.ClassFile.FieldType.int)) ∈ TG := tg_4 47 rfl rfl
set_option maxRecDepth 8000 in
theorem kX5_longestWait : Cond.code mX5_longestWait.1 mX5_longestWait.2.1 mX5_longestWait.2.2.1 mX5_longestWait.2.2.2 ∈ TG := w_840
set_option maxRecDepth 8000 in
theorem w_846 : (Jvm.Cond.code ({ cls := "NextOneKnows", name := "list", desc := "(II)I" } : Jvm.MethodName) prog_1_method_22_code (3 : Nat) (Option.some Jvm.ClassFile.FieldType.int)) ∈ TG := tg_4 53 rfl rfl
set_option maxRecDepth 8000 in
theorem kX11_list : Cond.code mX11_list.1 mX11_list.2.1 mX11_list.2.2.1 mX11_list.2.2.2 ∈ TG := w_846
set_option maxRecDepth 8000 in
theorem w_850 : (Jvm.Cond.code ({ cls := "NextOneKnows$State", name := "addRow", desc := "(II)I" } : Jvm.MethodName) prog_7_method_5_code (3 : Nat) (Option.some Jvm.ClassFile.FieldType.int)) ∈ TG := tg_4 57 rfl rfl
set_option maxRecDepth 8000 in
theorem kX5_addRow : Cond.code mX5_addRow.1 mX5_addRow.2.1 mX5_addRow.2.2.1 mX5_addRow.2.2.2 ∈ TG := w_850
set_option maxRecDepth 8000 in
theorem w_854 : (Jvm.Cond.code ({ cls := "NextOneKnows", name := "looked", desc := "()I" } : Jvm.MethodName) prog_1_method_23_code (1 : Nat) (Option.some Jvm.ClassFile.FieldType.int)) ∈ TG := tg_4 61 rfl rfl
set_option maxRecDepth 8000 in
theorem kX11_looked : Cond.code mX11_looked.1 mX11_looked.2.1 mX11_looked.2.2.1 mX11_looked.2.2.2 ∈ TG := w_854
set_option maxRecDepth 8000 in
theorem w_858 : (Jvm.Cond.code ({ cls := "NextOneKnows$State", name := "weeksToRows", desc := "()I" } : Jvm.MethodName) prog_7_method_6_code (3 : Nat) (Option.some Jvm.ClassFile.FieldType.int)) ∈ TG := tg_4 65 rfl rfl
set_option maxRecDepth 8000 in
theorem kX5_weeksToRows : Cond.code mX5_weeksToRows.1 mX5_weeksToRows.2.1 mX5_weeksToRows.2.2.1 mX5_weeksToRows.2.2.2 ∈ TG := w_858
set_option maxRecDepth 8000 in
theorem w_863 : (Jvm.Cond.code ({ cls := "NextOneKnows$Ahead", name := "firstRowNotSo", desc := "()I" } : Jvm.MethodName) prog_2_method_17_code (3 : Nat) (Option.some Jvm.ClassFile.FieldType.int)) ∈ TG := tg_4 70 rfl rfl
set_option maxRecDepth 8000 in
theorem kX0_firstRowNotSo : Cond.code mX0_firstRowNotSo.1 mX0_firstRowNotSo.2.1 mX0_firstRowNotSo.2.2.1 mX0_firstRowNotSo.2.2.2 ∈ TG := w_863
set_option maxRecDepth 8000 in
theorem w_867 : (Jvm.Cond.code ({ cls := "NextOneKnows", name := "fits", desc := "()I" } : Jvm.MethodName) prog_1_method_24_code (3 : Nat) (Option.some Jvm.ClassFile.FieldType.int)) ∈ TG := tg_4 74 rfl rfl
set_option maxRecDepth 8000 in
theorem kX11_fits : Cond.code mX11_fits.1 mX11_fits.2.1 mX11_fits.2.2.1 mX11_fits.2.2.2 ∈ TG := w_867
set_option maxRecDepth 8000 in
theorem w_871 : (Jvm.Cond.code ({ cls := "NextOneKnows", name := "chance", desc := "(II)J" } : Jvm.MethodName) prog_1_method_25_code (9 : Nat) (Option.some Jvm.ClassFile.FieldType.long)) ∈ TG := tg_4 78 rfl rfl
set_option maxRecDepth 8000 in
theorem kX11_chance : Cond.code mX11_chance.1 mX11_chance.2.1 mX11_chance.2.2.1 mX11_chance.2.2.2 ∈ TG := w_871
set_option maxRecDepth 8000 in
theorem w_876 : (Jvm.Cond.code ({ cls := "NextOneKnows", name := "commonDivisor", desc := "(JJ)J" } : Jvm.MethodName) prog_1_method_40_code (11 : Nat) (Option.some Jvm.ClassFile.FieldType.long)) ∈ TG := tg_4 83 rfl rfl
set_option maxRecDepth 8000 in
theorem kX11_commonDivisor : Cond.code mX11_commonDivisor.1 mX11_commonDivisor.2.1 mX11_commonDivisor.2.2.1 mX11_commonDivisor.2.2.2 ∈ TG := w_876
set_option maxRecDepth 8000 in
theorem w_879 : (Jvm.Cond.code ({ cls := "java/lang/Math", name := "max", desc := "(JJ)J" } : Jvm.MethodName) prog_16_method_66_code (4 : Nat) (Option.some Jvm.ClassFile.FieldType.long)) ∈ TG := tg_4 86 rfl rfl
set_option maxRecDepth 8000 in
theorem kJ9_max_f86c9 : Cond.code mJ9_max_f86c9.1 mJ9_max_f86c9.2.1 mJ9_max_f86c9.2.2.1 mJ9_max_f86c9.2.2.2 ∈ TG := w_879
set_option maxRecDepth 8000 in
theorem w_883 : (Jvm.Cond.code ({ cls := "NextOneKnows", name := "judge", desc := "(II)I" } : Jvm.MethodName) prog_1_method_26_code (4 : Nat) (Option.some Jvm.ClassFile.FieldType.int)) ∈ TG := tg_4 90 rfl rfl
set_option maxRecDepth 8000 in
theorem kX11_judge : Cond.code mX11_judge.1 mX11_judge.2.1 mX11_judge.2.2.1 mX11_judge.2.2.2 ∈ TG := w_883
set_option maxRecDepth 8000 in
theorem w_887 : (Jvm.Cond.code ({ cls := "NextOneKnows", name := "image", desc := "()I" } : Jvm.MethodName) prog_1_method_27_code (1 : Nat) (Option.some Jvm.ClassFile.FieldType.int)) ∈ TG := tg_4 94 rfl rfl
set_option maxRecDepth 8000 in
theorem kX11_image : Cond.code mX11_image.1 mX11_image.2.1 mX11_image.2.2.1 mX11_image.2.2.2 ∈ TG := w_887
set_option maxRecDepth 8000 in
theorem w_891 : (Jvm.Cond.code ({ cls := "NextOneKnows$State", name := "takeFrom", desc := "(LNextOneKnows$State;)V" } : Jvm.MethodName) prog_7_method_2_code (3 : Nat) (Option.none : Option Jvm.ClassFile.FieldType)) ∈ TG := tg_4 98 rfl rfl
set_option maxRecDepth 8000 in
theorem kX5_takeFrom : Cond.code mX5_takeFrom.1 mX5_takeFrom.2.1 mX5_takeFrom.2.2.1 mX5_takeFrom.2.2.2 ∈ TG := w_891
set_option maxRecDepth 8000 in
theorem w_896 : (Jvm.Cond.code ({ cls := "NextOneKnows", name := "undo", desc := "()I" } : Jvm.MethodName) prog_1_method_28_code (1 : Nat) (Option.some Jvm.ClassFile.FieldType.int)) ∈ TG := tg_4 103 rfl rfl
set_option maxRecDepth 8000 in
theorem kX11_undo : Cond.code mX11_undo.1 mX11_undo.2.1 mX11_undo.2.2.1 mX11_undo.2.2.2 ∈ TG := w_896
set_option maxRecDepth 8000 in
theorem w_900 : (Jvm.Cond.code ({ cls := "NextOneKnows", name := "act", desc := "(III)I" } : Jvm.MethodName) prog_1_method_29_code (5 : Nat) (Option.some Jvm.ClassFile.FieldType.int)) ∈ TG := tg_4 107 rfl rfl
set_option maxRecDepth 8000 in
theorem kX11_act : Cond.code mX11_act.1 mX11_act.2.1 mX11_act.2.2.1 mX11_act.2.2.2 ∈ TG := w_900
set_option maxRecDepth 8000 in
theorem w_907 : (Jvm.Cond.code ({ cls := "NextOneKnows$Plain", name := "says", desc := "(ILNextOneKnows$Trace;)I" } : Jvm.MethodName) prog_4_method_5_code (3 : Nat) (Option.some Jvm.ClassFile.FieldType.int)) ∈ TG := tg_4 114 rfl rfl
set_option maxRecDepth 8000 in
theorem kX2_says : Cond.code mX2_says.1 mX2_says.2.1 mX2_says.2.2.1 mX2_says.2.2.2 ∈ TG := w_907
set_option maxRecDepth 8000 in
theorem w_911 : (Jvm.Cond.code ({ cls := "NextOneKnows$Trace", name := "begins", desc := "(I)V" } : Jvm.MethodName) prog_9_method_2_code (2 : Nat) (Option.none : Option Jvm.ClassFile.FieldType)) ∈ TG := tg_4 118 rfl rfl
set_option maxRecDepth 8000 in
theorem kX7_begins : Cond.code mX7_begins.1 mX7_begins.2.1 mX7_begins.2.2.1 mX7_begins.2.2.2 ∈ TG := w_911
set_option maxRecDepth 8000 in
theorem w_917 : (Jvm.Cond.code ({ cls := "NextOneKnows$Why", name := "says", desc := "(ILNextOneKnows$Trace;)I" } : Jvm.MethodName) prog_10_method_4_code (3 : Nat) (Option.some Jvm.ClassFile.FieldType.int)) ∈ TG := tg_4 124 rfl rfl
set_option maxRecDepth 8000 in
theorem kX8_says : Cond.code mX8_says.1 mX8_says.2.1 mX8_says.2.2.1 mX8_says.2.2.2 ∈ TG := w_917
set_option maxRecDepth 8000 in
theorem w_925 : (Jvm.Cond.code ({ cls := "NextOneKnows$Wrong", name := "says", desc := "(ILNextOneKnows$Trace;)I" } : Jvm.MethodName) prog_12_method_6_code (3 : Nat) (Option.some Jvm.ClassFile.FieldType.int)) ∈ TG := tg_4 132 rfl rfl
set_option maxRecDepth 8000 in
theorem kX10_says : Cond.code mX10_says.1 mX10_says.2.1 mX10_says.2.2.1 mX10_says.2.2.2 ∈ TG := w_925
set_option maxRecDepth 8000 in
theorem w_929 : (Jvm.Cond.code ({ cls := "NextOneKnows$Doing", name := "says", desc := "(ILNextOneKnows$Trace;)I" } : Jvm.MethodName) prog_3_method_7_code (3 : Nat) (Option.some Jvm.ClassFile.FieldType.int)) ∈ TG := tg_4 136 rfl rfl
set_option maxRecDepth 8000 in
theorem kX1_says : Cond.code mX1_says.1 mX1_says.2.1 mX1_says.2.2.1 mX1_says.2.2.2 ∈ TG := w_929
set_option maxRecDepth 8000 in
theorem w_940 : (Jvm.Cond.code ({ cls := "NextOneKnows$Why", name := "holds", desc := "(ILNextOneKnows$Trace;)I" } : Jvm.MethodName) prog_10_method_5_code (3 : Nat) (Option.some Jvm.ClassFile.FieldType.int)) ∈ TG := tg_4 147 rfl rfl
set_option maxRecDepth 8000 in
theorem kX8_holds : Cond.code mX8_holds.1 mX8_holds.2.1 mX8_holds.2.2.1 mX8_holds.2.2.2 ∈ TG := w_940
set_option maxRecDepth 8000 in
theorem w_943 : (Jvm.Cond.code ({ cls := "NextOneKnows$Written", name := "holds", desc := "(ILNextOneKnows$Trace;)I" } : Jvm.MethodName) prog_11_method_4_code (3 : Nat) (Option.some Jvm.ClassFile.FieldType.int)) ∈ TG := tg_4 150 rfl rfl
set_option maxRecDepth 8000 in
theorem kX9_holds : Cond.code mX9_holds.1 mX9_holds.2.1 mX9_holds.2.2.1 mX9_holds.2.2.2 ∈ TG := w_943
set_option maxRecDepth 8000 in
theorem w_949 : (Jvm.Cond.code ({ cls := "NextOneKnows$Wrong", name := "holds", desc := "(ILNextOneKnows$Trace;)I" } : Jvm.MethodName) prog_12_method_5_code (3 : Nat) (Option.some Jvm.ClassFile.FieldType.int)) ∈ TG := tg_4 156 rfl rfl
set_option maxRecDepth 8000 in
theorem kX10_holds : Cond.code mX10_holds.1 mX10_holds.2.1 mX10_holds.2.2.1 mX10_holds.2.2.2 ∈ TG := w_949
set_option maxRecDepth 8000 in
theorem w_953 : (Jvm.Cond.code ({ cls := "NextOneKnows$Doing", name := "holds", desc := "(ILNextOneKnows$Trace;)I" } : Jvm.MethodName) prog_3_method_8_code (3 : Nat) (Option.some Jvm.ClassFile.FieldType.int)) ∈ TG := tg_4 160 rfl rfl
set_option maxRecDepth 8000 in
theorem kX1_holds : Cond.code mX1_holds.1 mX1_holds.2.1 mX1_holds.2.2.1 mX1_holds.2.2.2 ∈ TG := w_953
set_option maxRecDepth 8000 in
theorem w_962 : (Jvm.Cond.code ({ cls := "NextOneKnows$Rare", name := "tells", desc := "(ILNextOneKnows$Trace;)I" } : Jvm.MethodName) prog_6_method_5_code (3 : Nat) (Option.some Jvm.ClassFile.FieldType.int)) ∈ TG := tg_4 169 rfl rfl
set_option maxRecDepth 8000 in
theorem kX4_tells : Cond.code mX4_tells.1 mX4_tells.2.1 mX4_tells.2.2.1 mX4_tells.2.2.2 ∈ TG := w_962
set_option maxRecDepth 8000 in
theorem w_970 : (Jvm.Cond.code ({ cls := "NextOneKnows$Tied", name := "tells", desc := "(ILNextOneKnows$Trace;)I" } : Jvm.MethodName) prog_8_method_4_code (3 : Nat) (Option.some Jvm.ClassFile.FieldType.int)) ∈ TG := tg_4 177 rfl rfl
set_option maxRecDepth 8000 in
theorem kX6_tells : Cond.code mX6_tells.1 mX6_tells.2.1 mX6_tells.2.2.1 mX6_tells.2.2.2 ∈ TG := w_970
set_option maxRecDepth 8000 in
theorem w_978 : (Jvm.Cond.code ({ cls := "NextOneKnows$Doing", name := "tells", desc := "(ILNextOneKnows$Trace;)I" } : Jvm.MethodName) prog_3_method_9_code (3 : Nat) (Option.some Jvm.ClassFile.FieldType.int)) ∈ TG := tg_4 185 rfl rfl
set_option maxRecDepth 8000 in
theorem kX1_tells : Cond.code mX1_tells.1 mX1_tells.2.1 mX1_tells.2.2.1 mX1_tells.2.2.2 ∈ TG := w_978
set_option maxRecDepth 8000 in
theorem w_983 : (Jvm.Cond.code ({ cls := "NextOneKnows", name := "trace", desc := "(I)I" } : Jvm.MethodName) prog_1_method_30_code (2 : Nat) (Option.some Jvm.ClassFile.FieldType.int)) ∈ TG := tg_4 190 rfl rfl
set_option maxRecDepth 8000 in
theorem kX11_trace : Cond.code mX11_trace.1 mX11_trace.2.1 mX11_trace.2.2.1 mX11_trace.2.2.2 ∈ TG := w_983
set_option maxRecDepth 8000 in
theorem w_987 : (Jvm.Cond.code ({ cls := "NextOneKnows", name := "taken", desc := "(II)I" } : Jvm.MethodName) prog_1_method_31_code (4 : Nat) (Option.some Jvm.ClassFile.FieldType.int)) ∈ TG := tg_4 194 rfl rfl
set_option maxRecDepth 8000 in
theorem kX11_taken : Cond.code mX11_taken.1 mX11_taken.2.1 mX11_taken.2.2.1 mX11_taken.2.2.2 ∈ TG := w_987
set_option maxRecDepth 8000 in
theorem w_990 : (Jvm.Cond.code ({ cls := "NextOneKnows", name := "isOfKind", desc := "(LNextOneKnows$Doing;I)Z" } : Jvm.MethodName) prog_1_method_43_code (2 : Nat) (Option.some Jvm.ClassFile.FieldType.boolean)) ∈ TG := tg_4 197 rfl rfl
set_option maxRecDepth 8000 in
theorem kX11_isOfKind : Cond.code mX11_isOfKind.1 mX11_isOfKind.2.1 mX11_isOfKind.2.2.1 mX11_isOfKind.2.2.2 ∈ TG := w_990
set_option maxRecDepth 8000 in
theorem w_994 : (Jvm.Cond.code ({ cls := "NextOneKnows", name := "count", desc := "(I)I" } : Jvm.MethodName) prog_1_method_32_code (2 : Nat) (Option.some Jvm.ClassFile.FieldType.int)) ∈ TG := tg_4 201 rfl rfl
set_option maxRecDepth 8000 in
theorem kX11_count : Cond.code mX11_count.1 mX11_count.2.1 mX11_count.2.2.1 mX11_count.2.2.2 ∈ TG := w_994
set_option maxRecDepth 8000 in
theorem w_998 : (Jvm.Cond.code ({ cls := "NextOneKnows", name := "tape", desc := "(III)I" } : Jvm.MethodName) prog_1_method_33_code (4 : Nat) (Option.some Jvm.ClassFile.FieldType.int)) ∈ TG := tg_4 205 rfl rfl
set_option maxRecDepth 8000 in
theorem kX11_tape : Cond.code mX11_tape.1 mX11_tape.2.1 mX11_tape.2.2.1 mX11_tape.2.2.2 ∈ TG := w_998
set_option maxRecDepth 8000 in
theorem w_1001 : (Jvm.Cond.code ({ cls := "java/util/Arrays", name := "fill", desc := "([JJ)V" } : Jvm.MethodName) prog_18_method_101_code (5 : Nat) (Option.none : Option Jvm.ClassFile.FieldType)) ∈ TG := tg_4 208 rfl rfl
set_option maxRecDepth 8000 in
theorem kJ7_fill_d0a16 : Cond.code mJ7_fill_d0a16.1 mJ7_fill_d0a16.2.1 mJ7_fill_d0a16.2.2.1 mJ7_fill_d0a16.2.2.2 ∈ TG := w_1001
set_option maxRecDepth 8000 in
theorem w_1005 : (Jvm.Cond.code ({ cls := "NextOneKnows", name := "item", desc := "(IIJ)I" } : Jvm.MethodName) prog_1_method_34_code (5 : Nat) (Option.some Jvm.ClassFile.FieldType.int)) ∈ TG := tg_4 212 rfl rfl
set_option maxRecDepth 8000 in
theorem kX11_item : Cond.code mX11_item.1 mX11_item.2.1 mX11_item.2.2.1 mX11_item.2.2.2 ∈ TG := w_1005
set_option maxRecDepth 8000 in
theorem w_1008 : (Jvm.Cond.code ({ cls := "NextOneKnows", name := "cut", desc := "(JI)J" } : Jvm.MethodName) prog_1_method_41_code (3 : Nat) (Option.some Jvm.ClassFile.FieldType.long)) ∈ TG := tg_4 215 rfl rfl
set_option maxRecDepth 8000 in
theorem kX11_cut : Cond.code mX11_cut.1 mX11_cut.2.1 mX11_cut.2.2.1 mX11_cut.2.2.2 ∈ TG := w_1008
set_option maxRecDepth 8000 in
theorem w_1012 : (Jvm.Cond.code ({ cls := "NextOneKnows", name := "read", desc := "(II)J" } : Jvm.MethodName) prog_1_method_35_code (3 : Nat) (Option.some Jvm.ClassFile.FieldType.long)) ∈ TG := tg_4 219 rfl rfl
set_option maxRecDepth 8000 in
theorem kX11_read : Cond.code mX11_read.1 mX11_read.2.1 mX11_read.2.2.1 mX11_read.2.2.2 ∈ TG := w_1012
set_option maxRecDepth 8000 in
theorem w_1016 : (Jvm.Cond.code ({ cls := "NextOneKnows", name := "shift", desc := "(IIIII)I" } : Jvm.MethodName) prog_1_method_36_code (6 : Nat) (Option.some Jvm.ClassFile.FieldType.int)) ∈ TG := tg_4 223 rfl rfl
set_option maxRecDepth 8000 in
theorem kX11_shift : Cond.code mX11_shift.1 mX11_shift.2.1 mX11_shift.2.2.1 mX11_shift.2.2.2 ∈ TG := w_1016
set_option maxRecDepth 8000 in
theorem w_1022 : (Jvm.Cond.code ({ cls := "NextOneKnowsModel", name := "<init>", desc := "()V" } : Jvm.MethodName) prog_14_method_1_code (1 : Nat) (Option.none : Option Jvm.ClassFile.FieldType)) ∈ TG := tg_4 229 rfl rfl
set_option maxRecDepth 8000 in
theorem kX12_init : Cond.code mX12_init.1 mX12_init.2.1 mX12_init.2.2.1 mX12_init.2.2.2 ∈ TG := w_1022
set_option maxRecDepth 8000 in
theorem w_1248 : (Jvm.Cond.code ({ cls := "NextOneKnowsModel", name := "doing", desc := "(IIIIII)I" } : Jvm.MethodName) prog_14_method_7_code (8 : Nat) (Option.some Jvm.ClassFile.FieldType.int)) ∈ TG := tg_5 215 rfl rfl
set_option maxRecDepth 8000 in
theorem kX12_doing : Cond.code mX12_doing.1 mX12_doing.2.1 mX12_doing.2.2.1 mX12_doing.2.2.2 ∈ TG := w_1248
set_option maxRecDepth 8000 in
theorem w_1252 : (Jvm.Cond.code ({ cls := "NextOneKnowsModel", name := "in", desc := "(III)Z" } : Jvm.MethodName) prog_14_method_2_code (4 : Nat) (Option.some Jvm.ClassFile.FieldType.boolean)) ∈ TG := tg_5 219 rfl rfl
set_option maxRecDepth 8000 in
theorem kX12_in : Cond.code mX12_in.1 mX12_in.2.1 mX12_in.2.2.1 mX12_in.2.2.2 ∈ TG := w_1252
set_option maxRecDepth 8000 in
theorem w_1256 : (Jvm.Cond.code ({ cls := "NextOneKnowsModel", name := "with", desc := "(IIZ)I" } : Jvm.MethodName) prog_14_method_6_code (4 : Nat) (Option.some Jvm.ClassFile.FieldType.int)) ∈ TG := tg_5 223 rfl rfl
set_option maxRecDepth 8000 in
theorem kX12_with : Cond.code mX12_with.1 mX12_with.2.1 mX12_with.2.2.1 mX12_with.2.2.2 ∈ TG := w_1256
set_option maxRecDepth 8000 in
theorem w_1260 : (Jvm.Cond.code ({ cls := "NextOneKnowsModel", name := "needless", desc := "(IZ)I" } : Jvm.MethodName) prog_14_method_8_code (4 : Nat) (Option.some Jvm.ClassFile.FieldType.int)) ∈ TG := tg_5 227 rfl rfl
set_option maxRecDepth 8000 in
theorem kX12_needless : Cond.code mX12_needless.1 mX12_needless.2.1 mX12_needless.2.2.1 mX12_needless.2.2.2 ∈ TG := w_1260
set_option maxRecDepth 8000 in
theorem w_1264 : (Jvm.Cond.code ({ cls := "NextOneKnowsModel", name := "isDoing", desc := "(I)Z" } : Jvm.MethodName) prog_14_method_4_code (2 : Nat) (Option.some Jvm.ClassFile.FieldType.boolean)) ∈ TG := tg_5 231 rfl rfl
set_option maxRecDepth 8000 in
theorem kX12_isDoing : Cond.code mX12_isDoing.1 mX12_isDoing.2.1 mX12_isDoing.2.2.1 mX12_isDoing.2.2.2 ∈ TG := w_1264
set_option maxRecDepth 8000 in
theorem w_1268 : (Jvm.Cond.code ({ cls := "NextOneKnowsModel", name := "has", desc := "(II)Z" } : Jvm.MethodName) prog_14_method_3_code (3 : Nat) (Option.some Jvm.ClassFile.FieldType.boolean)) ∈ TG := tg_5 235 rfl rfl
set_option maxRecDepth 8000 in
theorem kX12_has : Cond.code mX12_has.1 mX12_has.2.1 mX12_has.2.2.1 mX12_has.2.2.2 ∈ TG := w_1268
set_option maxRecDepth 8000 in
theorem w_1272 : (Jvm.Cond.code ({ cls := "NextOneKnowsModel", name := "learn", desc := "(IZ)I" } : Jvm.MethodName) prog_14_method_9_code (4 : Nat) (Option.some Jvm.ClassFile.FieldType.int)) ∈ TG := tg_5 239 rfl rfl
set_option maxRecDepth 8000 in
theorem kX12_learn : Cond.code mX12_learn.1 mX12_learn.2.1 mX12_learn.2.2.1 mX12_learn.2.2.2 ∈ TG := w_1272
set_option maxRecDepth 8000 in
theorem w_1276 : (Jvm.Cond.code ({ cls := "NextOneKnowsModel", name := "odds", desc := "(II)I" } : Jvm.MethodName) prog_14_method_10_code (4 : Nat) (Option.some Jvm.ClassFile.FieldType.int)) ∈ TG := tg_6 3 rfl rfl
set_option maxRecDepth 8000 in
theorem kX12_odds : Cond.code mX12_odds.1 mX12_odds.2.1 mX12_odds.2.2.1 mX12_odds.2.2.2 ∈ TG := w_1276
set_option maxRecDepth 8000 in
theorem w_1280 : (Jvm.Cond.code ({ cls := "NextOneKnowsModel", name := "hours", desc := "(II)I" } : Jvm.MethodName) prog_14_method_11_code (4 : Nat) (Option.some Jvm.ClassFile.FieldType.int)) ∈ TG := tg_6 7 rfl rfl
set_option maxRecDepth 8000 in
theorem kX12_hours : Cond.code mX12_hours.1 mX12_hours.2.1 mX12_hours.2.2.1 mX12_hours.2.2.2 ∈ TG := w_1280
set_option maxRecDepth 8000 in
theorem w_1284 : (Jvm.Cond.code ({ cls := "NextOneKnowsModel", name := "isWay", desc := "(I)Z" } : Jvm.MethodName) prog_14_method_5_code (2 : Nat) (Option.some Jvm.ClassFile.FieldType.boolean)) ∈ TG := tg_6 11 rfl rfl
set_option maxRecDepth 8000 in
theorem kX12_isWay : Cond.code mX12_isWay.1 mX12_isWay.2.1 mX12_isWay.2.2.1 mX12_isWay.2.2.2 ∈ TG := w_1284
set_option maxRecDepth 8000 in
theorem w_1288 : (Jvm.Cond.code ({ cls := "NextOneKnowsModel", name := "feed", desc := "(I)I" } : Jvm.MethodName) prog_14_method_12_code (2 : Nat) (Option.some Jvm.ClassFile.FieldType.int)) ∈ TG := tg_6 15 rfl rfl
set_option maxRecDepth 8000 in
theorem kX12_feed : Cond.code mX12_feed.1 mX12_feed.2.1 mX12_feed.2.2.1 mX12_feed.2.2.2 ∈ TG := w_1288
set_option maxRecDepth 8000 in
theorem w_1292 : (Jvm.Cond.code ({ cls := "NextOneKnowsModel", name := "post", desc := "()I" } : Jvm.MethodName) prog_14_method_28_code (2 : Nat) (Option.some Jvm.ClassFile.FieldType.int)) ∈ TG := tg_6 19 rfl rfl
set_option maxRecDepth 8000 in
theorem kX12_post : Cond.code mX12_post.1 mX12_post.2.1 mX12_post.2.2.1 mX12_post.2.2.2 ∈ TG := w_1292
set_option maxRecDepth 8000 in
theorem w_1296 : (Jvm.Cond.code ({ cls := "NextOneKnowsModel", name := "goesText", desc := "(I)Z" } : Jvm.MethodName) prog_14_method_27_code (3 : Nat) (Option.some Jvm.ClassFile.FieldType.boolean)) ∈ TG := tg_6 23 rfl rfl
set_option maxRecDepth 8000 in
theorem kX12_goesText : Cond.code mX12_goesText.1 mX12_goesText.2.1 mX12_goesText.2.2.1 mX12_goesText.2.2.2 ∈ TG := w_1296
set_option maxRecDepth 8000 in
theorem w_1300 : (Jvm.Cond.code ({ cls := "NextOneKnowsModel", name := "takesClause", desc := "(I)Z" } : Jvm.MethodName) prog_14_method_26_code (2 : Nat) (Option.some Jvm.ClassFile.FieldType.boolean)) ∈ TG := tg_6 27 rfl rfl
set_option maxRecDepth 8000 in
theorem kX12_takesClause : Cond.code mX12_takesClause.1 mX12_takesClause.2.1 mX12_takesClause.2.2.1 mX12_takesClause.2.2.2 ∈ TG := w_1300
set_option maxRecDepth 8000 in
theorem w_1304 : (Jvm.Cond.code ({ cls := "NextOneKnowsModel", name := "takesHead", desc := "(I)Z" } : Jvm.MethodName) prog_14_method_25_code (3 : Nat) (Option.some Jvm.ClassFile.FieldType.boolean)) ∈ TG := tg_6 31 rfl rfl
set_option maxRecDepth 8000 in
theorem kX12_takesHead : Cond.code mX12_takesHead.1 mX12_takesHead.2.1 mX12_takesHead.2.2.1 mX12_takesHead.2.2.2 ∈ TG := w_1304
set_option maxRecDepth 8000 in
theorem w_1308 : (Jvm.Cond.code ({ cls := "NextOneKnowsModel", name := "second", desc := "()I" } : Jvm.MethodName) prog_14_method_14_code (1 : Nat) (Option.some Jvm.ClassFile.FieldType.int)) ∈ TG := tg_6 35 rfl rfl
set_option maxRecDepth 8000 in
theorem kX12_second : Cond.code mX12_second.1 mX12_second.2.1 mX12_second.2.2.1 mX12_second.2.2.2 ∈ TG := w_1308
set_option maxRecDepth 8000 in
theorem w_1312 : (Jvm.Cond.code ({ cls := "NextOneKnowsModel", name := "next", desc := "()I" } : Jvm.MethodName) prog_14_method_13_code (1 : Nat) (Option.some Jvm.ClassFile.FieldType.int)) ∈ TG := tg_6 39 rfl rfl
set_option maxRecDepth 8000 in
theorem kX12_next : Cond.code mX12_next.1 mX12_next.2.1 mX12_next.2.2.1 mX12_next.2.2.2 ∈ TG := w_1312
set_option maxRecDepth 8000 in
theorem w_1316 : (Jvm.Cond.code ({ cls := "NextOneKnowsModel", name := "takesWord", desc := "(II)Z" } : Jvm.MethodName) prog_14_method_16_code (4 : Nat) (Option.some Jvm.ClassFile.FieldType.boolean)) ∈ TG := tg_6 43 rfl rfl
set_option maxRecDepth 8000 in
theorem kX12_takesWord : Cond.code mX12_takesWord.1 mX12_takesWord.2.1 mX12_takesWord.2.2.1 mX12_takesWord.2.2.2 ∈ TG := w_1316
set_option maxRecDepth 8000 in
theorem w_1320 : (Jvm.Cond.code ({ cls := "NextOneKnowsModel", name := "takes", desc := "(I)Z" } : Jvm.MethodName) prog_14_method_15_code (2 : Nat) (Option.some Jvm.ClassFile.FieldType.boolean)) ∈ TG := tg_6 47 rfl rfl
set_option maxRecDepth 8000 in
theorem kX12_takes : Cond.code mX12_takes.1 mX12_takes.2.1 mX12_takes.2.2.1 mX12_takes.2.2.2 ∈ TG := w_1320
set_option maxRecDepth 8000 in
theorem w_1324 : (Jvm.Cond.code ({ cls := "NextOneKnowsModel", name := "takesNumber", desc := "()Z" } : Jvm.MethodName) prog_14_method_18_code (2 : Nat) (Option.some Jvm.ClassFile.FieldType.boolean)) ∈ TG := tg_6 51 rfl rfl
set_option maxRecDepth 8000 in
theorem kX12_takesNumber : Cond.code mX12_takesNumber.1 mX12_takesNumber.2.1 mX12_takesNumber.2.2.1 mX12_takesNumber.2.2.2 ∈ TG := w_1324
set_option maxRecDepth 8000 in
theorem w_1328 : (Jvm.Cond.code ({ cls := "NextOneKnowsModel", name := "isDigit", desc := "()Z" } : Jvm.MethodName) prog_14_method_17_code (1 : Nat) (Option.some Jvm.ClassFile.FieldType.boolean)) ∈ TG := tg_6 55 rfl rfl
set_option maxRecDepth 8000 in
theorem kX12_isDigit : Cond.code mX12_isDigit.1 mX12_isDigit.2.1 mX12_isDigit.2.2.1 mX12_isDigit.2.2.2 ∈ TG := w_1328
set_option maxRecDepth 8000 in
theorem w_1332 : (Jvm.Cond.code ({ cls := "NextOneKnowsModel", name := "takesE", desc := "(I)Z" } : Jvm.MethodName) prog_14_method_24_code (4 : Nat) (Option.some Jvm.ClassFile.FieldType.boolean)) ∈ TG := tg_6 59 rfl rfl
set_option maxRecDepth 8000 in
theorem kX12_takesE : Cond.code mX12_takesE.1 mX12_takesE.2.1 mX12_takesE.2.2.1 mX12_takesE.2.2.2 ∈ TG := w_1332
set_option maxRecDepth 8000 in
theorem w_1336 : (Jvm.Cond.code ({ cls := "NextOneKnowsModel", name := "takesTest", desc := "()Z" } : Jvm.MethodName) prog_14_method_23_code (3 : Nat) (Option.some Jvm.ClassFile.FieldType.boolean)) ∈ TG := tg_6 63 rfl rfl
set_option maxRecDepth 8000 in
theorem kX12_takesTest : Cond.code mX12_takesTest.1 mX12_takesTest.2.1 mX12_takesTest.2.2.1 mX12_takesTest.2.2.2 ∈ TG := w_1336
set_option maxRecDepth 8000 in
theorem w_1340 : (Jvm.Cond.code ({ cls := "NextOneKnowsModel", name := "place", desc := "(I)I" } : Jvm.MethodName) prog_14_method_22_code (2 : Nat) (Option.some Jvm.ClassFile.FieldType.int)) ∈ TG := tg_6 67 rfl rfl
set_option maxRecDepth 8000 in
theorem kX12_place : Cond.code mX12_place.1 mX12_place.2.1 mX12_place.2.2.1 mX12_place.2.2.2 ∈ TG := w_1340
set_option maxRecDepth 8000 in
theorem w_1344 : (Jvm.Cond.code ({ cls := "NextOneKnowsModel", name := "put", desc := "(I)V" } : Jvm.MethodName) prog_14_method_19_code (2 : Nat) (Option.none : Option Jvm.ClassFile.FieldType)) ∈ TG := tg_6 71 rfl rfl
set_option maxRecDepth 8000 in
theorem kX12_put : Cond.code mX12_put.1 mX12_put.2.1 mX12_put.2.2.1 mX12_put.2.2.2 ∈ TG := w_1344
set_option maxRecDepth 8000 in
theorem w_1348 : (Jvm.Cond.code ({ cls := "NextOneKnowsModel", name := "whole", desc := "()V" } : Jvm.MethodName) prog_14_method_20_code (1 : Nat) (Option.none : Option Jvm.ClassFile.FieldType)) ∈ TG := tg_6 75 rfl rfl
set_option maxRecDepth 8000 in
theorem kX12_whole : Cond.code mX12_whole.1 mX12_whole.2.1 mX12_whole.2.2.1 mX12_whole.2.2.2 ∈ TG := w_1348
set_option maxRecDepth 8000 in
theorem w_1352 : (Jvm.Cond.code ({ cls := "NextOneKnowsModel", name := "settle", desc := "(I)V" } : Jvm.MethodName) prog_14_method_21_code (2 : Nat) (Option.none : Option Jvm.ClassFile.FieldType)) ∈ TG := tg_6 79 rfl rfl
set_option maxRecDepth 8000 in
theorem kX12_settle : Cond.code mX12_settle.1 mX12_settle.2.1 mX12_settle.2.2.1 mX12_settle.2.2.2 ∈ TG := w_1352
set_option maxRecDepth 8000 in
theorem w_1356 : (Jvm.Cond.code ({ cls := "NextOneKnowsModel", name := "of", desc := "(II)I" } : Jvm.MethodName) prog_14_method_40_code (3 : Nat) (Option.some Jvm.ClassFile.FieldType.int)) ∈ TG := tg_6 83 rfl rfl
set_option maxRecDepth 8000 in
theorem kX12_of : Cond.code mX12_of.1 mX12_of.2.1 mX12_of.2.2.1 mX12_of.2.2.2 ∈ TG := w_1356
set_option maxRecDepth 8000 in
theorem w_1360 : (Jvm.Cond.code ({ cls := "NextOneKnowsModel", name := "laySaid", desc := "()V" } : Jvm.MethodName) prog_14_method_36_code (3 : Nat) (Option.none : Option Jvm.ClassFile.FieldType)) ∈ TG := tg_6 87 rfl rfl
set_option maxRecDepth 8000 in
theorem kX12_laySaid : Cond.code mX12_laySaid.1 mX12_laySaid.2.1 mX12_laySaid.2.2.1 mX12_laySaid.2.2.2 ∈ TG := w_1360
set_option maxRecDepth 8000 in
theorem w_1364 : (Jvm.Cond.code ({ cls := "NextOneKnowsModel", name := "sumOf", desc := "(IIII)I" } : Jvm.MethodName) prog_14_method_34_code (7 : Nat) (Option.some Jvm.ClassFile.FieldType.int)) ∈ TG := tg_6 91 rfl rfl
set_option maxRecDepth 8000 in
theorem kX12_sumOf : Cond.code mX12_sumOf.1 mX12_sumOf.2.1 mX12_sumOf.2.2.1 mX12_sumOf.2.2.2 ∈ TG := w_1364
set_option maxRecDepth 8000 in
theorem w_1368 : (Jvm.Cond.code ({ cls := "NextOneKnowsModel", name := "begin", desc := "()I" } : Jvm.MethodName) prog_14_method_29_code (1 : Nat) (Option.some Jvm.ClassFile.FieldType.int)) ∈ TG := tg_6 95 rfl rfl
set_option maxRecDepth 8000 in
theorem kX12_begin : Cond.code mX12_begin.1 mX12_begin.2.1 mX12_begin.2.2.1 mX12_begin.2.2.2 ∈ TG := w_1368
set_option maxRecDepth 8000 in
theorem w_1372 : (Jvm.Cond.code ({ cls := "NextOneKnowsModel", name := "behind", desc := "()I" } : Jvm.MethodName) prog_14_method_30_code (1 : Nat) (Option.some Jvm.ClassFile.FieldType.int)) ∈ TG := tg_6 99 rfl rfl
set_option maxRecDepth 8000 in
theorem kX12_behind : Cond.code mX12_behind.1 mX12_behind.2.1 mX12_behind.2.2.1 mX12_behind.2.2.2 ∈ TG := w_1372
set_option maxRecDepth 8000 in
theorem w_1376 : (Jvm.Cond.code ({ cls := "NextOneKnowsModel", name := "holds", desc := "(IIII)Z" } : Jvm.MethodName) prog_14_method_33_code (10 : Nat) (Option.some Jvm.ClassFile.FieldType.boolean)) ∈ TG := tg_6 103 rfl rfl
set_option maxRecDepth 8000 in
theorem kX12_holds : Cond.code mX12_holds.1 mX12_holds.2.1 mX12_holds.2.2.1 mX12_holds.2.2.2 ∈ TG := w_1376
set_option maxRecDepth 8000 in
theorem w_1380 : (Jvm.Cond.code ({ cls := "NextOneKnowsModel", name := "factOf", desc := "(IIII)I" } : Jvm.MethodName) prog_14_method_32_code (5 : Nat) (Option.some Jvm.ClassFile.FieldType.int)) ∈ TG := tg_6 107 rfl rfl
set_option maxRecDepth 8000 in
theorem kX12_factOf : Cond.code mX12_factOf.1 mX12_factOf.2.1 mX12_factOf.2.2.1 mX12_factOf.2.2.2 ∈ TG := w_1380
set_option maxRecDepth 8000 in
theorem w_1384 : (Jvm.Cond.code ({ cls := "NextOneKnowsModel", name := "saidOf", desc := "(I)I" } : Jvm.MethodName) prog_14_method_38_code (3 : Nat) (Option.some Jvm.ClassFile.FieldType.int)) ∈ TG := tg_6 111 rfl rfl
set_option maxRecDepth 8000 in
theorem kX12_saidOf : Cond.code mX12_saidOf.1 mX12_saidOf.2.1 mX12_saidOf.2.2.1 mX12_saidOf.2.2.2 ∈ TG := w_1384
set_option maxRecDepth 8000 in
theorem w_1388 : (Jvm.Cond.code ({ cls := "NextOneKnowsModel", name := "saidAll", desc := "(II)I" } : Jvm.MethodName) prog_14_method_37_code (5 : Nat) (Option.some Jvm.ClassFile.FieldType.int)) ∈ TG := tg_6 115 rfl rfl
set_option maxRecDepth 8000 in
theorem kX12_saidAll : Cond.code mX12_saidAll.1 mX12_saidAll.2.1 mX12_saidAll.2.2.1 mX12_saidAll.2.2.2 ∈ TG := w_1388
set_option maxRecDepth 8000 in
theorem w_1392 : (Jvm.Cond.code ({ cls := "NextOneKnowsModel", name := "dear", desc := "(II)I" } : Jvm.MethodName) prog_14_method_35_code (3 : Nat) (Option.some Jvm.ClassFile.FieldType.int)) ∈ TG := tg_6 119 rfl rfl
set_option maxRecDepth 8000 in
theorem kX12_dear : Cond.code mX12_dear.1 mX12_dear.2.1 mX12_dear.2.2.1 mX12_dear.2.2.2 ∈ TG := w_1392
set_option maxRecDepth 8000 in
theorem w_1396 : (Jvm.Cond.code ({ cls := "NextOneKnowsModel", name := "told", desc := "(I)I" } : Jvm.MethodName) prog_14_method_41_code (2 : Nat) (Option.some Jvm.ClassFile.FieldType.int)) ∈ TG := tg_6 123 rfl rfl
set_option maxRecDepth 8000 in
theorem kX12_told : Cond.code mX12_told.1 mX12_told.2.1 mX12_told.2.2.1 mX12_told.2.2.2 ∈ TG := w_1396
set_option maxRecDepth 8000 in
theorem w_1400 : (Jvm.Cond.code ({ cls := "NextOneKnowsModel", name := "lastOf", desc := "(II)I" } : Jvm.MethodName) prog_14_method_31_code (5 : Nat) (Option.some Jvm.ClassFile.FieldType.int)) ∈ TG := tg_6 127 rfl rfl
set_option maxRecDepth 8000 in
theorem kX12_lastOf : Cond.code mX12_lastOf.1 mX12_lastOf.2.1 mX12_lastOf.2.2.1 mX12_lastOf.2.2.2 ∈ TG := w_1400
set_option maxRecDepth 8000 in
theorem w_1404 : (Jvm.Cond.code ({ cls := "NextOneKnowsModel", name := "said", desc := "(II)I" } : Jvm.MethodName) prog_14_method_42_code (3 : Nat) (Option.some Jvm.ClassFile.FieldType.int)) ∈ TG := tg_6 131 rfl rfl
set_option maxRecDepth 8000 in
theorem kX12_said : Cond.code mX12_said.1 mX12_said.2.1 mX12_said.2.2.1 mX12_said.2.2.2 ∈ TG := w_1404
set_option maxRecDepth 8000 in
theorem w_1408 : (Jvm.Cond.code ({ cls := "NextOneKnowsModel", name := "hand", desc := "()I" } : Jvm.MethodName) prog_14_method_44_code (2 : Nat) (Option.some Jvm.ClassFile.FieldType.int)) ∈ TG := tg_6 135 rfl rfl
set_option maxRecDepth 8000 in
theorem kX12_hand : Cond.code mX12_hand.1 mX12_hand.2.1 mX12_hand.2.2.1 mX12_hand.2.2.2 ∈ TG := w_1408
set_option maxRecDepth 8000 in
theorem w_1412 : (Jvm.Cond.code ({ cls := "NextOneKnowsModel", name := "ones", desc := "(I)I" } : Jvm.MethodName) prog_14_method_43_code (4 : Nat) (Option.some Jvm.ClassFile.FieldType.int)) ∈ TG := tg_6 139 rfl rfl
set_option maxRecDepth 8000 in
theorem kX12_ones : Cond.code mX12_ones.1 mX12_ones.2.1 mX12_ones.2.2.1 mX12_ones.2.2.2 ∈ TG := w_1412
set_option maxRecDepth 8000 in
theorem w_1416 : (Jvm.Cond.code ({ cls := "NextOneKnowsModel", name := "over", desc := "()I" } : Jvm.MethodName) prog_14_method_39_code (3 : Nat) (Option.some Jvm.ClassFile.FieldType.int)) ∈ TG := tg_6 143 rfl rfl
set_option maxRecDepth 8000 in
theorem kX12_over : Cond.code mX12_over.1 mX12_over.2.1 mX12_over.2.2.1 mX12_over.2.2.2 ∈ TG := w_1416
set_option maxRecDepth 8000 in
theorem w_1420 : (Jvm.Cond.code ({ cls := "NextOneKnowsModel", name := "go", desc := "(I)I" } : Jvm.MethodName) prog_14_method_51_code (2 : Nat) (Option.some Jvm.ClassFile.FieldType.int)) ∈ TG := tg_6 147 rfl rfl
set_option maxRecDepth 8000 in
theorem kX12_go : Cond.code mX12_go.1 mX12_go.2.1 mX12_go.2.2.1 mX12_go.2.2.2 ∈ TG := w_1420
set_option maxRecDepth 8000 in
theorem w_1424 : (Jvm.Cond.code ({ cls := "NextOneKnowsModel", name := "begins", desc := "(II)V" } : Jvm.MethodName) prog_14_method_47_code (3 : Nat) (Option.none : Option Jvm.ClassFile.FieldType)) ∈ TG := tg_6 151 rfl rfl
set_option maxRecDepth 8000 in
theorem kX12_begins : Cond.code mX12_begins.1 mX12_begins.2.1 mX12_begins.2.2.1 mX12_begins.2.2.2 ∈ TG := w_1424
set_option maxRecDepth 8000 in
theorem w_1428 : (Jvm.Cond.code ({ cls := "NextOneKnowsModel", name := "goWeeks", desc := "(I)V" } : Jvm.MethodName) prog_14_method_49_code (5 : Nat) (Option.none : Option Jvm.ClassFile.FieldType)) ∈ TG := tg_6 155 rfl rfl
set_option maxRecDepth 8000 in
theorem kX12_goWeeks : Cond.code mX12_goWeeks.1 mX12_goWeeks.2.1 mX12_goWeeks.2.2.1 mX12_goWeeks.2.2.2 ∈ TG := w_1428
set_option maxRecDepth 8000 in
theorem w_1432 : (Jvm.Cond.code ({ cls := "NextOneKnowsModel", name := "goWeek", desc := "(II)V" } : Jvm.MethodName) prog_14_method_48_code (5 : Nat) (Option.none : Option Jvm.ClassFile.FieldType)) ∈ TG := tg_6 159 rfl rfl
set_option maxRecDepth 8000 in
theorem kX12_goWeek : Cond.code mX12_goWeek.1 mX12_goWeek.2.1 mX12_goWeek.2.2.1 mX12_goWeek.2.2.2 ∈ TG := w_1432
set_option maxRecDepth 8000 in
theorem w_1436 : (Jvm.Cond.code ({ cls := "NextOneKnowsModel", name := "comes", desc := "(II)Z" } : Jvm.MethodName) prog_14_method_45_code (3 : Nat) (Option.some Jvm.ClassFile.FieldType.boolean)) ∈ TG := tg_6 163 rfl rfl
set_option maxRecDepth 8000 in
theorem kX12_comes : Cond.code mX12_comes.1 mX12_comes.2.1 mX12_comes.2.2.1 mX12_comes.2.2.2 ∈ TG := w_1436
set_option maxRecDepth 8000 in
theorem w_1440 : (Jvm.Cond.code ({ cls := "NextOneKnowsModel", name := "learnsBy", desc := "(I)Z" } : Jvm.MethodName) prog_14_method_46_code (2 : Nat) (Option.some Jvm.ClassFile.FieldType.boolean)) ∈ TG := tg_6 167 rfl rfl
set_option maxRecDepth 8000 in
theorem kX12_learnsBy : Cond.code mX12_learnsBy.1 mX12_learnsBy.2.1 mX12_learnsBy.2.2.1 mX12_learnsBy.2.2.2 ∈ TG := w_1440
set_option maxRecDepth 8000 in
theorem w_1444 : (Jvm.Cond.code ({ cls := "NextOneKnowsModel", name := "run", desc := "(II)I" } : Jvm.MethodName) prog_14_method_52_code (3 : Nat) (Option.some Jvm.ClassFile.FieldType.int)) ∈ TG := tg_6 171 rfl rfl
set_option maxRecDepth 8000 in
theorem kX12_run : Cond.code mX12_run.1 mX12_run.2.1 mX12_run.2.2.1 mX12_run.2.2.2 ∈ TG := w_1444
set_option maxRecDepth 8000 in
theorem w_1448 : (Jvm.Cond.code ({ cls := "NextOneKnowsModel", name := "split", desc := "(III)I" } : Jvm.MethodName) prog_14_method_56_code (9 : Nat) (Option.some Jvm.ClassFile.FieldType.int)) ∈ TG := tg_6 175 rfl rfl
set_option maxRecDepth 8000 in
theorem kX12_split : Cond.code mX12_split.1 mX12_split.2.1 mX12_split.2.2.1 mX12_split.2.2.2 ∈ TG := w_1448
set_option maxRecDepth 8000 in
theorem w_1452 : (Jvm.Cond.code ({ cls := "NextOneKnowsModel", name := "keepHours", desc := "()V" } : Jvm.MethodName) prog_14_method_53_code (2 : Nat) (Option.none : Option Jvm.ClassFile.FieldType)) ∈ TG := tg_6 179 rfl rfl
set_option maxRecDepth 8000 in
theorem kX12_keepHours : Cond.code mX12_keepHours.1 mX12_keepHours.2.1 mX12_keepHours.2.2.1 mX12_keepHours.2.2.2 ∈ TG := w_1452
set_option maxRecDepth 8000 in
theorem w_1456 : (Jvm.Cond.code ({ cls := "NextOneKnowsModel", name := "costHanded", desc := "(I)I" } : Jvm.MethodName) prog_14_method_55_code (2 : Nat) (Option.some Jvm.ClassFile.FieldType.int)) ∈ TG := tg_6 183 rfl rfl
set_option maxRecDepth 8000 in
theorem kX12_costHanded : Cond.code mX12_costHanded.1 mX12_costHanded.2.1 mX12_costHanded.2.2.1 mX12_costHanded.2.2.2 ∈ TG := w_1456
set_option maxRecDepth 8000 in
theorem w_1460 : (Jvm.Cond.code ({ cls := "NextOneKnowsModel", name := "costBy", desc := "(III)I" } : Jvm.MethodName) prog_14_method_50_code (4 : Nat) (Option.some Jvm.ClassFile.FieldType.int)) ∈ TG := tg_6 187 rfl rfl
set_option maxRecDepth 8000 in
theorem kX12_costBy : Cond.code mX12_costBy.1 mX12_costBy.2.1 mX12_costBy.2.2.1 mX12_costBy.2.2.2 ∈ TG := w_1460
set_option maxRecDepth 8000 in
theorem w_1464 : (Jvm.Cond.code ({ cls := "NextOneKnowsModel", name := "putHours", desc := "()V" } : Jvm.MethodName) prog_14_method_54_code (2 : Nat) (Option.none : Option Jvm.ClassFile.FieldType)) ∈ TG := tg_6 191 rfl rfl
set_option maxRecDepth 8000 in
theorem kX12_putHours : Cond.code mX12_putHours.1 mX12_putHours.2.1 mX12_putHours.2.2.1 mX12_putHours.2.2.2 ∈ TG := w_1464
set_option maxRecDepth 8000 in
theorem w_1468 : (Jvm.Cond.code ({ cls := "NextOneKnowsModel", name := "more", desc := "(II)I" } : Jvm.MethodName) prog_14_method_57_code (5 : Nat) (Option.some Jvm.ClassFile.FieldType.int)) ∈ TG := tg_6 195 rfl rfl
set_option maxRecDepth 8000 in
theorem kX12_more : Cond.code mX12_more.1 mX12_more.2.1 mX12_more.2.2.1 mX12_more.2.2.2 ∈ TG := w_1468
set_option maxRecDepth 8000 in
theorem w_1472 : (Jvm.Cond.code ({ cls := "NextOneKnowsModel", name := "ask", desc := "(I)I" } : Jvm.MethodName) prog_14_method_58_code (6 : Nat) (Option.some Jvm.ClassFile.FieldType.int)) ∈ TG := tg_6 199 rfl rfl
set_option maxRecDepth 8000 in
theorem kX12_ask : Cond.code mX12_ask.1 mX12_ask.2.1 mX12_ask.2.2.1 mX12_ask.2.2.2 ∈ TG := w_1472
set_option maxRecDepth 8000 in
theorem w_1476 : (Jvm.Cond.code ({ cls := "NextOneKnowsModel", name := "drop", desc := "(I)I" } : Jvm.MethodName) prog_14_method_59_code (6 : Nat) (Option.some Jvm.ClassFile.FieldType.int)) ∈ TG := tg_6 203 rfl rfl
set_option maxRecDepth 8000 in
theorem kX12_drop : Cond.code mX12_drop.1 mX12_drop.2.1 mX12_drop.2.2.1 mX12_drop.2.2.2 ∈ TG := w_1476
set_option maxRecDepth 8000 in
theorem w_1480 : (Jvm.Cond.code ({ cls := "NextOneKnowsModel", name := "when", desc := "(I)I" } : Jvm.MethodName) prog_14_method_60_code (3 : Nat) (Option.some Jvm.ClassFile.FieldType.int)) ∈ TG := tg_6 207 rfl rfl
set_option maxRecDepth 8000 in
theorem kX12_when : Cond.code mX12_when.1 mX12_when.2.1 mX12_when.2.2.1 mX12_when.2.2.2 ∈ TG := w_1480
set_option maxRecDepth 8000 in
theorem w_1484 : (Jvm.Cond.code ({ cls := "NextOneKnowsModel", name := "busiest", desc := "(II)I" } : Jvm.MethodName) prog_14_method_62_code (5 : Nat) (Option.some Jvm.ClassFile.FieldType.int)) ∈ TG := tg_6 211 rfl rfl
set_option maxRecDepth 8000 in
theorem kX12_busiest : Cond.code mX12_busiest.1 mX12_busiest.2.1 mX12_busiest.2.2.1 mX12_busiest.2.2.2 ∈ TG := w_1484
set_option maxRecDepth 8000 in
theorem w_1488 : (Jvm.Cond.code ({ cls := "NextOneKnowsModel", name := "manyIn", desc := "(I)I" } : Jvm.MethodName) prog_14_method_61_code (4 : Nat) (Option.some Jvm.ClassFile.FieldType.int)) ∈ TG := tg_6 215 rfl rfl
set_option maxRecDepth 8000 in
theorem kX12_manyIn : Cond.code mX12_manyIn.1 mX12_manyIn.2.1 mX12_manyIn.2.2.1 mX12_manyIn.2.2.2 ∈ TG := w_1488
set_option maxRecDepth 8000 in
theorem w_1492 : (Jvm.Cond.code ({ cls := "NextOneKnowsModel", name := "all", desc := "(I)I" } : Jvm.MethodName) prog_14_method_64_code (3 : Nat) (Option.some Jvm.ClassFile.FieldType.int)) ∈ TG := tg_6 219 rfl rfl
set_option maxRecDepth 8000 in
theorem kX12_all : Cond.code mX12_all.1 mX12_all.2.1 mX12_all.2.2.1 mX12_all.2.2.2 ∈ TG := w_1492
set_option maxRecDepth 8000 in
theorem w_1496 : (Jvm.Cond.code ({ cls := "NextOneKnowsModel", name := "allCome", desc := "(II)Z" } : Jvm.MethodName) prog_14_method_63_code (4 : Nat) (Option.some Jvm.ClassFile.FieldType.boolean)) ∈ TG := tg_6 223 rfl rfl
set_option maxRecDepth 8000 in
theorem kX12_allCome : Cond.code mX12_allCome.1 mX12_allCome.2.1 mX12_allCome.2.2.1 mX12_allCome.2.2.2 ∈ TG := w_1496
set_option maxRecDepth 8000 in
theorem w_1500 : (Jvm.Cond.code ({ cls := "NextOneKnowsModel", name := "list", desc := "(II)I" } : Jvm.MethodName) prog_14_method_65_code (3 : Nat) (Option.some Jvm.ClassFile.FieldType.int)) ∈ TG := tg_6 227 rfl rfl
set_option maxRecDepth 8000 in
theorem kX12_list : Cond.code mX12_list.1 mX12_list.2.1 mX12_list.2.2.1 mX12_list.2.2.2 ∈ TG := w_1500
set_option maxRecDepth 8000 in
theorem w_1504 : (Jvm.Cond.code ({ cls := "NextOneKnowsModel", name := "looked", desc := "()I" } : Jvm.MethodName) prog_14_method_67_code (1 : Nat) (Option.some Jvm.ClassFile.FieldType.int)) ∈ TG := tg_6 231 rfl rfl
set_option maxRecDepth 8000 in
theorem kX12_looked : Cond.code mX12_looked.1 mX12_looked.2.1 mX12_looked.2.2.1 mX12_looked.2.2.2 ∈ TG := w_1504
set_option maxRecDepth 8000 in
theorem w_1508 : (Jvm.Cond.code ({ cls := "NextOneKnowsModel", name := "firstOff", desc := "(I)I" } : Jvm.MethodName) prog_14_method_66_code (3 : Nat) (Option.some Jvm.ClassFile.FieldType.int)) ∈ TG := tg_6 235 rfl rfl
set_option maxRecDepth 8000 in
theorem kX12_firstOff : Cond.code mX12_firstOff.1 mX12_firstOff.2.1 mX12_firstOff.2.2.1 mX12_firstOff.2.2.2 ∈ TG := w_1508
set_option maxRecDepth 8000 in
theorem w_1512 : (Jvm.Cond.code ({ cls := "NextOneKnowsModel", name := "fits", desc := "()I" } : Jvm.MethodName) prog_14_method_68_code (3 : Nat) (Option.some Jvm.ClassFile.FieldType.int)) ∈ TG := tg_6 239 rfl rfl
set_option maxRecDepth 8000 in
theorem kX12_fits : Cond.code mX12_fits.1 mX12_fits.2.1 mX12_fits.2.2.1 mX12_fits.2.2.2 ∈ TG := w_1512
set_option maxRecDepth 8000 in
theorem w_1516 : (Jvm.Cond.code ({ cls := "NextOneKnowsModel", name := "chance", desc := "(II)J" } : Jvm.MethodName) prog_14_method_71_code (9 : Nat) (Option.some Jvm.ClassFile.FieldType.long)) ∈ TG := tg_7 3 rfl rfl
set_option maxRecDepth 8000 in
theorem kX12_chance : Cond.code mX12_chance.1 mX12_chance.2.1 mX12_chance.2.2.1 mX12_chance.2.2.2 ∈ TG := w_1516
set_option maxRecDepth 8000 in
theorem w_1521 : (Jvm.Cond.code ({ cls := "NextOneKnowsModel", name := "comesIn", desc := "(II)Z" } : Jvm.MethodName) prog_14_method_70_code (4 : Nat) (Option.some Jvm.ClassFile.FieldType.boolean)) ∈ TG := tg_7 8 rfl rfl
set_option maxRecDepth 8000 in
theorem kX12_comesIn : Cond.code mX12_comesIn.1 mX12_comesIn.2.1 mX12_comesIn.2.2.1 mX12_comesIn.2.2.2 ∈ TG := w_1521
set_option maxRecDepth 8000 in
theorem w_1526 : (Jvm.Cond.code ({ cls := "NextOneKnowsModel", name := "divisor", desc := "(JJ)J" } : Jvm.MethodName) prog_14_method_69_code (11 : Nat) (Option.some Jvm.ClassFile.FieldType.long)) ∈ TG := tg_7 13 rfl rfl
set_option maxRecDepth 8000 in
theorem kX12_divisor : Cond.code mX12_divisor.1 mX12_divisor.2.1 mX12_divisor.2.2.1 mX12_divisor.2.2.2 ∈ TG := w_1526
set_option maxRecDepth 8000 in
theorem w_1530 : (Jvm.Cond.code ({ cls := "NextOneKnowsModel", name := "judge", desc := "(II)I" } : Jvm.MethodName) prog_14_method_72_code (4 : Nat) (Option.some Jvm.ClassFile.FieldType.int)) ∈ TG := tg_7 17 rfl rfl
set_option maxRecDepth 8000 in
theorem kX12_judge : Cond.code mX12_judge.1 mX12_judge.2.1 mX12_judge.2.2.1 mX12_judge.2.2.2 ∈ TG := w_1530
set_option maxRecDepth 8000 in
theorem w_1534 : (Jvm.Cond.code ({ cls := "NextOneKnowsModel", name := "isTape", desc := "(I)Z" } : Jvm.MethodName) prog_14_method_87_code (2 : Nat) (Option.some Jvm.ClassFile.FieldType.boolean)) ∈ TG := tg_7 21 rfl rfl
set_option maxRecDepth 8000 in
theorem kX12_isTape : Cond.code mX12_isTape.1 mX12_isTape.2.1 mX12_isTape.2.2.1 mX12_isTape.2.2.2 ∈ TG := w_1534
set_option maxRecDepth 8000 in
theorem w_1538 : (Jvm.Cond.code ({ cls := "NextOneKnowsModel", name := "image", desc := "()I" } : Jvm.MethodName) prog_14_method_73_code (2 : Nat) (Option.some Jvm.ClassFile.FieldType.int)) ∈ TG := tg_7 25 rfl rfl
set_option maxRecDepth 8000 in
theorem kX12_image : Cond.code mX12_image.1 mX12_image.2.1 mX12_image.2.2.1 mX12_image.2.2.2 ∈ TG := w_1538
set_option maxRecDepth 8000 in
theorem w_1542 : (Jvm.Cond.code ({ cls := "NextOneKnowsModel", name := "undo", desc := "()I" } : Jvm.MethodName) prog_14_method_74_code (2 : Nat) (Option.some Jvm.ClassFile.FieldType.int)) ∈ TG := tg_7 29 rfl rfl
set_option maxRecDepth 8000 in
theorem kX12_undo : Cond.code mX12_undo.1 mX12_undo.2.1 mX12_undo.2.2.1 mX12_undo.2.2.2 ∈ TG := w_1542
set_option maxRecDepth 8000 in
theorem w_1546 : (Jvm.Cond.code ({ cls := "NextOneKnowsModel", name := "act", desc := "(III)I" } : Jvm.MethodName) prog_14_method_83_code (4 : Nat) (Option.some Jvm.ClassFile.FieldType.int)) ∈ TG := tg_7 33 rfl rfl
set_option maxRecDepth 8000 in
theorem kX12_act : Cond.code mX12_act.1 mX12_act.2.1 mX12_act.2.2.1 mX12_act.2.2.2 ∈ TG := w_1546
set_option maxRecDepth 8000 in
theorem w_1550 : (Jvm.Cond.code ({ cls := "NextOneKnowsModel", name := "saysAct", desc := "(II)I" } : Jvm.MethodName) prog_14_method_77_code (3 : Nat) (Option.some Jvm.ClassFile.FieldType.int)) ∈ TG := tg_7 37 rfl rfl
set_option maxRecDepth 8000 in
theorem kX12_saysAct : Cond.code mX12_saysAct.1 mX12_saysAct.2.1 mX12_saysAct.2.2.1 mX12_saysAct.2.2.2 ∈ TG := w_1550
set_option maxRecDepth 8000 in
theorem w_1554 : (Jvm.Cond.code ({ cls := "NextOneKnowsModel", name := "body", desc := "(I)V" } : Jvm.MethodName) prog_14_method_75_code (2 : Nat) (Option.none : Option Jvm.ClassFile.FieldType)) ∈ TG := tg_7 41 rfl rfl
set_option maxRecDepth 8000 in
theorem kX12_body : Cond.code mX12_body.1 mX12_body.2.1 mX12_body.2.2.1 mX12_body.2.2.2 ∈ TG := w_1554
set_option maxRecDepth 8000 in
theorem w_1558 : (Jvm.Cond.code ({ cls := "NextOneKnowsModel", name := "knowingSays", desc := "(II)I" } : Jvm.MethodName) prog_14_method_76_code (3 : Nat) (Option.some Jvm.ClassFile.FieldType.int)) ∈ TG := tg_7 45 rfl rfl
set_option maxRecDepth 8000 in
theorem kX12_knowingSays : Cond.code mX12_knowingSays.1 mX12_knowingSays.2.1 mX12_knowingSays.2.2.1 mX12_knowingSays.2.2.2 ∈ TG := w_1558
set_option maxRecDepth 8000 in
theorem w_1562 : (Jvm.Cond.code ({ cls := "NextOneKnowsModel", name := "holdsAct", desc := "(II)I" } : Jvm.MethodName) prog_14_method_80_code (4 : Nat) (Option.some Jvm.ClassFile.FieldType.int)) ∈ TG := tg_7 49 rfl rfl
set_option maxRecDepth 8000 in
theorem kX12_holdsAct : Cond.code mX12_holdsAct.1 mX12_holdsAct.2.1 mX12_holdsAct.2.2.1 mX12_holdsAct.2.2.2 ∈ TG := w_1562
set_option maxRecDepth 8000 in
theorem w_1566 : (Jvm.Cond.code ({ cls := "NextOneKnowsModel", name := "writtenHolds", desc := "(II)I" } : Jvm.MethodName) prog_14_method_79_code (3 : Nat) (Option.some Jvm.ClassFile.FieldType.int)) ∈ TG := tg_7 53 rfl rfl
set_option maxRecDepth 8000 in
theorem kX12_writtenHolds : Cond.code mX12_writtenHolds.1 mX12_writtenHolds.2.1 mX12_writtenHolds.2.2.1 mX12_writtenHolds.2.2.2 ∈ TG := w_1566
set_option maxRecDepth 8000 in
theorem w_1570 : (Jvm.Cond.code ({ cls := "NextOneKnowsModel", name := "knowingHolds", desc := "(II)I" } : Jvm.MethodName) prog_14_method_78_code (3 : Nat) (Option.some Jvm.ClassFile.FieldType.int)) ∈ TG := tg_7 57 rfl rfl
set_option maxRecDepth 8000 in
theorem kX12_knowingHolds : Cond.code mX12_knowingHolds.1 mX12_knowingHolds.2.1 mX12_knowingHolds.2.2.1 mX12_knowingHolds.2.2.2 ∈ TG := w_1570
set_option maxRecDepth 8000 in
theorem w_1574 : (Jvm.Cond.code ({ cls := "NextOneKnowsModel", name := "tellsAct", desc := "(II)I" } : Jvm.MethodName) prog_14_method_82_code (4 : Nat) (Option.some Jvm.ClassFile.FieldType.int)) ∈ TG := tg_7 61 rfl rfl
set_option maxRecDepth 8000 in
theorem kX12_tellsAct : Cond.code mX12_tellsAct.1 mX12_tellsAct.2.1 mX12_tellsAct.2.2.1 mX12_tellsAct.2.2.2 ∈ TG := w_1574
set_option maxRecDepth 8000 in
theorem w_1578 : (Jvm.Cond.code ({ cls := "NextOneKnowsModel", name := "knowingTells", desc := "(II)I" } : Jvm.MethodName) prog_14_method_81_code (3 : Nat) (Option.some Jvm.ClassFile.FieldType.int)) ∈ TG := tg_7 65 rfl rfl
set_option maxRecDepth 8000 in
theorem kX12_knowingTells : Cond.code mX12_knowingTells.1 mX12_knowingTells.2.1 mX12_knowingTells.2.2.1 mX12_knowingTells.2.2.2 ∈ TG := w_1578
set_option maxRecDepth 8000 in
theorem w_1582 : (Jvm.Cond.code ({ cls := "NextOneKnowsModel", name := "trace", desc := "(I)I" } : Jvm.MethodName) prog_14_method_84_code (2 : Nat) (Option.some Jvm.ClassFile.FieldType.int)) ∈ TG := tg_7 69 rfl rfl
set_option maxRecDepth 8000 in
theorem kX12_trace : Cond.code mX12_trace.1 mX12_trace.2.1 mX12_trace.2.2.1 mX12_trace.2.2.2 ∈ TG := w_1582
set_option maxRecDepth 8000 in
theorem w_1586 : (Jvm.Cond.code ({ cls := "NextOneKnowsModel", name := "taken", desc := "(II)I" } : Jvm.MethodName) prog_14_method_85_code (4 : Nat) (Option.some Jvm.ClassFile.FieldType.int)) ∈ TG := tg_7 73 rfl rfl
set_option maxRecDepth 8000 in
theorem kX12_taken : Cond.code mX12_taken.1 mX12_taken.2.1 mX12_taken.2.2.1 mX12_taken.2.2.2 ∈ TG := w_1586
set_option maxRecDepth 8000 in
theorem w_1590 : (Jvm.Cond.code ({ cls := "NextOneKnowsModel", name := "count", desc := "(I)I" } : Jvm.MethodName) prog_14_method_86_code (2 : Nat) (Option.some Jvm.ClassFile.FieldType.int)) ∈ TG := tg_7 77 rfl rfl
set_option maxRecDepth 8000 in
theorem kX12_count : Cond.code mX12_count.1 mX12_count.2.1 mX12_count.2.2.1 mX12_count.2.2.2 ∈ TG := w_1590
set_option maxRecDepth 8000 in
theorem w_1594 : (Jvm.Cond.code ({ cls := "NextOneKnowsModel", name := "tape", desc := "(III)I" } : Jvm.MethodName) prog_14_method_88_code (5 : Nat) (Option.some Jvm.ClassFile.FieldType.int)) ∈ TG := tg_7 81 rfl rfl
set_option maxRecDepth 8000 in
theorem kX12_tape : Cond.code mX12_tape.1 mX12_tape.2.1 mX12_tape.2.2.1 mX12_tape.2.2.2 ∈ TG := w_1594
set_option maxRecDepth 8000 in
theorem w_1598 : (Jvm.Cond.code ({ cls := "NextOneKnowsModel", name := "item", desc := "(IIJ)I" } : Jvm.MethodName) prog_14_method_90_code (5 : Nat) (Option.some Jvm.ClassFile.FieldType.int)) ∈ TG := tg_7 85 rfl rfl
set_option maxRecDepth 8000 in
theorem kX12_item : Cond.code mX12_item.1 mX12_item.2.1 mX12_item.2.2.1 mX12_item.2.2.2 ∈ TG := w_1598
set_option maxRecDepth 8000 in
theorem w_1602 : (Jvm.Cond.code ({ cls := "NextOneKnowsModel", name := "narrow", desc := "(IJ)J" } : Jvm.MethodName) prog_14_method_89_code (4 : Nat) (Option.some Jvm.ClassFile.FieldType.long)) ∈ TG := tg_7 89 rfl rfl
set_option maxRecDepth 8000 in
theorem kX12_narrow : Cond.code mX12_narrow.1 mX12_narrow.2.1 mX12_narrow.2.2.1 mX12_narrow.2.2.2 ∈ TG := w_1602
set_option maxRecDepth 8000 in
theorem w_1606 : (Jvm.Cond.code ({ cls := "NextOneKnowsModel", name := "read", desc := "(II)J" } : Jvm.MethodName) prog_14_method_91_code (3 : Nat) (Option.some Jvm.ClassFile.FieldType.long)) ∈ TG := tg_7 93 rfl rfl
set_option maxRecDepth 8000 in
theorem kX12_read : Cond.code mX12_read.1 mX12_read.2.1 mX12_read.2.2.1 mX12_read.2.2.2 ∈ TG := w_1606
set_option maxRecDepth 8000 in
theorem w_1610 : (Jvm.Cond.code ({ cls := "NextOneKnowsModel", name := "shift", desc := "(IIIII)I" } : Jvm.MethodName) prog_14_method_92_code (7 : Nat) (Option.some Jvm.ClassFile.FieldType.int)) ∈ TG := tg_7 97 rfl rfl
set_option maxRecDepth 8000 in
theorem kX12_shift : Cond.code mX12_shift.1 mX12_shift.2.1 mX12_shift.2.2.1 mX12_shift.2.2.2 ∈ TG := w_1610
set_option maxRecDepth 8000 in
theorem pmX11_init : prms yX11_init 0 := ⟨by decide +kernel, by decide +kernel, by decide +kernel⟩
set_option maxRecDepth 8000 in
theorem pmX5_init : prms yX5_init 0 := ⟨by decide +kernel, by decide +kernel, by decide +kernel⟩
set_option maxRecDepth 8000 in
theorem pmX0_init : prms yX0_init 1 := ⟨by decide +kernel, by decide +kernel, by decide +kernel⟩
set_option maxRecDepth 8000 in
theorem pmX7_init : prms yX7_init 0 := ⟨by decide +kernel, by decide +kernel, by decide +kernel⟩
set_option maxRecDepth 8000 in
theorem pmJ7_fill_53178 : prms yJ7_fill_53178 2 := ⟨by decide +kernel, by decide +kernel, by decide +kernel⟩
set_option maxRecDepth 8000 in
theorem pmX3_init : prms yX3_init 1 := ⟨by decide +kernel, by decide +kernel, by decide +kernel⟩
set_option maxRecDepth 8000 in
theorem pmX11_doing : prms yX11_doing 6 := ⟨by decide +kernel, by decide +kernel, by decide +kernel⟩
set_option maxRecDepth 8000 in
theorem pmX11_isNot : prms yX11_isNot 3 := ⟨by decide +kernel, by decide +kernel, by decide +kernel⟩
set_option maxRecDepth 8000 in
theorem pmX11_made : prms yX11_made 7 := ⟨by decide +kernel, by decide +kernel, by decide +kernel⟩
set_option maxRecDepth 8000 in
theorem pmX9_init : prms yX9_init 6 := ⟨by decide +kernel, by decide +kernel, by decide +kernel⟩
set_option maxRecDepth 8000 in
theorem pmX1_init : prms yX1_init 6 := ⟨by decide +kernel, by decide +kernel, by decide +kernel⟩
set_option maxRecDepth 8000 in
theorem pmJ9_max_7cf53 : prms yJ9_max_7cf53 2 := ⟨by decide +kernel, by decide +kernel, by decide +kernel⟩
set_option maxRecDepth 8000 in
theorem pmX2_init : prms yX2_init 6 := ⟨by decide +kernel, by decide +kernel, by decide +kernel⟩
set_option maxRecDepth 8000 in
theorem pmX4_init : prms yX4_init 6 := ⟨by decide +kernel, by decide +kernel, by decide +kernel⟩
set_option maxRecDepth 8000 in
theorem pmX8_init : prms yX8_init 6 := ⟨by decide +kernel, by decide +kernel, by decide +kernel⟩
set_option maxRecDepth 8000 in
theorem pmX6_init : prms yX6_init 6 := ⟨by decide +kernel, by decide +kernel, by decide +kernel⟩
set_option maxRecDepth 8000 in
theorem pmX10_init : prms yX10_init 6 := ⟨by decide +kernel, by decide +kernel, by decide +kernel⟩
set_option maxRecDepth 8000 in
theorem pmX5_add : prms yX5_add 1 := ⟨by decide +kernel, by decide +kernel, by decide +kernel⟩
set_option maxRecDepth 8000 in
theorem pmX11_of : prms yX11_of 2 := ⟨by decide +kernel, by decide +kernel, by decide +kernel⟩
set_option maxRecDepth 8000 in
theorem pmX5_find : prms yX5_find 1 := ⟨by decide +kernel, by decide +kernel, by decide +kernel⟩
set_option maxRecDepth 8000 in
theorem pmX2_kind : prms yX2_kind 0 := ⟨by decide +kernel, by decide +kernel, by decide +kernel⟩
set_option maxRecDepth 8000 in
theorem pmX4_kind : prms yX4_kind 0 := ⟨by decide +kernel, by decide +kernel, by decide +kernel⟩
set_option maxRecDepth 8000 in
theorem pmX6_kind : prms yX6_kind 0 := ⟨by decide +kernel, by decide +kernel, by decide +kernel⟩
set_option maxRecDepth 8000 in
theorem pmX8_kind : prms yX8_kind 0 := ⟨by decide +kernel, by decide +kernel, by decide +kernel⟩
set_option maxRecDepth 8000 in
theorem pmX9_kind : prms yX9_kind 0 := ⟨by decide +kernel, by decide +kernel, by decide +kernel⟩
set_option maxRecDepth 8000 in
theorem pmX10_kind : prms yX10_kind 0 := ⟨by decide +kernel, by decide +kernel, by decide +kernel⟩
set_option maxRecDepth 8000 in
theorem pmX1_kind : prms yX1_kind 0 := ⟨by decide +kernel, by decide +kernel, by decide +kernel⟩
set_option maxRecDepth 8000 in
theorem pmX11_bit : prms yX11_bit 2 := ⟨by decide +kernel, by decide +kernel, by decide +kernel⟩
set_option maxRecDepth 8000 in
theorem pmX0_saidOf : prms yX0_saidOf 1 := ⟨by decide +kernel, by decide +kernel, by decide +kernel⟩
set_option maxRecDepth 8000 in
theorem pmX0_hearOf : prms yX0_hearOf 1 := ⟨by decide +kernel, by decide +kernel, by decide +kernel⟩
set_option maxRecDepth 8000 in
theorem pmX5_saidBy : prms yX5_saidBy 2 := ⟨by decide +kernel, by decide +kernel, by decide +kernel⟩
set_option maxRecDepth 8000 in
theorem pmX3_together : prms yX3_together 4 := ⟨by decide +kernel, by decide +kernel, by decide +kernel⟩
set_option maxRecDepth 8000 in
theorem pmX3_holds : prms yX3_holds 4 := ⟨by decide +kernel, by decide +kernel, by decide +kernel⟩
set_option maxRecDepth 8000 in
theorem pmX3_passes : prms yX3_passes 4 := ⟨by decide +kernel, by decide +kernel, by decide +kernel⟩
set_option maxRecDepth 8000 in
theorem pmX2_saidOver : prms yX2_saidOver 2 := ⟨by decide +kernel, by decide +kernel, by decide +kernel⟩
set_option maxRecDepth 8000 in
theorem pmX4_saidOver : prms yX4_saidOver 2 := ⟨by decide +kernel, by decide +kernel, by decide +kernel⟩
set_option maxRecDepth 8000 in
theorem pmX6_saidOver : prms yX6_saidOver 2 := ⟨by decide +kernel, by decide +kernel, by decide +kernel⟩
set_option maxRecDepth 8000 in
theorem pmX8_saidOver : prms yX8_saidOver 2 := ⟨by decide +kernel, by decide +kernel, by decide +kernel⟩
set_option maxRecDepth 8000 in
theorem pmX9_saidOver : prms yX9_saidOver 2 := ⟨by decide +kernel, by decide +kernel, by decide +kernel⟩
set_option maxRecDepth 8000 in
theorem pmX10_saidOver : prms yX10_saidOver 2 := ⟨by decide +kernel, by decide +kernel, by decide +kernel⟩
set_option maxRecDepth 8000 in
theorem pmX1_saidOver : prms yX1_saidOver 2 := ⟨by decide +kernel, by decide +kernel, by decide +kernel⟩
set_option maxRecDepth 8000 in
theorem pmX5_dearIn : prms yX5_dearIn 2 := ⟨by decide +kernel, by decide +kernel, by decide +kernel⟩
set_option maxRecDepth 8000 in
theorem pmX11_needless : prms yX11_needless 2 := ⟨by decide +kernel, by decide +kernel, by decide +kernel⟩
set_option maxRecDepth 8000 in
theorem pmX11_withBit : prms yX11_withBit 3 := ⟨by decide +kernel, by decide +kernel, by decide +kernel⟩
set_option maxRecDepth 8000 in
theorem pmX11_learn : prms yX11_learn 2 := ⟨by decide +kernel, by decide +kernel, by decide +kernel⟩
set_option maxRecDepth 8000 in
theorem pmX11_odds : prms yX11_odds 2 := ⟨by decide +kernel, by decide +kernel, by decide +kernel⟩
set_option maxRecDepth 8000 in
theorem pmX11_hours : prms yX11_hours 2 := ⟨by decide +kernel, by decide +kernel, by decide +kernel⟩
set_option maxRecDepth 8000 in
theorem pmX11_feed : prms yX11_feed 1 := ⟨by decide +kernel, by decide +kernel, by decide +kernel⟩
set_option maxRecDepth 8000 in
theorem pmX11_post : prms yX11_post 0 := ⟨by decide +kernel, by decide +kernel, by decide +kernel⟩
set_option maxRecDepth 8000 in
theorem pmX3_readFrom : prms yX3_readFrom 1 := ⟨by decide +kernel, by decide +kernel, by decide +kernel⟩
set_option maxRecDepth 8000 in
theorem pmJ9_min_7cf53 : prms yJ9_min_7cf53 2 := ⟨by decide +kernel, by decide +kernel, by decide +kernel⟩
set_option maxRecDepth 8000 in
theorem pmX3_takes : prms yX3_takes 1 := ⟨by decide +kernel, by decide +kernel, by decide +kernel⟩
set_option maxRecDepth 8000 in
theorem pmX3_here : prms yX3_here 0 := ⟨by decide +kernel, by decide +kernel, by decide +kernel⟩
set_option maxRecDepth 8000 in
theorem pmX3_readClause : prms yX3_readClause 0 := ⟨by decide +kernel, by decide +kernel, by decide +kernel⟩
set_option maxRecDepth 8000 in
theorem pmX3_readWord : prms yX3_readWord 0 := ⟨by decide +kernel, by decide +kernel, by decide +kernel⟩
set_option maxRecDepth 8000 in
theorem pmX3_needs : prms yX3_needs 1 := ⟨by decide +kernel, by decide +kernel, by decide +kernel⟩
set_option maxRecDepth 8000 in
theorem pmX3_takeIf : prms yX3_takeIf 1 := ⟨by decide +kernel, by decide +kernel, by decide +kernel⟩
set_option maxRecDepth 8000 in
theorem pmX3_readNumber : prms yX3_readNumber 0 := ⟨by decide +kernel, by decide +kernel, by decide +kernel⟩
set_option maxRecDepth 8000 in
theorem pmX3_readEither : prms yX3_readEither 1 := ⟨by decide +kernel, by decide +kernel, by decide +kernel⟩
set_option maxRecDepth 8000 in
theorem pmX3_readPart : prms yX3_readPart 1 := ⟨by decide +kernel, by decide +kernel, by decide +kernel⟩
set_option maxRecDepth 8000 in
theorem pmX3_keep : prms yX3_keep 1 := ⟨by decide +kernel, by decide +kernel, by decide +kernel⟩
set_option maxRecDepth 8000 in
theorem pmX3_readTest : prms yX3_readTest 0 := ⟨by decide +kernel, by decide +kernel, by decide +kernel⟩
set_option maxRecDepth 8000 in
theorem pmX11_told : prms yX11_told 1 := ⟨by decide +kernel, by decide +kernel, by decide +kernel⟩
set_option maxRecDepth 8000 in
theorem pmX5_callsAtFirst : prms yX5_callsAtFirst 0 := ⟨by decide +kernel, by decide +kernel, by decide +kernel⟩
set_option maxRecDepth 8000 in
theorem pmX5_callsFading : prms yX5_callsFading 0 := ⟨by decide +kernel, by decide +kernel, by decide +kernel⟩
set_option maxRecDepth 8000 in
theorem pmX11_said : prms yX11_said 2 := ⟨by decide +kernel, by decide +kernel, by decide +kernel⟩
set_option maxRecDepth 8000 in
theorem pmX11_hand : prms yX11_hand 0 := ⟨by decide +kernel, by decide +kernel, by decide +kernel⟩
set_option maxRecDepth 8000 in
theorem pmX0_hear : prms yX0_hear 0 := ⟨by decide +kernel, by decide +kernel, by decide +kernel⟩
set_option maxRecDepth 8000 in
theorem pmX0_goingOver : prms yX0_goingOver 1 := ⟨by decide +kernel, by decide +kernel, by decide +kernel⟩
set_option maxRecDepth 8000 in
theorem pmJ6_bitCount_0f7a4 : prms yJ6_bitCount_0f7a4 1 := ⟨by decide +kernel, by decide +kernel, by decide +kernel⟩
set_option maxRecDepth 8000 in
theorem pmX11_go : prms yX11_go 1 := ⟨by decide +kernel, by decide +kernel, by decide +kernel⟩
set_option maxRecDepth 8000 in
theorem pmX0_look : prms yX0_look 1 := ⟨by decide +kernel, by decide +kernel, by decide +kernel⟩
set_option maxRecDepth 8000 in
theorem pmX5_coming : prms yX5_coming 1 := ⟨by decide +kernel, by decide +kernel, by decide +kernel⟩
set_option maxRecDepth 8000 in
theorem pmX1_weeksUntil : prms yX1_weeksUntil 1 := ⟨by decide +kernel, by decide +kernel, by decide +kernel⟩
set_option maxRecDepth 8000 in
theorem pmJ9_floorMod_7cf53 : prms yJ9_floorMod_7cf53 2 := ⟨by decide +kernel, by decide +kernel, by decide +kernel⟩
set_option maxRecDepth 8000 in
theorem pmX0_lookDear : prms yX0_lookDear 2 := ⟨by decide +kernel, by decide +kernel, by decide +kernel⟩
set_option maxRecDepth 8000 in
theorem pmX0_dearCell : prms yX0_dearCell 2 := ⟨by decide +kernel, by decide +kernel, by decide +kernel⟩
set_option maxRecDepth 8000 in
theorem pmX0_pass : prms yX0_pass 2 := ⟨by decide +kernel, by decide +kernel, by decide +kernel⟩
set_option maxRecDepth 8000 in
theorem pmX0_stopAll : prms yX0_stopAll 2 := ⟨by decide +kernel, by decide +kernel, by decide +kernel⟩
set_option maxRecDepth 8000 in
theorem pmX0_stop : prms yX0_stop 2 := ⟨by decide +kernel, by decide +kernel, by decide +kernel⟩
set_option maxRecDepth 8000 in
theorem pmX10_isKnownByCall : prms yX10_isKnownByCall 0 := ⟨by decide +kernel, by decide +kernel, by decide +kernel⟩
set_option maxRecDepth 8000 in
theorem pmX1_isKnownByCall : prms yX1_isKnownByCall 0 := ⟨by decide +kernel, by decide +kernel, by decide +kernel⟩
set_option maxRecDepth 8000 in
theorem pmX2_isKnownByStop : prms yX2_isKnownByStop 0 := ⟨by decide +kernel, by decide +kernel, by decide +kernel⟩
set_option maxRecDepth 8000 in
theorem pmX4_isKnownByStop : prms yX4_isKnownByStop 0 := ⟨by decide +kernel, by decide +kernel, by decide +kernel⟩
set_option maxRecDepth 8000 in
theorem pmX1_isKnownByStop : prms yX1_isKnownByStop 0 := ⟨by decide +kernel, by decide +kernel, by decide +kernel⟩
set_option maxRecDepth 8000 in
theorem pmX11_run : prms yX11_run 2 := ⟨by decide +kernel, by decide +kernel, by decide +kernel⟩
set_option maxRecDepth 8000 in
theorem pmX11_split : prms yX11_split 3 := ⟨by decide +kernel, by decide +kernel, by decide +kernel⟩
set_option maxRecDepth 8000 in
theorem pmX0_bestSplit : prms yX0_bestSplit 1 := ⟨by decide +kernel, by decide +kernel, by decide +kernel⟩
set_option maxRecDepth 8000 in
theorem pmX0_share : prms yX0_share 4 := ⟨by decide +kernel, by decide +kernel, by decide +kernel⟩
set_option maxRecDepth 8000 in
theorem pmX0_costHanded : prms yX0_costHanded 1 := ⟨by decide +kernel, by decide +kernel, by decide +kernel⟩
set_option maxRecDepth 8000 in
theorem pmX11_more : prms yX11_more 2 := ⟨by decide +kernel, by decide +kernel, by decide +kernel⟩
set_option maxRecDepth 8000 in
theorem pmX0_hourMore : prms yX0_hourMore 1 := ⟨by decide +kernel, by decide +kernel, by decide +kernel⟩
set_option maxRecDepth 8000 in
theorem pmX11_ask : prms yX11_ask 1 := ⟨by decide +kernel, by decide +kernel, by decide +kernel⟩
set_option maxRecDepth 8000 in
theorem pmX0_bestOf : prms yX0_bestOf 2 := ⟨by decide +kernel, by decide +kernel, by decide +kernel⟩
set_option maxRecDepth 8000 in
theorem pmX11_drop : prms yX11_drop 1 := ⟨by decide +kernel, by decide +kernel, by decide +kernel⟩
set_option maxRecDepth 8000 in
theorem pmX11_when : prms yX11_when 1 := ⟨by decide +kernel, by decide +kernel, by decide +kernel⟩
set_option maxRecDepth 8000 in
theorem pmX11_busiest : prms yX11_busiest 2 := ⟨by decide +kernel, by decide +kernel, by decide +kernel⟩
set_option maxRecDepth 8000 in
theorem pmX11_all : prms yX11_all 1 := ⟨by decide +kernel, by decide +kernel, by decide +kernel⟩
set_option maxRecDepth 8000 in
theorem pmX5_everyDoing : prms yX5_everyDoing 0 := ⟨by decide +kernel, by decide +kernel, by decide +kernel⟩
set_option maxRecDepth 8000 in
theorem pmX5_longestWait : prms yX5_longestWait 2 := ⟨by decide +kernel, by decide +kernel, by decide +kernel⟩
set_option maxRecDepth 8000 in
theorem pmX11_list : prms yX11_list 2 := ⟨by decide +kernel, by decide +kernel, by decide +kernel⟩
set_option maxRecDepth 8000 in
theorem pmX5_addRow : prms yX5_addRow 2 := ⟨by decide +kernel, by decide +kernel, by decide +kernel⟩
set_option maxRecDepth 8000 in
theorem pmX11_looked : prms yX11_looked 0 := ⟨by decide +kernel, by decide +kernel, by decide +kernel⟩
set_option maxRecDepth 8000 in
theorem pmX5_weeksToRows : prms yX5_weeksToRows 0 := ⟨by decide +kernel, by decide +kernel, by decide +kernel⟩
set_option maxRecDepth 8000 in
theorem pmX0_firstRowNotSo : prms yX0_firstRowNotSo 0 := ⟨by decide +kernel, by decide +kernel, by decide +kernel⟩
set_option maxRecDepth 8000 in
theorem pmX11_fits : prms yX11_fits 0 := ⟨by decide +kernel, by decide +kernel, by decide +kernel⟩
set_option maxRecDepth 8000 in
theorem pmX11_chance : prms yX11_chance 2 := ⟨by decide +kernel, by decide +kernel, by decide +kernel⟩
set_option maxRecDepth 8000 in
theorem pmX11_commonDivisor : prms yX11_commonDivisor 2 := ⟨by decide +kernel, by decide +kernel, by decide +kernel⟩
set_option maxRecDepth 8000 in
theorem pmJ9_max_f86c9 : prms yJ9_max_f86c9 2 := ⟨by decide +kernel, by decide +kernel, by decide +kernel⟩
set_option maxRecDepth 8000 in
theorem pmX11_judge : prms yX11_judge 2 := ⟨by decide +kernel, by decide +kernel, by decide +kernel⟩
set_option maxRecDepth 8000 in
theorem pmX11_image : prms yX11_image 0 := ⟨by decide +kernel, by decide +kernel, by decide +kernel⟩
set_option maxRecDepth 8000 in
theorem pmX5_takeFrom : prms yX5_takeFrom 1 := ⟨by decide +kernel, by decide +kernel, by decide +kernel⟩
set_option maxRecDepth 8000 in
theorem pmX11_undo : prms yX11_undo 0 := ⟨by decide +kernel, by decide +kernel, by decide +kernel⟩
set_option maxRecDepth 8000 in
theorem pmX11_act : prms yX11_act 3 := ⟨by decide +kernel, by decide +kernel, by decide +kernel⟩
set_option maxRecDepth 8000 in
theorem pmX2_says : prms yX2_says 2 := ⟨by decide +kernel, by decide +kernel, by decide +kernel⟩
set_option maxRecDepth 8000 in
theorem pmX7_begins : prms yX7_begins 1 := ⟨by decide +kernel, by decide +kernel, by decide +kernel⟩
set_option maxRecDepth 8000 in
theorem pmX8_says : prms yX8_says 2 := ⟨by decide +kernel, by decide +kernel, by decide +kernel⟩
set_option maxRecDepth 8000 in
theorem pmX10_says : prms yX10_says 2 := ⟨by decide +kernel, by decide +kernel, by decide +kernel⟩
set_option maxRecDepth 8000 in
theorem pmX1_says : prms yX1_says 2 := ⟨by decide +kernel, by decide +kernel, by decide +kernel⟩
set_option maxRecDepth 8000 in
theorem pmX8_holds : prms yX8_holds 2 := ⟨by decide +kernel, by decide +kernel, by decide +kernel⟩
set_option maxRecDepth 8000 in
theorem pmX9_holds : prms yX9_holds 2 := ⟨by decide +kernel, by decide +kernel, by decide +kernel⟩
set_option maxRecDepth 8000 in
theorem pmX10_holds : prms yX10_holds 2 := ⟨by decide +kernel, by decide +kernel, by decide +kernel⟩
set_option maxRecDepth 8000 in
theorem pmX1_holds : prms yX1_holds 2 := ⟨by decide +kernel, by decide +kernel, by decide +kernel⟩
set_option maxRecDepth 8000 in
theorem pmX4_tells : prms yX4_tells 2 := ⟨by decide +kernel, by decide +kernel, by decide +kernel⟩
set_option maxRecDepth 8000 in
theorem pmX6_tells : prms yX6_tells 2 := ⟨by decide +kernel, by decide +kernel, by decide +kernel⟩
set_option maxRecDepth 8000 in
theorem pmX1_tells : prms yX1_tells 2 := ⟨by decide +kernel, by decide +kernel, by decide +kernel⟩
set_option maxRecDepth 8000 in
theorem pmX11_trace : prms yX11_trace 1 := ⟨by decide +kernel, by decide +kernel, by decide +kernel⟩
set_option maxRecDepth 8000 in
theorem pmX11_taken : prms yX11_taken 2 := ⟨by decide +kernel, by decide +kernel, by decide +kernel⟩
set_option maxRecDepth 8000 in
theorem pmX11_isOfKind : prms yX11_isOfKind 2 := ⟨by decide +kernel, by decide +kernel, by decide +kernel⟩
set_option maxRecDepth 8000 in
theorem pmX11_count : prms yX11_count 1 := ⟨by decide +kernel, by decide +kernel, by decide +kernel⟩
set_option maxRecDepth 8000 in
theorem pmX11_tape : prms yX11_tape 3 := ⟨by decide +kernel, by decide +kernel, by decide +kernel⟩
set_option maxRecDepth 8000 in
theorem pmJ7_fill_d0a16 : prms yJ7_fill_d0a16 2 := ⟨by decide +kernel, by decide +kernel, by decide +kernel⟩
set_option maxRecDepth 8000 in
theorem pmX11_item : prms yX11_item 3 := ⟨by decide +kernel, by decide +kernel, by decide +kernel⟩
set_option maxRecDepth 8000 in
theorem pmX11_cut : prms yX11_cut 2 := ⟨by decide +kernel, by decide +kernel, by decide +kernel⟩
set_option maxRecDepth 8000 in
theorem pmX11_read : prms yX11_read 2 := ⟨by decide +kernel, by decide +kernel, by decide +kernel⟩
set_option maxRecDepth 8000 in
theorem pmX11_shift : prms yX11_shift 5 := ⟨by decide +kernel, by decide +kernel, by decide +kernel⟩
set_option maxRecDepth 8000 in
theorem pmX12_init : prms yX12_init 0 := ⟨by decide +kernel, by decide +kernel, by decide +kernel⟩
set_option maxRecDepth 8000 in
theorem pmX12_doing : prms yX12_doing 6 := ⟨by decide +kernel, by decide +kernel, by decide +kernel⟩
set_option maxRecDepth 8000 in
theorem pmX12_in : prms yX12_in 3 := ⟨by decide +kernel, by decide +kernel, by decide +kernel⟩
set_option maxRecDepth 8000 in
theorem pmX12_with : prms yX12_with 3 := ⟨by decide +kernel, by decide +kernel, by decide +kernel⟩
set_option maxRecDepth 8000 in
theorem pmX12_needless : prms yX12_needless 2 := ⟨by decide +kernel, by decide +kernel, by decide +kernel⟩
set_option maxRecDepth 8000 in
theorem pmX12_isDoing : prms yX12_isDoing 1 := ⟨by decide +kernel, by decide +kernel, by decide +kernel⟩
set_option maxRecDepth 8000 in
theorem pmX12_has : prms yX12_has 2 := ⟨by decide +kernel, by decide +kernel, by decide +kernel⟩
set_option maxRecDepth 8000 in
theorem pmX12_learn : prms yX12_learn 2 := ⟨by decide +kernel, by decide +kernel, by decide +kernel⟩
set_option maxRecDepth 8000 in
theorem pmX12_odds : prms yX12_odds 2 := ⟨by decide +kernel, by decide +kernel, by decide +kernel⟩
set_option maxRecDepth 8000 in
theorem pmX12_hours : prms yX12_hours 2 := ⟨by decide +kernel, by decide +kernel, by decide +kernel⟩
set_option maxRecDepth 8000 in
theorem pmX12_isWay : prms yX12_isWay 1 := ⟨by decide +kernel, by decide +kernel, by decide +kernel⟩
set_option maxRecDepth 8000 in
theorem pmX12_feed : prms yX12_feed 1 := ⟨by decide +kernel, by decide +kernel, by decide +kernel⟩
set_option maxRecDepth 8000 in
theorem pmX12_post : prms yX12_post 0 := ⟨by decide +kernel, by decide +kernel, by decide +kernel⟩
set_option maxRecDepth 8000 in
theorem pmX12_goesText : prms yX12_goesText 1 := ⟨by decide +kernel, by decide +kernel, by decide +kernel⟩
set_option maxRecDepth 8000 in
theorem pmX12_takesClause : prms yX12_takesClause 1 := ⟨by decide +kernel, by decide +kernel, by decide +kernel⟩
set_option maxRecDepth 8000 in
theorem pmX12_takesHead : prms yX12_takesHead 1 := ⟨by decide +kernel, by decide +kernel, by decide +kernel⟩
set_option maxRecDepth 8000 in
theorem pmX12_second : prms yX12_second 0 := ⟨by decide +kernel, by decide +kernel, by decide +kernel⟩
set_option maxRecDepth 8000 in
theorem pmX12_next : prms yX12_next 0 := ⟨by decide +kernel, by decide +kernel, by decide +kernel⟩
set_option maxRecDepth 8000 in
theorem pmX12_takesWord : prms yX12_takesWord 2 := ⟨by decide +kernel, by decide +kernel, by decide +kernel⟩
set_option maxRecDepth 8000 in
theorem pmX12_takes : prms yX12_takes 1 := ⟨by decide +kernel, by decide +kernel, by decide +kernel⟩
set_option maxRecDepth 8000 in
theorem pmX12_takesNumber : prms yX12_takesNumber 0 := ⟨by decide +kernel, by decide +kernel, by decide +kernel⟩
set_option maxRecDepth 8000 in
theorem pmX12_isDigit : prms yX12_isDigit 0 := ⟨by decide +kernel, by decide +kernel, by decide +kernel⟩
set_option maxRecDepth 8000 in
theorem pmX12_takesE : prms yX12_takesE 1 := ⟨by decide +kernel, by decide +kernel, by decide +kernel⟩
set_option maxRecDepth 8000 in
theorem pmX12_takesTest : prms yX12_takesTest 0 := ⟨by decide +kernel, by decide +kernel, by decide +kernel⟩
set_option maxRecDepth 8000 in
theorem pmX12_place : prms yX12_place 1 := ⟨by decide +kernel, by decide +kernel, by decide +kernel⟩
set_option maxRecDepth 8000 in
theorem pmX12_put : prms yX12_put 1 := ⟨by decide +kernel, by decide +kernel, by decide +kernel⟩
set_option maxRecDepth 8000 in
theorem pmX12_whole : prms yX12_whole 0 := ⟨by decide +kernel, by decide +kernel, by decide +kernel⟩
set_option maxRecDepth 8000 in
theorem pmX12_settle : prms yX12_settle 1 := ⟨by decide +kernel, by decide +kernel, by decide +kernel⟩
set_option maxRecDepth 8000 in
theorem pmX12_of : prms yX12_of 2 := ⟨by decide +kernel, by decide +kernel, by decide +kernel⟩
set_option maxRecDepth 8000 in
theorem pmX12_laySaid : prms yX12_laySaid 0 := ⟨by decide +kernel, by decide +kernel, by decide +kernel⟩
set_option maxRecDepth 8000 in
theorem pmX12_sumOf : prms yX12_sumOf 4 := ⟨by decide +kernel, by decide +kernel, by decide +kernel⟩
set_option maxRecDepth 8000 in
theorem pmX12_begin : prms yX12_begin 0 := ⟨by decide +kernel, by decide +kernel, by decide +kernel⟩
set_option maxRecDepth 8000 in
theorem pmX12_behind : prms yX12_behind 0 := ⟨by decide +kernel, by decide +kernel, by decide +kernel⟩
set_option maxRecDepth 8000 in
theorem pmX12_holds : prms yX12_holds 4 := ⟨by decide +kernel, by decide +kernel, by decide +kernel⟩
set_option maxRecDepth 8000 in
theorem pmX12_factOf : prms yX12_factOf 4 := ⟨by decide +kernel, by decide +kernel, by decide +kernel⟩
set_option maxRecDepth 8000 in
theorem pmX12_saidOf : prms yX12_saidOf 1 := ⟨by decide +kernel, by decide +kernel, by decide +kernel⟩
set_option maxRecDepth 8000 in
theorem pmX12_saidAll : prms yX12_saidAll 2 := ⟨by decide +kernel, by decide +kernel, by decide +kernel⟩
set_option maxRecDepth 8000 in
theorem pmX12_dear : prms yX12_dear 2 := ⟨by decide +kernel, by decide +kernel, by decide +kernel⟩
set_option maxRecDepth 8000 in
theorem pmX12_told : prms yX12_told 1 := ⟨by decide +kernel, by decide +kernel, by decide +kernel⟩
set_option maxRecDepth 8000 in
theorem pmX12_lastOf : prms yX12_lastOf 2 := ⟨by decide +kernel, by decide +kernel, by decide +kernel⟩
set_option maxRecDepth 8000 in
theorem pmX12_said : prms yX12_said 2 := ⟨by decide +kernel, by decide +kernel, by decide +kernel⟩
set_option maxRecDepth 8000 in
theorem pmX12_hand : prms yX12_hand 0 := ⟨by decide +kernel, by decide +kernel, by decide +kernel⟩
set_option maxRecDepth 8000 in
theorem pmX12_ones : prms yX12_ones 1 := ⟨by decide +kernel, by decide +kernel, by decide +kernel⟩
set_option maxRecDepth 8000 in
theorem pmX12_over : prms yX12_over 0 := ⟨by decide +kernel, by decide +kernel, by decide +kernel⟩
set_option maxRecDepth 8000 in
theorem pmX12_go : prms yX12_go 1 := ⟨by decide +kernel, by decide +kernel, by decide +kernel⟩
set_option maxRecDepth 8000 in
theorem pmX12_begins : prms yX12_begins 2 := ⟨by decide +kernel, by decide +kernel, by decide +kernel⟩
set_option maxRecDepth 8000 in
theorem pmX12_goWeeks : prms yX12_goWeeks 1 := ⟨by decide +kernel, by decide +kernel, by decide +kernel⟩
set_option maxRecDepth 8000 in
theorem pmX12_goWeek : prms yX12_goWeek 2 := ⟨by decide +kernel, by decide +kernel, by decide +kernel⟩
set_option maxRecDepth 8000 in
theorem pmX12_comes : prms yX12_comes 2 := ⟨by decide +kernel, by decide +kernel, by decide +kernel⟩
set_option maxRecDepth 8000 in
theorem pmX12_learnsBy : prms yX12_learnsBy 1 := ⟨by decide +kernel, by decide +kernel, by decide +kernel⟩
set_option maxRecDepth 8000 in
theorem pmX12_run : prms yX12_run 2 := ⟨by decide +kernel, by decide +kernel, by decide +kernel⟩
set_option maxRecDepth 8000 in
theorem pmX12_split : prms yX12_split 3 := ⟨by decide +kernel, by decide +kernel, by decide +kernel⟩
set_option maxRecDepth 8000 in
theorem pmX12_keepHours : prms yX12_keepHours 0 := ⟨by decide +kernel, by decide +kernel, by decide +kernel⟩
set_option maxRecDepth 8000 in
theorem pmX12_costHanded : prms yX12_costHanded 1 := ⟨by decide +kernel, by decide +kernel, by decide +kernel⟩
set_option maxRecDepth 8000 in
theorem pmX12_costBy : prms yX12_costBy 3 := ⟨by decide +kernel, by decide +kernel, by decide +kernel⟩
set_option maxRecDepth 8000 in
theorem pmX12_putHours : prms yX12_putHours 0 := ⟨by decide +kernel, by decide +kernel, by decide +kernel⟩
set_option maxRecDepth 8000 in
theorem pmX12_more : prms yX12_more 2 := ⟨by decide +kernel, by decide +kernel, by decide +kernel⟩
set_option maxRecDepth 8000 in
theorem pmX12_ask : prms yX12_ask 1 := ⟨by decide +kernel, by decide +kernel, by decide +kernel⟩
set_option maxRecDepth 8000 in
theorem pmX12_drop : prms yX12_drop 1 := ⟨by decide +kernel, by decide +kernel, by decide +kernel⟩
set_option maxRecDepth 8000 in
theorem pmX12_when : prms yX12_when 1 := ⟨by decide +kernel, by decide +kernel, by decide +kernel⟩
set_option maxRecDepth 8000 in
theorem pmX12_busiest : prms yX12_busiest 2 := ⟨by decide +kernel, by decide +kernel, by decide +kernel⟩
set_option maxRecDepth 8000 in
theorem pmX12_manyIn : prms yX12_manyIn 1 := ⟨by decide +kernel, by decide +kernel, by decide +kernel⟩
set_option maxRecDepth 8000 in
theorem pmX12_all : prms yX12_all 1 := ⟨by decide +kernel, by decide +kernel, by decide +kernel⟩
set_option maxRecDepth 8000 in
theorem pmX12_allCome : prms yX12_allCome 2 := ⟨by decide +kernel, by decide +kernel, by decide +kernel⟩
set_option maxRecDepth 8000 in
theorem pmX12_list : prms yX12_list 2 := ⟨by decide +kernel, by decide +kernel, by decide +kernel⟩
set_option maxRecDepth 8000 in
theorem pmX12_looked : prms yX12_looked 0 := ⟨by decide +kernel, by decide +kernel, by decide +kernel⟩
set_option maxRecDepth 8000 in
theorem pmX12_firstOff : prms yX12_firstOff 1 := ⟨by decide +kernel, by decide +kernel, by decide +kernel⟩
set_option maxRecDepth 8000 in
theorem pmX12_fits : prms yX12_fits 0 := ⟨by decide +kernel, by decide +kernel, by decide +kernel⟩
set_option maxRecDepth 8000 in
theorem pmX12_chance : prms yX12_chance 2 := ⟨by decide +kernel, by decide +kernel, by decide +kernel⟩
set_option maxRecDepth 8000 in
theorem pmX12_comesIn : prms yX12_comesIn 2 := ⟨by decide +kernel, by decide +kernel, by decide +kernel⟩
set_option maxRecDepth 8000 in
theorem pmX12_divisor : prms yX12_divisor 2 := ⟨by decide +kernel, by decide +kernel, by decide +kernel⟩
set_option maxRecDepth 8000 in
theorem pmX12_judge : prms yX12_judge 2 := ⟨by decide +kernel, by decide +kernel, by decide +kernel⟩
set_option maxRecDepth 8000 in
theorem pmX12_isTape : prms yX12_isTape 1 := ⟨by decide +kernel, by decide +kernel, by decide +kernel⟩
set_option maxRecDepth 8000 in
theorem pmX12_image : prms yX12_image 0 := ⟨by decide +kernel, by decide +kernel, by decide +kernel⟩
set_option maxRecDepth 8000 in
theorem pmX12_undo : prms yX12_undo 0 := ⟨by decide +kernel, by decide +kernel, by decide +kernel⟩
set_option maxRecDepth 8000 in
theorem pmX12_act : prms yX12_act 3 := ⟨by decide +kernel, by decide +kernel, by decide +kernel⟩
set_option maxRecDepth 8000 in
theorem pmX12_saysAct : prms yX12_saysAct 2 := ⟨by decide +kernel, by decide +kernel, by decide +kernel⟩
set_option maxRecDepth 8000 in
theorem pmX12_body : prms yX12_body 1 := ⟨by decide +kernel, by decide +kernel, by decide +kernel⟩
set_option maxRecDepth 8000 in
theorem pmX12_knowingSays : prms yX12_knowingSays 2 := ⟨by decide +kernel, by decide +kernel, by decide +kernel⟩
set_option maxRecDepth 8000 in
theorem pmX12_holdsAct : prms yX12_holdsAct 2 := ⟨by decide +kernel, by decide +kernel, by decide +kernel⟩
set_option maxRecDepth 8000 in
theorem pmX12_writtenHolds : prms yX12_writtenHolds 2 := ⟨by decide +kernel, by decide +kernel, by decide +kernel⟩
set_option maxRecDepth 8000 in
theorem pmX12_knowingHolds : prms yX12_knowingHolds 2 := ⟨by decide +kernel, by decide +kernel, by decide +kernel⟩
set_option maxRecDepth 8000 in
theorem pmX12_tellsAct : prms yX12_tellsAct 2 := ⟨by decide +kernel, by decide +kernel, by decide +kernel⟩
set_option maxRecDepth 8000 in
theorem pmX12_knowingTells : prms yX12_knowingTells 2 := ⟨by decide +kernel, by decide +kernel, by decide +kernel⟩
set_option maxRecDepth 8000 in
theorem pmX12_trace : prms yX12_trace 1 := ⟨by decide +kernel, by decide +kernel, by decide +kernel⟩
set_option maxRecDepth 8000 in
theorem pmX12_taken : prms yX12_taken 2 := ⟨by decide +kernel, by decide +kernel, by decide +kernel⟩
set_option maxRecDepth 8000 in
theorem pmX12_count : prms yX12_count 1 := ⟨by decide +kernel, by decide +kernel, by decide +kernel⟩
set_option maxRecDepth 8000 in
theorem pmX12_tape : prms yX12_tape 3 := ⟨by decide +kernel, by decide +kernel, by decide +kernel⟩
set_option maxRecDepth 8000 in
theorem pmX12_item : prms yX12_item 3 := ⟨by decide +kernel, by decide +kernel, by decide +kernel⟩
set_option maxRecDepth 8000 in
theorem pmX12_narrow : prms yX12_narrow 2 := ⟨by decide +kernel, by decide +kernel, by decide +kernel⟩
set_option maxRecDepth 8000 in
theorem pmX12_read : prms yX12_read 2 := ⟨by decide +kernel, by decide +kernel, by decide +kernel⟩
set_option maxRecDepth 8000 in
theorem pmX12_shift : prms yX12_shift 5 := ⟨by decide +kernel, by decide +kernel, by decide +kernel⟩
set_option maxRecDepth 8000 in
theorem w_697 : (Jvm.Cond.methodLink "NextOneKnows$Ahead" (38 : Nat) ({ cls := "java/lang/Math", name := "min", desc := "(II)I" } : Jvm.MethodName)) ∈ TG := tg_3 144 rfl rfl
set_option maxRecDepth 8000 in
theorem w_607 : (Jvm.Cond.static ({ cls := "java/lang/Math", name := "min", desc := "(II)I" } : Jvm.MethodName)) ∈ TG := tg_3 54 rfl rfl
set_option maxRecDepth 8000 in
theorem w_83 : (Jvm.Cond.initialized "java/lang/Math") ∈ TG := tg_1 10 rfl rfl
set_option maxRecDepth 8000 in
theorem sX0_look_6 : Site RX0 mX0_look 6 9 mJ9_min_7cf53 none 2 := site_S (dk DX0_look 4 rfl) w_697 w_607 w_83 kJ9_min_7cf53 pmJ9_min_7cf53 (by decide)
set_option maxRecDepth 8000 in
theorem w_698 : (Jvm.Cond.methodLink "NextOneKnows$Ahead" (44 : Nat) ({ cls := "java/lang/Math", name := "max", desc := "(II)I" } : Jvm.MethodName)) ∈ TG := tg_3 145 rfl rfl
set_option maxRecDepth 8000 in
theorem w_358 : (Jvm.Cond.static ({ cls := "java/lang/Math", name := "max", desc := "(II)I" } : Jvm.MethodName)) ∈ TG := tg_2 45 rfl rfl
set_option maxRecDepth 8000 in
theorem sX0_look_9 : Site RX0 mX0_look 9 12 mJ9_max_7cf53 none 2 := site_S (dk DX0_look 5 rfl) w_698 w_358 w_83 kJ9_max_7cf53 pmJ9_max_7cf53 (by decide)
set_option maxRecDepth 8000 in
theorem w_699 : (Jvm.Cond.methodLink "NextOneKnows$Ahead" (51 : Nat) ({ cls := "java/util/Arrays", name := "fill", desc := "([II)V" } : Jvm.MethodName)) ∈ TG := tg_3 146 rfl rfl
set_option maxRecDepth 8000 in
theorem w_254 : (Jvm.Cond.static ({ cls := "java/util/Arrays", name := "fill", desc := "([II)V" } : Jvm.MethodName)) ∈ TG := tg_1 181 rfl rfl
set_option maxRecDepth 8000 in
theorem w_78 : (Jvm.Cond.initialized "java/util/Arrays") ∈ TG := tg_1 5 rfl rfl
set_option maxRecDepth 8000 in
theorem sX0_look_20 : Site RX0 mX0_look 20 23 mJ7_fill_53178 none 2 := site_S (dk DX0_look 10 rfl) w_699 w_254 w_78 kJ7_fill_53178 pmJ7_fill_53178 (by decide)
set_option maxRecDepth 8000 in
theorem w_702 : (Jvm.Cond.selects "NextOneKnows$State" ({ cls := "NextOneKnows$State", name := "coming", desc := "(I)I" } : Jvm.MethodName) ({ cls := "NextOneKnows$State", name := "coming", desc := "(I)I" } : Jvm.MethodName)) ∈ TG := tg_3 149 rfl rfl
set_option maxRecDepth 8000 in
theorem w_700 : (Jvm.Cond.methodLink "NextOneKnows$Ahead" (62 : Nat) ({ cls := "NextOneKnows$State", name := "coming", desc := "(I)I" } : Jvm.MethodName)) ∈ TG := tg_3 147 rfl rfl
set_option maxRecDepth 8000 in
theorem w_701 : (Jvm.Cond.instanceMethod ({ cls := "NextOneKnows$State", name := "coming", desc := "(I)I" } : Jvm.MethodName)) ∈ TG := tg_3 148 rfl rfl
set_option maxRecDepth 8000 in
theorem w_75 : (Jvm.Cond.initialized "NextOneKnows$State") ∈ TG := tg_1 2 rfl rfl
set_option maxRecDepth 8000 in
theorem sX0_look_51 : Site RX0 mX0_look 51 54 mX5_coming (some 5) 2 := site_V (dk DX0_look 27 rfl) KX5 w_700 w_701 w_702 w_75 kX5_coming pmX5_coming (by decide)
set_option maxRecDepth 8000 in
theorem w_13 : Cond.selects "NextOneKnows$Ahead" ({ cls := "NextOneKnows$Ahead", name := "lookDear", desc := "(II)V" } : Jvm.MethodName) ({ cls := "NextOneKnows$Ahead", name := "lookDear", desc := "(II)V" } : Jvm.MethodName) ∈ TG := tg_p 13 rfl rfl
set_option maxRecDepth 8000 in
theorem w_719 : (Jvm.Cond.methodLink "NextOneKnows$Ahead" (65 : Nat) ({ cls := "NextOneKnows$Ahead", name := "lookDear", desc := "(II)V" } : Jvm.MethodName)) ∈ TG := tg_3 166 rfl rfl
set_option maxRecDepth 8000 in
theorem w_721 : (Jvm.Cond.instanceMethod ({ cls := "NextOneKnows$Ahead", name := "lookDear", desc := "(II)V" } : Jvm.MethodName)) ∈ TG := tg_3 168 rfl rfl
set_option maxRecDepth 8000 in
theorem w_76 : (Jvm.Cond.initialized "NextOneKnows$Ahead") ∈ TG := tg_1 3 rfl rfl
set_option maxRecDepth 8000 in
theorem sX0_look_71 : Site RX0 mX0_look 71 74 mX0_lookDear (some 0) 3 := site_V (dk DX0_look 39 rfl) KX0 w_719 w_721 w_13 w_76 kX0_lookDear pmX0_lookDear (by decide)
set_option maxRecDepth 8000 in
theorem w_723 : (Jvm.Cond.methodLink "NextOneKnows$Ahead" (72 : Nat) ({ cls := "NextOneKnows$Ahead", name := "dearCell", desc := "(II)I" } : Jvm.MethodName)) ∈ TG := tg_3 170 rfl rfl
set_option maxRecDepth 8000 in
theorem w_724 : (Jvm.Cond.static ({ cls := "NextOneKnows$Ahead", name := "dearCell", desc := "(II)I" } : Jvm.MethodName)) ∈ TG := tg_3 171 rfl rfl
set_option maxRecDepth 8000 in
theorem sX0_lookDear_15 : Site RX0 mX0_lookDear 15 18 mX0_dearCell none 2 := site_S (dk DX0_lookDear 9 rfl) w_723 w_724 w_76 kX0_dearCell pmX0_dearCell (by decide)
set_option maxRecDepth 8000 in
theorem w_491 : (Jvm.Cond.selects "NextOneKnows$State" ({ cls := "NextOneKnows$State", name := "find", desc := "(I)LNextOneKnows$Doing;" } : Jvm.MethodName) ({ cls := "NextOneKnows$State", name := "find", desc := "(I)LNextOneKnows$Doing;" } : Jvm.MethodName)) ∈ TG := tg_2 178 rfl rfl
set_option maxRecDepth 8000 in
theorem w_678 : (Jvm.Cond.methodLink "NextOneKnows$Ahead" (75 : Nat) ({ cls := "NextOneKnows$State", name := "find", desc := "(I)LNextOneKnows$Doing;" } : Jvm.MethodName)) ∈ TG := tg_3 125 rfl rfl
set_option maxRecDepth 8000 in
theorem w_490 : (Jvm.Cond.instanceMethod ({ cls := "NextOneKnows$State", name := "find", desc := "(I)LNextOneKnows$Doing;" } : Jvm.MethodName)) ∈ TG := tg_2 177 rfl rfl
set_option maxRecDepth 8000 in
theorem sX0_lookDear_25 : Site RX0 mX0_lookDear 25 28 mX5_find (some 5) 2 := site_V (dk DX0_lookDear 14 rfl) KX5 w_678 w_490 w_491 w_75 kX5_find pmX5_find (by decide)
set_option maxRecDepth 8000 in
theorem w_517 : (Jvm.Cond.static ({ cls := "NextOneKnows", name := "bit", desc := "(II)I" } : Jvm.MethodName)) ∈ TG := tg_2 204 rfl rfl
set_option maxRecDepth 8000 in
theorem w_74 : (Jvm.Cond.initialized "NextOneKnows") ∈ TG := tg_1 1 rfl rfl
set_option maxRecDepth 8000 in
theorem sX0_lookDear_37 : Site RX0 mX0_lookDear 37 40 mX11_bit none 2 := site_SN (host := "NextOneKnows") (dk DX0_lookDear 20 rfl) (by decide +kernel) w_517 w_74 kX11_bit pmX11_bit (by decide)
set_option maxRecDepth 8000 in
theorem w_573 : (Jvm.Cond.selects "NextOneKnows$State" ({ cls := "NextOneKnows$State", name := "dearIn", desc := "(LNextOneKnows$Doing;I)I" } : Jvm.MethodName) ({ cls := "NextOneKnows$State", name := "dearIn", desc := "(LNextOneKnows$Doing;I)I" } : Jvm.MethodName)) ∈ TG := tg_3 20 rfl rfl
set_option maxRecDepth 8000 in
theorem w_728 : (Jvm.Cond.methodLink "NextOneKnows$Ahead" (82 : Nat) ({ cls := "NextOneKnows$State", name := "dearIn", desc := "(LNextOneKnows$Doing;I)I" } : Jvm.MethodName)) ∈ TG := tg_3 175 rfl rfl
set_option maxRecDepth 8000 in
theorem w_572 : (Jvm.Cond.instanceMethod ({ cls := "NextOneKnows$State", name := "dearIn", desc := "(LNextOneKnows$Doing;I)I" } : Jvm.MethodName)) ∈ TG := tg_3 19 rfl rfl
set_option maxRecDepth 8000 in
theorem sX0_lookDear_66 : Site RX0 mX0_lookDear 66 69 mX5_dearIn (some 5) 3 := site_V (dk DX0_lookDear 34 rfl) KX5 w_728 w_572 w_573 w_75 kX5_dearIn pmX5_dearIn (by decide)
set_option maxRecDepth 8000 in
theorem w_726 : (Jvm.Cond.methodLink "NextOneKnows$Ahead" (86 : Nat) ({ cls := "java/lang/Math", name := "floorMod", desc := "(II)I" } : Jvm.MethodName)) ∈ TG := tg_3 173 rfl rfl
set_option maxRecDepth 8000 in
theorem w_717 : (Jvm.Cond.static ({ cls := "java/lang/Math", name := "floorMod", desc := "(II)I" } : Jvm.MethodName)) ∈ TG := tg_3 164 rfl rfl
set_option maxRecDepth 8000 in
theorem sX0_dearCell_7 : Site RX0 mX0_dearCell 7 10 mJ9_floorMod_7cf53 none 2 := site_S (dk DX0_dearCell 5 rfl) w_726 w_717 w_83 kJ9_floorMod_7cf53 pmJ9_floorMod_7cf53 (by decide)
set_option maxRecDepth 8000 in
theorem sX0_hear_18 : Site RX0 mX0_hear 18 21 mX5_find (some 5) 2 := site_V (dk DX0_hear 10 rfl) KX5 w_678 w_490 w_491 w_75 kX5_find pmX5_find (by decide)
set_option maxRecDepth 8000 in
theorem w_0 : Cond.selects "NextOneKnows$Ahead" ({ cls := "NextOneKnows$Ahead", name := "hearOf", desc := "(LNextOneKnows$Doing;)V" } : Jvm.MethodName) ({ cls := "NextOneKnows$Ahead", name := "hearOf", desc := "(LNextOneKnows$Doing;)V" } : Jvm.MethodName) ∈ TG := tg_p 0 rfl rfl
set_option maxRecDepth 8000 in
theorem w_523 : (Jvm.Cond.methodLink "NextOneKnows$Ahead" (89 : Nat) ({ cls := "NextOneKnows$Ahead", name := "hearOf", desc := "(LNextOneKnows$Doing;)V" } : Jvm.MethodName)) ∈ TG := tg_2 210 rfl rfl
set_option maxRecDepth 8000 in
theorem w_525 : (Jvm.Cond.instanceMethod ({ cls := "NextOneKnows$Ahead", name := "hearOf", desc := "(LNextOneKnows$Doing;)V" } : Jvm.MethodName)) ∈ TG := tg_2 212 rfl rfl
set_option maxRecDepth 8000 in
theorem sX0_hear_28 : Site RX0 mX0_hear 28 31 mX0_hearOf (some 0) 2 := site_V (dk DX0_hear 16 rfl) KX0 w_523 w_525 w_0 w_76 kX0_hearOf pmX0_hearOf (by decide)
set_option maxRecDepth 8000 in
theorem w_529 : (Jvm.Cond.selects "NextOneKnows$State" ({ cls := "NextOneKnows$State", name := "saidBy", desc := "(LNextOneKnows$Doing;I)I" } : Jvm.MethodName) ({ cls := "NextOneKnows$State", name := "saidBy", desc := "(LNextOneKnows$Doing;I)I" } : Jvm.MethodName)) ∈ TG := tg_2 216 rfl rfl
set_option maxRecDepth 8000 in
theorem w_527 : (Jvm.Cond.methodLink "NextOneKnows$Ahead" (98 : Nat) ({ cls := "NextOneKnows$State", name := "saidBy", desc := "(LNextOneKnows$Doing;I)I" } : Jvm.MethodName)) ∈ TG := tg_2 214 rfl rfl
set_option maxRecDepth 8000 in
theorem w_528 : (Jvm.Cond.instanceMethod ({ cls := "NextOneKnows$State", name := "saidBy", desc := "(LNextOneKnows$Doing;I)I" } : Jvm.MethodName)) ∈ TG := tg_2 215 rfl rfl
set_option maxRecDepth 8000 in
theorem sX0_hearOf_23 : Site RX0 mX0_hearOf 23 26 mX5_saidBy (some 5) 3 := site_V (dk DX0_hearOf 15 rfl) KX5 w_527 w_528 w_529 w_75 kX5_saidBy pmX5_saidBy (by decide)
set_option maxRecDepth 8000 in
theorem sX0_saidOf_2 : Site RX0 mX0_saidOf 2 5 mX0_hearOf (some 0) 2 := site_V (dk DX0_saidOf 2 rfl) KX0 w_523 w_525 w_0 w_76 kX0_hearOf pmX0_hearOf (by decide)
set_option maxRecDepth 8000 in
theorem w_543 : (Jvm.Cond.methodLink "NextOneKnows$Ahead" (104 : Nat) ({ cls := "NextOneKnows$Doing", name := "saidOver", desc := "([I[I)I" } : Jvm.MethodName)) ∈ TG := tg_2 230 rfl rfl
set_option maxRecDepth 8000 in
theorem w_546 : (Jvm.Cond.sameMethod "NextOneKnows$Doing" "NextOneKnows$Doing" "saidOver" "([I[I)I") ∈ TG := tg_2 233 rfl rfl
set_option maxRecDepth 8000 in
theorem w_544 : (Jvm.Cond.instanceMethod ({ cls := "NextOneKnows$Doing", name := "saidOver", desc := "([I[I)I" } : Jvm.MethodName)) ∈ TG := tg_2 231 rfl rfl
set_option maxRecDepth 8000 in
theorem w_545 : (Jvm.Cond.selects "NextOneKnows$Doing" ({ cls := "NextOneKnows$Doing", name := "saidOver", desc := "([I[I)I" } : Jvm.MethodName) ({ cls := "NextOneKnows$Doing", name := "saidOver", desc := "([I[I)I" } : Jvm.MethodName)) ∈ TG := tg_2 232 rfl rfl
set_option maxRecDepth 8000 in
theorem w_81 : (Jvm.Cond.initialized "NextOneKnows$Doing") ∈ TG := tg_1 8 rfl rfl
set_option maxRecDepth 8000 in
theorem sX0_saidOf_22_c1 : Site RX0 mX0_saidOf 22 25 mX1_saidOver (some 1) 3 := site_U (owner := RX1) (x := ⟨RX1, "saidOver", "([I[I)I"⟩) (dk DX0_saidOf 12 rfl) KX1 w_543 w_546 w_544 (kX1_saidOver) w_544 w_545 w_81 kX1_saidOver pmX1_saidOver (by decide)
set_option maxRecDepth 8000 in
theorem w_562 : (Jvm.Cond.instanceMethod ({ cls := "NextOneKnows$Written", name := "saidOver", desc := "([I[I)I" } : Jvm.MethodName)) ∈ TG := tg_3 9 rfl rfl
set_option maxRecDepth 8000 in
theorem w_565 : (Jvm.Cond.selects "NextOneKnows$Written" ({ cls := "NextOneKnows$Doing", name := "saidOver", desc := "([I[I)I" } : Jvm.MethodName) ({ cls := "NextOneKnows$Written", name := "saidOver", desc := "([I[I)I" } : Jvm.MethodName)) ∈ TG := tg_3 12 rfl rfl
set_option maxRecDepth 8000 in
theorem w_82 : (Jvm.Cond.initialized "NextOneKnows$Written") ∈ TG := tg_1 9 rfl rfl
set_option maxRecDepth 8000 in
theorem sX0_saidOf_22_c9 : Site RX0 mX0_saidOf 22 25 mX9_saidOver (some 9) 3 := site_U (owner := RX1) (x := ⟨RX1, "saidOver", "([I[I)I"⟩) (dk DX0_saidOf 12 rfl) KX9 w_543 w_546 w_544 (kX1_saidOver) w_562 w_565 w_82 kX9_saidOver pmX1_saidOver (by decide)
set_option maxRecDepth 8000 in
theorem w_559 : (Jvm.Cond.instanceMethod ({ cls := "NextOneKnows$Why", name := "saidOver", desc := "([I[I)I" } : Jvm.MethodName)) ∈ TG := tg_3 6 rfl rfl
set_option maxRecDepth 8000 in
theorem w_558 : (Jvm.Cond.selects "NextOneKnows$Why" ({ cls := "NextOneKnows$Doing", name := "saidOver", desc := "([I[I)I" } : Jvm.MethodName) ({ cls := "NextOneKnows$Why", name := "saidOver", desc := "([I[I)I" } : Jvm.MethodName)) ∈ TG := tg_3 5 rfl rfl
set_option maxRecDepth 8000 in
theorem w_86 : (Jvm.Cond.initialized "NextOneKnows$Why") ∈ TG := tg_1 13 rfl rfl
set_option maxRecDepth 8000 in
theorem sX0_saidOf_22_c8 : Site RX0 mX0_saidOf 22 25 mX8_saidOver (some 8) 3 := site_U (owner := RX1) (x := ⟨RX1, "saidOver", "([I[I)I"⟩) (dk DX0_saidOf 12 rfl) KX8 w_543 w_546 w_544 (kX1_saidOver) w_559 w_558 w_86 kX8_saidOver pmX1_saidOver (by decide)
set_option maxRecDepth 8000 in
theorem w_548 : (Jvm.Cond.instanceMethod ({ cls := "NextOneKnows$Plain", name := "saidOver", desc := "([I[I)I" } : Jvm.MethodName)) ∈ TG := tg_2 235 rfl rfl
set_option maxRecDepth 8000 in
theorem w_547 : (Jvm.Cond.selects "NextOneKnows$Plain" ({ cls := "NextOneKnows$Doing", name := "saidOver", desc := "([I[I)I" } : Jvm.MethodName) ({ cls := "NextOneKnows$Plain", name := "saidOver", desc := "([I[I)I" } : Jvm.MethodName)) ∈ TG := tg_2 234 rfl rfl
set_option maxRecDepth 8000 in
theorem w_84 : (Jvm.Cond.initialized "NextOneKnows$Plain") ∈ TG := tg_1 11 rfl rfl
set_option maxRecDepth 8000 in
theorem sX0_saidOf_22_c2 : Site RX0 mX0_saidOf 22 25 mX2_saidOver (some 2) 3 := site_U (owner := RX1) (x := ⟨RX1, "saidOver", "([I[I)I"⟩) (dk DX0_saidOf 12 rfl) KX2 w_543 w_546 w_544 (kX1_saidOver) w_548 w_547 w_84 kX2_saidOver pmX1_saidOver (by decide)
set_option maxRecDepth 8000 in
theorem w_555 : (Jvm.Cond.instanceMethod ({ cls := "NextOneKnows$Tied", name := "saidOver", desc := "([I[I)I" } : Jvm.MethodName)) ∈ TG := tg_3 2 rfl rfl
set_option maxRecDepth 8000 in
theorem w_554 : (Jvm.Cond.selects "NextOneKnows$Tied" ({ cls := "NextOneKnows$Doing", name := "saidOver", desc := "([I[I)I" } : Jvm.MethodName) ({ cls := "NextOneKnows$Tied", name := "saidOver", desc := "([I[I)I" } : Jvm.MethodName)) ∈ TG := tg_3 1 rfl rfl
set_option maxRecDepth 8000 in
theorem w_87 : (Jvm.Cond.initialized "NextOneKnows$Tied") ∈ TG := tg_1 14 rfl rfl
set_option maxRecDepth 8000 in
theorem sX0_saidOf_22_c6 : Site RX0 mX0_saidOf 22 25 mX6_saidOver (some 6) 3 := site_U (owner := RX1) (x := ⟨RX1, "saidOver", "([I[I)I"⟩) (dk DX0_saidOf 12 rfl) KX6 w_543 w_546 w_544 (kX1_saidOver) w_555 w_554 w_87 kX6_saidOver pmX1_saidOver (by decide)
set_option maxRecDepth 8000 in
theorem w_551 : (Jvm.Cond.instanceMethod ({ cls := "NextOneKnows$Rare", name := "saidOver", desc := "([I[I)I" } : Jvm.MethodName)) ∈ TG := tg_2 238 rfl rfl
set_option maxRecDepth 8000 in
theorem w_550 : (Jvm.Cond.selects "NextOneKnows$Rare" ({ cls := "NextOneKnows$Doing", name := "saidOver", desc := "([I[I)I" } : Jvm.MethodName) ({ cls := "NextOneKnows$Rare", name := "saidOver", desc := "([I[I)I" } : Jvm.MethodName)) ∈ TG := tg_2 237 rfl rfl
set_option maxRecDepth 8000 in
theorem w_85 : (Jvm.Cond.initialized "NextOneKnows$Rare") ∈ TG := tg_1 12 rfl rfl
set_option maxRecDepth 8000 in
theorem sX0_saidOf_22_c4 : Site RX0 mX0_saidOf 22 25 mX4_saidOver (some 4) 3 := site_U (owner := RX1) (x := ⟨RX1, "saidOver", "([I[I)I"⟩) (dk DX0_saidOf 12 rfl) KX4 w_543 w_546 w_544 (kX1_saidOver) w_551 w_550 w_85 kX4_saidOver pmX1_saidOver (by decide)
set_option maxRecDepth 8000 in
theorem w_567 : (Jvm.Cond.instanceMethod ({ cls := "NextOneKnows$Wrong", name := "saidOver", desc := "([I[I)I" } : Jvm.MethodName)) ∈ TG := tg_3 14 rfl rfl
set_option maxRecDepth 8000 in
theorem w_566 : (Jvm.Cond.selects "NextOneKnows$Wrong" ({ cls := "NextOneKnows$Doing", name := "saidOver", desc := "([I[I)I" } : Jvm.MethodName) ({ cls := "NextOneKnows$Wrong", name := "saidOver", desc := "([I[I)I" } : Jvm.MethodName)) ∈ TG := tg_3 13 rfl rfl
set_option maxRecDepth 8000 in
theorem w_88 : (Jvm.Cond.initialized "NextOneKnows$Wrong") ∈ TG := tg_1 15 rfl rfl
set_option maxRecDepth 8000 in
theorem sX0_saidOf_22_c10 : Site RX0 mX0_saidOf 22 25 mX10_saidOver (some 10) 3 := site_U (owner := RX1) (x := ⟨RX1, "saidOver", "([I[I)I"⟩) (dk DX0_saidOf 12 rfl) KX10 w_543 w_546 w_544 (kX1_saidOver) w_567 w_566 w_88 kX10_saidOver pmX1_saidOver (by decide)
set_option maxRecDepth 8000 in
theorem sX0_goingOver_20 : Site RX0 mX0_goingOver 20 23 mX5_find (some 5) 2 := site_V (dk DX0_goingOver 12 rfl) KX5 w_678 w_490 w_491 w_75 kX5_find pmX5_find (by decide)
set_option maxRecDepth 8000 in
theorem sX0_goingOver_39_c1 : Site RX0 mX0_goingOver 39 42 mX1_saidOver (some 1) 3 := site_U (owner := RX1) (x := ⟨RX1, "saidOver", "([I[I)I"⟩) (dk DX0_goingOver 22 rfl) KX1 w_543 w_546 w_544 (kX1_saidOver) w_544 w_545 w_81 kX1_saidOver pmX1_saidOver (by decide)
set_option maxRecDepth 8000 in
theorem sX0_goingOver_39_c9 : Site RX0 mX0_goingOver 39 42 mX9_saidOver (some 9) 3 := site_U (owner := RX1) (x := ⟨RX1, "saidOver", "([I[I)I"⟩) (dk DX0_goingOver 22 rfl) KX9 w_543 w_546 w_544 (kX1_saidOver) w_562 w_565 w_82 kX9_saidOver pmX1_saidOver (by decide)
set_option maxRecDepth 8000 in
theorem sX0_goingOver_39_c8 : Site RX0 mX0_goingOver 39 42 mX8_saidOver (some 8) 3 := site_U (owner := RX1) (x := ⟨RX1, "saidOver", "([I[I)I"⟩) (dk DX0_goingOver 22 rfl) KX8 w_543 w_546 w_544 (kX1_saidOver) w_559 w_558 w_86 kX8_saidOver pmX1_saidOver (by decide)
set_option maxRecDepth 8000 in
theorem sX0_goingOver_39_c2 : Site RX0 mX0_goingOver 39 42 mX2_saidOver (some 2) 3 := site_U (owner := RX1) (x := ⟨RX1, "saidOver", "([I[I)I"⟩) (dk DX0_goingOver 22 rfl) KX2 w_543 w_546 w_544 (kX1_saidOver) w_548 w_547 w_84 kX2_saidOver pmX1_saidOver (by decide)
set_option maxRecDepth 8000 in
theorem sX0_goingOver_39_c6 : Site RX0 mX0_goingOver 39 42 mX6_saidOver (some 6) 3 := site_U (owner := RX1) (x := ⟨RX1, "saidOver", "([I[I)I"⟩) (dk DX0_goingOver 22 rfl) KX6 w_543 w_546 w_544 (kX1_saidOver) w_555 w_554 w_87 kX6_saidOver pmX1_saidOver (by decide)
set_option maxRecDepth 8000 in
theorem sX0_goingOver_39_c4 : Site RX0 mX0_goingOver 39 42 mX4_saidOver (some 4) 3 := site_U (owner := RX1) (x := ⟨RX1, "saidOver", "([I[I)I"⟩) (dk DX0_goingOver 22 rfl) KX4 w_543 w_546 w_544 (kX1_saidOver) w_551 w_550 w_85 kX4_saidOver pmX1_saidOver (by decide)
set_option maxRecDepth 8000 in
theorem sX0_goingOver_39_c10 : Site RX0 mX0_goingOver 39 42 mX10_saidOver (some 10) 3 := site_U (owner := RX1) (x := ⟨RX1, "saidOver", "([I[I)I"⟩) (dk DX0_goingOver 22 rfl) KX10 w_543 w_546 w_544 (kX1_saidOver) w_567 w_566 w_88 kX10_saidOver pmX1_saidOver (by decide)
set_option maxRecDepth 8000 in
theorem w_14 : Cond.selects "NextOneKnows$Ahead" ({ cls := "NextOneKnows$Ahead", name := "stopAll", desc := "(II)V" } : Jvm.MethodName) ({ cls := "NextOneKnows$Ahead", name := "stopAll", desc := "(II)V" } : Jvm.MethodName) ∈ TG := tg_p 14 rfl rfl
set_option maxRecDepth 8000 in
theorem w_733 : (Jvm.Cond.methodLink "NextOneKnows$Ahead" (132 : Nat) ({ cls := "NextOneKnows$Ahead", name := "stopAll", desc := "(II)V" } : Jvm.MethodName)) ∈ TG := tg_3 180 rfl rfl
set_option maxRecDepth 8000 in
theorem w_735 : (Jvm.Cond.instanceMethod ({ cls := "NextOneKnows$Ahead", name := "stopAll", desc := "(II)V" } : Jvm.MethodName)) ∈ TG := tg_3 182 rfl rfl
set_option maxRecDepth 8000 in
theorem sX0_pass_98 : Site RX0 mX0_pass 98 101 mX0_stopAll (some 0) 3 := site_V (dk DX0_pass_1 0 rfl) KX0 w_733 w_735 w_14 w_76 kX0_stopAll pmX0_stopAll (by decide)
set_option maxRecDepth 8000 in
theorem w_771 : (Jvm.Cond.methodLink "NextOneKnows$Ahead" (135 : Nat) ({ cls := "java/lang/Integer", name := "bitCount", desc := "(I)I" } : Jvm.MethodName)) ∈ TG := tg_3 218 rfl rfl
set_option maxRecDepth 8000 in
theorem w_684 : (Jvm.Cond.static ({ cls := "java/lang/Integer", name := "bitCount", desc := "(I)I" } : Jvm.MethodName)) ∈ TG := tg_3 131 rfl rfl
set_option maxRecDepth 8000 in
theorem w_89 : (Jvm.Cond.initialized "java/lang/Integer") ∈ TG := tg_1 16 rfl rfl
set_option maxRecDepth 8000 in
theorem sX0_pass_122 : Site RX0 mX0_pass 122 125 mJ6_bitCount_0f7a4 none 1 := site_S (dk DX0_pass_1 14 rfl) w_771 w_684 w_89 kJ6_bitCount_0f7a4 pmJ6_bitCount_0f7a4 (by decide)
set_option maxRecDepth 8000 in
theorem sX0_stopAll_23 : Site RX0 mX0_stopAll 23 26 mX5_find (some 5) 2 := site_V (dk DX0_stopAll 13 rfl) KX5 w_678 w_490 w_491 w_75 kX5_find pmX5_find (by decide)
set_option maxRecDepth 8000 in
theorem sX0_stopAll_35 : Site RX0 mX0_stopAll 35 38 mX11_bit none 2 := site_SN (host := "NextOneKnows") (dk DX0_stopAll 19 rfl) (by decide +kernel) w_517 w_74 kX11_bit pmX11_bit (by decide)
set_option maxRecDepth 8000 in
theorem w_15 : Cond.selects "NextOneKnows$Ahead" ({ cls := "NextOneKnows$Ahead", name := "stop", desc := "(LNextOneKnows$Doing;I)V" } : Jvm.MethodName) ({ cls := "NextOneKnows$Ahead", name := "stop", desc := "(LNextOneKnows$Doing;I)V" } : Jvm.MethodName) ∈ TG := tg_p 15 rfl rfl
set_option maxRecDepth 8000 in
theorem w_737 : (Jvm.Cond.methodLink "NextOneKnows$Ahead" (143 : Nat) ({ cls := "NextOneKnows$Ahead", name := "stop", desc := "(LNextOneKnows$Doing;I)V" } : Jvm.MethodName)) ∈ TG := tg_3 184 rfl rfl
set_option maxRecDepth 8000 in
theorem w_739 : (Jvm.Cond.instanceMethod ({ cls := "NextOneKnows$Ahead", name := "stop", desc := "(LNextOneKnows$Doing;I)V" } : Jvm.MethodName)) ∈ TG := tg_3 186 rfl rfl
set_option maxRecDepth 8000 in
theorem sX0_stopAll_45 : Site RX0 mX0_stopAll 45 48 mX0_stop (some 0) 3 := site_V (dk DX0_stopAll 24 rfl) KX0 w_737 w_739 w_15 w_76 kX0_stop pmX0_stop (by decide)
set_option maxRecDepth 8000 in
theorem w_659 : (Jvm.Cond.selects "NextOneKnows$State" ({ cls := "NextOneKnows$State", name := "callsAtFirst", desc := "()I" } : Jvm.MethodName) ({ cls := "NextOneKnows$State", name := "callsAtFirst", desc := "()I" } : Jvm.MethodName)) ∈ TG := tg_3 106 rfl rfl
set_option maxRecDepth 8000 in
theorem w_741 : (Jvm.Cond.methodLink "NextOneKnows$Ahead" (147 : Nat) ({ cls := "NextOneKnows$State", name := "callsAtFirst", desc := "()I" } : Jvm.MethodName)) ∈ TG := tg_3 188 rfl rfl
set_option maxRecDepth 8000 in
theorem w_658 : (Jvm.Cond.instanceMethod ({ cls := "NextOneKnows$State", name := "callsAtFirst", desc := "()I" } : Jvm.MethodName)) ∈ TG := tg_3 105 rfl rfl
set_option maxRecDepth 8000 in
theorem sX0_stop_38 : Site RX0 mX0_stop 38 41 mX5_callsAtFirst (some 5) 1 := site_V (dk DX0_stop_0 20 rfl) KX5 w_741 w_658 w_659 w_75 kX5_callsAtFirst pmX5_callsAtFirst (by decide)
set_option maxRecDepth 8000 in
theorem w_663 : (Jvm.Cond.selects "NextOneKnows$State" ({ cls := "NextOneKnows$State", name := "callsFading", desc := "()I" } : Jvm.MethodName) ({ cls := "NextOneKnows$State", name := "callsFading", desc := "()I" } : Jvm.MethodName)) ∈ TG := tg_3 110 rfl rfl
set_option maxRecDepth 8000 in
theorem w_742 : (Jvm.Cond.methodLink "NextOneKnows$Ahead" (151 : Nat) ({ cls := "NextOneKnows$State", name := "callsFading", desc := "()I" } : Jvm.MethodName)) ∈ TG := tg_3 189 rfl rfl
set_option maxRecDepth 8000 in
theorem w_662 : (Jvm.Cond.instanceMethod ({ cls := "NextOneKnows$State", name := "callsFading", desc := "()I" } : Jvm.MethodName)) ∈ TG := tg_3 109 rfl rfl
set_option maxRecDepth 8000 in
theorem sX0_stop_45 : Site RX0 mX0_stop 45 48 mX5_callsFading (some 5) 1 := site_V (dk DX0_stop_0 23 rfl) KX5 w_742 w_662 w_663 w_75 kX5_callsFading pmX5_callsFading (by decide)
set_option maxRecDepth 8000 in
theorem sX0_stop_106 : Site RX0 mX0_stop 106 109 mX0_dearCell none 2 := site_S (dk DX0_stop_0 58 rfl) w_723 w_724 w_76 kX0_dearCell pmX0_dearCell (by decide)
set_option maxRecDepth 8000 in
theorem w_743 : (Jvm.Cond.methodLink "NextOneKnows$Ahead" (154 : Nat) ({ cls := "NextOneKnows$Doing", name := "isKnownByCall", desc := "()Z" } : Jvm.MethodName)) ∈ TG := tg_3 190 rfl rfl
set_option maxRecDepth 8000 in
theorem w_746 : (Jvm.Cond.sameMethod "NextOneKnows$Doing" "NextOneKnows$Doing" "isKnownByCall" "()Z") ∈ TG := tg_3 193 rfl rfl
set_option maxRecDepth 8000 in
theorem w_744 : (Jvm.Cond.instanceMethod ({ cls := "NextOneKnows$Doing", name := "isKnownByCall", desc := "()Z" } : Jvm.MethodName)) ∈ TG := tg_3 191 rfl rfl
set_option maxRecDepth 8000 in
theorem w_745 : (Jvm.Cond.selects "NextOneKnows$Doing" ({ cls := "NextOneKnows$Doing", name := "isKnownByCall", desc := "()Z" } : Jvm.MethodName) ({ cls := "NextOneKnows$Doing", name := "isKnownByCall", desc := "()Z" } : Jvm.MethodName)) ∈ TG := tg_3 192 rfl rfl
set_option maxRecDepth 8000 in
theorem sX0_stop_119_c1 : Site RX0 mX0_stop 119 122 mX1_isKnownByCall (some 1) 1 := site_U (owner := RX1) (x := ⟨RX1, "isKnownByCall", "()Z"⟩) (dk DX0_stop_1 5 rfl) KX1 w_743 w_746 w_744 (kX1_isKnownByCall) w_744 w_745 w_81 kX1_isKnownByCall pmX1_isKnownByCall (by decide)
set_option maxRecDepth 8000 in
theorem w_751 : (Jvm.Cond.selects "NextOneKnows$Written" ({ cls := "NextOneKnows$Doing", name := "isKnownByCall", desc := "()Z" } : Jvm.MethodName) ({ cls := "NextOneKnows$Doing", name := "isKnownByCall", desc := "()Z" } : Jvm.MethodName)) ∈ TG := tg_3 198 rfl rfl
set_option maxRecDepth 8000 in
theorem sX0_stop_119_c9 : Site RX0 mX0_stop 119 122 mX1_isKnownByCall (some 9) 1 := site_U (owner := RX1) (x := ⟨RX1, "isKnownByCall", "()Z"⟩) (dk DX0_stop_1 5 rfl) KX9 w_743 w_746 w_744 (kX1_isKnownByCall) w_744 w_751 w_81 kX1_isKnownByCall pmX1_isKnownByCall (by decide)
set_option maxRecDepth 8000 in
theorem w_750 : (Jvm.Cond.selects "NextOneKnows$Why" ({ cls := "NextOneKnows$Doing", name := "isKnownByCall", desc := "()Z" } : Jvm.MethodName) ({ cls := "NextOneKnows$Doing", name := "isKnownByCall", desc := "()Z" } : Jvm.MethodName)) ∈ TG := tg_3 197 rfl rfl
set_option maxRecDepth 8000 in
theorem sX0_stop_119_c8 : Site RX0 mX0_stop 119 122 mX1_isKnownByCall (some 8) 1 := site_U (owner := RX1) (x := ⟨RX1, "isKnownByCall", "()Z"⟩) (dk DX0_stop_1 5 rfl) KX8 w_743 w_746 w_744 (kX1_isKnownByCall) w_744 w_750 w_81 kX1_isKnownByCall pmX1_isKnownByCall (by decide)
set_option maxRecDepth 8000 in
theorem w_747 : (Jvm.Cond.selects "NextOneKnows$Plain" ({ cls := "NextOneKnows$Doing", name := "isKnownByCall", desc := "()Z" } : Jvm.MethodName) ({ cls := "NextOneKnows$Doing", name := "isKnownByCall", desc := "()Z" } : Jvm.MethodName)) ∈ TG := tg_3 194 rfl rfl
set_option maxRecDepth 8000 in
theorem sX0_stop_119_c2 : Site RX0 mX0_stop 119 122 mX1_isKnownByCall (some 2) 1 := site_U (owner := RX1) (x := ⟨RX1, "isKnownByCall", "()Z"⟩) (dk DX0_stop_1 5 rfl) KX2 w_743 w_746 w_744 (kX1_isKnownByCall) w_744 w_747 w_81 kX1_isKnownByCall pmX1_isKnownByCall (by decide)
set_option maxRecDepth 8000 in
theorem w_749 : (Jvm.Cond.selects "NextOneKnows$Tied" ({ cls := "NextOneKnows$Doing", name := "isKnownByCall", desc := "()Z" } : Jvm.MethodName) ({ cls := "NextOneKnows$Doing", name := "isKnownByCall", desc := "()Z" } : Jvm.MethodName)) ∈ TG := tg_3 196 rfl rfl
set_option maxRecDepth 8000 in
theorem sX0_stop_119_c6 : Site RX0 mX0_stop 119 122 mX1_isKnownByCall (some 6) 1 := site_U (owner := RX1) (x := ⟨RX1, "isKnownByCall", "()Z"⟩) (dk DX0_stop_1 5 rfl) KX6 w_743 w_746 w_744 (kX1_isKnownByCall) w_744 w_749 w_81 kX1_isKnownByCall pmX1_isKnownByCall (by decide)
set_option maxRecDepth 8000 in
theorem w_748 : (Jvm.Cond.selects "NextOneKnows$Rare" ({ cls := "NextOneKnows$Doing", name := "isKnownByCall", desc := "()Z" } : Jvm.MethodName) ({ cls := "NextOneKnows$Doing", name := "isKnownByCall", desc := "()Z" } : Jvm.MethodName)) ∈ TG := tg_3 195 rfl rfl
set_option maxRecDepth 8000 in
theorem sX0_stop_119_c4 : Site RX0 mX0_stop 119 122 mX1_isKnownByCall (some 4) 1 := site_U (owner := RX1) (x := ⟨RX1, "isKnownByCall", "()Z"⟩) (dk DX0_stop_1 5 rfl) KX4 w_743 w_746 w_744 (kX1_isKnownByCall) w_744 w_748 w_81 kX1_isKnownByCall pmX1_isKnownByCall (by decide)
set_option maxRecDepth 8000 in
theorem w_753 : (Jvm.Cond.instanceMethod ({ cls := "NextOneKnows$Wrong", name := "isKnownByCall", desc := "()Z" } : Jvm.MethodName)) ∈ TG := tg_3 200 rfl rfl
set_option maxRecDepth 8000 in
theorem w_752 : (Jvm.Cond.selects "NextOneKnows$Wrong" ({ cls := "NextOneKnows$Doing", name := "isKnownByCall", desc := "()Z" } : Jvm.MethodName) ({ cls := "NextOneKnows$Wrong", name := "isKnownByCall", desc := "()Z" } : Jvm.MethodName)) ∈ TG := tg_3 199 rfl rfl
set_option maxRecDepth 8000 in
theorem sX0_stop_119_c10 : Site RX0 mX0_stop 119 122 mX10_isKnownByCall (some 10) 1 := site_U (owner := RX1) (x := ⟨RX1, "isKnownByCall", "()Z"⟩) (dk DX0_stop_1 5 rfl) KX10 w_743 w_746 w_744 (kX1_isKnownByCall) w_753 w_752 w_88 kX10_isKnownByCall pmX1_isKnownByCall (by decide)
set_option maxRecDepth 8000 in
theorem w_756 : (Jvm.Cond.methodLink "NextOneKnows$Ahead" (158 : Nat) ({ cls := "NextOneKnows$Doing", name := "isKnownByStop", desc := "()Z" } : Jvm.MethodName)) ∈ TG := tg_3 203 rfl rfl
set_option maxRecDepth 8000 in
theorem w_759 : (Jvm.Cond.sameMethod "NextOneKnows$Doing" "NextOneKnows$Doing" "isKnownByStop" "()Z") ∈ TG := tg_3 206 rfl rfl
set_option maxRecDepth 8000 in
theorem w_757 : (Jvm.Cond.instanceMethod ({ cls := "NextOneKnows$Doing", name := "isKnownByStop", desc := "()Z" } : Jvm.MethodName)) ∈ TG := tg_3 204 rfl rfl
set_option maxRecDepth 8000 in
theorem w_758 : (Jvm.Cond.selects "NextOneKnows$Doing" ({ cls := "NextOneKnows$Doing", name := "isKnownByStop", desc := "()Z" } : Jvm.MethodName) ({ cls := "NextOneKnows$Doing", name := "isKnownByStop", desc := "()Z" } : Jvm.MethodName)) ∈ TG := tg_3 205 rfl rfl
set_option maxRecDepth 8000 in
theorem sX0_stop_129_c1 : Site RX0 mX0_stop 129 132 mX1_isKnownByStop (some 1) 1 := site_U (owner := RX1) (x := ⟨RX1, "isKnownByStop", "()Z"⟩) (dk DX0_stop_1 9 rfl) KX1 w_756 w_759 w_757 (kX1_isKnownByStop) w_757 w_758 w_81 kX1_isKnownByStop pmX1_isKnownByStop (by decide)
set_option maxRecDepth 8000 in
theorem w_768 : (Jvm.Cond.selects "NextOneKnows$Written" ({ cls := "NextOneKnows$Doing", name := "isKnownByStop", desc := "()Z" } : Jvm.MethodName) ({ cls := "NextOneKnows$Doing", name := "isKnownByStop", desc := "()Z" } : Jvm.MethodName)) ∈ TG := tg_3 215 rfl rfl
set_option maxRecDepth 8000 in
theorem sX0_stop_129_c9 : Site RX0 mX0_stop 129 132 mX1_isKnownByStop (some 9) 1 := site_U (owner := RX1) (x := ⟨RX1, "isKnownByStop", "()Z"⟩) (dk DX0_stop_1 9 rfl) KX9 w_756 w_759 w_757 (kX1_isKnownByStop) w_757 w_768 w_81 kX1_isKnownByStop pmX1_isKnownByStop (by decide)
set_option maxRecDepth 8000 in
theorem w_767 : (Jvm.Cond.selects "NextOneKnows$Why" ({ cls := "NextOneKnows$Doing", name := "isKnownByStop", desc := "()Z" } : Jvm.MethodName) ({ cls := "NextOneKnows$Doing", name := "isKnownByStop", desc := "()Z" } : Jvm.MethodName)) ∈ TG := tg_3 214 rfl rfl
set_option maxRecDepth 8000 in
theorem sX0_stop_129_c8 : Site RX0 mX0_stop 129 132 mX1_isKnownByStop (some 8) 1 := site_U (owner := RX1) (x := ⟨RX1, "isKnownByStop", "()Z"⟩) (dk DX0_stop_1 9 rfl) KX8 w_756 w_759 w_757 (kX1_isKnownByStop) w_757 w_767 w_81 kX1_isKnownByStop pmX1_isKnownByStop (by decide)
set_option maxRecDepth 8000 in
theorem w_761 : (Jvm.Cond.instanceMethod ({ cls := "NextOneKnows$Plain", name := "isKnownByStop", desc := "()Z" } : Jvm.MethodName)) ∈ TG := tg_3 208 rfl rfl
set_option maxRecDepth 8000 in
theorem w_760 : (Jvm.Cond.selects "NextOneKnows$Plain" ({ cls := "NextOneKnows$Doing", name := "isKnownByStop", desc := "()Z" } : Jvm.MethodName) ({ cls := "NextOneKnows$Plain", name := "isKnownByStop", desc := "()Z" } : Jvm.MethodName)) ∈ TG := tg_3 207 rfl rfl
set_option maxRecDepth 8000 in
theorem sX0_stop_129_c2 : Site RX0 mX0_stop 129 132 mX2_isKnownByStop (some 2) 1 := site_U (owner := RX1) (x := ⟨RX1, "isKnownByStop", "()Z"⟩) (dk DX0_stop_1 9 rfl) KX2 w_756 w_759 w_757 (kX1_isKnownByStop) w_761 w_760 w_84 kX2_isKnownByStop pmX1_isKnownByStop (by decide)
set_option maxRecDepth 8000 in
theorem w_766 : (Jvm.Cond.selects "NextOneKnows$Tied" ({ cls := "NextOneKnows$Doing", name := "isKnownByStop", desc := "()Z" } : Jvm.MethodName) ({ cls := "NextOneKnows$Plain", name := "isKnownByStop", desc := "()Z" } : Jvm.MethodName)) ∈ TG := tg_3 213 rfl rfl
set_option maxRecDepth 8000 in
theorem sX0_stop_129_c6 : Site RX0 mX0_stop 129 132 mX2_isKnownByStop (some 6) 1 := site_U (owner := RX1) (x := ⟨RX1, "isKnownByStop", "()Z"⟩) (dk DX0_stop_1 9 rfl) KX6 w_756 w_759 w_757 (kX1_isKnownByStop) w_761 w_766 w_84 kX2_isKnownByStop pmX1_isKnownByStop (by decide)
set_option maxRecDepth 8000 in
theorem w_764 : (Jvm.Cond.instanceMethod ({ cls := "NextOneKnows$Rare", name := "isKnownByStop", desc := "()Z" } : Jvm.MethodName)) ∈ TG := tg_3 211 rfl rfl
set_option maxRecDepth 8000 in
theorem w_763 : (Jvm.Cond.selects "NextOneKnows$Rare" ({ cls := "NextOneKnows$Doing", name := "isKnownByStop", desc := "()Z" } : Jvm.MethodName) ({ cls := "NextOneKnows$Rare", name := "isKnownByStop", desc := "()Z" } : Jvm.MethodName)) ∈ TG := tg_3 210 rfl rfl
set_option maxRecDepth 8000 in
theorem sX0_stop_129_c4 : Site RX0 mX0_stop 129 132 mX4_isKnownByStop (some 4) 1 := site_U (owner := RX1) (x := ⟨RX1, "isKnownByStop", "()Z"⟩) (dk DX0_stop_1 9 rfl) KX4 w_756 w_759 w_757 (kX1_isKnownByStop) w_764 w_763 w_85 kX4_isKnownByStop pmX1_isKnownByStop (by decide)
set_option maxRecDepth 8000 in
theorem w_769 : (Jvm.Cond.selects "NextOneKnows$Wrong" ({ cls := "NextOneKnows$Doing", name := "isKnownByStop", desc := "()Z" } : Jvm.MethodName) ({ cls := "NextOneKnows$Rare", name := "isKnownByStop", desc := "()Z" } : Jvm.MethodName)) ∈ TG := tg_3 216 rfl rfl
set_option maxRecDepth 8000 in
theorem sX0_stop_129_c10 : Site RX0 mX0_stop 129 132 mX4_isKnownByStop (some 10) 1 := site_U (owner := RX1) (x := ⟨RX1, "isKnownByStop", "()Z"⟩) (dk DX0_stop_1 9 rfl) KX10 w_756 w_759 w_757 (kX1_isKnownByStop) w_764 w_769 w_85 kX4_isKnownByStop pmX1_isKnownByStop (by decide)
set_option maxRecDepth 8000 in
theorem w_681 : (Jvm.Cond.selects "NextOneKnows$Ahead" ({ cls := "NextOneKnows$Ahead", name := "goingOver", desc := "([I)I" } : Jvm.MethodName) ({ cls := "NextOneKnows$Ahead", name := "goingOver", desc := "([I)I" } : Jvm.MethodName)) ∈ TG := tg_3 128 rfl rfl
set_option maxRecDepth 8000 in
theorem w_793 : (Jvm.Cond.methodLink "NextOneKnows$Ahead" (162 : Nat) ({ cls := "NextOneKnows$Ahead", name := "goingOver", desc := "([I)I" } : Jvm.MethodName)) ∈ TG := tg_4 0 rfl rfl
set_option maxRecDepth 8000 in
theorem w_680 : (Jvm.Cond.instanceMethod ({ cls := "NextOneKnows$Ahead", name := "goingOver", desc := "([I)I" } : Jvm.MethodName)) ∈ TG := tg_3 127 rfl rfl
set_option maxRecDepth 8000 in
theorem sX0_costHanded_10 : Site RX0 mX0_costHanded 10 13 mX0_goingOver (some 0) 2 := site_V (dk DX0_costHanded 6 rfl) KX0 w_793 w_680 w_681 w_76 kX0_goingOver pmX0_goingOver (by decide)
set_option maxRecDepth 8000 in
theorem w_731 : (Jvm.Cond.selects "NextOneKnows$Ahead" ({ cls := "NextOneKnows$Ahead", name := "pass", desc := "(II)I" } : Jvm.MethodName) ({ cls := "NextOneKnows$Ahead", name := "pass", desc := "(II)I" } : Jvm.MethodName)) ∈ TG := tg_3 178 rfl rfl
set_option maxRecDepth 8000 in
theorem w_794 : (Jvm.Cond.methodLink "NextOneKnows$Ahead" (167 : Nat) ({ cls := "NextOneKnows$Ahead", name := "pass", desc := "(II)I" } : Jvm.MethodName)) ∈ TG := tg_4 1 rfl rfl
set_option maxRecDepth 8000 in
theorem w_730 : (Jvm.Cond.instanceMethod ({ cls := "NextOneKnows$Ahead", name := "pass", desc := "(II)I" } : Jvm.MethodName)) ∈ TG := tg_3 177 rfl rfl
set_option maxRecDepth 8000 in
theorem sX0_costHanded_21 : Site RX0 mX0_costHanded 21 24 mX0_pass (some 0) 3 := site_V (dk DX0_costHanded 11 rfl) KX0 w_794 w_730 w_731 w_76 kX0_pass pmX0_pass (by decide)
set_option maxRecDepth 8000 in
theorem w_16 : Cond.selects "NextOneKnows$Ahead" ({ cls := "NextOneKnows$Ahead", name := "share", desc := "(IIII)V" } : Jvm.MethodName) ({ cls := "NextOneKnows$Ahead", name := "share", desc := "(IIII)V" } : Jvm.MethodName) ∈ TG := tg_p 16 rfl rfl
set_option maxRecDepth 8000 in
theorem w_785 : (Jvm.Cond.methodLink "NextOneKnows$Ahead" (171 : Nat) ({ cls := "NextOneKnows$Ahead", name := "share", desc := "(IIII)V" } : Jvm.MethodName)) ∈ TG := tg_3 232 rfl rfl
set_option maxRecDepth 8000 in
theorem w_787 : (Jvm.Cond.instanceMethod ({ cls := "NextOneKnows$Ahead", name := "share", desc := "(IIII)V" } : Jvm.MethodName)) ∈ TG := tg_3 234 rfl rfl
set_option maxRecDepth 8000 in
theorem sX0_bestSplit_50 : Site RX0 mX0_bestSplit 50 53 mX0_share (some 0) 5 := site_V (dk DX0_bestSplit_0 34 rfl) KX0 w_785 w_787 w_16 w_76 kX0_share pmX0_share (by decide)
set_option maxRecDepth 8000 in
theorem w_791 : (Jvm.Cond.selects "NextOneKnows$Ahead" ({ cls := "NextOneKnows$Ahead", name := "costHanded", desc := "([I)I" } : Jvm.MethodName) ({ cls := "NextOneKnows$Ahead", name := "costHanded", desc := "([I)I" } : Jvm.MethodName)) ∈ TG := tg_3 238 rfl rfl
set_option maxRecDepth 8000 in
theorem w_789 : (Jvm.Cond.methodLink "NextOneKnows$Ahead" (175 : Nat) ({ cls := "NextOneKnows$Ahead", name := "costHanded", desc := "([I)I" } : Jvm.MethodName)) ∈ TG := tg_3 236 rfl rfl
set_option maxRecDepth 8000 in
theorem w_790 : (Jvm.Cond.instanceMethod ({ cls := "NextOneKnows$Ahead", name := "costHanded", desc := "([I)I" } : Jvm.MethodName)) ∈ TG := tg_3 237 rfl rfl
set_option maxRecDepth 8000 in
theorem sX0_bestSplit_58 : Site RX0 mX0_bestSplit 58 61 mX0_costHanded (some 0) 2 := site_V (dk DX0_bestSplit_0 38 rfl) KX0 w_789 w_790 w_791 w_76 kX0_costHanded pmX0_costHanded (by decide)
set_option maxRecDepth 8000 in
theorem sX0_bestOf_25 : Site RX0 mX0_bestOf 25 28 mX11_bit none 2 := site_SN (host := "NextOneKnows") (dk DX0_bestOf 13 rfl) (by decide +kernel) w_517 w_74 kX11_bit pmX11_bit (by decide)
set_option maxRecDepth 8000 in
theorem sX0_bestOf_59 : Site RX0 mX0_bestOf 59 62 mX0_pass (some 0) 3 := site_V (dk DX0_bestOf 30 rfl) KX0 w_794 w_730 w_731 w_76 kX0_pass pmX0_pass (by decide)
set_option maxRecDepth 8000 in
theorem sX0_bestOf_83 : Site RX0 mX0_bestOf 83 86 mX0_pass (some 0) 3 := site_V (dk DX0_bestOf 41 rfl) KX0 w_794 w_730 w_731 w_76 kX0_pass pmX0_pass (by decide)
set_option maxRecDepth 8000 in
theorem sX0_firstRowNotSo_58 : Site RX0 mX0_firstRowNotSo 58 61 mX11_bit none 2 := site_SN (host := "NextOneKnows") (dk DX0_firstRowNotSo 32 rfl) (by decide +kernel) w_517 w_74 kX11_bit pmX11_bit (by decide)
set_option maxRecDepth 8000 in
theorem w_357 : (Jvm.Cond.methodLink "NextOneKnows$Doing" (18 : Nat) ({ cls := "java/lang/Math", name := "max", desc := "(II)I" } : Jvm.MethodName)) ∈ TG := tg_2 44 rfl rfl
set_option maxRecDepth 8000 in
theorem sX1_init_17 : Site RX1 mX1_init 17 20 mJ9_max_7cf53 none 2 := site_S (dk DX1_init 11 rfl) w_357 w_358 w_83 kJ9_max_7cf53 pmJ9_max_7cf53 (by decide)
set_option maxRecDepth 8000 in
theorem w_716 : (Jvm.Cond.methodLink "NextOneKnows$Doing" (36 : Nat) ({ cls := "java/lang/Math", name := "floorMod", desc := "(II)I" } : Jvm.MethodName)) ∈ TG := tg_3 163 rfl rfl
set_option maxRecDepth 8000 in
theorem sX1_weeksUntil_10 : Site RX1 mX1_weeksUntil 10 13 mJ9_floorMod_7cf53 none 2 := site_S (dk DX1_weeksUntil 6 rfl) w_716 w_717 w_83 kJ9_floorMod_7cf53 pmJ9_floorMod_7cf53 (by decide)
set_option maxRecDepth 8000 in
theorem w_910 : (Jvm.Cond.selects "NextOneKnows$Trace" ({ cls := "NextOneKnows$Trace", name := "begins", desc := "(I)V" } : Jvm.MethodName) ({ cls := "NextOneKnows$Trace", name := "begins", desc := "(I)V" } : Jvm.MethodName)) ∈ TG := tg_4 117 rfl rfl
set_option maxRecDepth 8000 in
theorem w_930 : (Jvm.Cond.methodLink "NextOneKnows$Doing" (39 : Nat) ({ cls := "NextOneKnows$Trace", name := "begins", desc := "(I)V" } : Jvm.MethodName)) ∈ TG := tg_4 137 rfl rfl
set_option maxRecDepth 8000 in
theorem w_909 : (Jvm.Cond.instanceMethod ({ cls := "NextOneKnows$Trace", name := "begins", desc := "(I)V" } : Jvm.MethodName)) ∈ TG := tg_4 116 rfl rfl
set_option maxRecDepth 8000 in
theorem w_77 : (Jvm.Cond.initialized "NextOneKnows$Trace") ∈ TG := tg_1 4 rfl rfl
set_option maxRecDepth 8000 in
theorem sX1_says_3 : Site RX1 mX1_says 3 6 mX7_begins (some 7) 2 := site_V (dk DX1_says 2 rfl) KX7 w_930 w_909 w_910 w_77 kX7_begins pmX7_begins (by decide)
set_option maxRecDepth 8000 in
theorem sX1_holds_3 : Site RX1 mX1_holds 3 6 mX7_begins (some 7) 2 := site_V (dk DX1_holds 2 rfl) KX7 w_930 w_909 w_910 w_77 kX7_begins pmX7_begins (by decide)
set_option maxRecDepth 8000 in
theorem w_954 : (Jvm.Cond.methodLink "NextOneKnows$Doing" (45 : Nat) ({ cls := "NextOneKnows$Doing", name := "says", desc := "(ILNextOneKnows$Trace;)I" } : Jvm.MethodName)) ∈ TG := tg_4 161 rfl rfl
set_option maxRecDepth 8000 in
theorem w_904 : (Jvm.Cond.sameMethod "NextOneKnows$Doing" "NextOneKnows$Doing" "says" "(ILNextOneKnows$Trace;)I") ∈ TG := tg_4 111 rfl rfl
set_option maxRecDepth 8000 in
theorem w_902 : (Jvm.Cond.instanceMethod ({ cls := "NextOneKnows$Doing", name := "says", desc := "(ILNextOneKnows$Trace;)I" } : Jvm.MethodName)) ∈ TG := tg_4 109 rfl rfl
set_option maxRecDepth 8000 in
theorem w_903 : (Jvm.Cond.selects "NextOneKnows$Doing" ({ cls := "NextOneKnows$Doing", name := "says", desc := "(ILNextOneKnows$Trace;)I" } : Jvm.MethodName) ({ cls := "NextOneKnows$Doing", name := "says", desc := "(ILNextOneKnows$Trace;)I" } : Jvm.MethodName)) ∈ TG := tg_4 110 rfl rfl
set_option maxRecDepth 8000 in
theorem sX1_holds_9_c1 : Site RX1 mX1_holds 9 12 mX1_says (some 1) 3 := site_U (owner := RX1) (x := ⟨RX1, "says", "(ILNextOneKnows$Trace;)I"⟩) (dk DX1_holds 6 rfl) KX1 w_954 w_904 w_902 (kX1_says) w_902 w_903 w_81 kX1_says pmX1_says (by decide)
set_option maxRecDepth 8000 in
theorem w_922 : (Jvm.Cond.selects "NextOneKnows$Written" ({ cls := "NextOneKnows$Doing", name := "says", desc := "(ILNextOneKnows$Trace;)I" } : Jvm.MethodName) ({ cls := "NextOneKnows$Doing", name := "says", desc := "(ILNextOneKnows$Trace;)I" } : Jvm.MethodName)) ∈ TG := tg_4 129 rfl rfl
set_option maxRecDepth 8000 in
theorem sX1_holds_9_c9 : Site RX1 mX1_holds 9 12 mX1_says (some 9) 3 := site_U (owner := RX1) (x := ⟨RX1, "says", "(ILNextOneKnows$Trace;)I"⟩) (dk DX1_holds 6 rfl) KX9 w_954 w_904 w_902 (kX1_says) w_902 w_922 w_81 kX1_says pmX1_says (by decide)
set_option maxRecDepth 8000 in
theorem w_916 : (Jvm.Cond.instanceMethod ({ cls := "NextOneKnows$Why", name := "says", desc := "(ILNextOneKnows$Trace;)I" } : Jvm.MethodName)) ∈ TG := tg_4 123 rfl rfl
set_option maxRecDepth 8000 in
theorem w_915 : (Jvm.Cond.selects "NextOneKnows$Why" ({ cls := "NextOneKnows$Doing", name := "says", desc := "(ILNextOneKnows$Trace;)I" } : Jvm.MethodName) ({ cls := "NextOneKnows$Why", name := "says", desc := "(ILNextOneKnows$Trace;)I" } : Jvm.MethodName)) ∈ TG := tg_4 122 rfl rfl
set_option maxRecDepth 8000 in
theorem sX1_holds_9_c8 : Site RX1 mX1_holds 9 12 mX8_says (some 8) 3 := site_U (owner := RX1) (x := ⟨RX1, "says", "(ILNextOneKnows$Trace;)I"⟩) (dk DX1_holds 6 rfl) KX8 w_954 w_904 w_902 (kX1_says) w_916 w_915 w_86 kX8_says pmX1_says (by decide)
set_option maxRecDepth 8000 in
theorem w_906 : (Jvm.Cond.instanceMethod ({ cls := "NextOneKnows$Plain", name := "says", desc := "(ILNextOneKnows$Trace;)I" } : Jvm.MethodName)) ∈ TG := tg_4 113 rfl rfl
set_option maxRecDepth 8000 in
theorem w_905 : (Jvm.Cond.selects "NextOneKnows$Plain" ({ cls := "NextOneKnows$Doing", name := "says", desc := "(ILNextOneKnows$Trace;)I" } : Jvm.MethodName) ({ cls := "NextOneKnows$Plain", name := "says", desc := "(ILNextOneKnows$Trace;)I" } : Jvm.MethodName)) ∈ TG := tg_4 112 rfl rfl
set_option maxRecDepth 8000 in
theorem sX1_holds_9_c2 : Site RX1 mX1_holds 9 12 mX2_says (some 2) 3 := site_U (owner := RX1) (x := ⟨RX1, "says", "(ILNextOneKnows$Trace;)I"⟩) (dk DX1_holds 6 rfl) KX2 w_954 w_904 w_902 (kX1_says) w_906 w_905 w_84 kX2_says pmX1_says (by decide)
set_option maxRecDepth 8000 in
theorem w_914 : (Jvm.Cond.selects "NextOneKnows$Tied" ({ cls := "NextOneKnows$Doing", name := "says", desc := "(ILNextOneKnows$Trace;)I" } : Jvm.MethodName) ({ cls := "NextOneKnows$Plain", name := "says", desc := "(ILNextOneKnows$Trace;)I" } : Jvm.MethodName)) ∈ TG := tg_4 121 rfl rfl
set_option maxRecDepth 8000 in
theorem sX1_holds_9_c6 : Site RX1 mX1_holds 9 12 mX2_says (some 6) 3 := site_U (owner := RX1) (x := ⟨RX1, "says", "(ILNextOneKnows$Trace;)I"⟩) (dk DX1_holds 6 rfl) KX6 w_954 w_904 w_902 (kX1_says) w_906 w_914 w_84 kX2_says pmX1_says (by decide)
set_option maxRecDepth 8000 in
theorem w_913 : (Jvm.Cond.selects "NextOneKnows$Rare" ({ cls := "NextOneKnows$Doing", name := "says", desc := "(ILNextOneKnows$Trace;)I" } : Jvm.MethodName) ({ cls := "NextOneKnows$Doing", name := "says", desc := "(ILNextOneKnows$Trace;)I" } : Jvm.MethodName)) ∈ TG := tg_4 120 rfl rfl
set_option maxRecDepth 8000 in
theorem sX1_holds_9_c4 : Site RX1 mX1_holds 9 12 mX1_says (some 4) 3 := site_U (owner := RX1) (x := ⟨RX1, "says", "(ILNextOneKnows$Trace;)I"⟩) (dk DX1_holds 6 rfl) KX4 w_954 w_904 w_902 (kX1_says) w_902 w_913 w_81 kX1_says pmX1_says (by decide)
set_option maxRecDepth 8000 in
theorem w_924 : (Jvm.Cond.instanceMethod ({ cls := "NextOneKnows$Wrong", name := "says", desc := "(ILNextOneKnows$Trace;)I" } : Jvm.MethodName)) ∈ TG := tg_4 131 rfl rfl
set_option maxRecDepth 8000 in
theorem w_923 : (Jvm.Cond.selects "NextOneKnows$Wrong" ({ cls := "NextOneKnows$Doing", name := "says", desc := "(ILNextOneKnows$Trace;)I" } : Jvm.MethodName) ({ cls := "NextOneKnows$Wrong", name := "says", desc := "(ILNextOneKnows$Trace;)I" } : Jvm.MethodName)) ∈ TG := tg_4 130 rfl rfl
set_option maxRecDepth 8000 in
theorem sX1_holds_9_c10 : Site RX1 mX1_holds 9 12 mX10_says (some 10) 3 := site_U (owner := RX1) (x := ⟨RX1, "says", "(ILNextOneKnows$Trace;)I"⟩) (dk DX1_holds 6 rfl) KX10 w_954 w_904 w_902 (kX1_says) w_924 w_923 w_88 kX10_says pmX1_says (by decide)
set_option maxRecDepth 8000 in
theorem sX1_tells_3 : Site RX1 mX1_tells 3 6 mX7_begins (some 7) 2 := site_V (dk DX1_tells 2 rfl) KX7 w_930 w_909 w_910 w_77 kX7_begins pmX7_begins (by decide)
set_option maxRecDepth 8000 in
theorem w_979 : (Jvm.Cond.methodLink "NextOneKnows$Doing" (49 : Nat) ({ cls := "NextOneKnows$Doing", name := "holds", desc := "(ILNextOneKnows$Trace;)I" } : Jvm.MethodName)) ∈ TG := tg_4 186 rfl rfl
set_option maxRecDepth 8000 in
theorem w_934 : (Jvm.Cond.sameMethod "NextOneKnows$Doing" "NextOneKnows$Doing" "holds" "(ILNextOneKnows$Trace;)I") ∈ TG := tg_4 141 rfl rfl
set_option maxRecDepth 8000 in
theorem w_932 : (Jvm.Cond.instanceMethod ({ cls := "NextOneKnows$Doing", name := "holds", desc := "(ILNextOneKnows$Trace;)I" } : Jvm.MethodName)) ∈ TG := tg_4 139 rfl rfl
set_option maxRecDepth 8000 in
theorem w_933 : (Jvm.Cond.selects "NextOneKnows$Doing" ({ cls := "NextOneKnows$Doing", name := "holds", desc := "(ILNextOneKnows$Trace;)I" } : Jvm.MethodName) ({ cls := "NextOneKnows$Doing", name := "holds", desc := "(ILNextOneKnows$Trace;)I" } : Jvm.MethodName)) ∈ TG := tg_4 140 rfl rfl
set_option maxRecDepth 8000 in
theorem sX1_tells_9_c1 : Site RX1 mX1_tells 9 12 mX1_holds (some 1) 3 := site_U (owner := RX1) (x := ⟨RX1, "holds", "(ILNextOneKnows$Trace;)I"⟩) (dk DX1_tells 6 rfl) KX1 w_979 w_934 w_932 (kX1_holds) w_932 w_933 w_81 kX1_holds pmX1_holds (by decide)
set_option maxRecDepth 8000 in
theorem w_942 : (Jvm.Cond.instanceMethod ({ cls := "NextOneKnows$Written", name := "holds", desc := "(ILNextOneKnows$Trace;)I" } : Jvm.MethodName)) ∈ TG := tg_4 149 rfl rfl
set_option maxRecDepth 8000 in
theorem w_946 : (Jvm.Cond.selects "NextOneKnows$Written" ({ cls := "NextOneKnows$Doing", name := "holds", desc := "(ILNextOneKnows$Trace;)I" } : Jvm.MethodName) ({ cls := "NextOneKnows$Written", name := "holds", desc := "(ILNextOneKnows$Trace;)I" } : Jvm.MethodName)) ∈ TG := tg_4 153 rfl rfl
set_option maxRecDepth 8000 in
theorem sX1_tells_9_c9 : Site RX1 mX1_tells 9 12 mX9_holds (some 9) 3 := site_U (owner := RX1) (x := ⟨RX1, "holds", "(ILNextOneKnows$Trace;)I"⟩) (dk DX1_tells 6 rfl) KX9 w_979 w_934 w_932 (kX1_holds) w_942 w_946 w_82 kX9_holds pmX1_holds (by decide)
set_option maxRecDepth 8000 in
theorem w_939 : (Jvm.Cond.instanceMethod ({ cls := "NextOneKnows$Why", name := "holds", desc := "(ILNextOneKnows$Trace;)I" } : Jvm.MethodName)) ∈ TG := tg_4 146 rfl rfl
set_option maxRecDepth 8000 in
theorem w_938 : (Jvm.Cond.selects "NextOneKnows$Why" ({ cls := "NextOneKnows$Doing", name := "holds", desc := "(ILNextOneKnows$Trace;)I" } : Jvm.MethodName) ({ cls := "NextOneKnows$Why", name := "holds", desc := "(ILNextOneKnows$Trace;)I" } : Jvm.MethodName)) ∈ TG := tg_4 145 rfl rfl
set_option maxRecDepth 8000 in
theorem sX1_tells_9_c8 : Site RX1 mX1_tells 9 12 mX8_holds (some 8) 3 := site_U (owner := RX1) (x := ⟨RX1, "holds", "(ILNextOneKnows$Trace;)I"⟩) (dk DX1_tells 6 rfl) KX8 w_979 w_934 w_932 (kX1_holds) w_939 w_938 w_86 kX8_holds pmX1_holds (by decide)
set_option maxRecDepth 8000 in
theorem w_935 : (Jvm.Cond.selects "NextOneKnows$Plain" ({ cls := "NextOneKnows$Doing", name := "holds", desc := "(ILNextOneKnows$Trace;)I" } : Jvm.MethodName) ({ cls := "NextOneKnows$Doing", name := "holds", desc := "(ILNextOneKnows$Trace;)I" } : Jvm.MethodName)) ∈ TG := tg_4 142 rfl rfl
set_option maxRecDepth 8000 in
theorem sX1_tells_9_c2 : Site RX1 mX1_tells 9 12 mX1_holds (some 2) 3 := site_U (owner := RX1) (x := ⟨RX1, "holds", "(ILNextOneKnows$Trace;)I"⟩) (dk DX1_tells 6 rfl) KX2 w_979 w_934 w_932 (kX1_holds) w_932 w_935 w_81 kX1_holds pmX1_holds (by decide)
set_option maxRecDepth 8000 in
theorem w_937 : (Jvm.Cond.selects "NextOneKnows$Tied" ({ cls := "NextOneKnows$Doing", name := "holds", desc := "(ILNextOneKnows$Trace;)I" } : Jvm.MethodName) ({ cls := "NextOneKnows$Doing", name := "holds", desc := "(ILNextOneKnows$Trace;)I" } : Jvm.MethodName)) ∈ TG := tg_4 144 rfl rfl
set_option maxRecDepth 8000 in
theorem sX1_tells_9_c6 : Site RX1 mX1_tells 9 12 mX1_holds (some 6) 3 := site_U (owner := RX1) (x := ⟨RX1, "holds", "(ILNextOneKnows$Trace;)I"⟩) (dk DX1_tells 6 rfl) KX6 w_979 w_934 w_932 (kX1_holds) w_932 w_937 w_81 kX1_holds pmX1_holds (by decide)
set_option maxRecDepth 8000 in
theorem w_936 : (Jvm.Cond.selects "NextOneKnows$Rare" ({ cls := "NextOneKnows$Doing", name := "holds", desc := "(ILNextOneKnows$Trace;)I" } : Jvm.MethodName) ({ cls := "NextOneKnows$Doing", name := "holds", desc := "(ILNextOneKnows$Trace;)I" } : Jvm.MethodName)) ∈ TG := tg_4 143 rfl rfl
set_option maxRecDepth 8000 in
theorem sX1_tells_9_c4 : Site RX1 mX1_tells 9 12 mX1_holds (some 4) 3 := site_U (owner := RX1) (x := ⟨RX1, "holds", "(ILNextOneKnows$Trace;)I"⟩) (dk DX1_tells 6 rfl) KX4 w_979 w_934 w_932 (kX1_holds) w_932 w_936 w_81 kX1_holds pmX1_holds (by decide)
set_option maxRecDepth 8000 in
theorem w_948 : (Jvm.Cond.instanceMethod ({ cls := "NextOneKnows$Wrong", name := "holds", desc := "(ILNextOneKnows$Trace;)I" } : Jvm.MethodName)) ∈ TG := tg_4 155 rfl rfl
set_option maxRecDepth 8000 in
theorem w_947 : (Jvm.Cond.selects "NextOneKnows$Wrong" ({ cls := "NextOneKnows$Doing", name := "holds", desc := "(ILNextOneKnows$Trace;)I" } : Jvm.MethodName) ({ cls := "NextOneKnows$Wrong", name := "holds", desc := "(ILNextOneKnows$Trace;)I" } : Jvm.MethodName)) ∈ TG := tg_4 154 rfl rfl
set_option maxRecDepth 8000 in
theorem sX1_tells_9_c10 : Site RX1 mX1_tells 9 12 mX10_holds (some 10) 3 := site_U (owner := RX1) (x := ⟨RX1, "holds", "(ILNextOneKnows$Trace;)I"⟩) (dk DX1_tells 6 rfl) KX10 w_979 w_934 w_932 (kX1_holds) w_948 w_947 w_88 kX10_holds pmX1_holds (by decide)
set_option maxRecDepth 8000 in
theorem w_411 : (Jvm.Cond.methodLink "NextOneKnows$Plain" (3 : Nat) ({ cls := "NextOneKnows$Doing", name := "<init>", desc := "(IIIIII)V" } : Jvm.MethodName)) ∈ TG := tg_2 98 rfl rfl
set_option maxRecDepth 8000 in
theorem w_354 : (Jvm.Cond.instanceMethod ({ cls := "NextOneKnows$Doing", name := "<init>", desc := "(IIIIII)V" } : Jvm.MethodName)) ∈ TG := tg_2 41 rfl rfl
set_option maxRecDepth 8000 in
theorem sX2_init_10 {ci : Nat} : Site RX2 mX2_init 10 13 mX1_init (some ci) 7 := site_I (dk DX2_init 7 rfl) rfl rfl w_411 w_354 w_81 kX1_init pmX1_init (by decide)
set_option maxRecDepth 8000 in
theorem w_908 : (Jvm.Cond.methodLink "NextOneKnows$Plain" (15 : Nat) ({ cls := "NextOneKnows$Trace", name := "begins", desc := "(I)V" } : Jvm.MethodName)) ∈ TG := tg_4 115 rfl rfl
set_option maxRecDepth 8000 in
theorem sX2_says_3 : Site RX2 mX2_says 3 6 mX7_begins (some 7) 2 := site_V (dk DX2_says 2 rfl) KX7 w_908 w_909 w_910 w_77 kX7_begins pmX7_begins (by decide)
set_option maxRecDepth 8000 in
theorem w_912 : (Jvm.Cond.methodLink "NextOneKnows$Plain" (21 : Nat) ({ cls := "NextOneKnows$Doing", name := "says", desc := "(ILNextOneKnows$Trace;)I" } : Jvm.MethodName)) ∈ TG := tg_4 119 rfl rfl
set_option maxRecDepth 8000 in
theorem w_418 : (Jvm.Cond.superclass "NextOneKnows$Plain" "NextOneKnows$Doing") ∈ TG := tg_2 105 rfl rfl
set_option maxRecDepth 8000 in
theorem sX2_says_11_c2 : Site RX2 mX2_says 11 14 mX1_says (some 2) 3 := site_SU (x := ⟨RX1, "says", "(ILNextOneKnows$Trace;)I"⟩) (dk DX2_says 8 rfl) KX2 ⟨rfl, rfl⟩ w_912 w_904 w_418 (Or.inl rfl) w_902 w_81 kX1_says (by decide +kernel) pmX1_says.2.2 (by decide)
set_option maxRecDepth 8000 in
theorem sX2_says_11_c6 : Site RX2 mX2_says 11 14 mX1_says (some 6) 3 := site_SU (x := ⟨RX1, "says", "(ILNextOneKnows$Trace;)I"⟩) (dk DX2_says 8 rfl) KX6 ⟨rfl, rfl⟩ w_912 w_904 w_418 (Or.inl rfl) w_902 w_81 kX1_says (by decide +kernel) pmX1_says.2.2 (by decide)
set_option maxRecDepth 8000 in
theorem w_606 : (Jvm.Cond.methodLink "NextOneKnows$Post" (28 : Nat) ({ cls := "java/lang/Math", name := "min", desc := "(II)I" } : Jvm.MethodName)) ∈ TG := tg_3 53 rfl rfl
set_option maxRecDepth 8000 in
theorem sX3_readFrom_7 : Site RX3 mX3_readFrom 7 10 mJ9_min_7cf53 none 2 := site_S (dk DX3_readFrom 5 rfl) w_606 w_607 w_83 kJ9_min_7cf53 pmJ9_min_7cf53 (by decide)
set_option maxRecDepth 8000 in
theorem w_2 : Cond.selects "NextOneKnows$Post" ({ cls := "NextOneKnows$Post", name := "takes", desc := "(I)Z" } : Jvm.MethodName) ({ cls := "NextOneKnows$Post", name := "takes", desc := "(I)Z" } : Jvm.MethodName) ∈ TG := tg_p 2 rfl rfl
set_option maxRecDepth 8000 in
theorem w_609 : (Jvm.Cond.methodLink "NextOneKnows$Post" (57 : Nat) ({ cls := "NextOneKnows$Post", name := "takes", desc := "(I)Z" } : Jvm.MethodName)) ∈ TG := tg_3 56 rfl rfl
set_option maxRecDepth 8000 in
theorem w_611 : (Jvm.Cond.instanceMethod ({ cls := "NextOneKnows$Post", name := "takes", desc := "(I)Z" } : Jvm.MethodName)) ∈ TG := tg_3 58 rfl rfl
set_option maxRecDepth 8000 in
theorem w_79 : (Jvm.Cond.initialized "NextOneKnows$Post") ∈ TG := tg_1 6 rfl rfl
set_option maxRecDepth 8000 in
theorem sX3_readFrom_59 : Site RX3 mX3_readFrom 59 62 mX3_takes (some 3) 2 := site_V (dk DX3_readFrom 34 rfl) KX3 w_609 w_611 w_2 w_79 kX3_takes pmX3_takes (by decide)
set_option maxRecDepth 8000 in
theorem w_4 : Cond.selects "NextOneKnows$Post" ({ cls := "NextOneKnows$Post", name := "readClause", desc := "()V" } : Jvm.MethodName) ({ cls := "NextOneKnows$Post", name := "readClause", desc := "()V" } : Jvm.MethodName) ∈ TG := tg_p 4 rfl rfl
set_option maxRecDepth 8000 in
theorem w_617 : (Jvm.Cond.methodLink "NextOneKnows$Post" (61 : Nat) ({ cls := "NextOneKnows$Post", name := "readClause", desc := "()V" } : Jvm.MethodName)) ∈ TG := tg_3 64 rfl rfl
set_option maxRecDepth 8000 in
theorem w_619 : (Jvm.Cond.instanceMethod ({ cls := "NextOneKnows$Post", name := "readClause", desc := "()V" } : Jvm.MethodName)) ∈ TG := tg_3 66 rfl rfl
set_option maxRecDepth 8000 in
theorem sX3_readFrom_66 : Site RX3 mX3_readFrom 66 69 mX3_readClause (some 3) 1 := site_V (dk DX3_readFrom 37 rfl) KX3 w_617 w_619 w_4 w_79 kX3_readClause pmX3_readClause (by decide)
set_option maxRecDepth 8000 in
theorem w_5 : Cond.selects "NextOneKnows$Post" ({ cls := "NextOneKnows$Post", name := "readWord", desc := "()I" } : Jvm.MethodName) ({ cls := "NextOneKnows$Post", name := "readWord", desc := "()I" } : Jvm.MethodName) ∈ TG := tg_p 5 rfl rfl
set_option maxRecDepth 8000 in
theorem w_621 : (Jvm.Cond.methodLink "NextOneKnows$Post" (64 : Nat) ({ cls := "NextOneKnows$Post", name := "readWord", desc := "()I" } : Jvm.MethodName)) ∈ TG := tg_3 68 rfl rfl
set_option maxRecDepth 8000 in
theorem w_623 : (Jvm.Cond.instanceMethod ({ cls := "NextOneKnows$Post", name := "readWord", desc := "()I" } : Jvm.MethodName)) ∈ TG := tg_3 70 rfl rfl
set_option maxRecDepth 8000 in
theorem sX3_readClause_1 : Site RX3 mX3_readClause 1 4 mX3_readWord (some 3) 1 := site_V (dk DX3_readClause_0 1 rfl) KX3 w_621 w_623 w_5 w_79 kX3_readWord pmX3_readWord (by decide)
set_option maxRecDepth 8000 in
theorem w_6 : Cond.selects "NextOneKnows$Post" ({ cls := "NextOneKnows$Post", name := "needs", desc := "(I)V" } : Jvm.MethodName) ({ cls := "NextOneKnows$Post", name := "needs", desc := "(I)V" } : Jvm.MethodName) ∈ TG := tg_p 6 rfl rfl
set_option maxRecDepth 8000 in
theorem w_625 : (Jvm.Cond.methodLink "NextOneKnows$Post" (68 : Nat) ({ cls := "NextOneKnows$Post", name := "needs", desc := "(I)V" } : Jvm.MethodName)) ∈ TG := tg_3 72 rfl rfl
set_option maxRecDepth 8000 in
theorem w_627 : (Jvm.Cond.instanceMethod ({ cls := "NextOneKnows$Post", name := "needs", desc := "(I)V" } : Jvm.MethodName)) ∈ TG := tg_3 74 rfl rfl
set_option maxRecDepth 8000 in
theorem sX3_readClause_8 : Site RX3 mX3_readClause 8 11 mX3_needs (some 3) 2 := site_V (dk DX3_readClause_0 5 rfl) KX3 w_625 w_627 w_6 w_79 kX3_needs pmX3_needs (by decide)
set_option maxRecDepth 8000 in
theorem w_8 : Cond.selects "NextOneKnows$Post" ({ cls := "NextOneKnows$Post", name := "readNumber", desc := "()I" } : Jvm.MethodName) ({ cls := "NextOneKnows$Post", name := "readNumber", desc := "()I" } : Jvm.MethodName) ∈ TG := tg_p 8 rfl rfl
set_option maxRecDepth 8000 in
theorem w_633 : (Jvm.Cond.methodLink "NextOneKnows$Post" (72 : Nat) ({ cls := "NextOneKnows$Post", name := "readNumber", desc := "()I" } : Jvm.MethodName)) ∈ TG := tg_3 80 rfl rfl
set_option maxRecDepth 8000 in
theorem w_635 : (Jvm.Cond.instanceMethod ({ cls := "NextOneKnows$Post", name := "readNumber", desc := "()I" } : Jvm.MethodName)) ∈ TG := tg_3 82 rfl rfl
set_option maxRecDepth 8000 in
theorem sX3_readClause_12 : Site RX3 mX3_readClause 12 15 mX3_readNumber (some 3) 1 := site_V (dk DX3_readClause_0 7 rfl) KX3 w_633 w_635 w_8 w_79 kX3_readNumber pmX3_readNumber (by decide)
set_option maxRecDepth 8000 in
theorem sX3_readClause_31 : Site RX3 mX3_readClause 31 34 mX3_needs (some 3) 2 := site_V (dk DX3_readClause_0 17 rfl) KX3 w_625 w_627 w_6 w_79 kX3_needs pmX3_needs (by decide)
set_option maxRecDepth 8000 in
theorem w_9 : Cond.selects "NextOneKnows$Post" ({ cls := "NextOneKnows$Post", name := "readEither", desc := "(I)V" } : Jvm.MethodName) ({ cls := "NextOneKnows$Post", name := "readEither", desc := "(I)V" } : Jvm.MethodName) ∈ TG := tg_p 9 rfl rfl
set_option maxRecDepth 8000 in
theorem w_637 : (Jvm.Cond.methodLink "NextOneKnows$Post" (75 : Nat) ({ cls := "NextOneKnows$Post", name := "readEither", desc := "(I)V" } : Jvm.MethodName)) ∈ TG := tg_3 84 rfl rfl
set_option maxRecDepth 8000 in
theorem w_639 : (Jvm.Cond.instanceMethod ({ cls := "NextOneKnows$Post", name := "readEither", desc := "(I)V" } : Jvm.MethodName)) ∈ TG := tg_3 86 rfl rfl
set_option maxRecDepth 8000 in
theorem sX3_readClause_36 : Site RX3 mX3_readClause 36 39 mX3_readEither (some 3) 2 := site_V (dk DX3_readClause_0 20 rfl) KX3 w_637 w_639 w_9 w_79 kX3_readEither pmX3_readEither (by decide)
set_option maxRecDepth 8000 in
theorem sX3_readWord_3 : Site RX3 mX3_readWord 3 6 mX3_takes (some 3) 2 := site_V (dk DX3_readWord 2 rfl) KX3 w_609 w_611 w_2 w_79 kX3_takes pmX3_takes (by decide)
set_option maxRecDepth 8000 in
theorem sX3_readWord_12 : Site RX3 mX3_readWord 12 15 mX3_needs (some 3) 2 := site_V (dk DX3_readWord 6 rfl) KX3 w_625 w_627 w_6 w_79 kX3_needs pmX3_needs (by decide)
set_option maxRecDepth 8000 in
theorem sX3_readWord_18 : Site RX3 mX3_readWord 18 21 mX3_needs (some 3) 2 := site_V (dk DX3_readWord 9 rfl) KX3 w_625 w_627 w_6 w_79 kX3_needs pmX3_needs (by decide)
set_option maxRecDepth 8000 in
theorem sX3_readWord_27 : Site RX3 mX3_readWord 27 30 mX3_takes (some 3) 2 := site_V (dk DX3_readWord 14 rfl) KX3 w_609 w_611 w_2 w_79 kX3_takes pmX3_takes (by decide)
set_option maxRecDepth 8000 in
theorem sX3_readWord_36 : Site RX3 mX3_readWord 36 39 mX3_needs (some 3) 2 := site_V (dk DX3_readWord 18 rfl) KX3 w_625 w_627 w_6 w_79 kX3_needs pmX3_needs (by decide)
set_option maxRecDepth 8000 in
theorem sX3_readWord_42 : Site RX3 mX3_readWord 42 45 mX3_needs (some 3) 2 := site_V (dk DX3_readWord 21 rfl) KX3 w_625 w_627 w_6 w_79 kX3_needs pmX3_needs (by decide)
set_option maxRecDepth 8000 in
theorem sX3_readWord_48 : Site RX3 mX3_readWord 48 51 mX3_needs (some 3) 2 := site_V (dk DX3_readWord 24 rfl) KX3 w_625 w_627 w_6 w_79 kX3_needs pmX3_needs (by decide)
set_option maxRecDepth 8000 in
theorem sX3_readWord_57 : Site RX3 mX3_readWord 57 60 mX3_needs (some 3) 2 := site_V (dk DX3_readWord 29 rfl) KX3 w_625 w_627 w_6 w_79 kX3_needs pmX3_needs (by decide)
set_option maxRecDepth 8000 in
theorem sX3_readWord_63 : Site RX3 mX3_readWord 63 66 mX3_takes (some 3) 2 := site_V (dk DX3_readWord 32 rfl) KX3 w_609 w_611 w_2 w_79 kX3_takes pmX3_takes (by decide)
set_option maxRecDepth 8000 in
theorem sX3_readWord_72 : Site RX3 mX3_readWord 72 75 mX3_needs (some 3) 2 := site_V (dk DX3_readWord 36 rfl) KX3 w_625 w_627 w_6 w_79 kX3_needs pmX3_needs (by decide)
set_option maxRecDepth 8000 in
theorem sX3_readWord_78 : Site RX3 mX3_readWord 78 81 mX3_needs (some 3) 2 := site_V (dk DX3_readWord 39 rfl) KX3 w_625 w_627 w_6 w_79 kX3_needs pmX3_needs (by decide)
set_option maxRecDepth 8000 in
theorem sX3_readWord_87 : Site RX3 mX3_readWord 87 90 mX3_needs (some 3) 2 := site_V (dk DX3_readWord 44 rfl) KX3 w_625 w_627 w_6 w_79 kX3_needs pmX3_needs (by decide)
set_option maxRecDepth 8000 in
theorem sX3_readWord_93 : Site RX3 mX3_readWord 93 96 mX3_needs (some 3) 2 := site_V (dk DX3_readWord 47 rfl) KX3 w_625 w_627 w_6 w_79 kX3_needs pmX3_needs (by decide)
set_option maxRecDepth 8000 in
theorem sX3_readWord_99 : Site RX3 mX3_readWord 99 102 mX3_needs (some 3) 2 := site_V (dk DX3_readWord 50 rfl) KX3 w_625 w_627 w_6 w_79 kX3_needs pmX3_needs (by decide)
set_option maxRecDepth 8000 in
theorem w_3 : Cond.selects "NextOneKnows$Post" ({ cls := "NextOneKnows$Post", name := "here", desc := "()I" } : Jvm.MethodName) ({ cls := "NextOneKnows$Post", name := "here", desc := "()I" } : Jvm.MethodName) ∈ TG := tg_p 3 rfl rfl
set_option maxRecDepth 8000 in
theorem w_613 : (Jvm.Cond.methodLink "NextOneKnows$Post" (78 : Nat) ({ cls := "NextOneKnows$Post", name := "here", desc := "()I" } : Jvm.MethodName)) ∈ TG := tg_3 60 rfl rfl
set_option maxRecDepth 8000 in
theorem w_615 : (Jvm.Cond.instanceMethod ({ cls := "NextOneKnows$Post", name := "here", desc := "()I" } : Jvm.MethodName)) ∈ TG := tg_3 62 rfl rfl
set_option maxRecDepth 8000 in
theorem sX3_readNumber_10 : Site RX3 mX3_readNumber 10 13 mX3_here (some 3) 1 := site_V (dk DX3_readNumber 8 rfl) KX3 w_613 w_615 w_3 w_79 kX3_here pmX3_here (by decide)
set_option maxRecDepth 8000 in
theorem sX3_readNumber_19 : Site RX3 mX3_readNumber 19 22 mX3_here (some 3) 1 := site_V (dk DX3_readNumber 12 rfl) KX3 w_613 w_615 w_3 w_79 kX3_here pmX3_here (by decide)
set_option maxRecDepth 8000 in
theorem sX3_readNumber_32 : Site RX3 mX3_readNumber 32 35 mX3_here (some 3) 1 := site_V (dk DX3_readNumber 19 rfl) KX3 w_613 w_615 w_3 w_79 kX3_here pmX3_here (by decide)
set_option maxRecDepth 8000 in
theorem sX3_readEither_15 : Site RX3 mX3_readEither 15 18 mX3_takes (some 3) 2 := site_V (dk DX3_readEither 9 rfl) KX3 w_609 w_611 w_2 w_79 kX3_takes pmX3_takes (by decide)
set_option maxRecDepth 8000 in
theorem w_10 : Cond.selects "NextOneKnows$Post" ({ cls := "NextOneKnows$Post", name := "readPart", desc := "(I)V" } : Jvm.MethodName) ({ cls := "NextOneKnows$Post", name := "readPart", desc := "(I)V" } : Jvm.MethodName) ∈ TG := tg_p 10 rfl rfl
set_option maxRecDepth 8000 in
theorem w_641 : (Jvm.Cond.methodLink "NextOneKnows$Post" (81 : Nat) ({ cls := "NextOneKnows$Post", name := "readPart", desc := "(I)V" } : Jvm.MethodName)) ∈ TG := tg_3 88 rfl rfl
set_option maxRecDepth 8000 in
theorem w_643 : (Jvm.Cond.instanceMethod ({ cls := "NextOneKnows$Post", name := "readPart", desc := "(I)V" } : Jvm.MethodName)) ∈ TG := tg_3 90 rfl rfl
set_option maxRecDepth 8000 in
theorem sX3_readEither_23 : Site RX3 mX3_readEither 23 26 mX3_readPart (some 3) 2 := site_V (dk DX3_readEither 13 rfl) KX3 w_641 w_643 w_10 w_79 kX3_readPart pmX3_readPart (by decide)
set_option maxRecDepth 8000 in
theorem sX3_readEither_37 : Site RX3 mX3_readEither 37 40 mX3_takes (some 3) 2 := site_V (dk DX3_readEither 21 rfl) KX3 w_609 w_611 w_2 w_79 kX3_takes pmX3_takes (by decide)
set_option maxRecDepth 8000 in
theorem sX3_readEither_45 : Site RX3 mX3_readEither 45 48 mX3_readPart (some 3) 2 := site_V (dk DX3_readEither 25 rfl) KX3 w_641 w_643 w_10 w_79 kX3_readPart pmX3_readPart (by decide)
set_option maxRecDepth 8000 in
theorem w_11 : Cond.selects "NextOneKnows$Post" ({ cls := "NextOneKnows$Post", name := "keep", desc := "(I)V" } : Jvm.MethodName) ({ cls := "NextOneKnows$Post", name := "keep", desc := "(I)V" } : Jvm.MethodName) ∈ TG := tg_p 11 rfl rfl
set_option maxRecDepth 8000 in
theorem w_645 : (Jvm.Cond.methodLink "NextOneKnows$Post" (84 : Nat) ({ cls := "NextOneKnows$Post", name := "keep", desc := "(I)V" } : Jvm.MethodName)) ∈ TG := tg_3 92 rfl rfl
set_option maxRecDepth 8000 in
theorem w_647 : (Jvm.Cond.instanceMethod ({ cls := "NextOneKnows$Post", name := "keep", desc := "(I)V" } : Jvm.MethodName)) ∈ TG := tg_3 94 rfl rfl
set_option maxRecDepth 8000 in
theorem sX3_readEither_51 : Site RX3 mX3_readEither 51 54 mX3_keep (some 3) 2 := site_V (dk DX3_readEither 28 rfl) KX3 w_645 w_647 w_11 w_79 kX3_keep pmX3_keep (by decide)
set_option maxRecDepth 8000 in
theorem sX3_readEither_67 : Site RX3 mX3_readEither 67 70 mX3_keep (some 3) 2 := site_V (dk DX3_readEither 35 rfl) KX3 w_645 w_647 w_11 w_79 kX3_keep pmX3_keep (by decide)
set_option maxRecDepth 8000 in
theorem sX3_readPart_8 : Site RX3 mX3_readPart 8 11 mX3_takes (some 3) 2 := site_V (dk DX3_readPart 5 rfl) KX3 w_609 w_611 w_2 w_79 kX3_takes pmX3_takes (by decide)
set_option maxRecDepth 8000 in
theorem sX3_readPart_18 : Site RX3 mX3_readPart 18 21 mX3_readPart (some 3) 2 := site_V (dk DX3_readPart 11 rfl) KX3 w_641 w_643 w_10 w_79 kX3_readPart pmX3_readPart (by decide)
set_option maxRecDepth 8000 in
theorem sX3_readPart_24 : Site RX3 mX3_readPart 24 27 mX3_keep (some 3) 2 := site_V (dk DX3_readPart 14 rfl) KX3 w_645 w_647 w_11 w_79 kX3_keep pmX3_keep (by decide)
set_option maxRecDepth 8000 in
theorem sX3_readPart_38 : Site RX3 mX3_readPart 38 41 mX3_takes (some 3) 2 := site_V (dk DX3_readPart 21 rfl) KX3 w_609 w_611 w_2 w_79 kX3_takes pmX3_takes (by decide)
set_option maxRecDepth 8000 in
theorem sX3_readPart_48 : Site RX3 mX3_readPart 48 51 mX3_readEither (some 3) 2 := site_V (dk DX3_readPart 27 rfl) KX3 w_637 w_639 w_9 w_79 kX3_readEither pmX3_readEither (by decide)
set_option maxRecDepth 8000 in
theorem sX3_readPart_54 : Site RX3 mX3_readPart 54 57 mX3_needs (some 3) 2 := site_V (dk DX3_readPart 30 rfl) KX3 w_625 w_627 w_6 w_79 kX3_needs pmX3_needs (by decide)
set_option maxRecDepth 8000 in
theorem w_12 : Cond.selects "NextOneKnows$Post" ({ cls := "NextOneKnows$Post", name := "readTest", desc := "()V" } : Jvm.MethodName) ({ cls := "NextOneKnows$Post", name := "readTest", desc := "()V" } : Jvm.MethodName) ∈ TG := tg_p 12 rfl rfl
set_option maxRecDepth 8000 in
theorem w_649 : (Jvm.Cond.methodLink "NextOneKnows$Post" (87 : Nat) ({ cls := "NextOneKnows$Post", name := "readTest", desc := "()V" } : Jvm.MethodName)) ∈ TG := tg_3 96 rfl rfl
set_option maxRecDepth 8000 in
theorem w_651 : (Jvm.Cond.instanceMethod ({ cls := "NextOneKnows$Post", name := "readTest", desc := "()V" } : Jvm.MethodName)) ∈ TG := tg_3 98 rfl rfl
set_option maxRecDepth 8000 in
theorem sX3_readPart_61 : Site RX3 mX3_readPart 61 64 mX3_readTest (some 3) 1 := site_V (dk DX3_readPart 33 rfl) KX3 w_649 w_651 w_12 w_79 kX3_readTest pmX3_readTest (by decide)
set_option maxRecDepth 8000 in
theorem sX3_readTest_1 : Site RX3 mX3_readTest 1 4 mX3_here (some 3) 1 := site_V (dk DX3_readTest_0 1 rfl) KX3 w_613 w_615 w_3 w_79 kX3_here pmX3_here (by decide)
set_option maxRecDepth 8000 in
theorem w_7 : Cond.selects "NextOneKnows$Post" ({ cls := "NextOneKnows$Post", name := "takeIf", desc := "(Z)V" } : Jvm.MethodName) ({ cls := "NextOneKnows$Post", name := "takeIf", desc := "(Z)V" } : Jvm.MethodName) ∈ TG := tg_p 7 rfl rfl
set_option maxRecDepth 8000 in
theorem w_629 : (Jvm.Cond.methodLink "NextOneKnows$Post" (90 : Nat) ({ cls := "NextOneKnows$Post", name := "takeIf", desc := "(Z)V" } : Jvm.MethodName)) ∈ TG := tg_3 76 rfl rfl
set_option maxRecDepth 8000 in
theorem w_631 : (Jvm.Cond.instanceMethod ({ cls := "NextOneKnows$Post", name := "takeIf", desc := "(Z)V" } : Jvm.MethodName)) ∈ TG := tg_3 78 rfl rfl
set_option maxRecDepth 8000 in
theorem sX3_readTest_55 : Site RX3 mX3_readTest 55 58 mX3_takeIf (some 3) 2 := site_V (dk DX3_readTest_0 30 rfl) KX3 w_629 w_631 w_7 w_79 kX3_takeIf pmX3_takeIf (by decide)
set_option maxRecDepth 8000 in
theorem sX3_readTest_59 : Site RX3 mX3_readTest 59 62 mX3_here (some 3) 1 := site_V (dk DX3_readTest_0 32 rfl) KX3 w_613 w_615 w_3 w_79 kX3_here pmX3_here (by decide)
set_option maxRecDepth 8000 in
theorem sX3_readTest_87 : Site RX3 mX3_readTest 87 90 mX3_takeIf (some 3) 2 := site_V (dk DX3_readTest_0 47 rfl) KX3 w_629 w_631 w_7 w_79 kX3_takeIf pmX3_takeIf (by decide)
set_option maxRecDepth 8000 in
theorem sX3_readTest_98 : Site RX3 mX3_readTest 98 101 mX3_readNumber (some 3) 1 := site_V (dk DX3_readTest_0 55 rfl) KX3 w_633 w_635 w_8 w_79 kX3_readNumber pmX3_readNumber (by decide)
set_option maxRecDepth 8000 in
theorem sX3_readTest_105 : Site RX3 mX3_readTest 105 108 mX3_keep (some 3) 2 := site_V (dk DX3_readTest_0 59 rfl) KX3 w_645 w_647 w_11 w_79 kX3_keep pmX3_keep (by decide)
set_option maxRecDepth 8000 in
theorem sX3_takes_1 : Site RX3 mX3_takes 1 4 mX3_here (some 3) 1 := site_V (dk DX3_takes 1 rfl) KX3 w_613 w_615 w_3 w_79 kX3_here pmX3_here (by decide)
set_option maxRecDepth 8000 in
theorem sX3_needs_2 : Site RX3 mX3_needs 2 5 mX3_here (some 3) 1 := site_V (dk DX3_needs 2 rfl) KX3 w_613 w_615 w_3 w_79 kX3_here pmX3_here (by decide)
set_option maxRecDepth 8000 in
theorem sX3_needs_14 : Site RX3 mX3_needs 14 17 mX3_takeIf (some 3) 2 := site_V (dk DX3_needs 8 rfl) KX3 w_629 w_631 w_7 w_79 kX3_takeIf pmX3_takeIf (by decide)
set_option maxRecDepth 8000 in
theorem w_1 : Cond.selects "NextOneKnows$Post" ({ cls := "NextOneKnows$Post", name := "holds", desc := "(ILNextOneKnows$Doing;II)Z" } : Jvm.MethodName) ({ cls := "NextOneKnows$Post", name := "holds", desc := "(ILNextOneKnows$Doing;II)Z" } : Jvm.MethodName) ∈ TG := tg_p 1 rfl rfl
set_option maxRecDepth 8000 in
theorem w_535 : (Jvm.Cond.methodLink "NextOneKnows$Post" (94 : Nat) ({ cls := "NextOneKnows$Post", name := "holds", desc := "(ILNextOneKnows$Doing;II)Z" } : Jvm.MethodName)) ∈ TG := tg_2 222 rfl rfl
set_option maxRecDepth 8000 in
theorem w_537 : (Jvm.Cond.instanceMethod ({ cls := "NextOneKnows$Post", name := "holds", desc := "(ILNextOneKnows$Doing;II)Z" } : Jvm.MethodName)) ∈ TG := tg_2 224 rfl rfl
set_option maxRecDepth 8000 in
theorem sX3_together_33 : Site RX3 mX3_together 33 36 mX3_holds (some 3) 5 := site_V (dk DX3_together 19 rfl) KX3 w_535 w_537 w_1 w_79 kX3_holds pmX3_holds (by decide)
set_option maxRecDepth 8000 in
theorem w_539 : (Jvm.Cond.methodLink "NextOneKnows$Post" (98 : Nat) ({ cls := "NextOneKnows$Post", name := "passes", desc := "(ILNextOneKnows$Doing;II)Z" } : Jvm.MethodName)) ∈ TG := tg_2 226 rfl rfl
set_option maxRecDepth 8000 in
theorem w_540 : (Jvm.Cond.static ({ cls := "NextOneKnows$Post", name := "passes", desc := "(ILNextOneKnows$Doing;II)Z" } : Jvm.MethodName)) ∈ TG := tg_2 227 rfl rfl
set_option maxRecDepth 8000 in
theorem sX3_holds_110 : Site RX3 mX3_holds 110 113 mX3_passes none 4 := site_S (dk DX3_holds_1 3 rfl) w_539 w_540 w_79 kX3_passes pmX3_passes (by decide)
set_option maxRecDepth 8000 in
theorem w_542 : (Jvm.Cond.methodLink "NextOneKnows$Post" (106 : Nat) ({ cls := "NextOneKnows$Doing", name := "kind", desc := "()I" } : Jvm.MethodName)) ∈ TG := tg_2 229 rfl rfl
set_option maxRecDepth 8000 in
theorem w_496 : (Jvm.Cond.sameMethod "NextOneKnows$Doing" "NextOneKnows$Doing" "kind" "()I") ∈ TG := tg_2 183 rfl rfl
set_option maxRecDepth 8000 in
theorem w_494 : (Jvm.Cond.instanceMethod ({ cls := "NextOneKnows$Doing", name := "kind", desc := "()I" } : Jvm.MethodName)) ∈ TG := tg_2 181 rfl rfl
set_option maxRecDepth 8000 in
theorem w_495 : (Jvm.Cond.selects "NextOneKnows$Doing" ({ cls := "NextOneKnows$Doing", name := "kind", desc := "()I" } : Jvm.MethodName) ({ cls := "NextOneKnows$Doing", name := "kind", desc := "()I" } : Jvm.MethodName)) ∈ TG := tg_2 182 rfl rfl
set_option maxRecDepth 8000 in
theorem sX3_passes_78_c1 : Site RX3 mX3_passes 78 81 mX1_kind (some 1) 1 := site_U (owner := RX1) (x := ⟨RX1, "kind", "()I"⟩) (dk DX3_passes_0 13 rfl) KX1 w_542 w_496 w_494 (kX1_kind) w_494 w_495 w_81 kX1_kind pmX1_kind (by decide)
set_option maxRecDepth 8000 in
theorem w_510 : (Jvm.Cond.instanceMethod ({ cls := "NextOneKnows$Written", name := "kind", desc := "()I" } : Jvm.MethodName)) ∈ TG := tg_2 197 rfl rfl
set_option maxRecDepth 8000 in
theorem w_509 : (Jvm.Cond.selects "NextOneKnows$Written" ({ cls := "NextOneKnows$Doing", name := "kind", desc := "()I" } : Jvm.MethodName) ({ cls := "NextOneKnows$Written", name := "kind", desc := "()I" } : Jvm.MethodName)) ∈ TG := tg_2 196 rfl rfl
set_option maxRecDepth 8000 in
theorem sX3_passes_78_c9 : Site RX3 mX3_passes 78 81 mX9_kind (some 9) 1 := site_U (owner := RX1) (x := ⟨RX1, "kind", "()I"⟩) (dk DX3_passes_0 13 rfl) KX9 w_542 w_496 w_494 (kX1_kind) w_510 w_509 w_82 kX9_kind pmX1_kind (by decide)
set_option maxRecDepth 8000 in
theorem w_507 : (Jvm.Cond.instanceMethod ({ cls := "NextOneKnows$Why", name := "kind", desc := "()I" } : Jvm.MethodName)) ∈ TG := tg_2 194 rfl rfl
set_option maxRecDepth 8000 in
theorem w_506 : (Jvm.Cond.selects "NextOneKnows$Why" ({ cls := "NextOneKnows$Doing", name := "kind", desc := "()I" } : Jvm.MethodName) ({ cls := "NextOneKnows$Why", name := "kind", desc := "()I" } : Jvm.MethodName)) ∈ TG := tg_2 193 rfl rfl
set_option maxRecDepth 8000 in
theorem sX3_passes_78_c8 : Site RX3 mX3_passes 78 81 mX8_kind (some 8) 1 := site_U (owner := RX1) (x := ⟨RX1, "kind", "()I"⟩) (dk DX3_passes_0 13 rfl) KX8 w_542 w_496 w_494 (kX1_kind) w_507 w_506 w_86 kX8_kind pmX1_kind (by decide)
set_option maxRecDepth 8000 in
theorem w_498 : (Jvm.Cond.instanceMethod ({ cls := "NextOneKnows$Plain", name := "kind", desc := "()I" } : Jvm.MethodName)) ∈ TG := tg_2 185 rfl rfl
set_option maxRecDepth 8000 in
theorem w_497 : (Jvm.Cond.selects "NextOneKnows$Plain" ({ cls := "NextOneKnows$Doing", name := "kind", desc := "()I" } : Jvm.MethodName) ({ cls := "NextOneKnows$Plain", name := "kind", desc := "()I" } : Jvm.MethodName)) ∈ TG := tg_2 184 rfl rfl
set_option maxRecDepth 8000 in
theorem sX3_passes_78_c2 : Site RX3 mX3_passes 78 81 mX2_kind (some 2) 1 := site_U (owner := RX1) (x := ⟨RX1, "kind", "()I"⟩) (dk DX3_passes_0 13 rfl) KX2 w_542 w_496 w_494 (kX1_kind) w_498 w_497 w_84 kX2_kind pmX1_kind (by decide)
set_option maxRecDepth 8000 in
theorem w_504 : (Jvm.Cond.instanceMethod ({ cls := "NextOneKnows$Tied", name := "kind", desc := "()I" } : Jvm.MethodName)) ∈ TG := tg_2 191 rfl rfl
set_option maxRecDepth 8000 in
theorem w_503 : (Jvm.Cond.selects "NextOneKnows$Tied" ({ cls := "NextOneKnows$Doing", name := "kind", desc := "()I" } : Jvm.MethodName) ({ cls := "NextOneKnows$Tied", name := "kind", desc := "()I" } : Jvm.MethodName)) ∈ TG := tg_2 190 rfl rfl
set_option maxRecDepth 8000 in
theorem sX3_passes_78_c6 : Site RX3 mX3_passes 78 81 mX6_kind (some 6) 1 := site_U (owner := RX1) (x := ⟨RX1, "kind", "()I"⟩) (dk DX3_passes_0 13 rfl) KX6 w_542 w_496 w_494 (kX1_kind) w_504 w_503 w_87 kX6_kind pmX1_kind (by decide)
set_option maxRecDepth 8000 in
theorem w_501 : (Jvm.Cond.instanceMethod ({ cls := "NextOneKnows$Rare", name := "kind", desc := "()I" } : Jvm.MethodName)) ∈ TG := tg_2 188 rfl rfl
set_option maxRecDepth 8000 in
theorem w_500 : (Jvm.Cond.selects "NextOneKnows$Rare" ({ cls := "NextOneKnows$Doing", name := "kind", desc := "()I" } : Jvm.MethodName) ({ cls := "NextOneKnows$Rare", name := "kind", desc := "()I" } : Jvm.MethodName)) ∈ TG := tg_2 187 rfl rfl
set_option maxRecDepth 8000 in
theorem sX3_passes_78_c4 : Site RX3 mX3_passes 78 81 mX4_kind (some 4) 1 := site_U (owner := RX1) (x := ⟨RX1, "kind", "()I"⟩) (dk DX3_passes_0 13 rfl) KX4 w_542 w_496 w_494 (kX1_kind) w_501 w_500 w_85 kX4_kind pmX1_kind (by decide)
set_option maxRecDepth 8000 in
theorem w_513 : (Jvm.Cond.instanceMethod ({ cls := "NextOneKnows$Wrong", name := "kind", desc := "()I" } : Jvm.MethodName)) ∈ TG := tg_2 200 rfl rfl
set_option maxRecDepth 8000 in
theorem w_512 : (Jvm.Cond.selects "NextOneKnows$Wrong" ({ cls := "NextOneKnows$Doing", name := "kind", desc := "()I" } : Jvm.MethodName) ({ cls := "NextOneKnows$Wrong", name := "kind", desc := "()I" } : Jvm.MethodName)) ∈ TG := tg_2 199 rfl rfl
set_option maxRecDepth 8000 in
theorem sX3_passes_78_c10 : Site RX3 mX3_passes 78 81 mX10_kind (some 10) 1 := site_U (owner := RX1) (x := ⟨RX1, "kind", "()I"⟩) (dk DX3_passes_0 13 rfl) KX10 w_542 w_496 w_494 (kX1_kind) w_513 w_512 w_88 kX10_kind pmX1_kind (by decide)
set_option maxRecDepth 8000 in
theorem w_424 : (Jvm.Cond.methodLink "NextOneKnows$Rare" (3 : Nat) ({ cls := "NextOneKnows$Doing", name := "<init>", desc := "(IIIIII)V" } : Jvm.MethodName)) ∈ TG := tg_2 111 rfl rfl
set_option maxRecDepth 8000 in
theorem sX4_init_10 {ci : Nat} : Site RX4 mX4_init 10 13 mX1_init (some ci) 7 := site_I (dk DX4_init 7 rfl) rfl rfl w_424 w_354 w_81 kX1_init pmX1_init (by decide)
set_option maxRecDepth 8000 in
theorem w_553 : (Jvm.Cond.methodLink "NextOneKnows$Rare" (9 : Nat) ({ cls := "NextOneKnows$Doing", name := "saidOver", desc := "([I[I)I" } : Jvm.MethodName)) ∈ TG := tg_3 0 rfl rfl
set_option maxRecDepth 8000 in
theorem w_431 : (Jvm.Cond.superclass "NextOneKnows$Rare" "NextOneKnows$Doing") ∈ TG := tg_2 118 rfl rfl
set_option maxRecDepth 8000 in
theorem sX4_saidOver_13_c4 : Site RX4 mX4_saidOver 13 16 mX1_saidOver (some 4) 3 := site_SU (x := ⟨RX1, "saidOver", "([I[I)I"⟩) (dk DX4_saidOver 9 rfl) KX4 ⟨rfl, rfl⟩ w_553 w_546 w_431 (Or.inl rfl) w_544 w_81 kX1_saidOver (by decide +kernel) pmX1_saidOver.2.2 (by decide)
set_option maxRecDepth 8000 in
theorem sX4_saidOver_13_c10 : Site RX4 mX4_saidOver 13 16 mX1_saidOver (some 10) 3 := site_SU (x := ⟨RX1, "saidOver", "([I[I)I"⟩) (dk DX4_saidOver 9 rfl) KX10 ⟨rfl, rfl⟩ w_553 w_546 w_431 (Or.inl rfl) w_544 w_81 kX1_saidOver (by decide +kernel) pmX1_saidOver.2.2 (by decide)
set_option maxRecDepth 8000 in
theorem w_963 : (Jvm.Cond.methodLink "NextOneKnows$Rare" (19 : Nat) ({ cls := "NextOneKnows$Trace", name := "begins", desc := "(I)V" } : Jvm.MethodName)) ∈ TG := tg_4 170 rfl rfl
set_option maxRecDepth 8000 in
theorem sX4_tells_3 : Site RX4 mX4_tells 3 6 mX7_begins (some 7) 2 := site_V (dk DX4_tells 2 rfl) KX7 w_963 w_909 w_910 w_77 kX7_begins pmX7_begins (by decide)
set_option maxRecDepth 8000 in
theorem w_964 : (Jvm.Cond.methodLink "NextOneKnows$Rare" (25 : Nat) ({ cls := "NextOneKnows$Doing", name := "tells", desc := "(ILNextOneKnows$Trace;)I" } : Jvm.MethodName)) ∈ TG := tg_4 171 rfl rfl
set_option maxRecDepth 8000 in
theorem w_958 : (Jvm.Cond.sameMethod "NextOneKnows$Doing" "NextOneKnows$Doing" "tells" "(ILNextOneKnows$Trace;)I") ∈ TG := tg_4 165 rfl rfl
set_option maxRecDepth 8000 in
theorem w_956 : (Jvm.Cond.instanceMethod ({ cls := "NextOneKnows$Doing", name := "tells", desc := "(ILNextOneKnows$Trace;)I" } : Jvm.MethodName)) ∈ TG := tg_4 163 rfl rfl
set_option maxRecDepth 8000 in
theorem sX4_tells_9_c4 : Site RX4 mX4_tells 9 12 mX1_tells (some 4) 3 := site_SU (x := ⟨RX1, "tells", "(ILNextOneKnows$Trace;)I"⟩) (dk DX4_tells 6 rfl) KX4 ⟨rfl, rfl⟩ w_964 w_958 w_431 (Or.inl rfl) w_956 w_81 kX1_tells (by decide +kernel) pmX1_tells.2.2 (by decide)
set_option maxRecDepth 8000 in
theorem sX4_tells_9_c10 : Site RX4 mX4_tells 9 12 mX1_tells (some 10) 3 := site_SU (x := ⟨RX1, "tells", "(ILNextOneKnows$Trace;)I"⟩) (dk DX4_tells 6 rfl) KX10 ⟨rfl, rfl⟩ w_964 w_958 w_431 (Or.inl rfl) w_956 w_81 kX1_tells (by decide +kernel) pmX1_tells.2.2 (by decide)
set_option maxRecDepth 8000 in
theorem w_965 : (Jvm.Cond.methodLink "NextOneKnows$Rare" (29 : Nat) ({ cls := "NextOneKnows$Rare", name := "holds", desc := "(ILNextOneKnows$Trace;)I" } : Jvm.MethodName)) ∈ TG := tg_4 172 rfl rfl
set_option maxRecDepth 8000 in
theorem w_951 : (Jvm.Cond.sameMethod "NextOneKnows$Rare" "NextOneKnows$Doing" "holds" "(ILNextOneKnows$Trace;)I") ∈ TG := tg_4 158 rfl rfl
set_option maxRecDepth 8000 in
theorem w_966 : (Jvm.Cond.selects "NextOneKnows$Rare" ({ cls := "NextOneKnows$Rare", name := "holds", desc := "(ILNextOneKnows$Trace;)I" } : Jvm.MethodName) ({ cls := "NextOneKnows$Doing", name := "holds", desc := "(ILNextOneKnows$Trace;)I" } : Jvm.MethodName)) ∈ TG := tg_4 173 rfl rfl
set_option maxRecDepth 8000 in
theorem sX4_tells_15_c4 : Site RX4 mX4_tells 15 18 mX1_holds (some 4) 3 := site_U (owner := RX1) (x := ⟨RX4, "holds", "(ILNextOneKnows$Trace;)I"⟩) (dk DX4_tells 10 rfl) KX4 w_965 w_951 w_932 (kX1_holds) w_932 w_966 w_81 kX1_holds pmX1_holds (by decide)
set_option maxRecDepth 8000 in
theorem w_967 : (Jvm.Cond.selects "NextOneKnows$Wrong" ({ cls := "NextOneKnows$Rare", name := "holds", desc := "(ILNextOneKnows$Trace;)I" } : Jvm.MethodName) ({ cls := "NextOneKnows$Wrong", name := "holds", desc := "(ILNextOneKnows$Trace;)I" } : Jvm.MethodName)) ∈ TG := tg_4 174 rfl rfl
set_option maxRecDepth 8000 in
theorem sX4_tells_15_c10 : Site RX4 mX4_tells 15 18 mX10_holds (some 10) 3 := site_U (owner := RX1) (x := ⟨RX4, "holds", "(ILNextOneKnows$Trace;)I"⟩) (dk DX4_tells 10 rfl) KX10 w_965 w_951 w_932 (kX1_holds) w_948 w_967 w_88 kX10_holds pmX1_holds (by decide)
set_option maxRecDepth 8000 in
theorem w_842 : (Jvm.Cond.methodLink "NextOneKnows$State" (65 : Nat) ({ cls := "java/lang/Math", name := "max", desc := "(II)I" } : Jvm.MethodName)) ∈ TG := tg_4 49 rfl rfl
set_option maxRecDepth 8000 in
theorem sX5_weeksToRows_26 : Site RX5 mX5_weeksToRows 26 29 mJ9_max_7cf53 none 2 := site_S (dk DX5_weeksToRows 18 rfl) w_842 w_358 w_83 kJ9_max_7cf53 pmJ9_max_7cf53 (by decide)
set_option maxRecDepth 8000 in
theorem w_859 : (Jvm.Cond.methodLink "NextOneKnows$State" (71 : Nat) ({ cls := "java/lang/Math", name := "min", desc := "(II)I" } : Jvm.MethodName)) ∈ TG := tg_4 66 rfl rfl
set_option maxRecDepth 8000 in
theorem sX5_weeksToRows_39 : Site RX5 mX5_weeksToRows 39 42 mJ9_min_7cf53 none 2 := site_S (dk DX5_weeksToRows 24 rfl) w_859 w_607 w_83 kJ9_min_7cf53 pmJ9_min_7cf53 (by decide)
set_option maxRecDepth 8000 in
theorem w_533 : (Jvm.Cond.selects "NextOneKnows$Post" ({ cls := "NextOneKnows$Post", name := "together", desc := "(ILNextOneKnows$Doing;II)I" } : Jvm.MethodName) ({ cls := "NextOneKnows$Post", name := "together", desc := "(ILNextOneKnows$Doing;II)I" } : Jvm.MethodName)) ∈ TG := tg_2 220 rfl rfl
set_option maxRecDepth 8000 in
theorem w_531 : (Jvm.Cond.methodLink "NextOneKnows$State" (76 : Nat) ({ cls := "NextOneKnows$Post", name := "together", desc := "(ILNextOneKnows$Doing;II)I" } : Jvm.MethodName)) ∈ TG := tg_2 218 rfl rfl
set_option maxRecDepth 8000 in
theorem w_532 : (Jvm.Cond.instanceMethod ({ cls := "NextOneKnows$Post", name := "together", desc := "(ILNextOneKnows$Doing;II)I" } : Jvm.MethodName)) ∈ TG := tg_2 219 rfl rfl
set_option maxRecDepth 8000 in
theorem sX5_saidBy_20 : Site RX5 mX5_saidBy 20 23 mX3_together (some 3) 5 := site_V (dk DX5_saidBy 11 rfl) KX3 w_531 w_532 w_533 w_79 kX3_together pmX3_together (by decide)
set_option maxRecDepth 8000 in
theorem sX5_dearIn_28 : Site RX5 mX5_dearIn 28 31 mX3_together (some 3) 5 := site_V (dk DX5_dearIn 15 rfl) KX3 w_531 w_532 w_533 w_79 kX3_together pmX3_together (by decide)
set_option maxRecDepth 8000 in
theorem w_704 : (Jvm.Cond.methodLink "NextOneKnows$State" (89 : Nat) ({ cls := "NextOneKnows$State", name := "find", desc := "(I)LNextOneKnows$Doing;" } : Jvm.MethodName)) ∈ TG := tg_3 151 rfl rfl
set_option maxRecDepth 8000 in
theorem sX5_coming_14 : Site RX5 mX5_coming 14 17 mX5_find (some 5) 2 := site_V (dk DX5_coming 10 rfl) KX5 w_704 w_490 w_491 w_75 kX5_find pmX5_find (by decide)
set_option maxRecDepth 8000 in
theorem w_705 : (Jvm.Cond.methodLink "NextOneKnows$State" (93 : Nat) ({ cls := "NextOneKnows$Doing", name := "weeksUntil", desc := "(I)I" } : Jvm.MethodName)) ∈ TG := tg_3 152 rfl rfl
set_option maxRecDepth 8000 in
theorem w_708 : (Jvm.Cond.sameMethod "NextOneKnows$Doing" "NextOneKnows$Doing" "weeksUntil" "(I)I") ∈ TG := tg_3 155 rfl rfl
set_option maxRecDepth 8000 in
theorem w_706 : (Jvm.Cond.instanceMethod ({ cls := "NextOneKnows$Doing", name := "weeksUntil", desc := "(I)I" } : Jvm.MethodName)) ∈ TG := tg_3 153 rfl rfl
set_option maxRecDepth 8000 in
theorem w_707 : (Jvm.Cond.selects "NextOneKnows$Doing" ({ cls := "NextOneKnows$Doing", name := "weeksUntil", desc := "(I)I" } : Jvm.MethodName) ({ cls := "NextOneKnows$Doing", name := "weeksUntil", desc := "(I)I" } : Jvm.MethodName)) ∈ TG := tg_3 154 rfl rfl
set_option maxRecDepth 8000 in
theorem sX5_coming_27_c1 : Site RX5 mX5_coming 27 30 mX1_weeksUntil (some 1) 2 := site_U (owner := RX1) (x := ⟨RX1, "weeksUntil", "(I)I"⟩) (dk DX5_coming 16 rfl) KX1 w_705 w_708 w_706 (kX1_weeksUntil) w_706 w_707 w_81 kX1_weeksUntil pmX1_weeksUntil (by decide)
set_option maxRecDepth 8000 in
theorem w_713 : (Jvm.Cond.selects "NextOneKnows$Written" ({ cls := "NextOneKnows$Doing", name := "weeksUntil", desc := "(I)I" } : Jvm.MethodName) ({ cls := "NextOneKnows$Doing", name := "weeksUntil", desc := "(I)I" } : Jvm.MethodName)) ∈ TG := tg_3 160 rfl rfl
set_option maxRecDepth 8000 in
theorem sX5_coming_27_c9 : Site RX5 mX5_coming 27 30 mX1_weeksUntil (some 9) 2 := site_U (owner := RX1) (x := ⟨RX1, "weeksUntil", "(I)I"⟩) (dk DX5_coming 16 rfl) KX9 w_705 w_708 w_706 (kX1_weeksUntil) w_706 w_713 w_81 kX1_weeksUntil pmX1_weeksUntil (by decide)
set_option maxRecDepth 8000 in
theorem w_712 : (Jvm.Cond.selects "NextOneKnows$Why" ({ cls := "NextOneKnows$Doing", name := "weeksUntil", desc := "(I)I" } : Jvm.MethodName) ({ cls := "NextOneKnows$Doing", name := "weeksUntil", desc := "(I)I" } : Jvm.MethodName)) ∈ TG := tg_3 159 rfl rfl
set_option maxRecDepth 8000 in
theorem sX5_coming_27_c8 : Site RX5 mX5_coming 27 30 mX1_weeksUntil (some 8) 2 := site_U (owner := RX1) (x := ⟨RX1, "weeksUntil", "(I)I"⟩) (dk DX5_coming 16 rfl) KX8 w_705 w_708 w_706 (kX1_weeksUntil) w_706 w_712 w_81 kX1_weeksUntil pmX1_weeksUntil (by decide)
set_option maxRecDepth 8000 in
theorem w_709 : (Jvm.Cond.selects "NextOneKnows$Plain" ({ cls := "NextOneKnows$Doing", name := "weeksUntil", desc := "(I)I" } : Jvm.MethodName) ({ cls := "NextOneKnows$Doing", name := "weeksUntil", desc := "(I)I" } : Jvm.MethodName)) ∈ TG := tg_3 156 rfl rfl
set_option maxRecDepth 8000 in
theorem sX5_coming_27_c2 : Site RX5 mX5_coming 27 30 mX1_weeksUntil (some 2) 2 := site_U (owner := RX1) (x := ⟨RX1, "weeksUntil", "(I)I"⟩) (dk DX5_coming 16 rfl) KX2 w_705 w_708 w_706 (kX1_weeksUntil) w_706 w_709 w_81 kX1_weeksUntil pmX1_weeksUntil (by decide)
set_option maxRecDepth 8000 in
theorem w_711 : (Jvm.Cond.selects "NextOneKnows$Tied" ({ cls := "NextOneKnows$Doing", name := "weeksUntil", desc := "(I)I" } : Jvm.MethodName) ({ cls := "NextOneKnows$Doing", name := "weeksUntil", desc := "(I)I" } : Jvm.MethodName)) ∈ TG := tg_3 158 rfl rfl
set_option maxRecDepth 8000 in
theorem sX5_coming_27_c6 : Site RX5 mX5_coming 27 30 mX1_weeksUntil (some 6) 2 := site_U (owner := RX1) (x := ⟨RX1, "weeksUntil", "(I)I"⟩) (dk DX5_coming 16 rfl) KX6 w_705 w_708 w_706 (kX1_weeksUntil) w_706 w_711 w_81 kX1_weeksUntil pmX1_weeksUntil (by decide)
set_option maxRecDepth 8000 in
theorem w_710 : (Jvm.Cond.selects "NextOneKnows$Rare" ({ cls := "NextOneKnows$Doing", name := "weeksUntil", desc := "(I)I" } : Jvm.MethodName) ({ cls := "NextOneKnows$Doing", name := "weeksUntil", desc := "(I)I" } : Jvm.MethodName)) ∈ TG := tg_3 157 rfl rfl
set_option maxRecDepth 8000 in
theorem sX5_coming_27_c4 : Site RX5 mX5_coming 27 30 mX1_weeksUntil (some 4) 2 := site_U (owner := RX1) (x := ⟨RX1, "weeksUntil", "(I)I"⟩) (dk DX5_coming 16 rfl) KX4 w_705 w_708 w_706 (kX1_weeksUntil) w_706 w_710 w_81 kX1_weeksUntil pmX1_weeksUntil (by decide)
set_option maxRecDepth 8000 in
theorem w_714 : (Jvm.Cond.selects "NextOneKnows$Wrong" ({ cls := "NextOneKnows$Doing", name := "weeksUntil", desc := "(I)I" } : Jvm.MethodName) ({ cls := "NextOneKnows$Doing", name := "weeksUntil", desc := "(I)I" } : Jvm.MethodName)) ∈ TG := tg_3 161 rfl rfl
set_option maxRecDepth 8000 in
theorem sX5_coming_27_c10 : Site RX5 mX5_coming 27 30 mX1_weeksUntil (some 10) 2 := site_U (owner := RX1) (x := ⟨RX1, "weeksUntil", "(I)I"⟩) (dk DX5_coming 16 rfl) KX10 w_705 w_708 w_706 (kX1_weeksUntil) w_706 w_714 w_81 kX1_weeksUntil pmX1_weeksUntil (by decide)
set_option maxRecDepth 8000 in
theorem sX5_longestWait_17 : Site RX5 mX5_longestWait 17 20 mX5_find (some 5) 2 := site_V (dk DX5_longestWait 10 rfl) KX5 w_704 w_490 w_491 w_75 kX5_find pmX5_find (by decide)
set_option maxRecDepth 8000 in
theorem sX5_longestWait_30 : Site RX5 mX5_longestWait 30 33 mX11_bit none 2 := site_SN (host := "NextOneKnows") (dk DX5_longestWait 16 rfl) (by decide +kernel) w_517 w_74 kX11_bit pmX11_bit (by decide)
set_option maxRecDepth 8000 in
theorem sX5_longestWait_40_c1 : Site RX5 mX5_longestWait 40 43 mX1_weeksUntil (some 1) 2 := site_U (owner := RX1) (x := ⟨RX1, "weeksUntil", "(I)I"⟩) (dk DX5_longestWait 21 rfl) KX1 w_705 w_708 w_706 (kX1_weeksUntil) w_706 w_707 w_81 kX1_weeksUntil pmX1_weeksUntil (by decide)
set_option maxRecDepth 8000 in
theorem sX5_longestWait_40_c9 : Site RX5 mX5_longestWait 40 43 mX1_weeksUntil (some 9) 2 := site_U (owner := RX1) (x := ⟨RX1, "weeksUntil", "(I)I"⟩) (dk DX5_longestWait 21 rfl) KX9 w_705 w_708 w_706 (kX1_weeksUntil) w_706 w_713 w_81 kX1_weeksUntil pmX1_weeksUntil (by decide)
set_option maxRecDepth 8000 in
theorem sX5_longestWait_40_c8 : Site RX5 mX5_longestWait 40 43 mX1_weeksUntil (some 8) 2 := site_U (owner := RX1) (x := ⟨RX1, "weeksUntil", "(I)I"⟩) (dk DX5_longestWait 21 rfl) KX8 w_705 w_708 w_706 (kX1_weeksUntil) w_706 w_712 w_81 kX1_weeksUntil pmX1_weeksUntil (by decide)
set_option maxRecDepth 8000 in
theorem sX5_longestWait_40_c2 : Site RX5 mX5_longestWait 40 43 mX1_weeksUntil (some 2) 2 := site_U (owner := RX1) (x := ⟨RX1, "weeksUntil", "(I)I"⟩) (dk DX5_longestWait 21 rfl) KX2 w_705 w_708 w_706 (kX1_weeksUntil) w_706 w_709 w_81 kX1_weeksUntil pmX1_weeksUntil (by decide)
set_option maxRecDepth 8000 in
theorem sX5_longestWait_40_c6 : Site RX5 mX5_longestWait 40 43 mX1_weeksUntil (some 6) 2 := site_U (owner := RX1) (x := ⟨RX1, "weeksUntil", "(I)I"⟩) (dk DX5_longestWait 21 rfl) KX6 w_705 w_708 w_706 (kX1_weeksUntil) w_706 w_711 w_81 kX1_weeksUntil pmX1_weeksUntil (by decide)
set_option maxRecDepth 8000 in
theorem sX5_longestWait_40_c4 : Site RX5 mX5_longestWait 40 43 mX1_weeksUntil (some 4) 2 := site_U (owner := RX1) (x := ⟨RX1, "weeksUntil", "(I)I"⟩) (dk DX5_longestWait 21 rfl) KX4 w_705 w_708 w_706 (kX1_weeksUntil) w_706 w_710 w_81 kX1_weeksUntil pmX1_weeksUntil (by decide)
set_option maxRecDepth 8000 in
theorem sX5_longestWait_40_c10 : Site RX5 mX5_longestWait 40 43 mX1_weeksUntil (some 10) 2 := site_U (owner := RX1) (x := ⟨RX1, "weeksUntil", "(I)I"⟩) (dk DX5_longestWait 21 rfl) KX10 w_705 w_708 w_706 (kX1_weeksUntil) w_706 w_714 w_81 kX1_weeksUntil pmX1_weeksUntil (by decide)
set_option maxRecDepth 8000 in
theorem sX5_longestWait_43 : Site RX5 mX5_longestWait 43 46 mJ9_max_7cf53 none 2 := site_S (dk DX5_longestWait 22 rfl) w_842 w_358 w_83 kJ9_max_7cf53 pmJ9_max_7cf53 (by decide)
set_option maxRecDepth 8000 in
theorem w_450 : (Jvm.Cond.methodLink "NextOneKnows$Tied" (3 : Nat) ({ cls := "NextOneKnows$Plain", name := "<init>", desc := "(IIIIII)V" } : Jvm.MethodName)) ∈ TG := tg_2 137 rfl rfl
set_option maxRecDepth 8000 in
theorem w_409 : (Jvm.Cond.instanceMethod ({ cls := "NextOneKnows$Plain", name := "<init>", desc := "(IIIIII)V" } : Jvm.MethodName)) ∈ TG := tg_2 96 rfl rfl
set_option maxRecDepth 8000 in
theorem sX6_init_10 {ci : Nat} : Site RX6 mX6_init 10 13 mX2_init (some ci) 7 := site_I (dk DX6_init 7 rfl) rfl rfl w_450 w_409 w_84 kX2_init pmX2_init (by decide)
set_option maxRecDepth 8000 in
theorem w_557 : (Jvm.Cond.methodLink "NextOneKnows$Tied" (9 : Nat) ({ cls := "NextOneKnows$Plain", name := "saidOver", desc := "([I[I)I" } : Jvm.MethodName)) ∈ TG := tg_3 4 rfl rfl
set_option maxRecDepth 8000 in
theorem w_1612 : (Jvm.Cond.sameMethod "NextOneKnows$Plain" "NextOneKnows$Plain" "saidOver" "([I[I)I") ∈ TG := tg_7 99 rfl rfl
set_option maxRecDepth 8000 in
theorem w_457 : (Jvm.Cond.superclass "NextOneKnows$Tied" "NextOneKnows$Plain") ∈ TG := tg_2 144 rfl rfl
set_option maxRecDepth 8000 in
theorem sX6_saidOver_3_c6 : Site RX6 mX6_saidOver 3 6 mX2_saidOver (some 6) 3 := site_SU (x := ⟨RX2, "saidOver", "([I[I)I"⟩) (dk DX6_saidOver 3 rfl) KX6 ⟨rfl, rfl⟩ w_557 w_1612 w_457 (Or.inl rfl) w_548 w_84 kX2_saidOver (by decide +kernel) pmX2_saidOver.2.2 (by decide)
set_option maxRecDepth 8000 in
theorem w_971 : (Jvm.Cond.methodLink "NextOneKnows$Tied" (19 : Nat) ({ cls := "NextOneKnows$Trace", name := "begins", desc := "(I)V" } : Jvm.MethodName)) ∈ TG := tg_4 178 rfl rfl
set_option maxRecDepth 8000 in
theorem sX6_tells_3 : Site RX6 mX6_tells 3 6 mX7_begins (some 7) 2 := site_V (dk DX6_tells 2 rfl) KX7 w_971 w_909 w_910 w_77 kX7_begins pmX7_begins (by decide)
set_option maxRecDepth 8000 in
theorem w_972 : (Jvm.Cond.methodLink "NextOneKnows$Tied" (28 : Nat) ({ cls := "NextOneKnows$Plain", name := "tells", desc := "(ILNextOneKnows$Trace;)I" } : Jvm.MethodName)) ∈ TG := tg_4 179 rfl rfl
set_option maxRecDepth 8000 in
theorem w_973 : (Jvm.Cond.sameMethod "NextOneKnows$Plain" "NextOneKnows$Doing" "tells" "(ILNextOneKnows$Trace;)I") ∈ TG := tg_4 180 rfl rfl
set_option maxRecDepth 8000 in
theorem sX6_tells_14_c6 : Site RX6 mX6_tells 14 17 mX1_tells (some 6) 3 := site_SU (x := ⟨RX2, "tells", "(ILNextOneKnows$Trace;)I"⟩) (dk DX6_tells 9 rfl) KX6 ⟨rfl, rfl⟩ w_972 w_973 w_457 (Or.inr w_418) w_956 w_81 kX1_tells (by decide +kernel) pmX1_tells.2.2 (by decide)
set_option maxRecDepth 8000 in
theorem w_437 : (Jvm.Cond.methodLink "NextOneKnows$Why" (3 : Nat) ({ cls := "NextOneKnows$Written", name := "<init>", desc := "(IIIIII)V" } : Jvm.MethodName)) ∈ TG := tg_2 124 rfl rfl
set_option maxRecDepth 8000 in
theorem w_351 : (Jvm.Cond.instanceMethod ({ cls := "NextOneKnows$Written", name := "<init>", desc := "(IIIIII)V" } : Jvm.MethodName)) ∈ TG := tg_2 38 rfl rfl
set_option maxRecDepth 8000 in
theorem sX8_init_10 {ci : Nat} : Site RX8 mX8_init 10 13 mX9_init (some ci) 7 := site_I (dk DX8_init 7 rfl) rfl rfl w_437 w_351 w_82 kX9_init pmX9_init (by decide)
set_option maxRecDepth 8000 in
theorem w_561 : (Jvm.Cond.methodLink "NextOneKnows$Why" (9 : Nat) ({ cls := "NextOneKnows$Written", name := "saidOver", desc := "([I[I)I" } : Jvm.MethodName)) ∈ TG := tg_3 8 rfl rfl
set_option maxRecDepth 8000 in
theorem w_1613 : (Jvm.Cond.sameMethod "NextOneKnows$Written" "NextOneKnows$Written" "saidOver" "([I[I)I") ∈ TG := tg_7 100 rfl rfl
set_option maxRecDepth 8000 in
theorem w_444 : (Jvm.Cond.superclass "NextOneKnows$Why" "NextOneKnows$Written") ∈ TG := tg_2 131 rfl rfl
set_option maxRecDepth 8000 in
theorem sX8_saidOver_3_c8 : Site RX8 mX8_saidOver 3 6 mX9_saidOver (some 8) 3 := site_SU (x := ⟨RX9, "saidOver", "([I[I)I"⟩) (dk DX8_saidOver 3 rfl) KX8 ⟨rfl, rfl⟩ w_561 w_1613 w_444 (Or.inl rfl) w_562 w_82 kX9_saidOver (by decide +kernel) pmX9_saidOver.2.2 (by decide)
set_option maxRecDepth 8000 in
theorem w_918 : (Jvm.Cond.methodLink "NextOneKnows$Why" (19 : Nat) ({ cls := "NextOneKnows$Trace", name := "begins", desc := "(I)V" } : Jvm.MethodName)) ∈ TG := tg_4 125 rfl rfl
set_option maxRecDepth 8000 in
theorem sX8_says_3 : Site RX8 mX8_says 3 6 mX7_begins (some 7) 2 := site_V (dk DX8_says 2 rfl) KX7 w_918 w_909 w_910 w_77 kX7_begins pmX7_begins (by decide)
set_option maxRecDepth 8000 in
theorem w_405 : (Jvm.Cond.superclass "NextOneKnows$Written" "NextOneKnows$Doing") ∈ TG := tg_2 92 rfl rfl
set_option maxRecDepth 8000 in
theorem w_919 : (Jvm.Cond.methodLink "NextOneKnows$Why" (25 : Nat) ({ cls := "NextOneKnows$Written", name := "says", desc := "(ILNextOneKnows$Trace;)I" } : Jvm.MethodName)) ∈ TG := tg_4 126 rfl rfl
set_option maxRecDepth 8000 in
theorem w_920 : (Jvm.Cond.sameMethod "NextOneKnows$Written" "NextOneKnows$Doing" "says" "(ILNextOneKnows$Trace;)I") ∈ TG := tg_4 127 rfl rfl
set_option maxRecDepth 8000 in
theorem sX8_says_9_c8 : Site RX8 mX8_says 9 12 mX1_says (some 8) 3 := site_SU (x := ⟨RX9, "says", "(ILNextOneKnows$Trace;)I"⟩) (dk DX8_says 6 rfl) KX8 ⟨rfl, rfl⟩ w_919 w_920 w_444 (Or.inr w_405) w_902 w_81 kX1_says (by decide +kernel) pmX1_says.2.2 (by decide)
set_option maxRecDepth 8000 in
theorem sX8_holds_3 : Site RX8 mX8_holds 3 6 mX7_begins (some 7) 2 := site_V (dk DX8_holds 2 rfl) KX7 w_918 w_909 w_910 w_77 kX7_begins pmX7_begins (by decide)
set_option maxRecDepth 8000 in
theorem w_941 : (Jvm.Cond.methodLink "NextOneKnows$Why" (29 : Nat) ({ cls := "NextOneKnows$Written", name := "holds", desc := "(ILNextOneKnows$Trace;)I" } : Jvm.MethodName)) ∈ TG := tg_4 148 rfl rfl
set_option maxRecDepth 8000 in
theorem w_1615 : (Jvm.Cond.sameMethod "NextOneKnows$Written" "NextOneKnows$Written" "holds" "(ILNextOneKnows$Trace;)I") ∈ TG := tg_7 102 rfl rfl
set_option maxRecDepth 8000 in
theorem sX8_holds_11_c8 : Site RX8 mX8_holds 11 14 mX9_holds (some 8) 3 := site_SU (x := ⟨RX9, "holds", "(ILNextOneKnows$Trace;)I"⟩) (dk DX8_holds 8 rfl) KX8 ⟨rfl, rfl⟩ w_941 w_1615 w_444 (Or.inl rfl) w_942 w_82 kX9_holds (by decide +kernel) pmX9_holds.2.2 (by decide)
set_option maxRecDepth 8000 in
theorem w_353 : (Jvm.Cond.methodLink "NextOneKnows$Written" (3 : Nat) ({ cls := "NextOneKnows$Doing", name := "<init>", desc := "(IIIIII)V" } : Jvm.MethodName)) ∈ TG := tg_2 40 rfl rfl
set_option maxRecDepth 8000 in
theorem sX9_init_10 {ci : Nat} : Site RX9 mX9_init 10 13 mX1_init (some ci) 7 := site_I (dk DX9_init 7 rfl) rfl rfl w_353 w_354 w_81 kX1_init pmX1_init (by decide)
set_option maxRecDepth 8000 in
theorem w_564 : (Jvm.Cond.methodLink "NextOneKnows$Written" (9 : Nat) ({ cls := "NextOneKnows$Doing", name := "saidOver", desc := "([I[I)I" } : Jvm.MethodName)) ∈ TG := tg_3 11 rfl rfl
set_option maxRecDepth 8000 in
theorem sX9_saidOver_3_c9 : Site RX9 mX9_saidOver 3 6 mX1_saidOver (some 9) 3 := site_SU (x := ⟨RX1, "saidOver", "([I[I)I"⟩) (dk DX9_saidOver 3 rfl) KX9 ⟨rfl, rfl⟩ w_564 w_546 w_405 (Or.inl rfl) w_544 w_81 kX1_saidOver (by decide +kernel) pmX1_saidOver.2.2 (by decide)
set_option maxRecDepth 8000 in
theorem sX9_saidOver_3_c8 : Site RX9 mX9_saidOver 3 6 mX1_saidOver (some 8) 3 := site_SU (x := ⟨RX1, "saidOver", "([I[I)I"⟩) (dk DX9_saidOver 3 rfl) KX8 ⟨rfl, rfl⟩ w_564 w_546 w_405 (Or.inl rfl) w_544 w_81 kX1_saidOver (by decide +kernel) pmX1_saidOver.2.2 (by decide)
set_option maxRecDepth 8000 in
theorem w_944 : (Jvm.Cond.methodLink "NextOneKnows$Written" (19 : Nat) ({ cls := "NextOneKnows$Trace", name := "begins", desc := "(I)V" } : Jvm.MethodName)) ∈ TG := tg_4 151 rfl rfl
set_option maxRecDepth 8000 in
theorem sX9_holds_3 : Site RX9 mX9_holds 3 6 mX7_begins (some 7) 2 := site_V (dk DX9_holds 2 rfl) KX7 w_944 w_909 w_910 w_77 kX7_begins pmX7_begins (by decide)
set_option maxRecDepth 8000 in
theorem w_945 : (Jvm.Cond.methodLink "NextOneKnows$Written" (25 : Nat) ({ cls := "NextOneKnows$Doing", name := "holds", desc := "(ILNextOneKnows$Trace;)I" } : Jvm.MethodName)) ∈ TG := tg_4 152 rfl rfl
set_option maxRecDepth 8000 in
theorem sX9_holds_9_c9 : Site RX9 mX9_holds 9 12 mX1_holds (some 9) 3 := site_SU (x := ⟨RX1, "holds", "(ILNextOneKnows$Trace;)I"⟩) (dk DX9_holds 6 rfl) KX9 ⟨rfl, rfl⟩ w_945 w_934 w_405 (Or.inl rfl) w_932 w_81 kX1_holds (by decide +kernel) pmX1_holds.2.2 (by decide)
set_option maxRecDepth 8000 in
theorem sX9_holds_9_c8 : Site RX9 mX9_holds 9 12 mX1_holds (some 8) 3 := site_SU (x := ⟨RX1, "holds", "(ILNextOneKnows$Trace;)I"⟩) (dk DX9_holds 6 rfl) KX8 ⟨rfl, rfl⟩ w_945 w_934 w_405 (Or.inl rfl) w_932 w_81 kX1_holds (by decide +kernel) pmX1_holds.2.2 (by decide)
set_option maxRecDepth 8000 in
theorem w_463 : (Jvm.Cond.methodLink "NextOneKnows$Wrong" (1 : Nat) ({ cls := "NextOneKnows$Rare", name := "<init>", desc := "(IIIIII)V" } : Jvm.MethodName)) ∈ TG := tg_2 150 rfl rfl
set_option maxRecDepth 8000 in
theorem w_422 : (Jvm.Cond.instanceMethod ({ cls := "NextOneKnows$Rare", name := "<init>", desc := "(IIIIII)V" } : Jvm.MethodName)) ∈ TG := tg_2 109 rfl rfl
set_option maxRecDepth 8000 in
theorem sX10_init_10 {ci : Nat} : Site RX10 mX10_init 10 13 mX4_init (some ci) 7 := site_I (dk DX10_init 7 rfl) rfl rfl w_463 w_422 w_85 kX4_init pmX4_init (by decide)
set_option maxRecDepth 8000 in
theorem w_569 : (Jvm.Cond.methodLink "NextOneKnows$Wrong" (7 : Nat) ({ cls := "NextOneKnows$Rare", name := "saidOver", desc := "([I[I)I" } : Jvm.MethodName)) ∈ TG := tg_3 16 rfl rfl
set_option maxRecDepth 8000 in
theorem w_1614 : (Jvm.Cond.sameMethod "NextOneKnows$Rare" "NextOneKnows$Rare" "saidOver" "([I[I)I") ∈ TG := tg_7 101 rfl rfl
set_option maxRecDepth 8000 in
theorem w_470 : (Jvm.Cond.superclass "NextOneKnows$Wrong" "NextOneKnows$Rare") ∈ TG := tg_2 157 rfl rfl
set_option maxRecDepth 8000 in
theorem sX10_saidOver_3_c10 : Site RX10 mX10_saidOver 3 6 mX4_saidOver (some 10) 3 := site_SU (x := ⟨RX4, "saidOver", "([I[I)I"⟩) (dk DX10_saidOver 3 rfl) KX10 ⟨rfl, rfl⟩ w_569 w_1614 w_470 (Or.inl rfl) w_551 w_85 kX4_saidOver (by decide +kernel) pmX4_saidOver.2.2 (by decide)
set_option maxRecDepth 8000 in
theorem w_926 : (Jvm.Cond.methodLink "NextOneKnows$Wrong" (17 : Nat) ({ cls := "NextOneKnows$Trace", name := "begins", desc := "(I)V" } : Jvm.MethodName)) ∈ TG := tg_4 133 rfl rfl
set_option maxRecDepth 8000 in
theorem sX10_holds_3 : Site RX10 mX10_holds 3 6 mX7_begins (some 7) 2 := site_V (dk DX10_holds 2 rfl) KX7 w_926 w_909 w_910 w_77 kX7_begins pmX7_begins (by decide)
set_option maxRecDepth 8000 in
theorem w_950 : (Jvm.Cond.methodLink "NextOneKnows$Wrong" (23 : Nat) ({ cls := "NextOneKnows$Rare", name := "holds", desc := "(ILNextOneKnows$Trace;)I" } : Jvm.MethodName)) ∈ TG := tg_4 157 rfl rfl
set_option maxRecDepth 8000 in
theorem sX10_holds_9_c10 : Site RX10 mX10_holds 9 12 mX1_holds (some 10) 3 := site_SU (x := ⟨RX4, "holds", "(ILNextOneKnows$Trace;)I"⟩) (dk DX10_holds 6 rfl) KX10 ⟨rfl, rfl⟩ w_950 w_951 w_470 (Or.inr w_431) w_932 w_81 kX1_holds (by decide +kernel) pmX1_holds.2.2 (by decide)
set_option maxRecDepth 8000 in
theorem w_927 : (Jvm.Cond.methodLink "NextOneKnows$Wrong" (27 : Nat) ({ cls := "NextOneKnows$Rare", name := "says", desc := "(ILNextOneKnows$Trace;)I" } : Jvm.MethodName)) ∈ TG := tg_4 134 rfl rfl
set_option maxRecDepth 8000 in
theorem w_928 : (Jvm.Cond.sameMethod "NextOneKnows$Rare" "NextOneKnows$Doing" "says" "(ILNextOneKnows$Trace;)I") ∈ TG := tg_4 135 rfl rfl
set_option maxRecDepth 8000 in
theorem sX10_holds_15_c10 : Site RX10 mX10_holds 15 18 mX1_says (some 10) 3 := site_SU (x := ⟨RX4, "says", "(ILNextOneKnows$Trace;)I"⟩) (dk DX10_holds 10 rfl) KX10 ⟨rfl, rfl⟩ w_927 w_928 w_470 (Or.inr w_431) w_902 w_81 kX1_says (by decide +kernel) pmX1_says.2.2 (by decide)
set_option maxRecDepth 8000 in
theorem sX10_says_3 : Site RX10 mX10_says 3 6 mX7_begins (some 7) 2 := site_V (dk DX10_says 2 rfl) KX7 w_926 w_909 w_910 w_77 kX7_begins pmX7_begins (by decide)
set_option maxRecDepth 8000 in
theorem sX10_says_9_c10 : Site RX10 mX10_says 9 12 mX1_says (some 10) 3 := site_SU (x := ⟨RX4, "says", "(ILNextOneKnows$Trace;)I"⟩) (dk DX10_says 6 rfl) KX10 ⟨rfl, rfl⟩ w_927 w_928 w_470 (Or.inr w_431) w_902 w_81 kX1_says (by decide +kernel) pmX1_says.2.2 (by decide)
set_option maxRecDepth 8000 in
theorem w_102 : (Jvm.Cond.instanceMethod ({ cls := "NextOneKnows$State", name := "<init>", desc := "()V" } : Jvm.MethodName)) ∈ TG := tg_1 29 rfl rfl
set_option maxRecDepth 8000 in
theorem sX11_init_9 {ci : Nat} : Site RX11 mX11_init 9 12 mX5_init (some ci) 1 := site_IN (host := "NextOneKnows") (dk DX11_init_0 5 rfl) rfl rfl (by decide +kernel) w_102 w_75 kX5_init pmX5_init (by decide)
set_option maxRecDepth 8000 in
theorem sX11_init_20 {ci : Nat} : Site RX11 mX11_init 20 23 mX5_init (some ci) 1 := site_IN (host := "NextOneKnows") (dk DX11_init_0 10 rfl) rfl rfl (by decide +kernel) w_102 w_75 kX5_init pmX5_init (by decide)
set_option maxRecDepth 8000 in
theorem w_172 : (Jvm.Cond.methodLink "NextOneKnows" (23 : Nat) ({ cls := "NextOneKnows$Ahead", name := "<init>", desc := "(LNextOneKnows$State;)V" } : Jvm.MethodName)) ∈ TG := tg_1 99 rfl rfl
set_option maxRecDepth 8000 in
theorem w_173 : (Jvm.Cond.instanceMethod ({ cls := "NextOneKnows$Ahead", name := "<init>", desc := "(LNextOneKnows$State;)V" } : Jvm.MethodName)) ∈ TG := tg_1 100 rfl rfl
set_option maxRecDepth 8000 in
theorem sX11_init_35 {ci : Nat} : Site RX11 mX11_init 35 38 mX0_init (some ci) 2 := site_I (dk DX11_init_0 17 rfl) rfl rfl w_172 w_173 w_76 kX0_init pmX0_init (by decide)
set_option maxRecDepth 8000 in
theorem w_238 : (Jvm.Cond.instanceMethod ({ cls := "NextOneKnows$Trace", name := "<init>", desc := "()V" } : Jvm.MethodName)) ∈ TG := tg_1 165 rfl rfl
set_option maxRecDepth 8000 in
theorem sX11_init_63 {ci : Nat} : Site RX11 mX11_init 63 66 mX7_init (some ci) 1 := site_IN (host := "NextOneKnows") (dk DX11_init_0 30 rfl) rfl rfl (by decide +kernel) w_238 w_77 kX7_init pmX7_init (by decide)
set_option maxRecDepth 8000 in
theorem w_253 : (Jvm.Cond.methodLink "NextOneKnows" (59 : Nat) ({ cls := "java/util/Arrays", name := "fill", desc := "([II)V" } : Jvm.MethodName)) ∈ TG := tg_1 180 rfl rfl
set_option maxRecDepth 8000 in
theorem sX11_init_102 : Site RX11 mX11_init 102 105 mJ7_fill_53178 none 2 := site_S (dk DX11_init_0 48 rfl) w_253 w_254 w_78 kJ7_fill_53178 pmJ7_fill_53178 (by decide)
set_option maxRecDepth 8000 in
theorem w_257 : (Jvm.Cond.methodLink "NextOneKnows" (65 : Nat) ({ cls := "NextOneKnows$Post", name := "<init>", desc := "([B)V" } : Jvm.MethodName)) ∈ TG := tg_1 184 rfl rfl
set_option maxRecDepth 8000 in
theorem w_258 : (Jvm.Cond.instanceMethod ({ cls := "NextOneKnows$Post", name := "<init>", desc := "([B)V" } : Jvm.MethodName)) ∈ TG := tg_1 185 rfl rfl
set_option maxRecDepth 8000 in
theorem sX11_init_129 {ci : Nat} : Site RX11 mX11_init 129 132 mX3_init (some ci) 2 := site_I (dk DX11_init_1 3 rfl) rfl rfl w_257 w_258 w_79 kX3_init pmX3_init (by decide)
set_option maxRecDepth 8000 in
theorem w_342 : (Jvm.Cond.methodLink "NextOneKnows" (68 : Nat) ({ cls := "NextOneKnows", name := "isNot", desc := "(III)Z" } : Jvm.MethodName)) ∈ TG := tg_2 29 rfl rfl
set_option maxRecDepth 8000 in
theorem w_343 : (Jvm.Cond.static ({ cls := "NextOneKnows", name := "isNot", desc := "(III)Z" } : Jvm.MethodName)) ∈ TG := tg_2 30 rfl rfl
set_option maxRecDepth 8000 in
theorem sX11_doing_4 : Site RX11 mX11_doing 4 7 mX11_isNot none 3 := site_S (dk DX11_doing 3 rfl) w_342 w_343 w_74 kX11_isNot pmX11_isNot (by decide)
set_option maxRecDepth 8000 in
theorem sX11_doing_16 : Site RX11 mX11_doing 16 19 mX11_isNot none 3 := site_S (dk DX11_doing 10 rfl) w_342 w_343 w_74 kX11_isNot pmX11_isNot (by decide)
set_option maxRecDepth 8000 in
theorem sX11_doing_26 : Site RX11 mX11_doing 26 29 mX11_isNot none 3 := site_S (dk DX11_doing 15 rfl) w_342 w_343 w_74 kX11_isNot pmX11_isNot (by decide)
set_option maxRecDepth 8000 in
theorem sX11_doing_38 : Site RX11 mX11_doing 38 41 mX11_isNot none 3 := site_S (dk DX11_doing 22 rfl) w_342 w_343 w_74 kX11_isNot pmX11_isNot (by decide)
set_option maxRecDepth 8000 in
theorem sX11_doing_49 : Site RX11 mX11_doing 49 52 mX11_isNot none 3 := site_S (dk DX11_doing 27 rfl) w_342 w_343 w_74 kX11_isNot pmX11_isNot (by decide)
set_option maxRecDepth 8000 in
theorem sX11_doing_60 : Site RX11 mX11_doing 60 63 mX11_isNot none 3 := site_S (dk DX11_doing 32 rfl) w_342 w_343 w_74 kX11_isNot pmX11_isNot (by decide)
set_option maxRecDepth 8000 in
theorem w_345 : (Jvm.Cond.methodLink "NextOneKnows" (76 : Nat) ({ cls := "NextOneKnows", name := "made", desc := "(IIIIIII)LNextOneKnows$Doing;" } : Jvm.MethodName)) ∈ TG := tg_2 32 rfl rfl
set_option maxRecDepth 8000 in
theorem w_346 : (Jvm.Cond.static ({ cls := "NextOneKnows", name := "made", desc := "(IIIIIII)LNextOneKnows$Doing;" } : Jvm.MethodName)) ∈ TG := tg_2 33 rfl rfl
set_option maxRecDepth 8000 in
theorem sX11_doing_104 : Site RX11 mX11_doing 104 107 mX11_made none 7 := site_S (dk DX11_doing 54 rfl) w_345 w_346 w_74 kX11_made pmX11_made (by decide)
set_option maxRecDepth 8000 in
theorem w_483 : (Jvm.Cond.selects "NextOneKnows$State" ({ cls := "NextOneKnows$State", name := "add", desc := "(LNextOneKnows$Doing;)I" } : Jvm.MethodName) ({ cls := "NextOneKnows$State", name := "add", desc := "(LNextOneKnows$Doing;)I" } : Jvm.MethodName)) ∈ TG := tg_2 170 rfl rfl
set_option maxRecDepth 8000 in
theorem w_481 : (Jvm.Cond.methodLink "NextOneKnows" (80 : Nat) ({ cls := "NextOneKnows$State", name := "add", desc := "(LNextOneKnows$Doing;)I" } : Jvm.MethodName)) ∈ TG := tg_2 168 rfl rfl
set_option maxRecDepth 8000 in
theorem w_482 : (Jvm.Cond.instanceMethod ({ cls := "NextOneKnows$State", name := "add", desc := "(LNextOneKnows$Doing;)I" } : Jvm.MethodName)) ∈ TG := tg_2 169 rfl rfl
set_option maxRecDepth 8000 in
theorem sX11_doing_107 : Site RX11 mX11_doing 107 110 mX5_add (some 5) 2 := site_V (dk DX11_doing 55 rfl) KX5 w_481 w_482 w_483 w_75 kX5_add pmX5_add (by decide)
set_option maxRecDepth 8000 in
theorem w_489 : (Jvm.Cond.methodLink "NextOneKnows" (84 : Nat) ({ cls := "NextOneKnows$State", name := "find", desc := "(I)LNextOneKnows$Doing;" } : Jvm.MethodName)) ∈ TG := tg_2 176 rfl rfl
set_option maxRecDepth 8000 in
theorem sX11_of_5 : Site RX11 mX11_of 5 8 mX5_find (some 5) 2 := site_V (dk DX11_of_0 3 rfl) KX5 w_489 w_490 w_491 w_75 kX5_find pmX5_find (by decide)
set_option maxRecDepth 8000 in
theorem w_493 : (Jvm.Cond.methodLink "NextOneKnows" (88 : Nat) ({ cls := "NextOneKnows$Doing", name := "kind", desc := "()I" } : Jvm.MethodName)) ∈ TG := tg_2 180 rfl rfl
set_option maxRecDepth 8000 in
theorem sX11_of_81_c1 : Site RX11 mX11_of 81 84 mX1_kind (some 1) 1 := site_U (owner := RX1) (x := ⟨RX1, "kind", "()I"⟩) (dk DX11_of_0 12 rfl) KX1 w_493 w_496 w_494 (kX1_kind) w_494 w_495 w_81 kX1_kind pmX1_kind (by decide)
set_option maxRecDepth 8000 in
theorem sX11_of_81_c9 : Site RX11 mX11_of 81 84 mX9_kind (some 9) 1 := site_U (owner := RX1) (x := ⟨RX1, "kind", "()I"⟩) (dk DX11_of_0 12 rfl) KX9 w_493 w_496 w_494 (kX1_kind) w_510 w_509 w_82 kX9_kind pmX1_kind (by decide)
set_option maxRecDepth 8000 in
theorem sX11_of_81_c8 : Site RX11 mX11_of 81 84 mX8_kind (some 8) 1 := site_U (owner := RX1) (x := ⟨RX1, "kind", "()I"⟩) (dk DX11_of_0 12 rfl) KX8 w_493 w_496 w_494 (kX1_kind) w_507 w_506 w_86 kX8_kind pmX1_kind (by decide)
set_option maxRecDepth 8000 in
theorem sX11_of_81_c2 : Site RX11 mX11_of 81 84 mX2_kind (some 2) 1 := site_U (owner := RX1) (x := ⟨RX1, "kind", "()I"⟩) (dk DX11_of_0 12 rfl) KX2 w_493 w_496 w_494 (kX1_kind) w_498 w_497 w_84 kX2_kind pmX1_kind (by decide)
set_option maxRecDepth 8000 in
theorem sX11_of_81_c6 : Site RX11 mX11_of 81 84 mX6_kind (some 6) 1 := site_U (owner := RX1) (x := ⟨RX1, "kind", "()I"⟩) (dk DX11_of_0 12 rfl) KX6 w_493 w_496 w_494 (kX1_kind) w_504 w_503 w_87 kX6_kind pmX1_kind (by decide)
set_option maxRecDepth 8000 in
theorem sX11_of_81_c4 : Site RX11 mX11_of 81 84 mX4_kind (some 4) 1 := site_U (owner := RX1) (x := ⟨RX1, "kind", "()I"⟩) (dk DX11_of_0 12 rfl) KX4 w_493 w_496 w_494 (kX1_kind) w_501 w_500 w_85 kX4_kind pmX1_kind (by decide)
set_option maxRecDepth 8000 in
theorem sX11_of_81_c10 : Site RX11 mX11_of 81 84 mX10_kind (some 10) 1 := site_U (owner := RX1) (x := ⟨RX1, "kind", "()I"⟩) (dk DX11_of_0 12 rfl) KX10 w_493 w_496 w_494 (kX1_kind) w_513 w_512 w_88 kX10_kind pmX1_kind (by decide)
set_option maxRecDepth 8000 in
theorem w_516 : (Jvm.Cond.methodLink "NextOneKnows" (112 : Nat) ({ cls := "NextOneKnows", name := "bit", desc := "(II)I" } : Jvm.MethodName)) ∈ TG := tg_2 203 rfl rfl
set_option maxRecDepth 8000 in
theorem sX11_of_118 : Site RX11 mX11_of 118 121 mX11_bit none 2 := site_S (dk DX11_of_0 33 rfl) w_516 w_517 w_74 kX11_bit pmX11_bit (by decide)
set_option maxRecDepth 8000 in
theorem sX11_of_130 : Site RX11 mX11_of 130 133 mX11_bit none 2 := site_S (dk DX11_of_0 39 rfl) w_516 w_517 w_74 kX11_bit pmX11_bit (by decide)
set_option maxRecDepth 8000 in
theorem w_521 : (Jvm.Cond.selects "NextOneKnows$Ahead" ({ cls := "NextOneKnows$Ahead", name := "saidOf", desc := "(LNextOneKnows$Doing;)I" } : Jvm.MethodName) ({ cls := "NextOneKnows$Ahead", name := "saidOf", desc := "(LNextOneKnows$Doing;)I" } : Jvm.MethodName)) ∈ TG := tg_2 208 rfl rfl
set_option maxRecDepth 8000 in
theorem w_519 : (Jvm.Cond.methodLink "NextOneKnows" (119 : Nat) ({ cls := "NextOneKnows$Ahead", name := "saidOf", desc := "(LNextOneKnows$Doing;)I" } : Jvm.MethodName)) ∈ TG := tg_2 206 rfl rfl
set_option maxRecDepth 8000 in
theorem w_520 : (Jvm.Cond.instanceMethod ({ cls := "NextOneKnows$Ahead", name := "saidOf", desc := "(LNextOneKnows$Doing;)I" } : Jvm.MethodName)) ∈ TG := tg_2 207 rfl rfl
set_option maxRecDepth 8000 in
theorem sX11_of_139 : Site RX11 mX11_of 139 142 mX0_saidOf (some 0) 2 := site_V (dk DX11_of_0 44 rfl) KX0 w_519 w_520 w_521 w_76 kX0_saidOf pmX0_saidOf (by decide)
set_option maxRecDepth 8000 in
theorem sX11_of_148 : Site RX11 mX11_of 148 151 mX0_saidOf (some 0) 2 := site_V (dk DX11_of_0 49 rfl) KX0 w_519 w_520 w_521 w_76 kX0_saidOf pmX0_saidOf (by decide)
set_option maxRecDepth 8000 in
theorem w_571 : (Jvm.Cond.methodLink "NextOneKnows" (125 : Nat) ({ cls := "NextOneKnows$State", name := "dearIn", desc := "(LNextOneKnows$Doing;I)I" } : Jvm.MethodName)) ∈ TG := tg_3 18 rfl rfl
set_option maxRecDepth 8000 in
theorem sX11_of_176 : Site RX11 mX11_of 176 179 mX5_dearIn (some 5) 3 := site_V (dk DX11_of_1 3 rfl) KX5 w_571 w_572 w_573 w_75 kX5_dearIn pmX5_dearIn (by decide)
set_option maxRecDepth 8000 in
theorem sX11_needless_5 : Site RX11 mX11_needless 5 8 mX5_find (some 5) 2 := site_V (dk DX11_needless 3 rfl) KX5 w_489 w_490 w_491 w_75 kX5_find pmX5_find (by decide)
set_option maxRecDepth 8000 in
theorem sX11_needless_21 : Site RX11 mX11_needless 21 24 mX11_bit none 2 := site_S (dk DX11_needless 11 rfl) w_516 w_517 w_74 kX11_bit pmX11_bit (by decide)
set_option maxRecDepth 8000 in
theorem w_579 : (Jvm.Cond.methodLink "NextOneKnows" (135 : Nat) ({ cls := "NextOneKnows", name := "withBit", desc := "(IIZ)I" } : Jvm.MethodName)) ∈ TG := tg_3 26 rfl rfl
set_option maxRecDepth 8000 in
theorem w_580 : (Jvm.Cond.static ({ cls := "NextOneKnows", name := "withBit", desc := "(IIZ)I" } : Jvm.MethodName)) ∈ TG := tg_3 27 rfl rfl
set_option maxRecDepth 8000 in
theorem sX11_needless_38 : Site RX11 mX11_needless 38 41 mX11_withBit none 3 := site_S (dk DX11_needless 20 rfl) w_579 w_580 w_74 kX11_withBit pmX11_withBit (by decide)
set_option maxRecDepth 8000 in
theorem sX11_learn_5 : Site RX11 mX11_learn 5 8 mX5_find (some 5) 2 := site_V (dk DX11_learn 3 rfl) KX5 w_489 w_490 w_491 w_75 kX5_find pmX5_find (by decide)
set_option maxRecDepth 8000 in
theorem sX11_learn_21 : Site RX11 mX11_learn 21 24 mX11_bit none 2 := site_S (dk DX11_learn 11 rfl) w_516 w_517 w_74 kX11_bit pmX11_bit (by decide)
set_option maxRecDepth 8000 in
theorem sX11_learn_38 : Site RX11 mX11_learn 38 41 mX11_withBit none 3 := site_S (dk DX11_learn 20 rfl) w_579 w_580 w_74 kX11_withBit pmX11_withBit (by decide)
set_option maxRecDepth 8000 in
theorem sX11_odds_5 : Site RX11 mX11_odds 5 8 mX5_find (some 5) 2 := site_V (dk DX11_odds 3 rfl) KX5 w_489 w_490 w_491 w_75 kX5_find pmX5_find (by decide)
set_option maxRecDepth 8000 in
theorem sX11_odds_19 : Site RX11 mX11_odds 19 22 mX11_isNot none 3 := site_S (dk DX11_odds 12 rfl) w_342 w_343 w_74 kX11_isNot pmX11_isNot (by decide)
set_option maxRecDepth 8000 in
theorem sX11_hours_3 : Site RX11 mX11_hours 3 6 mX11_isNot none 3 := site_S (dk DX11_hours 3 rfl) w_342 w_343 w_74 kX11_isNot pmX11_isNot (by decide)
set_option maxRecDepth 8000 in
theorem sX11_hours_15 : Site RX11 mX11_hours 15 18 mX11_isNot none 3 := site_S (dk DX11_hours 10 rfl) w_342 w_343 w_74 kX11_isNot pmX11_isNot (by decide)
set_option maxRecDepth 8000 in
theorem sX11_feed_4 : Site RX11 mX11_feed 4 7 mX11_isNot none 3 := site_S (dk DX11_feed 3 rfl) w_342 w_343 w_74 kX11_isNot pmX11_isNot (by decide)
set_option maxRecDepth 8000 in
theorem w_604 : (Jvm.Cond.selects "NextOneKnows$Post" ({ cls := "NextOneKnows$Post", name := "readFrom", desc := "(I)I" } : Jvm.MethodName) ({ cls := "NextOneKnows$Post", name := "readFrom", desc := "(I)I" } : Jvm.MethodName)) ∈ TG := tg_3 51 rfl rfl
set_option maxRecDepth 8000 in
theorem w_602 : (Jvm.Cond.methodLink "NextOneKnows" (148 : Nat) ({ cls := "NextOneKnows$Post", name := "readFrom", desc := "(I)I" } : Jvm.MethodName)) ∈ TG := tg_3 49 rfl rfl
set_option maxRecDepth 8000 in
theorem w_603 : (Jvm.Cond.instanceMethod ({ cls := "NextOneKnows$Post", name := "readFrom", desc := "(I)I" } : Jvm.MethodName)) ∈ TG := tg_3 50 rfl rfl
set_option maxRecDepth 8000 in
theorem sX11_post_30 : Site RX11 mX11_post 30 33 mX3_readFrom (some 3) 2 := site_V (dk DX11_post 17 rfl) KX3 w_602 w_603 w_604 w_79 kX3_readFrom pmX3_readFrom (by decide)
set_option maxRecDepth 8000 in
theorem w_657 : (Jvm.Cond.methodLink "NextOneKnows" (156 : Nat) ({ cls := "NextOneKnows$State", name := "callsAtFirst", desc := "()I" } : Jvm.MethodName)) ∈ TG := tg_3 104 rfl rfl
set_option maxRecDepth 8000 in
theorem sX11_told_44 : Site RX11 mX11_told 44 47 mX5_callsAtFirst (some 5) 1 := site_V (dk DX11_told 4 rfl) KX5 w_657 w_658 w_659 w_75 kX5_callsAtFirst pmX5_callsAtFirst (by decide)
set_option maxRecDepth 8000 in
theorem w_661 : (Jvm.Cond.methodLink "NextOneKnows" (159 : Nat) ({ cls := "NextOneKnows$State", name := "callsFading", desc := "()I" } : Jvm.MethodName)) ∈ TG := tg_3 108 rfl rfl
set_option maxRecDepth 8000 in
theorem sX11_told_52 : Site RX11 mX11_told 52 55 mX5_callsFading (some 5) 1 := site_V (dk DX11_told 8 rfl) KX5 w_661 w_662 w_663 w_75 kX5_callsFading pmX5_callsFading (by decide)
set_option maxRecDepth 8000 in
theorem sX11_told_93 : Site RX11 mX11_told 93 96 mX11_isNot none 3 := site_S (dk DX11_told 29 rfl) w_342 w_343 w_74 kX11_isNot pmX11_isNot (by decide)
set_option maxRecDepth 8000 in
theorem sX11_said_5 : Site RX11 mX11_said 5 8 mX5_find (some 5) 2 := site_V (dk DX11_said 3 rfl) KX5 w_489 w_490 w_491 w_75 kX5_find pmX5_find (by decide)
set_option maxRecDepth 8000 in
theorem sX11_said_16 : Site RX11 mX11_said 16 19 mX11_isNot none 3 := site_S (dk DX11_said 10 rfl) w_342 w_343 w_74 kX11_isNot pmX11_isNot (by decide)
set_option maxRecDepth 8000 in
theorem w_669 : (Jvm.Cond.methodLink "NextOneKnows" (171 : Nat) ({ cls := "NextOneKnows$State", name := "saidBy", desc := "(LNextOneKnows$Doing;I)I" } : Jvm.MethodName)) ∈ TG := tg_3 116 rfl rfl
set_option maxRecDepth 8000 in
theorem sX11_said_30 : Site RX11 mX11_said 30 33 mX5_saidBy (some 5) 3 := site_V (dk DX11_said 18 rfl) KX5 w_669 w_528 w_529 w_75 kX5_saidBy pmX5_saidBy (by decide)
set_option maxRecDepth 8000 in
theorem w_676 : (Jvm.Cond.selects "NextOneKnows$Ahead" ({ cls := "NextOneKnows$Ahead", name := "hear", desc := "()V" } : Jvm.MethodName) ({ cls := "NextOneKnows$Ahead", name := "hear", desc := "()V" } : Jvm.MethodName)) ∈ TG := tg_3 123 rfl rfl
set_option maxRecDepth 8000 in
theorem w_674 : (Jvm.Cond.methodLink "NextOneKnows" (174 : Nat) ({ cls := "NextOneKnows$Ahead", name := "hear", desc := "()V" } : Jvm.MethodName)) ∈ TG := tg_3 121 rfl rfl
set_option maxRecDepth 8000 in
theorem w_675 : (Jvm.Cond.instanceMethod ({ cls := "NextOneKnows$Ahead", name := "hear", desc := "()V" } : Jvm.MethodName)) ∈ TG := tg_3 122 rfl rfl
set_option maxRecDepth 8000 in
theorem sX11_hand_4 : Site RX11 mX11_hand 4 7 mX0_hear (some 0) 1 := site_V (dk DX11_hand 2 rfl) KX0 w_674 w_675 w_676 w_76 kX0_hear pmX0_hear (by decide)
set_option maxRecDepth 8000 in
theorem w_679 : (Jvm.Cond.methodLink "NextOneKnows" (177 : Nat) ({ cls := "NextOneKnows$Ahead", name := "goingOver", desc := "([I)I" } : Jvm.MethodName)) ∈ TG := tg_3 126 rfl rfl
set_option maxRecDepth 8000 in
theorem sX11_hand_18 : Site RX11 mX11_hand 18 21 mX0_goingOver (some 0) 2 := site_V (dk DX11_hand 8 rfl) KX0 w_679 w_680 w_681 w_76 kX0_goingOver pmX0_goingOver (by decide)
set_option maxRecDepth 8000 in
theorem w_683 : (Jvm.Cond.methodLink "NextOneKnows" (181 : Nat) ({ cls := "java/lang/Integer", name := "bitCount", desc := "(I)I" } : Jvm.MethodName)) ∈ TG := tg_3 130 rfl rfl
set_option maxRecDepth 8000 in
theorem sX11_hand_46 : Site RX11 mX11_hand 46 49 mJ6_bitCount_0f7a4 none 1 := site_S (dk DX11_hand 24 rfl) w_683 w_684 w_89 kJ6_bitCount_0f7a4 pmJ6_bitCount_0f7a4 (by decide)
set_option maxRecDepth 8000 in
theorem sX11_go_4 : Site RX11 mX11_go 4 7 mX11_isNot none 3 := site_S (dk DX11_go_0 3 rfl) w_342 w_343 w_74 kX11_isNot pmX11_isNot (by decide)
set_option maxRecDepth 8000 in
theorem w_695 : (Jvm.Cond.selects "NextOneKnows$Ahead" ({ cls := "NextOneKnows$Ahead", name := "look", desc := "(I)V" } : Jvm.MethodName) ({ cls := "NextOneKnows$Ahead", name := "look", desc := "(I)V" } : Jvm.MethodName)) ∈ TG := tg_3 142 rfl rfl
set_option maxRecDepth 8000 in
theorem w_693 : (Jvm.Cond.methodLink "NextOneKnows" (186 : Nat) ({ cls := "NextOneKnows$Ahead", name := "look", desc := "(I)V" } : Jvm.MethodName)) ∈ TG := tg_3 140 rfl rfl
set_option maxRecDepth 8000 in
theorem w_694 : (Jvm.Cond.instanceMethod ({ cls := "NextOneKnows$Ahead", name := "look", desc := "(I)V" } : Jvm.MethodName)) ∈ TG := tg_3 141 rfl rfl
set_option maxRecDepth 8000 in
theorem sX11_go_36 : Site RX11 mX11_go 36 39 mX0_look (some 0) 2 := site_V (dk DX11_go_0 19 rfl) KX0 w_693 w_694 w_695 w_76 kX0_look pmX0_look (by decide)
set_option maxRecDepth 8000 in
theorem w_729 : (Jvm.Cond.methodLink "NextOneKnows" (190 : Nat) ({ cls := "NextOneKnows$Ahead", name := "pass", desc := "(II)I" } : Jvm.MethodName)) ∈ TG := tg_3 176 rfl rfl
set_option maxRecDepth 8000 in
theorem sX11_go_65 : Site RX11 mX11_go 65 68 mX0_pass (some 0) 3 := site_V (dk DX11_go_0 32 rfl) KX0 w_729 w_730 w_731 w_76 kX0_pass pmX0_pass (by decide)
set_option maxRecDepth 8000 in
theorem sX11_run_3 : Site RX11 mX11_run 3 6 mX11_isNot none 3 := site_S (dk DX11_run 3 rfl) w_342 w_343 w_74 kX11_isNot pmX11_isNot (by decide)
set_option maxRecDepth 8000 in
theorem sX11_run_18 : Site RX11 mX11_run 18 21 mX11_isNot none 3 := site_S (dk DX11_run 10 rfl) w_342 w_343 w_74 kX11_isNot pmX11_isNot (by decide)
set_option maxRecDepth 8000 in
theorem sX11_run_33 : Site RX11 mX11_run 33 36 mX0_look (some 0) 2 := site_V (dk DX11_run 17 rfl) KX0 w_693 w_694 w_695 w_76 kX0_look pmX0_look (by decide)
set_option maxRecDepth 8000 in
theorem sX11_run_54 : Site RX11 mX11_run 54 57 mX0_pass (some 0) 3 := site_V (dk DX11_run 26 rfl) KX0 w_729 w_730 w_731 w_76 kX0_pass pmX0_pass (by decide)
set_option maxRecDepth 8000 in
theorem sX11_run_117 : Site RX11 mX11_run 117 120 mJ6_bitCount_0f7a4 none 1 := site_S (dk DX11_run 43 rfl) w_683 w_684 w_89 kJ6_bitCount_0f7a4 pmJ6_bitCount_0f7a4 (by decide)
set_option maxRecDepth 8000 in
theorem sX11_split_3 : Site RX11 mX11_split 3 6 mX11_isNot none 3 := site_S (dk DX11_split 3 rfl) w_342 w_343 w_74 kX11_isNot pmX11_isNot (by decide)
set_option maxRecDepth 8000 in
theorem sX11_split_17 : Site RX11 mX11_split 17 20 mX11_isNot none 3 := site_S (dk DX11_split 10 rfl) w_342 w_343 w_74 kX11_isNot pmX11_isNot (by decide)
set_option maxRecDepth 8000 in
theorem sX11_split_27 : Site RX11 mX11_split 27 30 mX11_isNot none 3 := site_S (dk DX11_split 15 rfl) w_342 w_343 w_74 kX11_isNot pmX11_isNot (by decide)
set_option maxRecDepth 8000 in
theorem sX11_split_42 : Site RX11 mX11_split 42 45 mX0_look (some 0) 2 := site_V (dk DX11_split 22 rfl) KX0 w_693 w_694 w_695 w_76 kX0_look pmX0_look (by decide)
set_option maxRecDepth 8000 in
theorem sX11_split_49 : Site RX11 mX11_split 49 52 mX0_hear (some 0) 1 := site_V (dk DX11_split 25 rfl) KX0 w_674 w_675 w_676 w_76 kX0_hear pmX0_hear (by decide)
set_option maxRecDepth 8000 in
theorem w_782 : (Jvm.Cond.selects "NextOneKnows$Ahead" ({ cls := "NextOneKnows$Ahead", name := "bestSplit", desc := "(I)I" } : Jvm.MethodName) ({ cls := "NextOneKnows$Ahead", name := "bestSplit", desc := "(I)I" } : Jvm.MethodName)) ∈ TG := tg_3 229 rfl rfl
set_option maxRecDepth 8000 in
theorem w_780 : (Jvm.Cond.methodLink "NextOneKnows" (202 : Nat) ({ cls := "NextOneKnows$Ahead", name := "bestSplit", desc := "(I)I" } : Jvm.MethodName)) ∈ TG := tg_3 227 rfl rfl
set_option maxRecDepth 8000 in
theorem w_781 : (Jvm.Cond.instanceMethod ({ cls := "NextOneKnows$Ahead", name := "bestSplit", desc := "(I)I" } : Jvm.MethodName)) ∈ TG := tg_3 228 rfl rfl
set_option maxRecDepth 8000 in
theorem sX11_split_57 : Site RX11 mX11_split 57 60 mX0_bestSplit (some 0) 2 := site_V (dk DX11_split 29 rfl) KX0 w_780 w_781 w_782 w_76 kX0_bestSplit pmX0_bestSplit (by decide)
set_option maxRecDepth 8000 in
theorem sX11_more_3 : Site RX11 mX11_more 3 6 mX11_isNot none 3 := site_S (dk DX11_more 3 rfl) w_342 w_343 w_74 kX11_isNot pmX11_isNot (by decide)
set_option maxRecDepth 8000 in
theorem sX11_more_17 : Site RX11 mX11_more 17 20 mX11_isNot none 3 := site_S (dk DX11_more 10 rfl) w_342 w_343 w_74 kX11_isNot pmX11_isNot (by decide)
set_option maxRecDepth 8000 in
theorem sX11_more_48 : Site RX11 mX11_more 48 51 mX0_look (some 0) 2 := site_V (dk DX11_more 26 rfl) KX0 w_693 w_694 w_695 w_76 kX0_look pmX0_look (by decide)
set_option maxRecDepth 8000 in
theorem sX11_more_55 : Site RX11 mX11_more 55 58 mX0_hear (some 0) 1 := site_V (dk DX11_more 29 rfl) KX0 w_674 w_675 w_676 w_76 kX0_hear pmX0_hear (by decide)
set_option maxRecDepth 8000 in
theorem w_802 : (Jvm.Cond.methodLink "NextOneKnows" (208 : Nat) ({ cls := "NextOneKnows$Ahead", name := "costHanded", desc := "([I)I" } : Jvm.MethodName)) ∈ TG := tg_4 9 rfl rfl
set_option maxRecDepth 8000 in
theorem sX11_more_69 : Site RX11 mX11_more 69 72 mX0_costHanded (some 0) 2 := site_V (dk DX11_more 35 rfl) KX0 w_802 w_790 w_791 w_76 kX0_costHanded pmX0_costHanded (by decide)
set_option maxRecDepth 8000 in
theorem w_805 : (Jvm.Cond.selects "NextOneKnows$Ahead" ({ cls := "NextOneKnows$Ahead", name := "hourMore", desc := "(I)[I" } : Jvm.MethodName) ({ cls := "NextOneKnows$Ahead", name := "hourMore", desc := "(I)[I" } : Jvm.MethodName)) ∈ TG := tg_4 12 rfl rfl
set_option maxRecDepth 8000 in
theorem w_803 : (Jvm.Cond.methodLink "NextOneKnows" (211 : Nat) ({ cls := "NextOneKnows$Ahead", name := "hourMore", desc := "(I)[I" } : Jvm.MethodName)) ∈ TG := tg_4 10 rfl rfl
set_option maxRecDepth 8000 in
theorem w_804 : (Jvm.Cond.instanceMethod ({ cls := "NextOneKnows$Ahead", name := "hourMore", desc := "(I)[I" } : Jvm.MethodName)) ∈ TG := tg_4 11 rfl rfl
set_option maxRecDepth 8000 in
theorem sX11_more_81 : Site RX11 mX11_more 81 84 mX0_hourMore (some 0) 2 := site_V (dk DX11_more 41 rfl) KX0 w_803 w_804 w_805 w_76 kX0_hourMore pmX0_hourMore (by decide)
set_option maxRecDepth 8000 in
theorem sX11_more_84 : Site RX11 mX11_more 84 87 mX0_costHanded (some 0) 2 := site_V (dk DX11_more 42 rfl) KX0 w_802 w_790 w_791 w_76 kX0_costHanded pmX0_costHanded (by decide)
set_option maxRecDepth 8000 in
theorem sX11_ask_4 : Site RX11 mX11_ask 4 7 mX11_isNot none 3 := site_S (dk DX11_ask 3 rfl) w_342 w_343 w_74 kX11_isNot pmX11_isNot (by decide)
set_option maxRecDepth 8000 in
theorem sX11_ask_18 : Site RX11 mX11_ask 18 21 mX0_look (some 0) 2 := site_V (dk DX11_ask 10 rfl) KX0 w_693 w_694 w_695 w_76 kX0_look pmX0_look (by decide)
set_option maxRecDepth 8000 in
theorem w_813 : (Jvm.Cond.selects "NextOneKnows$Ahead" ({ cls := "NextOneKnows$Ahead", name := "bestOf", desc := "(IZ)I" } : Jvm.MethodName) ({ cls := "NextOneKnows$Ahead", name := "bestOf", desc := "(IZ)I" } : Jvm.MethodName)) ∈ TG := tg_4 20 rfl rfl
set_option maxRecDepth 8000 in
theorem w_811 : (Jvm.Cond.methodLink "NextOneKnows" (215 : Nat) ({ cls := "NextOneKnows$Ahead", name := "bestOf", desc := "(IZ)I" } : Jvm.MethodName)) ∈ TG := tg_4 18 rfl rfl
set_option maxRecDepth 8000 in
theorem w_812 : (Jvm.Cond.instanceMethod ({ cls := "NextOneKnows$Ahead", name := "bestOf", desc := "(IZ)I" } : Jvm.MethodName)) ∈ TG := tg_4 19 rfl rfl
set_option maxRecDepth 8000 in
theorem sX11_ask_35 : Site RX11 mX11_ask 35 38 mX0_bestOf (some 0) 3 := site_V (dk DX11_ask 19 rfl) KX0 w_811 w_812 w_813 w_76 kX0_bestOf pmX0_bestOf (by decide)
set_option maxRecDepth 8000 in
theorem sX11_drop_4 : Site RX11 mX11_drop 4 7 mX11_isNot none 3 := site_S (dk DX11_drop 3 rfl) w_342 w_343 w_74 kX11_isNot pmX11_isNot (by decide)
set_option maxRecDepth 8000 in
theorem sX11_drop_18 : Site RX11 mX11_drop 18 21 mX0_look (some 0) 2 := site_V (dk DX11_drop 10 rfl) KX0 w_693 w_694 w_695 w_76 kX0_look pmX0_look (by decide)
set_option maxRecDepth 8000 in
theorem sX11_drop_35 : Site RX11 mX11_drop 35 38 mX0_bestOf (some 0) 3 := site_V (dk DX11_drop 19 rfl) KX0 w_811 w_812 w_813 w_76 kX0_bestOf pmX0_bestOf (by decide)
set_option maxRecDepth 8000 in
theorem sX11_when_5 : Site RX11 mX11_when 5 8 mX5_find (some 5) 2 := site_V (dk DX11_when 3 rfl) KX5 w_489 w_490 w_491 w_75 kX5_find pmX5_find (by decide)
set_option maxRecDepth 8000 in
theorem w_823 : (Jvm.Cond.methodLink "NextOneKnows" (219 : Nat) ({ cls := "NextOneKnows$Doing", name := "weeksUntil", desc := "(I)I" } : Jvm.MethodName)) ∈ TG := tg_4 30 rfl rfl
set_option maxRecDepth 8000 in
theorem sX11_when_32_c1 : Site RX11 mX11_when 32 35 mX1_weeksUntil (some 1) 2 := site_U (owner := RX1) (x := ⟨RX1, "weeksUntil", "(I)I"⟩) (dk DX11_when 16 rfl) KX1 w_823 w_708 w_706 (kX1_weeksUntil) w_706 w_707 w_81 kX1_weeksUntil pmX1_weeksUntil (by decide)
set_option maxRecDepth 8000 in
theorem sX11_when_32_c9 : Site RX11 mX11_when 32 35 mX1_weeksUntil (some 9) 2 := site_U (owner := RX1) (x := ⟨RX1, "weeksUntil", "(I)I"⟩) (dk DX11_when 16 rfl) KX9 w_823 w_708 w_706 (kX1_weeksUntil) w_706 w_713 w_81 kX1_weeksUntil pmX1_weeksUntil (by decide)
set_option maxRecDepth 8000 in
theorem sX11_when_32_c8 : Site RX11 mX11_when 32 35 mX1_weeksUntil (some 8) 2 := site_U (owner := RX1) (x := ⟨RX1, "weeksUntil", "(I)I"⟩) (dk DX11_when 16 rfl) KX8 w_823 w_708 w_706 (kX1_weeksUntil) w_706 w_712 w_81 kX1_weeksUntil pmX1_weeksUntil (by decide)
set_option maxRecDepth 8000 in
theorem sX11_when_32_c2 : Site RX11 mX11_when 32 35 mX1_weeksUntil (some 2) 2 := site_U (owner := RX1) (x := ⟨RX1, "weeksUntil", "(I)I"⟩) (dk DX11_when 16 rfl) KX2 w_823 w_708 w_706 (kX1_weeksUntil) w_706 w_709 w_81 kX1_weeksUntil pmX1_weeksUntil (by decide)
set_option maxRecDepth 8000 in
theorem sX11_when_32_c6 : Site RX11 mX11_when 32 35 mX1_weeksUntil (some 6) 2 := site_U (owner := RX1) (x := ⟨RX1, "weeksUntil", "(I)I"⟩) (dk DX11_when 16 rfl) KX6 w_823 w_708 w_706 (kX1_weeksUntil) w_706 w_711 w_81 kX1_weeksUntil pmX1_weeksUntil (by decide)
set_option maxRecDepth 8000 in
theorem sX11_when_32_c4 : Site RX11 mX11_when 32 35 mX1_weeksUntil (some 4) 2 := site_U (owner := RX1) (x := ⟨RX1, "weeksUntil", "(I)I"⟩) (dk DX11_when 16 rfl) KX4 w_823 w_708 w_706 (kX1_weeksUntil) w_706 w_710 w_81 kX1_weeksUntil pmX1_weeksUntil (by decide)
set_option maxRecDepth 8000 in
theorem sX11_when_32_c10 : Site RX11 mX11_when 32 35 mX1_weeksUntil (some 10) 2 := site_U (owner := RX1) (x := ⟨RX1, "weeksUntil", "(I)I"⟩) (dk DX11_when 16 rfl) KX10 w_823 w_708 w_706 (kX1_weeksUntil) w_706 w_714 w_81 kX1_weeksUntil pmX1_weeksUntil (by decide)
set_option maxRecDepth 8000 in
theorem sX11_busiest_3 : Site RX11 mX11_busiest 3 6 mX11_isNot none 3 := site_S (dk DX11_busiest 3 rfl) w_342 w_343 w_74 kX11_isNot pmX11_isNot (by decide)
set_option maxRecDepth 8000 in
theorem sX11_busiest_16 : Site RX11 mX11_busiest 16 19 mX11_isNot none 3 := site_S (dk DX11_busiest 10 rfl) w_342 w_343 w_74 kX11_isNot pmX11_isNot (by decide)
set_option maxRecDepth 8000 in
theorem w_828 : (Jvm.Cond.methodLink "NextOneKnows" (222 : Nat) ({ cls := "NextOneKnows$State", name := "coming", desc := "(I)I" } : Jvm.MethodName)) ∈ TG := tg_4 35 rfl rfl
set_option maxRecDepth 8000 in
theorem sX11_busiest_53 : Site RX11 mX11_busiest 53 56 mX5_coming (some 5) 2 := site_V (dk DX11_busiest 30 rfl) KX5 w_828 w_701 w_702 w_75 kX5_coming pmX5_coming (by decide)
set_option maxRecDepth 8000 in
theorem sX11_busiest_56 : Site RX11 mX11_busiest 56 59 mJ6_bitCount_0f7a4 none 1 := site_S (dk DX11_busiest 31 rfl) w_683 w_684 w_89 kJ6_bitCount_0f7a4 pmJ6_bitCount_0f7a4 (by decide)
set_option maxRecDepth 8000 in
theorem w_835 : (Jvm.Cond.selects "NextOneKnows$State" ({ cls := "NextOneKnows$State", name := "everyDoing", desc := "()I" } : Jvm.MethodName) ({ cls := "NextOneKnows$State", name := "everyDoing", desc := "()I" } : Jvm.MethodName)) ∈ TG := tg_4 42 rfl rfl
set_option maxRecDepth 8000 in
theorem w_833 : (Jvm.Cond.methodLink "NextOneKnows" (225 : Nat) ({ cls := "NextOneKnows$State", name := "everyDoing", desc := "()I" } : Jvm.MethodName)) ∈ TG := tg_4 40 rfl rfl
set_option maxRecDepth 8000 in
theorem w_834 : (Jvm.Cond.instanceMethod ({ cls := "NextOneKnows$State", name := "everyDoing", desc := "()I" } : Jvm.MethodName)) ∈ TG := tg_4 41 rfl rfl
set_option maxRecDepth 8000 in
theorem sX11_all_9 : Site RX11 mX11_all 9 12 mX5_everyDoing (some 5) 1 := site_V (dk DX11_all 5 rfl) KX5 w_833 w_834 w_835 w_75 kX5_everyDoing pmX5_everyDoing (by decide)
set_option maxRecDepth 8000 in
theorem w_839 : (Jvm.Cond.selects "NextOneKnows$State" ({ cls := "NextOneKnows$State", name := "longestWait", desc := "(II)I" } : Jvm.MethodName) ({ cls := "NextOneKnows$State", name := "longestWait", desc := "(II)I" } : Jvm.MethodName)) ∈ TG := tg_4 46 rfl rfl
set_option maxRecDepth 8000 in
theorem w_837 : (Jvm.Cond.methodLink "NextOneKnows" (228 : Nat) ({ cls := "NextOneKnows$State", name := "longestWait", desc := "(II)I" } : Jvm.MethodName)) ∈ TG := tg_4 44 rfl rfl
set_option maxRecDepth 8000 in
theorem w_838 : (Jvm.Cond.instanceMethod ({ cls := "NextOneKnows$State", name := "longestWait", desc := "(II)I" } : Jvm.MethodName)) ∈ TG := tg_4 45 rfl rfl
set_option maxRecDepth 8000 in
theorem sX11_all_44 : Site RX11 mX11_all 44 47 mX5_longestWait (some 5) 3 := site_V (dk DX11_all 25 rfl) KX5 w_837 w_838 w_839 w_75 kX5_longestWait pmX5_longestWait (by decide)
set_option maxRecDepth 8000 in
theorem sX11_list_19 : Site RX11 mX11_list 19 22 mX11_isNot none 3 := site_S (dk DX11_list 12 rfl) w_342 w_343 w_74 kX11_isNot pmX11_isNot (by decide)
set_option maxRecDepth 8000 in
theorem sX11_list_33 : Site RX11 mX11_list 33 36 mX5_find (some 5) 2 := site_V (dk DX11_list 19 rfl) KX5 w_489 w_490 w_491 w_75 kX5_find pmX5_find (by decide)
set_option maxRecDepth 8000 in
theorem w_849 : (Jvm.Cond.selects "NextOneKnows$State" ({ cls := "NextOneKnows$State", name := "addRow", desc := "(II)I" } : Jvm.MethodName) ({ cls := "NextOneKnows$State", name := "addRow", desc := "(II)I" } : Jvm.MethodName)) ∈ TG := tg_4 56 rfl rfl
set_option maxRecDepth 8000 in
theorem w_847 : (Jvm.Cond.methodLink "NextOneKnows" (234 : Nat) ({ cls := "NextOneKnows$State", name := "addRow", desc := "(II)I" } : Jvm.MethodName)) ∈ TG := tg_4 54 rfl rfl
set_option maxRecDepth 8000 in
theorem w_848 : (Jvm.Cond.instanceMethod ({ cls := "NextOneKnows$State", name := "addRow", desc := "(II)I" } : Jvm.MethodName)) ∈ TG := tg_4 55 rfl rfl
set_option maxRecDepth 8000 in
theorem sX11_list_72 : Site RX11 mX11_list 72 75 mX5_addRow (some 5) 3 := site_V (dk DX11_list 38 rfl) KX5 w_847 w_848 w_849 w_75 kX5_addRow pmX5_addRow (by decide)
set_option maxRecDepth 8000 in
theorem w_857 : (Jvm.Cond.selects "NextOneKnows$State" ({ cls := "NextOneKnows$State", name := "weeksToRows", desc := "()I" } : Jvm.MethodName) ({ cls := "NextOneKnows$State", name := "weeksToRows", desc := "()I" } : Jvm.MethodName)) ∈ TG := tg_4 64 rfl rfl
set_option maxRecDepth 8000 in
theorem w_855 : (Jvm.Cond.methodLink "NextOneKnows" (237 : Nat) ({ cls := "NextOneKnows$State", name := "weeksToRows", desc := "()I" } : Jvm.MethodName)) ∈ TG := tg_4 62 rfl rfl
set_option maxRecDepth 8000 in
theorem w_856 : (Jvm.Cond.instanceMethod ({ cls := "NextOneKnows$State", name := "weeksToRows", desc := "()I" } : Jvm.MethodName)) ∈ TG := tg_4 63 rfl rfl
set_option maxRecDepth 8000 in
theorem sX11_looked_8 : Site RX11 mX11_looked 8 11 mX5_weeksToRows (some 5) 1 := site_V (dk DX11_looked 4 rfl) KX5 w_855 w_856 w_857 w_75 kX5_weeksToRows pmX5_weeksToRows (by decide)
set_option maxRecDepth 8000 in
theorem sX11_looked_11 : Site RX11 mX11_looked 11 14 mX0_look (some 0) 2 := site_V (dk DX11_looked 5 rfl) KX0 w_693 w_694 w_695 w_76 kX0_look pmX0_look (by decide)
set_option maxRecDepth 8000 in
theorem sX11_looked_32 : Site RX11 mX11_looked 32 35 mX0_pass (some 0) 3 := site_V (dk DX11_looked 14 rfl) KX0 w_729 w_730 w_731 w_76 kX0_pass pmX0_pass (by decide)
set_option maxRecDepth 8000 in
theorem w_862 : (Jvm.Cond.selects "NextOneKnows$Ahead" ({ cls := "NextOneKnows$Ahead", name := "firstRowNotSo", desc := "()I" } : Jvm.MethodName) ({ cls := "NextOneKnows$Ahead", name := "firstRowNotSo", desc := "()I" } : Jvm.MethodName)) ∈ TG := tg_4 69 rfl rfl
set_option maxRecDepth 8000 in
theorem w_860 : (Jvm.Cond.methodLink "NextOneKnows" (240 : Nat) ({ cls := "NextOneKnows$Ahead", name := "firstRowNotSo", desc := "()I" } : Jvm.MethodName)) ∈ TG := tg_4 67 rfl rfl
set_option maxRecDepth 8000 in
theorem w_861 : (Jvm.Cond.instanceMethod ({ cls := "NextOneKnows$Ahead", name := "firstRowNotSo", desc := "()I" } : Jvm.MethodName)) ∈ TG := tg_4 68 rfl rfl
set_option maxRecDepth 8000 in
theorem sX11_looked_40 : Site RX11 mX11_looked 40 43 mX0_firstRowNotSo (some 0) 1 := site_V (dk DX11_looked 18 rfl) KX0 w_860 w_861 w_862 w_76 kX0_firstRowNotSo pmX0_firstRowNotSo (by decide)
set_option maxRecDepth 8000 in
theorem sX11_fits_23 : Site RX11 mX11_fits 23 26 mX5_weeksToRows (some 5) 1 := site_V (dk DX11_fits 11 rfl) KX5 w_855 w_856 w_857 w_75 kX5_weeksToRows pmX5_weeksToRows (by decide)
set_option maxRecDepth 8000 in
theorem sX11_fits_26 : Site RX11 mX11_fits 26 29 mX0_look (some 0) 2 := site_V (dk DX11_fits 12 rfl) KX0 w_693 w_694 w_695 w_76 kX0_look pmX0_look (by decide)
set_option maxRecDepth 8000 in
theorem sX11_fits_38 : Site RX11 mX11_fits 38 41 mX5_everyDoing (some 5) 1 := site_V (dk DX11_fits 20 rfl) KX5 w_833 w_834 w_835 w_75 kX5_everyDoing pmX5_everyDoing (by decide)
set_option maxRecDepth 8000 in
theorem sX11_fits_56 : Site RX11 mX11_fits 56 59 mX0_pass (some 0) 3 := site_V (dk DX11_fits 28 rfl) KX0 w_729 w_730 w_731 w_76 kX0_pass pmX0_pass (by decide)
set_option maxRecDepth 8000 in
theorem sX11_fits_64 : Site RX11 mX11_fits 64 67 mX0_firstRowNotSo (some 0) 1 := site_V (dk DX11_fits 32 rfl) KX0 w_860 w_861 w_862 w_76 kX0_firstRowNotSo pmX0_firstRowNotSo (by decide)
set_option maxRecDepth 8000 in
theorem sX11_chance_4 : Site RX11 mX11_chance 4 7 mX11_isNot none 3 := site_S (dk DX11_chance_0 3 rfl) w_342 w_343 w_74 kX11_isNot pmX11_isNot (by decide)
set_option maxRecDepth 8000 in
theorem sX11_chance_13 : Site RX11 mX11_chance 13 16 mX11_isNot none 3 := site_S (dk DX11_chance_0 8 rfl) w_342 w_343 w_74 kX11_isNot pmX11_isNot (by decide)
set_option maxRecDepth 8000 in
theorem sX11_chance_49 : Site RX11 mX11_chance 49 52 mX5_find (some 5) 2 := site_V (dk DX11_chance_0 26 rfl) KX5 w_489 w_490 w_491 w_75 kX5_find pmX5_find (by decide)
set_option maxRecDepth 8000 in
theorem sX11_chance_68 : Site RX11 mX11_chance 68 71 mX11_bit none 2 := site_S (dk DX11_chance_0 34 rfl) w_516 w_517 w_74 kX11_bit pmX11_bit (by decide)
set_option maxRecDepth 8000 in
theorem sX11_chance_83_c1 : Site RX11 mX11_chance 83 86 mX1_weeksUntil (some 1) 2 := site_U (owner := RX1) (x := ⟨RX1, "weeksUntil", "(I)I"⟩) (dk DX11_chance_0 40 rfl) KX1 w_823 w_708 w_706 (kX1_weeksUntil) w_706 w_707 w_81 kX1_weeksUntil pmX1_weeksUntil (by decide)
set_option maxRecDepth 8000 in
theorem sX11_chance_83_c9 : Site RX11 mX11_chance 83 86 mX1_weeksUntil (some 9) 2 := site_U (owner := RX1) (x := ⟨RX1, "weeksUntil", "(I)I"⟩) (dk DX11_chance_0 40 rfl) KX9 w_823 w_708 w_706 (kX1_weeksUntil) w_706 w_713 w_81 kX1_weeksUntil pmX1_weeksUntil (by decide)
set_option maxRecDepth 8000 in
theorem sX11_chance_83_c8 : Site RX11 mX11_chance 83 86 mX1_weeksUntil (some 8) 2 := site_U (owner := RX1) (x := ⟨RX1, "weeksUntil", "(I)I"⟩) (dk DX11_chance_0 40 rfl) KX8 w_823 w_708 w_706 (kX1_weeksUntil) w_706 w_712 w_81 kX1_weeksUntil pmX1_weeksUntil (by decide)
set_option maxRecDepth 8000 in
theorem sX11_chance_83_c2 : Site RX11 mX11_chance 83 86 mX1_weeksUntil (some 2) 2 := site_U (owner := RX1) (x := ⟨RX1, "weeksUntil", "(I)I"⟩) (dk DX11_chance_0 40 rfl) KX2 w_823 w_708 w_706 (kX1_weeksUntil) w_706 w_709 w_81 kX1_weeksUntil pmX1_weeksUntil (by decide)
set_option maxRecDepth 8000 in
theorem sX11_chance_83_c6 : Site RX11 mX11_chance 83 86 mX1_weeksUntil (some 6) 2 := site_U (owner := RX1) (x := ⟨RX1, "weeksUntil", "(I)I"⟩) (dk DX11_chance_0 40 rfl) KX6 w_823 w_708 w_706 (kX1_weeksUntil) w_706 w_711 w_81 kX1_weeksUntil pmX1_weeksUntil (by decide)
set_option maxRecDepth 8000 in
theorem sX11_chance_83_c4 : Site RX11 mX11_chance 83 86 mX1_weeksUntil (some 4) 2 := site_U (owner := RX1) (x := ⟨RX1, "weeksUntil", "(I)I"⟩) (dk DX11_chance_0 40 rfl) KX4 w_823 w_708 w_706 (kX1_weeksUntil) w_706 w_710 w_81 kX1_weeksUntil pmX1_weeksUntil (by decide)
set_option maxRecDepth 8000 in
theorem sX11_chance_83_c10 : Site RX11 mX11_chance 83 86 mX1_weeksUntil (some 10) 2 := site_U (owner := RX1) (x := ⟨RX1, "weeksUntil", "(I)I"⟩) (dk DX11_chance_0 40 rfl) KX10 w_823 w_708 w_706 (kX1_weeksUntil) w_706 w_714 w_81 kX1_weeksUntil pmX1_weeksUntil (by decide)
set_option maxRecDepth 8000 in
theorem w_874 : (Jvm.Cond.methodLink "NextOneKnows" (247 : Nat) ({ cls := "NextOneKnows", name := "commonDivisor", desc := "(JJ)J" } : Jvm.MethodName)) ∈ TG := tg_4 81 rfl rfl
set_option maxRecDepth 8000 in
theorem w_875 : (Jvm.Cond.static ({ cls := "NextOneKnows", name := "commonDivisor", desc := "(JJ)J" } : Jvm.MethodName)) ∈ TG := tg_4 82 rfl rfl
set_option maxRecDepth 8000 in
theorem sX11_chance_121 : Site RX11 mX11_chance 121 124 mX11_commonDivisor none 2 := site_S (dk DX11_chance_1 0 rfl) w_874 w_875 w_74 kX11_commonDivisor pmX11_commonDivisor (by decide)
set_option maxRecDepth 8000 in
theorem sX11_judge_3 : Site RX11 mX11_judge 3 6 mX11_isNot none 3 := site_S (dk DX11_judge_0 3 rfl) w_342 w_343 w_74 kX11_isNot pmX11_isNot (by decide)
set_option maxRecDepth 8000 in
theorem sX11_judge_86 : Site RX11 mX11_judge 86 89 mX11_bit none 2 := site_S (dk DX11_judge_0 54 rfl) w_516 w_517 w_74 kX11_bit pmX11_bit (by decide)
set_option maxRecDepth 8000 in
theorem w_890 : (Jvm.Cond.selects "NextOneKnows$State" ({ cls := "NextOneKnows$State", name := "takeFrom", desc := "(LNextOneKnows$State;)V" } : Jvm.MethodName) ({ cls := "NextOneKnows$State", name := "takeFrom", desc := "(LNextOneKnows$State;)V" } : Jvm.MethodName)) ∈ TG := tg_4 97 rfl rfl
set_option maxRecDepth 8000 in
theorem w_888 : (Jvm.Cond.methodLink "NextOneKnows" (251 : Nat) ({ cls := "NextOneKnows$State", name := "takeFrom", desc := "(LNextOneKnows$State;)V" } : Jvm.MethodName)) ∈ TG := tg_4 95 rfl rfl
set_option maxRecDepth 8000 in
theorem w_889 : (Jvm.Cond.instanceMethod ({ cls := "NextOneKnows$State", name := "takeFrom", desc := "(LNextOneKnows$State;)V" } : Jvm.MethodName)) ∈ TG := tg_4 96 rfl rfl
set_option maxRecDepth 8000 in
theorem sX11_image_8 : Site RX11 mX11_image 8 11 mX5_takeFrom (some 5) 2 := site_V (dk DX11_image 4 rfl) KX5 w_888 w_889 w_890 w_75 kX5_takeFrom pmX5_takeFrom (by decide)
set_option maxRecDepth 8000 in
theorem sX11_undo_18 : Site RX11 mX11_undo 18 21 mX5_takeFrom (some 5) 2 := site_V (dk DX11_undo 9 rfl) KX5 w_888 w_889 w_890 w_75 kX5_takeFrom pmX5_takeFrom (by decide)
set_option maxRecDepth 8000 in
theorem sX11_act_13 : Site RX11 mX11_act 13 16 mX5_find (some 5) 2 := site_V (dk DX11_act 7 rfl) KX5 w_489 w_490 w_491 w_75 kX5_find pmX5_find (by decide)
set_option maxRecDepth 8000 in
theorem w_901 : (Jvm.Cond.methodLink "NextOneKnows" (261 : Nat) ({ cls := "NextOneKnows$Doing", name := "says", desc := "(ILNextOneKnows$Trace;)I" } : Jvm.MethodName)) ∈ TG := tg_4 108 rfl rfl
set_option maxRecDepth 8000 in
theorem sX11_act_59_c1 : Site RX11 mX11_act 59 62 mX1_says (some 1) 3 := site_U (owner := RX1) (x := ⟨RX1, "says", "(ILNextOneKnows$Trace;)I"⟩) (dk DX11_act 19 rfl) KX1 w_901 w_904 w_902 (kX1_says) w_902 w_903 w_81 kX1_says pmX1_says (by decide)
set_option maxRecDepth 8000 in
theorem sX11_act_59_c9 : Site RX11 mX11_act 59 62 mX1_says (some 9) 3 := site_U (owner := RX1) (x := ⟨RX1, "says", "(ILNextOneKnows$Trace;)I"⟩) (dk DX11_act 19 rfl) KX9 w_901 w_904 w_902 (kX1_says) w_902 w_922 w_81 kX1_says pmX1_says (by decide)
set_option maxRecDepth 8000 in
theorem sX11_act_59_c8 : Site RX11 mX11_act 59 62 mX8_says (some 8) 3 := site_U (owner := RX1) (x := ⟨RX1, "says", "(ILNextOneKnows$Trace;)I"⟩) (dk DX11_act 19 rfl) KX8 w_901 w_904 w_902 (kX1_says) w_916 w_915 w_86 kX8_says pmX1_says (by decide)
set_option maxRecDepth 8000 in
theorem sX11_act_59_c2 : Site RX11 mX11_act 59 62 mX2_says (some 2) 3 := site_U (owner := RX1) (x := ⟨RX1, "says", "(ILNextOneKnows$Trace;)I"⟩) (dk DX11_act 19 rfl) KX2 w_901 w_904 w_902 (kX1_says) w_906 w_905 w_84 kX2_says pmX1_says (by decide)
set_option maxRecDepth 8000 in
theorem sX11_act_59_c6 : Site RX11 mX11_act 59 62 mX2_says (some 6) 3 := site_U (owner := RX1) (x := ⟨RX1, "says", "(ILNextOneKnows$Trace;)I"⟩) (dk DX11_act 19 rfl) KX6 w_901 w_904 w_902 (kX1_says) w_906 w_914 w_84 kX2_says pmX1_says (by decide)
set_option maxRecDepth 8000 in
theorem sX11_act_59_c4 : Site RX11 mX11_act 59 62 mX1_says (some 4) 3 := site_U (owner := RX1) (x := ⟨RX1, "says", "(ILNextOneKnows$Trace;)I"⟩) (dk DX11_act 19 rfl) KX4 w_901 w_904 w_902 (kX1_says) w_902 w_913 w_81 kX1_says pmX1_says (by decide)
set_option maxRecDepth 8000 in
theorem sX11_act_59_c10 : Site RX11 mX11_act 59 62 mX10_says (some 10) 3 := site_U (owner := RX1) (x := ⟨RX1, "says", "(ILNextOneKnows$Trace;)I"⟩) (dk DX11_act 19 rfl) KX10 w_901 w_904 w_902 (kX1_says) w_924 w_923 w_88 kX10_says pmX1_says (by decide)
set_option maxRecDepth 8000 in
theorem w_931 : (Jvm.Cond.methodLink "NextOneKnows" (265 : Nat) ({ cls := "NextOneKnows$Doing", name := "holds", desc := "(ILNextOneKnows$Trace;)I" } : Jvm.MethodName)) ∈ TG := tg_4 138 rfl rfl
set_option maxRecDepth 8000 in
theorem sX11_act_70_c1 : Site RX11 mX11_act 70 73 mX1_holds (some 1) 3 := site_U (owner := RX1) (x := ⟨RX1, "holds", "(ILNextOneKnows$Trace;)I"⟩) (dk DX11_act 25 rfl) KX1 w_931 w_934 w_932 (kX1_holds) w_932 w_933 w_81 kX1_holds pmX1_holds (by decide)
set_option maxRecDepth 8000 in
theorem sX11_act_70_c9 : Site RX11 mX11_act 70 73 mX9_holds (some 9) 3 := site_U (owner := RX1) (x := ⟨RX1, "holds", "(ILNextOneKnows$Trace;)I"⟩) (dk DX11_act 25 rfl) KX9 w_931 w_934 w_932 (kX1_holds) w_942 w_946 w_82 kX9_holds pmX1_holds (by decide)
set_option maxRecDepth 8000 in
theorem sX11_act_70_c8 : Site RX11 mX11_act 70 73 mX8_holds (some 8) 3 := site_U (owner := RX1) (x := ⟨RX1, "holds", "(ILNextOneKnows$Trace;)I"⟩) (dk DX11_act 25 rfl) KX8 w_931 w_934 w_932 (kX1_holds) w_939 w_938 w_86 kX8_holds pmX1_holds (by decide)
set_option maxRecDepth 8000 in
theorem sX11_act_70_c2 : Site RX11 mX11_act 70 73 mX1_holds (some 2) 3 := site_U (owner := RX1) (x := ⟨RX1, "holds", "(ILNextOneKnows$Trace;)I"⟩) (dk DX11_act 25 rfl) KX2 w_931 w_934 w_932 (kX1_holds) w_932 w_935 w_81 kX1_holds pmX1_holds (by decide)
set_option maxRecDepth 8000 in
theorem sX11_act_70_c6 : Site RX11 mX11_act 70 73 mX1_holds (some 6) 3 := site_U (owner := RX1) (x := ⟨RX1, "holds", "(ILNextOneKnows$Trace;)I"⟩) (dk DX11_act 25 rfl) KX6 w_931 w_934 w_932 (kX1_holds) w_932 w_937 w_81 kX1_holds pmX1_holds (by decide)
set_option maxRecDepth 8000 in
theorem sX11_act_70_c4 : Site RX11 mX11_act 70 73 mX1_holds (some 4) 3 := site_U (owner := RX1) (x := ⟨RX1, "holds", "(ILNextOneKnows$Trace;)I"⟩) (dk DX11_act 25 rfl) KX4 w_931 w_934 w_932 (kX1_holds) w_932 w_936 w_81 kX1_holds pmX1_holds (by decide)
set_option maxRecDepth 8000 in
theorem sX11_act_70_c10 : Site RX11 mX11_act 70 73 mX10_holds (some 10) 3 := site_U (owner := RX1) (x := ⟨RX1, "holds", "(ILNextOneKnows$Trace;)I"⟩) (dk DX11_act 25 rfl) KX10 w_931 w_934 w_932 (kX1_holds) w_948 w_947 w_88 kX10_holds pmX1_holds (by decide)
set_option maxRecDepth 8000 in
theorem w_955 : (Jvm.Cond.methodLink "NextOneKnows" (268 : Nat) ({ cls := "NextOneKnows$Doing", name := "tells", desc := "(ILNextOneKnows$Trace;)I" } : Jvm.MethodName)) ∈ TG := tg_4 162 rfl rfl
set_option maxRecDepth 8000 in
theorem w_957 : (Jvm.Cond.selects "NextOneKnows$Doing" ({ cls := "NextOneKnows$Doing", name := "tells", desc := "(ILNextOneKnows$Trace;)I" } : Jvm.MethodName) ({ cls := "NextOneKnows$Doing", name := "tells", desc := "(ILNextOneKnows$Trace;)I" } : Jvm.MethodName)) ∈ TG := tg_4 164 rfl rfl
set_option maxRecDepth 8000 in
theorem sX11_act_81_c1 : Site RX11 mX11_act 81 84 mX1_tells (some 1) 3 := site_U (owner := RX1) (x := ⟨RX1, "tells", "(ILNextOneKnows$Trace;)I"⟩) (dk DX11_act 31 rfl) KX1 w_955 w_958 w_956 (kX1_tells) w_956 w_957 w_81 kX1_tells pmX1_tells (by decide)
set_option maxRecDepth 8000 in
theorem w_976 : (Jvm.Cond.selects "NextOneKnows$Written" ({ cls := "NextOneKnows$Doing", name := "tells", desc := "(ILNextOneKnows$Trace;)I" } : Jvm.MethodName) ({ cls := "NextOneKnows$Doing", name := "tells", desc := "(ILNextOneKnows$Trace;)I" } : Jvm.MethodName)) ∈ TG := tg_4 183 rfl rfl
set_option maxRecDepth 8000 in
theorem sX11_act_81_c9 : Site RX11 mX11_act 81 84 mX1_tells (some 9) 3 := site_U (owner := RX1) (x := ⟨RX1, "tells", "(ILNextOneKnows$Trace;)I"⟩) (dk DX11_act 31 rfl) KX9 w_955 w_958 w_956 (kX1_tells) w_956 w_976 w_81 kX1_tells pmX1_tells (by decide)
set_option maxRecDepth 8000 in
theorem w_975 : (Jvm.Cond.selects "NextOneKnows$Why" ({ cls := "NextOneKnows$Doing", name := "tells", desc := "(ILNextOneKnows$Trace;)I" } : Jvm.MethodName) ({ cls := "NextOneKnows$Doing", name := "tells", desc := "(ILNextOneKnows$Trace;)I" } : Jvm.MethodName)) ∈ TG := tg_4 182 rfl rfl
set_option maxRecDepth 8000 in
theorem sX11_act_81_c8 : Site RX11 mX11_act 81 84 mX1_tells (some 8) 3 := site_U (owner := RX1) (x := ⟨RX1, "tells", "(ILNextOneKnows$Trace;)I"⟩) (dk DX11_act 31 rfl) KX8 w_955 w_958 w_956 (kX1_tells) w_956 w_975 w_81 kX1_tells pmX1_tells (by decide)
set_option maxRecDepth 8000 in
theorem w_959 : (Jvm.Cond.selects "NextOneKnows$Plain" ({ cls := "NextOneKnows$Doing", name := "tells", desc := "(ILNextOneKnows$Trace;)I" } : Jvm.MethodName) ({ cls := "NextOneKnows$Doing", name := "tells", desc := "(ILNextOneKnows$Trace;)I" } : Jvm.MethodName)) ∈ TG := tg_4 166 rfl rfl
set_option maxRecDepth 8000 in
theorem sX11_act_81_c2 : Site RX11 mX11_act 81 84 mX1_tells (some 2) 3 := site_U (owner := RX1) (x := ⟨RX1, "tells", "(ILNextOneKnows$Trace;)I"⟩) (dk DX11_act 31 rfl) KX2 w_955 w_958 w_956 (kX1_tells) w_956 w_959 w_81 kX1_tells pmX1_tells (by decide)
set_option maxRecDepth 8000 in
theorem w_969 : (Jvm.Cond.instanceMethod ({ cls := "NextOneKnows$Tied", name := "tells", desc := "(ILNextOneKnows$Trace;)I" } : Jvm.MethodName)) ∈ TG := tg_4 176 rfl rfl
set_option maxRecDepth 8000 in
theorem w_968 : (Jvm.Cond.selects "NextOneKnows$Tied" ({ cls := "NextOneKnows$Doing", name := "tells", desc := "(ILNextOneKnows$Trace;)I" } : Jvm.MethodName) ({ cls := "NextOneKnows$Tied", name := "tells", desc := "(ILNextOneKnows$Trace;)I" } : Jvm.MethodName)) ∈ TG := tg_4 175 rfl rfl
set_option maxRecDepth 8000 in
theorem sX11_act_81_c6 : Site RX11 mX11_act 81 84 mX6_tells (some 6) 3 := site_U (owner := RX1) (x := ⟨RX1, "tells", "(ILNextOneKnows$Trace;)I"⟩) (dk DX11_act 31 rfl) KX6 w_955 w_958 w_956 (kX1_tells) w_969 w_968 w_87 kX6_tells pmX1_tells (by decide)
set_option maxRecDepth 8000 in
theorem w_961 : (Jvm.Cond.instanceMethod ({ cls := "NextOneKnows$Rare", name := "tells", desc := "(ILNextOneKnows$Trace;)I" } : Jvm.MethodName)) ∈ TG := tg_4 168 rfl rfl
set_option maxRecDepth 8000 in
theorem w_960 : (Jvm.Cond.selects "NextOneKnows$Rare" ({ cls := "NextOneKnows$Doing", name := "tells", desc := "(ILNextOneKnows$Trace;)I" } : Jvm.MethodName) ({ cls := "NextOneKnows$Rare", name := "tells", desc := "(ILNextOneKnows$Trace;)I" } : Jvm.MethodName)) ∈ TG := tg_4 167 rfl rfl
set_option maxRecDepth 8000 in
theorem sX11_act_81_c4 : Site RX11 mX11_act 81 84 mX4_tells (some 4) 3 := site_U (owner := RX1) (x := ⟨RX1, "tells", "(ILNextOneKnows$Trace;)I"⟩) (dk DX11_act 31 rfl) KX4 w_955 w_958 w_956 (kX1_tells) w_961 w_960 w_85 kX4_tells pmX1_tells (by decide)
set_option maxRecDepth 8000 in
theorem w_977 : (Jvm.Cond.selects "NextOneKnows$Wrong" ({ cls := "NextOneKnows$Doing", name := "tells", desc := "(ILNextOneKnows$Trace;)I" } : Jvm.MethodName) ({ cls := "NextOneKnows$Rare", name := "tells", desc := "(ILNextOneKnows$Trace;)I" } : Jvm.MethodName)) ∈ TG := tg_4 184 rfl rfl
set_option maxRecDepth 8000 in
theorem sX11_act_81_c10 : Site RX11 mX11_act 81 84 mX4_tells (some 10) 3 := site_U (owner := RX1) (x := ⟨RX1, "tells", "(ILNextOneKnows$Trace;)I"⟩) (dk DX11_act 31 rfl) KX10 w_955 w_958 w_956 (kX1_tells) w_961 w_977 w_85 kX4_tells pmX1_tells (by decide)
set_option maxRecDepth 8000 in
theorem sX11_taken_4 : Site RX11 mX11_taken 4 7 mX11_isNot none 3 := site_S (dk DX11_taken 3 rfl) w_342 w_343 w_74 kX11_isNot pmX11_isNot (by decide)
set_option maxRecDepth 8000 in
theorem sX11_taken_18 : Site RX11 mX11_taken 18 21 mX5_find (some 5) 2 := site_V (dk DX11_taken 10 rfl) KX5 w_489 w_490 w_491 w_75 kX5_find pmX5_find (by decide)
set_option maxRecDepth 8000 in
theorem w_988 : (Jvm.Cond.methodLink "NextOneKnows" (274 : Nat) ({ cls := "NextOneKnows", name := "isOfKind", desc := "(LNextOneKnows$Doing;I)Z" } : Jvm.MethodName)) ∈ TG := tg_4 195 rfl rfl
set_option maxRecDepth 8000 in
theorem w_989 : (Jvm.Cond.static ({ cls := "NextOneKnows", name := "isOfKind", desc := "(LNextOneKnows$Doing;I)Z" } : Jvm.MethodName)) ∈ TG := tg_4 196 rfl rfl
set_option maxRecDepth 8000 in
theorem sX11_taken_31 : Site RX11 mX11_taken 31 34 mX11_isOfKind none 2 := site_S (dk DX11_taken 18 rfl) w_988 w_989 w_74 kX11_isOfKind pmX11_isOfKind (by decide)
set_option maxRecDepth 8000 in
theorem sX11_taken_38_c1 : Site RX11 mX11_taken 38 41 mX1_kind (some 1) 1 := site_U (owner := RX1) (x := ⟨RX1, "kind", "()I"⟩) (dk DX11_taken 21 rfl) KX1 w_493 w_496 w_494 (kX1_kind) w_494 w_495 w_81 kX1_kind pmX1_kind (by decide)
set_option maxRecDepth 8000 in
theorem sX11_taken_38_c9 : Site RX11 mX11_taken 38 41 mX9_kind (some 9) 1 := site_U (owner := RX1) (x := ⟨RX1, "kind", "()I"⟩) (dk DX11_taken 21 rfl) KX9 w_493 w_496 w_494 (kX1_kind) w_510 w_509 w_82 kX9_kind pmX1_kind (by decide)
set_option maxRecDepth 8000 in
theorem sX11_taken_38_c8 : Site RX11 mX11_taken 38 41 mX8_kind (some 8) 1 := site_U (owner := RX1) (x := ⟨RX1, "kind", "()I"⟩) (dk DX11_taken 21 rfl) KX8 w_493 w_496 w_494 (kX1_kind) w_507 w_506 w_86 kX8_kind pmX1_kind (by decide)
set_option maxRecDepth 8000 in
theorem sX11_taken_38_c2 : Site RX11 mX11_taken 38 41 mX2_kind (some 2) 1 := site_U (owner := RX1) (x := ⟨RX1, "kind", "()I"⟩) (dk DX11_taken 21 rfl) KX2 w_493 w_496 w_494 (kX1_kind) w_498 w_497 w_84 kX2_kind pmX1_kind (by decide)
set_option maxRecDepth 8000 in
theorem sX11_taken_38_c6 : Site RX11 mX11_taken 38 41 mX6_kind (some 6) 1 := site_U (owner := RX1) (x := ⟨RX1, "kind", "()I"⟩) (dk DX11_taken 21 rfl) KX6 w_493 w_496 w_494 (kX1_kind) w_504 w_503 w_87 kX6_kind pmX1_kind (by decide)
set_option maxRecDepth 8000 in
theorem sX11_taken_38_c4 : Site RX11 mX11_taken 38 41 mX4_kind (some 4) 1 := site_U (owner := RX1) (x := ⟨RX1, "kind", "()I"⟩) (dk DX11_taken 21 rfl) KX4 w_493 w_496 w_494 (kX1_kind) w_501 w_500 w_85 kX4_kind pmX1_kind (by decide)
set_option maxRecDepth 8000 in
theorem sX11_taken_38_c10 : Site RX11 mX11_taken 38 41 mX10_kind (some 10) 1 := site_U (owner := RX1) (x := ⟨RX1, "kind", "()I"⟩) (dk DX11_taken 21 rfl) KX10 w_493 w_496 w_494 (kX1_kind) w_513 w_512 w_88 kX10_kind pmX1_kind (by decide)
set_option maxRecDepth 8000 in
theorem sX11_count_81 : Site RX11 mX11_count 81 84 mJ6_bitCount_0f7a4 none 1 := site_S (dk DX11_count 23 rfl) w_683 w_684 w_89 kJ6_bitCount_0f7a4 pmJ6_bitCount_0f7a4 (by decide)
set_option maxRecDepth 8000 in
theorem sX11_tape_3 : Site RX11 mX11_tape 3 6 mX11_isNot none 3 := site_S (dk DX11_tape 3 rfl) w_342 w_343 w_74 kX11_isNot pmX11_isNot (by decide)
set_option maxRecDepth 8000 in
theorem sX11_tape_14 : Site RX11 mX11_tape 14 17 mX11_isNot none 3 := site_S (dk DX11_tape 10 rfl) w_342 w_343 w_74 kX11_isNot pmX11_isNot (by decide)
set_option maxRecDepth 8000 in
theorem w_999 : (Jvm.Cond.methodLink "NextOneKnows" (278 : Nat) ({ cls := "java/util/Arrays", name := "fill", desc := "([JJ)V" } : Jvm.MethodName)) ∈ TG := tg_4 206 rfl rfl
set_option maxRecDepth 8000 in
theorem w_1000 : (Jvm.Cond.static ({ cls := "java/util/Arrays", name := "fill", desc := "([JJ)V" } : Jvm.MethodName)) ∈ TG := tg_4 207 rfl rfl
set_option maxRecDepth 8000 in
theorem sX11_tape_76 : Site RX11 mX11_tape 76 79 mJ7_fill_d0a16 none 2 := site_S (dk DX11_tape 47 rfl) w_999 w_1000 w_78 kJ7_fill_d0a16 pmJ7_fill_d0a16 (by decide)
set_option maxRecDepth 8000 in
theorem sX11_item_3 : Site RX11 mX11_item 3 6 mX11_isNot none 3 := site_S (dk DX11_item 3 rfl) w_342 w_343 w_74 kX11_isNot pmX11_isNot (by decide)
set_option maxRecDepth 8000 in
theorem sX11_item_34 : Site RX11 mX11_item 34 37 mX11_isNot none 3 := site_S (dk DX11_item 23 rfl) w_342 w_343 w_74 kX11_isNot pmX11_isNot (by decide)
set_option maxRecDepth 8000 in
theorem w_1006 : (Jvm.Cond.methodLink "NextOneKnows" (281 : Nat) ({ cls := "NextOneKnows", name := "cut", desc := "(JI)J" } : Jvm.MethodName)) ∈ TG := tg_4 213 rfl rfl
set_option maxRecDepth 8000 in
theorem w_1007 : (Jvm.Cond.static ({ cls := "NextOneKnows", name := "cut", desc := "(JI)J" } : Jvm.MethodName)) ∈ TG := tg_4 214 rfl rfl
set_option maxRecDepth 8000 in
theorem sX11_item_57 : Site RX11 mX11_item 57 60 mX11_cut none 2 := site_S (dk DX11_item 37 rfl) w_1006 w_1007 w_74 kX11_cut pmX11_cut (by decide)
set_option maxRecDepth 8000 in
theorem sX11_read_3 : Site RX11 mX11_read 3 6 mX11_isNot none 3 := site_S (dk DX11_read 3 rfl) w_342 w_343 w_74 kX11_isNot pmX11_isNot (by decide)
set_option maxRecDepth 8000 in
theorem sX11_read_19 : Site RX11 mX11_read 19 22 mX11_isNot none 3 := site_S (dk DX11_read 13 rfl) w_342 w_343 w_74 kX11_isNot pmX11_isNot (by decide)
set_option maxRecDepth 8000 in
theorem sX11_shift_3 : Site RX11 mX11_shift 3 6 mX11_isNot none 3 := site_S (dk DX11_shift_0 3 rfl) w_342 w_343 w_74 kX11_isNot pmX11_isNot (by decide)
set_option maxRecDepth 8000 in
theorem sX11_shift_12 : Site RX11 mX11_shift 12 15 mX11_isNot none 3 := site_S (dk DX11_shift_0 8 rfl) w_342 w_343 w_74 kX11_isNot pmX11_isNot (by decide)
set_option maxRecDepth 8000 in
theorem sX11_shift_77 : Site RX11 mX11_shift 77 80 mX11_isNot none 3 := site_S (dk DX11_shift_0 47 rfl) w_342 w_343 w_74 kX11_isNot pmX11_isNot (by decide)
set_option maxRecDepth 8000 in
theorem sX11_shift_95 : Site RX11 mX11_shift 95 98 mX11_isNot none 3 := site_S (dk DX11_shift_0 57 rfl) w_342 w_343 w_74 kX11_isNot pmX11_isNot (by decide)
set_option maxRecDepth 8000 in
theorem w_877 : (Jvm.Cond.methodLink "NextOneKnows" (291 : Nat) ({ cls := "java/lang/Math", name := "max", desc := "(JJ)J" } : Jvm.MethodName)) ∈ TG := tg_4 84 rfl rfl
set_option maxRecDepth 8000 in
theorem w_878 : (Jvm.Cond.static ({ cls := "java/lang/Math", name := "max", desc := "(JJ)J" } : Jvm.MethodName)) ∈ TG := tg_4 85 rfl rfl
set_option maxRecDepth 8000 in
theorem sX11_commonDivisor_47 : Site RX11 mX11_commonDivisor 47 50 mJ9_max_f86c9 none 2 := site_S (dk DX11_commonDivisor 25 rfl) w_877 w_878 w_83 kJ9_max_f86c9 pmJ9_max_f86c9 (by decide)
set_option maxRecDepth 8000 in
theorem w_350 : (Jvm.Cond.methodLink "NextOneKnows" (298 : Nat) ({ cls := "NextOneKnows$Written", name := "<init>", desc := "(IIIIII)V" } : Jvm.MethodName)) ∈ TG := tg_2 37 rfl rfl
set_option maxRecDepth 8000 in
theorem sX11_made_53 {ci : Nat} : Site RX11 mX11_made 53 56 mX9_init (some ci) 7 := site_I (dk DX11_made_0 10 rfl) rfl rfl w_350 w_351 w_82 kX9_init pmX9_init (by decide)
set_option maxRecDepth 8000 in
theorem w_408 : (Jvm.Cond.methodLink "NextOneKnows" (303 : Nat) ({ cls := "NextOneKnows$Plain", name := "<init>", desc := "(IIIIII)V" } : Jvm.MethodName)) ∈ TG := tg_2 95 rfl rfl
set_option maxRecDepth 8000 in
theorem sX11_made_70 {ci : Nat} : Site RX11 mX11_made 70 73 mX2_init (some ci) 7 := site_I (dk DX11_made_0 20 rfl) rfl rfl w_408 w_409 w_84 kX2_init pmX2_init (by decide)
set_option maxRecDepth 8000 in
theorem w_421 : (Jvm.Cond.methodLink "NextOneKnows" (306 : Nat) ({ cls := "NextOneKnows$Rare", name := "<init>", desc := "(IIIIII)V" } : Jvm.MethodName)) ∈ TG := tg_2 108 rfl rfl
set_option maxRecDepth 8000 in
theorem sX11_made_87 {ci : Nat} : Site RX11 mX11_made 87 90 mX4_init (some ci) 7 := site_I (dk DX11_made_0 30 rfl) rfl rfl w_421 w_422 w_85 kX4_init pmX4_init (by decide)
set_option maxRecDepth 8000 in
theorem w_434 : (Jvm.Cond.methodLink "NextOneKnows" (309 : Nat) ({ cls := "NextOneKnows$Why", name := "<init>", desc := "(IIIIII)V" } : Jvm.MethodName)) ∈ TG := tg_2 121 rfl rfl
set_option maxRecDepth 8000 in
theorem w_435 : (Jvm.Cond.instanceMethod ({ cls := "NextOneKnows$Why", name := "<init>", desc := "(IIIIII)V" } : Jvm.MethodName)) ∈ TG := tg_2 122 rfl rfl
set_option maxRecDepth 8000 in
theorem sX11_made_104 {ci : Nat} : Site RX11 mX11_made 104 107 mX8_init (some ci) 7 := site_I (dk DX11_made_0 40 rfl) rfl rfl w_434 w_435 w_86 kX8_init pmX8_init (by decide)
set_option maxRecDepth 8000 in
theorem w_447 : (Jvm.Cond.methodLink "NextOneKnows" (312 : Nat) ({ cls := "NextOneKnows$Tied", name := "<init>", desc := "(IIIIII)V" } : Jvm.MethodName)) ∈ TG := tg_2 134 rfl rfl
set_option maxRecDepth 8000 in
theorem w_448 : (Jvm.Cond.instanceMethod ({ cls := "NextOneKnows$Tied", name := "<init>", desc := "(IIIIII)V" } : Jvm.MethodName)) ∈ TG := tg_2 135 rfl rfl
set_option maxRecDepth 8000 in
theorem sX11_made_121 {ci : Nat} : Site RX11 mX11_made 121 124 mX6_init (some ci) 7 := site_I (dk DX11_made_0 50 rfl) rfl rfl w_447 w_448 w_87 kX6_init pmX6_init (by decide)
set_option maxRecDepth 8000 in
theorem w_460 : (Jvm.Cond.methodLink "NextOneKnows" (315 : Nat) ({ cls := "NextOneKnows$Wrong", name := "<init>", desc := "(IIIIII)V" } : Jvm.MethodName)) ∈ TG := tg_2 147 rfl rfl
set_option maxRecDepth 8000 in
theorem w_461 : (Jvm.Cond.instanceMethod ({ cls := "NextOneKnows$Wrong", name := "<init>", desc := "(IIIIII)V" } : Jvm.MethodName)) ∈ TG := tg_2 148 rfl rfl
set_option maxRecDepth 8000 in
theorem sX11_made_138 {ci : Nat} : Site RX11 mX11_made 138 141 mX10_init (some ci) 7 := site_I (dk DX11_made_1 0 rfl) rfl rfl w_460 w_461 w_88 kX10_init pmX10_init (by decide)
set_option maxRecDepth 8000 in
theorem w_473 : (Jvm.Cond.methodLink "NextOneKnows" (316 : Nat) ({ cls := "NextOneKnows$Doing", name := "<init>", desc := "(IIIIII)V" } : Jvm.MethodName)) ∈ TG := tg_2 160 rfl rfl
set_option maxRecDepth 8000 in
theorem sX11_made_155 {ci : Nat} : Site RX11 mX11_made 155 158 mX1_init (some ci) 7 := site_I (dk DX11_made_1 10 rfl) rfl rfl w_473 w_354 w_81 kX1_init pmX1_init (by decide)
set_option maxRecDepth 8000 in
theorem w_17 : Cond.selects "NextOneKnowsModel" ({ cls := "NextOneKnowsModel", name := "in", desc := "(III)Z" } : Jvm.MethodName) ({ cls := "NextOneKnowsModel", name := "in", desc := "(III)Z" } : Jvm.MethodName) ∈ TG := tg_p 17 rfl rfl
set_option maxRecDepth 8000 in
theorem w_1249 : (Jvm.Cond.methodLink "NextOneKnowsModel" (233 : Nat) ({ cls := "NextOneKnowsModel", name := "in", desc := "(III)Z" } : Jvm.MethodName)) ∈ TG := tg_5 216 rfl rfl
set_option maxRecDepth 8000 in
theorem w_1251 : (Jvm.Cond.instanceMethod ({ cls := "NextOneKnowsModel", name := "in", desc := "(III)Z" } : Jvm.MethodName)) ∈ TG := tg_5 218 rfl rfl
set_option maxRecDepth 8000 in
theorem w_80 : (Jvm.Cond.initialized "NextOneKnowsModel") ∈ TG := tg_1 7 rfl rfl
set_option maxRecDepth 8000 in
theorem sX12_isDoing_9 : Site RX12 mX12_isDoing 9 12 mX12_in (some 12) 4 := site_V (dk DX12_isDoing 7 rfl) KX12 w_1249 w_1251 w_17 w_80 kX12_in pmX12_in (by decide)
set_option maxRecDepth 8000 in
theorem sX12_isWay_4 : Site RX12 mX12_isWay 4 7 mX12_in (some 12) 4 := site_V (dk DX12_isWay 4 rfl) KX12 w_1249 w_1251 w_17 w_80 kX12_in pmX12_in (by decide)
set_option maxRecDepth 8000 in
theorem sX12_doing_5 : Site RX12 mX12_doing 5 8 mX12_in (some 12) 4 := site_V (dk DX12_doing_0 4 rfl) KX12 w_1249 w_1251 w_17 w_80 kX12_in pmX12_in (by decide)
set_option maxRecDepth 8000 in
theorem sX12_doing_18 : Site RX12 mX12_doing 18 21 mX12_in (some 12) 4 := site_V (dk DX12_doing_0 12 rfl) KX12 w_1249 w_1251 w_17 w_80 kX12_in pmX12_in (by decide)
set_option maxRecDepth 8000 in
theorem sX12_doing_29 : Site RX12 mX12_doing 29 32 mX12_in (some 12) 4 := site_V (dk DX12_doing_0 18 rfl) KX12 w_1249 w_1251 w_17 w_80 kX12_in pmX12_in (by decide)
set_option maxRecDepth 8000 in
theorem sX12_doing_42 : Site RX12 mX12_doing 42 45 mX12_in (some 12) 4 := site_V (dk DX12_doing_0 26 rfl) KX12 w_1249 w_1251 w_17 w_80 kX12_in pmX12_in (by decide)
set_option maxRecDepth 8000 in
theorem sX12_doing_54 : Site RX12 mX12_doing 54 57 mX12_in (some 12) 4 := site_V (dk DX12_doing_0 32 rfl) KX12 w_1249 w_1251 w_17 w_80 kX12_in pmX12_in (by decide)
set_option maxRecDepth 8000 in
theorem sX12_doing_66 : Site RX12 mX12_doing 66 69 mX12_in (some 12) 4 := site_V (dk DX12_doing_0 38 rfl) KX12 w_1249 w_1251 w_17 w_80 kX12_in pmX12_in (by decide)
set_option maxRecDepth 8000 in
theorem w_18 : Cond.selects "NextOneKnowsModel" ({ cls := "NextOneKnowsModel", name := "with", desc := "(IIZ)I" } : Jvm.MethodName) ({ cls := "NextOneKnowsModel", name := "with", desc := "(IIZ)I" } : Jvm.MethodName) ∈ TG := tg_p 18 rfl rfl
set_option maxRecDepth 8000 in
theorem w_1253 : (Jvm.Cond.methodLink "NextOneKnowsModel" (237 : Nat) ({ cls := "NextOneKnowsModel", name := "with", desc := "(IIZ)I" } : Jvm.MethodName)) ∈ TG := tg_5 220 rfl rfl
set_option maxRecDepth 8000 in
theorem w_1255 : (Jvm.Cond.instanceMethod ({ cls := "NextOneKnowsModel", name := "with", desc := "(IIZ)I" } : Jvm.MethodName)) ∈ TG := tg_5 222 rfl rfl
set_option maxRecDepth 8000 in
theorem sX12_doing_161 : Site RX12 mX12_doing 161 164 mX12_with (some 12) 4 := site_V (dk DX12_doing_1 32 rfl) KX12 w_1253 w_1255 w_18 w_80 kX12_with pmX12_with (by decide)
set_option maxRecDepth 8000 in
theorem sX12_doing_176 : Site RX12 mX12_doing 176 179 mX12_with (some 12) 4 := site_V (dk DX12_doing_1 40 rfl) KX12 w_1253 w_1255 w_18 w_80 kX12_with pmX12_with (by decide)
set_option maxRecDepth 8000 in
theorem w_19 : Cond.selects "NextOneKnowsModel" ({ cls := "NextOneKnowsModel", name := "isDoing", desc := "(I)Z" } : Jvm.MethodName) ({ cls := "NextOneKnowsModel", name := "isDoing", desc := "(I)Z" } : Jvm.MethodName) ∈ TG := tg_p 19 rfl rfl
set_option maxRecDepth 8000 in
theorem w_1261 : (Jvm.Cond.methodLink "NextOneKnowsModel" (241 : Nat) ({ cls := "NextOneKnowsModel", name := "isDoing", desc := "(I)Z" } : Jvm.MethodName)) ∈ TG := tg_5 228 rfl rfl
set_option maxRecDepth 8000 in
theorem w_1263 : (Jvm.Cond.instanceMethod ({ cls := "NextOneKnowsModel", name := "isDoing", desc := "(I)Z" } : Jvm.MethodName)) ∈ TG := tg_5 230 rfl rfl
set_option maxRecDepth 8000 in
theorem sX12_needless_2 : Site RX12 mX12_needless 2 5 mX12_isDoing (some 12) 2 := site_V (dk DX12_needless 2 rfl) KX12 w_1261 w_1263 w_19 w_80 kX12_isDoing pmX12_isDoing (by decide)
set_option maxRecDepth 8000 in
theorem w_20 : Cond.selects "NextOneKnowsModel" ({ cls := "NextOneKnowsModel", name := "has", desc := "(II)Z" } : Jvm.MethodName) ({ cls := "NextOneKnowsModel", name := "has", desc := "(II)Z" } : Jvm.MethodName) ∈ TG := tg_p 20 rfl rfl
set_option maxRecDepth 8000 in
theorem w_1265 : (Jvm.Cond.methodLink "NextOneKnowsModel" (245 : Nat) ({ cls := "NextOneKnowsModel", name := "has", desc := "(II)Z" } : Jvm.MethodName)) ∈ TG := tg_5 232 rfl rfl
set_option maxRecDepth 8000 in
theorem w_1267 : (Jvm.Cond.instanceMethod ({ cls := "NextOneKnowsModel", name := "has", desc := "(II)Z" } : Jvm.MethodName)) ∈ TG := tg_5 234 rfl rfl
set_option maxRecDepth 8000 in
theorem sX12_needless_16 : Site RX12 mX12_needless 16 19 mX12_has (some 12) 3 := site_V (dk DX12_needless 10 rfl) KX12 w_1265 w_1267 w_20 w_80 kX12_has pmX12_has (by decide)
set_option maxRecDepth 8000 in
theorem sX12_needless_36 : Site RX12 mX12_needless 36 39 mX12_with (some 12) 4 := site_V (dk DX12_needless 22 rfl) KX12 w_1253 w_1255 w_18 w_80 kX12_with pmX12_with (by decide)
set_option maxRecDepth 8000 in
theorem sX12_learn_2 : Site RX12 mX12_learn 2 5 mX12_isDoing (some 12) 2 := site_V (dk DX12_learn 2 rfl) KX12 w_1261 w_1263 w_19 w_80 kX12_isDoing pmX12_isDoing (by decide)
set_option maxRecDepth 8000 in
theorem sX12_learn_16 : Site RX12 mX12_learn 16 19 mX12_has (some 12) 3 := site_V (dk DX12_learn 10 rfl) KX12 w_1265 w_1267 w_20 w_80 kX12_has pmX12_has (by decide)
set_option maxRecDepth 8000 in
theorem sX12_learn_36 : Site RX12 mX12_learn 36 39 mX12_with (some 12) 4 := site_V (dk DX12_learn 22 rfl) KX12 w_1253 w_1255 w_18 w_80 kX12_with pmX12_with (by decide)
set_option maxRecDepth 8000 in
theorem sX12_odds_2 : Site RX12 mX12_odds 2 5 mX12_isDoing (some 12) 2 := site_V (dk DX12_odds 2 rfl) KX12 w_1261 w_1263 w_19 w_80 kX12_isDoing pmX12_isDoing (by decide)
set_option maxRecDepth 8000 in
theorem sX12_odds_15 : Site RX12 mX12_odds 15 18 mX12_in (some 12) 4 := site_V (dk DX12_odds 10 rfl) KX12 w_1249 w_1251 w_17 w_80 kX12_in pmX12_in (by decide)
set_option maxRecDepth 8000 in
theorem w_21 : Cond.selects "NextOneKnowsModel" ({ cls := "NextOneKnowsModel", name := "isWay", desc := "(I)Z" } : Jvm.MethodName) ({ cls := "NextOneKnowsModel", name := "isWay", desc := "(I)Z" } : Jvm.MethodName) ∈ TG := tg_p 21 rfl rfl
set_option maxRecDepth 8000 in
theorem w_1281 : (Jvm.Cond.methodLink "NextOneKnowsModel" (249 : Nat) ({ cls := "NextOneKnowsModel", name := "isWay", desc := "(I)Z" } : Jvm.MethodName)) ∈ TG := tg_6 8 rfl rfl
set_option maxRecDepth 8000 in
theorem w_1283 : (Jvm.Cond.instanceMethod ({ cls := "NextOneKnowsModel", name := "isWay", desc := "(I)Z" } : Jvm.MethodName)) ∈ TG := tg_6 10 rfl rfl
set_option maxRecDepth 8000 in
theorem sX12_hours_2 : Site RX12 mX12_hours 2 5 mX12_isWay (some 12) 2 := site_V (dk DX12_hours 2 rfl) KX12 w_1281 w_1283 w_21 w_80 kX12_isWay pmX12_isWay (by decide)
set_option maxRecDepth 8000 in
theorem sX12_hours_15 : Site RX12 mX12_hours 15 18 mX12_in (some 12) 4 := site_V (dk DX12_hours 10 rfl) KX12 w_1249 w_1251 w_17 w_80 kX12_in pmX12_in (by decide)
set_option maxRecDepth 8000 in
theorem sX12_feed_5 : Site RX12 mX12_feed 5 8 mX12_in (some 12) 4 := site_V (dk DX12_feed 4 rfl) KX12 w_1249 w_1251 w_17 w_80 kX12_in pmX12_in (by decide)
set_option maxRecDepth 8000 in
theorem w_26 : Cond.selects "NextOneKnowsModel" ({ cls := "NextOneKnowsModel", name := "next", desc := "()I" } : Jvm.MethodName) ({ cls := "NextOneKnowsModel", name := "next", desc := "()I" } : Jvm.MethodName) ∈ TG := tg_p 26 rfl rfl
set_option maxRecDepth 8000 in
theorem w_1309 : (Jvm.Cond.methodLink "NextOneKnowsModel" (252 : Nat) ({ cls := "NextOneKnowsModel", name := "next", desc := "()I" } : Jvm.MethodName)) ∈ TG := tg_6 36 rfl rfl
set_option maxRecDepth 8000 in
theorem w_1311 : (Jvm.Cond.instanceMethod ({ cls := "NextOneKnowsModel", name := "next", desc := "()I" } : Jvm.MethodName)) ∈ TG := tg_6 38 rfl rfl
set_option maxRecDepth 8000 in
theorem sX12_takes_1 : Site RX12 mX12_takes 1 4 mX12_next (some 12) 1 := site_V (dk DX12_takes 1 rfl) KX12 w_1309 w_1311 w_26 w_80 kX12_next pmX12_next (by decide)
set_option maxRecDepth 8000 in
theorem w_28 : Cond.selects "NextOneKnowsModel" ({ cls := "NextOneKnowsModel", name := "takes", desc := "(I)Z" } : Jvm.MethodName) ({ cls := "NextOneKnowsModel", name := "takes", desc := "(I)Z" } : Jvm.MethodName) ∈ TG := tg_p 28 rfl rfl
set_option maxRecDepth 8000 in
theorem w_1317 : (Jvm.Cond.methodLink "NextOneKnowsModel" (256 : Nat) ({ cls := "NextOneKnowsModel", name := "takes", desc := "(I)Z" } : Jvm.MethodName)) ∈ TG := tg_6 44 rfl rfl
set_option maxRecDepth 8000 in
theorem w_1319 : (Jvm.Cond.instanceMethod ({ cls := "NextOneKnowsModel", name := "takes", desc := "(I)Z" } : Jvm.MethodName)) ∈ TG := tg_6 46 rfl rfl
set_option maxRecDepth 8000 in
theorem sX12_takesWord_16 : Site RX12 mX12_takesWord 16 19 mX12_takes (some 12) 2 := site_V (dk DX12_takesWord 12 rfl) KX12 w_1317 w_1319 w_28 w_80 kX12_takes pmX12_takes (by decide)
set_option maxRecDepth 8000 in
theorem sX12_takesWord_33 : Site RX12 mX12_takesWord 33 36 mX12_takes (some 12) 2 := site_V (dk DX12_takesWord 20 rfl) KX12 w_1317 w_1319 w_28 w_80 kX12_takes pmX12_takes (by decide)
set_option maxRecDepth 8000 in
theorem sX12_isDigit_2 : Site RX12 mX12_isDigit 2 5 mX12_next (some 12) 1 := site_V (dk DX12_isDigit 2 rfl) KX12 w_1309 w_1311 w_26 w_80 kX12_next pmX12_next (by decide)
set_option maxRecDepth 8000 in
theorem sX12_isDigit_9 : Site RX12 mX12_isDigit 9 12 mX12_in (some 12) 4 := site_V (dk DX12_isDigit 5 rfl) KX12 w_1249 w_1251 w_17 w_80 kX12_in pmX12_in (by decide)
set_option maxRecDepth 8000 in
theorem w_30 : Cond.selects "NextOneKnowsModel" ({ cls := "NextOneKnowsModel", name := "isDigit", desc := "()Z" } : Jvm.MethodName) ({ cls := "NextOneKnowsModel", name := "isDigit", desc := "()Z" } : Jvm.MethodName) ∈ TG := tg_p 30 rfl rfl
set_option maxRecDepth 8000 in
theorem w_1325 : (Jvm.Cond.methodLink "NextOneKnowsModel" (259 : Nat) ({ cls := "NextOneKnowsModel", name := "isDigit", desc := "()Z" } : Jvm.MethodName)) ∈ TG := tg_6 52 rfl rfl
set_option maxRecDepth 8000 in
theorem w_1327 : (Jvm.Cond.instanceMethod ({ cls := "NextOneKnowsModel", name := "isDigit", desc := "()Z" } : Jvm.MethodName)) ∈ TG := tg_6 54 rfl rfl
set_option maxRecDepth 8000 in
theorem sX12_takesNumber_1 : Site RX12 mX12_takesNumber 1 4 mX12_isDigit (some 12) 1 := site_V (dk DX12_takesNumber 1 rfl) KX12 w_1325 w_1327 w_30 w_80 kX12_isDigit pmX12_isDigit (by decide)
set_option maxRecDepth 8000 in
theorem sX12_takesNumber_22 : Site RX12 mX12_takesNumber 22 25 mX12_isDigit (some 12) 1 := site_V (dk DX12_takesNumber 14 rfl) KX12 w_1325 w_1327 w_30 w_80 kX12_isDigit pmX12_isDigit (by decide)
set_option maxRecDepth 8000 in
theorem sX12_takesNumber_37 : Site RX12 mX12_takesNumber 37 40 mX12_next (some 12) 1 := site_V (dk DX12_takesNumber 22 rfl) KX12 w_1309 w_1311 w_26 w_80 kX12_next pmX12_next (by decide)
set_option maxRecDepth 8000 in
theorem w_34 : Cond.selects "NextOneKnowsModel" ({ cls := "NextOneKnowsModel", name := "put", desc := "(I)V" } : Jvm.MethodName) ({ cls := "NextOneKnowsModel", name := "put", desc := "(I)V" } : Jvm.MethodName) ∈ TG := tg_p 34 rfl rfl
set_option maxRecDepth 8000 in
theorem w_1341 : (Jvm.Cond.methodLink "NextOneKnowsModel" (263 : Nat) ({ cls := "NextOneKnowsModel", name := "put", desc := "(I)V" } : Jvm.MethodName)) ∈ TG := tg_6 68 rfl rfl
set_option maxRecDepth 8000 in
theorem w_1343 : (Jvm.Cond.instanceMethod ({ cls := "NextOneKnowsModel", name := "put", desc := "(I)V" } : Jvm.MethodName)) ∈ TG := tg_6 70 rfl rfl
set_option maxRecDepth 8000 in
theorem sX12_whole_26 : Site RX12 mX12_whole 26 29 mX12_put (some 12) 2 := site_V (dk DX12_whole 14 rfl) KX12 w_1341 w_1343 w_34 w_80 kX12_put pmX12_put (by decide)
set_option maxRecDepth 8000 in
theorem sX12_settle_66 : Site RX12 mX12_settle 66 69 mX12_put (some 12) 2 := site_V (dk DX12_settle 37 rfl) KX12 w_1341 w_1343 w_34 w_80 kX12_put pmX12_put (by decide)
set_option maxRecDepth 8000 in
theorem sX12_takesTest_2 : Site RX12 mX12_takesTest 2 5 mX12_next (some 12) 1 := site_V (dk DX12_takesTest 2 rfl) KX12 w_1309 w_1311 w_26 w_80 kX12_next pmX12_next (by decide)
set_option maxRecDepth 8000 in
theorem w_33 : Cond.selects "NextOneKnowsModel" ({ cls := "NextOneKnowsModel", name := "place", desc := "(I)I" } : Jvm.MethodName) ({ cls := "NextOneKnowsModel", name := "place", desc := "(I)I" } : Jvm.MethodName) ∈ TG := tg_p 33 rfl rfl
set_option maxRecDepth 8000 in
theorem w_1337 : (Jvm.Cond.methodLink "NextOneKnowsModel" (267 : Nat) ({ cls := "NextOneKnowsModel", name := "place", desc := "(I)I" } : Jvm.MethodName)) ∈ TG := tg_6 64 rfl rfl
set_option maxRecDepth 8000 in
theorem w_1339 : (Jvm.Cond.instanceMethod ({ cls := "NextOneKnowsModel", name := "place", desc := "(I)I" } : Jvm.MethodName)) ∈ TG := tg_6 66 rfl rfl
set_option maxRecDepth 8000 in
theorem sX12_takesTest_5 : Site RX12 mX12_takesTest 5 8 mX12_place (some 12) 2 := site_V (dk DX12_takesTest 3 rfl) KX12 w_1337 w_1339 w_33 w_80 kX12_place pmX12_place (by decide)
set_option maxRecDepth 8000 in
theorem sX12_takesTest_26 : Site RX12 mX12_takesTest 26 29 mX12_next (some 12) 1 := site_V (dk DX12_takesTest 16 rfl) KX12 w_1309 w_1311 w_26 w_80 kX12_next pmX12_next (by decide)
set_option maxRecDepth 8000 in
theorem sX12_takesTest_36 : Site RX12 mX12_takesTest 36 39 mX12_in (some 12) 4 := site_V (dk DX12_takesTest 22 rfl) KX12 w_1249 w_1251 w_17 w_80 kX12_in pmX12_in (by decide)
set_option maxRecDepth 8000 in
theorem w_29 : Cond.selects "NextOneKnowsModel" ({ cls := "NextOneKnowsModel", name := "takesNumber", desc := "()Z" } : Jvm.MethodName) ({ cls := "NextOneKnowsModel", name := "takesNumber", desc := "()Z" } : Jvm.MethodName) ∈ TG := tg_p 29 rfl rfl
set_option maxRecDepth 8000 in
theorem w_1321 : (Jvm.Cond.methodLink "NextOneKnowsModel" (270 : Nat) ({ cls := "NextOneKnowsModel", name := "takesNumber", desc := "()Z" } : Jvm.MethodName)) ∈ TG := tg_6 48 rfl rfl
set_option maxRecDepth 8000 in
theorem w_1323 : (Jvm.Cond.instanceMethod ({ cls := "NextOneKnowsModel", name := "takesNumber", desc := "()Z" } : Jvm.MethodName)) ∈ TG := tg_6 50 rfl rfl
set_option maxRecDepth 8000 in
theorem sX12_takesTest_55 : Site RX12 mX12_takesTest 55 58 mX12_takesNumber (some 12) 1 := site_V (dk DX12_takesTest 33 rfl) KX12 w_1321 w_1323 w_29 w_80 kX12_takesNumber pmX12_takesNumber (by decide)
set_option maxRecDepth 8000 in
theorem sX12_takesTest_82 : Site RX12 mX12_takesTest 82 85 mX12_put (some 12) 2 := site_V (dk DX12_takesTest 50 rfl) KX12 w_1341 w_1343 w_34 w_80 kX12_put pmX12_put (by decide)
set_option maxRecDepth 8000 in
theorem w_35 : Cond.selects "NextOneKnowsModel" ({ cls := "NextOneKnowsModel", name := "whole", desc := "()V" } : Jvm.MethodName) ({ cls := "NextOneKnowsModel", name := "whole", desc := "()V" } : Jvm.MethodName) ∈ TG := tg_p 35 rfl rfl
set_option maxRecDepth 8000 in
theorem w_1345 : (Jvm.Cond.methodLink "NextOneKnowsModel" (273 : Nat) ({ cls := "NextOneKnowsModel", name := "whole", desc := "()V" } : Jvm.MethodName)) ∈ TG := tg_6 72 rfl rfl
set_option maxRecDepth 8000 in
theorem w_1347 : (Jvm.Cond.instanceMethod ({ cls := "NextOneKnowsModel", name := "whole", desc := "()V" } : Jvm.MethodName)) ∈ TG := tg_6 74 rfl rfl
set_option maxRecDepth 8000 in
theorem sX12_takesTest_86 : Site RX12 mX12_takesTest 86 89 mX12_whole (some 12) 1 := site_V (dk DX12_takesTest 52 rfl) KX12 w_1345 w_1347 w_35 w_80 kX12_whole pmX12_whole (by decide)
set_option maxRecDepth 8000 in
theorem sX12_takesE_23 : Site RX12 mX12_takesE 23 26 mX12_next (some 12) 1 := site_V (dk DX12_takesE_0 15 rfl) KX12 w_1309 w_1311 w_26 w_80 kX12_next pmX12_next (by decide)
set_option maxRecDepth 8000 in
theorem w_32 : Cond.selects "NextOneKnowsModel" ({ cls := "NextOneKnowsModel", name := "takesTest", desc := "()Z" } : Jvm.MethodName) ({ cls := "NextOneKnowsModel", name := "takesTest", desc := "()Z" } : Jvm.MethodName) ∈ TG := tg_p 32 rfl rfl
set_option maxRecDepth 8000 in
theorem w_1333 : (Jvm.Cond.methodLink "NextOneKnowsModel" (276 : Nat) ({ cls := "NextOneKnowsModel", name := "takesTest", desc := "()Z" } : Jvm.MethodName)) ∈ TG := tg_6 60 rfl rfl
set_option maxRecDepth 8000 in
theorem w_1335 : (Jvm.Cond.instanceMethod ({ cls := "NextOneKnowsModel", name := "takesTest", desc := "()Z" } : Jvm.MethodName)) ∈ TG := tg_6 62 rfl rfl
set_option maxRecDepth 8000 in
theorem sX12_takesE_97 : Site RX12 mX12_takesE 97 100 mX12_takesTest (some 12) 1 := site_V (dk DX12_takesE_0 57 rfl) KX12 w_1333 w_1335 w_32 w_80 kX12_takesTest pmX12_takesTest (by decide)
set_option maxRecDepth 8000 in
theorem w_36 : Cond.selects "NextOneKnowsModel" ({ cls := "NextOneKnowsModel", name := "settle", desc := "(I)V" } : Jvm.MethodName) ({ cls := "NextOneKnowsModel", name := "settle", desc := "(I)V" } : Jvm.MethodName) ∈ TG := tg_p 36 rfl rfl
set_option maxRecDepth 8000 in
theorem w_1349 : (Jvm.Cond.methodLink "NextOneKnowsModel" (279 : Nat) ({ cls := "NextOneKnowsModel", name := "settle", desc := "(I)V" } : Jvm.MethodName)) ∈ TG := tg_6 76 rfl rfl
set_option maxRecDepth 8000 in
theorem w_1351 : (Jvm.Cond.instanceMethod ({ cls := "NextOneKnowsModel", name := "settle", desc := "(I)V" } : Jvm.MethodName)) ∈ TG := tg_6 78 rfl rfl
set_option maxRecDepth 8000 in
theorem sX12_takesE_124 : Site RX12 mX12_takesE 124 127 mX12_settle (some 12) 2 := site_V (dk DX12_takesE_1 12 rfl) KX12 w_1349 w_1351 w_36 w_80 kX12_settle pmX12_settle (by decide)
set_option maxRecDepth 8000 in
theorem sX12_takesE_165 : Site RX12 mX12_takesE 165 168 mX12_settle (some 12) 2 := site_V (dk DX12_takesE_1 36 rfl) KX12 w_1349 w_1351 w_36 w_80 kX12_settle pmX12_settle (by decide)
set_option maxRecDepth 8000 in
theorem sX12_takesE_226 : Site RX12 mX12_takesE 226 229 mX12_whole (some 12) 1 := site_V (dk DX12_takesE_2 12 rfl) KX12 w_1345 w_1347 w_35 w_80 kX12_whole pmX12_whole (by decide)
set_option maxRecDepth 8000 in
theorem w_25 : Cond.selects "NextOneKnowsModel" ({ cls := "NextOneKnowsModel", name := "second", desc := "()I" } : Jvm.MethodName) ({ cls := "NextOneKnowsModel", name := "second", desc := "()I" } : Jvm.MethodName) ∈ TG := tg_p 25 rfl rfl
set_option maxRecDepth 8000 in
theorem w_1305 : (Jvm.Cond.methodLink "NextOneKnowsModel" (282 : Nat) ({ cls := "NextOneKnowsModel", name := "second", desc := "()I" } : Jvm.MethodName)) ∈ TG := tg_6 32 rfl rfl
set_option maxRecDepth 8000 in
theorem w_1307 : (Jvm.Cond.instanceMethod ({ cls := "NextOneKnowsModel", name := "second", desc := "()I" } : Jvm.MethodName)) ∈ TG := tg_6 34 rfl rfl
set_option maxRecDepth 8000 in
theorem sX12_takesHead_1 : Site RX12 mX12_takesHead 1 4 mX12_second (some 12) 1 := site_V (dk DX12_takesHead 1 rfl) KX12 w_1305 w_1307 w_25 w_80 kX12_second pmX12_second (by decide)
set_option maxRecDepth 8000 in
theorem sX12_takesHead_6 : Site RX12 mX12_takesHead 6 9 mX12_next (some 12) 1 := site_V (dk DX12_takesHead 4 rfl) KX12 w_1309 w_1311 w_26 w_80 kX12_next pmX12_next (by decide)
set_option maxRecDepth 8000 in
theorem w_27 : Cond.selects "NextOneKnowsModel" ({ cls := "NextOneKnowsModel", name := "takesWord", desc := "(II)Z" } : Jvm.MethodName) ({ cls := "NextOneKnowsModel", name := "takesWord", desc := "(II)Z" } : Jvm.MethodName) ∈ TG := tg_p 27 rfl rfl
set_option maxRecDepth 8000 in
theorem w_1313 : (Jvm.Cond.methodLink "NextOneKnowsModel" (285 : Nat) ({ cls := "NextOneKnowsModel", name := "takesWord", desc := "(II)Z" } : Jvm.MethodName)) ∈ TG := tg_6 40 rfl rfl
set_option maxRecDepth 8000 in
theorem w_1315 : (Jvm.Cond.instanceMethod ({ cls := "NextOneKnowsModel", name := "takesWord", desc := "(II)Z" } : Jvm.MethodName)) ∈ TG := tg_6 42 rfl rfl
set_option maxRecDepth 8000 in
theorem sX12_takesHead_46 : Site RX12 mX12_takesHead 46 49 mX12_takesWord (some 12) 3 := site_V (dk DX12_takesHead 14 rfl) KX12 w_1313 w_1315 w_27 w_80 kX12_takesWord pmX12_takesWord (by decide)
set_option maxRecDepth 8000 in
theorem sX12_takesHead_77 : Site RX12 mX12_takesHead 77 80 mX12_takesWord (some 12) 3 := site_V (dk DX12_takesHead 32 rfl) KX12 w_1313 w_1315 w_27 w_80 kX12_takesWord pmX12_takesWord (by decide)
set_option maxRecDepth 8000 in
theorem sX12_takesHead_86 : Site RX12 mX12_takesHead 86 89 mX12_takesWord (some 12) 3 := site_V (dk DX12_takesHead 37 rfl) KX12 w_1313 w_1315 w_27 w_80 kX12_takesWord pmX12_takesWord (by decide)
set_option maxRecDepth 8000 in
theorem sX12_takesHead_101 : Site RX12 mX12_takesHead 101 104 mX12_takesWord (some 12) 3 := site_V (dk DX12_takesHead 47 rfl) KX12 w_1313 w_1315 w_27 w_80 kX12_takesWord pmX12_takesWord (by decide)
set_option maxRecDepth 8000 in
theorem w_24 : Cond.selects "NextOneKnowsModel" ({ cls := "NextOneKnowsModel", name := "takesHead", desc := "(I)Z" } : Jvm.MethodName) ({ cls := "NextOneKnowsModel", name := "takesHead", desc := "(I)Z" } : Jvm.MethodName) ∈ TG := tg_p 24 rfl rfl
set_option maxRecDepth 8000 in
theorem w_1301 : (Jvm.Cond.methodLink "NextOneKnowsModel" (288 : Nat) ({ cls := "NextOneKnowsModel", name := "takesHead", desc := "(I)Z" } : Jvm.MethodName)) ∈ TG := tg_6 28 rfl rfl
set_option maxRecDepth 8000 in
theorem w_1303 : (Jvm.Cond.instanceMethod ({ cls := "NextOneKnowsModel", name := "takesHead", desc := "(I)Z" } : Jvm.MethodName)) ∈ TG := tg_6 30 rfl rfl
set_option maxRecDepth 8000 in
theorem sX12_takesClause_2 : Site RX12 mX12_takesClause 2 5 mX12_takesHead (some 12) 2 := site_V (dk DX12_takesClause 2 rfl) KX12 w_1301 w_1303 w_24 w_80 kX12_takesHead pmX12_takesHead (by decide)
set_option maxRecDepth 8000 in
theorem sX12_takesClause_9 : Site RX12 mX12_takesClause 9 12 mX12_takesNumber (some 12) 1 := site_V (dk DX12_takesClause 5 rfl) KX12 w_1321 w_1323 w_29 w_80 kX12_takesNumber pmX12_takesNumber (by decide)
set_option maxRecDepth 8000 in
theorem sX12_takesClause_40 : Site RX12 mX12_takesClause 40 43 mX12_takes (some 12) 2 := site_V (dk DX12_takesClause 23 rfl) KX12 w_1317 w_1319 w_28 w_80 kX12_takes pmX12_takes (by decide)
set_option maxRecDepth 8000 in
theorem w_31 : Cond.selects "NextOneKnowsModel" ({ cls := "NextOneKnowsModel", name := "takesE", desc := "(I)Z" } : Jvm.MethodName) ({ cls := "NextOneKnowsModel", name := "takesE", desc := "(I)Z" } : Jvm.MethodName) ∈ TG := tg_p 31 rfl rfl
set_option maxRecDepth 8000 in
theorem w_1329 : (Jvm.Cond.methodLink "NextOneKnowsModel" (291 : Nat) ({ cls := "NextOneKnowsModel", name := "takesE", desc := "(I)Z" } : Jvm.MethodName)) ∈ TG := tg_6 56 rfl rfl
set_option maxRecDepth 8000 in
theorem w_1331 : (Jvm.Cond.instanceMethod ({ cls := "NextOneKnowsModel", name := "takesE", desc := "(I)Z" } : Jvm.MethodName)) ∈ TG := tg_6 58 rfl rfl
set_option maxRecDepth 8000 in
theorem sX12_takesClause_48 : Site RX12 mX12_takesClause 48 51 mX12_takesE (some 12) 2 := site_V (dk DX12_takesClause 27 rfl) KX12 w_1329 w_1331 w_31 w_80 kX12_takesE pmX12_takesE (by decide)
set_option maxRecDepth 8000 in
theorem w_23 : Cond.selects "NextOneKnowsModel" ({ cls := "NextOneKnowsModel", name := "takesClause", desc := "(I)Z" } : Jvm.MethodName) ({ cls := "NextOneKnowsModel", name := "takesClause", desc := "(I)Z" } : Jvm.MethodName) ∈ TG := tg_p 23 rfl rfl
set_option maxRecDepth 8000 in
theorem w_1297 : (Jvm.Cond.methodLink "NextOneKnowsModel" (294 : Nat) ({ cls := "NextOneKnowsModel", name := "takesClause", desc := "(I)Z" } : Jvm.MethodName)) ∈ TG := tg_6 24 rfl rfl
set_option maxRecDepth 8000 in
theorem w_1299 : (Jvm.Cond.instanceMethod ({ cls := "NextOneKnowsModel", name := "takesClause", desc := "(I)Z" } : Jvm.MethodName)) ∈ TG := tg_6 26 rfl rfl
set_option maxRecDepth 8000 in
theorem sX12_goesText_22 : Site RX12 mX12_goesText 22 25 mX12_takesClause (some 12) 2 := site_V (dk DX12_goesText 16 rfl) KX12 w_1297 w_1299 w_23 w_80 kX12_takesClause pmX12_takesClause (by decide)
set_option maxRecDepth 8000 in
theorem sX12_goesText_62 : Site RX12 mX12_goesText 62 65 mX12_takes (some 12) 2 := site_V (dk DX12_goesText 38 rfl) KX12 w_1317 w_1319 w_28 w_80 kX12_takes pmX12_takes (by decide)
set_option maxRecDepth 8000 in
theorem w_22 : Cond.selects "NextOneKnowsModel" ({ cls := "NextOneKnowsModel", name := "goesText", desc := "(I)Z" } : Jvm.MethodName) ({ cls := "NextOneKnowsModel", name := "goesText", desc := "(I)Z" } : Jvm.MethodName) ∈ TG := tg_p 22 rfl rfl
set_option maxRecDepth 8000 in
theorem w_1293 : (Jvm.Cond.methodLink "NextOneKnowsModel" (297 : Nat) ({ cls := "NextOneKnowsModel", name := "goesText", desc := "(I)Z" } : Jvm.MethodName)) ∈ TG := tg_6 20 rfl rfl
set_option maxRecDepth 8000 in
theorem w_1295 : (Jvm.Cond.instanceMethod ({ cls := "NextOneKnowsModel", name := "goesText", desc := "(I)Z" } : Jvm.MethodName)) ∈ TG := tg_6 22 rfl rfl
set_option maxRecDepth 8000 in
theorem sX12_post_17 : Site RX12 mX12_post 17 20 mX12_goesText (some 12) 2 := site_V (dk DX12_post 9 rfl) KX12 w_1293 w_1295 w_22 w_80 kX12_goesText pmX12_goesText (by decide)
set_option maxRecDepth 8000 in
theorem w_39 : Cond.selects "NextOneKnowsModel" ({ cls := "NextOneKnowsModel", name := "begin", desc := "()I" } : Jvm.MethodName) ({ cls := "NextOneKnowsModel", name := "begin", desc := "()I" } : Jvm.MethodName) ∈ TG := tg_p 39 rfl rfl
set_option maxRecDepth 8000 in
theorem w_1365 : (Jvm.Cond.methodLink "NextOneKnowsModel" (300 : Nat) ({ cls := "NextOneKnowsModel", name := "begin", desc := "()I" } : Jvm.MethodName)) ∈ TG := tg_6 92 rfl rfl
set_option maxRecDepth 8000 in
theorem w_1367 : (Jvm.Cond.instanceMethod ({ cls := "NextOneKnowsModel", name := "begin", desc := "()I" } : Jvm.MethodName)) ∈ TG := tg_6 94 rfl rfl
set_option maxRecDepth 8000 in
theorem sX12_lastOf_3 : Site RX12 mX12_lastOf 3 6 mX12_begin (some 12) 1 := site_V (dk DX12_lastOf 3 rfl) KX12 w_1365 w_1367 w_39 w_80 kX12_begin pmX12_begin (by decide)
set_option maxRecDepth 8000 in
theorem w_40 : Cond.selects "NextOneKnowsModel" ({ cls := "NextOneKnowsModel", name := "behind", desc := "()I" } : Jvm.MethodName) ({ cls := "NextOneKnowsModel", name := "behind", desc := "()I" } : Jvm.MethodName) ∈ TG := tg_p 40 rfl rfl
set_option maxRecDepth 8000 in
theorem w_1369 : (Jvm.Cond.methodLink "NextOneKnowsModel" (303 : Nat) ({ cls := "NextOneKnowsModel", name := "behind", desc := "()I" } : Jvm.MethodName)) ∈ TG := tg_6 96 rfl rfl
set_option maxRecDepth 8000 in
theorem w_1371 : (Jvm.Cond.instanceMethod ({ cls := "NextOneKnowsModel", name := "behind", desc := "()I" } : Jvm.MethodName)) ∈ TG := tg_6 98 rfl rfl
set_option maxRecDepth 8000 in
theorem sX12_lastOf_11 : Site RX12 mX12_lastOf 11 14 mX12_behind (some 12) 1 := site_V (dk DX12_lastOf 7 rfl) KX12 w_1369 w_1371 w_40 w_80 kX12_behind pmX12_behind (by decide)
set_option maxRecDepth 8000 in
theorem w_42 : Cond.selects "NextOneKnowsModel" ({ cls := "NextOneKnowsModel", name := "factOf", desc := "(IIII)I" } : Jvm.MethodName) ({ cls := "NextOneKnowsModel", name := "factOf", desc := "(IIII)I" } : Jvm.MethodName) ∈ TG := tg_p 42 rfl rfl
set_option maxRecDepth 8000 in
theorem w_1377 : (Jvm.Cond.methodLink "NextOneKnowsModel" (306 : Nat) ({ cls := "NextOneKnowsModel", name := "factOf", desc := "(IIII)I" } : Jvm.MethodName)) ∈ TG := tg_6 104 rfl rfl
set_option maxRecDepth 8000 in
theorem w_1379 : (Jvm.Cond.instanceMethod ({ cls := "NextOneKnowsModel", name := "factOf", desc := "(IIII)I" } : Jvm.MethodName)) ∈ TG := tg_6 106 rfl rfl
set_option maxRecDepth 8000 in
theorem sX12_holds_162 : Site RX12 mX12_holds 162 165 mX12_factOf (some 12) 5 := site_V (dk DX12_holds_1 29 rfl) KX12 w_1377 w_1379 w_42 w_80 kX12_factOf pmX12_factOf (by decide)
set_option maxRecDepth 8000 in
theorem sX12_sumOf_4 : Site RX12 mX12_sumOf 4 7 mX12_begin (some 12) 1 := site_V (dk DX12_sumOf 3 rfl) KX12 w_1365 w_1367 w_39 w_80 kX12_begin pmX12_begin (by decide)
set_option maxRecDepth 8000 in
theorem sX12_sumOf_12 : Site RX12 mX12_sumOf 12 15 mX12_behind (some 12) 1 := site_V (dk DX12_sumOf 7 rfl) KX12 w_1369 w_1371 w_40 w_80 kX12_behind pmX12_behind (by decide)
set_option maxRecDepth 8000 in
theorem w_41 : Cond.selects "NextOneKnowsModel" ({ cls := "NextOneKnowsModel", name := "holds", desc := "(IIII)Z" } : Jvm.MethodName) ({ cls := "NextOneKnowsModel", name := "holds", desc := "(IIII)Z" } : Jvm.MethodName) ∈ TG := tg_p 41 rfl rfl
set_option maxRecDepth 8000 in
theorem w_1373 : (Jvm.Cond.methodLink "NextOneKnowsModel" (310 : Nat) ({ cls := "NextOneKnowsModel", name := "holds", desc := "(IIII)Z" } : Jvm.MethodName)) ∈ TG := tg_6 100 rfl rfl
set_option maxRecDepth 8000 in
theorem w_1375 : (Jvm.Cond.instanceMethod ({ cls := "NextOneKnowsModel", name := "holds", desc := "(IIII)Z" } : Jvm.MethodName)) ∈ TG := tg_6 102 rfl rfl
set_option maxRecDepth 8000 in
theorem sX12_sumOf_38 : Site RX12 mX12_sumOf 38 41 mX12_holds (some 12) 5 := site_V (dk DX12_sumOf 21 rfl) KX12 w_1373 w_1375 w_41 w_80 kX12_holds pmX12_holds (by decide)
set_option maxRecDepth 8000 in
theorem w_38 : Cond.selects "NextOneKnowsModel" ({ cls := "NextOneKnowsModel", name := "sumOf", desc := "(IIII)I" } : Jvm.MethodName) ({ cls := "NextOneKnowsModel", name := "sumOf", desc := "(IIII)I" } : Jvm.MethodName) ∈ TG := tg_p 38 rfl rfl
set_option maxRecDepth 8000 in
theorem w_1361 : (Jvm.Cond.methodLink "NextOneKnowsModel" (314 : Nat) ({ cls := "NextOneKnowsModel", name := "sumOf", desc := "(IIII)I" } : Jvm.MethodName)) ∈ TG := tg_6 88 rfl rfl
set_option maxRecDepth 8000 in
theorem w_1363 : (Jvm.Cond.instanceMethod ({ cls := "NextOneKnowsModel", name := "sumOf", desc := "(IIII)I" } : Jvm.MethodName)) ∈ TG := tg_6 90 rfl rfl
set_option maxRecDepth 8000 in
theorem sX12_dear_15 : Site RX12 mX12_dear 15 18 mX12_sumOf (some 12) 5 := site_V (dk DX12_dear 11 rfl) KX12 w_1361 w_1363 w_38 w_80 kX12_sumOf pmX12_sumOf (by decide)
set_option maxRecDepth 8000 in
theorem sX12_laySaid_31 : Site RX12 mX12_laySaid 31 34 mX12_sumOf (some 12) 5 := site_V (dk DX12_laySaid 23 rfl) KX12 w_1361 w_1363 w_38 w_80 kX12_sumOf pmX12_sumOf (by decide)
set_option maxRecDepth 8000 in
theorem w_44 : Cond.selects "NextOneKnowsModel" ({ cls := "NextOneKnowsModel", name := "saidAll", desc := "(II)I" } : Jvm.MethodName) ({ cls := "NextOneKnowsModel", name := "saidAll", desc := "(II)I" } : Jvm.MethodName) ∈ TG := tg_p 44 rfl rfl
set_option maxRecDepth 8000 in
theorem w_1385 : (Jvm.Cond.methodLink "NextOneKnowsModel" (317 : Nat) ({ cls := "NextOneKnowsModel", name := "saidAll", desc := "(II)I" } : Jvm.MethodName)) ∈ TG := tg_6 112 rfl rfl
set_option maxRecDepth 8000 in
theorem w_1387 : (Jvm.Cond.instanceMethod ({ cls := "NextOneKnowsModel", name := "saidAll", desc := "(II)I" } : Jvm.MethodName)) ∈ TG := tg_6 114 rfl rfl
set_option maxRecDepth 8000 in
theorem sX12_saidOf_55 : Site RX12 mX12_saidOf 55 58 mX12_saidAll (some 12) 3 := site_V (dk DX12_saidOf_0 13 rfl) KX12 w_1385 w_1387 w_44 w_80 kX12_saidAll pmX12_saidAll (by decide)
set_option maxRecDepth 8000 in
theorem sX12_saidOf_71 : Site RX12 mX12_saidOf 71 74 mX12_saidAll (some 12) 3 := site_V (dk DX12_saidOf_0 25 rfl) KX12 w_1385 w_1387 w_44 w_80 kX12_saidAll pmX12_saidAll (by decide)
set_option maxRecDepth 8000 in
theorem sX12_saidOf_102 : Site RX12 mX12_saidOf 102 105 mX12_saidAll (some 12) 3 := site_V (dk DX12_saidOf_0 46 rfl) KX12 w_1385 w_1387 w_44 w_80 kX12_saidAll pmX12_saidAll (by decide)
set_option maxRecDepth 8000 in
theorem sX12_saidOf_109 : Site RX12 mX12_saidOf 109 112 mX12_saidAll (some 12) 3 := site_V (dk DX12_saidOf_0 51 rfl) KX12 w_1385 w_1387 w_44 w_80 kX12_saidAll pmX12_saidAll (by decide)
set_option maxRecDepth 8000 in
theorem sX12_saidOf_140 : Site RX12 mX12_saidOf 140 143 mX12_saidAll (some 12) 3 := site_V (dk DX12_saidOf_1 12 rfl) KX12 w_1385 w_1387 w_44 w_80 kX12_saidAll pmX12_saidAll (by decide)
set_option maxRecDepth 8000 in
theorem sX12_saidOf_160 : Site RX12 mX12_saidOf 160 163 mX12_saidAll (some 12) 3 := site_V (dk DX12_saidOf_1 24 rfl) KX12 w_1385 w_1387 w_44 w_80 kX12_saidAll pmX12_saidAll (by decide)
set_option maxRecDepth 8000 in
theorem sX12_saidOf_169 : Site RX12 mX12_saidOf 169 172 mX12_saidAll (some 12) 3 := site_V (dk DX12_saidOf_1 31 rfl) KX12 w_1385 w_1387 w_44 w_80 kX12_saidAll pmX12_saidAll (by decide)
set_option maxRecDepth 8000 in
theorem w_43 : Cond.selects "NextOneKnowsModel" ({ cls := "NextOneKnowsModel", name := "saidOf", desc := "(I)I" } : Jvm.MethodName) ({ cls := "NextOneKnowsModel", name := "saidOf", desc := "(I)I" } : Jvm.MethodName) ∈ TG := tg_p 43 rfl rfl
set_option maxRecDepth 8000 in
theorem w_1381 : (Jvm.Cond.methodLink "NextOneKnowsModel" (321 : Nat) ({ cls := "NextOneKnowsModel", name := "saidOf", desc := "(I)I" } : Jvm.MethodName)) ∈ TG := tg_6 108 rfl rfl
set_option maxRecDepth 8000 in
theorem w_1383 : (Jvm.Cond.instanceMethod ({ cls := "NextOneKnowsModel", name := "saidOf", desc := "(I)I" } : Jvm.MethodName)) ∈ TG := tg_6 110 rfl rfl
set_option maxRecDepth 8000 in
theorem sX12_over_15 : Site RX12 mX12_over 15 18 mX12_saidOf (some 12) 2 := site_V (dk DX12_over 11 rfl) KX12 w_1381 w_1383 w_43 w_80 kX12_saidOf pmX12_saidOf (by decide)
set_option maxRecDepth 8000 in
theorem sX12_of_2 : Site RX12 mX12_of 2 5 mX12_isDoing (some 12) 2 := site_V (dk DX12_of_0 2 rfl) KX12 w_1261 w_1263 w_19 w_80 kX12_isDoing pmX12_isDoing (by decide)
set_option maxRecDepth 8000 in
theorem w_37 : Cond.selects "NextOneKnowsModel" ({ cls := "NextOneKnowsModel", name := "laySaid", desc := "()V" } : Jvm.MethodName) ({ cls := "NextOneKnowsModel", name := "laySaid", desc := "()V" } : Jvm.MethodName) ∈ TG := tg_p 37 rfl rfl
set_option maxRecDepth 8000 in
theorem w_1357 : (Jvm.Cond.methodLink "NextOneKnowsModel" (324 : Nat) ({ cls := "NextOneKnowsModel", name := "laySaid", desc := "()V" } : Jvm.MethodName)) ∈ TG := tg_6 84 rfl rfl
set_option maxRecDepth 8000 in
theorem w_1359 : (Jvm.Cond.instanceMethod ({ cls := "NextOneKnowsModel", name := "laySaid", desc := "()V" } : Jvm.MethodName)) ∈ TG := tg_6 86 rfl rfl
set_option maxRecDepth 8000 in
theorem sX12_of_13 : Site RX12 mX12_of 13 16 mX12_laySaid (some 12) 1 := site_V (dk DX12_of_0 7 rfl) KX12 w_1357 w_1359 w_37 w_80 kX12_laySaid pmX12_laySaid (by decide)
set_option maxRecDepth 8000 in
theorem sX12_of_128 : Site RX12 mX12_of 128 131 mX12_has (some 12) 3 := site_V (dk DX12_of_0 44 rfl) KX12 w_1265 w_1267 w_20 w_80 kX12_has pmX12_has (by decide)
set_option maxRecDepth 8000 in
theorem sX12_of_146 : Site RX12 mX12_of 146 149 mX12_has (some 12) 3 := site_V (dk DX12_of_0 54 rfl) KX12 w_1265 w_1267 w_20 w_80 kX12_has pmX12_has (by decide)
set_option maxRecDepth 8000 in
theorem sX12_of_160 : Site RX12 mX12_of 160 163 mX12_saidOf (some 12) 2 := site_V (dk DX12_of_1 2 rfl) KX12 w_1381 w_1383 w_43 w_80 kX12_saidOf pmX12_saidOf (by decide)
set_option maxRecDepth 8000 in
theorem sX12_of_166 : Site RX12 mX12_of 166 169 mX12_saidOf (some 12) 2 := site_V (dk DX12_of_1 6 rfl) KX12 w_1381 w_1383 w_43 w_80 kX12_saidOf pmX12_saidOf (by decide)
set_option maxRecDepth 8000 in
theorem w_45 : Cond.selects "NextOneKnowsModel" ({ cls := "NextOneKnowsModel", name := "dear", desc := "(II)I" } : Jvm.MethodName) ({ cls := "NextOneKnowsModel", name := "dear", desc := "(II)I" } : Jvm.MethodName) ∈ TG := tg_p 45 rfl rfl
set_option maxRecDepth 8000 in
theorem w_1389 : (Jvm.Cond.methodLink "NextOneKnowsModel" (327 : Nat) ({ cls := "NextOneKnowsModel", name := "dear", desc := "(II)I" } : Jvm.MethodName)) ∈ TG := tg_6 116 rfl rfl
set_option maxRecDepth 8000 in
theorem w_1391 : (Jvm.Cond.instanceMethod ({ cls := "NextOneKnowsModel", name := "dear", desc := "(II)I" } : Jvm.MethodName)) ∈ TG := tg_6 118 rfl rfl
set_option maxRecDepth 8000 in
theorem sX12_of_190 : Site RX12 mX12_of 190 193 mX12_dear (some 12) 3 := site_V (dk DX12_of_1 20 rfl) KX12 w_1389 w_1391 w_45 w_80 kX12_dear pmX12_dear (by decide)
set_option maxRecDepth 8000 in
theorem sX12_told_6 : Site RX12 mX12_told 6 9 mX12_in (some 12) 4 := site_V (dk DX12_told 4 rfl) KX12 w_1249 w_1251 w_17 w_80 kX12_in pmX12_in (by decide)
set_option maxRecDepth 8000 in
theorem w_46 : Cond.selects "NextOneKnowsModel" ({ cls := "NextOneKnowsModel", name := "lastOf", desc := "(II)I" } : Jvm.MethodName) ({ cls := "NextOneKnowsModel", name := "lastOf", desc := "(II)I" } : Jvm.MethodName) ∈ TG := tg_p 46 rfl rfl
set_option maxRecDepth 8000 in
theorem w_1397 : (Jvm.Cond.methodLink "NextOneKnowsModel" (330 : Nat) ({ cls := "NextOneKnowsModel", name := "lastOf", desc := "(II)I" } : Jvm.MethodName)) ∈ TG := tg_6 124 rfl rfl
set_option maxRecDepth 8000 in
theorem w_1399 : (Jvm.Cond.instanceMethod ({ cls := "NextOneKnowsModel", name := "lastOf", desc := "(II)I" } : Jvm.MethodName)) ∈ TG := tg_6 126 rfl rfl
set_option maxRecDepth 8000 in
theorem sX12_told_64 : Site RX12 mX12_told 64 67 mX12_lastOf (some 12) 3 := site_V (dk DX12_told 18 rfl) KX12 w_1397 w_1399 w_46 w_80 kX12_lastOf pmX12_lastOf (by decide)
set_option maxRecDepth 8000 in
theorem sX12_told_71 : Site RX12 mX12_told 71 74 mX12_lastOf (some 12) 3 := site_V (dk DX12_told 23 rfl) KX12 w_1397 w_1399 w_46 w_80 kX12_lastOf pmX12_lastOf (by decide)
set_option maxRecDepth 8000 in
theorem sX12_said_2 : Site RX12 mX12_said 2 5 mX12_isDoing (some 12) 2 := site_V (dk DX12_said 2 rfl) KX12 w_1261 w_1263 w_19 w_80 kX12_isDoing pmX12_isDoing (by decide)
set_option maxRecDepth 8000 in
theorem sX12_said_10 : Site RX12 mX12_said 10 13 mX12_isWay (some 12) 2 := site_V (dk DX12_said 6 rfl) KX12 w_1281 w_1283 w_21 w_80 kX12_isWay pmX12_isWay (by decide)
set_option maxRecDepth 8000 in
theorem sX12_said_21 : Site RX12 mX12_said 21 24 mX12_sumOf (some 12) 5 := site_V (dk DX12_said 13 rfl) KX12 w_1361 w_1363 w_38 w_80 kX12_sumOf pmX12_sumOf (by decide)
set_option maxRecDepth 8000 in
theorem sX12_hand_1 : Site RX12 mX12_hand 1 4 mX12_laySaid (some 12) 1 := site_V (dk DX12_hand 1 rfl) KX12 w_1357 w_1359 w_37 w_80 kX12_laySaid pmX12_laySaid (by decide)
set_option maxRecDepth 8000 in
theorem w_47 : Cond.selects "NextOneKnowsModel" ({ cls := "NextOneKnowsModel", name := "ones", desc := "(I)I" } : Jvm.MethodName) ({ cls := "NextOneKnowsModel", name := "ones", desc := "(I)I" } : Jvm.MethodName) ∈ TG := tg_p 47 rfl rfl
set_option maxRecDepth 8000 in
theorem w_1409 : (Jvm.Cond.methodLink "NextOneKnowsModel" (333 : Nat) ({ cls := "NextOneKnowsModel", name := "ones", desc := "(I)I" } : Jvm.MethodName)) ∈ TG := tg_6 136 rfl rfl
set_option maxRecDepth 8000 in
theorem w_1411 : (Jvm.Cond.instanceMethod ({ cls := "NextOneKnowsModel", name := "ones", desc := "(I)I" } : Jvm.MethodName)) ∈ TG := tg_6 138 rfl rfl
set_option maxRecDepth 8000 in
theorem sX12_hand_9 : Site RX12 mX12_hand 9 12 mX12_ones (some 12) 2 := site_V (dk DX12_hand 5 rfl) KX12 w_1409 w_1411 w_47 w_80 kX12_ones pmX12_ones (by decide)
set_option maxRecDepth 8000 in
theorem w_48 : Cond.selects "NextOneKnowsModel" ({ cls := "NextOneKnowsModel", name := "over", desc := "()I" } : Jvm.MethodName) ({ cls := "NextOneKnowsModel", name := "over", desc := "()I" } : Jvm.MethodName) ∈ TG := tg_p 48 rfl rfl
set_option maxRecDepth 8000 in
theorem w_1413 : (Jvm.Cond.methodLink "NextOneKnowsModel" (336 : Nat) ({ cls := "NextOneKnowsModel", name := "over", desc := "()I" } : Jvm.MethodName)) ∈ TG := tg_6 140 rfl rfl
set_option maxRecDepth 8000 in
theorem w_1415 : (Jvm.Cond.instanceMethod ({ cls := "NextOneKnowsModel", name := "over", desc := "()I" } : Jvm.MethodName)) ∈ TG := tg_6 142 rfl rfl
set_option maxRecDepth 8000 in
theorem sX12_hand_19 : Site RX12 mX12_hand 19 22 mX12_over (some 12) 1 := site_V (dk DX12_hand 11 rfl) KX12 w_1413 w_1415 w_48 w_80 kX12_over pmX12_over (by decide)
set_option maxRecDepth 8000 in
theorem sX12_hand_31 : Site RX12 mX12_hand 31 34 mX12_ones (some 12) 2 := site_V (dk DX12_hand 17 rfl) KX12 w_1409 w_1411 w_47 w_80 kX12_ones pmX12_ones (by decide)
set_option maxRecDepth 8000 in
theorem w_52 : Cond.selects "NextOneKnowsModel" ({ cls := "NextOneKnowsModel", name := "comes", desc := "(II)Z" } : Jvm.MethodName) ({ cls := "NextOneKnowsModel", name := "comes", desc := "(II)Z" } : Jvm.MethodName) ∈ TG := tg_p 52 rfl rfl
set_option maxRecDepth 8000 in
theorem w_1433 : (Jvm.Cond.methodLink "NextOneKnowsModel" (339 : Nat) ({ cls := "NextOneKnowsModel", name := "comes", desc := "(II)Z" } : Jvm.MethodName)) ∈ TG := tg_6 160 rfl rfl
set_option maxRecDepth 8000 in
theorem w_1435 : (Jvm.Cond.instanceMethod ({ cls := "NextOneKnowsModel", name := "comes", desc := "(II)Z" } : Jvm.MethodName)) ∈ TG := tg_6 162 rfl rfl
set_option maxRecDepth 8000 in
theorem sX12_goWeek_18 : Site RX12 mX12_goWeek 18 21 mX12_comes (some 12) 3 := site_V (dk DX12_goWeek_0 11 rfl) KX12 w_1433 w_1435 w_52 w_80 kX12_comes pmX12_comes (by decide)
set_option maxRecDepth 8000 in
theorem sX12_goWeek_34 : Site RX12 mX12_goWeek 34 37 mX12_has (some 12) 3 := site_V (dk DX12_goWeek_0 18 rfl) KX12 w_1265 w_1267 w_20 w_80 kX12_has pmX12_has (by decide)
set_option maxRecDepth 8000 in
theorem sX12_goWeek_52 : Site RX12 mX12_goWeek 52 55 mX12_has (some 12) 3 := site_V (dk DX12_goWeek_0 27 rfl) KX12 w_1265 w_1267 w_20 w_80 kX12_has pmX12_has (by decide)
set_option maxRecDepth 8000 in
theorem sX12_goWeek_77 : Site RX12 mX12_goWeek 77 80 mX12_has (some 12) 3 := site_V (dk DX12_goWeek_0 39 rfl) KX12 w_1265 w_1267 w_20 w_80 kX12_has pmX12_has (by decide)
set_option maxRecDepth 8000 in
theorem sX12_goWeek_196 : Site RX12 mX12_goWeek 196 199 mX12_with (some 12) 4 := site_V (dk DX12_goWeek_1 45 rfl) KX12 w_1253 w_1255 w_18 w_80 kX12_with pmX12_with (by decide)
set_option maxRecDepth 8000 in
theorem sX12_goWeek_214 : Site RX12 mX12_goWeek 214 217 mX12_dear (some 12) 3 := site_V (dk DX12_goWeek_1 54 rfl) KX12 w_1389 w_1391 w_45 w_80 kX12_dear pmX12_dear (by decide)
set_option maxRecDepth 8000 in
theorem w_53 : Cond.selects "NextOneKnowsModel" ({ cls := "NextOneKnowsModel", name := "learnsBy", desc := "(I)Z" } : Jvm.MethodName) ({ cls := "NextOneKnowsModel", name := "learnsBy", desc := "(I)Z" } : Jvm.MethodName) ∈ TG := tg_p 53 rfl rfl
set_option maxRecDepth 8000 in
theorem w_1437 : (Jvm.Cond.methodLink "NextOneKnowsModel" (342 : Nat) ({ cls := "NextOneKnowsModel", name := "learnsBy", desc := "(I)Z" } : Jvm.MethodName)) ∈ TG := tg_6 164 rfl rfl
set_option maxRecDepth 8000 in
theorem w_1439 : (Jvm.Cond.instanceMethod ({ cls := "NextOneKnowsModel", name := "learnsBy", desc := "(I)Z" } : Jvm.MethodName)) ∈ TG := tg_6 166 rfl rfl
set_option maxRecDepth 8000 in
theorem sX12_goWeek_232 : Site RX12 mX12_goWeek 232 235 mX12_learnsBy (some 12) 2 := site_V (dk DX12_goWeek_2 4 rfl) KX12 w_1437 w_1439 w_53 w_80 kX12_learnsBy pmX12_learnsBy (by decide)
set_option maxRecDepth 8000 in
theorem sX12_goWeek_235 : Site RX12 mX12_goWeek 235 238 mX12_with (some 12) 4 := site_V (dk DX12_goWeek_2 5 rfl) KX12 w_1253 w_1255 w_18 w_80 kX12_with pmX12_with (by decide)
set_option maxRecDepth 8000 in
theorem sX12_goWeeks_4 : Site RX12 mX12_goWeeks 4 7 mX12_lastOf (some 12) 3 := site_V (dk DX12_goWeeks 3 rfl) KX12 w_1397 w_1399 w_46 w_80 kX12_lastOf pmX12_lastOf (by decide)
set_option maxRecDepth 8000 in
theorem sX12_goWeeks_11 : Site RX12 mX12_goWeeks 11 14 mX12_lastOf (some 12) 3 := site_V (dk DX12_goWeeks 8 rfl) KX12 w_1397 w_1399 w_46 w_80 kX12_lastOf pmX12_lastOf (by decide)
set_option maxRecDepth 8000 in
theorem w_51 : Cond.selects "NextOneKnowsModel" ({ cls := "NextOneKnowsModel", name := "goWeek", desc := "(II)V" } : Jvm.MethodName) ({ cls := "NextOneKnowsModel", name := "goWeek", desc := "(II)V" } : Jvm.MethodName) ∈ TG := tg_p 51 rfl rfl
set_option maxRecDepth 8000 in
theorem w_1429 : (Jvm.Cond.methodLink "NextOneKnowsModel" (345 : Nat) ({ cls := "NextOneKnowsModel", name := "goWeek", desc := "(II)V" } : Jvm.MethodName)) ∈ TG := tg_6 156 rfl rfl
set_option maxRecDepth 8000 in
theorem w_1431 : (Jvm.Cond.instanceMethod ({ cls := "NextOneKnowsModel", name := "goWeek", desc := "(II)V" } : Jvm.MethodName)) ∈ TG := tg_6 158 rfl rfl
set_option maxRecDepth 8000 in
theorem sX12_goWeeks_41 : Site RX12 mX12_goWeeks 41 44 mX12_goWeek (some 12) 3 := site_V (dk DX12_goWeeks 26 rfl) KX12 w_1429 w_1431 w_51 w_80 kX12_goWeek pmX12_goWeek (by decide)
set_option maxRecDepth 8000 in
theorem w_49 : Cond.selects "NextOneKnowsModel" ({ cls := "NextOneKnowsModel", name := "begins", desc := "(II)V" } : Jvm.MethodName) ({ cls := "NextOneKnowsModel", name := "begins", desc := "(II)V" } : Jvm.MethodName) ∈ TG := tg_p 49 rfl rfl
set_option maxRecDepth 8000 in
theorem w_1421 : (Jvm.Cond.methodLink "NextOneKnowsModel" (349 : Nat) ({ cls := "NextOneKnowsModel", name := "begins", desc := "(II)V" } : Jvm.MethodName)) ∈ TG := tg_6 148 rfl rfl
set_option maxRecDepth 8000 in
theorem w_1423 : (Jvm.Cond.instanceMethod ({ cls := "NextOneKnowsModel", name := "begins", desc := "(II)V" } : Jvm.MethodName)) ∈ TG := tg_6 150 rfl rfl
set_option maxRecDepth 8000 in
theorem sX12_costBy_3 : Site RX12 mX12_costBy 3 6 mX12_begins (some 12) 3 := site_V (dk DX12_costBy 3 rfl) KX12 w_1421 w_1423 w_49 w_80 kX12_begins pmX12_begins (by decide)
set_option maxRecDepth 8000 in
theorem w_50 : Cond.selects "NextOneKnowsModel" ({ cls := "NextOneKnowsModel", name := "goWeeks", desc := "(I)V" } : Jvm.MethodName) ({ cls := "NextOneKnowsModel", name := "goWeeks", desc := "(I)V" } : Jvm.MethodName) ∈ TG := tg_p 50 rfl rfl
set_option maxRecDepth 8000 in
theorem w_1425 : (Jvm.Cond.methodLink "NextOneKnowsModel" (352 : Nat) ({ cls := "NextOneKnowsModel", name := "goWeeks", desc := "(I)V" } : Jvm.MethodName)) ∈ TG := tg_6 152 rfl rfl
set_option maxRecDepth 8000 in
theorem w_1427 : (Jvm.Cond.instanceMethod ({ cls := "NextOneKnowsModel", name := "goWeeks", desc := "(I)V" } : Jvm.MethodName)) ∈ TG := tg_6 154 rfl rfl
set_option maxRecDepth 8000 in
theorem sX12_costBy_8 : Site RX12 mX12_costBy 8 11 mX12_goWeeks (some 12) 2 := site_V (dk DX12_costBy 6 rfl) KX12 w_1425 w_1427 w_50 w_80 kX12_goWeeks pmX12_goWeeks (by decide)
set_option maxRecDepth 8000 in
theorem sX12_go_5 : Site RX12 mX12_go 5 8 mX12_in (some 12) 4 := site_V (dk DX12_go 4 rfl) KX12 w_1249 w_1251 w_17 w_80 kX12_in pmX12_in (by decide)
set_option maxRecDepth 8000 in
theorem sX12_go_38 : Site RX12 mX12_go 38 41 mX12_begins (some 12) 3 := site_V (dk DX12_go 21 rfl) KX12 w_1421 w_1423 w_49 w_80 kX12_begins pmX12_begins (by decide)
set_option maxRecDepth 8000 in
theorem sX12_go_43 : Site RX12 mX12_go 43 46 mX12_goWeeks (some 12) 2 := site_V (dk DX12_go 24 rfl) KX12 w_1425 w_1427 w_50 w_80 kX12_goWeeks pmX12_goWeeks (by decide)
set_option maxRecDepth 8000 in
theorem sX12_run_4 : Site RX12 mX12_run 4 7 mX12_in (some 12) 4 := site_V (dk DX12_run 4 rfl) KX12 w_1249 w_1251 w_17 w_80 kX12_in pmX12_in (by decide)
set_option maxRecDepth 8000 in
theorem sX12_run_20 : Site RX12 mX12_run 20 23 mX12_in (some 12) 4 := site_V (dk DX12_run 12 rfl) KX12 w_1249 w_1251 w_17 w_80 kX12_in pmX12_in (by decide)
set_option maxRecDepth 8000 in
theorem sX12_run_39 : Site RX12 mX12_run 39 42 mX12_begins (some 12) 3 := site_V (dk DX12_run 21 rfl) KX12 w_1421 w_1423 w_49 w_80 kX12_begins pmX12_begins (by decide)
set_option maxRecDepth 8000 in
theorem sX12_run_44 : Site RX12 mX12_run 44 47 mX12_goWeeks (some 12) 2 := site_V (dk DX12_run 24 rfl) KX12 w_1425 w_1427 w_50 w_80 kX12_goWeeks pmX12_goWeeks (by decide)
set_option maxRecDepth 8000 in
theorem sX12_run_104 : Site RX12 mX12_run 104 107 mX12_ones (some 12) 2 := site_V (dk DX12_run 39 rfl) KX12 w_1409 w_1411 w_47 w_80 kX12_ones pmX12_ones (by decide)
set_option maxRecDepth 8000 in
theorem sX12_costHanded_6 : Site RX12 mX12_costHanded 6 9 mX12_over (some 12) 1 := site_V (dk DX12_costHanded 4 rfl) KX12 w_1413 w_1415 w_48 w_80 kX12_over pmX12_over (by decide)
set_option maxRecDepth 8000 in
theorem w_56 : Cond.selects "NextOneKnowsModel" ({ cls := "NextOneKnowsModel", name := "costBy", desc := "(III)I" } : Jvm.MethodName) ({ cls := "NextOneKnowsModel", name := "costBy", desc := "(III)I" } : Jvm.MethodName) ∈ TG := tg_p 56 rfl rfl
set_option maxRecDepth 8000 in
theorem w_1457 : (Jvm.Cond.methodLink "NextOneKnowsModel" (355 : Nat) ({ cls := "NextOneKnowsModel", name := "costBy", desc := "(III)I" } : Jvm.MethodName)) ∈ TG := tg_6 184 rfl rfl
set_option maxRecDepth 8000 in
theorem w_1459 : (Jvm.Cond.instanceMethod ({ cls := "NextOneKnowsModel", name := "costBy", desc := "(III)I" } : Jvm.MethodName)) ∈ TG := tg_6 186 rfl rfl
set_option maxRecDepth 8000 in
theorem sX12_costHanded_15 : Site RX12 mX12_costHanded 15 18 mX12_costBy (some 12) 4 := site_V (dk DX12_costHanded 9 rfl) KX12 w_1457 w_1459 w_56 w_80 kX12_costBy pmX12_costBy (by decide)
set_option maxRecDepth 8000 in
theorem sX12_split_4 : Site RX12 mX12_split 4 7 mX12_in (some 12) 4 := site_V (dk DX12_split_0 4 rfl) KX12 w_1249 w_1251 w_17 w_80 kX12_in pmX12_in (by decide)
set_option maxRecDepth 8000 in
theorem sX12_split_19 : Site RX12 mX12_split 19 22 mX12_in (some 12) 4 := site_V (dk DX12_split_0 12 rfl) KX12 w_1249 w_1251 w_17 w_80 kX12_in pmX12_in (by decide)
set_option maxRecDepth 8000 in
theorem sX12_split_30 : Site RX12 mX12_split 30 33 mX12_in (some 12) 4 := site_V (dk DX12_split_0 18 rfl) KX12 w_1249 w_1251 w_17 w_80 kX12_in pmX12_in (by decide)
set_option maxRecDepth 8000 in
theorem sX12_split_41 : Site RX12 mX12_split 41 44 mX12_laySaid (some 12) 1 := site_V (dk DX12_split_0 23 rfl) KX12 w_1357 w_1359 w_37 w_80 kX12_laySaid pmX12_laySaid (by decide)
set_option maxRecDepth 8000 in
theorem w_54 : Cond.selects "NextOneKnowsModel" ({ cls := "NextOneKnowsModel", name := "keepHours", desc := "()V" } : Jvm.MethodName) ({ cls := "NextOneKnowsModel", name := "keepHours", desc := "()V" } : Jvm.MethodName) ∈ TG := tg_p 54 rfl rfl
set_option maxRecDepth 8000 in
theorem w_1449 : (Jvm.Cond.methodLink "NextOneKnowsModel" (359 : Nat) ({ cls := "NextOneKnowsModel", name := "keepHours", desc := "()V" } : Jvm.MethodName)) ∈ TG := tg_6 176 rfl rfl
set_option maxRecDepth 8000 in
theorem w_1451 : (Jvm.Cond.instanceMethod ({ cls := "NextOneKnowsModel", name := "keepHours", desc := "()V" } : Jvm.MethodName)) ∈ TG := tg_6 178 rfl rfl
set_option maxRecDepth 8000 in
theorem sX12_split_45 : Site RX12 mX12_split 45 48 mX12_keepHours (some 12) 1 := site_V (dk DX12_split_0 25 rfl) KX12 w_1449 w_1451 w_54 w_80 kX12_keepHours pmX12_keepHours (by decide)
set_option maxRecDepth 8000 in
theorem w_55 : Cond.selects "NextOneKnowsModel" ({ cls := "NextOneKnowsModel", name := "costHanded", desc := "(I)I" } : Jvm.MethodName) ({ cls := "NextOneKnowsModel", name := "costHanded", desc := "(I)I" } : Jvm.MethodName) ∈ TG := tg_p 55 rfl rfl
set_option maxRecDepth 8000 in
theorem w_1453 : (Jvm.Cond.methodLink "NextOneKnowsModel" (362 : Nat) ({ cls := "NextOneKnowsModel", name := "costHanded", desc := "(I)I" } : Jvm.MethodName)) ∈ TG := tg_6 180 rfl rfl
set_option maxRecDepth 8000 in
theorem w_1455 : (Jvm.Cond.instanceMethod ({ cls := "NextOneKnowsModel", name := "costHanded", desc := "(I)I" } : Jvm.MethodName)) ∈ TG := tg_6 182 rfl rfl
set_option maxRecDepth 8000 in
theorem sX12_split_141 : Site RX12 mX12_split 141 144 mX12_costHanded (some 12) 2 := site_V (dk DX12_split_1 23 rfl) KX12 w_1453 w_1455 w_55 w_80 kX12_costHanded pmX12_costHanded (by decide)
set_option maxRecDepth 8000 in
theorem w_57 : Cond.selects "NextOneKnowsModel" ({ cls := "NextOneKnowsModel", name := "putHours", desc := "()V" } : Jvm.MethodName) ({ cls := "NextOneKnowsModel", name := "putHours", desc := "()V" } : Jvm.MethodName) ∈ TG := tg_p 57 rfl rfl
set_option maxRecDepth 8000 in
theorem w_1461 : (Jvm.Cond.methodLink "NextOneKnowsModel" (365 : Nat) ({ cls := "NextOneKnowsModel", name := "putHours", desc := "()V" } : Jvm.MethodName)) ∈ TG := tg_6 188 rfl rfl
set_option maxRecDepth 8000 in
theorem w_1463 : (Jvm.Cond.instanceMethod ({ cls := "NextOneKnowsModel", name := "putHours", desc := "()V" } : Jvm.MethodName)) ∈ TG := tg_6 190 rfl rfl
set_option maxRecDepth 8000 in
theorem sX12_split_201 : Site RX12 mX12_split 201 204 mX12_putHours (some 12) 1 := site_V (dk DX12_split_1 51 rfl) KX12 w_1461 w_1463 w_57 w_80 kX12_putHours pmX12_putHours (by decide)
set_option maxRecDepth 8000 in
theorem sX12_more_2 : Site RX12 mX12_more 2 5 mX12_isWay (some 12) 2 := site_V (dk DX12_more 2 rfl) KX12 w_1281 w_1283 w_21 w_80 kX12_isWay pmX12_isWay (by decide)
set_option maxRecDepth 8000 in
theorem sX12_more_17 : Site RX12 mX12_more 17 20 mX12_in (some 12) 4 := site_V (dk DX12_more 10 rfl) KX12 w_1249 w_1251 w_17 w_80 kX12_in pmX12_in (by decide)
set_option maxRecDepth 8000 in
theorem sX12_more_41 : Site RX12 mX12_more 41 44 mX12_laySaid (some 12) 1 := site_V (dk DX12_more 23 rfl) KX12 w_1357 w_1359 w_37 w_80 kX12_laySaid pmX12_laySaid (by decide)
set_option maxRecDepth 8000 in
theorem sX12_more_46 : Site RX12 mX12_more 46 49 mX12_costHanded (some 12) 2 := site_V (dk DX12_more 26 rfl) KX12 w_1453 w_1455 w_55 w_80 kX12_costHanded pmX12_costHanded (by decide)
set_option maxRecDepth 8000 in
theorem sX12_more_62 : Site RX12 mX12_more 62 65 mX12_costHanded (some 12) 2 := site_V (dk DX12_more 38 rfl) KX12 w_1453 w_1455 w_55 w_80 kX12_costHanded pmX12_costHanded (by decide)
set_option maxRecDepth 8000 in
theorem sX12_ask_5 : Site RX12 mX12_ask 5 8 mX12_in (some 12) 4 := site_V (dk DX12_ask 4 rfl) KX12 w_1249 w_1251 w_17 w_80 kX12_in pmX12_in (by decide)
set_option maxRecDepth 8000 in
theorem sX12_ask_38 : Site RX12 mX12_ask 38 41 mX12_has (some 12) 3 := site_V (dk DX12_ask 22 rfl) KX12 w_1265 w_1267 w_20 w_80 kX12_has pmX12_has (by decide)
set_option maxRecDepth 8000 in
theorem sX12_ask_56 : Site RX12 mX12_ask 56 59 mX12_with (some 12) 4 := site_V (dk DX12_ask 31 rfl) KX12 w_1253 w_1255 w_18 w_80 kX12_with pmX12_with (by decide)
set_option maxRecDepth 8000 in
theorem sX12_ask_64 : Site RX12 mX12_ask 64 67 mX12_costBy (some 12) 4 := site_V (dk DX12_ask 35 rfl) KX12 w_1457 w_1459 w_56 w_80 kX12_costBy pmX12_costBy (by decide)
set_option maxRecDepth 8000 in
theorem sX12_drop_5 : Site RX12 mX12_drop 5 8 mX12_in (some 12) 4 := site_V (dk DX12_drop 4 rfl) KX12 w_1249 w_1251 w_17 w_80 kX12_in pmX12_in (by decide)
set_option maxRecDepth 8000 in
theorem sX12_drop_38 : Site RX12 mX12_drop 38 41 mX12_has (some 12) 3 := site_V (dk DX12_drop 22 rfl) KX12 w_1265 w_1267 w_20 w_80 kX12_has pmX12_has (by decide)
set_option maxRecDepth 8000 in
theorem sX12_drop_60 : Site RX12 mX12_drop 60 63 mX12_with (some 12) 4 := site_V (dk DX12_drop 33 rfl) KX12 w_1253 w_1255 w_18 w_80 kX12_with pmX12_with (by decide)
set_option maxRecDepth 8000 in
theorem sX12_drop_64 : Site RX12 mX12_drop 64 67 mX12_costBy (some 12) 4 := site_V (dk DX12_drop 35 rfl) KX12 w_1457 w_1459 w_56 w_80 kX12_costBy pmX12_costBy (by decide)
set_option maxRecDepth 8000 in
theorem sX12_when_2 : Site RX12 mX12_when 2 5 mX12_isDoing (some 12) 2 := site_V (dk DX12_when 2 rfl) KX12 w_1261 w_1263 w_19 w_80 kX12_isDoing pmX12_isDoing (by decide)
set_option maxRecDepth 8000 in
theorem sX12_when_18 : Site RX12 mX12_when 18 21 mX12_comes (some 12) 3 := site_V (dk DX12_when 12 rfl) KX12 w_1433 w_1435 w_52 w_80 kX12_comes pmX12_comes (by decide)
set_option maxRecDepth 8000 in
theorem sX12_manyIn_16 : Site RX12 mX12_manyIn 16 19 mX12_comes (some 12) 3 := site_V (dk DX12_manyIn 12 rfl) KX12 w_1433 w_1435 w_52 w_80 kX12_comes pmX12_comes (by decide)
set_option maxRecDepth 8000 in
theorem sX12_busiest_4 : Site RX12 mX12_busiest 4 7 mX12_in (some 12) 4 := site_V (dk DX12_busiest 4 rfl) KX12 w_1249 w_1251 w_17 w_80 kX12_in pmX12_in (by decide)
set_option maxRecDepth 8000 in
theorem sX12_busiest_18 : Site RX12 mX12_busiest 18 21 mX12_in (some 12) 4 := site_V (dk DX12_busiest 12 rfl) KX12 w_1249 w_1251 w_17 w_80 kX12_in pmX12_in (by decide)
set_option maxRecDepth 8000 in
theorem w_58 : Cond.selects "NextOneKnowsModel" ({ cls := "NextOneKnowsModel", name := "manyIn", desc := "(I)I" } : Jvm.MethodName) ({ cls := "NextOneKnowsModel", name := "manyIn", desc := "(I)I" } : Jvm.MethodName) ∈ TG := tg_p 58 rfl rfl
set_option maxRecDepth 8000 in
theorem w_1485 : (Jvm.Cond.methodLink "NextOneKnowsModel" (368 : Nat) ({ cls := "NextOneKnowsModel", name := "manyIn", desc := "(I)I" } : Jvm.MethodName)) ∈ TG := tg_6 212 rfl rfl
set_option maxRecDepth 8000 in
theorem w_1487 : (Jvm.Cond.instanceMethod ({ cls := "NextOneKnowsModel", name := "manyIn", desc := "(I)I" } : Jvm.MethodName)) ∈ TG := tg_6 214 rfl rfl
set_option maxRecDepth 8000 in
theorem sX12_busiest_54 : Site RX12 mX12_busiest 54 57 mX12_manyIn (some 12) 2 := site_V (dk DX12_busiest 32 rfl) KX12 w_1485 w_1487 w_58 w_80 kX12_manyIn pmX12_manyIn (by decide)
set_option maxRecDepth 8000 in
theorem sX12_busiest_59 : Site RX12 mX12_busiest 59 62 mX12_manyIn (some 12) 2 := site_V (dk DX12_busiest 35 rfl) KX12 w_1485 w_1487 w_58 w_80 kX12_manyIn pmX12_manyIn (by decide)
set_option maxRecDepth 8000 in
theorem sX12_busiest_88 : Site RX12 mX12_busiest 88 91 mX12_manyIn (some 12) 2 := site_V (dk DX12_busiest 49 rfl) KX12 w_1485 w_1487 w_58 w_80 kX12_manyIn pmX12_manyIn (by decide)
set_option maxRecDepth 8000 in
theorem sX12_allCome_13 : Site RX12 mX12_allCome 13 16 mX12_has (some 12) 3 := site_V (dk DX12_allCome 9 rfl) KX12 w_1265 w_1267 w_20 w_80 kX12_has pmX12_has (by decide)
set_option maxRecDepth 8000 in
theorem sX12_allCome_22 : Site RX12 mX12_allCome 22 25 mX12_comes (some 12) 3 := site_V (dk DX12_allCome 14 rfl) KX12 w_1433 w_1435 w_52 w_80 kX12_comes pmX12_comes (by decide)
set_option maxRecDepth 8000 in
theorem sX12_all_11 : Site RX12 mX12_all 11 14 mX12_in (some 12) 4 := site_V (dk DX12_all 9 rfl) KX12 w_1249 w_1251 w_17 w_80 kX12_in pmX12_in (by decide)
set_option maxRecDepth 8000 in
theorem w_59 : Cond.selects "NextOneKnowsModel" ({ cls := "NextOneKnowsModel", name := "allCome", desc := "(II)Z" } : Jvm.MethodName) ({ cls := "NextOneKnowsModel", name := "allCome", desc := "(II)Z" } : Jvm.MethodName) ∈ TG := tg_p 59 rfl rfl
set_option maxRecDepth 8000 in
theorem w_1493 : (Jvm.Cond.methodLink "NextOneKnowsModel" (371 : Nat) ({ cls := "NextOneKnowsModel", name := "allCome", desc := "(II)Z" } : Jvm.MethodName)) ∈ TG := tg_6 220 rfl rfl
set_option maxRecDepth 8000 in
theorem w_1495 : (Jvm.Cond.instanceMethod ({ cls := "NextOneKnowsModel", name := "allCome", desc := "(II)Z" } : Jvm.MethodName)) ∈ TG := tg_6 222 rfl rfl
set_option maxRecDepth 8000 in
theorem sX12_all_37 : Site RX12 mX12_all 37 40 mX12_allCome (some 12) 3 := site_V (dk DX12_all 24 rfl) KX12 w_1493 w_1495 w_59 w_80 kX12_allCome pmX12_allCome (by decide)
set_option maxRecDepth 8000 in
theorem sX12_list_17 : Site RX12 mX12_list 17 20 mX12_in (some 12) 4 := site_V (dk DX12_list 12 rfl) KX12 w_1249 w_1251 w_17 w_80 kX12_in pmX12_in (by decide)
set_option maxRecDepth 8000 in
theorem sX12_list_28 : Site RX12 mX12_list 28 31 mX12_isDoing (some 12) 2 := site_V (dk DX12_list 18 rfl) KX12 w_1261 w_1263 w_19 w_80 kX12_isDoing pmX12_isDoing (by decide)
set_option maxRecDepth 8000 in
theorem sX12_firstOff_28 : Site RX12 mX12_firstOff 28 31 mX12_begins (some 12) 3 := site_V (dk DX12_firstOff 16 rfl) KX12 w_1421 w_1423 w_49 w_80 kX12_begins pmX12_begins (by decide)
set_option maxRecDepth 8000 in
theorem sX12_firstOff_34 : Site RX12 mX12_firstOff 34 37 mX12_goWeeks (some 12) 2 := site_V (dk DX12_firstOff 19 rfl) KX12 w_1425 w_1427 w_50 w_80 kX12_goWeeks pmX12_goWeeks (by decide)
set_option maxRecDepth 8000 in
theorem w_60 : Cond.selects "NextOneKnowsModel" ({ cls := "NextOneKnowsModel", name := "firstOff", desc := "(I)I" } : Jvm.MethodName) ({ cls := "NextOneKnowsModel", name := "firstOff", desc := "(I)I" } : Jvm.MethodName) ∈ TG := tg_p 60 rfl rfl
set_option maxRecDepth 8000 in
theorem w_1505 : (Jvm.Cond.methodLink "NextOneKnowsModel" (374 : Nat) ({ cls := "NextOneKnowsModel", name := "firstOff", desc := "(I)I" } : Jvm.MethodName)) ∈ TG := tg_6 232 rfl rfl
set_option maxRecDepth 8000 in
theorem w_1507 : (Jvm.Cond.instanceMethod ({ cls := "NextOneKnowsModel", name := "firstOff", desc := "(I)I" } : Jvm.MethodName)) ∈ TG := tg_6 234 rfl rfl
set_option maxRecDepth 8000 in
theorem sX12_looked_5 : Site RX12 mX12_looked 5 8 mX12_firstOff (some 12) 2 := site_V (dk DX12_looked 3 rfl) KX12 w_1505 w_1507 w_60 w_80 kX12_firstOff pmX12_firstOff (by decide)
set_option maxRecDepth 8000 in
theorem sX12_fits_29 : Site RX12 mX12_fits 29 32 mX12_firstOff (some 12) 2 := site_V (dk DX12_fits 19 rfl) KX12 w_1505 w_1507 w_60 w_80 kX12_firstOff pmX12_firstOff (by decide)
set_option maxRecDepth 8000 in
theorem sX12_comesIn_18 : Site RX12 mX12_comesIn 18 21 mX12_comes (some 12) 3 := site_V (dk DX12_comesIn 12 rfl) KX12 w_1433 w_1435 w_52 w_80 kX12_comes pmX12_comes (by decide)
set_option maxRecDepth 8000 in
theorem sX12_chance_5 : Site RX12 mX12_chance 5 8 mX12_in (some 12) 4 := site_V (dk DX12_chance_0 4 rfl) KX12 w_1249 w_1251 w_17 w_80 kX12_in pmX12_in (by decide)
set_option maxRecDepth 8000 in
theorem sX12_chance_15 : Site RX12 mX12_chance 15 18 mX12_in (some 12) 4 := site_V (dk DX12_chance_0 10 rfl) KX12 w_1249 w_1251 w_17 w_80 kX12_in pmX12_in (by decide)
set_option maxRecDepth 8000 in
theorem sX12_chance_49 : Site RX12 mX12_chance 49 52 mX12_has (some 12) 3 := site_V (dk DX12_chance_0 28 rfl) KX12 w_1265 w_1267 w_20 w_80 kX12_has pmX12_has (by decide)
set_option maxRecDepth 8000 in
theorem w_61 : Cond.selects "NextOneKnowsModel" ({ cls := "NextOneKnowsModel", name := "comesIn", desc := "(II)Z" } : Jvm.MethodName) ({ cls := "NextOneKnowsModel", name := "comesIn", desc := "(II)Z" } : Jvm.MethodName) ∈ TG := tg_p 61 rfl rfl
set_option maxRecDepth 8000 in
theorem w_1518 : (Jvm.Cond.methodLink "NextOneKnowsModel" (379 : Nat) ({ cls := "NextOneKnowsModel", name := "comesIn", desc := "(II)Z" } : Jvm.MethodName)) ∈ TG := tg_7 5 rfl rfl
set_option maxRecDepth 8000 in
theorem w_1520 : (Jvm.Cond.instanceMethod ({ cls := "NextOneKnowsModel", name := "comesIn", desc := "(II)Z" } : Jvm.MethodName)) ∈ TG := tg_7 7 rfl rfl
set_option maxRecDepth 8000 in
theorem sX12_chance_59 : Site RX12 mX12_chance 59 62 mX12_comesIn (some 12) 3 := site_V (dk DX12_chance_0 33 rfl) KX12 w_1518 w_1520 w_61 w_80 kX12_comesIn pmX12_comesIn (by decide)
set_option maxRecDepth 8000 in
theorem w_62 : Cond.selects "NextOneKnowsModel" ({ cls := "NextOneKnowsModel", name := "divisor", desc := "(JJ)J" } : Jvm.MethodName) ({ cls := "NextOneKnowsModel", name := "divisor", desc := "(JJ)J" } : Jvm.MethodName) ∈ TG := tg_p 62 rfl rfl
set_option maxRecDepth 8000 in
theorem w_1523 : (Jvm.Cond.methodLink "NextOneKnowsModel" (384 : Nat) ({ cls := "NextOneKnowsModel", name := "divisor", desc := "(JJ)J" } : Jvm.MethodName)) ∈ TG := tg_7 10 rfl rfl
set_option maxRecDepth 8000 in
theorem w_1525 : (Jvm.Cond.instanceMethod ({ cls := "NextOneKnowsModel", name := "divisor", desc := "(JJ)J" } : Jvm.MethodName)) ∈ TG := tg_7 12 rfl rfl
set_option maxRecDepth 8000 in
theorem sX12_chance_97 : Site RX12 mX12_chance 97 100 mX12_divisor (some 12) 3 := site_V (dk DX12_chance_0 53 rfl) KX12 w_1523 w_1525 w_62 w_80 kX12_divisor pmX12_divisor (by decide)
set_option maxRecDepth 8000 in
theorem w_63 : Cond.selects "NextOneKnowsModel" ({ cls := "NextOneKnowsModel", name := "isTape", desc := "(I)Z" } : Jvm.MethodName) ({ cls := "NextOneKnowsModel", name := "isTape", desc := "(I)Z" } : Jvm.MethodName) ∈ TG := tg_p 63 rfl rfl
set_option maxRecDepth 8000 in
theorem w_1531 : (Jvm.Cond.methodLink "NextOneKnowsModel" (388 : Nat) ({ cls := "NextOneKnowsModel", name := "isTape", desc := "(I)Z" } : Jvm.MethodName)) ∈ TG := tg_7 18 rfl rfl
set_option maxRecDepth 8000 in
theorem w_1533 : (Jvm.Cond.instanceMethod ({ cls := "NextOneKnowsModel", name := "isTape", desc := "(I)Z" } : Jvm.MethodName)) ∈ TG := tg_7 20 rfl rfl
set_option maxRecDepth 8000 in
theorem sX12_judge_2 : Site RX12 mX12_judge 2 5 mX12_isTape (some 12) 2 := site_V (dk DX12_judge_0 2 rfl) KX12 w_1531 w_1533 w_63 w_80 kX12_isTape pmX12_isTape (by decide)
set_option maxRecDepth 8000 in
theorem sX12_judge_93 : Site RX12 mX12_judge 93 96 mX12_has (some 12) 3 := site_V (dk DX12_judge_1 0 rfl) KX12 w_1265 w_1267 w_20 w_80 kX12_has pmX12_has (by decide)
set_option maxRecDepth 8000 in
theorem w_65 : Cond.selects "NextOneKnowsModel" ({ cls := "NextOneKnowsModel", name := "body", desc := "(I)V" } : Jvm.MethodName) ({ cls := "NextOneKnowsModel", name := "body", desc := "(I)V" } : Jvm.MethodName) ∈ TG := tg_p 65 rfl rfl
set_option maxRecDepth 8000 in
theorem w_1551 : (Jvm.Cond.methodLink "NextOneKnowsModel" (391 : Nat) ({ cls := "NextOneKnowsModel", name := "body", desc := "(I)V" } : Jvm.MethodName)) ∈ TG := tg_7 38 rfl rfl
set_option maxRecDepth 8000 in
theorem w_1553 : (Jvm.Cond.instanceMethod ({ cls := "NextOneKnowsModel", name := "body", desc := "(I)V" } : Jvm.MethodName)) ∈ TG := tg_7 40 rfl rfl
set_option maxRecDepth 8000 in
theorem sX12_knowingSays_3 : Site RX12 mX12_knowingSays 3 6 mX12_body (some 12) 2 := site_V (dk DX12_knowingSays 2 rfl) KX12 w_1551 w_1553 w_65 w_80 kX12_body pmX12_body (by decide)
set_option maxRecDepth 8000 in
theorem sX12_saysAct_43 : Site RX12 mX12_saysAct 43 46 mX12_body (some 12) 2 := site_V (dk DX12_saysAct 7 rfl) KX12 w_1551 w_1553 w_65 w_80 kX12_body pmX12_body (by decide)
set_option maxRecDepth 8000 in
theorem w_66 : Cond.selects "NextOneKnowsModel" ({ cls := "NextOneKnowsModel", name := "knowingSays", desc := "(II)I" } : Jvm.MethodName) ({ cls := "NextOneKnowsModel", name := "knowingSays", desc := "(II)I" } : Jvm.MethodName) ∈ TG := tg_p 66 rfl rfl
set_option maxRecDepth 8000 in
theorem w_1555 : (Jvm.Cond.methodLink "NextOneKnowsModel" (394 : Nat) ({ cls := "NextOneKnowsModel", name := "knowingSays", desc := "(II)I" } : Jvm.MethodName)) ∈ TG := tg_7 42 rfl rfl
set_option maxRecDepth 8000 in
theorem w_1557 : (Jvm.Cond.instanceMethod ({ cls := "NextOneKnowsModel", name := "knowingSays", desc := "(II)I" } : Jvm.MethodName)) ∈ TG := tg_7 44 rfl rfl
set_option maxRecDepth 8000 in
theorem sX12_saysAct_51 : Site RX12 mX12_saysAct 51 54 mX12_knowingSays (some 12) 3 := site_V (dk DX12_saysAct 13 rfl) KX12 w_1555 w_1557 w_66 w_80 kX12_knowingSays pmX12_knowingSays (by decide)
set_option maxRecDepth 8000 in
theorem sX12_saysAct_58 : Site RX12 mX12_saysAct 58 61 mX12_body (some 12) 2 := site_V (dk DX12_saysAct 17 rfl) KX12 w_1551 w_1553 w_65 w_80 kX12_body pmX12_body (by decide)
set_option maxRecDepth 8000 in
theorem sX12_saysAct_64 : Site RX12 mX12_saysAct 64 67 mX12_knowingSays (some 12) 3 := site_V (dk DX12_saysAct 21 rfl) KX12 w_1555 w_1557 w_66 w_80 kX12_knowingSays pmX12_knowingSays (by decide)
set_option maxRecDepth 8000 in
theorem sX12_saysAct_72 : Site RX12 mX12_saysAct 72 75 mX12_body (some 12) 2 := site_V (dk DX12_saysAct 26 rfl) KX12 w_1551 w_1553 w_65 w_80 kX12_body pmX12_body (by decide)
set_option maxRecDepth 8000 in
theorem sX12_saysAct_78 : Site RX12 mX12_saysAct 78 81 mX12_knowingSays (some 12) 3 := site_V (dk DX12_saysAct 30 rfl) KX12 w_1555 w_1557 w_66 w_80 kX12_knowingSays pmX12_knowingSays (by decide)
set_option maxRecDepth 8000 in
theorem sX12_saysAct_92 : Site RX12 mX12_saysAct 92 95 mX12_knowingSays (some 12) 3 := site_V (dk DX12_saysAct 40 rfl) KX12 w_1555 w_1557 w_66 w_80 kX12_knowingSays pmX12_knowingSays (by decide)
set_option maxRecDepth 8000 in
theorem sX12_knowingHolds_3 : Site RX12 mX12_knowingHolds 3 6 mX12_body (some 12) 2 := site_V (dk DX12_knowingHolds 2 rfl) KX12 w_1551 w_1553 w_65 w_80 kX12_body pmX12_body (by decide)
set_option maxRecDepth 8000 in
theorem w_64 : Cond.selects "NextOneKnowsModel" ({ cls := "NextOneKnowsModel", name := "saysAct", desc := "(II)I" } : Jvm.MethodName) ({ cls := "NextOneKnowsModel", name := "saysAct", desc := "(II)I" } : Jvm.MethodName) ∈ TG := tg_p 64 rfl rfl
set_option maxRecDepth 8000 in
theorem w_1547 : (Jvm.Cond.methodLink "NextOneKnowsModel" (397 : Nat) ({ cls := "NextOneKnowsModel", name := "saysAct", desc := "(II)I" } : Jvm.MethodName)) ∈ TG := tg_7 34 rfl rfl
set_option maxRecDepth 8000 in
theorem w_1549 : (Jvm.Cond.instanceMethod ({ cls := "NextOneKnowsModel", name := "saysAct", desc := "(II)I" } : Jvm.MethodName)) ∈ TG := tg_7 36 rfl rfl
set_option maxRecDepth 8000 in
theorem sX12_knowingHolds_9 : Site RX12 mX12_knowingHolds 9 12 mX12_saysAct (some 12) 3 := site_V (dk DX12_knowingHolds 6 rfl) KX12 w_1547 w_1549 w_64 w_80 kX12_saysAct pmX12_saysAct (by decide)
set_option maxRecDepth 8000 in
theorem sX12_writtenHolds_3 : Site RX12 mX12_writtenHolds 3 6 mX12_body (some 12) 2 := site_V (dk DX12_writtenHolds 2 rfl) KX12 w_1551 w_1553 w_65 w_80 kX12_body pmX12_body (by decide)
set_option maxRecDepth 8000 in
theorem w_69 : Cond.selects "NextOneKnowsModel" ({ cls := "NextOneKnowsModel", name := "knowingHolds", desc := "(II)I" } : Jvm.MethodName) ({ cls := "NextOneKnowsModel", name := "knowingHolds", desc := "(II)I" } : Jvm.MethodName) ∈ TG := tg_p 69 rfl rfl
set_option maxRecDepth 8000 in
theorem w_1567 : (Jvm.Cond.methodLink "NextOneKnowsModel" (400 : Nat) ({ cls := "NextOneKnowsModel", name := "knowingHolds", desc := "(II)I" } : Jvm.MethodName)) ∈ TG := tg_7 54 rfl rfl
set_option maxRecDepth 8000 in
theorem w_1569 : (Jvm.Cond.instanceMethod ({ cls := "NextOneKnowsModel", name := "knowingHolds", desc := "(II)I" } : Jvm.MethodName)) ∈ TG := tg_7 56 rfl rfl
set_option maxRecDepth 8000 in
theorem sX12_writtenHolds_9 : Site RX12 mX12_writtenHolds 9 12 mX12_knowingHolds (some 12) 3 := site_V (dk DX12_writtenHolds 6 rfl) KX12 w_1567 w_1569 w_69 w_80 kX12_knowingHolds pmX12_knowingHolds (by decide)
set_option maxRecDepth 8000 in
theorem w_68 : Cond.selects "NextOneKnowsModel" ({ cls := "NextOneKnowsModel", name := "writtenHolds", desc := "(II)I" } : Jvm.MethodName) ({ cls := "NextOneKnowsModel", name := "writtenHolds", desc := "(II)I" } : Jvm.MethodName) ∈ TG := tg_p 68 rfl rfl
set_option maxRecDepth 8000 in
theorem w_1563 : (Jvm.Cond.methodLink "NextOneKnowsModel" (403 : Nat) ({ cls := "NextOneKnowsModel", name := "writtenHolds", desc := "(II)I" } : Jvm.MethodName)) ∈ TG := tg_7 50 rfl rfl
set_option maxRecDepth 8000 in
theorem w_1565 : (Jvm.Cond.instanceMethod ({ cls := "NextOneKnowsModel", name := "writtenHolds", desc := "(II)I" } : Jvm.MethodName)) ∈ TG := tg_7 52 rfl rfl
set_option maxRecDepth 8000 in
theorem sX12_holdsAct_43 : Site RX12 mX12_holdsAct 43 46 mX12_writtenHolds (some 12) 3 := site_V (dk DX12_holdsAct 8 rfl) KX12 w_1563 w_1565 w_68 w_80 kX12_writtenHolds pmX12_writtenHolds (by decide)
set_option maxRecDepth 8000 in
theorem sX12_holdsAct_50 : Site RX12 mX12_holdsAct 50 53 mX12_body (some 12) 2 := site_V (dk DX12_holdsAct 12 rfl) KX12 w_1551 w_1553 w_65 w_80 kX12_body pmX12_body (by decide)
set_option maxRecDepth 8000 in
theorem sX12_holdsAct_58 : Site RX12 mX12_holdsAct 58 61 mX12_writtenHolds (some 12) 3 := site_V (dk DX12_holdsAct 18 rfl) KX12 w_1563 w_1565 w_68 w_80 kX12_writtenHolds pmX12_writtenHolds (by decide)
set_option maxRecDepth 8000 in
theorem sX12_holdsAct_65 : Site RX12 mX12_holdsAct 65 68 mX12_body (some 12) 2 := site_V (dk DX12_holdsAct 22 rfl) KX12 w_1551 w_1553 w_65 w_80 kX12_body pmX12_body (by decide)
set_option maxRecDepth 8000 in
theorem sX12_holdsAct_71 : Site RX12 mX12_holdsAct 71 74 mX12_knowingHolds (some 12) 3 := site_V (dk DX12_holdsAct 26 rfl) KX12 w_1567 w_1569 w_69 w_80 kX12_knowingHolds pmX12_knowingHolds (by decide)
set_option maxRecDepth 8000 in
theorem sX12_holdsAct_79 : Site RX12 mX12_holdsAct 79 82 mX12_knowingSays (some 12) 3 := site_V (dk DX12_holdsAct 32 rfl) KX12 w_1555 w_1557 w_66 w_80 kX12_knowingSays pmX12_knowingSays (by decide)
set_option maxRecDepth 8000 in
theorem sX12_holdsAct_87 : Site RX12 mX12_holdsAct 87 90 mX12_knowingHolds (some 12) 3 := site_V (dk DX12_holdsAct 38 rfl) KX12 w_1567 w_1569 w_69 w_80 kX12_knowingHolds pmX12_knowingHolds (by decide)
set_option maxRecDepth 8000 in
theorem sX12_knowingTells_3 : Site RX12 mX12_knowingTells 3 6 mX12_body (some 12) 2 := site_V (dk DX12_knowingTells 2 rfl) KX12 w_1551 w_1553 w_65 w_80 kX12_body pmX12_body (by decide)
set_option maxRecDepth 8000 in
theorem w_67 : Cond.selects "NextOneKnowsModel" ({ cls := "NextOneKnowsModel", name := "holdsAct", desc := "(II)I" } : Jvm.MethodName) ({ cls := "NextOneKnowsModel", name := "holdsAct", desc := "(II)I" } : Jvm.MethodName) ∈ TG := tg_p 67 rfl rfl
set_option maxRecDepth 8000 in
theorem w_1559 : (Jvm.Cond.methodLink "NextOneKnowsModel" (406 : Nat) ({ cls := "NextOneKnowsModel", name := "holdsAct", desc := "(II)I" } : Jvm.MethodName)) ∈ TG := tg_7 46 rfl rfl
set_option maxRecDepth 8000 in
theorem w_1561 : (Jvm.Cond.instanceMethod ({ cls := "NextOneKnowsModel", name := "holdsAct", desc := "(II)I" } : Jvm.MethodName)) ∈ TG := tg_7 48 rfl rfl
set_option maxRecDepth 8000 in
theorem sX12_knowingTells_9 : Site RX12 mX12_knowingTells 9 12 mX12_holdsAct (some 12) 3 := site_V (dk DX12_knowingTells 6 rfl) KX12 w_1559 w_1561 w_67 w_80 kX12_holdsAct pmX12_holdsAct (by decide)
set_option maxRecDepth 8000 in
theorem sX12_tellsAct_39 : Site RX12 mX12_tellsAct 39 42 mX12_body (some 12) 2 := site_V (dk DX12_tellsAct 7 rfl) KX12 w_1551 w_1553 w_65 w_80 kX12_body pmX12_body (by decide)
set_option maxRecDepth 8000 in
theorem w_71 : Cond.selects "NextOneKnowsModel" ({ cls := "NextOneKnowsModel", name := "knowingTells", desc := "(II)I" } : Jvm.MethodName) ({ cls := "NextOneKnowsModel", name := "knowingTells", desc := "(II)I" } : Jvm.MethodName) ∈ TG := tg_p 71 rfl rfl
set_option maxRecDepth 8000 in
theorem w_1575 : (Jvm.Cond.methodLink "NextOneKnowsModel" (409 : Nat) ({ cls := "NextOneKnowsModel", name := "knowingTells", desc := "(II)I" } : Jvm.MethodName)) ∈ TG := tg_7 62 rfl rfl
set_option maxRecDepth 8000 in
theorem w_1577 : (Jvm.Cond.instanceMethod ({ cls := "NextOneKnowsModel", name := "knowingTells", desc := "(II)I" } : Jvm.MethodName)) ∈ TG := tg_7 64 rfl rfl
set_option maxRecDepth 8000 in
theorem sX12_tellsAct_45 : Site RX12 mX12_tellsAct 45 48 mX12_knowingTells (some 12) 3 := site_V (dk DX12_tellsAct 11 rfl) KX12 w_1575 w_1577 w_71 w_80 kX12_knowingTells pmX12_knowingTells (by decide)
set_option maxRecDepth 8000 in
theorem sX12_tellsAct_53 : Site RX12 mX12_tellsAct 53 56 mX12_holdsAct (some 12) 3 := site_V (dk DX12_tellsAct 17 rfl) KX12 w_1559 w_1561 w_67 w_80 kX12_holdsAct pmX12_holdsAct (by decide)
set_option maxRecDepth 8000 in
theorem sX12_tellsAct_61 : Site RX12 mX12_tellsAct 61 64 mX12_body (some 12) 2 := site_V (dk DX12_tellsAct 22 rfl) KX12 w_1551 w_1553 w_65 w_80 kX12_body pmX12_body (by decide)
set_option maxRecDepth 8000 in
theorem sX12_tellsAct_69 : Site RX12 mX12_tellsAct 69 72 mX12_knowingTells (some 12) 3 := site_V (dk DX12_tellsAct 28 rfl) KX12 w_1575 w_1577 w_71 w_80 kX12_knowingTells pmX12_knowingTells (by decide)
set_option maxRecDepth 8000 in
theorem sX12_tellsAct_76 : Site RX12 mX12_tellsAct 76 79 mX12_knowingTells (some 12) 3 := site_V (dk DX12_tellsAct 33 rfl) KX12 w_1575 w_1577 w_71 w_80 kX12_knowingTells pmX12_knowingTells (by decide)
set_option maxRecDepth 8000 in
theorem sX12_act_7 : Site RX12 mX12_act 7 10 mX12_isDoing (some 12) 2 := site_V (dk DX12_act 5 rfl) KX12 w_1261 w_1263 w_19 w_80 kX12_isDoing pmX12_isDoing (by decide)
set_option maxRecDepth 8000 in
theorem sX12_act_17 : Site RX12 mX12_act 17 20 mX12_in (some 12) 4 := site_V (dk DX12_act 11 rfl) KX12 w_1249 w_1251 w_17 w_80 kX12_in pmX12_in (by decide)
set_option maxRecDepth 8000 in
theorem sX12_act_32 : Site RX12 mX12_act 32 35 mX12_saysAct (some 12) 3 := site_V (dk DX12_act 20 rfl) KX12 w_1547 w_1549 w_64 w_80 kX12_saysAct pmX12_saysAct (by decide)
set_option maxRecDepth 8000 in
theorem sX12_act_46 : Site RX12 mX12_act 46 49 mX12_holdsAct (some 12) 3 := site_V (dk DX12_act 28 rfl) KX12 w_1559 w_1561 w_67 w_80 kX12_holdsAct pmX12_holdsAct (by decide)
set_option maxRecDepth 8000 in
theorem w_70 : Cond.selects "NextOneKnowsModel" ({ cls := "NextOneKnowsModel", name := "tellsAct", desc := "(II)I" } : Jvm.MethodName) ({ cls := "NextOneKnowsModel", name := "tellsAct", desc := "(II)I" } : Jvm.MethodName) ∈ TG := tg_p 70 rfl rfl
set_option maxRecDepth 8000 in
theorem w_1571 : (Jvm.Cond.methodLink "NextOneKnowsModel" (412 : Nat) ({ cls := "NextOneKnowsModel", name := "tellsAct", desc := "(II)I" } : Jvm.MethodName)) ∈ TG := tg_7 58 rfl rfl
set_option maxRecDepth 8000 in
theorem w_1573 : (Jvm.Cond.instanceMethod ({ cls := "NextOneKnowsModel", name := "tellsAct", desc := "(II)I" } : Jvm.MethodName)) ∈ TG := tg_7 60 rfl rfl
set_option maxRecDepth 8000 in
theorem sX12_act_55 : Site RX12 mX12_act 55 58 mX12_tellsAct (some 12) 3 := site_V (dk DX12_act 33 rfl) KX12 w_1571 w_1573 w_70 w_80 kX12_tellsAct pmX12_tellsAct (by decide)
set_option maxRecDepth 8000 in
theorem sX12_trace_5 : Site RX12 mX12_trace 5 8 mX12_in (some 12) 4 := site_V (dk DX12_trace 4 rfl) KX12 w_1249 w_1251 w_17 w_80 kX12_in pmX12_in (by decide)
set_option maxRecDepth 8000 in
theorem sX12_taken_5 : Site RX12 mX12_taken 5 8 mX12_in (some 12) 4 := site_V (dk DX12_taken 4 rfl) KX12 w_1249 w_1251 w_17 w_80 kX12_in pmX12_in (by decide)
set_option maxRecDepth 8000 in
theorem sX12_taken_16 : Site RX12 mX12_taken 16 19 mX12_isDoing (some 12) 2 := site_V (dk DX12_taken 10 rfl) KX12 w_1261 w_1263 w_19 w_80 kX12_isDoing pmX12_isDoing (by decide)
set_option maxRecDepth 8000 in
theorem sX12_count_70 : Site RX12 mX12_count 70 73 mX12_ones (some 12) 2 := site_V (dk DX12_count 20 rfl) KX12 w_1409 w_1411 w_47 w_80 kX12_ones pmX12_ones (by decide)
set_option maxRecDepth 8000 in
theorem sX12_isTape_4 : Site RX12 mX12_isTape 4 7 mX12_in (some 12) 4 := site_V (dk DX12_isTape 4 rfl) KX12 w_1249 w_1251 w_17 w_80 kX12_in pmX12_in (by decide)
set_option maxRecDepth 8000 in
theorem sX12_tape_2 : Site RX12 mX12_tape 2 5 mX12_isTape (some 12) 2 := site_V (dk DX12_tape 2 rfl) KX12 w_1531 w_1533 w_63 w_80 kX12_isTape pmX12_isTape (by decide)
set_option maxRecDepth 8000 in
theorem sX12_tape_14 : Site RX12 mX12_tape 14 17 mX12_in (some 12) 4 := site_V (dk DX12_tape 10 rfl) KX12 w_1249 w_1251 w_17 w_80 kX12_in pmX12_in (by decide)
set_option maxRecDepth 8000 in
theorem sX12_item_2 : Site RX12 mX12_item 2 5 mX12_isTape (some 12) 2 := site_V (dk DX12_item 2 rfl) KX12 w_1531 w_1533 w_63 w_80 kX12_isTape pmX12_isTape (by decide)
set_option maxRecDepth 8000 in
theorem sX12_item_33 : Site RX12 mX12_item 33 36 mX12_in (some 12) 4 := site_V (dk DX12_item 22 rfl) KX12 w_1249 w_1251 w_17 w_80 kX12_in pmX12_in (by decide)
set_option maxRecDepth 8000 in
theorem w_72 : Cond.selects "NextOneKnowsModel" ({ cls := "NextOneKnowsModel", name := "narrow", desc := "(IJ)J" } : Jvm.MethodName) ({ cls := "NextOneKnowsModel", name := "narrow", desc := "(IJ)J" } : Jvm.MethodName) ∈ TG := tg_p 72 rfl rfl
set_option maxRecDepth 8000 in
theorem w_1599 : (Jvm.Cond.methodLink "NextOneKnowsModel" (415 : Nat) ({ cls := "NextOneKnowsModel", name := "narrow", desc := "(IJ)J" } : Jvm.MethodName)) ∈ TG := tg_7 86 rfl rfl
set_option maxRecDepth 8000 in
theorem w_1601 : (Jvm.Cond.instanceMethod ({ cls := "NextOneKnowsModel", name := "narrow", desc := "(IJ)J" } : Jvm.MethodName)) ∈ TG := tg_7 88 rfl rfl
set_option maxRecDepth 8000 in
theorem sX12_item_60 : Site RX12 mX12_item 60 63 mX12_narrow (some 12) 3 := site_V (dk DX12_item 39 rfl) KX12 w_1599 w_1601 w_72 w_80 kX12_narrow pmX12_narrow (by decide)
set_option maxRecDepth 8000 in
theorem sX12_read_2 : Site RX12 mX12_read 2 5 mX12_isTape (some 12) 2 := site_V (dk DX12_read 2 rfl) KX12 w_1531 w_1533 w_63 w_80 kX12_isTape pmX12_isTape (by decide)
set_option maxRecDepth 8000 in
theorem sX12_read_28 : Site RX12 mX12_read 28 31 mX12_in (some 12) 4 := site_V (dk DX12_read 18 rfl) KX12 w_1249 w_1251 w_17 w_80 kX12_in pmX12_in (by decide)
set_option maxRecDepth 8000 in
theorem sX12_shift_2 : Site RX12 mX12_shift 2 5 mX12_isTape (some 12) 2 := site_V (dk DX12_shift_0 2 rfl) KX12 w_1531 w_1533 w_63 w_80 kX12_isTape pmX12_isTape (by decide)
set_option maxRecDepth 8000 in
theorem sX12_shift_10 : Site RX12 mX12_shift 10 13 mX12_isTape (some 12) 2 := site_V (dk DX12_shift_0 6 rfl) KX12 w_1531 w_1533 w_63 w_80 kX12_isTape pmX12_isTape (by decide)
