set_option maxRecDepth 8000 in
theorem tg_sub {l : List Cond} (ps : List Nat) (h : l = ps.filterMap (fun i => lw_tbl[i]?)) (hg : l.all goodWord = true) : ∀ w ∈ l, w ∈ TG := by
  intro w hw
  have h1 := List.all_eq_true.mp hg w hw
  rw [h] at hw
  obtain ⟨i, -, hi⟩ := List.mem_filterMap.mp hw
  exact tg_of i hi h1
set_option maxRecDepth 20000 in
theorem KX0 : CLS 0 RX0 TX0 16 tyX0 := ⟨rfl, tg_sub [200, 202, 204, 206, 208, 210, 212, 214, 216, 218, 220, 222, 224, 226, 228, 230] (by decide +kernel) (by decide +kernel), tyX0_ok, nmX0, by decide +kernel, by decide⟩
set_option maxRecDepth 20000 in
theorem KX1 : CLS 1 RX1 TX1 6 tyX1 := ⟨rfl, tg_sub [474, 475, 476, 477, 478, 479] (by decide +kernel) (by decide +kernel), tyX1_ok, nmX1, by decide +kernel, by decide⟩
set_option maxRecDepth 20000 in
theorem KX2 : CLS 2 RX2 TX2 6 tyX2 := ⟨rfl, tg_sub [412, 413, 414, 415, 416, 417] (by decide +kernel) (by decide +kernel), tyX2_ok, nmX2, by decide +kernel, by decide⟩
set_option maxRecDepth 20000 in
theorem KX3 : CLS 3 RX3 TX3 12 tyX3 := ⟨rfl, tg_sub [275, 277, 279, 281, 283, 285, 287, 289, 291, 293, 295, 297] (by decide +kernel) (by decide +kernel), tyX3_ok, nmX3, by decide +kernel, by decide⟩
set_option maxRecDepth 20000 in
theorem KX4 : CLS 4 RX4 TX4 6 tyX4 := ⟨rfl, tg_sub [425, 426, 427, 428, 429, 430] (by decide +kernel) (by decide +kernel), tyX4_ok, nmX4, by decide +kernel, by decide⟩
set_option maxRecDepth 20000 in
theorem KX5 : CLS 5 RX5 TX5 14 tyX5 := ⟨rfl, tg_sub [140, 142, 144, 146, 148, 150, 152, 154, 156, 158, 160, 162, 164, 166] (by decide +kernel) (by decide +kernel), tyX5_ok, nmX5, by decide +kernel, by decide⟩
set_option maxRecDepth 20000 in
theorem KX6 : CLS 6 RX6 TX6 6 tyX6 := ⟨rfl, tg_sub [451, 452, 453, 454, 455, 456] (by decide +kernel) (by decide +kernel), tyX6_ok, nmX6, by decide +kernel, by decide⟩
set_option maxRecDepth 20000 in
theorem KX7 : CLS 7 RX7 TX7 2 tyX7 := ⟨rfl, tg_sub [245, 247] (by decide +kernel) (by decide +kernel), tyX7_ok, nmX7, by decide +kernel, by decide⟩
set_option maxRecDepth 20000 in
theorem KX8 : CLS 8 RX8 TX8 6 tyX8 := ⟨rfl, tg_sub [438, 439, 440, 441, 442, 443] (by decide +kernel) (by decide +kernel), tyX8_ok, nmX8, by decide +kernel, by decide⟩
set_option maxRecDepth 20000 in
theorem KX9 : CLS 9 RX9 TX9 6 tyX9 := ⟨rfl, tg_sub [393, 395, 397, 399, 401, 403] (by decide +kernel) (by decide +kernel), tyX9_ok, nmX9, by decide +kernel, by decide⟩
set_option maxRecDepth 20000 in
theorem KX10 : CLS 10 RX10 TX10 6 tyX10 := ⟨rfl, tg_sub [464, 465, 466, 467, 468, 469] (by decide +kernel) (by decide +kernel), tyX10_ok, nmX10, by decide +kernel, by decide⟩
set_option maxRecDepth 20000 in
theorem KX11 : CLS 11 RX11 TX11 12 tyX11 := ⟨rfl, tg_sub [313, 315, 317, 319, 321, 323, 325, 327, 329, 331, 333, 335] (by decide +kernel) (by decide +kernel), tyX11_ok, nmX11, by decide +kernel, by decide⟩
set_option maxRecDepth 20000 in
theorem KX12 : CLS 12 RX12 TX12 73 tyX12 := ⟨rfl, tg_sub [1097, 1099, 1101, 1103, 1105, 1107, 1109, 1111, 1113, 1115, 1117, 1119, 1121, 1123, 1125, 1127, 1129, 1131, 1133, 1135, 1137, 1139, 1141, 1143, 1145, 1147, 1149, 1151, 1153, 1155, 1157, 1159, 1161, 1163, 1165, 1167, 1169, 1171, 1173, 1175, 1177, 1179, 1181, 1183, 1185, 1187, 1189, 1191, 1193, 1195, 1197, 1199, 1201, 1203, 1205, 1207, 1209, 1211, 1213, 1215, 1217, 1219, 1221, 1223, 1225, 1227, 1229, 1231, 1233, 1235, 1237, 1239, 1241] (by decide +kernel) (by decide +kernel), tyX12_ok, nmX12, by decide +kernel, by decide⟩
set_option maxRecDepth 8000 in
theorem fX5_11 : Fln RX5 RX5 TX5 11 0 := ⟨tg_of 107 (by decide +kernel) rfl, Or.inl rfl⟩
set_option maxRecDepth 8000 in
theorem fX5_17 : Fln RX5 RX5 TX5 17 1 := ⟨tg_of 108 (by decide +kernel) rfl, Or.inl rfl⟩
set_option maxRecDepth 8000 in
theorem fX11_129 : Fln RX11 RX5 TX5 129 1 := ⟨tg_of 109 (by decide +kernel) rfl, Or.inl rfl⟩
set_option maxRecDepth 8000 in
theorem fX11_72 : Fln RX11 RX5 TX5 72 2 := ⟨tg_of 110 (by decide +kernel) rfl, Or.inl rfl⟩
set_option maxRecDepth 8000 in
theorem fX5_36 : Fln RX5 RX5 TX5 36 2 := ⟨tg_of 111 (by decide +kernel) rfl, Or.inl rfl⟩
set_option maxRecDepth 8000 in
theorem fX0_69 : Fln RX0 RX5 TX5 69 2 := ⟨tg_of 112 (by decide +kernel) rfl, Or.inl rfl⟩
set_option maxRecDepth 8000 in
theorem fX5_40 : Fln RX5 RX5 TX5 40 3 := ⟨tg_of 113 (by decide +kernel) rfl, Or.inl rfl⟩
set_option maxRecDepth 8000 in
theorem fX11_116 : Fln RX11 RX5 TX5 116 3 := ⟨tg_of 114 (by decide +kernel) rfl, Or.inl rfl⟩
set_option maxRecDepth 8000 in
theorem fX0_161 : Fln RX0 RX5 TX5 161 3 := ⟨tg_of 115 (by decide +kernel) rfl, Or.inl rfl⟩
set_option maxRecDepth 8000 in
theorem fX5_43 : Fln RX5 RX5 TX5 43 4 := ⟨tg_of 116 (by decide +kernel) rfl, Or.inl rfl⟩
set_option maxRecDepth 8000 in
theorem fX11_109 : Fln RX11 RX5 TX5 109 4 := ⟨tg_of 117 (by decide +kernel) rfl, Or.inl rfl⟩
set_option maxRecDepth 8000 in
theorem fX0_166 : Fln RX0 RX5 TX5 166 4 := ⟨tg_of 118 (by decide +kernel) rfl, Or.inl rfl⟩
set_option maxRecDepth 8000 in
theorem fX5_21 : Fln RX5 RX5 TX5 21 5 := ⟨tg_of 119 (by decide +kernel) rfl, Or.inl rfl⟩
set_option maxRecDepth 8000 in
theorem fX0_101 : Fln RX0 RX5 TX5 101 5 := ⟨tg_of 120 (by decide +kernel) rfl, Or.inl rfl⟩
set_option maxRecDepth 8000 in
theorem fX11_139 : Fln RX11 RX5 TX5 139 5 := ⟨tg_of 121 (by decide +kernel) rfl, Or.inl rfl⟩
set_option maxRecDepth 8000 in
theorem fX0_57 : Fln RX0 RX5 TX5 57 6 := ⟨tg_of 122 (by decide +kernel) rfl, Or.inl rfl⟩
set_option maxRecDepth 8000 in
theorem fX5_46 : Fln RX5 RX5 TX5 46 6 := ⟨tg_of 123 (by decide +kernel) rfl, Or.inl rfl⟩
set_option maxRecDepth 8000 in
theorem fX11_122 : Fln RX11 RX5 TX5 122 6 := ⟨tg_of 124 (by decide +kernel) rfl, Or.inl rfl⟩
set_option maxRecDepth 8000 in
theorem fX5_49 : Fln RX5 RX5 TX5 49 7 := ⟨tg_of 125 (by decide +kernel) rfl, Or.inl rfl⟩
set_option maxRecDepth 8000 in
theorem fX11_162 : Fln RX11 RX5 TX5 162 7 := ⟨tg_of 126 (by decide +kernel) rfl, Or.inl rfl⟩
set_option maxRecDepth 8000 in
theorem fX5_52 : Fln RX5 RX5 TX5 52 8 := ⟨tg_of 127 (by decide +kernel) rfl, Or.inl rfl⟩
set_option maxRecDepth 8000 in
theorem fX11_165 : Fln RX11 RX5 TX5 165 8 := ⟨tg_of 128 (by decide +kernel) rfl, Or.inl rfl⟩
set_option maxRecDepth 8000 in
theorem fX5_55 : Fln RX5 RX5 TX5 55 9 := ⟨tg_of 129 (by decide +kernel) rfl, Or.inl rfl⟩
set_option maxRecDepth 8000 in
theorem fX11_168 : Fln RX11 RX5 TX5 168 9 := ⟨tg_of 130 (by decide +kernel) rfl, Or.inl rfl⟩
set_option maxRecDepth 8000 in
theorem fX5_24 : Fln RX5 RX5 TX5 24 10 := ⟨tg_of 131 (by decide +kernel) rfl, Or.inl rfl⟩
set_option maxRecDepth 8000 in
theorem fX0_187 : Fln RX0 RX5 TX5 187 10 := ⟨tg_of 132 (by decide +kernel) rfl, Or.inl rfl⟩
set_option maxRecDepth 8000 in
theorem fX5_27 : Fln RX5 RX5 TX5 27 11 := ⟨tg_of 133 (by decide +kernel) rfl, Or.inl rfl⟩
set_option maxRecDepth 8000 in
theorem fX0_190 : Fln RX0 RX5 TX5 190 11 := ⟨tg_of 134 (by decide +kernel) rfl, Or.inl rfl⟩
set_option maxRecDepth 8000 in
theorem fX5_58 : Fln RX5 RX5 TX5 58 12 := ⟨tg_of 135 (by decide +kernel) rfl, Or.inl rfl⟩
set_option maxRecDepth 8000 in
theorem fX0_184 : Fln RX0 RX5 TX5 184 12 := ⟨tg_of 136 (by decide +kernel) rfl, Or.inl rfl⟩
set_option maxRecDepth 8000 in
theorem fX11_231 : Fln RX11 RX5 TX5 231 12 := ⟨tg_of 137 (by decide +kernel) rfl, Or.inl rfl⟩
set_option maxRecDepth 8000 in
theorem fX5_61 : Fln RX5 RX5 TX5 61 13 := ⟨tg_of 138 (by decide +kernel) rfl, Or.inl rfl⟩
set_option maxRecDepth 8000 in
theorem fX11_152 : Fln RX11 RX5 TX5 152 13 := ⟨tg_of 139 (by decide +kernel) rfl, Or.inl rfl⟩
set_option maxRecDepth 8000 in
theorem fX0_34 : Fln RX0 RX0 TX0 34 0 := ⟨tg_of 178 (by decide +kernel) rfl, Or.inl rfl⟩
set_option maxRecDepth 8000 in
theorem fX0_47 : Fln RX0 RX0 TX0 47 1 := ⟨tg_of 179 (by decide +kernel) rfl, Or.inl rfl⟩
set_option maxRecDepth 8000 in
theorem fX0_9 : Fln RX0 RX0 TX0 9 2 := ⟨tg_of 180 (by decide +kernel) rfl, Or.inl rfl⟩
set_option maxRecDepth 8000 in
theorem fX0_17 : Fln RX0 RX0 TX0 17 3 := ⟨tg_of 181 (by decide +kernel) rfl, Or.inl rfl⟩
set_option maxRecDepth 8000 in
theorem fX0_22 : Fln RX0 RX0 TX0 22 4 := ⟨tg_of 182 (by decide +kernel) rfl, Or.inl rfl⟩
set_option maxRecDepth 8000 in
theorem fX0_25 : Fln RX0 RX0 TX0 25 5 := ⟨tg_of 183 (by decide +kernel) rfl, Or.inl rfl⟩
set_option maxRecDepth 8000 in
theorem fX0_114 : Fln RX0 RX0 TX0 114 6 := ⟨tg_of 184 (by decide +kernel) rfl, Or.inl rfl⟩
set_option maxRecDepth 8000 in
theorem fX0_117 : Fln RX0 RX0 TX0 117 7 := ⟨tg_of 185 (by decide +kernel) rfl, Or.inl rfl⟩
set_option maxRecDepth 8000 in
theorem fX0_140 : Fln RX0 RX0 TX0 140 8 := ⟨tg_of 186 (by decide +kernel) rfl, Or.inl rfl⟩
set_option maxRecDepth 8000 in
theorem fX0_111 : Fln RX0 RX0 TX0 111 9 := ⟨tg_of 187 (by decide +kernel) rfl, Or.inl rfl⟩
set_option maxRecDepth 8000 in
theorem fX11_195 : Fln RX11 RX0 TX0 195 9 := ⟨tg_of 188 (by decide +kernel) rfl, Or.inl rfl⟩
set_option maxRecDepth 8000 in
theorem fX0_120 : Fln RX0 RX0 TX0 120 10 := ⟨tg_of 189 (by decide +kernel) rfl, Or.inl rfl⟩
set_option maxRecDepth 8000 in
theorem fX11_193 : Fln RX11 RX0 TX0 193 10 := ⟨tg_of 190 (by decide +kernel) rfl, Or.inl rfl⟩
set_option maxRecDepth 8000 in
theorem fX0_123 : Fln RX0 RX0 TX0 123 11 := ⟨tg_of 191 (by decide +kernel) rfl, Or.inl rfl⟩
set_option maxRecDepth 8000 in
theorem fX11_194 : Fln RX11 RX0 TX0 194 11 := ⟨tg_of 192 (by decide +kernel) rfl, Or.inl rfl⟩
set_option maxRecDepth 8000 in
theorem fX0_126 : Fln RX0 RX0 TX0 126 12 := ⟨tg_of 193 (by decide +kernel) rfl, Or.inl rfl⟩
set_option maxRecDepth 8000 in
theorem fX11_196 : Fln RX11 RX0 TX0 196 12 := ⟨tg_of 194 (by decide +kernel) rfl, Or.inl rfl⟩
set_option maxRecDepth 8000 in
theorem fX0_129 : Fln RX0 RX0 TX0 129 13 := ⟨tg_of 195 (by decide +kernel) rfl, Or.inl rfl⟩
set_option maxRecDepth 8000 in
theorem fX11_199 : Fln RX11 RX0 TX0 199 13 := ⟨tg_of 196 (by decide +kernel) rfl, Or.inl rfl⟩
set_option maxRecDepth 8000 in
theorem fX0_28 : Fln RX0 RX0 TX0 28 14 := ⟨tg_of 197 (by decide +kernel) rfl, Or.inl rfl⟩
set_option maxRecDepth 8000 in
theorem fX0_31 : Fln RX0 RX0 TX0 31 15 := ⟨tg_of 198 (by decide +kernel) rfl, Or.inl rfl⟩
set_option maxRecDepth 8000 in
theorem fX11_205 : Fln RX11 RX0 TX0 205 15 := ⟨tg_of 199 (by decide +kernel) rfl, Or.inl rfl⟩
set_option maxRecDepth 8000 in
theorem fX7_7 : Fln RX7 RX7 TX7 7 0 := ⟨tg_of 241 (by decide +kernel) rfl, Or.inl rfl⟩
set_option maxRecDepth 8000 in
theorem fX11_271 : Fln RX11 RX7 TX7 271 0 := ⟨tg_of 242 (by decide +kernel) rfl, Or.inl rfl⟩
set_option maxRecDepth 8000 in
theorem fX7_13 : Fln RX7 RX7 TX7 13 1 := ⟨tg_of 243 (by decide +kernel) rfl, Or.inl rfl⟩
set_option maxRecDepth 8000 in
theorem fX11_258 : Fln RX11 RX7 TX7 258 1 := ⟨tg_of 244 (by decide +kernel) rfl, Or.inl rfl⟩
set_option maxRecDepth 8000 in
theorem fX3_51 : Fln RX3 RX3 TX3 51 0 := ⟨tg_of 261 (by decide +kernel) rfl, Or.inl rfl⟩
set_option maxRecDepth 8000 in
theorem fX5_83 : Fln RX5 RX3 TX3 83 0 := ⟨tg_of 262 (by decide +kernel) rfl, Or.inl rfl⟩
set_option maxRecDepth 8000 in
theorem fX3_54 : Fln RX3 RX3 TX3 54 1 := ⟨tg_of 263 (by decide +kernel) rfl, Or.inl rfl⟩
set_option maxRecDepth 8000 in
theorem fX5_86 : Fln RX5 RX3 TX3 86 1 := ⟨tg_of 264 (by decide +kernel) rfl, Or.inl rfl⟩
set_option maxRecDepth 8000 in
theorem fX3_45 : Fln RX3 RX3 TX3 45 2 := ⟨tg_of 265 (by decide +kernel) rfl, Or.inl rfl⟩
set_option maxRecDepth 8000 in
theorem fX3_11 : Fln RX3 RX3 TX3 11 3 := ⟨tg_of 266 (by decide +kernel) rfl, Or.inl rfl⟩
set_option maxRecDepth 8000 in
theorem fX3_15 : Fln RX3 RX3 TX3 15 4 := ⟨tg_of 267 (by decide +kernel) rfl, Or.inl rfl⟩
set_option maxRecDepth 8000 in
theorem fX3_18 : Fln RX3 RX3 TX3 18 5 := ⟨tg_of 268 (by decide +kernel) rfl, Or.inl rfl⟩
set_option maxRecDepth 8000 in
theorem fX3_21 : Fln RX3 RX3 TX3 21 6 := ⟨tg_of 269 (by decide +kernel) rfl, Or.inl rfl⟩
set_option maxRecDepth 8000 in
theorem fX3_48 : Fln RX3 RX3 TX3 48 7 := ⟨tg_of 270 (by decide +kernel) rfl, Or.inl rfl⟩
set_option maxRecDepth 8000 in
theorem fX3_24 : Fln RX3 RX3 TX3 24 8 := ⟨tg_of 271 (by decide +kernel) rfl, Or.inl rfl⟩
set_option maxRecDepth 8000 in
theorem fX3_34 : Fln RX3 RX3 TX3 34 9 := ⟨tg_of 272 (by decide +kernel) rfl, Or.inl rfl⟩
set_option maxRecDepth 8000 in
theorem fX3_38 : Fln RX3 RX3 TX3 38 10 := ⟨tg_of 273 (by decide +kernel) rfl, Or.inl rfl⟩
set_option maxRecDepth 8000 in
theorem fX3_41 : Fln RX3 RX3 TX3 41 11 := ⟨tg_of 274 (by decide +kernel) rfl, Or.inl rfl⟩
set_option maxRecDepth 8000 in
theorem fX11_12 : Fln RX11 RX11 TX11 12 0 := ⟨tg_of 301 (by decide +kernel) rfl, Or.inl rfl⟩
set_option maxRecDepth 8000 in
theorem fX11_18 : Fln RX11 RX11 TX11 18 1 := ⟨tg_of 302 (by decide +kernel) rfl, Or.inl rfl⟩
set_option maxRecDepth 8000 in
theorem fX11_254 : Fln RX11 RX11 TX11 254 2 := ⟨tg_of 303 (by decide +kernel) rfl, Or.inl rfl⟩
set_option maxRecDepth 8000 in
theorem fX11_26 : Fln RX11 RX11 TX11 26 3 := ⟨tg_of 304 (by decide +kernel) rfl, Or.inl rfl⟩
set_option maxRecDepth 8000 in
theorem fX11_32 : Fln RX11 RX11 TX11 32 4 := ⟨tg_of 305 (by decide +kernel) rfl, Or.inl rfl⟩
set_option maxRecDepth 8000 in
theorem fX11_145 : Fln RX11 RX11 TX11 145 5 := ⟨tg_of 306 (by decide +kernel) rfl, Or.inl rfl⟩
set_option maxRecDepth 8000 in
theorem fX11_36 : Fln RX11 RX11 TX11 36 6 := ⟨tg_of 307 (by decide +kernel) rfl, Or.inl rfl⟩
set_option maxRecDepth 8000 in
theorem fX11_142 : Fln RX11 RX11 TX11 142 7 := ⟨tg_of 308 (by decide +kernel) rfl, Or.inl rfl⟩
set_option maxRecDepth 8000 in
theorem fX11_43 : Fln RX11 RX11 TX11 43 8 := ⟨tg_of 309 (by decide +kernel) rfl, Or.inl rfl⟩
set_option maxRecDepth 8000 in
theorem fX11_47 : Fln RX11 RX11 TX11 47 9 := ⟨tg_of 310 (by decide +kernel) rfl, Or.inl rfl⟩
set_option maxRecDepth 8000 in
theorem fX11_51 : Fln RX11 RX11 TX11 51 10 := ⟨tg_of 311 (by decide +kernel) rfl, Or.inl rfl⟩
set_option maxRecDepth 8000 in
theorem fX11_56 : Fln RX11 RX11 TX11 56 11 := ⟨tg_of 312 (by decide +kernel) rfl, Or.inl rfl⟩
set_option maxRecDepth 8000 in
theorem fX1_9 : Fln RX1 RX1 TX1 9 0 := ⟨tg_of 360 (by decide +kernel) rfl, Or.inl rfl⟩
set_option maxRecDepth 8000 in
theorem fX11_132 : Fln RX11 RX1 TX1 132 0 := ⟨tg_of 361 (by decide +kernel) rfl, Or.inl rfl⟩
set_option maxRecDepth 8000 in
theorem fX6_25 : Fln RX6 RX6 TX6 25 0 := ⟨tg_of 362 (by decide +kernel) rfl, Or.inr (tg_of 363 (by decide +kernel) rfl)⟩
set_option maxRecDepth 8000 in
theorem fX0_93 : Fln RX0 RX1 TX1 93 0 := ⟨tg_of 364 (by decide +kernel) rfl, Or.inl rfl⟩
set_option maxRecDepth 8000 in
theorem fX3_101 : Fln RX3 RX1 TX1 101 0 := ⟨tg_of 365 (by decide +kernel) rfl, Or.inl rfl⟩
set_option maxRecDepth 8000 in
theorem fX1_15 : Fln RX1 RX1 TX1 15 1 := ⟨tg_of 366 (by decide +kernel) rfl, Or.inl rfl⟩
set_option maxRecDepth 8000 in
theorem fX9_13 : Fln RX9 RX9 TX9 13 1 := ⟨tg_of 367 (by decide +kernel) rfl, Or.inr (tg_of 368 (by decide +kernel) rfl)⟩
set_option maxRecDepth 8000 in
theorem fX10_11 : Fln RX10 RX10 TX10 11 1 := ⟨tg_of 369 (by decide +kernel) rfl, Or.inr (tg_of 370 (by decide +kernel) rfl)⟩
set_option maxRecDepth 8000 in
theorem fX6_13 : Fln RX6 RX6 TX6 13 1 := ⟨tg_of 371 (by decide +kernel) rfl, Or.inr (tg_of 372 (by decide +kernel) rfl)⟩
set_option maxRecDepth 8000 in
theorem fX8_13 : Fln RX8 RX8 TX8 13 1 := ⟨tg_of 373 (by decide +kernel) rfl, Or.inr (tg_of 374 (by decide +kernel) rfl)⟩
set_option maxRecDepth 8000 in
theorem fX11_94 : Fln RX11 RX1 TX1 94 1 := ⟨tg_of 375 (by decide +kernel) rfl, Or.inl rfl⟩
set_option maxRecDepth 8000 in
theorem fX2_9 : Fln RX2 RX2 TX2 9 1 := ⟨tg_of 376 (by decide +kernel) rfl, Or.inr (tg_of 377 (by decide +kernel) rfl)⟩
set_option maxRecDepth 8000 in
theorem fX4_13 : Fln RX4 RX4 TX4 13 1 := ⟨tg_of 378 (by decide +kernel) rfl, Or.inr (tg_of 379 (by decide +kernel) rfl)⟩
set_option maxRecDepth 8000 in
theorem fX3_112 : Fln RX3 RX1 TX1 112 1 := ⟨tg_of 380 (by decide +kernel) rfl, Or.inl rfl⟩
set_option maxRecDepth 8000 in
theorem fX1_24 : Fln RX1 RX1 TX1 24 2 := ⟨tg_of 381 (by decide +kernel) rfl, Or.inl rfl⟩
set_option maxRecDepth 8000 in
theorem fX11_97 : Fln RX11 RX1 TX1 97 2 := ⟨tg_of 382 (by decide +kernel) rfl, Or.inl rfl⟩
set_option maxRecDepth 8000 in
theorem fX3_109 : Fln RX3 RX1 TX1 109 2 := ⟨tg_of 383 (by decide +kernel) rfl, Or.inl rfl⟩
set_option maxRecDepth 8000 in
theorem fX1_27 : Fln RX1 RX1 TX1 27 3 := ⟨tg_of 384 (by decide +kernel) rfl, Or.inl rfl⟩
set_option maxRecDepth 8000 in
theorem fX11_100 : Fln RX11 RX1 TX1 100 3 := ⟨tg_of 385 (by decide +kernel) rfl, Or.inl rfl⟩
set_option maxRecDepth 8000 in
theorem fX1_30 : Fln RX1 RX1 TX1 30 4 := ⟨tg_of 386 (by decide +kernel) rfl, Or.inl rfl⟩
set_option maxRecDepth 8000 in
theorem fX11_103 : Fln RX11 RX1 TX1 103 4 := ⟨tg_of 387 (by decide +kernel) rfl, Or.inl rfl⟩
set_option maxRecDepth 8000 in
theorem fX5_80 : Fln RX5 RX1 TX1 80 4 := ⟨tg_of 388 (by decide +kernel) rfl, Or.inl rfl⟩
set_option maxRecDepth 8000 in
theorem fX3_115 : Fln RX3 RX1 TX1 115 4 := ⟨tg_of 389 (by decide +kernel) rfl, Or.inl rfl⟩
set_option maxRecDepth 8000 in
theorem fX1_33 : Fln RX1 RX1 TX1 33 5 := ⟨tg_of 390 (by decide +kernel) rfl, Or.inl rfl⟩
set_option maxRecDepth 8000 in
theorem fX11_106 : Fln RX11 RX1 TX1 106 5 := ⟨tg_of 391 (by decide +kernel) rfl, Or.inl rfl⟩
set_option maxRecDepth 8000 in
theorem fX0_108 : Fln RX0 RX1 TX1 108 5 := ⟨tg_of 392 (by decide +kernel) rfl, Or.inl rfl⟩
set_option maxRecDepth 8000 in
theorem fX12_7 : Fln RX12 RX12 TX12 7 0 := ⟨tg_of 1024 (by decide +kernel) rfl, Or.inl rfl⟩
set_option maxRecDepth 8000 in
theorem fX12_13 : Fln RX12 RX12 TX12 13 1 := ⟨tg_of 1025 (by decide +kernel) rfl, Or.inl rfl⟩
set_option maxRecDepth 8000 in
theorem fX12_16 : Fln RX12 RX12 TX12 16 2 := ⟨tg_of 1026 (by decide +kernel) rfl, Or.inl rfl⟩
set_option maxRecDepth 8000 in
theorem fX12_19 : Fln RX12 RX12 TX12 19 3 := ⟨tg_of 1027 (by decide +kernel) rfl, Or.inl rfl⟩
set_option maxRecDepth 8000 in
theorem fX12_22 : Fln RX12 RX12 TX12 22 4 := ⟨tg_of 1028 (by decide +kernel) rfl, Or.inl rfl⟩
set_option maxRecDepth 8000 in
theorem fX12_25 : Fln RX12 RX12 TX12 25 5 := ⟨tg_of 1029 (by decide +kernel) rfl, Or.inl rfl⟩
set_option maxRecDepth 8000 in
theorem fX12_28 : Fln RX12 RX12 TX12 28 6 := ⟨tg_of 1030 (by decide +kernel) rfl, Or.inl rfl⟩
set_option maxRecDepth 8000 in
theorem fX12_31 : Fln RX12 RX12 TX12 31 7 := ⟨tg_of 1031 (by decide +kernel) rfl, Or.inl rfl⟩
set_option maxRecDepth 8000 in
theorem fX12_35 : Fln RX12 RX12 TX12 35 8 := ⟨tg_of 1032 (by decide +kernel) rfl, Or.inl rfl⟩
set_option maxRecDepth 8000 in
theorem fX12_38 : Fln RX12 RX12 TX12 38 9 := ⟨tg_of 1033 (by decide +kernel) rfl, Or.inl rfl⟩
set_option maxRecDepth 8000 in
theorem fX12_41 : Fln RX12 RX12 TX12 41 10 := ⟨tg_of 1034 (by decide +kernel) rfl, Or.inl rfl⟩
set_option maxRecDepth 8000 in
theorem fX12_44 : Fln RX12 RX12 TX12 44 11 := ⟨tg_of 1035 (by decide +kernel) rfl, Or.inl rfl⟩
set_option maxRecDepth 8000 in
theorem fX12_47 : Fln RX12 RX12 TX12 47 12 := ⟨tg_of 1036 (by decide +kernel) rfl, Or.inl rfl⟩
set_option maxRecDepth 8000 in
theorem fX12_50 : Fln RX12 RX12 TX12 50 13 := ⟨tg_of 1037 (by decide +kernel) rfl, Or.inl rfl⟩
set_option maxRecDepth 8000 in
theorem fX12_53 : Fln RX12 RX12 TX12 53 14 := ⟨tg_of 1038 (by decide +kernel) rfl, Or.inl rfl⟩
set_option maxRecDepth 8000 in
theorem fX12_56 : Fln RX12 RX12 TX12 56 15 := ⟨tg_of 1039 (by decide +kernel) rfl, Or.inl rfl⟩
set_option maxRecDepth 8000 in
theorem fX12_59 : Fln RX12 RX12 TX12 59 16 := ⟨tg_of 1040 (by decide +kernel) rfl, Or.inl rfl⟩
set_option maxRecDepth 8000 in
theorem fX12_62 : Fln RX12 RX12 TX12 62 17 := ⟨tg_of 1041 (by decide +kernel) rfl, Or.inl rfl⟩
set_option maxRecDepth 8000 in
theorem fX12_65 : Fln RX12 RX12 TX12 65 18 := ⟨tg_of 1042 (by decide +kernel) rfl, Or.inl rfl⟩
set_option maxRecDepth 8000 in
theorem fX12_68 : Fln RX12 RX12 TX12 68 19 := ⟨tg_of 1043 (by decide +kernel) rfl, Or.inl rfl⟩
set_option maxRecDepth 8000 in
theorem fX12_71 : Fln RX12 RX12 TX12 71 20 := ⟨tg_of 1044 (by decide +kernel) rfl, Or.inl rfl⟩
set_option maxRecDepth 8000 in
theorem fX12_74 : Fln RX12 RX12 TX12 74 21 := ⟨tg_of 1045 (by decide +kernel) rfl, Or.inl rfl⟩
set_option maxRecDepth 8000 in
theorem fX12_77 : Fln RX12 RX12 TX12 77 22 := ⟨tg_of 1046 (by decide +kernel) rfl, Or.inl rfl⟩
set_option maxRecDepth 8000 in
theorem fX12_80 : Fln RX12 RX12 TX12 80 23 := ⟨tg_of 1047 (by decide +kernel) rfl, Or.inl rfl⟩
set_option maxRecDepth 8000 in
theorem fX12_83 : Fln RX12 RX12 TX12 83 24 := ⟨tg_of 1048 (by decide +kernel) rfl, Or.inl rfl⟩
set_option maxRecDepth 8000 in
theorem fX12_86 : Fln RX12 RX12 TX12 86 25 := ⟨tg_of 1049 (by decide +kernel) rfl, Or.inl rfl⟩
set_option maxRecDepth 8000 in
theorem fX12_89 : Fln RX12 RX12 TX12 89 26 := ⟨tg_of 1050 (by decide +kernel) rfl, Or.inl rfl⟩
set_option maxRecDepth 8000 in
theorem fX12_92 : Fln RX12 RX12 TX12 92 27 := ⟨tg_of 1051 (by decide +kernel) rfl, Or.inl rfl⟩
set_option maxRecDepth 8000 in
theorem fX12_95 : Fln RX12 RX12 TX12 95 28 := ⟨tg_of 1052 (by decide +kernel) rfl, Or.inl rfl⟩
set_option maxRecDepth 8000 in
theorem fX12_98 : Fln RX12 RX12 TX12 98 29 := ⟨tg_of 1053 (by decide +kernel) rfl, Or.inl rfl⟩
set_option maxRecDepth 8000 in
theorem fX12_101 : Fln RX12 RX12 TX12 101 30 := ⟨tg_of 1054 (by decide +kernel) rfl, Or.inl rfl⟩
set_option maxRecDepth 8000 in
theorem fX12_104 : Fln RX12 RX12 TX12 104 31 := ⟨tg_of 1055 (by decide +kernel) rfl, Or.inl rfl⟩
set_option maxRecDepth 8000 in
theorem fX12_107 : Fln RX12 RX12 TX12 107 32 := ⟨tg_of 1056 (by decide +kernel) rfl, Or.inl rfl⟩
set_option maxRecDepth 8000 in
theorem fX12_111 : Fln RX12 RX12 TX12 111 33 := ⟨tg_of 1057 (by decide +kernel) rfl, Or.inl rfl⟩
set_option maxRecDepth 8000 in
theorem fX12_114 : Fln RX12 RX12 TX12 114 34 := ⟨tg_of 1058 (by decide +kernel) rfl, Or.inl rfl⟩
set_option maxRecDepth 8000 in
theorem fX12_117 : Fln RX12 RX12 TX12 117 35 := ⟨tg_of 1059 (by decide +kernel) rfl, Or.inl rfl⟩
set_option maxRecDepth 8000 in
theorem fX12_120 : Fln RX12 RX12 TX12 120 36 := ⟨tg_of 1060 (by decide +kernel) rfl, Or.inl rfl⟩
set_option maxRecDepth 8000 in
theorem fX12_123 : Fln RX12 RX12 TX12 123 37 := ⟨tg_of 1061 (by decide +kernel) rfl, Or.inl rfl⟩
set_option maxRecDepth 8000 in
theorem fX12_126 : Fln RX12 RX12 TX12 126 38 := ⟨tg_of 1062 (by decide +kernel) rfl, Or.inl rfl⟩
set_option maxRecDepth 8000 in
theorem fX12_129 : Fln RX12 RX12 TX12 129 39 := ⟨tg_of 1063 (by decide +kernel) rfl, Or.inl rfl⟩
set_option maxRecDepth 8000 in
theorem fX12_132 : Fln RX12 RX12 TX12 132 40 := ⟨tg_of 1064 (by decide +kernel) rfl, Or.inl rfl⟩
set_option maxRecDepth 8000 in
theorem fX12_135 : Fln RX12 RX12 TX12 135 41 := ⟨tg_of 1065 (by decide +kernel) rfl, Or.inl rfl⟩
set_option maxRecDepth 8000 in
theorem fX12_138 : Fln RX12 RX12 TX12 138 42 := ⟨tg_of 1066 (by decide +kernel) rfl, Or.inl rfl⟩
set_option maxRecDepth 8000 in
theorem fX12_141 : Fln RX12 RX12 TX12 141 43 := ⟨tg_of 1067 (by decide +kernel) rfl, Or.inl rfl⟩
set_option maxRecDepth 8000 in
theorem fX12_144 : Fln RX12 RX12 TX12 144 44 := ⟨tg_of 1068 (by decide +kernel) rfl, Or.inl rfl⟩
set_option maxRecDepth 8000 in
theorem fX12_147 : Fln RX12 RX12 TX12 147 45 := ⟨tg_of 1069 (by decide +kernel) rfl, Or.inl rfl⟩
set_option maxRecDepth 8000 in
theorem fX12_150 : Fln RX12 RX12 TX12 150 46 := ⟨tg_of 1070 (by decide +kernel) rfl, Or.inl rfl⟩
set_option maxRecDepth 8000 in
theorem fX12_153 : Fln RX12 RX12 TX12 153 47 := ⟨tg_of 1071 (by decide +kernel) rfl, Or.inl rfl⟩
set_option maxRecDepth 8000 in
theorem fX12_157 : Fln RX12 RX12 TX12 157 48 := ⟨tg_of 1072 (by decide +kernel) rfl, Or.inl rfl⟩
set_option maxRecDepth 8000 in
theorem fX12_160 : Fln RX12 RX12 TX12 160 49 := ⟨tg_of 1073 (by decide +kernel) rfl, Or.inl rfl⟩
set_option maxRecDepth 8000 in
theorem fX12_163 : Fln RX12 RX12 TX12 163 50 := ⟨tg_of 1074 (by decide +kernel) rfl, Or.inl rfl⟩
set_option maxRecDepth 8000 in
theorem fX12_166 : Fln RX12 RX12 TX12 166 51 := ⟨tg_of 1075 (by decide +kernel) rfl, Or.inl rfl⟩
set_option maxRecDepth 8000 in
theorem fX12_169 : Fln RX12 RX12 TX12 169 52 := ⟨tg_of 1076 (by decide +kernel) rfl, Or.inl rfl⟩
set_option maxRecDepth 8000 in
theorem fX12_172 : Fln RX12 RX12 TX12 172 53 := ⟨tg_of 1077 (by decide +kernel) rfl, Or.inl rfl⟩
set_option maxRecDepth 8000 in
theorem fX12_175 : Fln RX12 RX12 TX12 175 54 := ⟨tg_of 1078 (by decide +kernel) rfl, Or.inl rfl⟩
set_option maxRecDepth 8000 in
theorem fX12_178 : Fln RX12 RX12 TX12 178 55 := ⟨tg_of 1079 (by decide +kernel) rfl, Or.inl rfl⟩
set_option maxRecDepth 8000 in
theorem fX12_181 : Fln RX12 RX12 TX12 181 56 := ⟨tg_of 1080 (by decide +kernel) rfl, Or.inl rfl⟩
set_option maxRecDepth 8000 in
theorem fX12_184 : Fln RX12 RX12 TX12 184 57 := ⟨tg_of 1081 (by decide +kernel) rfl, Or.inl rfl⟩
set_option maxRecDepth 8000 in
theorem fX12_187 : Fln RX12 RX12 TX12 187 58 := ⟨tg_of 1082 (by decide +kernel) rfl, Or.inl rfl⟩
set_option maxRecDepth 8000 in
theorem fX12_190 : Fln RX12 RX12 TX12 190 59 := ⟨tg_of 1083 (by decide +kernel) rfl, Or.inl rfl⟩
set_option maxRecDepth 8000 in
theorem fX12_193 : Fln RX12 RX12 TX12 193 60 := ⟨tg_of 1084 (by decide +kernel) rfl, Or.inl rfl⟩
set_option maxRecDepth 8000 in
theorem fX12_196 : Fln RX12 RX12 TX12 196 61 := ⟨tg_of 1085 (by decide +kernel) rfl, Or.inl rfl⟩
set_option maxRecDepth 8000 in
theorem fX12_199 : Fln RX12 RX12 TX12 199 62 := ⟨tg_of 1086 (by decide +kernel) rfl, Or.inl rfl⟩
set_option maxRecDepth 8000 in
theorem fX12_202 : Fln RX12 RX12 TX12 202 63 := ⟨tg_of 1087 (by decide +kernel) rfl, Or.inl rfl⟩
set_option maxRecDepth 8000 in
theorem fX12_205 : Fln RX12 RX12 TX12 205 64 := ⟨tg_of 1088 (by decide +kernel) rfl, Or.inl rfl⟩
set_option maxRecDepth 8000 in
theorem fX12_208 : Fln RX12 RX12 TX12 208 65 := ⟨tg_of 1089 (by decide +kernel) rfl, Or.inl rfl⟩
set_option maxRecDepth 8000 in
theorem fX12_211 : Fln RX12 RX12 TX12 211 66 := ⟨tg_of 1090 (by decide +kernel) rfl, Or.inl rfl⟩
set_option maxRecDepth 8000 in
theorem fX12_214 : Fln RX12 RX12 TX12 214 67 := ⟨tg_of 1091 (by decide +kernel) rfl, Or.inl rfl⟩
set_option maxRecDepth 8000 in
theorem fX12_217 : Fln RX12 RX12 TX12 217 68 := ⟨tg_of 1092 (by decide +kernel) rfl, Or.inl rfl⟩
set_option maxRecDepth 8000 in
theorem fX12_220 : Fln RX12 RX12 TX12 220 69 := ⟨tg_of 1093 (by decide +kernel) rfl, Or.inl rfl⟩
set_option maxRecDepth 8000 in
theorem fX12_223 : Fln RX12 RX12 TX12 223 70 := ⟨tg_of 1094 (by decide +kernel) rfl, Or.inl rfl⟩
set_option maxRecDepth 8000 in
theorem fX12_226 : Fln RX12 RX12 TX12 226 71 := ⟨tg_of 1095 (by decide +kernel) rfl, Or.inl rfl⟩
set_option maxRecDepth 8000 in
theorem fX12_230 : Fln RX12 RX12 TX12 230 72 := ⟨tg_of 1096 (by decide +kernel) rfl, Or.inl rfl⟩
set_option maxRecDepth 8000 in
theorem kX11_init : Cond.code mX11_init.1 mX11_init.2.1 mX11_init.2.2.1 mX11_init.2.2.2 ∈ TG := (tg_of 95 (by decide +kernel) rfl)
set_option maxRecDepth 8000 in
theorem kX5_init : Cond.code mX5_init.1 mX5_init.2.1 mX5_init.2.2.1 mX5_init.2.2.2 ∈ TG := (tg_of 103 (by decide +kernel) rfl)
set_option maxRecDepth 8000 in
theorem kX0_init : Cond.code mX0_init.1 mX0_init.2.1 mX0_init.2.2.1 mX0_init.2.2.2 ∈ TG := (tg_of 174 (by decide +kernel) rfl)
set_option maxRecDepth 8000 in
theorem kX7_init : Cond.code mX7_init.1 mX7_init.2.1 mX7_init.2.2.1 mX7_init.2.2.2 ∈ TG := (tg_of 239 (by decide +kernel) rfl)
set_option maxRecDepth 8000 in
theorem kJ7_fill_53178 : Cond.code mJ7_fill_53178.1 mJ7_fill_53178.2.1 mJ7_fill_53178.2.2.1 mJ7_fill_53178.2.2.2 ∈ TG := (tg_of 255 (by decide +kernel) rfl)
set_option maxRecDepth 8000 in
theorem kX3_init : Cond.code mX3_init.1 mX3_init.2.1 mX3_init.2.2.1 mX3_init.2.2.2 ∈ TG := (tg_of 259 (by decide +kernel) rfl)
set_option maxRecDepth 8000 in
theorem kX11_doing : Cond.code mX11_doing.1 mX11_doing.2.1 mX11_doing.2.2.1 mX11_doing.2.2.2 ∈ TG := (tg_of 341 (by decide +kernel) rfl)
set_option maxRecDepth 8000 in
theorem kX11_isNot : Cond.code mX11_isNot.1 mX11_isNot.2.1 mX11_isNot.2.2.1 mX11_isNot.2.2.2 ∈ TG := (tg_of 344 (by decide +kernel) rfl)
set_option maxRecDepth 8000 in
theorem kX11_made : Cond.code mX11_made.1 mX11_made.2.1 mX11_made.2.2.1 mX11_made.2.2.2 ∈ TG := (tg_of 347 (by decide +kernel) rfl)
set_option maxRecDepth 8000 in
theorem kX9_init : Cond.code mX9_init.1 mX9_init.2.1 mX9_init.2.2.1 mX9_init.2.2.2 ∈ TG := (tg_of 352 (by decide +kernel) rfl)
set_option maxRecDepth 8000 in
theorem kX1_init : Cond.code mX1_init.1 mX1_init.2.1 mX1_init.2.2.1 mX1_init.2.2.2 ∈ TG := (tg_of 355 (by decide +kernel) rfl)
set_option maxRecDepth 8000 in
theorem kJ9_max_7cf53 : Cond.code mJ9_max_7cf53.1 mJ9_max_7cf53.2.1 mJ9_max_7cf53.2.2.1 mJ9_max_7cf53.2.2.2 ∈ TG := (tg_of 359 (by decide +kernel) rfl)
set_option maxRecDepth 8000 in
theorem kX2_init : Cond.code mX2_init.1 mX2_init.2.1 mX2_init.2.2.1 mX2_init.2.2.2 ∈ TG := (tg_of 410 (by decide +kernel) rfl)
set_option maxRecDepth 8000 in
theorem kX4_init : Cond.code mX4_init.1 mX4_init.2.1 mX4_init.2.2.1 mX4_init.2.2.2 ∈ TG := (tg_of 423 (by decide +kernel) rfl)
set_option maxRecDepth 8000 in
theorem kX8_init : Cond.code mX8_init.1 mX8_init.2.1 mX8_init.2.2.1 mX8_init.2.2.2 ∈ TG := (tg_of 436 (by decide +kernel) rfl)
set_option maxRecDepth 8000 in
theorem kX6_init : Cond.code mX6_init.1 mX6_init.2.1 mX6_init.2.2.1 mX6_init.2.2.2 ∈ TG := (tg_of 449 (by decide +kernel) rfl)
set_option maxRecDepth 8000 in
theorem kX10_init : Cond.code mX10_init.1 mX10_init.2.1 mX10_init.2.2.1 mX10_init.2.2.2 ∈ TG := (tg_of 462 (by decide +kernel) rfl)
set_option maxRecDepth 8000 in
theorem kX5_add : Cond.code mX5_add.1 mX5_add.2.1 mX5_add.2.2.1 mX5_add.2.2.2 ∈ TG := (tg_of 484 (by decide +kernel) rfl)
set_option maxRecDepth 8000 in
theorem kX11_of : Cond.code mX11_of.1 mX11_of.2.1 mX11_of.2.2.1 mX11_of.2.2.2 ∈ TG := (tg_of 488 (by decide +kernel) rfl)
set_option maxRecDepth 8000 in
theorem kX5_find : Cond.code mX5_find.1 mX5_find.2.1 mX5_find.2.2.1 mX5_find.2.2.2 ∈ TG := (tg_of 492 (by decide +kernel) rfl)
set_option maxRecDepth 8000 in
theorem kX2_kind : Cond.code mX2_kind.1 mX2_kind.2.1 mX2_kind.2.2.1 mX2_kind.2.2.2 ∈ TG := (tg_of 499 (by decide +kernel) rfl)
set_option maxRecDepth 8000 in
theorem kX4_kind : Cond.code mX4_kind.1 mX4_kind.2.1 mX4_kind.2.2.1 mX4_kind.2.2.2 ∈ TG := (tg_of 502 (by decide +kernel) rfl)
set_option maxRecDepth 8000 in
theorem kX6_kind : Cond.code mX6_kind.1 mX6_kind.2.1 mX6_kind.2.2.1 mX6_kind.2.2.2 ∈ TG := (tg_of 505 (by decide +kernel) rfl)
set_option maxRecDepth 8000 in
theorem kX8_kind : Cond.code mX8_kind.1 mX8_kind.2.1 mX8_kind.2.2.1 mX8_kind.2.2.2 ∈ TG := (tg_of 508 (by decide +kernel) rfl)
set_option maxRecDepth 8000 in
theorem kX9_kind : Cond.code mX9_kind.1 mX9_kind.2.1 mX9_kind.2.2.1 mX9_kind.2.2.2 ∈ TG := (tg_of 511 (by decide +kernel) rfl)
set_option maxRecDepth 8000 in
theorem kX10_kind : Cond.code mX10_kind.1 mX10_kind.2.1 mX10_kind.2.2.1 mX10_kind.2.2.2 ∈ TG := (tg_of 514 (by decide +kernel) rfl)
set_option maxRecDepth 8000 in
theorem kX1_kind : Cond.code mX1_kind.1 mX1_kind.2.1 mX1_kind.2.2.1 mX1_kind.2.2.2 ∈ TG := (tg_of 515 (by decide +kernel) rfl)
set_option maxRecDepth 8000 in
theorem kX11_bit : Cond.code mX11_bit.1 mX11_bit.2.1 mX11_bit.2.2.1 mX11_bit.2.2.2 ∈ TG := (tg_of 518 (by decide +kernel) rfl)
set_option maxRecDepth 8000 in
theorem kX0_saidOf : Cond.code mX0_saidOf.1 mX0_saidOf.2.1 mX0_saidOf.2.2.1 mX0_saidOf.2.2.2 ∈ TG := (tg_of 522 (by decide +kernel) rfl)
set_option maxRecDepth 8000 in
theorem kX0_hearOf : Cond.code mX0_hearOf.1 mX0_hearOf.2.1 mX0_hearOf.2.2.1 mX0_hearOf.2.2.2 ∈ TG := (tg_of 526 (by decide +kernel) rfl)
set_option maxRecDepth 8000 in
theorem kX5_saidBy : Cond.code mX5_saidBy.1 mX5_saidBy.2.1 mX5_saidBy.2.2.1 mX5_saidBy.2.2.2 ∈ TG := (tg_of 530 (by decide +kernel) rfl)
set_option maxRecDepth 8000 in
theorem kX3_together : Cond.code mX3_together.1 mX3_together.2.1 mX3_together.2.2.1 mX3_together.2.2.2 ∈ TG := (tg_of 534 (by decide +kernel) rfl)
set_option maxRecDepth 8000 in
theorem kX3_holds : Cond.code mX3_holds.1 mX3_holds.2.1 mX3_holds.2.2.1 mX3_holds.2.2.2 ∈ TG := (tg_of 538 (by decide +kernel) rfl)
set_option maxRecDepth 8000 in
theorem kX3_passes : Cond.code mX3_passes.1 mX3_passes.2.1 mX3_passes.2.2.1 mX3_passes.2.2.2 ∈ TG := (tg_of 541 (by decide +kernel) rfl)
set_option maxRecDepth 8000 in
theorem kX2_saidOver : Cond.code mX2_saidOver.1 mX2_saidOver.2.1 mX2_saidOver.2.2.1 mX2_saidOver.2.2.2 ∈ TG := (tg_of 549 (by decide +kernel) rfl)
set_option maxRecDepth 8000 in
theorem kX4_saidOver : Cond.code mX4_saidOver.1 mX4_saidOver.2.1 mX4_saidOver.2.2.1 mX4_saidOver.2.2.2 ∈ TG := (tg_of 552 (by decide +kernel) rfl)
set_option maxRecDepth 8000 in
theorem kX6_saidOver : Cond.code mX6_saidOver.1 mX6_saidOver.2.1 mX6_saidOver.2.2.1 mX6_saidOver.2.2.2 ∈ TG := (tg_of 556 (by decide +kernel) rfl)
set_option maxRecDepth 8000 in
theorem kX8_saidOver : Cond.code mX8_saidOver.1 mX8_saidOver.2.1 mX8_saidOver.2.2.1 mX8_saidOver.2.2.2 ∈ TG := (tg_of 560 (by decide +kernel) rfl)
set_option maxRecDepth 8000 in
theorem kX9_saidOver : Cond.code mX9_saidOver.1 mX9_saidOver.2.1 mX9_saidOver.2.2.1 mX9_saidOver.2.2.2 ∈ TG := (tg_of 563 (by decide +kernel) rfl)
set_option maxRecDepth 8000 in
theorem kX10_saidOver : Cond.code mX10_saidOver.1 mX10_saidOver.2.1 mX10_saidOver.2.2.1 mX10_saidOver.2.2.2 ∈ TG := (tg_of 568 (by decide +kernel) rfl)
set_option maxRecDepth 8000 in
theorem kX1_saidOver : Cond.code mX1_saidOver.1 mX1_saidOver.2.1 mX1_saidOver.2.2.1 mX1_saidOver.2.2.2 ∈ TG := (tg_of 570 (by decide +kernel) rfl)
set_option maxRecDepth 8000 in
theorem kX5_dearIn : Cond.code mX5_dearIn.1 mX5_dearIn.2.1 mX5_dearIn.2.2.1 mX5_dearIn.2.2.2 ∈ TG := (tg_of 574 (by decide +kernel) rfl)
set_option maxRecDepth 8000 in
theorem kX11_needless : Cond.code mX11_needless.1 mX11_needless.2.1 mX11_needless.2.2.1 mX11_needless.2.2.2 ∈ TG := (tg_of 578 (by decide +kernel) rfl)
set_option maxRecDepth 8000 in
theorem kX11_withBit : Cond.code mX11_withBit.1 mX11_withBit.2.1 mX11_withBit.2.2.1 mX11_withBit.2.2.2 ∈ TG := (tg_of 581 (by decide +kernel) rfl)
set_option maxRecDepth 8000 in
theorem kX11_learn : Cond.code mX11_learn.1 mX11_learn.2.1 mX11_learn.2.2.1 mX11_learn.2.2.2 ∈ TG := (tg_of 585 (by decide +kernel) rfl)
set_option maxRecDepth 8000 in
theorem kX11_odds : Cond.code mX11_odds.1 mX11_odds.2.1 mX11_odds.2.2.1 mX11_odds.2.2.2 ∈ TG := (tg_of 589 (by decide +kernel) rfl)
set_option maxRecDepth 8000 in
theorem kX11_hours : Cond.code mX11_hours.1 mX11_hours.2.1 mX11_hours.2.2.1 mX11_hours.2.2.2 ∈ TG := (tg_of 593 (by decide +kernel) rfl)
set_option maxRecDepth 8000 in
theorem kX11_feed : Cond.code mX11_feed.1 mX11_feed.2.1 mX11_feed.2.2.1 mX11_feed.2.2.2 ∈ TG := (tg_of 597 (by decide +kernel) rfl)
set_option maxRecDepth 8000 in
theorem kX11_post : Cond.code mX11_post.1 mX11_post.2.1 mX11_post.2.2.1 mX11_post.2.2.2 ∈ TG := (tg_of 601 (by decide +kernel) rfl)
set_option maxRecDepth 8000 in
theorem kX3_readFrom : Cond.code mX3_readFrom.1 mX3_readFrom.2.1 mX3_readFrom.2.2.1 mX3_readFrom.2.2.2 ∈ TG := (tg_of 605 (by decide +kernel) rfl)
set_option maxRecDepth 8000 in
theorem kJ9_min_7cf53 : Cond.code mJ9_min_7cf53.1 mJ9_min_7cf53.2.1 mJ9_min_7cf53.2.2.1 mJ9_min_7cf53.2.2.2 ∈ TG := (tg_of 608 (by decide +kernel) rfl)
set_option maxRecDepth 8000 in
theorem kX3_takes : Cond.code mX3_takes.1 mX3_takes.2.1 mX3_takes.2.2.1 mX3_takes.2.2.2 ∈ TG := (tg_of 612 (by decide +kernel) rfl)
set_option maxRecDepth 8000 in
theorem kX3_here : Cond.code mX3_here.1 mX3_here.2.1 mX3_here.2.2.1 mX3_here.2.2.2 ∈ TG := (tg_of 616 (by decide +kernel) rfl)
set_option maxRecDepth 8000 in
theorem kX3_readClause : Cond.code mX3_readClause.1 mX3_readClause.2.1 mX3_readClause.2.2.1 mX3_readClause.2.2.2 ∈ TG := (tg_of 620 (by decide +kernel) rfl)
set_option maxRecDepth 8000 in
theorem kX3_readWord : Cond.code mX3_readWord.1 mX3_readWord.2.1 mX3_readWord.2.2.1 mX3_readWord.2.2.2 ∈ TG := (tg_of 624 (by decide +kernel) rfl)
set_option maxRecDepth 8000 in
theorem kX3_needs : Cond.code mX3_needs.1 mX3_needs.2.1 mX3_needs.2.2.1 mX3_needs.2.2.2 ∈ TG := (tg_of 628 (by decide +kernel) rfl)
set_option maxRecDepth 8000 in
theorem kX3_takeIf : Cond.code mX3_takeIf.1 mX3_takeIf.2.1 mX3_takeIf.2.2.1 mX3_takeIf.2.2.2 ∈ TG := (tg_of 632 (by decide +kernel) rfl)
set_option maxRecDepth 8000 in
theorem kX3_readNumber : Cond.code mX3_readNumber.1 mX3_readNumber.2.1 mX3_readNumber.2.2.1 mX3_readNumber.2.2.2 ∈ TG := (tg_of 636 (by decide +kernel) rfl)
set_option maxRecDepth 8000 in
theorem kX3_readEither : Cond.code mX3_readEither.1 mX3_readEither.2.1 mX3_readEither.2.2.1 mX3_readEither.2.2.2 ∈ TG := (tg_of 640 (by decide +kernel) rfl)
set_option maxRecDepth 8000 in
theorem kX3_readPart : Cond.code mX3_readPart.1 mX3_readPart.2.1 mX3_readPart.2.2.1 mX3_readPart.2.2.2 ∈ TG := (tg_of 644 (by decide +kernel) rfl)
set_option maxRecDepth 8000 in
theorem kX3_keep : Cond.code mX3_keep.1 mX3_keep.2.1 mX3_keep.2.2.1 mX3_keep.2.2.2 ∈ TG := (tg_of 648 (by decide +kernel) rfl)
set_option maxRecDepth 8000 in
theorem kX3_readTest : Cond.code mX3_readTest.1 mX3_readTest.2.1 mX3_readTest.2.2.1 mX3_readTest.2.2.2 ∈ TG := (tg_of 652 (by decide +kernel) rfl)
set_option maxRecDepth 8000 in
theorem kX11_told : Cond.code mX11_told.1 mX11_told.2.1 mX11_told.2.2.1 mX11_told.2.2.2 ∈ TG := (tg_of 656 (by decide +kernel) rfl)
set_option maxRecDepth 8000 in
theorem kX5_callsAtFirst : Cond.code mX5_callsAtFirst.1 mX5_callsAtFirst.2.1 mX5_callsAtFirst.2.2.1 mX5_callsAtFirst.2.2.2 ∈ TG := (tg_of 660 (by decide +kernel) rfl)
set_option maxRecDepth 8000 in
theorem kX5_callsFading : Cond.code mX5_callsFading.1 mX5_callsFading.2.1 mX5_callsFading.2.2.1 mX5_callsFading.2.2.2 ∈ TG := (tg_of 664 (by decide +kernel) rfl)
set_option maxRecDepth 8000 in
theorem kX11_said : Cond.code mX11_said.1 mX11_said.2.1 mX11_said.2.2.1 mX11_said.2.2.2 ∈ TG := (tg_of 668 (by decide +kernel) rfl)
set_option maxRecDepth 8000 in
theorem kX11_hand : Cond.code mX11_hand.1 mX11_hand.2.1 mX11_hand.2.2.1 mX11_hand.2.2.2 ∈ TG := (tg_of 673 (by decide +kernel) rfl)
set_option maxRecDepth 8000 in
theorem kX0_hear : Cond.code mX0_hear.1 mX0_hear.2.1 mX0_hear.2.2.1 mX0_hear.2.2.2 ∈ TG := (tg_of 677 (by decide +kernel) rfl)
set_option maxRecDepth 8000 in
theorem kX0_goingOver : Cond.code mX0_goingOver.1 mX0_goingOver.2.1 mX0_goingOver.2.2.1 mX0_goingOver.2.2.2 ∈ TG := (tg_of 682 (by decide +kernel) rfl)
set_option maxRecDepth 8000 in
theorem kJ6_bitCount_0f7a4 : Cond.code mJ6_bitCount_0f7a4.1 mJ6_bitCount_0f7a4.2.1 mJ6_bitCount_0f7a4.2.2.1 mJ6_bitCount_0f7a4.2.2.2 ∈ TG := (tg_of 685 (by decide +kernel) rfl)
set_option maxRecDepth 8000 in
theorem kX11_go : Cond.code mX11_go.1 mX11_go.2.1 mX11_go.2.2.1 mX11_go.2.2.2 ∈ TG := (tg_of 692 (by decide +kernel) rfl)
set_option maxRecDepth 8000 in
theorem kX0_look : Cond.code mX0_look.1 mX0_look.2.1 mX0_look.2.2.1 mX0_look.2.2.2 ∈ TG := (tg_of 696 (by decide +kernel) rfl)
set_option maxRecDepth 8000 in
theorem kX5_coming : Cond.code mX5_coming.1 mX5_coming.2.1 mX5_coming.2.2.1 mX5_coming.2.2.2 ∈ TG := (tg_of 703 (by decide +kernel) rfl)
set_option maxRecDepth 8000 in
theorem kX1_weeksUntil : Cond.code mX1_weeksUntil.1 mX1_weeksUntil.2.1 mX1_weeksUntil.2.2.1 mX1_weeksUntil.2.2.2 ∈ TG := (tg_of 715 (by decide +kernel) rfl)
set_option maxRecDepth 8000 in
theorem kJ9_floorMod_7cf53 : Cond.code mJ9_floorMod_7cf53.1 mJ9_floorMod_7cf53.2.1 mJ9_floorMod_7cf53.2.2.1 mJ9_floorMod_7cf53.2.2.2 ∈ TG := (tg_of 718 (by decide +kernel) rfl)
set_option maxRecDepth 8000 in
theorem kX0_lookDear : Cond.code mX0_lookDear.1 mX0_lookDear.2.1 mX0_lookDear.2.2.1 mX0_lookDear.2.2.2 ∈ TG := (tg_of 722 (by decide +kernel) rfl)
set_option maxRecDepth 8000 in
theorem kX0_dearCell : Cond.code mX0_dearCell.1 mX0_dearCell.2.1 mX0_dearCell.2.2.1 mX0_dearCell.2.2.2 ∈ TG := (tg_of 725 (by decide +kernel) rfl)
set_option maxRecDepth 8000 in
theorem kX0_pass : Cond.code mX0_pass.1 mX0_pass.2.1 mX0_pass.2.2.1 mX0_pass.2.2.2 ∈ TG := (tg_of 732 (by decide +kernel) rfl)
set_option maxRecDepth 8000 in
theorem kX0_stopAll : Cond.code mX0_stopAll.1 mX0_stopAll.2.1 mX0_stopAll.2.2.1 mX0_stopAll.2.2.2 ∈ TG := (tg_of 736 (by decide +kernel) rfl)
set_option maxRecDepth 8000 in
theorem kX0_stop : Cond.code mX0_stop.1 mX0_stop.2.1 mX0_stop.2.2.1 mX0_stop.2.2.2 ∈ TG := (tg_of 740 (by decide +kernel) rfl)
set_option maxRecDepth 8000 in
theorem kX10_isKnownByCall : Cond.code mX10_isKnownByCall.1 mX10_isKnownByCall.2.1 mX10_isKnownByCall.2.2.1 mX10_isKnownByCall.2.2.2 ∈ TG := (tg_of 754 (by decide +kernel) rfl)
set_option maxRecDepth 8000 in
theorem kX1_isKnownByCall : Cond.code mX1_isKnownByCall.1 mX1_isKnownByCall.2.1 mX1_isKnownByCall.2.2.1 mX1_isKnownByCall.2.2.2 ∈ TG := (tg_of 755 (by decide +kernel) rfl)
set_option maxRecDepth 8000 in
theorem kX2_isKnownByStop : Cond.code mX2_isKnownByStop.1 mX2_isKnownByStop.2.1 mX2_isKnownByStop.2.2.1 mX2_isKnownByStop.2.2.2 ∈ TG := (tg_of 762 (by decide +kernel) rfl)
set_option maxRecDepth 8000 in
theorem kX4_isKnownByStop : Cond.code mX4_isKnownByStop.1 mX4_isKnownByStop.2.1 mX4_isKnownByStop.2.2.1 mX4_isKnownByStop.2.2.2 ∈ TG := (tg_of 765 (by decide +kernel) rfl)
set_option maxRecDepth 8000 in
theorem kX1_isKnownByStop : Cond.code mX1_isKnownByStop.1 mX1_isKnownByStop.2.1 mX1_isKnownByStop.2.2.1 mX1_isKnownByStop.2.2.2 ∈ TG := (tg_of 770 (by decide +kernel) rfl)
set_option maxRecDepth 8000 in
theorem kX11_run : Cond.code mX11_run.1 mX11_run.2.1 mX11_run.2.2.1 mX11_run.2.2.2 ∈ TG := (tg_of 775 (by decide +kernel) rfl)
set_option maxRecDepth 8000 in
theorem kX11_split : Cond.code mX11_split.1 mX11_split.2.1 mX11_split.2.2.1 mX11_split.2.2.2 ∈ TG := (tg_of 779 (by decide +kernel) rfl)
set_option maxRecDepth 8000 in
theorem kX0_bestSplit : Cond.code mX0_bestSplit.1 mX0_bestSplit.2.1 mX0_bestSplit.2.2.1 mX0_bestSplit.2.2.2 ∈ TG := (tg_of 783 (by decide +kernel) rfl)
set_option maxRecDepth 8000 in
theorem kX0_share : Cond.code mX0_share.1 mX0_share.2.1 mX0_share.2.2.1 mX0_share.2.2.2 ∈ TG := (tg_of 788 (by decide +kernel) rfl)
set_option maxRecDepth 8000 in
theorem kX0_costHanded : Cond.code mX0_costHanded.1 mX0_costHanded.2.1 mX0_costHanded.2.2.1 mX0_costHanded.2.2.2 ∈ TG := (tg_of 792 (by decide +kernel) rfl)
set_option maxRecDepth 8000 in
theorem kX11_more : Cond.code mX11_more.1 mX11_more.2.1 mX11_more.2.2.1 mX11_more.2.2.2 ∈ TG := (tg_of 801 (by decide +kernel) rfl)
set_option maxRecDepth 8000 in
theorem kX0_hourMore : Cond.code mX0_hourMore.1 mX0_hourMore.2.1 mX0_hourMore.2.2.1 mX0_hourMore.2.2.2 ∈ TG := (tg_of 806 (by decide +kernel) rfl)
set_option maxRecDepth 8000 in
theorem kX11_ask : Cond.code mX11_ask.1 mX11_ask.2.1 mX11_ask.2.2.1 mX11_ask.2.2.2 ∈ TG := (tg_of 810 (by decide +kernel) rfl)
set_option maxRecDepth 8000 in
theorem kX0_bestOf : Cond.code mX0_bestOf.1 mX0_bestOf.2.1 mX0_bestOf.2.2.1 mX0_bestOf.2.2.2 ∈ TG := (tg_of 814 (by decide +kernel) rfl)
set_option maxRecDepth 8000 in
theorem kX11_drop : Cond.code mX11_drop.1 mX11_drop.2.1 mX11_drop.2.2.1 mX11_drop.2.2.2 ∈ TG := (tg_of 818 (by decide +kernel) rfl)
set_option maxRecDepth 8000 in
theorem kX11_when : Cond.code mX11_when.1 mX11_when.2.1 mX11_when.2.2.1 mX11_when.2.2.2 ∈ TG := (tg_of 822 (by decide +kernel) rfl)
set_option maxRecDepth 8000 in
theorem kX11_busiest : Cond.code mX11_busiest.1 mX11_busiest.2.1 mX11_busiest.2.2.1 mX11_busiest.2.2.2 ∈ TG := (tg_of 827 (by decide +kernel) rfl)
set_option maxRecDepth 8000 in
theorem kX11_all : Cond.code mX11_all.1 mX11_all.2.1 mX11_all.2.2.1 mX11_all.2.2.2 ∈ TG := (tg_of 832 (by decide +kernel) rfl)
set_option maxRecDepth 8000 in
theorem kX5_everyDoing : Cond.code mX5_everyDoing.1 mX5_everyDoing.2.1 mX5_everyDoing.2.2.1 mX5_everyDoing.2.2.2 ∈ TG := (tg_of 836 (by decide +kernel) rfl)
set_option maxRecDepth 8000 in
theorem kX5_longestWait : Cond.code mX5_longestWait.1 mX5_longestWait.2.1 mX5_longestWait.2.2.1 mX5_longestWait.2.2.2 ∈ TG := (tg_of 840 (by decide +kernel) rfl)
set_option maxRecDepth 8000 in
theorem kX11_list : Cond.code mX11_list.1 mX11_list.2.1 mX11_list.2.2.1 mX11_list.2.2.2 ∈ TG := (tg_of 846 (by decide +kernel) rfl)
set_option maxRecDepth 8000 in
theorem kX5_addRow : Cond.code mX5_addRow.1 mX5_addRow.2.1 mX5_addRow.2.2.1 mX5_addRow.2.2.2 ∈ TG := (tg_of 850 (by decide +kernel) rfl)
set_option maxRecDepth 8000 in
theorem kX11_looked : Cond.code mX11_looked.1 mX11_looked.2.1 mX11_looked.2.2.1 mX11_looked.2.2.2 ∈ TG := (tg_of 854 (by decide +kernel) rfl)
set_option maxRecDepth 8000 in
theorem kX5_weeksToRows : Cond.code mX5_weeksToRows.1 mX5_weeksToRows.2.1 mX5_weeksToRows.2.2.1 mX5_weeksToRows.2.2.2 ∈ TG := (tg_of 858 (by decide +kernel) rfl)
set_option maxRecDepth 8000 in
theorem kX0_firstRowNotSo : Cond.code mX0_firstRowNotSo.1 mX0_firstRowNotSo.2.1 mX0_firstRowNotSo.2.2.1 mX0_firstRowNotSo.2.2.2 ∈ TG := (tg_of 863 (by decide +kernel) rfl)
set_option maxRecDepth 8000 in
theorem kX11_fits : Cond.code mX11_fits.1 mX11_fits.2.1 mX11_fits.2.2.1 mX11_fits.2.2.2 ∈ TG := (tg_of 867 (by decide +kernel) rfl)
set_option maxRecDepth 8000 in
theorem kX11_chance : Cond.code mX11_chance.1 mX11_chance.2.1 mX11_chance.2.2.1 mX11_chance.2.2.2 ∈ TG := (tg_of 871 (by decide +kernel) rfl)
set_option maxRecDepth 8000 in
theorem kX11_commonDivisor : Cond.code mX11_commonDivisor.1 mX11_commonDivisor.2.1 mX11_commonDivisor.2.2.1 mX11_commonDivisor.2.2.2 ∈ TG := (tg_of 876 (by decide +kernel) rfl)
set_option maxRecDepth 8000 in
theorem kJ9_max_f86c9 : Cond.code mJ9_max_f86c9.1 mJ9_max_f86c9.2.1 mJ9_max_f86c9.2.2.1 mJ9_max_f86c9.2.2.2 ∈ TG := (tg_of 879 (by decide +kernel) rfl)
set_option maxRecDepth 8000 in
theorem kX11_judge : Cond.code mX11_judge.1 mX11_judge.2.1 mX11_judge.2.2.1 mX11_judge.2.2.2 ∈ TG := (tg_of 883 (by decide +kernel) rfl)
set_option maxRecDepth 8000 in
theorem kX11_image : Cond.code mX11_image.1 mX11_image.2.1 mX11_image.2.2.1 mX11_image.2.2.2 ∈ TG := (tg_of 887 (by decide +kernel) rfl)
set_option maxRecDepth 8000 in
theorem kX5_takeFrom : Cond.code mX5_takeFrom.1 mX5_takeFrom.2.1 mX5_takeFrom.2.2.1 mX5_takeFrom.2.2.2 ∈ TG := (tg_of 891 (by decide +kernel) rfl)
set_option maxRecDepth 8000 in
theorem kX11_undo : Cond.code mX11_undo.1 mX11_undo.2.1 mX11_undo.2.2.1 mX11_undo.2.2.2 ∈ TG := (tg_of 896 (by decide +kernel) rfl)
set_option maxRecDepth 8000 in
theorem kX11_act : Cond.code mX11_act.1 mX11_act.2.1 mX11_act.2.2.1 mX11_act.2.2.2 ∈ TG := (tg_of 900 (by decide +kernel) rfl)
set_option maxRecDepth 8000 in
theorem kX2_says : Cond.code mX2_says.1 mX2_says.2.1 mX2_says.2.2.1 mX2_says.2.2.2 ∈ TG := (tg_of 907 (by decide +kernel) rfl)
set_option maxRecDepth 8000 in
theorem kX7_begins : Cond.code mX7_begins.1 mX7_begins.2.1 mX7_begins.2.2.1 mX7_begins.2.2.2 ∈ TG := (tg_of 911 (by decide +kernel) rfl)
set_option maxRecDepth 8000 in
theorem kX8_says : Cond.code mX8_says.1 mX8_says.2.1 mX8_says.2.2.1 mX8_says.2.2.2 ∈ TG := (tg_of 917 (by decide +kernel) rfl)
set_option maxRecDepth 8000 in
theorem kX10_says : Cond.code mX10_says.1 mX10_says.2.1 mX10_says.2.2.1 mX10_says.2.2.2 ∈ TG := (tg_of 925 (by decide +kernel) rfl)
set_option maxRecDepth 8000 in
theorem kX1_says : Cond.code mX1_says.1 mX1_says.2.1 mX1_says.2.2.1 mX1_says.2.2.2 ∈ TG := (tg_of 929 (by decide +kernel) rfl)
set_option maxRecDepth 8000 in
theorem kX8_holds : Cond.code mX8_holds.1 mX8_holds.2.1 mX8_holds.2.2.1 mX8_holds.2.2.2 ∈ TG := (tg_of 940 (by decide +kernel) rfl)
set_option maxRecDepth 8000 in
theorem kX9_holds : Cond.code mX9_holds.1 mX9_holds.2.1 mX9_holds.2.2.1 mX9_holds.2.2.2 ∈ TG := (tg_of 943 (by decide +kernel) rfl)
set_option maxRecDepth 8000 in
theorem kX10_holds : Cond.code mX10_holds.1 mX10_holds.2.1 mX10_holds.2.2.1 mX10_holds.2.2.2 ∈ TG := (tg_of 949 (by decide +kernel) rfl)
set_option maxRecDepth 8000 in
theorem kX1_holds : Cond.code mX1_holds.1 mX1_holds.2.1 mX1_holds.2.2.1 mX1_holds.2.2.2 ∈ TG := (tg_of 953 (by decide +kernel) rfl)
set_option maxRecDepth 8000 in
theorem kX4_tells : Cond.code mX4_tells.1 mX4_tells.2.1 mX4_tells.2.2.1 mX4_tells.2.2.2 ∈ TG := (tg_of 962 (by decide +kernel) rfl)
set_option maxRecDepth 8000 in
theorem kX6_tells : Cond.code mX6_tells.1 mX6_tells.2.1 mX6_tells.2.2.1 mX6_tells.2.2.2 ∈ TG := (tg_of 970 (by decide +kernel) rfl)
set_option maxRecDepth 8000 in
theorem kX1_tells : Cond.code mX1_tells.1 mX1_tells.2.1 mX1_tells.2.2.1 mX1_tells.2.2.2 ∈ TG := (tg_of 978 (by decide +kernel) rfl)
set_option maxRecDepth 8000 in
theorem kX11_trace : Cond.code mX11_trace.1 mX11_trace.2.1 mX11_trace.2.2.1 mX11_trace.2.2.2 ∈ TG := (tg_of 983 (by decide +kernel) rfl)
set_option maxRecDepth 8000 in
theorem kX11_taken : Cond.code mX11_taken.1 mX11_taken.2.1 mX11_taken.2.2.1 mX11_taken.2.2.2 ∈ TG := (tg_of 987 (by decide +kernel) rfl)
set_option maxRecDepth 8000 in
theorem kX11_isOfKind : Cond.code mX11_isOfKind.1 mX11_isOfKind.2.1 mX11_isOfKind.2.2.1 mX11_isOfKind.2.2.2 ∈ TG := (tg_of 990 (by decide +kernel) rfl)
set_option maxRecDepth 8000 in
theorem kX11_count : Cond.code mX11_count.1 mX11_count.2.1 mX11_count.2.2.1 mX11_count.2.2.2 ∈ TG := (tg_of 994 (by decide +kernel) rfl)
set_option maxRecDepth 8000 in
theorem kX11_tape : Cond.code mX11_tape.1 mX11_tape.2.1 mX11_tape.2.2.1 mX11_tape.2.2.2 ∈ TG := (tg_of 998 (by decide +kernel) rfl)
set_option maxRecDepth 8000 in
theorem kJ7_fill_d0a16 : Cond.code mJ7_fill_d0a16.1 mJ7_fill_d0a16.2.1 mJ7_fill_d0a16.2.2.1 mJ7_fill_d0a16.2.2.2 ∈ TG := (tg_of 1001 (by decide +kernel) rfl)
set_option maxRecDepth 8000 in
theorem kX11_item : Cond.code mX11_item.1 mX11_item.2.1 mX11_item.2.2.1 mX11_item.2.2.2 ∈ TG := (tg_of 1005 (by decide +kernel) rfl)
set_option maxRecDepth 8000 in
theorem kX11_cut : Cond.code mX11_cut.1 mX11_cut.2.1 mX11_cut.2.2.1 mX11_cut.2.2.2 ∈ TG := (tg_of 1008 (by decide +kernel) rfl)
set_option maxRecDepth 8000 in
theorem kX11_read : Cond.code mX11_read.1 mX11_read.2.1 mX11_read.2.2.1 mX11_read.2.2.2 ∈ TG := (tg_of 1012 (by decide +kernel) rfl)
set_option maxRecDepth 8000 in
theorem kX11_shift : Cond.code mX11_shift.1 mX11_shift.2.1 mX11_shift.2.2.1 mX11_shift.2.2.2 ∈ TG := (tg_of 1016 (by decide +kernel) rfl)
set_option maxRecDepth 8000 in
theorem kX12_init : Cond.code mX12_init.1 mX12_init.2.1 mX12_init.2.2.1 mX12_init.2.2.2 ∈ TG := (tg_of 1022 (by decide +kernel) rfl)
set_option maxRecDepth 8000 in
theorem kX12_doing : Cond.code mX12_doing.1 mX12_doing.2.1 mX12_doing.2.2.1 mX12_doing.2.2.2 ∈ TG := (tg_of 1248 (by decide +kernel) rfl)
set_option maxRecDepth 8000 in
theorem kX12_in : Cond.code mX12_in.1 mX12_in.2.1 mX12_in.2.2.1 mX12_in.2.2.2 ∈ TG := (tg_of 1252 (by decide +kernel) rfl)
set_option maxRecDepth 8000 in
theorem kX12_with : Cond.code mX12_with.1 mX12_with.2.1 mX12_with.2.2.1 mX12_with.2.2.2 ∈ TG := (tg_of 1256 (by decide +kernel) rfl)
set_option maxRecDepth 8000 in
theorem kX12_needless : Cond.code mX12_needless.1 mX12_needless.2.1 mX12_needless.2.2.1 mX12_needless.2.2.2 ∈ TG := (tg_of 1260 (by decide +kernel) rfl)
set_option maxRecDepth 8000 in
theorem kX12_isDoing : Cond.code mX12_isDoing.1 mX12_isDoing.2.1 mX12_isDoing.2.2.1 mX12_isDoing.2.2.2 ∈ TG := (tg_of 1264 (by decide +kernel) rfl)
set_option maxRecDepth 8000 in
theorem kX12_has : Cond.code mX12_has.1 mX12_has.2.1 mX12_has.2.2.1 mX12_has.2.2.2 ∈ TG := (tg_of 1268 (by decide +kernel) rfl)
set_option maxRecDepth 8000 in
theorem kX12_learn : Cond.code mX12_learn.1 mX12_learn.2.1 mX12_learn.2.2.1 mX12_learn.2.2.2 ∈ TG := (tg_of 1272 (by decide +kernel) rfl)
set_option maxRecDepth 8000 in
theorem kX12_odds : Cond.code mX12_odds.1 mX12_odds.2.1 mX12_odds.2.2.1 mX12_odds.2.2.2 ∈ TG := (tg_of 1276 (by decide +kernel) rfl)
set_option maxRecDepth 8000 in
theorem kX12_hours : Cond.code mX12_hours.1 mX12_hours.2.1 mX12_hours.2.2.1 mX12_hours.2.2.2 ∈ TG := (tg_of 1280 (by decide +kernel) rfl)
set_option maxRecDepth 8000 in
theorem kX12_isWay : Cond.code mX12_isWay.1 mX12_isWay.2.1 mX12_isWay.2.2.1 mX12_isWay.2.2.2 ∈ TG := (tg_of 1284 (by decide +kernel) rfl)
set_option maxRecDepth 8000 in
theorem kX12_feed : Cond.code mX12_feed.1 mX12_feed.2.1 mX12_feed.2.2.1 mX12_feed.2.2.2 ∈ TG := (tg_of 1288 (by decide +kernel) rfl)
set_option maxRecDepth 8000 in
theorem kX12_post : Cond.code mX12_post.1 mX12_post.2.1 mX12_post.2.2.1 mX12_post.2.2.2 ∈ TG := (tg_of 1292 (by decide +kernel) rfl)
set_option maxRecDepth 8000 in
theorem kX12_goesText : Cond.code mX12_goesText.1 mX12_goesText.2.1 mX12_goesText.2.2.1 mX12_goesText.2.2.2 ∈ TG := (tg_of 1296 (by decide +kernel) rfl)
set_option maxRecDepth 8000 in
theorem kX12_takesClause : Cond.code mX12_takesClause.1 mX12_takesClause.2.1 mX12_takesClause.2.2.1 mX12_takesClause.2.2.2 ∈ TG := (tg_of 1300 (by decide +kernel) rfl)
set_option maxRecDepth 8000 in
theorem kX12_takesHead : Cond.code mX12_takesHead.1 mX12_takesHead.2.1 mX12_takesHead.2.2.1 mX12_takesHead.2.2.2 ∈ TG := (tg_of 1304 (by decide +kernel) rfl)
set_option maxRecDepth 8000 in
theorem kX12_second : Cond.code mX12_second.1 mX12_second.2.1 mX12_second.2.2.1 mX12_second.2.2.2 ∈ TG := (tg_of 1308 (by decide +kernel) rfl)
set_option maxRecDepth 8000 in
theorem kX12_next : Cond.code mX12_next.1 mX12_next.2.1 mX12_next.2.2.1 mX12_next.2.2.2 ∈ TG := (tg_of 1312 (by decide +kernel) rfl)
set_option maxRecDepth 8000 in
theorem kX12_takesWord : Cond.code mX12_takesWord.1 mX12_takesWord.2.1 mX12_takesWord.2.2.1 mX12_takesWord.2.2.2 ∈ TG := (tg_of 1316 (by decide +kernel) rfl)
set_option maxRecDepth 8000 in
theorem kX12_takes : Cond.code mX12_takes.1 mX12_takes.2.1 mX12_takes.2.2.1 mX12_takes.2.2.2 ∈ TG := (tg_of 1320 (by decide +kernel) rfl)
set_option maxRecDepth 8000 in
theorem kX12_takesNumber : Cond.code mX12_takesNumber.1 mX12_takesNumber.2.1 mX12_takesNumber.2.2.1 mX12_takesNumber.2.2.2 ∈ TG := (tg_of 1324 (by decide +kernel) rfl)
set_option maxRecDepth 8000 in
theorem kX12_isDigit : Cond.code mX12_isDigit.1 mX12_isDigit.2.1 mX12_isDigit.2.2.1 mX12_isDigit.2.2.2 ∈ TG := (tg_of 1328 (by decide +kernel) rfl)
set_option maxRecDepth 8000 in
theorem kX12_takesE : Cond.code mX12_takesE.1 mX12_takesE.2.1 mX12_takesE.2.2.1 mX12_takesE.2.2.2 ∈ TG := (tg_of 1332 (by decide +kernel) rfl)
set_option maxRecDepth 8000 in
theorem kX12_takesTest : Cond.code mX12_takesTest.1 mX12_takesTest.2.1 mX12_takesTest.2.2.1 mX12_takesTest.2.2.2 ∈ TG := (tg_of 1336 (by decide +kernel) rfl)
set_option maxRecDepth 8000 in
theorem kX12_place : Cond.code mX12_place.1 mX12_place.2.1 mX12_place.2.2.1 mX12_place.2.2.2 ∈ TG := (tg_of 1340 (by decide +kernel) rfl)
set_option maxRecDepth 8000 in
theorem kX12_put : Cond.code mX12_put.1 mX12_put.2.1 mX12_put.2.2.1 mX12_put.2.2.2 ∈ TG := (tg_of 1344 (by decide +kernel) rfl)
set_option maxRecDepth 8000 in
theorem kX12_whole : Cond.code mX12_whole.1 mX12_whole.2.1 mX12_whole.2.2.1 mX12_whole.2.2.2 ∈ TG := (tg_of 1348 (by decide +kernel) rfl)
set_option maxRecDepth 8000 in
theorem kX12_settle : Cond.code mX12_settle.1 mX12_settle.2.1 mX12_settle.2.2.1 mX12_settle.2.2.2 ∈ TG := (tg_of 1352 (by decide +kernel) rfl)
set_option maxRecDepth 8000 in
theorem kX12_of : Cond.code mX12_of.1 mX12_of.2.1 mX12_of.2.2.1 mX12_of.2.2.2 ∈ TG := (tg_of 1356 (by decide +kernel) rfl)
set_option maxRecDepth 8000 in
theorem kX12_laySaid : Cond.code mX12_laySaid.1 mX12_laySaid.2.1 mX12_laySaid.2.2.1 mX12_laySaid.2.2.2 ∈ TG := (tg_of 1360 (by decide +kernel) rfl)
set_option maxRecDepth 8000 in
theorem kX12_sumOf : Cond.code mX12_sumOf.1 mX12_sumOf.2.1 mX12_sumOf.2.2.1 mX12_sumOf.2.2.2 ∈ TG := (tg_of 1364 (by decide +kernel) rfl)
set_option maxRecDepth 8000 in
theorem kX12_begin : Cond.code mX12_begin.1 mX12_begin.2.1 mX12_begin.2.2.1 mX12_begin.2.2.2 ∈ TG := (tg_of 1368 (by decide +kernel) rfl)
set_option maxRecDepth 8000 in
theorem kX12_behind : Cond.code mX12_behind.1 mX12_behind.2.1 mX12_behind.2.2.1 mX12_behind.2.2.2 ∈ TG := (tg_of 1372 (by decide +kernel) rfl)
set_option maxRecDepth 8000 in
theorem kX12_holds : Cond.code mX12_holds.1 mX12_holds.2.1 mX12_holds.2.2.1 mX12_holds.2.2.2 ∈ TG := (tg_of 1376 (by decide +kernel) rfl)
set_option maxRecDepth 8000 in
theorem kX12_factOf : Cond.code mX12_factOf.1 mX12_factOf.2.1 mX12_factOf.2.2.1 mX12_factOf.2.2.2 ∈ TG := (tg_of 1380 (by decide +kernel) rfl)
set_option maxRecDepth 8000 in
theorem kX12_saidOf : Cond.code mX12_saidOf.1 mX12_saidOf.2.1 mX12_saidOf.2.2.1 mX12_saidOf.2.2.2 ∈ TG := (tg_of 1384 (by decide +kernel) rfl)
set_option maxRecDepth 8000 in
theorem kX12_saidAll : Cond.code mX12_saidAll.1 mX12_saidAll.2.1 mX12_saidAll.2.2.1 mX12_saidAll.2.2.2 ∈ TG := (tg_of 1388 (by decide +kernel) rfl)
set_option maxRecDepth 8000 in
theorem kX12_dear : Cond.code mX12_dear.1 mX12_dear.2.1 mX12_dear.2.2.1 mX12_dear.2.2.2 ∈ TG := (tg_of 1392 (by decide +kernel) rfl)
set_option maxRecDepth 8000 in
theorem kX12_told : Cond.code mX12_told.1 mX12_told.2.1 mX12_told.2.2.1 mX12_told.2.2.2 ∈ TG := (tg_of 1396 (by decide +kernel) rfl)
set_option maxRecDepth 8000 in
theorem kX12_lastOf : Cond.code mX12_lastOf.1 mX12_lastOf.2.1 mX12_lastOf.2.2.1 mX12_lastOf.2.2.2 ∈ TG := (tg_of 1400 (by decide +kernel) rfl)
set_option maxRecDepth 8000 in
theorem kX12_said : Cond.code mX12_said.1 mX12_said.2.1 mX12_said.2.2.1 mX12_said.2.2.2 ∈ TG := (tg_of 1404 (by decide +kernel) rfl)
set_option maxRecDepth 8000 in
theorem kX12_hand : Cond.code mX12_hand.1 mX12_hand.2.1 mX12_hand.2.2.1 mX12_hand.2.2.2 ∈ TG := (tg_of 1408 (by decide +kernel) rfl)
set_option maxRecDepth 8000 in
theorem kX12_ones : Cond.code mX12_ones.1 mX12_ones.2.1 mX12_ones.2.2.1 mX12_ones.2.2.2 ∈ TG := (tg_of 1412 (by decide +kernel) rfl)
set_option maxRecDepth 8000 in
theorem kX12_over : Cond.code mX12_over.1 mX12_over.2.1 mX12_over.2.2.1 mX12_over.2.2.2 ∈ TG := (tg_of 1416 (by decide +kernel) rfl)
set_option maxRecDepth 8000 in
theorem kX12_go : Cond.code mX12_go.1 mX12_go.2.1 mX12_go.2.2.1 mX12_go.2.2.2 ∈ TG := (tg_of 1420 (by decide +kernel) rfl)
set_option maxRecDepth 8000 in
theorem kX12_begins : Cond.code mX12_begins.1 mX12_begins.2.1 mX12_begins.2.2.1 mX12_begins.2.2.2 ∈ TG := (tg_of 1424 (by decide +kernel) rfl)
set_option maxRecDepth 8000 in
theorem kX12_goWeeks : Cond.code mX12_goWeeks.1 mX12_goWeeks.2.1 mX12_goWeeks.2.2.1 mX12_goWeeks.2.2.2 ∈ TG := (tg_of 1428 (by decide +kernel) rfl)
set_option maxRecDepth 8000 in
theorem kX12_goWeek : Cond.code mX12_goWeek.1 mX12_goWeek.2.1 mX12_goWeek.2.2.1 mX12_goWeek.2.2.2 ∈ TG := (tg_of 1432 (by decide +kernel) rfl)
set_option maxRecDepth 8000 in
theorem kX12_comes : Cond.code mX12_comes.1 mX12_comes.2.1 mX12_comes.2.2.1 mX12_comes.2.2.2 ∈ TG := (tg_of 1436 (by decide +kernel) rfl)
set_option maxRecDepth 8000 in
theorem kX12_learnsBy : Cond.code mX12_learnsBy.1 mX12_learnsBy.2.1 mX12_learnsBy.2.2.1 mX12_learnsBy.2.2.2 ∈ TG := (tg_of 1440 (by decide +kernel) rfl)
set_option maxRecDepth 8000 in
theorem kX12_run : Cond.code mX12_run.1 mX12_run.2.1 mX12_run.2.2.1 mX12_run.2.2.2 ∈ TG := (tg_of 1444 (by decide +kernel) rfl)
set_option maxRecDepth 8000 in
theorem kX12_split : Cond.code mX12_split.1 mX12_split.2.1 mX12_split.2.2.1 mX12_split.2.2.2 ∈ TG := (tg_of 1448 (by decide +kernel) rfl)
set_option maxRecDepth 8000 in
theorem kX12_keepHours : Cond.code mX12_keepHours.1 mX12_keepHours.2.1 mX12_keepHours.2.2.1 mX12_keepHours.2.2.2 ∈ TG := (tg_of 1452 (by decide +kernel) rfl)
set_option maxRecDepth 8000 in
theorem kX12_costHanded : Cond.code mX12_costHanded.1 mX12_costHanded.2.1 mX12_costHanded.2.2.1 mX12_costHanded.2.2.2 ∈ TG := (tg_of 1456 (by decide +kernel) rfl)
set_option maxRecDepth 8000 in
theorem kX12_costBy : Cond.code mX12_costBy.1 mX12_costBy.2.1 mX12_costBy.2.2.1 mX12_costBy.2.2.2 ∈ TG := (tg_of 1460 (by decide +kernel) rfl)
set_option maxRecDepth 8000 in
theorem kX12_putHours : Cond.code mX12_putHours.1 mX12_putHours.2.1 mX12_putHours.2.2.1 mX12_putHours.2.2.2 ∈ TG := (tg_of 1464 (by decide +kernel) rfl)
set_option maxRecDepth 8000 in
theorem kX12_more : Cond.code mX12_more.1 mX12_more.2.1 mX12_more.2.2.1 mX12_more.2.2.2 ∈ TG := (tg_of 1468 (by decide +kernel) rfl)
set_option maxRecDepth 8000 in
theorem kX12_ask : Cond.code mX12_ask.1 mX12_ask.2.1 mX12_ask.2.2.1 mX12_ask.2.2.2 ∈ TG := (tg_of 1472 (by decide +kernel) rfl)
set_option maxRecDepth 8000 in
theorem kX12_drop : Cond.code mX12_drop.1 mX12_drop.2.1 mX12_drop.2.2.1 mX12_drop.2.2.2 ∈ TG := (tg_of 1476 (by decide +kernel) rfl)
set_option maxRecDepth 8000 in
theorem kX12_when : Cond.code mX12_when.1 mX12_when.2.1 mX12_when.2.2.1 mX12_when.2.2.2 ∈ TG := (tg_of 1480 (by decide +kernel) rfl)
set_option maxRecDepth 8000 in
theorem kX12_busiest : Cond.code mX12_busiest.1 mX12_busiest.2.1 mX12_busiest.2.2.1 mX12_busiest.2.2.2 ∈ TG := (tg_of 1484 (by decide +kernel) rfl)
set_option maxRecDepth 8000 in
theorem kX12_manyIn : Cond.code mX12_manyIn.1 mX12_manyIn.2.1 mX12_manyIn.2.2.1 mX12_manyIn.2.2.2 ∈ TG := (tg_of 1488 (by decide +kernel) rfl)
set_option maxRecDepth 8000 in
theorem kX12_all : Cond.code mX12_all.1 mX12_all.2.1 mX12_all.2.2.1 mX12_all.2.2.2 ∈ TG := (tg_of 1492 (by decide +kernel) rfl)
set_option maxRecDepth 8000 in
theorem kX12_allCome : Cond.code mX12_allCome.1 mX12_allCome.2.1 mX12_allCome.2.2.1 mX12_allCome.2.2.2 ∈ TG := (tg_of 1496 (by decide +kernel) rfl)
set_option maxRecDepth 8000 in
theorem kX12_list : Cond.code mX12_list.1 mX12_list.2.1 mX12_list.2.2.1 mX12_list.2.2.2 ∈ TG := (tg_of 1500 (by decide +kernel) rfl)
set_option maxRecDepth 8000 in
theorem kX12_looked : Cond.code mX12_looked.1 mX12_looked.2.1 mX12_looked.2.2.1 mX12_looked.2.2.2 ∈ TG := (tg_of 1504 (by decide +kernel) rfl)
set_option maxRecDepth 8000 in
theorem kX12_firstOff : Cond.code mX12_firstOff.1 mX12_firstOff.2.1 mX12_firstOff.2.2.1 mX12_firstOff.2.2.2 ∈ TG := (tg_of 1508 (by decide +kernel) rfl)
set_option maxRecDepth 8000 in
theorem kX12_fits : Cond.code mX12_fits.1 mX12_fits.2.1 mX12_fits.2.2.1 mX12_fits.2.2.2 ∈ TG := (tg_of 1512 (by decide +kernel) rfl)
set_option maxRecDepth 8000 in
theorem kX12_chance : Cond.code mX12_chance.1 mX12_chance.2.1 mX12_chance.2.2.1 mX12_chance.2.2.2 ∈ TG := (tg_of 1516 (by decide +kernel) rfl)
set_option maxRecDepth 8000 in
theorem kX12_comesIn : Cond.code mX12_comesIn.1 mX12_comesIn.2.1 mX12_comesIn.2.2.1 mX12_comesIn.2.2.2 ∈ TG := (tg_of 1521 (by decide +kernel) rfl)
set_option maxRecDepth 8000 in
theorem kX12_divisor : Cond.code mX12_divisor.1 mX12_divisor.2.1 mX12_divisor.2.2.1 mX12_divisor.2.2.2 ∈ TG := (tg_of 1526 (by decide +kernel) rfl)
set_option maxRecDepth 8000 in
theorem kX12_judge : Cond.code mX12_judge.1 mX12_judge.2.1 mX12_judge.2.2.1 mX12_judge.2.2.2 ∈ TG := (tg_of 1530 (by decide +kernel) rfl)
set_option maxRecDepth 8000 in
theorem kX12_isTape : Cond.code mX12_isTape.1 mX12_isTape.2.1 mX12_isTape.2.2.1 mX12_isTape.2.2.2 ∈ TG := (tg_of 1534 (by decide +kernel) rfl)
set_option maxRecDepth 8000 in
theorem kX12_image : Cond.code mX12_image.1 mX12_image.2.1 mX12_image.2.2.1 mX12_image.2.2.2 ∈ TG := (tg_of 1538 (by decide +kernel) rfl)
set_option maxRecDepth 8000 in
theorem kX12_undo : Cond.code mX12_undo.1 mX12_undo.2.1 mX12_undo.2.2.1 mX12_undo.2.2.2 ∈ TG := (tg_of 1542 (by decide +kernel) rfl)
set_option maxRecDepth 8000 in
theorem kX12_act : Cond.code mX12_act.1 mX12_act.2.1 mX12_act.2.2.1 mX12_act.2.2.2 ∈ TG := (tg_of 1546 (by decide +kernel) rfl)
set_option maxRecDepth 8000 in
theorem kX12_saysAct : Cond.code mX12_saysAct.1 mX12_saysAct.2.1 mX12_saysAct.2.2.1 mX12_saysAct.2.2.2 ∈ TG := (tg_of 1550 (by decide +kernel) rfl)
set_option maxRecDepth 8000 in
theorem kX12_body : Cond.code mX12_body.1 mX12_body.2.1 mX12_body.2.2.1 mX12_body.2.2.2 ∈ TG := (tg_of 1554 (by decide +kernel) rfl)
set_option maxRecDepth 8000 in
theorem kX12_knowingSays : Cond.code mX12_knowingSays.1 mX12_knowingSays.2.1 mX12_knowingSays.2.2.1 mX12_knowingSays.2.2.2 ∈ TG := (tg_of 1558 (by decide +kernel) rfl)
set_option maxRecDepth 8000 in
theorem kX12_holdsAct : Cond.code mX12_holdsAct.1 mX12_holdsAct.2.1 mX12_holdsAct.2.2.1 mX12_holdsAct.2.2.2 ∈ TG := (tg_of 1562 (by decide +kernel) rfl)
set_option maxRecDepth 8000 in
theorem kX12_writtenHolds : Cond.code mX12_writtenHolds.1 mX12_writtenHolds.2.1 mX12_writtenHolds.2.2.1 mX12_writtenHolds.2.2.2 ∈ TG := (tg_of 1566 (by decide +kernel) rfl)
set_option maxRecDepth 8000 in
theorem kX12_knowingHolds : Cond.code mX12_knowingHolds.1 mX12_knowingHolds.2.1 mX12_knowingHolds.2.2.1 mX12_knowingHolds.2.2.2 ∈ TG := (tg_of 1570 (by decide +kernel) rfl)
set_option maxRecDepth 8000 in
theorem kX12_tellsAct : Cond.code mX12_tellsAct.1 mX12_tellsAct.2.1 mX12_tellsAct.2.2.1 mX12_tellsAct.2.2.2 ∈ TG := (tg_of 1574 (by decide +kernel) rfl)
set_option maxRecDepth 8000 in
theorem kX12_knowingTells : Cond.code mX12_knowingTells.1 mX12_knowingTells.2.1 mX12_knowingTells.2.2.1 mX12_knowingTells.2.2.2 ∈ TG := (tg_of 1578 (by decide +kernel) rfl)
set_option maxRecDepth 8000 in
theorem kX12_trace : Cond.code mX12_trace.1 mX12_trace.2.1 mX12_trace.2.2.1 mX12_trace.2.2.2 ∈ TG := (tg_of 1582 (by decide +kernel) rfl)
set_option maxRecDepth 8000 in
theorem kX12_taken : Cond.code mX12_taken.1 mX12_taken.2.1 mX12_taken.2.2.1 mX12_taken.2.2.2 ∈ TG := (tg_of 1586 (by decide +kernel) rfl)
set_option maxRecDepth 8000 in
theorem kX12_count : Cond.code mX12_count.1 mX12_count.2.1 mX12_count.2.2.1 mX12_count.2.2.2 ∈ TG := (tg_of 1590 (by decide +kernel) rfl)
set_option maxRecDepth 8000 in
theorem kX12_tape : Cond.code mX12_tape.1 mX12_tape.2.1 mX12_tape.2.2.1 mX12_tape.2.2.2 ∈ TG := (tg_of 1594 (by decide +kernel) rfl)
set_option maxRecDepth 8000 in
theorem kX12_item : Cond.code mX12_item.1 mX12_item.2.1 mX12_item.2.2.1 mX12_item.2.2.2 ∈ TG := (tg_of 1598 (by decide +kernel) rfl)
set_option maxRecDepth 8000 in
theorem kX12_narrow : Cond.code mX12_narrow.1 mX12_narrow.2.1 mX12_narrow.2.2.1 mX12_narrow.2.2.2 ∈ TG := (tg_of 1602 (by decide +kernel) rfl)
set_option maxRecDepth 8000 in
theorem kX12_read : Cond.code mX12_read.1 mX12_read.2.1 mX12_read.2.2.1 mX12_read.2.2.2 ∈ TG := (tg_of 1606 (by decide +kernel) rfl)
set_option maxRecDepth 8000 in
theorem kX12_shift : Cond.code mX12_shift.1 mX12_shift.2.1 mX12_shift.2.2.1 mX12_shift.2.2.2 ∈ TG := (tg_of 1610 (by decide +kernel) rfl)
set_option maxRecDepth 8000 in
theorem sX0_look_6 : Site RX0 mX0_look 6 9 mJ9_min_7cf53 none 2 := site_S (dk DX0_look 4 rfl) (tg_of 697 (by decide +kernel) rfl) (tg_of 607 (by decide +kernel) rfl) (tg_of 83 (by decide +kernel) rfl) kJ9_min_7cf53 ⟨by decide +kernel, by decide +kernel, by decide +kernel⟩ (by decide)
set_option maxRecDepth 8000 in
theorem sX0_look_9 : Site RX0 mX0_look 9 12 mJ9_max_7cf53 none 2 := site_S (dk DX0_look 5 rfl) (tg_of 698 (by decide +kernel) rfl) (tg_of 358 (by decide +kernel) rfl) (tg_of 83 (by decide +kernel) rfl) kJ9_max_7cf53 ⟨by decide +kernel, by decide +kernel, by decide +kernel⟩ (by decide)
set_option maxRecDepth 8000 in
theorem sX0_look_20 : Site RX0 mX0_look 20 23 mJ7_fill_53178 none 2 := site_S (dk DX0_look 10 rfl) (tg_of 699 (by decide +kernel) rfl) (tg_of 254 (by decide +kernel) rfl) (tg_of 78 (by decide +kernel) rfl) kJ7_fill_53178 ⟨by decide +kernel, by decide +kernel, by decide +kernel⟩ (by decide)
set_option maxRecDepth 8000 in
theorem sX0_look_51 : Site RX0 mX0_look 51 54 mX5_coming (some 5) 2 := site_V (dk DX0_look 27 rfl) KX5 (tg_of 700 (by decide +kernel) rfl) (tg_of 701 (by decide +kernel) rfl) (tg_of 702 (by decide +kernel) rfl) (tg_of 75 (by decide +kernel) rfl) kX5_coming ⟨by decide +kernel, by decide +kernel, by decide +kernel⟩ (by decide)
set_option maxRecDepth 8000 in
theorem sX0_look_71 : Site RX0 mX0_look 71 74 mX0_lookDear (some 0) 3 := site_V (dk DX0_look 39 rfl) KX0 (tg_of 719 (by decide +kernel) rfl) (tg_of 721 (by decide +kernel) rfl) (tg_of 13 (by decide +kernel) rfl) (tg_of 76 (by decide +kernel) rfl) kX0_lookDear ⟨by decide +kernel, by decide +kernel, by decide +kernel⟩ (by decide)
set_option maxRecDepth 8000 in
theorem sX0_lookDear_15 : Site RX0 mX0_lookDear 15 18 mX0_dearCell none 2 := site_S (dk DX0_lookDear 9 rfl) (tg_of 723 (by decide +kernel) rfl) (tg_of 724 (by decide +kernel) rfl) (tg_of 76 (by decide +kernel) rfl) kX0_dearCell ⟨by decide +kernel, by decide +kernel, by decide +kernel⟩ (by decide)
set_option maxRecDepth 8000 in
theorem sX0_lookDear_25 : Site RX0 mX0_lookDear 25 28 mX5_find (some 5) 2 := site_V (dk DX0_lookDear 14 rfl) KX5 (tg_of 678 (by decide +kernel) rfl) (tg_of 490 (by decide +kernel) rfl) (tg_of 491 (by decide +kernel) rfl) (tg_of 75 (by decide +kernel) rfl) kX5_find ⟨by decide +kernel, by decide +kernel, by decide +kernel⟩ (by decide)
set_option maxRecDepth 8000 in
theorem sX0_lookDear_37 : Site RX0 mX0_lookDear 37 40 mX11_bit none 2 := site_SN (host := "NextOneKnows") (dk DX0_lookDear 20 rfl) (by decide +kernel) (tg_of 517 (by decide +kernel) rfl) (tg_of 74 (by decide +kernel) rfl) kX11_bit ⟨by decide +kernel, by decide +kernel, by decide +kernel⟩ (by decide)
set_option maxRecDepth 8000 in
theorem sX0_lookDear_66 : Site RX0 mX0_lookDear 66 69 mX5_dearIn (some 5) 3 := site_V (dk DX0_lookDear 34 rfl) KX5 (tg_of 728 (by decide +kernel) rfl) (tg_of 572 (by decide +kernel) rfl) (tg_of 573 (by decide +kernel) rfl) (tg_of 75 (by decide +kernel) rfl) kX5_dearIn ⟨by decide +kernel, by decide +kernel, by decide +kernel⟩ (by decide)
set_option maxRecDepth 8000 in
theorem sX0_dearCell_7 : Site RX0 mX0_dearCell 7 10 mJ9_floorMod_7cf53 none 2 := site_S (dk DX0_dearCell 5 rfl) (tg_of 726 (by decide +kernel) rfl) (tg_of 717 (by decide +kernel) rfl) (tg_of 83 (by decide +kernel) rfl) kJ9_floorMod_7cf53 ⟨by decide +kernel, by decide +kernel, by decide +kernel⟩ (by decide)
set_option maxRecDepth 8000 in
theorem sX0_hear_18 : Site RX0 mX0_hear 18 21 mX5_find (some 5) 2 := site_V (dk DX0_hear 10 rfl) KX5 (tg_of 678 (by decide +kernel) rfl) (tg_of 490 (by decide +kernel) rfl) (tg_of 491 (by decide +kernel) rfl) (tg_of 75 (by decide +kernel) rfl) kX5_find ⟨by decide +kernel, by decide +kernel, by decide +kernel⟩ (by decide)
set_option maxRecDepth 8000 in
theorem sX0_hear_28 : Site RX0 mX0_hear 28 31 mX0_hearOf (some 0) 2 := site_V (dk DX0_hear 16 rfl) KX0 (tg_of 523 (by decide +kernel) rfl) (tg_of 525 (by decide +kernel) rfl) (tg_of 0 (by decide +kernel) rfl) (tg_of 76 (by decide +kernel) rfl) kX0_hearOf ⟨by decide +kernel, by decide +kernel, by decide +kernel⟩ (by decide)
set_option maxRecDepth 8000 in
theorem sX0_hearOf_23 : Site RX0 mX0_hearOf 23 26 mX5_saidBy (some 5) 3 := site_V (dk DX0_hearOf 15 rfl) KX5 (tg_of 527 (by decide +kernel) rfl) (tg_of 528 (by decide +kernel) rfl) (tg_of 529 (by decide +kernel) rfl) (tg_of 75 (by decide +kernel) rfl) kX5_saidBy ⟨by decide +kernel, by decide +kernel, by decide +kernel⟩ (by decide)
set_option maxRecDepth 8000 in
theorem sX0_saidOf_2 : Site RX0 mX0_saidOf 2 5 mX0_hearOf (some 0) 2 := site_V (dk DX0_saidOf 2 rfl) KX0 (tg_of 523 (by decide +kernel) rfl) (tg_of 525 (by decide +kernel) rfl) (tg_of 0 (by decide +kernel) rfl) (tg_of 76 (by decide +kernel) rfl) kX0_hearOf ⟨by decide +kernel, by decide +kernel, by decide +kernel⟩ (by decide)
set_option maxRecDepth 8000 in
theorem sX0_saidOf_22_c1 : Site RX0 mX0_saidOf 22 25 mX1_saidOver (some 1) 3 := site_U (owner := RX1) (x := ⟨RX1, "saidOver", "([I[I)I"⟩) (dk DX0_saidOf 12 rfl) KX1 (tg_of 543 (by decide +kernel) rfl) (tg_of 546 (by decide +kernel) rfl) (tg_of 544 (by decide +kernel) rfl) (kX1_saidOver) (tg_of 544 (by decide +kernel) rfl) (tg_of 545 (by decide +kernel) rfl) (tg_of 81 (by decide +kernel) rfl) kX1_saidOver ⟨by decide +kernel, by decide +kernel, by decide +kernel⟩ (by decide)
set_option maxRecDepth 8000 in
theorem sX0_saidOf_22_c9 : Site RX0 mX0_saidOf 22 25 mX9_saidOver (some 9) 3 := site_U (owner := RX1) (x := ⟨RX1, "saidOver", "([I[I)I"⟩) (dk DX0_saidOf 12 rfl) KX9 (tg_of 543 (by decide +kernel) rfl) (tg_of 546 (by decide +kernel) rfl) (tg_of 544 (by decide +kernel) rfl) (kX1_saidOver) (tg_of 562 (by decide +kernel) rfl) (tg_of 565 (by decide +kernel) rfl) (tg_of 82 (by decide +kernel) rfl) kX9_saidOver ⟨by decide +kernel, by decide +kernel, by decide +kernel⟩ (by decide)
set_option maxRecDepth 8000 in
theorem sX0_saidOf_22_c8 : Site RX0 mX0_saidOf 22 25 mX8_saidOver (some 8) 3 := site_U (owner := RX1) (x := ⟨RX1, "saidOver", "([I[I)I"⟩) (dk DX0_saidOf 12 rfl) KX8 (tg_of 543 (by decide +kernel) rfl) (tg_of 546 (by decide +kernel) rfl) (tg_of 544 (by decide +kernel) rfl) (kX1_saidOver) (tg_of 559 (by decide +kernel) rfl) (tg_of 558 (by decide +kernel) rfl) (tg_of 86 (by decide +kernel) rfl) kX8_saidOver ⟨by decide +kernel, by decide +kernel, by decide +kernel⟩ (by decide)
set_option maxRecDepth 8000 in
theorem sX0_saidOf_22_c2 : Site RX0 mX0_saidOf 22 25 mX2_saidOver (some 2) 3 := site_U (owner := RX1) (x := ⟨RX1, "saidOver", "([I[I)I"⟩) (dk DX0_saidOf 12 rfl) KX2 (tg_of 543 (by decide +kernel) rfl) (tg_of 546 (by decide +kernel) rfl) (tg_of 544 (by decide +kernel) rfl) (kX1_saidOver) (tg_of 548 (by decide +kernel) rfl) (tg_of 547 (by decide +kernel) rfl) (tg_of 84 (by decide +kernel) rfl) kX2_saidOver ⟨by decide +kernel, by decide +kernel, by decide +kernel⟩ (by decide)
set_option maxRecDepth 8000 in
theorem sX0_saidOf_22_c6 : Site RX0 mX0_saidOf 22 25 mX6_saidOver (some 6) 3 := site_U (owner := RX1) (x := ⟨RX1, "saidOver", "([I[I)I"⟩) (dk DX0_saidOf 12 rfl) KX6 (tg_of 543 (by decide +kernel) rfl) (tg_of 546 (by decide +kernel) rfl) (tg_of 544 (by decide +kernel) rfl) (kX1_saidOver) (tg_of 555 (by decide +kernel) rfl) (tg_of 554 (by decide +kernel) rfl) (tg_of 87 (by decide +kernel) rfl) kX6_saidOver ⟨by decide +kernel, by decide +kernel, by decide +kernel⟩ (by decide)
set_option maxRecDepth 8000 in
theorem sX0_saidOf_22_c4 : Site RX0 mX0_saidOf 22 25 mX4_saidOver (some 4) 3 := site_U (owner := RX1) (x := ⟨RX1, "saidOver", "([I[I)I"⟩) (dk DX0_saidOf 12 rfl) KX4 (tg_of 543 (by decide +kernel) rfl) (tg_of 546 (by decide +kernel) rfl) (tg_of 544 (by decide +kernel) rfl) (kX1_saidOver) (tg_of 551 (by decide +kernel) rfl) (tg_of 550 (by decide +kernel) rfl) (tg_of 85 (by decide +kernel) rfl) kX4_saidOver ⟨by decide +kernel, by decide +kernel, by decide +kernel⟩ (by decide)
set_option maxRecDepth 8000 in
theorem sX0_saidOf_22_c10 : Site RX0 mX0_saidOf 22 25 mX10_saidOver (some 10) 3 := site_U (owner := RX1) (x := ⟨RX1, "saidOver", "([I[I)I"⟩) (dk DX0_saidOf 12 rfl) KX10 (tg_of 543 (by decide +kernel) rfl) (tg_of 546 (by decide +kernel) rfl) (tg_of 544 (by decide +kernel) rfl) (kX1_saidOver) (tg_of 567 (by decide +kernel) rfl) (tg_of 566 (by decide +kernel) rfl) (tg_of 88 (by decide +kernel) rfl) kX10_saidOver ⟨by decide +kernel, by decide +kernel, by decide +kernel⟩ (by decide)
set_option maxRecDepth 8000 in
theorem sX0_goingOver_20 : Site RX0 mX0_goingOver 20 23 mX5_find (some 5) 2 := site_V (dk DX0_goingOver 12 rfl) KX5 (tg_of 678 (by decide +kernel) rfl) (tg_of 490 (by decide +kernel) rfl) (tg_of 491 (by decide +kernel) rfl) (tg_of 75 (by decide +kernel) rfl) kX5_find ⟨by decide +kernel, by decide +kernel, by decide +kernel⟩ (by decide)
set_option maxRecDepth 8000 in
theorem sX0_goingOver_39_c1 : Site RX0 mX0_goingOver 39 42 mX1_saidOver (some 1) 3 := site_U (owner := RX1) (x := ⟨RX1, "saidOver", "([I[I)I"⟩) (dk DX0_goingOver 22 rfl) KX1 (tg_of 543 (by decide +kernel) rfl) (tg_of 546 (by decide +kernel) rfl) (tg_of 544 (by decide +kernel) rfl) (kX1_saidOver) (tg_of 544 (by decide +kernel) rfl) (tg_of 545 (by decide +kernel) rfl) (tg_of 81 (by decide +kernel) rfl) kX1_saidOver ⟨by decide +kernel, by decide +kernel, by decide +kernel⟩ (by decide)
set_option maxRecDepth 8000 in
theorem sX0_goingOver_39_c9 : Site RX0 mX0_goingOver 39 42 mX9_saidOver (some 9) 3 := site_U (owner := RX1) (x := ⟨RX1, "saidOver", "([I[I)I"⟩) (dk DX0_goingOver 22 rfl) KX9 (tg_of 543 (by decide +kernel) rfl) (tg_of 546 (by decide +kernel) rfl) (tg_of 544 (by decide +kernel) rfl) (kX1_saidOver) (tg_of 562 (by decide +kernel) rfl) (tg_of 565 (by decide +kernel) rfl) (tg_of 82 (by decide +kernel) rfl) kX9_saidOver ⟨by decide +kernel, by decide +kernel, by decide +kernel⟩ (by decide)
set_option maxRecDepth 8000 in
theorem sX0_goingOver_39_c8 : Site RX0 mX0_goingOver 39 42 mX8_saidOver (some 8) 3 := site_U (owner := RX1) (x := ⟨RX1, "saidOver", "([I[I)I"⟩) (dk DX0_goingOver 22 rfl) KX8 (tg_of 543 (by decide +kernel) rfl) (tg_of 546 (by decide +kernel) rfl) (tg_of 544 (by decide +kernel) rfl) (kX1_saidOver) (tg_of 559 (by decide +kernel) rfl) (tg_of 558 (by decide +kernel) rfl) (tg_of 86 (by decide +kernel) rfl) kX8_saidOver ⟨by decide +kernel, by decide +kernel, by decide +kernel⟩ (by decide)
set_option maxRecDepth 8000 in
theorem sX0_goingOver_39_c2 : Site RX0 mX0_goingOver 39 42 mX2_saidOver (some 2) 3 := site_U (owner := RX1) (x := ⟨RX1, "saidOver", "([I[I)I"⟩) (dk DX0_goingOver 22 rfl) KX2 (tg_of 543 (by decide +kernel) rfl) (tg_of 546 (by decide +kernel) rfl) (tg_of 544 (by decide +kernel) rfl) (kX1_saidOver) (tg_of 548 (by decide +kernel) rfl) (tg_of 547 (by decide +kernel) rfl) (tg_of 84 (by decide +kernel) rfl) kX2_saidOver ⟨by decide +kernel, by decide +kernel, by decide +kernel⟩ (by decide)
set_option maxRecDepth 8000 in
theorem sX0_goingOver_39_c6 : Site RX0 mX0_goingOver 39 42 mX6_saidOver (some 6) 3 := site_U (owner := RX1) (x := ⟨RX1, "saidOver", "([I[I)I"⟩) (dk DX0_goingOver 22 rfl) KX6 (tg_of 543 (by decide +kernel) rfl) (tg_of 546 (by decide +kernel) rfl) (tg_of 544 (by decide +kernel) rfl) (kX1_saidOver) (tg_of 555 (by decide +kernel) rfl) (tg_of 554 (by decide +kernel) rfl) (tg_of 87 (by decide +kernel) rfl) kX6_saidOver ⟨by decide +kernel, by decide +kernel, by decide +kernel⟩ (by decide)
set_option maxRecDepth 8000 in
theorem sX0_goingOver_39_c4 : Site RX0 mX0_goingOver 39 42 mX4_saidOver (some 4) 3 := site_U (owner := RX1) (x := ⟨RX1, "saidOver", "([I[I)I"⟩) (dk DX0_goingOver 22 rfl) KX4 (tg_of 543 (by decide +kernel) rfl) (tg_of 546 (by decide +kernel) rfl) (tg_of 544 (by decide +kernel) rfl) (kX1_saidOver) (tg_of 551 (by decide +kernel) rfl) (tg_of 550 (by decide +kernel) rfl) (tg_of 85 (by decide +kernel) rfl) kX4_saidOver ⟨by decide +kernel, by decide +kernel, by decide +kernel⟩ (by decide)
set_option maxRecDepth 8000 in
theorem sX0_goingOver_39_c10 : Site RX0 mX0_goingOver 39 42 mX10_saidOver (some 10) 3 := site_U (owner := RX1) (x := ⟨RX1, "saidOver", "([I[I)I"⟩) (dk DX0_goingOver 22 rfl) KX10 (tg_of 543 (by decide +kernel) rfl) (tg_of 546 (by decide +kernel) rfl) (tg_of 544 (by decide +kernel) rfl) (kX1_saidOver) (tg_of 567 (by decide +kernel) rfl) (tg_of 566 (by decide +kernel) rfl) (tg_of 88 (by decide +kernel) rfl) kX10_saidOver ⟨by decide +kernel, by decide +kernel, by decide +kernel⟩ (by decide)
set_option maxRecDepth 8000 in
theorem sX0_pass_98 : Site RX0 mX0_pass 98 101 mX0_stopAll (some 0) 3 := site_V (dk DX0_pass_1 0 rfl) KX0 (tg_of 733 (by decide +kernel) rfl) (tg_of 735 (by decide +kernel) rfl) (tg_of 14 (by decide +kernel) rfl) (tg_of 76 (by decide +kernel) rfl) kX0_stopAll ⟨by decide +kernel, by decide +kernel, by decide +kernel⟩ (by decide)
set_option maxRecDepth 8000 in
theorem sX0_pass_122 : Site RX0 mX0_pass 122 125 mJ6_bitCount_0f7a4 none 1 := site_S (dk DX0_pass_1 14 rfl) (tg_of 771 (by decide +kernel) rfl) (tg_of 684 (by decide +kernel) rfl) (tg_of 89 (by decide +kernel) rfl) kJ6_bitCount_0f7a4 ⟨by decide +kernel, by decide +kernel, by decide +kernel⟩ (by decide)
set_option maxRecDepth 8000 in
theorem sX0_stopAll_23 : Site RX0 mX0_stopAll 23 26 mX5_find (some 5) 2 := site_V (dk DX0_stopAll 13 rfl) KX5 (tg_of 678 (by decide +kernel) rfl) (tg_of 490 (by decide +kernel) rfl) (tg_of 491 (by decide +kernel) rfl) (tg_of 75 (by decide +kernel) rfl) kX5_find ⟨by decide +kernel, by decide +kernel, by decide +kernel⟩ (by decide)
set_option maxRecDepth 8000 in
theorem sX0_stopAll_35 : Site RX0 mX0_stopAll 35 38 mX11_bit none 2 := site_SN (host := "NextOneKnows") (dk DX0_stopAll 19 rfl) (by decide +kernel) (tg_of 517 (by decide +kernel) rfl) (tg_of 74 (by decide +kernel) rfl) kX11_bit ⟨by decide +kernel, by decide +kernel, by decide +kernel⟩ (by decide)
set_option maxRecDepth 8000 in
theorem sX0_stopAll_45 : Site RX0 mX0_stopAll 45 48 mX0_stop (some 0) 3 := site_V (dk DX0_stopAll 24 rfl) KX0 (tg_of 737 (by decide +kernel) rfl) (tg_of 739 (by decide +kernel) rfl) (tg_of 15 (by decide +kernel) rfl) (tg_of 76 (by decide +kernel) rfl) kX0_stop ⟨by decide +kernel, by decide +kernel, by decide +kernel⟩ (by decide)
set_option maxRecDepth 8000 in
theorem sX0_stop_38 : Site RX0 mX0_stop 38 41 mX5_callsAtFirst (some 5) 1 := site_V (dk DX0_stop_0 20 rfl) KX5 (tg_of 741 (by decide +kernel) rfl) (tg_of 658 (by decide +kernel) rfl) (tg_of 659 (by decide +kernel) rfl) (tg_of 75 (by decide +kernel) rfl) kX5_callsAtFirst ⟨by decide +kernel, by decide +kernel, by decide +kernel⟩ (by decide)
set_option maxRecDepth 8000 in
theorem sX0_stop_45 : Site RX0 mX0_stop 45 48 mX5_callsFading (some 5) 1 := site_V (dk DX0_stop_0 23 rfl) KX5 (tg_of 742 (by decide +kernel) rfl) (tg_of 662 (by decide +kernel) rfl) (tg_of 663 (by decide +kernel) rfl) (tg_of 75 (by decide +kernel) rfl) kX5_callsFading ⟨by decide +kernel, by decide +kernel, by decide +kernel⟩ (by decide)
set_option maxRecDepth 8000 in
theorem sX0_stop_106 : Site RX0 mX0_stop 106 109 mX0_dearCell none 2 := site_S (dk DX0_stop_0 58 rfl) (tg_of 723 (by decide +kernel) rfl) (tg_of 724 (by decide +kernel) rfl) (tg_of 76 (by decide +kernel) rfl) kX0_dearCell ⟨by decide +kernel, by decide +kernel, by decide +kernel⟩ (by decide)
set_option maxRecDepth 8000 in
theorem sX0_stop_119_c1 : Site RX0 mX0_stop 119 122 mX1_isKnownByCall (some 1) 1 := site_U (owner := RX1) (x := ⟨RX1, "isKnownByCall", "()Z"⟩) (dk DX0_stop_1 5 rfl) KX1 (tg_of 743 (by decide +kernel) rfl) (tg_of 746 (by decide +kernel) rfl) (tg_of 744 (by decide +kernel) rfl) (kX1_isKnownByCall) (tg_of 744 (by decide +kernel) rfl) (tg_of 745 (by decide +kernel) rfl) (tg_of 81 (by decide +kernel) rfl) kX1_isKnownByCall ⟨by decide +kernel, by decide +kernel, by decide +kernel⟩ (by decide)
set_option maxRecDepth 8000 in
theorem sX0_stop_119_c9 : Site RX0 mX0_stop 119 122 mX1_isKnownByCall (some 9) 1 := site_U (owner := RX1) (x := ⟨RX1, "isKnownByCall", "()Z"⟩) (dk DX0_stop_1 5 rfl) KX9 (tg_of 743 (by decide +kernel) rfl) (tg_of 746 (by decide +kernel) rfl) (tg_of 744 (by decide +kernel) rfl) (kX1_isKnownByCall) (tg_of 744 (by decide +kernel) rfl) (tg_of 751 (by decide +kernel) rfl) (tg_of 81 (by decide +kernel) rfl) kX1_isKnownByCall ⟨by decide +kernel, by decide +kernel, by decide +kernel⟩ (by decide)
set_option maxRecDepth 8000 in
theorem sX0_stop_119_c8 : Site RX0 mX0_stop 119 122 mX1_isKnownByCall (some 8) 1 := site_U (owner := RX1) (x := ⟨RX1, "isKnownByCall", "()Z"⟩) (dk DX0_stop_1 5 rfl) KX8 (tg_of 743 (by decide +kernel) rfl) (tg_of 746 (by decide +kernel) rfl) (tg_of 744 (by decide +kernel) rfl) (kX1_isKnownByCall) (tg_of 744 (by decide +kernel) rfl) (tg_of 750 (by decide +kernel) rfl) (tg_of 81 (by decide +kernel) rfl) kX1_isKnownByCall ⟨by decide +kernel, by decide +kernel, by decide +kernel⟩ (by decide)
set_option maxRecDepth 8000 in
theorem sX0_stop_119_c2 : Site RX0 mX0_stop 119 122 mX1_isKnownByCall (some 2) 1 := site_U (owner := RX1) (x := ⟨RX1, "isKnownByCall", "()Z"⟩) (dk DX0_stop_1 5 rfl) KX2 (tg_of 743 (by decide +kernel) rfl) (tg_of 746 (by decide +kernel) rfl) (tg_of 744 (by decide +kernel) rfl) (kX1_isKnownByCall) (tg_of 744 (by decide +kernel) rfl) (tg_of 747 (by decide +kernel) rfl) (tg_of 81 (by decide +kernel) rfl) kX1_isKnownByCall ⟨by decide +kernel, by decide +kernel, by decide +kernel⟩ (by decide)
set_option maxRecDepth 8000 in
theorem sX0_stop_119_c6 : Site RX0 mX0_stop 119 122 mX1_isKnownByCall (some 6) 1 := site_U (owner := RX1) (x := ⟨RX1, "isKnownByCall", "()Z"⟩) (dk DX0_stop_1 5 rfl) KX6 (tg_of 743 (by decide +kernel) rfl) (tg_of 746 (by decide +kernel) rfl) (tg_of 744 (by decide +kernel) rfl) (kX1_isKnownByCall) (tg_of 744 (by decide +kernel) rfl) (tg_of 749 (by decide +kernel) rfl) (tg_of 81 (by decide +kernel) rfl) kX1_isKnownByCall ⟨by decide +kernel, by decide +kernel, by decide +kernel⟩ (by decide)
set_option maxRecDepth 8000 in
theorem sX0_stop_119_c4 : Site RX0 mX0_stop 119 122 mX1_isKnownByCall (some 4) 1 := site_U (owner := RX1) (x := ⟨RX1, "isKnownByCall", "()Z"⟩) (dk DX0_stop_1 5 rfl) KX4 (tg_of 743 (by decide +kernel) rfl) (tg_of 746 (by decide +kernel) rfl) (tg_of 744 (by decide +kernel) rfl) (kX1_isKnownByCall) (tg_of 744 (by decide +kernel) rfl) (tg_of 748 (by decide +kernel) rfl) (tg_of 81 (by decide +kernel) rfl) kX1_isKnownByCall ⟨by decide +kernel, by decide +kernel, by decide +kernel⟩ (by decide)
set_option maxRecDepth 8000 in
theorem sX0_stop_119_c10 : Site RX0 mX0_stop 119 122 mX10_isKnownByCall (some 10) 1 := site_U (owner := RX1) (x := ⟨RX1, "isKnownByCall", "()Z"⟩) (dk DX0_stop_1 5 rfl) KX10 (tg_of 743 (by decide +kernel) rfl) (tg_of 746 (by decide +kernel) rfl) (tg_of 744 (by decide +kernel) rfl) (kX1_isKnownByCall) (tg_of 753 (by decide +kernel) rfl) (tg_of 752 (by decide +kernel) rfl) (tg_of 88 (by decide +kernel) rfl) kX10_isKnownByCall ⟨by decide +kernel, by decide +kernel, by decide +kernel⟩ (by decide)
set_option maxRecDepth 8000 in
theorem sX0_stop_129_c1 : Site RX0 mX0_stop 129 132 mX1_isKnownByStop (some 1) 1 := site_U (owner := RX1) (x := ⟨RX1, "isKnownByStop", "()Z"⟩) (dk DX0_stop_1 9 rfl) KX1 (tg_of 756 (by decide +kernel) rfl) (tg_of 759 (by decide +kernel) rfl) (tg_of 757 (by decide +kernel) rfl) (kX1_isKnownByStop) (tg_of 757 (by decide +kernel) rfl) (tg_of 758 (by decide +kernel) rfl) (tg_of 81 (by decide +kernel) rfl) kX1_isKnownByStop ⟨by decide +kernel, by decide +kernel, by decide +kernel⟩ (by decide)
set_option maxRecDepth 8000 in
theorem sX0_stop_129_c9 : Site RX0 mX0_stop 129 132 mX1_isKnownByStop (some 9) 1 := site_U (owner := RX1) (x := ⟨RX1, "isKnownByStop", "()Z"⟩) (dk DX0_stop_1 9 rfl) KX9 (tg_of 756 (by decide +kernel) rfl) (tg_of 759 (by decide +kernel) rfl) (tg_of 757 (by decide +kernel) rfl) (kX1_isKnownByStop) (tg_of 757 (by decide +kernel) rfl) (tg_of 768 (by decide +kernel) rfl) (tg_of 81 (by decide +kernel) rfl) kX1_isKnownByStop ⟨by decide +kernel, by decide +kernel, by decide +kernel⟩ (by decide)
set_option maxRecDepth 8000 in
theorem sX0_stop_129_c8 : Site RX0 mX0_stop 129 132 mX1_isKnownByStop (some 8) 1 := site_U (owner := RX1) (x := ⟨RX1, "isKnownByStop", "()Z"⟩) (dk DX0_stop_1 9 rfl) KX8 (tg_of 756 (by decide +kernel) rfl) (tg_of 759 (by decide +kernel) rfl) (tg_of 757 (by decide +kernel) rfl) (kX1_isKnownByStop) (tg_of 757 (by decide +kernel) rfl) (tg_of 767 (by decide +kernel) rfl) (tg_of 81 (by decide +kernel) rfl) kX1_isKnownByStop ⟨by decide +kernel, by decide +kernel, by decide +kernel⟩ (by decide)
set_option maxRecDepth 8000 in
theorem sX0_stop_129_c2 : Site RX0 mX0_stop 129 132 mX2_isKnownByStop (some 2) 1 := site_U (owner := RX1) (x := ⟨RX1, "isKnownByStop", "()Z"⟩) (dk DX0_stop_1 9 rfl) KX2 (tg_of 756 (by decide +kernel) rfl) (tg_of 759 (by decide +kernel) rfl) (tg_of 757 (by decide +kernel) rfl) (kX1_isKnownByStop) (tg_of 761 (by decide +kernel) rfl) (tg_of 760 (by decide +kernel) rfl) (tg_of 84 (by decide +kernel) rfl) kX2_isKnownByStop ⟨by decide +kernel, by decide +kernel, by decide +kernel⟩ (by decide)
set_option maxRecDepth 8000 in
theorem sX0_stop_129_c6 : Site RX0 mX0_stop 129 132 mX2_isKnownByStop (some 6) 1 := site_U (owner := RX1) (x := ⟨RX1, "isKnownByStop", "()Z"⟩) (dk DX0_stop_1 9 rfl) KX6 (tg_of 756 (by decide +kernel) rfl) (tg_of 759 (by decide +kernel) rfl) (tg_of 757 (by decide +kernel) rfl) (kX1_isKnownByStop) (tg_of 761 (by decide +kernel) rfl) (tg_of 766 (by decide +kernel) rfl) (tg_of 84 (by decide +kernel) rfl) kX2_isKnownByStop ⟨by decide +kernel, by decide +kernel, by decide +kernel⟩ (by decide)
set_option maxRecDepth 8000 in
theorem sX0_stop_129_c4 : Site RX0 mX0_stop 129 132 mX4_isKnownByStop (some 4) 1 := site_U (owner := RX1) (x := ⟨RX1, "isKnownByStop", "()Z"⟩) (dk DX0_stop_1 9 rfl) KX4 (tg_of 756 (by decide +kernel) rfl) (tg_of 759 (by decide +kernel) rfl) (tg_of 757 (by decide +kernel) rfl) (kX1_isKnownByStop) (tg_of 764 (by decide +kernel) rfl) (tg_of 763 (by decide +kernel) rfl) (tg_of 85 (by decide +kernel) rfl) kX4_isKnownByStop ⟨by decide +kernel, by decide +kernel, by decide +kernel⟩ (by decide)
set_option maxRecDepth 8000 in
theorem sX0_stop_129_c10 : Site RX0 mX0_stop 129 132 mX4_isKnownByStop (some 10) 1 := site_U (owner := RX1) (x := ⟨RX1, "isKnownByStop", "()Z"⟩) (dk DX0_stop_1 9 rfl) KX10 (tg_of 756 (by decide +kernel) rfl) (tg_of 759 (by decide +kernel) rfl) (tg_of 757 (by decide +kernel) rfl) (kX1_isKnownByStop) (tg_of 764 (by decide +kernel) rfl) (tg_of 769 (by decide +kernel) rfl) (tg_of 85 (by decide +kernel) rfl) kX4_isKnownByStop ⟨by decide +kernel, by decide +kernel, by decide +kernel⟩ (by decide)
set_option maxRecDepth 8000 in
theorem sX0_costHanded_10 : Site RX0 mX0_costHanded 10 13 mX0_goingOver (some 0) 2 := site_V (dk DX0_costHanded 6 rfl) KX0 (tg_of 793 (by decide +kernel) rfl) (tg_of 680 (by decide +kernel) rfl) (tg_of 681 (by decide +kernel) rfl) (tg_of 76 (by decide +kernel) rfl) kX0_goingOver ⟨by decide +kernel, by decide +kernel, by decide +kernel⟩ (by decide)
set_option maxRecDepth 8000 in
theorem sX0_costHanded_21 : Site RX0 mX0_costHanded 21 24 mX0_pass (some 0) 3 := site_V (dk DX0_costHanded 11 rfl) KX0 (tg_of 794 (by decide +kernel) rfl) (tg_of 730 (by decide +kernel) rfl) (tg_of 731 (by decide +kernel) rfl) (tg_of 76 (by decide +kernel) rfl) kX0_pass ⟨by decide +kernel, by decide +kernel, by decide +kernel⟩ (by decide)
set_option maxRecDepth 8000 in
theorem sX0_bestSplit_50 : Site RX0 mX0_bestSplit 50 53 mX0_share (some 0) 5 := site_V (dk DX0_bestSplit_0 34 rfl) KX0 (tg_of 785 (by decide +kernel) rfl) (tg_of 787 (by decide +kernel) rfl) (tg_of 16 (by decide +kernel) rfl) (tg_of 76 (by decide +kernel) rfl) kX0_share ⟨by decide +kernel, by decide +kernel, by decide +kernel⟩ (by decide)
set_option maxRecDepth 8000 in
theorem sX0_bestSplit_58 : Site RX0 mX0_bestSplit 58 61 mX0_costHanded (some 0) 2 := site_V (dk DX0_bestSplit_0 38 rfl) KX0 (tg_of 789 (by decide +kernel) rfl) (tg_of 790 (by decide +kernel) rfl) (tg_of 791 (by decide +kernel) rfl) (tg_of 76 (by decide +kernel) rfl) kX0_costHanded ⟨by decide +kernel, by decide +kernel, by decide +kernel⟩ (by decide)
set_option maxRecDepth 8000 in
theorem sX0_bestOf_25 : Site RX0 mX0_bestOf 25 28 mX11_bit none 2 := site_SN (host := "NextOneKnows") (dk DX0_bestOf 13 rfl) (by decide +kernel) (tg_of 517 (by decide +kernel) rfl) (tg_of 74 (by decide +kernel) rfl) kX11_bit ⟨by decide +kernel, by decide +kernel, by decide +kernel⟩ (by decide)
set_option maxRecDepth 8000 in
theorem sX0_bestOf_59 : Site RX0 mX0_bestOf 59 62 mX0_pass (some 0) 3 := site_V (dk DX0_bestOf 30 rfl) KX0 (tg_of 794 (by decide +kernel) rfl) (tg_of 730 (by decide +kernel) rfl) (tg_of 731 (by decide +kernel) rfl) (tg_of 76 (by decide +kernel) rfl) kX0_pass ⟨by decide +kernel, by decide +kernel, by decide +kernel⟩ (by decide)
set_option maxRecDepth 8000 in
theorem sX0_bestOf_83 : Site RX0 mX0_bestOf 83 86 mX0_pass (some 0) 3 := site_V (dk DX0_bestOf 41 rfl) KX0 (tg_of 794 (by decide +kernel) rfl) (tg_of 730 (by decide +kernel) rfl) (tg_of 731 (by decide +kernel) rfl) (tg_of 76 (by decide +kernel) rfl) kX0_pass ⟨by decide +kernel, by decide +kernel, by decide +kernel⟩ (by decide)
set_option maxRecDepth 8000 in
theorem sX0_firstRowNotSo_58 : Site RX0 mX0_firstRowNotSo 58 61 mX11_bit none 2 := site_SN (host := "NextOneKnows") (dk DX0_firstRowNotSo 32 rfl) (by decide +kernel) (tg_of 517 (by decide +kernel) rfl) (tg_of 74 (by decide +kernel) rfl) kX11_bit ⟨by decide +kernel, by decide +kernel, by decide +kernel⟩ (by decide)
set_option maxRecDepth 8000 in
theorem sX1_init_17 : Site RX1 mX1_init 17 20 mJ9_max_7cf53 none 2 := site_S (dk DX1_init 11 rfl) (tg_of 357 (by decide +kernel) rfl) (tg_of 358 (by decide +kernel) rfl) (tg_of 83 (by decide +kernel) rfl) kJ9_max_7cf53 ⟨by decide +kernel, by decide +kernel, by decide +kernel⟩ (by decide)
set_option maxRecDepth 8000 in
theorem sX1_weeksUntil_10 : Site RX1 mX1_weeksUntil 10 13 mJ9_floorMod_7cf53 none 2 := site_S (dk DX1_weeksUntil 6 rfl) (tg_of 716 (by decide +kernel) rfl) (tg_of 717 (by decide +kernel) rfl) (tg_of 83 (by decide +kernel) rfl) kJ9_floorMod_7cf53 ⟨by decide +kernel, by decide +kernel, by decide +kernel⟩ (by decide)
set_option maxRecDepth 8000 in
theorem sX1_says_3 : Site RX1 mX1_says 3 6 mX7_begins (some 7) 2 := site_V (dk DX1_says 2 rfl) KX7 (tg_of 930 (by decide +kernel) rfl) (tg_of 909 (by decide +kernel) rfl) (tg_of 910 (by decide +kernel) rfl) (tg_of 77 (by decide +kernel) rfl) kX7_begins ⟨by decide +kernel, by decide +kernel, by decide +kernel⟩ (by decide)
set_option maxRecDepth 8000 in
theorem sX1_holds_3 : Site RX1 mX1_holds 3 6 mX7_begins (some 7) 2 := site_V (dk DX1_holds 2 rfl) KX7 (tg_of 930 (by decide +kernel) rfl) (tg_of 909 (by decide +kernel) rfl) (tg_of 910 (by decide +kernel) rfl) (tg_of 77 (by decide +kernel) rfl) kX7_begins ⟨by decide +kernel, by decide +kernel, by decide +kernel⟩ (by decide)
set_option maxRecDepth 8000 in
theorem sX1_holds_9_c1 : Site RX1 mX1_holds 9 12 mX1_says (some 1) 3 := site_U (owner := RX1) (x := ⟨RX1, "says", "(ILNextOneKnows$Trace;)I"⟩) (dk DX1_holds 6 rfl) KX1 (tg_of 954 (by decide +kernel) rfl) (tg_of 904 (by decide +kernel) rfl) (tg_of 902 (by decide +kernel) rfl) (kX1_says) (tg_of 902 (by decide +kernel) rfl) (tg_of 903 (by decide +kernel) rfl) (tg_of 81 (by decide +kernel) rfl) kX1_says ⟨by decide +kernel, by decide +kernel, by decide +kernel⟩ (by decide)
set_option maxRecDepth 8000 in
theorem sX1_holds_9_c9 : Site RX1 mX1_holds 9 12 mX1_says (some 9) 3 := site_U (owner := RX1) (x := ⟨RX1, "says", "(ILNextOneKnows$Trace;)I"⟩) (dk DX1_holds 6 rfl) KX9 (tg_of 954 (by decide +kernel) rfl) (tg_of 904 (by decide +kernel) rfl) (tg_of 902 (by decide +kernel) rfl) (kX1_says) (tg_of 902 (by decide +kernel) rfl) (tg_of 922 (by decide +kernel) rfl) (tg_of 81 (by decide +kernel) rfl) kX1_says ⟨by decide +kernel, by decide +kernel, by decide +kernel⟩ (by decide)
set_option maxRecDepth 8000 in
theorem sX1_holds_9_c8 : Site RX1 mX1_holds 9 12 mX8_says (some 8) 3 := site_U (owner := RX1) (x := ⟨RX1, "says", "(ILNextOneKnows$Trace;)I"⟩) (dk DX1_holds 6 rfl) KX8 (tg_of 954 (by decide +kernel) rfl) (tg_of 904 (by decide +kernel) rfl) (tg_of 902 (by decide +kernel) rfl) (kX1_says) (tg_of 916 (by decide +kernel) rfl) (tg_of 915 (by decide +kernel) rfl) (tg_of 86 (by decide +kernel) rfl) kX8_says ⟨by decide +kernel, by decide +kernel, by decide +kernel⟩ (by decide)
set_option maxRecDepth 8000 in
theorem sX1_holds_9_c2 : Site RX1 mX1_holds 9 12 mX2_says (some 2) 3 := site_U (owner := RX1) (x := ⟨RX1, "says", "(ILNextOneKnows$Trace;)I"⟩) (dk DX1_holds 6 rfl) KX2 (tg_of 954 (by decide +kernel) rfl) (tg_of 904 (by decide +kernel) rfl) (tg_of 902 (by decide +kernel) rfl) (kX1_says) (tg_of 906 (by decide +kernel) rfl) (tg_of 905 (by decide +kernel) rfl) (tg_of 84 (by decide +kernel) rfl) kX2_says ⟨by decide +kernel, by decide +kernel, by decide +kernel⟩ (by decide)
set_option maxRecDepth 8000 in
theorem sX1_holds_9_c6 : Site RX1 mX1_holds 9 12 mX2_says (some 6) 3 := site_U (owner := RX1) (x := ⟨RX1, "says", "(ILNextOneKnows$Trace;)I"⟩) (dk DX1_holds 6 rfl) KX6 (tg_of 954 (by decide +kernel) rfl) (tg_of 904 (by decide +kernel) rfl) (tg_of 902 (by decide +kernel) rfl) (kX1_says) (tg_of 906 (by decide +kernel) rfl) (tg_of 914 (by decide +kernel) rfl) (tg_of 84 (by decide +kernel) rfl) kX2_says ⟨by decide +kernel, by decide +kernel, by decide +kernel⟩ (by decide)
set_option maxRecDepth 8000 in
theorem sX1_holds_9_c4 : Site RX1 mX1_holds 9 12 mX1_says (some 4) 3 := site_U (owner := RX1) (x := ⟨RX1, "says", "(ILNextOneKnows$Trace;)I"⟩) (dk DX1_holds 6 rfl) KX4 (tg_of 954 (by decide +kernel) rfl) (tg_of 904 (by decide +kernel) rfl) (tg_of 902 (by decide +kernel) rfl) (kX1_says) (tg_of 902 (by decide +kernel) rfl) (tg_of 913 (by decide +kernel) rfl) (tg_of 81 (by decide +kernel) rfl) kX1_says ⟨by decide +kernel, by decide +kernel, by decide +kernel⟩ (by decide)
set_option maxRecDepth 8000 in
theorem sX1_holds_9_c10 : Site RX1 mX1_holds 9 12 mX10_says (some 10) 3 := site_U (owner := RX1) (x := ⟨RX1, "says", "(ILNextOneKnows$Trace;)I"⟩) (dk DX1_holds 6 rfl) KX10 (tg_of 954 (by decide +kernel) rfl) (tg_of 904 (by decide +kernel) rfl) (tg_of 902 (by decide +kernel) rfl) (kX1_says) (tg_of 924 (by decide +kernel) rfl) (tg_of 923 (by decide +kernel) rfl) (tg_of 88 (by decide +kernel) rfl) kX10_says ⟨by decide +kernel, by decide +kernel, by decide +kernel⟩ (by decide)
set_option maxRecDepth 8000 in
theorem sX1_tells_3 : Site RX1 mX1_tells 3 6 mX7_begins (some 7) 2 := site_V (dk DX1_tells 2 rfl) KX7 (tg_of 930 (by decide +kernel) rfl) (tg_of 909 (by decide +kernel) rfl) (tg_of 910 (by decide +kernel) rfl) (tg_of 77 (by decide +kernel) rfl) kX7_begins ⟨by decide +kernel, by decide +kernel, by decide +kernel⟩ (by decide)
set_option maxRecDepth 8000 in
theorem sX1_tells_9_c1 : Site RX1 mX1_tells 9 12 mX1_holds (some 1) 3 := site_U (owner := RX1) (x := ⟨RX1, "holds", "(ILNextOneKnows$Trace;)I"⟩) (dk DX1_tells 6 rfl) KX1 (tg_of 979 (by decide +kernel) rfl) (tg_of 934 (by decide +kernel) rfl) (tg_of 932 (by decide +kernel) rfl) (kX1_holds) (tg_of 932 (by decide +kernel) rfl) (tg_of 933 (by decide +kernel) rfl) (tg_of 81 (by decide +kernel) rfl) kX1_holds ⟨by decide +kernel, by decide +kernel, by decide +kernel⟩ (by decide)
set_option maxRecDepth 8000 in
theorem sX1_tells_9_c9 : Site RX1 mX1_tells 9 12 mX9_holds (some 9) 3 := site_U (owner := RX1) (x := ⟨RX1, "holds", "(ILNextOneKnows$Trace;)I"⟩) (dk DX1_tells 6 rfl) KX9 (tg_of 979 (by decide +kernel) rfl) (tg_of 934 (by decide +kernel) rfl) (tg_of 932 (by decide +kernel) rfl) (kX1_holds) (tg_of 942 (by decide +kernel) rfl) (tg_of 946 (by decide +kernel) rfl) (tg_of 82 (by decide +kernel) rfl) kX9_holds ⟨by decide +kernel, by decide +kernel, by decide +kernel⟩ (by decide)
set_option maxRecDepth 8000 in
theorem sX1_tells_9_c8 : Site RX1 mX1_tells 9 12 mX8_holds (some 8) 3 := site_U (owner := RX1) (x := ⟨RX1, "holds", "(ILNextOneKnows$Trace;)I"⟩) (dk DX1_tells 6 rfl) KX8 (tg_of 979 (by decide +kernel) rfl) (tg_of 934 (by decide +kernel) rfl) (tg_of 932 (by decide +kernel) rfl) (kX1_holds) (tg_of 939 (by decide +kernel) rfl) (tg_of 938 (by decide +kernel) rfl) (tg_of 86 (by decide +kernel) rfl) kX8_holds ⟨by decide +kernel, by decide +kernel, by decide +kernel⟩ (by decide)
set_option maxRecDepth 8000 in
theorem sX1_tells_9_c2 : Site RX1 mX1_tells 9 12 mX1_holds (some 2) 3 := site_U (owner := RX1) (x := ⟨RX1, "holds", "(ILNextOneKnows$Trace;)I"⟩) (dk DX1_tells 6 rfl) KX2 (tg_of 979 (by decide +kernel) rfl) (tg_of 934 (by decide +kernel) rfl) (tg_of 932 (by decide +kernel) rfl) (kX1_holds) (tg_of 932 (by decide +kernel) rfl) (tg_of 935 (by decide +kernel) rfl) (tg_of 81 (by decide +kernel) rfl) kX1_holds ⟨by decide +kernel, by decide +kernel, by decide +kernel⟩ (by decide)
set_option maxRecDepth 8000 in
theorem sX1_tells_9_c6 : Site RX1 mX1_tells 9 12 mX1_holds (some 6) 3 := site_U (owner := RX1) (x := ⟨RX1, "holds", "(ILNextOneKnows$Trace;)I"⟩) (dk DX1_tells 6 rfl) KX6 (tg_of 979 (by decide +kernel) rfl) (tg_of 934 (by decide +kernel) rfl) (tg_of 932 (by decide +kernel) rfl) (kX1_holds) (tg_of 932 (by decide +kernel) rfl) (tg_of 937 (by decide +kernel) rfl) (tg_of 81 (by decide +kernel) rfl) kX1_holds ⟨by decide +kernel, by decide +kernel, by decide +kernel⟩ (by decide)
set_option maxRecDepth 8000 in
theorem sX1_tells_9_c4 : Site RX1 mX1_tells 9 12 mX1_holds (some 4) 3 := site_U (owner := RX1) (x := ⟨RX1, "holds", "(ILNextOneKnows$Trace;)I"⟩) (dk DX1_tells 6 rfl) KX4 (tg_of 979 (by decide +kernel) rfl) (tg_of 934 (by decide +kernel) rfl) (tg_of 932 (by decide +kernel) rfl) (kX1_holds) (tg_of 932 (by decide +kernel) rfl) (tg_of 936 (by decide +kernel) rfl) (tg_of 81 (by decide +kernel) rfl) kX1_holds ⟨by decide +kernel, by decide +kernel, by decide +kernel⟩ (by decide)
set_option maxRecDepth 8000 in
theorem sX1_tells_9_c10 : Site RX1 mX1_tells 9 12 mX10_holds (some 10) 3 := site_U (owner := RX1) (x := ⟨RX1, "holds", "(ILNextOneKnows$Trace;)I"⟩) (dk DX1_tells 6 rfl) KX10 (tg_of 979 (by decide +kernel) rfl) (tg_of 934 (by decide +kernel) rfl) (tg_of 932 (by decide +kernel) rfl) (kX1_holds) (tg_of 948 (by decide +kernel) rfl) (tg_of 947 (by decide +kernel) rfl) (tg_of 88 (by decide +kernel) rfl) kX10_holds ⟨by decide +kernel, by decide +kernel, by decide +kernel⟩ (by decide)
set_option maxRecDepth 8000 in
theorem sX2_init_10 {ci : Nat} : Site RX2 mX2_init 10 13 mX1_init (some ci) 7 := site_I (dk DX2_init 7 rfl) rfl rfl (tg_of 411 (by decide +kernel) rfl) (tg_of 354 (by decide +kernel) rfl) (tg_of 81 (by decide +kernel) rfl) kX1_init ⟨by decide +kernel, by decide +kernel, by decide +kernel⟩ (by decide)
set_option maxRecDepth 8000 in
theorem sX2_says_3 : Site RX2 mX2_says 3 6 mX7_begins (some 7) 2 := site_V (dk DX2_says 2 rfl) KX7 (tg_of 908 (by decide +kernel) rfl) (tg_of 909 (by decide +kernel) rfl) (tg_of 910 (by decide +kernel) rfl) (tg_of 77 (by decide +kernel) rfl) kX7_begins ⟨by decide +kernel, by decide +kernel, by decide +kernel⟩ (by decide)
set_option maxRecDepth 8000 in
theorem sX2_says_11_c2 : Site RX2 mX2_says 11 14 mX1_says (some 2) 3 := site_SU (x := ⟨RX1, "says", "(ILNextOneKnows$Trace;)I"⟩) (dk DX2_says 8 rfl) KX2 ⟨rfl, rfl⟩ (tg_of 912 (by decide +kernel) rfl) (tg_of 904 (by decide +kernel) rfl) (tg_of 418 (by decide +kernel) rfl) (Or.inl rfl) (tg_of 902 (by decide +kernel) rfl) (tg_of 81 (by decide +kernel) rfl) kX1_says (by decide +kernel) (by decide +kernel) (by decide)
set_option maxRecDepth 8000 in
theorem sX2_says_11_c6 : Site RX2 mX2_says 11 14 mX1_says (some 6) 3 := site_SU (x := ⟨RX1, "says", "(ILNextOneKnows$Trace;)I"⟩) (dk DX2_says 8 rfl) KX6 ⟨rfl, rfl⟩ (tg_of 912 (by decide +kernel) rfl) (tg_of 904 (by decide +kernel) rfl) (tg_of 418 (by decide +kernel) rfl) (Or.inl rfl) (tg_of 902 (by decide +kernel) rfl) (tg_of 81 (by decide +kernel) rfl) kX1_says (by decide +kernel) (by decide +kernel) (by decide)
set_option maxRecDepth 8000 in
theorem sX3_readFrom_7 : Site RX3 mX3_readFrom 7 10 mJ9_min_7cf53 none 2 := site_S (dk DX3_readFrom 5 rfl) (tg_of 606 (by decide +kernel) rfl) (tg_of 607 (by decide +kernel) rfl) (tg_of 83 (by decide +kernel) rfl) kJ9_min_7cf53 ⟨by decide +kernel, by decide +kernel, by decide +kernel⟩ (by decide)
set_option maxRecDepth 8000 in
theorem sX3_readFrom_59 : Site RX3 mX3_readFrom 59 62 mX3_takes (some 3) 2 := site_V (dk DX3_readFrom 34 rfl) KX3 (tg_of 609 (by decide +kernel) rfl) (tg_of 611 (by decide +kernel) rfl) (tg_of 2 (by decide +kernel) rfl) (tg_of 79 (by decide +kernel) rfl) kX3_takes ⟨by decide +kernel, by decide +kernel, by decide +kernel⟩ (by decide)
set_option maxRecDepth 8000 in
theorem sX3_readFrom_66 : Site RX3 mX3_readFrom 66 69 mX3_readClause (some 3) 1 := site_V (dk DX3_readFrom 37 rfl) KX3 (tg_of 617 (by decide +kernel) rfl) (tg_of 619 (by decide +kernel) rfl) (tg_of 4 (by decide +kernel) rfl) (tg_of 79 (by decide +kernel) rfl) kX3_readClause ⟨by decide +kernel, by decide +kernel, by decide +kernel⟩ (by decide)
set_option maxRecDepth 8000 in
theorem sX3_readClause_1 : Site RX3 mX3_readClause 1 4 mX3_readWord (some 3) 1 := site_V (dk DX3_readClause_0 1 rfl) KX3 (tg_of 621 (by decide +kernel) rfl) (tg_of 623 (by decide +kernel) rfl) (tg_of 5 (by decide +kernel) rfl) (tg_of 79 (by decide +kernel) rfl) kX3_readWord ⟨by decide +kernel, by decide +kernel, by decide +kernel⟩ (by decide)
set_option maxRecDepth 8000 in
theorem sX3_readClause_8 : Site RX3 mX3_readClause 8 11 mX3_needs (some 3) 2 := site_V (dk DX3_readClause_0 5 rfl) KX3 (tg_of 625 (by decide +kernel) rfl) (tg_of 627 (by decide +kernel) rfl) (tg_of 6 (by decide +kernel) rfl) (tg_of 79 (by decide +kernel) rfl) kX3_needs ⟨by decide +kernel, by decide +kernel, by decide +kernel⟩ (by decide)
set_option maxRecDepth 8000 in
theorem sX3_readClause_12 : Site RX3 mX3_readClause 12 15 mX3_readNumber (some 3) 1 := site_V (dk DX3_readClause_0 7 rfl) KX3 (tg_of 633 (by decide +kernel) rfl) (tg_of 635 (by decide +kernel) rfl) (tg_of 8 (by decide +kernel) rfl) (tg_of 79 (by decide +kernel) rfl) kX3_readNumber ⟨by decide +kernel, by decide +kernel, by decide +kernel⟩ (by decide)
set_option maxRecDepth 8000 in
theorem sX3_readClause_31 : Site RX3 mX3_readClause 31 34 mX3_needs (some 3) 2 := site_V (dk DX3_readClause_0 17 rfl) KX3 (tg_of 625 (by decide +kernel) rfl) (tg_of 627 (by decide +kernel) rfl) (tg_of 6 (by decide +kernel) rfl) (tg_of 79 (by decide +kernel) rfl) kX3_needs ⟨by decide +kernel, by decide +kernel, by decide +kernel⟩ (by decide)
set_option maxRecDepth 8000 in
theorem sX3_readClause_36 : Site RX3 mX3_readClause 36 39 mX3_readEither (some 3) 2 := site_V (dk DX3_readClause_0 20 rfl) KX3 (tg_of 637 (by decide +kernel) rfl) (tg_of 639 (by decide +kernel) rfl) (tg_of 9 (by decide +kernel) rfl) (tg_of 79 (by decide +kernel) rfl) kX3_readEither ⟨by decide +kernel, by decide +kernel, by decide +kernel⟩ (by decide)
set_option maxRecDepth 8000 in
theorem sX3_readWord_3 : Site RX3 mX3_readWord 3 6 mX3_takes (some 3) 2 := site_V (dk DX3_readWord 2 rfl) KX3 (tg_of 609 (by decide +kernel) rfl) (tg_of 611 (by decide +kernel) rfl) (tg_of 2 (by decide +kernel) rfl) (tg_of 79 (by decide +kernel) rfl) kX3_takes ⟨by decide +kernel, by decide +kernel, by decide +kernel⟩ (by decide)
set_option maxRecDepth 8000 in
theorem sX3_readWord_12 : Site RX3 mX3_readWord 12 15 mX3_needs (some 3) 2 := site_V (dk DX3_readWord 6 rfl) KX3 (tg_of 625 (by decide +kernel) rfl) (tg_of 627 (by decide +kernel) rfl) (tg_of 6 (by decide +kernel) rfl) (tg_of 79 (by decide +kernel) rfl) kX3_needs ⟨by decide +kernel, by decide +kernel, by decide +kernel⟩ (by decide)
set_option maxRecDepth 8000 in
theorem sX3_readWord_18 : Site RX3 mX3_readWord 18 21 mX3_needs (some 3) 2 := site_V (dk DX3_readWord 9 rfl) KX3 (tg_of 625 (by decide +kernel) rfl) (tg_of 627 (by decide +kernel) rfl) (tg_of 6 (by decide +kernel) rfl) (tg_of 79 (by decide +kernel) rfl) kX3_needs ⟨by decide +kernel, by decide +kernel, by decide +kernel⟩ (by decide)
set_option maxRecDepth 8000 in
theorem sX3_readWord_27 : Site RX3 mX3_readWord 27 30 mX3_takes (some 3) 2 := site_V (dk DX3_readWord 14 rfl) KX3 (tg_of 609 (by decide +kernel) rfl) (tg_of 611 (by decide +kernel) rfl) (tg_of 2 (by decide +kernel) rfl) (tg_of 79 (by decide +kernel) rfl) kX3_takes ⟨by decide +kernel, by decide +kernel, by decide +kernel⟩ (by decide)
set_option maxRecDepth 8000 in
theorem sX3_readWord_36 : Site RX3 mX3_readWord 36 39 mX3_needs (some 3) 2 := site_V (dk DX3_readWord 18 rfl) KX3 (tg_of 625 (by decide +kernel) rfl) (tg_of 627 (by decide +kernel) rfl) (tg_of 6 (by decide +kernel) rfl) (tg_of 79 (by decide +kernel) rfl) kX3_needs ⟨by decide +kernel, by decide +kernel, by decide +kernel⟩ (by decide)
set_option maxRecDepth 8000 in
theorem sX3_readWord_42 : Site RX3 mX3_readWord 42 45 mX3_needs (some 3) 2 := site_V (dk DX3_readWord 21 rfl) KX3 (tg_of 625 (by decide +kernel) rfl) (tg_of 627 (by decide +kernel) rfl) (tg_of 6 (by decide +kernel) rfl) (tg_of 79 (by decide +kernel) rfl) kX3_needs ⟨by decide +kernel, by decide +kernel, by decide +kernel⟩ (by decide)
set_option maxRecDepth 8000 in
theorem sX3_readWord_48 : Site RX3 mX3_readWord 48 51 mX3_needs (some 3) 2 := site_V (dk DX3_readWord 24 rfl) KX3 (tg_of 625 (by decide +kernel) rfl) (tg_of 627 (by decide +kernel) rfl) (tg_of 6 (by decide +kernel) rfl) (tg_of 79 (by decide +kernel) rfl) kX3_needs ⟨by decide +kernel, by decide +kernel, by decide +kernel⟩ (by decide)
set_option maxRecDepth 8000 in
theorem sX3_readWord_57 : Site RX3 mX3_readWord 57 60 mX3_needs (some 3) 2 := site_V (dk DX3_readWord 29 rfl) KX3 (tg_of 625 (by decide +kernel) rfl) (tg_of 627 (by decide +kernel) rfl) (tg_of 6 (by decide +kernel) rfl) (tg_of 79 (by decide +kernel) rfl) kX3_needs ⟨by decide +kernel, by decide +kernel, by decide +kernel⟩ (by decide)
set_option maxRecDepth 8000 in
theorem sX3_readWord_63 : Site RX3 mX3_readWord 63 66 mX3_takes (some 3) 2 := site_V (dk DX3_readWord 32 rfl) KX3 (tg_of 609 (by decide +kernel) rfl) (tg_of 611 (by decide +kernel) rfl) (tg_of 2 (by decide +kernel) rfl) (tg_of 79 (by decide +kernel) rfl) kX3_takes ⟨by decide +kernel, by decide +kernel, by decide +kernel⟩ (by decide)
set_option maxRecDepth 8000 in
theorem sX3_readWord_72 : Site RX3 mX3_readWord 72 75 mX3_needs (some 3) 2 := site_V (dk DX3_readWord 36 rfl) KX3 (tg_of 625 (by decide +kernel) rfl) (tg_of 627 (by decide +kernel) rfl) (tg_of 6 (by decide +kernel) rfl) (tg_of 79 (by decide +kernel) rfl) kX3_needs ⟨by decide +kernel, by decide +kernel, by decide +kernel⟩ (by decide)
set_option maxRecDepth 8000 in
theorem sX3_readWord_78 : Site RX3 mX3_readWord 78 81 mX3_needs (some 3) 2 := site_V (dk DX3_readWord 39 rfl) KX3 (tg_of 625 (by decide +kernel) rfl) (tg_of 627 (by decide +kernel) rfl) (tg_of 6 (by decide +kernel) rfl) (tg_of 79 (by decide +kernel) rfl) kX3_needs ⟨by decide +kernel, by decide +kernel, by decide +kernel⟩ (by decide)
set_option maxRecDepth 8000 in
theorem sX3_readWord_87 : Site RX3 mX3_readWord 87 90 mX3_needs (some 3) 2 := site_V (dk DX3_readWord 44 rfl) KX3 (tg_of 625 (by decide +kernel) rfl) (tg_of 627 (by decide +kernel) rfl) (tg_of 6 (by decide +kernel) rfl) (tg_of 79 (by decide +kernel) rfl) kX3_needs ⟨by decide +kernel, by decide +kernel, by decide +kernel⟩ (by decide)
set_option maxRecDepth 8000 in
theorem sX3_readWord_93 : Site RX3 mX3_readWord 93 96 mX3_needs (some 3) 2 := site_V (dk DX3_readWord 47 rfl) KX3 (tg_of 625 (by decide +kernel) rfl) (tg_of 627 (by decide +kernel) rfl) (tg_of 6 (by decide +kernel) rfl) (tg_of 79 (by decide +kernel) rfl) kX3_needs ⟨by decide +kernel, by decide +kernel, by decide +kernel⟩ (by decide)
set_option maxRecDepth 8000 in
theorem sX3_readWord_99 : Site RX3 mX3_readWord 99 102 mX3_needs (some 3) 2 := site_V (dk DX3_readWord 50 rfl) KX3 (tg_of 625 (by decide +kernel) rfl) (tg_of 627 (by decide +kernel) rfl) (tg_of 6 (by decide +kernel) rfl) (tg_of 79 (by decide +kernel) rfl) kX3_needs ⟨by decide +kernel, by decide +kernel, by decide +kernel⟩ (by decide)
set_option maxRecDepth 8000 in
theorem sX3_readNumber_10 : Site RX3 mX3_readNumber 10 13 mX3_here (some 3) 1 := site_V (dk DX3_readNumber 8 rfl) KX3 (tg_of 613 (by decide +kernel) rfl) (tg_of 615 (by decide +kernel) rfl) (tg_of 3 (by decide +kernel) rfl) (tg_of 79 (by decide +kernel) rfl) kX3_here ⟨by decide +kernel, by decide +kernel, by decide +kernel⟩ (by decide)
set_option maxRecDepth 8000 in
theorem sX3_readNumber_19 : Site RX3 mX3_readNumber 19 22 mX3_here (some 3) 1 := site_V (dk DX3_readNumber 12 rfl) KX3 (tg_of 613 (by decide +kernel) rfl) (tg_of 615 (by decide +kernel) rfl) (tg_of 3 (by decide +kernel) rfl) (tg_of 79 (by decide +kernel) rfl) kX3_here ⟨by decide +kernel, by decide +kernel, by decide +kernel⟩ (by decide)
set_option maxRecDepth 8000 in
theorem sX3_readNumber_32 : Site RX3 mX3_readNumber 32 35 mX3_here (some 3) 1 := site_V (dk DX3_readNumber 19 rfl) KX3 (tg_of 613 (by decide +kernel) rfl) (tg_of 615 (by decide +kernel) rfl) (tg_of 3 (by decide +kernel) rfl) (tg_of 79 (by decide +kernel) rfl) kX3_here ⟨by decide +kernel, by decide +kernel, by decide +kernel⟩ (by decide)
set_option maxRecDepth 8000 in
theorem sX3_readEither_15 : Site RX3 mX3_readEither 15 18 mX3_takes (some 3) 2 := site_V (dk DX3_readEither 9 rfl) KX3 (tg_of 609 (by decide +kernel) rfl) (tg_of 611 (by decide +kernel) rfl) (tg_of 2 (by decide +kernel) rfl) (tg_of 79 (by decide +kernel) rfl) kX3_takes ⟨by decide +kernel, by decide +kernel, by decide +kernel⟩ (by decide)
set_option maxRecDepth 8000 in
theorem sX3_readEither_23 : Site RX3 mX3_readEither 23 26 mX3_readPart (some 3) 2 := site_V (dk DX3_readEither 13 rfl) KX3 (tg_of 641 (by decide +kernel) rfl) (tg_of 643 (by decide +kernel) rfl) (tg_of 10 (by decide +kernel) rfl) (tg_of 79 (by decide +kernel) rfl) kX3_readPart ⟨by decide +kernel, by decide +kernel, by decide +kernel⟩ (by decide)
set_option maxRecDepth 8000 in
theorem sX3_readEither_37 : Site RX3 mX3_readEither 37 40 mX3_takes (some 3) 2 := site_V (dk DX3_readEither 21 rfl) KX3 (tg_of 609 (by decide +kernel) rfl) (tg_of 611 (by decide +kernel) rfl) (tg_of 2 (by decide +kernel) rfl) (tg_of 79 (by decide +kernel) rfl) kX3_takes ⟨by decide +kernel, by decide +kernel, by decide +kernel⟩ (by decide)
set_option maxRecDepth 8000 in
theorem sX3_readEither_45 : Site RX3 mX3_readEither 45 48 mX3_readPart (some 3) 2 := site_V (dk DX3_readEither 25 rfl) KX3 (tg_of 641 (by decide +kernel) rfl) (tg_of 643 (by decide +kernel) rfl) (tg_of 10 (by decide +kernel) rfl) (tg_of 79 (by decide +kernel) rfl) kX3_readPart ⟨by decide +kernel, by decide +kernel, by decide +kernel⟩ (by decide)
set_option maxRecDepth 8000 in
theorem sX3_readEither_51 : Site RX3 mX3_readEither 51 54 mX3_keep (some 3) 2 := site_V (dk DX3_readEither 28 rfl) KX3 (tg_of 645 (by decide +kernel) rfl) (tg_of 647 (by decide +kernel) rfl) (tg_of 11 (by decide +kernel) rfl) (tg_of 79 (by decide +kernel) rfl) kX3_keep ⟨by decide +kernel, by decide +kernel, by decide +kernel⟩ (by decide)
set_option maxRecDepth 8000 in
theorem sX3_readEither_67 : Site RX3 mX3_readEither 67 70 mX3_keep (some 3) 2 := site_V (dk DX3_readEither 35 rfl) KX3 (tg_of 645 (by decide +kernel) rfl) (tg_of 647 (by decide +kernel) rfl) (tg_of 11 (by decide +kernel) rfl) (tg_of 79 (by decide +kernel) rfl) kX3_keep ⟨by decide +kernel, by decide +kernel, by decide +kernel⟩ (by decide)
set_option maxRecDepth 8000 in
theorem sX3_readPart_8 : Site RX3 mX3_readPart 8 11 mX3_takes (some 3) 2 := site_V (dk DX3_readPart 5 rfl) KX3 (tg_of 609 (by decide +kernel) rfl) (tg_of 611 (by decide +kernel) rfl) (tg_of 2 (by decide +kernel) rfl) (tg_of 79 (by decide +kernel) rfl) kX3_takes ⟨by decide +kernel, by decide +kernel, by decide +kernel⟩ (by decide)
set_option maxRecDepth 8000 in
theorem sX3_readPart_18 : Site RX3 mX3_readPart 18 21 mX3_readPart (some 3) 2 := site_V (dk DX3_readPart 11 rfl) KX3 (tg_of 641 (by decide +kernel) rfl) (tg_of 643 (by decide +kernel) rfl) (tg_of 10 (by decide +kernel) rfl) (tg_of 79 (by decide +kernel) rfl) kX3_readPart ⟨by decide +kernel, by decide +kernel, by decide +kernel⟩ (by decide)
set_option maxRecDepth 8000 in
theorem sX3_readPart_24 : Site RX3 mX3_readPart 24 27 mX3_keep (some 3) 2 := site_V (dk DX3_readPart 14 rfl) KX3 (tg_of 645 (by decide +kernel) rfl) (tg_of 647 (by decide +kernel) rfl) (tg_of 11 (by decide +kernel) rfl) (tg_of 79 (by decide +kernel) rfl) kX3_keep ⟨by decide +kernel, by decide +kernel, by decide +kernel⟩ (by decide)
set_option maxRecDepth 8000 in
theorem sX3_readPart_38 : Site RX3 mX3_readPart 38 41 mX3_takes (some 3) 2 := site_V (dk DX3_readPart 21 rfl) KX3 (tg_of 609 (by decide +kernel) rfl) (tg_of 611 (by decide +kernel) rfl) (tg_of 2 (by decide +kernel) rfl) (tg_of 79 (by decide +kernel) rfl) kX3_takes ⟨by decide +kernel, by decide +kernel, by decide +kernel⟩ (by decide)
set_option maxRecDepth 8000 in
theorem sX3_readPart_48 : Site RX3 mX3_readPart 48 51 mX3_readEither (some 3) 2 := site_V (dk DX3_readPart 27 rfl) KX3 (tg_of 637 (by decide +kernel) rfl) (tg_of 639 (by decide +kernel) rfl) (tg_of 9 (by decide +kernel) rfl) (tg_of 79 (by decide +kernel) rfl) kX3_readEither ⟨by decide +kernel, by decide +kernel, by decide +kernel⟩ (by decide)
set_option maxRecDepth 8000 in
theorem sX3_readPart_54 : Site RX3 mX3_readPart 54 57 mX3_needs (some 3) 2 := site_V (dk DX3_readPart 30 rfl) KX3 (tg_of 625 (by decide +kernel) rfl) (tg_of 627 (by decide +kernel) rfl) (tg_of 6 (by decide +kernel) rfl) (tg_of 79 (by decide +kernel) rfl) kX3_needs ⟨by decide +kernel, by decide +kernel, by decide +kernel⟩ (by decide)
set_option maxRecDepth 8000 in
theorem sX3_readPart_61 : Site RX3 mX3_readPart 61 64 mX3_readTest (some 3) 1 := site_V (dk DX3_readPart 33 rfl) KX3 (tg_of 649 (by decide +kernel) rfl) (tg_of 651 (by decide +kernel) rfl) (tg_of 12 (by decide +kernel) rfl) (tg_of 79 (by decide +kernel) rfl) kX3_readTest ⟨by decide +kernel, by decide +kernel, by decide +kernel⟩ (by decide)
set_option maxRecDepth 8000 in
theorem sX3_readTest_1 : Site RX3 mX3_readTest 1 4 mX3_here (some 3) 1 := site_V (dk DX3_readTest_0 1 rfl) KX3 (tg_of 613 (by decide +kernel) rfl) (tg_of 615 (by decide +kernel) rfl) (tg_of 3 (by decide +kernel) rfl) (tg_of 79 (by decide +kernel) rfl) kX3_here ⟨by decide +kernel, by decide +kernel, by decide +kernel⟩ (by decide)
set_option maxRecDepth 8000 in
theorem sX3_readTest_55 : Site RX3 mX3_readTest 55 58 mX3_takeIf (some 3) 2 := site_V (dk DX3_readTest_0 30 rfl) KX3 (tg_of 629 (by decide +kernel) rfl) (tg_of 631 (by decide +kernel) rfl) (tg_of 7 (by decide +kernel) rfl) (tg_of 79 (by decide +kernel) rfl) kX3_takeIf ⟨by decide +kernel, by decide +kernel, by decide +kernel⟩ (by decide)
set_option maxRecDepth 8000 in
theorem sX3_readTest_59 : Site RX3 mX3_readTest 59 62 mX3_here (some 3) 1 := site_V (dk DX3_readTest_0 32 rfl) KX3 (tg_of 613 (by decide +kernel) rfl) (tg_of 615 (by decide +kernel) rfl) (tg_of 3 (by decide +kernel) rfl) (tg_of 79 (by decide +kernel) rfl) kX3_here ⟨by decide +kernel, by decide +kernel, by decide +kernel⟩ (by decide)
set_option maxRecDepth 8000 in
theorem sX3_readTest_87 : Site RX3 mX3_readTest 87 90 mX3_takeIf (some 3) 2 := site_V (dk DX3_readTest_0 47 rfl) KX3 (tg_of 629 (by decide +kernel) rfl) (tg_of 631 (by decide +kernel) rfl) (tg_of 7 (by decide +kernel) rfl) (tg_of 79 (by decide +kernel) rfl) kX3_takeIf ⟨by decide +kernel, by decide +kernel, by decide +kernel⟩ (by decide)
set_option maxRecDepth 8000 in
theorem sX3_readTest_98 : Site RX3 mX3_readTest 98 101 mX3_readNumber (some 3) 1 := site_V (dk DX3_readTest_0 55 rfl) KX3 (tg_of 633 (by decide +kernel) rfl) (tg_of 635 (by decide +kernel) rfl) (tg_of 8 (by decide +kernel) rfl) (tg_of 79 (by decide +kernel) rfl) kX3_readNumber ⟨by decide +kernel, by decide +kernel, by decide +kernel⟩ (by decide)
set_option maxRecDepth 8000 in
theorem sX3_readTest_105 : Site RX3 mX3_readTest 105 108 mX3_keep (some 3) 2 := site_V (dk DX3_readTest_0 59 rfl) KX3 (tg_of 645 (by decide +kernel) rfl) (tg_of 647 (by decide +kernel) rfl) (tg_of 11 (by decide +kernel) rfl) (tg_of 79 (by decide +kernel) rfl) kX3_keep ⟨by decide +kernel, by decide +kernel, by decide +kernel⟩ (by decide)
set_option maxRecDepth 8000 in
theorem sX3_takes_1 : Site RX3 mX3_takes 1 4 mX3_here (some 3) 1 := site_V (dk DX3_takes 1 rfl) KX3 (tg_of 613 (by decide +kernel) rfl) (tg_of 615 (by decide +kernel) rfl) (tg_of 3 (by decide +kernel) rfl) (tg_of 79 (by decide +kernel) rfl) kX3_here ⟨by decide +kernel, by decide +kernel, by decide +kernel⟩ (by decide)
set_option maxRecDepth 8000 in
theorem sX3_needs_2 : Site RX3 mX3_needs 2 5 mX3_here (some 3) 1 := site_V (dk DX3_needs 2 rfl) KX3 (tg_of 613 (by decide +kernel) rfl) (tg_of 615 (by decide +kernel) rfl) (tg_of 3 (by decide +kernel) rfl) (tg_of 79 (by decide +kernel) rfl) kX3_here ⟨by decide +kernel, by decide +kernel, by decide +kernel⟩ (by decide)
set_option maxRecDepth 8000 in
theorem sX3_needs_14 : Site RX3 mX3_needs 14 17 mX3_takeIf (some 3) 2 := site_V (dk DX3_needs 8 rfl) KX3 (tg_of 629 (by decide +kernel) rfl) (tg_of 631 (by decide +kernel) rfl) (tg_of 7 (by decide +kernel) rfl) (tg_of 79 (by decide +kernel) rfl) kX3_takeIf ⟨by decide +kernel, by decide +kernel, by decide +kernel⟩ (by decide)
set_option maxRecDepth 8000 in
theorem sX3_together_33 : Site RX3 mX3_together 33 36 mX3_holds (some 3) 5 := site_V (dk DX3_together 19 rfl) KX3 (tg_of 535 (by decide +kernel) rfl) (tg_of 537 (by decide +kernel) rfl) (tg_of 1 (by decide +kernel) rfl) (tg_of 79 (by decide +kernel) rfl) kX3_holds ⟨by decide +kernel, by decide +kernel, by decide +kernel⟩ (by decide)
set_option maxRecDepth 8000 in
theorem sX3_holds_110 : Site RX3 mX3_holds 110 113 mX3_passes none 4 := site_S (dk DX3_holds_1 3 rfl) (tg_of 539 (by decide +kernel) rfl) (tg_of 540 (by decide +kernel) rfl) (tg_of 79 (by decide +kernel) rfl) kX3_passes ⟨by decide +kernel, by decide +kernel, by decide +kernel⟩ (by decide)
set_option maxRecDepth 8000 in
theorem sX3_passes_78_c1 : Site RX3 mX3_passes 78 81 mX1_kind (some 1) 1 := site_U (owner := RX1) (x := ⟨RX1, "kind", "()I"⟩) (dk DX3_passes_0 13 rfl) KX1 (tg_of 542 (by decide +kernel) rfl) (tg_of 496 (by decide +kernel) rfl) (tg_of 494 (by decide +kernel) rfl) (kX1_kind) (tg_of 494 (by decide +kernel) rfl) (tg_of 495 (by decide +kernel) rfl) (tg_of 81 (by decide +kernel) rfl) kX1_kind ⟨by decide +kernel, by decide +kernel, by decide +kernel⟩ (by decide)
set_option maxRecDepth 8000 in
theorem sX3_passes_78_c9 : Site RX3 mX3_passes 78 81 mX9_kind (some 9) 1 := site_U (owner := RX1) (x := ⟨RX1, "kind", "()I"⟩) (dk DX3_passes_0 13 rfl) KX9 (tg_of 542 (by decide +kernel) rfl) (tg_of 496 (by decide +kernel) rfl) (tg_of 494 (by decide +kernel) rfl) (kX1_kind) (tg_of 510 (by decide +kernel) rfl) (tg_of 509 (by decide +kernel) rfl) (tg_of 82 (by decide +kernel) rfl) kX9_kind ⟨by decide +kernel, by decide +kernel, by decide +kernel⟩ (by decide)
set_option maxRecDepth 8000 in
theorem sX3_passes_78_c8 : Site RX3 mX3_passes 78 81 mX8_kind (some 8) 1 := site_U (owner := RX1) (x := ⟨RX1, "kind", "()I"⟩) (dk DX3_passes_0 13 rfl) KX8 (tg_of 542 (by decide +kernel) rfl) (tg_of 496 (by decide +kernel) rfl) (tg_of 494 (by decide +kernel) rfl) (kX1_kind) (tg_of 507 (by decide +kernel) rfl) (tg_of 506 (by decide +kernel) rfl) (tg_of 86 (by decide +kernel) rfl) kX8_kind ⟨by decide +kernel, by decide +kernel, by decide +kernel⟩ (by decide)
set_option maxRecDepth 8000 in
theorem sX3_passes_78_c2 : Site RX3 mX3_passes 78 81 mX2_kind (some 2) 1 := site_U (owner := RX1) (x := ⟨RX1, "kind", "()I"⟩) (dk DX3_passes_0 13 rfl) KX2 (tg_of 542 (by decide +kernel) rfl) (tg_of 496 (by decide +kernel) rfl) (tg_of 494 (by decide +kernel) rfl) (kX1_kind) (tg_of 498 (by decide +kernel) rfl) (tg_of 497 (by decide +kernel) rfl) (tg_of 84 (by decide +kernel) rfl) kX2_kind ⟨by decide +kernel, by decide +kernel, by decide +kernel⟩ (by decide)
set_option maxRecDepth 8000 in
theorem sX3_passes_78_c6 : Site RX3 mX3_passes 78 81 mX6_kind (some 6) 1 := site_U (owner := RX1) (x := ⟨RX1, "kind", "()I"⟩) (dk DX3_passes_0 13 rfl) KX6 (tg_of 542 (by decide +kernel) rfl) (tg_of 496 (by decide +kernel) rfl) (tg_of 494 (by decide +kernel) rfl) (kX1_kind) (tg_of 504 (by decide +kernel) rfl) (tg_of 503 (by decide +kernel) rfl) (tg_of 87 (by decide +kernel) rfl) kX6_kind ⟨by decide +kernel, by decide +kernel, by decide +kernel⟩ (by decide)
set_option maxRecDepth 8000 in
theorem sX3_passes_78_c4 : Site RX3 mX3_passes 78 81 mX4_kind (some 4) 1 := site_U (owner := RX1) (x := ⟨RX1, "kind", "()I"⟩) (dk DX3_passes_0 13 rfl) KX4 (tg_of 542 (by decide +kernel) rfl) (tg_of 496 (by decide +kernel) rfl) (tg_of 494 (by decide +kernel) rfl) (kX1_kind) (tg_of 501 (by decide +kernel) rfl) (tg_of 500 (by decide +kernel) rfl) (tg_of 85 (by decide +kernel) rfl) kX4_kind ⟨by decide +kernel, by decide +kernel, by decide +kernel⟩ (by decide)
set_option maxRecDepth 8000 in
theorem sX3_passes_78_c10 : Site RX3 mX3_passes 78 81 mX10_kind (some 10) 1 := site_U (owner := RX1) (x := ⟨RX1, "kind", "()I"⟩) (dk DX3_passes_0 13 rfl) KX10 (tg_of 542 (by decide +kernel) rfl) (tg_of 496 (by decide +kernel) rfl) (tg_of 494 (by decide +kernel) rfl) (kX1_kind) (tg_of 513 (by decide +kernel) rfl) (tg_of 512 (by decide +kernel) rfl) (tg_of 88 (by decide +kernel) rfl) kX10_kind ⟨by decide +kernel, by decide +kernel, by decide +kernel⟩ (by decide)
set_option maxRecDepth 8000 in
theorem sX4_init_10 {ci : Nat} : Site RX4 mX4_init 10 13 mX1_init (some ci) 7 := site_I (dk DX4_init 7 rfl) rfl rfl (tg_of 424 (by decide +kernel) rfl) (tg_of 354 (by decide +kernel) rfl) (tg_of 81 (by decide +kernel) rfl) kX1_init ⟨by decide +kernel, by decide +kernel, by decide +kernel⟩ (by decide)
set_option maxRecDepth 8000 in
theorem sX4_saidOver_13_c4 : Site RX4 mX4_saidOver 13 16 mX1_saidOver (some 4) 3 := site_SU (x := ⟨RX1, "saidOver", "([I[I)I"⟩) (dk DX4_saidOver 9 rfl) KX4 ⟨rfl, rfl⟩ (tg_of 553 (by decide +kernel) rfl) (tg_of 546 (by decide +kernel) rfl) (tg_of 431 (by decide +kernel) rfl) (Or.inl rfl) (tg_of 544 (by decide +kernel) rfl) (tg_of 81 (by decide +kernel) rfl) kX1_saidOver (by decide +kernel) (by decide +kernel) (by decide)
set_option maxRecDepth 8000 in
theorem sX4_saidOver_13_c10 : Site RX4 mX4_saidOver 13 16 mX1_saidOver (some 10) 3 := site_SU (x := ⟨RX1, "saidOver", "([I[I)I"⟩) (dk DX4_saidOver 9 rfl) KX10 ⟨rfl, rfl⟩ (tg_of 553 (by decide +kernel) rfl) (tg_of 546 (by decide +kernel) rfl) (tg_of 431 (by decide +kernel) rfl) (Or.inl rfl) (tg_of 544 (by decide +kernel) rfl) (tg_of 81 (by decide +kernel) rfl) kX1_saidOver (by decide +kernel) (by decide +kernel) (by decide)
set_option maxRecDepth 8000 in
theorem sX4_tells_3 : Site RX4 mX4_tells 3 6 mX7_begins (some 7) 2 := site_V (dk DX4_tells 2 rfl) KX7 (tg_of 963 (by decide +kernel) rfl) (tg_of 909 (by decide +kernel) rfl) (tg_of 910 (by decide +kernel) rfl) (tg_of 77 (by decide +kernel) rfl) kX7_begins ⟨by decide +kernel, by decide +kernel, by decide +kernel⟩ (by decide)
set_option maxRecDepth 8000 in
theorem sX4_tells_9_c4 : Site RX4 mX4_tells 9 12 mX1_tells (some 4) 3 := site_SU (x := ⟨RX1, "tells", "(ILNextOneKnows$Trace;)I"⟩) (dk DX4_tells 6 rfl) KX4 ⟨rfl, rfl⟩ (tg_of 964 (by decide +kernel) rfl) (tg_of 958 (by decide +kernel) rfl) (tg_of 431 (by decide +kernel) rfl) (Or.inl rfl) (tg_of 956 (by decide +kernel) rfl) (tg_of 81 (by decide +kernel) rfl) kX1_tells (by decide +kernel) (by decide +kernel) (by decide)
set_option maxRecDepth 8000 in
theorem sX4_tells_9_c10 : Site RX4 mX4_tells 9 12 mX1_tells (some 10) 3 := site_SU (x := ⟨RX1, "tells", "(ILNextOneKnows$Trace;)I"⟩) (dk DX4_tells 6 rfl) KX10 ⟨rfl, rfl⟩ (tg_of 964 (by decide +kernel) rfl) (tg_of 958 (by decide +kernel) rfl) (tg_of 431 (by decide +kernel) rfl) (Or.inl rfl) (tg_of 956 (by decide +kernel) rfl) (tg_of 81 (by decide +kernel) rfl) kX1_tells (by decide +kernel) (by decide +kernel) (by decide)
set_option maxRecDepth 8000 in
theorem sX4_tells_15_c4 : Site RX4 mX4_tells 15 18 mX1_holds (some 4) 3 := site_U (owner := RX1) (x := ⟨RX4, "holds", "(ILNextOneKnows$Trace;)I"⟩) (dk DX4_tells 10 rfl) KX4 (tg_of 965 (by decide +kernel) rfl) (tg_of 951 (by decide +kernel) rfl) (tg_of 932 (by decide +kernel) rfl) (kX1_holds) (tg_of 932 (by decide +kernel) rfl) (tg_of 966 (by decide +kernel) rfl) (tg_of 81 (by decide +kernel) rfl) kX1_holds ⟨by decide +kernel, by decide +kernel, by decide +kernel⟩ (by decide)
set_option maxRecDepth 8000 in
theorem sX4_tells_15_c10 : Site RX4 mX4_tells 15 18 mX10_holds (some 10) 3 := site_U (owner := RX1) (x := ⟨RX4, "holds", "(ILNextOneKnows$Trace;)I"⟩) (dk DX4_tells 10 rfl) KX10 (tg_of 965 (by decide +kernel) rfl) (tg_of 951 (by decide +kernel) rfl) (tg_of 932 (by decide +kernel) rfl) (kX1_holds) (tg_of 948 (by decide +kernel) rfl) (tg_of 967 (by decide +kernel) rfl) (tg_of 88 (by decide +kernel) rfl) kX10_holds ⟨by decide +kernel, by decide +kernel, by decide +kernel⟩ (by decide)
set_option maxRecDepth 8000 in
theorem sX5_weeksToRows_26 : Site RX5 mX5_weeksToRows 26 29 mJ9_max_7cf53 none 2 := site_S (dk DX5_weeksToRows 18 rfl) (tg_of 842 (by decide +kernel) rfl) (tg_of 358 (by decide +kernel) rfl) (tg_of 83 (by decide +kernel) rfl) kJ9_max_7cf53 ⟨by decide +kernel, by decide +kernel, by decide +kernel⟩ (by decide)
set_option maxRecDepth 8000 in
theorem sX5_weeksToRows_39 : Site RX5 mX5_weeksToRows 39 42 mJ9_min_7cf53 none 2 := site_S (dk DX5_weeksToRows 24 rfl) (tg_of 859 (by decide +kernel) rfl) (tg_of 607 (by decide +kernel) rfl) (tg_of 83 (by decide +kernel) rfl) kJ9_min_7cf53 ⟨by decide +kernel, by decide +kernel, by decide +kernel⟩ (by decide)
set_option maxRecDepth 8000 in
theorem sX5_saidBy_20 : Site RX5 mX5_saidBy 20 23 mX3_together (some 3) 5 := site_V (dk DX5_saidBy 11 rfl) KX3 (tg_of 531 (by decide +kernel) rfl) (tg_of 532 (by decide +kernel) rfl) (tg_of 533 (by decide +kernel) rfl) (tg_of 79 (by decide +kernel) rfl) kX3_together ⟨by decide +kernel, by decide +kernel, by decide +kernel⟩ (by decide)
set_option maxRecDepth 8000 in
theorem sX5_dearIn_28 : Site RX5 mX5_dearIn 28 31 mX3_together (some 3) 5 := site_V (dk DX5_dearIn 15 rfl) KX3 (tg_of 531 (by decide +kernel) rfl) (tg_of 532 (by decide +kernel) rfl) (tg_of 533 (by decide +kernel) rfl) (tg_of 79 (by decide +kernel) rfl) kX3_together ⟨by decide +kernel, by decide +kernel, by decide +kernel⟩ (by decide)
set_option maxRecDepth 8000 in
theorem sX5_coming_14 : Site RX5 mX5_coming 14 17 mX5_find (some 5) 2 := site_V (dk DX5_coming 10 rfl) KX5 (tg_of 704 (by decide +kernel) rfl) (tg_of 490 (by decide +kernel) rfl) (tg_of 491 (by decide +kernel) rfl) (tg_of 75 (by decide +kernel) rfl) kX5_find ⟨by decide +kernel, by decide +kernel, by decide +kernel⟩ (by decide)
set_option maxRecDepth 8000 in
theorem sX5_coming_27_c1 : Site RX5 mX5_coming 27 30 mX1_weeksUntil (some 1) 2 := site_U (owner := RX1) (x := ⟨RX1, "weeksUntil", "(I)I"⟩) (dk DX5_coming 16 rfl) KX1 (tg_of 705 (by decide +kernel) rfl) (tg_of 708 (by decide +kernel) rfl) (tg_of 706 (by decide +kernel) rfl) (kX1_weeksUntil) (tg_of 706 (by decide +kernel) rfl) (tg_of 707 (by decide +kernel) rfl) (tg_of 81 (by decide +kernel) rfl) kX1_weeksUntil ⟨by decide +kernel, by decide +kernel, by decide +kernel⟩ (by decide)
set_option maxRecDepth 8000 in
theorem sX5_coming_27_c9 : Site RX5 mX5_coming 27 30 mX1_weeksUntil (some 9) 2 := site_U (owner := RX1) (x := ⟨RX1, "weeksUntil", "(I)I"⟩) (dk DX5_coming 16 rfl) KX9 (tg_of 705 (by decide +kernel) rfl) (tg_of 708 (by decide +kernel) rfl) (tg_of 706 (by decide +kernel) rfl) (kX1_weeksUntil) (tg_of 706 (by decide +kernel) rfl) (tg_of 713 (by decide +kernel) rfl) (tg_of 81 (by decide +kernel) rfl) kX1_weeksUntil ⟨by decide +kernel, by decide +kernel, by decide +kernel⟩ (by decide)
set_option maxRecDepth 8000 in
theorem sX5_coming_27_c8 : Site RX5 mX5_coming 27 30 mX1_weeksUntil (some 8) 2 := site_U (owner := RX1) (x := ⟨RX1, "weeksUntil", "(I)I"⟩) (dk DX5_coming 16 rfl) KX8 (tg_of 705 (by decide +kernel) rfl) (tg_of 708 (by decide +kernel) rfl) (tg_of 706 (by decide +kernel) rfl) (kX1_weeksUntil) (tg_of 706 (by decide +kernel) rfl) (tg_of 712 (by decide +kernel) rfl) (tg_of 81 (by decide +kernel) rfl) kX1_weeksUntil ⟨by decide +kernel, by decide +kernel, by decide +kernel⟩ (by decide)
set_option maxRecDepth 8000 in
theorem sX5_coming_27_c2 : Site RX5 mX5_coming 27 30 mX1_weeksUntil (some 2) 2 := site_U (owner := RX1) (x := ⟨RX1, "weeksUntil", "(I)I"⟩) (dk DX5_coming 16 rfl) KX2 (tg_of 705 (by decide +kernel) rfl) (tg_of 708 (by decide +kernel) rfl) (tg_of 706 (by decide +kernel) rfl) (kX1_weeksUntil) (tg_of 706 (by decide +kernel) rfl) (tg_of 709 (by decide +kernel) rfl) (tg_of 81 (by decide +kernel) rfl) kX1_weeksUntil ⟨by decide +kernel, by decide +kernel, by decide +kernel⟩ (by decide)
set_option maxRecDepth 8000 in
theorem sX5_coming_27_c6 : Site RX5 mX5_coming 27 30 mX1_weeksUntil (some 6) 2 := site_U (owner := RX1) (x := ⟨RX1, "weeksUntil", "(I)I"⟩) (dk DX5_coming 16 rfl) KX6 (tg_of 705 (by decide +kernel) rfl) (tg_of 708 (by decide +kernel) rfl) (tg_of 706 (by decide +kernel) rfl) (kX1_weeksUntil) (tg_of 706 (by decide +kernel) rfl) (tg_of 711 (by decide +kernel) rfl) (tg_of 81 (by decide +kernel) rfl) kX1_weeksUntil ⟨by decide +kernel, by decide +kernel, by decide +kernel⟩ (by decide)
set_option maxRecDepth 8000 in
theorem sX5_coming_27_c4 : Site RX5 mX5_coming 27 30 mX1_weeksUntil (some 4) 2 := site_U (owner := RX1) (x := ⟨RX1, "weeksUntil", "(I)I"⟩) (dk DX5_coming 16 rfl) KX4 (tg_of 705 (by decide +kernel) rfl) (tg_of 708 (by decide +kernel) rfl) (tg_of 706 (by decide +kernel) rfl) (kX1_weeksUntil) (tg_of 706 (by decide +kernel) rfl) (tg_of 710 (by decide +kernel) rfl) (tg_of 81 (by decide +kernel) rfl) kX1_weeksUntil ⟨by decide +kernel, by decide +kernel, by decide +kernel⟩ (by decide)
set_option maxRecDepth 8000 in
theorem sX5_coming_27_c10 : Site RX5 mX5_coming 27 30 mX1_weeksUntil (some 10) 2 := site_U (owner := RX1) (x := ⟨RX1, "weeksUntil", "(I)I"⟩) (dk DX5_coming 16 rfl) KX10 (tg_of 705 (by decide +kernel) rfl) (tg_of 708 (by decide +kernel) rfl) (tg_of 706 (by decide +kernel) rfl) (kX1_weeksUntil) (tg_of 706 (by decide +kernel) rfl) (tg_of 714 (by decide +kernel) rfl) (tg_of 81 (by decide +kernel) rfl) kX1_weeksUntil ⟨by decide +kernel, by decide +kernel, by decide +kernel⟩ (by decide)
set_option maxRecDepth 8000 in
theorem sX5_longestWait_17 : Site RX5 mX5_longestWait 17 20 mX5_find (some 5) 2 := site_V (dk DX5_longestWait 10 rfl) KX5 (tg_of 704 (by decide +kernel) rfl) (tg_of 490 (by decide +kernel) rfl) (tg_of 491 (by decide +kernel) rfl) (tg_of 75 (by decide +kernel) rfl) kX5_find ⟨by decide +kernel, by decide +kernel, by decide +kernel⟩ (by decide)
set_option maxRecDepth 8000 in
theorem sX5_longestWait_30 : Site RX5 mX5_longestWait 30 33 mX11_bit none 2 := site_SN (host := "NextOneKnows") (dk DX5_longestWait 16 rfl) (by decide +kernel) (tg_of 517 (by decide +kernel) rfl) (tg_of 74 (by decide +kernel) rfl) kX11_bit ⟨by decide +kernel, by decide +kernel, by decide +kernel⟩ (by decide)
set_option maxRecDepth 8000 in
theorem sX5_longestWait_40_c1 : Site RX5 mX5_longestWait 40 43 mX1_weeksUntil (some 1) 2 := site_U (owner := RX1) (x := ⟨RX1, "weeksUntil", "(I)I"⟩) (dk DX5_longestWait 21 rfl) KX1 (tg_of 705 (by decide +kernel) rfl) (tg_of 708 (by decide +kernel) rfl) (tg_of 706 (by decide +kernel) rfl) (kX1_weeksUntil) (tg_of 706 (by decide +kernel) rfl) (tg_of 707 (by decide +kernel) rfl) (tg_of 81 (by decide +kernel) rfl) kX1_weeksUntil ⟨by decide +kernel, by decide +kernel, by decide +kernel⟩ (by decide)
set_option maxRecDepth 8000 in
theorem sX5_longestWait_40_c9 : Site RX5 mX5_longestWait 40 43 mX1_weeksUntil (some 9) 2 := site_U (owner := RX1) (x := ⟨RX1, "weeksUntil", "(I)I"⟩) (dk DX5_longestWait 21 rfl) KX9 (tg_of 705 (by decide +kernel) rfl) (tg_of 708 (by decide +kernel) rfl) (tg_of 706 (by decide +kernel) rfl) (kX1_weeksUntil) (tg_of 706 (by decide +kernel) rfl) (tg_of 713 (by decide +kernel) rfl) (tg_of 81 (by decide +kernel) rfl) kX1_weeksUntil ⟨by decide +kernel, by decide +kernel, by decide +kernel⟩ (by decide)
set_option maxRecDepth 8000 in
theorem sX5_longestWait_40_c8 : Site RX5 mX5_longestWait 40 43 mX1_weeksUntil (some 8) 2 := site_U (owner := RX1) (x := ⟨RX1, "weeksUntil", "(I)I"⟩) (dk DX5_longestWait 21 rfl) KX8 (tg_of 705 (by decide +kernel) rfl) (tg_of 708 (by decide +kernel) rfl) (tg_of 706 (by decide +kernel) rfl) (kX1_weeksUntil) (tg_of 706 (by decide +kernel) rfl) (tg_of 712 (by decide +kernel) rfl) (tg_of 81 (by decide +kernel) rfl) kX1_weeksUntil ⟨by decide +kernel, by decide +kernel, by decide +kernel⟩ (by decide)
set_option maxRecDepth 8000 in
theorem sX5_longestWait_40_c2 : Site RX5 mX5_longestWait 40 43 mX1_weeksUntil (some 2) 2 := site_U (owner := RX1) (x := ⟨RX1, "weeksUntil", "(I)I"⟩) (dk DX5_longestWait 21 rfl) KX2 (tg_of 705 (by decide +kernel) rfl) (tg_of 708 (by decide +kernel) rfl) (tg_of 706 (by decide +kernel) rfl) (kX1_weeksUntil) (tg_of 706 (by decide +kernel) rfl) (tg_of 709 (by decide +kernel) rfl) (tg_of 81 (by decide +kernel) rfl) kX1_weeksUntil ⟨by decide +kernel, by decide +kernel, by decide +kernel⟩ (by decide)
set_option maxRecDepth 8000 in
theorem sX5_longestWait_40_c6 : Site RX5 mX5_longestWait 40 43 mX1_weeksUntil (some 6) 2 := site_U (owner := RX1) (x := ⟨RX1, "weeksUntil", "(I)I"⟩) (dk DX5_longestWait 21 rfl) KX6 (tg_of 705 (by decide +kernel) rfl) (tg_of 708 (by decide +kernel) rfl) (tg_of 706 (by decide +kernel) rfl) (kX1_weeksUntil) (tg_of 706 (by decide +kernel) rfl) (tg_of 711 (by decide +kernel) rfl) (tg_of 81 (by decide +kernel) rfl) kX1_weeksUntil ⟨by decide +kernel, by decide +kernel, by decide +kernel⟩ (by decide)
set_option maxRecDepth 8000 in
theorem sX5_longestWait_40_c4 : Site RX5 mX5_longestWait 40 43 mX1_weeksUntil (some 4) 2 := site_U (owner := RX1) (x := ⟨RX1, "weeksUntil", "(I)I"⟩) (dk DX5_longestWait 21 rfl) KX4 (tg_of 705 (by decide +kernel) rfl) (tg_of 708 (by decide +kernel) rfl) (tg_of 706 (by decide +kernel) rfl) (kX1_weeksUntil) (tg_of 706 (by decide +kernel) rfl) (tg_of 710 (by decide +kernel) rfl) (tg_of 81 (by decide +kernel) rfl) kX1_weeksUntil ⟨by decide +kernel, by decide +kernel, by decide +kernel⟩ (by decide)
set_option maxRecDepth 8000 in
theorem sX5_longestWait_40_c10 : Site RX5 mX5_longestWait 40 43 mX1_weeksUntil (some 10) 2 := site_U (owner := RX1) (x := ⟨RX1, "weeksUntil", "(I)I"⟩) (dk DX5_longestWait 21 rfl) KX10 (tg_of 705 (by decide +kernel) rfl) (tg_of 708 (by decide +kernel) rfl) (tg_of 706 (by decide +kernel) rfl) (kX1_weeksUntil) (tg_of 706 (by decide +kernel) rfl) (tg_of 714 (by decide +kernel) rfl) (tg_of 81 (by decide +kernel) rfl) kX1_weeksUntil ⟨by decide +kernel, by decide +kernel, by decide +kernel⟩ (by decide)
set_option maxRecDepth 8000 in
theorem sX5_longestWait_43 : Site RX5 mX5_longestWait 43 46 mJ9_max_7cf53 none 2 := site_S (dk DX5_longestWait 22 rfl) (tg_of 842 (by decide +kernel) rfl) (tg_of 358 (by decide +kernel) rfl) (tg_of 83 (by decide +kernel) rfl) kJ9_max_7cf53 ⟨by decide +kernel, by decide +kernel, by decide +kernel⟩ (by decide)
set_option maxRecDepth 8000 in
theorem sX6_init_10 {ci : Nat} : Site RX6 mX6_init 10 13 mX2_init (some ci) 7 := site_I (dk DX6_init 7 rfl) rfl rfl (tg_of 450 (by decide +kernel) rfl) (tg_of 409 (by decide +kernel) rfl) (tg_of 84 (by decide +kernel) rfl) kX2_init ⟨by decide +kernel, by decide +kernel, by decide +kernel⟩ (by decide)
set_option maxRecDepth 8000 in
theorem sX6_saidOver_3_c6 : Site RX6 mX6_saidOver 3 6 mX2_saidOver (some 6) 3 := site_SU (x := ⟨RX2, "saidOver", "([I[I)I"⟩) (dk DX6_saidOver 3 rfl) KX6 ⟨rfl, rfl⟩ (tg_of 557 (by decide +kernel) rfl) (tg_of 1612 (by decide +kernel) rfl) (tg_of 457 (by decide +kernel) rfl) (Or.inl rfl) (tg_of 548 (by decide +kernel) rfl) (tg_of 84 (by decide +kernel) rfl) kX2_saidOver (by decide +kernel) (by decide +kernel) (by decide)
set_option maxRecDepth 8000 in
theorem sX6_tells_3 : Site RX6 mX6_tells 3 6 mX7_begins (some 7) 2 := site_V (dk DX6_tells 2 rfl) KX7 (tg_of 971 (by decide +kernel) rfl) (tg_of 909 (by decide +kernel) rfl) (tg_of 910 (by decide +kernel) rfl) (tg_of 77 (by decide +kernel) rfl) kX7_begins ⟨by decide +kernel, by decide +kernel, by decide +kernel⟩ (by decide)
set_option maxRecDepth 8000 in
theorem sX6_tells_14_c6 : Site RX6 mX6_tells 14 17 mX1_tells (some 6) 3 := site_SU (x := ⟨RX2, "tells", "(ILNextOneKnows$Trace;)I"⟩) (dk DX6_tells 9 rfl) KX6 ⟨rfl, rfl⟩ (tg_of 972 (by decide +kernel) rfl) (tg_of 973 (by decide +kernel) rfl) (tg_of 457 (by decide +kernel) rfl) (Or.inr (tg_of 418 (by decide +kernel) rfl)) (tg_of 956 (by decide +kernel) rfl) (tg_of 81 (by decide +kernel) rfl) kX1_tells (by decide +kernel) (by decide +kernel) (by decide)
set_option maxRecDepth 8000 in
theorem sX8_init_10 {ci : Nat} : Site RX8 mX8_init 10 13 mX9_init (some ci) 7 := site_I (dk DX8_init 7 rfl) rfl rfl (tg_of 437 (by decide +kernel) rfl) (tg_of 351 (by decide +kernel) rfl) (tg_of 82 (by decide +kernel) rfl) kX9_init ⟨by decide +kernel, by decide +kernel, by decide +kernel⟩ (by decide)
set_option maxRecDepth 8000 in
theorem sX8_saidOver_3_c8 : Site RX8 mX8_saidOver 3 6 mX9_saidOver (some 8) 3 := site_SU (x := ⟨RX9, "saidOver", "([I[I)I"⟩) (dk DX8_saidOver 3 rfl) KX8 ⟨rfl, rfl⟩ (tg_of 561 (by decide +kernel) rfl) (tg_of 1613 (by decide +kernel) rfl) (tg_of 444 (by decide +kernel) rfl) (Or.inl rfl) (tg_of 562 (by decide +kernel) rfl) (tg_of 82 (by decide +kernel) rfl) kX9_saidOver (by decide +kernel) (by decide +kernel) (by decide)
set_option maxRecDepth 8000 in
theorem sX8_says_3 : Site RX8 mX8_says 3 6 mX7_begins (some 7) 2 := site_V (dk DX8_says 2 rfl) KX7 (tg_of 918 (by decide +kernel) rfl) (tg_of 909 (by decide +kernel) rfl) (tg_of 910 (by decide +kernel) rfl) (tg_of 77 (by decide +kernel) rfl) kX7_begins ⟨by decide +kernel, by decide +kernel, by decide +kernel⟩ (by decide)
set_option maxRecDepth 8000 in
theorem sX8_says_9_c8 : Site RX8 mX8_says 9 12 mX1_says (some 8) 3 := site_SU (x := ⟨RX9, "says", "(ILNextOneKnows$Trace;)I"⟩) (dk DX8_says 6 rfl) KX8 ⟨rfl, rfl⟩ (tg_of 919 (by decide +kernel) rfl) (tg_of 920 (by decide +kernel) rfl) (tg_of 444 (by decide +kernel) rfl) (Or.inr (tg_of 405 (by decide +kernel) rfl)) (tg_of 902 (by decide +kernel) rfl) (tg_of 81 (by decide +kernel) rfl) kX1_says (by decide +kernel) (by decide +kernel) (by decide)
set_option maxRecDepth 8000 in
theorem sX8_holds_3 : Site RX8 mX8_holds 3 6 mX7_begins (some 7) 2 := site_V (dk DX8_holds 2 rfl) KX7 (tg_of 918 (by decide +kernel) rfl) (tg_of 909 (by decide +kernel) rfl) (tg_of 910 (by decide +kernel) rfl) (tg_of 77 (by decide +kernel) rfl) kX7_begins ⟨by decide +kernel, by decide +kernel, by decide +kernel⟩ (by decide)
set_option maxRecDepth 8000 in
theorem sX8_holds_11_c8 : Site RX8 mX8_holds 11 14 mX9_holds (some 8) 3 := site_SU (x := ⟨RX9, "holds", "(ILNextOneKnows$Trace;)I"⟩) (dk DX8_holds 8 rfl) KX8 ⟨rfl, rfl⟩ (tg_of 941 (by decide +kernel) rfl) (tg_of 1615 (by decide +kernel) rfl) (tg_of 444 (by decide +kernel) rfl) (Or.inl rfl) (tg_of 942 (by decide +kernel) rfl) (tg_of 82 (by decide +kernel) rfl) kX9_holds (by decide +kernel) (by decide +kernel) (by decide)
set_option maxRecDepth 8000 in
theorem sX9_init_10 {ci : Nat} : Site RX9 mX9_init 10 13 mX1_init (some ci) 7 := site_I (dk DX9_init 7 rfl) rfl rfl (tg_of 353 (by decide +kernel) rfl) (tg_of 354 (by decide +kernel) rfl) (tg_of 81 (by decide +kernel) rfl) kX1_init ⟨by decide +kernel, by decide +kernel, by decide +kernel⟩ (by decide)
set_option maxRecDepth 8000 in
theorem sX9_saidOver_3_c9 : Site RX9 mX9_saidOver 3 6 mX1_saidOver (some 9) 3 := site_SU (x := ⟨RX1, "saidOver", "([I[I)I"⟩) (dk DX9_saidOver 3 rfl) KX9 ⟨rfl, rfl⟩ (tg_of 564 (by decide +kernel) rfl) (tg_of 546 (by decide +kernel) rfl) (tg_of 405 (by decide +kernel) rfl) (Or.inl rfl) (tg_of 544 (by decide +kernel) rfl) (tg_of 81 (by decide +kernel) rfl) kX1_saidOver (by decide +kernel) (by decide +kernel) (by decide)
set_option maxRecDepth 8000 in
theorem sX9_saidOver_3_c8 : Site RX9 mX9_saidOver 3 6 mX1_saidOver (some 8) 3 := site_SU (x := ⟨RX1, "saidOver", "([I[I)I"⟩) (dk DX9_saidOver 3 rfl) KX8 ⟨rfl, rfl⟩ (tg_of 564 (by decide +kernel) rfl) (tg_of 546 (by decide +kernel) rfl) (tg_of 405 (by decide +kernel) rfl) (Or.inl rfl) (tg_of 544 (by decide +kernel) rfl) (tg_of 81 (by decide +kernel) rfl) kX1_saidOver (by decide +kernel) (by decide +kernel) (by decide)
set_option maxRecDepth 8000 in
theorem sX9_holds_3 : Site RX9 mX9_holds 3 6 mX7_begins (some 7) 2 := site_V (dk DX9_holds 2 rfl) KX7 (tg_of 944 (by decide +kernel) rfl) (tg_of 909 (by decide +kernel) rfl) (tg_of 910 (by decide +kernel) rfl) (tg_of 77 (by decide +kernel) rfl) kX7_begins ⟨by decide +kernel, by decide +kernel, by decide +kernel⟩ (by decide)
set_option maxRecDepth 8000 in
theorem sX9_holds_9_c9 : Site RX9 mX9_holds 9 12 mX1_holds (some 9) 3 := site_SU (x := ⟨RX1, "holds", "(ILNextOneKnows$Trace;)I"⟩) (dk DX9_holds 6 rfl) KX9 ⟨rfl, rfl⟩ (tg_of 945 (by decide +kernel) rfl) (tg_of 934 (by decide +kernel) rfl) (tg_of 405 (by decide +kernel) rfl) (Or.inl rfl) (tg_of 932 (by decide +kernel) rfl) (tg_of 81 (by decide +kernel) rfl) kX1_holds (by decide +kernel) (by decide +kernel) (by decide)
set_option maxRecDepth 8000 in
theorem sX9_holds_9_c8 : Site RX9 mX9_holds 9 12 mX1_holds (some 8) 3 := site_SU (x := ⟨RX1, "holds", "(ILNextOneKnows$Trace;)I"⟩) (dk DX9_holds 6 rfl) KX8 ⟨rfl, rfl⟩ (tg_of 945 (by decide +kernel) rfl) (tg_of 934 (by decide +kernel) rfl) (tg_of 405 (by decide +kernel) rfl) (Or.inl rfl) (tg_of 932 (by decide +kernel) rfl) (tg_of 81 (by decide +kernel) rfl) kX1_holds (by decide +kernel) (by decide +kernel) (by decide)
set_option maxRecDepth 8000 in
theorem sX10_init_10 {ci : Nat} : Site RX10 mX10_init 10 13 mX4_init (some ci) 7 := site_I (dk DX10_init 7 rfl) rfl rfl (tg_of 463 (by decide +kernel) rfl) (tg_of 422 (by decide +kernel) rfl) (tg_of 85 (by decide +kernel) rfl) kX4_init ⟨by decide +kernel, by decide +kernel, by decide +kernel⟩ (by decide)
set_option maxRecDepth 8000 in
theorem sX10_saidOver_3_c10 : Site RX10 mX10_saidOver 3 6 mX4_saidOver (some 10) 3 := site_SU (x := ⟨RX4, "saidOver", "([I[I)I"⟩) (dk DX10_saidOver 3 rfl) KX10 ⟨rfl, rfl⟩ (tg_of 569 (by decide +kernel) rfl) (tg_of 1614 (by decide +kernel) rfl) (tg_of 470 (by decide +kernel) rfl) (Or.inl rfl) (tg_of 551 (by decide +kernel) rfl) (tg_of 85 (by decide +kernel) rfl) kX4_saidOver (by decide +kernel) (by decide +kernel) (by decide)
set_option maxRecDepth 8000 in
theorem sX10_holds_3 : Site RX10 mX10_holds 3 6 mX7_begins (some 7) 2 := site_V (dk DX10_holds 2 rfl) KX7 (tg_of 926 (by decide +kernel) rfl) (tg_of 909 (by decide +kernel) rfl) (tg_of 910 (by decide +kernel) rfl) (tg_of 77 (by decide +kernel) rfl) kX7_begins ⟨by decide +kernel, by decide +kernel, by decide +kernel⟩ (by decide)
set_option maxRecDepth 8000 in
theorem sX10_holds_9_c10 : Site RX10 mX10_holds 9 12 mX1_holds (some 10) 3 := site_SU (x := ⟨RX4, "holds", "(ILNextOneKnows$Trace;)I"⟩) (dk DX10_holds 6 rfl) KX10 ⟨rfl, rfl⟩ (tg_of 950 (by decide +kernel) rfl) (tg_of 951 (by decide +kernel) rfl) (tg_of 470 (by decide +kernel) rfl) (Or.inr (tg_of 431 (by decide +kernel) rfl)) (tg_of 932 (by decide +kernel) rfl) (tg_of 81 (by decide +kernel) rfl) kX1_holds (by decide +kernel) (by decide +kernel) (by decide)
set_option maxRecDepth 8000 in
theorem sX10_holds_15_c10 : Site RX10 mX10_holds 15 18 mX1_says (some 10) 3 := site_SU (x := ⟨RX4, "says", "(ILNextOneKnows$Trace;)I"⟩) (dk DX10_holds 10 rfl) KX10 ⟨rfl, rfl⟩ (tg_of 927 (by decide +kernel) rfl) (tg_of 928 (by decide +kernel) rfl) (tg_of 470 (by decide +kernel) rfl) (Or.inr (tg_of 431 (by decide +kernel) rfl)) (tg_of 902 (by decide +kernel) rfl) (tg_of 81 (by decide +kernel) rfl) kX1_says (by decide +kernel) (by decide +kernel) (by decide)
set_option maxRecDepth 8000 in
theorem sX10_says_3 : Site RX10 mX10_says 3 6 mX7_begins (some 7) 2 := site_V (dk DX10_says 2 rfl) KX7 (tg_of 926 (by decide +kernel) rfl) (tg_of 909 (by decide +kernel) rfl) (tg_of 910 (by decide +kernel) rfl) (tg_of 77 (by decide +kernel) rfl) kX7_begins ⟨by decide +kernel, by decide +kernel, by decide +kernel⟩ (by decide)
set_option maxRecDepth 8000 in
theorem sX10_says_9_c10 : Site RX10 mX10_says 9 12 mX1_says (some 10) 3 := site_SU (x := ⟨RX4, "says", "(ILNextOneKnows$Trace;)I"⟩) (dk DX10_says 6 rfl) KX10 ⟨rfl, rfl⟩ (tg_of 927 (by decide +kernel) rfl) (tg_of 928 (by decide +kernel) rfl) (tg_of 470 (by decide +kernel) rfl) (Or.inr (tg_of 431 (by decide +kernel) rfl)) (tg_of 902 (by decide +kernel) rfl) (tg_of 81 (by decide +kernel) rfl) kX1_says (by decide +kernel) (by decide +kernel) (by decide)
set_option maxRecDepth 8000 in
theorem sX11_init_9 {ci : Nat} : Site RX11 mX11_init 9 12 mX5_init (some ci) 1 := site_IN (host := "NextOneKnows") (dk DX11_init_0 5 rfl) rfl rfl (by decide +kernel) (tg_of 102 (by decide +kernel) rfl) (tg_of 75 (by decide +kernel) rfl) kX5_init ⟨by decide +kernel, by decide +kernel, by decide +kernel⟩ (by decide)
set_option maxRecDepth 8000 in
theorem sX11_init_20 {ci : Nat} : Site RX11 mX11_init 20 23 mX5_init (some ci) 1 := site_IN (host := "NextOneKnows") (dk DX11_init_0 10 rfl) rfl rfl (by decide +kernel) (tg_of 102 (by decide +kernel) rfl) (tg_of 75 (by decide +kernel) rfl) kX5_init ⟨by decide +kernel, by decide +kernel, by decide +kernel⟩ (by decide)
set_option maxRecDepth 8000 in
theorem sX11_init_35 {ci : Nat} : Site RX11 mX11_init 35 38 mX0_init (some ci) 2 := site_I (dk DX11_init_0 17 rfl) rfl rfl (tg_of 172 (by decide +kernel) rfl) (tg_of 173 (by decide +kernel) rfl) (tg_of 76 (by decide +kernel) rfl) kX0_init ⟨by decide +kernel, by decide +kernel, by decide +kernel⟩ (by decide)
set_option maxRecDepth 8000 in
theorem sX11_init_63 {ci : Nat} : Site RX11 mX11_init 63 66 mX7_init (some ci) 1 := site_IN (host := "NextOneKnows") (dk DX11_init_0 30 rfl) rfl rfl (by decide +kernel) (tg_of 238 (by decide +kernel) rfl) (tg_of 77 (by decide +kernel) rfl) kX7_init ⟨by decide +kernel, by decide +kernel, by decide +kernel⟩ (by decide)
set_option maxRecDepth 8000 in
theorem sX11_init_102 : Site RX11 mX11_init 102 105 mJ7_fill_53178 none 2 := site_S (dk DX11_init_0 48 rfl) (tg_of 253 (by decide +kernel) rfl) (tg_of 254 (by decide +kernel) rfl) (tg_of 78 (by decide +kernel) rfl) kJ7_fill_53178 ⟨by decide +kernel, by decide +kernel, by decide +kernel⟩ (by decide)
set_option maxRecDepth 8000 in
theorem sX11_init_129 {ci : Nat} : Site RX11 mX11_init 129 132 mX3_init (some ci) 2 := site_I (dk DX11_init_1 3 rfl) rfl rfl (tg_of 257 (by decide +kernel) rfl) (tg_of 258 (by decide +kernel) rfl) (tg_of 79 (by decide +kernel) rfl) kX3_init ⟨by decide +kernel, by decide +kernel, by decide +kernel⟩ (by decide)
set_option maxRecDepth 8000 in
theorem sX11_doing_4 : Site RX11 mX11_doing 4 7 mX11_isNot none 3 := site_S (dk DX11_doing 3 rfl) (tg_of 342 (by decide +kernel) rfl) (tg_of 343 (by decide +kernel) rfl) (tg_of 74 (by decide +kernel) rfl) kX11_isNot ⟨by decide +kernel, by decide +kernel, by decide +kernel⟩ (by decide)
set_option maxRecDepth 8000 in
theorem sX11_doing_16 : Site RX11 mX11_doing 16 19 mX11_isNot none 3 := site_S (dk DX11_doing 10 rfl) (tg_of 342 (by decide +kernel) rfl) (tg_of 343 (by decide +kernel) rfl) (tg_of 74 (by decide +kernel) rfl) kX11_isNot ⟨by decide +kernel, by decide +kernel, by decide +kernel⟩ (by decide)
set_option maxRecDepth 8000 in
theorem sX11_doing_26 : Site RX11 mX11_doing 26 29 mX11_isNot none 3 := site_S (dk DX11_doing 15 rfl) (tg_of 342 (by decide +kernel) rfl) (tg_of 343 (by decide +kernel) rfl) (tg_of 74 (by decide +kernel) rfl) kX11_isNot ⟨by decide +kernel, by decide +kernel, by decide +kernel⟩ (by decide)
set_option maxRecDepth 8000 in
theorem sX11_doing_38 : Site RX11 mX11_doing 38 41 mX11_isNot none 3 := site_S (dk DX11_doing 22 rfl) (tg_of 342 (by decide +kernel) rfl) (tg_of 343 (by decide +kernel) rfl) (tg_of 74 (by decide +kernel) rfl) kX11_isNot ⟨by decide +kernel, by decide +kernel, by decide +kernel⟩ (by decide)
set_option maxRecDepth 8000 in
theorem sX11_doing_49 : Site RX11 mX11_doing 49 52 mX11_isNot none 3 := site_S (dk DX11_doing 27 rfl) (tg_of 342 (by decide +kernel) rfl) (tg_of 343 (by decide +kernel) rfl) (tg_of 74 (by decide +kernel) rfl) kX11_isNot ⟨by decide +kernel, by decide +kernel, by decide +kernel⟩ (by decide)
set_option maxRecDepth 8000 in
theorem sX11_doing_60 : Site RX11 mX11_doing 60 63 mX11_isNot none 3 := site_S (dk DX11_doing 32 rfl) (tg_of 342 (by decide +kernel) rfl) (tg_of 343 (by decide +kernel) rfl) (tg_of 74 (by decide +kernel) rfl) kX11_isNot ⟨by decide +kernel, by decide +kernel, by decide +kernel⟩ (by decide)
set_option maxRecDepth 8000 in
theorem sX11_doing_104 : Site RX11 mX11_doing 104 107 mX11_made none 7 := site_S (dk DX11_doing 54 rfl) (tg_of 345 (by decide +kernel) rfl) (tg_of 346 (by decide +kernel) rfl) (tg_of 74 (by decide +kernel) rfl) kX11_made ⟨by decide +kernel, by decide +kernel, by decide +kernel⟩ (by decide)
set_option maxRecDepth 8000 in
theorem sX11_doing_107 : Site RX11 mX11_doing 107 110 mX5_add (some 5) 2 := site_V (dk DX11_doing 55 rfl) KX5 (tg_of 481 (by decide +kernel) rfl) (tg_of 482 (by decide +kernel) rfl) (tg_of 483 (by decide +kernel) rfl) (tg_of 75 (by decide +kernel) rfl) kX5_add ⟨by decide +kernel, by decide +kernel, by decide +kernel⟩ (by decide)
set_option maxRecDepth 8000 in
theorem sX11_of_5 : Site RX11 mX11_of 5 8 mX5_find (some 5) 2 := site_V (dk DX11_of_0 3 rfl) KX5 (tg_of 489 (by decide +kernel) rfl) (tg_of 490 (by decide +kernel) rfl) (tg_of 491 (by decide +kernel) rfl) (tg_of 75 (by decide +kernel) rfl) kX5_find ⟨by decide +kernel, by decide +kernel, by decide +kernel⟩ (by decide)
set_option maxRecDepth 8000 in
theorem sX11_of_81_c1 : Site RX11 mX11_of 81 84 mX1_kind (some 1) 1 := site_U (owner := RX1) (x := ⟨RX1, "kind", "()I"⟩) (dk DX11_of_0 12 rfl) KX1 (tg_of 493 (by decide +kernel) rfl) (tg_of 496 (by decide +kernel) rfl) (tg_of 494 (by decide +kernel) rfl) (kX1_kind) (tg_of 494 (by decide +kernel) rfl) (tg_of 495 (by decide +kernel) rfl) (tg_of 81 (by decide +kernel) rfl) kX1_kind ⟨by decide +kernel, by decide +kernel, by decide +kernel⟩ (by decide)
set_option maxRecDepth 8000 in
theorem sX11_of_81_c9 : Site RX11 mX11_of 81 84 mX9_kind (some 9) 1 := site_U (owner := RX1) (x := ⟨RX1, "kind", "()I"⟩) (dk DX11_of_0 12 rfl) KX9 (tg_of 493 (by decide +kernel) rfl) (tg_of 496 (by decide +kernel) rfl) (tg_of 494 (by decide +kernel) rfl) (kX1_kind) (tg_of 510 (by decide +kernel) rfl) (tg_of 509 (by decide +kernel) rfl) (tg_of 82 (by decide +kernel) rfl) kX9_kind ⟨by decide +kernel, by decide +kernel, by decide +kernel⟩ (by decide)
set_option maxRecDepth 8000 in
theorem sX11_of_81_c8 : Site RX11 mX11_of 81 84 mX8_kind (some 8) 1 := site_U (owner := RX1) (x := ⟨RX1, "kind", "()I"⟩) (dk DX11_of_0 12 rfl) KX8 (tg_of 493 (by decide +kernel) rfl) (tg_of 496 (by decide +kernel) rfl) (tg_of 494 (by decide +kernel) rfl) (kX1_kind) (tg_of 507 (by decide +kernel) rfl) (tg_of 506 (by decide +kernel) rfl) (tg_of 86 (by decide +kernel) rfl) kX8_kind ⟨by decide +kernel, by decide +kernel, by decide +kernel⟩ (by decide)
set_option maxRecDepth 8000 in
theorem sX11_of_81_c2 : Site RX11 mX11_of 81 84 mX2_kind (some 2) 1 := site_U (owner := RX1) (x := ⟨RX1, "kind", "()I"⟩) (dk DX11_of_0 12 rfl) KX2 (tg_of 493 (by decide +kernel) rfl) (tg_of 496 (by decide +kernel) rfl) (tg_of 494 (by decide +kernel) rfl) (kX1_kind) (tg_of 498 (by decide +kernel) rfl) (tg_of 497 (by decide +kernel) rfl) (tg_of 84 (by decide +kernel) rfl) kX2_kind ⟨by decide +kernel, by decide +kernel, by decide +kernel⟩ (by decide)
set_option maxRecDepth 8000 in
theorem sX11_of_81_c6 : Site RX11 mX11_of 81 84 mX6_kind (some 6) 1 := site_U (owner := RX1) (x := ⟨RX1, "kind", "()I"⟩) (dk DX11_of_0 12 rfl) KX6 (tg_of 493 (by decide +kernel) rfl) (tg_of 496 (by decide +kernel) rfl) (tg_of 494 (by decide +kernel) rfl) (kX1_kind) (tg_of 504 (by decide +kernel) rfl) (tg_of 503 (by decide +kernel) rfl) (tg_of 87 (by decide +kernel) rfl) kX6_kind ⟨by decide +kernel, by decide +kernel, by decide +kernel⟩ (by decide)
set_option maxRecDepth 8000 in
theorem sX11_of_81_c4 : Site RX11 mX11_of 81 84 mX4_kind (some 4) 1 := site_U (owner := RX1) (x := ⟨RX1, "kind", "()I"⟩) (dk DX11_of_0 12 rfl) KX4 (tg_of 493 (by decide +kernel) rfl) (tg_of 496 (by decide +kernel) rfl) (tg_of 494 (by decide +kernel) rfl) (kX1_kind) (tg_of 501 (by decide +kernel) rfl) (tg_of 500 (by decide +kernel) rfl) (tg_of 85 (by decide +kernel) rfl) kX4_kind ⟨by decide +kernel, by decide +kernel, by decide +kernel⟩ (by decide)
set_option maxRecDepth 8000 in
theorem sX11_of_81_c10 : Site RX11 mX11_of 81 84 mX10_kind (some 10) 1 := site_U (owner := RX1) (x := ⟨RX1, "kind", "()I"⟩) (dk DX11_of_0 12 rfl) KX10 (tg_of 493 (by decide +kernel) rfl) (tg_of 496 (by decide +kernel) rfl) (tg_of 494 (by decide +kernel) rfl) (kX1_kind) (tg_of 513 (by decide +kernel) rfl) (tg_of 512 (by decide +kernel) rfl) (tg_of 88 (by decide +kernel) rfl) kX10_kind ⟨by decide +kernel, by decide +kernel, by decide +kernel⟩ (by decide)
set_option maxRecDepth 8000 in
theorem sX11_of_118 : Site RX11 mX11_of 118 121 mX11_bit none 2 := site_S (dk DX11_of_0 33 rfl) (tg_of 516 (by decide +kernel) rfl) (tg_of 517 (by decide +kernel) rfl) (tg_of 74 (by decide +kernel) rfl) kX11_bit ⟨by decide +kernel, by decide +kernel, by decide +kernel⟩ (by decide)
set_option maxRecDepth 8000 in
theorem sX11_of_130 : Site RX11 mX11_of 130 133 mX11_bit none 2 := site_S (dk DX11_of_0 39 rfl) (tg_of 516 (by decide +kernel) rfl) (tg_of 517 (by decide +kernel) rfl) (tg_of 74 (by decide +kernel) rfl) kX11_bit ⟨by decide +kernel, by decide +kernel, by decide +kernel⟩ (by decide)
set_option maxRecDepth 8000 in
theorem sX11_of_139 : Site RX11 mX11_of 139 142 mX0_saidOf (some 0) 2 := site_V (dk DX11_of_0 44 rfl) KX0 (tg_of 519 (by decide +kernel) rfl) (tg_of 520 (by decide +kernel) rfl) (tg_of 521 (by decide +kernel) rfl) (tg_of 76 (by decide +kernel) rfl) kX0_saidOf ⟨by decide +kernel, by decide +kernel, by decide +kernel⟩ (by decide)
set_option maxRecDepth 8000 in
theorem sX11_of_148 : Site RX11 mX11_of 148 151 mX0_saidOf (some 0) 2 := site_V (dk DX11_of_0 49 rfl) KX0 (tg_of 519 (by decide +kernel) rfl) (tg_of 520 (by decide +kernel) rfl) (tg_of 521 (by decide +kernel) rfl) (tg_of 76 (by decide +kernel) rfl) kX0_saidOf ⟨by decide +kernel, by decide +kernel, by decide +kernel⟩ (by decide)
set_option maxRecDepth 8000 in
theorem sX11_of_176 : Site RX11 mX11_of 176 179 mX5_dearIn (some 5) 3 := site_V (dk DX11_of_1 3 rfl) KX5 (tg_of 571 (by decide +kernel) rfl) (tg_of 572 (by decide +kernel) rfl) (tg_of 573 (by decide +kernel) rfl) (tg_of 75 (by decide +kernel) rfl) kX5_dearIn ⟨by decide +kernel, by decide +kernel, by decide +kernel⟩ (by decide)
set_option maxRecDepth 8000 in
theorem sX11_needless_5 : Site RX11 mX11_needless 5 8 mX5_find (some 5) 2 := site_V (dk DX11_needless 3 rfl) KX5 (tg_of 489 (by decide +kernel) rfl) (tg_of 490 (by decide +kernel) rfl) (tg_of 491 (by decide +kernel) rfl) (tg_of 75 (by decide +kernel) rfl) kX5_find ⟨by decide +kernel, by decide +kernel, by decide +kernel⟩ (by decide)
set_option maxRecDepth 8000 in
theorem sX11_needless_21 : Site RX11 mX11_needless 21 24 mX11_bit none 2 := site_S (dk DX11_needless 11 rfl) (tg_of 516 (by decide +kernel) rfl) (tg_of 517 (by decide +kernel) rfl) (tg_of 74 (by decide +kernel) rfl) kX11_bit ⟨by decide +kernel, by decide +kernel, by decide +kernel⟩ (by decide)
set_option maxRecDepth 8000 in
theorem sX11_needless_38 : Site RX11 mX11_needless 38 41 mX11_withBit none 3 := site_S (dk DX11_needless 20 rfl) (tg_of 579 (by decide +kernel) rfl) (tg_of 580 (by decide +kernel) rfl) (tg_of 74 (by decide +kernel) rfl) kX11_withBit ⟨by decide +kernel, by decide +kernel, by decide +kernel⟩ (by decide)
set_option maxRecDepth 8000 in
theorem sX11_learn_5 : Site RX11 mX11_learn 5 8 mX5_find (some 5) 2 := site_V (dk DX11_learn 3 rfl) KX5 (tg_of 489 (by decide +kernel) rfl) (tg_of 490 (by decide +kernel) rfl) (tg_of 491 (by decide +kernel) rfl) (tg_of 75 (by decide +kernel) rfl) kX5_find ⟨by decide +kernel, by decide +kernel, by decide +kernel⟩ (by decide)
set_option maxRecDepth 8000 in
theorem sX11_learn_21 : Site RX11 mX11_learn 21 24 mX11_bit none 2 := site_S (dk DX11_learn 11 rfl) (tg_of 516 (by decide +kernel) rfl) (tg_of 517 (by decide +kernel) rfl) (tg_of 74 (by decide +kernel) rfl) kX11_bit ⟨by decide +kernel, by decide +kernel, by decide +kernel⟩ (by decide)
set_option maxRecDepth 8000 in
theorem sX11_learn_38 : Site RX11 mX11_learn 38 41 mX11_withBit none 3 := site_S (dk DX11_learn 20 rfl) (tg_of 579 (by decide +kernel) rfl) (tg_of 580 (by decide +kernel) rfl) (tg_of 74 (by decide +kernel) rfl) kX11_withBit ⟨by decide +kernel, by decide +kernel, by decide +kernel⟩ (by decide)
set_option maxRecDepth 8000 in
theorem sX11_odds_5 : Site RX11 mX11_odds 5 8 mX5_find (some 5) 2 := site_V (dk DX11_odds 3 rfl) KX5 (tg_of 489 (by decide +kernel) rfl) (tg_of 490 (by decide +kernel) rfl) (tg_of 491 (by decide +kernel) rfl) (tg_of 75 (by decide +kernel) rfl) kX5_find ⟨by decide +kernel, by decide +kernel, by decide +kernel⟩ (by decide)
set_option maxRecDepth 8000 in
theorem sX11_odds_19 : Site RX11 mX11_odds 19 22 mX11_isNot none 3 := site_S (dk DX11_odds 12 rfl) (tg_of 342 (by decide +kernel) rfl) (tg_of 343 (by decide +kernel) rfl) (tg_of 74 (by decide +kernel) rfl) kX11_isNot ⟨by decide +kernel, by decide +kernel, by decide +kernel⟩ (by decide)
set_option maxRecDepth 8000 in
theorem sX11_hours_3 : Site RX11 mX11_hours 3 6 mX11_isNot none 3 := site_S (dk DX11_hours 3 rfl) (tg_of 342 (by decide +kernel) rfl) (tg_of 343 (by decide +kernel) rfl) (tg_of 74 (by decide +kernel) rfl) kX11_isNot ⟨by decide +kernel, by decide +kernel, by decide +kernel⟩ (by decide)
set_option maxRecDepth 8000 in
theorem sX11_hours_15 : Site RX11 mX11_hours 15 18 mX11_isNot none 3 := site_S (dk DX11_hours 10 rfl) (tg_of 342 (by decide +kernel) rfl) (tg_of 343 (by decide +kernel) rfl) (tg_of 74 (by decide +kernel) rfl) kX11_isNot ⟨by decide +kernel, by decide +kernel, by decide +kernel⟩ (by decide)
set_option maxRecDepth 8000 in
theorem sX11_feed_4 : Site RX11 mX11_feed 4 7 mX11_isNot none 3 := site_S (dk DX11_feed 3 rfl) (tg_of 342 (by decide +kernel) rfl) (tg_of 343 (by decide +kernel) rfl) (tg_of 74 (by decide +kernel) rfl) kX11_isNot ⟨by decide +kernel, by decide +kernel, by decide +kernel⟩ (by decide)
set_option maxRecDepth 8000 in
theorem sX11_post_30 : Site RX11 mX11_post 30 33 mX3_readFrom (some 3) 2 := site_V (dk DX11_post 17 rfl) KX3 (tg_of 602 (by decide +kernel) rfl) (tg_of 603 (by decide +kernel) rfl) (tg_of 604 (by decide +kernel) rfl) (tg_of 79 (by decide +kernel) rfl) kX3_readFrom ⟨by decide +kernel, by decide +kernel, by decide +kernel⟩ (by decide)
set_option maxRecDepth 8000 in
theorem sX11_told_44 : Site RX11 mX11_told 44 47 mX5_callsAtFirst (some 5) 1 := site_V (dk DX11_told 4 rfl) KX5 (tg_of 657 (by decide +kernel) rfl) (tg_of 658 (by decide +kernel) rfl) (tg_of 659 (by decide +kernel) rfl) (tg_of 75 (by decide +kernel) rfl) kX5_callsAtFirst ⟨by decide +kernel, by decide +kernel, by decide +kernel⟩ (by decide)
set_option maxRecDepth 8000 in
theorem sX11_told_52 : Site RX11 mX11_told 52 55 mX5_callsFading (some 5) 1 := site_V (dk DX11_told 8 rfl) KX5 (tg_of 661 (by decide +kernel) rfl) (tg_of 662 (by decide +kernel) rfl) (tg_of 663 (by decide +kernel) rfl) (tg_of 75 (by decide +kernel) rfl) kX5_callsFading ⟨by decide +kernel, by decide +kernel, by decide +kernel⟩ (by decide)
set_option maxRecDepth 8000 in
theorem sX11_told_93 : Site RX11 mX11_told 93 96 mX11_isNot none 3 := site_S (dk DX11_told 29 rfl) (tg_of 342 (by decide +kernel) rfl) (tg_of 343 (by decide +kernel) rfl) (tg_of 74 (by decide +kernel) rfl) kX11_isNot ⟨by decide +kernel, by decide +kernel, by decide +kernel⟩ (by decide)
set_option maxRecDepth 8000 in
theorem sX11_said_5 : Site RX11 mX11_said 5 8 mX5_find (some 5) 2 := site_V (dk DX11_said 3 rfl) KX5 (tg_of 489 (by decide +kernel) rfl) (tg_of 490 (by decide +kernel) rfl) (tg_of 491 (by decide +kernel) rfl) (tg_of 75 (by decide +kernel) rfl) kX5_find ⟨by decide +kernel, by decide +kernel, by decide +kernel⟩ (by decide)
set_option maxRecDepth 8000 in
theorem sX11_said_16 : Site RX11 mX11_said 16 19 mX11_isNot none 3 := site_S (dk DX11_said 10 rfl) (tg_of 342 (by decide +kernel) rfl) (tg_of 343 (by decide +kernel) rfl) (tg_of 74 (by decide +kernel) rfl) kX11_isNot ⟨by decide +kernel, by decide +kernel, by decide +kernel⟩ (by decide)
set_option maxRecDepth 8000 in
theorem sX11_said_30 : Site RX11 mX11_said 30 33 mX5_saidBy (some 5) 3 := site_V (dk DX11_said 18 rfl) KX5 (tg_of 669 (by decide +kernel) rfl) (tg_of 528 (by decide +kernel) rfl) (tg_of 529 (by decide +kernel) rfl) (tg_of 75 (by decide +kernel) rfl) kX5_saidBy ⟨by decide +kernel, by decide +kernel, by decide +kernel⟩ (by decide)
set_option maxRecDepth 8000 in
theorem sX11_hand_4 : Site RX11 mX11_hand 4 7 mX0_hear (some 0) 1 := site_V (dk DX11_hand 2 rfl) KX0 (tg_of 674 (by decide +kernel) rfl) (tg_of 675 (by decide +kernel) rfl) (tg_of 676 (by decide +kernel) rfl) (tg_of 76 (by decide +kernel) rfl) kX0_hear ⟨by decide +kernel, by decide +kernel, by decide +kernel⟩ (by decide)
set_option maxRecDepth 8000 in
theorem sX11_hand_18 : Site RX11 mX11_hand 18 21 mX0_goingOver (some 0) 2 := site_V (dk DX11_hand 8 rfl) KX0 (tg_of 679 (by decide +kernel) rfl) (tg_of 680 (by decide +kernel) rfl) (tg_of 681 (by decide +kernel) rfl) (tg_of 76 (by decide +kernel) rfl) kX0_goingOver ⟨by decide +kernel, by decide +kernel, by decide +kernel⟩ (by decide)
set_option maxRecDepth 8000 in
theorem sX11_hand_46 : Site RX11 mX11_hand 46 49 mJ6_bitCount_0f7a4 none 1 := site_S (dk DX11_hand 24 rfl) (tg_of 683 (by decide +kernel) rfl) (tg_of 684 (by decide +kernel) rfl) (tg_of 89 (by decide +kernel) rfl) kJ6_bitCount_0f7a4 ⟨by decide +kernel, by decide +kernel, by decide +kernel⟩ (by decide)
set_option maxRecDepth 8000 in
theorem sX11_go_4 : Site RX11 mX11_go 4 7 mX11_isNot none 3 := site_S (dk DX11_go_0 3 rfl) (tg_of 342 (by decide +kernel) rfl) (tg_of 343 (by decide +kernel) rfl) (tg_of 74 (by decide +kernel) rfl) kX11_isNot ⟨by decide +kernel, by decide +kernel, by decide +kernel⟩ (by decide)
set_option maxRecDepth 8000 in
theorem sX11_go_36 : Site RX11 mX11_go 36 39 mX0_look (some 0) 2 := site_V (dk DX11_go_0 19 rfl) KX0 (tg_of 693 (by decide +kernel) rfl) (tg_of 694 (by decide +kernel) rfl) (tg_of 695 (by decide +kernel) rfl) (tg_of 76 (by decide +kernel) rfl) kX0_look ⟨by decide +kernel, by decide +kernel, by decide +kernel⟩ (by decide)
set_option maxRecDepth 8000 in
theorem sX11_go_65 : Site RX11 mX11_go 65 68 mX0_pass (some 0) 3 := site_V (dk DX11_go_0 32 rfl) KX0 (tg_of 729 (by decide +kernel) rfl) (tg_of 730 (by decide +kernel) rfl) (tg_of 731 (by decide +kernel) rfl) (tg_of 76 (by decide +kernel) rfl) kX0_pass ⟨by decide +kernel, by decide +kernel, by decide +kernel⟩ (by decide)
set_option maxRecDepth 8000 in
theorem sX11_run_3 : Site RX11 mX11_run 3 6 mX11_isNot none 3 := site_S (dk DX11_run 3 rfl) (tg_of 342 (by decide +kernel) rfl) (tg_of 343 (by decide +kernel) rfl) (tg_of 74 (by decide +kernel) rfl) kX11_isNot ⟨by decide +kernel, by decide +kernel, by decide +kernel⟩ (by decide)
set_option maxRecDepth 8000 in
theorem sX11_run_18 : Site RX11 mX11_run 18 21 mX11_isNot none 3 := site_S (dk DX11_run 10 rfl) (tg_of 342 (by decide +kernel) rfl) (tg_of 343 (by decide +kernel) rfl) (tg_of 74 (by decide +kernel) rfl) kX11_isNot ⟨by decide +kernel, by decide +kernel, by decide +kernel⟩ (by decide)
set_option maxRecDepth 8000 in
theorem sX11_run_33 : Site RX11 mX11_run 33 36 mX0_look (some 0) 2 := site_V (dk DX11_run 17 rfl) KX0 (tg_of 693 (by decide +kernel) rfl) (tg_of 694 (by decide +kernel) rfl) (tg_of 695 (by decide +kernel) rfl) (tg_of 76 (by decide +kernel) rfl) kX0_look ⟨by decide +kernel, by decide +kernel, by decide +kernel⟩ (by decide)
set_option maxRecDepth 8000 in
theorem sX11_run_54 : Site RX11 mX11_run 54 57 mX0_pass (some 0) 3 := site_V (dk DX11_run 26 rfl) KX0 (tg_of 729 (by decide +kernel) rfl) (tg_of 730 (by decide +kernel) rfl) (tg_of 731 (by decide +kernel) rfl) (tg_of 76 (by decide +kernel) rfl) kX0_pass ⟨by decide +kernel, by decide +kernel, by decide +kernel⟩ (by decide)
set_option maxRecDepth 8000 in
theorem sX11_run_117 : Site RX11 mX11_run 117 120 mJ6_bitCount_0f7a4 none 1 := site_S (dk DX11_run 43 rfl) (tg_of 683 (by decide +kernel) rfl) (tg_of 684 (by decide +kernel) rfl) (tg_of 89 (by decide +kernel) rfl) kJ6_bitCount_0f7a4 ⟨by decide +kernel, by decide +kernel, by decide +kernel⟩ (by decide)
set_option maxRecDepth 8000 in
theorem sX11_split_3 : Site RX11 mX11_split 3 6 mX11_isNot none 3 := site_S (dk DX11_split 3 rfl) (tg_of 342 (by decide +kernel) rfl) (tg_of 343 (by decide +kernel) rfl) (tg_of 74 (by decide +kernel) rfl) kX11_isNot ⟨by decide +kernel, by decide +kernel, by decide +kernel⟩ (by decide)
set_option maxRecDepth 8000 in
theorem sX11_split_17 : Site RX11 mX11_split 17 20 mX11_isNot none 3 := site_S (dk DX11_split 10 rfl) (tg_of 342 (by decide +kernel) rfl) (tg_of 343 (by decide +kernel) rfl) (tg_of 74 (by decide +kernel) rfl) kX11_isNot ⟨by decide +kernel, by decide +kernel, by decide +kernel⟩ (by decide)
set_option maxRecDepth 8000 in
theorem sX11_split_27 : Site RX11 mX11_split 27 30 mX11_isNot none 3 := site_S (dk DX11_split 15 rfl) (tg_of 342 (by decide +kernel) rfl) (tg_of 343 (by decide +kernel) rfl) (tg_of 74 (by decide +kernel) rfl) kX11_isNot ⟨by decide +kernel, by decide +kernel, by decide +kernel⟩ (by decide)
set_option maxRecDepth 8000 in
theorem sX11_split_42 : Site RX11 mX11_split 42 45 mX0_look (some 0) 2 := site_V (dk DX11_split 22 rfl) KX0 (tg_of 693 (by decide +kernel) rfl) (tg_of 694 (by decide +kernel) rfl) (tg_of 695 (by decide +kernel) rfl) (tg_of 76 (by decide +kernel) rfl) kX0_look ⟨by decide +kernel, by decide +kernel, by decide +kernel⟩ (by decide)
set_option maxRecDepth 8000 in
theorem sX11_split_49 : Site RX11 mX11_split 49 52 mX0_hear (some 0) 1 := site_V (dk DX11_split 25 rfl) KX0 (tg_of 674 (by decide +kernel) rfl) (tg_of 675 (by decide +kernel) rfl) (tg_of 676 (by decide +kernel) rfl) (tg_of 76 (by decide +kernel) rfl) kX0_hear ⟨by decide +kernel, by decide +kernel, by decide +kernel⟩ (by decide)
set_option maxRecDepth 8000 in
theorem sX11_split_57 : Site RX11 mX11_split 57 60 mX0_bestSplit (some 0) 2 := site_V (dk DX11_split 29 rfl) KX0 (tg_of 780 (by decide +kernel) rfl) (tg_of 781 (by decide +kernel) rfl) (tg_of 782 (by decide +kernel) rfl) (tg_of 76 (by decide +kernel) rfl) kX0_bestSplit ⟨by decide +kernel, by decide +kernel, by decide +kernel⟩ (by decide)
set_option maxRecDepth 8000 in
theorem sX11_more_3 : Site RX11 mX11_more 3 6 mX11_isNot none 3 := site_S (dk DX11_more 3 rfl) (tg_of 342 (by decide +kernel) rfl) (tg_of 343 (by decide +kernel) rfl) (tg_of 74 (by decide +kernel) rfl) kX11_isNot ⟨by decide +kernel, by decide +kernel, by decide +kernel⟩ (by decide)
set_option maxRecDepth 8000 in
theorem sX11_more_17 : Site RX11 mX11_more 17 20 mX11_isNot none 3 := site_S (dk DX11_more 10 rfl) (tg_of 342 (by decide +kernel) rfl) (tg_of 343 (by decide +kernel) rfl) (tg_of 74 (by decide +kernel) rfl) kX11_isNot ⟨by decide +kernel, by decide +kernel, by decide +kernel⟩ (by decide)
set_option maxRecDepth 8000 in
theorem sX11_more_48 : Site RX11 mX11_more 48 51 mX0_look (some 0) 2 := site_V (dk DX11_more 26 rfl) KX0 (tg_of 693 (by decide +kernel) rfl) (tg_of 694 (by decide +kernel) rfl) (tg_of 695 (by decide +kernel) rfl) (tg_of 76 (by decide +kernel) rfl) kX0_look ⟨by decide +kernel, by decide +kernel, by decide +kernel⟩ (by decide)
set_option maxRecDepth 8000 in
theorem sX11_more_55 : Site RX11 mX11_more 55 58 mX0_hear (some 0) 1 := site_V (dk DX11_more 29 rfl) KX0 (tg_of 674 (by decide +kernel) rfl) (tg_of 675 (by decide +kernel) rfl) (tg_of 676 (by decide +kernel) rfl) (tg_of 76 (by decide +kernel) rfl) kX0_hear ⟨by decide +kernel, by decide +kernel, by decide +kernel⟩ (by decide)
set_option maxRecDepth 8000 in
theorem sX11_more_69 : Site RX11 mX11_more 69 72 mX0_costHanded (some 0) 2 := site_V (dk DX11_more 35 rfl) KX0 (tg_of 802 (by decide +kernel) rfl) (tg_of 790 (by decide +kernel) rfl) (tg_of 791 (by decide +kernel) rfl) (tg_of 76 (by decide +kernel) rfl) kX0_costHanded ⟨by decide +kernel, by decide +kernel, by decide +kernel⟩ (by decide)
set_option maxRecDepth 8000 in
theorem sX11_more_81 : Site RX11 mX11_more 81 84 mX0_hourMore (some 0) 2 := site_V (dk DX11_more 41 rfl) KX0 (tg_of 803 (by decide +kernel) rfl) (tg_of 804 (by decide +kernel) rfl) (tg_of 805 (by decide +kernel) rfl) (tg_of 76 (by decide +kernel) rfl) kX0_hourMore ⟨by decide +kernel, by decide +kernel, by decide +kernel⟩ (by decide)
set_option maxRecDepth 8000 in
theorem sX11_more_84 : Site RX11 mX11_more 84 87 mX0_costHanded (some 0) 2 := site_V (dk DX11_more 42 rfl) KX0 (tg_of 802 (by decide +kernel) rfl) (tg_of 790 (by decide +kernel) rfl) (tg_of 791 (by decide +kernel) rfl) (tg_of 76 (by decide +kernel) rfl) kX0_costHanded ⟨by decide +kernel, by decide +kernel, by decide +kernel⟩ (by decide)
set_option maxRecDepth 8000 in
theorem sX11_ask_4 : Site RX11 mX11_ask 4 7 mX11_isNot none 3 := site_S (dk DX11_ask 3 rfl) (tg_of 342 (by decide +kernel) rfl) (tg_of 343 (by decide +kernel) rfl) (tg_of 74 (by decide +kernel) rfl) kX11_isNot ⟨by decide +kernel, by decide +kernel, by decide +kernel⟩ (by decide)
set_option maxRecDepth 8000 in
theorem sX11_ask_18 : Site RX11 mX11_ask 18 21 mX0_look (some 0) 2 := site_V (dk DX11_ask 10 rfl) KX0 (tg_of 693 (by decide +kernel) rfl) (tg_of 694 (by decide +kernel) rfl) (tg_of 695 (by decide +kernel) rfl) (tg_of 76 (by decide +kernel) rfl) kX0_look ⟨by decide +kernel, by decide +kernel, by decide +kernel⟩ (by decide)
set_option maxRecDepth 8000 in
theorem sX11_ask_35 : Site RX11 mX11_ask 35 38 mX0_bestOf (some 0) 3 := site_V (dk DX11_ask 19 rfl) KX0 (tg_of 811 (by decide +kernel) rfl) (tg_of 812 (by decide +kernel) rfl) (tg_of 813 (by decide +kernel) rfl) (tg_of 76 (by decide +kernel) rfl) kX0_bestOf ⟨by decide +kernel, by decide +kernel, by decide +kernel⟩ (by decide)
set_option maxRecDepth 8000 in
theorem sX11_drop_4 : Site RX11 mX11_drop 4 7 mX11_isNot none 3 := site_S (dk DX11_drop 3 rfl) (tg_of 342 (by decide +kernel) rfl) (tg_of 343 (by decide +kernel) rfl) (tg_of 74 (by decide +kernel) rfl) kX11_isNot ⟨by decide +kernel, by decide +kernel, by decide +kernel⟩ (by decide)
set_option maxRecDepth 8000 in
theorem sX11_drop_18 : Site RX11 mX11_drop 18 21 mX0_look (some 0) 2 := site_V (dk DX11_drop 10 rfl) KX0 (tg_of 693 (by decide +kernel) rfl) (tg_of 694 (by decide +kernel) rfl) (tg_of 695 (by decide +kernel) rfl) (tg_of 76 (by decide +kernel) rfl) kX0_look ⟨by decide +kernel, by decide +kernel, by decide +kernel⟩ (by decide)
set_option maxRecDepth 8000 in
theorem sX11_drop_35 : Site RX11 mX11_drop 35 38 mX0_bestOf (some 0) 3 := site_V (dk DX11_drop 19 rfl) KX0 (tg_of 811 (by decide +kernel) rfl) (tg_of 812 (by decide +kernel) rfl) (tg_of 813 (by decide +kernel) rfl) (tg_of 76 (by decide +kernel) rfl) kX0_bestOf ⟨by decide +kernel, by decide +kernel, by decide +kernel⟩ (by decide)
set_option maxRecDepth 8000 in
theorem sX11_when_5 : Site RX11 mX11_when 5 8 mX5_find (some 5) 2 := site_V (dk DX11_when 3 rfl) KX5 (tg_of 489 (by decide +kernel) rfl) (tg_of 490 (by decide +kernel) rfl) (tg_of 491 (by decide +kernel) rfl) (tg_of 75 (by decide +kernel) rfl) kX5_find ⟨by decide +kernel, by decide +kernel, by decide +kernel⟩ (by decide)
set_option maxRecDepth 8000 in
theorem sX11_when_32_c1 : Site RX11 mX11_when 32 35 mX1_weeksUntil (some 1) 2 := site_U (owner := RX1) (x := ⟨RX1, "weeksUntil", "(I)I"⟩) (dk DX11_when 16 rfl) KX1 (tg_of 823 (by decide +kernel) rfl) (tg_of 708 (by decide +kernel) rfl) (tg_of 706 (by decide +kernel) rfl) (kX1_weeksUntil) (tg_of 706 (by decide +kernel) rfl) (tg_of 707 (by decide +kernel) rfl) (tg_of 81 (by decide +kernel) rfl) kX1_weeksUntil ⟨by decide +kernel, by decide +kernel, by decide +kernel⟩ (by decide)
set_option maxRecDepth 8000 in
theorem sX11_when_32_c9 : Site RX11 mX11_when 32 35 mX1_weeksUntil (some 9) 2 := site_U (owner := RX1) (x := ⟨RX1, "weeksUntil", "(I)I"⟩) (dk DX11_when 16 rfl) KX9 (tg_of 823 (by decide +kernel) rfl) (tg_of 708 (by decide +kernel) rfl) (tg_of 706 (by decide +kernel) rfl) (kX1_weeksUntil) (tg_of 706 (by decide +kernel) rfl) (tg_of 713 (by decide +kernel) rfl) (tg_of 81 (by decide +kernel) rfl) kX1_weeksUntil ⟨by decide +kernel, by decide +kernel, by decide +kernel⟩ (by decide)
set_option maxRecDepth 8000 in
theorem sX11_when_32_c8 : Site RX11 mX11_when 32 35 mX1_weeksUntil (some 8) 2 := site_U (owner := RX1) (x := ⟨RX1, "weeksUntil", "(I)I"⟩) (dk DX11_when 16 rfl) KX8 (tg_of 823 (by decide +kernel) rfl) (tg_of 708 (by decide +kernel) rfl) (tg_of 706 (by decide +kernel) rfl) (kX1_weeksUntil) (tg_of 706 (by decide +kernel) rfl) (tg_of 712 (by decide +kernel) rfl) (tg_of 81 (by decide +kernel) rfl) kX1_weeksUntil ⟨by decide +kernel, by decide +kernel, by decide +kernel⟩ (by decide)
set_option maxRecDepth 8000 in
theorem sX11_when_32_c2 : Site RX11 mX11_when 32 35 mX1_weeksUntil (some 2) 2 := site_U (owner := RX1) (x := ⟨RX1, "weeksUntil", "(I)I"⟩) (dk DX11_when 16 rfl) KX2 (tg_of 823 (by decide +kernel) rfl) (tg_of 708 (by decide +kernel) rfl) (tg_of 706 (by decide +kernel) rfl) (kX1_weeksUntil) (tg_of 706 (by decide +kernel) rfl) (tg_of 709 (by decide +kernel) rfl) (tg_of 81 (by decide +kernel) rfl) kX1_weeksUntil ⟨by decide +kernel, by decide +kernel, by decide +kernel⟩ (by decide)
set_option maxRecDepth 8000 in
theorem sX11_when_32_c6 : Site RX11 mX11_when 32 35 mX1_weeksUntil (some 6) 2 := site_U (owner := RX1) (x := ⟨RX1, "weeksUntil", "(I)I"⟩) (dk DX11_when 16 rfl) KX6 (tg_of 823 (by decide +kernel) rfl) (tg_of 708 (by decide +kernel) rfl) (tg_of 706 (by decide +kernel) rfl) (kX1_weeksUntil) (tg_of 706 (by decide +kernel) rfl) (tg_of 711 (by decide +kernel) rfl) (tg_of 81 (by decide +kernel) rfl) kX1_weeksUntil ⟨by decide +kernel, by decide +kernel, by decide +kernel⟩ (by decide)
set_option maxRecDepth 8000 in
theorem sX11_when_32_c4 : Site RX11 mX11_when 32 35 mX1_weeksUntil (some 4) 2 := site_U (owner := RX1) (x := ⟨RX1, "weeksUntil", "(I)I"⟩) (dk DX11_when 16 rfl) KX4 (tg_of 823 (by decide +kernel) rfl) (tg_of 708 (by decide +kernel) rfl) (tg_of 706 (by decide +kernel) rfl) (kX1_weeksUntil) (tg_of 706 (by decide +kernel) rfl) (tg_of 710 (by decide +kernel) rfl) (tg_of 81 (by decide +kernel) rfl) kX1_weeksUntil ⟨by decide +kernel, by decide +kernel, by decide +kernel⟩ (by decide)
set_option maxRecDepth 8000 in
theorem sX11_when_32_c10 : Site RX11 mX11_when 32 35 mX1_weeksUntil (some 10) 2 := site_U (owner := RX1) (x := ⟨RX1, "weeksUntil", "(I)I"⟩) (dk DX11_when 16 rfl) KX10 (tg_of 823 (by decide +kernel) rfl) (tg_of 708 (by decide +kernel) rfl) (tg_of 706 (by decide +kernel) rfl) (kX1_weeksUntil) (tg_of 706 (by decide +kernel) rfl) (tg_of 714 (by decide +kernel) rfl) (tg_of 81 (by decide +kernel) rfl) kX1_weeksUntil ⟨by decide +kernel, by decide +kernel, by decide +kernel⟩ (by decide)
set_option maxRecDepth 8000 in
theorem sX11_busiest_3 : Site RX11 mX11_busiest 3 6 mX11_isNot none 3 := site_S (dk DX11_busiest 3 rfl) (tg_of 342 (by decide +kernel) rfl) (tg_of 343 (by decide +kernel) rfl) (tg_of 74 (by decide +kernel) rfl) kX11_isNot ⟨by decide +kernel, by decide +kernel, by decide +kernel⟩ (by decide)
set_option maxRecDepth 8000 in
theorem sX11_busiest_16 : Site RX11 mX11_busiest 16 19 mX11_isNot none 3 := site_S (dk DX11_busiest 10 rfl) (tg_of 342 (by decide +kernel) rfl) (tg_of 343 (by decide +kernel) rfl) (tg_of 74 (by decide +kernel) rfl) kX11_isNot ⟨by decide +kernel, by decide +kernel, by decide +kernel⟩ (by decide)
set_option maxRecDepth 8000 in
theorem sX11_busiest_53 : Site RX11 mX11_busiest 53 56 mX5_coming (some 5) 2 := site_V (dk DX11_busiest 30 rfl) KX5 (tg_of 828 (by decide +kernel) rfl) (tg_of 701 (by decide +kernel) rfl) (tg_of 702 (by decide +kernel) rfl) (tg_of 75 (by decide +kernel) rfl) kX5_coming ⟨by decide +kernel, by decide +kernel, by decide +kernel⟩ (by decide)
set_option maxRecDepth 8000 in
theorem sX11_busiest_56 : Site RX11 mX11_busiest 56 59 mJ6_bitCount_0f7a4 none 1 := site_S (dk DX11_busiest 31 rfl) (tg_of 683 (by decide +kernel) rfl) (tg_of 684 (by decide +kernel) rfl) (tg_of 89 (by decide +kernel) rfl) kJ6_bitCount_0f7a4 ⟨by decide +kernel, by decide +kernel, by decide +kernel⟩ (by decide)
set_option maxRecDepth 8000 in
theorem sX11_all_9 : Site RX11 mX11_all 9 12 mX5_everyDoing (some 5) 1 := site_V (dk DX11_all 5 rfl) KX5 (tg_of 833 (by decide +kernel) rfl) (tg_of 834 (by decide +kernel) rfl) (tg_of 835 (by decide +kernel) rfl) (tg_of 75 (by decide +kernel) rfl) kX5_everyDoing ⟨by decide +kernel, by decide +kernel, by decide +kernel⟩ (by decide)
set_option maxRecDepth 8000 in
theorem sX11_all_44 : Site RX11 mX11_all 44 47 mX5_longestWait (some 5) 3 := site_V (dk DX11_all 25 rfl) KX5 (tg_of 837 (by decide +kernel) rfl) (tg_of 838 (by decide +kernel) rfl) (tg_of 839 (by decide +kernel) rfl) (tg_of 75 (by decide +kernel) rfl) kX5_longestWait ⟨by decide +kernel, by decide +kernel, by decide +kernel⟩ (by decide)
set_option maxRecDepth 8000 in
theorem sX11_list_19 : Site RX11 mX11_list 19 22 mX11_isNot none 3 := site_S (dk DX11_list 12 rfl) (tg_of 342 (by decide +kernel) rfl) (tg_of 343 (by decide +kernel) rfl) (tg_of 74 (by decide +kernel) rfl) kX11_isNot ⟨by decide +kernel, by decide +kernel, by decide +kernel⟩ (by decide)
set_option maxRecDepth 8000 in
theorem sX11_list_33 : Site RX11 mX11_list 33 36 mX5_find (some 5) 2 := site_V (dk DX11_list 19 rfl) KX5 (tg_of 489 (by decide +kernel) rfl) (tg_of 490 (by decide +kernel) rfl) (tg_of 491 (by decide +kernel) rfl) (tg_of 75 (by decide +kernel) rfl) kX5_find ⟨by decide +kernel, by decide +kernel, by decide +kernel⟩ (by decide)
set_option maxRecDepth 8000 in
theorem sX11_list_72 : Site RX11 mX11_list 72 75 mX5_addRow (some 5) 3 := site_V (dk DX11_list 38 rfl) KX5 (tg_of 847 (by decide +kernel) rfl) (tg_of 848 (by decide +kernel) rfl) (tg_of 849 (by decide +kernel) rfl) (tg_of 75 (by decide +kernel) rfl) kX5_addRow ⟨by decide +kernel, by decide +kernel, by decide +kernel⟩ (by decide)
set_option maxRecDepth 8000 in
theorem sX11_looked_8 : Site RX11 mX11_looked 8 11 mX5_weeksToRows (some 5) 1 := site_V (dk DX11_looked 4 rfl) KX5 (tg_of 855 (by decide +kernel) rfl) (tg_of 856 (by decide +kernel) rfl) (tg_of 857 (by decide +kernel) rfl) (tg_of 75 (by decide +kernel) rfl) kX5_weeksToRows ⟨by decide +kernel, by decide +kernel, by decide +kernel⟩ (by decide)
set_option maxRecDepth 8000 in
theorem sX11_looked_11 : Site RX11 mX11_looked 11 14 mX0_look (some 0) 2 := site_V (dk DX11_looked 5 rfl) KX0 (tg_of 693 (by decide +kernel) rfl) (tg_of 694 (by decide +kernel) rfl) (tg_of 695 (by decide +kernel) rfl) (tg_of 76 (by decide +kernel) rfl) kX0_look ⟨by decide +kernel, by decide +kernel, by decide +kernel⟩ (by decide)
set_option maxRecDepth 8000 in
theorem sX11_looked_32 : Site RX11 mX11_looked 32 35 mX0_pass (some 0) 3 := site_V (dk DX11_looked 14 rfl) KX0 (tg_of 729 (by decide +kernel) rfl) (tg_of 730 (by decide +kernel) rfl) (tg_of 731 (by decide +kernel) rfl) (tg_of 76 (by decide +kernel) rfl) kX0_pass ⟨by decide +kernel, by decide +kernel, by decide +kernel⟩ (by decide)
set_option maxRecDepth 8000 in
theorem sX11_looked_40 : Site RX11 mX11_looked 40 43 mX0_firstRowNotSo (some 0) 1 := site_V (dk DX11_looked 18 rfl) KX0 (tg_of 860 (by decide +kernel) rfl) (tg_of 861 (by decide +kernel) rfl) (tg_of 862 (by decide +kernel) rfl) (tg_of 76 (by decide +kernel) rfl) kX0_firstRowNotSo ⟨by decide +kernel, by decide +kernel, by decide +kernel⟩ (by decide)
set_option maxRecDepth 8000 in
theorem sX11_fits_23 : Site RX11 mX11_fits 23 26 mX5_weeksToRows (some 5) 1 := site_V (dk DX11_fits 11 rfl) KX5 (tg_of 855 (by decide +kernel) rfl) (tg_of 856 (by decide +kernel) rfl) (tg_of 857 (by decide +kernel) rfl) (tg_of 75 (by decide +kernel) rfl) kX5_weeksToRows ⟨by decide +kernel, by decide +kernel, by decide +kernel⟩ (by decide)
set_option maxRecDepth 8000 in
theorem sX11_fits_26 : Site RX11 mX11_fits 26 29 mX0_look (some 0) 2 := site_V (dk DX11_fits 12 rfl) KX0 (tg_of 693 (by decide +kernel) rfl) (tg_of 694 (by decide +kernel) rfl) (tg_of 695 (by decide +kernel) rfl) (tg_of 76 (by decide +kernel) rfl) kX0_look ⟨by decide +kernel, by decide +kernel, by decide +kernel⟩ (by decide)
set_option maxRecDepth 8000 in
theorem sX11_fits_38 : Site RX11 mX11_fits 38 41 mX5_everyDoing (some 5) 1 := site_V (dk DX11_fits 20 rfl) KX5 (tg_of 833 (by decide +kernel) rfl) (tg_of 834 (by decide +kernel) rfl) (tg_of 835 (by decide +kernel) rfl) (tg_of 75 (by decide +kernel) rfl) kX5_everyDoing ⟨by decide +kernel, by decide +kernel, by decide +kernel⟩ (by decide)
set_option maxRecDepth 8000 in
theorem sX11_fits_56 : Site RX11 mX11_fits 56 59 mX0_pass (some 0) 3 := site_V (dk DX11_fits 28 rfl) KX0 (tg_of 729 (by decide +kernel) rfl) (tg_of 730 (by decide +kernel) rfl) (tg_of 731 (by decide +kernel) rfl) (tg_of 76 (by decide +kernel) rfl) kX0_pass ⟨by decide +kernel, by decide +kernel, by decide +kernel⟩ (by decide)
set_option maxRecDepth 8000 in
theorem sX11_fits_64 : Site RX11 mX11_fits 64 67 mX0_firstRowNotSo (some 0) 1 := site_V (dk DX11_fits 32 rfl) KX0 (tg_of 860 (by decide +kernel) rfl) (tg_of 861 (by decide +kernel) rfl) (tg_of 862 (by decide +kernel) rfl) (tg_of 76 (by decide +kernel) rfl) kX0_firstRowNotSo ⟨by decide +kernel, by decide +kernel, by decide +kernel⟩ (by decide)
set_option maxRecDepth 8000 in
theorem sX11_chance_4 : Site RX11 mX11_chance 4 7 mX11_isNot none 3 := site_S (dk DX11_chance_0 3 rfl) (tg_of 342 (by decide +kernel) rfl) (tg_of 343 (by decide +kernel) rfl) (tg_of 74 (by decide +kernel) rfl) kX11_isNot ⟨by decide +kernel, by decide +kernel, by decide +kernel⟩ (by decide)
set_option maxRecDepth 8000 in
theorem sX11_chance_13 : Site RX11 mX11_chance 13 16 mX11_isNot none 3 := site_S (dk DX11_chance_0 8 rfl) (tg_of 342 (by decide +kernel) rfl) (tg_of 343 (by decide +kernel) rfl) (tg_of 74 (by decide +kernel) rfl) kX11_isNot ⟨by decide +kernel, by decide +kernel, by decide +kernel⟩ (by decide)
set_option maxRecDepth 8000 in
theorem sX11_chance_49 : Site RX11 mX11_chance 49 52 mX5_find (some 5) 2 := site_V (dk DX11_chance_0 26 rfl) KX5 (tg_of 489 (by decide +kernel) rfl) (tg_of 490 (by decide +kernel) rfl) (tg_of 491 (by decide +kernel) rfl) (tg_of 75 (by decide +kernel) rfl) kX5_find ⟨by decide +kernel, by decide +kernel, by decide +kernel⟩ (by decide)
set_option maxRecDepth 8000 in
theorem sX11_chance_68 : Site RX11 mX11_chance 68 71 mX11_bit none 2 := site_S (dk DX11_chance_0 34 rfl) (tg_of 516 (by decide +kernel) rfl) (tg_of 517 (by decide +kernel) rfl) (tg_of 74 (by decide +kernel) rfl) kX11_bit ⟨by decide +kernel, by decide +kernel, by decide +kernel⟩ (by decide)
set_option maxRecDepth 8000 in
theorem sX11_chance_83_c1 : Site RX11 mX11_chance 83 86 mX1_weeksUntil (some 1) 2 := site_U (owner := RX1) (x := ⟨RX1, "weeksUntil", "(I)I"⟩) (dk DX11_chance_0 40 rfl) KX1 (tg_of 823 (by decide +kernel) rfl) (tg_of 708 (by decide +kernel) rfl) (tg_of 706 (by decide +kernel) rfl) (kX1_weeksUntil) (tg_of 706 (by decide +kernel) rfl) (tg_of 707 (by decide +kernel) rfl) (tg_of 81 (by decide +kernel) rfl) kX1_weeksUntil ⟨by decide +kernel, by decide +kernel, by decide +kernel⟩ (by decide)
set_option maxRecDepth 8000 in
theorem sX11_chance_83_c9 : Site RX11 mX11_chance 83 86 mX1_weeksUntil (some 9) 2 := site_U (owner := RX1) (x := ⟨RX1, "weeksUntil", "(I)I"⟩) (dk DX11_chance_0 40 rfl) KX9 (tg_of 823 (by decide +kernel) rfl) (tg_of 708 (by decide +kernel) rfl) (tg_of 706 (by decide +kernel) rfl) (kX1_weeksUntil) (tg_of 706 (by decide +kernel) rfl) (tg_of 713 (by decide +kernel) rfl) (tg_of 81 (by decide +kernel) rfl) kX1_weeksUntil ⟨by decide +kernel, by decide +kernel, by decide +kernel⟩ (by decide)
set_option maxRecDepth 8000 in
theorem sX11_chance_83_c8 : Site RX11 mX11_chance 83 86 mX1_weeksUntil (some 8) 2 := site_U (owner := RX1) (x := ⟨RX1, "weeksUntil", "(I)I"⟩) (dk DX11_chance_0 40 rfl) KX8 (tg_of 823 (by decide +kernel) rfl) (tg_of 708 (by decide +kernel) rfl) (tg_of 706 (by decide +kernel) rfl) (kX1_weeksUntil) (tg_of 706 (by decide +kernel) rfl) (tg_of 712 (by decide +kernel) rfl) (tg_of 81 (by decide +kernel) rfl) kX1_weeksUntil ⟨by decide +kernel, by decide +kernel, by decide +kernel⟩ (by decide)
set_option maxRecDepth 8000 in
theorem sX11_chance_83_c2 : Site RX11 mX11_chance 83 86 mX1_weeksUntil (some 2) 2 := site_U (owner := RX1) (x := ⟨RX1, "weeksUntil", "(I)I"⟩) (dk DX11_chance_0 40 rfl) KX2 (tg_of 823 (by decide +kernel) rfl) (tg_of 708 (by decide +kernel) rfl) (tg_of 706 (by decide +kernel) rfl) (kX1_weeksUntil) (tg_of 706 (by decide +kernel) rfl) (tg_of 709 (by decide +kernel) rfl) (tg_of 81 (by decide +kernel) rfl) kX1_weeksUntil ⟨by decide +kernel, by decide +kernel, by decide +kernel⟩ (by decide)
set_option maxRecDepth 8000 in
theorem sX11_chance_83_c6 : Site RX11 mX11_chance 83 86 mX1_weeksUntil (some 6) 2 := site_U (owner := RX1) (x := ⟨RX1, "weeksUntil", "(I)I"⟩) (dk DX11_chance_0 40 rfl) KX6 (tg_of 823 (by decide +kernel) rfl) (tg_of 708 (by decide +kernel) rfl) (tg_of 706 (by decide +kernel) rfl) (kX1_weeksUntil) (tg_of 706 (by decide +kernel) rfl) (tg_of 711 (by decide +kernel) rfl) (tg_of 81 (by decide +kernel) rfl) kX1_weeksUntil ⟨by decide +kernel, by decide +kernel, by decide +kernel⟩ (by decide)
set_option maxRecDepth 8000 in
theorem sX11_chance_83_c4 : Site RX11 mX11_chance 83 86 mX1_weeksUntil (some 4) 2 := site_U (owner := RX1) (x := ⟨RX1, "weeksUntil", "(I)I"⟩) (dk DX11_chance_0 40 rfl) KX4 (tg_of 823 (by decide +kernel) rfl) (tg_of 708 (by decide +kernel) rfl) (tg_of 706 (by decide +kernel) rfl) (kX1_weeksUntil) (tg_of 706 (by decide +kernel) rfl) (tg_of 710 (by decide +kernel) rfl) (tg_of 81 (by decide +kernel) rfl) kX1_weeksUntil ⟨by decide +kernel, by decide +kernel, by decide +kernel⟩ (by decide)
set_option maxRecDepth 8000 in
theorem sX11_chance_83_c10 : Site RX11 mX11_chance 83 86 mX1_weeksUntil (some 10) 2 := site_U (owner := RX1) (x := ⟨RX1, "weeksUntil", "(I)I"⟩) (dk DX11_chance_0 40 rfl) KX10 (tg_of 823 (by decide +kernel) rfl) (tg_of 708 (by decide +kernel) rfl) (tg_of 706 (by decide +kernel) rfl) (kX1_weeksUntil) (tg_of 706 (by decide +kernel) rfl) (tg_of 714 (by decide +kernel) rfl) (tg_of 81 (by decide +kernel) rfl) kX1_weeksUntil ⟨by decide +kernel, by decide +kernel, by decide +kernel⟩ (by decide)
set_option maxRecDepth 8000 in
theorem sX11_chance_121 : Site RX11 mX11_chance 121 124 mX11_commonDivisor none 2 := site_S (dk DX11_chance_1 0 rfl) (tg_of 874 (by decide +kernel) rfl) (tg_of 875 (by decide +kernel) rfl) (tg_of 74 (by decide +kernel) rfl) kX11_commonDivisor ⟨by decide +kernel, by decide +kernel, by decide +kernel⟩ (by decide)
set_option maxRecDepth 8000 in
theorem sX11_judge_3 : Site RX11 mX11_judge 3 6 mX11_isNot none 3 := site_S (dk DX11_judge_0 3 rfl) (tg_of 342 (by decide +kernel) rfl) (tg_of 343 (by decide +kernel) rfl) (tg_of 74 (by decide +kernel) rfl) kX11_isNot ⟨by decide +kernel, by decide +kernel, by decide +kernel⟩ (by decide)
set_option maxRecDepth 8000 in
theorem sX11_judge_86 : Site RX11 mX11_judge 86 89 mX11_bit none 2 := site_S (dk DX11_judge_0 54 rfl) (tg_of 516 (by decide +kernel) rfl) (tg_of 517 (by decide +kernel) rfl) (tg_of 74 (by decide +kernel) rfl) kX11_bit ⟨by decide +kernel, by decide +kernel, by decide +kernel⟩ (by decide)
set_option maxRecDepth 8000 in
theorem sX11_image_8 : Site RX11 mX11_image 8 11 mX5_takeFrom (some 5) 2 := site_V (dk DX11_image 4 rfl) KX5 (tg_of 888 (by decide +kernel) rfl) (tg_of 889 (by decide +kernel) rfl) (tg_of 890 (by decide +kernel) rfl) (tg_of 75 (by decide +kernel) rfl) kX5_takeFrom ⟨by decide +kernel, by decide +kernel, by decide +kernel⟩ (by decide)
set_option maxRecDepth 8000 in
theorem sX11_undo_18 : Site RX11 mX11_undo 18 21 mX5_takeFrom (some 5) 2 := site_V (dk DX11_undo 9 rfl) KX5 (tg_of 888 (by decide +kernel) rfl) (tg_of 889 (by decide +kernel) rfl) (tg_of 890 (by decide +kernel) rfl) (tg_of 75 (by decide +kernel) rfl) kX5_takeFrom ⟨by decide +kernel, by decide +kernel, by decide +kernel⟩ (by decide)
set_option maxRecDepth 8000 in
theorem sX11_act_13 : Site RX11 mX11_act 13 16 mX5_find (some 5) 2 := site_V (dk DX11_act 7 rfl) KX5 (tg_of 489 (by decide +kernel) rfl) (tg_of 490 (by decide +kernel) rfl) (tg_of 491 (by decide +kernel) rfl) (tg_of 75 (by decide +kernel) rfl) kX5_find ⟨by decide +kernel, by decide +kernel, by decide +kernel⟩ (by decide)
set_option maxRecDepth 8000 in
theorem sX11_act_59_c1 : Site RX11 mX11_act 59 62 mX1_says (some 1) 3 := site_U (owner := RX1) (x := ⟨RX1, "says", "(ILNextOneKnows$Trace;)I"⟩) (dk DX11_act 19 rfl) KX1 (tg_of 901 (by decide +kernel) rfl) (tg_of 904 (by decide +kernel) rfl) (tg_of 902 (by decide +kernel) rfl) (kX1_says) (tg_of 902 (by decide +kernel) rfl) (tg_of 903 (by decide +kernel) rfl) (tg_of 81 (by decide +kernel) rfl) kX1_says ⟨by decide +kernel, by decide +kernel, by decide +kernel⟩ (by decide)
set_option maxRecDepth 8000 in
theorem sX11_act_59_c9 : Site RX11 mX11_act 59 62 mX1_says (some 9) 3 := site_U (owner := RX1) (x := ⟨RX1, "says", "(ILNextOneKnows$Trace;)I"⟩) (dk DX11_act 19 rfl) KX9 (tg_of 901 (by decide +kernel) rfl) (tg_of 904 (by decide +kernel) rfl) (tg_of 902 (by decide +kernel) rfl) (kX1_says) (tg_of 902 (by decide +kernel) rfl) (tg_of 922 (by decide +kernel) rfl) (tg_of 81 (by decide +kernel) rfl) kX1_says ⟨by decide +kernel, by decide +kernel, by decide +kernel⟩ (by decide)
set_option maxRecDepth 8000 in
theorem sX11_act_59_c8 : Site RX11 mX11_act 59 62 mX8_says (some 8) 3 := site_U (owner := RX1) (x := ⟨RX1, "says", "(ILNextOneKnows$Trace;)I"⟩) (dk DX11_act 19 rfl) KX8 (tg_of 901 (by decide +kernel) rfl) (tg_of 904 (by decide +kernel) rfl) (tg_of 902 (by decide +kernel) rfl) (kX1_says) (tg_of 916 (by decide +kernel) rfl) (tg_of 915 (by decide +kernel) rfl) (tg_of 86 (by decide +kernel) rfl) kX8_says ⟨by decide +kernel, by decide +kernel, by decide +kernel⟩ (by decide)
set_option maxRecDepth 8000 in
theorem sX11_act_59_c2 : Site RX11 mX11_act 59 62 mX2_says (some 2) 3 := site_U (owner := RX1) (x := ⟨RX1, "says", "(ILNextOneKnows$Trace;)I"⟩) (dk DX11_act 19 rfl) KX2 (tg_of 901 (by decide +kernel) rfl) (tg_of 904 (by decide +kernel) rfl) (tg_of 902 (by decide +kernel) rfl) (kX1_says) (tg_of 906 (by decide +kernel) rfl) (tg_of 905 (by decide +kernel) rfl) (tg_of 84 (by decide +kernel) rfl) kX2_says ⟨by decide +kernel, by decide +kernel, by decide +kernel⟩ (by decide)
set_option maxRecDepth 8000 in
theorem sX11_act_59_c6 : Site RX11 mX11_act 59 62 mX2_says (some 6) 3 := site_U (owner := RX1) (x := ⟨RX1, "says", "(ILNextOneKnows$Trace;)I"⟩) (dk DX11_act 19 rfl) KX6 (tg_of 901 (by decide +kernel) rfl) (tg_of 904 (by decide +kernel) rfl) (tg_of 902 (by decide +kernel) rfl) (kX1_says) (tg_of 906 (by decide +kernel) rfl) (tg_of 914 (by decide +kernel) rfl) (tg_of 84 (by decide +kernel) rfl) kX2_says ⟨by decide +kernel, by decide +kernel, by decide +kernel⟩ (by decide)
set_option maxRecDepth 8000 in
theorem sX11_act_59_c4 : Site RX11 mX11_act 59 62 mX1_says (some 4) 3 := site_U (owner := RX1) (x := ⟨RX1, "says", "(ILNextOneKnows$Trace;)I"⟩) (dk DX11_act 19 rfl) KX4 (tg_of 901 (by decide +kernel) rfl) (tg_of 904 (by decide +kernel) rfl) (tg_of 902 (by decide +kernel) rfl) (kX1_says) (tg_of 902 (by decide +kernel) rfl) (tg_of 913 (by decide +kernel) rfl) (tg_of 81 (by decide +kernel) rfl) kX1_says ⟨by decide +kernel, by decide +kernel, by decide +kernel⟩ (by decide)
set_option maxRecDepth 8000 in
theorem sX11_act_59_c10 : Site RX11 mX11_act 59 62 mX10_says (some 10) 3 := site_U (owner := RX1) (x := ⟨RX1, "says", "(ILNextOneKnows$Trace;)I"⟩) (dk DX11_act 19 rfl) KX10 (tg_of 901 (by decide +kernel) rfl) (tg_of 904 (by decide +kernel) rfl) (tg_of 902 (by decide +kernel) rfl) (kX1_says) (tg_of 924 (by decide +kernel) rfl) (tg_of 923 (by decide +kernel) rfl) (tg_of 88 (by decide +kernel) rfl) kX10_says ⟨by decide +kernel, by decide +kernel, by decide +kernel⟩ (by decide)
set_option maxRecDepth 8000 in
theorem sX11_act_70_c1 : Site RX11 mX11_act 70 73 mX1_holds (some 1) 3 := site_U (owner := RX1) (x := ⟨RX1, "holds", "(ILNextOneKnows$Trace;)I"⟩) (dk DX11_act 25 rfl) KX1 (tg_of 931 (by decide +kernel) rfl) (tg_of 934 (by decide +kernel) rfl) (tg_of 932 (by decide +kernel) rfl) (kX1_holds) (tg_of 932 (by decide +kernel) rfl) (tg_of 933 (by decide +kernel) rfl) (tg_of 81 (by decide +kernel) rfl) kX1_holds ⟨by decide +kernel, by decide +kernel, by decide +kernel⟩ (by decide)
set_option maxRecDepth 8000 in
theorem sX11_act_70_c9 : Site RX11 mX11_act 70 73 mX9_holds (some 9) 3 := site_U (owner := RX1) (x := ⟨RX1, "holds", "(ILNextOneKnows$Trace;)I"⟩) (dk DX11_act 25 rfl) KX9 (tg_of 931 (by decide +kernel) rfl) (tg_of 934 (by decide +kernel) rfl) (tg_of 932 (by decide +kernel) rfl) (kX1_holds) (tg_of 942 (by decide +kernel) rfl) (tg_of 946 (by decide +kernel) rfl) (tg_of 82 (by decide +kernel) rfl) kX9_holds ⟨by decide +kernel, by decide +kernel, by decide +kernel⟩ (by decide)
set_option maxRecDepth 8000 in
theorem sX11_act_70_c8 : Site RX11 mX11_act 70 73 mX8_holds (some 8) 3 := site_U (owner := RX1) (x := ⟨RX1, "holds", "(ILNextOneKnows$Trace;)I"⟩) (dk DX11_act 25 rfl) KX8 (tg_of 931 (by decide +kernel) rfl) (tg_of 934 (by decide +kernel) rfl) (tg_of 932 (by decide +kernel) rfl) (kX1_holds) (tg_of 939 (by decide +kernel) rfl) (tg_of 938 (by decide +kernel) rfl) (tg_of 86 (by decide +kernel) rfl) kX8_holds ⟨by decide +kernel, by decide +kernel, by decide +kernel⟩ (by decide)
set_option maxRecDepth 8000 in
theorem sX11_act_70_c2 : Site RX11 mX11_act 70 73 mX1_holds (some 2) 3 := site_U (owner := RX1) (x := ⟨RX1, "holds", "(ILNextOneKnows$Trace;)I"⟩) (dk DX11_act 25 rfl) KX2 (tg_of 931 (by decide +kernel) rfl) (tg_of 934 (by decide +kernel) rfl) (tg_of 932 (by decide +kernel) rfl) (kX1_holds) (tg_of 932 (by decide +kernel) rfl) (tg_of 935 (by decide +kernel) rfl) (tg_of 81 (by decide +kernel) rfl) kX1_holds ⟨by decide +kernel, by decide +kernel, by decide +kernel⟩ (by decide)
set_option maxRecDepth 8000 in
theorem sX11_act_70_c6 : Site RX11 mX11_act 70 73 mX1_holds (some 6) 3 := site_U (owner := RX1) (x := ⟨RX1, "holds", "(ILNextOneKnows$Trace;)I"⟩) (dk DX11_act 25 rfl) KX6 (tg_of 931 (by decide +kernel) rfl) (tg_of 934 (by decide +kernel) rfl) (tg_of 932 (by decide +kernel) rfl) (kX1_holds) (tg_of 932 (by decide +kernel) rfl) (tg_of 937 (by decide +kernel) rfl) (tg_of 81 (by decide +kernel) rfl) kX1_holds ⟨by decide +kernel, by decide +kernel, by decide +kernel⟩ (by decide)
set_option maxRecDepth 8000 in
theorem sX11_act_70_c4 : Site RX11 mX11_act 70 73 mX1_holds (some 4) 3 := site_U (owner := RX1) (x := ⟨RX1, "holds", "(ILNextOneKnows$Trace;)I"⟩) (dk DX11_act 25 rfl) KX4 (tg_of 931 (by decide +kernel) rfl) (tg_of 934 (by decide +kernel) rfl) (tg_of 932 (by decide +kernel) rfl) (kX1_holds) (tg_of 932 (by decide +kernel) rfl) (tg_of 936 (by decide +kernel) rfl) (tg_of 81 (by decide +kernel) rfl) kX1_holds ⟨by decide +kernel, by decide +kernel, by decide +kernel⟩ (by decide)
set_option maxRecDepth 8000 in
theorem sX11_act_70_c10 : Site RX11 mX11_act 70 73 mX10_holds (some 10) 3 := site_U (owner := RX1) (x := ⟨RX1, "holds", "(ILNextOneKnows$Trace;)I"⟩) (dk DX11_act 25 rfl) KX10 (tg_of 931 (by decide +kernel) rfl) (tg_of 934 (by decide +kernel) rfl) (tg_of 932 (by decide +kernel) rfl) (kX1_holds) (tg_of 948 (by decide +kernel) rfl) (tg_of 947 (by decide +kernel) rfl) (tg_of 88 (by decide +kernel) rfl) kX10_holds ⟨by decide +kernel, by decide +kernel, by decide +kernel⟩ (by decide)
set_option maxRecDepth 8000 in
theorem sX11_act_81_c1 : Site RX11 mX11_act 81 84 mX1_tells (some 1) 3 := site_U (owner := RX1) (x := ⟨RX1, "tells", "(ILNextOneKnows$Trace;)I"⟩) (dk DX11_act 31 rfl) KX1 (tg_of 955 (by decide +kernel) rfl) (tg_of 958 (by decide +kernel) rfl) (tg_of 956 (by decide +kernel) rfl) (kX1_tells) (tg_of 956 (by decide +kernel) rfl) (tg_of 957 (by decide +kernel) rfl) (tg_of 81 (by decide +kernel) rfl) kX1_tells ⟨by decide +kernel, by decide +kernel, by decide +kernel⟩ (by decide)
set_option maxRecDepth 8000 in
theorem sX11_act_81_c9 : Site RX11 mX11_act 81 84 mX1_tells (some 9) 3 := site_U (owner := RX1) (x := ⟨RX1, "tells", "(ILNextOneKnows$Trace;)I"⟩) (dk DX11_act 31 rfl) KX9 (tg_of 955 (by decide +kernel) rfl) (tg_of 958 (by decide +kernel) rfl) (tg_of 956 (by decide +kernel) rfl) (kX1_tells) (tg_of 956 (by decide +kernel) rfl) (tg_of 976 (by decide +kernel) rfl) (tg_of 81 (by decide +kernel) rfl) kX1_tells ⟨by decide +kernel, by decide +kernel, by decide +kernel⟩ (by decide)
set_option maxRecDepth 8000 in
theorem sX11_act_81_c8 : Site RX11 mX11_act 81 84 mX1_tells (some 8) 3 := site_U (owner := RX1) (x := ⟨RX1, "tells", "(ILNextOneKnows$Trace;)I"⟩) (dk DX11_act 31 rfl) KX8 (tg_of 955 (by decide +kernel) rfl) (tg_of 958 (by decide +kernel) rfl) (tg_of 956 (by decide +kernel) rfl) (kX1_tells) (tg_of 956 (by decide +kernel) rfl) (tg_of 975 (by decide +kernel) rfl) (tg_of 81 (by decide +kernel) rfl) kX1_tells ⟨by decide +kernel, by decide +kernel, by decide +kernel⟩ (by decide)
set_option maxRecDepth 8000 in
theorem sX11_act_81_c2 : Site RX11 mX11_act 81 84 mX1_tells (some 2) 3 := site_U (owner := RX1) (x := ⟨RX1, "tells", "(ILNextOneKnows$Trace;)I"⟩) (dk DX11_act 31 rfl) KX2 (tg_of 955 (by decide +kernel) rfl) (tg_of 958 (by decide +kernel) rfl) (tg_of 956 (by decide +kernel) rfl) (kX1_tells) (tg_of 956 (by decide +kernel) rfl) (tg_of 959 (by decide +kernel) rfl) (tg_of 81 (by decide +kernel) rfl) kX1_tells ⟨by decide +kernel, by decide +kernel, by decide +kernel⟩ (by decide)
set_option maxRecDepth 8000 in
theorem sX11_act_81_c6 : Site RX11 mX11_act 81 84 mX6_tells (some 6) 3 := site_U (owner := RX1) (x := ⟨RX1, "tells", "(ILNextOneKnows$Trace;)I"⟩) (dk DX11_act 31 rfl) KX6 (tg_of 955 (by decide +kernel) rfl) (tg_of 958 (by decide +kernel) rfl) (tg_of 956 (by decide +kernel) rfl) (kX1_tells) (tg_of 969 (by decide +kernel) rfl) (tg_of 968 (by decide +kernel) rfl) (tg_of 87 (by decide +kernel) rfl) kX6_tells ⟨by decide +kernel, by decide +kernel, by decide +kernel⟩ (by decide)
set_option maxRecDepth 8000 in
theorem sX11_act_81_c4 : Site RX11 mX11_act 81 84 mX4_tells (some 4) 3 := site_U (owner := RX1) (x := ⟨RX1, "tells", "(ILNextOneKnows$Trace;)I"⟩) (dk DX11_act 31 rfl) KX4 (tg_of 955 (by decide +kernel) rfl) (tg_of 958 (by decide +kernel) rfl) (tg_of 956 (by decide +kernel) rfl) (kX1_tells) (tg_of 961 (by decide +kernel) rfl) (tg_of 960 (by decide +kernel) rfl) (tg_of 85 (by decide +kernel) rfl) kX4_tells ⟨by decide +kernel, by decide +kernel, by decide +kernel⟩ (by decide)
set_option maxRecDepth 8000 in
theorem sX11_act_81_c10 : Site RX11 mX11_act 81 84 mX4_tells (some 10) 3 := site_U (owner := RX1) (x := ⟨RX1, "tells", "(ILNextOneKnows$Trace;)I"⟩) (dk DX11_act 31 rfl) KX10 (tg_of 955 (by decide +kernel) rfl) (tg_of 958 (by decide +kernel) rfl) (tg_of 956 (by decide +kernel) rfl) (kX1_tells) (tg_of 961 (by decide +kernel) rfl) (tg_of 977 (by decide +kernel) rfl) (tg_of 85 (by decide +kernel) rfl) kX4_tells ⟨by decide +kernel, by decide +kernel, by decide +kernel⟩ (by decide)
set_option maxRecDepth 8000 in
theorem sX11_taken_4 : Site RX11 mX11_taken 4 7 mX11_isNot none 3 := site_S (dk DX11_taken 3 rfl) (tg_of 342 (by decide +kernel) rfl) (tg_of 343 (by decide +kernel) rfl) (tg_of 74 (by decide +kernel) rfl) kX11_isNot ⟨by decide +kernel, by decide +kernel, by decide +kernel⟩ (by decide)
set_option maxRecDepth 8000 in
theorem sX11_taken_18 : Site RX11 mX11_taken 18 21 mX5_find (some 5) 2 := site_V (dk DX11_taken 10 rfl) KX5 (tg_of 489 (by decide +kernel) rfl) (tg_of 490 (by decide +kernel) rfl) (tg_of 491 (by decide +kernel) rfl) (tg_of 75 (by decide +kernel) rfl) kX5_find ⟨by decide +kernel, by decide +kernel, by decide +kernel⟩ (by decide)
set_option maxRecDepth 8000 in
theorem sX11_taken_31 : Site RX11 mX11_taken 31 34 mX11_isOfKind none 2 := site_S (dk DX11_taken 18 rfl) (tg_of 988 (by decide +kernel) rfl) (tg_of 989 (by decide +kernel) rfl) (tg_of 74 (by decide +kernel) rfl) kX11_isOfKind ⟨by decide +kernel, by decide +kernel, by decide +kernel⟩ (by decide)
set_option maxRecDepth 8000 in
theorem sX11_taken_38_c1 : Site RX11 mX11_taken 38 41 mX1_kind (some 1) 1 := site_U (owner := RX1) (x := ⟨RX1, "kind", "()I"⟩) (dk DX11_taken 21 rfl) KX1 (tg_of 493 (by decide +kernel) rfl) (tg_of 496 (by decide +kernel) rfl) (tg_of 494 (by decide +kernel) rfl) (kX1_kind) (tg_of 494 (by decide +kernel) rfl) (tg_of 495 (by decide +kernel) rfl) (tg_of 81 (by decide +kernel) rfl) kX1_kind ⟨by decide +kernel, by decide +kernel, by decide +kernel⟩ (by decide)
set_option maxRecDepth 8000 in
theorem sX11_taken_38_c9 : Site RX11 mX11_taken 38 41 mX9_kind (some 9) 1 := site_U (owner := RX1) (x := ⟨RX1, "kind", "()I"⟩) (dk DX11_taken 21 rfl) KX9 (tg_of 493 (by decide +kernel) rfl) (tg_of 496 (by decide +kernel) rfl) (tg_of 494 (by decide +kernel) rfl) (kX1_kind) (tg_of 510 (by decide +kernel) rfl) (tg_of 509 (by decide +kernel) rfl) (tg_of 82 (by decide +kernel) rfl) kX9_kind ⟨by decide +kernel, by decide +kernel, by decide +kernel⟩ (by decide)
set_option maxRecDepth 8000 in
theorem sX11_taken_38_c8 : Site RX11 mX11_taken 38 41 mX8_kind (some 8) 1 := site_U (owner := RX1) (x := ⟨RX1, "kind", "()I"⟩) (dk DX11_taken 21 rfl) KX8 (tg_of 493 (by decide +kernel) rfl) (tg_of 496 (by decide +kernel) rfl) (tg_of 494 (by decide +kernel) rfl) (kX1_kind) (tg_of 507 (by decide +kernel) rfl) (tg_of 506 (by decide +kernel) rfl) (tg_of 86 (by decide +kernel) rfl) kX8_kind ⟨by decide +kernel, by decide +kernel, by decide +kernel⟩ (by decide)
set_option maxRecDepth 8000 in
theorem sX11_taken_38_c2 : Site RX11 mX11_taken 38 41 mX2_kind (some 2) 1 := site_U (owner := RX1) (x := ⟨RX1, "kind", "()I"⟩) (dk DX11_taken 21 rfl) KX2 (tg_of 493 (by decide +kernel) rfl) (tg_of 496 (by decide +kernel) rfl) (tg_of 494 (by decide +kernel) rfl) (kX1_kind) (tg_of 498 (by decide +kernel) rfl) (tg_of 497 (by decide +kernel) rfl) (tg_of 84 (by decide +kernel) rfl) kX2_kind ⟨by decide +kernel, by decide +kernel, by decide +kernel⟩ (by decide)
set_option maxRecDepth 8000 in
theorem sX11_taken_38_c6 : Site RX11 mX11_taken 38 41 mX6_kind (some 6) 1 := site_U (owner := RX1) (x := ⟨RX1, "kind", "()I"⟩) (dk DX11_taken 21 rfl) KX6 (tg_of 493 (by decide +kernel) rfl) (tg_of 496 (by decide +kernel) rfl) (tg_of 494 (by decide +kernel) rfl) (kX1_kind) (tg_of 504 (by decide +kernel) rfl) (tg_of 503 (by decide +kernel) rfl) (tg_of 87 (by decide +kernel) rfl) kX6_kind ⟨by decide +kernel, by decide +kernel, by decide +kernel⟩ (by decide)
set_option maxRecDepth 8000 in
theorem sX11_taken_38_c4 : Site RX11 mX11_taken 38 41 mX4_kind (some 4) 1 := site_U (owner := RX1) (x := ⟨RX1, "kind", "()I"⟩) (dk DX11_taken 21 rfl) KX4 (tg_of 493 (by decide +kernel) rfl) (tg_of 496 (by decide +kernel) rfl) (tg_of 494 (by decide +kernel) rfl) (kX1_kind) (tg_of 501 (by decide +kernel) rfl) (tg_of 500 (by decide +kernel) rfl) (tg_of 85 (by decide +kernel) rfl) kX4_kind ⟨by decide +kernel, by decide +kernel, by decide +kernel⟩ (by decide)
set_option maxRecDepth 8000 in
theorem sX11_taken_38_c10 : Site RX11 mX11_taken 38 41 mX10_kind (some 10) 1 := site_U (owner := RX1) (x := ⟨RX1, "kind", "()I"⟩) (dk DX11_taken 21 rfl) KX10 (tg_of 493 (by decide +kernel) rfl) (tg_of 496 (by decide +kernel) rfl) (tg_of 494 (by decide +kernel) rfl) (kX1_kind) (tg_of 513 (by decide +kernel) rfl) (tg_of 512 (by decide +kernel) rfl) (tg_of 88 (by decide +kernel) rfl) kX10_kind ⟨by decide +kernel, by decide +kernel, by decide +kernel⟩ (by decide)
set_option maxRecDepth 8000 in
theorem sX11_count_81 : Site RX11 mX11_count 81 84 mJ6_bitCount_0f7a4 none 1 := site_S (dk DX11_count 23 rfl) (tg_of 683 (by decide +kernel) rfl) (tg_of 684 (by decide +kernel) rfl) (tg_of 89 (by decide +kernel) rfl) kJ6_bitCount_0f7a4 ⟨by decide +kernel, by decide +kernel, by decide +kernel⟩ (by decide)
set_option maxRecDepth 8000 in
theorem sX11_tape_3 : Site RX11 mX11_tape 3 6 mX11_isNot none 3 := site_S (dk DX11_tape 3 rfl) (tg_of 342 (by decide +kernel) rfl) (tg_of 343 (by decide +kernel) rfl) (tg_of 74 (by decide +kernel) rfl) kX11_isNot ⟨by decide +kernel, by decide +kernel, by decide +kernel⟩ (by decide)
set_option maxRecDepth 8000 in
theorem sX11_tape_14 : Site RX11 mX11_tape 14 17 mX11_isNot none 3 := site_S (dk DX11_tape 10 rfl) (tg_of 342 (by decide +kernel) rfl) (tg_of 343 (by decide +kernel) rfl) (tg_of 74 (by decide +kernel) rfl) kX11_isNot ⟨by decide +kernel, by decide +kernel, by decide +kernel⟩ (by decide)
set_option maxRecDepth 8000 in
theorem sX11_tape_76 : Site RX11 mX11_tape 76 79 mJ7_fill_d0a16 none 2 := site_S (dk DX11_tape 47 rfl) (tg_of 999 (by decide +kernel) rfl) (tg_of 1000 (by decide +kernel) rfl) (tg_of 78 (by decide +kernel) rfl) kJ7_fill_d0a16 ⟨by decide +kernel, by decide +kernel, by decide +kernel⟩ (by decide)
set_option maxRecDepth 8000 in
theorem sX11_item_3 : Site RX11 mX11_item 3 6 mX11_isNot none 3 := site_S (dk DX11_item 3 rfl) (tg_of 342 (by decide +kernel) rfl) (tg_of 343 (by decide +kernel) rfl) (tg_of 74 (by decide +kernel) rfl) kX11_isNot ⟨by decide +kernel, by decide +kernel, by decide +kernel⟩ (by decide)
set_option maxRecDepth 8000 in
theorem sX11_item_34 : Site RX11 mX11_item 34 37 mX11_isNot none 3 := site_S (dk DX11_item 23 rfl) (tg_of 342 (by decide +kernel) rfl) (tg_of 343 (by decide +kernel) rfl) (tg_of 74 (by decide +kernel) rfl) kX11_isNot ⟨by decide +kernel, by decide +kernel, by decide +kernel⟩ (by decide)
set_option maxRecDepth 8000 in
theorem sX11_item_57 : Site RX11 mX11_item 57 60 mX11_cut none 2 := site_S (dk DX11_item 37 rfl) (tg_of 1006 (by decide +kernel) rfl) (tg_of 1007 (by decide +kernel) rfl) (tg_of 74 (by decide +kernel) rfl) kX11_cut ⟨by decide +kernel, by decide +kernel, by decide +kernel⟩ (by decide)
set_option maxRecDepth 8000 in
theorem sX11_read_3 : Site RX11 mX11_read 3 6 mX11_isNot none 3 := site_S (dk DX11_read 3 rfl) (tg_of 342 (by decide +kernel) rfl) (tg_of 343 (by decide +kernel) rfl) (tg_of 74 (by decide +kernel) rfl) kX11_isNot ⟨by decide +kernel, by decide +kernel, by decide +kernel⟩ (by decide)
set_option maxRecDepth 8000 in
theorem sX11_read_19 : Site RX11 mX11_read 19 22 mX11_isNot none 3 := site_S (dk DX11_read 13 rfl) (tg_of 342 (by decide +kernel) rfl) (tg_of 343 (by decide +kernel) rfl) (tg_of 74 (by decide +kernel) rfl) kX11_isNot ⟨by decide +kernel, by decide +kernel, by decide +kernel⟩ (by decide)
set_option maxRecDepth 8000 in
theorem sX11_shift_3 : Site RX11 mX11_shift 3 6 mX11_isNot none 3 := site_S (dk DX11_shift_0 3 rfl) (tg_of 342 (by decide +kernel) rfl) (tg_of 343 (by decide +kernel) rfl) (tg_of 74 (by decide +kernel) rfl) kX11_isNot ⟨by decide +kernel, by decide +kernel, by decide +kernel⟩ (by decide)
set_option maxRecDepth 8000 in
theorem sX11_shift_12 : Site RX11 mX11_shift 12 15 mX11_isNot none 3 := site_S (dk DX11_shift_0 8 rfl) (tg_of 342 (by decide +kernel) rfl) (tg_of 343 (by decide +kernel) rfl) (tg_of 74 (by decide +kernel) rfl) kX11_isNot ⟨by decide +kernel, by decide +kernel, by decide +kernel⟩ (by decide)
set_option maxRecDepth 8000 in
theorem sX11_shift_77 : Site RX11 mX11_shift 77 80 mX11_isNot none 3 := site_S (dk DX11_shift_0 47 rfl) (tg_of 342 (by decide +kernel) rfl) (tg_of 343 (by decide +kernel) rfl) (tg_of 74 (by decide +kernel) rfl) kX11_isNot ⟨by decide +kernel, by decide +kernel, by decide +kernel⟩ (by decide)
set_option maxRecDepth 8000 in
theorem sX11_shift_95 : Site RX11 mX11_shift 95 98 mX11_isNot none 3 := site_S (dk DX11_shift_0 57 rfl) (tg_of 342 (by decide +kernel) rfl) (tg_of 343 (by decide +kernel) rfl) (tg_of 74 (by decide +kernel) rfl) kX11_isNot ⟨by decide +kernel, by decide +kernel, by decide +kernel⟩ (by decide)
set_option maxRecDepth 8000 in
theorem sX11_commonDivisor_47 : Site RX11 mX11_commonDivisor 47 50 mJ9_max_f86c9 none 2 := site_S (dk DX11_commonDivisor 25 rfl) (tg_of 877 (by decide +kernel) rfl) (tg_of 878 (by decide +kernel) rfl) (tg_of 83 (by decide +kernel) rfl) kJ9_max_f86c9 ⟨by decide +kernel, by decide +kernel, by decide +kernel⟩ (by decide)
set_option maxRecDepth 8000 in
theorem sX11_made_53 {ci : Nat} : Site RX11 mX11_made 53 56 mX9_init (some ci) 7 := site_I (dk DX11_made_0 10 rfl) rfl rfl (tg_of 350 (by decide +kernel) rfl) (tg_of 351 (by decide +kernel) rfl) (tg_of 82 (by decide +kernel) rfl) kX9_init ⟨by decide +kernel, by decide +kernel, by decide +kernel⟩ (by decide)
set_option maxRecDepth 8000 in
theorem sX11_made_70 {ci : Nat} : Site RX11 mX11_made 70 73 mX2_init (some ci) 7 := site_I (dk DX11_made_0 20 rfl) rfl rfl (tg_of 408 (by decide +kernel) rfl) (tg_of 409 (by decide +kernel) rfl) (tg_of 84 (by decide +kernel) rfl) kX2_init ⟨by decide +kernel, by decide +kernel, by decide +kernel⟩ (by decide)
set_option maxRecDepth 8000 in
theorem sX11_made_87 {ci : Nat} : Site RX11 mX11_made 87 90 mX4_init (some ci) 7 := site_I (dk DX11_made_0 30 rfl) rfl rfl (tg_of 421 (by decide +kernel) rfl) (tg_of 422 (by decide +kernel) rfl) (tg_of 85 (by decide +kernel) rfl) kX4_init ⟨by decide +kernel, by decide +kernel, by decide +kernel⟩ (by decide)
set_option maxRecDepth 8000 in
theorem sX11_made_104 {ci : Nat} : Site RX11 mX11_made 104 107 mX8_init (some ci) 7 := site_I (dk DX11_made_0 40 rfl) rfl rfl (tg_of 434 (by decide +kernel) rfl) (tg_of 435 (by decide +kernel) rfl) (tg_of 86 (by decide +kernel) rfl) kX8_init ⟨by decide +kernel, by decide +kernel, by decide +kernel⟩ (by decide)
set_option maxRecDepth 8000 in
theorem sX11_made_121 {ci : Nat} : Site RX11 mX11_made 121 124 mX6_init (some ci) 7 := site_I (dk DX11_made_0 50 rfl) rfl rfl (tg_of 447 (by decide +kernel) rfl) (tg_of 448 (by decide +kernel) rfl) (tg_of 87 (by decide +kernel) rfl) kX6_init ⟨by decide +kernel, by decide +kernel, by decide +kernel⟩ (by decide)
set_option maxRecDepth 8000 in
theorem sX11_made_138 {ci : Nat} : Site RX11 mX11_made 138 141 mX10_init (some ci) 7 := site_I (dk DX11_made_1 0 rfl) rfl rfl (tg_of 460 (by decide +kernel) rfl) (tg_of 461 (by decide +kernel) rfl) (tg_of 88 (by decide +kernel) rfl) kX10_init ⟨by decide +kernel, by decide +kernel, by decide +kernel⟩ (by decide)
set_option maxRecDepth 8000 in
theorem sX11_made_155 {ci : Nat} : Site RX11 mX11_made 155 158 mX1_init (some ci) 7 := site_I (dk DX11_made_1 10 rfl) rfl rfl (tg_of 473 (by decide +kernel) rfl) (tg_of 354 (by decide +kernel) rfl) (tg_of 81 (by decide +kernel) rfl) kX1_init ⟨by decide +kernel, by decide +kernel, by decide +kernel⟩ (by decide)
set_option maxRecDepth 8000 in
theorem sX12_isDoing_9 : Site RX12 mX12_isDoing 9 12 mX12_in (some 12) 4 := site_V (dk DX12_isDoing 7 rfl) KX12 (tg_of 1249 (by decide +kernel) rfl) (tg_of 1251 (by decide +kernel) rfl) (tg_of 17 (by decide +kernel) rfl) (tg_of 80 (by decide +kernel) rfl) kX12_in ⟨by decide +kernel, by decide +kernel, by decide +kernel⟩ (by decide)
set_option maxRecDepth 8000 in
theorem sX12_isWay_4 : Site RX12 mX12_isWay 4 7 mX12_in (some 12) 4 := site_V (dk DX12_isWay 4 rfl) KX12 (tg_of 1249 (by decide +kernel) rfl) (tg_of 1251 (by decide +kernel) rfl) (tg_of 17 (by decide +kernel) rfl) (tg_of 80 (by decide +kernel) rfl) kX12_in ⟨by decide +kernel, by decide +kernel, by decide +kernel⟩ (by decide)
set_option maxRecDepth 8000 in
theorem sX12_doing_5 : Site RX12 mX12_doing 5 8 mX12_in (some 12) 4 := site_V (dk DX12_doing_0 4 rfl) KX12 (tg_of 1249 (by decide +kernel) rfl) (tg_of 1251 (by decide +kernel) rfl) (tg_of 17 (by decide +kernel) rfl) (tg_of 80 (by decide +kernel) rfl) kX12_in ⟨by decide +kernel, by decide +kernel, by decide +kernel⟩ (by decide)
set_option maxRecDepth 8000 in
theorem sX12_doing_18 : Site RX12 mX12_doing 18 21 mX12_in (some 12) 4 := site_V (dk DX12_doing_0 12 rfl) KX12 (tg_of 1249 (by decide +kernel) rfl) (tg_of 1251 (by decide +kernel) rfl) (tg_of 17 (by decide +kernel) rfl) (tg_of 80 (by decide +kernel) rfl) kX12_in ⟨by decide +kernel, by decide +kernel, by decide +kernel⟩ (by decide)
set_option maxRecDepth 8000 in
theorem sX12_doing_29 : Site RX12 mX12_doing 29 32 mX12_in (some 12) 4 := site_V (dk DX12_doing_0 18 rfl) KX12 (tg_of 1249 (by decide +kernel) rfl) (tg_of 1251 (by decide +kernel) rfl) (tg_of 17 (by decide +kernel) rfl) (tg_of 80 (by decide +kernel) rfl) kX12_in ⟨by decide +kernel, by decide +kernel, by decide +kernel⟩ (by decide)
set_option maxRecDepth 8000 in
theorem sX12_doing_42 : Site RX12 mX12_doing 42 45 mX12_in (some 12) 4 := site_V (dk DX12_doing_0 26 rfl) KX12 (tg_of 1249 (by decide +kernel) rfl) (tg_of 1251 (by decide +kernel) rfl) (tg_of 17 (by decide +kernel) rfl) (tg_of 80 (by decide +kernel) rfl) kX12_in ⟨by decide +kernel, by decide +kernel, by decide +kernel⟩ (by decide)
set_option maxRecDepth 8000 in
theorem sX12_doing_54 : Site RX12 mX12_doing 54 57 mX12_in (some 12) 4 := site_V (dk DX12_doing_0 32 rfl) KX12 (tg_of 1249 (by decide +kernel) rfl) (tg_of 1251 (by decide +kernel) rfl) (tg_of 17 (by decide +kernel) rfl) (tg_of 80 (by decide +kernel) rfl) kX12_in ⟨by decide +kernel, by decide +kernel, by decide +kernel⟩ (by decide)
set_option maxRecDepth 8000 in
theorem sX12_doing_66 : Site RX12 mX12_doing 66 69 mX12_in (some 12) 4 := site_V (dk DX12_doing_0 38 rfl) KX12 (tg_of 1249 (by decide +kernel) rfl) (tg_of 1251 (by decide +kernel) rfl) (tg_of 17 (by decide +kernel) rfl) (tg_of 80 (by decide +kernel) rfl) kX12_in ⟨by decide +kernel, by decide +kernel, by decide +kernel⟩ (by decide)
set_option maxRecDepth 8000 in
theorem sX12_doing_161 : Site RX12 mX12_doing 161 164 mX12_with (some 12) 4 := site_V (dk DX12_doing_1 32 rfl) KX12 (tg_of 1253 (by decide +kernel) rfl) (tg_of 1255 (by decide +kernel) rfl) (tg_of 18 (by decide +kernel) rfl) (tg_of 80 (by decide +kernel) rfl) kX12_with ⟨by decide +kernel, by decide +kernel, by decide +kernel⟩ (by decide)
set_option maxRecDepth 8000 in
theorem sX12_doing_176 : Site RX12 mX12_doing 176 179 mX12_with (some 12) 4 := site_V (dk DX12_doing_1 40 rfl) KX12 (tg_of 1253 (by decide +kernel) rfl) (tg_of 1255 (by decide +kernel) rfl) (tg_of 18 (by decide +kernel) rfl) (tg_of 80 (by decide +kernel) rfl) kX12_with ⟨by decide +kernel, by decide +kernel, by decide +kernel⟩ (by decide)
set_option maxRecDepth 8000 in
theorem sX12_needless_2 : Site RX12 mX12_needless 2 5 mX12_isDoing (some 12) 2 := site_V (dk DX12_needless 2 rfl) KX12 (tg_of 1261 (by decide +kernel) rfl) (tg_of 1263 (by decide +kernel) rfl) (tg_of 19 (by decide +kernel) rfl) (tg_of 80 (by decide +kernel) rfl) kX12_isDoing ⟨by decide +kernel, by decide +kernel, by decide +kernel⟩ (by decide)
set_option maxRecDepth 8000 in
theorem sX12_needless_16 : Site RX12 mX12_needless 16 19 mX12_has (some 12) 3 := site_V (dk DX12_needless 10 rfl) KX12 (tg_of 1265 (by decide +kernel) rfl) (tg_of 1267 (by decide +kernel) rfl) (tg_of 20 (by decide +kernel) rfl) (tg_of 80 (by decide +kernel) rfl) kX12_has ⟨by decide +kernel, by decide +kernel, by decide +kernel⟩ (by decide)
set_option maxRecDepth 8000 in
theorem sX12_needless_36 : Site RX12 mX12_needless 36 39 mX12_with (some 12) 4 := site_V (dk DX12_needless 22 rfl) KX12 (tg_of 1253 (by decide +kernel) rfl) (tg_of 1255 (by decide +kernel) rfl) (tg_of 18 (by decide +kernel) rfl) (tg_of 80 (by decide +kernel) rfl) kX12_with ⟨by decide +kernel, by decide +kernel, by decide +kernel⟩ (by decide)
set_option maxRecDepth 8000 in
theorem sX12_learn_2 : Site RX12 mX12_learn 2 5 mX12_isDoing (some 12) 2 := site_V (dk DX12_learn 2 rfl) KX12 (tg_of 1261 (by decide +kernel) rfl) (tg_of 1263 (by decide +kernel) rfl) (tg_of 19 (by decide +kernel) rfl) (tg_of 80 (by decide +kernel) rfl) kX12_isDoing ⟨by decide +kernel, by decide +kernel, by decide +kernel⟩ (by decide)
set_option maxRecDepth 8000 in
theorem sX12_learn_16 : Site RX12 mX12_learn 16 19 mX12_has (some 12) 3 := site_V (dk DX12_learn 10 rfl) KX12 (tg_of 1265 (by decide +kernel) rfl) (tg_of 1267 (by decide +kernel) rfl) (tg_of 20 (by decide +kernel) rfl) (tg_of 80 (by decide +kernel) rfl) kX12_has ⟨by decide +kernel, by decide +kernel, by decide +kernel⟩ (by decide)
set_option maxRecDepth 8000 in
theorem sX12_learn_36 : Site RX12 mX12_learn 36 39 mX12_with (some 12) 4 := site_V (dk DX12_learn 22 rfl) KX12 (tg_of 1253 (by decide +kernel) rfl) (tg_of 1255 (by decide +kernel) rfl) (tg_of 18 (by decide +kernel) rfl) (tg_of 80 (by decide +kernel) rfl) kX12_with ⟨by decide +kernel, by decide +kernel, by decide +kernel⟩ (by decide)
set_option maxRecDepth 8000 in
theorem sX12_odds_2 : Site RX12 mX12_odds 2 5 mX12_isDoing (some 12) 2 := site_V (dk DX12_odds 2 rfl) KX12 (tg_of 1261 (by decide +kernel) rfl) (tg_of 1263 (by decide +kernel) rfl) (tg_of 19 (by decide +kernel) rfl) (tg_of 80 (by decide +kernel) rfl) kX12_isDoing ⟨by decide +kernel, by decide +kernel, by decide +kernel⟩ (by decide)
set_option maxRecDepth 8000 in
theorem sX12_odds_15 : Site RX12 mX12_odds 15 18 mX12_in (some 12) 4 := site_V (dk DX12_odds 10 rfl) KX12 (tg_of 1249 (by decide +kernel) rfl) (tg_of 1251 (by decide +kernel) rfl) (tg_of 17 (by decide +kernel) rfl) (tg_of 80 (by decide +kernel) rfl) kX12_in ⟨by decide +kernel, by decide +kernel, by decide +kernel⟩ (by decide)
set_option maxRecDepth 8000 in
theorem sX12_hours_2 : Site RX12 mX12_hours 2 5 mX12_isWay (some 12) 2 := site_V (dk DX12_hours 2 rfl) KX12 (tg_of 1281 (by decide +kernel) rfl) (tg_of 1283 (by decide +kernel) rfl) (tg_of 21 (by decide +kernel) rfl) (tg_of 80 (by decide +kernel) rfl) kX12_isWay ⟨by decide +kernel, by decide +kernel, by decide +kernel⟩ (by decide)
set_option maxRecDepth 8000 in
theorem sX12_hours_15 : Site RX12 mX12_hours 15 18 mX12_in (some 12) 4 := site_V (dk DX12_hours 10 rfl) KX12 (tg_of 1249 (by decide +kernel) rfl) (tg_of 1251 (by decide +kernel) rfl) (tg_of 17 (by decide +kernel) rfl) (tg_of 80 (by decide +kernel) rfl) kX12_in ⟨by decide +kernel, by decide +kernel, by decide +kernel⟩ (by decide)
set_option maxRecDepth 8000 in
theorem sX12_feed_5 : Site RX12 mX12_feed 5 8 mX12_in (some 12) 4 := site_V (dk DX12_feed 4 rfl) KX12 (tg_of 1249 (by decide +kernel) rfl) (tg_of 1251 (by decide +kernel) rfl) (tg_of 17 (by decide +kernel) rfl) (tg_of 80 (by decide +kernel) rfl) kX12_in ⟨by decide +kernel, by decide +kernel, by decide +kernel⟩ (by decide)
set_option maxRecDepth 8000 in
theorem sX12_takes_1 : Site RX12 mX12_takes 1 4 mX12_next (some 12) 1 := site_V (dk DX12_takes 1 rfl) KX12 (tg_of 1309 (by decide +kernel) rfl) (tg_of 1311 (by decide +kernel) rfl) (tg_of 26 (by decide +kernel) rfl) (tg_of 80 (by decide +kernel) rfl) kX12_next ⟨by decide +kernel, by decide +kernel, by decide +kernel⟩ (by decide)
set_option maxRecDepth 8000 in
theorem sX12_takesWord_16 : Site RX12 mX12_takesWord 16 19 mX12_takes (some 12) 2 := site_V (dk DX12_takesWord 12 rfl) KX12 (tg_of 1317 (by decide +kernel) rfl) (tg_of 1319 (by decide +kernel) rfl) (tg_of 28 (by decide +kernel) rfl) (tg_of 80 (by decide +kernel) rfl) kX12_takes ⟨by decide +kernel, by decide +kernel, by decide +kernel⟩ (by decide)
set_option maxRecDepth 8000 in
theorem sX12_takesWord_33 : Site RX12 mX12_takesWord 33 36 mX12_takes (some 12) 2 := site_V (dk DX12_takesWord 20 rfl) KX12 (tg_of 1317 (by decide +kernel) rfl) (tg_of 1319 (by decide +kernel) rfl) (tg_of 28 (by decide +kernel) rfl) (tg_of 80 (by decide +kernel) rfl) kX12_takes ⟨by decide +kernel, by decide +kernel, by decide +kernel⟩ (by decide)
set_option maxRecDepth 8000 in
theorem sX12_isDigit_2 : Site RX12 mX12_isDigit 2 5 mX12_next (some 12) 1 := site_V (dk DX12_isDigit 2 rfl) KX12 (tg_of 1309 (by decide +kernel) rfl) (tg_of 1311 (by decide +kernel) rfl) (tg_of 26 (by decide +kernel) rfl) (tg_of 80 (by decide +kernel) rfl) kX12_next ⟨by decide +kernel, by decide +kernel, by decide +kernel⟩ (by decide)
set_option maxRecDepth 8000 in
theorem sX12_isDigit_9 : Site RX12 mX12_isDigit 9 12 mX12_in (some 12) 4 := site_V (dk DX12_isDigit 5 rfl) KX12 (tg_of 1249 (by decide +kernel) rfl) (tg_of 1251 (by decide +kernel) rfl) (tg_of 17 (by decide +kernel) rfl) (tg_of 80 (by decide +kernel) rfl) kX12_in ⟨by decide +kernel, by decide +kernel, by decide +kernel⟩ (by decide)
set_option maxRecDepth 8000 in
theorem sX12_takesNumber_1 : Site RX12 mX12_takesNumber 1 4 mX12_isDigit (some 12) 1 := site_V (dk DX12_takesNumber 1 rfl) KX12 (tg_of 1325 (by decide +kernel) rfl) (tg_of 1327 (by decide +kernel) rfl) (tg_of 30 (by decide +kernel) rfl) (tg_of 80 (by decide +kernel) rfl) kX12_isDigit ⟨by decide +kernel, by decide +kernel, by decide +kernel⟩ (by decide)
set_option maxRecDepth 8000 in
theorem sX12_takesNumber_22 : Site RX12 mX12_takesNumber 22 25 mX12_isDigit (some 12) 1 := site_V (dk DX12_takesNumber 14 rfl) KX12 (tg_of 1325 (by decide +kernel) rfl) (tg_of 1327 (by decide +kernel) rfl) (tg_of 30 (by decide +kernel) rfl) (tg_of 80 (by decide +kernel) rfl) kX12_isDigit ⟨by decide +kernel, by decide +kernel, by decide +kernel⟩ (by decide)
set_option maxRecDepth 8000 in
theorem sX12_takesNumber_37 : Site RX12 mX12_takesNumber 37 40 mX12_next (some 12) 1 := site_V (dk DX12_takesNumber 22 rfl) KX12 (tg_of 1309 (by decide +kernel) rfl) (tg_of 1311 (by decide +kernel) rfl) (tg_of 26 (by decide +kernel) rfl) (tg_of 80 (by decide +kernel) rfl) kX12_next ⟨by decide +kernel, by decide +kernel, by decide +kernel⟩ (by decide)
set_option maxRecDepth 8000 in
theorem sX12_whole_26 : Site RX12 mX12_whole 26 29 mX12_put (some 12) 2 := site_V (dk DX12_whole 14 rfl) KX12 (tg_of 1341 (by decide +kernel) rfl) (tg_of 1343 (by decide +kernel) rfl) (tg_of 34 (by decide +kernel) rfl) (tg_of 80 (by decide +kernel) rfl) kX12_put ⟨by decide +kernel, by decide +kernel, by decide +kernel⟩ (by decide)
set_option maxRecDepth 8000 in
theorem sX12_settle_66 : Site RX12 mX12_settle 66 69 mX12_put (some 12) 2 := site_V (dk DX12_settle 37 rfl) KX12 (tg_of 1341 (by decide +kernel) rfl) (tg_of 1343 (by decide +kernel) rfl) (tg_of 34 (by decide +kernel) rfl) (tg_of 80 (by decide +kernel) rfl) kX12_put ⟨by decide +kernel, by decide +kernel, by decide +kernel⟩ (by decide)
set_option maxRecDepth 8000 in
theorem sX12_takesTest_2 : Site RX12 mX12_takesTest 2 5 mX12_next (some 12) 1 := site_V (dk DX12_takesTest 2 rfl) KX12 (tg_of 1309 (by decide +kernel) rfl) (tg_of 1311 (by decide +kernel) rfl) (tg_of 26 (by decide +kernel) rfl) (tg_of 80 (by decide +kernel) rfl) kX12_next ⟨by decide +kernel, by decide +kernel, by decide +kernel⟩ (by decide)
set_option maxRecDepth 8000 in
theorem sX12_takesTest_5 : Site RX12 mX12_takesTest 5 8 mX12_place (some 12) 2 := site_V (dk DX12_takesTest 3 rfl) KX12 (tg_of 1337 (by decide +kernel) rfl) (tg_of 1339 (by decide +kernel) rfl) (tg_of 33 (by decide +kernel) rfl) (tg_of 80 (by decide +kernel) rfl) kX12_place ⟨by decide +kernel, by decide +kernel, by decide +kernel⟩ (by decide)
set_option maxRecDepth 8000 in
theorem sX12_takesTest_26 : Site RX12 mX12_takesTest 26 29 mX12_next (some 12) 1 := site_V (dk DX12_takesTest 16 rfl) KX12 (tg_of 1309 (by decide +kernel) rfl) (tg_of 1311 (by decide +kernel) rfl) (tg_of 26 (by decide +kernel) rfl) (tg_of 80 (by decide +kernel) rfl) kX12_next ⟨by decide +kernel, by decide +kernel, by decide +kernel⟩ (by decide)
set_option maxRecDepth 8000 in
theorem sX12_takesTest_36 : Site RX12 mX12_takesTest 36 39 mX12_in (some 12) 4 := site_V (dk DX12_takesTest 22 rfl) KX12 (tg_of 1249 (by decide +kernel) rfl) (tg_of 1251 (by decide +kernel) rfl) (tg_of 17 (by decide +kernel) rfl) (tg_of 80 (by decide +kernel) rfl) kX12_in ⟨by decide +kernel, by decide +kernel, by decide +kernel⟩ (by decide)
set_option maxRecDepth 8000 in
theorem sX12_takesTest_55 : Site RX12 mX12_takesTest 55 58 mX12_takesNumber (some 12) 1 := site_V (dk DX12_takesTest 33 rfl) KX12 (tg_of 1321 (by decide +kernel) rfl) (tg_of 1323 (by decide +kernel) rfl) (tg_of 29 (by decide +kernel) rfl) (tg_of 80 (by decide +kernel) rfl) kX12_takesNumber ⟨by decide +kernel, by decide +kernel, by decide +kernel⟩ (by decide)
set_option maxRecDepth 8000 in
theorem sX12_takesTest_82 : Site RX12 mX12_takesTest 82 85 mX12_put (some 12) 2 := site_V (dk DX12_takesTest 50 rfl) KX12 (tg_of 1341 (by decide +kernel) rfl) (tg_of 1343 (by decide +kernel) rfl) (tg_of 34 (by decide +kernel) rfl) (tg_of 80 (by decide +kernel) rfl) kX12_put ⟨by decide +kernel, by decide +kernel, by decide +kernel⟩ (by decide)
set_option maxRecDepth 8000 in
theorem sX12_takesTest_86 : Site RX12 mX12_takesTest 86 89 mX12_whole (some 12) 1 := site_V (dk DX12_takesTest 52 rfl) KX12 (tg_of 1345 (by decide +kernel) rfl) (tg_of 1347 (by decide +kernel) rfl) (tg_of 35 (by decide +kernel) rfl) (tg_of 80 (by decide +kernel) rfl) kX12_whole ⟨by decide +kernel, by decide +kernel, by decide +kernel⟩ (by decide)
set_option maxRecDepth 8000 in
theorem sX12_takesE_23 : Site RX12 mX12_takesE 23 26 mX12_next (some 12) 1 := site_V (dk DX12_takesE_0 15 rfl) KX12 (tg_of 1309 (by decide +kernel) rfl) (tg_of 1311 (by decide +kernel) rfl) (tg_of 26 (by decide +kernel) rfl) (tg_of 80 (by decide +kernel) rfl) kX12_next ⟨by decide +kernel, by decide +kernel, by decide +kernel⟩ (by decide)
set_option maxRecDepth 8000 in
theorem sX12_takesE_97 : Site RX12 mX12_takesE 97 100 mX12_takesTest (some 12) 1 := site_V (dk DX12_takesE_0 57 rfl) KX12 (tg_of 1333 (by decide +kernel) rfl) (tg_of 1335 (by decide +kernel) rfl) (tg_of 32 (by decide +kernel) rfl) (tg_of 80 (by decide +kernel) rfl) kX12_takesTest ⟨by decide +kernel, by decide +kernel, by decide +kernel⟩ (by decide)
set_option maxRecDepth 8000 in
theorem sX12_takesE_124 : Site RX12 mX12_takesE 124 127 mX12_settle (some 12) 2 := site_V (dk DX12_takesE_1 12 rfl) KX12 (tg_of 1349 (by decide +kernel) rfl) (tg_of 1351 (by decide +kernel) rfl) (tg_of 36 (by decide +kernel) rfl) (tg_of 80 (by decide +kernel) rfl) kX12_settle ⟨by decide +kernel, by decide +kernel, by decide +kernel⟩ (by decide)
set_option maxRecDepth 8000 in
theorem sX12_takesE_165 : Site RX12 mX12_takesE 165 168 mX12_settle (some 12) 2 := site_V (dk DX12_takesE_1 36 rfl) KX12 (tg_of 1349 (by decide +kernel) rfl) (tg_of 1351 (by decide +kernel) rfl) (tg_of 36 (by decide +kernel) rfl) (tg_of 80 (by decide +kernel) rfl) kX12_settle ⟨by decide +kernel, by decide +kernel, by decide +kernel⟩ (by decide)
set_option maxRecDepth 8000 in
theorem sX12_takesE_226 : Site RX12 mX12_takesE 226 229 mX12_whole (some 12) 1 := site_V (dk DX12_takesE_2 12 rfl) KX12 (tg_of 1345 (by decide +kernel) rfl) (tg_of 1347 (by decide +kernel) rfl) (tg_of 35 (by decide +kernel) rfl) (tg_of 80 (by decide +kernel) rfl) kX12_whole ⟨by decide +kernel, by decide +kernel, by decide +kernel⟩ (by decide)
set_option maxRecDepth 8000 in
theorem sX12_takesHead_1 : Site RX12 mX12_takesHead 1 4 mX12_second (some 12) 1 := site_V (dk DX12_takesHead 1 rfl) KX12 (tg_of 1305 (by decide +kernel) rfl) (tg_of 1307 (by decide +kernel) rfl) (tg_of 25 (by decide +kernel) rfl) (tg_of 80 (by decide +kernel) rfl) kX12_second ⟨by decide +kernel, by decide +kernel, by decide +kernel⟩ (by decide)
set_option maxRecDepth 8000 in
theorem sX12_takesHead_6 : Site RX12 mX12_takesHead 6 9 mX12_next (some 12) 1 := site_V (dk DX12_takesHead 4 rfl) KX12 (tg_of 1309 (by decide +kernel) rfl) (tg_of 1311 (by decide +kernel) rfl) (tg_of 26 (by decide +kernel) rfl) (tg_of 80 (by decide +kernel) rfl) kX12_next ⟨by decide +kernel, by decide +kernel, by decide +kernel⟩ (by decide)
set_option maxRecDepth 8000 in
theorem sX12_takesHead_46 : Site RX12 mX12_takesHead 46 49 mX12_takesWord (some 12) 3 := site_V (dk DX12_takesHead 14 rfl) KX12 (tg_of 1313 (by decide +kernel) rfl) (tg_of 1315 (by decide +kernel) rfl) (tg_of 27 (by decide +kernel) rfl) (tg_of 80 (by decide +kernel) rfl) kX12_takesWord ⟨by decide +kernel, by decide +kernel, by decide +kernel⟩ (by decide)
set_option maxRecDepth 8000 in
theorem sX12_takesHead_77 : Site RX12 mX12_takesHead 77 80 mX12_takesWord (some 12) 3 := site_V (dk DX12_takesHead 32 rfl) KX12 (tg_of 1313 (by decide +kernel) rfl) (tg_of 1315 (by decide +kernel) rfl) (tg_of 27 (by decide +kernel) rfl) (tg_of 80 (by decide +kernel) rfl) kX12_takesWord ⟨by decide +kernel, by decide +kernel, by decide +kernel⟩ (by decide)
set_option maxRecDepth 8000 in
theorem sX12_takesHead_86 : Site RX12 mX12_takesHead 86 89 mX12_takesWord (some 12) 3 := site_V (dk DX12_takesHead 37 rfl) KX12 (tg_of 1313 (by decide +kernel) rfl) (tg_of 1315 (by decide +kernel) rfl) (tg_of 27 (by decide +kernel) rfl) (tg_of 80 (by decide +kernel) rfl) kX12_takesWord ⟨by decide +kernel, by decide +kernel, by decide +kernel⟩ (by decide)
set_option maxRecDepth 8000 in
theorem sX12_takesHead_101 : Site RX12 mX12_takesHead 101 104 mX12_takesWord (some 12) 3 := site_V (dk DX12_takesHead 47 rfl) KX12 (tg_of 1313 (by decide +kernel) rfl) (tg_of 1315 (by decide +kernel) rfl) (tg_of 27 (by decide +kernel) rfl) (tg_of 80 (by decide +kernel) rfl) kX12_takesWord ⟨by decide +kernel, by decide +kernel, by decide +kernel⟩ (by decide)
set_option maxRecDepth 8000 in
theorem sX12_takesClause_2 : Site RX12 mX12_takesClause 2 5 mX12_takesHead (some 12) 2 := site_V (dk DX12_takesClause 2 rfl) KX12 (tg_of 1301 (by decide +kernel) rfl) (tg_of 1303 (by decide +kernel) rfl) (tg_of 24 (by decide +kernel) rfl) (tg_of 80 (by decide +kernel) rfl) kX12_takesHead ⟨by decide +kernel, by decide +kernel, by decide +kernel⟩ (by decide)
set_option maxRecDepth 8000 in
theorem sX12_takesClause_9 : Site RX12 mX12_takesClause 9 12 mX12_takesNumber (some 12) 1 := site_V (dk DX12_takesClause 5 rfl) KX12 (tg_of 1321 (by decide +kernel) rfl) (tg_of 1323 (by decide +kernel) rfl) (tg_of 29 (by decide +kernel) rfl) (tg_of 80 (by decide +kernel) rfl) kX12_takesNumber ⟨by decide +kernel, by decide +kernel, by decide +kernel⟩ (by decide)
set_option maxRecDepth 8000 in
theorem sX12_takesClause_40 : Site RX12 mX12_takesClause 40 43 mX12_takes (some 12) 2 := site_V (dk DX12_takesClause 23 rfl) KX12 (tg_of 1317 (by decide +kernel) rfl) (tg_of 1319 (by decide +kernel) rfl) (tg_of 28 (by decide +kernel) rfl) (tg_of 80 (by decide +kernel) rfl) kX12_takes ⟨by decide +kernel, by decide +kernel, by decide +kernel⟩ (by decide)
set_option maxRecDepth 8000 in
theorem sX12_takesClause_48 : Site RX12 mX12_takesClause 48 51 mX12_takesE (some 12) 2 := site_V (dk DX12_takesClause 27 rfl) KX12 (tg_of 1329 (by decide +kernel) rfl) (tg_of 1331 (by decide +kernel) rfl) (tg_of 31 (by decide +kernel) rfl) (tg_of 80 (by decide +kernel) rfl) kX12_takesE ⟨by decide +kernel, by decide +kernel, by decide +kernel⟩ (by decide)
set_option maxRecDepth 8000 in
theorem sX12_goesText_22 : Site RX12 mX12_goesText 22 25 mX12_takesClause (some 12) 2 := site_V (dk DX12_goesText 16 rfl) KX12 (tg_of 1297 (by decide +kernel) rfl) (tg_of 1299 (by decide +kernel) rfl) (tg_of 23 (by decide +kernel) rfl) (tg_of 80 (by decide +kernel) rfl) kX12_takesClause ⟨by decide +kernel, by decide +kernel, by decide +kernel⟩ (by decide)
set_option maxRecDepth 8000 in
theorem sX12_goesText_62 : Site RX12 mX12_goesText 62 65 mX12_takes (some 12) 2 := site_V (dk DX12_goesText 38 rfl) KX12 (tg_of 1317 (by decide +kernel) rfl) (tg_of 1319 (by decide +kernel) rfl) (tg_of 28 (by decide +kernel) rfl) (tg_of 80 (by decide +kernel) rfl) kX12_takes ⟨by decide +kernel, by decide +kernel, by decide +kernel⟩ (by decide)
set_option maxRecDepth 8000 in
theorem sX12_post_17 : Site RX12 mX12_post 17 20 mX12_goesText (some 12) 2 := site_V (dk DX12_post 9 rfl) KX12 (tg_of 1293 (by decide +kernel) rfl) (tg_of 1295 (by decide +kernel) rfl) (tg_of 22 (by decide +kernel) rfl) (tg_of 80 (by decide +kernel) rfl) kX12_goesText ⟨by decide +kernel, by decide +kernel, by decide +kernel⟩ (by decide)
set_option maxRecDepth 8000 in
theorem sX12_lastOf_3 : Site RX12 mX12_lastOf 3 6 mX12_begin (some 12) 1 := site_V (dk DX12_lastOf 3 rfl) KX12 (tg_of 1365 (by decide +kernel) rfl) (tg_of 1367 (by decide +kernel) rfl) (tg_of 39 (by decide +kernel) rfl) (tg_of 80 (by decide +kernel) rfl) kX12_begin ⟨by decide +kernel, by decide +kernel, by decide +kernel⟩ (by decide)
set_option maxRecDepth 8000 in
theorem sX12_lastOf_11 : Site RX12 mX12_lastOf 11 14 mX12_behind (some 12) 1 := site_V (dk DX12_lastOf 7 rfl) KX12 (tg_of 1369 (by decide +kernel) rfl) (tg_of 1371 (by decide +kernel) rfl) (tg_of 40 (by decide +kernel) rfl) (tg_of 80 (by decide +kernel) rfl) kX12_behind ⟨by decide +kernel, by decide +kernel, by decide +kernel⟩ (by decide)
set_option maxRecDepth 8000 in
theorem sX12_holds_162 : Site RX12 mX12_holds 162 165 mX12_factOf (some 12) 5 := site_V (dk DX12_holds_1 29 rfl) KX12 (tg_of 1377 (by decide +kernel) rfl) (tg_of 1379 (by decide +kernel) rfl) (tg_of 42 (by decide +kernel) rfl) (tg_of 80 (by decide +kernel) rfl) kX12_factOf ⟨by decide +kernel, by decide +kernel, by decide +kernel⟩ (by decide)
set_option maxRecDepth 8000 in
theorem sX12_sumOf_4 : Site RX12 mX12_sumOf 4 7 mX12_begin (some 12) 1 := site_V (dk DX12_sumOf 3 rfl) KX12 (tg_of 1365 (by decide +kernel) rfl) (tg_of 1367 (by decide +kernel) rfl) (tg_of 39 (by decide +kernel) rfl) (tg_of 80 (by decide +kernel) rfl) kX12_begin ⟨by decide +kernel, by decide +kernel, by decide +kernel⟩ (by decide)
set_option maxRecDepth 8000 in
theorem sX12_sumOf_12 : Site RX12 mX12_sumOf 12 15 mX12_behind (some 12) 1 := site_V (dk DX12_sumOf 7 rfl) KX12 (tg_of 1369 (by decide +kernel) rfl) (tg_of 1371 (by decide +kernel) rfl) (tg_of 40 (by decide +kernel) rfl) (tg_of 80 (by decide +kernel) rfl) kX12_behind ⟨by decide +kernel, by decide +kernel, by decide +kernel⟩ (by decide)
set_option maxRecDepth 8000 in
theorem sX12_sumOf_38 : Site RX12 mX12_sumOf 38 41 mX12_holds (some 12) 5 := site_V (dk DX12_sumOf 21 rfl) KX12 (tg_of 1373 (by decide +kernel) rfl) (tg_of 1375 (by decide +kernel) rfl) (tg_of 41 (by decide +kernel) rfl) (tg_of 80 (by decide +kernel) rfl) kX12_holds ⟨by decide +kernel, by decide +kernel, by decide +kernel⟩ (by decide)
set_option maxRecDepth 8000 in
theorem sX12_dear_15 : Site RX12 mX12_dear 15 18 mX12_sumOf (some 12) 5 := site_V (dk DX12_dear 11 rfl) KX12 (tg_of 1361 (by decide +kernel) rfl) (tg_of 1363 (by decide +kernel) rfl) (tg_of 38 (by decide +kernel) rfl) (tg_of 80 (by decide +kernel) rfl) kX12_sumOf ⟨by decide +kernel, by decide +kernel, by decide +kernel⟩ (by decide)
set_option maxRecDepth 8000 in
theorem sX12_laySaid_31 : Site RX12 mX12_laySaid 31 34 mX12_sumOf (some 12) 5 := site_V (dk DX12_laySaid 23 rfl) KX12 (tg_of 1361 (by decide +kernel) rfl) (tg_of 1363 (by decide +kernel) rfl) (tg_of 38 (by decide +kernel) rfl) (tg_of 80 (by decide +kernel) rfl) kX12_sumOf ⟨by decide +kernel, by decide +kernel, by decide +kernel⟩ (by decide)
set_option maxRecDepth 8000 in
theorem sX12_saidOf_55 : Site RX12 mX12_saidOf 55 58 mX12_saidAll (some 12) 3 := site_V (dk DX12_saidOf_0 13 rfl) KX12 (tg_of 1385 (by decide +kernel) rfl) (tg_of 1387 (by decide +kernel) rfl) (tg_of 44 (by decide +kernel) rfl) (tg_of 80 (by decide +kernel) rfl) kX12_saidAll ⟨by decide +kernel, by decide +kernel, by decide +kernel⟩ (by decide)
set_option maxRecDepth 8000 in
theorem sX12_saidOf_71 : Site RX12 mX12_saidOf 71 74 mX12_saidAll (some 12) 3 := site_V (dk DX12_saidOf_0 25 rfl) KX12 (tg_of 1385 (by decide +kernel) rfl) (tg_of 1387 (by decide +kernel) rfl) (tg_of 44 (by decide +kernel) rfl) (tg_of 80 (by decide +kernel) rfl) kX12_saidAll ⟨by decide +kernel, by decide +kernel, by decide +kernel⟩ (by decide)
set_option maxRecDepth 8000 in
theorem sX12_saidOf_102 : Site RX12 mX12_saidOf 102 105 mX12_saidAll (some 12) 3 := site_V (dk DX12_saidOf_0 46 rfl) KX12 (tg_of 1385 (by decide +kernel) rfl) (tg_of 1387 (by decide +kernel) rfl) (tg_of 44 (by decide +kernel) rfl) (tg_of 80 (by decide +kernel) rfl) kX12_saidAll ⟨by decide +kernel, by decide +kernel, by decide +kernel⟩ (by decide)
set_option maxRecDepth 8000 in
theorem sX12_saidOf_109 : Site RX12 mX12_saidOf 109 112 mX12_saidAll (some 12) 3 := site_V (dk DX12_saidOf_0 51 rfl) KX12 (tg_of 1385 (by decide +kernel) rfl) (tg_of 1387 (by decide +kernel) rfl) (tg_of 44 (by decide +kernel) rfl) (tg_of 80 (by decide +kernel) rfl) kX12_saidAll ⟨by decide +kernel, by decide +kernel, by decide +kernel⟩ (by decide)
set_option maxRecDepth 8000 in
theorem sX12_saidOf_140 : Site RX12 mX12_saidOf 140 143 mX12_saidAll (some 12) 3 := site_V (dk DX12_saidOf_1 12 rfl) KX12 (tg_of 1385 (by decide +kernel) rfl) (tg_of 1387 (by decide +kernel) rfl) (tg_of 44 (by decide +kernel) rfl) (tg_of 80 (by decide +kernel) rfl) kX12_saidAll ⟨by decide +kernel, by decide +kernel, by decide +kernel⟩ (by decide)
set_option maxRecDepth 8000 in
theorem sX12_saidOf_160 : Site RX12 mX12_saidOf 160 163 mX12_saidAll (some 12) 3 := site_V (dk DX12_saidOf_1 24 rfl) KX12 (tg_of 1385 (by decide +kernel) rfl) (tg_of 1387 (by decide +kernel) rfl) (tg_of 44 (by decide +kernel) rfl) (tg_of 80 (by decide +kernel) rfl) kX12_saidAll ⟨by decide +kernel, by decide +kernel, by decide +kernel⟩ (by decide)
set_option maxRecDepth 8000 in
theorem sX12_saidOf_169 : Site RX12 mX12_saidOf 169 172 mX12_saidAll (some 12) 3 := site_V (dk DX12_saidOf_1 31 rfl) KX12 (tg_of 1385 (by decide +kernel) rfl) (tg_of 1387 (by decide +kernel) rfl) (tg_of 44 (by decide +kernel) rfl) (tg_of 80 (by decide +kernel) rfl) kX12_saidAll ⟨by decide +kernel, by decide +kernel, by decide +kernel⟩ (by decide)
set_option maxRecDepth 8000 in
theorem sX12_over_15 : Site RX12 mX12_over 15 18 mX12_saidOf (some 12) 2 := site_V (dk DX12_over 11 rfl) KX12 (tg_of 1381 (by decide +kernel) rfl) (tg_of 1383 (by decide +kernel) rfl) (tg_of 43 (by decide +kernel) rfl) (tg_of 80 (by decide +kernel) rfl) kX12_saidOf ⟨by decide +kernel, by decide +kernel, by decide +kernel⟩ (by decide)
set_option maxRecDepth 8000 in
theorem sX12_of_2 : Site RX12 mX12_of 2 5 mX12_isDoing (some 12) 2 := site_V (dk DX12_of_0 2 rfl) KX12 (tg_of 1261 (by decide +kernel) rfl) (tg_of 1263 (by decide +kernel) rfl) (tg_of 19 (by decide +kernel) rfl) (tg_of 80 (by decide +kernel) rfl) kX12_isDoing ⟨by decide +kernel, by decide +kernel, by decide +kernel⟩ (by decide)
set_option maxRecDepth 8000 in
theorem sX12_of_13 : Site RX12 mX12_of 13 16 mX12_laySaid (some 12) 1 := site_V (dk DX12_of_0 7 rfl) KX12 (tg_of 1357 (by decide +kernel) rfl) (tg_of 1359 (by decide +kernel) rfl) (tg_of 37 (by decide +kernel) rfl) (tg_of 80 (by decide +kernel) rfl) kX12_laySaid ⟨by decide +kernel, by decide +kernel, by decide +kernel⟩ (by decide)
set_option maxRecDepth 8000 in
theorem sX12_of_128 : Site RX12 mX12_of 128 131 mX12_has (some 12) 3 := site_V (dk DX12_of_0 44 rfl) KX12 (tg_of 1265 (by decide +kernel) rfl) (tg_of 1267 (by decide +kernel) rfl) (tg_of 20 (by decide +kernel) rfl) (tg_of 80 (by decide +kernel) rfl) kX12_has ⟨by decide +kernel, by decide +kernel, by decide +kernel⟩ (by decide)
set_option maxRecDepth 8000 in
theorem sX12_of_146 : Site RX12 mX12_of 146 149 mX12_has (some 12) 3 := site_V (dk DX12_of_0 54 rfl) KX12 (tg_of 1265 (by decide +kernel) rfl) (tg_of 1267 (by decide +kernel) rfl) (tg_of 20 (by decide +kernel) rfl) (tg_of 80 (by decide +kernel) rfl) kX12_has ⟨by decide +kernel, by decide +kernel, by decide +kernel⟩ (by decide)
set_option maxRecDepth 8000 in
theorem sX12_of_160 : Site RX12 mX12_of 160 163 mX12_saidOf (some 12) 2 := site_V (dk DX12_of_1 2 rfl) KX12 (tg_of 1381 (by decide +kernel) rfl) (tg_of 1383 (by decide +kernel) rfl) (tg_of 43 (by decide +kernel) rfl) (tg_of 80 (by decide +kernel) rfl) kX12_saidOf ⟨by decide +kernel, by decide +kernel, by decide +kernel⟩ (by decide)
set_option maxRecDepth 8000 in
theorem sX12_of_166 : Site RX12 mX12_of 166 169 mX12_saidOf (some 12) 2 := site_V (dk DX12_of_1 6 rfl) KX12 (tg_of 1381 (by decide +kernel) rfl) (tg_of 1383 (by decide +kernel) rfl) (tg_of 43 (by decide +kernel) rfl) (tg_of 80 (by decide +kernel) rfl) kX12_saidOf ⟨by decide +kernel, by decide +kernel, by decide +kernel⟩ (by decide)
set_option maxRecDepth 8000 in
theorem sX12_of_190 : Site RX12 mX12_of 190 193 mX12_dear (some 12) 3 := site_V (dk DX12_of_1 20 rfl) KX12 (tg_of 1389 (by decide +kernel) rfl) (tg_of 1391 (by decide +kernel) rfl) (tg_of 45 (by decide +kernel) rfl) (tg_of 80 (by decide +kernel) rfl) kX12_dear ⟨by decide +kernel, by decide +kernel, by decide +kernel⟩ (by decide)
set_option maxRecDepth 8000 in
theorem sX12_told_6 : Site RX12 mX12_told 6 9 mX12_in (some 12) 4 := site_V (dk DX12_told 4 rfl) KX12 (tg_of 1249 (by decide +kernel) rfl) (tg_of 1251 (by decide +kernel) rfl) (tg_of 17 (by decide +kernel) rfl) (tg_of 80 (by decide +kernel) rfl) kX12_in ⟨by decide +kernel, by decide +kernel, by decide +kernel⟩ (by decide)
set_option maxRecDepth 8000 in
theorem sX12_told_64 : Site RX12 mX12_told 64 67 mX12_lastOf (some 12) 3 := site_V (dk DX12_told 18 rfl) KX12 (tg_of 1397 (by decide +kernel) rfl) (tg_of 1399 (by decide +kernel) rfl) (tg_of 46 (by decide +kernel) rfl) (tg_of 80 (by decide +kernel) rfl) kX12_lastOf ⟨by decide +kernel, by decide +kernel, by decide +kernel⟩ (by decide)
set_option maxRecDepth 8000 in
theorem sX12_told_71 : Site RX12 mX12_told 71 74 mX12_lastOf (some 12) 3 := site_V (dk DX12_told 23 rfl) KX12 (tg_of 1397 (by decide +kernel) rfl) (tg_of 1399 (by decide +kernel) rfl) (tg_of 46 (by decide +kernel) rfl) (tg_of 80 (by decide +kernel) rfl) kX12_lastOf ⟨by decide +kernel, by decide +kernel, by decide +kernel⟩ (by decide)
set_option maxRecDepth 8000 in
theorem sX12_said_2 : Site RX12 mX12_said 2 5 mX12_isDoing (some 12) 2 := site_V (dk DX12_said 2 rfl) KX12 (tg_of 1261 (by decide +kernel) rfl) (tg_of 1263 (by decide +kernel) rfl) (tg_of 19 (by decide +kernel) rfl) (tg_of 80 (by decide +kernel) rfl) kX12_isDoing ⟨by decide +kernel, by decide +kernel, by decide +kernel⟩ (by decide)
set_option maxRecDepth 8000 in
theorem sX12_said_10 : Site RX12 mX12_said 10 13 mX12_isWay (some 12) 2 := site_V (dk DX12_said 6 rfl) KX12 (tg_of 1281 (by decide +kernel) rfl) (tg_of 1283 (by decide +kernel) rfl) (tg_of 21 (by decide +kernel) rfl) (tg_of 80 (by decide +kernel) rfl) kX12_isWay ⟨by decide +kernel, by decide +kernel, by decide +kernel⟩ (by decide)
set_option maxRecDepth 8000 in
theorem sX12_said_21 : Site RX12 mX12_said 21 24 mX12_sumOf (some 12) 5 := site_V (dk DX12_said 13 rfl) KX12 (tg_of 1361 (by decide +kernel) rfl) (tg_of 1363 (by decide +kernel) rfl) (tg_of 38 (by decide +kernel) rfl) (tg_of 80 (by decide +kernel) rfl) kX12_sumOf ⟨by decide +kernel, by decide +kernel, by decide +kernel⟩ (by decide)
set_option maxRecDepth 8000 in
theorem sX12_hand_1 : Site RX12 mX12_hand 1 4 mX12_laySaid (some 12) 1 := site_V (dk DX12_hand 1 rfl) KX12 (tg_of 1357 (by decide +kernel) rfl) (tg_of 1359 (by decide +kernel) rfl) (tg_of 37 (by decide +kernel) rfl) (tg_of 80 (by decide +kernel) rfl) kX12_laySaid ⟨by decide +kernel, by decide +kernel, by decide +kernel⟩ (by decide)
set_option maxRecDepth 8000 in
theorem sX12_hand_9 : Site RX12 mX12_hand 9 12 mX12_ones (some 12) 2 := site_V (dk DX12_hand 5 rfl) KX12 (tg_of 1409 (by decide +kernel) rfl) (tg_of 1411 (by decide +kernel) rfl) (tg_of 47 (by decide +kernel) rfl) (tg_of 80 (by decide +kernel) rfl) kX12_ones ⟨by decide +kernel, by decide +kernel, by decide +kernel⟩ (by decide)
set_option maxRecDepth 8000 in
theorem sX12_hand_19 : Site RX12 mX12_hand 19 22 mX12_over (some 12) 1 := site_V (dk DX12_hand 11 rfl) KX12 (tg_of 1413 (by decide +kernel) rfl) (tg_of 1415 (by decide +kernel) rfl) (tg_of 48 (by decide +kernel) rfl) (tg_of 80 (by decide +kernel) rfl) kX12_over ⟨by decide +kernel, by decide +kernel, by decide +kernel⟩ (by decide)
set_option maxRecDepth 8000 in
theorem sX12_hand_31 : Site RX12 mX12_hand 31 34 mX12_ones (some 12) 2 := site_V (dk DX12_hand 17 rfl) KX12 (tg_of 1409 (by decide +kernel) rfl) (tg_of 1411 (by decide +kernel) rfl) (tg_of 47 (by decide +kernel) rfl) (tg_of 80 (by decide +kernel) rfl) kX12_ones ⟨by decide +kernel, by decide +kernel, by decide +kernel⟩ (by decide)
set_option maxRecDepth 8000 in
theorem sX12_goWeek_18 : Site RX12 mX12_goWeek 18 21 mX12_comes (some 12) 3 := site_V (dk DX12_goWeek_0 11 rfl) KX12 (tg_of 1433 (by decide +kernel) rfl) (tg_of 1435 (by decide +kernel) rfl) (tg_of 52 (by decide +kernel) rfl) (tg_of 80 (by decide +kernel) rfl) kX12_comes ⟨by decide +kernel, by decide +kernel, by decide +kernel⟩ (by decide)
set_option maxRecDepth 8000 in
theorem sX12_goWeek_34 : Site RX12 mX12_goWeek 34 37 mX12_has (some 12) 3 := site_V (dk DX12_goWeek_0 18 rfl) KX12 (tg_of 1265 (by decide +kernel) rfl) (tg_of 1267 (by decide +kernel) rfl) (tg_of 20 (by decide +kernel) rfl) (tg_of 80 (by decide +kernel) rfl) kX12_has ⟨by decide +kernel, by decide +kernel, by decide +kernel⟩ (by decide)
set_option maxRecDepth 8000 in
theorem sX12_goWeek_52 : Site RX12 mX12_goWeek 52 55 mX12_has (some 12) 3 := site_V (dk DX12_goWeek_0 27 rfl) KX12 (tg_of 1265 (by decide +kernel) rfl) (tg_of 1267 (by decide +kernel) rfl) (tg_of 20 (by decide +kernel) rfl) (tg_of 80 (by decide +kernel) rfl) kX12_has ⟨by decide +kernel, by decide +kernel, by decide +kernel⟩ (by decide)
set_option maxRecDepth 8000 in
theorem sX12_goWeek_77 : Site RX12 mX12_goWeek 77 80 mX12_has (some 12) 3 := site_V (dk DX12_goWeek_0 39 rfl) KX12 (tg_of 1265 (by decide +kernel) rfl) (tg_of 1267 (by decide +kernel) rfl) (tg_of 20 (by decide +kernel) rfl) (tg_of 80 (by decide +kernel) rfl) kX12_has ⟨by decide +kernel, by decide +kernel, by decide +kernel⟩ (by decide)
set_option maxRecDepth 8000 in
theorem sX12_goWeek_196 : Site RX12 mX12_goWeek 196 199 mX12_with (some 12) 4 := site_V (dk DX12_goWeek_1 45 rfl) KX12 (tg_of 1253 (by decide +kernel) rfl) (tg_of 1255 (by decide +kernel) rfl) (tg_of 18 (by decide +kernel) rfl) (tg_of 80 (by decide +kernel) rfl) kX12_with ⟨by decide +kernel, by decide +kernel, by decide +kernel⟩ (by decide)
set_option maxRecDepth 8000 in
theorem sX12_goWeek_214 : Site RX12 mX12_goWeek 214 217 mX12_dear (some 12) 3 := site_V (dk DX12_goWeek_1 54 rfl) KX12 (tg_of 1389 (by decide +kernel) rfl) (tg_of 1391 (by decide +kernel) rfl) (tg_of 45 (by decide +kernel) rfl) (tg_of 80 (by decide +kernel) rfl) kX12_dear ⟨by decide +kernel, by decide +kernel, by decide +kernel⟩ (by decide)
set_option maxRecDepth 8000 in
theorem sX12_goWeek_232 : Site RX12 mX12_goWeek 232 235 mX12_learnsBy (some 12) 2 := site_V (dk DX12_goWeek_2 4 rfl) KX12 (tg_of 1437 (by decide +kernel) rfl) (tg_of 1439 (by decide +kernel) rfl) (tg_of 53 (by decide +kernel) rfl) (tg_of 80 (by decide +kernel) rfl) kX12_learnsBy ⟨by decide +kernel, by decide +kernel, by decide +kernel⟩ (by decide)
set_option maxRecDepth 8000 in
theorem sX12_goWeek_235 : Site RX12 mX12_goWeek 235 238 mX12_with (some 12) 4 := site_V (dk DX12_goWeek_2 5 rfl) KX12 (tg_of 1253 (by decide +kernel) rfl) (tg_of 1255 (by decide +kernel) rfl) (tg_of 18 (by decide +kernel) rfl) (tg_of 80 (by decide +kernel) rfl) kX12_with ⟨by decide +kernel, by decide +kernel, by decide +kernel⟩ (by decide)
set_option maxRecDepth 8000 in
theorem sX12_goWeeks_4 : Site RX12 mX12_goWeeks 4 7 mX12_lastOf (some 12) 3 := site_V (dk DX12_goWeeks 3 rfl) KX12 (tg_of 1397 (by decide +kernel) rfl) (tg_of 1399 (by decide +kernel) rfl) (tg_of 46 (by decide +kernel) rfl) (tg_of 80 (by decide +kernel) rfl) kX12_lastOf ⟨by decide +kernel, by decide +kernel, by decide +kernel⟩ (by decide)
set_option maxRecDepth 8000 in
theorem sX12_goWeeks_11 : Site RX12 mX12_goWeeks 11 14 mX12_lastOf (some 12) 3 := site_V (dk DX12_goWeeks 8 rfl) KX12 (tg_of 1397 (by decide +kernel) rfl) (tg_of 1399 (by decide +kernel) rfl) (tg_of 46 (by decide +kernel) rfl) (tg_of 80 (by decide +kernel) rfl) kX12_lastOf ⟨by decide +kernel, by decide +kernel, by decide +kernel⟩ (by decide)
set_option maxRecDepth 8000 in
theorem sX12_goWeeks_41 : Site RX12 mX12_goWeeks 41 44 mX12_goWeek (some 12) 3 := site_V (dk DX12_goWeeks 26 rfl) KX12 (tg_of 1429 (by decide +kernel) rfl) (tg_of 1431 (by decide +kernel) rfl) (tg_of 51 (by decide +kernel) rfl) (tg_of 80 (by decide +kernel) rfl) kX12_goWeek ⟨by decide +kernel, by decide +kernel, by decide +kernel⟩ (by decide)
set_option maxRecDepth 8000 in
theorem sX12_costBy_3 : Site RX12 mX12_costBy 3 6 mX12_begins (some 12) 3 := site_V (dk DX12_costBy 3 rfl) KX12 (tg_of 1421 (by decide +kernel) rfl) (tg_of 1423 (by decide +kernel) rfl) (tg_of 49 (by decide +kernel) rfl) (tg_of 80 (by decide +kernel) rfl) kX12_begins ⟨by decide +kernel, by decide +kernel, by decide +kernel⟩ (by decide)
set_option maxRecDepth 8000 in
theorem sX12_costBy_8 : Site RX12 mX12_costBy 8 11 mX12_goWeeks (some 12) 2 := site_V (dk DX12_costBy 6 rfl) KX12 (tg_of 1425 (by decide +kernel) rfl) (tg_of 1427 (by decide +kernel) rfl) (tg_of 50 (by decide +kernel) rfl) (tg_of 80 (by decide +kernel) rfl) kX12_goWeeks ⟨by decide +kernel, by decide +kernel, by decide +kernel⟩ (by decide)
set_option maxRecDepth 8000 in
theorem sX12_go_5 : Site RX12 mX12_go 5 8 mX12_in (some 12) 4 := site_V (dk DX12_go 4 rfl) KX12 (tg_of 1249 (by decide +kernel) rfl) (tg_of 1251 (by decide +kernel) rfl) (tg_of 17 (by decide +kernel) rfl) (tg_of 80 (by decide +kernel) rfl) kX12_in ⟨by decide +kernel, by decide +kernel, by decide +kernel⟩ (by decide)
set_option maxRecDepth 8000 in
theorem sX12_go_38 : Site RX12 mX12_go 38 41 mX12_begins (some 12) 3 := site_V (dk DX12_go 21 rfl) KX12 (tg_of 1421 (by decide +kernel) rfl) (tg_of 1423 (by decide +kernel) rfl) (tg_of 49 (by decide +kernel) rfl) (tg_of 80 (by decide +kernel) rfl) kX12_begins ⟨by decide +kernel, by decide +kernel, by decide +kernel⟩ (by decide)
set_option maxRecDepth 8000 in
theorem sX12_go_43 : Site RX12 mX12_go 43 46 mX12_goWeeks (some 12) 2 := site_V (dk DX12_go 24 rfl) KX12 (tg_of 1425 (by decide +kernel) rfl) (tg_of 1427 (by decide +kernel) rfl) (tg_of 50 (by decide +kernel) rfl) (tg_of 80 (by decide +kernel) rfl) kX12_goWeeks ⟨by decide +kernel, by decide +kernel, by decide +kernel⟩ (by decide)
set_option maxRecDepth 8000 in
theorem sX12_run_4 : Site RX12 mX12_run 4 7 mX12_in (some 12) 4 := site_V (dk DX12_run 4 rfl) KX12 (tg_of 1249 (by decide +kernel) rfl) (tg_of 1251 (by decide +kernel) rfl) (tg_of 17 (by decide +kernel) rfl) (tg_of 80 (by decide +kernel) rfl) kX12_in ⟨by decide +kernel, by decide +kernel, by decide +kernel⟩ (by decide)
set_option maxRecDepth 8000 in
theorem sX12_run_20 : Site RX12 mX12_run 20 23 mX12_in (some 12) 4 := site_V (dk DX12_run 12 rfl) KX12 (tg_of 1249 (by decide +kernel) rfl) (tg_of 1251 (by decide +kernel) rfl) (tg_of 17 (by decide +kernel) rfl) (tg_of 80 (by decide +kernel) rfl) kX12_in ⟨by decide +kernel, by decide +kernel, by decide +kernel⟩ (by decide)
set_option maxRecDepth 8000 in
theorem sX12_run_39 : Site RX12 mX12_run 39 42 mX12_begins (some 12) 3 := site_V (dk DX12_run 21 rfl) KX12 (tg_of 1421 (by decide +kernel) rfl) (tg_of 1423 (by decide +kernel) rfl) (tg_of 49 (by decide +kernel) rfl) (tg_of 80 (by decide +kernel) rfl) kX12_begins ⟨by decide +kernel, by decide +kernel, by decide +kernel⟩ (by decide)
set_option maxRecDepth 8000 in
theorem sX12_run_44 : Site RX12 mX12_run 44 47 mX12_goWeeks (some 12) 2 := site_V (dk DX12_run 24 rfl) KX12 (tg_of 1425 (by decide +kernel) rfl) (tg_of 1427 (by decide +kernel) rfl) (tg_of 50 (by decide +kernel) rfl) (tg_of 80 (by decide +kernel) rfl) kX12_goWeeks ⟨by decide +kernel, by decide +kernel, by decide +kernel⟩ (by decide)
set_option maxRecDepth 8000 in
theorem sX12_run_104 : Site RX12 mX12_run 104 107 mX12_ones (some 12) 2 := site_V (dk DX12_run 39 rfl) KX12 (tg_of 1409 (by decide +kernel) rfl) (tg_of 1411 (by decide +kernel) rfl) (tg_of 47 (by decide +kernel) rfl) (tg_of 80 (by decide +kernel) rfl) kX12_ones ⟨by decide +kernel, by decide +kernel, by decide +kernel⟩ (by decide)
set_option maxRecDepth 8000 in
theorem sX12_costHanded_6 : Site RX12 mX12_costHanded 6 9 mX12_over (some 12) 1 := site_V (dk DX12_costHanded 4 rfl) KX12 (tg_of 1413 (by decide +kernel) rfl) (tg_of 1415 (by decide +kernel) rfl) (tg_of 48 (by decide +kernel) rfl) (tg_of 80 (by decide +kernel) rfl) kX12_over ⟨by decide +kernel, by decide +kernel, by decide +kernel⟩ (by decide)
set_option maxRecDepth 8000 in
theorem sX12_costHanded_15 : Site RX12 mX12_costHanded 15 18 mX12_costBy (some 12) 4 := site_V (dk DX12_costHanded 9 rfl) KX12 (tg_of 1457 (by decide +kernel) rfl) (tg_of 1459 (by decide +kernel) rfl) (tg_of 56 (by decide +kernel) rfl) (tg_of 80 (by decide +kernel) rfl) kX12_costBy ⟨by decide +kernel, by decide +kernel, by decide +kernel⟩ (by decide)
set_option maxRecDepth 8000 in
theorem sX12_split_4 : Site RX12 mX12_split 4 7 mX12_in (some 12) 4 := site_V (dk DX12_split_0 4 rfl) KX12 (tg_of 1249 (by decide +kernel) rfl) (tg_of 1251 (by decide +kernel) rfl) (tg_of 17 (by decide +kernel) rfl) (tg_of 80 (by decide +kernel) rfl) kX12_in ⟨by decide +kernel, by decide +kernel, by decide +kernel⟩ (by decide)
set_option maxRecDepth 8000 in
theorem sX12_split_19 : Site RX12 mX12_split 19 22 mX12_in (some 12) 4 := site_V (dk DX12_split_0 12 rfl) KX12 (tg_of 1249 (by decide +kernel) rfl) (tg_of 1251 (by decide +kernel) rfl) (tg_of 17 (by decide +kernel) rfl) (tg_of 80 (by decide +kernel) rfl) kX12_in ⟨by decide +kernel, by decide +kernel, by decide +kernel⟩ (by decide)
set_option maxRecDepth 8000 in
theorem sX12_split_30 : Site RX12 mX12_split 30 33 mX12_in (some 12) 4 := site_V (dk DX12_split_0 18 rfl) KX12 (tg_of 1249 (by decide +kernel) rfl) (tg_of 1251 (by decide +kernel) rfl) (tg_of 17 (by decide +kernel) rfl) (tg_of 80 (by decide +kernel) rfl) kX12_in ⟨by decide +kernel, by decide +kernel, by decide +kernel⟩ (by decide)
set_option maxRecDepth 8000 in
theorem sX12_split_41 : Site RX12 mX12_split 41 44 mX12_laySaid (some 12) 1 := site_V (dk DX12_split_0 23 rfl) KX12 (tg_of 1357 (by decide +kernel) rfl) (tg_of 1359 (by decide +kernel) rfl) (tg_of 37 (by decide +kernel) rfl) (tg_of 80 (by decide +kernel) rfl) kX12_laySaid ⟨by decide +kernel, by decide +kernel, by decide +kernel⟩ (by decide)
set_option maxRecDepth 8000 in
theorem sX12_split_45 : Site RX12 mX12_split 45 48 mX12_keepHours (some 12) 1 := site_V (dk DX12_split_0 25 rfl) KX12 (tg_of 1449 (by decide +kernel) rfl) (tg_of 1451 (by decide +kernel) rfl) (tg_of 54 (by decide +kernel) rfl) (tg_of 80 (by decide +kernel) rfl) kX12_keepHours ⟨by decide +kernel, by decide +kernel, by decide +kernel⟩ (by decide)
set_option maxRecDepth 8000 in
theorem sX12_split_141 : Site RX12 mX12_split 141 144 mX12_costHanded (some 12) 2 := site_V (dk DX12_split_1 23 rfl) KX12 (tg_of 1453 (by decide +kernel) rfl) (tg_of 1455 (by decide +kernel) rfl) (tg_of 55 (by decide +kernel) rfl) (tg_of 80 (by decide +kernel) rfl) kX12_costHanded ⟨by decide +kernel, by decide +kernel, by decide +kernel⟩ (by decide)
set_option maxRecDepth 8000 in
theorem sX12_split_201 : Site RX12 mX12_split 201 204 mX12_putHours (some 12) 1 := site_V (dk DX12_split_1 51 rfl) KX12 (tg_of 1461 (by decide +kernel) rfl) (tg_of 1463 (by decide +kernel) rfl) (tg_of 57 (by decide +kernel) rfl) (tg_of 80 (by decide +kernel) rfl) kX12_putHours ⟨by decide +kernel, by decide +kernel, by decide +kernel⟩ (by decide)
set_option maxRecDepth 8000 in
theorem sX12_more_2 : Site RX12 mX12_more 2 5 mX12_isWay (some 12) 2 := site_V (dk DX12_more 2 rfl) KX12 (tg_of 1281 (by decide +kernel) rfl) (tg_of 1283 (by decide +kernel) rfl) (tg_of 21 (by decide +kernel) rfl) (tg_of 80 (by decide +kernel) rfl) kX12_isWay ⟨by decide +kernel, by decide +kernel, by decide +kernel⟩ (by decide)
set_option maxRecDepth 8000 in
theorem sX12_more_17 : Site RX12 mX12_more 17 20 mX12_in (some 12) 4 := site_V (dk DX12_more 10 rfl) KX12 (tg_of 1249 (by decide +kernel) rfl) (tg_of 1251 (by decide +kernel) rfl) (tg_of 17 (by decide +kernel) rfl) (tg_of 80 (by decide +kernel) rfl) kX12_in ⟨by decide +kernel, by decide +kernel, by decide +kernel⟩ (by decide)
set_option maxRecDepth 8000 in
theorem sX12_more_41 : Site RX12 mX12_more 41 44 mX12_laySaid (some 12) 1 := site_V (dk DX12_more 23 rfl) KX12 (tg_of 1357 (by decide +kernel) rfl) (tg_of 1359 (by decide +kernel) rfl) (tg_of 37 (by decide +kernel) rfl) (tg_of 80 (by decide +kernel) rfl) kX12_laySaid ⟨by decide +kernel, by decide +kernel, by decide +kernel⟩ (by decide)
set_option maxRecDepth 8000 in
theorem sX12_more_46 : Site RX12 mX12_more 46 49 mX12_costHanded (some 12) 2 := site_V (dk DX12_more 26 rfl) KX12 (tg_of 1453 (by decide +kernel) rfl) (tg_of 1455 (by decide +kernel) rfl) (tg_of 55 (by decide +kernel) rfl) (tg_of 80 (by decide +kernel) rfl) kX12_costHanded ⟨by decide +kernel, by decide +kernel, by decide +kernel⟩ (by decide)
set_option maxRecDepth 8000 in
theorem sX12_more_62 : Site RX12 mX12_more 62 65 mX12_costHanded (some 12) 2 := site_V (dk DX12_more 38 rfl) KX12 (tg_of 1453 (by decide +kernel) rfl) (tg_of 1455 (by decide +kernel) rfl) (tg_of 55 (by decide +kernel) rfl) (tg_of 80 (by decide +kernel) rfl) kX12_costHanded ⟨by decide +kernel, by decide +kernel, by decide +kernel⟩ (by decide)
set_option maxRecDepth 8000 in
theorem sX12_ask_5 : Site RX12 mX12_ask 5 8 mX12_in (some 12) 4 := site_V (dk DX12_ask 4 rfl) KX12 (tg_of 1249 (by decide +kernel) rfl) (tg_of 1251 (by decide +kernel) rfl) (tg_of 17 (by decide +kernel) rfl) (tg_of 80 (by decide +kernel) rfl) kX12_in ⟨by decide +kernel, by decide +kernel, by decide +kernel⟩ (by decide)
set_option maxRecDepth 8000 in
theorem sX12_ask_38 : Site RX12 mX12_ask 38 41 mX12_has (some 12) 3 := site_V (dk DX12_ask 22 rfl) KX12 (tg_of 1265 (by decide +kernel) rfl) (tg_of 1267 (by decide +kernel) rfl) (tg_of 20 (by decide +kernel) rfl) (tg_of 80 (by decide +kernel) rfl) kX12_has ⟨by decide +kernel, by decide +kernel, by decide +kernel⟩ (by decide)
set_option maxRecDepth 8000 in
theorem sX12_ask_56 : Site RX12 mX12_ask 56 59 mX12_with (some 12) 4 := site_V (dk DX12_ask 31 rfl) KX12 (tg_of 1253 (by decide +kernel) rfl) (tg_of 1255 (by decide +kernel) rfl) (tg_of 18 (by decide +kernel) rfl) (tg_of 80 (by decide +kernel) rfl) kX12_with ⟨by decide +kernel, by decide +kernel, by decide +kernel⟩ (by decide)
set_option maxRecDepth 8000 in
theorem sX12_ask_64 : Site RX12 mX12_ask 64 67 mX12_costBy (some 12) 4 := site_V (dk DX12_ask 35 rfl) KX12 (tg_of 1457 (by decide +kernel) rfl) (tg_of 1459 (by decide +kernel) rfl) (tg_of 56 (by decide +kernel) rfl) (tg_of 80 (by decide +kernel) rfl) kX12_costBy ⟨by decide +kernel, by decide +kernel, by decide +kernel⟩ (by decide)
set_option maxRecDepth 8000 in
theorem sX12_drop_5 : Site RX12 mX12_drop 5 8 mX12_in (some 12) 4 := site_V (dk DX12_drop 4 rfl) KX12 (tg_of 1249 (by decide +kernel) rfl) (tg_of 1251 (by decide +kernel) rfl) (tg_of 17 (by decide +kernel) rfl) (tg_of 80 (by decide +kernel) rfl) kX12_in ⟨by decide +kernel, by decide +kernel, by decide +kernel⟩ (by decide)
set_option maxRecDepth 8000 in
theorem sX12_drop_38 : Site RX12 mX12_drop 38 41 mX12_has (some 12) 3 := site_V (dk DX12_drop 22 rfl) KX12 (tg_of 1265 (by decide +kernel) rfl) (tg_of 1267 (by decide +kernel) rfl) (tg_of 20 (by decide +kernel) rfl) (tg_of 80 (by decide +kernel) rfl) kX12_has ⟨by decide +kernel, by decide +kernel, by decide +kernel⟩ (by decide)
set_option maxRecDepth 8000 in
theorem sX12_drop_60 : Site RX12 mX12_drop 60 63 mX12_with (some 12) 4 := site_V (dk DX12_drop 33 rfl) KX12 (tg_of 1253 (by decide +kernel) rfl) (tg_of 1255 (by decide +kernel) rfl) (tg_of 18 (by decide +kernel) rfl) (tg_of 80 (by decide +kernel) rfl) kX12_with ⟨by decide +kernel, by decide +kernel, by decide +kernel⟩ (by decide)
set_option maxRecDepth 8000 in
theorem sX12_drop_64 : Site RX12 mX12_drop 64 67 mX12_costBy (some 12) 4 := site_V (dk DX12_drop 35 rfl) KX12 (tg_of 1457 (by decide +kernel) rfl) (tg_of 1459 (by decide +kernel) rfl) (tg_of 56 (by decide +kernel) rfl) (tg_of 80 (by decide +kernel) rfl) kX12_costBy ⟨by decide +kernel, by decide +kernel, by decide +kernel⟩ (by decide)
set_option maxRecDepth 8000 in
theorem sX12_when_2 : Site RX12 mX12_when 2 5 mX12_isDoing (some 12) 2 := site_V (dk DX12_when 2 rfl) KX12 (tg_of 1261 (by decide +kernel) rfl) (tg_of 1263 (by decide +kernel) rfl) (tg_of 19 (by decide +kernel) rfl) (tg_of 80 (by decide +kernel) rfl) kX12_isDoing ⟨by decide +kernel, by decide +kernel, by decide +kernel⟩ (by decide)
set_option maxRecDepth 8000 in
theorem sX12_when_18 : Site RX12 mX12_when 18 21 mX12_comes (some 12) 3 := site_V (dk DX12_when 12 rfl) KX12 (tg_of 1433 (by decide +kernel) rfl) (tg_of 1435 (by decide +kernel) rfl) (tg_of 52 (by decide +kernel) rfl) (tg_of 80 (by decide +kernel) rfl) kX12_comes ⟨by decide +kernel, by decide +kernel, by decide +kernel⟩ (by decide)
set_option maxRecDepth 8000 in
theorem sX12_manyIn_16 : Site RX12 mX12_manyIn 16 19 mX12_comes (some 12) 3 := site_V (dk DX12_manyIn 12 rfl) KX12 (tg_of 1433 (by decide +kernel) rfl) (tg_of 1435 (by decide +kernel) rfl) (tg_of 52 (by decide +kernel) rfl) (tg_of 80 (by decide +kernel) rfl) kX12_comes ⟨by decide +kernel, by decide +kernel, by decide +kernel⟩ (by decide)
set_option maxRecDepth 8000 in
theorem sX12_busiest_4 : Site RX12 mX12_busiest 4 7 mX12_in (some 12) 4 := site_V (dk DX12_busiest 4 rfl) KX12 (tg_of 1249 (by decide +kernel) rfl) (tg_of 1251 (by decide +kernel) rfl) (tg_of 17 (by decide +kernel) rfl) (tg_of 80 (by decide +kernel) rfl) kX12_in ⟨by decide +kernel, by decide +kernel, by decide +kernel⟩ (by decide)
set_option maxRecDepth 8000 in
theorem sX12_busiest_18 : Site RX12 mX12_busiest 18 21 mX12_in (some 12) 4 := site_V (dk DX12_busiest 12 rfl) KX12 (tg_of 1249 (by decide +kernel) rfl) (tg_of 1251 (by decide +kernel) rfl) (tg_of 17 (by decide +kernel) rfl) (tg_of 80 (by decide +kernel) rfl) kX12_in ⟨by decide +kernel, by decide +kernel, by decide +kernel⟩ (by decide)
set_option maxRecDepth 8000 in
theorem sX12_busiest_54 : Site RX12 mX12_busiest 54 57 mX12_manyIn (some 12) 2 := site_V (dk DX12_busiest 32 rfl) KX12 (tg_of 1485 (by decide +kernel) rfl) (tg_of 1487 (by decide +kernel) rfl) (tg_of 58 (by decide +kernel) rfl) (tg_of 80 (by decide +kernel) rfl) kX12_manyIn ⟨by decide +kernel, by decide +kernel, by decide +kernel⟩ (by decide)
set_option maxRecDepth 8000 in
theorem sX12_busiest_59 : Site RX12 mX12_busiest 59 62 mX12_manyIn (some 12) 2 := site_V (dk DX12_busiest 35 rfl) KX12 (tg_of 1485 (by decide +kernel) rfl) (tg_of 1487 (by decide +kernel) rfl) (tg_of 58 (by decide +kernel) rfl) (tg_of 80 (by decide +kernel) rfl) kX12_manyIn ⟨by decide +kernel, by decide +kernel, by decide +kernel⟩ (by decide)
set_option maxRecDepth 8000 in
theorem sX12_busiest_88 : Site RX12 mX12_busiest 88 91 mX12_manyIn (some 12) 2 := site_V (dk DX12_busiest 49 rfl) KX12 (tg_of 1485 (by decide +kernel) rfl) (tg_of 1487 (by decide +kernel) rfl) (tg_of 58 (by decide +kernel) rfl) (tg_of 80 (by decide +kernel) rfl) kX12_manyIn ⟨by decide +kernel, by decide +kernel, by decide +kernel⟩ (by decide)
set_option maxRecDepth 8000 in
theorem sX12_allCome_13 : Site RX12 mX12_allCome 13 16 mX12_has (some 12) 3 := site_V (dk DX12_allCome 9 rfl) KX12 (tg_of 1265 (by decide +kernel) rfl) (tg_of 1267 (by decide +kernel) rfl) (tg_of 20 (by decide +kernel) rfl) (tg_of 80 (by decide +kernel) rfl) kX12_has ⟨by decide +kernel, by decide +kernel, by decide +kernel⟩ (by decide)
set_option maxRecDepth 8000 in
theorem sX12_allCome_22 : Site RX12 mX12_allCome 22 25 mX12_comes (some 12) 3 := site_V (dk DX12_allCome 14 rfl) KX12 (tg_of 1433 (by decide +kernel) rfl) (tg_of 1435 (by decide +kernel) rfl) (tg_of 52 (by decide +kernel) rfl) (tg_of 80 (by decide +kernel) rfl) kX12_comes ⟨by decide +kernel, by decide +kernel, by decide +kernel⟩ (by decide)
set_option maxRecDepth 8000 in
theorem sX12_all_11 : Site RX12 mX12_all 11 14 mX12_in (some 12) 4 := site_V (dk DX12_all 9 rfl) KX12 (tg_of 1249 (by decide +kernel) rfl) (tg_of 1251 (by decide +kernel) rfl) (tg_of 17 (by decide +kernel) rfl) (tg_of 80 (by decide +kernel) rfl) kX12_in ⟨by decide +kernel, by decide +kernel, by decide +kernel⟩ (by decide)
set_option maxRecDepth 8000 in
theorem sX12_all_37 : Site RX12 mX12_all 37 40 mX12_allCome (some 12) 3 := site_V (dk DX12_all 24 rfl) KX12 (tg_of 1493 (by decide +kernel) rfl) (tg_of 1495 (by decide +kernel) rfl) (tg_of 59 (by decide +kernel) rfl) (tg_of 80 (by decide +kernel) rfl) kX12_allCome ⟨by decide +kernel, by decide +kernel, by decide +kernel⟩ (by decide)
set_option maxRecDepth 8000 in
theorem sX12_list_17 : Site RX12 mX12_list 17 20 mX12_in (some 12) 4 := site_V (dk DX12_list 12 rfl) KX12 (tg_of 1249 (by decide +kernel) rfl) (tg_of 1251 (by decide +kernel) rfl) (tg_of 17 (by decide +kernel) rfl) (tg_of 80 (by decide +kernel) rfl) kX12_in ⟨by decide +kernel, by decide +kernel, by decide +kernel⟩ (by decide)
set_option maxRecDepth 8000 in
theorem sX12_list_28 : Site RX12 mX12_list 28 31 mX12_isDoing (some 12) 2 := site_V (dk DX12_list 18 rfl) KX12 (tg_of 1261 (by decide +kernel) rfl) (tg_of 1263 (by decide +kernel) rfl) (tg_of 19 (by decide +kernel) rfl) (tg_of 80 (by decide +kernel) rfl) kX12_isDoing ⟨by decide +kernel, by decide +kernel, by decide +kernel⟩ (by decide)
set_option maxRecDepth 8000 in
theorem sX12_firstOff_28 : Site RX12 mX12_firstOff 28 31 mX12_begins (some 12) 3 := site_V (dk DX12_firstOff 16 rfl) KX12 (tg_of 1421 (by decide +kernel) rfl) (tg_of 1423 (by decide +kernel) rfl) (tg_of 49 (by decide +kernel) rfl) (tg_of 80 (by decide +kernel) rfl) kX12_begins ⟨by decide +kernel, by decide +kernel, by decide +kernel⟩ (by decide)
set_option maxRecDepth 8000 in
theorem sX12_firstOff_34 : Site RX12 mX12_firstOff 34 37 mX12_goWeeks (some 12) 2 := site_V (dk DX12_firstOff 19 rfl) KX12 (tg_of 1425 (by decide +kernel) rfl) (tg_of 1427 (by decide +kernel) rfl) (tg_of 50 (by decide +kernel) rfl) (tg_of 80 (by decide +kernel) rfl) kX12_goWeeks ⟨by decide +kernel, by decide +kernel, by decide +kernel⟩ (by decide)
set_option maxRecDepth 8000 in
theorem sX12_looked_5 : Site RX12 mX12_looked 5 8 mX12_firstOff (some 12) 2 := site_V (dk DX12_looked 3 rfl) KX12 (tg_of 1505 (by decide +kernel) rfl) (tg_of 1507 (by decide +kernel) rfl) (tg_of 60 (by decide +kernel) rfl) (tg_of 80 (by decide +kernel) rfl) kX12_firstOff ⟨by decide +kernel, by decide +kernel, by decide +kernel⟩ (by decide)
set_option maxRecDepth 8000 in
theorem sX12_fits_29 : Site RX12 mX12_fits 29 32 mX12_firstOff (some 12) 2 := site_V (dk DX12_fits 19 rfl) KX12 (tg_of 1505 (by decide +kernel) rfl) (tg_of 1507 (by decide +kernel) rfl) (tg_of 60 (by decide +kernel) rfl) (tg_of 80 (by decide +kernel) rfl) kX12_firstOff ⟨by decide +kernel, by decide +kernel, by decide +kernel⟩ (by decide)
set_option maxRecDepth 8000 in
theorem sX12_comesIn_18 : Site RX12 mX12_comesIn 18 21 mX12_comes (some 12) 3 := site_V (dk DX12_comesIn 12 rfl) KX12 (tg_of 1433 (by decide +kernel) rfl) (tg_of 1435 (by decide +kernel) rfl) (tg_of 52 (by decide +kernel) rfl) (tg_of 80 (by decide +kernel) rfl) kX12_comes ⟨by decide +kernel, by decide +kernel, by decide +kernel⟩ (by decide)
set_option maxRecDepth 8000 in
theorem sX12_chance_5 : Site RX12 mX12_chance 5 8 mX12_in (some 12) 4 := site_V (dk DX12_chance_0 4 rfl) KX12 (tg_of 1249 (by decide +kernel) rfl) (tg_of 1251 (by decide +kernel) rfl) (tg_of 17 (by decide +kernel) rfl) (tg_of 80 (by decide +kernel) rfl) kX12_in ⟨by decide +kernel, by decide +kernel, by decide +kernel⟩ (by decide)
set_option maxRecDepth 8000 in
theorem sX12_chance_15 : Site RX12 mX12_chance 15 18 mX12_in (some 12) 4 := site_V (dk DX12_chance_0 10 rfl) KX12 (tg_of 1249 (by decide +kernel) rfl) (tg_of 1251 (by decide +kernel) rfl) (tg_of 17 (by decide +kernel) rfl) (tg_of 80 (by decide +kernel) rfl) kX12_in ⟨by decide +kernel, by decide +kernel, by decide +kernel⟩ (by decide)
set_option maxRecDepth 8000 in
theorem sX12_chance_49 : Site RX12 mX12_chance 49 52 mX12_has (some 12) 3 := site_V (dk DX12_chance_0 28 rfl) KX12 (tg_of 1265 (by decide +kernel) rfl) (tg_of 1267 (by decide +kernel) rfl) (tg_of 20 (by decide +kernel) rfl) (tg_of 80 (by decide +kernel) rfl) kX12_has ⟨by decide +kernel, by decide +kernel, by decide +kernel⟩ (by decide)
set_option maxRecDepth 8000 in
theorem sX12_chance_59 : Site RX12 mX12_chance 59 62 mX12_comesIn (some 12) 3 := site_V (dk DX12_chance_0 33 rfl) KX12 (tg_of 1518 (by decide +kernel) rfl) (tg_of 1520 (by decide +kernel) rfl) (tg_of 61 (by decide +kernel) rfl) (tg_of 80 (by decide +kernel) rfl) kX12_comesIn ⟨by decide +kernel, by decide +kernel, by decide +kernel⟩ (by decide)
set_option maxRecDepth 8000 in
theorem sX12_chance_97 : Site RX12 mX12_chance 97 100 mX12_divisor (some 12) 3 := site_V (dk DX12_chance_0 53 rfl) KX12 (tg_of 1523 (by decide +kernel) rfl) (tg_of 1525 (by decide +kernel) rfl) (tg_of 62 (by decide +kernel) rfl) (tg_of 80 (by decide +kernel) rfl) kX12_divisor ⟨by decide +kernel, by decide +kernel, by decide +kernel⟩ (by decide)
set_option maxRecDepth 8000 in
theorem sX12_judge_2 : Site RX12 mX12_judge 2 5 mX12_isTape (some 12) 2 := site_V (dk DX12_judge_0 2 rfl) KX12 (tg_of 1531 (by decide +kernel) rfl) (tg_of 1533 (by decide +kernel) rfl) (tg_of 63 (by decide +kernel) rfl) (tg_of 80 (by decide +kernel) rfl) kX12_isTape ⟨by decide +kernel, by decide +kernel, by decide +kernel⟩ (by decide)
set_option maxRecDepth 8000 in
theorem sX12_judge_93 : Site RX12 mX12_judge 93 96 mX12_has (some 12) 3 := site_V (dk DX12_judge_1 0 rfl) KX12 (tg_of 1265 (by decide +kernel) rfl) (tg_of 1267 (by decide +kernel) rfl) (tg_of 20 (by decide +kernel) rfl) (tg_of 80 (by decide +kernel) rfl) kX12_has ⟨by decide +kernel, by decide +kernel, by decide +kernel⟩ (by decide)
set_option maxRecDepth 8000 in
theorem sX12_knowingSays_3 : Site RX12 mX12_knowingSays 3 6 mX12_body (some 12) 2 := site_V (dk DX12_knowingSays 2 rfl) KX12 (tg_of 1551 (by decide +kernel) rfl) (tg_of 1553 (by decide +kernel) rfl) (tg_of 65 (by decide +kernel) rfl) (tg_of 80 (by decide +kernel) rfl) kX12_body ⟨by decide +kernel, by decide +kernel, by decide +kernel⟩ (by decide)
set_option maxRecDepth 8000 in
theorem sX12_saysAct_43 : Site RX12 mX12_saysAct 43 46 mX12_body (some 12) 2 := site_V (dk DX12_saysAct 7 rfl) KX12 (tg_of 1551 (by decide +kernel) rfl) (tg_of 1553 (by decide +kernel) rfl) (tg_of 65 (by decide +kernel) rfl) (tg_of 80 (by decide +kernel) rfl) kX12_body ⟨by decide +kernel, by decide +kernel, by decide +kernel⟩ (by decide)
set_option maxRecDepth 8000 in
theorem sX12_saysAct_51 : Site RX12 mX12_saysAct 51 54 mX12_knowingSays (some 12) 3 := site_V (dk DX12_saysAct 13 rfl) KX12 (tg_of 1555 (by decide +kernel) rfl) (tg_of 1557 (by decide +kernel) rfl) (tg_of 66 (by decide +kernel) rfl) (tg_of 80 (by decide +kernel) rfl) kX12_knowingSays ⟨by decide +kernel, by decide +kernel, by decide +kernel⟩ (by decide)
set_option maxRecDepth 8000 in
theorem sX12_saysAct_58 : Site RX12 mX12_saysAct 58 61 mX12_body (some 12) 2 := site_V (dk DX12_saysAct 17 rfl) KX12 (tg_of 1551 (by decide +kernel) rfl) (tg_of 1553 (by decide +kernel) rfl) (tg_of 65 (by decide +kernel) rfl) (tg_of 80 (by decide +kernel) rfl) kX12_body ⟨by decide +kernel, by decide +kernel, by decide +kernel⟩ (by decide)
set_option maxRecDepth 8000 in
theorem sX12_saysAct_64 : Site RX12 mX12_saysAct 64 67 mX12_knowingSays (some 12) 3 := site_V (dk DX12_saysAct 21 rfl) KX12 (tg_of 1555 (by decide +kernel) rfl) (tg_of 1557 (by decide +kernel) rfl) (tg_of 66 (by decide +kernel) rfl) (tg_of 80 (by decide +kernel) rfl) kX12_knowingSays ⟨by decide +kernel, by decide +kernel, by decide +kernel⟩ (by decide)
set_option maxRecDepth 8000 in
theorem sX12_saysAct_72 : Site RX12 mX12_saysAct 72 75 mX12_body (some 12) 2 := site_V (dk DX12_saysAct 26 rfl) KX12 (tg_of 1551 (by decide +kernel) rfl) (tg_of 1553 (by decide +kernel) rfl) (tg_of 65 (by decide +kernel) rfl) (tg_of 80 (by decide +kernel) rfl) kX12_body ⟨by decide +kernel, by decide +kernel, by decide +kernel⟩ (by decide)
set_option maxRecDepth 8000 in
theorem sX12_saysAct_78 : Site RX12 mX12_saysAct 78 81 mX12_knowingSays (some 12) 3 := site_V (dk DX12_saysAct 30 rfl) KX12 (tg_of 1555 (by decide +kernel) rfl) (tg_of 1557 (by decide +kernel) rfl) (tg_of 66 (by decide +kernel) rfl) (tg_of 80 (by decide +kernel) rfl) kX12_knowingSays ⟨by decide +kernel, by decide +kernel, by decide +kernel⟩ (by decide)
set_option maxRecDepth 8000 in
theorem sX12_saysAct_92 : Site RX12 mX12_saysAct 92 95 mX12_knowingSays (some 12) 3 := site_V (dk DX12_saysAct 40 rfl) KX12 (tg_of 1555 (by decide +kernel) rfl) (tg_of 1557 (by decide +kernel) rfl) (tg_of 66 (by decide +kernel) rfl) (tg_of 80 (by decide +kernel) rfl) kX12_knowingSays ⟨by decide +kernel, by decide +kernel, by decide +kernel⟩ (by decide)
set_option maxRecDepth 8000 in
theorem sX12_knowingHolds_3 : Site RX12 mX12_knowingHolds 3 6 mX12_body (some 12) 2 := site_V (dk DX12_knowingHolds 2 rfl) KX12 (tg_of 1551 (by decide +kernel) rfl) (tg_of 1553 (by decide +kernel) rfl) (tg_of 65 (by decide +kernel) rfl) (tg_of 80 (by decide +kernel) rfl) kX12_body ⟨by decide +kernel, by decide +kernel, by decide +kernel⟩ (by decide)
set_option maxRecDepth 8000 in
theorem sX12_knowingHolds_9 : Site RX12 mX12_knowingHolds 9 12 mX12_saysAct (some 12) 3 := site_V (dk DX12_knowingHolds 6 rfl) KX12 (tg_of 1547 (by decide +kernel) rfl) (tg_of 1549 (by decide +kernel) rfl) (tg_of 64 (by decide +kernel) rfl) (tg_of 80 (by decide +kernel) rfl) kX12_saysAct ⟨by decide +kernel, by decide +kernel, by decide +kernel⟩ (by decide)
set_option maxRecDepth 8000 in
theorem sX12_writtenHolds_3 : Site RX12 mX12_writtenHolds 3 6 mX12_body (some 12) 2 := site_V (dk DX12_writtenHolds 2 rfl) KX12 (tg_of 1551 (by decide +kernel) rfl) (tg_of 1553 (by decide +kernel) rfl) (tg_of 65 (by decide +kernel) rfl) (tg_of 80 (by decide +kernel) rfl) kX12_body ⟨by decide +kernel, by decide +kernel, by decide +kernel⟩ (by decide)
set_option maxRecDepth 8000 in
theorem sX12_writtenHolds_9 : Site RX12 mX12_writtenHolds 9 12 mX12_knowingHolds (some 12) 3 := site_V (dk DX12_writtenHolds 6 rfl) KX12 (tg_of 1567 (by decide +kernel) rfl) (tg_of 1569 (by decide +kernel) rfl) (tg_of 69 (by decide +kernel) rfl) (tg_of 80 (by decide +kernel) rfl) kX12_knowingHolds ⟨by decide +kernel, by decide +kernel, by decide +kernel⟩ (by decide)
set_option maxRecDepth 8000 in
theorem sX12_holdsAct_43 : Site RX12 mX12_holdsAct 43 46 mX12_writtenHolds (some 12) 3 := site_V (dk DX12_holdsAct 8 rfl) KX12 (tg_of 1563 (by decide +kernel) rfl) (tg_of 1565 (by decide +kernel) rfl) (tg_of 68 (by decide +kernel) rfl) (tg_of 80 (by decide +kernel) rfl) kX12_writtenHolds ⟨by decide +kernel, by decide +kernel, by decide +kernel⟩ (by decide)
set_option maxRecDepth 8000 in
theorem sX12_holdsAct_50 : Site RX12 mX12_holdsAct 50 53 mX12_body (some 12) 2 := site_V (dk DX12_holdsAct 12 rfl) KX12 (tg_of 1551 (by decide +kernel) rfl) (tg_of 1553 (by decide +kernel) rfl) (tg_of 65 (by decide +kernel) rfl) (tg_of 80 (by decide +kernel) rfl) kX12_body ⟨by decide +kernel, by decide +kernel, by decide +kernel⟩ (by decide)
set_option maxRecDepth 8000 in
theorem sX12_holdsAct_58 : Site RX12 mX12_holdsAct 58 61 mX12_writtenHolds (some 12) 3 := site_V (dk DX12_holdsAct 18 rfl) KX12 (tg_of 1563 (by decide +kernel) rfl) (tg_of 1565 (by decide +kernel) rfl) (tg_of 68 (by decide +kernel) rfl) (tg_of 80 (by decide +kernel) rfl) kX12_writtenHolds ⟨by decide +kernel, by decide +kernel, by decide +kernel⟩ (by decide)
set_option maxRecDepth 8000 in
theorem sX12_holdsAct_65 : Site RX12 mX12_holdsAct 65 68 mX12_body (some 12) 2 := site_V (dk DX12_holdsAct 22 rfl) KX12 (tg_of 1551 (by decide +kernel) rfl) (tg_of 1553 (by decide +kernel) rfl) (tg_of 65 (by decide +kernel) rfl) (tg_of 80 (by decide +kernel) rfl) kX12_body ⟨by decide +kernel, by decide +kernel, by decide +kernel⟩ (by decide)
set_option maxRecDepth 8000 in
theorem sX12_holdsAct_71 : Site RX12 mX12_holdsAct 71 74 mX12_knowingHolds (some 12) 3 := site_V (dk DX12_holdsAct 26 rfl) KX12 (tg_of 1567 (by decide +kernel) rfl) (tg_of 1569 (by decide +kernel) rfl) (tg_of 69 (by decide +kernel) rfl) (tg_of 80 (by decide +kernel) rfl) kX12_knowingHolds ⟨by decide +kernel, by decide +kernel, by decide +kernel⟩ (by decide)
set_option maxRecDepth 8000 in
theorem sX12_holdsAct_79 : Site RX12 mX12_holdsAct 79 82 mX12_knowingSays (some 12) 3 := site_V (dk DX12_holdsAct 32 rfl) KX12 (tg_of 1555 (by decide +kernel) rfl) (tg_of 1557 (by decide +kernel) rfl) (tg_of 66 (by decide +kernel) rfl) (tg_of 80 (by decide +kernel) rfl) kX12_knowingSays ⟨by decide +kernel, by decide +kernel, by decide +kernel⟩ (by decide)
set_option maxRecDepth 8000 in
theorem sX12_holdsAct_87 : Site RX12 mX12_holdsAct 87 90 mX12_knowingHolds (some 12) 3 := site_V (dk DX12_holdsAct 38 rfl) KX12 (tg_of 1567 (by decide +kernel) rfl) (tg_of 1569 (by decide +kernel) rfl) (tg_of 69 (by decide +kernel) rfl) (tg_of 80 (by decide +kernel) rfl) kX12_knowingHolds ⟨by decide +kernel, by decide +kernel, by decide +kernel⟩ (by decide)
set_option maxRecDepth 8000 in
theorem sX12_knowingTells_3 : Site RX12 mX12_knowingTells 3 6 mX12_body (some 12) 2 := site_V (dk DX12_knowingTells 2 rfl) KX12 (tg_of 1551 (by decide +kernel) rfl) (tg_of 1553 (by decide +kernel) rfl) (tg_of 65 (by decide +kernel) rfl) (tg_of 80 (by decide +kernel) rfl) kX12_body ⟨by decide +kernel, by decide +kernel, by decide +kernel⟩ (by decide)
set_option maxRecDepth 8000 in
theorem sX12_knowingTells_9 : Site RX12 mX12_knowingTells 9 12 mX12_holdsAct (some 12) 3 := site_V (dk DX12_knowingTells 6 rfl) KX12 (tg_of 1559 (by decide +kernel) rfl) (tg_of 1561 (by decide +kernel) rfl) (tg_of 67 (by decide +kernel) rfl) (tg_of 80 (by decide +kernel) rfl) kX12_holdsAct ⟨by decide +kernel, by decide +kernel, by decide +kernel⟩ (by decide)
set_option maxRecDepth 8000 in
theorem sX12_tellsAct_39 : Site RX12 mX12_tellsAct 39 42 mX12_body (some 12) 2 := site_V (dk DX12_tellsAct 7 rfl) KX12 (tg_of 1551 (by decide +kernel) rfl) (tg_of 1553 (by decide +kernel) rfl) (tg_of 65 (by decide +kernel) rfl) (tg_of 80 (by decide +kernel) rfl) kX12_body ⟨by decide +kernel, by decide +kernel, by decide +kernel⟩ (by decide)
set_option maxRecDepth 8000 in
theorem sX12_tellsAct_45 : Site RX12 mX12_tellsAct 45 48 mX12_knowingTells (some 12) 3 := site_V (dk DX12_tellsAct 11 rfl) KX12 (tg_of 1575 (by decide +kernel) rfl) (tg_of 1577 (by decide +kernel) rfl) (tg_of 71 (by decide +kernel) rfl) (tg_of 80 (by decide +kernel) rfl) kX12_knowingTells ⟨by decide +kernel, by decide +kernel, by decide +kernel⟩ (by decide)
set_option maxRecDepth 8000 in
theorem sX12_tellsAct_53 : Site RX12 mX12_tellsAct 53 56 mX12_holdsAct (some 12) 3 := site_V (dk DX12_tellsAct 17 rfl) KX12 (tg_of 1559 (by decide +kernel) rfl) (tg_of 1561 (by decide +kernel) rfl) (tg_of 67 (by decide +kernel) rfl) (tg_of 80 (by decide +kernel) rfl) kX12_holdsAct ⟨by decide +kernel, by decide +kernel, by decide +kernel⟩ (by decide)
set_option maxRecDepth 8000 in
theorem sX12_tellsAct_61 : Site RX12 mX12_tellsAct 61 64 mX12_body (some 12) 2 := site_V (dk DX12_tellsAct 22 rfl) KX12 (tg_of 1551 (by decide +kernel) rfl) (tg_of 1553 (by decide +kernel) rfl) (tg_of 65 (by decide +kernel) rfl) (tg_of 80 (by decide +kernel) rfl) kX12_body ⟨by decide +kernel, by decide +kernel, by decide +kernel⟩ (by decide)
set_option maxRecDepth 8000 in
theorem sX12_tellsAct_69 : Site RX12 mX12_tellsAct 69 72 mX12_knowingTells (some 12) 3 := site_V (dk DX12_tellsAct 28 rfl) KX12 (tg_of 1575 (by decide +kernel) rfl) (tg_of 1577 (by decide +kernel) rfl) (tg_of 71 (by decide +kernel) rfl) (tg_of 80 (by decide +kernel) rfl) kX12_knowingTells ⟨by decide +kernel, by decide +kernel, by decide +kernel⟩ (by decide)
set_option maxRecDepth 8000 in
theorem sX12_tellsAct_76 : Site RX12 mX12_tellsAct 76 79 mX12_knowingTells (some 12) 3 := site_V (dk DX12_tellsAct 33 rfl) KX12 (tg_of 1575 (by decide +kernel) rfl) (tg_of 1577 (by decide +kernel) rfl) (tg_of 71 (by decide +kernel) rfl) (tg_of 80 (by decide +kernel) rfl) kX12_knowingTells ⟨by decide +kernel, by decide +kernel, by decide +kernel⟩ (by decide)
set_option maxRecDepth 8000 in
theorem sX12_act_7 : Site RX12 mX12_act 7 10 mX12_isDoing (some 12) 2 := site_V (dk DX12_act 5 rfl) KX12 (tg_of 1261 (by decide +kernel) rfl) (tg_of 1263 (by decide +kernel) rfl) (tg_of 19 (by decide +kernel) rfl) (tg_of 80 (by decide +kernel) rfl) kX12_isDoing ⟨by decide +kernel, by decide +kernel, by decide +kernel⟩ (by decide)
set_option maxRecDepth 8000 in
theorem sX12_act_17 : Site RX12 mX12_act 17 20 mX12_in (some 12) 4 := site_V (dk DX12_act 11 rfl) KX12 (tg_of 1249 (by decide +kernel) rfl) (tg_of 1251 (by decide +kernel) rfl) (tg_of 17 (by decide +kernel) rfl) (tg_of 80 (by decide +kernel) rfl) kX12_in ⟨by decide +kernel, by decide +kernel, by decide +kernel⟩ (by decide)
set_option maxRecDepth 8000 in
theorem sX12_act_32 : Site RX12 mX12_act 32 35 mX12_saysAct (some 12) 3 := site_V (dk DX12_act 20 rfl) KX12 (tg_of 1547 (by decide +kernel) rfl) (tg_of 1549 (by decide +kernel) rfl) (tg_of 64 (by decide +kernel) rfl) (tg_of 80 (by decide +kernel) rfl) kX12_saysAct ⟨by decide +kernel, by decide +kernel, by decide +kernel⟩ (by decide)
set_option maxRecDepth 8000 in
theorem sX12_act_46 : Site RX12 mX12_act 46 49 mX12_holdsAct (some 12) 3 := site_V (dk DX12_act 28 rfl) KX12 (tg_of 1559 (by decide +kernel) rfl) (tg_of 1561 (by decide +kernel) rfl) (tg_of 67 (by decide +kernel) rfl) (tg_of 80 (by decide +kernel) rfl) kX12_holdsAct ⟨by decide +kernel, by decide +kernel, by decide +kernel⟩ (by decide)
set_option maxRecDepth 8000 in
theorem sX12_act_55 : Site RX12 mX12_act 55 58 mX12_tellsAct (some 12) 3 := site_V (dk DX12_act 33 rfl) KX12 (tg_of 1571 (by decide +kernel) rfl) (tg_of 1573 (by decide +kernel) rfl) (tg_of 70 (by decide +kernel) rfl) (tg_of 80 (by decide +kernel) rfl) kX12_tellsAct ⟨by decide +kernel, by decide +kernel, by decide +kernel⟩ (by decide)
set_option maxRecDepth 8000 in
theorem sX12_trace_5 : Site RX12 mX12_trace 5 8 mX12_in (some 12) 4 := site_V (dk DX12_trace 4 rfl) KX12 (tg_of 1249 (by decide +kernel) rfl) (tg_of 1251 (by decide +kernel) rfl) (tg_of 17 (by decide +kernel) rfl) (tg_of 80 (by decide +kernel) rfl) kX12_in ⟨by decide +kernel, by decide +kernel, by decide +kernel⟩ (by decide)
set_option maxRecDepth 8000 in
theorem sX12_taken_5 : Site RX12 mX12_taken 5 8 mX12_in (some 12) 4 := site_V (dk DX12_taken 4 rfl) KX12 (tg_of 1249 (by decide +kernel) rfl) (tg_of 1251 (by decide +kernel) rfl) (tg_of 17 (by decide +kernel) rfl) (tg_of 80 (by decide +kernel) rfl) kX12_in ⟨by decide +kernel, by decide +kernel, by decide +kernel⟩ (by decide)
set_option maxRecDepth 8000 in
theorem sX12_taken_16 : Site RX12 mX12_taken 16 19 mX12_isDoing (some 12) 2 := site_V (dk DX12_taken 10 rfl) KX12 (tg_of 1261 (by decide +kernel) rfl) (tg_of 1263 (by decide +kernel) rfl) (tg_of 19 (by decide +kernel) rfl) (tg_of 80 (by decide +kernel) rfl) kX12_isDoing ⟨by decide +kernel, by decide +kernel, by decide +kernel⟩ (by decide)
set_option maxRecDepth 8000 in
theorem sX12_count_70 : Site RX12 mX12_count 70 73 mX12_ones (some 12) 2 := site_V (dk DX12_count 20 rfl) KX12 (tg_of 1409 (by decide +kernel) rfl) (tg_of 1411 (by decide +kernel) rfl) (tg_of 47 (by decide +kernel) rfl) (tg_of 80 (by decide +kernel) rfl) kX12_ones ⟨by decide +kernel, by decide +kernel, by decide +kernel⟩ (by decide)
set_option maxRecDepth 8000 in
theorem sX12_isTape_4 : Site RX12 mX12_isTape 4 7 mX12_in (some 12) 4 := site_V (dk DX12_isTape 4 rfl) KX12 (tg_of 1249 (by decide +kernel) rfl) (tg_of 1251 (by decide +kernel) rfl) (tg_of 17 (by decide +kernel) rfl) (tg_of 80 (by decide +kernel) rfl) kX12_in ⟨by decide +kernel, by decide +kernel, by decide +kernel⟩ (by decide)
set_option maxRecDepth 8000 in
theorem sX12_tape_2 : Site RX12 mX12_tape 2 5 mX12_isTape (some 12) 2 := site_V (dk DX12_tape 2 rfl) KX12 (tg_of 1531 (by decide +kernel) rfl) (tg_of 1533 (by decide +kernel) rfl) (tg_of 63 (by decide +kernel) rfl) (tg_of 80 (by decide +kernel) rfl) kX12_isTape ⟨by decide +kernel, by decide +kernel, by decide +kernel⟩ (by decide)
set_option maxRecDepth 8000 in
theorem sX12_tape_14 : Site RX12 mX12_tape 14 17 mX12_in (some 12) 4 := site_V (dk DX12_tape 10 rfl) KX12 (tg_of 1249 (by decide +kernel) rfl) (tg_of 1251 (by decide +kernel) rfl) (tg_of 17 (by decide +kernel) rfl) (tg_of 80 (by decide +kernel) rfl) kX12_in ⟨by decide +kernel, by decide +kernel, by decide +kernel⟩ (by decide)
set_option maxRecDepth 8000 in
theorem sX12_item_2 : Site RX12 mX12_item 2 5 mX12_isTape (some 12) 2 := site_V (dk DX12_item 2 rfl) KX12 (tg_of 1531 (by decide +kernel) rfl) (tg_of 1533 (by decide +kernel) rfl) (tg_of 63 (by decide +kernel) rfl) (tg_of 80 (by decide +kernel) rfl) kX12_isTape ⟨by decide +kernel, by decide +kernel, by decide +kernel⟩ (by decide)
set_option maxRecDepth 8000 in
theorem sX12_item_33 : Site RX12 mX12_item 33 36 mX12_in (some 12) 4 := site_V (dk DX12_item 22 rfl) KX12 (tg_of 1249 (by decide +kernel) rfl) (tg_of 1251 (by decide +kernel) rfl) (tg_of 17 (by decide +kernel) rfl) (tg_of 80 (by decide +kernel) rfl) kX12_in ⟨by decide +kernel, by decide +kernel, by decide +kernel⟩ (by decide)
set_option maxRecDepth 8000 in
theorem sX12_item_60 : Site RX12 mX12_item 60 63 mX12_narrow (some 12) 3 := site_V (dk DX12_item 39 rfl) KX12 (tg_of 1599 (by decide +kernel) rfl) (tg_of 1601 (by decide +kernel) rfl) (tg_of 72 (by decide +kernel) rfl) (tg_of 80 (by decide +kernel) rfl) kX12_narrow ⟨by decide +kernel, by decide +kernel, by decide +kernel⟩ (by decide)
set_option maxRecDepth 8000 in
theorem sX12_read_2 : Site RX12 mX12_read 2 5 mX12_isTape (some 12) 2 := site_V (dk DX12_read 2 rfl) KX12 (tg_of 1531 (by decide +kernel) rfl) (tg_of 1533 (by decide +kernel) rfl) (tg_of 63 (by decide +kernel) rfl) (tg_of 80 (by decide +kernel) rfl) kX12_isTape ⟨by decide +kernel, by decide +kernel, by decide +kernel⟩ (by decide)
set_option maxRecDepth 8000 in
theorem sX12_read_28 : Site RX12 mX12_read 28 31 mX12_in (some 12) 4 := site_V (dk DX12_read 18 rfl) KX12 (tg_of 1249 (by decide +kernel) rfl) (tg_of 1251 (by decide +kernel) rfl) (tg_of 17 (by decide +kernel) rfl) (tg_of 80 (by decide +kernel) rfl) kX12_in ⟨by decide +kernel, by decide +kernel, by decide +kernel⟩ (by decide)
set_option maxRecDepth 8000 in
theorem sX12_shift_2 : Site RX12 mX12_shift 2 5 mX12_isTape (some 12) 2 := site_V (dk DX12_shift_0 2 rfl) KX12 (tg_of 1531 (by decide +kernel) rfl) (tg_of 1533 (by decide +kernel) rfl) (tg_of 63 (by decide +kernel) rfl) (tg_of 80 (by decide +kernel) rfl) kX12_isTape ⟨by decide +kernel, by decide +kernel, by decide +kernel⟩ (by decide)
set_option maxRecDepth 8000 in
theorem sX12_shift_10 : Site RX12 mX12_shift 10 13 mX12_isTape (some 12) 2 := site_V (dk DX12_shift_0 6 rfl) KX12 (tg_of 1531 (by decide +kernel) rfl) (tg_of 1533 (by decide +kernel) rfl) (tg_of 63 (by decide +kernel) rfl) (tg_of 80 (by decide +kernel) rfl) kX12_isTape ⟨by decide +kernel, by decide +kernel, by decide +kernel⟩ (by decide)
