set_option maxRecDepth 8000 in
set_option maxHeartbeats 4000000 in
theorem cv_kind_1 {G : Gt} (hG : Gok G) {I : It} {h : Ht}  {q : Nat}  (hq : q < hn h) (hcl : (hs h q).1 = 1) : Con G (1) 0 0 mX1_kind [.ref q] I h (rI (knd 1) I h) := by
  refine con_intro (own := RX1) (lo0 := [some (.ref q)]) hG rfl pl_X1 (Nat.le_of_ble_eq_true rfl) rfl (fun X hX => ?_)
  refine g_iconst (v := 0) hX (dk DX1_kind 0 rfl) (by decide) ?_
  refine g_ireturn hX (dk DX1_kind 1 rfl) rfl (rfl) (by decide) (by decide) ?_
  exact rI_of rfl rfl rfl

set_option maxRecDepth 8000 in
set_option maxHeartbeats 4000000 in
theorem cv_kind_2 {G : Gt} (hG : Gok G) {I : It} {h : Ht}  {q : Nat}  (hq : q < hn h) (hcl : (hs h q).1 = 2) : Con G (1) 0 0 mX2_kind [.ref q] I h (rI (knd 2) I h) := by
  refine con_intro (own := RX2) (lo0 := [some (.ref q)]) hG rfl pl_X2 (Nat.le_of_ble_eq_true rfl) rfl (fun X hX => ?_)
  refine g_iconst (v := 2) hX (dk DX2_kind 0 rfl) (by decide) ?_
  refine g_ireturn hX (dk DX2_kind 1 rfl) rfl (rfl) (by decide) (by decide) ?_
  exact rI_of rfl rfl rfl

set_option maxRecDepth 8000 in
set_option maxHeartbeats 4000000 in
theorem cv_kind_4 {G : Gt} (hG : Gok G) {I : It} {h : Ht}  {q : Nat}  (hq : q < hn h) (hcl : (hs h q).1 = 4) : Con G (1) 0 0 mX4_kind [.ref q] I h (rI (knd 4) I h) := by
  refine con_intro (own := RX4) (lo0 := [some (.ref q)]) hG rfl pl_X4 (Nat.le_of_ble_eq_true rfl) rfl (fun X hX => ?_)
  refine g_iconst (v := 3) hX (dk DX4_kind 0 rfl) (by decide) ?_
  refine g_ireturn hX (dk DX4_kind 1 rfl) rfl (rfl) (by decide) (by decide) ?_
  exact rI_of rfl rfl rfl

set_option maxRecDepth 8000 in
set_option maxHeartbeats 4000000 in
theorem cv_kind_6 {G : Gt} (hG : Gok G) {I : It} {h : Ht}  {q : Nat}  (hq : q < hn h) (hcl : (hs h q).1 = 6) : Con G (1) 0 0 mX6_kind [.ref q] I h (rI (knd 6) I h) := by
  refine con_intro (own := RX6) (lo0 := [some (.ref q)]) hG rfl pl_X6 (Nat.le_of_ble_eq_true rfl) rfl (fun X hX => ?_)
  refine g_iconst (v := 5) hX (dk DX6_kind 0 rfl) (by decide) ?_
  refine g_ireturn hX (dk DX6_kind 1 rfl) rfl (rfl) (by decide) (by decide) ?_
  exact rI_of rfl rfl rfl

set_option maxRecDepth 8000 in
set_option maxHeartbeats 4000000 in
theorem cv_kind_8 {G : Gt} (hG : Gok G) {I : It} {h : Ht}  {q : Nat}  (hq : q < hn h) (hcl : (hs h q).1 = 8) : Con G (1) 0 0 mX8_kind [.ref q] I h (rI (knd 8) I h) := by
  refine con_intro (own := RX8) (lo0 := [some (.ref q)]) hG rfl pl_X8 (Nat.le_of_ble_eq_true rfl) rfl (fun X hX => ?_)
  refine g_iconst (v := 4) hX (dk DX8_kind 0 rfl) (by decide) ?_
  refine g_ireturn hX (dk DX8_kind 1 rfl) rfl (rfl) (by decide) (by decide) ?_
  exact rI_of rfl rfl rfl

set_option maxRecDepth 8000 in
set_option maxHeartbeats 4000000 in
theorem cv_kind_9 {G : Gt} (hG : Gok G) {I : It} {h : Ht}  {q : Nat}  (hq : q < hn h) (hcl : (hs h q).1 = 9) : Con G (1) 0 0 mX9_kind [.ref q] I h (rI (knd 9) I h) := by
  refine con_intro (own := RX9) (lo0 := [some (.ref q)]) hG rfl pl_X9 (Nat.le_of_ble_eq_true rfl) rfl (fun X hX => ?_)
  refine g_iconst (v := 1) hX (dk DX9_kind 0 rfl) (by decide) ?_
  refine g_ireturn hX (dk DX9_kind 1 rfl) rfl (rfl) (by decide) (by decide) ?_
  exact rI_of rfl rfl rfl

set_option maxRecDepth 8000 in
set_option maxHeartbeats 4000000 in
theorem cv_kind_10 {G : Gt} (hG : Gok G) {I : It} {h : Ht}  {q : Nat}  (hq : q < hn h) (hcl : (hs h q).1 = 10) : Con G (1) 0 0 mX10_kind [.ref q] I h (rI (knd 10) I h) := by
  refine con_intro (own := RX10) (lo0 := [some (.ref q)]) hG rfl pl_X10 (Nat.le_of_ble_eq_true rfl) rfl (fun X hX => ?_)
  refine g_bipush (v := 6) hX (dk DX10_kind 0 rfl) (by decide) ?_
  refine g_ireturn hX (dk DX10_kind 1 rfl) rfl (rfl) (by decide) (by decide) ?_
  exact rI_of rfl rfl rfl

theorem cD_kind {G : Gt} (hG : Gok G) {I : It} {h : Ht} {q : Nat}  (hq : q < hn h) (hdc : isDC (hs h q).1) : Con G 1 0 0 (vm_kind (hs h q).1) [.ref q] I h (rI (knd (hs h q).1) I h) := by
  rcases hdc with e | e | e | e | e | e | e <;> rw [e]
  · exact cv_kind_1 hG hq e
  · exact cv_kind_2 hG hq e
  · exact cv_kind_4 hG hq e
  · exact cv_kind_6 hG hq e
  · exact cv_kind_8 hG hq e
  · exact cv_kind_9 hG hq e
  · exact cv_kind_10 hG hq e
set_option maxRecDepth 8000 in
set_option maxHeartbeats 4000000 in
theorem cv_weeksUntil_1 {G : Gt} (hG : Gok G) {I : It} {h : Ht}  {q : Nat} {w : Int32} (hq : q < hn h) (hcl : (hs h q).1 = 1) (hr : I q 2 ≠ 0) : Con G (2) 0 0 mX1_weeksUntil [.ref q, .int w] I h (rI (fmI (I q 3 - w) (I q 2)) I h) := by
  refine con_intro (own := RX1) (lo0 := [some (.ref q), some (.int w)]) hG rfl pl_X1 (Nat.le_of_ble_eq_true rfl) rfl (fun X hX => ?_)
  refine g_aload_0 hX (dk DX1_weeksUntil 0 rfl) ?_
  refine g_getI hX (dk DX1_weeksUntil 1 rfl) KX1 fX1_27 (by decide) rfl hq hcl ?_
  refine g_iload_1 hX (dk DX1_weeksUntil 2 rfl) ?_
  refine g_isub hX (dk DX1_weeksUntil 3 rfl) ?_
  refine g_aload_0 hX (dk DX1_weeksUntil 4 rfl) ?_
  refine g_getI hX (dk DX1_weeksUntil 5 rfl) KX1 fX1_24 (by decide) rfl hq hcl ?_
  refine g_c2I hX sX1_weeksUntil_10 (by decide) (Nat.le_of_ble_eq_true rfl) rcN (by decide) (by decide) (c_J9_floorMod_7cf53 hG hr) ?_
  refine g_ireturn hX (dk DX1_weeksUntil 7 rfl) rfl (rfl) (by decide) (by decide) ?_
  exact rI_of rfl rfl rfl

set_option maxRecDepth 8000 in
set_option maxHeartbeats 4000000 in
theorem cv_weeksUntil_2 {G : Gt} (hG : Gok G) {I : It} {h : Ht}  {q : Nat} {w : Int32} (hq : q < hn h) (hcl : (hs h q).1 = 2) (hr : I q 2 ≠ 0) : Con G (2) 0 0 mX1_weeksUntil [.ref q, .int w] I h (rI (fmI (I q 3 - w) (I q 2)) I h) := by
  refine con_intro (own := RX1) (lo0 := [some (.ref q), some (.int w)]) hG rfl pl_X1 (Nat.le_of_ble_eq_true rfl) rfl (fun X hX => ?_)
  refine g_aload_0 hX (dk DX1_weeksUntil 0 rfl) ?_
  refine g_getI hX (dk DX1_weeksUntil 1 rfl) KX2 fX1_27 (by decide) rfl hq hcl ?_
  refine g_iload_1 hX (dk DX1_weeksUntil 2 rfl) ?_
  refine g_isub hX (dk DX1_weeksUntil 3 rfl) ?_
  refine g_aload_0 hX (dk DX1_weeksUntil 4 rfl) ?_
  refine g_getI hX (dk DX1_weeksUntil 5 rfl) KX2 fX1_24 (by decide) rfl hq hcl ?_
  refine g_c2I hX sX1_weeksUntil_10 (by decide) (Nat.le_of_ble_eq_true rfl) rcN (by decide) (by decide) (c_J9_floorMod_7cf53 hG hr) ?_
  refine g_ireturn hX (dk DX1_weeksUntil 7 rfl) rfl (rfl) (by decide) (by decide) ?_
  exact rI_of rfl rfl rfl

set_option maxRecDepth 8000 in
set_option maxHeartbeats 4000000 in
theorem cv_weeksUntil_4 {G : Gt} (hG : Gok G) {I : It} {h : Ht}  {q : Nat} {w : Int32} (hq : q < hn h) (hcl : (hs h q).1 = 4) (hr : I q 2 ≠ 0) : Con G (2) 0 0 mX1_weeksUntil [.ref q, .int w] I h (rI (fmI (I q 3 - w) (I q 2)) I h) := by
  refine con_intro (own := RX1) (lo0 := [some (.ref q), some (.int w)]) hG rfl pl_X1 (Nat.le_of_ble_eq_true rfl) rfl (fun X hX => ?_)
  refine g_aload_0 hX (dk DX1_weeksUntil 0 rfl) ?_
  refine g_getI hX (dk DX1_weeksUntil 1 rfl) KX4 fX1_27 (by decide) rfl hq hcl ?_
  refine g_iload_1 hX (dk DX1_weeksUntil 2 rfl) ?_
  refine g_isub hX (dk DX1_weeksUntil 3 rfl) ?_
  refine g_aload_0 hX (dk DX1_weeksUntil 4 rfl) ?_
  refine g_getI hX (dk DX1_weeksUntil 5 rfl) KX4 fX1_24 (by decide) rfl hq hcl ?_
  refine g_c2I hX sX1_weeksUntil_10 (by decide) (Nat.le_of_ble_eq_true rfl) rcN (by decide) (by decide) (c_J9_floorMod_7cf53 hG hr) ?_
  refine g_ireturn hX (dk DX1_weeksUntil 7 rfl) rfl (rfl) (by decide) (by decide) ?_
  exact rI_of rfl rfl rfl

set_option maxRecDepth 8000 in
set_option maxHeartbeats 4000000 in
theorem cv_weeksUntil_6 {G : Gt} (hG : Gok G) {I : It} {h : Ht}  {q : Nat} {w : Int32} (hq : q < hn h) (hcl : (hs h q).1 = 6) (hr : I q 2 ≠ 0) : Con G (2) 0 0 mX1_weeksUntil [.ref q, .int w] I h (rI (fmI (I q 3 - w) (I q 2)) I h) := by
  refine con_intro (own := RX1) (lo0 := [some (.ref q), some (.int w)]) hG rfl pl_X1 (Nat.le_of_ble_eq_true rfl) rfl (fun X hX => ?_)
  refine g_aload_0 hX (dk DX1_weeksUntil 0 rfl) ?_
  refine g_getI hX (dk DX1_weeksUntil 1 rfl) KX6 fX1_27 (by decide) rfl hq hcl ?_
  refine g_iload_1 hX (dk DX1_weeksUntil 2 rfl) ?_
  refine g_isub hX (dk DX1_weeksUntil 3 rfl) ?_
  refine g_aload_0 hX (dk DX1_weeksUntil 4 rfl) ?_
  refine g_getI hX (dk DX1_weeksUntil 5 rfl) KX6 fX1_24 (by decide) rfl hq hcl ?_
  refine g_c2I hX sX1_weeksUntil_10 (by decide) (Nat.le_of_ble_eq_true rfl) rcN (by decide) (by decide) (c_J9_floorMod_7cf53 hG hr) ?_
  refine g_ireturn hX (dk DX1_weeksUntil 7 rfl) rfl (rfl) (by decide) (by decide) ?_
  exact rI_of rfl rfl rfl

set_option maxRecDepth 8000 in
set_option maxHeartbeats 4000000 in
theorem cv_weeksUntil_8 {G : Gt} (hG : Gok G) {I : It} {h : Ht}  {q : Nat} {w : Int32} (hq : q < hn h) (hcl : (hs h q).1 = 8) (hr : I q 2 ≠ 0) : Con G (2) 0 0 mX1_weeksUntil [.ref q, .int w] I h (rI (fmI (I q 3 - w) (I q 2)) I h) := by
  refine con_intro (own := RX1) (lo0 := [some (.ref q), some (.int w)]) hG rfl pl_X1 (Nat.le_of_ble_eq_true rfl) rfl (fun X hX => ?_)
  refine g_aload_0 hX (dk DX1_weeksUntil 0 rfl) ?_
  refine g_getI hX (dk DX1_weeksUntil 1 rfl) KX8 fX1_27 (by decide) rfl hq hcl ?_
  refine g_iload_1 hX (dk DX1_weeksUntil 2 rfl) ?_
  refine g_isub hX (dk DX1_weeksUntil 3 rfl) ?_
  refine g_aload_0 hX (dk DX1_weeksUntil 4 rfl) ?_
  refine g_getI hX (dk DX1_weeksUntil 5 rfl) KX8 fX1_24 (by decide) rfl hq hcl ?_
  refine g_c2I hX sX1_weeksUntil_10 (by decide) (Nat.le_of_ble_eq_true rfl) rcN (by decide) (by decide) (c_J9_floorMod_7cf53 hG hr) ?_
  refine g_ireturn hX (dk DX1_weeksUntil 7 rfl) rfl (rfl) (by decide) (by decide) ?_
  exact rI_of rfl rfl rfl

set_option maxRecDepth 8000 in
set_option maxHeartbeats 4000000 in
theorem cv_weeksUntil_9 {G : Gt} (hG : Gok G) {I : It} {h : Ht}  {q : Nat} {w : Int32} (hq : q < hn h) (hcl : (hs h q).1 = 9) (hr : I q 2 ≠ 0) : Con G (2) 0 0 mX1_weeksUntil [.ref q, .int w] I h (rI (fmI (I q 3 - w) (I q 2)) I h) := by
  refine con_intro (own := RX1) (lo0 := [some (.ref q), some (.int w)]) hG rfl pl_X1 (Nat.le_of_ble_eq_true rfl) rfl (fun X hX => ?_)
  refine g_aload_0 hX (dk DX1_weeksUntil 0 rfl) ?_
  refine g_getI hX (dk DX1_weeksUntil 1 rfl) KX9 fX1_27 (by decide) rfl hq hcl ?_
  refine g_iload_1 hX (dk DX1_weeksUntil 2 rfl) ?_
  refine g_isub hX (dk DX1_weeksUntil 3 rfl) ?_
  refine g_aload_0 hX (dk DX1_weeksUntil 4 rfl) ?_
  refine g_getI hX (dk DX1_weeksUntil 5 rfl) KX9 fX1_24 (by decide) rfl hq hcl ?_
  refine g_c2I hX sX1_weeksUntil_10 (by decide) (Nat.le_of_ble_eq_true rfl) rcN (by decide) (by decide) (c_J9_floorMod_7cf53 hG hr) ?_
  refine g_ireturn hX (dk DX1_weeksUntil 7 rfl) rfl (rfl) (by decide) (by decide) ?_
  exact rI_of rfl rfl rfl

set_option maxRecDepth 8000 in
set_option maxHeartbeats 4000000 in
theorem cv_weeksUntil_10 {G : Gt} (hG : Gok G) {I : It} {h : Ht}  {q : Nat} {w : Int32} (hq : q < hn h) (hcl : (hs h q).1 = 10) (hr : I q 2 ≠ 0) : Con G (2) 0 0 mX1_weeksUntil [.ref q, .int w] I h (rI (fmI (I q 3 - w) (I q 2)) I h) := by
  refine con_intro (own := RX1) (lo0 := [some (.ref q), some (.int w)]) hG rfl pl_X1 (Nat.le_of_ble_eq_true rfl) rfl (fun X hX => ?_)
  refine g_aload_0 hX (dk DX1_weeksUntil 0 rfl) ?_
  refine g_getI hX (dk DX1_weeksUntil 1 rfl) KX10 fX1_27 (by decide) rfl hq hcl ?_
  refine g_iload_1 hX (dk DX1_weeksUntil 2 rfl) ?_
  refine g_isub hX (dk DX1_weeksUntil 3 rfl) ?_
  refine g_aload_0 hX (dk DX1_weeksUntil 4 rfl) ?_
  refine g_getI hX (dk DX1_weeksUntil 5 rfl) KX10 fX1_24 (by decide) rfl hq hcl ?_
  refine g_c2I hX sX1_weeksUntil_10 (by decide) (Nat.le_of_ble_eq_true rfl) rcN (by decide) (by decide) (c_J9_floorMod_7cf53 hG hr) ?_
  refine g_ireturn hX (dk DX1_weeksUntil 7 rfl) rfl (rfl) (by decide) (by decide) ?_
  exact rI_of rfl rfl rfl

theorem cD_weeksUntil {G : Gt} (hG : Gok G) {I : It} {h : Ht} {q : Nat} {w : Int32} (hq : q < hn h) (hdc : isDC (hs h q).1) (hr : I q 2 ≠ 0) : Con G 2 0 0 (vm_weeksUntil (hs h q).1) [.ref q, .int w] I h (rI (fmI (I q 3 - w) (I q 2)) I h) := by
  rcases hdc with e | e | e | e | e | e | e <;> rw [e]
  · exact cv_weeksUntil_1 hG hq e hr
  · exact cv_weeksUntil_2 hG hq e hr
  · exact cv_weeksUntil_4 hG hq e hr
  · exact cv_weeksUntil_6 hG hq e hr
  · exact cv_weeksUntil_8 hG hq e hr
  · exact cv_weeksUntil_9 hG hq e hr
  · exact cv_weeksUntil_10 hG hq e hr
set_option maxRecDepth 8000 in
set_option maxHeartbeats 4000000 in
theorem cv_isKnownByCall_1 {G : Gt} (hG : Gok G) {I : It} {h : Ht}  {q : Nat}  (hq : q < hn h) (hcl : (hs h q).1 = 1) : Con G (1) 0 0 mX1_isKnownByCall [.ref q] I h (rI (kbC 1) I h) := by
  refine con_intro (own := RX1) (lo0 := [some (.ref q)]) hG rfl pl_X1 (Nat.le_of_ble_eq_true rfl) rfl (fun X hX => ?_)
  refine g_iconst (v := 1) hX (dk DX1_isKnownByCall 0 rfl) (by decide) ?_
  refine g_ireturn hX (dk DX1_isKnownByCall 1 rfl) rfl (by decide) (by decide) (by decide) ?_
  exact rI_of rfl rfl rfl

set_option maxRecDepth 8000 in
set_option maxHeartbeats 4000000 in
theorem cv_isKnownByStop_1 {G : Gt} (hG : Gok G) {I : It} {h : Ht}  {q : Nat}  (hq : q < hn h) (hcl : (hs h q).1 = 1) : Con G (1) 0 0 mX1_isKnownByStop [.ref q] I h (rI (kbS 1 (I q 1)) I h) := by
  refine con_intro (own := RX1) (lo0 := [some (.ref q)]) hG rfl pl_X1 (Nat.le_of_ble_eq_true rfl) rfl (fun X hX => ?_)
  refine g_iconst (v := 0) hX (dk DX1_isKnownByStop 0 rfl) (by decide) ?_
  refine g_ireturn hX (dk DX1_isKnownByStop 1 rfl) rfl (by decide) (by decide) (by decide) ?_
  exact rI_of (by unfold kbS; first | rfl | (rw [if_neg (by decide), if_pos (by decide)]; exact (bI_t (by assumption)).symm) | (rw [if_neg (by decide), if_pos (by decide)]; exact (bI_f (by assumption)).symm) | (rw [if_pos (by decide)]; exact (bI_f (Int32.not_lt.mpr (by assumption))).symm) | (rw [if_pos (by decide)]; exact (bI_t (Int32.not_le.mp (by assumption))).symm)) rfl rfl

set_option maxRecDepth 8000 in
set_option maxHeartbeats 4000000 in
theorem cv_isKnownByCall_2 {G : Gt} (hG : Gok G) {I : It} {h : Ht}  {q : Nat}  (hq : q < hn h) (hcl : (hs h q).1 = 2) : Con G (1) 0 0 mX1_isKnownByCall [.ref q] I h (rI (kbC 2) I h) := by
  refine con_intro (own := RX1) (lo0 := [some (.ref q)]) hG rfl pl_X1 (Nat.le_of_ble_eq_true rfl) rfl (fun X hX => ?_)
  refine g_iconst (v := 1) hX (dk DX1_isKnownByCall 0 rfl) (by decide) ?_
  refine g_ireturn hX (dk DX1_isKnownByCall 1 rfl) rfl (by decide) (by decide) (by decide) ?_
  exact rI_of rfl rfl rfl

set_option maxRecDepth 8000 in
set_option maxHeartbeats 4000000 in
theorem cv_isKnownByStop_2 {G : Gt} (hG : Gok G) {I : It} {h : Ht}  {q : Nat}  (hq : q < hn h) (hcl : (hs h q).1 = 2) : Con G (1) 0 0 mX2_isKnownByStop [.ref q] I h (rI (kbS 2 (I q 1)) I h) := by
  refine con_intro (own := RX2) (lo0 := [some (.ref q)]) hG rfl pl_X2 (Nat.le_of_ble_eq_true rfl) rfl (fun X hX => ?_)
  refine g_aload_0 hX (dk DX2_isKnownByStop 0 rfl) ?_
  refine g_getI hX (dk DX2_isKnownByStop 1 rfl) KX2 fX2_9 (by decide) rfl hq hcl ?_
  refine g_iconst (v := 4) hX (dk DX2_isKnownByStop 2 rfl) (by decide) ?_
  refine g_icmp_le (tgt := 12) hX (dk DX2_isKnownByStop 3 rfl) (by decide) (fun hc1 => ?_) (fun hc1 => ?_)
  · refine g_iconst (v := 0) hX (dk DX2_isKnownByStop 6 rfl) (by decide) ?_
    refine g_ireturn hX (dk DX2_isKnownByStop 7 rfl) rfl (by decide) (by decide) (by decide) ?_
    exact rI_of (by unfold kbS; first | rfl | (rw [if_neg (by decide), if_pos (by decide)]; exact (bI_t (by assumption)).symm) | (rw [if_neg (by decide), if_pos (by decide)]; exact (bI_f (by assumption)).symm) | (rw [if_pos (by decide)]; exact (bI_f (Int32.not_lt.mpr (by assumption))).symm) | (rw [if_pos (by decide)]; exact (bI_t (Int32.not_le.mp (by assumption))).symm)) rfl rfl
  · refine g_iconst (v := 1) hX (dk DX2_isKnownByStop 4 rfl) (by decide) ?_
    refine g_goto (tgt := 13) hX (dk DX2_isKnownByStop 5 rfl) (by decide) ?_
    refine g_ireturn hX (dk DX2_isKnownByStop 7 rfl) rfl (by decide) (by decide) (by decide) ?_
    exact rI_of (by unfold kbS; first | rfl | (rw [if_neg (by decide), if_pos (by decide)]; exact (bI_t (by assumption)).symm) | (rw [if_neg (by decide), if_pos (by decide)]; exact (bI_f (by assumption)).symm) | (rw [if_pos (by decide)]; exact (bI_f (Int32.not_lt.mpr (by assumption))).symm) | (rw [if_pos (by decide)]; exact (bI_t (Int32.not_le.mp (by assumption))).symm)) rfl rfl

set_option maxRecDepth 8000 in
set_option maxHeartbeats 4000000 in
theorem cv_isKnownByCall_4 {G : Gt} (hG : Gok G) {I : It} {h : Ht}  {q : Nat}  (hq : q < hn h) (hcl : (hs h q).1 = 4) : Con G (1) 0 0 mX1_isKnownByCall [.ref q] I h (rI (kbC 4) I h) := by
  refine con_intro (own := RX1) (lo0 := [some (.ref q)]) hG rfl pl_X1 (Nat.le_of_ble_eq_true rfl) rfl (fun X hX => ?_)
  refine g_iconst (v := 1) hX (dk DX1_isKnownByCall 0 rfl) (by decide) ?_
  refine g_ireturn hX (dk DX1_isKnownByCall 1 rfl) rfl (by decide) (by decide) (by decide) ?_
  exact rI_of rfl rfl rfl

set_option maxRecDepth 8000 in
set_option maxHeartbeats 4000000 in
theorem cv_isKnownByStop_4 {G : Gt} (hG : Gok G) {I : It} {h : Ht}  {q : Nat}  (hq : q < hn h) (hcl : (hs h q).1 = 4) : Con G (1) 0 0 mX4_isKnownByStop [.ref q] I h (rI (kbS 4 (I q 1)) I h) := by
  refine con_intro (own := RX4) (lo0 := [some (.ref q)]) hG rfl pl_X4 (Nat.le_of_ble_eq_true rfl) rfl (fun X hX => ?_)
  refine g_aload_0 hX (dk DX4_isKnownByStop 0 rfl) ?_
  refine g_getI hX (dk DX4_isKnownByStop 1 rfl) KX4 fX4_13 (by decide) rfl hq hcl ?_
  refine g_if_ne (tgt := 11) hX (dk DX4_isKnownByStop 2 rfl) (by decide) (fun hc1 => ?_) (fun hc1 => ?_)
  · refine g_iconst (v := 0) hX (dk DX4_isKnownByStop 5 rfl) (by decide) ?_
    refine g_ireturn hX (dk DX4_isKnownByStop 6 rfl) rfl (by decide) (by decide) (by decide) ?_
    exact rI_of (by unfold kbS; first | rfl | (rw [if_neg (by decide), if_pos (by decide)]; exact (bI_t (by assumption)).symm) | (rw [if_neg (by decide), if_pos (by decide)]; exact (bI_f (by assumption)).symm) | (rw [if_pos (by decide)]; exact (bI_f (Int32.not_lt.mpr (by assumption))).symm) | (rw [if_pos (by decide)]; exact (bI_t (Int32.not_le.mp (by assumption))).symm)) rfl rfl
  · refine g_iconst (v := 1) hX (dk DX4_isKnownByStop 3 rfl) (by decide) ?_
    refine g_goto (tgt := 12) hX (dk DX4_isKnownByStop 4 rfl) (by decide) ?_
    refine g_ireturn hX (dk DX4_isKnownByStop 6 rfl) rfl (by decide) (by decide) (by decide) ?_
    exact rI_of (by unfold kbS; first | rfl | (rw [if_neg (by decide), if_pos (by decide)]; exact (bI_t (by assumption)).symm) | (rw [if_neg (by decide), if_pos (by decide)]; exact (bI_f (by assumption)).symm) | (rw [if_pos (by decide)]; exact (bI_f (Int32.not_lt.mpr (by assumption))).symm) | (rw [if_pos (by decide)]; exact (bI_t (Int32.not_le.mp (by assumption))).symm)) rfl rfl

set_option maxRecDepth 8000 in
set_option maxHeartbeats 4000000 in
theorem cv_isKnownByCall_6 {G : Gt} (hG : Gok G) {I : It} {h : Ht}  {q : Nat}  (hq : q < hn h) (hcl : (hs h q).1 = 6) : Con G (1) 0 0 mX1_isKnownByCall [.ref q] I h (rI (kbC 6) I h) := by
  refine con_intro (own := RX1) (lo0 := [some (.ref q)]) hG rfl pl_X1 (Nat.le_of_ble_eq_true rfl) rfl (fun X hX => ?_)
  refine g_iconst (v := 1) hX (dk DX1_isKnownByCall 0 rfl) (by decide) ?_
  refine g_ireturn hX (dk DX1_isKnownByCall 1 rfl) rfl (by decide) (by decide) (by decide) ?_
  exact rI_of rfl rfl rfl

set_option maxRecDepth 8000 in
set_option maxHeartbeats 4000000 in
theorem cv_isKnownByStop_6 {G : Gt} (hG : Gok G) {I : It} {h : Ht}  {q : Nat}  (hq : q < hn h) (hcl : (hs h q).1 = 6) : Con G (1) 0 0 mX2_isKnownByStop [.ref q] I h (rI (kbS 6 (I q 1)) I h) := by
  refine con_intro (own := RX2) (lo0 := [some (.ref q)]) hG rfl pl_X2 (Nat.le_of_ble_eq_true rfl) rfl (fun X hX => ?_)
  refine g_aload_0 hX (dk DX2_isKnownByStop 0 rfl) ?_
  refine g_getI hX (dk DX2_isKnownByStop 1 rfl) KX6 fX2_9 (by decide) rfl hq hcl ?_
  refine g_iconst (v := 4) hX (dk DX2_isKnownByStop 2 rfl) (by decide) ?_
  refine g_icmp_le (tgt := 12) hX (dk DX2_isKnownByStop 3 rfl) (by decide) (fun hc1 => ?_) (fun hc1 => ?_)
  · refine g_iconst (v := 0) hX (dk DX2_isKnownByStop 6 rfl) (by decide) ?_
    refine g_ireturn hX (dk DX2_isKnownByStop 7 rfl) rfl (by decide) (by decide) (by decide) ?_
    exact rI_of (by unfold kbS; first | rfl | (rw [if_neg (by decide), if_pos (by decide)]; exact (bI_t (by assumption)).symm) | (rw [if_neg (by decide), if_pos (by decide)]; exact (bI_f (by assumption)).symm) | (rw [if_pos (by decide)]; exact (bI_f (Int32.not_lt.mpr (by assumption))).symm) | (rw [if_pos (by decide)]; exact (bI_t (Int32.not_le.mp (by assumption))).symm)) rfl rfl
  · refine g_iconst (v := 1) hX (dk DX2_isKnownByStop 4 rfl) (by decide) ?_
    refine g_goto (tgt := 13) hX (dk DX2_isKnownByStop 5 rfl) (by decide) ?_
    refine g_ireturn hX (dk DX2_isKnownByStop 7 rfl) rfl (by decide) (by decide) (by decide) ?_
    exact rI_of (by unfold kbS; first | rfl | (rw [if_neg (by decide), if_pos (by decide)]; exact (bI_t (by assumption)).symm) | (rw [if_neg (by decide), if_pos (by decide)]; exact (bI_f (by assumption)).symm) | (rw [if_pos (by decide)]; exact (bI_f (Int32.not_lt.mpr (by assumption))).symm) | (rw [if_pos (by decide)]; exact (bI_t (Int32.not_le.mp (by assumption))).symm)) rfl rfl

set_option maxRecDepth 8000 in
set_option maxHeartbeats 4000000 in
theorem cv_isKnownByCall_8 {G : Gt} (hG : Gok G) {I : It} {h : Ht}  {q : Nat}  (hq : q < hn h) (hcl : (hs h q).1 = 8) : Con G (1) 0 0 mX1_isKnownByCall [.ref q] I h (rI (kbC 8) I h) := by
  refine con_intro (own := RX1) (lo0 := [some (.ref q)]) hG rfl pl_X1 (Nat.le_of_ble_eq_true rfl) rfl (fun X hX => ?_)
  refine g_iconst (v := 1) hX (dk DX1_isKnownByCall 0 rfl) (by decide) ?_
  refine g_ireturn hX (dk DX1_isKnownByCall 1 rfl) rfl (by decide) (by decide) (by decide) ?_
  exact rI_of rfl rfl rfl

set_option maxRecDepth 8000 in
set_option maxHeartbeats 4000000 in
theorem cv_isKnownByStop_8 {G : Gt} (hG : Gok G) {I : It} {h : Ht}  {q : Nat}  (hq : q < hn h) (hcl : (hs h q).1 = 8) : Con G (1) 0 0 mX1_isKnownByStop [.ref q] I h (rI (kbS 8 (I q 1)) I h) := by
  refine con_intro (own := RX1) (lo0 := [some (.ref q)]) hG rfl pl_X1 (Nat.le_of_ble_eq_true rfl) rfl (fun X hX => ?_)
  refine g_iconst (v := 0) hX (dk DX1_isKnownByStop 0 rfl) (by decide) ?_
  refine g_ireturn hX (dk DX1_isKnownByStop 1 rfl) rfl (by decide) (by decide) (by decide) ?_
  exact rI_of (by unfold kbS; first | rfl | (rw [if_neg (by decide), if_pos (by decide)]; exact (bI_t (by assumption)).symm) | (rw [if_neg (by decide), if_pos (by decide)]; exact (bI_f (by assumption)).symm) | (rw [if_pos (by decide)]; exact (bI_f (Int32.not_lt.mpr (by assumption))).symm) | (rw [if_pos (by decide)]; exact (bI_t (Int32.not_le.mp (by assumption))).symm)) rfl rfl

set_option maxRecDepth 8000 in
set_option maxHeartbeats 4000000 in
theorem cv_isKnownByCall_9 {G : Gt} (hG : Gok G) {I : It} {h : Ht}  {q : Nat}  (hq : q < hn h) (hcl : (hs h q).1 = 9) : Con G (1) 0 0 mX1_isKnownByCall [.ref q] I h (rI (kbC 9) I h) := by
  refine con_intro (own := RX1) (lo0 := [some (.ref q)]) hG rfl pl_X1 (Nat.le_of_ble_eq_true rfl) rfl (fun X hX => ?_)
  refine g_iconst (v := 1) hX (dk DX1_isKnownByCall 0 rfl) (by decide) ?_
  refine g_ireturn hX (dk DX1_isKnownByCall 1 rfl) rfl (by decide) (by decide) (by decide) ?_
  exact rI_of rfl rfl rfl

set_option maxRecDepth 8000 in
set_option maxHeartbeats 4000000 in
theorem cv_isKnownByStop_9 {G : Gt} (hG : Gok G) {I : It} {h : Ht}  {q : Nat}  (hq : q < hn h) (hcl : (hs h q).1 = 9) : Con G (1) 0 0 mX1_isKnownByStop [.ref q] I h (rI (kbS 9 (I q 1)) I h) := by
  refine con_intro (own := RX1) (lo0 := [some (.ref q)]) hG rfl pl_X1 (Nat.le_of_ble_eq_true rfl) rfl (fun X hX => ?_)
  refine g_iconst (v := 0) hX (dk DX1_isKnownByStop 0 rfl) (by decide) ?_
  refine g_ireturn hX (dk DX1_isKnownByStop 1 rfl) rfl (by decide) (by decide) (by decide) ?_
  exact rI_of (by unfold kbS; first | rfl | (rw [if_neg (by decide), if_pos (by decide)]; exact (bI_t (by assumption)).symm) | (rw [if_neg (by decide), if_pos (by decide)]; exact (bI_f (by assumption)).symm) | (rw [if_pos (by decide)]; exact (bI_f (Int32.not_lt.mpr (by assumption))).symm) | (rw [if_pos (by decide)]; exact (bI_t (Int32.not_le.mp (by assumption))).symm)) rfl rfl

set_option maxRecDepth 8000 in
set_option maxHeartbeats 4000000 in
theorem cv_isKnownByCall_10 {G : Gt} (hG : Gok G) {I : It} {h : Ht}  {q : Nat}  (hq : q < hn h) (hcl : (hs h q).1 = 10) : Con G (1) 0 0 mX10_isKnownByCall [.ref q] I h (rI (kbC 10) I h) := by
  refine con_intro (own := RX10) (lo0 := [some (.ref q)]) hG rfl pl_X10 (Nat.le_of_ble_eq_true rfl) rfl (fun X hX => ?_)
  refine g_iconst (v := 0) hX (dk DX10_isKnownByCall 0 rfl) (by decide) ?_
  refine g_ireturn hX (dk DX10_isKnownByCall 1 rfl) rfl (by decide) (by decide) (by decide) ?_
  exact rI_of rfl rfl rfl

set_option maxRecDepth 8000 in
set_option maxHeartbeats 4000000 in
theorem cv_isKnownByStop_10 {G : Gt} (hG : Gok G) {I : It} {h : Ht}  {q : Nat}  (hq : q < hn h) (hcl : (hs h q).1 = 10) : Con G (1) 0 0 mX4_isKnownByStop [.ref q] I h (rI (kbS 10 (I q 1)) I h) := by
  refine con_intro (own := RX4) (lo0 := [some (.ref q)]) hG rfl pl_X4 (Nat.le_of_ble_eq_true rfl) rfl (fun X hX => ?_)
  refine g_aload_0 hX (dk DX4_isKnownByStop 0 rfl) ?_
  refine g_getI hX (dk DX4_isKnownByStop 1 rfl) KX10 fX4_13 (by decide) rfl hq hcl ?_
  refine g_if_ne (tgt := 11) hX (dk DX4_isKnownByStop 2 rfl) (by decide) (fun hc1 => ?_) (fun hc1 => ?_)
  · refine g_iconst (v := 0) hX (dk DX4_isKnownByStop 5 rfl) (by decide) ?_
    refine g_ireturn hX (dk DX4_isKnownByStop 6 rfl) rfl (by decide) (by decide) (by decide) ?_
    exact rI_of (by unfold kbS; first | rfl | (rw [if_neg (by decide), if_pos (by decide)]; exact (bI_t (by assumption)).symm) | (rw [if_neg (by decide), if_pos (by decide)]; exact (bI_f (by assumption)).symm) | (rw [if_pos (by decide)]; exact (bI_f (Int32.not_lt.mpr (by assumption))).symm) | (rw [if_pos (by decide)]; exact (bI_t (Int32.not_le.mp (by assumption))).symm)) rfl rfl
  · refine g_iconst (v := 1) hX (dk DX4_isKnownByStop 3 rfl) (by decide) ?_
    refine g_goto (tgt := 12) hX (dk DX4_isKnownByStop 4 rfl) (by decide) ?_
    refine g_ireturn hX (dk DX4_isKnownByStop 6 rfl) rfl (by decide) (by decide) (by decide) ?_
    exact rI_of (by unfold kbS; first | rfl | (rw [if_neg (by decide), if_pos (by decide)]; exact (bI_t (by assumption)).symm) | (rw [if_neg (by decide), if_pos (by decide)]; exact (bI_f (by assumption)).symm) | (rw [if_pos (by decide)]; exact (bI_f (Int32.not_lt.mpr (by assumption))).symm) | (rw [if_pos (by decide)]; exact (bI_t (Int32.not_le.mp (by assumption))).symm)) rfl rfl

theorem cD_isKnownByCall {G : Gt} (hG : Gok G) {I : It} {h : Ht} {q : Nat}  (hq : q < hn h) (hdc : isDC (hs h q).1) : Con G 1 0 0 (vm_isKnownByCall (hs h q).1) [.ref q] I h (rI (kbC (hs h q).1) I h) := by
  rcases hdc with e | e | e | e | e | e | e <;> rw [e]
  · exact cv_isKnownByCall_1 hG hq e
  · exact cv_isKnownByCall_2 hG hq e
  · exact cv_isKnownByCall_4 hG hq e
  · exact cv_isKnownByCall_6 hG hq e
  · exact cv_isKnownByCall_8 hG hq e
  · exact cv_isKnownByCall_9 hG hq e
  · exact cv_isKnownByCall_10 hG hq e
theorem cD_isKnownByStop {G : Gt} (hG : Gok G) {I : It} {h : Ht} {q : Nat}  (hq : q < hn h) (hdc : isDC (hs h q).1) : Con G 1 0 0 (vm_isKnownByStop (hs h q).1) [.ref q] I h (rI (kbS (hs h q).1 (I q 1)) I h) := by
  rcases hdc with e | e | e | e | e | e | e <;> rw [e]
  · exact cv_isKnownByStop_1 hG hq e
  · exact cv_isKnownByStop_2 hG hq e
  · exact cv_isKnownByStop_4 hG hq e
  · exact cv_isKnownByStop_6 hG hq e
  · exact cv_isKnownByStop_8 hG hq e
  · exact cv_isKnownByStop_9 hG hq e
  · exact cv_isKnownByStop_10 hG hq e
set_option maxRecDepth 8000 in
set_option maxHeartbeats 4000000 in
theorem cv_saidOver_1 {G : Gt} (hG : Gok G) {I : It} {h : Ht}  {q : Nat} {bq hq2 : Nat} (hq : q < hn h) (hcl : (hs h q).1 = 1) (hb : bq < hn h) (hbs : hs h bq = (20, 4)) (hh : hq2 < hn h) (hhs : hs h hq2 = (20, 4)) : Con G (3) 0 0 mX1_saidOver [.ref q, .ref bq, .ref hq2] I h (rI (svC 1 (I q 1) (I bq) (I hq2)) I h) := by
  refine con_intro (own := RX1) (lo0 := [some (.ref q), some (.ref bq), some (.ref hq2), none, none]) hG rfl pl_X1 (Nat.le_of_ble_eq_true rfl) rfl (fun X hX => ?_)
  have loop5 : ∀ (k y : Nat) (z : Int32), y + k = 4 → svA (I bq) (I hq2) k y z = svA (I bq) (I hq2) 4 0 0 → GG G (3) 0 0 X (rI (svC 1 (I q 1) (I bq) (I hq2)) I h) 5 [some (.ref q), some (.ref bq), some (.ref hq2), some (.int z), some (.int (nI y))] [] (I) (h) 0 0 := by
    intro k
    induction k using Nat.strongRecOn with | _ k ih => ?_
    intro y z hk hv
    refine g_iload_4 hX (dk DX1_saidOver 4 rfl) ?_
    refine g_iconst (v := 4) hX (dk DX1_saidOver 5 rfl) (by decide) ?_
    refine g_icmp_ge (tgt := 29) hX (dk DX1_saidOver 6 rfl) (by decide) (fun hc1 => ?_) (fun hc1 => ?_)
    · refine g_iload_3 hX (dk DX1_saidOver 19 rfl) ?_
      refine g_ireturn hX (dk DX1_saidOver 20 rfl) rfl (rfl) (by decide) (by decide) ?_
      have hk0 := cl_end (e := 4) hk (by decide) hc1
      subst hk0
      exact rI_of hv rfl rfl
    · obtain ⟨k, rfl⟩ := cl_go (e := 4) hk (by decide) hc1
      refine g_iload_3 hX (dk DX1_saidOver 7 rfl) ?_
      refine g_aload_2 hX (dk DX1_saidOver 8 rfl) ?_
      refine g_iload_4 hX (dk DX1_saidOver 9 rfl) ?_
      refine i_iaload hX (dk DX1_saidOver 10 rfl) hh hhs (⟨rfl, by omega, by decide⟩) ?_
      refine g_aload_1 hX (dk DX1_saidOver 11 rfl) ?_
      refine g_iload_4 hX (dk DX1_saidOver 12 rfl) ?_
      refine i_iaload hX (dk DX1_saidOver 13 rfl) hb hbs (⟨rfl, by omega, by decide⟩) ?_
      refine g_imul hX (dk DX1_saidOver 14 rfl) ?_
      refine g_iadd hX (dk DX1_saidOver 15 rfl) ?_
      refine g_istore_3 hX (dk DX1_saidOver 16 rfl) (by decide) rfl ?_
      refine g_iinc_4 hX (dk DX1_saidOver 17 rfl) (nI_1 y) (by decide) rfl ?_
      refine g_goto (tgt := 5) hX (dk DX1_saidOver 18 rfl) (by decide) ?_
      exact ih k (by omega) (y + 1) _ (by omega) hv
  refine g_iconst (v := 0) hX (dk DX1_saidOver 0 rfl) (by decide) ?_
  refine g_istore_3 hX (dk DX1_saidOver 1 rfl) (by decide) rfl ?_
  refine g_iconst (v := 0) hX (dk DX1_saidOver 2 rfl) (by decide) ?_
  refine g_istore_4 hX (dk DX1_saidOver 3 rfl) (by decide) rfl ?_
  exact loop5 4 0 0 (Nat.zero_add _) rfl

set_option maxRecDepth 8000 in
set_option maxHeartbeats 4000000 in
theorem cv_saidOver_2 {G : Gt} (hG : Gok G) {I : It} {h : Ht}  {q : Nat} {bq hq2 : Nat} (hq : q < hn h) (hcl : (hs h q).1 = 2) (hb : bq < hn h) (hbs : hs h bq = (20, 4)) (hh : hq2 < hn h) (hhs : hs h hq2 = (20, 4)) : Con G (3) 0 0 mX2_saidOver [.ref q, .ref bq, .ref hq2] I h (rI (svC 2 (I q 1) (I bq) (I hq2)) I h) := by
  refine con_intro (own := RX2) (lo0 := [some (.ref q), some (.ref bq), some (.ref hq2)]) hG rfl pl_X2 (Nat.le_of_ble_eq_true rfl) rfl (fun X hX => ?_)
  refine g_aload_2 hX (dk DX2_saidOver 0 rfl) ?_
  refine g_iconst (v := 2) hX (dk DX2_saidOver 1 rfl) (by decide) ?_
  refine i_iaload (j := 2) hX (dk DX2_saidOver 2 rfl) hh hhs (⟨rfl, by decide, by decide⟩) ?_
  refine g_aload_1 hX (dk DX2_saidOver 3 rfl) ?_
  refine g_iconst (v := 2) hX (dk DX2_saidOver 4 rfl) (by decide) ?_
  refine i_iaload (j := 2) hX (dk DX2_saidOver 5 rfl) hb hbs (⟨rfl, by decide, by decide⟩) ?_
  refine g_imul hX (dk DX2_saidOver 6 rfl) ?_
  refine g_aload_2 hX (dk DX2_saidOver 7 rfl) ?_
  refine g_iconst (v := 3) hX (dk DX2_saidOver 8 rfl) (by decide) ?_
  refine i_iaload (j := 3) hX (dk DX2_saidOver 9 rfl) hh hhs (⟨rfl, by decide, by decide⟩) ?_
  refine g_aload_1 hX (dk DX2_saidOver 10 rfl) ?_
  refine g_iconst (v := 3) hX (dk DX2_saidOver 11 rfl) (by decide) ?_
  refine i_iaload (j := 3) hX (dk DX2_saidOver 12 rfl) hb hbs (⟨rfl, by decide, by decide⟩) ?_
  refine g_imul hX (dk DX2_saidOver 13 rfl) ?_
  refine g_iadd hX (dk DX2_saidOver 14 rfl) ?_
  refine g_ireturn hX (dk DX2_saidOver 15 rfl) rfl (rfl) (by decide) (by decide) ?_
  exact rI_of (by rw [svC_2];  first | done | rfl | rw [if_neg (Int32.not_lt.mpr (by assumption))] | rw [if_pos (Int32.not_le.mp (by assumption))]) rfl rfl

set_option maxRecDepth 8000 in
set_option maxHeartbeats 4000000 in
theorem cv1_saidOver_4 {G : Gt} (hG : Gok G) {I : It} {h : Ht}  {q : Nat} {bq hq2 : Nat} (hq : q < hn h) (hcl : (hs h q).1 = 4) (hb : bq < hn h) (hbs : hs h bq = (20, 4)) (hh : hq2 < hn h) (hhs : hs h hq2 = (20, 4)) : Con G (1) 0 0 mX1_saidOver [.ref q, .ref bq, .ref hq2] I h (rI (svA (I bq) (I hq2) 4 0 0) I h) := by
  refine con_intro (own := RX1) (lo0 := [some (.ref q), some (.ref bq), some (.ref hq2), none, none]) hG rfl pl_X1 (Nat.le_of_ble_eq_true rfl) rfl (fun X hX => ?_)
  have loop5 : ∀ (k y : Nat) (z : Int32), y + k = 4 → svA (I bq) (I hq2) k y z = svA (I bq) (I hq2) 4 0 0 → GG G (1) 0 0 X (rI (svA (I bq) (I hq2) 4 0 0) I h) 5 [some (.ref q), some (.ref bq), some (.ref hq2), some (.int z), some (.int (nI y))] [] (I) (h) 0 0 := by
    intro k
    induction k using Nat.strongRecOn with | _ k ih => ?_
    intro y z hk hv
    refine g_iload_4 hX (dk DX1_saidOver 4 rfl) ?_
    refine g_iconst (v := 4) hX (dk DX1_saidOver 5 rfl) (by decide) ?_
    refine g_icmp_ge (tgt := 29) hX (dk DX1_saidOver 6 rfl) (by decide) (fun hc1 => ?_) (fun hc1 => ?_)
    · refine g_iload_3 hX (dk DX1_saidOver 19 rfl) ?_
      refine g_ireturn hX (dk DX1_saidOver 20 rfl) rfl (rfl) (by decide) (by decide) ?_
      have hk0 := cl_end (e := 4) hk (by decide) hc1
      subst hk0
      exact rI_of hv rfl rfl
    · obtain ⟨k, rfl⟩ := cl_go (e := 4) hk (by decide) hc1
      refine g_iload_3 hX (dk DX1_saidOver 7 rfl) ?_
      refine g_aload_2 hX (dk DX1_saidOver 8 rfl) ?_
      refine g_iload_4 hX (dk DX1_saidOver 9 rfl) ?_
      refine i_iaload hX (dk DX1_saidOver 10 rfl) hh hhs (⟨rfl, by omega, by decide⟩) ?_
      refine g_aload_1 hX (dk DX1_saidOver 11 rfl) ?_
      refine g_iload_4 hX (dk DX1_saidOver 12 rfl) ?_
      refine i_iaload hX (dk DX1_saidOver 13 rfl) hb hbs (⟨rfl, by omega, by decide⟩) ?_
      refine g_imul hX (dk DX1_saidOver 14 rfl) ?_
      refine g_iadd hX (dk DX1_saidOver 15 rfl) ?_
      refine g_istore_3 hX (dk DX1_saidOver 16 rfl) (by decide) rfl ?_
      refine g_iinc_4 hX (dk DX1_saidOver 17 rfl) (nI_1 y) (by decide) rfl ?_
      refine g_goto (tgt := 5) hX (dk DX1_saidOver 18 rfl) (by decide) ?_
      exact ih k (by omega) (y + 1) _ (by omega) hv
  refine g_iconst (v := 0) hX (dk DX1_saidOver 0 rfl) (by decide) ?_
  refine g_istore_3 hX (dk DX1_saidOver 1 rfl) (by decide) rfl ?_
  refine g_iconst (v := 0) hX (dk DX1_saidOver 2 rfl) (by decide) ?_
  refine g_istore_4 hX (dk DX1_saidOver 3 rfl) (by decide) rfl ?_
  exact loop5 4 0 0 (Nat.zero_add _) rfl

set_option maxRecDepth 8000 in
set_option maxHeartbeats 4000000 in
theorem cv_saidOver_4 {G : Gt} (hG : Gok G) {I : It} {h : Ht}  {q : Nat} {bq hq2 : Nat} (hq : q < hn h) (hcl : (hs h q).1 = 4) (hb : bq < hn h) (hbs : hs h bq = (20, 4)) (hh : hq2 < hn h) (hhs : hs h hq2 = (20, 4)) : Con G (3) 0 0 mX4_saidOver [.ref q, .ref bq, .ref hq2] I h (rI (svC 4 (I q 1) (I bq) (I hq2)) I h) := by
  refine con_intro (own := RX4) (lo0 := [some (.ref q), some (.ref bq), some (.ref hq2)]) hG rfl pl_X4 (Nat.le_of_ble_eq_true rfl) rfl (fun X hX => ?_)
  refine g_aload_2 hX (dk DX4_saidOver 0 rfl) ?_
  refine g_iconst (v := 3) hX (dk DX4_saidOver 1 rfl) (by decide) ?_
  refine i_iaload (j := 3) hX (dk DX4_saidOver 2 rfl) hh hhs (⟨rfl, by decide, by decide⟩) ?_
  refine g_if_ne (tgt := 10) hX (dk DX4_saidOver 3 rfl) (by decide) (fun hc1 => ?_) (fun hc1 => ?_)
  · refine g_aload_0 hX (dk DX4_saidOver 6 rfl) ?_
    refine g_aload_1 hX (dk DX4_saidOver 7 rfl) ?_
    refine g_aload_2 hX (dk DX4_saidOver 8 rfl) ?_
    refine g_c3I hX sX4_saidOver_13_c4 (by decide) (Nat.le_of_ble_eq_true rfl) (rc0 rfl hq hcl) (by decide) (by decide) (cv1_saidOver_4 hG hq hcl hb hbs hh hhs) ?_
    refine g_ireturn hX (dk DX4_saidOver 10 rfl) rfl (rfl) (by decide) (by decide) ?_
    exact rI_of (by rw [svC_4]; (try first | rw [if_pos hc1] | rw [if_neg hc1] | rw [if_neg (not_not_intro hc1)]); first | done | rfl | rw [if_neg (Int32.not_lt.mpr (by assumption))] | rw [if_pos (Int32.not_le.mp (by assumption))]) rfl rfl
  · refine g_iconst (v := 0) hX (dk DX4_saidOver 4 rfl) (by decide) ?_
    refine g_goto (tgt := 16) hX (dk DX4_saidOver 5 rfl) (by decide) ?_
    refine g_ireturn hX (dk DX4_saidOver 10 rfl) rfl (rfl) (by decide) (by decide) ?_
    exact rI_of (by rw [svC_4]; (try first | rw [if_pos hc1] | rw [if_neg hc1] | rw [if_neg (not_not_intro hc1)]); first | done | rfl | rw [if_neg (Int32.not_lt.mpr (by assumption))] | rw [if_pos (Int32.not_le.mp (by assumption))]) rfl rfl

set_option maxRecDepth 8000 in
set_option maxHeartbeats 4000000 in
theorem cv2_saidOver_6 {G : Gt} (hG : Gok G) {I : It} {h : Ht}  {q : Nat} {bq hq2 : Nat} (hq : q < hn h) (hcl : (hs h q).1 = 6) (hb : bq < hn h) (hbs : hs h bq = (20, 4)) (hh : hq2 < hn h) (hhs : hs h hq2 = (20, 4)) : Con G (1) 0 0 mX2_saidOver [.ref q, .ref bq, .ref hq2] I h (rI (I hq2 2 * I bq 2 + I hq2 3 * I bq 3) I h) := by
  refine con_intro (own := RX2) (lo0 := [some (.ref q), some (.ref bq), some (.ref hq2)]) hG rfl pl_X2 (Nat.le_of_ble_eq_true rfl) rfl (fun X hX => ?_)
  refine g_aload_2 hX (dk DX2_saidOver 0 rfl) ?_
  refine g_iconst (v := 2) hX (dk DX2_saidOver 1 rfl) (by decide) ?_
  refine i_iaload (j := 2) hX (dk DX2_saidOver 2 rfl) hh hhs (⟨rfl, by decide, by decide⟩) ?_
  refine g_aload_1 hX (dk DX2_saidOver 3 rfl) ?_
  refine g_iconst (v := 2) hX (dk DX2_saidOver 4 rfl) (by decide) ?_
  refine i_iaload (j := 2) hX (dk DX2_saidOver 5 rfl) hb hbs (⟨rfl, by decide, by decide⟩) ?_
  refine g_imul hX (dk DX2_saidOver 6 rfl) ?_
  refine g_aload_2 hX (dk DX2_saidOver 7 rfl) ?_
  refine g_iconst (v := 3) hX (dk DX2_saidOver 8 rfl) (by decide) ?_
  refine i_iaload (j := 3) hX (dk DX2_saidOver 9 rfl) hh hhs (⟨rfl, by decide, by decide⟩) ?_
  refine g_aload_1 hX (dk DX2_saidOver 10 rfl) ?_
  refine g_iconst (v := 3) hX (dk DX2_saidOver 11 rfl) (by decide) ?_
  refine i_iaload (j := 3) hX (dk DX2_saidOver 12 rfl) hb hbs (⟨rfl, by decide, by decide⟩) ?_
  refine g_imul hX (dk DX2_saidOver 13 rfl) ?_
  refine g_iadd hX (dk DX2_saidOver 14 rfl) ?_
  refine g_ireturn hX (dk DX2_saidOver 15 rfl) rfl (rfl) (by decide) (by decide) ?_
  exact rI_of (by  first | done | rfl | rw [if_neg (Int32.not_lt.mpr (by assumption))] | rw [if_pos (Int32.not_le.mp (by assumption))]) rfl rfl

set_option maxRecDepth 8000 in
set_option maxHeartbeats 4000000 in
theorem cv_saidOver_6 {G : Gt} (hG : Gok G) {I : It} {h : Ht}  {q : Nat} {bq hq2 : Nat} (hq : q < hn h) (hcl : (hs h q).1 = 6) (hb : bq < hn h) (hbs : hs h bq = (20, 4)) (hh : hq2 < hn h) (hhs : hs h hq2 = (20, 4)) : Con G (3) 0 0 mX6_saidOver [.ref q, .ref bq, .ref hq2] I h (rI (svC 6 (I q 1) (I bq) (I hq2)) I h) := by
  refine con_intro (own := RX6) (lo0 := [some (.ref q), some (.ref bq), some (.ref hq2)]) hG rfl pl_X6 (Nat.le_of_ble_eq_true rfl) rfl (fun X hX => ?_)
  refine g_aload_0 hX (dk DX6_saidOver 0 rfl) ?_
  refine g_aload_1 hX (dk DX6_saidOver 1 rfl) ?_
  refine g_aload_2 hX (dk DX6_saidOver 2 rfl) ?_
  refine g_c3I hX sX6_saidOver_3_c6 (by decide) (Nat.le_of_ble_eq_true rfl) (rc0 rfl hq hcl) (by decide) (by decide) (cv2_saidOver_6 hG hq hcl hb hbs hh hhs) ?_
  refine g_iconst (v := 2) hX (dk DX6_saidOver 4 rfl) (by decide) ?_
  refine g_aload_0 hX (dk DX6_saidOver 5 rfl) ?_
  refine g_getI hX (dk DX6_saidOver 6 rfl) KX6 fX6_13 (by decide) rfl hq hcl ?_
  refine g_imul hX (dk DX6_saidOver 7 rfl) ?_
  refine g_aload_2 hX (dk DX6_saidOver 8 rfl) ?_
  refine g_iconst (v := 1) hX (dk DX6_saidOver 9 rfl) (by decide) ?_
  refine i_iaload (j := 1) hX (dk DX6_saidOver 10 rfl) hh hhs (⟨rfl, by decide, by decide⟩) ?_
  refine g_imul hX (dk DX6_saidOver 11 rfl) ?_
  refine g_iadd hX (dk DX6_saidOver 12 rfl) ?_
  refine g_ireturn hX (dk DX6_saidOver 13 rfl) rfl (rfl) (by decide) (by decide) ?_
  exact rI_of (by rw [svC_6];  first | done | rfl | rw [if_neg (Int32.not_lt.mpr (by assumption))] | rw [if_pos (Int32.not_le.mp (by assumption))]) rfl rfl

set_option maxRecDepth 8000 in
set_option maxHeartbeats 4000000 in
theorem cv1_saidOver_8 {G : Gt} (hG : Gok G) {I : It} {h : Ht}  {q : Nat} {bq hq2 : Nat} (hq : q < hn h) (hcl : (hs h q).1 = 8) (hb : bq < hn h) (hbs : hs h bq = (20, 4)) (hh : hq2 < hn h) (hhs : hs h hq2 = (20, 4)) : Con G (1) 0 0 mX1_saidOver [.ref q, .ref bq, .ref hq2] I h (rI (svA (I bq) (I hq2) 4 0 0) I h) := by
  refine con_intro (own := RX1) (lo0 := [some (.ref q), some (.ref bq), some (.ref hq2), none, none]) hG rfl pl_X1 (Nat.le_of_ble_eq_true rfl) rfl (fun X hX => ?_)
  have loop5 : ∀ (k y : Nat) (z : Int32), y + k = 4 → svA (I bq) (I hq2) k y z = svA (I bq) (I hq2) 4 0 0 → GG G (1) 0 0 X (rI (svA (I bq) (I hq2) 4 0 0) I h) 5 [some (.ref q), some (.ref bq), some (.ref hq2), some (.int z), some (.int (nI y))] [] (I) (h) 0 0 := by
    intro k
    induction k using Nat.strongRecOn with | _ k ih => ?_
    intro y z hk hv
    refine g_iload_4 hX (dk DX1_saidOver 4 rfl) ?_
    refine g_iconst (v := 4) hX (dk DX1_saidOver 5 rfl) (by decide) ?_
    refine g_icmp_ge (tgt := 29) hX (dk DX1_saidOver 6 rfl) (by decide) (fun hc1 => ?_) (fun hc1 => ?_)
    · refine g_iload_3 hX (dk DX1_saidOver 19 rfl) ?_
      refine g_ireturn hX (dk DX1_saidOver 20 rfl) rfl (rfl) (by decide) (by decide) ?_
      have hk0 := cl_end (e := 4) hk (by decide) hc1
      subst hk0
      exact rI_of hv rfl rfl
    · obtain ⟨k, rfl⟩ := cl_go (e := 4) hk (by decide) hc1
      refine g_iload_3 hX (dk DX1_saidOver 7 rfl) ?_
      refine g_aload_2 hX (dk DX1_saidOver 8 rfl) ?_
      refine g_iload_4 hX (dk DX1_saidOver 9 rfl) ?_
      refine i_iaload hX (dk DX1_saidOver 10 rfl) hh hhs (⟨rfl, by omega, by decide⟩) ?_
      refine g_aload_1 hX (dk DX1_saidOver 11 rfl) ?_
      refine g_iload_4 hX (dk DX1_saidOver 12 rfl) ?_
      refine i_iaload hX (dk DX1_saidOver 13 rfl) hb hbs (⟨rfl, by omega, by decide⟩) ?_
      refine g_imul hX (dk DX1_saidOver 14 rfl) ?_
      refine g_iadd hX (dk DX1_saidOver 15 rfl) ?_
      refine g_istore_3 hX (dk DX1_saidOver 16 rfl) (by decide) rfl ?_
      refine g_iinc_4 hX (dk DX1_saidOver 17 rfl) (nI_1 y) (by decide) rfl ?_
      refine g_goto (tgt := 5) hX (dk DX1_saidOver 18 rfl) (by decide) ?_
      exact ih k (by omega) (y + 1) _ (by omega) hv
  refine g_iconst (v := 0) hX (dk DX1_saidOver 0 rfl) (by decide) ?_
  refine g_istore_3 hX (dk DX1_saidOver 1 rfl) (by decide) rfl ?_
  refine g_iconst (v := 0) hX (dk DX1_saidOver 2 rfl) (by decide) ?_
  refine g_istore_4 hX (dk DX1_saidOver 3 rfl) (by decide) rfl ?_
  exact loop5 4 0 0 (Nat.zero_add _) rfl

set_option maxRecDepth 8000 in
set_option maxHeartbeats 4000000 in
theorem cv9_saidOver_8 {G : Gt} (hG : Gok G) {I : It} {h : Ht}  {q : Nat} {bq hq2 : Nat} (hq : q < hn h) (hcl : (hs h q).1 = 8) (hb : bq < hn h) (hbs : hs h bq = (20, 4)) (hh : hq2 < hn h) (hhs : hs h hq2 = (20, 4)) : Con G (2) 0 0 mX9_saidOver [.ref q, .ref bq, .ref hq2] I h (rI (svA (I bq) (I hq2) 4 0 0 + I q 1 * I hq2 0) I h) := by
  refine con_intro (own := RX9) (lo0 := [some (.ref q), some (.ref bq), some (.ref hq2)]) hG rfl pl_X9 (Nat.le_of_ble_eq_true rfl) rfl (fun X hX => ?_)
  refine g_aload_0 hX (dk DX9_saidOver 0 rfl) ?_
  refine g_aload_1 hX (dk DX9_saidOver 1 rfl) ?_
  refine g_aload_2 hX (dk DX9_saidOver 2 rfl) ?_
  refine g_c3I hX sX9_saidOver_3_c8 (by decide) (Nat.le_of_ble_eq_true rfl) (rc0 rfl hq hcl) (by decide) (by decide) (cv1_saidOver_8 hG hq hcl hb hbs hh hhs) ?_
  refine g_aload_0 hX (dk DX9_saidOver 4 rfl) ?_
  refine g_getI hX (dk DX9_saidOver 5 rfl) KX8 fX9_13 (by decide) rfl hq hcl ?_
  refine g_aload_2 hX (dk DX9_saidOver 6 rfl) ?_
  refine g_iconst (v := 0) hX (dk DX9_saidOver 7 rfl) (by decide) ?_
  refine i_iaload (j := 0) hX (dk DX9_saidOver 8 rfl) hh hhs (⟨rfl, by decide, by decide⟩) ?_
  refine g_imul hX (dk DX9_saidOver 9 rfl) ?_
  refine g_iadd hX (dk DX9_saidOver 10 rfl) ?_
  refine g_ireturn hX (dk DX9_saidOver 11 rfl) rfl (rfl) (by decide) (by decide) ?_
  exact rI_of (by  first | done | rfl | rw [if_neg (Int32.not_lt.mpr (by assumption))] | rw [if_pos (Int32.not_le.mp (by assumption))]) rfl rfl

set_option maxRecDepth 8000 in
set_option maxHeartbeats 4000000 in
theorem cv_saidOver_8 {G : Gt} (hG : Gok G) {I : It} {h : Ht}  {q : Nat} {bq hq2 : Nat} (hq : q < hn h) (hcl : (hs h q).1 = 8) (hb : bq < hn h) (hbs : hs h bq = (20, 4)) (hh : hq2 < hn h) (hhs : hs h hq2 = (20, 4)) : Con G (3) 0 0 mX8_saidOver [.ref q, .ref bq, .ref hq2] I h (rI (svC 8 (I q 1) (I bq) (I hq2)) I h) := by
  refine con_intro (own := RX8) (lo0 := [some (.ref q), some (.ref bq), some (.ref hq2)]) hG rfl pl_X8 (Nat.le_of_ble_eq_true rfl) rfl (fun X hX => ?_)
  refine g_aload_0 hX (dk DX8_saidOver 0 rfl) ?_
  refine g_aload_1 hX (dk DX8_saidOver 1 rfl) ?_
  refine g_aload_2 hX (dk DX8_saidOver 2 rfl) ?_
  refine g_c3I hX sX8_saidOver_3_c8 (by decide) (Nat.le_of_ble_eq_true rfl) (rc0 rfl hq hcl) (by decide) (by decide) (cv9_saidOver_8 hG hq hcl hb hbs hh hhs) ?_
  refine g_aload_2 hX (dk DX8_saidOver 4 rfl) ?_
  refine g_iconst (v := 2) hX (dk DX8_saidOver 5 rfl) (by decide) ?_
  refine i_iaload (j := 2) hX (dk DX8_saidOver 6 rfl) hh hhs (⟨rfl, by decide, by decide⟩) ?_
  refine g_if_le (tgt := 19) hX (dk DX8_saidOver 7 rfl) (by decide) (fun hc1 => ?_) (fun hc1 => ?_)
  · refine g_iconst (v := 0) hX (dk DX8_saidOver 11 rfl) (by decide) ?_
    refine g_iadd hX (dk DX8_saidOver 12 rfl) ?_
    refine g_ireturn hX (dk DX8_saidOver 13 rfl) rfl (rfl) (by decide) (by decide) ?_
    exact rI_of (by rw [svC_8]; (try first | rw [if_pos hc1] | rw [if_neg hc1] | rw [if_neg (not_not_intro hc1)]); first | done | rfl | rw [if_neg (Int32.not_lt.mpr (by assumption))] | rw [if_pos (Int32.not_le.mp (by assumption))]) rfl rfl
  · refine g_aload_0 hX (dk DX8_saidOver 8 rfl) ?_
    refine g_getI hX (dk DX8_saidOver 9 rfl) KX8 fX8_13 (by decide) rfl hq hcl ?_
    refine g_goto (tgt := 20) hX (dk DX8_saidOver 10 rfl) (by decide) ?_
    refine g_iadd hX (dk DX8_saidOver 12 rfl) ?_
    refine g_ireturn hX (dk DX8_saidOver 13 rfl) rfl (rfl) (by decide) (by decide) ?_
    exact rI_of (by rw [svC_8]; (try first | rw [if_pos hc1] | rw [if_neg hc1] | rw [if_neg (not_not_intro hc1)]); first | done | rfl | rw [if_neg (Int32.not_lt.mpr (by assumption))] | rw [if_pos (Int32.not_le.mp (by assumption))]) rfl rfl

set_option maxRecDepth 8000 in
set_option maxHeartbeats 4000000 in
theorem cv1_saidOver_9 {G : Gt} (hG : Gok G) {I : It} {h : Ht}  {q : Nat} {bq hq2 : Nat} (hq : q < hn h) (hcl : (hs h q).1 = 9) (hb : bq < hn h) (hbs : hs h bq = (20, 4)) (hh : hq2 < hn h) (hhs : hs h hq2 = (20, 4)) : Con G (1) 0 0 mX1_saidOver [.ref q, .ref bq, .ref hq2] I h (rI (svA (I bq) (I hq2) 4 0 0) I h) := by
  refine con_intro (own := RX1) (lo0 := [some (.ref q), some (.ref bq), some (.ref hq2), none, none]) hG rfl pl_X1 (Nat.le_of_ble_eq_true rfl) rfl (fun X hX => ?_)
  have loop5 : ∀ (k y : Nat) (z : Int32), y + k = 4 → svA (I bq) (I hq2) k y z = svA (I bq) (I hq2) 4 0 0 → GG G (1) 0 0 X (rI (svA (I bq) (I hq2) 4 0 0) I h) 5 [some (.ref q), some (.ref bq), some (.ref hq2), some (.int z), some (.int (nI y))] [] (I) (h) 0 0 := by
    intro k
    induction k using Nat.strongRecOn with | _ k ih => ?_
    intro y z hk hv
    refine g_iload_4 hX (dk DX1_saidOver 4 rfl) ?_
    refine g_iconst (v := 4) hX (dk DX1_saidOver 5 rfl) (by decide) ?_
    refine g_icmp_ge (tgt := 29) hX (dk DX1_saidOver 6 rfl) (by decide) (fun hc1 => ?_) (fun hc1 => ?_)
    · refine g_iload_3 hX (dk DX1_saidOver 19 rfl) ?_
      refine g_ireturn hX (dk DX1_saidOver 20 rfl) rfl (rfl) (by decide) (by decide) ?_
      have hk0 := cl_end (e := 4) hk (by decide) hc1
      subst hk0
      exact rI_of hv rfl rfl
    · obtain ⟨k, rfl⟩ := cl_go (e := 4) hk (by decide) hc1
      refine g_iload_3 hX (dk DX1_saidOver 7 rfl) ?_
      refine g_aload_2 hX (dk DX1_saidOver 8 rfl) ?_
      refine g_iload_4 hX (dk DX1_saidOver 9 rfl) ?_
      refine i_iaload hX (dk DX1_saidOver 10 rfl) hh hhs (⟨rfl, by omega, by decide⟩) ?_
      refine g_aload_1 hX (dk DX1_saidOver 11 rfl) ?_
      refine g_iload_4 hX (dk DX1_saidOver 12 rfl) ?_
      refine i_iaload hX (dk DX1_saidOver 13 rfl) hb hbs (⟨rfl, by omega, by decide⟩) ?_
      refine g_imul hX (dk DX1_saidOver 14 rfl) ?_
      refine g_iadd hX (dk DX1_saidOver 15 rfl) ?_
      refine g_istore_3 hX (dk DX1_saidOver 16 rfl) (by decide) rfl ?_
      refine g_iinc_4 hX (dk DX1_saidOver 17 rfl) (nI_1 y) (by decide) rfl ?_
      refine g_goto (tgt := 5) hX (dk DX1_saidOver 18 rfl) (by decide) ?_
      exact ih k (by omega) (y + 1) _ (by omega) hv
  refine g_iconst (v := 0) hX (dk DX1_saidOver 0 rfl) (by decide) ?_
  refine g_istore_3 hX (dk DX1_saidOver 1 rfl) (by decide) rfl ?_
  refine g_iconst (v := 0) hX (dk DX1_saidOver 2 rfl) (by decide) ?_
  refine g_istore_4 hX (dk DX1_saidOver 3 rfl) (by decide) rfl ?_
  exact loop5 4 0 0 (Nat.zero_add _) rfl

set_option maxRecDepth 8000 in
set_option maxHeartbeats 4000000 in
theorem cv_saidOver_9 {G : Gt} (hG : Gok G) {I : It} {h : Ht}  {q : Nat} {bq hq2 : Nat} (hq : q < hn h) (hcl : (hs h q).1 = 9) (hb : bq < hn h) (hbs : hs h bq = (20, 4)) (hh : hq2 < hn h) (hhs : hs h hq2 = (20, 4)) : Con G (3) 0 0 mX9_saidOver [.ref q, .ref bq, .ref hq2] I h (rI (svC 9 (I q 1) (I bq) (I hq2)) I h) := by
  refine con_intro (own := RX9) (lo0 := [some (.ref q), some (.ref bq), some (.ref hq2)]) hG rfl pl_X9 (Nat.le_of_ble_eq_true rfl) rfl (fun X hX => ?_)
  refine g_aload_0 hX (dk DX9_saidOver 0 rfl) ?_
  refine g_aload_1 hX (dk DX9_saidOver 1 rfl) ?_
  refine g_aload_2 hX (dk DX9_saidOver 2 rfl) ?_
  refine g_c3I hX sX9_saidOver_3_c9 (by decide) (Nat.le_of_ble_eq_true rfl) (rc0 rfl hq hcl) (by decide) (by decide) (cv1_saidOver_9 hG hq hcl hb hbs hh hhs) ?_
  refine g_aload_0 hX (dk DX9_saidOver 4 rfl) ?_
  refine g_getI hX (dk DX9_saidOver 5 rfl) KX9 fX9_13 (by decide) rfl hq hcl ?_
  refine g_aload_2 hX (dk DX9_saidOver 6 rfl) ?_
  refine g_iconst (v := 0) hX (dk DX9_saidOver 7 rfl) (by decide) ?_
  refine i_iaload (j := 0) hX (dk DX9_saidOver 8 rfl) hh hhs (⟨rfl, by decide, by decide⟩) ?_
  refine g_imul hX (dk DX9_saidOver 9 rfl) ?_
  refine g_iadd hX (dk DX9_saidOver 10 rfl) ?_
  refine g_ireturn hX (dk DX9_saidOver 11 rfl) rfl (rfl) (by decide) (by decide) ?_
  exact rI_of (by rw [svC_9];  first | done | rfl | rw [if_neg (Int32.not_lt.mpr (by assumption))] | rw [if_pos (Int32.not_le.mp (by assumption))]) rfl rfl

set_option maxRecDepth 8000 in
set_option maxHeartbeats 4000000 in
theorem cv1_saidOver_10 {G : Gt} (hG : Gok G) {I : It} {h : Ht}  {q : Nat} {bq hq2 : Nat} (hq : q < hn h) (hcl : (hs h q).1 = 10) (hb : bq < hn h) (hbs : hs h bq = (20, 4)) (hh : hq2 < hn h) (hhs : hs h hq2 = (20, 4)) : Con G (1) 0 0 mX1_saidOver [.ref q, .ref bq, .ref hq2] I h (rI (svA (I bq) (I hq2) 4 0 0) I h) := by
  refine con_intro (own := RX1) (lo0 := [some (.ref q), some (.ref bq), some (.ref hq2), none, none]) hG rfl pl_X1 (Nat.le_of_ble_eq_true rfl) rfl (fun X hX => ?_)
  have loop5 : ∀ (k y : Nat) (z : Int32), y + k = 4 → svA (I bq) (I hq2) k y z = svA (I bq) (I hq2) 4 0 0 → GG G (1) 0 0 X (rI (svA (I bq) (I hq2) 4 0 0) I h) 5 [some (.ref q), some (.ref bq), some (.ref hq2), some (.int z), some (.int (nI y))] [] (I) (h) 0 0 := by
    intro k
    induction k using Nat.strongRecOn with | _ k ih => ?_
    intro y z hk hv
    refine g_iload_4 hX (dk DX1_saidOver 4 rfl) ?_
    refine g_iconst (v := 4) hX (dk DX1_saidOver 5 rfl) (by decide) ?_
    refine g_icmp_ge (tgt := 29) hX (dk DX1_saidOver 6 rfl) (by decide) (fun hc1 => ?_) (fun hc1 => ?_)
    · refine g_iload_3 hX (dk DX1_saidOver 19 rfl) ?_
      refine g_ireturn hX (dk DX1_saidOver 20 rfl) rfl (rfl) (by decide) (by decide) ?_
      have hk0 := cl_end (e := 4) hk (by decide) hc1
      subst hk0
      exact rI_of hv rfl rfl
    · obtain ⟨k, rfl⟩ := cl_go (e := 4) hk (by decide) hc1
      refine g_iload_3 hX (dk DX1_saidOver 7 rfl) ?_
      refine g_aload_2 hX (dk DX1_saidOver 8 rfl) ?_
      refine g_iload_4 hX (dk DX1_saidOver 9 rfl) ?_
      refine i_iaload hX (dk DX1_saidOver 10 rfl) hh hhs (⟨rfl, by omega, by decide⟩) ?_
      refine g_aload_1 hX (dk DX1_saidOver 11 rfl) ?_
      refine g_iload_4 hX (dk DX1_saidOver 12 rfl) ?_
      refine i_iaload hX (dk DX1_saidOver 13 rfl) hb hbs (⟨rfl, by omega, by decide⟩) ?_
      refine g_imul hX (dk DX1_saidOver 14 rfl) ?_
      refine g_iadd hX (dk DX1_saidOver 15 rfl) ?_
      refine g_istore_3 hX (dk DX1_saidOver 16 rfl) (by decide) rfl ?_
      refine g_iinc_4 hX (dk DX1_saidOver 17 rfl) (nI_1 y) (by decide) rfl ?_
      refine g_goto (tgt := 5) hX (dk DX1_saidOver 18 rfl) (by decide) ?_
      exact ih k (by omega) (y + 1) _ (by omega) hv
  refine g_iconst (v := 0) hX (dk DX1_saidOver 0 rfl) (by decide) ?_
  refine g_istore_3 hX (dk DX1_saidOver 1 rfl) (by decide) rfl ?_
  refine g_iconst (v := 0) hX (dk DX1_saidOver 2 rfl) (by decide) ?_
  refine g_istore_4 hX (dk DX1_saidOver 3 rfl) (by decide) rfl ?_
  exact loop5 4 0 0 (Nat.zero_add _) rfl

set_option maxRecDepth 8000 in
set_option maxHeartbeats 4000000 in
theorem cv4_saidOver_10 {G : Gt} (hG : Gok G) {I : It} {h : Ht}  {q : Nat} {bq hq2 : Nat} (hq : q < hn h) (hcl : (hs h q).1 = 10) (hb : bq < hn h) (hbs : hs h bq = (20, 4)) (hh : hq2 < hn h) (hhs : hs h hq2 = (20, 4)) : Con G (2) 0 0 mX4_saidOver [.ref q, .ref bq, .ref hq2] I h (rI (if I hq2 3 = 0 then 0 else svA (I bq) (I hq2) 4 0 0) I h) := by
  refine con_intro (own := RX4) (lo0 := [some (.ref q), some (.ref bq), some (.ref hq2)]) hG rfl pl_X4 (Nat.le_of_ble_eq_true rfl) rfl (fun X hX => ?_)
  refine g_aload_2 hX (dk DX4_saidOver 0 rfl) ?_
  refine g_iconst (v := 3) hX (dk DX4_saidOver 1 rfl) (by decide) ?_
  refine i_iaload (j := 3) hX (dk DX4_saidOver 2 rfl) hh hhs (⟨rfl, by decide, by decide⟩) ?_
  refine g_if_ne (tgt := 10) hX (dk DX4_saidOver 3 rfl) (by decide) (fun hc1 => ?_) (fun hc1 => ?_)
  · refine g_aload_0 hX (dk DX4_saidOver 6 rfl) ?_
    refine g_aload_1 hX (dk DX4_saidOver 7 rfl) ?_
    refine g_aload_2 hX (dk DX4_saidOver 8 rfl) ?_
    refine g_c3I hX sX4_saidOver_13_c10 (by decide) (Nat.le_of_ble_eq_true rfl) (rc0 rfl hq hcl) (by decide) (by decide) (cv1_saidOver_10 hG hq hcl hb hbs hh hhs) ?_
    refine g_ireturn hX (dk DX4_saidOver 10 rfl) rfl (rfl) (by decide) (by decide) ?_
    exact rI_of (by (try first | rw [if_pos hc1] | rw [if_neg hc1] | rw [if_neg (not_not_intro hc1)]); first | done | rfl | rw [if_neg (Int32.not_lt.mpr (by assumption))] | rw [if_pos (Int32.not_le.mp (by assumption))]) rfl rfl
  · refine g_iconst (v := 0) hX (dk DX4_saidOver 4 rfl) (by decide) ?_
    refine g_goto (tgt := 16) hX (dk DX4_saidOver 5 rfl) (by decide) ?_
    refine g_ireturn hX (dk DX4_saidOver 10 rfl) rfl (rfl) (by decide) (by decide) ?_
    exact rI_of (by (try first | rw [if_pos hc1] | rw [if_neg hc1] | rw [if_neg (not_not_intro hc1)]); first | done | rfl | rw [if_neg (Int32.not_lt.mpr (by assumption))] | rw [if_pos (Int32.not_le.mp (by assumption))]) rfl rfl

set_option maxRecDepth 8000 in
set_option maxHeartbeats 4000000 in
theorem cv_saidOver_10 {G : Gt} (hG : Gok G) {I : It} {h : Ht}  {q : Nat} {bq hq2 : Nat} (hq : q < hn h) (hcl : (hs h q).1 = 10) (hb : bq < hn h) (hbs : hs h bq = (20, 4)) (hh : hq2 < hn h) (hhs : hs h hq2 = (20, 4)) : Con G (3) 0 0 mX10_saidOver [.ref q, .ref bq, .ref hq2] I h (rI (svC 10 (I q 1) (I bq) (I hq2)) I h) := by
  refine con_intro (own := RX10) (lo0 := [some (.ref q), some (.ref bq), some (.ref hq2)]) hG rfl pl_X10 (Nat.le_of_ble_eq_true rfl) rfl (fun X hX => ?_)
  refine g_aload_0 hX (dk DX10_saidOver 0 rfl) ?_
  refine g_aload_1 hX (dk DX10_saidOver 1 rfl) ?_
  refine g_aload_2 hX (dk DX10_saidOver 2 rfl) ?_
  refine g_c3I hX sX10_saidOver_3_c10 (by decide) (Nat.le_of_ble_eq_true rfl) (rc0 rfl hq hcl) (by decide) (by decide) (cv4_saidOver_10 hG hq hcl hb hbs hh hhs) ?_
  refine g_aload_0 hX (dk DX10_saidOver 4 rfl) ?_
  refine g_getI hX (dk DX10_saidOver 5 rfl) KX10 fX10_11 (by decide) rfl hq hcl ?_
  refine g_isub hX (dk DX10_saidOver 6 rfl) ?_
  refine g_ireturn hX (dk DX10_saidOver 7 rfl) rfl (rfl) (by decide) (by decide) ?_
  exact rI_of (by rw [svC_10];  first | done | rfl | rw [if_neg (Int32.not_lt.mpr (by assumption))] | rw [if_pos (Int32.not_le.mp (by assumption))]) rfl rfl

theorem cD_saidOver {G : Gt} (hG : Gok G) {I : It} {h : Ht} {q : Nat} {bq hq2 : Nat} (hq : q < hn h) (hdc : isDC (hs h q).1) (hb : bq < hn h) (hbs : hs h bq = (20, 4)) (hh : hq2 < hn h) (hhs : hs h hq2 = (20, 4)) : Con G 3 0 0 (vm_saidOver (hs h q).1) [.ref q, .ref bq, .ref hq2] I h (rI (svC (hs h q).1 (I q 1) (I bq) (I hq2)) I h) := by
  rcases hdc with e | e | e | e | e | e | e <;> rw [e]
  · exact cv_saidOver_1 hG hq e hb hbs hh hhs
  · exact cv_saidOver_2 hG hq e hb hbs hh hhs
  · exact cv_saidOver_4 hG hq e hb hbs hh hhs
  · exact cv_saidOver_6 hG hq e hb hbs hh hhs
  · exact cv_saidOver_8 hG hq e hb hbs hh hhs
  · exact cv_saidOver_9 hG hq e hb hbs hh hhs
  · exact cv_saidOver_10 hG hq e hb hbs hh hhs
