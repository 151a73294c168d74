set_option maxRecDepth 8000 in
set_option maxHeartbeats 4000000 in
theorem cn_X5_saidBy {G : Gt} (hG : Gok G) {I : It} {h : Ht}  (hW : WX I h) {q : Nat} {y : Int32} (hq : q < hn h) (hdc : isDC (hs h q).1) (hps : hR h 1 13 = none) : Con G (5) 0 0 mX5_saidBy [.ref 1, .ref q, .int y] I h (rI 0 I h) := by
  refine con_intro (own := RX5) (lo0 := [some (.ref 1), some (.ref q), some (.int y)]) hG rfl pl_X5 (Nat.le_of_ble_eq_true rfl) rfl (fun X hX => ?_)
  have hH := hW.1
  have hc10 := hW.2.1.2
  refine g_aload_0 hX (dk DX5_saidBy 0 rfl) ?_
  refine g_getR (r := none) hX (dk DX5_saidBy 1 rfl) KX5 fX5_61 (by decide) rfl (CLt hH (q := 1) (by decide)) (CC hH 1 (by decide) rfl) (hps) ?_
  refine g_ifnonnullN hX (dk DX5_saidBy 2 rfl) ?_
  refine g_iconst (v := 0) hX (dk DX5_saidBy 3 rfl) (by decide) ?_
  refine g_goto (tgt := 23) hX (dk DX5_saidBy 4 rfl) (by decide) ?_
  refine g_ireturn hX (dk DX5_saidBy 12 rfl) rfl (rfl) (by decide) (by decide) ?_
  exact rI_of rfl rfl rfl

set_option maxRecDepth 8000 in
set_option maxHeartbeats 4000000 in
theorem cs_X5_saidBy {G : Gt} (hG : Gok G) {I : It} {h : Ht}  (hW : WX I h) {q : Nat} {y : Int32} (hq : q < hn h) (hdc : isDC (hs h q).1) {p : Nat} (hp : p < 6) (hps : hR h 1 13 = some (43 + 5 * p)) : Con G (5) 0 0 mX5_saidBy [.ref 1, .ref q, .int y] I h (rI (tgR I h p 115 q y 0 (tN (I (43 + 5 * p) 2)) 0 0) I h) := by
  refine con_intro (own := RX5) (lo0 := [some (.ref 1), some (.ref q), some (.int y)]) hG rfl pl_X5 (Nat.le_of_ble_eq_true rfl) rfl (fun X hX => ?_)
  have hH := hW.1
  have hc10 := hW.2.1.2
  refine g_aload_0 hX (dk DX5_saidBy 0 rfl) ?_
  refine g_getRs (r := (43 + 5 * p)) hX (dk DX5_saidBy 1 rfl) KX5 fX5_61 (by decide) rfl (CLt hH (q := 1) (by decide)) (CC hH 1 (by decide) rfl) (hps) ?_
  refine g_ifnonnull (tgt := 11) hX (dk DX5_saidBy 2 rfl) (by decide) ?_
  refine g_aload_0 hX (dk DX5_saidBy 5 rfl) ?_
  refine g_getRs (r := (43 + 5 * p)) hX (dk DX5_saidBy 6 rfl) KX5 fX5_61 (by decide) rfl (CLt hH (q := 1) (by decide)) (CC hH 1 (by decide) rfl) (hps) ?_
  refine g_bipush (v := 115) hX (dk DX5_saidBy 7 rfl) (by decide) ?_
  refine g_aload_1 hX (dk DX5_saidBy 8 rfl) ?_
  refine g_iload_2 hX (dk DX5_saidBy 9 rfl) ?_
  refine g_iconst (v := 0) hX (dk DX5_saidBy 10 rfl) (by decide) ?_
  refine g_c5I hX sX5_saidBy_20 (by decide) (Nat.le_of_ble_eq_true rfl) (rc0 rfl (PL0 hH hp) (PSh hH hp)) (by decide) (by decide) (c_X3_together hG hH hW.2.2.2.1 hp hq hdc) ?_
  refine g_ireturn hX (dk DX5_saidBy 12 rfl) rfl (rfl) (by decide) (by decide) ?_
  exact rI_of rfl rfl rfl

theorem c_X5_saidBy {G : Gt} (hG : Gok G) {I : It} {h : Ht} (hW : WX I h) {q : Nat} {y : Int32} (hq : q < hn h) (hdc : isDC (hs h q).1) : Con G 5 0 0 mX5_saidBy [.ref 1, .ref q, .int y] I h (rI (tgF I h 115 q y 0) I h) := by
  cases hps : hR h 1 13 with
  | none =>
    have hc := cn_X5_saidBy hG hW (y := y) hq hdc hps
    have e : tgF I h 115 q y 0 = 0 := by unfold tgF; rw [hps]
    rw [e]; exact hc
  | some P =>
    obtain ⟨p, hp, rfl⟩ := hW.2.2.2.1.1 P hps
    have hc := cs_X5_saidBy hG hW (y := y) hq hdc hp hps
    have e : tgF I h 115 q y 0 = tgR I h p 115 q y 0 (tN (I (43 + 5 * p) 2)) 0 0 := by unfold tgF; rw [hps]; show tgR I h (pN (43 + 5 * p)) 115 q y 0 _ 0 0 = _; rw [pN_eq]
    rw [e]; exact hc
set_option maxRecDepth 8000 in
set_option maxHeartbeats 4000000 in
theorem cn_X5_dearIn {G : Gt} (hG : Gok G) {I : It} {h : Ht}  (hW : WX I h) {q : Nat} {w : Int32} (hq : q < hn h) (hdc : isDC (hs h q).1) (hps : hR h 1 13 = none) : Con G (5) 0 0 mX5_dearIn [.ref 1, .ref q, .int w] I h (rI (I q 4 + 0) I h) := by
  refine con_intro (own := RX5) (lo0 := [some (.ref 1), some (.ref q), some (.int w)]) hG rfl pl_X5 (Nat.le_of_ble_eq_true rfl) rfl (fun X hX => ?_)
  have hH := hW.1
  have hc10 := hW.2.1.2
  refine g_aload_1 hX (dk DX5_dearIn 0 rfl) ?_
  refine g_getD (v := _) hX (dk DX5_dearIn 1 rfl) fX5_80 (by decide) hq hdc (rfl) ?_
  refine g_aload_0 hX (dk DX5_dearIn 2 rfl) ?_
  refine g_getR (r := none) hX (dk DX5_dearIn 3 rfl) KX5 fX5_61 (by decide) rfl (CLt hH (q := 1) (by decide)) (CC hH 1 (by decide) rfl) (hps) ?_
  refine g_ifnonnullN hX (dk DX5_dearIn 4 rfl) ?_
  refine g_iconst (v := 0) hX (dk DX5_dearIn 5 rfl) (by decide) ?_
  refine g_goto (tgt := 31) hX (dk DX5_dearIn 6 rfl) (by decide) ?_
  refine g_iadd hX (dk DX5_dearIn 16 rfl) ?_
  refine g_ireturn hX (dk DX5_dearIn 17 rfl) rfl (rfl) (by decide) (by decide) ?_
  exact rI_of rfl rfl rfl

set_option maxRecDepth 8000 in
set_option maxHeartbeats 4000000 in
theorem cs_X5_dearIn {G : Gt} (hG : Gok G) {I : It} {h : Ht}  (hW : WX I h) {q : Nat} {w : Int32} (hq : q < hn h) (hdc : isDC (hs h q).1) {p : Nat} (hp : p < 6) (hps : hR h 1 13 = some (43 + 5 * p)) : Con G (5) 0 0 mX5_dearIn [.ref 1, .ref q, .int w] I h (rI (I q 4 + tgR I h p 99 q 9 (remI w 60) (tN (I (43 + 5 * p) 2)) 0 0) I h) := by
  refine con_intro (own := RX5) (lo0 := [some (.ref 1), some (.ref q), some (.int w)]) hG rfl pl_X5 (Nat.le_of_ble_eq_true rfl) rfl (fun X hX => ?_)
  have hH := hW.1
  have hc10 := hW.2.1.2
  refine g_aload_1 hX (dk DX5_dearIn 0 rfl) ?_
  refine g_getD (v := _) hX (dk DX5_dearIn 1 rfl) fX5_80 (by decide) hq hdc (rfl) ?_
  refine g_aload_0 hX (dk DX5_dearIn 2 rfl) ?_
  refine g_getRs (r := (43 + 5 * p)) hX (dk DX5_dearIn 3 rfl) KX5 fX5_61 (by decide) rfl (CLt hH (q := 1) (by decide)) (CC hH 1 (by decide) rfl) (hps) ?_
  refine g_ifnonnull (tgt := 15) hX (dk DX5_dearIn 4 rfl) (by decide) ?_
  refine g_aload_0 hX (dk DX5_dearIn 7 rfl) ?_
  refine g_getRs (r := (43 + 5 * p)) hX (dk DX5_dearIn 8 rfl) KX5 fX5_61 (by decide) rfl (CLt hH (q := 1) (by decide)) (CC hH 1 (by decide) rfl) (hps) ?_
  refine g_bipush (v := 99) hX (dk DX5_dearIn 9 rfl) (by decide) ?_
  refine g_aload_1 hX (dk DX5_dearIn 10 rfl) ?_
  refine g_bipush (v := 9) hX (dk DX5_dearIn 11 rfl) (by decide) ?_
  refine g_iload_2 hX (dk DX5_dearIn 12 rfl) ?_
  refine g_bipush (v := 60) hX (dk DX5_dearIn 13 rfl) (by decide) ?_
  refine g_irem hX (dk DX5_dearIn 14 rfl) (by decide) ?_
  refine g_c5I hX sX5_dearIn_28 (by decide) (Nat.le_of_ble_eq_true rfl) (rc0 rfl (PL0 hH hp) (PSh hH hp)) (by decide) (by decide) (c_X3_together hG hH hW.2.2.2.1 hp hq hdc) ?_
  refine g_iadd hX (dk DX5_dearIn 16 rfl) ?_
  refine g_ireturn hX (dk DX5_dearIn 17 rfl) rfl (rfl) (by decide) (by decide) ?_
  exact rI_of rfl rfl rfl

theorem c_X5_dearIn {G : Gt} (hG : Gok G) {I : It} {h : Ht} (hW : WX I h) {q : Nat} {w : Int32} (hq : q < hn h) (hdc : isDC (hs h q).1) : Con G 5 0 0 mX5_dearIn [.ref 1, .ref q, .int w] I h (rI (I q 4 + tgF I h 99 q 9 (remI w 60)) I h) := by
  cases hps : hR h 1 13 with
  | none =>
    have hc := cn_X5_dearIn hG hW (w := w) hq hdc hps
    have e : tgF I h 99 q 9 (remI w 60) = 0 := by unfold tgF; rw [hps]
    rw [e]; exact hc
  | some P =>
    obtain ⟨p, hp, rfl⟩ := hW.2.2.2.1.1 P hps
    have hc := cs_X5_dearIn hG hW (w := w) hq hdc hp hps
    have e : tgF I h 99 q 9 (remI w 60) = tgR I h p 99 q 9 (remI w 60) (tN (I (43 + 5 * p) 2)) 0 0 := by unfold tgF; rw [hps]; show tgR I h (pN (43 + 5 * p)) 99 q 9 _ _ 0 0 = _; rw [pN_eq]
    rw [e]; exact hc
