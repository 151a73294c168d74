/-! the model's small methods -/
def hasI (s k : Int32) : Prop := (s >>> (k &&& 31)) &&& 1 = 1
def bitI (k : Int32) : Int32 := (1 : Int32) <<< (k &&& 31)
def withI (s k z : Int32) : Int32 := if z = 0 then s &&& (bitI k ^^^ (-1)) else s ||| bitI k
theorem le_nlt (a b : Int32) : a ≤ b ↔ ¬ b < a := Int32.not_lt.symm

set_option maxRecDepth 8000 in
set_option maxHeartbeats 4000000 in
theorem c_X12_in {G : Gt} (hG : Gok G) {I : It} {h : Ht}  {a b c : Int32} : Con G 1 0 0 mX12_in [.ref 0, .int a, .int b, .int c] I h (rI (bI (b ≤ a ∧ a ≤ c)) I h) := by
  refine con_intro (own := RX12) (lo0 := [some (.ref 0), some (.int a), some (.int b), some (.int c)]) hG rfl pl_X12 (Nat.le_of_ble_eq_true rfl) rfl (fun X hX => ?_)
  refine g_iload_1 hX (dk DX12_in 0 rfl) ?_
  refine g_iload_2 hX (dk DX12_in 1 rfl) ?_
  refine g_icmp_lt (tgt := 14) hX (dk DX12_in 2 rfl) (by decide) (fun hc1 => ?_) (fun hc1 => ?_)
  · refine g_iconst (v := 0) hX (dk DX12_in 8 rfl) (by decide) ?_
    refine g_ireturn hX (dk DX12_in 9 rfl) rfl (by decide) (by decide) (by decide) ?_
    exact rI_of (by grind [bI]) rfl rfl
  · refine g_iload_1 hX (dk DX12_in 3 rfl) ?_
    refine g_iload_3 hX (dk DX12_in 4 rfl) ?_
    refine g_icmp_gt (tgt := 14) hX (dk DX12_in 5 rfl) (by decide) (fun hc2 => ?_) (fun hc2 => ?_)
    · refine g_iconst (v := 0) hX (dk DX12_in 8 rfl) (by decide) ?_
      refine g_ireturn hX (dk DX12_in 9 rfl) rfl (by decide) (by decide) (by decide) ?_
      exact rI_of (by grind [bI]) rfl rfl
    · refine g_iconst (v := 1) hX (dk DX12_in 6 rfl) (by decide) ?_
      refine g_goto (tgt := 15) hX (dk DX12_in 7 rfl) (by decide) ?_
      refine g_ireturn hX (dk DX12_in 9 rfl) rfl (by decide) (by decide) (by decide) ?_
      exact rI_of (by grind [bI]) rfl rfl

set_option maxRecDepth 8000 in
set_option maxHeartbeats 4000000 in
theorem c_X12_has {G : Gt} (hG : Gok G) {I : It} {h : Ht}  {a b : Int32} : Con G 1 0 0 mX12_has [.ref 0, .int a, .int b] I h (rI (bI ((a >>> (b &&& 31)) &&& 1 = 1)) I h) := by
  refine con_intro (own := RX12) (lo0 := [some (.ref 0), some (.int a), some (.int b)]) hG rfl pl_X12 (Nat.le_of_ble_eq_true rfl) rfl (fun X hX => ?_)
  refine g_iload_1 hX (dk DX12_has 0 rfl) ?_
  refine g_iload_2 hX (dk DX12_has 1 rfl) ?_
  refine g_ishr hX (dk DX12_has 2 rfl) ?_
  refine g_iconst (v := 1) hX (dk DX12_has 3 rfl) (by decide) ?_
  refine g_iand hX (dk DX12_has 4 rfl) ?_
  refine g_iconst (v := 1) hX (dk DX12_has 5 rfl) (by decide) ?_
  refine g_icmp_ne (tgt := 13) hX (dk DX12_has 6 rfl) (by decide) (fun hc1 => ?_) (fun hc1 => ?_)
  · refine g_iconst (v := 0) hX (dk DX12_has 9 rfl) (by decide) ?_
    refine g_ireturn hX (dk DX12_has 10 rfl) rfl (by decide) (by decide) (by decide) ?_
    exact rI_of (by grind [bI]) rfl rfl
  · refine g_iconst (v := 1) hX (dk DX12_has 7 rfl) (by decide) ?_
    refine g_goto (tgt := 14) hX (dk DX12_has 8 rfl) (by decide) ?_
    refine g_ireturn hX (dk DX12_has 10 rfl) rfl (by decide) (by decide) (by decide) ?_
    exact rI_of (by grind [bI]) rfl rfl

set_option maxRecDepth 8000 in
set_option maxHeartbeats 4000000 in
theorem c_X12_isDoing {G : Gt} (hG : Gok G) {I : It} {h : Ht} (hM : HM h) {a : Int32} : Con G 2 0 0 mX12_isDoing [.ref 0, .int a] I h (rI (bI (0 ≤ a ∧ a ≤ I 0 0 - 1)) I h) := by
  refine con_intro (own := RX12) (lo0 := [some (.ref 0), some (.int a)]) hG rfl pl_X12 (Nat.le_of_ble_eq_true rfl) rfl (fun X hX => ?_)
  refine g_aload_0 hX (dk DX12_isDoing 0 rfl) ?_
  refine g_iload_1 hX (dk DX12_isDoing 1 rfl) ?_
  refine g_iconst (v := 0) hX (dk DX12_isDoing 2 rfl) (by decide) ?_
  refine g_aload_0 hX (dk DX12_isDoing 3 rfl) ?_
  refine g_getI hX (dk DX12_isDoing 4 rfl) KX12 fX12_7 (by decide) rfl (MLt hM (by decide)) (MC hM) ?_
  refine g_iconst (v := 1) hX (dk DX12_isDoing 5 rfl) (by decide) ?_
  refine g_isub hX (dk DX12_isDoing 6 rfl) ?_
  refine g_c4I hX sX12_isDoing_9 (by decide) (Nat.le_of_ble_eq_true rfl) (rc0 rfl (MLt hM (by decide)) (MC hM)) (by decide) (by decide) (c_X12_in hG ) ?_
  refine g_ireturn hX (dk DX12_isDoing 8 rfl) rfl (narB _) (by decide) (by decide) ?_
  exact rI_of rfl rfl rfl

set_option maxRecDepth 8000 in
set_option maxHeartbeats 4000000 in
theorem c_X12_isWay {G : Gt} (hG : Gok G) {I : It} {h : Ht} (hM : HM h) {a : Int32} : Con G 2 0 0 mX12_isWay [.ref 0, .int a] I h (rI (bI (0 ≤ a ∧ a ≤ 3)) I h) := by
  refine con_intro (own := RX12) (lo0 := [some (.ref 0), some (.int a)]) hG rfl pl_X12 (Nat.le_of_ble_eq_true rfl) rfl (fun X hX => ?_)
  refine g_aload_0 hX (dk DX12_isWay 0 rfl) ?_
  refine g_iload_1 hX (dk DX12_isWay 1 rfl) ?_
  refine g_iconst (v := 0) hX (dk DX12_isWay 2 rfl) (by decide) ?_
  refine g_iconst (v := 3) hX (dk DX12_isWay 3 rfl) (by decide) ?_
  refine g_c4I hX sX12_isWay_4 (by decide) (Nat.le_of_ble_eq_true rfl) (rc0 rfl (MLt hM (by decide)) (MC hM)) (by decide) (by decide) (c_X12_in hG ) ?_
  refine g_ireturn hX (dk DX12_isWay 5 rfl) rfl (narB _) (by decide) (by decide) ?_
  exact rI_of rfl rfl rfl

set_option maxRecDepth 8000 in
set_option maxHeartbeats 4000000 in
theorem c_X12_with {G : Gt} (hG : Gok G) {I : It} {h : Ht}  {a b z : Int32} : Con G 1 0 0 mX12_with [.ref 0, .int a, .int b, .int z] I h (rI (withI a b z) I h) := by
  refine con_intro (own := RX12) (lo0 := [some (.ref 0), some (.int a), some (.int b), some (.int z)]) hG rfl pl_X12 (Nat.le_of_ble_eq_true rfl) rfl (fun X hX => ?_)
  refine g_iload_3 hX (dk DX12_with 0 rfl) ?_
  refine g_if_eq (tgt := 12) hX (dk DX12_with 1 rfl) (by decide) (fun hc1 => ?_) (fun hc1 => ?_)
  · refine g_iload_1 hX (dk DX12_with 8 rfl) ?_
    refine g_iconst (v := 1) hX (dk DX12_with 9 rfl) (by decide) ?_
    refine g_iload_2 hX (dk DX12_with 10 rfl) ?_
    refine g_ishl hX (dk DX12_with 11 rfl) ?_
    refine g_iconst (v := -1) hX (dk DX12_with 12 rfl) (by decide) ?_
    refine g_ixor hX (dk DX12_with 13 rfl) ?_
    refine g_iand hX (dk DX12_with 14 rfl) ?_
    refine g_ireturn hX (dk DX12_with 15 rfl) rfl (rfl) (by decide) (by decide) ?_
    exact rI_of (by simp_all [withI, bitI]) rfl rfl
  · refine g_iload_1 hX (dk DX12_with 2 rfl) ?_
    refine g_iconst (v := 1) hX (dk DX12_with 3 rfl) (by decide) ?_
    refine g_iload_2 hX (dk DX12_with 4 rfl) ?_
    refine g_ishl hX (dk DX12_with 5 rfl) ?_
    refine g_ior hX (dk DX12_with 6 rfl) ?_
    refine g_goto (tgt := 19) hX (dk DX12_with 7 rfl) (by decide) ?_
    refine g_ireturn hX (dk DX12_with 15 rfl) rfl (rfl) (by decide) (by decide) ?_
    exact rI_of (by simp_all [withI, bitI]) rfl rfl

