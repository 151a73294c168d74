/-- the class's fixed cells -/
def HX (h : Ht) : Prop := 73 ≤ hn h ∧ (∀ q, q < 73 → hs h q = SXL.getD q (0, 0)) ∧ ∀ x, x ∈ RXL → hR h x.1.1 x.1.2 = some x.2
theorem HX0.hx {h : Ht} (hH : HX0 h) : HX h := ⟨by rw [hH.1]; exact Nat.le_refl _, hH.2.1, hH.2.2.1⟩
theorem CLt {h : Ht} (hH : HX h) {q : Nat} (hq : q < 73) : q < hn h := Nat.lt_of_lt_of_le hq hH.1
theorem CS {h : Ht} (hH : HX h) (q : Nat) {x : Nat × Nat} (hq : q < 73) (e : SXL.getD q (0, 0) = x) : hs h q = x := by rw [hH.2.1 q hq, e]
theorem CC {h : Ht} (hH : HX h) (q : Nat) {c : Nat} (hq : q < 73) (e : (SXL.getD q (0, 0)).1 = c) : (hs h q).1 = c := by rw [hH.2.1 q hq, e]
theorem CR {h : Ht} (hH : HX h) (q j r : Nat) (e : ((q, j), r) ∈ RXL) : hR h q j = some r := hH.2.2 ((q, j), r) e
set_option maxRecDepth 8000 in
set_option maxHeartbeats 4000000 in
theorem c_X11_isNot {G : Gt} (hG : Gok G) {I : It} {h : Ht}  {a b c : Int32} : Con G 1 0 0 mX11_isNot [.int a, .int b, .int c] I h (rI (bI (¬ (b ≤ a ∧ a ≤ c))) I h) := by
  refine con_intro (own := RX11) (lo0 := [some (.int a), some (.int b), some (.int c)]) hG rfl pl_X11 (Nat.le_of_ble_eq_true rfl) rfl (fun X hX => ?_)
  refine g_iload_0 hX (dk DX11_isNot 0 rfl) ?_
  refine g_iload_1 hX (dk DX11_isNot 1 rfl) ?_
  refine g_icmp_lt (tgt := 10) hX (dk DX11_isNot 2 rfl) (by decide) (fun hc1 => ?_) (fun hc1 => ?_)
  · refine g_iconst (v := 1) hX (dk DX11_isNot 6 rfl) (by decide) ?_
    refine g_goto (tgt := 15) hX (dk DX11_isNot 7 rfl) (by decide) ?_
    refine g_ireturn hX (dk DX11_isNot 9 rfl) rfl (by decide) (by decide) (by decide) ?_
    exact rI_of (by grind [bI]) rfl rfl
  · refine g_iload_0 hX (dk DX11_isNot 3 rfl) ?_
    refine g_iload_2 hX (dk DX11_isNot 4 rfl) ?_
    refine g_icmp_le (tgt := 14) hX (dk DX11_isNot 5 rfl) (by decide) (fun hc2 => ?_) (fun hc2 => ?_)
    · refine g_iconst (v := 0) hX (dk DX11_isNot 8 rfl) (by decide) ?_
      refine g_ireturn hX (dk DX11_isNot 9 rfl) rfl (by decide) (by decide) (by decide) ?_
      exact rI_of (by grind [bI]) rfl rfl
    · refine g_iconst (v := 1) hX (dk DX11_isNot 6 rfl) (by decide) ?_
      refine g_goto (tgt := 15) hX (dk DX11_isNot 7 rfl) (by decide) ?_
      refine g_ireturn hX (dk DX11_isNot 9 rfl) rfl (by decide) (by decide) (by decide) ?_
      exact rI_of (by grind [bI]) rfl rfl

set_option maxRecDepth 8000 in
set_option maxHeartbeats 4000000 in
theorem c_X11_bit {G : Gt} (hG : Gok G) {I : It} {h : Ht}  {a b : Int32} : Con G 1 0 0 mX11_bit [.int a, .int b] I h (rI (hasI a b) I h) := by
  refine con_intro (own := RX11) (lo0 := [some (.int a), some (.int b)]) hG rfl pl_X11 (Nat.le_of_ble_eq_true rfl) rfl (fun X hX => ?_)
  refine g_iload_0 hX (dk DX11_bit 0 rfl) ?_
  refine g_iload_1 hX (dk DX11_bit 1 rfl) ?_
  refine g_ishr hX (dk DX11_bit 2 rfl) ?_
  refine g_iconst (v := 1) hX (dk DX11_bit 3 rfl) (by decide) ?_
  refine g_iand hX (dk DX11_bit 4 rfl) ?_
  refine g_ireturn hX (dk DX11_bit 5 rfl) rfl (rfl) (by decide) (by decide) ?_
  exact rI_of rfl rfl rfl

set_option maxRecDepth 8000 in
set_option maxHeartbeats 4000000 in
theorem c_X11_withBit {G : Gt} (hG : Gok G) {I : It} {h : Ht}  {a b z : Int32} : Con G 1 0 0 mX11_withBit [.int a, .int b, .int z] I h (rI (withI a b z) I h) := by
  refine con_intro (own := RX11) (lo0 := [some (.int a), some (.int b), some (.int z)]) hG rfl pl_X11 (Nat.le_of_ble_eq_true rfl) rfl (fun X hX => ?_)
  refine g_iload_2 hX (dk DX11_withBit 0 rfl) ?_
  refine g_if_eq (tgt := 12) hX (dk DX11_withBit 1 rfl) (by decide) (fun hc1 => ?_) (fun hc1 => ?_)
  · refine g_iload_0 hX (dk DX11_withBit 8 rfl) ?_
    refine g_iconst (v := 1) hX (dk DX11_withBit 9 rfl) (by decide) ?_
    refine g_iload_1 hX (dk DX11_withBit 10 rfl) ?_
    refine g_ishl hX (dk DX11_withBit 11 rfl) ?_
    refine g_iconst (v := -1) hX (dk DX11_withBit 12 rfl) (by decide) ?_
    refine g_ixor hX (dk DX11_withBit 13 rfl) ?_
    refine g_iand hX (dk DX11_withBit 14 rfl) ?_
    refine g_ireturn hX (dk DX11_withBit 15 rfl) rfl (rfl) (by decide) (by decide) ?_
    exact rI_of (by simp_all [withI, bitI]) rfl rfl
  · refine g_iload_0 hX (dk DX11_withBit 2 rfl) ?_
    refine g_iconst (v := 1) hX (dk DX11_withBit 3 rfl) (by decide) ?_
    refine g_iload_1 hX (dk DX11_withBit 4 rfl) ?_
    refine g_ishl hX (dk DX11_withBit 5 rfl) ?_
    refine g_ior hX (dk DX11_withBit 6 rfl) ?_
    refine g_goto (tgt := 19) hX (dk DX11_withBit 7 rfl) (by decide) ?_
    refine g_ireturn hX (dk DX11_withBit 15 rfl) rfl (rfl) (by decide) (by decide) ?_
    exact rI_of (by simp_all [withI, bitI]) rfl rfl

