theorem NX.sc {I : It} {q j : Nat} {x : Int32} (hN : NX I) (h1 : (q :: nzL).contains 34 = false) (h2 : nzL.contains q = false) : NX (upI I q j x) := by
  refine ⟨fun a ha b => ?_, fun b hb => ?_⟩
  · have hne : a ≠ q := by
      rintro rfl
      rw [List.contains_iff_mem.mpr ha] at h2
      cases h2
    rw [upI_off hne]; exact hN.1 a ha b
  · have hne : 34 ≠ q := by
      rintro rfl
      simp at h1
    rw [upI_off hne]; exact hN.2 b hb
theorem NX.kp {I J : It} {q : Nat} (hN : NX I) (hJ : ∀ a, a ≠ q → J a = I a) (h1 : (q :: nzL).contains 34 = false) (h2 : nzL.contains q = false) : NX J := by
  refine ⟨fun a ha b => ?_, fun b hb => ?_⟩
  · have hne : a ≠ q := by
      rintro rfl
      rw [List.contains_iff_mem.mpr ha] at h2
      cases h2
    rw [hJ a hne]; exact hN.1 a ha b
  · have hne : 34 ≠ q := by
      rintro rfl
      simp at h1
    rw [hJ 34 hne]; exact hN.2 b hb
theorem mn200 {m : Nat} (hm : m ≤ 200) : (if (200 : Int32) < nI m then 200 else nI m) = nI m := if_neg (Int32.not_lt.mpr ((nI_leI (b := 200) (by omega) (by decide)).mpr hm))
theorem mx0 {m : Nat} (hm : m < 2 ^ 31) : (if (0 : Int32) < nI m then nI m else 0) = nI m := by
  split
  · rfl
  · rename_i hn
    have : nI m ≤ nI 0 := Int32.not_lt.mp hn
    have := (nI_leI hm (by decide)).mp this
    rw [show m = 0 by omega]; rfl
set_option maxRecDepth 8000 in
set_option maxHeartbeats 4000000 in
theorem n_X0_hear {G : Gt} (hG : Gok G) {I : It} {h : Ht} (hH : HX h) (hN : NX I) (hP : NRF h)  : Con G 3 0 0 mX0_hear [.ref 13] I h (rV I h) := by
  refine con_intro (own := RX0) (lo0 := [some (.ref 13), none, none]) hG rfl pl_X0 (Nat.le_of_ble_eq_true rfl) rfl (fun X hX => ?_)
  refine g_iconst (v := 0) hX (dk DX0_hear 0 rfl) (by decide) ?_
  refine g_istore_1 hX (dk DX0_hear 1 rfl) (by decide) rfl ?_
  refine g_iload_1 hX (dk DX0_hear 2 rfl) ?_
  refine g_aload_0 hX (dk DX0_hear 3 rfl) ?_
  refine g_getRs (r := 1) hX (dk DX0_hear 4 rfl) KX0 fX0_34 (by decide) rfl (CLt hH (q := 13) (by decide)) (CC hH 13 (by decide) rfl) (CR hH 13 0 1 (by decide)) ?_
  refine g_getIv hX (dk DX0_hear 5 rfl) KX5 fX0_69 (by decide) rfl (CLt hH (q := 1) (by decide)) (CC hH 1 (by decide) rfl) ((hN.1 1 (by decide) 2)) ?_
  refine g_icmp_ge (tgt := 37) hX (dk DX0_hear 6 rfl) (by decide) (fun hc1 => ?_) (fun hc1 => absurd (by decide) hc1)
  refine g_return hX (dk DX0_hear 19 rfl) rfl (by decide) (by decide) ?_
  exact rV_of rfl rfl

set_option maxRecDepth 8000 in
set_option maxHeartbeats 4000000 in
theorem n_X0_goingOver {G : Gt} (hG : Gok G) {I : It} {h : Ht} (hH : HX h) (hN : NX I) (hP : NRF h) {q : Nat} : Con G 3 0 0 mX0_goingOver [.ref 13, .ref q] I h (rI 0 I h) := by
  refine con_intro (own := RX0) (lo0 := [some (.ref 13), some (.ref q), none, none, none]) hG rfl pl_X0 (Nat.le_of_ble_eq_true rfl) rfl (fun X hX => ?_)
  refine g_iconst (v := 0) hX (dk DX0_goingOver 0 rfl) (by decide) ?_
  refine g_istore_2 hX (dk DX0_goingOver 1 rfl) (by decide) rfl ?_
  refine g_iconst (v := 0) hX (dk DX0_goingOver 2 rfl) (by decide) ?_
  refine g_istore_3 hX (dk DX0_goingOver 3 rfl) (by decide) rfl ?_
  refine g_iload_3 hX (dk DX0_goingOver 4 rfl) ?_
  refine g_aload_0 hX (dk DX0_goingOver 5 rfl) ?_
  refine g_getRs (r := 1) hX (dk DX0_goingOver 6 rfl) KX0 fX0_34 (by decide) rfl (CLt hH (q := 13) (by decide)) (CC hH 13 (by decide) rfl) (CR hH 13 0 1 (by decide)) ?_
  refine g_getIv hX (dk DX0_goingOver 7 rfl) KX5 fX0_69 (by decide) rfl (CLt hH (q := 1) (by decide)) (CC hH 1 (by decide) rfl) ((hN.1 1 (by decide) 2)) ?_
  refine g_icmp_ge (tgt := 62) hX (dk DX0_goingOver 8 rfl) (by decide) (fun hc1 => ?_) (fun hc1 => absurd (by decide) hc1)
  refine g_iload_2 hX (dk DX0_goingOver 34 rfl) ?_
  refine g_ireturn hX (dk DX0_goingOver 35 rfl) rfl (rfl) (by decide) (by decide) ?_
  exact rI_of rfl rfl rfl

set_option maxRecDepth 8000 in
set_option maxHeartbeats 4000000 in
theorem n_X5_coming {G : Gt} (hG : Gok G) {I : It} {h : Ht} (hH : HX h) (hN : NX I) (hP : NRF h) {w : Int32} : Con G 3 0 0 mX5_coming [.ref 1, .int w] I h (rI 0 I h) := by
  refine con_intro (own := RX5) (lo0 := [some (.ref 1), some (.int w), none, none, none]) hG rfl pl_X5 (Nat.le_of_ble_eq_true rfl) rfl (fun X hX => ?_)
  refine g_iconst (v := 0) hX (dk DX5_coming 0 rfl) (by decide) ?_
  refine g_istore_2 hX (dk DX5_coming 1 rfl) (by decide) rfl ?_
  refine g_iconst (v := 0) hX (dk DX5_coming 2 rfl) (by decide) ?_
  refine g_istore_3 hX (dk DX5_coming 3 rfl) (by decide) rfl ?_
  refine g_iload_3 hX (dk DX5_coming 4 rfl) ?_
  refine g_aload_0 hX (dk DX5_coming 5 rfl) ?_
  refine g_getIv hX (dk DX5_coming 6 rfl) KX5 fX5_36 (by decide) rfl (CLt hH (q := 1) (by decide)) (CC hH 1 (by decide) rfl) ((hN.1 1 (by decide) 2)) ?_
  refine g_icmp_ge (tgt := 45) hX (dk DX5_coming 7 rfl) (by decide) (fun hc1 => ?_) (fun hc1 => absurd (by decide) hc1)
  refine g_iload_2 hX (dk DX5_coming 26 rfl) ?_
  refine g_ireturn hX (dk DX5_coming 27 rfl) rfl (rfl) (by decide) (by decide) ?_
  exact rI_of rfl rfl rfl

set_option maxRecDepth 8000 in
set_option maxHeartbeats 4000000 in
theorem n_X0_lookDear {G : Gt} (hG : Gok G) {I : It} {h : Ht} (hH : HX h) (hN : NX I) (hP : NRF h) {a w : Int32} : Con G 3 0 0 mX0_lookDear [.ref 13, .int a, .int w] I h (rV I h) := by
  refine con_intro (own := RX0) (lo0 := [some (.ref 13), some (.int a), some (.int w), none, none, none]) hG rfl pl_X0 (Nat.le_of_ble_eq_true rfl) rfl (fun X hX => ?_)
  refine g_iconst (v := 0) hX (dk DX0_lookDear 0 rfl) (by decide) ?_
  refine g_istore_3 hX (dk DX0_lookDear 1 rfl) (by decide) rfl ?_
  refine g_iload_3 hX (dk DX0_lookDear 2 rfl) ?_
  refine g_aload_0 hX (dk DX0_lookDear 3 rfl) ?_
  refine g_getRs (r := 1) hX (dk DX0_lookDear 4 rfl) KX0 fX0_34 (by decide) rfl (CLt hH (q := 13) (by decide)) (CC hH 13 (by decide) rfl) (CR hH 13 0 1 (by decide)) ?_
  refine g_getIv hX (dk DX0_lookDear 5 rfl) KX5 fX0_69 (by decide) rfl (CLt hH (q := 1) (by decide)) (CC hH 1 (by decide) rfl) ((hN.1 1 (by decide) 2)) ?_
  refine g_icmp_ge (tgt := 76) hX (dk DX0_lookDear 6 rfl) (by decide) (fun hc1 => ?_) (fun hc1 => absurd (by decide) hc1)
  refine g_return hX (dk DX0_lookDear 38 rfl) rfl (by decide) (by decide) ?_
  exact rV_of rfl rfl

