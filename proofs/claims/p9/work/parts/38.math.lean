def fmI (a b : Int32) : Int32 := if 0 ≤ a ^^^ b then remI a b else if remI a b = 0 then remI a b else remI a b + b
set_option maxRecDepth 8000 in
set_option maxHeartbeats 4000000 in
theorem c_J9_max_7cf53 {G : Gt} (hG : Gok G) {I : It} {h : Ht}  {a b : Int32} : Con G (1) 0 0 mJ9_max_7cf53 [.int a, .int b] I h (rI (if a < b then b else a) I h) := by
  refine con_introF (own := RJ9) (lo0 := [some (.int a), some (.int b)]) hG rfl (by decide +kernel) (Nat.le_of_ble_eq_true rfl) rfl (fun X hX => ?_)
  refine g_iload_0 hX (dk DJ9_max_7cf53 0 rfl) ?_
  refine g_iload_1 hX (dk DJ9_max_7cf53 1 rfl) ?_
  refine g_icmp_lt (tgt := 9) hX (dk DJ9_max_7cf53 2 rfl) (by decide) (fun hc1 => ?_) (fun hc1 => ?_)
  · refine g_iload_1 hX (dk DJ9_max_7cf53 5 rfl) ?_
    refine g_ireturn hX (dk DJ9_max_7cf53 6 rfl) rfl (rfl) (by decide) (by decide) ?_
    exact rI_of (by grind) rfl rfl
  · refine g_iload_0 hX (dk DJ9_max_7cf53 3 rfl) ?_
    refine g_goto (tgt := 10) hX (dk DJ9_max_7cf53 4 rfl) (by decide) ?_
    refine g_ireturn hX (dk DJ9_max_7cf53 6 rfl) rfl (rfl) (by decide) (by decide) ?_
    exact rI_of (by grind) rfl rfl

set_option maxRecDepth 8000 in
set_option maxHeartbeats 4000000 in
theorem c_J9_min_7cf53 {G : Gt} (hG : Gok G) {I : It} {h : Ht}  {a b : Int32} : Con G (1) 0 0 mJ9_min_7cf53 [.int a, .int b] I h (rI (if b < a then b else a) I h) := by
  refine con_introF (own := RJ9) (lo0 := [some (.int a), some (.int b)]) hG rfl (by decide +kernel) (Nat.le_of_ble_eq_true rfl) rfl (fun X hX => ?_)
  refine g_iload_0 hX (dk DJ9_min_7cf53 0 rfl) ?_
  refine g_iload_1 hX (dk DJ9_min_7cf53 1 rfl) ?_
  refine g_icmp_gt (tgt := 9) hX (dk DJ9_min_7cf53 2 rfl) (by decide) (fun hc1 => ?_) (fun hc1 => ?_)
  · refine g_iload_1 hX (dk DJ9_min_7cf53 5 rfl) ?_
    refine g_ireturn hX (dk DJ9_min_7cf53 6 rfl) rfl (rfl) (by decide) (by decide) ?_
    exact rI_of (by grind) rfl rfl
  · refine g_iload_0 hX (dk DJ9_min_7cf53 3 rfl) ?_
    refine g_goto (tgt := 10) hX (dk DJ9_min_7cf53 4 rfl) (by decide) ?_
    refine g_ireturn hX (dk DJ9_min_7cf53 6 rfl) rfl (rfl) (by decide) (by decide) ?_
    exact rI_of (by grind) rfl rfl

set_option maxRecDepth 8000 in
set_option maxHeartbeats 4000000 in
theorem c_J9_floorMod_7cf53 {G : Gt} (hG : Gok G) {I : It} {h : Ht}  {a b : Int32} (hb : b ≠ 0) : Con G (1) 0 0 mJ9_floorMod_7cf53 [.int a, .int b] I h (rI (fmI a b) I h) := by
  refine con_introF (own := RJ9) (lo0 := [some (.int a), some (.int b), none]) hG rfl (by decide +kernel) (Nat.le_of_ble_eq_true rfl) rfl (fun X hX => ?_)
  refine g_iload_0 hX (dk DJ9_floorMod_7cf53 0 rfl) ?_
  refine g_iload_1 hX (dk DJ9_floorMod_7cf53 1 rfl) ?_
  refine g_irem hX (dk DJ9_floorMod_7cf53 2 rfl) (hb) ?_
  refine g_istore_2 hX (dk DJ9_floorMod_7cf53 3 rfl) (by decide) rfl ?_
  refine g_iload_0 hX (dk DJ9_floorMod_7cf53 4 rfl) ?_
  refine g_iload_1 hX (dk DJ9_floorMod_7cf53 5 rfl) ?_
  refine g_ixor hX (dk DJ9_floorMod_7cf53 6 rfl) ?_
  refine g_if_ge (tgt := 18) hX (dk DJ9_floorMod_7cf53 7 rfl) (by decide) (fun hc1 => ?_) (fun hc1 => ?_)
  · refine g_iload_2 hX (dk DJ9_floorMod_7cf53 14 rfl) ?_
    refine g_ireturn hX (dk DJ9_floorMod_7cf53 15 rfl) rfl (rfl) (by decide) (by decide) ?_
    exact rI_of (by unfold fmI remI; (try first | rw [if_pos hc1] | rw [if_neg hc1] | rw [if_neg (not_not_intro hc1)]); first | done | rfl) rfl rfl
  · refine g_iload_2 hX (dk DJ9_floorMod_7cf53 8 rfl) ?_
    refine g_if_eq (tgt := 18) hX (dk DJ9_floorMod_7cf53 9 rfl) (by decide) (fun hc2 => ?_) (fun hc2 => ?_)
    · refine g_iload_2 hX (dk DJ9_floorMod_7cf53 14 rfl) ?_
      refine g_ireturn hX (dk DJ9_floorMod_7cf53 15 rfl) rfl (rfl) (by decide) (by decide) ?_
      exact rI_of (by unfold fmI remI; (try first | rw [if_pos hc1] | rw [if_neg hc1] | rw [if_neg (not_not_intro hc1)]); (try first | rw [if_pos hc2] | rw [if_neg hc2] | rw [if_neg (not_not_intro hc2)]); first | done | rfl) rfl rfl
    · refine g_iload_2 hX (dk DJ9_floorMod_7cf53 10 rfl) ?_
      refine g_iload_1 hX (dk DJ9_floorMod_7cf53 11 rfl) ?_
      refine g_iadd hX (dk DJ9_floorMod_7cf53 12 rfl) ?_
      refine g_ireturn hX (dk DJ9_floorMod_7cf53 13 rfl) rfl (rfl) (by decide) (by decide) ?_
      exact rI_of (by unfold fmI remI; (try first | rw [if_pos hc1] | rw [if_neg hc1] | rw [if_neg (not_not_intro hc1)]); (try first | rw [if_pos hc2] | rw [if_neg hc2] | rw [if_neg (not_not_intro hc2)]); first | done | rfl) rfl rfl

set_option maxRecDepth 8000 in
set_option maxHeartbeats 4000000 in
theorem c_J6_bitCount_0f7a4 {G : Gt} (hG : Gok G) {I : It} {h : Ht}  {a : Int32} : Con G (1) 0 0 mJ6_bitCount_0f7a4 [.int a] I h (qI (fun x I2 h2 => (∀ m, m < 1024 → a = nI m → x = nI (onesN m)) ∧ I2 = I ∧ h2 = h)) := by
  refine con_introF (own := RJ6) (lo0 := [some (.int a)]) hG rfl (by decide +kernel) (Nat.le_of_ble_eq_true rfl) rfl (fun X hX => ?_)
  refine g_iload_0 hX (dk DJ6_bitCount_0f7a4 0 rfl) ?_
  refine g_iload_0 hX (dk DJ6_bitCount_0f7a4 1 rfl) ?_
  refine g_iconst (v := 1) hX (dk DJ6_bitCount_0f7a4 2 rfl) (by decide) ?_
  refine g_iushr hX (dk DJ6_bitCount_0f7a4 3 rfl) ?_
  refine g_ldc_w (v := 1431655765) hX (dk DJ6_bitCount_0f7a4 4 rfl) (tg_3 133 rfl rfl) ?_
  refine g_iand hX (dk DJ6_bitCount_0f7a4 5 rfl) ?_
  refine g_isub hX (dk DJ6_bitCount_0f7a4 6 rfl) ?_
  refine g_istore_0 hX (dk DJ6_bitCount_0f7a4 7 rfl) (by decide) rfl ?_
  refine g_iload_0 hX (dk DJ6_bitCount_0f7a4 8 rfl) ?_
  refine g_ldc_w (v := 858993459) hX (dk DJ6_bitCount_0f7a4 9 rfl) (tg_3 134 rfl rfl) ?_
  refine g_iand hX (dk DJ6_bitCount_0f7a4 10 rfl) ?_
  refine g_iload_0 hX (dk DJ6_bitCount_0f7a4 11 rfl) ?_
  refine g_iconst (v := 2) hX (dk DJ6_bitCount_0f7a4 12 rfl) (by decide) ?_
  refine g_iushr hX (dk DJ6_bitCount_0f7a4 13 rfl) ?_
  refine g_ldc_w (v := 858993459) hX (dk DJ6_bitCount_0f7a4 14 rfl) (tg_3 134 rfl rfl) ?_
  refine g_iand hX (dk DJ6_bitCount_0f7a4 15 rfl) ?_
  refine g_iadd hX (dk DJ6_bitCount_0f7a4 16 rfl) ?_
  refine g_istore_0 hX (dk DJ6_bitCount_0f7a4 17 rfl) (by decide) rfl ?_
  refine g_iload_0 hX (dk DJ6_bitCount_0f7a4 18 rfl) ?_
  refine g_iload_0 hX (dk DJ6_bitCount_0f7a4 19 rfl) ?_
  refine g_iconst (v := 4) hX (dk DJ6_bitCount_0f7a4 20 rfl) (by decide) ?_
  refine g_iushr hX (dk DJ6_bitCount_0f7a4 21 rfl) ?_
  refine g_iadd hX (dk DJ6_bitCount_0f7a4 22 rfl) ?_
  refine g_ldc_w (v := 252645135) hX (dk DJ6_bitCount_0f7a4 23 rfl) (tg_3 135 rfl rfl) ?_
  refine g_iand hX (dk DJ6_bitCount_0f7a4 24 rfl) ?_
  refine g_istore_0 hX (dk DJ6_bitCount_0f7a4 25 rfl) (by decide) rfl ?_
  refine g_iload_0 hX (dk DJ6_bitCount_0f7a4 26 rfl) ?_
  refine g_iload_0 hX (dk DJ6_bitCount_0f7a4 27 rfl) ?_
  refine g_bipush (v := 8) hX (dk DJ6_bitCount_0f7a4 28 rfl) (by decide) ?_
  refine g_iushr hX (dk DJ6_bitCount_0f7a4 29 rfl) ?_
  refine g_iadd hX (dk DJ6_bitCount_0f7a4 30 rfl) ?_
  refine g_istore_0 hX (dk DJ6_bitCount_0f7a4 31 rfl) (by decide) rfl ?_
  refine g_iload_0 hX (dk DJ6_bitCount_0f7a4 32 rfl) ?_
  refine g_iload_0 hX (dk DJ6_bitCount_0f7a4 33 rfl) ?_
  refine g_bipush (v := 16) hX (dk DJ6_bitCount_0f7a4 34 rfl) (by decide) ?_
  refine g_iushr hX (dk DJ6_bitCount_0f7a4 35 rfl) ?_
  refine g_iadd hX (dk DJ6_bitCount_0f7a4 36 rfl) ?_
  refine g_istore_0 hX (dk DJ6_bitCount_0f7a4 37 rfl) (by decide) rfl ?_
  refine g_iload_0 hX (dk DJ6_bitCount_0f7a4 38 rfl) ?_
  refine g_bipush (v := 63) hX (dk DJ6_bitCount_0f7a4 39 rfl) (by decide) ?_
  refine g_iand hX (dk DJ6_bitCount_0f7a4 40 rfl) ?_
  refine g_ireturn hX (dk DJ6_bitCount_0f7a4 41 rfl) rfl (rfl) (by decide) (by decide) ?_
  refine qI_of ⟨fun m hm e => ?_, rfl, rfl⟩
  subst e
  revert m
  decide +kernel

