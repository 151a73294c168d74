section
set_option maxRecDepth 8000 in
set_option maxHeartbeats 4000000 in
theorem cv11_isOfKind_1 {G : Gt} (hG : Gok G) {I : It} {h : Ht}  {q : Nat} {k : Int32} (hq : q < hn h) (hcl : (hs h q).1 = 1) : Con G (1) 0 0 mX11_isOfKind [.ref q, .int k] I h (rI (ikC 1 k) I h) := by
  refine con_intro (own := RX11) (lo0 := [some (.ref q), some (.int k)]) hG rfl pl_X11 (Nat.le_of_ble_eq_true rfl) rfl (fun X hX => ?_)
  refine g_iload_1 hX (dk DX11_isOfKind 0 rfl) ?_
  refine g_tswitch (dt := 67) hX [(0, 40), (1, 42), (2, 47), (3, 52), (4, 57), (5, 62)] (dk DX11_isOfKind 1 rfl) (by decide +kernel) ?_
  refine ⟨fun hc1 => ?_, fun hc1n => ?_⟩
  · show GG _ _ _ _ _ _ _ _ _ _ _ _ _
    refine g_iconst (v := 1) hX (dk DX11_isOfKind 2 rfl) (by decide) ?_
    refine g_ireturn hX (dk DX11_isOfKind 3 rfl) rfl (by decide) (by decide) (by decide) ?_
    exact rI_of (by unfold ikC; (try first | rw [if_pos hc1] | rw [if_neg hc1] | rw [if_neg (not_not_intro hc1)]); first | done | rfl | decide) rfl rfl
  refine ⟨fun hc2 => ?_, fun hc2n => ?_⟩
  · show GG _ _ _ _ _ _ _ _ _ _ _ _ _
    refine g_aload_0 hX (dk DX11_isOfKind 4 rfl) ?_
    refine g_inst (b := 0) hX (dk DX11_isOfKind 5 rfl) KX1 (tg_2 35 rfl rfl) hq hcl (Or.inr ⟨rfl, List.mem_of_getElem? (i := 4) rfl⟩) ?_
    refine g_ireturn hX (dk DX11_isOfKind 6 rfl) rfl (by decide) (by decide) (by decide) ?_
    exact rI_of (by unfold ikC; (try first | rw [if_pos hc1n] | rw [if_neg hc1n] | rw [if_neg (not_not_intro hc1n)]); (try first | rw [if_pos hc2] | rw [if_neg hc2] | rw [if_neg (not_not_intro hc2)]); first | done | rfl | decide) rfl rfl
  refine ⟨fun hc3 => ?_, fun hc3n => ?_⟩
  · show GG _ _ _ _ _ _ _ _ _ _ _ _ _
    refine g_aload_0 hX (dk DX11_isOfKind 7 rfl) ?_
    refine g_inst (b := 0) hX (dk DX11_isOfKind 8 rfl) KX1 (tg_2 93 rfl rfl) hq hcl (Or.inr ⟨rfl, List.mem_of_getElem? (i := 9) rfl⟩) ?_
    refine g_ireturn hX (dk DX11_isOfKind 9 rfl) rfl (by decide) (by decide) (by decide) ?_
    exact rI_of (by unfold ikC; (try first | rw [if_pos hc1n] | rw [if_neg hc1n] | rw [if_neg (not_not_intro hc1n)]); (try first | rw [if_pos hc2n] | rw [if_neg hc2n] | rw [if_neg (not_not_intro hc2n)]); (try first | rw [if_pos hc3] | rw [if_neg hc3] | rw [if_neg (not_not_intro hc3)]); first | done | rfl | decide) rfl rfl
  refine ⟨fun hc4 => ?_, fun hc4n => ?_⟩
  · show GG _ _ _ _ _ _ _ _ _ _ _ _ _
    refine g_aload_0 hX (dk DX11_isOfKind 10 rfl) ?_
    refine g_inst (b := 0) hX (dk DX11_isOfKind 11 rfl) KX1 (tg_2 106 rfl rfl) hq hcl (Or.inr ⟨rfl, List.mem_of_getElem? (i := 14) rfl⟩) ?_
    refine g_ireturn hX (dk DX11_isOfKind 12 rfl) rfl (by decide) (by decide) (by decide) ?_
    exact rI_of (by unfold ikC; (try first | rw [if_pos hc1n] | rw [if_neg hc1n] | rw [if_neg (not_not_intro hc1n)]); (try first | rw [if_pos hc2n] | rw [if_neg hc2n] | rw [if_neg (not_not_intro hc2n)]); (try first | rw [if_pos hc3n] | rw [if_neg hc3n] | rw [if_neg (not_not_intro hc3n)]); (try first | rw [if_pos hc4] | rw [if_neg hc4] | rw [if_neg (not_not_intro hc4)]); first | done | rfl | decide) rfl rfl
  refine ⟨fun hc5 => ?_, fun hc5n => ?_⟩
  · show GG _ _ _ _ _ _ _ _ _ _ _ _ _
    refine g_aload_0 hX (dk DX11_isOfKind 13 rfl) ?_
    refine g_inst (b := 0) hX (dk DX11_isOfKind 14 rfl) KX1 (tg_2 119 rfl rfl) hq hcl (Or.inr ⟨rfl, List.mem_of_getElem? (i := 20) rfl⟩) ?_
    refine g_ireturn hX (dk DX11_isOfKind 15 rfl) rfl (by decide) (by decide) (by decide) ?_
    exact rI_of (by unfold ikC; (try first | rw [if_pos hc1n] | rw [if_neg hc1n] | rw [if_neg (not_not_intro hc1n)]); (try first | rw [if_pos hc2n] | rw [if_neg hc2n] | rw [if_neg (not_not_intro hc2n)]); (try first | rw [if_pos hc3n] | rw [if_neg hc3n] | rw [if_neg (not_not_intro hc3n)]); (try first | rw [if_pos hc4n] | rw [if_neg hc4n] | rw [if_neg (not_not_intro hc4n)]); (try first | rw [if_pos hc5] | rw [if_neg hc5] | rw [if_neg (not_not_intro hc5)]); first | done | rfl | decide) rfl rfl
  refine ⟨fun hc6 => ?_, fun hc6n => ?_⟩
  · show GG _ _ _ _ _ _ _ _ _ _ _ _ _
    refine g_aload_0 hX (dk DX11_isOfKind 16 rfl) ?_
    refine g_inst (b := 0) hX (dk DX11_isOfKind 17 rfl) KX1 (tg_2 132 rfl rfl) hq hcl (Or.inr ⟨rfl, List.mem_of_getElem? (i := 26) rfl⟩) ?_
    refine g_ireturn hX (dk DX11_isOfKind 18 rfl) rfl (by decide) (by decide) (by decide) ?_
    exact rI_of (by unfold ikC; (try first | rw [if_pos hc1n] | rw [if_neg hc1n] | rw [if_neg (not_not_intro hc1n)]); (try first | rw [if_pos hc2n] | rw [if_neg hc2n] | rw [if_neg (not_not_intro hc2n)]); (try first | rw [if_pos hc3n] | rw [if_neg hc3n] | rw [if_neg (not_not_intro hc3n)]); (try first | rw [if_pos hc4n] | rw [if_neg hc4n] | rw [if_neg (not_not_intro hc4n)]); (try first | rw [if_pos hc5n] | rw [if_neg hc5n] | rw [if_neg (not_not_intro hc5n)]); (try first | rw [if_pos hc6] | rw [if_neg hc6] | rw [if_neg (not_not_intro hc6)]); first | done | rfl | decide) rfl rfl
  show GG _ _ _ _ _ _ _ _ _ _ _ _ _
  refine g_aload_0 hX (dk DX11_isOfKind 19 rfl) ?_
  refine g_inst (b := 0) hX (dk DX11_isOfKind 20 rfl) KX1 (tg_2 145 rfl rfl) hq hcl (Or.inr ⟨rfl, List.mem_of_getElem? (i := 32) rfl⟩) ?_
  refine g_ireturn hX (dk DX11_isOfKind 21 rfl) rfl (by decide) (by decide) (by decide) ?_
  exact rI_of (by unfold ikC; (try first | rw [if_pos hc1n] | rw [if_neg hc1n] | rw [if_neg (not_not_intro hc1n)]); (try first | rw [if_pos hc2n] | rw [if_neg hc2n] | rw [if_neg (not_not_intro hc2n)]); (try first | rw [if_pos hc3n] | rw [if_neg hc3n] | rw [if_neg (not_not_intro hc3n)]); (try first | rw [if_pos hc4n] | rw [if_neg hc4n] | rw [if_neg (not_not_intro hc4n)]); (try first | rw [if_pos hc5n] | rw [if_neg hc5n] | rw [if_neg (not_not_intro hc5n)]); (try first | rw [if_pos hc6n] | rw [if_neg hc6n] | rw [if_neg (not_not_intro hc6n)]); first | done | rfl | decide) rfl rfl

set_option maxRecDepth 8000 in
set_option maxHeartbeats 4000000 in
theorem cv11_isOfKind_2 {G : Gt} (hG : Gok G) {I : It} {h : Ht}  {q : Nat} {k : Int32} (hq : q < hn h) (hcl : (hs h q).1 = 2) : Con G (1) 0 0 mX11_isOfKind [.ref q, .int k] I h (rI (ikC 2 k) I h) := by
  refine con_intro (own := RX11) (lo0 := [some (.ref q), some (.int k)]) hG rfl pl_X11 (Nat.le_of_ble_eq_true rfl) rfl (fun X hX => ?_)
  refine g_iload_1 hX (dk DX11_isOfKind 0 rfl) ?_
  refine g_tswitch (dt := 67) hX [(0, 40), (1, 42), (2, 47), (3, 52), (4, 57), (5, 62)] (dk DX11_isOfKind 1 rfl) (by decide +kernel) ?_
  refine ⟨fun hc1 => ?_, fun hc1n => ?_⟩
  · show GG _ _ _ _ _ _ _ _ _ _ _ _ _
    refine g_iconst (v := 1) hX (dk DX11_isOfKind 2 rfl) (by decide) ?_
    refine g_ireturn hX (dk DX11_isOfKind 3 rfl) rfl (by decide) (by decide) (by decide) ?_
    exact rI_of (by unfold ikC; (try first | rw [if_pos hc1] | rw [if_neg hc1] | rw [if_neg (not_not_intro hc1)]); first | done | rfl | decide) rfl rfl
  refine ⟨fun hc2 => ?_, fun hc2n => ?_⟩
  · show GG _ _ _ _ _ _ _ _ _ _ _ _ _
    refine g_aload_0 hX (dk DX11_isOfKind 4 rfl) ?_
    refine g_inst (b := 0) hX (dk DX11_isOfKind 5 rfl) KX2 (tg_2 35 rfl rfl) hq hcl (Or.inr ⟨rfl, List.mem_of_getElem? (i := 0) rfl⟩) ?_
    refine g_ireturn hX (dk DX11_isOfKind 6 rfl) rfl (by decide) (by decide) (by decide) ?_
    exact rI_of (by unfold ikC; (try first | rw [if_pos hc1n] | rw [if_neg hc1n] | rw [if_neg (not_not_intro hc1n)]); (try first | rw [if_pos hc2] | rw [if_neg hc2] | rw [if_neg (not_not_intro hc2)]); first | done | rfl | decide) rfl rfl
  refine ⟨fun hc3 => ?_, fun hc3n => ?_⟩
  · show GG _ _ _ _ _ _ _ _ _ _ _ _ _
    refine g_aload_0 hX (dk DX11_isOfKind 7 rfl) ?_
    refine g_inst (b := 1) hX (dk DX11_isOfKind 8 rfl) KX2 (tg_2 93 rfl rfl) hq hcl (Or.inl ⟨rfl, Or.inl rfl⟩) ?_
    refine g_ireturn hX (dk DX11_isOfKind 9 rfl) rfl (by decide) (by decide) (by decide) ?_
    exact rI_of (by unfold ikC; (try first | rw [if_pos hc1n] | rw [if_neg hc1n] | rw [if_neg (not_not_intro hc1n)]); (try first | rw [if_pos hc2n] | rw [if_neg hc2n] | rw [if_neg (not_not_intro hc2n)]); (try first | rw [if_pos hc3] | rw [if_neg hc3] | rw [if_neg (not_not_intro hc3)]); first | done | rfl | decide) rfl rfl
  refine ⟨fun hc4 => ?_, fun hc4n => ?_⟩
  · show GG _ _ _ _ _ _ _ _ _ _ _ _ _
    refine g_aload_0 hX (dk DX11_isOfKind 10 rfl) ?_
    refine g_inst (b := 0) hX (dk DX11_isOfKind 11 rfl) KX2 (tg_2 106 rfl rfl) hq hcl (Or.inr ⟨rfl, List.mem_of_getElem? (i := 11) rfl⟩) ?_
    refine g_ireturn hX (dk DX11_isOfKind 12 rfl) rfl (by decide) (by decide) (by decide) ?_
    exact rI_of (by unfold ikC; (try first | rw [if_pos hc1n] | rw [if_neg hc1n] | rw [if_neg (not_not_intro hc1n)]); (try first | rw [if_pos hc2n] | rw [if_neg hc2n] | rw [if_neg (not_not_intro hc2n)]); (try first | rw [if_pos hc3n] | rw [if_neg hc3n] | rw [if_neg (not_not_intro hc3n)]); (try first | rw [if_pos hc4] | rw [if_neg hc4] | rw [if_neg (not_not_intro hc4)]); first | done | rfl | decide) rfl rfl
  refine ⟨fun hc5 => ?_, fun hc5n => ?_⟩
  · show GG _ _ _ _ _ _ _ _ _ _ _ _ _
    refine g_aload_0 hX (dk DX11_isOfKind 13 rfl) ?_
    refine g_inst (b := 0) hX (dk DX11_isOfKind 14 rfl) KX2 (tg_2 119 rfl rfl) hq hcl (Or.inr ⟨rfl, List.mem_of_getElem? (i := 16) rfl⟩) ?_
    refine g_ireturn hX (dk DX11_isOfKind 15 rfl) rfl (by decide) (by decide) (by decide) ?_
    exact rI_of (by unfold ikC; (try first | rw [if_pos hc1n] | rw [if_neg hc1n] | rw [if_neg (not_not_intro hc1n)]); (try first | rw [if_pos hc2n] | rw [if_neg hc2n] | rw [if_neg (not_not_intro hc2n)]); (try first | rw [if_pos hc3n] | rw [if_neg hc3n] | rw [if_neg (not_not_intro hc3n)]); (try first | rw [if_pos hc4n] | rw [if_neg hc4n] | rw [if_neg (not_not_intro hc4n)]); (try first | rw [if_pos hc5] | rw [if_neg hc5] | rw [if_neg (not_not_intro hc5)]); first | done | rfl | decide) rfl rfl
  refine ⟨fun hc6 => ?_, fun hc6n => ?_⟩
  · show GG _ _ _ _ _ _ _ _ _ _ _ _ _
    refine g_aload_0 hX (dk DX11_isOfKind 16 rfl) ?_
    refine g_inst (b := 0) hX (dk DX11_isOfKind 17 rfl) KX2 (tg_2 132 rfl rfl) hq hcl (Or.inr ⟨rfl, List.mem_of_getElem? (i := 22) rfl⟩) ?_
    refine g_ireturn hX (dk DX11_isOfKind 18 rfl) rfl (by decide) (by decide) (by decide) ?_
    exact rI_of (by unfold ikC; (try first | rw [if_pos hc1n] | rw [if_neg hc1n] | rw [if_neg (not_not_intro hc1n)]); (try first | rw [if_pos hc2n] | rw [if_neg hc2n] | rw [if_neg (not_not_intro hc2n)]); (try first | rw [if_pos hc3n] | rw [if_neg hc3n] | rw [if_neg (not_not_intro hc3n)]); (try first | rw [if_pos hc4n] | rw [if_neg hc4n] | rw [if_neg (not_not_intro hc4n)]); (try first | rw [if_pos hc5n] | rw [if_neg hc5n] | rw [if_neg (not_not_intro hc5n)]); (try first | rw [if_pos hc6] | rw [if_neg hc6] | rw [if_neg (not_not_intro hc6)]); first | done | rfl | decide) rfl rfl
  show GG _ _ _ _ _ _ _ _ _ _ _ _ _
  refine g_aload_0 hX (dk DX11_isOfKind 19 rfl) ?_
  refine g_inst (b := 0) hX (dk DX11_isOfKind 20 rfl) KX2 (tg_2 145 rfl rfl) hq hcl (Or.inr ⟨rfl, List.mem_of_getElem? (i := 28) rfl⟩) ?_
  refine g_ireturn hX (dk DX11_isOfKind 21 rfl) rfl (by decide) (by decide) (by decide) ?_
  exact rI_of (by unfold ikC; (try first | rw [if_pos hc1n] | rw [if_neg hc1n] | rw [if_neg (not_not_intro hc1n)]); (try first | rw [if_pos hc2n] | rw [if_neg hc2n] | rw [if_neg (not_not_intro hc2n)]); (try first | rw [if_pos hc3n] | rw [if_neg hc3n] | rw [if_neg (not_not_intro hc3n)]); (try first | rw [if_pos hc4n] | rw [if_neg hc4n] | rw [if_neg (not_not_intro hc4n)]); (try first | rw [if_pos hc5n] | rw [if_neg hc5n] | rw [if_neg (not_not_intro hc5n)]); (try first | rw [if_pos hc6n] | rw [if_neg hc6n] | rw [if_neg (not_not_intro hc6n)]); first | done | rfl | decide) rfl rfl

set_option maxRecDepth 8000 in
set_option maxHeartbeats 4000000 in
theorem cv11_isOfKind_4 {G : Gt} (hG : Gok G) {I : It} {h : Ht}  {q : Nat} {k : Int32} (hq : q < hn h) (hcl : (hs h q).1 = 4) : Con G (1) 0 0 mX11_isOfKind [.ref q, .int k] I h (rI (ikC 4 k) I h) := by
  refine con_intro (own := RX11) (lo0 := [some (.ref q), some (.int k)]) hG rfl pl_X11 (Nat.le_of_ble_eq_true rfl) rfl (fun X hX => ?_)
  refine g_iload_1 hX (dk DX11_isOfKind 0 rfl) ?_
  refine g_tswitch (dt := 67) hX [(0, 40), (1, 42), (2, 47), (3, 52), (4, 57), (5, 62)] (dk DX11_isOfKind 1 rfl) (by decide +kernel) ?_
  refine ⟨fun hc1 => ?_, fun hc1n => ?_⟩
  · show GG _ _ _ _ _ _ _ _ _ _ _ _ _
    refine g_iconst (v := 1) hX (dk DX11_isOfKind 2 rfl) (by decide) ?_
    refine g_ireturn hX (dk DX11_isOfKind 3 rfl) rfl (by decide) (by decide) (by decide) ?_
    exact rI_of (by unfold ikC; (try first | rw [if_pos hc1] | rw [if_neg hc1] | rw [if_neg (not_not_intro hc1)]); first | done | rfl | decide) rfl rfl
  refine ⟨fun hc2 => ?_, fun hc2n => ?_⟩
  · show GG _ _ _ _ _ _ _ _ _ _ _ _ _
    refine g_aload_0 hX (dk DX11_isOfKind 4 rfl) ?_
    refine g_inst (b := 0) hX (dk DX11_isOfKind 5 rfl) KX4 (tg_2 35 rfl rfl) hq hcl (Or.inr ⟨rfl, List.mem_of_getElem? (i := 1) rfl⟩) ?_
    refine g_ireturn hX (dk DX11_isOfKind 6 rfl) rfl (by decide) (by decide) (by decide) ?_
    exact rI_of (by unfold ikC; (try first | rw [if_pos hc1n] | rw [if_neg hc1n] | rw [if_neg (not_not_intro hc1n)]); (try first | rw [if_pos hc2] | rw [if_neg hc2] | rw [if_neg (not_not_intro hc2)]); first | done | rfl | decide) rfl rfl
  refine ⟨fun hc3 => ?_, fun hc3n => ?_⟩
  · show GG _ _ _ _ _ _ _ _ _ _ _ _ _
    refine g_aload_0 hX (dk DX11_isOfKind 7 rfl) ?_
    refine g_inst (b := 0) hX (dk DX11_isOfKind 8 rfl) KX4 (tg_2 93 rfl rfl) hq hcl (Or.inr ⟨rfl, List.mem_of_getElem? (i := 6) rfl⟩) ?_
    refine g_ireturn hX (dk DX11_isOfKind 9 rfl) rfl (by decide) (by decide) (by decide) ?_
    exact rI_of (by unfold ikC; (try first | rw [if_pos hc1n] | rw [if_neg hc1n] | rw [if_neg (not_not_intro hc1n)]); (try first | rw [if_pos hc2n] | rw [if_neg hc2n] | rw [if_neg (not_not_intro hc2n)]); (try first | rw [if_pos hc3] | rw [if_neg hc3] | rw [if_neg (not_not_intro hc3)]); first | done | rfl | decide) rfl rfl
  refine ⟨fun hc4 => ?_, fun hc4n => ?_⟩
  · show GG _ _ _ _ _ _ _ _ _ _ _ _ _
    refine g_aload_0 hX (dk DX11_isOfKind 10 rfl) ?_
    refine g_inst (b := 1) hX (dk DX11_isOfKind 11 rfl) KX4 (tg_2 106 rfl rfl) hq hcl (Or.inl ⟨rfl, Or.inl rfl⟩) ?_
    refine g_ireturn hX (dk DX11_isOfKind 12 rfl) rfl (by decide) (by decide) (by decide) ?_
    exact rI_of (by unfold ikC; (try first | rw [if_pos hc1n] | rw [if_neg hc1n] | rw [if_neg (not_not_intro hc1n)]); (try first | rw [if_pos hc2n] | rw [if_neg hc2n] | rw [if_neg (not_not_intro hc2n)]); (try first | rw [if_pos hc3n] | rw [if_neg hc3n] | rw [if_neg (not_not_intro hc3n)]); (try first | rw [if_pos hc4] | rw [if_neg hc4] | rw [if_neg (not_not_intro hc4)]); first | done | rfl | decide) rfl rfl
  refine ⟨fun hc5 => ?_, fun hc5n => ?_⟩
  · show GG _ _ _ _ _ _ _ _ _ _ _ _ _
    refine g_aload_0 hX (dk DX11_isOfKind 13 rfl) ?_
    refine g_inst (b := 0) hX (dk DX11_isOfKind 14 rfl) KX4 (tg_2 119 rfl rfl) hq hcl (Or.inr ⟨rfl, List.mem_of_getElem? (i := 17) rfl⟩) ?_
    refine g_ireturn hX (dk DX11_isOfKind 15 rfl) rfl (by decide) (by decide) (by decide) ?_
    exact rI_of (by unfold ikC; (try first | rw [if_pos hc1n] | rw [if_neg hc1n] | rw [if_neg (not_not_intro hc1n)]); (try first | rw [if_pos hc2n] | rw [if_neg hc2n] | rw [if_neg (not_not_intro hc2n)]); (try first | rw [if_pos hc3n] | rw [if_neg hc3n] | rw [if_neg (not_not_intro hc3n)]); (try first | rw [if_pos hc4n] | rw [if_neg hc4n] | rw [if_neg (not_not_intro hc4n)]); (try first | rw [if_pos hc5] | rw [if_neg hc5] | rw [if_neg (not_not_intro hc5)]); first | done | rfl | decide) rfl rfl
  refine ⟨fun hc6 => ?_, fun hc6n => ?_⟩
  · show GG _ _ _ _ _ _ _ _ _ _ _ _ _
    refine g_aload_0 hX (dk DX11_isOfKind 16 rfl) ?_
    refine g_inst (b := 0) hX (dk DX11_isOfKind 17 rfl) KX4 (tg_2 132 rfl rfl) hq hcl (Or.inr ⟨rfl, List.mem_of_getElem? (i := 23) rfl⟩) ?_
    refine g_ireturn hX (dk DX11_isOfKind 18 rfl) rfl (by decide) (by decide) (by decide) ?_
    exact rI_of (by unfold ikC; (try first | rw [if_pos hc1n] | rw [if_neg hc1n] | rw [if_neg (not_not_intro hc1n)]); (try first | rw [if_pos hc2n] | rw [if_neg hc2n] | rw [if_neg (not_not_intro hc2n)]); (try first | rw [if_pos hc3n] | rw [if_neg hc3n] | rw [if_neg (not_not_intro hc3n)]); (try first | rw [if_pos hc4n] | rw [if_neg hc4n] | rw [if_neg (not_not_intro hc4n)]); (try first | rw [if_pos hc5n] | rw [if_neg hc5n] | rw [if_neg (not_not_intro hc5n)]); (try first | rw [if_pos hc6] | rw [if_neg hc6] | rw [if_neg (not_not_intro hc6)]); first | done | rfl | decide) rfl rfl
  show GG _ _ _ _ _ _ _ _ _ _ _ _ _
  refine g_aload_0 hX (dk DX11_isOfKind 19 rfl) ?_
  refine g_inst (b := 0) hX (dk DX11_isOfKind 20 rfl) KX4 (tg_2 145 rfl rfl) hq hcl (Or.inr ⟨rfl, List.mem_of_getElem? (i := 29) rfl⟩) ?_
  refine g_ireturn hX (dk DX11_isOfKind 21 rfl) rfl (by decide) (by decide) (by decide) ?_
  exact rI_of (by unfold ikC; (try first | rw [if_pos hc1n] | rw [if_neg hc1n] | rw [if_neg (not_not_intro hc1n)]); (try first | rw [if_pos hc2n] | rw [if_neg hc2n] | rw [if_neg (not_not_intro hc2n)]); (try first | rw [if_pos hc3n] | rw [if_neg hc3n] | rw [if_neg (not_not_intro hc3n)]); (try first | rw [if_pos hc4n] | rw [if_neg hc4n] | rw [if_neg (not_not_intro hc4n)]); (try first | rw [if_pos hc5n] | rw [if_neg hc5n] | rw [if_neg (not_not_intro hc5n)]); (try first | rw [if_pos hc6n] | rw [if_neg hc6n] | rw [if_neg (not_not_intro hc6n)]); first | done | rfl | decide) rfl rfl

set_option maxRecDepth 8000 in
set_option maxHeartbeats 4000000 in
theorem cv11_isOfKind_6 {G : Gt} (hG : Gok G) {I : It} {h : Ht}  {q : Nat} {k : Int32} (hq : q < hn h) (hcl : (hs h q).1 = 6) : Con G (1) 0 0 mX11_isOfKind [.ref q, .int k] I h (rI (ikC 6 k) I h) := by
  refine con_intro (own := RX11) (lo0 := [some (.ref q), some (.int k)]) hG rfl pl_X11 (Nat.le_of_ble_eq_true rfl) rfl (fun X hX => ?_)
  refine g_iload_1 hX (dk DX11_isOfKind 0 rfl) ?_
  refine g_tswitch (dt := 67) hX [(0, 40), (1, 42), (2, 47), (3, 52), (4, 57), (5, 62)] (dk DX11_isOfKind 1 rfl) (by decide +kernel) ?_
  refine ⟨fun hc1 => ?_, fun hc1n => ?_⟩
  · show GG _ _ _ _ _ _ _ _ _ _ _ _ _
    refine g_iconst (v := 1) hX (dk DX11_isOfKind 2 rfl) (by decide) ?_
    refine g_ireturn hX (dk DX11_isOfKind 3 rfl) rfl (by decide) (by decide) (by decide) ?_
    exact rI_of (by unfold ikC; (try first | rw [if_pos hc1] | rw [if_neg hc1] | rw [if_neg (not_not_intro hc1)]); first | done | rfl | decide) rfl rfl
  refine ⟨fun hc2 => ?_, fun hc2n => ?_⟩
  · show GG _ _ _ _ _ _ _ _ _ _ _ _ _
    refine g_aload_0 hX (dk DX11_isOfKind 4 rfl) ?_
    refine g_inst (b := 0) hX (dk DX11_isOfKind 5 rfl) KX6 (tg_2 35 rfl rfl) hq hcl (Or.inr ⟨rfl, List.mem_of_getElem? (i := 2) rfl⟩) ?_
    refine g_ireturn hX (dk DX11_isOfKind 6 rfl) rfl (by decide) (by decide) (by decide) ?_
    exact rI_of (by unfold ikC; (try first | rw [if_pos hc1n] | rw [if_neg hc1n] | rw [if_neg (not_not_intro hc1n)]); (try first | rw [if_pos hc2] | rw [if_neg hc2] | rw [if_neg (not_not_intro hc2)]); first | done | rfl | decide) rfl rfl
  refine ⟨fun hc3 => ?_, fun hc3n => ?_⟩
  · show GG _ _ _ _ _ _ _ _ _ _ _ _ _
    refine g_aload_0 hX (dk DX11_isOfKind 7 rfl) ?_
    refine g_inst (b := 1) hX (dk DX11_isOfKind 8 rfl) KX6 (tg_2 93 rfl rfl) hq hcl (Or.inl ⟨rfl, Or.inr (List.mem_of_getElem? (i := 1) rfl)⟩) ?_
    refine g_ireturn hX (dk DX11_isOfKind 9 rfl) rfl (by decide) (by decide) (by decide) ?_
    exact rI_of (by unfold ikC; (try first | rw [if_pos hc1n] | rw [if_neg hc1n] | rw [if_neg (not_not_intro hc1n)]); (try first | rw [if_pos hc2n] | rw [if_neg hc2n] | rw [if_neg (not_not_intro hc2n)]); (try first | rw [if_pos hc3] | rw [if_neg hc3] | rw [if_neg (not_not_intro hc3)]); first | done | rfl | decide) rfl rfl
  refine ⟨fun hc4 => ?_, fun hc4n => ?_⟩
  · show GG _ _ _ _ _ _ _ _ _ _ _ _ _
    refine g_aload_0 hX (dk DX11_isOfKind 10 rfl) ?_
    refine g_inst (b := 0) hX (dk DX11_isOfKind 11 rfl) KX6 (tg_2 106 rfl rfl) hq hcl (Or.inr ⟨rfl, List.mem_of_getElem? (i := 13) rfl⟩) ?_
    refine g_ireturn hX (dk DX11_isOfKind 12 rfl) rfl (by decide) (by decide) (by decide) ?_
    exact rI_of (by unfold ikC; (try first | rw [if_pos hc1n] | rw [if_neg hc1n] | rw [if_neg (not_not_intro hc1n)]); (try first | rw [if_pos hc2n] | rw [if_neg hc2n] | rw [if_neg (not_not_intro hc2n)]); (try first | rw [if_pos hc3n] | rw [if_neg hc3n] | rw [if_neg (not_not_intro hc3n)]); (try first | rw [if_pos hc4] | rw [if_neg hc4] | rw [if_neg (not_not_intro hc4)]); first | done | rfl | decide) rfl rfl
  refine ⟨fun hc5 => ?_, fun hc5n => ?_⟩
  · show GG _ _ _ _ _ _ _ _ _ _ _ _ _
    refine g_aload_0 hX (dk DX11_isOfKind 13 rfl) ?_
    refine g_inst (b := 0) hX (dk DX11_isOfKind 14 rfl) KX6 (tg_2 119 rfl rfl) hq hcl (Or.inr ⟨rfl, List.mem_of_getElem? (i := 18) rfl⟩) ?_
    refine g_ireturn hX (dk DX11_isOfKind 15 rfl) rfl (by decide) (by decide) (by decide) ?_
    exact rI_of (by unfold ikC; (try first | rw [if_pos hc1n] | rw [if_neg hc1n] | rw [if_neg (not_not_intro hc1n)]); (try first | rw [if_pos hc2n] | rw [if_neg hc2n] | rw [if_neg (not_not_intro hc2n)]); (try first | rw [if_pos hc3n] | rw [if_neg hc3n] | rw [if_neg (not_not_intro hc3n)]); (try first | rw [if_pos hc4n] | rw [if_neg hc4n] | rw [if_neg (not_not_intro hc4n)]); (try first | rw [if_pos hc5] | rw [if_neg hc5] | rw [if_neg (not_not_intro hc5)]); first | done | rfl | decide) rfl rfl
  refine ⟨fun hc6 => ?_, fun hc6n => ?_⟩
  · show GG _ _ _ _ _ _ _ _ _ _ _ _ _
    refine g_aload_0 hX (dk DX11_isOfKind 16 rfl) ?_
    refine g_inst (b := 1) hX (dk DX11_isOfKind 17 rfl) KX6 (tg_2 132 rfl rfl) hq hcl (Or.inl ⟨rfl, Or.inl rfl⟩) ?_
    refine g_ireturn hX (dk DX11_isOfKind 18 rfl) rfl (by decide) (by decide) (by decide) ?_
    exact rI_of (by unfold ikC; (try first | rw [if_pos hc1n] | rw [if_neg hc1n] | rw [if_neg (not_not_intro hc1n)]); (try first | rw [if_pos hc2n] | rw [if_neg hc2n] | rw [if_neg (not_not_intro hc2n)]); (try first | rw [if_pos hc3n] | rw [if_neg hc3n] | rw [if_neg (not_not_intro hc3n)]); (try first | rw [if_pos hc4n] | rw [if_neg hc4n] | rw [if_neg (not_not_intro hc4n)]); (try first | rw [if_pos hc5n] | rw [if_neg hc5n] | rw [if_neg (not_not_intro hc5n)]); (try first | rw [if_pos hc6] | rw [if_neg hc6] | rw [if_neg (not_not_intro hc6)]); first | done | rfl | decide) rfl rfl
  show GG _ _ _ _ _ _ _ _ _ _ _ _ _
  refine g_aload_0 hX (dk DX11_isOfKind 19 rfl) ?_
  refine g_inst (b := 0) hX (dk DX11_isOfKind 20 rfl) KX6 (tg_2 145 rfl rfl) hq hcl (Or.inr ⟨rfl, List.mem_of_getElem? (i := 31) rfl⟩) ?_
  refine g_ireturn hX (dk DX11_isOfKind 21 rfl) rfl (by decide) (by decide) (by decide) ?_
  exact rI_of (by unfold ikC; (try first | rw [if_pos hc1n] | rw [if_neg hc1n] | rw [if_neg (not_not_intro hc1n)]); (try first | rw [if_pos hc2n] | rw [if_neg hc2n] | rw [if_neg (not_not_intro hc2n)]); (try first | rw [if_pos hc3n] | rw [if_neg hc3n] | rw [if_neg (not_not_intro hc3n)]); (try first | rw [if_pos hc4n] | rw [if_neg hc4n] | rw [if_neg (not_not_intro hc4n)]); (try first | rw [if_pos hc5n] | rw [if_neg hc5n] | rw [if_neg (not_not_intro hc5n)]); (try first | rw [if_pos hc6n] | rw [if_neg hc6n] | rw [if_neg (not_not_intro hc6n)]); first | done | rfl | decide) rfl rfl

set_option maxRecDepth 8000 in
set_option maxHeartbeats 4000000 in
theorem cv11_isOfKind_8 {G : Gt} (hG : Gok G) {I : It} {h : Ht}  {q : Nat} {k : Int32} (hq : q < hn h) (hcl : (hs h q).1 = 8) : Con G (1) 0 0 mX11_isOfKind [.ref q, .int k] I h (rI (ikC 8 k) I h) := by
  refine con_intro (own := RX11) (lo0 := [some (.ref q), some (.int k)]) hG rfl pl_X11 (Nat.le_of_ble_eq_true rfl) rfl (fun X hX => ?_)
  refine g_iload_1 hX (dk DX11_isOfKind 0 rfl) ?_
  refine g_tswitch (dt := 67) hX [(0, 40), (1, 42), (2, 47), (3, 52), (4, 57), (5, 62)] (dk DX11_isOfKind 1 rfl) (by decide +kernel) ?_
  refine ⟨fun hc1 => ?_, fun hc1n => ?_⟩
  · show GG _ _ _ _ _ _ _ _ _ _ _ _ _
    refine g_iconst (v := 1) hX (dk DX11_isOfKind 2 rfl) (by decide) ?_
    refine g_ireturn hX (dk DX11_isOfKind 3 rfl) rfl (by decide) (by decide) (by decide) ?_
    exact rI_of (by unfold ikC; (try first | rw [if_pos hc1] | rw [if_neg hc1] | rw [if_neg (not_not_intro hc1)]); first | done | rfl | decide) rfl rfl
  refine ⟨fun hc2 => ?_, fun hc2n => ?_⟩
  · show GG _ _ _ _ _ _ _ _ _ _ _ _ _
    refine g_aload_0 hX (dk DX11_isOfKind 4 rfl) ?_
    refine g_inst (b := 1) hX (dk DX11_isOfKind 5 rfl) KX8 (tg_2 35 rfl rfl) hq hcl (Or.inl ⟨rfl, Or.inr (List.mem_of_getElem? (i := 0) rfl)⟩) ?_
    refine g_ireturn hX (dk DX11_isOfKind 6 rfl) rfl (by decide) (by decide) (by decide) ?_
    exact rI_of (by unfold ikC; (try first | rw [if_pos hc1n] | rw [if_neg hc1n] | rw [if_neg (not_not_intro hc1n)]); (try first | rw [if_pos hc2] | rw [if_neg hc2] | rw [if_neg (not_not_intro hc2)]); first | done | rfl | decide) rfl rfl
  refine ⟨fun hc3 => ?_, fun hc3n => ?_⟩
  · show GG _ _ _ _ _ _ _ _ _ _ _ _ _
    refine g_aload_0 hX (dk DX11_isOfKind 7 rfl) ?_
    refine g_inst (b := 0) hX (dk DX11_isOfKind 8 rfl) KX8 (tg_2 93 rfl rfl) hq hcl (Or.inr ⟨rfl, List.mem_of_getElem? (i := 7) rfl⟩) ?_
    refine g_ireturn hX (dk DX11_isOfKind 9 rfl) rfl (by decide) (by decide) (by decide) ?_
    exact rI_of (by unfold ikC; (try first | rw [if_pos hc1n] | rw [if_neg hc1n] | rw [if_neg (not_not_intro hc1n)]); (try first | rw [if_pos hc2n] | rw [if_neg hc2n] | rw [if_neg (not_not_intro hc2n)]); (try first | rw [if_pos hc3] | rw [if_neg hc3] | rw [if_neg (not_not_intro hc3)]); first | done | rfl | decide) rfl rfl
  refine ⟨fun hc4 => ?_, fun hc4n => ?_⟩
  · show GG _ _ _ _ _ _ _ _ _ _ _ _ _
    refine g_aload_0 hX (dk DX11_isOfKind 10 rfl) ?_
    refine g_inst (b := 0) hX (dk DX11_isOfKind 11 rfl) KX8 (tg_2 106 rfl rfl) hq hcl (Or.inr ⟨rfl, List.mem_of_getElem? (i := 12) rfl⟩) ?_
    refine g_ireturn hX (dk DX11_isOfKind 12 rfl) rfl (by decide) (by decide) (by decide) ?_
    exact rI_of (by unfold ikC; (try first | rw [if_pos hc1n] | rw [if_neg hc1n] | rw [if_neg (not_not_intro hc1n)]); (try first | rw [if_pos hc2n] | rw [if_neg hc2n] | rw [if_neg (not_not_intro hc2n)]); (try first | rw [if_pos hc3n] | rw [if_neg hc3n] | rw [if_neg (not_not_intro hc3n)]); (try first | rw [if_pos hc4] | rw [if_neg hc4] | rw [if_neg (not_not_intro hc4)]); first | done | rfl | decide) rfl rfl
  refine ⟨fun hc5 => ?_, fun hc5n => ?_⟩
  · show GG _ _ _ _ _ _ _ _ _ _ _ _ _
    refine g_aload_0 hX (dk DX11_isOfKind 13 rfl) ?_
    refine g_inst (b := 1) hX (dk DX11_isOfKind 14 rfl) KX8 (tg_2 119 rfl rfl) hq hcl (Or.inl ⟨rfl, Or.inl rfl⟩) ?_
    refine g_ireturn hX (dk DX11_isOfKind 15 rfl) rfl (by decide) (by decide) (by decide) ?_
    exact rI_of (by unfold ikC; (try first | rw [if_pos hc1n] | rw [if_neg hc1n] | rw [if_neg (not_not_intro hc1n)]); (try first | rw [if_pos hc2n] | rw [if_neg hc2n] | rw [if_neg (not_not_intro hc2n)]); (try first | rw [if_pos hc3n] | rw [if_neg hc3n] | rw [if_neg (not_not_intro hc3n)]); (try first | rw [if_pos hc4n] | rw [if_neg hc4n] | rw [if_neg (not_not_intro hc4n)]); (try first | rw [if_pos hc5] | rw [if_neg hc5] | rw [if_neg (not_not_intro hc5)]); first | done | rfl | decide) rfl rfl
  refine ⟨fun hc6 => ?_, fun hc6n => ?_⟩
  · show GG _ _ _ _ _ _ _ _ _ _ _ _ _
    refine g_aload_0 hX (dk DX11_isOfKind 16 rfl) ?_
    refine g_inst (b := 0) hX (dk DX11_isOfKind 17 rfl) KX8 (tg_2 132 rfl rfl) hq hcl (Or.inr ⟨rfl, List.mem_of_getElem? (i := 24) rfl⟩) ?_
    refine g_ireturn hX (dk DX11_isOfKind 18 rfl) rfl (by decide) (by decide) (by decide) ?_
    exact rI_of (by unfold ikC; (try first | rw [if_pos hc1n] | rw [if_neg hc1n] | rw [if_neg (not_not_intro hc1n)]); (try first | rw [if_pos hc2n] | rw [if_neg hc2n] | rw [if_neg (not_not_intro hc2n)]); (try first | rw [if_pos hc3n] | rw [if_neg hc3n] | rw [if_neg (not_not_intro hc3n)]); (try first | rw [if_pos hc4n] | rw [if_neg hc4n] | rw [if_neg (not_not_intro hc4n)]); (try first | rw [if_pos hc5n] | rw [if_neg hc5n] | rw [if_neg (not_not_intro hc5n)]); (try first | rw [if_pos hc6] | rw [if_neg hc6] | rw [if_neg (not_not_intro hc6)]); first | done | rfl | decide) rfl rfl
  show GG _ _ _ _ _ _ _ _ _ _ _ _ _
  refine g_aload_0 hX (dk DX11_isOfKind 19 rfl) ?_
  refine g_inst (b := 0) hX (dk DX11_isOfKind 20 rfl) KX8 (tg_2 145 rfl rfl) hq hcl (Or.inr ⟨rfl, List.mem_of_getElem? (i := 30) rfl⟩) ?_
  refine g_ireturn hX (dk DX11_isOfKind 21 rfl) rfl (by decide) (by decide) (by decide) ?_
  exact rI_of (by unfold ikC; (try first | rw [if_pos hc1n] | rw [if_neg hc1n] | rw [if_neg (not_not_intro hc1n)]); (try first | rw [if_pos hc2n] | rw [if_neg hc2n] | rw [if_neg (not_not_intro hc2n)]); (try first | rw [if_pos hc3n] | rw [if_neg hc3n] | rw [if_neg (not_not_intro hc3n)]); (try first | rw [if_pos hc4n] | rw [if_neg hc4n] | rw [if_neg (not_not_intro hc4n)]); (try first | rw [if_pos hc5n] | rw [if_neg hc5n] | rw [if_neg (not_not_intro hc5n)]); (try first | rw [if_pos hc6n] | rw [if_neg hc6n] | rw [if_neg (not_not_intro hc6n)]); first | done | rfl | decide) rfl rfl

set_option maxRecDepth 8000 in
set_option maxHeartbeats 4000000 in
theorem cv11_isOfKind_9 {G : Gt} (hG : Gok G) {I : It} {h : Ht}  {q : Nat} {k : Int32} (hq : q < hn h) (hcl : (hs h q).1 = 9) : Con G (1) 0 0 mX11_isOfKind [.ref q, .int k] I h (rI (ikC 9 k) I h) := by
  refine con_intro (own := RX11) (lo0 := [some (.ref q), some (.int k)]) hG rfl pl_X11 (Nat.le_of_ble_eq_true rfl) rfl (fun X hX => ?_)
  refine g_iload_1 hX (dk DX11_isOfKind 0 rfl) ?_
  refine g_tswitch (dt := 67) hX [(0, 40), (1, 42), (2, 47), (3, 52), (4, 57), (5, 62)] (dk DX11_isOfKind 1 rfl) (by decide +kernel) ?_
  refine ⟨fun hc1 => ?_, fun hc1n => ?_⟩
  · show GG _ _ _ _ _ _ _ _ _ _ _ _ _
    refine g_iconst (v := 1) hX (dk DX11_isOfKind 2 rfl) (by decide) ?_
    refine g_ireturn hX (dk DX11_isOfKind 3 rfl) rfl (by decide) (by decide) (by decide) ?_
    exact rI_of (by unfold ikC; (try first | rw [if_pos hc1] | rw [if_neg hc1] | rw [if_neg (not_not_intro hc1)]); first | done | rfl | decide) rfl rfl
  refine ⟨fun hc2 => ?_, fun hc2n => ?_⟩
  · show GG _ _ _ _ _ _ _ _ _ _ _ _ _
    refine g_aload_0 hX (dk DX11_isOfKind 4 rfl) ?_
    refine g_inst (b := 1) hX (dk DX11_isOfKind 5 rfl) KX9 (tg_2 35 rfl rfl) hq hcl (Or.inl ⟨rfl, Or.inl rfl⟩) ?_
    refine g_ireturn hX (dk DX11_isOfKind 6 rfl) rfl (by decide) (by decide) (by decide) ?_
    exact rI_of (by unfold ikC; (try first | rw [if_pos hc1n] | rw [if_neg hc1n] | rw [if_neg (not_not_intro hc1n)]); (try first | rw [if_pos hc2] | rw [if_neg hc2] | rw [if_neg (not_not_intro hc2)]); first | done | rfl | decide) rfl rfl
  refine ⟨fun hc3 => ?_, fun hc3n => ?_⟩
  · show GG _ _ _ _ _ _ _ _ _ _ _ _ _
    refine g_aload_0 hX (dk DX11_isOfKind 7 rfl) ?_
    refine g_inst (b := 0) hX (dk DX11_isOfKind 8 rfl) KX9 (tg_2 93 rfl rfl) hq hcl (Or.inr ⟨rfl, List.mem_of_getElem? (i := 5) rfl⟩) ?_
    refine g_ireturn hX (dk DX11_isOfKind 9 rfl) rfl (by decide) (by decide) (by decide) ?_
    exact rI_of (by unfold ikC; (try first | rw [if_pos hc1n] | rw [if_neg hc1n] | rw [if_neg (not_not_intro hc1n)]); (try first | rw [if_pos hc2n] | rw [if_neg hc2n] | rw [if_neg (not_not_intro hc2n)]); (try first | rw [if_pos hc3] | rw [if_neg hc3] | rw [if_neg (not_not_intro hc3)]); first | done | rfl | decide) rfl rfl
  refine ⟨fun hc4 => ?_, fun hc4n => ?_⟩
  · show GG _ _ _ _ _ _ _ _ _ _ _ _ _
    refine g_aload_0 hX (dk DX11_isOfKind 10 rfl) ?_
    refine g_inst (b := 0) hX (dk DX11_isOfKind 11 rfl) KX9 (tg_2 106 rfl rfl) hq hcl (Or.inr ⟨rfl, List.mem_of_getElem? (i := 10) rfl⟩) ?_
    refine g_ireturn hX (dk DX11_isOfKind 12 rfl) rfl (by decide) (by decide) (by decide) ?_
    exact rI_of (by unfold ikC; (try first | rw [if_pos hc1n] | rw [if_neg hc1n] | rw [if_neg (not_not_intro hc1n)]); (try first | rw [if_pos hc2n] | rw [if_neg hc2n] | rw [if_neg (not_not_intro hc2n)]); (try first | rw [if_pos hc3n] | rw [if_neg hc3n] | rw [if_neg (not_not_intro hc3n)]); (try first | rw [if_pos hc4] | rw [if_neg hc4] | rw [if_neg (not_not_intro hc4)]); first | done | rfl | decide) rfl rfl
  refine ⟨fun hc5 => ?_, fun hc5n => ?_⟩
  · show GG _ _ _ _ _ _ _ _ _ _ _ _ _
    refine g_aload_0 hX (dk DX11_isOfKind 13 rfl) ?_
    refine g_inst (b := 0) hX (dk DX11_isOfKind 14 rfl) KX9 (tg_2 119 rfl rfl) hq hcl (Or.inr ⟨rfl, List.mem_of_getElem? (i := 15) rfl⟩) ?_
    refine g_ireturn hX (dk DX11_isOfKind 15 rfl) rfl (by decide) (by decide) (by decide) ?_
    exact rI_of (by unfold ikC; (try first | rw [if_pos hc1n] | rw [if_neg hc1n] | rw [if_neg (not_not_intro hc1n)]); (try first | rw [if_pos hc2n] | rw [if_neg hc2n] | rw [if_neg (not_not_intro hc2n)]); (try first | rw [if_pos hc3n] | rw [if_neg hc3n] | rw [if_neg (not_not_intro hc3n)]); (try first | rw [if_pos hc4n] | rw [if_neg hc4n] | rw [if_neg (not_not_intro hc4n)]); (try first | rw [if_pos hc5] | rw [if_neg hc5] | rw [if_neg (not_not_intro hc5)]); first | done | rfl | decide) rfl rfl
  refine ⟨fun hc6 => ?_, fun hc6n => ?_⟩
  · show GG _ _ _ _ _ _ _ _ _ _ _ _ _
    refine g_aload_0 hX (dk DX11_isOfKind 16 rfl) ?_
    refine g_inst (b := 0) hX (dk DX11_isOfKind 17 rfl) KX9 (tg_2 132 rfl rfl) hq hcl (Or.inr ⟨rfl, List.mem_of_getElem? (i := 21) rfl⟩) ?_
    refine g_ireturn hX (dk DX11_isOfKind 18 rfl) rfl (by decide) (by decide) (by decide) ?_
    exact rI_of (by unfold ikC; (try first | rw [if_pos hc1n] | rw [if_neg hc1n] | rw [if_neg (not_not_intro hc1n)]); (try first | rw [if_pos hc2n] | rw [if_neg hc2n] | rw [if_neg (not_not_intro hc2n)]); (try first | rw [if_pos hc3n] | rw [if_neg hc3n] | rw [if_neg (not_not_intro hc3n)]); (try first | rw [if_pos hc4n] | rw [if_neg hc4n] | rw [if_neg (not_not_intro hc4n)]); (try first | rw [if_pos hc5n] | rw [if_neg hc5n] | rw [if_neg (not_not_intro hc5n)]); (try first | rw [if_pos hc6] | rw [if_neg hc6] | rw [if_neg (not_not_intro hc6)]); first | done | rfl | decide) rfl rfl
  show GG _ _ _ _ _ _ _ _ _ _ _ _ _
  refine g_aload_0 hX (dk DX11_isOfKind 19 rfl) ?_
  refine g_inst (b := 0) hX (dk DX11_isOfKind 20 rfl) KX9 (tg_2 145 rfl rfl) hq hcl (Or.inr ⟨rfl, List.mem_of_getElem? (i := 27) rfl⟩) ?_
  refine g_ireturn hX (dk DX11_isOfKind 21 rfl) rfl (by decide) (by decide) (by decide) ?_
  exact rI_of (by unfold ikC; (try first | rw [if_pos hc1n] | rw [if_neg hc1n] | rw [if_neg (not_not_intro hc1n)]); (try first | rw [if_pos hc2n] | rw [if_neg hc2n] | rw [if_neg (not_not_intro hc2n)]); (try first | rw [if_pos hc3n] | rw [if_neg hc3n] | rw [if_neg (not_not_intro hc3n)]); (try first | rw [if_pos hc4n] | rw [if_neg hc4n] | rw [if_neg (not_not_intro hc4n)]); (try first | rw [if_pos hc5n] | rw [if_neg hc5n] | rw [if_neg (not_not_intro hc5n)]); (try first | rw [if_pos hc6n] | rw [if_neg hc6n] | rw [if_neg (not_not_intro hc6n)]); first | done | rfl | decide) rfl rfl

set_option maxRecDepth 8000 in
set_option maxHeartbeats 4000000 in
theorem cv11_isOfKind_10 {G : Gt} (hG : Gok G) {I : It} {h : Ht}  {q : Nat} {k : Int32} (hq : q < hn h) (hcl : (hs h q).1 = 10) : Con G (1) 0 0 mX11_isOfKind [.ref q, .int k] I h (rI (ikC 10 k) I h) := by
  refine con_intro (own := RX11) (lo0 := [some (.ref q), some (.int k)]) hG rfl pl_X11 (Nat.le_of_ble_eq_true rfl) rfl (fun X hX => ?_)
  refine g_iload_1 hX (dk DX11_isOfKind 0 rfl) ?_
  refine g_tswitch (dt := 67) hX [(0, 40), (1, 42), (2, 47), (3, 52), (4, 57), (5, 62)] (dk DX11_isOfKind 1 rfl) (by decide +kernel) ?_
  refine ⟨fun hc1 => ?_, fun hc1n => ?_⟩
  · show GG _ _ _ _ _ _ _ _ _ _ _ _ _
    refine g_iconst (v := 1) hX (dk DX11_isOfKind 2 rfl) (by decide) ?_
    refine g_ireturn hX (dk DX11_isOfKind 3 rfl) rfl (by decide) (by decide) (by decide) ?_
    exact rI_of (by unfold ikC; (try first | rw [if_pos hc1] | rw [if_neg hc1] | rw [if_neg (not_not_intro hc1)]); first | done | rfl | decide) rfl rfl
  refine ⟨fun hc2 => ?_, fun hc2n => ?_⟩
  · show GG _ _ _ _ _ _ _ _ _ _ _ _ _
    refine g_aload_0 hX (dk DX11_isOfKind 4 rfl) ?_
    refine g_inst (b := 0) hX (dk DX11_isOfKind 5 rfl) KX10 (tg_2 35 rfl rfl) hq hcl (Or.inr ⟨rfl, List.mem_of_getElem? (i := 3) rfl⟩) ?_
    refine g_ireturn hX (dk DX11_isOfKind 6 rfl) rfl (by decide) (by decide) (by decide) ?_
    exact rI_of (by unfold ikC; (try first | rw [if_pos hc1n] | rw [if_neg hc1n] | rw [if_neg (not_not_intro hc1n)]); (try first | rw [if_pos hc2] | rw [if_neg hc2] | rw [if_neg (not_not_intro hc2)]); first | done | rfl | decide) rfl rfl
  refine ⟨fun hc3 => ?_, fun hc3n => ?_⟩
  · show GG _ _ _ _ _ _ _ _ _ _ _ _ _
    refine g_aload_0 hX (dk DX11_isOfKind 7 rfl) ?_
    refine g_inst (b := 0) hX (dk DX11_isOfKind 8 rfl) KX10 (tg_2 93 rfl rfl) hq hcl (Or.inr ⟨rfl, List.mem_of_getElem? (i := 8) rfl⟩) ?_
    refine g_ireturn hX (dk DX11_isOfKind 9 rfl) rfl (by decide) (by decide) (by decide) ?_
    exact rI_of (by unfold ikC; (try first | rw [if_pos hc1n] | rw [if_neg hc1n] | rw [if_neg (not_not_intro hc1n)]); (try first | rw [if_pos hc2n] | rw [if_neg hc2n] | rw [if_neg (not_not_intro hc2n)]); (try first | rw [if_pos hc3] | rw [if_neg hc3] | rw [if_neg (not_not_intro hc3)]); first | done | rfl | decide) rfl rfl
  refine ⟨fun hc4 => ?_, fun hc4n => ?_⟩
  · show GG _ _ _ _ _ _ _ _ _ _ _ _ _
    refine g_aload_0 hX (dk DX11_isOfKind 10 rfl) ?_
    refine g_inst (b := 1) hX (dk DX11_isOfKind 11 rfl) KX10 (tg_2 106 rfl rfl) hq hcl (Or.inl ⟨rfl, Or.inr (List.mem_of_getElem? (i := 2) rfl)⟩) ?_
    refine g_ireturn hX (dk DX11_isOfKind 12 rfl) rfl (by decide) (by decide) (by decide) ?_
    exact rI_of (by unfold ikC; (try first | rw [if_pos hc1n] | rw [if_neg hc1n] | rw [if_neg (not_not_intro hc1n)]); (try first | rw [if_pos hc2n] | rw [if_neg hc2n] | rw [if_neg (not_not_intro hc2n)]); (try first | rw [if_pos hc3n] | rw [if_neg hc3n] | rw [if_neg (not_not_intro hc3n)]); (try first | rw [if_pos hc4] | rw [if_neg hc4] | rw [if_neg (not_not_intro hc4)]); first | done | rfl | decide) rfl rfl
  refine ⟨fun hc5 => ?_, fun hc5n => ?_⟩
  · show GG _ _ _ _ _ _ _ _ _ _ _ _ _
    refine g_aload_0 hX (dk DX11_isOfKind 13 rfl) ?_
    refine g_inst (b := 0) hX (dk DX11_isOfKind 14 rfl) KX10 (tg_2 119 rfl rfl) hq hcl (Or.inr ⟨rfl, List.mem_of_getElem? (i := 19) rfl⟩) ?_
    refine g_ireturn hX (dk DX11_isOfKind 15 rfl) rfl (by decide) (by decide) (by decide) ?_
    exact rI_of (by unfold ikC; (try first | rw [if_pos hc1n] | rw [if_neg hc1n] | rw [if_neg (not_not_intro hc1n)]); (try first | rw [if_pos hc2n] | rw [if_neg hc2n] | rw [if_neg (not_not_intro hc2n)]); (try first | rw [if_pos hc3n] | rw [if_neg hc3n] | rw [if_neg (not_not_intro hc3n)]); (try first | rw [if_pos hc4n] | rw [if_neg hc4n] | rw [if_neg (not_not_intro hc4n)]); (try first | rw [if_pos hc5] | rw [if_neg hc5] | rw [if_neg (not_not_intro hc5)]); first | done | rfl | decide) rfl rfl
  refine ⟨fun hc6 => ?_, fun hc6n => ?_⟩
  · show GG _ _ _ _ _ _ _ _ _ _ _ _ _
    refine g_aload_0 hX (dk DX11_isOfKind 16 rfl) ?_
    refine g_inst (b := 0) hX (dk DX11_isOfKind 17 rfl) KX10 (tg_2 132 rfl rfl) hq hcl (Or.inr ⟨rfl, List.mem_of_getElem? (i := 25) rfl⟩) ?_
    refine g_ireturn hX (dk DX11_isOfKind 18 rfl) rfl (by decide) (by decide) (by decide) ?_
    exact rI_of (by unfold ikC; (try first | rw [if_pos hc1n] | rw [if_neg hc1n] | rw [if_neg (not_not_intro hc1n)]); (try first | rw [if_pos hc2n] | rw [if_neg hc2n] | rw [if_neg (not_not_intro hc2n)]); (try first | rw [if_pos hc3n] | rw [if_neg hc3n] | rw [if_neg (not_not_intro hc3n)]); (try first | rw [if_pos hc4n] | rw [if_neg hc4n] | rw [if_neg (not_not_intro hc4n)]); (try first | rw [if_pos hc5n] | rw [if_neg hc5n] | rw [if_neg (not_not_intro hc5n)]); (try first | rw [if_pos hc6] | rw [if_neg hc6] | rw [if_neg (not_not_intro hc6)]); first | done | rfl | decide) rfl rfl
  show GG _ _ _ _ _ _ _ _ _ _ _ _ _
  refine g_aload_0 hX (dk DX11_isOfKind 19 rfl) ?_
  refine g_inst (b := 1) hX (dk DX11_isOfKind 20 rfl) KX10 (tg_2 145 rfl rfl) hq hcl (Or.inl ⟨rfl, Or.inl rfl⟩) ?_
  refine g_ireturn hX (dk DX11_isOfKind 21 rfl) rfl (by decide) (by decide) (by decide) ?_
  exact rI_of (by unfold ikC; (try first | rw [if_pos hc1n] | rw [if_neg hc1n] | rw [if_neg (not_not_intro hc1n)]); (try first | rw [if_pos hc2n] | rw [if_neg hc2n] | rw [if_neg (not_not_intro hc2n)]); (try first | rw [if_pos hc3n] | rw [if_neg hc3n] | rw [if_neg (not_not_intro hc3n)]); (try first | rw [if_pos hc4n] | rw [if_neg hc4n] | rw [if_neg (not_not_intro hc4n)]); (try first | rw [if_pos hc5n] | rw [if_neg hc5n] | rw [if_neg (not_not_intro hc5n)]); (try first | rw [if_pos hc6n] | rw [if_neg hc6n] | rw [if_neg (not_not_intro hc6n)]); first | done | rfl | decide) rfl rfl

theorem c_isOfKind {G : Gt} (hG : Gok G) {I : It} {h : Ht} {q : Nat} {k : Int32} (hq : q < hn h) (hdc : isDC (hs h q).1) : Con G 1 0 0 mX11_isOfKind [.ref q, .int k] I h (rI (ikC (hs h q).1 k) I h) := by
  rcases hdc with e | e | e | e | e | e | e <;> rw [e]
  · exact cv11_isOfKind_1 hG hq e
  · exact cv11_isOfKind_2 hG hq e
  · exact cv11_isOfKind_4 hG hq e
  · exact cv11_isOfKind_6 hG hq e
  · exact cv11_isOfKind_8 hG hq e
  · exact cv11_isOfKind_9 hG hq e
  · exact cv11_isOfKind_10 hG hq e
set_option maxRecDepth 8000 in
set_option maxHeartbeats 4000000 in
theorem y_taken {G : Gt} (hG : Gok G) {I : It} {h : Ht}  {E : It} {L : Nat → Int64} (hE : Inv E) (hY : RY E L I h) {d : Nat} (hd : d < cnt E) {k : Int32} : Con G (4) 0 0 mX11_taken [.ref 0, .int (nI d), .int k] I h (qX (takenS E (nI d) k) L (hn h)) := by
  refine con_intro (own := RX11) (lo0 := [some (.ref 0), some (.int (nI d)), some (.int k), none]) hG rfl pl_X11 (Nat.le_of_ble_eq_true rfl) rfl (fun X hX => ?_)
  have hW := hY.wx hE
  have hH := hW.1
  have hc10 := hW.2.1.2
  have hd10 : d < 10 := Nat.lt_of_lt_of_le hd (inv_cnt hE).2
  have hcd : d < cN I := by rw [hY.cn]; exact hd
  have hDD := isD_mk hE hd
  obtain ⟨g1, g2, g3, g4, g5, g6, g7, g8, g9, g10⟩ := hY.d hd
  refine g_iload_2 hX (dk DX11_taken 0 rfl) ?_
  refine g_iconst (v := 0) hX (dk DX11_taken 1 rfl) (by decide) ?_
  refine g_bipush (v := 6) hX (dk DX11_taken 2 rfl) (by decide) ?_
  refine g_c3I hX sX11_taken_4 (by decide) (Nat.le_of_ble_eq_true rfl) rcN (by decide) (by decide) (c_X11_isNot hG ) ?_
  refine g_ifb_eq (tgt := 13) hX (dk DX11_taken 4 rfl) (by decide) (fun hc1 => ?_) (fun hc1 => ?_)
  · refine g_aload_0 hX (dk DX11_taken 7 rfl) ?_
    refine g_getRs (r := 1) hX (dk DX11_taken 8 rfl) KX11 fX11_12 (by decide) rfl (CLt hH (q := 0) (by decide)) (CC hH 0 (by decide) rfl) (CR hH 0 0 1 (by decide)) ?_
    refine g_iload_1 hX (dk DX11_taken 9 rfl) ?_
    refine g_c2R hX sX11_taken_18 (by decide) (Nat.le_of_ble_eq_true rfl) (rc0 rfl (CLt hH (by decide)) (CC hH 1 (by decide) rfl)) (by decide) (by decide) (c_X5_find hG hW (by exact hcd)) ?_
    refine g_astore_3 hX (dk DX11_taken 11 rfl) (by decide) rfl ?_
    refine g_aload_3 hX (dk DX11_taken 12 rfl) ?_
    refine g_ifnonnull (tgt := 29) hX (dk DX11_taken 13 rfl) (by decide) ?_
    obtain ⟨q, hq, ek⟩ := in_of (b := 6) (by decide) (Decidable.not_not.mp hc1)
    obtain ⟨⟨x, hx, ex⟩, -⟩ := inv_d hE hd
    have htk := tk_e x (by omega) q (by omega)
    rw [← ek, ← ex] at htk
    have htd : tN (nI d) = d := tN_nI (by omega)
    refine g_aload_3 hX (dk DX11_taken 16 rfl) ?_
    refine g_iload_2 hX (dk DX11_taken 17 rfl) ?_
    refine g_c2I hX sX11_taken_31 (by decide) (Nat.le_of_ble_eq_true rfl) rcN (by decide) (by decide) (c_isOfKind hG g3 (by rw [g4]; exact kcl_dc _)) ?_
    refine g_nmI (ikC (kcl (E 1 d)) k) (by rw [g4]) ?_
    refine g_if_eq (tgt := 44) hX (dk DX11_taken 19 rfl) (by decide) (fun hc2 => ?_) (fun hc2 => ?_)
    · refine g_bipush (v := -12) hX (dk DX11_taken 23 rfl) (by decide) ?_
      refine g_ireturn hX (dk DX11_taken 24 rfl) rfl (rfl) (by decide) (by decide) ?_
      first
      | exact qX_of (by unfold takenS; rw [if_neg (show ¬ ¬ (0 ≤ k ∧ k ≤ 6) by assumption), if_neg (not_not_intro hDD), htd, if_pos (Decidable.not_not.mp (fun z => (show ¬ ikC (kcl (E 1 d)) k = 0 by assumption) (htk.1.mpr z)))]) hY
      | exact qX_of (by unfold takenS; rw [if_neg (show ¬ ¬ (0 ≤ k ∧ k ≤ 6) by assumption), if_neg (not_not_intro hDD), htd, if_neg (htk.1.mp (by assumption))]) hY
    · refine g_aload_3 hX (dk DX11_taken 20 rfl) ?_
      refine g_c1I hX (sD_X11_taken_38 _ (by rw [g4]; exact kcl_dc _)) (by decide) (Nat.le_of_ble_eq_true rfl) (rc0 rfl g3 rfl) (by decide) (by decide) (cD_kind hG g3 (by rw [g4]; exact kcl_dc _)) ?_
      refine g_nmI (E 1 d) (by rw [g4]; exact htk.2) ?_
      refine g_goto (tgt := 46) hX (dk DX11_taken 22 rfl) (by decide) ?_
      refine g_ireturn hX (dk DX11_taken 24 rfl) rfl (rfl) (by decide) (by decide) ?_
      first
      | exact qX_of (by unfold takenS; rw [if_neg (show ¬ ¬ (0 ≤ k ∧ k ≤ 6) by assumption), if_neg (not_not_intro hDD), htd, if_pos (Decidable.not_not.mp (fun z => (show ¬ ikC (kcl (E 1 d)) k = 0 by assumption) (htk.1.mpr z)))]) hY
      | exact qX_of (by unfold takenS; rw [if_neg (show ¬ ¬ (0 ≤ k ∧ k ≤ 6) by assumption), if_neg (not_not_intro hDD), htd, if_neg (htk.1.mp (by assumption))]) hY
  · refine g_bipush (v := -2) hX (dk DX11_taken 5 rfl) (by decide) ?_
    refine g_ireturn hX (dk DX11_taken 6 rfl) rfl (rfl) (by decide) (by decide) ?_
    exact qX_of (by unfold takenS; rw [if_pos (by assumption)]) hY

set_option maxRecDepth 8000 in
set_option maxHeartbeats 4000000 in
theorem z_taken {G : Gt} (hG : Gok G) {I : It} {h : Ht}  {E : It} {L : Nat → Int64} (hE : Inv E) (hY : RY E L I h) {a : Int32} (hno : ¬ isD E a) {k : Int32} : Con G (4) 0 0 mX11_taken [.ref 0, .int a, .int k] I h (qX (takenS E a k) L (hn h)) := by
  refine con_intro (own := RX11) (lo0 := [some (.ref 0), some (.int a), some (.int k), none]) hG rfl pl_X11 (Nat.le_of_ble_eq_true rfl) rfl (fun X hX => ?_)
  have hW := hY.wx hE
  have hH := hW.1
  have hc10 := hW.2.1.2
  refine g_iload_2 hX (dk DX11_taken 0 rfl) ?_
  refine g_iconst (v := 0) hX (dk DX11_taken 1 rfl) (by decide) ?_
  refine g_bipush (v := 6) hX (dk DX11_taken 2 rfl) (by decide) ?_
  refine g_c3I hX sX11_taken_4 (by decide) (Nat.le_of_ble_eq_true rfl) rcN (by decide) (by decide) (c_X11_isNot hG ) ?_
  refine g_ifb_eq (tgt := 13) hX (dk DX11_taken 4 rfl) (by decide) (fun hc1 => ?_) (fun hc1 => ?_)
  · refine g_aload_0 hX (dk DX11_taken 7 rfl) ?_
    refine g_getRs (r := 1) hX (dk DX11_taken 8 rfl) KX11 fX11_12 (by decide) rfl (CLt hH (q := 0) (by decide)) (CC hH 0 (by decide) rfl) (CR hH 0 0 1 (by decide)) ?_
    refine g_iload_1 hX (dk DX11_taken 9 rfl) ?_
    refine g_c2R hX sX11_taken_18 (by decide) (Nat.le_of_ble_eq_true rfl) (rc0 rfl (CLt hH (by decide)) (CC hH 1 (by decide) rfl)) (by decide) (by decide) (c_X5_find0 hG hW (hY.no hE hno)) ?_
    refine g_astoreN_3 hX (dk DX11_taken 11 rfl) (by decide) rfl ?_
    refine g_aloadN_3 hX (dk DX11_taken 12 rfl) ?_
    refine g_ifnonnullN hX (dk DX11_taken 13 rfl) ?_
    refine g_bipush (v := -11) hX (dk DX11_taken 14 rfl) (by decide) ?_
    refine g_ireturn hX (dk DX11_taken 15 rfl) rfl (rfl) (by decide) (by decide) ?_
    exact qX_of (by unfold takenS; rw [if_neg (show ¬ ¬ (0 ≤ k ∧ k ≤ 6) by assumption), if_pos hno]) hY
  · refine g_bipush (v := -2) hX (dk DX11_taken 5 rfl) (by decide) ?_
    refine g_ireturn hX (dk DX11_taken 6 rfl) rfl (rfl) (by decide) (by decide) ?_
    exact qX_of (by unfold takenS; rw [if_pos (by assumption)]) hY

theorem x_taken {G : Gt} (hG : Gok G) {I : It} {h : Ht} {E : It} {L : Nat → Int64} (hE : Inv E) (hY : RY E L I h) {a : Int32} {k : Int32} : Con G 4 0 0 mX11_taken [.ref 0, .int a, .int k] I h (qX (takenS E a k) L (hn h)) := by
  by_cases hh : isD E a
  · obtain ⟨d, hd, rfl⟩ := isD_of hE hh
    exact y_taken hG hE hY hd (k := k)
  · exact z_taken hG hE hY hh (k := k)
end
section
set_option maxRecDepth 8000 in
set_option maxHeartbeats 4000000 in
theorem x_shift {G : Gt} (hG : Gok G) {I : It} {h : Ht}  {E : It} {L : Nat → Int64} (hE : Inv E) (hY : RY E L I h) {a e c f n : Int32} : Con G (3) 0 0 mX11_shift [.ref 0, .int a, .int e, .int c, .int f, .int n] I h (qX (shiftS E a e c f n, E) (shiftL E L a e c f n) (hn h)) := by
  refine con_intro (own := RX11) (lo0 := [some (.ref 0), some (.int a), some (.int e), some (.int c), some (.int f), some (.int n)]) hG rfl pl_X11 (Nat.le_of_ble_eq_true rfl) rfl (fun X hX => ?_)
  have hW := hY.wx hE
  have hH := hW.1
  have hc10 := hW.2.1.2
  refine g_iload_1 hX (dk DX11_shift_0 0 rfl) ?_
  refine g_iconst (v := 0) hX (dk DX11_shift_0 1 rfl) (by decide) ?_
  refine g_iconst (v := 5) hX (dk DX11_shift_0 2 rfl) (by decide) ?_
  refine g_c3I hX sX11_shift_3 (by decide) (Nat.le_of_ble_eq_true rfl) rcN (by decide) (by decide) (c_X11_isNot hG ) ?_
  refine g_ifb_ne (tgt := 18) hX (dk DX11_shift_0 4 rfl) (by decide) (fun hc1 => ?_) (fun hc1 => ?_)
  · refine g_iconst (v := -1) hX (dk DX11_shift_0 10 rfl) (by decide) ?_
    refine g_ireturn hX (dk DX11_shift_0 11 rfl) rfl (rfl) (by decide) (by decide) ?_
    exact it_of (s := (shiftS E a e c f n, shiftL E L a e c f n)) (L' := L) (by unfold shiftS shiftL; first | (rw [if_pos (show ¬ isT a by assumption), if_pos (show ¬ isT a by assumption)]; done) | (rw [if_neg (show ¬ ¬ isT a by assumption), if_neg (show ¬ ¬ isT a by assumption), if_pos (show ¬ isT c by assumption), if_pos (show ¬ isT c by assumption)]; done)) hY
  · refine g_iload_3 hX (dk DX11_shift_0 5 rfl) ?_
    refine g_iconst (v := 0) hX (dk DX11_shift_0 6 rfl) (by decide) ?_
    refine g_iconst (v := 5) hX (dk DX11_shift_0 7 rfl) (by decide) ?_
    refine g_c3I hX sX11_shift_12 (by decide) (Nat.le_of_ble_eq_true rfl) rcN (by decide) (by decide) (c_X11_isNot hG ) ?_
    refine g_ifb_eq (tgt := 20) hX (dk DX11_shift_0 9 rfl) (by decide) (fun hc2 => ?_) (fun hc2 => ?_)
    · obtain ⟨t, ht5, rfl⟩ := in_of (b := 5) (by decide) (Decidable.not_not.mp hc1)
      have ht : t < 6 := by omega
      have hTt := hY.2.2.2.2.2.2.1 t ht
      obtain ⟨o, ho5, rfl⟩ := in_of (b := 5) (by decide) (Decidable.not_not.mp hc2)
      have ho : o < 6 := by omega
      have hTo := hY.2.2.2.2.2.2.1 o ho
      have ta : isT (nI t) := Decidable.not_not.mp hc1
      have oa : isT (nI o) := Decidable.not_not.mp hc2
      obtain ⟨lt, hlt, elt, -, ht3⟩ := tp_of hE ht
      obtain ⟨l2, hl2, el2, -, ho3⟩ := tp_of hE ho
      have hsp := sh_sp (E := E) (L := L) (e := e) (f := f) (n := n) ht ho ta oa
      refine g_aload_0 hX (dk DX11_shift_0 12 rfl) ?_
      refine g_getRs (r := 34) hX (dk DX11_shift_0 13 rfl) KX11 fX11_47 (by decide) rfl (CLt hH (q := 0) (by decide)) (CC hH 0 (by decide) rfl) (CR hH 0 9 34 (by decide)) ?_
      refine g_iload_1 hX (dk DX11_shift_0 14 rfl) ?_
      refine v_iaload hX (dk DX11_shift_0 15 rfl) (CLt hH (q := 34) (by decide)) (CS hH 34 (by decide) rfl) (⟨rfl, ht, by decide⟩) (hTt.1) ?_
      refine g_iconst (v := -1) hX (dk DX11_shift_0 16 rfl) (by decide) ?_
      refine g_icmp_eq (tgt := 40) hX (dk DX11_shift_0 17 rfl) (by decide) (fun hc3 => ?_) (fun hc3 => ?_)
      · refine g_bipush (v := -11) hX (dk DX11_shift_0 24 rfl) (by decide) ?_
        refine g_ireturn hX (dk DX11_shift_0 25 rfl) rfl (rfl) (by decide) (by decide) ?_
        exact it_of (s := (shiftS E (nI t) e (nI o) f n, shiftL E L (nI t) e (nI o) f n)) (L' := L) (by first | exact hsp.1 (Or.inl (by first | assumption | exact Decidable.not_not.mp (by assumption))) | exact hsp.1 (Or.inr (by first | assumption | exact Decidable.not_not.mp (by assumption)))) hY
      · refine g_aload_0 hX (dk DX11_shift_0 18 rfl) ?_
        refine g_getRs (r := 34) hX (dk DX11_shift_0 19 rfl) KX11 fX11_47 (by decide) rfl (CLt hH (q := 0) (by decide)) (CC hH 0 (by decide) rfl) (CR hH 0 9 34 (by decide)) ?_
        refine g_iload_3 hX (dk DX11_shift_0 20 rfl) ?_
        refine v_iaload hX (dk DX11_shift_0 21 rfl) (CLt hH (q := 34) (by decide)) (CS hH 34 (by decide) rfl) (⟨rfl, ho, by decide⟩) (hTo.1) ?_
        refine g_iconst (v := -1) hX (dk DX11_shift_0 22 rfl) (by decide) ?_
        refine g_icmp_ne (tgt := 43) hX (dk DX11_shift_0 23 rfl) (by decide) (fun hc4 => ?_) (fun hc4 => ?_)
        · refine g_aload_0 hX (dk DX11_shift_0 26 rfl) ?_
          refine g_getRs (r := 34) hX (dk DX11_shift_0 27 rfl) KX11 fX11_47 (by decide) rfl (CLt hH (q := 0) (by decide)) (CC hH 0 (by decide) rfl) (CR hH 0 9 34 (by decide)) ?_
          refine g_iload_1 hX (dk DX11_shift_0 28 rfl) ?_
          refine v_iaload hX (dk DX11_shift_0 29 rfl) (CLt hH (q := 34) (by decide)) (CS hH 34 (by decide) rfl) (⟨rfl, ht, by decide⟩) (hTt.1) ?_
          refine g_aload_0 hX (dk DX11_shift_0 30 rfl) ?_
          refine g_getRs (r := 34) hX (dk DX11_shift_0 31 rfl) KX11 fX11_47 (by decide) rfl (CLt hH (q := 0) (by decide)) (CC hH 0 (by decide) rfl) (CR hH 0 9 34 (by decide)) ?_
          refine g_iload_3 hX (dk DX11_shift_0 32 rfl) ?_
          refine v_iaload hX (dk DX11_shift_0 33 rfl) (CLt hH (q := 34) (by decide)) (CS hH 34 (by decide) rfl) (⟨rfl, ho, by decide⟩) (hTo.1) ?_
          refine g_icmp_eq (tgt := 61) hX (dk DX11_shift_0 34 rfl) (by decide) (fun hc5 => ?_) (fun hc5 => ?_)
          · refine g_iload_5 hX (dk DX11_shift_0 37 rfl) ?_
            refine g_if_lt (tgt := 101) hX (dk DX11_shift_0 38 rfl) (by decide) (fun hc6 => ?_) (fun hc6 => ?_)
            · refine g_bipush (v := -13) hX (dk DX11_shift_0 59 rfl) (by decide) ?_
              refine g_ireturn hX (dk DX11_shift_1 0 rfl) rfl (rfl) (by decide) (by decide) ?_
              exact it_of (s := (shiftS E (nI t) e (nI o) f n, shiftL E L (nI t) e (nI o) f n)) (L' := L) (hsp.2.2.1 (by assumption) (by assumption) ht3 ho3 (by first | assumption | exact Decidable.not_not.mp (by assumption)) (by first | exact Or.inl (by assumption) | exact Or.inr (Or.inl (by assumption)) | exact Or.inr (Or.inr (by assumption)))) hY
            · refine g_iload_2 hX (dk DX11_shift_0 39 rfl) ?_
              refine g_iconst (v := 0) hX (dk DX11_shift_0 40 rfl) (by decide) ?_
              refine g_aload_0 hX (dk DX11_shift_0 41 rfl) ?_
              refine g_getRs (r := 35) hX (dk DX11_shift_0 42 rfl) KX11 fX11_51 (by decide) rfl (CLt hH (q := 0) (by decide)) (CC hH 0 (by decide) rfl) (CR hH 0 10 35 (by decide)) ?_
              refine g_iload_1 hX (dk DX11_shift_0 43 rfl) ?_
              refine v_iaload hX (dk DX11_shift_0 44 rfl) (CLt hH (q := 35) (by decide)) (CS hH 35 (by decide) rfl) (⟨rfl, ht, by decide⟩) (hTt.2.1) ?_
              refine g_iload_5 hX (dk DX11_shift_0 45 rfl) ?_
              refine g_isub hX (dk DX11_shift_0 46 rfl) ?_
              refine g_c3I hX sX11_shift_77 (by decide) (Nat.le_of_ble_eq_true rfl) rcN (by decide) (by decide) (c_X11_isNot hG ) ?_
              refine g_ifb_ne (tgt := 101) hX (dk DX11_shift_0 48 rfl) (by decide) (fun hc7 => ?_) (fun hc7 => ?_)
              · refine g_bipush (v := -13) hX (dk DX11_shift_0 59 rfl) (by decide) ?_
                refine g_ireturn hX (dk DX11_shift_1 0 rfl) rfl (rfl) (by decide) (by decide) ?_
                exact it_of (s := (shiftS E (nI t) e (nI o) f n, shiftL E L (nI t) e (nI o) f n)) (L' := L) (hsp.2.2.1 (by assumption) (by assumption) ht3 ho3 (by first | assumption | exact Decidable.not_not.mp (by assumption)) (by first | exact Or.inl (by assumption) | exact Or.inr (Or.inl (by assumption)) | exact Or.inr (Or.inr (by assumption)))) hY
              · refine g_iload_4 hX (dk DX11_shift_0 49 rfl) ?_
                refine g_iconst (v := 0) hX (dk DX11_shift_0 50 rfl) (by decide) ?_
                refine g_aload_0 hX (dk DX11_shift_0 51 rfl) ?_
                refine g_getRs (r := 35) hX (dk DX11_shift_0 52 rfl) KX11 fX11_51 (by decide) rfl (CLt hH (q := 0) (by decide)) (CC hH 0 (by decide) rfl) (CR hH 0 10 35 (by decide)) ?_
                refine g_iload_3 hX (dk DX11_shift_0 53 rfl) ?_
                refine v_iaload hX (dk DX11_shift_0 54 rfl) (CLt hH (q := 35) (by decide)) (CS hH 35 (by decide) rfl) (⟨rfl, ho, by decide⟩) (hTo.2.1) ?_
                refine g_iload_5 hX (dk DX11_shift_0 55 rfl) ?_
                refine g_isub hX (dk DX11_shift_0 56 rfl) ?_
                refine g_c3I hX sX11_shift_95 (by decide) (Nat.le_of_ble_eq_true rfl) rcN (by decide) (by decide) (c_X11_isNot hG ) ?_
                refine g_ifb_eq (tgt := 104) hX (dk DX11_shift_0 58 rfl) (by decide) (fun hc8 => ?_) (fun hc8 => ?_)
                · obtain ⟨i0, j0, n0, rfl, rfl, rfl, hi0, hj0⟩ := sh_in hlt hl2 elt el2 (show ¬ n < 0 by assumption) (by assumption) (by assumption)
                  refine g_aload_0 hX (dk DX11_shift_1 1 rfl) ?_
                  refine g_getRs (r := 36) hX (dk DX11_shift_1 2 rfl) KX11 fX11_56 (by decide) rfl (CLt hH (q := 0) (by decide)) (CC hH 0 (by decide) rfl) (CR hH 0 11 36 (by decide)) ?_
                  refine g_iload_1 hX (dk DX11_shift_1 3 rfl) ?_
                  refine i_aaload (i0 := 7) hX (dk DX11_shift_1 4 rfl) (CLt hH (q := 36) (by decide)) (CS hH 36 (by decide) rfl) (by decide) rfl rfl (⟨rfl, ht, by decide⟩) (IT_r hH ht) ?_
                  refine g_iload_2 hX (dk DX11_shift_1 5 rfl) ?_
                  refine g_aload_0 hX (dk DX11_shift_1 6 rfl) ?_
                  refine g_getRs (r := 36) hX (dk DX11_shift_1 7 rfl) KX11 fX11_56 (by decide) rfl (CLt hH (q := 0) (by decide)) (CC hH 0 (by decide) rfl) (CR hH 0 11 36 (by decide)) ?_
                  refine g_iload_3 hX (dk DX11_shift_1 8 rfl) ?_
                  refine i_aaload (i0 := 7) hX (dk DX11_shift_1 9 rfl) (CLt hH (q := 36) (by decide)) (CS hH 36 (by decide) rfl) (by decide) rfl rfl (⟨rfl, ho, by decide⟩) (IT_r hH ho) ?_
                  refine g_iload_4 hX (dk DX11_shift_1 10 rfl) ?_
                  refine g_iload_5 hX (dk DX11_shift_1 11 rfl) ?_
                  refine g_copyL (sp := i0) (dp := j0) (m := n0) hX (dk DX11_shift_1 12 rfl) (tg_4 224 rfl rfl) (tg_4 4 rfl rfl) (tg_4 3 rfl rfl) (tg_1 17 rfl rfl) (IT_lt hH ht) (IT_sh hH ht) (IT_lt hH ho) (IT_sh hH ho) (⟨rfl, rfl, rfl⟩) (⟨by omega, by decide⟩) (⟨by omega, by decide⟩) (by decide) (by decide) ?_
                  refine g_iload_5 hX (dk DX11_shift_1 13 rfl) ?_
                  refine g_ireturn hX (dk DX11_shift_1 14 rfl) rfl (rfl) (by decide) (by decide) ?_
                  exact it_of (s := (shiftS E (nI t) (nI i0) (nI o) (nI j0) (nI n0), shiftL E L (nI t) (nI i0) (nI o) (nI j0) (nI n0))) (hsp.2.2.2 (by assumption) (by assumption) ht3 ho3 (by first | assumption | exact Decidable.not_not.mp (by assumption)) elt el2 hlt hl2 hi0 hj0) (hY.shift ht ho (by omega) (by omega))
                · refine g_bipush (v := -13) hX (dk DX11_shift_0 59 rfl) (by decide) ?_
                  refine g_ireturn hX (dk DX11_shift_1 0 rfl) rfl (rfl) (by decide) (by decide) ?_
                  exact it_of (s := (shiftS E (nI t) e (nI o) f n, shiftL E L (nI t) e (nI o) f n)) (L' := L) (hsp.2.2.1 (by assumption) (by assumption) ht3 ho3 (by first | assumption | exact Decidable.not_not.mp (by assumption)) (by first | exact Or.inl (by assumption) | exact Or.inr (Or.inl (by assumption)) | exact Or.inr (Or.inr (by assumption)))) hY
          · refine g_bipush (v := -12) hX (dk DX11_shift_0 35 rfl) (by decide) ?_
            refine g_ireturn hX (dk DX11_shift_0 36 rfl) rfl (rfl) (by decide) (by decide) ?_
            exact it_of (s := (shiftS E (nI t) e (nI o) f n, shiftL E L (nI t) e (nI o) f n)) (L' := L) (hsp.2.1 (by assumption) (by assumption) ht3 ho3 (by assumption)) hY
        · refine g_bipush (v := -11) hX (dk DX11_shift_0 24 rfl) (by decide) ?_
          refine g_ireturn hX (dk DX11_shift_0 25 rfl) rfl (rfl) (by decide) (by decide) ?_
          exact it_of (s := (shiftS E (nI t) e (nI o) f n, shiftL E L (nI t) e (nI o) f n)) (L' := L) (by first | exact hsp.1 (Or.inl (by first | assumption | exact Decidable.not_not.mp (by assumption))) | exact hsp.1 (Or.inr (by first | assumption | exact Decidable.not_not.mp (by assumption)))) hY
    · refine g_iconst (v := -1) hX (dk DX11_shift_0 10 rfl) (by decide) ?_
      refine g_ireturn hX (dk DX11_shift_0 11 rfl) rfl (rfl) (by decide) (by decide) ?_
      exact it_of (s := (shiftS E a e c f n, shiftL E L a e c f n)) (L' := L) (by unfold shiftS shiftL; first | (rw [if_pos (show ¬ isT a by assumption), if_pos (show ¬ isT a by assumption)]; done) | (rw [if_neg (show ¬ ¬ isT a by assumption), if_neg (show ¬ ¬ isT a by assumption), if_pos (show ¬ isT c by assumption), if_pos (show ¬ isT c by assumption)]; done)) hY
end
section
set_option maxRecDepth 8000 in
set_option maxHeartbeats 4000000 in
theorem x_doing {G : Gt} (hG : Gok G) {I : It} {h : Ht}  {E : It} {L : Nat → Int64} (hE : Inv E) (hY : RY E L I h) {k v r p c e : Int32} (hGn : Gnew G (hn h)) : Con G (7) 1 6 mX11_doing [.ref 0, .int k, .int v, .int r, .int p, .int c, .int e] I h (qX (doingS E k v r p c e) L (hn h + 1)) := by
  refine con_intro (own := RX11) (lo0 := [some (.ref 0), some (.int k), some (.int v), some (.int r), some (.int p), some (.int c), some (.int e)]) hG rfl pl_X11 (Nat.le_of_ble_eq_true rfl) rfl (fun X hX => ?_)
  have hW := hY.wx hE
  have hH := hW.1
  have hc10 := hW.2.1.2
  have hN1 : I 1 2 = nI (cnt E) := hY.2.1.1.1.trans (inv_cnt hE).1
  refine g_iload_1 hX (dk DX11_doing 0 rfl) ?_
  refine g_iconst (v := 0) hX (dk DX11_doing 1 rfl) (by decide) ?_
  refine g_bipush (v := 6) hX (dk DX11_doing 2 rfl) (by decide) ?_
  refine g_c3I hX sX11_doing_4 (by decide) (Nat.le_of_ble_eq_true rfl) rcN (by decide) (by decide) (c_X11_isNot hG ) ?_
  refine g_ifb_eq (tgt := 12) hX (dk DX11_doing 4 rfl) (by decide) (fun hc1 => ?_) (fun hc1 => ?_)
  · refine g_iload_2 hX (dk DX11_doing 7 rfl) ?_
    refine g_iconst (v := 0) hX (dk DX11_doing 8 rfl) (by decide) ?_
    refine g_bipush (v := 9) hX (dk DX11_doing 9 rfl) (by decide) ?_
    refine g_c3I hX sX11_doing_16 (by decide) (Nat.le_of_ble_eq_true rfl) rcN (by decide) (by decide) (c_X11_isNot hG ) ?_
    refine g_ifb_ne (tgt := 66) hX (dk DX11_doing 11 rfl) (by decide) (fun hc2 => ?_) (fun hc2 => ?_)
    · refine g_bipush (v := -2) hX (dk DX11_doing 34 rfl) (by decide) ?_
      refine g_ireturn hX (dk DX11_doing 35 rfl) rfl (rfl) (by decide) (by decide) ?_
      first
      | exact qX_ofN (by unfold doingS; rw [if_neg (show ¬ ¬ (0 ≤ k ∧ k ≤ 6) by assumption), if_pos (show ¬ (0 ≤ v ∧ v ≤ 9) by assumption)]) hY (Nat.le_succ _)
      | exact qX_ofN (by unfold doingS; rw [if_neg (show ¬ ¬ (0 ≤ k ∧ k ≤ 6) by assumption), if_neg (show ¬ ¬ (0 ≤ v ∧ v ≤ 9) by assumption), if_pos (show ¬ (1 ≤ r ∧ r ≤ 60) by assumption)]) hY (Nat.le_succ _)
      | exact qX_ofN (by unfold doingS; rw [if_neg (show ¬ ¬ (0 ≤ k ∧ k ≤ 6) by assumption), if_neg (show ¬ ¬ (0 ≤ v ∧ v ≤ 9) by assumption), if_neg (show ¬ ¬ (1 ≤ r ∧ r ≤ 60) by assumption), if_pos (show ¬ (0 ≤ p ∧ p ≤ r - 1) by assumption)]) hY (Nat.le_succ _)
      | exact qX_ofN (by unfold doingS; rw [if_neg (show ¬ ¬ (0 ≤ k ∧ k ≤ 6) by assumption), if_neg (show ¬ ¬ (0 ≤ v ∧ v ≤ 9) by assumption), if_neg (show ¬ ¬ (1 ≤ r ∧ r ≤ 60) by assumption), if_neg (show ¬ ¬ (0 ≤ p ∧ p ≤ r - 1) by assumption), if_pos (show ¬ (0 ≤ c ∧ c ≤ 99) by assumption)]) hY (Nat.le_succ _)
      | exact qX_ofN (by unfold doingS; rw [if_neg (show ¬ ¬ (0 ≤ k ∧ k ≤ 6) by assumption), if_neg (show ¬ ¬ (0 ≤ v ∧ v ≤ 9) by assumption), if_neg (show ¬ ¬ (1 ≤ r ∧ r ≤ 60) by assumption), if_neg (show ¬ ¬ (0 ≤ p ∧ p ≤ r - 1) by assumption), if_neg (show ¬ ¬ (0 ≤ c ∧ c ≤ 99) by assumption), if_pos (show ¬ (0 ≤ e ∧ e ≤ 99) by assumption)]) hY (Nat.le_succ _)
    · refine g_iload_3 hX (dk DX11_doing 12 rfl) ?_
      refine g_iconst (v := 1) hX (dk DX11_doing 13 rfl) (by decide) ?_
      refine g_bipush (v := 60) hX (dk DX11_doing 14 rfl) (by decide) ?_
      refine g_c3I hX sX11_doing_26 (by decide) (Nat.le_of_ble_eq_true rfl) rcN (by decide) (by decide) (c_X11_isNot hG ) ?_
      refine g_ifb_ne (tgt := 66) hX (dk DX11_doing 16 rfl) (by decide) (fun hc3 => ?_) (fun hc3 => ?_)
      · refine g_bipush (v := -2) hX (dk DX11_doing 34 rfl) (by decide) ?_
        refine g_ireturn hX (dk DX11_doing 35 rfl) rfl (rfl) (by decide) (by decide) ?_
        first
        | exact qX_ofN (by unfold doingS; rw [if_neg (show ¬ ¬ (0 ≤ k ∧ k ≤ 6) by assumption), if_pos (show ¬ (0 ≤ v ∧ v ≤ 9) by assumption)]) hY (Nat.le_succ _)
        | exact qX_ofN (by unfold doingS; rw [if_neg (show ¬ ¬ (0 ≤ k ∧ k ≤ 6) by assumption), if_neg (show ¬ ¬ (0 ≤ v ∧ v ≤ 9) by assumption), if_pos (show ¬ (1 ≤ r ∧ r ≤ 60) by assumption)]) hY (Nat.le_succ _)
        | exact qX_ofN (by unfold doingS; rw [if_neg (show ¬ ¬ (0 ≤ k ∧ k ≤ 6) by assumption), if_neg (show ¬ ¬ (0 ≤ v ∧ v ≤ 9) by assumption), if_neg (show ¬ ¬ (1 ≤ r ∧ r ≤ 60) by assumption), if_pos (show ¬ (0 ≤ p ∧ p ≤ r - 1) by assumption)]) hY (Nat.le_succ _)
        | exact qX_ofN (by unfold doingS; rw [if_neg (show ¬ ¬ (0 ≤ k ∧ k ≤ 6) by assumption), if_neg (show ¬ ¬ (0 ≤ v ∧ v ≤ 9) by assumption), if_neg (show ¬ ¬ (1 ≤ r ∧ r ≤ 60) by assumption), if_neg (show ¬ ¬ (0 ≤ p ∧ p ≤ r - 1) by assumption), if_pos (show ¬ (0 ≤ c ∧ c ≤ 99) by assumption)]) hY (Nat.le_succ _)
        | exact qX_ofN (by unfold doingS; rw [if_neg (show ¬ ¬ (0 ≤ k ∧ k ≤ 6) by assumption), if_neg (show ¬ ¬ (0 ≤ v ∧ v ≤ 9) by assumption), if_neg (show ¬ ¬ (1 ≤ r ∧ r ≤ 60) by assumption), if_neg (show ¬ ¬ (0 ≤ p ∧ p ≤ r - 1) by assumption), if_neg (show ¬ ¬ (0 ≤ c ∧ c ≤ 99) by assumption), if_pos (show ¬ (0 ≤ e ∧ e ≤ 99) by assumption)]) hY (Nat.le_succ _)
      · refine g_iload_4 hX (dk DX11_doing 17 rfl) ?_
        refine g_iconst (v := 0) hX (dk DX11_doing 18 rfl) (by decide) ?_
        refine g_iload_3 hX (dk DX11_doing 19 rfl) ?_
        refine g_iconst (v := 1) hX (dk DX11_doing 20 rfl) (by decide) ?_
        refine g_isub hX (dk DX11_doing 21 rfl) ?_
        refine g_c3I hX sX11_doing_38 (by decide) (Nat.le_of_ble_eq_true rfl) rcN (by decide) (by decide) (c_X11_isNot hG ) ?_
        refine g_ifb_ne (tgt := 66) hX (dk DX11_doing 23 rfl) (by decide) (fun hc4 => ?_) (fun hc4 => ?_)
        · refine g_bipush (v := -2) hX (dk DX11_doing 34 rfl) (by decide) ?_
          refine g_ireturn hX (dk DX11_doing 35 rfl) rfl (rfl) (by decide) (by decide) ?_
          first
          | exact qX_ofN (by unfold doingS; rw [if_neg (show ¬ ¬ (0 ≤ k ∧ k ≤ 6) by assumption), if_pos (show ¬ (0 ≤ v ∧ v ≤ 9) by assumption)]) hY (Nat.le_succ _)
          | exact qX_ofN (by unfold doingS; rw [if_neg (show ¬ ¬ (0 ≤ k ∧ k ≤ 6) by assumption), if_neg (show ¬ ¬ (0 ≤ v ∧ v ≤ 9) by assumption), if_pos (show ¬ (1 ≤ r ∧ r ≤ 60) by assumption)]) hY (Nat.le_succ _)
          | exact qX_ofN (by unfold doingS; rw [if_neg (show ¬ ¬ (0 ≤ k ∧ k ≤ 6) by assumption), if_neg (show ¬ ¬ (0 ≤ v ∧ v ≤ 9) by assumption), if_neg (show ¬ ¬ (1 ≤ r ∧ r ≤ 60) by assumption), if_pos (show ¬ (0 ≤ p ∧ p ≤ r - 1) by assumption)]) hY (Nat.le_succ _)
          | exact qX_ofN (by unfold doingS; rw [if_neg (show ¬ ¬ (0 ≤ k ∧ k ≤ 6) by assumption), if_neg (show ¬ ¬ (0 ≤ v ∧ v ≤ 9) by assumption), if_neg (show ¬ ¬ (1 ≤ r ∧ r ≤ 60) by assumption), if_neg (show ¬ ¬ (0 ≤ p ∧ p ≤ r - 1) by assumption), if_pos (show ¬ (0 ≤ c ∧ c ≤ 99) by assumption)]) hY (Nat.le_succ _)
          | exact qX_ofN (by unfold doingS; rw [if_neg (show ¬ ¬ (0 ≤ k ∧ k ≤ 6) by assumption), if_neg (show ¬ ¬ (0 ≤ v ∧ v ≤ 9) by assumption), if_neg (show ¬ ¬ (1 ≤ r ∧ r ≤ 60) by assumption), if_neg (show ¬ ¬ (0 ≤ p ∧ p ≤ r - 1) by assumption), if_neg (show ¬ ¬ (0 ≤ c ∧ c ≤ 99) by assumption), if_pos (show ¬ (0 ≤ e ∧ e ≤ 99) by assumption)]) hY (Nat.le_succ _)
        · refine g_iload_5 hX (dk DX11_doing 24 rfl) ?_
          refine g_iconst (v := 0) hX (dk DX11_doing 25 rfl) (by decide) ?_
          refine g_bipush (v := 99) hX (dk DX11_doing 26 rfl) (by decide) ?_
          refine g_c3I hX sX11_doing_49 (by decide) (Nat.le_of_ble_eq_true rfl) rcN (by decide) (by decide) (c_X11_isNot hG ) ?_
          refine g_ifb_ne (tgt := 66) hX (dk DX11_doing 28 rfl) (by decide) (fun hc5 => ?_) (fun hc5 => ?_)
          · refine g_bipush (v := -2) hX (dk DX11_doing 34 rfl) (by decide) ?_
            refine g_ireturn hX (dk DX11_doing 35 rfl) rfl (rfl) (by decide) (by decide) ?_
            first
            | exact qX_ofN (by unfold doingS; rw [if_neg (show ¬ ¬ (0 ≤ k ∧ k ≤ 6) by assumption), if_pos (show ¬ (0 ≤ v ∧ v ≤ 9) by assumption)]) hY (Nat.le_succ _)
            | exact qX_ofN (by unfold doingS; rw [if_neg (show ¬ ¬ (0 ≤ k ∧ k ≤ 6) by assumption), if_neg (show ¬ ¬ (0 ≤ v ∧ v ≤ 9) by assumption), if_pos (show ¬ (1 ≤ r ∧ r ≤ 60) by assumption)]) hY (Nat.le_succ _)
            | exact qX_ofN (by unfold doingS; rw [if_neg (show ¬ ¬ (0 ≤ k ∧ k ≤ 6) by assumption), if_neg (show ¬ ¬ (0 ≤ v ∧ v ≤ 9) by assumption), if_neg (show ¬ ¬ (1 ≤ r ∧ r ≤ 60) by assumption), if_pos (show ¬ (0 ≤ p ∧ p ≤ r - 1) by assumption)]) hY (Nat.le_succ _)
            | exact qX_ofN (by unfold doingS; rw [if_neg (show ¬ ¬ (0 ≤ k ∧ k ≤ 6) by assumption), if_neg (show ¬ ¬ (0 ≤ v ∧ v ≤ 9) by assumption), if_neg (show ¬ ¬ (1 ≤ r ∧ r ≤ 60) by assumption), if_neg (show ¬ ¬ (0 ≤ p ∧ p ≤ r - 1) by assumption), if_pos (show ¬ (0 ≤ c ∧ c ≤ 99) by assumption)]) hY (Nat.le_succ _)
            | exact qX_ofN (by unfold doingS; rw [if_neg (show ¬ ¬ (0 ≤ k ∧ k ≤ 6) by assumption), if_neg (show ¬ ¬ (0 ≤ v ∧ v ≤ 9) by assumption), if_neg (show ¬ ¬ (1 ≤ r ∧ r ≤ 60) by assumption), if_neg (show ¬ ¬ (0 ≤ p ∧ p ≤ r - 1) by assumption), if_neg (show ¬ ¬ (0 ≤ c ∧ c ≤ 99) by assumption), if_pos (show ¬ (0 ≤ e ∧ e ≤ 99) by assumption)]) hY (Nat.le_succ _)
          · refine g_iload_6 hX (dk DX11_doing 29 rfl) ?_
            refine g_iconst (v := 0) hX (dk DX11_doing 30 rfl) (by decide) ?_
            refine g_bipush (v := 99) hX (dk DX11_doing 31 rfl) (by decide) ?_
            refine g_c3I hX sX11_doing_60 (by decide) (Nat.le_of_ble_eq_true rfl) rcN (by decide) (by decide) (c_X11_isNot hG ) ?_
            refine g_ifb_eq (tgt := 69) hX (dk DX11_doing 33 rfl) (by decide) (fun hc6 => ?_) (fun hc6 => ?_)
            · refine g_aload_0 hX (dk DX11_doing 36 rfl) ?_
              refine g_getRs (r := 1) hX (dk DX11_doing 37 rfl) KX11 fX11_12 (by decide) rfl (CLt hH (q := 0) (by decide)) (CC hH 0 (by decide) rfl) (CR hH 0 0 1 (by decide)) ?_
              refine g_getIv hX (dk DX11_doing 38 rfl) KX5 fX11_72 (by decide) rfl (CLt hH (q := 1) (by decide)) (CC hH 1 (by decide) rfl) (hN1) ?_
              refine g_bipush (v := 10) hX (dk DX11_doing 39 rfl) (by decide) ?_
              refine g_icmp_lt (tgt := 84) hX (dk DX11_doing 40 rfl) (by decide) (fun hc7 => ?_) (fun hc7 => ?_)
              · have hlt10 := lt_nI (b := 10) (by have := (inv_cnt hE).2; omega) (by decide) hc7
                have hr1 : 1 ≤ r := (Decidable.not_not.mp (show ¬ ¬ (1 ≤ r ∧ r ≤ 60) by assumption)).1
                refine g_aload_0 hX (dk DX11_doing 43 rfl) ?_
                refine g_getRs (r := 1) hX (dk DX11_doing 44 rfl) KX11 fX11_12 (by decide) rfl (CLt hH (q := 0) (by decide)) (CC hH 0 (by decide) rfl) (CR hH 0 0 1 (by decide)) ?_
                refine g_iload_1 hX (dk DX11_doing 45 rfl) ?_
                refine g_aload_0 hX (dk DX11_doing 46 rfl) ?_
                refine g_getRs (r := 1) hX (dk DX11_doing 47 rfl) KX11 fX11_12 (by decide) rfl (CLt hH (q := 0) (by decide)) (CC hH 0 (by decide) rfl) (CR hH 0 0 1 (by decide)) ?_
                refine g_getIv hX (dk DX11_doing 48 rfl) KX5 fX11_72 (by decide) rfl (CLt hH (q := 1) (by decide)) (CC hH 1 (by decide) rfl) (hN1) ?_
                refine g_iload_2 hX (dk DX11_doing 49 rfl) ?_
                refine g_iload_3 hX (dk DX11_doing 50 rfl) ?_
                refine g_iload_4 hX (dk DX11_doing 51 rfl) ?_
                refine g_iload_5 hX (dk DX11_doing 52 rfl) ?_
                refine g_iload_6 hX (dk DX11_doing 53 rfl) ?_
                refine g_c7 hX sX11_doing_104 (by decide) (Nat.le_of_ble_eq_true rfl) rcN (by decide) (by decide) (c_X11_made hG hGn) (fun r I2 h2 hq => ?_)
                obtain ⟨rfl, rfl, rfl⟩ := hq
                have hHx := hH
                have hH := HX.zA (c := kcl k) (a1 := 0) hH
                refine g_c2q hX sX11_doing_107 (by decide) (Nat.le_of_ble_eq_true rfl) (rc0 rfl (CLt hH (by decide)) (CC hH 1 (by decide) rfl)) (by decide) (by decide) (c_X5_add hG hH (n := cnt E) ((congrFun (dI_1 hHx.1) 2).trans hN1) hlt10 (Nat.lt_succ_self _) (by show isDC (if hn h = hn h then (kcl k, 0) else hs h (hn h)).1; rw [if_pos rfl]; exact kcl_dc k)) ?_
                rintro x I2 h2 ⟨rfl, rfl, rfl⟩
                refine g_ireturn hX (dk DX11_doing 56 rfl) rfl (rfl) (by decide) (by decide) ?_
                exact qX_ofN (E' := doE E k v r p c e) (by unfold doingS; rw [if_neg (show ¬ ¬ (0 ≤ k ∧ k ≤ 6) by assumption), if_neg (show ¬ ¬ (0 ≤ v ∧ v ≤ 9) by assumption), if_neg (show ¬ ¬ (1 ≤ r ∧ r ≤ 60) by assumption), if_neg (show ¬ ¬ (0 ≤ p ∧ p ≤ r - 1) by assumption), if_neg (show ¬ ¬ (0 ≤ c ∧ c ≤ 99) by assumption), if_neg (show ¬ ¬ (0 ≤ e ∧ e ≤ 99) by assumption), if_neg (by rw [(inv_cnt hE).1]; exact fun z => absurd ((nI_eq (b := 10) (by omega) (by decide)).mp z) (by omega))]; exact congrArg (fun z => (z, _)) (inv_cnt hE).1) (RY_doing hE hY hlt10 hr1) (Nat.le_refl _)
              · refine g_bipush (v := -4) hX (dk DX11_doing 41 rfl) (by decide) ?_
                refine g_ireturn hX (dk DX11_doing 42 rfl) rfl (rfl) (by decide) (by decide) ?_
                exact qX_ofN (by unfold doingS; rw [if_neg (show ¬ ¬ (0 ≤ k ∧ k ≤ 6) by assumption), if_neg (show ¬ ¬ (0 ≤ v ∧ v ≤ 9) by assumption), if_neg (show ¬ ¬ (1 ≤ r ∧ r ≤ 60) by assumption), if_neg (show ¬ ¬ (0 ≤ p ∧ p ≤ r - 1) by assumption), if_neg (show ¬ ¬ (0 ≤ c ∧ c ≤ 99) by assumption), if_neg (show ¬ ¬ (0 ≤ e ∧ e ≤ 99) by assumption), if_pos (by rw [(inv_cnt hE).1]; exact c10_n (inv_cnt hE).2 (by assumption))]) hY (Nat.le_succ _)
            · refine g_bipush (v := -2) hX (dk DX11_doing 34 rfl) (by decide) ?_
              refine g_ireturn hX (dk DX11_doing 35 rfl) rfl (rfl) (by decide) (by decide) ?_
              first
              | exact qX_ofN (by unfold doingS; rw [if_neg (show ¬ ¬ (0 ≤ k ∧ k ≤ 6) by assumption), if_pos (show ¬ (0 ≤ v ∧ v ≤ 9) by assumption)]) hY (Nat.le_succ _)
              | exact qX_ofN (by unfold doingS; rw [if_neg (show ¬ ¬ (0 ≤ k ∧ k ≤ 6) by assumption), if_neg (show ¬ ¬ (0 ≤ v ∧ v ≤ 9) by assumption), if_pos (show ¬ (1 ≤ r ∧ r ≤ 60) by assumption)]) hY (Nat.le_succ _)
              | exact qX_ofN (by unfold doingS; rw [if_neg (show ¬ ¬ (0 ≤ k ∧ k ≤ 6) by assumption), if_neg (show ¬ ¬ (0 ≤ v ∧ v ≤ 9) by assumption), if_neg (show ¬ ¬ (1 ≤ r ∧ r ≤ 60) by assumption), if_pos (show ¬ (0 ≤ p ∧ p ≤ r - 1) by assumption)]) hY (Nat.le_succ _)
              | exact qX_ofN (by unfold doingS; rw [if_neg (show ¬ ¬ (0 ≤ k ∧ k ≤ 6) by assumption), if_neg (show ¬ ¬ (0 ≤ v ∧ v ≤ 9) by assumption), if_neg (show ¬ ¬ (1 ≤ r ∧ r ≤ 60) by assumption), if_neg (show ¬ ¬ (0 ≤ p ∧ p ≤ r - 1) by assumption), if_pos (show ¬ (0 ≤ c ∧ c ≤ 99) by assumption)]) hY (Nat.le_succ _)
              | exact qX_ofN (by unfold doingS; rw [if_neg (show ¬ ¬ (0 ≤ k ∧ k ≤ 6) by assumption), if_neg (show ¬ ¬ (0 ≤ v ∧ v ≤ 9) by assumption), if_neg (show ¬ ¬ (1 ≤ r ∧ r ≤ 60) by assumption), if_neg (show ¬ ¬ (0 ≤ p ∧ p ≤ r - 1) by assumption), if_neg (show ¬ ¬ (0 ≤ c ∧ c ≤ 99) by assumption), if_pos (show ¬ (0 ≤ e ∧ e ≤ 99) by assumption)]) hY (Nat.le_succ _)
  · refine g_iconst (v := -1) hX (dk DX11_doing 5 rfl) (by decide) ?_
    refine g_ireturn hX (dk DX11_doing 6 rfl) rfl (rfl) (by decide) (by decide) ?_
    exact qX_ofN (by unfold doingS; rw [if_pos (by assumption)]) hY (Nat.le_succ _)
end
section
/-! what stands of the reference's picture stands behind every call -/
theorem wfR_cg {E E2 : It} (h : E2 15 = E 15) : ∀ (k c n : Nat), wfR E2 k c n = wfR E k c n := by
  intro k
  induction k with
  | zero => intro c n; rfl
  | succ k ih =>
    intro c n
    rw [wfR_s, wfR_s, h]
    cases depR (E 15 c) n with
    | none => rfl
    | some m => exact ih (c + 1) m
theorem clOk_cg {E E2 : It} (h : ∀ a, a ∈ [11, 12, 13, 14, 15] → E2 a = E a) {p c : Nat} (hc : clOk E p c) : clOk E2 p c := by
  unfold clOk at hc ⊢
  rw [h 11 (by decide), h 12 (by decide), h 13 (by decide), h 14 (by decide), h 15 (by decide)]
  refine ⟨hc.1, hc.2.1, fun w => ?_⟩
  obtain ⟨a, b, e1, e2, e3, e4, e5, e6, e7⟩ := hc.2.2 w
  exact ⟨a, b, e1, e2, e3, e4, e5, by rw [wfR_cg (h 15 (by decide))]; exact e6, e7⟩
def iP (E : It) (p : Nat) : Prop := partOk (E 0 0) (E 0 1) (E 0 16) (E 0 44) (E 0 5) (E 0 6) (E 1) (E 2) (E 3) (E 4) (E 5) (E 6) (E 7) (E 8) (E 23) (E 24) p
def iM (E : It) (p : Nat) : Prop := E 0 47 = 0 ∨ E 0 47 = 1 ∧ partOk (E 0 49) (E 0 50) (E 0 48) (E 0 56) (E 0 54) (E 0 55) (E 25) (E 26) (E 27) (E 28) (E 29) (E 30) (E 31) (E 32) (E 33) (E 34) p
def iT (E : It) : Prop := ∃ f, f ≤ 100 ∧ E 0 17 = nI f ∧ ∀ j, j < f → ∃ s, s ≤ 127 ∧ E 9 j = nI s
def iZ (E : It) : Prop := ∀ t, t < 6 → (E 36 t = -1 ∧ E 37 t = 0) ∨ ∃ s l, s ≤ 4 ∧ l ≤ 60 ∧ E 36 t = nI s ∧ E 37 t = nI l
theorem Inv.cg {E E2 : It} (hE : Inv E) (hp : iP E2 (nP E)) (hi : iM E2 (nP E)) (h15 : E2 0 15 = E 0 15) (hC : ∀ a, a ∈ [10, 11, 12, 13, 14, 15] → E2 a = E a) (h5 : iT E2) (h6 : ∃ x, x ≤ 100 ∧ E2 0 67 = nI x) (h7 : iZ E2) : Inv E2 := by
  have hn : nP E2 = nP E := by unfold nP; rw [h15]
  refine ⟨by rw [hn]; exact hp, by rw [hn]; exact hi, ⟨by rw [hn, h15]; exact hE.2.2.1.1, by rw [hn]; exact hE.2.2.1.2⟩, fun p hp => ?_, h5, h6, h7⟩
  rw [hn] at hp
  obtain ⟨x, x1, x2, x3, x4⟩ := hE.2.2.2.1 p hp
  exact ⟨x, x1, x2, by rw [hC 10 (by decide)]; exact x3, fun c hc => clOk_cg (fun a ha => hC a (List.mem_cons_of_mem _ ha)) (x4 c hc)⟩
theorem iM_cg {E E2 : It} {p : Nat} (h : iM E p) (h0 : ∀ j, j ∈ [47, 48, 49, 50, 54, 55, 56] → E2 0 j = E 0 j) (hC : ∀ a, a ∈ [25, 26, 27, 28, 29, 30, 31, 32, 33, 34] → E2 a = E a) : iM E2 p := by
  unfold iM
  rw [h0 47 (by decide), h0 48 (by decide), h0 49 (by decide), h0 50 (by decide), h0 54 (by decide), h0 55 (by decide), h0 56 (by decide), hC 25 (by decide), hC 26 (by decide), hC 27 (by decide), hC 28 (by decide), hC 29 (by decide), hC 30 (by decide), hC 31 (by decide), hC 32 (by decide), hC 33 (by decide), hC 34 (by decide)]
  exact h
theorem iP_cg {E E2 : It} {p : Nat} (h : iP E p) (h0 : ∀ j, j ∈ [0, 1, 16, 44, 5, 6] → E2 0 j = E 0 j) (hC : ∀ a, a ∈ [1, 2, 3, 4, 5, 6, 7, 8, 23, 24] → E2 a = E a) : iP E2 p := by
  unfold iP
  rw [h0 0 (by decide), h0 1 (by decide), h0 16 (by decide), h0 44 (by decide), h0 5 (by decide), h0 6 (by decide), hC 1 (by decide), hC 2 (by decide), hC 3 (by decide), hC 4 (by decide), hC 5 (by decide), hC 6 (by decide), hC 7 (by decide), hC 8 (by decide), hC 23 (by decide), hC 24 (by decide)]
  exact h
theorem iT_cg {E E2 : It} (h : iT E) (h0 : E2 0 17 = E 0 17) (hC : E2 9 = E 9) : iT E2 := by
  unfold iT; rw [h0, hC]; exact h
theorem iZ_cg {E E2 : It} (h : iZ E) (h1 : E2 36 = E 36) (h2 : E2 37 = E 37) : iZ E2 := by
  unfold iZ; rw [h1, h2]; exact h
theorem Inv.s {E E2 : It} (hE : Inv E) (hp : iP E2 (nP E)) (h0 : ∀ j, j ∈ [15, 17, 47, 48, 49, 50, 54, 55, 56, 67] → E2 0 j = E 0 j) (hC : ∀ a, a ∈ [9, 10, 11, 12, 13, 14, 15, 25, 26, 27, 28, 29, 30, 31, 32, 33, 34, 36, 37] → E2 a = E a) : Inv E2 :=
  hE.cg hp (iM_cg hE.2.1 (fun j hj => h0 j (by revert hj; simp; omega)) (fun a ha => hC a (by revert ha; simp; omega))) (h0 15 (by decide)) (fun a ha => hC a (by revert ha; simp; omega)) (iT_cg hE.2.2.2.2.1 (h0 17 (by decide)) (hC 9 (by decide))) (by rw [h0 67 (by decide)]; exact hE.2.2.2.2.2.1) (iZ_cg hE.2.2.2.2.2.2 (hC 36 (by decide)) (hC 37 (by decide)))
theorem Inv.f6 {E : It} {x : Int32} (hE : Inv E) (hx : kb (cnt E) x) : Inv (upI E 0 6 x) :=
  hE.s ⟨hE.1.1, hE.1.2.1, hE.1.2.2.1, hE.1.2.2.2.1, hE.1.2.2.2.2.1, hE.1.2.2.2.2.2.1, hE.1.2.2.2.2.2.2.1, hx⟩ (fun b hb => upn (fun e => absurd hb (by rw [e.2]; decide))) (fun a ha => upI_off (by rintro rfl; revert ha; decide))
theorem Inv.f5 {E : It} {x : Int32} (hE : Inv E) (hx : kb (cnt E) x) : Inv (upI E 0 5 x) :=
  hE.s ⟨hE.1.1, hE.1.2.1, hE.1.2.2.1, hE.1.2.2.2.1, hE.1.2.2.2.2.1, hE.1.2.2.2.2.2.1, hx, hE.1.2.2.2.2.2.2.2⟩ (fun b hb => upn (fun e => absurd hb (by rw [e.2]; decide))) (fun a ha => upI_off (by rintro rfl; revert ha; decide))
theorem Inv.needless {E : It} (hE : Inv E) {a z : Int32} : Inv (needlessS E a z).2 := by
  by_cases h : isD E a
  · obtain ⟨d, hd, rfl⟩ := isD_of hE h
    rw [needless_e h]
    exact hE.f6 (kb_with _ (inv_id hE) hd (inv_cnt hE).2)
  · unfold needlessS; rw [if_pos h]; exact hE
theorem Inv.learn {E : It} (hE : Inv E) {a z : Int32} : Inv (learnS E a z).2 := by
  by_cases h : isD E a
  · obtain ⟨d, hd, rfl⟩ := isD_of hE h
    rw [learn_e h]
    exact hE.f5 (kb_with _ (inv_kn hE) hd (inv_cnt hE).2)
  · unfold learnS; rw [if_pos h]; exact hE
theorem Inv.odds {E : It} (hE : Inv E) {a n : Int32} : Inv (oddsS E a n).2 := by
  unfold oddsS
  split
  · exact hE
  · next h =>
    split
    · exact hE
    · next h2 =>
      obtain ⟨d, hd, rfl⟩ := isD_of hE (Decidable.not_not.mp h)
      obtain ⟨x, hx, rfl⟩ := in_of (b := 10) (by decide) (Decidable.not_not.mp h2)
      obtain ⟨m, hm, em, hdo⟩ := hE.1.1
      dsimp only
      refine hE.s ⟨⟨m, hm, em, fun i hi => ?_⟩, hE.1.2⟩ (fun b hb => upn (fun e => absurd e.1 (by decide))) (fun a ha => upI_off (by rintro rfl; revert ha; decide))
      obtain ⟨q1, q2, q3, q4, q5, q6⟩ := hdo i hi
      refine ⟨q1, q2, q3, q4, q5, ?_⟩
      by_cases e : i = tN (nI d)
      · subst e; exact ⟨x, hx, up0 _ _ _ _⟩
      · rw [upn (fun z => e z.2)]; exact q6
theorem Inv.hours {E : It} (hE : Inv E) {a n : Int32} : Inv (hoursS E a n).2 := by
  unfold hoursS
  split
  · exact hE
  · split
    · exact hE
    · next h2 =>
      obtain ⟨x, hx, rfl⟩ := in_of (b := 9) (by decide) (Decidable.not_not.mp h2)
      dsimp only
      refine hE.s ⟨hE.1.1, hE.1.2.1, hE.1.2.2.1, hE.1.2.2.2.1, fun y hy => ?_, hE.1.2.2.2.2.2⟩ (fun b hb => upn (fun e => absurd e.1 (by decide))) (fun a ha => upI_off (by rintro rfl; revert ha; decide))
      by_cases e : y = tN a
      · subst e; exact ⟨x, hx, up0 _ _ _ _⟩
      · rw [upn (fun z => e z.2)]; exact hE.1.2.2.2.2.1 y hy
theorem Inv.feed {E : It} (hE : Inv E) {s : Int32} : Inv (feedS E s).2 := by
  unfold feedS
  split
  · exact hE
  · next h =>
    split
    · exact hE
    · next h2 =>
      obtain ⟨x, hx, rfl⟩ := in_of (b := 127) (by decide) (Decidable.not_not.mp h)
      obtain ⟨f, hf, ef, ht⟩ := hE.2.2.2.2.1
      have hf2 : f < 100 := by
        rcases Nat.lt_or_ge f 100 with z | z
        · exact z
        · exact absurd (by rw [ef, show f = 100 by omega]; rfl) h2
      have g0 : ∀ j, j ≠ 17 → upI (upI E 9 (tN (E 0 17)) (nI x)) 0 17 (E 0 17 + 1) 0 j = E 0 j := fun j hj => (upn (fun z => hj z.2)).trans (upn (fun z => absurd z.1 (by decide)))
      have gC : ∀ a, a ≠ 0 → a ≠ 9 → upI (upI E 9 (tN (E 0 17)) (nI x)) 0 17 (E 0 17 + 1) a = E a := fun a h0 h9 => (upI_off h0).trans (upI_off h9)
      dsimp only
      refine hE.cg (iP_cg hE.1 (fun j hj => g0 j (by rintro rfl; revert hj; decide)) (fun a ha => gC a (by rintro rfl; revert ha; decide) (by rintro rfl; revert ha; decide))) (iM_cg hE.2.1 (fun j hj => g0 j (by rintro rfl; revert hj; decide)) (fun a ha => gC a (by rintro rfl; revert ha; decide) (by rintro rfl; revert ha; decide))) (g0 15 (by decide)) (fun a ha => gC a (by rintro rfl; revert ha; decide) (by rintro rfl; revert ha; decide)) ⟨f + 1, by omega, by rw [up0, ef, nI_1], fun j hj => ?_⟩ (by rw [g0 67 (by decide)]; exact hE.2.2.2.2.2.1) (iZ_cg hE.2.2.2.2.2.2 (gC 36 (by decide) (by decide)) (gC 37 (by decide) (by decide)))
      rw [upI_off (by decide), ef, tN_nI (by omega)]
      by_cases e : j = f
      · subst e; exact ⟨x, hx, up0 _ _ _ _⟩
      · rw [upn (fun z => e z.2)]; exact ht j (by omega)
theorem Inv.hand {E : It} (hE : Inv E) : Inv (handS E).2 := hE.f5 (kb_or (inv_kn hE) (kb_over _ (inv_cnt hE).2))
theorem Inv.go {E : It} (hE : Inv E) {n : Int32} : Inv (goS E n).2 := by
  unfold goS
  split
  · exact hE
  · next h =>
    split
    · exact hE
    · next h2 =>
      obtain ⟨x, hx1, hx2, rfl⟩ := in1_of (c := 1) (b := 60) (by decide) (by decide) (Decidable.not_not.mp h)
      obtain ⟨ew, hw⟩ := inv_wk hE
      have h3 := Decidable.not_not.mp h2
      rw [ew, nI_add] at h3
      have hle := (nI_leI (b := 9999) (by omega) (by decide)).mp h3
      have hr := kb_run hE (idl := E 0 6) (n := tN (nI x)) (inv_kn hE)
      dsimp only
      generalize runF E (E 0 5) (E 0 6) (tN (nI x)) = R at hr ⊢
      refine hE.s ⟨hE.1.1, ⟨wk E + x, hle, ?_⟩, hE.1.2.2.1, hE.1.2.2.2.1, hE.1.2.2.2.2.1, hE.1.2.2.2.2.2.1, hr, hE.1.2.2.2.2.2.2.2⟩ (fun j hj => ?_) (fun a ha => ?_)
      · show E 0 1 + nI x = nI (wk E + x)
        rw [ew, nI_add]
      · unfold goE
        rw [upn (fun z => absurd hj (by rw [z.2]; decide)), upn (fun z => absurd hj (by rw [z.2]; decide)), upn (fun z => absurd hj (by rw [z.2]; decide)), upn (fun z => absurd hj (by rw [z.2]; decide)), upn (fun z => absurd hj (by rw [z.2]; decide))]
      · have h0 : a ≠ 0 := by rintro rfl; revert ha; decide
        unfold goE
        rw [upI_off h0, upI_off h0, upI_off h0, upI_off h0, upI_off h0]
theorem Inv.list {E : It} (hE : Inv E) {w a : Int32} : Inv (listS E w a).2 := by
  unfold listS
  split
  · dsimp only
    exact hE.s ⟨hE.1.1, hE.1.2.1, hE.1.2.2.1, ⟨0, by decide, rfl⟩, hE.1.2.2.2.2⟩ (fun b hb => upn (fun e => absurd hb (by rw [e.2]; decide))) (fun a ha => upI_off (by rintro rfl; revert ha; decide))
  · split
    · exact hE
    · next h1 =>
      split
      · exact hE
      · next h2 =>
        split
        · exact hE
        · next h3 =>
          obtain ⟨x, hx, rfl⟩ := in_of (b := 99) (by decide) (Decidable.not_not.mp h1)
          obtain ⟨d, hd, rfl⟩ := isD_of hE (Decidable.not_not.mp h2)
          obtain ⟨r, hr, er⟩ := inv_rows hE
          have hc := (inv_cnt hE).2
          have hr2 : r < 12 := by
            rcases Nat.lt_or_ge r 12 with z | z
            · exact z
            · exact absurd (by rw [er, show r = 12 by omega]; rfl) h3
          have g0 : ∀ j, j ≠ 44 → upI (upI (upI E 23 (tN (E 0 44)) (nI x)) 24 (tN (E 0 44)) (nI d)) 0 44 (E 0 44 + 1) 0 j = E 0 j := fun j hj => (upn (fun z => hj z.2)).trans ((upn (fun z => absurd z.1 (by decide))).trans (upn (fun z => absurd z.1 (by decide))))
          have gC : ∀ a, a ≠ 0 → a ≠ 23 → a ≠ 24 → upI (upI (upI E 23 (tN (E 0 44)) (nI x)) 24 (tN (E 0 44)) (nI d)) 0 44 (E 0 44 + 1) a = E a := fun a h0 h1 h2 => (upI_off h0).trans ((upI_off h2).trans (upI_off h1))
          dsimp only
          refine hE.s ⟨hE.1.1, hE.1.2.1, hE.1.2.2.1, ⟨r + 1, by omega, by rw [up0, er, nI_1]⟩, hE.1.2.2.2.2.1, fun k hk => ?_, hE.1.2.2.2.2.2.2⟩ (fun j hj => g0 j (by rintro rfl; revert hj; decide)) (fun a ha => gC a (by rintro rfl; revert ha; decide) (by rintro rfl; revert ha; decide) (by rintro rfl; revert ha; decide))
          obtain ⟨u, v, hu, hv, eu, ev⟩ := hE.1.2.2.2.2.2.1 k hk
          have e23 : upI (upI (upI E 23 (tN (E 0 44)) (nI x)) 24 (tN (E 0 44)) (nI d)) 0 44 (E 0 44 + 1) 23 k = upI E 23 (tN (E 0 44)) (nI x) 23 k := (upn (fun z => absurd z.1 (by decide))).trans (upn (fun z => absurd z.1 (by decide)))
          have e24 : upI (upI (upI E 23 (tN (E 0 44)) (nI x)) 24 (tN (E 0 44)) (nI d)) 0 44 (E 0 44 + 1) 24 k = upI (upI E 23 (tN (E 0 44)) (nI x)) 24 (tN (E 0 44)) (nI d) 24 k := upn (fun z => absurd z.1 (by decide))
          show ∃ x_1 z, x_1 ≤ 99 ∧ z ≤ 9 ∧ upI (upI (upI E 23 (tN (E 0 44)) (nI x)) 24 (tN (E 0 44)) (nI d)) 0 44 (E 0 44 + 1) 23 k = nI x_1 ∧ upI (upI (upI E 23 (tN (E 0 44)) (nI x)) 24 (tN (E 0 44)) (nI d)) 0 44 (E 0 44 + 1) 24 k = nI z
          rw [e23, e24]
          by_cases e : k = tN (E 0 44)
          · subst e; exact ⟨x, d, hx, by omega, up0 _ _ _ _, up0 _ _ _ _⟩
          · exact ⟨u, v, hu, hv, (upn (fun z => e z.2)).trans eu, (upn (fun z => e z.2)).trans ((upn (fun z => absurd z.1 (by decide))).trans ev)⟩
theorem inv_putB {E : It} (hE : Inv E) (l : List Int32) (hl : l.length ≤ 12) : Inv (putB (upI E 0 67 0) l) := by
  obtain ⟨f1, f2⟩ := putB_fr l (upI E 0 67 0)
  have hr := putB_ran l (upI E 0 67 0) (r := 0) (up0 _ _ _ _)
  have g0 : ∀ j, j ≠ 67 → putB (upI E 0 67 0) l 0 j = E 0 j := fun j hj => (f1 j (by simpa using hj)).trans (upn (fun z => hj z.2))
  have gC : ∀ a, a ≠ 0 → a ≠ 35 → putB (upI E 0 67 0) l a = E a := fun a h0 h9 => (f2 a h0 (by simpa using h9)).trans (upI_off h0)
  exact hE.cg (iP_cg hE.1 (fun j hj => g0 j (by rintro rfl; revert hj; decide)) (fun a ha => gC a (by rintro rfl; revert ha; decide) (by rintro rfl; revert ha; decide))) (iM_cg hE.2.1 (fun j hj => g0 j (by rintro rfl; revert hj; decide)) (fun a ha => gC a (by rintro rfl; revert ha; decide) (by rintro rfl; revert ha; decide))) (g0 15 (by decide)) (fun a ha => gC a (by rintro rfl; revert ha; decide) (by rintro rfl; revert ha; decide)) (iT_cg hE.2.2.2.2.1 (g0 17 (by decide)) (gC 9 (by decide) (by decide))) ⟨_, by omega, hr⟩ (iZ_cg hE.2.2.2.2.2.2 (gC 36 (by decide) (by decide)) (gC 37 (by decide) (by decide)))
theorem Inv.act {E : It} (hE : Inv E) {a w x : Int32} : Inv (actS E a w x).2 := by
  have h0 : Inv (upI E 0 67 0) := inv_putB hE [] (by decide)
  unfold actS
  split
  · exact h0
  · split
    · exact h0
    · split
      · split
        · exact inv_putB hE _ (Nat.le_trans (holdsB_len E _) (by decide))
        · exact inv_putB hE _ (tellsB_len E _)
      · exact inv_putB hE _ (Nat.le_trans (saysB_len E _) (by decide))
theorem Inv.tp1 {E : It} (hE : Inv E) {t : Nat} {s n : Int32} (h : (s = -1 ∧ n = 0) ∨ ∃ s2 l, s2 ≤ 4 ∧ l ≤ 60 ∧ s = nI s2 ∧ n = nI l) : Inv (upI (upI E 36 t s) 37 t n) := by
  have gC : ∀ a, a ≠ 36 → a ≠ 37 → upI (upI E 36 t s) 37 t n a = E a := fun a h0 h9 => (upI_off h9).trans (upI_off h0)
  have g0 : upI (upI E 36 t s) 37 t n 0 = E 0 := gC 0 (by decide) (by decide)
  refine hE.cg (iP_cg hE.1 (fun j hj => by rw [g0]) (fun a ha => gC a (by rintro rfl; revert ha; decide) (by rintro rfl; revert ha; decide))) (iM_cg hE.2.1 (fun j hj => by rw [g0]) (fun a ha => gC a (by rintro rfl; revert ha; decide) (by rintro rfl; revert ha; decide))) (by rw [g0]) (fun a ha => gC a (by rintro rfl; revert ha; decide) (by rintro rfl; revert ha; decide)) (iT_cg hE.2.2.2.2.1 (by rw [g0]) (gC 9 (by decide) (by decide))) (by rw [g0]; exact hE.2.2.2.2.2.1) (fun r hr => ?_)
  have e36 : upI (upI E 36 t s) 37 t n 36 = upI E 36 t s 36 := upI_off (by decide)
  have e37 : ∀ r, upI (upI E 36 t s) 37 t n 37 r = if r = t then n else E 37 r := fun r => by
    by_cases e : r = t
    · subst e; rw [up0, if_pos rfl]
    · rw [upn (fun z => e z.2), if_neg e]; exact upn (fun z => absurd z.1 (by decide))
  rw [e36, e37]
  by_cases e : r = t
  · subst e
    rw [up0, if_pos rfl]
    exact h
  · rw [upn (fun z => e z.2), if_neg e]
    exact hE.2.2.2.2.2.2 r hr
theorem Inv.tape {E : It} (hE : Inv E) {a s n : Int32} : Inv (tapeS E a s n).2 := by
  unfold tapeS
  split
  · exact hE
  · split
    · exact hE
    · next h2 =>
      have h2 := Decidable.not_not.mp h2
      split
      · next h3 =>
        refine hE.tp1 (Or.inl ⟨?_, rfl⟩)
        apply Int32.toInt_inj.mp
        have a1 := Int32.le_iff_toInt_le.mp h2.1
        have a2 := Int32.lt_iff_toInt_lt.mp h3
        have e1 : (-1 : Int32).toInt = -1 := by decide
        have e0 : (0 : Int32).toInt = 0 := by decide
        omega
      · next h3 =>
        split
        · exact hE
        · next h4 =>
          split
          · exact hE
          · next h5 =>
            obtain ⟨s2, hs2, rfl⟩ := in_of (b := 4) (by decide) ⟨Int32.not_lt.mp h3, h2.2⟩
            obtain ⟨l, hl, rfl⟩ := in_of (b := 60) (by decide) ⟨Decidable.not_not.mp h5, Decidable.not_not.mp h4⟩
            exact hE.tp1 (Or.inr ⟨s2, l, hs2, hl, rfl, rfl⟩)
theorem partOk_mv {n w the rows kn idl : Int32} {kd v rd pl co ne od hr rw rdd kd2 v2 rd2 pl2 co2 ne2 od2 hr2 rw2 rdd2 : Nat → Int32} {p : Nat} (h : partOk n w the rows kn idl kd v rd pl co ne od hr rw rdd p)
    (e10 : ∀ j, j < 10 → kd2 j = kd j ∧ v2 j = v j ∧ rd2 j = rd j ∧ pl2 j = pl j ∧ co2 j = co j ∧ ne2 j = ne j ∧ od2 j = od j) (e4 : ∀ j, j < 4 → hr2 j = hr j) (e12 : ∀ j, j < 12 → rw2 j = rw j ∧ rdd2 j = rdd j) : partOk n w the rows kn idl kd2 v2 rd2 pl2 co2 ne2 od2 hr2 rw2 rdd2 p := by
  obtain ⟨⟨x, hx, ex, h1⟩, h2, h3, h4, h5, h6, h7⟩ := h
  refine ⟨⟨x, hx, ex, fun d hd => ?_⟩, h2, h3, h4, fun y hy => by rw [e4 y hy]; exact h5 y hy, fun k hk => by rw [(e12 k hk).1, (e12 k hk).2]; exact h6 k hk, h7⟩
  obtain ⟨a1, a2, a3, a4, a5, a6, a7⟩ := e10 d (by omega)
  unfold dOk
  rw [a1, a2, a3, a4, a5, a6, a7]
  exact h1 d hd
theorem img_r {E : It} {a : Nat} (ha : a = 33 ∨ a = 34) {j : Nat} (hj : j < 12) : imgC (imgF E) a j = E (a - 10) j := by
  unfold imgC imgF
  rw [if_neg (by omega), if_neg (by omega), if_pos ha, if_pos hj]
  rcases ha with rfl | rfl <;> rfl
theorem und_r {E : It} {a : Nat} (ha : a = 23 ∨ a = 24) {j : Nat} (hj : j < 12) : undC (undF E) a j = E (a + 10) j := by
  unfold undC undF
  rw [if_neg (by omega), if_neg (by omega), if_pos ha, if_pos hj]
  rcases ha with rfl | rfl <;> rfl
theorem Inv.image {E : It} (hE : Inv E) : Inv (imageS E).2 := by
  have gC : ∀ a, a ≠ 0 → ¬ (25 ≤ a ∧ a ≤ 34) → imgC (imgF E) a = E a := fun a h0 h => img_off h0 h
  refine hE.cg (E2 := imgC (imgF E)) (iP_cg hE.1 (fun j hj => img_0 (by intro z; revert hj z; simp; omega)) (fun a ha => gC a (by rintro rfl; revert ha; decide) (by intro z; revert ha; simp; omega))) (Or.inr ⟨rfl, ?_⟩) (img_0 (by decide)) (fun a ha => gC a (by rintro rfl; revert ha; decide) (by intro z; revert ha; simp; omega)) (iT_cg hE.2.2.2.2.1 (img_0 (by decide)) (gC 9 (by decide) (by decide))) (by rw [img_0 (by decide)]; exact hE.2.2.2.2.2.1) (iZ_cg hE.2.2.2.2.2.2 (gC 36 (by decide) (by decide)) (gC 37 (by decide) (by decide)))
  show partOk (E 0 0) (E 0 1) (E 0 16) (E 0 44) (E 0 5) (E 0 6) _ _ _ _ _ _ _ _ _ _ _
  exact partOk_mv hE.1 (fun j hj => ⟨img_in (by decide) (by decide) hj, img_in (by decide) (by decide) hj, img_in (by decide) (by decide) hj, img_in (by decide) (by decide) hj, img_in (by decide) (by decide) hj, img_in (by decide) (by decide) hj, img_in (by decide) (by decide) hj⟩) (fun j hj => img_32 hj) (fun j hj => ⟨img_r (Or.inl rfl) hj, img_r (Or.inr rfl) hj⟩)
theorem Inv.undo {E : It} (hE : Inv E) : Inv (undoS E).2 := by
  unfold undoS
  split
  · exact hE
  · next h =>
    have hI := (hE.2.1.resolve_left h).2
    have gC : ∀ a, a ≠ 0 → ¬ ((1 ≤ a ∧ a ≤ 8) ∨ a = 23 ∨ a = 24) → undC (undF E) a = E a := fun a h0 h => und_off h0 h
    refine hE.cg (E2 := undC (undF E)) ?_ (iM_cg hE.2.1 (fun j hj => und_0 (by intro z; revert hj z; simp; omega)) (fun a ha => gC a (by rintro rfl; revert ha; decide) (by intro z; revert ha; simp; omega))) (und_0 (by decide)) (fun a ha => gC a (by rintro rfl; revert ha; decide) (by intro z; revert ha; simp; omega)) (iT_cg hE.2.2.2.2.1 (und_0 (by decide)) (gC 9 (by decide) (by decide))) (by rw [und_0 (by decide)]; exact hE.2.2.2.2.2.1) (iZ_cg hE.2.2.2.2.2.2 (gC 36 (by decide) (by decide)) (gC 37 (by decide) (by decide)))
    show partOk (E 0 49) (E 0 50) (E 0 48) (E 0 56) (E 0 54) (E 0 55) _ _ _ _ _ _ _ _ _ _ _
    exact partOk_mv hI (fun j hj => ⟨und_in (by decide) (by decide) hj, und_in (by decide) (by decide) hj, und_in (by decide) (by decide) hj, und_in (by decide) (by decide) hj, und_in (by decide) (by decide) hj, und_in (by decide) (by decide) hj, und_in (by decide) (by decide) hj⟩) (fun j hj => und_8 hj) (fun j hj => ⟨und_r (Or.inl rfl) hj, und_r (Or.inr rfl) hj⟩)
theorem kb_up {n : Nat} {x : Int32} (h : kb n x) : kb (n + 1) x := by
  obtain ⟨m, hm, e⟩ := h
  exact ⟨m, Nat.lt_of_lt_of_le hm (Nat.pow_le_pow_right (by decide) (Nat.le_succ n)), e⟩
theorem Inv.doing {E : It} (hE : Inv E) {k n r p c d : Int32} : Inv (doingS E k n r p c d).2 := by
  unfold doingS
  split
  · exact hE
  split
  · exact hE
  split
  · exact hE
  split
  · exact hE
  split
  · exact hE
  split
  · exact hE
  split
  · exact hE
  next h1 h2 h3 h4 h5 h6 h7 =>
  obtain ⟨e0, hc⟩ := inv_cnt hE
  have hc9 : cnt E < 10 := by
    rcases Nat.lt_or_ge (cnt E) 10 with z | z
    · exact z
    · exact absurd (by rw [e0, show cnt E = 10 by omega]; rfl) h7
  obtain ⟨x1, hx1, rfl⟩ := in_of (b := 6) (by decide) (Decidable.not_not.mp h1)
  obtain ⟨x2, hx2, rfl⟩ := in_of (b := 9) (by decide) (Decidable.not_not.mp h2)
  obtain ⟨x3, hx3, hx3b, rfl⟩ := in1_of (c := 1) (b := 60) (by decide) (by decide) (Decidable.not_not.mp h3)
  obtain ⟨x5, hx5, rfl⟩ := in_of (b := 99) (by decide) (Decidable.not_not.mp h5)
  obtain ⟨x6, hx6, rfl⟩ := in_of (b := 99) (by decide) (Decidable.not_not.mp h6)
  have h4' := Decidable.not_not.mp h4
  rw [show (1 : Int32) = nI 1 from rfl, pk_sub hx3] at h4'
  obtain ⟨x4, hx4, rfl⟩ := in_of (b := x3 - 1) (by omega) h4'
  obtain ⟨z0, z5, z6⟩ := @do_z E (nI x1) (nI x2) (nI x3) (nI x4) (nI x5) (nI x6)
  obtain ⟨n1, n2, n3, n4, n5, n6, n7⟩ := @do_n E (nI x1) (nI x2) (nI x3) (nI x4) (nI x5) (nI x6)
  have ec : tN (E 0 0 + 1) = cnt E + 1 := by rw [e0, nI_1, tN_nI (by omega)]
  dsimp only
  refine hE.s ?_ (fun j hj => do_0 (by refine ⟨?_, ?_, ?_⟩ <;> (rintro rfl; revert hj; decide))) (fun a ha => do_r (by rintro rfl; revert ha; decide) (by intro z; revert ha; simp; omega))
  unfold iP
  rw [z0, z5, z6, do_0 (by decide), do_0 (by decide), do_0 (by decide), do_r (a := 8) (by decide) (by decide), do_r (a := 23) (by decide) (by decide), do_r (a := 24) (by decide) (by decide)]
  obtain ⟨⟨x, hx, ex, hdo⟩, q2, q3, q4, q5, q6, q7, q8⟩ := hE.1
  refine ⟨⟨cnt E + 1, by omega, by rw [e0, nI_1], fun i hi => ?_⟩, q2, q3, q4, q5, q6, ?_, ?_⟩
  · by_cases e : i = cnt E
    · subst e
      unfold dOk
      rw [n1, n2, n3, n4, n5, n6, n7]
      exact ⟨⟨x1, hx1, rfl⟩, ⟨x2, hx2, rfl⟩, ⟨x3, hx3, hx3b, rfl, x4, by omega, rfl⟩, ⟨x5, hx5, rfl⟩, ⟨x6, hx6, rfl⟩, 5, by decide, rfl⟩
    · unfold dOk
      rw [do_c (by decide) (Or.inr e), do_c (by decide) (Or.inr e), do_c (by decide) (Or.inr e), do_c (by decide) (Or.inr e), do_c (by decide) (Or.inr e), do_c (by decide) (Or.inr e), do_c (by decide) (Or.inr e)]
      exact inv_d hE (by omega)
  · rw [ec, e0, kb_w0 (inv_kn hE) hc]; exact kb_up (inv_kn hE)
  · rw [ec, e0, kb_w0 (inv_id hE) hc]; exact kb_up (inv_id hE)
end
section
/-! a text read: what the reference's machine does, on text X of n signs, in numbers and lists -/
def nxA (X : Nat → Int32) (n a : Nat) : Int32 := if a < n then X a else -1
abbrev dgA (X : Nat → Int32) (n a : Nat) : Prop := 48 ≤ nxA X n a ∧ nxA X n a ≤ 57
def tkA (X : Nat → Int32) (n a : Nat) (c : Int32) : Nat := if nxA X n a = c then a + 1 else a
def twA (X : Nat → Int32) (n f : Nat) : Nat → Nat → Nat → Bool × Nat := fun m => match m with
  | 0 => fun _ a => (decide (nxA X n a = 32), tkA X n a 32)
  | m + 1 => fun i a => if nxA X n a = lettersL.getD (f + i) 0 then twA X n f m (i + 1) (a + 1) else (false, a)
theorem twA_s (X : Nat → Int32) (n f m i a : Nat) : twA X n f (m + 1) i a = if nxA X n a = lettersL.getD (f + i) 0 then twA X n f m (i + 1) (a + 1) else (false, a) := rfl
/-- a number: where it ends, what it is -/
def nuA (X : Nat → Int32) (n a : Nat) : Nat := if dgA X n a then (if dgA X n (a + 1) then a + 2 else a + 1) else a
def nvA (X : Nat → Int32) (n a : Nat) : Int32 := if dgA X n (a + 1) then 10 * (10 * 0 + nxA X n a - 48) + nxA X n (a + 1) - 48 else 10 * 0 + nxA X n a - 48
def plA (c : Int32) : Int32 := if c = 99 then 4 else if c = 105 then 0 else if c = 107 then 1 else if c = 114 then 2 else if c = 118 then 3 else if c = 119 then 6 else if c = 121 then 5 else -1
def tsA (X : Nat → Int32) (n a : Nat) : Bool × Nat × Int32 :=
  if plA (nxA X n a) < 0 then (false, a, 0) else if ¬ (60 ≤ nxA X n (a + 1) ∧ nxA X n (a + 1) ≤ 62) then (false, a + 1, 0) else if ¬ dgA X n (a + 2) then (false, a + 2, 0)
  else (true, nuA X n (a + 2), 1000 * plA (nxA X n a) + 100 * (nxA X n (a + 1) - 60) + nvA X n (a + 2))
def whA : List Int32 → List Int32 → List Int32 × List Int32 := fun ws => match ws with
  | [] => fun cs => (cs, [])
  | x :: r => fun cs => if x = 33 then whA r (cs ++ [-33]) else (cs, x :: r)
theorem whA_c (x : Int32) (r cs : List Int32) : whA (x :: r) cs = if x = 33 then whA r (cs ++ [-33]) else (cs, x :: r) := rfl
def seA (s : Int32) : List Int32 → List Int32 → List Int32 × List Int32 := fun ws => match ws with
  | [] => fun cs => (cs, [])
  | x :: r => fun cs => if x = 38 then seA s r (cs ++ [-x]) else if x = 124 then (if s = 38 then (cs, x :: r) else seA s r (cs ++ [-x])) else (cs, x :: r)
theorem seA_c (s x : Int32) (r cs : List Int32) : seA s (x :: r) cs = if x = 38 then seA s r (cs ++ [-x]) else if x = 124 then (if s = 38 then (cs, x :: r) else seA s r (cs ++ [-x])) else (cs, x :: r) := rfl
def opn : List Int32 → Nat := fun ws => match ws with
  | [] => 0
  | x :: r => if x = 33 ∨ x = 40 then opn r + 1 else opn r
theorem opn_c (x : Int32) (r : List Int32) : opn (x :: r) = if x = 33 ∨ x = 40 then opn r + 1 else opn r := rfl
/-- the machine: whether it goes through, the place, the codes -/
def amR (X : Nat → Int32) (n : Nat) : Nat → Bool → Nat → List Int32 → List Int32 → Bool × Nat × List Int32 := fun f => match f with
  | 0 => fun _ a cs _ => (false, a, cs)
  | f + 1 => fun w a cs ws =>
    if w = true then
      (if nxA X n a = 33 ∨ nxA X n a = 40 then (if opn ws = 4 then (false, a, cs) else amR X n f true (a + 1) cs (nxA X n a :: ws))
      else if (tsA X n a).1 = true then amR X n f false (tsA X n a).2.1 (whA ws (cs ++ [(tsA X n a).2.2])).1 (whA ws (cs ++ [(tsA X n a).2.2])).2
      else (false, (tsA X n a).2.1, cs))
    else if nxA X n a = 38 ∨ nxA X n a = 124 then amR X n f true (a + 1) (seA (nxA X n a) ws cs).1 (nxA X n a :: (seA (nxA X n a) ws cs).2)
    else if (seA 124 ws cs).2 = [] then (true, a, (seA 124 ws cs).1)
    else if nxA X n a = 41 then amR X n f false (a + 1) (whA (seA 124 ws cs).2.tail (seA 124 ws cs).1).1 (whA (seA 124 ws cs).2.tail (seA 124 ws cs).1).2
    else (false, a, (seA 124 ws cs).1)
/-- a clause: its word, its number, its codes -/
abbrev Cl : Type := Int32 × Int32 × List Int32
def hdA (X : Nat → Int32) (n a : Nat) : Bool × Nat × Int32 :=
  if nxA X n a = 99 then (if nxA X n (a + 1) = 97 then ((twA X n 7 4 0 a).1, (twA X n 7 4 0 a).2, 2) else ((twA X n 3 4 0 a).1, (twA X n 3 4 0 a).2, 1))
  else if nxA X n a = 115 then ((twA X n 0 3 0 a).1, (twA X n 0 3 0 a).2, 0) else ((twA X n 11 4 0 a).1, (twA X n 11 4 0 a).2, 3)
def clA (X : Nat → Int32) (n a : Nat) : Bool × Nat × Cl :=
  if (hdA X n a).1 = false then (false, (hdA X n a).2.1, 0, 0, []) else if ¬ dgA X n (hdA X n a).2.1 then (false, (hdA X n a).2.1, 0, 0, [])
  else if 1 < (hdA X n a).2.2 then (true, nuA X n (hdA X n a).2.1, (hdA X n a).2.2, nvA X n (hdA X n a).2.1, [])
  else if nxA X n (nuA X n (hdA X n a).2.1) = 32 then ((amR X n 101 true (nuA X n (hdA X n a).2.1 + 1) [] []).1, (amR X n 101 true (nuA X n (hdA X n a).2.1 + 1) [] []).2.1, (hdA X n a).2.2, nvA X n (hdA X n a).2.1, (amR X n 101 true (nuA X n (hdA X n a).2.1 + 1) [] []).2.2)
  else (false, nuA X n (hdA X n a).2.1, 0, 0, [])
/-- the text: clauses with ; between, ten at most -/
def gtA (X : Nat → Int32) (n : Nat) : Nat → Nat → List Cl → Bool × Nat × List Cl := fun f => match f with
  | 0 => fun a l => (false, a, l)
  | f + 1 => fun a l => if (clA X n a).1 = false then (false, (clA X n a).2.1, l) else if (clA X n a).2.1 = n then (true, n, l ++ [(clA X n a).2.2])
    else if l.length + 1 = 10 then (false, (clA X n a).2.1, l) else if nxA X n (clA X n a).2.1 = 59 then gtA X n f ((clA X n a).2.1 + 1) (l ++ [(clA X n a).2.2]) else (false, (clA X n a).2.1, l)
theorem gtA_s (X : Nat → Int32) (n f a : Nat) (l : List Cl) : gtA X n (f + 1) a l = if (clA X n a).1 = false then (false, (clA X n a).2.1, l) else if (clA X n a).2.1 = n then (true, n, l ++ [(clA X n a).2.2])
    else if l.length + 1 = 10 then (false, (clA X n a).2.1, l) else if nxA X n (clA X n a).2.1 = 59 then gtA X n f ((clA X n a).2.1 + 1) (l ++ [(clA X n a).2.2]) else (false, (clA X n a).2.1, l) := rfl
/-! the reference's memory while it reads -/
def TX (X : Nat → Int32) (n : Nat) (J : It) : Prop := J 0 17 = nI n ∧ n ≤ 100 ∧ ∀ j, j < n → J 9 j = X j
def AT (n a : Nat) (J : It) : Prop := J 0 18 = nI a ∧ a ≤ n
theorem TX.u {X : Nat → Int32} {n : Nat} {J : It} {q j : Nat} {x : Int32} (h : TX X n J) (h1 : ¬ (q = 0 ∧ j = 17)) (h2 : q ≠ 9) : TX X n (upI J q j x) :=
  ⟨(upn (fun z => h1 ⟨z.1.symm, z.2.symm⟩)).trans h.1, h.2.1, fun i hi => (upn (fun z => h2 z.1.symm)).trans (h.2.2 i hi)⟩
theorem AT.u {n a : Nat} {J : It} {q j : Nat} {x : Int32} (h : AT n a J) (h1 : ¬ (q = 0 ∧ j = 18)) : AT n a (upI J q j x) := ⟨(upn (fun z => h1 ⟨z.1.symm, z.2.symm⟩)).trans h.1, h.2⟩
theorem AT.w {n b : Nat} {J : It} (hb : b ≤ n) : AT n b (upI J 0 18 (nI b)) := ⟨up0 _ _ _ _, hb⟩
theorem TX.w {X : Nat → Int32} {n b : Nat} {J : It} (h : TX X n J) : TX X n (upI J 0 18 (nI b)) := h.u (by omega) (by decide)
theorem up_id {J : It} {q j : Nat} {x : Int32} (h : J q j = x) : upI J q j x = J := by
  funext a b
  unfold upI
  split
  · next e => rw [e.1, e.2, h]
  · rfl
theorem up_up {J : It} {q j : Nat} {x y : Int32} : upI (upI J q j x) q j y = upI J q j y := by
  funext a b
  unfold upI
  split
  · rfl
  · next e => first | rfl | rw [if_neg e]
theorem nxA_no {X : Nat → Int32} {n a : Nat} {c : Int32} (hc : c ≠ -1) (h : nxA X n a = c) : a < n := by
  unfold nxA at h
  by_cases z : a < n
  · exact z
  · rw [if_neg z] at h; exact absurd h.symm hc
theorem dgA_lt {X : Nat → Int32} {n a : Nat} (h : dgA X n a) : a < n := by
  by_cases z : a < n
  · exact z
  · have h1 := h.1
    unfold nxA at h1
    rw [if_neg z] at h1
    exact absurd h1 (by decide)
theorem nuA_le {X : Nat → Int32} {n a : Nat} (ha : a ≤ n) : nuA X n a ≤ n := by
  unfold nuA
  split
  · next h =>
    have := dgA_lt h
    split
    · next h2 => have := dgA_lt h2; omega
    · omega
  · exact ha
theorem nuA_gt {X : Nat → Int32} {n a : Nat} (h : dgA X n a) : a + 1 ≤ nuA X n a := by
  unfold nuA
  rw [if_pos h]
  split <;> omega
/-- the pile of what waits -/
def SK (J : It) : List Int32 → Prop := fun ws => match ws with
  | [] => True
  | x :: r => J 16 r.length = x ∧ SK J r
theorem SK.mv {J K : It} : ∀ {ws : List Int32}, SK J ws → (∀ j, j < ws.length → K 16 j = J 16 j) → SK K ws := by
  intro ws
  induction ws with
  | nil => intro _ _; trivial
  | cons x r ih =>
    intro h e
    simp only [List.length_cons] at e
    exact ⟨(e _ (by omega)).trans h.1, ih h.2 (fun j hj => e j (by omega))⟩
/-- what a clause's E may have written: row c of to, signs from fr on -/
def FrE (p c fr : Nat) (I J : It) : Prop := (∀ j, j ∉ [18, 19, 28, 29, 30] → J 0 j = I 0 j) ∧ (∀ a, a ∉ [0, 14, 15, 16] → J a = I a) ∧ (∀ j, j ≠ c → J 14 j = I 14 j) ∧ ∀ j, (j < fr ∨ 100 * p + 100 ≤ j) → J 15 j = I 15 j
theorem FrE.rf {p c fr : Nat} {I : It} : FrE p c fr I I := ⟨fun _ _ => rfl, fun _ _ => rfl, fun _ _ => rfl, fun _ _ => rfl⟩
theorem FrE.f {p c fr : Nat} {I J : It} {j : Nat} {x : Int32} (h : FrE p c fr I J) (hj : j ∈ [18, 19, 28, 29, 30]) : FrE p c fr I (upI J 0 j x) :=
  ⟨fun b hb => (upn (fun z => hb (by rw [z.2]; exact hj))).trans (h.1 b hb), fun a ha => (upI_off (by rintro rfl; revert ha; decide)).trans (h.2.1 a ha), fun b hb => (upn (fun z => absurd z.1 (by decide))).trans (h.2.2.1 b hb), fun b hb => (upn (fun z => absurd z.1 (by decide))).trans (h.2.2.2 b hb)⟩
theorem FrE.w16 {p c fr : Nat} {I J : It} {j : Nat} {x : Int32} (h : FrE p c fr I J) : FrE p c fr I (upI J 16 j x) :=
  ⟨fun b hb => (upn (fun z => absurd z.1 (by decide))).trans (h.1 b hb), fun a ha => (upI_off (by rintro rfl; revert ha; decide)).trans (h.2.1 a ha), fun b hb => (upn (fun z => absurd z.1 (by decide))).trans (h.2.2.1 b hb), fun b hb => (upn (fun z => absurd z.1 (by decide))).trans (h.2.2.2 b hb)⟩
theorem FrE.w15 {p c fr : Nat} {I J : It} {j : Nat} {x : Int32} (h : FrE p c fr I J) (h1 : fr ≤ j) (h2 : j < 100 * p + 100) : FrE p c fr I (upI J 15 j x) :=
  ⟨fun b hb => (upn (fun z => absurd z.1 (by decide))).trans (h.1 b hb), fun a ha => (upI_off (by rintro rfl; revert ha; decide)).trans (h.2.1 a ha), fun b hb => (upn (fun z => absurd z.1 (by decide))).trans (h.2.2.1 b hb), fun b hb => (upn (fun z => by have := z.2; omega)).trans (h.2.2.2 b hb)⟩
theorem FrE.w14 {p c fr : Nat} {I J : It} {x : Int32} (h : FrE p c fr I J) : FrE p c fr I (upI J 14 c x) :=
  ⟨fun b hb => (upn (fun z => absurd z.1 (by decide))).trans (h.1 b hb), fun a ha => (upI_off (by rintro rfl; revert ha; decide)).trans (h.2.1 a ha), fun b hb => (upn (fun z => hb z.2)).trans (h.2.2.1 b hb), fun b hb => (upn (fun z => absurd z.1 (by decide))).trans (h.2.2.2 b hb)⟩
theorem FrE.tr {p c fr : Nat} {I J K : It} (h : FrE p c fr I J) (h2 : FrE p c fr J K) : FrE p c fr I K :=
  ⟨fun j hj => (h2.1 j hj).trans (h.1 j hj), fun a ha => (h2.2.1 a ha).trans (h.2.1 a ha), fun b hb => (h2.2.2.1 b hb).trans (h.2.2.1 b hb), fun b hb => (h2.2.2.2 b hb).trans (h.2.2.2 b hb)⟩
/-- the codes from fr on -/
def CD (fr : Nat) (J : It) (cs : List Int32) : Prop := ∀ i, i < cs.length → J 15 (fr + i) = cs.getD i 0
theorem CD.put {fr : Nat} {J : It} {cs : List Int32} {x : Int32} (h : CD fr J cs) : CD fr (upI J 15 (fr + cs.length) x) (cs ++ [x]) := by
  intro i hi
  simp only [List.length_append, List.length_cons, List.length_nil] at hi
  by_cases e : i = cs.length
  · subst e; rw [up0]; simp
  · rw [upn (by omega), h i (by omega)]
    have : i < cs.length := by omega
    simp [List.getD_eq_getElem?_getD, List.getElem?_append_left this]
theorem CD.u {fr : Nat} {J : It} {cs : List Int32} {q j : Nat} {x : Int32} (h : CD fr J cs) (hq : q ≠ 15) : CD fr (upI J q j x) cs := fun i hi => (upn (fun z => hq z.1.symm)).trans (h i hi)
/-- the machine's state in memory -/
def MZ (p c fr : Nat) (X : Nat → Int32) (n : Nat) (I J : It) (a : Nat) (cs ws : List Int32) : Prop :=
  FrE p c fr I J ∧ TX X n J ∧ AT n a J ∧ (J 0 28 = nI (fr + cs.length) ∧ 100 * p ≤ fr ∧ fr + cs.length + ws.length ≤ 100 * p + a) ∧ CD fr J cs ∧ J 0 29 = nI ws.length ∧ SK J ws ∧ J 0 30 = nI (opn ws)
/-- a place come to, nothing more -/
def MF (p c fr : Nat) (X : Nat → Int32) (n : Nat) (I J : It) (a : Nat) : Prop := FrE p c fr I J ∧ TX X n J ∧ AT n a J
theorem MZ.mf {p c fr : Nat} {X : Nat → Int32} {n : Nat} {I J : It} {a : Nat} {cs ws : List Int32} (h : MZ p c fr X n I J a cs ws) : MF p c fr X n I J a := ⟨h.1, h.2.1, h.2.2.1⟩
/-- an ! that waits is put -/
theorem MZ.bang {p c fr : Nat} {X : Nat → Int32} {n : Nat} {I J : It} {a : Nat} {cs r : List Int32} (h : MZ p c fr X n I J a cs (33 :: r)) :
    MZ p c fr X n I (upI (upI (upI (upI J 15 (fr + cs.length) (-33)) 0 28 (nI (fr + cs.length + 1))) 0 29 (nI r.length)) 0 30 (nI (opn r))) a (cs ++ [-33]) r := by
  obtain ⟨h1, h2, h3, ⟨h4, h5, h6⟩, h7, h8, h9, h10⟩ := h
  have hn := h2.2.1
  have ha := h3.2
  simp only [List.length_cons] at h6
  refine ⟨(((h1.w15 (by omega) (by omega)).f (by decide)).f (by decide)).f (by decide), (((h2.u (by omega) (by decide)).u (by omega) (by decide)).u (by omega) (by decide)).u (by omega) (by decide), (((h3.u (by omega)).u (by omega)).u (by omega)).u (by omega), ⟨?_, h5, ?_⟩, ((h7.put.u (by omega)).u (by omega)).u (by omega), ?_, h9.2.mv (fun j hj => rfl), up0 _ _ _ _⟩
  · simp only [List.length_append, List.length_cons, List.length_nil]
    rw [show fr + (cs.length + (0 + 1)) = fr + cs.length + 1 by omega]; rfl
  · simp only [List.length_append, List.length_cons, List.length_nil]; omega
  · rfl
/-- an operator that waits is put -/
theorem MZ.op {p c fr : Nat} {X : Nat → Int32} {n : Nat} {I J : It} {a : Nat} {cs r : List Int32} {x : Int32} (h : MZ p c fr X n I J a cs (x :: r)) (hx : ¬ (x = 33 ∨ x = 40)) :
    MZ p c fr X n I (upI (upI (upI J 0 29 (nI r.length)) 15 (fr + cs.length) (-x)) 0 28 (nI (fr + cs.length + 1))) a (cs ++ [-x]) r := by
  obtain ⟨h1, h2, h3, ⟨h4, h5, h6⟩, h7, h8, h9, h10⟩ := h
  have hn := h2.2.1
  have ha := h3.2
  simp only [List.length_cons] at h6
  rw [opn_c, if_neg hx] at h10
  refine ⟨((h1.f (by decide)).w15 (by omega) (by omega)).f (by decide), ((h2.u (by omega) (by decide)).u (by omega) (by decide)).u (by omega) (by decide), ((h3.u (by omega)).u (by omega)).u (by omega), ⟨?_, h5, ?_⟩, ((h7.u (by omega)).put).u (by omega), ?_, h9.2.mv (fun j hj => rfl), ?_⟩
  · simp only [List.length_append, List.length_cons, List.length_nil]
    rw [show fr + (cs.length + (0 + 1)) = fr + cs.length + 1 by omega]; exact up0 _ _ _ _
  · simp only [List.length_append, List.length_cons, List.length_nil]; omega
  · rfl
  · exact h10
/-- a place further on -/
theorem MZ.at {p c fr : Nat} {X : Nat → Int32} {n : Nat} {I J : It} {a b : Nat} {cs ws : List Int32} (h : MZ p c fr X n I J a cs ws) (hab : a ≤ b) (hb : b ≤ n) : MZ p c fr X n I (upI J 0 18 (nI b)) b cs ws := by
  obtain ⟨h1, h2, h3, ⟨h4, h5, h6⟩, h7, h8, h9, h10⟩ := h
  exact ⟨h1.f (by decide), h2.w, ⟨up0 _ _ _ _, hb⟩, ⟨(upn (by decide)).trans h4, h5, by omega⟩, h7.u (by omega), (upn (by decide)).trans h8, h9.mv (fun j hj => rfl), (upn (by decide)).trans h10⟩
theorem MZ.dg {p c fr : Nat} {X : Nat → Int32} {n : Nat} {I J : It} {a : Nat} {cs ws : List Int32} {x : Int32} (h : MZ p c fr X n I J a cs ws) : MZ p c fr X n I (upI J 0 19 x) a cs ws := by
  obtain ⟨h1, h2, h3, ⟨h4, h5, h6⟩, h7, h8, h9, h10⟩ := h
  exact ⟨h1.f (by decide), h2.u (by omega) (by decide), h3.u (by omega), ⟨(upn (by decide)).trans h4, h5, h6⟩, h7.u (by omega), (upn (by decide)).trans h8, h9.mv (fun j hj => rfl), (upn (by decide)).trans h10⟩
/-- a code is put, a sign having been read for it -/
theorem MZ.code {p c fr : Nat} {X : Nat → Int32} {n : Nat} {I J : It} {a b : Nat} {cs ws : List Int32} {x : Int32} (h : MZ p c fr X n I J a cs ws) (hab : a < b) (hb : b ≤ n) : MZ p c fr X n I (upI (upI (upI J 0 18 (nI b)) 15 (fr + cs.length) x) 0 28 (nI (fr + cs.length + 1))) b (cs ++ [x]) ws := by
  obtain ⟨h1, h2, h3, ⟨h4, h5, h6⟩, h7, h8, h9, h10⟩ := h
  have hn := h2.2.1
  refine ⟨((h1.f (by decide)).w15 (by omega) (by omega)).f (by decide), (h2.w.u (by omega) (by decide)).u (by omega) (by decide), ⟨rfl, hb⟩, ⟨?_, h5, ?_⟩, ((h7.u (by omega)).put).u (by omega), h8, h9.mv (fun j hj => rfl), h10⟩
  · simp only [List.length_append, List.length_cons, List.length_nil]
    rw [show fr + (cs.length + (0 + 1)) = fr + cs.length + 1 by omega]; exact up0 _ _ _ _
  · simp only [List.length_append, List.length_cons, List.length_nil]; omega
/-- a sign is put to what waits -/
theorem MZ.push {p c fr : Nat} {X : Nat → Int32} {n : Nat} {I J : It} {a : Nat} {cs ws : List Int32} {x o : Int32} (h : MZ p c fr X n I J a cs ws) (ha : a < n) (ho : o = nI (opn (x :: ws))) :
    MZ p c fr X n I (upI (upI (upI (upI J 0 30 o) 16 ws.length x) 0 29 (nI (ws.length + 1))) 0 18 (nI (a + 1))) (a + 1) cs (x :: ws) := by
  obtain ⟨h1, h2, h3, ⟨h4, h5, h6⟩, h7, h8, h9, h10⟩ := h
  refine ⟨(((h1.f (by decide)).w16).f (by decide)).f (by decide), (((h2.u (by omega) (by decide)).u (by omega) (by decide)).u (by omega) (by decide)).w, ⟨rfl, ha⟩, ⟨h4, h5, ?_⟩, (((h7.u (by omega)).u (by omega)).u (by omega)).u (by omega), ?_, ⟨up0 (upI J 0 30 o) 16 ws.length x, h9.mv (fun j hj => ?_)⟩, ho⟩
  · simp only [List.length_cons]; omega
  · rfl
  · show upI (upI J 0 30 o) 16 ws.length x 16 j = J 16 j
    rw [upn (by omega)]; rfl
/-- what waits on top is taken away -/
theorem MZ.pop {p c fr : Nat} {X : Nat → Int32} {n : Nat} {I J : It} {a : Nat} {cs r : List Int32} {x : Int32} (h : MZ p c fr X n I J a cs (x :: r)) (ha : a < n) :
    MZ p c fr X n I (upI (upI (upI J 0 29 (nI r.length)) 0 30 (nI (opn r))) 0 18 (nI (a + 1))) (a + 1) cs r := by
  obtain ⟨h1, h2, h3, ⟨h4, h5, h6⟩, h7, h8, h9, h10⟩ := h
  simp only [List.length_cons] at h6
  exact ⟨((h1.f (by decide)).f (by decide)).f (by decide), ((h2.u (by omega) (by decide)).u (by omega) (by decide)).w, ⟨rfl, ha⟩, ⟨h4, h5, by omega⟩, ((h7.u (by omega)).u (by omega)).u (by omega), rfl, h9.2.mv (fun j hj => rfl), rfl⟩
theorem MZ.w14 {p c fr : Nat} {X : Nat → Int32} {n : Nat} {I J : It} {a : Nat} {cs ws : List Int32} {x : Int32} (h : MZ p c fr X n I J a cs ws) : MZ p c fr X n I (upI J 14 c x) a cs ws := by
  obtain ⟨h1, h2, h3, ⟨h4, h5, h6⟩, h7, h8, h9, h10⟩ := h
  exact ⟨h1.w14, h2.u (by omega) (by decide), h3.u (by omega), ⟨h4, h5, h6⟩, h7.u (by omega), h8, h9.mv (fun j hj => rfl), h10⟩
theorem opn_le : ∀ ws : List Int32, opn ws ≤ ws.length := by
  intro ws
  induction ws with
  | nil => exact Nat.le_refl _
  | cons x r ih =>
    rw [opn_c, List.length_cons]
    split <;> omega
def okW (ws : List Int32) : Prop := ∀ x, x ∈ ws → x = 33 ∨ x = 40 ∨ x = 38 ∨ x = 124
theorem okW.tl {x : Int32} {r : List Int32} (h : okW (x :: r)) : okW r := fun y hy => h y (List.mem_cons_of_mem _ hy)
theorem okW.cn {x : Int32} {r : List Int32} (h : okW r) (hx : x = 33 ∨ x = 40 ∨ x = 38 ∨ x = 124) : okW (x :: r) := by
  intro y hy
  rcases List.mem_cons.mp hy with rfl | z
  · exact hx
  · exact h y z
theorem okW.wh {ws : List Int32} (h : okW ws) : ∀ cs, okW (whA ws cs).2 := by
  induction ws with
  | nil => intro cs; exact h
  | cons x r ih =>
    intro cs
    rw [whA_c]
    split
    · exact ih h.tl _
    · exact h
theorem okW.se {ws : List Int32} {s : Int32} (h : okW ws) : ∀ cs, okW (seA s ws cs).2 := by
  induction ws with
  | nil => intro cs; exact h
  | cons x r ih =>
    intro cs
    rw [seA_c]
    split
    · exact ih h.tl _
    · split
      · split
        · exact h
        · exact ih h.tl _
      · exact h
/-- behind settle of |, no operator is on top -/
theorem se_top {x : Int32} {r : List Int32} : ∀ {ws cs : List Int32}, (seA 124 ws cs).2 = x :: r → x ≠ 38 ∧ x ≠ 124 := by
  intro ws
  induction ws with
  | nil => intro cs h; cases h
  | cons y t ih =>
    intro cs h
    rw [seA_c] at h
    by_cases e : y = 38
    · rw [if_pos e] at h; exact ih h
    · rw [if_neg e] at h
      by_cases e2 : y = 124
      · rw [if_pos e2, if_neg (by decide)] at h; exact ih h
      · rw [if_neg e2] at h
        cases h
        exact ⟨e, e2⟩
theorem MZ.push0 {p c fr : Nat} {X : Nat → Int32} {n : Nat} {I J : It} {a : Nat} {cs ws : List Int32} {x : Int32} (h : MZ p c fr X n I J a cs ws) (ha : a < n) (hx : ¬ (x = 33 ∨ x = 40)) :
    MZ p c fr X n I (upI (upI (upI J 16 ws.length x) 0 29 (nI (ws.length + 1))) 0 18 (nI (a + 1))) (a + 1) cs (x :: ws) := by
  have := h.push (x := x) ha rfl
  rwa [up_id (h.2.2.2.2.2.2.2.trans (by rw [opn_c, if_neg hx]))] at this
theorem MZ.lt {p c fr : Nat} {X : Nat → Int32} {n : Nat} {I J : It} {a : Nat} {cs ws : List Int32} (h : MZ p c fr X n I J a cs ws) : a ≤ n ∧ n ≤ 100 ∧ ws.length ≤ a ∧ 100 * p ≤ fr ∧ fr + cs.length + ws.length ≤ 100 * p + a :=
  ⟨h.2.2.1.2, h.2.1.2.1, by have := h.2.2.2.1; omega, h.2.2.2.1.2.1, h.2.2.2.1.2.2⟩
section AM
variable {X : Nat → Int32} {n f a : Nat} {cs ws : List Int32}
theorem amR_1 : amR X n (f + 1) true a cs ws = (if nxA X n a = 33 ∨ nxA X n a = 40 then (if opn ws = 4 then (false, a, cs) else amR X n f true (a + 1) cs (nxA X n a :: ws))
      else if (tsA X n a).1 = true then amR X n f false (tsA X n a).2.1 (whA ws (cs ++ [(tsA X n a).2.2])).1 (whA ws (cs ++ [(tsA X n a).2.2])).2
      else (false, (tsA X n a).2.1, cs)) := rfl
theorem amR_0 : amR X n (f + 1) false a cs ws = (if nxA X n a = 38 ∨ nxA X n a = 124 then amR X n f true (a + 1) (seA (nxA X n a) ws cs).1 (nxA X n a :: (seA (nxA X n a) ws cs).2)
    else if (seA 124 ws cs).2 = [] then (true, a, (seA 124 ws cs).1)
    else if nxA X n a = 41 then amR X n f false (a + 1) (whA (seA 124 ws cs).2.tail (seA 124 ws cs).1).1 (whA (seA 124 ws cs).2.tail (seA 124 ws cs).1).2
    else (false, a, (seA 124 ws cs).1)) := rfl
theorem am_o (h : nxA X n a = 33 ∨ nxA X n a = 40) (h4 : ¬ opn ws = 4) : amR X n (f + 1) true a cs ws = amR X n f true (a + 1) cs (nxA X n a :: ws) := by
  rw [amR_1, if_pos h, if_neg h4]
theorem am_o4 (h : nxA X n a = 33 ∨ nxA X n a = 40) (h4 : opn ws = 4) : amR X n (f + 1) true a cs ws = (false, a, cs) := by
  rw [amR_1, if_pos h, if_pos h4]
theorem am_t (h : ¬ (nxA X n a = 33 ∨ nxA X n a = 40)) (h4 : (tsA X n a).1 = true) : amR X n (f + 1) true a cs ws = amR X n f false (tsA X n a).2.1 (whA ws (cs ++ [(tsA X n a).2.2])).1 (whA ws (cs ++ [(tsA X n a).2.2])).2 := by
  rw [amR_1, if_neg h, if_pos h4]
theorem am_tf (h : ¬ (nxA X n a = 33 ∨ nxA X n a = 40)) (h4 : ¬ (tsA X n a).1 = true) : amR X n (f + 1) true a cs ws = (false, (tsA X n a).2.1, cs) := by
  rw [amR_1, if_neg h, if_neg h4]
theorem am_b (h : nxA X n a = 38 ∨ nxA X n a = 124) : amR X n (f + 1) false a cs ws = amR X n f true (a + 1) (seA (nxA X n a) ws cs).1 (nxA X n a :: (seA (nxA X n a) ws cs).2) := by
  rw [amR_0, if_pos h]
theorem am_e (h : ¬ (nxA X n a = 38 ∨ nxA X n a = 124)) (h2 : (seA 124 ws cs).2 = []) : amR X n (f + 1) false a cs ws = (true, a, (seA 124 ws cs).1) := by
  rw [amR_0, if_neg h, if_pos h2]
theorem am_c (h : ¬ (nxA X n a = 38 ∨ nxA X n a = 124)) (h2 : ¬ (seA 124 ws cs).2 = []) (h3 : nxA X n a = 41) : amR X n (f + 1) false a cs ws = amR X n f false (a + 1) (whA (seA 124 ws cs).2.tail (seA 124 ws cs).1).1 (whA (seA 124 ws cs).2.tail (seA 124 ws cs).1).2 := by
  rw [amR_0, if_neg h, if_neg h2, if_pos h3]
theorem am_x (h : ¬ (nxA X n a = 38 ∨ nxA X n a = 124)) (h2 : ¬ (seA 124 ws cs).2 = []) (h3 : ¬ nxA X n a = 41) : amR X n (f + 1) false a cs ws = (false, a, (seA 124 ws cs).1) := by
  rw [amR_0, if_neg h, if_neg h2, if_neg h3]
end AM
theorem pl_lt {X : Nat → Int32} {n a : Nat} (h : 0 ≤ plA (nxA X n a)) : a < n := by
  by_cases z : a < n
  · exact z
  · have e : nxA X n a = -1 := if_neg z
    rw [e] at h
    exact absurd h (by decide)
theorem in_lt {X : Nat → Int32} {n a : Nat} (h : 60 ≤ nxA X n a ∧ nxA X n a ≤ 62) : a < n := by
  by_cases z : a < n
  · exact z
  · have e : nxA X n a = -1 := if_neg z
    rw [e] at h
    exact absurd h (by decide)
theorem ne_cons {r : List Int32} (h : ¬ nI r.length ≤ 0) : ∃ x t, r = x :: t := by
  cases r with
  | nil => exact absurd (by decide) h
  | cons x t => exact ⟨x, t, rfl⟩
theorem nil_of {r : List Int32} (hl : r.length < 2 ^ 31) (h : nI r.length ≤ 0) : r = [] := by
  have := (nI_leI (b := 0) hl (by decide)).mp h
  exact List.length_eq_zero_iff.mp (by omega)
theorem nil_0 {r : List Int32} (hl : r.length < 2 ^ 31) (h : nI r.length = 0) : r = [] := nil_of hl (by rw [h]; decide)
theorem cons_0 {r : List Int32} (hl : r.length < 2 ^ 31) (h : ¬ nI r.length = 0) : ∃ x t, r = x :: t := by
  cases r with
  | nil => exact absurd rfl h
  | cons x t => exact ⟨x, t, rfl⟩
theorem ts_gt {X : Nat → Int32} {n a : Nat} (h : (tsA X n a).1 = true) : a + 3 ≤ (tsA X n a).2.1 := by
  unfold tsA at h ⊢
  split at h
  · exact absurd h Bool.false_ne_true
  · split at h
    · exact absurd h Bool.false_ne_true
    · split at h
      · exact absurd h Bool.false_ne_true
      · next h1 h2 h3 =>
        rw [if_neg h1, if_neg h2, if_neg h3]
        have := nuA_gt (Decidable.not_not.mp h3)
        show a + 3 ≤ nuA X n (a + 2)
        omega
/-- what a clause may have written -/
def FC (p c fr : Nat) (I J : It) : Prop := (∀ j, j ∉ [18, 19, 28, 29, 30] → J 0 j = I 0 j) ∧ (∀ a, a ∉ [0, 11, 12, 13, 14, 15, 16] → J a = I a) ∧ (∀ j, j ≠ c → J 11 j = I 11 j ∧ J 12 j = I 12 j ∧ J 13 j = I 13 j ∧ J 14 j = I 14 j) ∧ ∀ j, (j < fr ∨ 100 * p + 100 ≤ j) → J 15 j = I 15 j
def teI (I : It) (c : Nat) (v : Int32) : It := upI (upI (upI I 0 29 0) 0 30 0) 13 c v
theorem FC.of {p c fr : Nat} {I J : It} {v : Int32} (h : FrE p c fr (teI I c v) J) : FC p c fr I J ∧ J 13 c = v ∧ J 11 = I 11 ∧ J 12 = I 12 := by
  obtain ⟨h1, h2, h3, h4⟩ := h
  have g : ∀ a, a ≠ 0 → a ≠ 13 → teI I c v a = I a := fun a h0 h13 => (upI_off h13).trans ((upI_off h0).trans (upI_off h0))
  have g13 : ∀ j, j ≠ c → teI I c v 13 j = I 13 j := fun j hj => (upn (fun z => hj z.2)).trans ((upn (fun z => absurd z.1 (by decide))).trans (upn (fun z => absurd z.1 (by decide))))
  refine ⟨⟨fun j hj => (h1 j hj).trans ?_, fun a ha => (h2 a (by revert ha; simp; omega)).trans (g a (by revert ha; simp; omega) (by revert ha; simp; omega)), fun j hj => ⟨?_, ?_, ?_, ?_⟩, fun j hj => (h4 j hj).trans (congrFun (g 15 (by decide) (by decide)) j)⟩, ?_, ?_, ?_⟩
  · unfold teI
    simp only [List.mem_cons, List.not_mem_nil, or_false, not_or] at hj
    rw [upn (by omega), upn (by omega), upn (by omega)]
  · rw [h2 11 (by decide), g 11 (by decide) (by decide)]
  · rw [h2 12 (by decide), g 12 (by decide) (by decide)]
  · rw [h2 13 (by decide), g13 j hj]
  · rw [h3 j hj, g 14 (by decide) (by decide)]
  · rw [h2 13 (by decide)]; exact up0 _ _ _ _
  · rw [h2 11 (by decide), g 11 (by decide) (by decide)]
  · rw [h2 12 (by decide), g 12 (by decide) (by decide)]
theorem MZ.start {p c fr : Nat} {X : Nat → Int32} {n : Nat} {I : It} {a : Nat} (hT : TX X n I) (hA : AT n a I) (h28 : I 0 28 = nI fr) (h1 : 100 * p ≤ fr) (h2 : fr ≤ 100 * p + a) : MZ p c fr X n (teI I c (nI fr)) (teI I c (nI fr)) a [] [] :=
  ⟨FrE.rf, ((hT.u (by omega) (by decide)).u (by omega) (by decide)).u (by omega) (by decide), ((hA.u (by omega)).u (by omega)).u (by omega), ⟨h28, h1, h2⟩, fun i hi => absurd hi (Nat.not_lt_zero i), rfl, trivial, rfl⟩
end
section
theorem bI_iff {p q : Prop} [Decidable p] [Decidable q] (h : p ↔ q) : bI p = bI q := by
  by_cases e : p
  · rw [bI_t e, bI_t (h.mp e)]
  · rw [bI_f e, bI_f (fun z => e (h.mpr z))]
theorem ng_lt {a n : Nat} (hn : a < 2 ^ 31) (h : ¬ nI n ≤ nI a) : a < n := Nat.lt_of_not_le (fun z => h (nI_le z hn))
theorem lg_le {a n : Nat} (hn : n < 2 ^ 31) (ha : a < 2 ^ 31) (h : nI n ≤ nI a) : ¬ a < n := Nat.not_lt.mpr ((nI_leI hn ha).mp h)
def W2 (J : It) (x y : Int32) : It := upI (upI J 0 18 x) 0 19 y
theorem W2_9 (J : It) (x y z : Int32) : upI (W2 J x y) 0 19 z = W2 J x z := up_up
theorem W2_8 (J : It) (x y z : Int32) : upI (W2 J x y) 0 18 z = W2 J z y := by
  funext a b
  unfold W2 upI
  by_cases e1 : a = 0 ∧ b = 18
  · rw [if_pos e1, if_neg (by omega), if_pos e1]
  · rw [if_neg e1]
    by_cases e2 : a = 0 ∧ b = 19
    · rw [if_pos e2, if_pos e2]
    · rw [if_neg e2, if_neg e2, if_neg e1, if_neg e1]
theorem W2_i {J : It} {a : Nat} (h : J 0 18 = nI a) (y : Int32) : upI J 0 19 y = W2 J (nI a) y := by unfold W2; rw [up_id h]
theorem W2_T {tx : Nat → Int32} {n : Nat} {J : It} {x y : Int32} (h : TX tx n J) : TX tx n (W2 J x y) := (h.u (by omega) (by decide)).u (by omega) (by decide)
theorem W2_v8 {J : It} {x y : Int32} : W2 J x y 0 18 = x := rfl
theorem W2_v9 {J : It} {x y : Int32} : W2 J x y 0 19 = y := rfl
theorem W2_w {J : It} {x y z : Int32} : W2 (upI J 0 18 z) x y = W2 J x y := by unfold W2; rw [up_up]
theorem W2_c {J : It} {x y : Int32} : W2 J x y = upI (upI J 0 19 y) 0 18 x := by
  have h := W2_8 J (J 0 18) y x
  rw [← h]
  unfold W2
  rw [up_id rfl]
theorem W2_A {n b : Nat} {J : It} {y : Int32} (h : b ≤ n) : AT n b (W2 J (nI b) y) := ⟨rfl, h⟩
theorem let_no : ∀ j, j < 15 → lettersL.getD j 0 ≠ -1 := by decide

set_option maxRecDepth 8000 in
set_option maxHeartbeats 4000000 in
theorem q_next {G : Gt} (hG : Gok G) {I : It} {h : Ht} (hM : HM h) {tx : Nat → Int32} {n a : Nat} (hT : TX tx n I) (hA : AT n a I)  : Con G (1) 0 0 mX12_next [.ref 0] I h (rI (nxA tx n a) I h) := by
  refine con_intro (own := RX12) (lo0 := [some (.ref 0)]) hG rfl pl_X12 (Nat.le_of_ble_eq_true rfl) rfl (fun X hX => ?_)
  have hn100 := hT.2.1
  have han := hA.2
  refine g_aload_0 hX (dk DX12_next 0 rfl) ?_
  refine g_getIv hX (dk DX12_next 1 rfl) KX12 fX12_65 (by decide) rfl (MLt hM (by decide)) (MC hM) (hA.1) ?_
  refine g_aload_0 hX (dk DX12_next 2 rfl) ?_
  refine g_getIv hX (dk DX12_next 3 rfl) KX12 fX12_62 (by decide) rfl (MLt hM (by decide)) (MC hM) (hT.1) ?_
  refine g_icmp_ge (tgt := 23) hX (dk DX12_next 4 rfl) (by decide) (fun hc1 => ?_) (fun hc1 => ?_)
  · refine g_iconst (v := -1) hX (dk DX12_next 11 rfl) (by decide) ?_
    refine g_ireturn hX (dk DX12_next 12 rfl) rfl (rfl) (by decide) (by decide) ?_
    exact rI_of (by unfold nxA; first | rw [if_pos (by assumption)] | rw [if_neg (lg_le (by omega) (by omega) (by assumption))]) rfl rfl
  · have hlt := ng_lt (by omega) hc1
    refine g_aload_0 hX (dk DX12_next 5 rfl) ?_
    refine g_getRs (r := 9) hX (dk DX12_next 6 rfl) KX12 fX12_71 (by decide) rfl (MLt hM (by decide)) (MC hM) (MR hM 20 (by decide) rfl) ?_
    refine g_aload_0 hX (dk DX12_next 7 rfl) ?_
    refine g_getIv hX (dk DX12_next 8 rfl) KX12 fX12_65 (by decide) rfl (MLt hM (by decide)) (MC hM) (hA.1) ?_
    refine v_iaload hX (dk DX12_next 9 rfl) (MLt hM (q := 9) (by decide)) (MS hM 9 (by decide) rfl) (⟨rfl, by omega, by decide⟩) (hT.2.2 a hlt) ?_
    refine g_goto (tgt := 24) hX (dk DX12_next 10 rfl) (by decide) ?_
    refine g_ireturn hX (dk DX12_next 12 rfl) rfl (rfl) (by decide) (by decide) ?_
    exact rI_of (by unfold nxA; first | rw [if_pos (by assumption)] | rw [if_neg (lg_le (by omega) (by omega) (by assumption))]) rfl rfl

set_option maxRecDepth 8000 in
set_option maxHeartbeats 4000000 in
theorem q_second {G : Gt} (hG : Gok G) {I : It} {h : Ht} (hM : HM h) {tx : Nat → Int32} {n a : Nat} (hT : TX tx n I) (hA : AT n a I)  : Con G (1) 0 0 mX12_second [.ref 0] I h (rI (nxA tx n (a + 1)) I h) := by
  refine con_intro (own := RX12) (lo0 := [some (.ref 0)]) hG rfl pl_X12 (Nat.le_of_ble_eq_true rfl) rfl (fun X hX => ?_)
  have hn100 := hT.2.1
  have han := hA.2
  refine g_aload_0 hX (dk DX12_second 0 rfl) ?_
  refine g_getIv hX (dk DX12_second 1 rfl) KX12 fX12_65 (by decide) rfl (MLt hM (by decide)) (MC hM) (hA.1) ?_
  refine g_iconst (v := 1) hX (dk DX12_second 2 rfl) (by decide) ?_
  refine g_iadd hX (dk DX12_second 3 rfl) ?_
  refine g_nmI (nI (a + 1)) (nI_1 a) ?_
  refine g_aload_0 hX (dk DX12_second 4 rfl) ?_
  refine g_getIv hX (dk DX12_second 5 rfl) KX12 fX12_62 (by decide) rfl (MLt hM (by decide)) (MC hM) (hT.1) ?_
  refine g_icmp_ge (tgt := 27) hX (dk DX12_second 6 rfl) (by decide) (fun hc1 => ?_) (fun hc1 => ?_)
  · refine g_iconst (v := -1) hX (dk DX12_second 15 rfl) (by decide) ?_
    refine g_ireturn hX (dk DX12_second 16 rfl) rfl (rfl) (by decide) (by decide) ?_
    exact rI_of (by unfold nxA; first | rw [if_pos (by assumption)] | rw [if_neg (lg_le (by omega) (by omega) (by assumption))]) rfl rfl
  · have hlt := ng_lt (by omega) hc1
    refine g_aload_0 hX (dk DX12_second 7 rfl) ?_
    refine g_getRs (r := 9) hX (dk DX12_second 8 rfl) KX12 fX12_71 (by decide) rfl (MLt hM (by decide)) (MC hM) (MR hM 20 (by decide) rfl) ?_
    refine g_aload_0 hX (dk DX12_second 9 rfl) ?_
    refine g_getIv hX (dk DX12_second 10 rfl) KX12 fX12_65 (by decide) rfl (MLt hM (by decide)) (MC hM) (hA.1) ?_
    refine g_iconst (v := 1) hX (dk DX12_second 11 rfl) (by decide) ?_
    refine g_iadd hX (dk DX12_second 12 rfl) ?_
    refine g_nmI (nI (a + 1)) (nI_1 a) ?_
    refine v_iaload hX (dk DX12_second 13 rfl) (MLt hM (q := 9) (by decide)) (MS hM 9 (by decide) rfl) (⟨rfl, by omega, by decide⟩) (hT.2.2 (a + 1) hlt) ?_
    refine g_goto (tgt := 28) hX (dk DX12_second 14 rfl) (by decide) ?_
    refine g_ireturn hX (dk DX12_second 16 rfl) rfl (rfl) (by decide) (by decide) ?_
    exact rI_of (by unfold nxA; first | rw [if_pos (by assumption)] | rw [if_neg (lg_le (by omega) (by omega) (by assumption))]) rfl rfl

set_option maxRecDepth 8000 in
set_option maxHeartbeats 4000000 in
theorem q_takes {G : Gt} (hG : Gok G) {I : It} {h : Ht} (hM : HM h) {tx : Nat → Int32} {n a : Nat} (hT : TX tx n I) (hA : AT n a I) {c : Int32} : Con G (2) 0 0 mX12_takes [.ref 0, .int c] I h (rI (bI (nxA tx n a = c)) (upI I 0 18 (nI (tkA tx n a c))) h) := by
  refine con_intro (own := RX12) (lo0 := [some (.ref 0), some (.int c)]) hG rfl pl_X12 (Nat.le_of_ble_eq_true rfl) rfl (fun X hX => ?_)
  have hn100 := hT.2.1
  have han := hA.2
  refine g_aload_0 hX (dk DX12_takes 0 rfl) ?_
  refine g_c1I hX sX12_takes_1 (by decide) (Nat.le_of_ble_eq_true rfl) (rc0 rfl (MLt hM (by decide)) (MC hM)) (by decide) (by decide) (q_next hG hM hT hA) ?_
  refine g_iload_1 hX (dk DX12_takes 2 rfl) ?_
  refine g_icmp_eq (tgt := 10) hX (dk DX12_takes 3 rfl) (by decide) (fun hc1 => ?_) (fun hc1 => ?_)
  · refine g_aload_0 hX (dk DX12_takes 6 rfl) ?_
    refine g_dup hX (dk DX12_takes 7 rfl) rfl ?_
    refine g_getIv hX (dk DX12_takes 8 rfl) KX12 fX12_65 (by decide) rfl (MLt hM (by decide)) (MC hM) (hA.1) ?_
    refine g_iconst (v := 1) hX (dk DX12_takes 9 rfl) (by decide) ?_
    refine g_iadd hX (dk DX12_takes 10 rfl) ?_
    refine g_nmI (nI (a + 1)) (nI_1 a) ?_
    refine g_putI hX (dk DX12_takes 11 rfl) KX12 fX12_65 (by decide) rfl (MLt hM (by decide)) (MC hM) (Or.inl rfl) (rfl) (rfl) ?_
    refine g_iconst (v := 1) hX (dk DX12_takes 12 rfl) (by decide) ?_
    refine g_ireturn hX (dk DX12_takes 13 rfl) rfl (by decide) (by decide) (by decide) ?_
    exact rI_of (bI_t (by assumption)).symm (by unfold tkA; rw [if_pos (by assumption)]) rfl
  · refine g_iconst (v := 0) hX (dk DX12_takes 4 rfl) (by decide) ?_
    refine g_ireturn hX (dk DX12_takes 5 rfl) rfl (by decide) (by decide) (by decide) ?_
    exact rI_of (bI_f (by assumption)).symm (by unfold tkA; rw [if_neg (by assumption), up_id hA.1]) rfl

set_option maxRecDepth 8000 in
set_option maxHeartbeats 4000000 in
theorem q_takesWord {G : Gt} (hG : Gok G) {I : It} {h : Ht} (hM : HM h) {tx : Nat → Int32} {n a : Nat} (hT : TX tx n I) (hA : AT n a I) {f m : Nat} (hfm : f + m ≤ 15) (hL : ∀ j, j < 15 → I 17 j = lettersL.getD j 0) : Con G (3) 0 0 mX12_takesWord [.ref 0, .int (nI f), .int (nI m)] I h (rI (bI ((twA tx n f m 0 a).1 = true)) (upI I 0 18 (nI (twA tx n f m 0 a).2)) h) := by
  refine con_intro (own := RX12) (lo0 := [some (.ref 0), some (.int (nI f)), some (.int (nI m)), none]) hG rfl pl_X12 (Nat.le_of_ble_eq_true rfl) rfl (fun X hX => ?_)
  have hn100 := hT.2.1
  have han := hA.2
  have loop2 : ∀ (r k b : Nat), k + r = m → b ≤ n → twA tx n f r k b = twA tx n f m 0 a → GG G (3) 0 0 X (rI (bI ((twA tx n f m 0 a).1 = true)) (upI I 0 18 (nI (twA tx n f m 0 a).2)) h) 2 [some (.ref 0), some (.int (nI f)), some (.int (nI m)), some (.int (nI k))] [] ((upI I 0 18 (nI b))) (h) 0 0 := by
    intro r
    induction r using Nat.strongRecOn with | _ r ih => ?_
    intro k b hk hb hv
    refine g_iload_3 hX (dk DX12_takesWord 2 rfl) ?_
    refine g_iload_2 hX (dk DX12_takesWord 3 rfl) ?_
    refine g_icmp_ge (tgt := 30) hX (dk DX12_takesWord 4 rfl) (by decide) (fun hc1 => ?_) (fun hc1 => ?_)
    · refine g_aload_0 hX (dk DX12_takesWord 18 rfl) ?_
      refine g_bipush (v := 32) hX (dk DX12_takesWord 19 rfl) (by decide) ?_
      refine g_c2I hX sX12_takesWord_33 (by decide) (Nat.le_of_ble_eq_true rfl) (rc0 rfl (MLt hM (by decide)) (MC hM)) (by decide) (by decide) (q_takes hG hM hT.w (AT.w hb)) ?_
      rw [up_up]
      refine g_ireturn hX (dk DX12_takesWord 21 rfl) rfl (narB _) (by decide) (by decide) ?_
      have hk0 := ct_end hk (by omega) hc1
      subst hk0
      have hst : twA tx n f m 0 a = (decide (nxA tx n b = 32), tkA tx n b 32) := by rw [← hv]; rfl
      exact rI_of (by rw [hst]; exact bI_iff decide_eq_true_iff.symm) (by rw [hst]) rfl
    · obtain ⟨r, rfl⟩ := ct_go hk (by omega) hc1
      refine g_aload_0 hX (dk DX12_takesWord 5 rfl) ?_
      refine g_aload_0 hX (dk DX12_takesWord 6 rfl) ?_
      refine g_getRs (r := 17) hX (dk DX12_takesWord 7 rfl) KX12 fX12_104 (by decide) rfl (MLt hM (by decide)) (MC hM) (MR hM 31 (by decide) rfl) ?_
      refine g_iload_1 hX (dk DX12_takesWord 8 rfl) ?_
      refine g_iload_3 hX (dk DX12_takesWord 9 rfl) ?_
      refine g_iadd hX (dk DX12_takesWord 10 rfl) ?_
      refine g_nmI (nI (f + k)) (nI_add _ _) ?_
      refine v_iaload hX (dk DX12_takesWord 11 rfl) (MLt hM (q := 17) (by decide)) (MS hM 17 (by decide) rfl) (⟨rfl, by omega, by decide⟩) ((show _ = lettersL.getD (f + k) 0 from hL _ (by omega))) ?_
      refine g_c2I hX sX12_takesWord_16 (by decide) (Nat.le_of_ble_eq_true rfl) (rc0 rfl (MLt hM (by decide)) (MC hM)) (by decide) (by decide) (q_takes hG hM hT.w (AT.w hb)) ?_
      rw [up_up]
      refine g_ifb_ne (tgt := 24) hX (dk DX12_takesWord 13 rfl) (by decide) (fun hc2 => ?_) (fun hc2 => ?_)
      · refine g_iinc_3 hX (dk DX12_takesWord 16 rfl) (nI_1 k) (by decide) rfl ?_
        refine g_goto (tgt := 2) hX (dk DX12_takesWord 17 rfl) (by decide) ?_
        have e : tkA tx n b (lettersL.getD (f + k) 0) = b + 1 := if_pos (by assumption)
        rw [e]
        exact g_fgt (ih r (by omega) (k + 1) (b + 1) (by omega) (nxA_no (X := tx) (let_no (f + k) (by omega)) (by assumption)) (by rw [← hv, twA_s, if_pos (by assumption)])) ⟨rfl, rfl, rfl, rfl, trivial⟩
      · refine g_iconst (v := 0) hX (dk DX12_takesWord 14 rfl) (by decide) ?_
        refine g_ireturn hX (dk DX12_takesWord 15 rfl) rfl (by decide) (by decide) (by decide) ?_
        have e : tkA tx n b (lettersL.getD (f + k) 0) = b := if_neg (by assumption)
        rw [e]
        have hst : twA tx n f m 0 a = (false, b) := by rw [← hv, twA_s, if_neg (by assumption)]
        exact rI_of (by rw [hst]; rfl) (by rw [hst]) rfl
  refine g_iconst (v := 0) hX (dk DX12_takesWord 0 rfl) (by decide) ?_
  refine g_istore_3 hX (dk DX12_takesWord 1 rfl) (by decide) rfl ?_
  refine g_gen (fun W eW => ?_)
  have eW2 : W = upI I 0 18 (nI a) := eW.trans (up_id hA.1).symm
  subst eW2
  exact g_fgt (loop2 m 0 a (Nat.zero_add _) han rfl) ⟨rfl, rfl, rfl, rfl, trivial⟩

set_option maxRecDepth 8000 in
set_option maxHeartbeats 4000000 in
theorem q_isDigit {G : Gt} (hG : Gok G) {I : It} {h : Ht} (hM : HM h) {tx : Nat → Int32} {n a : Nat} (hT : TX tx n I) (hA : AT n a I)  : Con G (2) 0 0 mX12_isDigit [.ref 0] I h (rI (bI (dgA tx n a)) I h) := by
  refine con_intro (own := RX12) (lo0 := [some (.ref 0)]) hG rfl pl_X12 (Nat.le_of_ble_eq_true rfl) rfl (fun X hX => ?_)
  have hn100 := hT.2.1
  have han := hA.2
  refine g_aload_0 hX (dk DX12_isDigit 0 rfl) ?_
  refine g_aload_0 hX (dk DX12_isDigit 1 rfl) ?_
  refine g_c1I hX sX12_isDigit_2 (by decide) (Nat.le_of_ble_eq_true rfl) (rc0 rfl (MLt hM (by decide)) (MC hM)) (by decide) (by decide) (q_next hG hM hT hA) ?_
  refine g_bipush (v := 48) hX (dk DX12_isDigit 3 rfl) (by decide) ?_
  refine g_bipush (v := 57) hX (dk DX12_isDigit 4 rfl) (by decide) ?_
  refine g_c4I hX sX12_isDigit_9 (by decide) (Nat.le_of_ble_eq_true rfl) (rc0 rfl (MLt hM (by decide)) (MC hM)) (by decide) (by decide) (c_X12_in hG) ?_
  refine g_ireturn hX (dk DX12_isDigit 6 rfl) rfl (narB _) (by decide) (by decide) ?_
  exact rI_of rfl rfl rfl

set_option maxRecDepth 8000 in
set_option maxHeartbeats 4000000 in
theorem q_takesNumber {G : Gt} (hG : Gok G) {I : It} {h : Ht} (hM : HM h) {tx : Nat → Int32} {n a : Nat} (hT : TX tx n I) (hA : AT n a I)  : Con G (3) 0 0 mX12_takesNumber [.ref 0] I h (qI (fun v J h2 => h2 = h ∧ v = bI (dgA tx n a) ∧ J = if dgA tx n a then W2 I (nI (nuA tx n a)) (nvA tx n a) else I)) := by
  refine con_intro (own := RX12) (lo0 := [some (.ref 0), none]) hG rfl pl_X12 (Nat.le_of_ble_eq_true rfl) rfl (fun X hX => ?_)
  have hn100 := hT.2.1
  have han := hA.2
  refine g_aload_0 hX (dk DX12_takesNumber 0 rfl) ?_
  refine g_c1I hX sX12_takesNumber_1 (by decide) (Nat.le_of_ble_eq_true rfl) (rc0 rfl (MLt hM (by decide)) (MC hM)) (by decide) (by decide) (q_isDigit hG hM hT hA) ?_
  refine g_ifb_ne (tgt := 9) hX (dk DX12_takesNumber 2 rfl) (by decide) (fun hc1 => ?_) (fun hc1 => ?_)
  · have hd0 := hc1
    have hlt := dgA_lt hc1
    refine g_aload_0 hX (dk DX12_takesNumber 5 rfl) ?_
    refine g_iconst (v := 0) hX (dk DX12_takesNumber 6 rfl) (by decide) ?_
    refine g_putI hX (dk DX12_takesNumber 7 rfl) KX12 fX12_68 (by decide) rfl (MLt hM (by decide)) (MC hM) (Or.inl rfl) (rfl) (rfl) ?_
    rw [W2_i hA.1]
    refine g_iconst (v := 0) hX (dk DX12_takesNumber 8 rfl) (by decide) ?_
    refine g_istore_1 hX (dk DX12_takesNumber 9 rfl) (by decide) rfl ?_
    refine g_iload_1 hX (dk DX12_takesNumber 10 rfl) ?_
    refine g_iconst (v := 2) hX (dk DX12_takesNumber 11 rfl) (by decide) ?_
    refine g_icmp_ge (tgt := 63) hX (dk DX12_takesNumber 12 rfl) (by decide) (fun hc2 => absurd hc2 (by decide)) (fun hc2 => ?_)
    refine g_aload_0 hX (dk DX12_takesNumber 13 rfl) ?_
    refine g_c1I hX sX12_takesNumber_22 (by decide) (Nat.le_of_ble_eq_true rfl) (rc0 rfl (MLt hM (by decide)) (MC hM)) (by decide) (by decide) (q_isDigit hG hM (W2_T hT) (W2_A (by omega))) ?_
    refine g_ifb_eq (tgt := 63) hX (dk DX12_takesNumber 15 rfl) (by decide) (fun hc3 => ?_) (fun hc3 => ?_)
    · refine g_iconst (v := 1) hX (dk DX12_takesNumber 35 rfl) (by decide) ?_
      refine g_ireturn hX (dk DX12_takesNumber 36 rfl) rfl (by decide) (by decide) (by decide) ?_
      first
      | exact absurd hd0 (by assumption)
      | exact qI_of ⟨rfl, (bI_t hd0).symm, by rw [if_pos hd0]; unfold nuA nvA; rw [if_pos hd0]; (try first | rw [if_pos hc1] | rw [if_neg hc1] | rw [if_neg (not_not_intro hc1)]); (try first | rw [if_pos hc2] | rw [if_neg hc2] | rw [if_neg (not_not_intro hc2)]); (try first | rw [if_pos hc3] | rw [if_neg hc3] | rw [if_neg (not_not_intro hc3)]); (try first | rw [if_pos hc1] | rw [if_neg hc1] | rw [if_neg (not_not_intro hc1)]); (try first | rw [if_pos hc2] | rw [if_neg hc2] | rw [if_neg (not_not_intro hc2)]); (try first | rw [if_pos hc3] | rw [if_neg hc3] | rw [if_neg (not_not_intro hc3)]); first | done | rfl⟩
    · refine g_aload_0 hX (dk DX12_takesNumber 16 rfl) ?_
      refine g_bipush (v := 10) hX (dk DX12_takesNumber 17 rfl) (by decide) ?_
      refine g_aload_0 hX (dk DX12_takesNumber 18 rfl) ?_
      refine g_getIv hX (dk DX12_takesNumber 19 rfl) KX12 fX12_68 (by decide) rfl (MLt hM (by decide)) (MC hM) (W2_v9) ?_
      refine g_imul hX (dk DX12_takesNumber 20 rfl) ?_
      refine g_aload_0 hX (dk DX12_takesNumber 21 rfl) ?_
      refine g_c1I hX sX12_takesNumber_37 (by decide) (Nat.le_of_ble_eq_true rfl) (rc0 rfl (MLt hM (by decide)) (MC hM)) (by decide) (by decide) (q_next hG hM (W2_T hT) (W2_A (by omega))) ?_
      refine g_iadd hX (dk DX12_takesNumber 23 rfl) ?_
      refine g_bipush (v := 48) hX (dk DX12_takesNumber 24 rfl) (by decide) ?_
      refine g_isub hX (dk DX12_takesNumber 25 rfl) ?_
      refine g_putI hX (dk DX12_takesNumber 26 rfl) KX12 fX12_68 (by decide) rfl (MLt hM (by decide)) (MC hM) (Or.inl rfl) (rfl) (rfl) ?_
      rw [W2_9]
      refine g_aload_0 hX (dk DX12_takesNumber 27 rfl) ?_
      refine g_dup hX (dk DX12_takesNumber 28 rfl) rfl ?_
      refine g_getIv hX (dk DX12_takesNumber 29 rfl) KX12 fX12_65 (by decide) rfl (MLt hM (by decide)) (MC hM) (W2_v8) ?_
      refine g_iconst (v := 1) hX (dk DX12_takesNumber 30 rfl) (by decide) ?_
      refine g_iadd hX (dk DX12_takesNumber 31 rfl) ?_
      refine g_nmI _ (nI_1 _) ?_
      refine g_putI hX (dk DX12_takesNumber 32 rfl) KX12 fX12_65 (by decide) rfl (MLt hM (by decide)) (MC hM) (Or.inl rfl) (rfl) (rfl) ?_
      rw [W2_8]
      refine g_iinc_1 (v := 1) hX (dk DX12_takesNumber 33 rfl) (by decide) (by decide) rfl ?_
      refine g_goto (tgt := 16) hX (dk DX12_takesNumber 34 rfl) (by decide) ?_
      refine g_iload_1 hX (dk DX12_takesNumber 10 rfl) ?_
      refine g_iconst (v := 2) hX (dk DX12_takesNumber 11 rfl) (by decide) ?_
      refine g_icmp_ge (tgt := 63) hX (dk DX12_takesNumber 12 rfl) (by decide) (fun hc4 => absurd hc4 (by decide)) (fun hc4 => ?_)
      refine g_aload_0 hX (dk DX12_takesNumber 13 rfl) ?_
      refine g_c1I hX sX12_takesNumber_22 (by decide) (Nat.le_of_ble_eq_true rfl) (rc0 rfl (MLt hM (by decide)) (MC hM)) (by decide) (by decide) (q_isDigit hG hM (W2_T hT) (W2_A (by omega))) ?_
      refine g_ifb_eq (tgt := 63) hX (dk DX12_takesNumber 15 rfl) (by decide) (fun hc5 => ?_) (fun hc5 => ?_)
      · refine g_iconst (v := 1) hX (dk DX12_takesNumber 35 rfl) (by decide) ?_
        refine g_ireturn hX (dk DX12_takesNumber 36 rfl) rfl (by decide) (by decide) (by decide) ?_
        first
        | exact absurd hd0 (by assumption)
        | exact qI_of ⟨rfl, (bI_t hd0).symm, by rw [if_pos hd0]; unfold nuA nvA; rw [if_pos hd0]; (try first | rw [if_pos hc1] | rw [if_neg hc1] | rw [if_neg (not_not_intro hc1)]); (try first | rw [if_pos hc2] | rw [if_neg hc2] | rw [if_neg (not_not_intro hc2)]); (try first | rw [if_pos hc3] | rw [if_neg hc3] | rw [if_neg (not_not_intro hc3)]); (try first | rw [if_pos hc4] | rw [if_neg hc4] | rw [if_neg (not_not_intro hc4)]); (try first | rw [if_pos hc5] | rw [if_neg hc5] | rw [if_neg (not_not_intro hc5)]); (try first | rw [if_pos hc1] | rw [if_neg hc1] | rw [if_neg (not_not_intro hc1)]); (try first | rw [if_pos hc2] | rw [if_neg hc2] | rw [if_neg (not_not_intro hc2)]); (try first | rw [if_pos hc3] | rw [if_neg hc3] | rw [if_neg (not_not_intro hc3)]); (try first | rw [if_pos hc4] | rw [if_neg hc4] | rw [if_neg (not_not_intro hc4)]); (try first | rw [if_pos hc5] | rw [if_neg hc5] | rw [if_neg (not_not_intro hc5)]); first | done | rfl⟩
      · refine g_aload_0 hX (dk DX12_takesNumber 16 rfl) ?_
        refine g_bipush (v := 10) hX (dk DX12_takesNumber 17 rfl) (by decide) ?_
        refine g_aload_0 hX (dk DX12_takesNumber 18 rfl) ?_
        refine g_getIv hX (dk DX12_takesNumber 19 rfl) KX12 fX12_68 (by decide) rfl (MLt hM (by decide)) (MC hM) (W2_v9) ?_
        refine g_imul hX (dk DX12_takesNumber 20 rfl) ?_
        refine g_aload_0 hX (dk DX12_takesNumber 21 rfl) ?_
        refine g_c1I hX sX12_takesNumber_37 (by decide) (Nat.le_of_ble_eq_true rfl) (rc0 rfl (MLt hM (by decide)) (MC hM)) (by decide) (by decide) (q_next hG hM (W2_T hT) (W2_A (by omega))) ?_
        refine g_iadd hX (dk DX12_takesNumber 23 rfl) ?_
        refine g_bipush (v := 48) hX (dk DX12_takesNumber 24 rfl) (by decide) ?_
        refine g_isub hX (dk DX12_takesNumber 25 rfl) ?_
        refine g_putI hX (dk DX12_takesNumber 26 rfl) KX12 fX12_68 (by decide) rfl (MLt hM (by decide)) (MC hM) (Or.inl rfl) (rfl) (rfl) ?_
        rw [W2_9]
        refine g_aload_0 hX (dk DX12_takesNumber 27 rfl) ?_
        refine g_dup hX (dk DX12_takesNumber 28 rfl) rfl ?_
        refine g_getIv hX (dk DX12_takesNumber 29 rfl) KX12 fX12_65 (by decide) rfl (MLt hM (by decide)) (MC hM) (W2_v8) ?_
        refine g_iconst (v := 1) hX (dk DX12_takesNumber 30 rfl) (by decide) ?_
        refine g_iadd hX (dk DX12_takesNumber 31 rfl) ?_
        refine g_nmI _ (nI_1 _) ?_
        refine g_putI hX (dk DX12_takesNumber 32 rfl) KX12 fX12_65 (by decide) rfl (MLt hM (by decide)) (MC hM) (Or.inl rfl) (rfl) (rfl) ?_
        rw [W2_8]
        refine g_iinc_1 (v := 2) hX (dk DX12_takesNumber 33 rfl) (by decide) (by decide) rfl ?_
        refine g_goto (tgt := 16) hX (dk DX12_takesNumber 34 rfl) (by decide) ?_
        refine g_iload_1 hX (dk DX12_takesNumber 10 rfl) ?_
        refine g_iconst (v := 2) hX (dk DX12_takesNumber 11 rfl) (by decide) ?_
        refine g_icmp_ge (tgt := 63) hX (dk DX12_takesNumber 12 rfl) (by decide) (fun hc6 => ?_) (fun hc6 => absurd (by decide) hc6)
        refine g_iconst (v := 1) hX (dk DX12_takesNumber 35 rfl) (by decide) ?_
        refine g_ireturn hX (dk DX12_takesNumber 36 rfl) rfl (by decide) (by decide) (by decide) ?_
        first
        | exact absurd hd0 (by assumption)
        | exact qI_of ⟨rfl, (bI_t hd0).symm, by rw [if_pos hd0]; unfold nuA nvA; rw [if_pos hd0]; (try first | rw [if_pos hc1] | rw [if_neg hc1] | rw [if_neg (not_not_intro hc1)]); (try first | rw [if_pos hc2] | rw [if_neg hc2] | rw [if_neg (not_not_intro hc2)]); (try first | rw [if_pos hc3] | rw [if_neg hc3] | rw [if_neg (not_not_intro hc3)]); (try first | rw [if_pos hc4] | rw [if_neg hc4] | rw [if_neg (not_not_intro hc4)]); (try first | rw [if_pos hc5] | rw [if_neg hc5] | rw [if_neg (not_not_intro hc5)]); (try first | rw [if_pos hc6] | rw [if_neg hc6] | rw [if_neg (not_not_intro hc6)]); (try first | rw [if_pos hc1] | rw [if_neg hc1] | rw [if_neg (not_not_intro hc1)]); (try first | rw [if_pos hc2] | rw [if_neg hc2] | rw [if_neg (not_not_intro hc2)]); (try first | rw [if_pos hc3] | rw [if_neg hc3] | rw [if_neg (not_not_intro hc3)]); (try first | rw [if_pos hc4] | rw [if_neg hc4] | rw [if_neg (not_not_intro hc4)]); (try first | rw [if_pos hc5] | rw [if_neg hc5] | rw [if_neg (not_not_intro hc5)]); (try first | rw [if_pos hc6] | rw [if_neg hc6] | rw [if_neg (not_not_intro hc6)]); first | done | rfl⟩
  · refine g_iconst (v := 0) hX (dk DX12_takesNumber 3 rfl) (by decide) ?_
    refine g_ireturn hX (dk DX12_takesNumber 4 rfl) rfl (by decide) (by decide) (by decide) ?_
    exact qI_of ⟨rfl, (bI_f (by assumption)).symm, (if_neg (by assumption)).symm⟩
end
