set_option maxRecDepth 8000 in
set_option maxHeartbeats 4000000 in
theorem cv11_isOfKind_1 {G : Gt} (hG : Gok G) {I : It} {h : Ht}  {q : Nat} {k : Int32} (hq : q < hn h) (hcl : (hs h q).1 = 1) : Con G (1) 0 0 mX11_isOfKind [.ref q, .int k] I h (rI (ikC 1 k) I h) := by
  refine con_intro (own := RX11) (lo0 := [some (.ref q), some (.int k)]) hG rfl pl_X11 (Nat.le_of_ble_eq_true rfl) rfl (fun X hX => ?_)
  refine g_iload_1 hX (dk DX11_isOfKind 0 rfl) ?_
  refine g_tswitch (dt := 67) hX [(0, 40), (1, 42), (2, 47), (3, 52), (4, 57), (5, 62)] (dk DX11_isOfKind 1 rfl) (by decide +kernel) ?_
  refine ⟨fun hc1 => ?_, fun hc1n => ?_⟩
  · show GG _ _ _ _ _ _ _ _ _ _ _ _ _
    refine g_iconst (v := 1) hX (dk DX11_isOfKind 2 rfl) (by decide) ?_
    refine g_ireturn hX (dk DX11_isOfKind 3 rfl) rfl (by decide) (by decide) (by decide) ?_
    exact rI_of (by unfold ikC; (try first | rw [if_pos hc1] | rw [if_neg hc1] | rw [if_neg (not_not_intro hc1)]); first | done | rfl | decide) rfl rfl
  refine ⟨fun hc2 => ?_, fun hc2n => ?_⟩
  · show GG _ _ _ _ _ _ _ _ _ _ _ _ _
    refine g_aload_0 hX (dk DX11_isOfKind 4 rfl) ?_
    refine g_inst (b := 0) hX (dk DX11_isOfKind 5 rfl) KX1 (tg_2 35 rfl rfl) hq hcl (Or.inr ⟨rfl, List.mem_of_getElem? (i := 4) rfl⟩) ?_
    refine g_ireturn hX (dk DX11_isOfKind 6 rfl) rfl (by decide) (by decide) (by decide) ?_
    exact rI_of (by unfold ikC; (try first | rw [if_pos hc1n] | rw [if_neg hc1n] | rw [if_neg (not_not_intro hc1n)]); (try first | rw [if_pos hc2] | rw [if_neg hc2] | rw [if_neg (not_not_intro hc2)]); first | done | rfl | decide) rfl rfl
  refine ⟨fun hc3 => ?_, fun hc3n => ?_⟩
  · show GG _ _ _ _ _ _ _ _ _ _ _ _ _
    refine g_aload_0 hX (dk DX11_isOfKind 7 rfl) ?_
    refine g_inst (b := 0) hX (dk DX11_isOfKind 8 rfl) KX1 (tg_2 93 rfl rfl) hq hcl (Or.inr ⟨rfl, List.mem_of_getElem? (i := 9) rfl⟩) ?_
    refine g_ireturn hX (dk DX11_isOfKind 9 rfl) rfl (by decide) (by decide) (by decide) ?_
    exact rI_of (by unfold ikC; (try first | rw [if_pos hc1n] | rw [if_neg hc1n] | rw [if_neg (not_not_intro hc1n)]); (try first | rw [if_pos hc2n] | rw [if_neg hc2n] | rw [if_neg (not_not_intro hc2n)]); (try first | rw [if_pos hc3] | rw [if_neg hc3] | rw [if_neg (not_not_intro hc3)]); first | done | rfl | decide) rfl rfl
  refine ⟨fun hc4 => ?_, fun hc4n => ?_⟩
  · show GG _ _ _ _ _ _ _ _ _ _ _ _ _
    refine g_aload_0 hX (dk DX11_isOfKind 10 rfl) ?_
    refine g_inst (b := 0) hX (dk DX11_isOfKind 11 rfl) KX1 (tg_2 106 rfl rfl) hq hcl (Or.inr ⟨rfl, List.mem_of_getElem? (i := 14) rfl⟩) ?_
    refine g_ireturn hX (dk DX11_isOfKind 12 rfl) rfl (by decide) (by decide) (by decide) ?_
    exact rI_of (by unfold ikC; (try first | rw [if_pos hc1n] | rw [if_neg hc1n] | rw [if_neg (not_not_intro hc1n)]); (try first | rw [if_pos hc2n] | rw [if_neg hc2n] | rw [if_neg (not_not_intro hc2n)]); (try first | rw [if_pos hc3n] | rw [if_neg hc3n] | rw [if_neg (not_not_intro hc3n)]); (try first | rw [if_pos hc4] | rw [if_neg hc4] | rw [if_neg (not_not_intro hc4)]); first | done | rfl | decide) rfl rfl
  refine ⟨fun hc5 => ?_, fun hc5n => ?_⟩
  · show GG _ _ _ _ _ _ _ _ _ _ _ _ _
    refine g_aload_0 hX (dk DX11_isOfKind 13 rfl) ?_
    refine g_inst (b := 0) hX (dk DX11_isOfKind 14 rfl) KX1 (tg_2 119 rfl rfl) hq hcl (Or.inr ⟨rfl, List.mem_of_getElem? (i := 20) rfl⟩) ?_
    refine g_ireturn hX (dk DX11_isOfKind 15 rfl) rfl (by decide) (by decide) (by decide) ?_
    exact rI_of (by unfold ikC; (try first | rw [if_pos hc1n] | rw [if_neg hc1n] | rw [if_neg (not_not_intro hc1n)]); (try first | rw [if_pos hc2n] | rw [if_neg hc2n] | rw [if_neg (not_not_intro hc2n)]); (try first | rw [if_pos hc3n] | rw [if_neg hc3n] | rw [if_neg (not_not_intro hc3n)]); (try first | rw [if_pos hc4n] | rw [if_neg hc4n] | rw [if_neg (not_not_intro hc4n)]); (try first | rw [if_pos hc5] | rw [if_neg hc5] | rw [if_neg (not_not_intro hc5)]); first | done | rfl | decide) rfl rfl
  refine ⟨fun hc6 => ?_, fun hc6n => ?_⟩
  · show GG _ _ _ _ _ _ _ _ _ _ _ _ _
    refine g_aload_0 hX (dk DX11_isOfKind 16 rfl) ?_
    refine g_inst (b := 0) hX (dk DX11_isOfKind 17 rfl) KX1 (tg_2 132 rfl rfl) hq hcl (Or.inr ⟨rfl, List.mem_of_getElem? (i := 26) rfl⟩) ?_
    refine g_ireturn hX (dk DX11_isOfKind 18 rfl) rfl (by decide) (by decide) (by decide) ?_
    exact rI_of (by unfold ikC; (try first | rw [if_pos hc1n] | rw [if_neg hc1n] | rw [if_neg (not_not_intro hc1n)]); (try first | rw [if_pos hc2n] | rw [if_neg hc2n] | rw [if_neg (not_not_intro hc2n)]); (try first | rw [if_pos hc3n] | rw [if_neg hc3n] | rw [if_neg (not_not_intro hc3n)]); (try first | rw [if_pos hc4n] | rw [if_neg hc4n] | rw [if_neg (not_not_intro hc4n)]); (try first | rw [if_pos hc5n] | rw [if_neg hc5n] | rw [if_neg (not_not_intro hc5n)]); (try first | rw [if_pos hc6] | rw [if_neg hc6] | rw [if_neg (not_not_intro hc6)]); first | done | rfl | decide) rfl rfl
  show GG _ _ _ _ _ _ _ _ _ _ _ _ _
  refine g_aload_0 hX (dk DX11_isOfKind 19 rfl) ?_
  refine g_inst (b := 0) hX (dk DX11_isOfKind 20 rfl) KX1 (tg_2 145 rfl rfl) hq hcl (Or.inr ⟨rfl, List.mem_of_getElem? (i := 32) rfl⟩) ?_
  refine g_ireturn hX (dk DX11_isOfKind 21 rfl) rfl (by decide) (by decide) (by decide) ?_
  exact rI_of (by unfold ikC; (try first | rw [if_pos hc1n] | rw [if_neg hc1n] | rw [if_neg (not_not_intro hc1n)]); (try first | rw [if_pos hc2n] | rw [if_neg hc2n] | rw [if_neg (not_not_intro hc2n)]); (try first | rw [if_pos hc3n] | rw [if_neg hc3n] | rw [if_neg (not_not_intro hc3n)]); (try first | rw [if_pos hc4n] | rw [if_neg hc4n] | rw [if_neg (not_not_intro hc4n)]); (try first | rw [if_pos hc5n] | rw [if_neg hc5n] | rw [if_neg (not_not_intro hc5n)]); (try first | rw [if_pos hc6n] | rw [if_neg hc6n] | rw [if_neg (not_not_intro hc6n)]); first | done | rfl | decide) rfl rfl

set_option maxRecDepth 8000 in
set_option maxHeartbeats 4000000 in
theorem cv11_isOfKind_2 {G : Gt} (hG : Gok G) {I : It} {h : Ht}  {q : Nat} {k : Int32} (hq : q < hn h) (hcl : (hs h q).1 = 2) : Con G (1) 0 0 mX11_isOfKind [.ref q, .int k] I h (rI (ikC 2 k) I h) := by
  refine con_intro (own := RX11) (lo0 := [some (.ref q), some (.int k)]) hG rfl pl_X11 (Nat.le_of_ble_eq_true rfl) rfl (fun X hX => ?_)
  refine g_iload_1 hX (dk DX11_isOfKind 0 rfl) ?_
  refine g_tswitch (dt := 67) hX [(0, 40), (1, 42), (2, 47), (3, 52), (4, 57), (5, 62)] (dk DX11_isOfKind 1 rfl) (by decide +kernel) ?_
  refine ⟨fun hc1 => ?_, fun hc1n => ?_⟩
  · show GG _ _ _ _ _ _ _ _ _ _ _ _ _
    refine g_iconst (v := 1) hX (dk DX11_isOfKind 2 rfl) (by decide) ?_
    refine g_ireturn hX (dk DX11_isOfKind 3 rfl) rfl (by decide) (by decide) (by decide) ?_
    exact rI_of (by unfold ikC; (try first | rw [if_pos hc1] | rw [if_neg hc1] | rw [if_neg (not_not_intro hc1)]); first | done | rfl | decide) rfl rfl
  refine ⟨fun hc2 => ?_, fun hc2n => ?_⟩
  · show GG _ _ _ _ _ _ _ _ _ _ _ _ _
    refine g_aload_0 hX (dk DX11_isOfKind 4 rfl) ?_
    refine g_inst (b := 0) hX (dk DX11_isOfKind 5 rfl) KX2 (tg_2 35 rfl rfl) hq hcl (Or.inr ⟨rfl, List.mem_of_getElem? (i := 0) rfl⟩) ?_
    refine g_ireturn hX (dk DX11_isOfKind 6 rfl) rfl (by decide) (by decide) (by decide) ?_
    exact rI_of (by unfold ikC; (try first | rw [if_pos hc1n] | rw [if_neg hc1n] | rw [if_neg (not_not_intro hc1n)]); (try first | rw [if_pos hc2] | rw [if_neg hc2] | rw [if_neg (not_not_intro hc2)]); first | done | rfl | decide) rfl rfl
  refine ⟨fun hc3 => ?_, fun hc3n => ?_⟩
  · show GG _ _ _ _ _ _ _ _ _ _ _ _ _
    refine g_aload_0 hX (dk DX11_isOfKind 7 rfl) ?_
    refine g_inst (b := 1) hX (dk DX11_isOfKind 8 rfl) KX2 (tg_2 93 rfl rfl) hq hcl (Or.inl ⟨rfl, Or.inl rfl⟩) ?_
    refine g_ireturn hX (dk DX11_isOfKind 9 rfl) rfl (by decide) (by decide) (by decide) ?_
    exact rI_of (by unfold ikC; (try first | rw [if_pos hc1n] | rw [if_neg hc1n] | rw [if_neg (not_not_intro hc1n)]); (try first | rw [if_pos hc2n] | rw [if_neg hc2n] | rw [if_neg (not_not_intro hc2n)]); (try first | rw [if_pos hc3] | rw [if_neg hc3] | rw [if_neg (not_not_intro hc3)]); first | done | rfl | decide) rfl rfl
  refine ⟨fun hc4 => ?_, fun hc4n => ?_⟩
  · show GG _ _ _ _ _ _ _ _ _ _ _ _ _
    refine g_aload_0 hX (dk DX11_isOfKind 10 rfl) ?_
    refine g_inst (b := 0) hX (dk DX11_isOfKind 11 rfl) KX2 (tg_2 106 rfl rfl) hq hcl (Or.inr ⟨rfl, List.mem_of_getElem? (i := 11) rfl⟩) ?_
    refine g_ireturn hX (dk DX11_isOfKind 12 rfl) rfl (by decide) (by decide) (by decide) ?_
    exact rI_of (by unfold ikC; (try first | rw [if_pos hc1n] | rw [if_neg hc1n] | rw [if_neg (not_not_intro hc1n)]); (try first | rw [if_pos hc2n] | rw [if_neg hc2n] | rw [if_neg (not_not_intro hc2n)]); (try first | rw [if_pos hc3n] | rw [if_neg hc3n] | rw [if_neg (not_not_intro hc3n)]); (try first | rw [if_pos hc4] | rw [if_neg hc4] | rw [if_neg (not_not_intro hc4)]); first | done | rfl | decide) rfl rfl
  refine ⟨fun hc5 => ?_, fun hc5n => ?_⟩
  · show GG _ _ _ _ _ _ _ _ _ _ _ _ _
    refine g_aload_0 hX (dk DX11_isOfKind 13 rfl) ?_
    refine g_inst (b := 0) hX (dk DX11_isOfKind 14 rfl) KX2 (tg_2 119 rfl rfl) hq hcl (Or.inr ⟨rfl, List.mem_of_getElem? (i := 16) rfl⟩) ?_
    refine g_ireturn hX (dk DX11_isOfKind 15 rfl) rfl (by decide) (by decide) (by decide) ?_
    exact rI_of (by unfold ikC; (try first | rw [if_pos hc1n] | rw [if_neg hc1n] | rw [if_neg (not_not_intro hc1n)]); (try first | rw [if_pos hc2n] | rw [if_neg hc2n] | rw [if_neg (not_not_intro hc2n)]); (try first | rw [if_pos hc3n] | rw [if_neg hc3n] | rw [if_neg (not_not_intro hc3n)]); (try first | rw [if_pos hc4n] | rw [if_neg hc4n] | rw [if_neg (not_not_intro hc4n)]); (try first | rw [if_pos hc5] | rw [if_neg hc5] | rw [if_neg (not_not_intro hc5)]); first | done | rfl | decide) rfl rfl
  refine ⟨fun hc6 => ?_, fun hc6n => ?_⟩
  · show GG _ _ _ _ _ _ _ _ _ _ _ _ _
    refine g_aload_0 hX (dk DX11_isOfKind 16 rfl) ?_
    refine g_inst (b := 0) hX (dk DX11_isOfKind 17 rfl) KX2 (tg_2 132 rfl rfl) hq hcl (Or.inr ⟨rfl, List.mem_of_getElem? (i := 22) rfl⟩) ?_
    refine g_ireturn hX (dk DX11_isOfKind 18 rfl) rfl (by decide) (by decide) (by decide) ?_
    exact rI_of (by unfold ikC; (try first | rw [if_pos hc1n] | rw [if_neg hc1n] | rw [if_neg (not_not_intro hc1n)]); (try first | rw [if_pos hc2n] | rw [if_neg hc2n] | rw [if_neg (not_not_intro hc2n)]); (try first | rw [if_pos hc3n] | rw [if_neg hc3n] | rw [if_neg (not_not_intro hc3n)]); (try first | rw [if_pos hc4n] | rw [if_neg hc4n] | rw [if_neg (not_not_intro hc4n)]); (try first | rw [if_pos hc5n] | rw [if_neg hc5n] | rw [if_neg (not_not_intro hc5n)]); (try first | rw [if_pos hc6] | rw [if_neg hc6] | rw [if_neg (not_not_intro hc6)]); first | done | rfl | decide) rfl rfl
  show GG _ _ _ _ _ _ _ _ _ _ _ _ _
  refine g_aload_0 hX (dk DX11_isOfKind 19 rfl) ?_
  refine g_inst (b := 0) hX (dk DX11_isOfKind 20 rfl) KX2 (tg_2 145 rfl rfl) hq hcl (Or.inr ⟨rfl, List.mem_of_getElem? (i := 28) rfl⟩) ?_
  refine g_ireturn hX (dk DX11_isOfKind 21 rfl) rfl (by decide) (by decide) (by decide) ?_
  exact rI_of (by unfold ikC; (try first | rw [if_pos hc1n] | rw [if_neg hc1n] | rw [if_neg (not_not_intro hc1n)]); (try first | rw [if_pos hc2n] | rw [if_neg hc2n] | rw [if_neg (not_not_intro hc2n)]); (try first | rw [if_pos hc3n] | rw [if_neg hc3n] | rw [if_neg (not_not_intro hc3n)]); (try first | rw [if_pos hc4n] | rw [if_neg hc4n] | rw [if_neg (not_not_intro hc4n)]); (try first | rw [if_pos hc5n] | rw [if_neg hc5n] | rw [if_neg (not_not_intro hc5n)]); (try first | rw [if_pos hc6n] | rw [if_neg hc6n] | rw [if_neg (not_not_intro hc6n)]); first | done | rfl | decide) rfl rfl

set_option maxRecDepth 8000 in
set_option maxHeartbeats 4000000 in
theorem cv11_isOfKind_4 {G : Gt} (hG : Gok G) {I : It} {h : Ht}  {q : Nat} {k : Int32} (hq : q < hn h) (hcl : (hs h q).1 = 4) : Con G (1) 0 0 mX11_isOfKind [.ref q, .int k] I h (rI (ikC 4 k) I h) := by
  refine con_intro (own := RX11) (lo0 := [some (.ref q), some (.int k)]) hG rfl pl_X11 (Nat.le_of_ble_eq_true rfl) rfl (fun X hX => ?_)
  refine g_iload_1 hX (dk DX11_isOfKind 0 rfl) ?_
  refine g_tswitch (dt := 67) hX [(0, 40), (1, 42), (2, 47), (3, 52), (4, 57), (5, 62)] (dk DX11_isOfKind 1 rfl) (by decide +kernel) ?_
  refine ⟨fun hc1 => ?_, fun hc1n => ?_⟩
  · show GG _ _ _ _ _ _ _ _ _ _ _ _ _
    refine g_iconst (v := 1) hX (dk DX11_isOfKind 2 rfl) (by decide) ?_
    refine g_ireturn hX (dk DX11_isOfKind 3 rfl) rfl (by decide) (by decide) (by decide) ?_
    exact rI_of (by unfold ikC; (try first | rw [if_pos hc1] | rw [if_neg hc1] | rw [if_neg (not_not_intro hc1)]); first | done | rfl | decide) rfl rfl
  refine ⟨fun hc2 => ?_, fun hc2n => ?_⟩
  · show GG _ _ _ _ _ _ _ _ _ _ _ _ _
    refine g_aload_0 hX (dk DX11_isOfKind 4 rfl) ?_
    refine g_inst (b := 0) hX (dk DX11_isOfKind 5 rfl) KX4 (tg_2 35 rfl rfl) hq hcl (Or.inr ⟨rfl, List.mem_of_getElem? (i := 1) rfl⟩) ?_
    refine g_ireturn hX (dk DX11_isOfKind 6 rfl) rfl (by decide) (by decide) (by decide) ?_
    exact rI_of (by unfold ikC; (try first | rw [if_pos hc1n] | rw [if_neg hc1n] | rw [if_neg (not_not_intro hc1n)]); (try first | rw [if_pos hc2] | rw [if_neg hc2] | rw [if_neg (not_not_intro hc2)]); first | done | rfl | decide) rfl rfl
  refine ⟨fun hc3 => ?_, fun hc3n => ?_⟩
  · show GG _ _ _ _ _ _ _ _ _ _ _ _ _
    refine g_aload_0 hX (dk DX11_isOfKind 7 rfl) ?_
    refine g_inst (b := 0) hX (dk DX11_isOfKind 8 rfl) KX4 (tg_2 93 rfl rfl) hq hcl (Or.inr ⟨rfl, List.mem_of_getElem? (i := 6) rfl⟩) ?_
    refine g_ireturn hX (dk DX11_isOfKind 9 rfl) rfl (by decide) (by decide) (by decide) ?_
    exact rI_of (by unfold ikC; (try first | rw [if_pos hc1n] | rw [if_neg hc1n] | rw [if_neg (not_not_intro hc1n)]); (try first | rw [if_pos hc2n] | rw [if_neg hc2n] | rw [if_neg (not_not_intro hc2n)]); (try first | rw [if_pos hc3] | rw [if_neg hc3] | rw [if_neg (not_not_intro hc3)]); first | done | rfl | decide) rfl rfl
  refine ⟨fun hc4 => ?_, fun hc4n => ?_⟩
  · show GG _ _ _ _ _ _ _ _ _ _ _ _ _
    refine g_aload_0 hX (dk DX11_isOfKind 10 rfl) ?_
    refine g_inst (b := 1) hX (dk DX11_isOfKind 11 rfl) KX4 (tg_2 106 rfl rfl) hq hcl (Or.inl ⟨rfl, Or.inl rfl⟩) ?_
    refine g_ireturn hX (dk DX11_isOfKind 12 rfl) rfl (by decide) (by decide) (by decide) ?_
    exact rI_of (by unfold ikC; (try first | rw [if_pos hc1n] | rw [if_neg hc1n] | rw [if_neg (not_not_intro hc1n)]); (try first | rw [if_pos hc2n] | rw [if_neg hc2n] | rw [if_neg (not_not_intro hc2n)]); (try first | rw [if_pos hc3n] | rw [if_neg hc3n] | rw [if_neg (not_not_intro hc3n)]); (try first | rw [if_pos hc4] | rw [if_neg hc4] | rw [if_neg (not_not_intro hc4)]); first | done | rfl | decide) rfl rfl
  refine ⟨fun hc5 => ?_, fun hc5n => ?_⟩
  · show GG _ _ _ _ _ _ _ _ _ _ _ _ _
    refine g_aload_0 hX (dk DX11_isOfKind 13 rfl) ?_
    refine g_inst (b := 0) hX (dk DX11_isOfKind 14 rfl) KX4 (tg_2 119 rfl rfl) hq hcl (Or.inr ⟨rfl, List.mem_of_getElem? (i := 17) rfl⟩) ?_
    refine g_ireturn hX (dk DX11_isOfKind 15 rfl) rfl (by decide) (by decide) (by decide) ?_
    exact rI_of (by unfold ikC; (try first | rw [if_pos hc1n] | rw [if_neg hc1n] | rw [if_neg (not_not_intro hc1n)]); (try first | rw [if_pos hc2n] | rw [if_neg hc2n] | rw [if_neg (not_not_intro hc2n)]); (try first | rw [if_pos hc3n] | rw [if_neg hc3n] | rw [if_neg (not_not_intro hc3n)]); (try first | rw [if_pos hc4n] | rw [if_neg hc4n] | rw [if_neg (not_not_intro hc4n)]); (try first | rw [if_pos hc5] | rw [if_neg hc5] | rw [if_neg (not_not_intro hc5)]); first | done | rfl | decide) rfl rfl
  refine ⟨fun hc6 => ?_, fun hc6n => ?_⟩
  · show GG _ _ _ _ _ _ _ _ _ _ _ _ _
    refine g_aload_0 hX (dk DX11_isOfKind 16 rfl) ?_
    refine g_inst (b := 0) hX (dk DX11_isOfKind 17 rfl) KX4 (tg_2 132 rfl rfl) hq hcl (Or.inr ⟨rfl, List.mem_of_getElem? (i := 23) rfl⟩) ?_
    refine g_ireturn hX (dk DX11_isOfKind 18 rfl) rfl (by decide) (by decide) (by decide) ?_
    exact rI_of (by unfold ikC; (try first | rw [if_pos hc1n] | rw [if_neg hc1n] | rw [if_neg (not_not_intro hc1n)]); (try first | rw [if_pos hc2n] | rw [if_neg hc2n] | rw [if_neg (not_not_intro hc2n)]); (try first | rw [if_pos hc3n] | rw [if_neg hc3n] | rw [if_neg (not_not_intro hc3n)]); (try first | rw [if_pos hc4n] | rw [if_neg hc4n] | rw [if_neg (not_not_intro hc4n)]); (try first | rw [if_pos hc5n] | rw [if_neg hc5n] | rw [if_neg (not_not_intro hc5n)]); (try first | rw [if_pos hc6] | rw [if_neg hc6] | rw [if_neg (not_not_intro hc6)]); first | done | rfl | decide) rfl rfl
  show GG _ _ _ _ _ _ _ _ _ _ _ _ _
  refine g_aload_0 hX (dk DX11_isOfKind 19 rfl) ?_
  refine g_inst (b := 0) hX (dk DX11_isOfKind 20 rfl) KX4 (tg_2 145 rfl rfl) hq hcl (Or.inr ⟨rfl, List.mem_of_getElem? (i := 29) rfl⟩) ?_
  refine g_ireturn hX (dk DX11_isOfKind 21 rfl) rfl (by decide) (by decide) (by decide) ?_
  exact rI_of (by unfold ikC; (try first | rw [if_pos hc1n] | rw [if_neg hc1n] | rw [if_neg (not_not_intro hc1n)]); (try first | rw [if_pos hc2n] | rw [if_neg hc2n] | rw [if_neg (not_not_intro hc2n)]); (try first | rw [if_pos hc3n] | rw [if_neg hc3n] | rw [if_neg (not_not_intro hc3n)]); (try first | rw [if_pos hc4n] | rw [if_neg hc4n] | rw [if_neg (not_not_intro hc4n)]); (try first | rw [if_pos hc5n] | rw [if_neg hc5n] | rw [if_neg (not_not_intro hc5n)]); (try first | rw [if_pos hc6n] | rw [if_neg hc6n] | rw [if_neg (not_not_intro hc6n)]); first | done | rfl | decide) rfl rfl

set_option maxRecDepth 8000 in
set_option maxHeartbeats 4000000 in
theorem cv11_isOfKind_6 {G : Gt} (hG : Gok G) {I : It} {h : Ht}  {q : Nat} {k : Int32} (hq : q < hn h) (hcl : (hs h q).1 = 6) : Con G (1) 0 0 mX11_isOfKind [.ref q, .int k] I h (rI (ikC 6 k) I h) := by
  refine con_intro (own := RX11) (lo0 := [some (.ref q), some (.int k)]) hG rfl pl_X11 (Nat.le_of_ble_eq_true rfl) rfl (fun X hX => ?_)
  refine g_iload_1 hX (dk DX11_isOfKind 0 rfl) ?_
  refine g_tswitch (dt := 67) hX [(0, 40), (1, 42), (2, 47), (3, 52), (4, 57), (5, 62)] (dk DX11_isOfKind 1 rfl) (by decide +kernel) ?_
  refine ⟨fun hc1 => ?_, fun hc1n => ?_⟩
  · show GG _ _ _ _ _ _ _ _ _ _ _ _ _
    refine g_iconst (v := 1) hX (dk DX11_isOfKind 2 rfl) (by decide) ?_
    refine g_ireturn hX (dk DX11_isOfKind 3 rfl) rfl (by decide) (by decide) (by decide) ?_
    exact rI_of (by unfold ikC; (try first | rw [if_pos hc1] | rw [if_neg hc1] | rw [if_neg (not_not_intro hc1)]); first | done | rfl | decide) rfl rfl
  refine ⟨fun hc2 => ?_, fun hc2n => ?_⟩
  · show GG _ _ _ _ _ _ _ _ _ _ _ _ _
    refine g_aload_0 hX (dk DX11_isOfKind 4 rfl) ?_
    refine g_inst (b := 0) hX (dk DX11_isOfKind 5 rfl) KX6 (tg_2 35 rfl rfl) hq hcl (Or.inr ⟨rfl, List.mem_of_getElem? (i := 2) rfl⟩) ?_
    refine g_ireturn hX (dk DX11_isOfKind 6 rfl) rfl (by decide) (by decide) (by decide) ?_
    exact rI_of (by unfold ikC; (try first | rw [if_pos hc1n] | rw [if_neg hc1n] | rw [if_neg (not_not_intro hc1n)]); (try first | rw [if_pos hc2] | rw [if_neg hc2] | rw [if_neg (not_not_intro hc2)]); first | done | rfl | decide) rfl rfl
  refine ⟨fun hc3 => ?_, fun hc3n => ?_⟩
  · show GG _ _ _ _ _ _ _ _ _ _ _ _ _
    refine g_aload_0 hX (dk DX11_isOfKind 7 rfl) ?_
    refine g_inst (b := 1) hX (dk DX11_isOfKind 8 rfl) KX6 (tg_2 93 rfl rfl) hq hcl (Or.inl ⟨rfl, Or.inr (List.mem_of_getElem? (i := 1) rfl)⟩) ?_
    refine g_ireturn hX (dk DX11_isOfKind 9 rfl) rfl (by decide) (by decide) (by decide) ?_
    exact rI_of (by unfold ikC; (try first | rw [if_pos hc1n] | rw [if_neg hc1n] | rw [if_neg (not_not_intro hc1n)]); (try first | rw [if_pos hc2n] | rw [if_neg hc2n] | rw [if_neg (not_not_intro hc2n)]); (try first | rw [if_pos hc3] | rw [if_neg hc3] | rw [if_neg (not_not_intro hc3)]); first | done | rfl | decide) rfl rfl
  refine ⟨fun hc4 => ?_, fun hc4n => ?_⟩
  · show GG _ _ _ _ _ _ _ _ _ _ _ _ _
    refine g_aload_0 hX (dk DX11_isOfKind 10 rfl) ?_
    refine g_inst (b := 0) hX (dk DX11_isOfKind 11 rfl) KX6 (tg_2 106 rfl rfl) hq hcl (Or.inr ⟨rfl, List.mem_of_getElem? (i := 13) rfl⟩) ?_
    refine g_ireturn hX (dk DX11_isOfKind 12 rfl) rfl (by decide) (by decide) (by decide) ?_
    exact rI_of (by unfold ikC; (try first | rw [if_pos hc1n] | rw [if_neg hc1n] | rw [if_neg (not_not_intro hc1n)]); (try first | rw [if_pos hc2n] | rw [if_neg hc2n] | rw [if_neg (not_not_intro hc2n)]); (try first | rw [if_pos hc3n] | rw [if_neg hc3n] | rw [if_neg (not_not_intro hc3n)]); (try first | rw [if_pos hc4] | rw [if_neg hc4] | rw [if_neg (not_not_intro hc4)]); first | done | rfl | decide) rfl rfl
  refine ⟨fun hc5 => ?_, fun hc5n => ?_⟩
  · show GG _ _ _ _ _ _ _ _ _ _ _ _ _
    refine g_aload_0 hX (dk DX11_isOfKind 13 rfl) ?_
    refine g_inst (b := 0) hX (dk DX11_isOfKind 14 rfl) KX6 (tg_2 119 rfl rfl) hq hcl (Or.inr ⟨rfl, List.mem_of_getElem? (i := 18) rfl⟩) ?_
    refine g_ireturn hX (dk DX11_isOfKind 15 rfl) rfl (by decide) (by decide) (by decide) ?_
    exact rI_of (by unfold ikC; (try first | rw [if_pos hc1n] | rw [if_neg hc1n] | rw [if_neg (not_not_intro hc1n)]); (try first | rw [if_pos hc2n] | rw [if_neg hc2n] | rw [if_neg (not_not_intro hc2n)]); (try first | rw [if_pos hc3n] | rw [if_neg hc3n] | rw [if_neg (not_not_intro hc3n)]); (try first | rw [if_pos hc4n] | rw [if_neg hc4n] | rw [if_neg (not_not_intro hc4n)]); (try first | rw [if_pos hc5] | rw [if_neg hc5] | rw [if_neg (not_not_intro hc5)]); first | done | rfl | decide) rfl rfl
  refine ⟨fun hc6 => ?_, fun hc6n => ?_⟩
  · show GG _ _ _ _ _ _ _ _ _ _ _ _ _
    refine g_aload_0 hX (dk DX11_isOfKind 16 rfl) ?_
    refine g_inst (b := 1) hX (dk DX11_isOfKind 17 rfl) KX6 (tg_2 132 rfl rfl) hq hcl (Or.inl ⟨rfl, Or.inl rfl⟩) ?_
    refine g_ireturn hX (dk DX11_isOfKind 18 rfl) rfl (by decide) (by decide) (by decide) ?_
    exact rI_of (by unfold ikC; (try first | rw [if_pos hc1n] | rw [if_neg hc1n] | rw [if_neg (not_not_intro hc1n)]); (try first | rw [if_pos hc2n] | rw [if_neg hc2n] | rw [if_neg (not_not_intro hc2n)]); (try first | rw [if_pos hc3n] | rw [if_neg hc3n] | rw [if_neg (not_not_intro hc3n)]); (try first | rw [if_pos hc4n] | rw [if_neg hc4n] | rw [if_neg (not_not_intro hc4n)]); (try first | rw [if_pos hc5n] | rw [if_neg hc5n] | rw [if_neg (not_not_intro hc5n)]); (try first | rw [if_pos hc6] | rw [if_neg hc6] | rw [if_neg (not_not_intro hc6)]); first | done | rfl | decide) rfl rfl
  show GG _ _ _ _ _ _ _ _ _ _ _ _ _
  refine g_aload_0 hX (dk DX11_isOfKind 19 rfl) ?_
  refine g_inst (b := 0) hX (dk DX11_isOfKind 20 rfl) KX6 (tg_2 145 rfl rfl) hq hcl (Or.inr ⟨rfl, List.mem_of_getElem? (i := 31) rfl⟩) ?_
  refine g_ireturn hX (dk DX11_isOfKind 21 rfl) rfl (by decide) (by decide) (by decide) ?_
  exact rI_of (by unfold ikC; (try first | rw [if_pos hc1n] | rw [if_neg hc1n] | rw [if_neg (not_not_intro hc1n)]); (try first | rw [if_pos hc2n] | rw [if_neg hc2n] | rw [if_neg (not_not_intro hc2n)]); (try first | rw [if_pos hc3n] | rw [if_neg hc3n] | rw [if_neg (not_not_intro hc3n)]); (try first | rw [if_pos hc4n] | rw [if_neg hc4n] | rw [if_neg (not_not_intro hc4n)]); (try first | rw [if_pos hc5n] | rw [if_neg hc5n] | rw [if_neg (not_not_intro hc5n)]); (try first | rw [if_pos hc6n] | rw [if_neg hc6n] | rw [if_neg (not_not_intro hc6n)]); first | done | rfl | decide) rfl rfl

set_option maxRecDepth 8000 in
set_option maxHeartbeats 4000000 in
theorem cv11_isOfKind_8 {G : Gt} (hG : Gok G) {I : It} {h : Ht}  {q : Nat} {k : Int32} (hq : q < hn h) (hcl : (hs h q).1 = 8) : Con G (1) 0 0 mX11_isOfKind [.ref q, .int k] I h (rI (ikC 8 k) I h) := by
  refine con_intro (own := RX11) (lo0 := [some (.ref q), some (.int k)]) hG rfl pl_X11 (Nat.le_of_ble_eq_true rfl) rfl (fun X hX => ?_)
  refine g_iload_1 hX (dk DX11_isOfKind 0 rfl) ?_
  refine g_tswitch (dt := 67) hX [(0, 40), (1, 42), (2, 47), (3, 52), (4, 57), (5, 62)] (dk DX11_isOfKind 1 rfl) (by decide +kernel) ?_
  refine ⟨fun hc1 => ?_, fun hc1n => ?_⟩
  · show GG _ _ _ _ _ _ _ _ _ _ _ _ _
    refine g_iconst (v := 1) hX (dk DX11_isOfKind 2 rfl) (by decide) ?_
    refine g_ireturn hX (dk DX11_isOfKind 3 rfl) rfl (by decide) (by decide) (by decide) ?_
    exact rI_of (by unfold ikC; (try first | rw [if_pos hc1] | rw [if_neg hc1] | rw [if_neg (not_not_intro hc1)]); first | done | rfl | decide) rfl rfl
  refine ⟨fun hc2 => ?_, fun hc2n => ?_⟩
  · show GG _ _ _ _ _ _ _ _ _ _ _ _ _
    refine g_aload_0 hX (dk DX11_isOfKind 4 rfl) ?_
    refine g_inst (b := 1) hX (dk DX11_isOfKind 5 rfl) KX8 (tg_2 35 rfl rfl) hq hcl (Or.inl ⟨rfl, Or.inr (List.mem_of_getElem? (i := 0) rfl)⟩) ?_
    refine g_ireturn hX (dk DX11_isOfKind 6 rfl) rfl (by decide) (by decide) (by decide) ?_
    exact rI_of (by unfold ikC; (try first | rw [if_pos hc1n] | rw [if_neg hc1n] | rw [if_neg (not_not_intro hc1n)]); (try first | rw [if_pos hc2] | rw [if_neg hc2] | rw [if_neg (not_not_intro hc2)]); first | done | rfl | decide) rfl rfl
  refine ⟨fun hc3 => ?_, fun hc3n => ?_⟩
  · show GG _ _ _ _ _ _ _ _ _ _ _ _ _
    refine g_aload_0 hX (dk DX11_isOfKind 7 rfl) ?_
    refine g_inst (b := 0) hX (dk DX11_isOfKind 8 rfl) KX8 (tg_2 93 rfl rfl) hq hcl (Or.inr ⟨rfl, List.mem_of_getElem? (i := 7) rfl⟩) ?_
    refine g_ireturn hX (dk DX11_isOfKind 9 rfl) rfl (by decide) (by decide) (by decide) ?_
    exact rI_of (by unfold ikC; (try first | rw [if_pos hc1n] | rw [if_neg hc1n] | rw [if_neg (not_not_intro hc1n)]); (try first | rw [if_pos hc2n] | rw [if_neg hc2n] | rw [if_neg (not_not_intro hc2n)]); (try first | rw [if_pos hc3] | rw [if_neg hc3] | rw [if_neg (not_not_intro hc3)]); first | done | rfl | decide) rfl rfl
  refine ⟨fun hc4 => ?_, fun hc4n => ?_⟩
  · show GG _ _ _ _ _ _ _ _ _ _ _ _ _
    refine g_aload_0 hX (dk DX11_isOfKind 10 rfl) ?_
    refine g_inst (b := 0) hX (dk DX11_isOfKind 11 rfl) KX8 (tg_2 106 rfl rfl) hq hcl (Or.inr ⟨rfl, List.mem_of_getElem? (i := 12) rfl⟩) ?_
    refine g_ireturn hX (dk DX11_isOfKind 12 rfl) rfl (by decide) (by decide) (by decide) ?_
    exact rI_of (by unfold ikC; (try first | rw [if_pos hc1n] | rw [if_neg hc1n] | rw [if_neg (not_not_intro hc1n)]); (try first | rw [if_pos hc2n] | rw [if_neg hc2n] | rw [if_neg (not_not_intro hc2n)]); (try first | rw [if_pos hc3n] | rw [if_neg hc3n] | rw [if_neg (not_not_intro hc3n)]); (try first | rw [if_pos hc4] | rw [if_neg hc4] | rw [if_neg (not_not_intro hc4)]); first | done | rfl | decide) rfl rfl
  refine ⟨fun hc5 => ?_, fun hc5n => ?_⟩
  · show GG _ _ _ _ _ _ _ _ _ _ _ _ _
    refine g_aload_0 hX (dk DX11_isOfKind 13 rfl) ?_
    refine g_inst (b := 1) hX (dk DX11_isOfKind 14 rfl) KX8 (tg_2 119 rfl rfl) hq hcl (Or.inl ⟨rfl, Or.inl rfl⟩) ?_
    refine g_ireturn hX (dk DX11_isOfKind 15 rfl) rfl (by decide) (by decide) (by decide) ?_
    exact rI_of (by unfold ikC; (try first | rw [if_pos hc1n] | rw [if_neg hc1n] | rw [if_neg (not_not_intro hc1n)]); (try first | rw [if_pos hc2n] | rw [if_neg hc2n] | rw [if_neg (not_not_intro hc2n)]); (try first | rw [if_pos hc3n] | rw [if_neg hc3n] | rw [if_neg (not_not_intro hc3n)]); (try first | rw [if_pos hc4n] | rw [if_neg hc4n] | rw [if_neg (not_not_intro hc4n)]); (try first | rw [if_pos hc5] | rw [if_neg hc5] | rw [if_neg (not_not_intro hc5)]); first | done | rfl | decide) rfl rfl
  refine ⟨fun hc6 => ?_, fun hc6n => ?_⟩
  · show GG _ _ _ _ _ _ _ _ _ _ _ _ _
    refine g_aload_0 hX (dk DX11_isOfKind 16 rfl) ?_
    refine g_inst (b := 0) hX (dk DX11_isOfKind 17 rfl) KX8 (tg_2 132 rfl rfl) hq hcl (Or.inr ⟨rfl, List.mem_of_getElem? (i := 24) rfl⟩) ?_
    refine g_ireturn hX (dk DX11_isOfKind 18 rfl) rfl (by decide) (by decide) (by decide) ?_
    exact rI_of (by unfold ikC; (try first | rw [if_pos hc1n] | rw [if_neg hc1n] | rw [if_neg (not_not_intro hc1n)]); (try first | rw [if_pos hc2n] | rw [if_neg hc2n] | rw [if_neg (not_not_intro hc2n)]); (try first | rw [if_pos hc3n] | rw [if_neg hc3n] | rw [if_neg (not_not_intro hc3n)]); (try first | rw [if_pos hc4n] | rw [if_neg hc4n] | rw [if_neg (not_not_intro hc4n)]); (try first | rw [if_pos hc5n] | rw [if_neg hc5n] | rw [if_neg (not_not_intro hc5n)]); (try first | rw [if_pos hc6] | rw [if_neg hc6] | rw [if_neg (not_not_intro hc6)]); first | done | rfl | decide) rfl rfl
  show GG _ _ _ _ _ _ _ _ _ _ _ _ _
  refine g_aload_0 hX (dk DX11_isOfKind 19 rfl) ?_
  refine g_inst (b := 0) hX (dk DX11_isOfKind 20 rfl) KX8 (tg_2 145 rfl rfl) hq hcl (Or.inr ⟨rfl, List.mem_of_getElem? (i := 30) rfl⟩) ?_
  refine g_ireturn hX (dk DX11_isOfKind 21 rfl) rfl (by decide) (by decide) (by decide) ?_
  exact rI_of (by unfold ikC; (try first | rw [if_pos hc1n] | rw [if_neg hc1n] | rw [if_neg (not_not_intro hc1n)]); (try first | rw [if_pos hc2n] | rw [if_neg hc2n] | rw [if_neg (not_not_intro hc2n)]); (try first | rw [if_pos hc3n] | rw [if_neg hc3n] | rw [if_neg (not_not_intro hc3n)]); (try first | rw [if_pos hc4n] | rw [if_neg hc4n] | rw [if_neg (not_not_intro hc4n)]); (try first | rw [if_pos hc5n] | rw [if_neg hc5n] | rw [if_neg (not_not_intro hc5n)]); (try first | rw [if_pos hc6n] | rw [if_neg hc6n] | rw [if_neg (not_not_intro hc6n)]); first | done | rfl | decide) rfl rfl

set_option maxRecDepth 8000 in
set_option maxHeartbeats 4000000 in
theorem cv11_isOfKind_9 {G : Gt} (hG : Gok G) {I : It} {h : Ht}  {q : Nat} {k : Int32} (hq : q < hn h) (hcl : (hs h q).1 = 9) : Con G (1) 0 0 mX11_isOfKind [.ref q, .int k] I h (rI (ikC 9 k) I h) := by
  refine con_intro (own := RX11) (lo0 := [some (.ref q), some (.int k)]) hG rfl pl_X11 (Nat.le_of_ble_eq_true rfl) rfl (fun X hX => ?_)
  refine g_iload_1 hX (dk DX11_isOfKind 0 rfl) ?_
  refine g_tswitch (dt := 67) hX [(0, 40), (1, 42), (2, 47), (3, 52), (4, 57), (5, 62)] (dk DX11_isOfKind 1 rfl) (by decide +kernel) ?_
  refine ⟨fun hc1 => ?_, fun hc1n => ?_⟩
  · show GG _ _ _ _ _ _ _ _ _ _ _ _ _
    refine g_iconst (v := 1) hX (dk DX11_isOfKind 2 rfl) (by decide) ?_
    refine g_ireturn hX (dk DX11_isOfKind 3 rfl) rfl (by decide) (by decide) (by decide) ?_
    exact rI_of (by unfold ikC; (try first | rw [if_pos hc1] | rw [if_neg hc1] | rw [if_neg (not_not_intro hc1)]); first | done | rfl | decide) rfl rfl
  refine ⟨fun hc2 => ?_, fun hc2n => ?_⟩
  · show GG _ _ _ _ _ _ _ _ _ _ _ _ _
    refine g_aload_0 hX (dk DX11_isOfKind 4 rfl) ?_
    refine g_inst (b := 1) hX (dk DX11_isOfKind 5 rfl) KX9 (tg_2 35 rfl rfl) hq hcl (Or.inl ⟨rfl, Or.inl rfl⟩) ?_
    refine g_ireturn hX (dk DX11_isOfKind 6 rfl) rfl (by decide) (by decide) (by decide) ?_
    exact rI_of (by unfold ikC; (try first | rw [if_pos hc1n] | rw [if_neg hc1n] | rw [if_neg (not_not_intro hc1n)]); (try first | rw [if_pos hc2] | rw [if_neg hc2] | rw [if_neg (not_not_intro hc2)]); first | done | rfl | decide) rfl rfl
  refine ⟨fun hc3 => ?_, fun hc3n => ?_⟩
  · show GG _ _ _ _ _ _ _ _ _ _ _ _ _
    refine g_aload_0 hX (dk DX11_isOfKind 7 rfl) ?_
    refine g_inst (b := 0) hX (dk DX11_isOfKind 8 rfl) KX9 (tg_2 93 rfl rfl) hq hcl (Or.inr ⟨rfl, List.mem_of_getElem? (i := 5) rfl⟩) ?_
    refine g_ireturn hX (dk DX11_isOfKind 9 rfl) rfl (by decide) (by decide) (by decide) ?_
    exact rI_of (by unfold ikC; (try first | rw [if_pos hc1n] | rw [if_neg hc1n] | rw [if_neg (not_not_intro hc1n)]); (try first | rw [if_pos hc2n] | rw [if_neg hc2n] | rw [if_neg (not_not_intro hc2n)]); (try first | rw [if_pos hc3] | rw [if_neg hc3] | rw [if_neg (not_not_intro hc3)]); first | done | rfl | decide) rfl rfl
  refine ⟨fun hc4 => ?_, fun hc4n => ?_⟩
  · show GG _ _ _ _ _ _ _ _ _ _ _ _ _
    refine g_aload_0 hX (dk DX11_isOfKind 10 rfl) ?_
    refine g_inst (b := 0) hX (dk DX11_isOfKind 11 rfl) KX9 (tg_2 106 rfl rfl) hq hcl (Or.inr ⟨rfl, List.mem_of_getElem? (i := 10) rfl⟩) ?_
    refine g_ireturn hX (dk DX11_isOfKind 12 rfl) rfl (by decide) (by decide) (by decide) ?_
    exact rI_of (by unfold ikC; (try first | rw [if_pos hc1n] | rw [if_neg hc1n] | rw [if_neg (not_not_intro hc1n)]); (try first | rw [if_pos hc2n] | rw [if_neg hc2n] | rw [if_neg (not_not_intro hc2n)]); (try first | rw [if_pos hc3n] | rw [if_neg hc3n] | rw [if_neg (not_not_intro hc3n)]); (try first | rw [if_pos hc4] | rw [if_neg hc4] | rw [if_neg (not_not_intro hc4)]); first | done | rfl | decide) rfl rfl
  refine ⟨fun hc5 => ?_, fun hc5n => ?_⟩
  · show GG _ _ _ _ _ _ _ _ _ _ _ _ _
    refine g_aload_0 hX (dk DX11_isOfKind 13 rfl) ?_
    refine g_inst (b := 0) hX (dk DX11_isOfKind 14 rfl) KX9 (tg_2 119 rfl rfl) hq hcl (Or.inr ⟨rfl, List.mem_of_getElem? (i := 15) rfl⟩) ?_
    refine g_ireturn hX (dk DX11_isOfKind 15 rfl) rfl (by decide) (by decide) (by decide) ?_
    exact rI_of (by unfold ikC; (try first | rw [if_pos hc1n] | rw [if_neg hc1n] | rw [if_neg (not_not_intro hc1n)]); (try first | rw [if_pos hc2n] | rw [if_neg hc2n] | rw [if_neg (not_not_intro hc2n)]); (try first | rw [if_pos hc3n] | rw [if_neg hc3n] | rw [if_neg (not_not_intro hc3n)]); (try first | rw [if_pos hc4n] | rw [if_neg hc4n] | rw [if_neg (not_not_intro hc4n)]); (try first | rw [if_pos hc5] | rw [if_neg hc5] | rw [if_neg (not_not_intro hc5)]); first | done | rfl | decide) rfl rfl
  refine ⟨fun hc6 => ?_, fun hc6n => ?_⟩
  · show GG _ _ _ _ _ _ _ _ _ _ _ _ _
    refine g_aload_0 hX (dk DX11_isOfKind 16 rfl) ?_
    refine g_inst (b := 0) hX (dk DX11_isOfKind 17 rfl) KX9 (tg_2 132 rfl rfl) hq hcl (Or.inr ⟨rfl, List.mem_of_getElem? (i := 21) rfl⟩) ?_
    refine g_ireturn hX (dk DX11_isOfKind 18 rfl) rfl (by decide) (by decide) (by decide) ?_
    exact rI_of (by unfold ikC; (try first | rw [if_pos hc1n] | rw [if_neg hc1n] | rw [if_neg (not_not_intro hc1n)]); (try first | rw [if_pos hc2n] | rw [if_neg hc2n] | rw [if_neg (not_not_intro hc2n)]); (try first | rw [if_pos hc3n] | rw [if_neg hc3n] | rw [if_neg (not_not_intro hc3n)]); (try first | rw [if_pos hc4n] | rw [if_neg hc4n] | rw [if_neg (not_not_intro hc4n)]); (try first | rw [if_pos hc5n] | rw [if_neg hc5n] | rw [if_neg (not_not_intro hc5n)]); (try first | rw [if_pos hc6] | rw [if_neg hc6] | rw [if_neg (not_not_intro hc6)]); first | done | rfl | decide) rfl rfl
  show GG _ _ _ _ _ _ _ _ _ _ _ _ _
  refine g_aload_0 hX (dk DX11_isOfKind 19 rfl) ?_
  refine g_inst (b := 0) hX (dk DX11_isOfKind 20 rfl) KX9 (tg_2 145 rfl rfl) hq hcl (Or.inr ⟨rfl, List.mem_of_getElem? (i := 27) rfl⟩) ?_
  refine g_ireturn hX (dk DX11_isOfKind 21 rfl) rfl (by decide) (by decide) (by decide) ?_
  exact rI_of (by unfold ikC; (try first | rw [if_pos hc1n] | rw [if_neg hc1n] | rw [if_neg (not_not_intro hc1n)]); (try first | rw [if_pos hc2n] | rw [if_neg hc2n] | rw [if_neg (not_not_intro hc2n)]); (try first | rw [if_pos hc3n] | rw [if_neg hc3n] | rw [if_neg (not_not_intro hc3n)]); (try first | rw [if_pos hc4n] | rw [if_neg hc4n] | rw [if_neg (not_not_intro hc4n)]); (try first | rw [if_pos hc5n] | rw [if_neg hc5n] | rw [if_neg (not_not_intro hc5n)]); (try first | rw [if_pos hc6n] | rw [if_neg hc6n] | rw [if_neg (not_not_intro hc6n)]); first | done | rfl | decide) rfl rfl

set_option maxRecDepth 8000 in
set_option maxHeartbeats 4000000 in
theorem cv11_isOfKind_10 {G : Gt} (hG : Gok G) {I : It} {h : Ht}  {q : Nat} {k : Int32} (hq : q < hn h) (hcl : (hs h q).1 = 10) : Con G (1) 0 0 mX11_isOfKind [.ref q, .int k] I h (rI (ikC 10 k) I h) := by
  refine con_intro (own := RX11) (lo0 := [some (.ref q), some (.int k)]) hG rfl pl_X11 (Nat.le_of_ble_eq_true rfl) rfl (fun X hX => ?_)
  refine g_iload_1 hX (dk DX11_isOfKind 0 rfl) ?_
  refine g_tswitch (dt := 67) hX [(0, 40), (1, 42), (2, 47), (3, 52), (4, 57), (5, 62)] (dk DX11_isOfKind 1 rfl) (by decide +kernel) ?_
  refine ⟨fun hc1 => ?_, fun hc1n => ?_⟩
  · show GG _ _ _ _ _ _ _ _ _ _ _ _ _
    refine g_iconst (v := 1) hX (dk DX11_isOfKind 2 rfl) (by decide) ?_
    refine g_ireturn hX (dk DX11_isOfKind 3 rfl) rfl (by decide) (by decide) (by decide) ?_
    exact rI_of (by unfold ikC; (try first | rw [if_pos hc1] | rw [if_neg hc1] | rw [if_neg (not_not_intro hc1)]); first | done | rfl | decide) rfl rfl
  refine ⟨fun hc2 => ?_, fun hc2n => ?_⟩
  · show GG _ _ _ _ _ _ _ _ _ _ _ _ _
    refine g_aload_0 hX (dk DX11_isOfKind 4 rfl) ?_
    refine g_inst (b := 0) hX (dk DX11_isOfKind 5 rfl) KX10 (tg_2 35 rfl rfl) hq hcl (Or.inr ⟨rfl, List.mem_of_getElem? (i := 3) rfl⟩) ?_
    refine g_ireturn hX (dk DX11_isOfKind 6 rfl) rfl (by decide) (by decide) (by decide) ?_
    exact rI_of (by unfold ikC; (try first | rw [if_pos hc1n] | rw [if_neg hc1n] | rw [if_neg (not_not_intro hc1n)]); (try first | rw [if_pos hc2] | rw [if_neg hc2] | rw [if_neg (not_not_intro hc2)]); first | done | rfl | decide) rfl rfl
  refine ⟨fun hc3 => ?_, fun hc3n => ?_⟩
  · show GG _ _ _ _ _ _ _ _ _ _ _ _ _
    refine g_aload_0 hX (dk DX11_isOfKind 7 rfl) ?_
    refine g_inst (b := 0) hX (dk DX11_isOfKind 8 rfl) KX10 (tg_2 93 rfl rfl) hq hcl (Or.inr ⟨rfl, List.mem_of_getElem? (i := 8) rfl⟩) ?_
    refine g_ireturn hX (dk DX11_isOfKind 9 rfl) rfl (by decide) (by decide) (by decide) ?_
    exact rI_of (by unfold ikC; (try first | rw [if_pos hc1n] | rw [if_neg hc1n] | rw [if_neg (not_not_intro hc1n)]); (try first | rw [if_pos hc2n] | rw [if_neg hc2n] | rw [if_neg (not_not_intro hc2n)]); (try first | rw [if_pos hc3] | rw [if_neg hc3] | rw [if_neg (not_not_intro hc3)]); first | done | rfl | decide) rfl rfl
  refine ⟨fun hc4 => ?_, fun hc4n => ?_⟩
  · show GG _ _ _ _ _ _ _ _ _ _ _ _ _
    refine g_aload_0 hX (dk DX11_isOfKind 10 rfl) ?_
    refine g_inst (b := 1) hX (dk DX11_isOfKind 11 rfl) KX10 (tg_2 106 rfl rfl) hq hcl (Or.inl ⟨rfl, Or.inr (List.mem_of_getElem? (i := 2) rfl)⟩) ?_
    refine g_ireturn hX (dk DX11_isOfKind 12 rfl) rfl (by decide) (by decide) (by decide) ?_
    exact rI_of (by unfold ikC; (try first | rw [if_pos hc1n] | rw [if_neg hc1n] | rw [if_neg (not_not_intro hc1n)]); (try first | rw [if_pos hc2n] | rw [if_neg hc2n] | rw [if_neg (not_not_intro hc2n)]); (try first | rw [if_pos hc3n] | rw [if_neg hc3n] | rw [if_neg (not_not_intro hc3n)]); (try first | rw [if_pos hc4] | rw [if_neg hc4] | rw [if_neg (not_not_intro hc4)]); first | done | rfl | decide) rfl rfl
  refine ⟨fun hc5 => ?_, fun hc5n => ?_⟩
  · show GG _ _ _ _ _ _ _ _ _ _ _ _ _
    refine g_aload_0 hX (dk DX11_isOfKind 13 rfl) ?_
    refine g_inst (b := 0) hX (dk DX11_isOfKind 14 rfl) KX10 (tg_2 119 rfl rfl) hq hcl (Or.inr ⟨rfl, List.mem_of_getElem? (i := 19) rfl⟩) ?_
    refine g_ireturn hX (dk DX11_isOfKind 15 rfl) rfl (by decide) (by decide) (by decide) ?_
    exact rI_of (by unfold ikC; (try first | rw [if_pos hc1n] | rw [if_neg hc1n] | rw [if_neg (not_not_intro hc1n)]); (try first | rw [if_pos hc2n] | rw [if_neg hc2n] | rw [if_neg (not_not_intro hc2n)]); (try first | rw [if_pos hc3n] | rw [if_neg hc3n] | rw [if_neg (not_not_intro hc3n)]); (try first | rw [if_pos hc4n] | rw [if_neg hc4n] | rw [if_neg (not_not_intro hc4n)]); (try first | rw [if_pos hc5] | rw [if_neg hc5] | rw [if_neg (not_not_intro hc5)]); first | done | rfl | decide) rfl rfl
  refine ⟨fun hc6 => ?_, fun hc6n => ?_⟩
  · show GG _ _ _ _ _ _ _ _ _ _ _ _ _
    refine g_aload_0 hX (dk DX11_isOfKind 16 rfl) ?_
    refine g_inst (b := 0) hX (dk DX11_isOfKind 17 rfl) KX10 (tg_2 132 rfl rfl) hq hcl (Or.inr ⟨rfl, List.mem_of_getElem? (i := 25) rfl⟩) ?_
    refine g_ireturn hX (dk DX11_isOfKind 18 rfl) rfl (by decide) (by decide) (by decide) ?_
    exact rI_of (by unfold ikC; (try first | rw [if_pos hc1n] | rw [if_neg hc1n] | rw [if_neg (not_not_intro hc1n)]); (try first | rw [if_pos hc2n] | rw [if_neg hc2n] | rw [if_neg (not_not_intro hc2n)]); (try first | rw [if_pos hc3n] | rw [if_neg hc3n] | rw [if_neg (not_not_intro hc3n)]); (try first | rw [if_pos hc4n] | rw [if_neg hc4n] | rw [if_neg (not_not_intro hc4n)]); (try first | rw [if_pos hc5n] | rw [if_neg hc5n] | rw [if_neg (not_not_intro hc5n)]); (try first | rw [if_pos hc6] | rw [if_neg hc6] | rw [if_neg (not_not_intro hc6)]); first | done | rfl | decide) rfl rfl
  show GG _ _ _ _ _ _ _ _ _ _ _ _ _
  refine g_aload_0 hX (dk DX11_isOfKind 19 rfl) ?_
  refine g_inst (b := 1) hX (dk DX11_isOfKind 20 rfl) KX10 (tg_2 145 rfl rfl) hq hcl (Or.inl ⟨rfl, Or.inl rfl⟩) ?_
  refine g_ireturn hX (dk DX11_isOfKind 21 rfl) rfl (by decide) (by decide) (by decide) ?_
  exact rI_of (by unfold ikC; (try first | rw [if_pos hc1n] | rw [if_neg hc1n] | rw [if_neg (not_not_intro hc1n)]); (try first | rw [if_pos hc2n] | rw [if_neg hc2n] | rw [if_neg (not_not_intro hc2n)]); (try first | rw [if_pos hc3n] | rw [if_neg hc3n] | rw [if_neg (not_not_intro hc3n)]); (try first | rw [if_pos hc4n] | rw [if_neg hc4n] | rw [if_neg (not_not_intro hc4n)]); (try first | rw [if_pos hc5n] | rw [if_neg hc5n] | rw [if_neg (not_not_intro hc5n)]); (try first | rw [if_pos hc6n] | rw [if_neg hc6n] | rw [if_neg (not_not_intro hc6n)]); first | done | rfl | decide) rfl rfl

theorem c_isOfKind {G : Gt} (hG : Gok G) {I : It} {h : Ht} {q : Nat} {k : Int32} (hq : q < hn h) (hdc : isDC (hs h q).1) : Con G 1 0 0 mX11_isOfKind [.ref q, .int k] I h (rI (ikC (hs h q).1 k) I h) := by
  rcases hdc with e | e | e | e | e | e | e <;> rw [e]
  · exact cv11_isOfKind_1 hG hq e
  · exact cv11_isOfKind_2 hG hq e
  · exact cv11_isOfKind_4 hG hq e
  · exact cv11_isOfKind_6 hG hq e
  · exact cv11_isOfKind_8 hG hq e
  · exact cv11_isOfKind_9 hG hq e
  · exact cv11_isOfKind_10 hG hq e
set_option maxRecDepth 8000 in
set_option maxHeartbeats 4000000 in
theorem y_taken {G : Gt} (hG : Gok G) {I : It} {h : Ht}  {E : It} {L : Nat → Int64} (hE : Inv E) (hY : RY E L I h) {d : Nat} (hd : d < cnt E) {k : Int32} : Con G (4) 0 0 mX11_taken [.ref 0, .int (nI d), .int k] I h (qX (takenS E (nI d) k) L (hn h)) := by
  refine con_intro (own := RX11) (lo0 := [some (.ref 0), some (.int (nI d)), some (.int k), none]) hG rfl pl_X11 (Nat.le_of_ble_eq_true rfl) rfl (fun X hX => ?_)
  have hW := hY.wx hE
  have hH := hW.1
  have hc10 := hW.2.1.2
  have hd10 : d < 10 := Nat.lt_of_lt_of_le hd (inv_cnt hE).2
  have hcd : d < cN I := by rw [hY.cn]; exact hd
  have hDD := isD_mk hE hd
  obtain ⟨g1, g2, g3, g4, g5, g6, g7, g8, g9, g10⟩ := hY.d hd
  refine g_iload_2 hX (dk DX11_taken 0 rfl) ?_
  refine g_iconst (v := 0) hX (dk DX11_taken 1 rfl) (by decide) ?_
  refine g_bipush (v := 6) hX (dk DX11_taken 2 rfl) (by decide) ?_
  refine g_c3I hX sX11_taken_4 (by decide) (Nat.le_of_ble_eq_true rfl) rcN (by decide) (by decide) (c_X11_isNot hG ) ?_
  refine g_ifb_eq (tgt := 13) hX (dk DX11_taken 4 rfl) (by decide) (fun hc1 => ?_) (fun hc1 => ?_)
  · refine g_aload_0 hX (dk DX11_taken 7 rfl) ?_
    refine g_getRs (r := 1) hX (dk DX11_taken 8 rfl) KX11 fX11_12 (by decide) rfl (CLt hH (q := 0) (by decide)) (CC hH 0 (by decide) rfl) (CR hH 0 0 1 (by decide)) ?_
    refine g_iload_1 hX (dk DX11_taken 9 rfl) ?_
    refine g_c2R hX sX11_taken_18 (by decide) (Nat.le_of_ble_eq_true rfl) (rc0 rfl (CLt hH (by decide)) (CC hH 1 (by decide) rfl)) (by decide) (by decide) (c_X5_find hG hW (by exact hcd)) ?_
    refine g_astore_3 hX (dk DX11_taken 11 rfl) (by decide) rfl ?_
    refine g_aload_3 hX (dk DX11_taken 12 rfl) ?_
    refine g_ifnonnull (tgt := 29) hX (dk DX11_taken 13 rfl) (by decide) ?_
    obtain ⟨q, hq, ek⟩ := in_of (b := 6) (by decide) (Decidable.not_not.mp hc1)
    obtain ⟨⟨x, hx, ex⟩, -⟩ := inv_d hE hd
    have htk := tk_e x (by omega) q (by omega)
    rw [← ek, ← ex] at htk
    have htd : tN (nI d) = d := tN_nI (by omega)
    refine g_aload_3 hX (dk DX11_taken 16 rfl) ?_
    refine g_iload_2 hX (dk DX11_taken 17 rfl) ?_
    refine g_c2I hX sX11_taken_31 (by decide) (Nat.le_of_ble_eq_true rfl) rcN (by decide) (by decide) (c_isOfKind hG g3 (by rw [g4]; exact kcl_dc _)) ?_
    refine g_nmI (ikC (kcl (E 1 d)) k) (by rw [g4]) ?_
    refine g_if_eq (tgt := 44) hX (dk DX11_taken 19 rfl) (by decide) (fun hc2 => ?_) (fun hc2 => ?_)
    · refine g_bipush (v := -12) hX (dk DX11_taken 23 rfl) (by decide) ?_
      refine g_ireturn hX (dk DX11_taken 24 rfl) rfl (rfl) (by decide) (by decide) ?_
      first
      | exact qX_of (by unfold takenS; rw [if_neg (show ¬ ¬ (0 ≤ k ∧ k ≤ 6) by assumption), if_neg (not_not_intro hDD), htd, if_pos (Decidable.not_not.mp (fun z => (show ¬ ikC (kcl (E 1 d)) k = 0 by assumption) (htk.1.mpr z)))]) hY
      | exact qX_of (by unfold takenS; rw [if_neg (show ¬ ¬ (0 ≤ k ∧ k ≤ 6) by assumption), if_neg (not_not_intro hDD), htd, if_neg (htk.1.mp (by assumption))]) hY
    · refine g_aload_3 hX (dk DX11_taken 20 rfl) ?_
      refine g_c1I hX (sD_X11_taken_38 _ (by rw [g4]; exact kcl_dc _)) (by decide) (Nat.le_of_ble_eq_true rfl) (rc0 rfl g3 rfl) (by decide) (by decide) (cD_kind hG g3 (by rw [g4]; exact kcl_dc _)) ?_
      refine g_nmI (E 1 d) (by rw [g4]; exact htk.2) ?_
      refine g_goto (tgt := 46) hX (dk DX11_taken 22 rfl) (by decide) ?_
      refine g_ireturn hX (dk DX11_taken 24 rfl) rfl (rfl) (by decide) (by decide) ?_
      first
      | exact qX_of (by unfold takenS; rw [if_neg (show ¬ ¬ (0 ≤ k ∧ k ≤ 6) by assumption), if_neg (not_not_intro hDD), htd, if_pos (Decidable.not_not.mp (fun z => (show ¬ ikC (kcl (E 1 d)) k = 0 by assumption) (htk.1.mpr z)))]) hY
      | exact qX_of (by unfold takenS; rw [if_neg (show ¬ ¬ (0 ≤ k ∧ k ≤ 6) by assumption), if_neg (not_not_intro hDD), htd, if_neg (htk.1.mp (by assumption))]) hY
  · refine g_bipush (v := -2) hX (dk DX11_taken 5 rfl) (by decide) ?_
    refine g_ireturn hX (dk DX11_taken 6 rfl) rfl (rfl) (by decide) (by decide) ?_
    exact qX_of (by unfold takenS; rw [if_pos (by assumption)]) hY

set_option maxRecDepth 8000 in
set_option maxHeartbeats 4000000 in
theorem z_taken {G : Gt} (hG : Gok G) {I : It} {h : Ht}  {E : It} {L : Nat → Int64} (hE : Inv E) (hY : RY E L I h) {a : Int32} (hno : ¬ isD E a) {k : Int32} : Con G (4) 0 0 mX11_taken [.ref 0, .int a, .int k] I h (qX (takenS E a k) L (hn h)) := by
  refine con_intro (own := RX11) (lo0 := [some (.ref 0), some (.int a), some (.int k), none]) hG rfl pl_X11 (Nat.le_of_ble_eq_true rfl) rfl (fun X hX => ?_)
  have hW := hY.wx hE
  have hH := hW.1
  have hc10 := hW.2.1.2
  refine g_iload_2 hX (dk DX11_taken 0 rfl) ?_
  refine g_iconst (v := 0) hX (dk DX11_taken 1 rfl) (by decide) ?_
  refine g_bipush (v := 6) hX (dk DX11_taken 2 rfl) (by decide) ?_
  refine g_c3I hX sX11_taken_4 (by decide) (Nat.le_of_ble_eq_true rfl) rcN (by decide) (by decide) (c_X11_isNot hG ) ?_
  refine g_ifb_eq (tgt := 13) hX (dk DX11_taken 4 rfl) (by decide) (fun hc1 => ?_) (fun hc1 => ?_)
  · refine g_aload_0 hX (dk DX11_taken 7 rfl) ?_
    refine g_getRs (r := 1) hX (dk DX11_taken 8 rfl) KX11 fX11_12 (by decide) rfl (CLt hH (q := 0) (by decide)) (CC hH 0 (by decide) rfl) (CR hH 0 0 1 (by decide)) ?_
    refine g_iload_1 hX (dk DX11_taken 9 rfl) ?_
    refine g_c2R hX sX11_taken_18 (by decide) (Nat.le_of_ble_eq_true rfl) (rc0 rfl (CLt hH (by decide)) (CC hH 1 (by decide) rfl)) (by decide) (by decide) (c_X5_find0 hG hW (hY.no hE hno)) ?_
    refine g_astoreN_3 hX (dk DX11_taken 11 rfl) (by decide) rfl ?_
    refine g_aloadN_3 hX (dk DX11_taken 12 rfl) ?_
    refine g_ifnonnullN hX (dk DX11_taken 13 rfl) ?_
    refine g_bipush (v := -11) hX (dk DX11_taken 14 rfl) (by decide) ?_
    refine g_ireturn hX (dk DX11_taken 15 rfl) rfl (rfl) (by decide) (by decide) ?_
    exact qX_of (by unfold takenS; rw [if_neg (show ¬ ¬ (0 ≤ k ∧ k ≤ 6) by assumption), if_pos hno]) hY
  · refine g_bipush (v := -2) hX (dk DX11_taken 5 rfl) (by decide) ?_
    refine g_ireturn hX (dk DX11_taken 6 rfl) rfl (rfl) (by decide) (by decide) ?_
    exact qX_of (by unfold takenS; rw [if_pos (by assumption)]) hY

theorem x_taken {G : Gt} (hG : Gok G) {I : It} {h : Ht} {E : It} {L : Nat → Int64} (hE : Inv E) (hY : RY E L I h) {a : Int32} {k : Int32} : Con G 4 0 0 mX11_taken [.ref 0, .int a, .int k] I h (qX (takenS E a k) L (hn h)) := by
  by_cases hh : isD E a
  · obtain ⟨d, hd, rfl⟩ := isD_of hE hh
    exact y_taken hG hE hY hd (k := k)
  · exact z_taken hG hE hY hh (k := k)
