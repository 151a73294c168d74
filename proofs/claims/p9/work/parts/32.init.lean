def fresh (E : It) : Prop := (∀ j, j ∈ pfL → E 0 j = if j = 16 ∨ j = 48 then -1 else 0) ∧ (∀ a, a ∈ pcL → a ≠ 36 → ∀ j, E a j = 0) ∧ ∀ t, t < 6 → E 36 t = -1
theorem al_0 {P : Nat → Prop} : ∀ j, j < 0 → P j := fun j hj => absurd hj (Nat.not_lt_zero j)
theorem al_s {P : Nat → Prop} {n : Nat} (h : ∀ j, j < n → P j) (hn : P n) : ∀ j, j < n + 1 → P j := fun j hj => by
  rcases Nat.lt_or_ge j n with z | z
  · exact h j z
  · rw [show j = n by omega]; exact hn
theorem am_0 {P : Nat → Prop} : ∀ j, j ∈ ([] : List Nat) → P j := fun j hj => absurd hj (List.not_mem_nil)
theorem am_s {P : Nat → Prop} {a : Nat} {l : List Nat} (hn : P a) (h : ∀ j, j ∈ l → P j) : ∀ j, j ∈ a :: l → P j := fun j hj => by
  rcases List.mem_cons.mp hj with rfl | z
  · exact hn
  · exact h j z
set_option maxRecDepth 8000 in
set_option maxHeartbeats 4000000 in
theorem c_X12_init {G : Gt} (hG : Gok G) {I : It} {h : Ht}  (hGn : ∀ a, 1 ≤ a → a < 40 → Gnew G a) {L0 : Nat → Nat → Int64} {R0 : Nat → Nat → Option Nat} {S0 : Nat → Nat × Nat} (hS0 : S0 0 = (12, 0)) (hR0 : ∀ j, R0 0 j = none) (hh : h = (L0, R0, fun q => if q = 0 then (12, 0) else S0 q, 1)) : Con G (1) 39 2858 mX12_init [.ref 0] I h (qV fun I2 h2 => fresh I2 ∧ SM I2 (fun _ => 0) I2 h2) := by
  refine con_intro (own := RX12) (lo0 := [some (.ref 0)]) hG rfl pl_X12 (Nat.le_of_ble_eq_true rfl) rfl (fun X hX => ?_)
  subst hh
  refine g_aload_0 hX (dk DX12_init_0 0 rfl) ?_
  refine g_objInit hX (dk DX12_init_0 1 rfl) (tg_4 230 rfl rfl) (tg_1 24 rfl rfl) (tg_1 25 rfl rfl) (by decide) (by decide) ?_
  refine g_aload_0 hX (dk DX12_init_0 2 rfl) ?_
  refine g_iconst (v := 0) hX (dk DX12_init_0 3 rfl) (by decide) ?_
  refine g_putI hX (dk DX12_init_0 4 rfl) KX12 fX12_7 (by decide) rfl (Nat.le_of_ble_eq_true rfl) rfl (Or.inl rfl) (rfl) (rfl) ?_
  refine g_aload_0 hX (dk DX12_init_0 5 rfl) ?_
  refine g_iconst (v := 0) hX (dk DX12_init_0 6 rfl) (by decide) ?_
  refine g_putI hX (dk DX12_init_0 7 rfl) KX12 fX12_13 (by decide) rfl (Nat.le_of_ble_eq_true rfl) rfl (Or.inl rfl) (rfl) (rfl) ?_
  refine g_aload_0 hX (dk DX12_init_0 8 rfl) ?_
  refine g_iconst (v := 0) hX (dk DX12_init_0 9 rfl) (by decide) ?_
  refine g_putI hX (dk DX12_init_0 10 rfl) KX12 fX12_16 (by decide) rfl (Nat.le_of_ble_eq_true rfl) rfl (Or.inl rfl) (rfl) (rfl) ?_
  refine g_aload_0 hX (dk DX12_init_0 11 rfl) ?_
  refine g_iconst (v := 0) hX (dk DX12_init_0 12 rfl) (by decide) ?_
  refine g_putI hX (dk DX12_init_0 13 rfl) KX12 fX12_19 (by decide) rfl (Nat.le_of_ble_eq_true rfl) rfl (Or.inl rfl) (rfl) (rfl) ?_
  refine g_aload_0 hX (dk DX12_init_0 14 rfl) ?_
  refine g_iconst (v := 0) hX (dk DX12_init_0 15 rfl) (by decide) ?_
  refine g_putI hX (dk DX12_init_0 16 rfl) KX12 fX12_22 (by decide) rfl (Nat.le_of_ble_eq_true rfl) rfl (Or.inl rfl) (rfl) (rfl) ?_
  refine g_aload_0 hX (dk DX12_init_0 17 rfl) ?_
  refine g_iconst (v := 0) hX (dk DX12_init_0 18 rfl) (by decide) ?_
  refine g_putI hX (dk DX12_init_0 19 rfl) KX12 fX12_25 (by decide) rfl (Nat.le_of_ble_eq_true rfl) rfl (Or.inl rfl) (rfl) (rfl) ?_
  refine g_aload_0 hX (dk DX12_init_0 20 rfl) ?_
  refine g_iconst (v := 0) hX (dk DX12_init_0 21 rfl) (by decide) ?_
  refine g_putI hX (dk DX12_init_0 22 rfl) KX12 fX12_28 (by decide) rfl (Nat.le_of_ble_eq_true rfl) rfl (Or.inl rfl) (rfl) (rfl) ?_
  refine g_aload_0 hX (dk DX12_init_0 23 rfl) ?_
  refine g_bipush (v := 10) hX (dk DX12_init_0 24 rfl) (by decide) ?_
  refine g_nw_int hX 1 2 10 (by first | rfl | exact hh) rfl (dk DX12_init_0 25 rfl) (tg_1 96 rfl rfl) rfl (by decide) (hGn 1 (by decide) (by decide)) (by decide) (by decide) ?_
  refine g_putR (r := some 1) hX (dk DX12_init_0 26 rfl) KX12 fX12_31 (by decide) rfl (Nat.le_of_ble_eq_true rfl) rfl (Or.inr ⟨rfl, rfl, rfl⟩) rfl (rfl) (rfl) ?_
  refine g_aload_0 hX (dk DX12_init_0 27 rfl) ?_
  refine g_bipush (v := 10) hX (dk DX12_init_0 28 rfl) (by decide) ?_
  refine g_nw_int hX 2 3 10 (by first | rfl | exact hh) rfl (dk DX12_init_0 29 rfl) (tg_1 96 rfl rfl) rfl (by decide) (hGn 2 (by decide) (by decide)) (by decide) (by decide) ?_
  refine g_putR (r := some 2) hX (dk DX12_init_0 30 rfl) KX12 fX12_35 (by decide) rfl (Nat.le_of_ble_eq_true rfl) rfl (Or.inr ⟨rfl, rfl, rfl⟩) rfl (rfl) (rfl) ?_
  refine g_aload_0 hX (dk DX12_init_0 31 rfl) ?_
  refine g_bipush (v := 10) hX (dk DX12_init_0 32 rfl) (by decide) ?_
  refine g_nw_int hX 3 4 10 (by first | rfl | exact hh) rfl (dk DX12_init_0 33 rfl) (tg_1 96 rfl rfl) rfl (by decide) (hGn 3 (by decide) (by decide)) (by decide) (by decide) ?_
  refine g_putR (r := some 3) hX (dk DX12_init_0 34 rfl) KX12 fX12_38 (by decide) rfl (Nat.le_of_ble_eq_true rfl) rfl (Or.inr ⟨rfl, rfl, rfl⟩) rfl (rfl) (rfl) ?_
  refine g_aload_0 hX (dk DX12_init_0 35 rfl) ?_
  refine g_bipush (v := 10) hX (dk DX12_init_0 36 rfl) (by decide) ?_
  refine g_nw_int hX 4 5 10 (by first | rfl | exact hh) rfl (dk DX12_init_0 37 rfl) (tg_1 96 rfl rfl) rfl (by decide) (hGn 4 (by decide) (by decide)) (by decide) (by decide) ?_
  refine g_putR (r := some 4) hX (dk DX12_init_0 38 rfl) KX12 fX12_41 (by decide) rfl (Nat.le_of_ble_eq_true rfl) rfl (Or.inr ⟨rfl, rfl, rfl⟩) rfl (rfl) (rfl) ?_
  refine g_aload_0 hX (dk DX12_init_0 39 rfl) ?_
  refine g_bipush (v := 10) hX (dk DX12_init_0 40 rfl) (by decide) ?_
  refine g_nw_int hX 5 6 10 (by first | rfl | exact hh) rfl (dk DX12_init_0 41 rfl) (tg_1 96 rfl rfl) rfl (by decide) (hGn 5 (by decide) (by decide)) (by decide) (by decide) ?_
  refine g_putR (r := some 5) hX (dk DX12_init_0 42 rfl) KX12 fX12_44 (by decide) rfl (Nat.le_of_ble_eq_true rfl) rfl (Or.inr ⟨rfl, rfl, rfl⟩) rfl (rfl) (rfl) ?_
  refine g_aload_0 hX (dk DX12_init_0 43 rfl) ?_
  refine g_bipush (v := 10) hX (dk DX12_init_0 44 rfl) (by decide) ?_
  refine g_nw_int hX 6 7 10 (by first | rfl | exact hh) rfl (dk DX12_init_0 45 rfl) (tg_1 96 rfl rfl) rfl (by decide) (hGn 6 (by decide) (by decide)) (by decide) (by decide) ?_
  refine g_putR (r := some 6) hX (dk DX12_init_0 46 rfl) KX12 fX12_47 (by decide) rfl (Nat.le_of_ble_eq_true rfl) rfl (Or.inr ⟨rfl, rfl, rfl⟩) rfl (rfl) (rfl) ?_
  refine g_aload_0 hX (dk DX12_init_0 47 rfl) ?_
  refine g_bipush (v := 10) hX (dk DX12_init_0 48 rfl) (by decide) ?_
  refine g_nw_int hX 7 8 10 (by first | rfl | exact hh) rfl (dk DX12_init_0 49 rfl) (tg_1 96 rfl rfl) rfl (by decide) (hGn 7 (by decide) (by decide)) (by decide) (by decide) ?_
  refine g_putR (r := some 7) hX (dk DX12_init_0 50 rfl) KX12 fX12_50 (by decide) rfl (Nat.le_of_ble_eq_true rfl) rfl (Or.inr ⟨rfl, rfl, rfl⟩) rfl (rfl) (rfl) ?_
  refine g_aload_0 hX (dk DX12_init_0 51 rfl) ?_
  refine g_iconst (v := 4) hX (dk DX12_init_0 52 rfl) (by decide) ?_
  refine g_nw_int hX 8 9 4 (by first | rfl | exact hh) rfl (dk DX12_init_0 53 rfl) (tg_1 96 rfl rfl) rfl (by decide) (hGn 8 (by decide) (by decide)) (by decide) (by decide) ?_
  refine g_putR (r := some 8) hX (dk DX12_init_0 54 rfl) KX12 fX12_53 (by decide) rfl (Nat.le_of_ble_eq_true rfl) rfl (Or.inr ⟨rfl, rfl, rfl⟩) rfl (rfl) (rfl) ?_
  refine g_aload_0 hX (dk DX12_init_0 55 rfl) ?_
  refine g_iconst (v := 0) hX (dk DX12_init_0 56 rfl) (by decide) ?_
  refine g_putI hX (dk DX12_init_0 57 rfl) KX12 fX12_56 (by decide) rfl (Nat.le_of_ble_eq_true rfl) rfl (Or.inl rfl) (rfl) (rfl) ?_
  refine g_aload_0 hX (dk DX12_init_0 58 rfl) ?_
  refine g_iconst (v := -1) hX (dk DX12_init_0 59 rfl) (by decide) ?_
  refine g_putI hX (dk DX12_init_1 0 rfl) KX12 fX12_59 (by decide) rfl (Nat.le_of_ble_eq_true rfl) rfl (Or.inl rfl) (rfl) (rfl) ?_
  refine g_aload_0 hX (dk DX12_init_1 1 rfl) ?_
  refine g_iconst (v := 0) hX (dk DX12_init_1 2 rfl) (by decide) ?_
  refine g_putI hX (dk DX12_init_1 3 rfl) KX12 fX12_62 (by decide) rfl (Nat.le_of_ble_eq_true rfl) rfl (Or.inl rfl) (rfl) (rfl) ?_
  refine g_aload_0 hX (dk DX12_init_1 4 rfl) ?_
  refine g_iconst (v := 0) hX (dk DX12_init_1 5 rfl) (by decide) ?_
  refine g_putI hX (dk DX12_init_1 6 rfl) KX12 fX12_65 (by decide) rfl (Nat.le_of_ble_eq_true rfl) rfl (Or.inl rfl) (rfl) (rfl) ?_
  refine g_aload_0 hX (dk DX12_init_1 7 rfl) ?_
  refine g_iconst (v := 0) hX (dk DX12_init_1 8 rfl) (by decide) ?_
  refine g_putI hX (dk DX12_init_1 9 rfl) KX12 fX12_68 (by decide) rfl (Nat.le_of_ble_eq_true rfl) rfl (Or.inl rfl) (rfl) (rfl) ?_
  refine g_aload_0 hX (dk DX12_init_1 10 rfl) ?_
  refine g_bipush (v := 100) hX (dk DX12_init_1 11 rfl) (by decide) ?_
  refine g_nw_int hX 9 10 100 (by first | rfl | exact hh) rfl (dk DX12_init_1 12 rfl) (tg_1 96 rfl rfl) rfl (by decide) (hGn 9 (by decide) (by decide)) (by decide) (by decide) ?_
  refine g_putR (r := some 9) hX (dk DX12_init_1 13 rfl) KX12 fX12_71 (by decide) rfl (Nat.le_of_ble_eq_true rfl) rfl (Or.inr ⟨rfl, rfl, rfl⟩) rfl (rfl) (rfl) ?_
  refine g_aload_0 hX (dk DX12_init_1 14 rfl) ?_
  refine g_bipush (v := 6) hX (dk DX12_init_1 15 rfl) (by decide) ?_
  refine g_nw_int hX 10 11 6 (by first | rfl | exact hh) rfl (dk DX12_init_1 16 rfl) (tg_1 96 rfl rfl) rfl (by decide) (hGn 10 (by decide) (by decide)) (by decide) (by decide) ?_
  refine g_putR (r := some 10) hX (dk DX12_init_1 17 rfl) KX12 fX12_74 (by decide) rfl (Nat.le_of_ble_eq_true rfl) rfl (Or.inr ⟨rfl, rfl, rfl⟩) rfl (rfl) (rfl) ?_
  refine g_aload_0 hX (dk DX12_init_1 18 rfl) ?_
  refine g_bipush (v := 60) hX (dk DX12_init_1 19 rfl) (by decide) ?_
  refine g_nw_int hX 11 12 60 (by first | rfl | exact hh) rfl (dk DX12_init_1 20 rfl) (tg_1 96 rfl rfl) rfl (by decide) (hGn 11 (by decide) (by decide)) (by decide) (by decide) ?_
  refine g_putR (r := some 11) hX (dk DX12_init_1 21 rfl) KX12 fX12_77 (by decide) rfl (Nat.le_of_ble_eq_true rfl) rfl (Or.inr ⟨rfl, rfl, rfl⟩) rfl (rfl) (rfl) ?_
  refine g_aload_0 hX (dk DX12_init_1 22 rfl) ?_
  refine g_bipush (v := 60) hX (dk DX12_init_1 23 rfl) (by decide) ?_
  refine g_nw_int hX 12 13 60 (by first | rfl | exact hh) rfl (dk DX12_init_1 24 rfl) (tg_1 96 rfl rfl) rfl (by decide) (hGn 12 (by decide) (by decide)) (by decide) (by decide) ?_
  refine g_putR (r := some 12) hX (dk DX12_init_1 25 rfl) KX12 fX12_80 (by decide) rfl (Nat.le_of_ble_eq_true rfl) rfl (Or.inr ⟨rfl, rfl, rfl⟩) rfl (rfl) (rfl) ?_
  refine g_aload_0 hX (dk DX12_init_1 26 rfl) ?_
  refine g_bipush (v := 60) hX (dk DX12_init_1 27 rfl) (by decide) ?_
  refine g_nw_int hX 13 14 60 (by first | rfl | exact hh) rfl (dk DX12_init_1 28 rfl) (tg_1 96 rfl rfl) rfl (by decide) (hGn 13 (by decide) (by decide)) (by decide) (by decide) ?_
  refine g_putR (r := some 13) hX (dk DX12_init_1 29 rfl) KX12 fX12_83 (by decide) rfl (Nat.le_of_ble_eq_true rfl) rfl (Or.inr ⟨rfl, rfl, rfl⟩) rfl (rfl) (rfl) ?_
  refine g_aload_0 hX (dk DX12_init_1 30 rfl) ?_
  refine g_bipush (v := 60) hX (dk DX12_init_1 31 rfl) (by decide) ?_
  refine g_nw_int hX 14 15 60 (by first | rfl | exact hh) rfl (dk DX12_init_1 32 rfl) (tg_1 96 rfl rfl) rfl (by decide) (hGn 14 (by decide) (by decide)) (by decide) (by decide) ?_
  refine g_putR (r := some 14) hX (dk DX12_init_1 33 rfl) KX12 fX12_86 (by decide) rfl (Nat.le_of_ble_eq_true rfl) rfl (Or.inr ⟨rfl, rfl, rfl⟩) rfl (rfl) (rfl) ?_
  refine g_aload_0 hX (dk DX12_init_1 34 rfl) ?_
  refine g_sipush (v := 600) hX (dk DX12_init_1 35 rfl) (by decide) ?_
  refine g_nw_int hX 15 16 600 (by first | rfl | exact hh) rfl (dk DX12_init_1 36 rfl) (tg_1 96 rfl rfl) rfl (by decide) (hGn 15 (by decide) (by decide)) (by decide) (by decide) ?_
  refine g_putR (r := some 15) hX (dk DX12_init_1 37 rfl) KX12 fX12_89 (by decide) rfl (Nat.le_of_ble_eq_true rfl) rfl (Or.inr ⟨rfl, rfl, rfl⟩) rfl (rfl) (rfl) ?_
  refine g_aload_0 hX (dk DX12_init_1 38 rfl) ?_
  refine g_bipush (v := 101) hX (dk DX12_init_1 39 rfl) (by decide) ?_
  refine g_nw_int hX 16 17 101 (by first | rfl | exact hh) rfl (dk DX12_init_1 40 rfl) (tg_1 96 rfl rfl) rfl (by decide) (hGn 16 (by decide) (by decide)) (by decide) (by decide) ?_
  refine g_putR (r := some 16) hX (dk DX12_init_1 41 rfl) KX12 fX12_92 (by decide) rfl (Nat.le_of_ble_eq_true rfl) rfl (Or.inr ⟨rfl, rfl, rfl⟩) rfl (rfl) (rfl) ?_
  refine g_aload_0 hX (dk DX12_init_1 42 rfl) ?_
  refine g_iconst (v := 0) hX (dk DX12_init_1 43 rfl) (by decide) ?_
  refine g_putI hX (dk DX12_init_1 44 rfl) KX12 fX12_95 (by decide) rfl (Nat.le_of_ble_eq_true rfl) rfl (Or.inl rfl) (rfl) (rfl) ?_
  refine g_aload_0 hX (dk DX12_init_1 45 rfl) ?_
  refine g_iconst (v := 0) hX (dk DX12_init_1 46 rfl) (by decide) ?_
  refine g_putI hX (dk DX12_init_1 47 rfl) KX12 fX12_98 (by decide) rfl (Nat.le_of_ble_eq_true rfl) rfl (Or.inl rfl) (rfl) (rfl) ?_
  refine g_aload_0 hX (dk DX12_init_1 48 rfl) ?_
  refine g_iconst (v := 0) hX (dk DX12_init_1 49 rfl) (by decide) ?_
  refine g_putI hX (dk DX12_init_1 50 rfl) KX12 fX12_101 (by decide) rfl (Nat.le_of_ble_eq_true rfl) rfl (Or.inl rfl) (rfl) (rfl) ?_
  refine g_aload_0 hX (dk DX12_init_1 51 rfl) ?_
  refine g_bipush (v := 15) hX (dk DX12_init_1 52 rfl) (by decide) ?_
  refine g_nw_int hX 17 18 15 (by first | rfl | exact hh) rfl (dk DX12_init_1 53 rfl) (tg_1 96 rfl rfl) rfl (by decide) (hGn 17 (by decide) (by decide)) (by decide) (by decide) ?_
  refine g_dup hX (dk DX12_init_1 54 rfl) rfl ?_
  refine g_iconst (v := 0) hX (dk DX12_init_1 55 rfl) (by decide) ?_
  refine g_bipush (v := 115) hX (dk DX12_init_1 56 rfl) (by decide) ?_
  refine i_iastore (j := 0) hX (dk DX12_init_1 57 rfl) (Nat.le_of_ble_eq_true rfl) rfl (⟨rfl, by decide, by decide⟩) ?_
  refine g_dup hX (dk DX12_init_1 58 rfl) rfl ?_
  refine g_iconst (v := 1) hX (dk DX12_init_1 59 rfl) (by decide) ?_
  refine g_bipush (v := 97) hX (dk DX12_init_2 0 rfl) (by decide) ?_
  refine i_iastore (j := 1) hX (dk DX12_init_2 1 rfl) (Nat.le_of_ble_eq_true rfl) rfl (⟨rfl, by decide, by decide⟩) ?_
  refine g_dup hX (dk DX12_init_2 2 rfl) rfl ?_
  refine g_iconst (v := 2) hX (dk DX12_init_2 3 rfl) (by decide) ?_
  refine g_bipush (v := 121) hX (dk DX12_init_2 4 rfl) (by decide) ?_
  refine i_iastore (j := 2) hX (dk DX12_init_2 5 rfl) (Nat.le_of_ble_eq_true rfl) rfl (⟨rfl, by decide, by decide⟩) ?_
  refine g_dup hX (dk DX12_init_2 6 rfl) rfl ?_
  refine g_iconst (v := 3) hX (dk DX12_init_2 7 rfl) (by decide) ?_
  refine g_bipush (v := 99) hX (dk DX12_init_2 8 rfl) (by decide) ?_
  refine i_iastore (j := 3) hX (dk DX12_init_2 9 rfl) (Nat.le_of_ble_eq_true rfl) rfl (⟨rfl, by decide, by decide⟩) ?_
  refine g_dup hX (dk DX12_init_2 10 rfl) rfl ?_
  refine g_iconst (v := 4) hX (dk DX12_init_2 11 rfl) (by decide) ?_
  refine g_bipush (v := 111) hX (dk DX12_init_2 12 rfl) (by decide) ?_
  refine i_iastore (j := 4) hX (dk DX12_init_2 13 rfl) (Nat.le_of_ble_eq_true rfl) rfl (⟨rfl, by decide, by decide⟩) ?_
  refine g_dup hX (dk DX12_init_2 14 rfl) rfl ?_
  refine g_iconst (v := 5) hX (dk DX12_init_2 15 rfl) (by decide) ?_
  refine g_bipush (v := 115) hX (dk DX12_init_2 16 rfl) (by decide) ?_
  refine i_iastore (j := 5) hX (dk DX12_init_2 17 rfl) (Nat.le_of_ble_eq_true rfl) rfl (⟨rfl, by decide, by decide⟩) ?_
  refine g_dup hX (dk DX12_init_2 18 rfl) rfl ?_
  refine g_bipush (v := 6) hX (dk DX12_init_2 19 rfl) (by decide) ?_
  refine g_bipush (v := 116) hX (dk DX12_init_2 20 rfl) (by decide) ?_
  refine i_iastore (j := 6) hX (dk DX12_init_2 21 rfl) (Nat.le_of_ble_eq_true rfl) rfl (⟨rfl, by decide, by decide⟩) ?_
  refine g_dup hX (dk DX12_init_2 22 rfl) rfl ?_
  refine g_bipush (v := 7) hX (dk DX12_init_2 23 rfl) (by decide) ?_
  refine g_bipush (v := 99) hX (dk DX12_init_2 24 rfl) (by decide) ?_
  refine i_iastore (j := 7) hX (dk DX12_init_2 25 rfl) (Nat.le_of_ble_eq_true rfl) rfl (⟨rfl, by decide, by decide⟩) ?_
  refine g_dup hX (dk DX12_init_2 26 rfl) rfl ?_
  refine g_bipush (v := 8) hX (dk DX12_init_2 27 rfl) (by decide) ?_
  refine g_bipush (v := 97) hX (dk DX12_init_2 28 rfl) (by decide) ?_
  refine i_iastore (j := 8) hX (dk DX12_init_2 29 rfl) (Nat.le_of_ble_eq_true rfl) rfl (⟨rfl, by decide, by decide⟩) ?_
  refine g_dup hX (dk DX12_init_2 30 rfl) rfl ?_
  refine g_bipush (v := 9) hX (dk DX12_init_2 31 rfl) (by decide) ?_
  refine g_bipush (v := 108) hX (dk DX12_init_2 32 rfl) (by decide) ?_
  refine i_iastore (j := 9) hX (dk DX12_init_2 33 rfl) (Nat.le_of_ble_eq_true rfl) rfl (⟨rfl, by decide, by decide⟩) ?_
  refine g_dup hX (dk DX12_init_2 34 rfl) rfl ?_
  refine g_bipush (v := 10) hX (dk DX12_init_2 35 rfl) (by decide) ?_
  refine g_bipush (v := 108) hX (dk DX12_init_2 36 rfl) (by decide) ?_
  refine i_iastore (j := 10) hX (dk DX12_init_2 37 rfl) (Nat.le_of_ble_eq_true rfl) rfl (⟨rfl, by decide, by decide⟩) ?_
  refine g_dup hX (dk DX12_init_2 38 rfl) rfl ?_
  refine g_bipush (v := 11) hX (dk DX12_init_2 39 rfl) (by decide) ?_
  refine g_bipush (v := 102) hX (dk DX12_init_2 40 rfl) (by decide) ?_
  refine i_iastore (j := 11) hX (dk DX12_init_2 41 rfl) (Nat.le_of_ble_eq_true rfl) rfl (⟨rfl, by decide, by decide⟩) ?_
  refine g_dup hX (dk DX12_init_2 42 rfl) rfl ?_
  refine g_bipush (v := 12) hX (dk DX12_init_2 43 rfl) (by decide) ?_
  refine g_bipush (v := 97) hX (dk DX12_init_2 44 rfl) (by decide) ?_
  refine i_iastore (j := 12) hX (dk DX12_init_2 45 rfl) (Nat.le_of_ble_eq_true rfl) rfl (⟨rfl, by decide, by decide⟩) ?_
  refine g_dup hX (dk DX12_init_2 46 rfl) rfl ?_
  refine g_bipush (v := 13) hX (dk DX12_init_2 47 rfl) (by decide) ?_
  refine g_bipush (v := 100) hX (dk DX12_init_2 48 rfl) (by decide) ?_
  refine i_iastore (j := 13) hX (dk DX12_init_2 49 rfl) (Nat.le_of_ble_eq_true rfl) rfl (⟨rfl, by decide, by decide⟩) ?_
  refine g_dup hX (dk DX12_init_2 50 rfl) rfl ?_
  refine g_bipush (v := 14) hX (dk DX12_init_2 51 rfl) (by decide) ?_
  refine g_bipush (v := 101) hX (dk DX12_init_2 52 rfl) (by decide) ?_
  refine i_iastore (j := 14) hX (dk DX12_init_2 53 rfl) (Nat.le_of_ble_eq_true rfl) rfl (⟨rfl, by decide, by decide⟩) ?_
  refine g_putR (r := some 17) hX (dk DX12_init_2 54 rfl) KX12 fX12_104 (by decide) rfl (Nat.le_of_ble_eq_true rfl) rfl (Or.inr ⟨rfl, rfl, rfl⟩) rfl (rfl) (rfl) ?_
  refine g_aload_0 hX (dk DX12_init_2 55 rfl) ?_
  refine g_bipush (v := 100) hX (dk DX12_init_2 56 rfl) (by decide) ?_
  refine g_nw_boolean hX 18 19 100 (by first | rfl | exact hh) rfl (dk DX12_init_2 57 rfl) (tg_5 211 rfl rfl) rfl (by decide) (hGn 18 (by decide) (by decide)) (by decide) (by decide) ?_
  refine g_putR (r := some 18) hX (dk DX12_init_2 58 rfl) KX12 fX12_107 (by decide) rfl (Nat.le_of_ble_eq_true rfl) rfl (Or.inr ⟨rfl, rfl, rfl⟩) rfl (rfl) (rfl) ?_
  refine g_aload_0 hX (dk DX12_init_2 59 rfl) ?_
  refine g_bipush (v := 40) hX (dk DX12_init_3 0 rfl) (by decide) ?_
  refine g_nw_int hX 19 20 40 (by first | rfl | exact hh) rfl (dk DX12_init_3 1 rfl) (tg_1 96 rfl rfl) rfl (by decide) (hGn 19 (by decide) (by decide)) (by decide) (by decide) ?_
  refine g_putR (r := some 19) hX (dk DX12_init_3 2 rfl) KX12 fX12_111 (by decide) rfl (Nat.le_of_ble_eq_true rfl) rfl (Or.inr ⟨rfl, rfl, rfl⟩) rfl (rfl) (rfl) ?_
  refine g_aload_0 hX (dk DX12_init_3 3 rfl) ?_
  refine g_iconst (v := 0) hX (dk DX12_init_3 4 rfl) (by decide) ?_
  refine g_putI hX (dk DX12_init_3 5 rfl) KX12 fX12_114 (by decide) rfl (Nat.le_of_ble_eq_true rfl) rfl (Or.inl rfl) (rfl) (rfl) ?_
  refine g_aload_0 hX (dk DX12_init_3 6 rfl) ?_
  refine g_iconst (v := 0) hX (dk DX12_init_3 7 rfl) (by decide) ?_
  refine g_putI hX (dk DX12_init_3 8 rfl) KX12 fX12_117 (by decide) rfl (Nat.le_of_ble_eq_true rfl) rfl (Or.inl rfl) (rfl) (rfl) ?_
  refine g_aload_0 hX (dk DX12_init_3 9 rfl) ?_
  refine g_iconst (v := 0) hX (dk DX12_init_3 10 rfl) (by decide) ?_
  refine g_putI hX (dk DX12_init_3 11 rfl) KX12 fX12_120 (by decide) rfl (Nat.le_of_ble_eq_true rfl) rfl (Or.inl rfl) (rfl) (rfl) ?_
  refine g_aload_0 hX (dk DX12_init_3 12 rfl) ?_
  refine g_iconst (v := 0) hX (dk DX12_init_3 13 rfl) (by decide) ?_
  refine g_putI hX (dk DX12_init_3 14 rfl) KX12 fX12_123 (by decide) rfl (Nat.le_of_ble_eq_true rfl) rfl (Or.inl rfl) (rfl) (rfl) ?_
  refine g_aload_0 hX (dk DX12_init_3 15 rfl) ?_
  refine g_iconst (v := 0) hX (dk DX12_init_3 16 rfl) (by decide) ?_
  refine g_putI hX (dk DX12_init_3 17 rfl) KX12 fX12_126 (by decide) rfl (Nat.le_of_ble_eq_true rfl) rfl (Or.inl rfl) (rfl) (rfl) ?_
  refine g_aload_0 hX (dk DX12_init_3 18 rfl) ?_
  refine g_iconst (v := 0) hX (dk DX12_init_3 19 rfl) (by decide) ?_
  refine g_putI hX (dk DX12_init_3 20 rfl) KX12 fX12_129 (by decide) rfl (Nat.le_of_ble_eq_true rfl) rfl (Or.inl rfl) (rfl) (rfl) ?_
  refine g_aload_0 hX (dk DX12_init_3 21 rfl) ?_
  refine g_iconst (v := 0) hX (dk DX12_init_3 22 rfl) (by decide) ?_
  refine g_putI hX (dk DX12_init_3 23 rfl) KX12 fX12_132 (by decide) rfl (Nat.le_of_ble_eq_true rfl) rfl (Or.inl rfl) (rfl) (rfl) ?_
  refine g_aload_0 hX (dk DX12_init_3 24 rfl) ?_
  refine g_sipush (v := 1000) hX (dk DX12_init_3 25 rfl) (by decide) ?_
  refine g_nw_boolean hX 20 21 1000 (by first | rfl | exact hh) rfl (dk DX12_init_3 26 rfl) (tg_5 211 rfl rfl) rfl (by decide) (hGn 20 (by decide) (by decide)) (by decide) (by decide) ?_
  refine g_putR (r := some 20) hX (dk DX12_init_3 27 rfl) KX12 fX12_135 (by decide) rfl (Nat.le_of_ble_eq_true rfl) rfl (Or.inr ⟨rfl, rfl, rfl⟩) rfl (rfl) (rfl) ?_
  refine g_aload_0 hX (dk DX12_init_3 28 rfl) ?_
  refine g_iconst (v := 4) hX (dk DX12_init_3 29 rfl) (by decide) ?_
  refine g_nw_int hX 21 22 4 (by first | rfl | exact hh) rfl (dk DX12_init_3 30 rfl) (tg_1 96 rfl rfl) rfl (by decide) (hGn 21 (by decide) (by decide)) (by decide) (by decide) ?_
  refine g_putR (r := some 21) hX (dk DX12_init_3 31 rfl) KX12 fX12_138 (by decide) rfl (Nat.le_of_ble_eq_true rfl) rfl (Or.inr ⟨rfl, rfl, rfl⟩) rfl (rfl) (rfl) ?_
  refine g_aload_0 hX (dk DX12_init_3 32 rfl) ?_
  refine g_iconst (v := 4) hX (dk DX12_init_3 33 rfl) (by decide) ?_
  refine g_nw_int hX 22 23 4 (by first | rfl | exact hh) rfl (dk DX12_init_3 34 rfl) (tg_1 96 rfl rfl) rfl (by decide) (hGn 22 (by decide) (by decide)) (by decide) (by decide) ?_
  refine g_putR (r := some 22) hX (dk DX12_init_3 35 rfl) KX12 fX12_141 (by decide) rfl (Nat.le_of_ble_eq_true rfl) rfl (Or.inr ⟨rfl, rfl, rfl⟩) rfl (rfl) (rfl) ?_
  refine g_aload_0 hX (dk DX12_init_3 36 rfl) ?_
  refine g_iconst (v := 0) hX (dk DX12_init_3 37 rfl) (by decide) ?_
  refine g_putI hX (dk DX12_init_3 38 rfl) KX12 fX12_144 (by decide) rfl (Nat.le_of_ble_eq_true rfl) rfl (Or.inl rfl) (rfl) (rfl) ?_
  refine g_aload_0 hX (dk DX12_init_3 39 rfl) ?_
  refine g_bipush (v := 12) hX (dk DX12_init_3 40 rfl) (by decide) ?_
  refine g_nw_int hX 23 24 12 (by first | rfl | exact hh) rfl (dk DX12_init_3 41 rfl) (tg_1 96 rfl rfl) rfl (by decide) (hGn 23 (by decide) (by decide)) (by decide) (by decide) ?_
  refine g_putR (r := some 23) hX (dk DX12_init_3 42 rfl) KX12 fX12_147 (by decide) rfl (Nat.le_of_ble_eq_true rfl) rfl (Or.inr ⟨rfl, rfl, rfl⟩) rfl (rfl) (rfl) ?_
  refine g_aload_0 hX (dk DX12_init_3 43 rfl) ?_
  refine g_bipush (v := 12) hX (dk DX12_init_3 44 rfl) (by decide) ?_
  refine g_nw_int hX 24 25 12 (by first | rfl | exact hh) rfl (dk DX12_init_3 45 rfl) (tg_1 96 rfl rfl) rfl (by decide) (hGn 24 (by decide) (by decide)) (by decide) (by decide) ?_
  refine g_putR (r := some 24) hX (dk DX12_init_3 46 rfl) KX12 fX12_150 (by decide) rfl (Nat.le_of_ble_eq_true rfl) rfl (Or.inr ⟨rfl, rfl, rfl⟩) rfl (rfl) (rfl) ?_
  refine g_aload_0 hX (dk DX12_init_3 47 rfl) ?_
  refine g_iconst (v := 0) hX (dk DX12_init_3 48 rfl) (by decide) ?_
  refine g_putI hX (dk DX12_init_3 49 rfl) KX12 fX12_153 (by decide) rfl (Nat.le_of_ble_eq_true rfl) rfl (Or.inl rfl) (by decide) (by decide) ?_
  refine g_aload_0 hX (dk DX12_init_3 50 rfl) ?_
  refine g_iconst (v := -1) hX (dk DX12_init_3 51 rfl) (by decide) ?_
  refine g_putI hX (dk DX12_init_3 52 rfl) KX12 fX12_157 (by decide) rfl (Nat.le_of_ble_eq_true rfl) rfl (Or.inl rfl) (rfl) (rfl) ?_
  refine g_aload_0 hX (dk DX12_init_3 53 rfl) ?_
  refine g_iconst (v := 0) hX (dk DX12_init_3 54 rfl) (by decide) ?_
  refine g_putI hX (dk DX12_init_3 55 rfl) KX12 fX12_160 (by decide) rfl (Nat.le_of_ble_eq_true rfl) rfl (Or.inl rfl) (rfl) (rfl) ?_
  refine g_aload_0 hX (dk DX12_init_3 56 rfl) ?_
  refine g_iconst (v := 0) hX (dk DX12_init_3 57 rfl) (by decide) ?_
  refine g_putI hX (dk DX12_init_3 58 rfl) KX12 fX12_163 (by decide) rfl (Nat.le_of_ble_eq_true rfl) rfl (Or.inl rfl) (rfl) (rfl) ?_
  refine g_aload_0 hX (dk DX12_init_3 59 rfl) ?_
  refine g_iconst (v := 0) hX (dk DX12_init_4 0 rfl) (by decide) ?_
  refine g_putI hX (dk DX12_init_4 1 rfl) KX12 fX12_166 (by decide) rfl (Nat.le_of_ble_eq_true rfl) rfl (Or.inl rfl) (rfl) (rfl) ?_
  refine g_aload_0 hX (dk DX12_init_4 2 rfl) ?_
  refine g_iconst (v := 0) hX (dk DX12_init_4 3 rfl) (by decide) ?_
  refine g_putI hX (dk DX12_init_4 4 rfl) KX12 fX12_169 (by decide) rfl (Nat.le_of_ble_eq_true rfl) rfl (Or.inl rfl) (rfl) (rfl) ?_
  refine g_aload_0 hX (dk DX12_init_4 5 rfl) ?_
  refine g_iconst (v := 0) hX (dk DX12_init_4 6 rfl) (by decide) ?_
  refine g_putI hX (dk DX12_init_4 7 rfl) KX12 fX12_172 (by decide) rfl (Nat.le_of_ble_eq_true rfl) rfl (Or.inl rfl) (rfl) (rfl) ?_
  refine g_aload_0 hX (dk DX12_init_4 8 rfl) ?_
  refine g_iconst (v := 0) hX (dk DX12_init_4 9 rfl) (by decide) ?_
  refine g_putI hX (dk DX12_init_4 10 rfl) KX12 fX12_175 (by decide) rfl (Nat.le_of_ble_eq_true rfl) rfl (Or.inl rfl) (rfl) (rfl) ?_
  refine g_aload_0 hX (dk DX12_init_4 11 rfl) ?_
  refine g_iconst (v := 0) hX (dk DX12_init_4 12 rfl) (by decide) ?_
  refine g_putI hX (dk DX12_init_4 13 rfl) KX12 fX12_178 (by decide) rfl (Nat.le_of_ble_eq_true rfl) rfl (Or.inl rfl) (rfl) (rfl) ?_
  refine g_aload_0 hX (dk DX12_init_4 14 rfl) ?_
  refine g_iconst (v := 0) hX (dk DX12_init_4 15 rfl) (by decide) ?_
  refine g_putI hX (dk DX12_init_4 16 rfl) KX12 fX12_181 (by decide) rfl (Nat.le_of_ble_eq_true rfl) rfl (Or.inl rfl) (rfl) (rfl) ?_
  refine g_aload_0 hX (dk DX12_init_4 17 rfl) ?_
  refine g_bipush (v := 10) hX (dk DX12_init_4 18 rfl) (by decide) ?_
  refine g_nw_int hX 25 26 10 (by first | rfl | exact hh) rfl (dk DX12_init_4 19 rfl) (tg_1 96 rfl rfl) rfl (by decide) (hGn 25 (by decide) (by decide)) (by decide) (by decide) ?_
  refine g_putR (r := some 25) hX (dk DX12_init_4 20 rfl) KX12 fX12_184 (by decide) rfl (Nat.le_of_ble_eq_true rfl) rfl (Or.inr ⟨rfl, rfl, rfl⟩) rfl (rfl) (rfl) ?_
  refine g_aload_0 hX (dk DX12_init_4 21 rfl) ?_
  refine g_bipush (v := 10) hX (dk DX12_init_4 22 rfl) (by decide) ?_
  refine g_nw_int hX 26 27 10 (by first | rfl | exact hh) rfl (dk DX12_init_4 23 rfl) (tg_1 96 rfl rfl) rfl (by decide) (hGn 26 (by decide) (by decide)) (by decide) (by decide) ?_
  refine g_putR (r := some 26) hX (dk DX12_init_4 24 rfl) KX12 fX12_187 (by decide) rfl (Nat.le_of_ble_eq_true rfl) rfl (Or.inr ⟨rfl, rfl, rfl⟩) rfl (rfl) (rfl) ?_
  refine g_aload_0 hX (dk DX12_init_4 25 rfl) ?_
  refine g_bipush (v := 10) hX (dk DX12_init_4 26 rfl) (by decide) ?_
  refine g_nw_int hX 27 28 10 (by first | rfl | exact hh) rfl (dk DX12_init_4 27 rfl) (tg_1 96 rfl rfl) rfl (by decide) (hGn 27 (by decide) (by decide)) (by decide) (by decide) ?_
  refine g_putR (r := some 27) hX (dk DX12_init_4 28 rfl) KX12 fX12_190 (by decide) rfl (Nat.le_of_ble_eq_true rfl) rfl (Or.inr ⟨rfl, rfl, rfl⟩) rfl (rfl) (rfl) ?_
  refine g_aload_0 hX (dk DX12_init_4 29 rfl) ?_
  refine g_bipush (v := 10) hX (dk DX12_init_4 30 rfl) (by decide) ?_
  refine g_nw_int hX 28 29 10 (by first | rfl | exact hh) rfl (dk DX12_init_4 31 rfl) (tg_1 96 rfl rfl) rfl (by decide) (hGn 28 (by decide) (by decide)) (by decide) (by decide) ?_
  refine g_putR (r := some 28) hX (dk DX12_init_4 32 rfl) KX12 fX12_193 (by decide) rfl (Nat.le_of_ble_eq_true rfl) rfl (Or.inr ⟨rfl, rfl, rfl⟩) rfl (rfl) (rfl) ?_
  refine g_aload_0 hX (dk DX12_init_4 33 rfl) ?_
  refine g_bipush (v := 10) hX (dk DX12_init_4 34 rfl) (by decide) ?_
  refine g_nw_int hX 29 30 10 (by first | rfl | exact hh) rfl (dk DX12_init_4 35 rfl) (tg_1 96 rfl rfl) rfl (by decide) (hGn 29 (by decide) (by decide)) (by decide) (by decide) ?_
  refine g_putR (r := some 29) hX (dk DX12_init_4 36 rfl) KX12 fX12_196 (by decide) rfl (Nat.le_of_ble_eq_true rfl) rfl (Or.inr ⟨rfl, rfl, rfl⟩) rfl (rfl) (rfl) ?_
  refine g_aload_0 hX (dk DX12_init_4 37 rfl) ?_
  refine g_bipush (v := 10) hX (dk DX12_init_4 38 rfl) (by decide) ?_
  refine g_nw_int hX 30 31 10 (by first | rfl | exact hh) rfl (dk DX12_init_4 39 rfl) (tg_1 96 rfl rfl) rfl (by decide) (hGn 30 (by decide) (by decide)) (by decide) (by decide) ?_
  refine g_putR (r := some 30) hX (dk DX12_init_4 40 rfl) KX12 fX12_199 (by decide) rfl (Nat.le_of_ble_eq_true rfl) rfl (Or.inr ⟨rfl, rfl, rfl⟩) rfl (rfl) (rfl) ?_
  refine g_aload_0 hX (dk DX12_init_4 41 rfl) ?_
  refine g_bipush (v := 10) hX (dk DX12_init_4 42 rfl) (by decide) ?_
  refine g_nw_int hX 31 32 10 (by first | rfl | exact hh) rfl (dk DX12_init_4 43 rfl) (tg_1 96 rfl rfl) rfl (by decide) (hGn 31 (by decide) (by decide)) (by decide) (by decide) ?_
  refine g_putR (r := some 31) hX (dk DX12_init_4 44 rfl) KX12 fX12_202 (by decide) rfl (Nat.le_of_ble_eq_true rfl) rfl (Or.inr ⟨rfl, rfl, rfl⟩) rfl (rfl) (rfl) ?_
  refine g_aload_0 hX (dk DX12_init_4 45 rfl) ?_
  refine g_iconst (v := 4) hX (dk DX12_init_4 46 rfl) (by decide) ?_
  refine g_nw_int hX 32 33 4 (by first | rfl | exact hh) rfl (dk DX12_init_4 47 rfl) (tg_1 96 rfl rfl) rfl (by decide) (hGn 32 (by decide) (by decide)) (by decide) (by decide) ?_
  refine g_putR (r := some 32) hX (dk DX12_init_4 48 rfl) KX12 fX12_205 (by decide) rfl (Nat.le_of_ble_eq_true rfl) rfl (Or.inr ⟨rfl, rfl, rfl⟩) rfl (rfl) (rfl) ?_
  refine g_aload_0 hX (dk DX12_init_4 49 rfl) ?_
  refine g_bipush (v := 12) hX (dk DX12_init_4 50 rfl) (by decide) ?_
  refine g_nw_int hX 33 34 12 (by first | rfl | exact hh) rfl (dk DX12_init_4 51 rfl) (tg_1 96 rfl rfl) rfl (by decide) (hGn 33 (by decide) (by decide)) (by decide) (by decide) ?_
  refine g_putR (r := some 33) hX (dk DX12_init_4 52 rfl) KX12 fX12_208 (by decide) rfl (Nat.le_of_ble_eq_true rfl) rfl (Or.inr ⟨rfl, rfl, rfl⟩) rfl (rfl) (rfl) ?_
  refine g_aload_0 hX (dk DX12_init_4 53 rfl) ?_
  refine g_bipush (v := 12) hX (dk DX12_init_4 54 rfl) (by decide) ?_
  refine g_nw_int hX 34 35 12 (by first | rfl | exact hh) rfl (dk DX12_init_4 55 rfl) (tg_1 96 rfl rfl) rfl (by decide) (hGn 34 (by decide) (by decide)) (by decide) (by decide) ?_
  refine g_putR (r := some 34) hX (dk DX12_init_4 56 rfl) KX12 fX12_211 (by decide) rfl (Nat.le_of_ble_eq_true rfl) rfl (Or.inr ⟨rfl, rfl, rfl⟩) rfl (rfl) (rfl) ?_
  refine g_aload_0 hX (dk DX12_init_4 57 rfl) ?_
  refine g_iconst (v := 0) hX (dk DX12_init_4 58 rfl) (by decide) ?_
  refine g_putI hX (dk DX12_init_4 59 rfl) KX12 fX12_214 (by decide) rfl (Nat.le_of_ble_eq_true rfl) rfl (Or.inl rfl) (rfl) (rfl) ?_
  refine g_aload_0 hX (dk DX12_init_5 0 rfl) ?_
  refine g_bipush (v := 20) hX (dk DX12_init_5 1 rfl) (by decide) ?_
  refine g_nw_int hX 35 36 20 (by first | rfl | exact hh) rfl (dk DX12_init_5 2 rfl) (tg_1 96 rfl rfl) rfl (by decide) (hGn 35 (by decide) (by decide)) (by decide) (by decide) ?_
  refine g_putR (r := some 35) hX (dk DX12_init_5 3 rfl) KX12 fX12_217 (by decide) rfl (Nat.le_of_ble_eq_true rfl) rfl (Or.inr ⟨rfl, rfl, rfl⟩) rfl (rfl) (rfl) ?_
  refine g_aload_0 hX (dk DX12_init_5 4 rfl) ?_
  refine g_bipush (v := 6) hX (dk DX12_init_5 5 rfl) (by decide) ?_
  refine g_nw_int hX 36 37 6 (by first | rfl | exact hh) rfl (dk DX12_init_5 6 rfl) (tg_1 96 rfl rfl) rfl (by decide) (hGn 36 (by decide) (by decide)) (by decide) (by decide) ?_
  refine g_dup hX (dk DX12_init_5 7 rfl) rfl ?_
  refine g_iconst (v := 0) hX (dk DX12_init_5 8 rfl) (by decide) ?_
  refine g_iconst (v := -1) hX (dk DX12_init_5 9 rfl) (by decide) ?_
  refine i_iastore (j := 0) hX (dk DX12_init_5 10 rfl) (Nat.le_of_ble_eq_true rfl) rfl (⟨rfl, by decide, by decide⟩) ?_
  refine g_dup hX (dk DX12_init_5 11 rfl) rfl ?_
  refine g_iconst (v := 1) hX (dk DX12_init_5 12 rfl) (by decide) ?_
  refine g_iconst (v := -1) hX (dk DX12_init_5 13 rfl) (by decide) ?_
  refine i_iastore (j := 1) hX (dk DX12_init_5 14 rfl) (Nat.le_of_ble_eq_true rfl) rfl (⟨rfl, by decide, by decide⟩) ?_
  refine g_dup hX (dk DX12_init_5 15 rfl) rfl ?_
  refine g_iconst (v := 2) hX (dk DX12_init_5 16 rfl) (by decide) ?_
  refine g_iconst (v := -1) hX (dk DX12_init_5 17 rfl) (by decide) ?_
  refine i_iastore (j := 2) hX (dk DX12_init_5 18 rfl) (Nat.le_of_ble_eq_true rfl) rfl (⟨rfl, by decide, by decide⟩) ?_
  refine g_dup hX (dk DX12_init_5 19 rfl) rfl ?_
  refine g_iconst (v := 3) hX (dk DX12_init_5 20 rfl) (by decide) ?_
  refine g_iconst (v := -1) hX (dk DX12_init_5 21 rfl) (by decide) ?_
  refine i_iastore (j := 3) hX (dk DX12_init_5 22 rfl) (Nat.le_of_ble_eq_true rfl) rfl (⟨rfl, by decide, by decide⟩) ?_
  refine g_dup hX (dk DX12_init_5 23 rfl) rfl ?_
  refine g_iconst (v := 4) hX (dk DX12_init_5 24 rfl) (by decide) ?_
  refine g_iconst (v := -1) hX (dk DX12_init_5 25 rfl) (by decide) ?_
  refine i_iastore (j := 4) hX (dk DX12_init_5 26 rfl) (Nat.le_of_ble_eq_true rfl) rfl (⟨rfl, by decide, by decide⟩) ?_
  refine g_dup hX (dk DX12_init_5 27 rfl) rfl ?_
  refine g_iconst (v := 5) hX (dk DX12_init_5 28 rfl) (by decide) ?_
  refine g_iconst (v := -1) hX (dk DX12_init_5 29 rfl) (by decide) ?_
  refine i_iastore (j := 5) hX (dk DX12_init_5 30 rfl) (Nat.le_of_ble_eq_true rfl) rfl (⟨rfl, by decide, by decide⟩) ?_
  refine g_putR (r := some 36) hX (dk DX12_init_5 31 rfl) KX12 fX12_220 (by decide) rfl (Nat.le_of_ble_eq_true rfl) rfl (Or.inr ⟨rfl, rfl, rfl⟩) rfl (rfl) (rfl) ?_
  refine g_aload_0 hX (dk DX12_init_5 32 rfl) ?_
  refine g_bipush (v := 6) hX (dk DX12_init_5 33 rfl) (by decide) ?_
  refine g_nw_int hX 37 38 6 (by first | rfl | exact hh) rfl (dk DX12_init_5 34 rfl) (tg_1 96 rfl rfl) rfl (by decide) (hGn 37 (by decide) (by decide)) (by decide) (by decide) ?_
  refine g_putR (r := some 37) hX (dk DX12_init_5 35 rfl) KX12 fX12_223 (by decide) rfl (Nat.le_of_ble_eq_true rfl) rfl (Or.inr ⟨rfl, rfl, rfl⟩) rfl (rfl) (rfl) ?_
  refine g_aload_0 hX (dk DX12_init_5 36 rfl) ?_
  refine g_sipush (v := 360) hX (dk DX12_init_5 37 rfl) (by decide) ?_
  refine g_nw_long hX 38 39 360 (by first | rfl | exact hh) rfl (dk DX12_init_5 38 rfl) (tg_1 227 rfl rfl) rfl (by decide) (hGn 38 (by decide) (by decide)) (by decide) (by decide) ?_
  refine g_putR (r := some 38) hX (dk DX12_init_5 39 rfl) KX12 fX12_226 (by decide) rfl (Nat.le_of_ble_eq_true rfl) rfl (Or.inr ⟨rfl, rfl, rfl⟩) rfl (rfl) (rfl) ?_
  refine g_aload_0 hX (dk DX12_init_5 40 rfl) ?_
  refine g_bipush (v := 60) hX (dk DX12_init_5 41 rfl) (by decide) ?_
  refine g_nw_long hX 39 40 60 (by first | rfl | exact hh) rfl (dk DX12_init_5 42 rfl) (tg_1 227 rfl rfl) rfl (by decide) (hGn 39 (by decide) (by decide)) (by decide) (by decide) ?_
  refine g_putR (r := some 39) hX (dk DX12_init_5 43 rfl) KX12 fX12_230 (by decide) rfl (Nat.le_of_ble_eq_true rfl) rfl (Or.inr ⟨rfl, rfl, rfl⟩) rfl (rfl) (rfl) ?_
  refine g_return hX (dk DX12_init_5 44 rfl) rfl (by decide) (by decide) ?_
  refine qV_of ⟨⟨?_, ?_, ?_⟩, ⟨fun _ _ _ => rfl, fun _ _ _ => rfl, fun _ _ => rfl, fun _ _ => ⟨rfl, rfl, rfl, rfl⟩, fun _ _ => rfl, ?_⟩, ⟨rfl, ?_, ?_⟩, ?_⟩
  · unfold pfL; repeat (first | exact am_0 | refine am_s rfl ?_)
  · unfold pcL; repeat (first | exact am_0 | refine am_s (fun hne j => by first | rfl | exact absurd rfl hne) ?_)
  · repeat (first | exact al_0 | refine al_s ?_ rfl)
  · repeat (first | exact al_0 | refine al_s ?_ rfl)
  · repeat (first | exact al_0 | refine al_s ?_ rfl)
  · repeat (first | exact al_0 | refine al_s ?_ (by first | rfl | exact hR0 _))
  · rfl

