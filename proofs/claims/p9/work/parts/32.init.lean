section
def fresh (E : It) : Prop := (∀ j, j ∈ pfL → E 0 j = if j = 16 ∨ j = 48 then -1 else 0) ∧ (∀ a, a ∈ pcL → a ≠ 36 → ∀ j, E a j = 0) ∧ ∀ t, t < 6 → E 36 t = -1
theorem al_0 {P : Nat → Prop} : ∀ j, j < 0 → P j := fun j hj => absurd hj (Nat.not_lt_zero j)
theorem al_s {P : Nat → Prop} {n : Nat} (h : ∀ j, j < n → P j) (hn : P n) : ∀ j, j < n + 1 → P j := fun j hj => by
  rcases Nat.lt_or_ge j n with z | z
  · exact h j z
  · rw [show j = n by omega]; exact hn
theorem am_0 {P : Nat → Prop} : ∀ j, j ∈ ([] : List Nat) → P j := fun j hj => absurd hj (List.not_mem_nil)
theorem am_s {P : Nat → Prop} {a : Nat} {l : List Nat} (hn : P a) (h : ∀ j, j ∈ l → P j) : ∀ j, j ∈ a :: l → P j := fun j hj => by
  rcases List.mem_cons.mp hj with rfl | z
  · exact hn
  · exact h j z
set_option maxRecDepth 8000 in
set_option maxHeartbeats 4000000 in
theorem c_X12_init {G : Gt} (hG : Gok G) {I : It} {h : Ht}  (hGn : ∀ a, 1 ≤ a → a < 40 → Gnew G a) {L0 : Nat → Nat → Int64} {R0 : Nat → Nat → Option Nat} {S0 : Nat → Nat × Nat} (hS0 : S0 0 = (12, 0)) (hR0 : ∀ j, R0 0 j = none) (hh : h = (L0, R0, fun q => if q = 0 then (12, 0) else S0 q, 1)) : Con G (1) 39 2858 mX12_init [.ref 0] I h (qV fun I2 h2 => fresh I2 ∧ SM I2 (fun _ => 0) I2 h2) := by
  refine con_intro (own := RX12) (lo0 := [some (.ref 0)]) hG rfl pl_X12 (Nat.le_of_ble_eq_true rfl) rfl (fun X hX => ?_)
  subst hh
  refine g_aload_0 hX (dk DX12_init_0 0 rfl) ?_
  refine g_objInit hX (dk DX12_init_0 1 rfl) (tg_4 230 rfl rfl) (tg_1 24 rfl rfl) (tg_1 25 rfl rfl) (by decide) (by decide) ?_
  refine g_aload_0 hX (dk DX12_init_0 2 rfl) ?_
  refine g_iconst (v := 0) hX (dk DX12_init_0 3 rfl) (by decide) ?_
  refine g_putI hX (dk DX12_init_0 4 rfl) KX12 fX12_7 (by decide) rfl (Nat.le_of_ble_eq_true rfl) rfl (Or.inl rfl) (rfl) (rfl) ?_
  refine g_aload_0 hX (dk DX12_init_0 5 rfl) ?_
  refine g_iconst (v := 0) hX (dk DX12_init_0 6 rfl) (by decide) ?_
  refine g_putI hX (dk DX12_init_0 7 rfl) KX12 fX12_13 (by decide) rfl (Nat.le_of_ble_eq_true rfl) rfl (Or.inl rfl) (rfl) (rfl) ?_
  refine g_aload_0 hX (dk DX12_init_0 8 rfl) ?_
  refine g_iconst (v := 0) hX (dk DX12_init_0 9 rfl) (by decide) ?_
  refine g_putI hX (dk DX12_init_0 10 rfl) KX12 fX12_16 (by decide) rfl (Nat.le_of_ble_eq_true rfl) rfl (Or.inl rfl) (rfl) (rfl) ?_
  refine g_aload_0 hX (dk DX12_init_0 11 rfl) ?_
  refine g_iconst (v := 0) hX (dk DX12_init_0 12 rfl) (by decide) ?_
  refine g_putI hX (dk DX12_init_0 13 rfl) KX12 fX12_19 (by decide) rfl (Nat.le_of_ble_eq_true rfl) rfl (Or.inl rfl) (rfl) (rfl) ?_
  refine g_aload_0 hX (dk DX12_init_0 14 rfl) ?_
  refine g_iconst (v := 0) hX (dk DX12_init_0 15 rfl) (by decide) ?_
  refine g_putI hX (dk DX12_init_0 16 rfl) KX12 fX12_22 (by decide) rfl (Nat.le_of_ble_eq_true rfl) rfl (Or.inl rfl) (rfl) (rfl) ?_
  refine g_aload_0 hX (dk DX12_init_0 17 rfl) ?_
  refine g_iconst (v := 0) hX (dk DX12_init_0 18 rfl) (by decide) ?_
  refine g_putI hX (dk DX12_init_0 19 rfl) KX12 fX12_25 (by decide) rfl (Nat.le_of_ble_eq_true rfl) rfl (Or.inl rfl) (rfl) (rfl) ?_
  refine g_aload_0 hX (dk DX12_init_0 20 rfl) ?_
  refine g_iconst (v := 0) hX (dk DX12_init_0 21 rfl) (by decide) ?_
  refine g_putI hX (dk DX12_init_0 22 rfl) KX12 fX12_28 (by decide) rfl (Nat.le_of_ble_eq_true rfl) rfl (Or.inl rfl) (rfl) (rfl) ?_
  refine g_aload_0 hX (dk DX12_init_0 23 rfl) ?_
  refine g_bipush (v := 10) hX (dk DX12_init_0 24 rfl) (by decide) ?_
  refine g_nw_int hX 1 2 10 (by first | rfl | exact hh) rfl (dk DX12_init_0 25 rfl) (tg_1 96 rfl rfl) rfl (by decide) (hGn 1 (by decide) (by decide)) (by decide) (by decide) ?_
  refine g_putR (r := some 1) hX (dk DX12_init_0 26 rfl) KX12 fX12_31 (by decide) rfl (Nat.le_of_ble_eq_true rfl) rfl (Or.inr ⟨rfl, rfl, rfl⟩) rfl (rfl) (rfl) ?_
  refine g_aload_0 hX (dk DX12_init_0 27 rfl) ?_
  refine g_bipush (v := 10) hX (dk DX12_init_0 28 rfl) (by decide) ?_
  refine g_nw_int hX 2 3 10 (by first | rfl | exact hh) rfl (dk DX12_init_0 29 rfl) (tg_1 96 rfl rfl) rfl (by decide) (hGn 2 (by decide) (by decide)) (by decide) (by decide) ?_
  refine g_putR (r := some 2) hX (dk DX12_init_0 30 rfl) KX12 fX12_35 (by decide) rfl (Nat.le_of_ble_eq_true rfl) rfl (Or.inr ⟨rfl, rfl, rfl⟩) rfl (rfl) (rfl) ?_
  refine g_aload_0 hX (dk DX12_init_0 31 rfl) ?_
  refine g_bipush (v := 10) hX (dk DX12_init_0 32 rfl) (by decide) ?_
  refine g_nw_int hX 3 4 10 (by first | rfl | exact hh) rfl (dk DX12_init_0 33 rfl) (tg_1 96 rfl rfl) rfl (by decide) (hGn 3 (by decide) (by decide)) (by decide) (by decide) ?_
  refine g_putR (r := some 3) hX (dk DX12_init_0 34 rfl) KX12 fX12_38 (by decide) rfl (Nat.le_of_ble_eq_true rfl) rfl (Or.inr ⟨rfl, rfl, rfl⟩) rfl (rfl) (rfl) ?_
  refine g_aload_0 hX (dk DX12_init_0 35 rfl) ?_
  refine g_bipush (v := 10) hX (dk DX12_init_0 36 rfl) (by decide) ?_
  refine g_nw_int hX 4 5 10 (by first | rfl | exact hh) rfl (dk DX12_init_0 37 rfl) (tg_1 96 rfl rfl) rfl (by decide) (hGn 4 (by decide) (by decide)) (by decide) (by decide) ?_
  refine g_putR (r := some 4) hX (dk DX12_init_0 38 rfl) KX12 fX12_41 (by decide) rfl (Nat.le_of_ble_eq_true rfl) rfl (Or.inr ⟨rfl, rfl, rfl⟩) rfl (rfl) (rfl) ?_
  refine g_aload_0 hX (dk DX12_init_0 39 rfl) ?_
  refine g_bipush (v := 10) hX (dk DX12_init_0 40 rfl) (by decide) ?_
  refine g_nw_int hX 5 6 10 (by first | rfl | exact hh) rfl (dk DX12_init_0 41 rfl) (tg_1 96 rfl rfl) rfl (by decide) (hGn 5 (by decide) (by decide)) (by decide) (by decide) ?_
  refine g_putR (r := some 5) hX (dk DX12_init_0 42 rfl) KX12 fX12_44 (by decide) rfl (Nat.le_of_ble_eq_true rfl) rfl (Or.inr ⟨rfl, rfl, rfl⟩) rfl (rfl) (rfl) ?_
  refine g_aload_0 hX (dk DX12_init_0 43 rfl) ?_
  refine g_bipush (v := 10) hX (dk DX12_init_0 44 rfl) (by decide) ?_
  refine g_nw_int hX 6 7 10 (by first | rfl | exact hh) rfl (dk DX12_init_0 45 rfl) (tg_1 96 rfl rfl) rfl (by decide) (hGn 6 (by decide) (by decide)) (by decide) (by decide) ?_
  refine g_putR (r := some 6) hX (dk DX12_init_0 46 rfl) KX12 fX12_47 (by decide) rfl (Nat.le_of_ble_eq_true rfl) rfl (Or.inr ⟨rfl, rfl, rfl⟩) rfl (rfl) (rfl) ?_
  refine g_aload_0 hX (dk DX12_init_0 47 rfl) ?_
  refine g_bipush (v := 10) hX (dk DX12_init_0 48 rfl) (by decide) ?_
  refine g_nw_int hX 7 8 10 (by first | rfl | exact hh) rfl (dk DX12_init_0 49 rfl) (tg_1 96 rfl rfl) rfl (by decide) (hGn 7 (by decide) (by decide)) (by decide) (by decide) ?_
  refine g_putR (r := some 7) hX (dk DX12_init_0 50 rfl) KX12 fX12_50 (by decide) rfl (Nat.le_of_ble_eq_true rfl) rfl (Or.inr ⟨rfl, rfl, rfl⟩) rfl (rfl) (rfl) ?_
  refine g_aload_0 hX (dk DX12_init_0 51 rfl) ?_
  refine g_iconst (v := 4) hX (dk DX12_init_0 52 rfl) (by decide) ?_
  refine g_nw_int hX 8 9 4 (by first | rfl | exact hh) rfl (dk DX12_init_0 53 rfl) (tg_1 96 rfl rfl) rfl (by decide) (hGn 8 (by decide) (by decide)) (by decide) (by decide) ?_
  refine g_putR (r := some 8) hX (dk DX12_init_0 54 rfl) KX12 fX12_53 (by decide) rfl (Nat.le_of_ble_eq_true rfl) rfl (Or.inr ⟨rfl, rfl, rfl⟩) rfl (rfl) (rfl) ?_
  refine g_aload_0 hX (dk DX12_init_0 55 rfl) ?_
  refine g_iconst (v := 0) hX (dk DX12_init_0 56 rfl) (by decide) ?_
  refine g_putI hX (dk DX12_init_0 57 rfl) KX12 fX12_56 (by decide) rfl (Nat.le_of_ble_eq_true rfl) rfl (Or.inl rfl) (rfl) (rfl) ?_
  refine g_aload_0 hX (dk DX12_init_0 58 rfl) ?_
  refine g_iconst (v := -1) hX (dk DX12_init_0 59 rfl) (by decide) ?_
  refine g_putI hX (dk DX12_init_1 0 rfl) KX12 fX12_59 (by decide) rfl (Nat.le_of_ble_eq_true rfl) rfl (Or.inl rfl) (rfl) (rfl) ?_
  refine g_aload_0 hX (dk DX12_init_1 1 rfl) ?_
  refine g_iconst (v := 0) hX (dk DX12_init_1 2 rfl) (by decide) ?_
  refine g_putI hX (dk DX12_init_1 3 rfl) KX12 fX12_62 (by decide) rfl (Nat.le_of_ble_eq_true rfl) rfl (Or.inl rfl) (rfl) (rfl) ?_
  refine g_aload_0 hX (dk DX12_init_1 4 rfl) ?_
  refine g_iconst (v := 0) hX (dk DX12_init_1 5 rfl) (by decide) ?_
  refine g_putI hX (dk DX12_init_1 6 rfl) KX12 fX12_65 (by decide) rfl (Nat.le_of_ble_eq_true rfl) rfl (Or.inl rfl) (rfl) (rfl) ?_
  refine g_aload_0 hX (dk DX12_init_1 7 rfl) ?_
  refine g_iconst (v := 0) hX (dk DX12_init_1 8 rfl) (by decide) ?_
  refine g_putI hX (dk DX12_init_1 9 rfl) KX12 fX12_68 (by decide) rfl (Nat.le_of_ble_eq_true rfl) rfl (Or.inl rfl) (rfl) (rfl) ?_
  refine g_aload_0 hX (dk DX12_init_1 10 rfl) ?_
  refine g_bipush (v := 100) hX (dk DX12_init_1 11 rfl) (by decide) ?_
  refine g_nw_int hX 9 10 100 (by first | rfl | exact hh) rfl (dk DX12_init_1 12 rfl) (tg_1 96 rfl rfl) rfl (by decide) (hGn 9 (by decide) (by decide)) (by decide) (by decide) ?_
  refine g_putR (r := some 9) hX (dk DX12_init_1 13 rfl) KX12 fX12_71 (by decide) rfl (Nat.le_of_ble_eq_true rfl) rfl (Or.inr ⟨rfl, rfl, rfl⟩) rfl (rfl) (rfl) ?_
  refine g_aload_0 hX (dk DX12_init_1 14 rfl) ?_
  refine g_bipush (v := 6) hX (dk DX12_init_1 15 rfl) (by decide) ?_
  refine g_nw_int hX 10 11 6 (by first | rfl | exact hh) rfl (dk DX12_init_1 16 rfl) (tg_1 96 rfl rfl) rfl (by decide) (hGn 10 (by decide) (by decide)) (by decide) (by decide) ?_
  refine g_putR (r := some 10) hX (dk DX12_init_1 17 rfl) KX12 fX12_74 (by decide) rfl (Nat.le_of_ble_eq_true rfl) rfl (Or.inr ⟨rfl, rfl, rfl⟩) rfl (rfl) (rfl) ?_
  refine g_aload_0 hX (dk DX12_init_1 18 rfl) ?_
  refine g_bipush (v := 60) hX (dk DX12_init_1 19 rfl) (by decide) ?_
  refine g_nw_int hX 11 12 60 (by first | rfl | exact hh) rfl (dk DX12_init_1 20 rfl) (tg_1 96 rfl rfl) rfl (by decide) (hGn 11 (by decide) (by decide)) (by decide) (by decide) ?_
  refine g_putR (r := some 11) hX (dk DX12_init_1 21 rfl) KX12 fX12_77 (by decide) rfl (Nat.le_of_ble_eq_true rfl) rfl (Or.inr ⟨rfl, rfl, rfl⟩) rfl (rfl) (rfl) ?_
  refine g_aload_0 hX (dk DX12_init_1 22 rfl) ?_
  refine g_bipush (v := 60) hX (dk DX12_init_1 23 rfl) (by decide) ?_
  refine g_nw_int hX 12 13 60 (by first | rfl | exact hh) rfl (dk DX12_init_1 24 rfl) (tg_1 96 rfl rfl) rfl (by decide) (hGn 12 (by decide) (by decide)) (by decide) (by decide) ?_
  refine g_putR (r := some 12) hX (dk DX12_init_1 25 rfl) KX12 fX12_80 (by decide) rfl (Nat.le_of_ble_eq_true rfl) rfl (Or.inr ⟨rfl, rfl, rfl⟩) rfl (rfl) (rfl) ?_
  refine g_aload_0 hX (dk DX12_init_1 26 rfl) ?_
  refine g_bipush (v := 60) hX (dk DX12_init_1 27 rfl) (by decide) ?_
  refine g_nw_int hX 13 14 60 (by first | rfl | exact hh) rfl (dk DX12_init_1 28 rfl) (tg_1 96 rfl rfl) rfl (by decide) (hGn 13 (by decide) (by decide)) (by decide) (by decide) ?_
  refine g_putR (r := some 13) hX (dk DX12_init_1 29 rfl) KX12 fX12_83 (by decide) rfl (Nat.le_of_ble_eq_true rfl) rfl (Or.inr ⟨rfl, rfl, rfl⟩) rfl (rfl) (rfl) ?_
  refine g_aload_0 hX (dk DX12_init_1 30 rfl) ?_
  refine g_bipush (v := 60) hX (dk DX12_init_1 31 rfl) (by decide) ?_
  refine g_nw_int hX 14 15 60 (by first | rfl | exact hh) rfl (dk DX12_init_1 32 rfl) (tg_1 96 rfl rfl) rfl (by decide) (hGn 14 (by decide) (by decide)) (by decide) (by decide) ?_
  refine g_putR (r := some 14) hX (dk DX12_init_1 33 rfl) KX12 fX12_86 (by decide) rfl (Nat.le_of_ble_eq_true rfl) rfl (Or.inr ⟨rfl, rfl, rfl⟩) rfl (rfl) (rfl) ?_
  refine g_aload_0 hX (dk DX12_init_1 34 rfl) ?_
  refine g_sipush (v := 600) hX (dk DX12_init_1 35 rfl) (by decide) ?_
  refine g_nw_int hX 15 16 600 (by first | rfl | exact hh) rfl (dk DX12_init_1 36 rfl) (tg_1 96 rfl rfl) rfl (by decide) (hGn 15 (by decide) (by decide)) (by decide) (by decide) ?_
  refine g_putR (r := some 15) hX (dk DX12_init_1 37 rfl) KX12 fX12_89 (by decide) rfl (Nat.le_of_ble_eq_true rfl) rfl (Or.inr ⟨rfl, rfl, rfl⟩) rfl (rfl) (rfl) ?_
  refine g_aload_0 hX (dk DX12_init_1 38 rfl) ?_
  refine g_bipush (v := 101) hX (dk DX12_init_1 39 rfl) (by decide) ?_
  refine g_nw_int hX 16 17 101 (by first | rfl | exact hh) rfl (dk DX12_init_1 40 rfl) (tg_1 96 rfl rfl) rfl (by decide) (hGn 16 (by decide) (by decide)) (by decide) (by decide) ?_
  refine g_putR (r := some 16) hX (dk DX12_init_1 41 rfl) KX12 fX12_92 (by decide) rfl (Nat.le_of_ble_eq_true rfl) rfl (Or.inr ⟨rfl, rfl, rfl⟩) rfl (rfl) (rfl) ?_
  refine g_aload_0 hX (dk DX12_init_1 42 rfl) ?_
  refine g_iconst (v := 0) hX (dk DX12_init_1 43 rfl) (by decide) ?_
  refine g_putI hX (dk DX12_init_1 44 rfl) KX12 fX12_95 (by decide) rfl (Nat.le_of_ble_eq_true rfl) rfl (Or.inl rfl) (rfl) (rfl) ?_
  refine g_aload_0 hX (dk DX12_init_1 45 rfl) ?_
  refine g_iconst (v := 0) hX (dk DX12_init_1 46 rfl) (by decide) ?_
  refine g_putI hX (dk DX12_init_1 47 rfl) KX12 fX12_98 (by decide) rfl (Nat.le_of_ble_eq_true rfl) rfl (Or.inl rfl) (rfl) (rfl) ?_
  refine g_aload_0 hX (dk DX12_init_1 48 rfl) ?_
  refine g_iconst (v := 0) hX (dk DX12_init_1 49 rfl) (by decide) ?_
  refine g_putI hX (dk DX12_init_1 50 rfl) KX12 fX12_101 (by decide) rfl (Nat.le_of_ble_eq_true rfl) rfl (Or.inl rfl) (rfl) (rfl) ?_
  refine g_aload_0 hX (dk DX12_init_1 51 rfl) ?_
  refine g_bipush (v := 15) hX (dk DX12_init_1 52 rfl) (by decide) ?_
  refine g_nw_int hX 17 18 15 (by first | rfl | exact hh) rfl (dk DX12_init_1 53 rfl) (tg_1 96 rfl rfl) rfl (by decide) (hGn 17 (by decide) (by decide)) (by decide) (by decide) ?_
  refine g_dup hX (dk DX12_init_1 54 rfl) rfl ?_
  refine g_iconst (v := 0) hX (dk DX12_init_1 55 rfl) (by decide) ?_
  refine g_bipush (v := 115) hX (dk DX12_init_1 56 rfl) (by decide) ?_
  refine i_iastore (j := 0) hX (dk DX12_init_1 57 rfl) (Nat.le_of_ble_eq_true rfl) rfl (⟨rfl, by decide, by decide⟩) ?_
  refine g_dup hX (dk DX12_init_1 58 rfl) rfl ?_
  refine g_iconst (v := 1) hX (dk DX12_init_1 59 rfl) (by decide) ?_
  refine g_bipush (v := 97) hX (dk DX12_init_2 0 rfl) (by decide) ?_
  refine i_iastore (j := 1) hX (dk DX12_init_2 1 rfl) (Nat.le_of_ble_eq_true rfl) rfl (⟨rfl, by decide, by decide⟩) ?_
  refine g_dup hX (dk DX12_init_2 2 rfl) rfl ?_
  refine g_iconst (v := 2) hX (dk DX12_init_2 3 rfl) (by decide) ?_
  refine g_bipush (v := 121) hX (dk DX12_init_2 4 rfl) (by decide) ?_
  refine i_iastore (j := 2) hX (dk DX12_init_2 5 rfl) (Nat.le_of_ble_eq_true rfl) rfl (⟨rfl, by decide, by decide⟩) ?_
  refine g_dup hX (dk DX12_init_2 6 rfl) rfl ?_
  refine g_iconst (v := 3) hX (dk DX12_init_2 7 rfl) (by decide) ?_
  refine g_bipush (v := 99) hX (dk DX12_init_2 8 rfl) (by decide) ?_
  refine i_iastore (j := 3) hX (dk DX12_init_2 9 rfl) (Nat.le_of_ble_eq_true rfl) rfl (⟨rfl, by decide, by decide⟩) ?_
  refine g_dup hX (dk DX12_init_2 10 rfl) rfl ?_
  refine g_iconst (v := 4) hX (dk DX12_init_2 11 rfl) (by decide) ?_
  refine g_bipush (v := 111) hX (dk DX12_init_2 12 rfl) (by decide) ?_
  refine i_iastore (j := 4) hX (dk DX12_init_2 13 rfl) (Nat.le_of_ble_eq_true rfl) rfl (⟨rfl, by decide, by decide⟩) ?_
  refine g_dup hX (dk DX12_init_2 14 rfl) rfl ?_
  refine g_iconst (v := 5) hX (dk DX12_init_2 15 rfl) (by decide) ?_
  refine g_bipush (v := 115) hX (dk DX12_init_2 16 rfl) (by decide) ?_
  refine i_iastore (j := 5) hX (dk DX12_init_2 17 rfl) (Nat.le_of_ble_eq_true rfl) rfl (⟨rfl, by decide, by decide⟩) ?_
  refine g_dup hX (dk DX12_init_2 18 rfl) rfl ?_
  refine g_bipush (v := 6) hX (dk DX12_init_2 19 rfl) (by decide) ?_
  refine g_bipush (v := 116) hX (dk DX12_init_2 20 rfl) (by decide) ?_
  refine i_iastore (j := 6) hX (dk DX12_init_2 21 rfl) (Nat.le_of_ble_eq_true rfl) rfl (⟨rfl, by decide, by decide⟩) ?_
  refine g_dup hX (dk DX12_init_2 22 rfl) rfl ?_
  refine g_bipush (v := 7) hX (dk DX12_init_2 23 rfl) (by decide) ?_
  refine g_bipush (v := 99) hX (dk DX12_init_2 24 rfl) (by decide) ?_
  refine i_iastore (j := 7) hX (dk DX12_init_2 25 rfl) (Nat.le_of_ble_eq_true rfl) rfl (⟨rfl, by decide, by decide⟩) ?_
  refine g_dup hX (dk DX12_init_2 26 rfl) rfl ?_
  refine g_bipush (v := 8) hX (dk DX12_init_2 27 rfl) (by decide) ?_
  refine g_bipush (v := 97) hX (dk DX12_init_2 28 rfl) (by decide) ?_
  refine i_iastore (j := 8) hX (dk DX12_init_2 29 rfl) (Nat.le_of_ble_eq_true rfl) rfl (⟨rfl, by decide, by decide⟩) ?_
  refine g_dup hX (dk DX12_init_2 30 rfl) rfl ?_
  refine g_bipush (v := 9) hX (dk DX12_init_2 31 rfl) (by decide) ?_
  refine g_bipush (v := 108) hX (dk DX12_init_2 32 rfl) (by decide) ?_
  refine i_iastore (j := 9) hX (dk DX12_init_2 33 rfl) (Nat.le_of_ble_eq_true rfl) rfl (⟨rfl, by decide, by decide⟩) ?_
  refine g_dup hX (dk DX12_init_2 34 rfl) rfl ?_
  refine g_bipush (v := 10) hX (dk DX12_init_2 35 rfl) (by decide) ?_
  refine g_bipush (v := 108) hX (dk DX12_init_2 36 rfl) (by decide) ?_
  refine i_iastore (j := 10) hX (dk DX12_init_2 37 rfl) (Nat.le_of_ble_eq_true rfl) rfl (⟨rfl, by decide, by decide⟩) ?_
  refine g_dup hX (dk DX12_init_2 38 rfl) rfl ?_
  refine g_bipush (v := 11) hX (dk DX12_init_2 39 rfl) (by decide) ?_
  refine g_bipush (v := 102) hX (dk DX12_init_2 40 rfl) (by decide) ?_
  refine i_iastore (j := 11) hX (dk DX12_init_2 41 rfl) (Nat.le_of_ble_eq_true rfl) rfl (⟨rfl, by decide, by decide⟩) ?_
  refine g_dup hX (dk DX12_init_2 42 rfl) rfl ?_
  refine g_bipush (v := 12) hX (dk DX12_init_2 43 rfl) (by decide) ?_
  refine g_bipush (v := 97) hX (dk DX12_init_2 44 rfl) (by decide) ?_
  refine i_iastore (j := 12) hX (dk DX12_init_2 45 rfl) (Nat.le_of_ble_eq_true rfl) rfl (⟨rfl, by decide, by decide⟩) ?_
  refine g_dup hX (dk DX12_init_2 46 rfl) rfl ?_
  refine g_bipush (v := 13) hX (dk DX12_init_2 47 rfl) (by decide) ?_
  refine g_bipush (v := 100) hX (dk DX12_init_2 48 rfl) (by decide) ?_
  refine i_iastore (j := 13) hX (dk DX12_init_2 49 rfl) (Nat.le_of_ble_eq_true rfl) rfl (⟨rfl, by decide, by decide⟩) ?_
  refine g_dup hX (dk DX12_init_2 50 rfl) rfl ?_
  refine g_bipush (v := 14) hX (dk DX12_init_2 51 rfl) (by decide) ?_
  refine g_bipush (v := 101) hX (dk DX12_init_2 52 rfl) (by decide) ?_
  refine i_iastore (j := 14) hX (dk DX12_init_2 53 rfl) (Nat.le_of_ble_eq_true rfl) rfl (⟨rfl, by decide, by decide⟩) ?_
  refine g_putR (r := some 17) hX (dk DX12_init_2 54 rfl) KX12 fX12_104 (by decide) rfl (Nat.le_of_ble_eq_true rfl) rfl (Or.inr ⟨rfl, rfl, rfl⟩) rfl (rfl) (rfl) ?_
  refine g_aload_0 hX (dk DX12_init_2 55 rfl) ?_
  refine g_bipush (v := 100) hX (dk DX12_init_2 56 rfl) (by decide) ?_
  refine g_nw_boolean hX 18 19 100 (by first | rfl | exact hh) rfl (dk DX12_init_2 57 rfl) (tg_5 211 rfl rfl) rfl (by decide) (hGn 18 (by decide) (by decide)) (by decide) (by decide) ?_
  refine g_putR (r := some 18) hX (dk DX12_init_2 58 rfl) KX12 fX12_107 (by decide) rfl (Nat.le_of_ble_eq_true rfl) rfl (Or.inr ⟨rfl, rfl, rfl⟩) rfl (rfl) (rfl) ?_
  refine g_aload_0 hX (dk DX12_init_2 59 rfl) ?_
  refine g_bipush (v := 40) hX (dk DX12_init_3 0 rfl) (by decide) ?_
  refine g_nw_int hX 19 20 40 (by first | rfl | exact hh) rfl (dk DX12_init_3 1 rfl) (tg_1 96 rfl rfl) rfl (by decide) (hGn 19 (by decide) (by decide)) (by decide) (by decide) ?_
  refine g_putR (r := some 19) hX (dk DX12_init_3 2 rfl) KX12 fX12_111 (by decide) rfl (Nat.le_of_ble_eq_true rfl) rfl (Or.inr ⟨rfl, rfl, rfl⟩) rfl (rfl) (rfl) ?_
  refine g_aload_0 hX (dk DX12_init_3 3 rfl) ?_
  refine g_iconst (v := 0) hX (dk DX12_init_3 4 rfl) (by decide) ?_
  refine g_putI hX (dk DX12_init_3 5 rfl) KX12 fX12_114 (by decide) rfl (Nat.le_of_ble_eq_true rfl) rfl (Or.inl rfl) (rfl) (rfl) ?_
  refine g_aload_0 hX (dk DX12_init_3 6 rfl) ?_
  refine g_iconst (v := 0) hX (dk DX12_init_3 7 rfl) (by decide) ?_
  refine g_putI hX (dk DX12_init_3 8 rfl) KX12 fX12_117 (by decide) rfl (Nat.le_of_ble_eq_true rfl) rfl (Or.inl rfl) (rfl) (rfl) ?_
  refine g_aload_0 hX (dk DX12_init_3 9 rfl) ?_
  refine g_iconst (v := 0) hX (dk DX12_init_3 10 rfl) (by decide) ?_
  refine g_putI hX (dk DX12_init_3 11 rfl) KX12 fX12_120 (by decide) rfl (Nat.le_of_ble_eq_true rfl) rfl (Or.inl rfl) (rfl) (rfl) ?_
  refine g_aload_0 hX (dk DX12_init_3 12 rfl) ?_
  refine g_iconst (v := 0) hX (dk DX12_init_3 13 rfl) (by decide) ?_
  refine g_putI hX (dk DX12_init_3 14 rfl) KX12 fX12_123 (by decide) rfl (Nat.le_of_ble_eq_true rfl) rfl (Or.inl rfl) (rfl) (rfl) ?_
  refine g_aload_0 hX (dk DX12_init_3 15 rfl) ?_
  refine g_iconst (v := 0) hX (dk DX12_init_3 16 rfl) (by decide) ?_
  refine g_putI hX (dk DX12_init_3 17 rfl) KX12 fX12_126 (by decide) rfl (Nat.le_of_ble_eq_true rfl) rfl (Or.inl rfl) (rfl) (rfl) ?_
  refine g_aload_0 hX (dk DX12_init_3 18 rfl) ?_
  refine g_iconst (v := 0) hX (dk DX12_init_3 19 rfl) (by decide) ?_
  refine g_putI hX (dk DX12_init_3 20 rfl) KX12 fX12_129 (by decide) rfl (Nat.le_of_ble_eq_true rfl) rfl (Or.inl rfl) (rfl) (rfl) ?_
  refine g_aload_0 hX (dk DX12_init_3 21 rfl) ?_
  refine g_iconst (v := 0) hX (dk DX12_init_3 22 rfl) (by decide) ?_
  refine g_putI hX (dk DX12_init_3 23 rfl) KX12 fX12_132 (by decide) rfl (Nat.le_of_ble_eq_true rfl) rfl (Or.inl rfl) (rfl) (rfl) ?_
  refine g_aload_0 hX (dk DX12_init_3 24 rfl) ?_
  refine g_sipush (v := 1000) hX (dk DX12_init_3 25 rfl) (by decide) ?_
  refine g_nw_boolean hX 20 21 1000 (by first | rfl | exact hh) rfl (dk DX12_init_3 26 rfl) (tg_5 211 rfl rfl) rfl (by decide) (hGn 20 (by decide) (by decide)) (by decide) (by decide) ?_
  refine g_putR (r := some 20) hX (dk DX12_init_3 27 rfl) KX12 fX12_135 (by decide) rfl (Nat.le_of_ble_eq_true rfl) rfl (Or.inr ⟨rfl, rfl, rfl⟩) rfl (rfl) (rfl) ?_
  refine g_aload_0 hX (dk DX12_init_3 28 rfl) ?_
  refine g_iconst (v := 4) hX (dk DX12_init_3 29 rfl) (by decide) ?_
  refine g_nw_int hX 21 22 4 (by first | rfl | exact hh) rfl (dk DX12_init_3 30 rfl) (tg_1 96 rfl rfl) rfl (by decide) (hGn 21 (by decide) (by decide)) (by decide) (by decide) ?_
  refine g_putR (r := some 21) hX (dk DX12_init_3 31 rfl) KX12 fX12_138 (by decide) rfl (Nat.le_of_ble_eq_true rfl) rfl (Or.inr ⟨rfl, rfl, rfl⟩) rfl (rfl) (rfl) ?_
  refine g_aload_0 hX (dk DX12_init_3 32 rfl) ?_
  refine g_iconst (v := 4) hX (dk DX12_init_3 33 rfl) (by decide) ?_
  refine g_nw_int hX 22 23 4 (by first | rfl | exact hh) rfl (dk DX12_init_3 34 rfl) (tg_1 96 rfl rfl) rfl (by decide) (hGn 22 (by decide) (by decide)) (by decide) (by decide) ?_
  refine g_putR (r := some 22) hX (dk DX12_init_3 35 rfl) KX12 fX12_141 (by decide) rfl (Nat.le_of_ble_eq_true rfl) rfl (Or.inr ⟨rfl, rfl, rfl⟩) rfl (rfl) (rfl) ?_
  refine g_aload_0 hX (dk DX12_init_3 36 rfl) ?_
  refine g_iconst (v := 0) hX (dk DX12_init_3 37 rfl) (by decide) ?_
  refine g_putI hX (dk DX12_init_3 38 rfl) KX12 fX12_144 (by decide) rfl (Nat.le_of_ble_eq_true rfl) rfl (Or.inl rfl) (rfl) (rfl) ?_
  refine g_aload_0 hX (dk DX12_init_3 39 rfl) ?_
  refine g_bipush (v := 12) hX (dk DX12_init_3 40 rfl) (by decide) ?_
  refine g_nw_int hX 23 24 12 (by first | rfl | exact hh) rfl (dk DX12_init_3 41 rfl) (tg_1 96 rfl rfl) rfl (by decide) (hGn 23 (by decide) (by decide)) (by decide) (by decide) ?_
  refine g_putR (r := some 23) hX (dk DX12_init_3 42 rfl) KX12 fX12_147 (by decide) rfl (Nat.le_of_ble_eq_true rfl) rfl (Or.inr ⟨rfl, rfl, rfl⟩) rfl (rfl) (rfl) ?_
  refine g_aload_0 hX (dk DX12_init_3 43 rfl) ?_
  refine g_bipush (v := 12) hX (dk DX12_init_3 44 rfl) (by decide) ?_
  refine g_nw_int hX 24 25 12 (by first | rfl | exact hh) rfl (dk DX12_init_3 45 rfl) (tg_1 96 rfl rfl) rfl (by decide) (hGn 24 (by decide) (by decide)) (by decide) (by decide) ?_
  refine g_putR (r := some 24) hX (dk DX12_init_3 46 rfl) KX12 fX12_150 (by decide) rfl (Nat.le_of_ble_eq_true rfl) rfl (Or.inr ⟨rfl, rfl, rfl⟩) rfl (rfl) (rfl) ?_
  refine g_aload_0 hX (dk DX12_init_3 47 rfl) ?_
  refine g_iconst (v := 0) hX (dk DX12_init_3 48 rfl) (by decide) ?_
  refine g_putI hX (dk DX12_init_3 49 rfl) KX12 fX12_153 (by decide) rfl (Nat.le_of_ble_eq_true rfl) rfl (Or.inl rfl) (by decide) (by decide) ?_
  refine g_aload_0 hX (dk DX12_init_3 50 rfl) ?_
  refine g_iconst (v := -1) hX (dk DX12_init_3 51 rfl) (by decide) ?_
  refine g_putI hX (dk DX12_init_3 52 rfl) KX12 fX12_157 (by decide) rfl (Nat.le_of_ble_eq_true rfl) rfl (Or.inl rfl) (rfl) (rfl) ?_
  refine g_aload_0 hX (dk DX12_init_3 53 rfl) ?_
  refine g_iconst (v := 0) hX (dk DX12_init_3 54 rfl) (by decide) ?_
  refine g_putI hX (dk DX12_init_3 55 rfl) KX12 fX12_160 (by decide) rfl (Nat.le_of_ble_eq_true rfl) rfl (Or.inl rfl) (rfl) (rfl) ?_
  refine g_aload_0 hX (dk DX12_init_3 56 rfl) ?_
  refine g_iconst (v := 0) hX (dk DX12_init_3 57 rfl) (by decide) ?_
  refine g_putI hX (dk DX12_init_3 58 rfl) KX12 fX12_163 (by decide) rfl (Nat.le_of_ble_eq_true rfl) rfl (Or.inl rfl) (rfl) (rfl) ?_
  refine g_aload_0 hX (dk DX12_init_3 59 rfl) ?_
  refine g_iconst (v := 0) hX (dk DX12_init_4 0 rfl) (by decide) ?_
  refine g_putI hX (dk DX12_init_4 1 rfl) KX12 fX12_166 (by decide) rfl (Nat.le_of_ble_eq_true rfl) rfl (Or.inl rfl) (rfl) (rfl) ?_
  refine g_aload_0 hX (dk DX12_init_4 2 rfl) ?_
  refine g_iconst (v := 0) hX (dk DX12_init_4 3 rfl) (by decide) ?_
  refine g_putI hX (dk DX12_init_4 4 rfl) KX12 fX12_169 (by decide) rfl (Nat.le_of_ble_eq_true rfl) rfl (Or.inl rfl) (rfl) (rfl) ?_
  refine g_aload_0 hX (dk DX12_init_4 5 rfl) ?_
  refine g_iconst (v := 0) hX (dk DX12_init_4 6 rfl) (by decide) ?_
  refine g_putI hX (dk DX12_init_4 7 rfl) KX12 fX12_172 (by decide) rfl (Nat.le_of_ble_eq_true rfl) rfl (Or.inl rfl) (rfl) (rfl) ?_
  refine g_aload_0 hX (dk DX12_init_4 8 rfl) ?_
  refine g_iconst (v := 0) hX (dk DX12_init_4 9 rfl) (by decide) ?_
  refine g_putI hX (dk DX12_init_4 10 rfl) KX12 fX12_175 (by decide) rfl (Nat.le_of_ble_eq_true rfl) rfl (Or.inl rfl) (rfl) (rfl) ?_
  refine g_aload_0 hX (dk DX12_init_4 11 rfl) ?_
  refine g_iconst (v := 0) hX (dk DX12_init_4 12 rfl) (by decide) ?_
  refine g_putI hX (dk DX12_init_4 13 rfl) KX12 fX12_178 (by decide) rfl (Nat.le_of_ble_eq_true rfl) rfl (Or.inl rfl) (rfl) (rfl) ?_
  refine g_aload_0 hX (dk DX12_init_4 14 rfl) ?_
  refine g_iconst (v := 0) hX (dk DX12_init_4 15 rfl) (by decide) ?_
  refine g_putI hX (dk DX12_init_4 16 rfl) KX12 fX12_181 (by decide) rfl (Nat.le_of_ble_eq_true rfl) rfl (Or.inl rfl) (rfl) (rfl) ?_
  refine g_aload_0 hX (dk DX12_init_4 17 rfl) ?_
  refine g_bipush (v := 10) hX (dk DX12_init_4 18 rfl) (by decide) ?_
  refine g_nw_int hX 25 26 10 (by first | rfl | exact hh) rfl (dk DX12_init_4 19 rfl) (tg_1 96 rfl rfl) rfl (by decide) (hGn 25 (by decide) (by decide)) (by decide) (by decide) ?_
  refine g_putR (r := some 25) hX (dk DX12_init_4 20 rfl) KX12 fX12_184 (by decide) rfl (Nat.le_of_ble_eq_true rfl) rfl (Or.inr ⟨rfl, rfl, rfl⟩) rfl (rfl) (rfl) ?_
  refine g_aload_0 hX (dk DX12_init_4 21 rfl) ?_
  refine g_bipush (v := 10) hX (dk DX12_init_4 22 rfl) (by decide) ?_
  refine g_nw_int hX 26 27 10 (by first | rfl | exact hh) rfl (dk DX12_init_4 23 rfl) (tg_1 96 rfl rfl) rfl (by decide) (hGn 26 (by decide) (by decide)) (by decide) (by decide) ?_
  refine g_putR (r := some 26) hX (dk DX12_init_4 24 rfl) KX12 fX12_187 (by decide) rfl (Nat.le_of_ble_eq_true rfl) rfl (Or.inr ⟨rfl, rfl, rfl⟩) rfl (rfl) (rfl) ?_
  refine g_aload_0 hX (dk DX12_init_4 25 rfl) ?_
  refine g_bipush (v := 10) hX (dk DX12_init_4 26 rfl) (by decide) ?_
  refine g_nw_int hX 27 28 10 (by first | rfl | exact hh) rfl (dk DX12_init_4 27 rfl) (tg_1 96 rfl rfl) rfl (by decide) (hGn 27 (by decide) (by decide)) (by decide) (by decide) ?_
  refine g_putR (r := some 27) hX (dk DX12_init_4 28 rfl) KX12 fX12_190 (by decide) rfl (Nat.le_of_ble_eq_true rfl) rfl (Or.inr ⟨rfl, rfl, rfl⟩) rfl (rfl) (rfl) ?_
  refine g_aload_0 hX (dk DX12_init_4 29 rfl) ?_
  refine g_bipush (v := 10) hX (dk DX12_init_4 30 rfl) (by decide) ?_
  refine g_nw_int hX 28 29 10 (by first | rfl | exact hh) rfl (dk DX12_init_4 31 rfl) (tg_1 96 rfl rfl) rfl (by decide) (hGn 28 (by decide) (by decide)) (by decide) (by decide) ?_
  refine g_putR (r := some 28) hX (dk DX12_init_4 32 rfl) KX12 fX12_193 (by decide) rfl (Nat.le_of_ble_eq_true rfl) rfl (Or.inr ⟨rfl, rfl, rfl⟩) rfl (rfl) (rfl) ?_
  refine g_aload_0 hX (dk DX12_init_4 33 rfl) ?_
  refine g_bipush (v := 10) hX (dk DX12_init_4 34 rfl) (by decide) ?_
  refine g_nw_int hX 29 30 10 (by first | rfl | exact hh) rfl (dk DX12_init_4 35 rfl) (tg_1 96 rfl rfl) rfl (by decide) (hGn 29 (by decide) (by decide)) (by decide) (by decide) ?_
  refine g_putR (r := some 29) hX (dk DX12_init_4 36 rfl) KX12 fX12_196 (by decide) rfl (Nat.le_of_ble_eq_true rfl) rfl (Or.inr ⟨rfl, rfl, rfl⟩) rfl (rfl) (rfl) ?_
  refine g_aload_0 hX (dk DX12_init_4 37 rfl) ?_
  refine g_bipush (v := 10) hX (dk DX12_init_4 38 rfl) (by decide) ?_
  refine g_nw_int hX 30 31 10 (by first | rfl | exact hh) rfl (dk DX12_init_4 39 rfl) (tg_1 96 rfl rfl) rfl (by decide) (hGn 30 (by decide) (by decide)) (by decide) (by decide) ?_
  refine g_putR (r := some 30) hX (dk DX12_init_4 40 rfl) KX12 fX12_199 (by decide) rfl (Nat.le_of_ble_eq_true rfl) rfl (Or.inr ⟨rfl, rfl, rfl⟩) rfl (rfl) (rfl) ?_
  refine g_aload_0 hX (dk DX12_init_4 41 rfl) ?_
  refine g_bipush (v := 10) hX (dk DX12_init_4 42 rfl) (by decide) ?_
  refine g_nw_int hX 31 32 10 (by first | rfl | exact hh) rfl (dk DX12_init_4 43 rfl) (tg_1 96 rfl rfl) rfl (by decide) (hGn 31 (by decide) (by decide)) (by decide) (by decide) ?_
  refine g_putR (r := some 31) hX (dk DX12_init_4 44 rfl) KX12 fX12_202 (by decide) rfl (Nat.le_of_ble_eq_true rfl) rfl (Or.inr ⟨rfl, rfl, rfl⟩) rfl (rfl) (rfl) ?_
  refine g_aload_0 hX (dk DX12_init_4 45 rfl) ?_
  refine g_iconst (v := 4) hX (dk DX12_init_4 46 rfl) (by decide) ?_
  refine g_nw_int hX 32 33 4 (by first | rfl | exact hh) rfl (dk DX12_init_4 47 rfl) (tg_1 96 rfl rfl) rfl (by decide) (hGn 32 (by decide) (by decide)) (by decide) (by decide) ?_
  refine g_putR (r := some 32) hX (dk DX12_init_4 48 rfl) KX12 fX12_205 (by decide) rfl (Nat.le_of_ble_eq_true rfl) rfl (Or.inr ⟨rfl, rfl, rfl⟩) rfl (rfl) (rfl) ?_
  refine g_aload_0 hX (dk DX12_init_4 49 rfl) ?_
  refine g_bipush (v := 12) hX (dk DX12_init_4 50 rfl) (by decide) ?_
  refine g_nw_int hX 33 34 12 (by first | rfl | exact hh) rfl (dk DX12_init_4 51 rfl) (tg_1 96 rfl rfl) rfl (by decide) (hGn 33 (by decide) (by decide)) (by decide) (by decide) ?_
  refine g_putR (r := some 33) hX (dk DX12_init_4 52 rfl) KX12 fX12_208 (by decide) rfl (Nat.le_of_ble_eq_true rfl) rfl (Or.inr ⟨rfl, rfl, rfl⟩) rfl (rfl) (rfl) ?_
  refine g_aload_0 hX (dk DX12_init_4 53 rfl) ?_
  refine g_bipush (v := 12) hX (dk DX12_init_4 54 rfl) (by decide) ?_
  refine g_nw_int hX 34 35 12 (by first | rfl | exact hh) rfl (dk DX12_init_4 55 rfl) (tg_1 96 rfl rfl) rfl (by decide) (hGn 34 (by decide) (by decide)) (by decide) (by decide) ?_
  refine g_putR (r := some 34) hX (dk DX12_init_4 56 rfl) KX12 fX12_211 (by decide) rfl (Nat.le_of_ble_eq_true rfl) rfl (Or.inr ⟨rfl, rfl, rfl⟩) rfl (rfl) (rfl) ?_
  refine g_aload_0 hX (dk DX12_init_4 57 rfl) ?_
  refine g_iconst (v := 0) hX (dk DX12_init_4 58 rfl) (by decide) ?_
  refine g_putI hX (dk DX12_init_4 59 rfl) KX12 fX12_214 (by decide) rfl (Nat.le_of_ble_eq_true rfl) rfl (Or.inl rfl) (rfl) (rfl) ?_
  refine g_aload_0 hX (dk DX12_init_5 0 rfl) ?_
  refine g_bipush (v := 20) hX (dk DX12_init_5 1 rfl) (by decide) ?_
  refine g_nw_int hX 35 36 20 (by first | rfl | exact hh) rfl (dk DX12_init_5 2 rfl) (tg_1 96 rfl rfl) rfl (by decide) (hGn 35 (by decide) (by decide)) (by decide) (by decide) ?_
  refine g_putR (r := some 35) hX (dk DX12_init_5 3 rfl) KX12 fX12_217 (by decide) rfl (Nat.le_of_ble_eq_true rfl) rfl (Or.inr ⟨rfl, rfl, rfl⟩) rfl (rfl) (rfl) ?_
  refine g_aload_0 hX (dk DX12_init_5 4 rfl) ?_
  refine g_bipush (v := 6) hX (dk DX12_init_5 5 rfl) (by decide) ?_
  refine g_nw_int hX 36 37 6 (by first | rfl | exact hh) rfl (dk DX12_init_5 6 rfl) (tg_1 96 rfl rfl) rfl (by decide) (hGn 36 (by decide) (by decide)) (by decide) (by decide) ?_
  refine g_dup hX (dk DX12_init_5 7 rfl) rfl ?_
  refine g_iconst (v := 0) hX (dk DX12_init_5 8 rfl) (by decide) ?_
  refine g_iconst (v := -1) hX (dk DX12_init_5 9 rfl) (by decide) ?_
  refine i_iastore (j := 0) hX (dk DX12_init_5 10 rfl) (Nat.le_of_ble_eq_true rfl) rfl (⟨rfl, by decide, by decide⟩) ?_
  refine g_dup hX (dk DX12_init_5 11 rfl) rfl ?_
  refine g_iconst (v := 1) hX (dk DX12_init_5 12 rfl) (by decide) ?_
  refine g_iconst (v := -1) hX (dk DX12_init_5 13 rfl) (by decide) ?_
  refine i_iastore (j := 1) hX (dk DX12_init_5 14 rfl) (Nat.le_of_ble_eq_true rfl) rfl (⟨rfl, by decide, by decide⟩) ?_
  refine g_dup hX (dk DX12_init_5 15 rfl) rfl ?_
  refine g_iconst (v := 2) hX (dk DX12_init_5 16 rfl) (by decide) ?_
  refine g_iconst (v := -1) hX (dk DX12_init_5 17 rfl) (by decide) ?_
  refine i_iastore (j := 2) hX (dk DX12_init_5 18 rfl) (Nat.le_of_ble_eq_true rfl) rfl (⟨rfl, by decide, by decide⟩) ?_
  refine g_dup hX (dk DX12_init_5 19 rfl) rfl ?_
  refine g_iconst (v := 3) hX (dk DX12_init_5 20 rfl) (by decide) ?_
  refine g_iconst (v := -1) hX (dk DX12_init_5 21 rfl) (by decide) ?_
  refine i_iastore (j := 3) hX (dk DX12_init_5 22 rfl) (Nat.le_of_ble_eq_true rfl) rfl (⟨rfl, by decide, by decide⟩) ?_
  refine g_dup hX (dk DX12_init_5 23 rfl) rfl ?_
  refine g_iconst (v := 4) hX (dk DX12_init_5 24 rfl) (by decide) ?_
  refine g_iconst (v := -1) hX (dk DX12_init_5 25 rfl) (by decide) ?_
  refine i_iastore (j := 4) hX (dk DX12_init_5 26 rfl) (Nat.le_of_ble_eq_true rfl) rfl (⟨rfl, by decide, by decide⟩) ?_
  refine g_dup hX (dk DX12_init_5 27 rfl) rfl ?_
  refine g_iconst (v := 5) hX (dk DX12_init_5 28 rfl) (by decide) ?_
  refine g_iconst (v := -1) hX (dk DX12_init_5 29 rfl) (by decide) ?_
  refine i_iastore (j := 5) hX (dk DX12_init_5 30 rfl) (Nat.le_of_ble_eq_true rfl) rfl (⟨rfl, by decide, by decide⟩) ?_
  refine g_putR (r := some 36) hX (dk DX12_init_5 31 rfl) KX12 fX12_220 (by decide) rfl (Nat.le_of_ble_eq_true rfl) rfl (Or.inr ⟨rfl, rfl, rfl⟩) rfl (rfl) (rfl) ?_
  refine g_aload_0 hX (dk DX12_init_5 32 rfl) ?_
  refine g_bipush (v := 6) hX (dk DX12_init_5 33 rfl) (by decide) ?_
  refine g_nw_int hX 37 38 6 (by first | rfl | exact hh) rfl (dk DX12_init_5 34 rfl) (tg_1 96 rfl rfl) rfl (by decide) (hGn 37 (by decide) (by decide)) (by decide) (by decide) ?_
  refine g_putR (r := some 37) hX (dk DX12_init_5 35 rfl) KX12 fX12_223 (by decide) rfl (Nat.le_of_ble_eq_true rfl) rfl (Or.inr ⟨rfl, rfl, rfl⟩) rfl (rfl) (rfl) ?_
  refine g_aload_0 hX (dk DX12_init_5 36 rfl) ?_
  refine g_sipush (v := 360) hX (dk DX12_init_5 37 rfl) (by decide) ?_
  refine g_nw_long hX 38 39 360 (by first | rfl | exact hh) rfl (dk DX12_init_5 38 rfl) (tg_1 227 rfl rfl) rfl (by decide) (hGn 38 (by decide) (by decide)) (by decide) (by decide) ?_
  refine g_putR (r := some 38) hX (dk DX12_init_5 39 rfl) KX12 fX12_226 (by decide) rfl (Nat.le_of_ble_eq_true rfl) rfl (Or.inr ⟨rfl, rfl, rfl⟩) rfl (rfl) (rfl) ?_
  refine g_aload_0 hX (dk DX12_init_5 40 rfl) ?_
  refine g_bipush (v := 60) hX (dk DX12_init_5 41 rfl) (by decide) ?_
  refine g_nw_long hX 39 40 60 (by first | rfl | exact hh) rfl (dk DX12_init_5 42 rfl) (tg_1 227 rfl rfl) rfl (by decide) (hGn 39 (by decide) (by decide)) (by decide) (by decide) ?_
  refine g_putR (r := some 39) hX (dk DX12_init_5 43 rfl) KX12 fX12_230 (by decide) rfl (Nat.le_of_ble_eq_true rfl) rfl (Or.inr ⟨rfl, rfl, rfl⟩) rfl (rfl) (rfl) ?_
  refine g_return hX (dk DX12_init_5 44 rfl) rfl (by decide) (by decide) ?_
  refine qV_of ⟨⟨?_, ?_, ?_⟩, ⟨fun _ _ _ => rfl, fun _ _ _ => rfl, fun _ _ => rfl, fun _ _ => ⟨rfl, rfl, rfl, rfl⟩, fun _ _ => rfl, ?_⟩, ⟨rfl, ?_, ?_⟩, ?_⟩
  · unfold pfL; repeat (first | exact am_0 | refine am_s rfl ?_)
  · unfold pcL; repeat (first | exact am_0 | refine am_s (fun hne j => by first | rfl | exact absurd rfl hne) ?_)
  · repeat (first | exact al_0 | refine al_s ?_ rfl)
  · repeat (first | exact al_0 | refine al_s ?_ rfl)
  · repeat (first | exact al_0 | refine al_s ?_ rfl)
  · repeat (first | exact al_0 | refine al_s ?_ (by first | rfl | exact hR0 _))
  · rfl
end
section
/-! arrays of arrays that are made at one stroke -/
def mqO (c : ClassId) (N h0 i : Nat) : Cell := arrV c N (fun j => if j < i then .ref (h0 + 1 + j) else .null)
def mqI (q : ClassId) (M : Nat) (v : Value) : Cell := arrV q M (fun _ => v)
def mqS (s : State) (c q : ClassId) (N M : Nat) (v : Value) : Nat → State := fun i => match i with
  | 0 => s.pushCell (mqO c N s.heap.size 0)
  | i + 1 => ((mqS s c q N M v i).pushCell (mqI q M v)).setCell s.heap.size (mqO c N s.heap.size (i + 1))
theorem mqO_size (c : ClassId) (N h0 i : Nat) : (mqO c N h0 i).slots.size = N := arrV_size _ _ _
theorem mqI_size (c : ClassId) (N : Nat) (v : Value) : (mqI c N v).slots.size = N := arrV_size _ _ _
theorem mqO_step (c : ClassId) (N h0 i : Nat) : (mqO c N h0 i).setSlot i (.ref (h0 + 1 + i)) = mqO c N h0 (i + 1) := by
  unfold mqO
  rw [arrV_store]
  congr 1
  funext j
  unfold updV
  by_cases e : j = i
  · subst e; simp
  · by_cases e2 : j < i
    · simp [e, e2, show j < i + 1 by omega]
    · simp [e, e2, show ¬ j < i + 1 by omega]
theorem mqS_f (s : State) (c q : ClassId) (N M : Nat) (v : Value) : ∀ i, (mqS s c q N M v i).heap.size = s.heap.size + 1 + i ∧ (mqS s c q N M v i).heap[s.heap.size]? = some (mqO c N s.heap.size i) ∧ (mqS s c q N M v i).vm = s.vm ∧ (mqS s c q N M v i).slotsUsed = s.slotsUsed + N + i * M ∧
    (∀ a, a < s.heap.size → (mqS s c q N M v i).heap[a]? = s.heap[a]?) ∧ ∀ j, j < i → (mqS s c q N M v i).heap[s.heap.size + 1 + j]? = some (mqI q M v) := by
  intro i
  induction i with
  | zero => exact ⟨by simp [mqS], by simp [mqS], rfl, by simp [mqS, mqO_size], fun a ha => State.heap_pushCell_of_lt _ _ ha, fun j hj => absurd hj (Nat.not_lt_zero j)⟩
  | succ i ih =>
    obtain ⟨f1, f2, f3, f4, f5, f6⟩ := ih
    have hlt : s.heap.size < (mqS s c q N M v i).heap.size := by omega
    have hb : ((mqS s c q N M v i).pushCell (mqI q M v)).heap[s.heap.size]? = some (mqO c N s.heap.size i) := by rw [State.heap_pushCell_of_lt (h := hlt)]; exact f2
    refine ⟨?_, State.heap_setCell_self hb, by simp [mqS, f3], ?_, fun a ha => ?_, fun j hj => ?_⟩
    · simp [mqS, State.setCell, f1]; omega
    · simp [mqS, f4, mqI_size, Nat.succ_mul]; omega
    · show (((mqS s c q N M v i).pushCell (mqI q M v)).setCell s.heap.size _).heap[a]? = _
      rw [State.heap_setCell_other (Nat.ne_of_gt ha), State.heap_pushCell_of_lt (h := show a < (mqS s c q N M v i).heap.size by rw [f1]; omega)]
      exact f5 a ha
    · show (((mqS s c q N M v i).pushCell (mqI q M v)).setCell s.heap.size _).heap[s.heap.size + 1 + j]? = _
      rw [State.heap_setCell_other (show s.heap.size ≠ s.heap.size + 1 + j by omega)]
      rcases Nat.lt_or_ge j i with z | z
      · rw [State.heap_pushCell_of_lt (h := show s.heap.size + 1 + j < (mqS s c q N M v i).heap.size by rw [f1]; omega)]
        exact f6 j z
      · have e : s.heap.size + 1 + j = (mqS s c q N M v i).heap.size := by omega
        rw [e]
        exact State.heap_pushCell_size _ _
theorem mqS_top (s : State) (f : JFrame) (c q : ClassId) (N M : Nat) (v : Value) : ∀ i, mqS (s.setTop f) c q N M v i = (mqS s c q N M v i).setTop f := by
  intro i
  induction i with
  | zero => rfl
  | succ i ih =>
    show ((mqS (s.setTop f) c q N M v i).pushCell _).setCell _ _ = _
    rw [ih]
    rfl
section MQW
variable {E : CtlPost} {e : Env} {b : Bool} {acts : List Action} {s : State}
theorem mq_new {c comp : ClassId} {k : Class} {type : FieldType} {len : Nat} {init : Value} (hk : s.vm.classes[c]? = some k) (hkind : k.kind = .array comp type)
    (hlim : ¬ len > e.platform.arrayLengthLimit) (hheap : ¬ len * componentBytes type > e.platform.maxHeapBytes) (hfit : fits type init = true) (hdef : init.isDefault = true) {Q : Addr → Pre}
    (h1 : s.heap.size < e.platform.maxCells) (h2 : s.slotsUsed + len ≤ e.platform.maxSlots) (hq : Q s.heap.size b acts (s.pushCell (mqI c len init))) : wp (Jvm.newArray c len init) Q E e b acts s := by
  have hall : (Array.replicate len init).all (·.isDefault) = true := by
    rw [Array.all_replicate]
    split
    · rfl
    · exact hdef
  have hact : allocActs (Array.replicate len init) s.heap.size acts = acts := if_pos hall
  have hcell : ({ cls := c, slots := Array.replicate len init, vm := .none } : Cell) = mqI c len init := arrV_new _ _ _
  simp only [Jvm.newArray, Jvm.arrayFits, wp_bind', W.ask, W.ite, hlim, if_false, wp_pure', W.theClass, hk, hkind, hheap, W.alloc, W.stop, Option.some.injEq, exists_eq_left', Array.size_replicate, hact]
  rw [if_neg (by omega)]
  refine ⟨h1, h2, fun i v hv => ?_, by rw [hcell]; exact hq⟩
  rw [Array.getElem?_replicate] at hv
  split at hv
  · cases hv
    simp [State.fitsSlot, State.slotType?, hk, hkind, hfit]
  · cases hv
theorem mq_ref {t : FieldType} (h : t.isReference = true) (v : Value) (hv : v = .null ∨ ∃ a, v = .ref a) : fits t v = true := by
  rcases hv with rfl | ⟨a, rfl⟩ <;> cases t <;> simp [FieldType.isReference] at h <;> rfl
theorem mq_make {c q cc : ClassId} {k kc : Class} {ty : FieldType} {n m : Int32} {N M : Nat} (hk : s.vm.classes[c]? = some k) (hkind : k.kind = .array q (.array ty)) (hkc : s.vm.classes[q]? = some kc) (hkindc : kc.kind = .array cc ty)
    (hn : ¬ n < 0) (hm : ¬ m < 0) (eN : n.toNatClampNeg = N) (eM : m.toNatClampNeg = M) (hl1 : ¬ N > e.platform.arrayLengthLimit) (hh1 : ¬ N * componentBytes (.array ty) > e.platform.maxHeapBytes) (hl2 : ¬ M > e.platform.arrayLengthLimit) (hh2 : ¬ M * componentBytes ty > e.platform.maxHeapBytes)
    (hdf : fits ty (defaultValue ty) = true) (hdd : (defaultValue ty).isDefault = true) (hc : s.heap.size + 1 + N ≤ e.platform.maxCells) (hs : s.slotsUsed + N + N * M ≤ e.platform.maxSlots)
    {Q : Addr → Pre} (hq : ∀ b' acts', Q s.heap.size b' acts' (mqS s c q N M (defaultValue ty) N)) : wp (multianewarray.make c [n, m]) Q E e b acts s := by
  subst eN eM
  have hfind : ([m].find? (· < 0)) = none := by simp [hm]
  have h0 : mqO c n.toNatClampNeg s.heap.size 0 = mqI c n.toNatClampNeg .null := by unfold mqO mqI; congr 1
  rw [multianewarray.make]
  simp only [wp_bind', W.ite, hn, if_false, wp_pure', W.theClass, hk, hkind, Option.some.injEq, exists_eq_left']
  refine mq_new hk hkind hl1 hh1 (mq_ref rfl _ (Or.inl rfl)) rfl (by omega) (by have := Nat.zero_le (n.toNatClampNeg * m.toNatClampNeg); omega) ?_
  simp only [hfind]
  rw [ite_self, wp_bind', Std.Legacy.Range.forIn_eq_forIn_range']
  have hsz : ([:n.toNatClampNeg] : Std.Legacy.Range).size = n.toNatClampNeg := by simp [Std.Legacy.Range.size]
  rw [hsz, ← h0]
  refine wp_forIn_inv (fun rest s' => ∃ i, i ≤ n.toNatClampNeg ∧ rest = List.range' i (n.toNatClampNeg - i) ∧ s' = mqS s c q n.toNatClampNeg m.toNatClampNeg (defaultValue ty) i) _ _ ⟨0, Nat.zero_le _, rfl, rfl⟩ ?_ ?_
  · rintro x rest s' b' acts' Q' ⟨i, hi, hl, rfl⟩ hnext
    have hlt : i < n.toNatClampNeg := by
      rcases Nat.lt_or_ge i n.toNatClampNeg with z | z
      · exact z
      · rw [show n.toNatClampNeg - i = 0 by omega] at hl
        simp at hl
    rw [show n.toNatClampNeg - i = (n.toNatClampNeg - (i + 1)) + 1 by omega, List.range'_succ] at hl
    obtain ⟨e1, e2⟩ := List.cons.inj hl
    subst e1
    obtain ⟨f1, f2, f3, f4, -, -⟩ := mqS_f s c q n.toNatClampNeg m.toNatClampNeg (defaultValue ty) x
    have hmul : x * m.toNatClampNeg + m.toNatClampNeg ≤ n.toNatClampNeg * m.toNatClampNeg := by
      have := Nat.mul_le_mul_right m.toNatClampNeg (show x + 1 ≤ n.toNatClampNeg from hlt)
      rw [Nat.succ_mul] at this
      exact this
    have hlt0 : s.heap.size < (mqS s c q n.toNatClampNeg m.toNatClampNeg (defaultValue ty) x).heap.size := by rw [f1]; omega
    simp only [wp_bind']
    rw [multianewarray.make]
    simp only [wp_bind', W.ite, hm, if_false, wp_pure', W.theClass, f3, hkc, hkindc, Option.some.injEq, exists_eq_left']
    refine mq_new (by rw [f3]; exact hkc) hkindc hl2 hh2 hdf hdd (by rw [f1]; omega) (by rw [f4]; omega) ?_
    simp only [wp_bind', W.writeLoc, wp_pure']
    refine ⟨mqO c n.toNatClampNeg s.heap.size x, by rw [State.heap_pushCell_of_lt (h := hlt0)]; exact f2, by simp [mqO, arrV], by rw [mqO_size]; exact hlt, ?_, hnext _ _ _ ⟨x + 1, hlt, e2, ?_⟩⟩
    · show State.fitsSlot _ c .none x _ = true
      simp [State.fitsSlot, State.slotType?, f3, hk, hkind, mq_ref (t := .array ty) rfl _ (Or.inr ⟨_, rfl⟩)]
    · rw [f1, mqO_step]
      rfl
  · rintro s' b' acts' ⟨i, hi, hl, rfl⟩
    have hiN : i = n.toNatClampNeg := by
      rcases Nat.lt_or_ge i n.toNatClampNeg with z | z
      · rw [show n.toNatClampNeg - i = (n.toNatClampNeg - (i + 1)) + 1 by omega, List.range'_succ] at hl
        cases hl
      · omega
    subst hiN
    simp only [wp_pure']
    exact hq _ _
end MQW
section MQS
variable {p : Program} {l : Launch} {e : Env} {R : Room} {s : State} {m : MethodId} {args : Array Value} {below : List Frame} {meth : Method} {c : Code} {T : State} {locs : List Loc} {cells slots : Nat}
theorem mq_stand (X : Stand p l e R s m args below meth c T locs cells slots) (cA q : ClassId) (N M : Nat) (v : Value) : ∀ i, Stand p l e R s m args below meth c (mqS T cA q N M v i) (locs ++ (List.range i).map fun j => ⟨T.heap.size, j⟩) (cells + 1 + i) (slots + N + i * M) := by
  intro i
  induction i with
  | zero =>
    have h := X.pushed (mqO cA N T.heap.size 0)
    rw [mqO_size] at h
    simpa [mqS] using h
  | succ i ih =>
    obtain ⟨f1, f2, -, -, -, -⟩ := mqS_f T cA q N M v i
    have hlt : T.heap.size < (mqS T cA q N M v i).heap.size := by rw [f1]; omega
    have hcell : ((mqS T cA q N M v i).pushCell (mqI q M v)).heap[T.heap.size]? = some (mqO cA N T.heap.size i) := by rw [State.heap_pushCell_of_lt (h := hlt)]; exact f2
    have h := (ih.pushed (mqI q M v)).stored hcell i (.ref (T.heap.size + 1 + i))
    rw [mqI_size, mqO_step] at h
    have e2 : (locs ++ (List.range (i + 1)).map fun j => (⟨T.heap.size, j⟩ : Loc)) = (locs ++ (List.range i).map fun j => (⟨T.heap.size, j⟩ : Loc)) ++ [⟨T.heap.size, i⟩] := by simp [List.range_succ, List.append_assoc]
    have e3 : slots + N + (i + 1) * M = slots + N + i * M + M := by rw [Nat.succ_mul]; omega
    rw [e2, e3]
    exact h
theorem W_multi {cc : ByteArray} {H : Heap} {Q : State → Prop} (hexec : p.tables.exec = Jvm.exec) (hb : c.code = cc) {own : String} {index : Nat} {ty : FieldType} {n k : Int32} {N M : Nat}
    (hown : s.vm.findClass own = some m.cls) (hclink : (Cond.classLink own index ("[" ++ (FieldType.array ty).toString)).before args s = true) (hover : (Cond.arrayOver (.array ty)).before args s = true) (harr : (Cond.arrayClass ty).before args s = true)
    {g : JFrame} (hg : g.method = m) (hdg : decode cc g.pc = .ok (.multianewarray index 2, 4)) {rest : List Value} (hstack : g.stack = .int k :: .int n :: rest)
    (hn : ¬ n < 0) (hk : ¬ k < 0) (eN : n.toNatClampNeg = N) (eM : k.toNatClampNeg = M) (hb1 : N * 4 ≤ 536870912) (hb2 : M * componentBytes ty ≤ 536870912) (hb3 : M ≤ 536870912)
    (hdf : fits ty (defaultValue ty) = true) (hdd : (defaultValue ty).isDefault = true) (hcells : cells + (1 + N) ≤ R.cells) (hslots : slots + (N + N * M) ≤ R.slots)
    (kk : ∀ (H' : Heap) (cA q : ClassId), s.vm.findClass ("[" ++ (FieldType.array ty).toString) = some cA → s.vm.findClass (FieldType.array ty).toString = some q → H'.size = H.size + 1 + N → H'[H.size]? = some (mqO cA N H.size N) → (∀ a, a < H.size → H'[a]? = H[a]?) → (∀ j, j < N → H'[H.size + 1 + j]? = some (mqI q M (defaultValue ty))) →
      W p l e R s m args below meth c H' locs (cells + 1 + N) (slots + N + N * M) Q { g with pc := g.pc + 4, stack := .ref H.size :: rest }) : W p l e R s m args below meth c H locs cells slots Q g := by
  intro T hT X
  subst hT hb hg
  have hpl : e.platform.magicAccessors = ({} : Platform).magicAccessors := by rw [X.admits.platform]
  obtain ⟨q, cA, kA, hcomp, -, hkA, hkindA, hnameA⟩ := arrayOverA_spec hover
  obtain ⟨q', kC, cc, hcomp', hkC, hkindC⟩ := Cond.arrayClass_spec harr
  have ecomp : q' = q := Option.some.inj (hcomp'.symm.trans hcomp)
  subst ecomp
  obtain ⟨c0, hfc0, hcl⟩ := Cond.classLink_spec hown hclink e.platform hpl
  cases hnameA.symm.trans hfc0
  obtain ⟨hg₁, hwarm₁, hready₁⟩ := State.classEntry (e := e) X.warmed hcl
  generalize T.vm.noted g.method.cls index (.cls cA) = vm₁ at hg₁ hwarm₁ hready₁
  have hal : s.vm.Alike vm₁ := hwarm₁.alike
  obtain ⟨kA₁, hkA₁, heA⟩ := hal.2.2 _ _ hkA
  obtain ⟨kC₁, hkC₁, heC⟩ := hal.2.2 _ _ hkC
  have X₁ := X.noted hwarm₁
  obtain ⟨hr1, hr2⟩ := X.roomAbove hcells hslots
  have hl1 : ¬ N > e.platform.arrayLengthLimit := by rw [Launch.admits_arrayLengthLimit X.admits]; omega
  have hh1 : ¬ N * componentBytes (.array ty) > e.platform.maxHeapBytes := by
    rw [Launch.admits_maxHeapBytes X.admits]
    show ¬ N * 4 > 536870912
    omega
  have hl2 : ¬ M > e.platform.arrayLengthLimit := by rw [Launch.admits_arrayLengthLimit X.admits]; omega
  have hh2 : ¬ M * componentBytes ty > e.platform.maxHeapBytes := by rw [Launch.admits_maxHeapBytes X.admits]; omega
  have XF := mq_stand X₁ cA q' N M (defaultValue ty) N
  obtain ⟨f1, f2, f3, f4, f5, f6⟩ := mqS_f (T.setVm vm₁) cA q' N M (defaultValue ty) N
  have XG := Stand.forget XF (fun y hy => by
    obtain ⟨j, -, rfl⟩ := List.mem_map.mp hy
    exact X.same.2.1)
  obtain ⟨t, a1, b1⟩ := kk (mqS (T.setVm vm₁) cA q' N M (defaultValue ty) N).heap cA q' hnameA hcomp f1 f2 f5 f6 _ rfl XG
  refine ⟨t, ?_, b1⟩
  jvm_step X.here [hexec, hdg]
  simp only [multianewarray.sem, wp_bind', W.resolveClassAt_links (State.method?_setTop g X.here.top) hg₁]
  rw [W.popN, if_neg (by decide)]
  refine ⟨g, State.topJava?_setTop' (s := T.setVm vm₁) g X.here.top, [.int n, .int k], rest, rfl, hstack, ?_⟩
  simp only [List.mapM_cons, List.mapM_nil, wp_bind', wp_pure']
  have eS : ((T.setTop g).setVm vm₁).setTop { g with stack := rest } = (T.setVm vm₁).setTop { g with stack := rest } := by
    show ((T.setVm vm₁).setTop g).setTop _ = _
    rw [State.setTop_setTop]
  refine mq_make (k := kA₁) (kc := kC₁) (q := q') (cc := cc) (ty := ty) (N := N) (M := M) hkA₁ (by rw [heA]; exact hkindA) hkC₁ (by rw [heC]; exact hkindC) hn hk eN eM hl1 hh1 hl2 hh2 hdf hdd (by show T.heap.size + 1 + _ ≤ _; omega) (by show T.slotsUsed + _ + _ ≤ _; omega) (fun b' acts' => ?_)
  rw [eS, mqS_top]
  simp only [wp_bind', W.mark, W.pushRef, State.topJava?_setTop' _ XF.here.top, Option.some.injEq, exists_eq_left', State.setTop_setTop, State.heap_setTop]
  intro acts
  simp [jvm, XF.here.top]
  exact a1
end MQS
end
section
def zMI (I : It) (a N : Nat) : It := fun b j => if a ≤ b ∧ b ≤ a + N then 0 else I b j
def zM (h : Ht) (a a1 N : Nat) (sh sh2 : Nat × Nat) : Ht := (fun b j => if a ≤ b ∧ b ≤ a + N then 0 else hL h b j, fun b j => if b = a then (if j < N then some (a + 1 + j) else none) else if a ≤ b ∧ b ≤ a + N then none else hR h b j, fun b => if b = a then sh else if a ≤ b ∧ b ≤ a + N then sh2 else hs h b, a1)
theorem ga_run {G : Gt} {a N : Nat} (hG : ∀ j, j ≤ N → Gnew G (a + j)) : ∀ j, j ≤ N → ga G (a + j) = ga G a + j := by
  intro j
  induction j with
  | zero => intro _; rfl
  | succ j ih =>
    intro hj
    have e1 := (hG j (by omega)).2
    have e2 := (hG (j + 1) hj).1
    have e3 := ih (by omega)
    have e4 : gz G (a + j + 1) = ga G (a + j + 1) := e2
    show ga G (a + j + 1) = _
    rw [← e4, e1, e3]
    omega
theorem wl_app {G : Gt} {I I' : It} {h h' : Ht} {K : Nat} (hn' : hn h' = hn h + K) (ho : ∀ b, b < hn h → ent G I' h' b = ent G I h b) : wl G I' h' = wl G I h ++ (List.range K).map fun i => (ga G (hn h + i), ent G I' h' (hn h + i)) := by
  unfold wl
  rw [hn', List.range_add, List.map_append, List.map_map]
  congr 1
  apply List.map_congr_left
  intro b hb
  rw [ho b (List.mem_range.mp hb)]
section ML
variable {G : Gt} {d mc ms : Nat} {own : String} {y : Mt} {X : Xt} {P : Pt3} {pc nx : Nat} {lo : List (Option Value)} {st : List Value} {I : It} {h : Ht} {k n : Nat}
theorem g_nw_multi_int (hX : Xok G own y X) {idx : Nat} {i1 i2 : Int32} (a a1 N M : Nat) (ha : hn h = a) (h1 : a + N + 1 = a1) (hd : dc y.2.1 pc (.multianewarray idx 2) 4 nx) (hl : Cond.classLink own idx ("[" ++ (FieldType.array .int).toString) ∈ TG) (har : Cond.arrayClass .int ∈ TG) (e1 : i1 = nI N) (e2 : i2 = nI M) (hN : N ≤ 1000000) (hM : M ≤ 1000000) (hG : ∀ j, j ≤ N → Gnew G (a + j)) (hk : k + (1 + N) ≤ mc) (hn' : n + (N + N * M) ≤ ms)
    (kk : GG G d mc ms X P nx lo (.ref a :: st) (zMI I a N) (zM h a a1 N (26, N) (20, M)) (k + 1 + N) (n + N + N * M)) : GG G d mc ms X P pc lo (.int i2 :: .int i1 :: st) I h k n := by
  obtain ⟨p, l, e, s, m, args, below, meth, c⟩ := X
  obtain ⟨hexec, hb, hml, hown, hts, hKs, hGk, hlk, hrt, hnm⟩ := hX
  obtain ⟨hd, rfl⟩ := hd
  subst e1 e2 ha h1
  intro H locs ls hlv hW hS
  have hsz : H.size = ga G (hn h) := by rw [hW.2]; exact (hG 0 (Nat.zero_le _)).1
  have hrun := ga_run hG
  refine W_multi (ty := .int) (n := nI N) (k := nI M) hexec hb hown (hts _ hl) (hKs.2.2.2.2.2.1) (hts _ har) rfl hd rfl (nI_pos (by omega)) (nI_pos (by omega)) (nI_clamp (by omega)) (nI_clamp (by omega)) (by omega) (by show M * _ ≤ _; simp only [componentBytes]; omega) (by omega) rfl rfl hk hn' fun H1 cA q hc1 hc2 z1 o1 o2 o3 => ?_
  have hA : s.vm.findClass ("[" ++ (FieldType.array .int).toString) = some (gc G 26) := (hKs.1.2 6 _ (tys_at rfl)).2
  have hB : s.vm.findClass (FieldType.array .int).toString = some (gc G 20) := (hKs.1.2 0 _ (tys_at rfl)).2
  cases hc1.symm.trans hA
  cases hc2.symm.trans hB
  rw [hsz] at o1 o2 o3 z1 ⊢
  have hoff : ∀ b, b < hn h → ent G (zMI I (hn h) N) (zM h (hn h) (hn h + N + 1) N (26, N) (20, M)) b = ent G I h b := fun b hb2 => by
    have hne : b ≠ hn h := Nat.ne_of_lt hb2
    have hnr : ¬ (hn h ≤ b ∧ b ≤ hn h + N) := fun z => by omega
    apply ent_congr
    · funext j; simp [zMI, hnr]
    · funext j; show (if _ then 0 else hL h b j) = _; rw [if_neg hnr]
    · funext j; show (if b = hn h then _ else if _ then none else hR h b j) = _; rw [if_neg hne, if_neg hnr]
    · show (if b = hn h then _ else if _ then _ else hs h b) = _; rw [if_neg hne, if_neg hnr]
  have hwl := wl_app (G := G) (I := I) (h := h) (I' := zMI I (hn h) N) (h' := zM h (hn h) (hn h + N + 1) N (26, N) (20, M)) (K := N + 1) rfl hoff
  refine kk H1 locs ls hlv ⟨?_, ?_⟩ ⟨Nat.le_trans hS.1 (by omega), fun x g1 g2 => by rw [o2 x (by rw [← hsz]; exact Nat.lt_of_lt_of_le g1 hS.1)]; exact hS.2.1 x g1 g2, hS.2.2⟩
  · rw [hwl]
    refine (hW.1.kept (fun i x hx => o2 x.1 (by rw [← hsz]; exact (hW.1 i x hx).lt))).app (fun i x hx => ?_)
    rw [List.getElem?_map] at hx
    have hi : i < N + 1 := by
      rcases Nat.lt_or_ge i (N + 1) with z | z
      · exact z
      · rw [List.getElem?_eq_none (by rw [List.length_range]; exact z)] at hx; cases hx
    rw [List.getElem?_range hi] at hx
    cases hx
    cases i with
    | zero =>
      show va_at _ _ (ga G (hn h), ent _ _ _ (hn h)) H1
      have hsh : hs (zM h (hn h) (hn h + N + 1) N (26, N) (20, M)) (hn h) = (26, N) := if_pos rfl
      rw [ent_ref hsh (by decide)]
      show H1[ga G (hn h)]? = some (vp_cell _ _)
      rw [o1, vp_cell_q]
      unfold mqO
      congr 2
      funext j
      show _ = va_rf ((if hn h = hn h then (if j < N then some (hn h + 1 + j) else none) else _).map (ga G))
      rw [if_pos rfl]
      by_cases hj : j < N
      · rw [if_pos hj, if_pos hj]
        show Value.ref _ = Value.ref (ga G (hn h + 1 + j))
        rw [show hn h + 1 + j = hn h + (j + 1) by omega, hrun (j + 1) (by omega)]
        exact congrArg Value.ref (show (ga G (hn h) + 1 + j : Nat) = ga G (hn h) + (j + 1) by omega)
      · rw [if_neg hj, if_neg hj]; rfl
    | succ i =>
      show va_at _ _ (ga G (hn h + (i + 1)), ent _ _ _ (hn h + (i + 1))) H1
      have hsh : hs (zM h (hn h) (hn h + N + 1) N (26, N) (20, M)) (hn h + (i + 1)) = (20, M) := by
        show (if _ = hn h then _ else if _ then _ else _) = _
        rw [if_neg (by omega), if_pos (by omega)]
      rw [ent_int hsh (Or.inl rfl)]
      show H1[ga G (hn h + (i + 1))]? = some (vp_cell _ _)
      rw [hrun (i + 1) (by omega), show ga G (hn h) + (i + 1) = ga G (hn h) + 1 + i by omega, o3 i (by omega), vp_cell_i]
      unfold mqI
      congr 2
      funext j
      show Value.int 0 = Value.int (if hn h ≤ hn h + (i + 1) ∧ hn h + (i + 1) ≤ hn h + N then 0 else I (hn h + (i + 1)) j)
      rw [if_pos (by omega)]
  · rw [z1]
    show _ = gz G (hn h + N + 1)
    rw [(hG N (Nat.le_refl _)).2, hrun N (Nat.le_refl _)]
    omega
theorem g_nw_multi_long (hX : Xok G own y X) {idx : Nat} {i1 i2 : Int32} (a a1 N M : Nat) (ha : hn h = a) (h1 : a + N + 1 = a1) (hd : dc y.2.1 pc (.multianewarray idx 2) 4 nx) (hl : Cond.classLink own idx ("[" ++ (FieldType.array .long).toString) ∈ TG) (har : Cond.arrayClass .long ∈ TG) (e1 : i1 = nI N) (e2 : i2 = nI M) (hN : N ≤ 1000000) (hM : M ≤ 1000000) (hG : ∀ j, j ≤ N → Gnew G (a + j)) (hk : k + (1 + N) ≤ mc) (hn' : n + (N + N * M) ≤ ms)
    (kk : GG G d mc ms X P nx lo (.ref a :: st) (zMI I a N) (zM h a a1 N (27, N) (21, M)) (k + 1 + N) (n + N + N * M)) : GG G d mc ms X P pc lo (.int i2 :: .int i1 :: st) I h k n := by
  obtain ⟨p, l, e, s, m, args, below, meth, c⟩ := X
  obtain ⟨hexec, hb, hml, hown, hts, hKs, hGk, hlk, hrt, hnm⟩ := hX
  obtain ⟨hd, rfl⟩ := hd
  subst e1 e2 ha h1
  intro H locs ls hlv hW hS
  have hsz : H.size = ga G (hn h) := by rw [hW.2]; exact (hG 0 (Nat.zero_le _)).1
  have hrun := ga_run hG
  refine W_multi (ty := .long) (n := nI N) (k := nI M) hexec hb hown (hts _ hl) (hKs.2.2.2.2.2.2) (hts _ har) rfl hd rfl (nI_pos (by omega)) (nI_pos (by omega)) (nI_clamp (by omega)) (nI_clamp (by omega)) (by omega) (by show M * _ ≤ _; simp only [componentBytes]; omega) (by omega) rfl rfl hk hn' fun H1 cA q hc1 hc2 z1 o1 o2 o3 => ?_
  have hA : s.vm.findClass ("[" ++ (FieldType.array .long).toString) = some (gc G 27) := (hKs.1.2 7 _ (tys_at rfl)).2
  have hB : s.vm.findClass (FieldType.array .long).toString = some (gc G 21) := (hKs.1.2 1 _ (tys_at rfl)).2
  cases hc1.symm.trans hA
  cases hc2.symm.trans hB
  rw [hsz] at o1 o2 o3 z1 ⊢
  have hoff : ∀ b, b < hn h → ent G (zMI I (hn h) N) (zM h (hn h) (hn h + N + 1) N (27, N) (21, M)) b = ent G I h b := fun b hb2 => by
    have hne : b ≠ hn h := Nat.ne_of_lt hb2
    have hnr : ¬ (hn h ≤ b ∧ b ≤ hn h + N) := fun z => by omega
    apply ent_congr
    · funext j; simp [zMI, hnr]
    · funext j; show (if _ then 0 else hL h b j) = _; rw [if_neg hnr]
    · funext j; show (if b = hn h then _ else if _ then none else hR h b j) = _; rw [if_neg hne, if_neg hnr]
    · show (if b = hn h then _ else if _ then _ else hs h b) = _; rw [if_neg hne, if_neg hnr]
  have hwl := wl_app (G := G) (I := I) (h := h) (I' := zMI I (hn h) N) (h' := zM h (hn h) (hn h + N + 1) N (27, N) (21, M)) (K := N + 1) rfl hoff
  refine kk H1 locs ls hlv ⟨?_, ?_⟩ ⟨Nat.le_trans hS.1 (by omega), fun x g1 g2 => by rw [o2 x (by rw [← hsz]; exact Nat.lt_of_lt_of_le g1 hS.1)]; exact hS.2.1 x g1 g2, hS.2.2⟩
  · rw [hwl]
    refine (hW.1.kept (fun i x hx => o2 x.1 (by rw [← hsz]; exact (hW.1 i x hx).lt))).app (fun i x hx => ?_)
    rw [List.getElem?_map] at hx
    have hi : i < N + 1 := by
      rcases Nat.lt_or_ge i (N + 1) with z | z
      · exact z
      · rw [List.getElem?_eq_none (by rw [List.length_range]; exact z)] at hx; cases hx
    rw [List.getElem?_range hi] at hx
    cases hx
    cases i with
    | zero =>
      show va_at _ _ (ga G (hn h), ent _ _ _ (hn h)) H1
      have hsh : hs (zM h (hn h) (hn h + N + 1) N (27, N) (21, M)) (hn h) = (27, N) := if_pos rfl
      rw [ent_ref hsh (by decide)]
      show H1[ga G (hn h)]? = some (vp_cell _ _)
      rw [o1, vp_cell_q]
      unfold mqO
      congr 2
      funext j
      show _ = va_rf ((if hn h = hn h then (if j < N then some (hn h + 1 + j) else none) else _).map (ga G))
      rw [if_pos rfl]
      by_cases hj : j < N
      · rw [if_pos hj, if_pos hj]
        show Value.ref _ = Value.ref (ga G (hn h + 1 + j))
        rw [show hn h + 1 + j = hn h + (j + 1) by omega, hrun (j + 1) (by omega)]
        exact congrArg Value.ref (show (ga G (hn h) + 1 + j : Nat) = ga G (hn h) + (j + 1) by omega)
      · rw [if_neg hj, if_neg hj]; rfl
    | succ i =>
      show va_at _ _ (ga G (hn h + (i + 1)), ent _ _ _ (hn h + (i + 1))) H1
      have hsh : hs (zM h (hn h) (hn h + N + 1) N (27, N) (21, M)) (hn h + (i + 1)) = (21, M) := by
        show (if _ = hn h then _ else if _ then _ else _) = _
        rw [if_neg (by omega), if_pos (by omega)]
      rw [ent_long hsh]
      show H1[ga G (hn h + (i + 1))]? = some (vp_cell _ _)
      rw [hrun (i + 1) (by omega), show ga G (hn h) + (i + 1) = ga G (hn h) + 1 + i by omega, o3 i (by omega), vp_cell_l]
      unfold mqI
      congr 2
      funext j
      show Value.long 0 = Value.long (if hn h ≤ hn h + (i + 1) ∧ hn h + (i + 1) ≤ hn h + N then 0 else hL h (hn h + (i + 1)) j)
      rw [if_pos (by omega)]
  · rw [z1]
    show _ = gz G (hn h + N + 1)
    rw [(hG N (Nat.le_refl _)).2, hrun N (Nat.le_refl _)]
    omega
end ML
end
section
section AAS
variable {G : Gt} {d mc ms : Nat} {own : String} {y : Mt} {X : Xt} {P : Pt3} {pc nx : Nat} {lo : List (Option Value)} {st : List Value} {I : It} {h : Ht} {k n : Nat}
theorem i_aastore (hX : Xok G own y X) {q t len i0 v ci N j : Nat} {C E : String} {T : u_T} {ty : Nat → FieldType} {i : Int32} (hd : dc y.2.1 pc .aastore 1 nx) (hq : q < hn h) (hc : hs h q = (t, len)) (ht : 24 ≤ t) (hty : tysL[i0]? = some (t, .object E)) (hj : idx i j len)
    (hv : v < hn h) (hvc : (hs h v).1 = ci) (hC : CLS ci C T N ty) (hCE : C = E ∨ (C, E) ∈ castL) (kk : GG G d mc ms X P nx lo st I (wR h q j (some v)) k n) : GG G d mc ms X P pc lo (.ref v :: .int i :: .ref q :: st) I h k n :=
  g_aastore hX hd hq hc ht hty (idx_in hj) hv hvc hC hCE (by rw [idx_cl hj]; exact kk)
end AAS
theorem lg_nIlen {n : Nat} : Int32.ofNat n = nI n := rfl
theorem g_c1K {G : Gt} {d mc ms : Nat} {own : String} {y : Mt} {X : Xt} {P : Pt3} {pc nx : Nat} {lo : List (Option Value)} {st : List Value} {I : It} {h : Ht} {k n : Nat} (hX : Xok G own y X) {y2 : Mt} {ci : Option Nat} {d2 mc2 ms2 : Nat} {v0 : Value} {I1 : It} {h1 : Ht} (S : Site own y pc nx y2 ci 1) (hdd : d2 + 1 ≤ d) (hst : (st.map fun v => v.category).sum ≤ 8) (hrc : ∀ c, ci = some c → ∃ b As, ([v0] : List Value) = .ref b :: As ∧ b < hn h ∧ (hs h b).1 = c) (hk : k + mc2 ≤ mc) (hms : n + ms2 ≤ ms) (hC : Con G d2 mc2 ms2 y2 [v0] I h (rV I1 h1)) (kk : GG G d mc ms X P nx lo st I1 h1 (k + mc2) (n + ms2)) : GG G d mc ms X P pc lo (v0 :: st) I h k n :=
  g_c1 hX S hdd hst hrc hk hms hC (fun r I' h' hq => by obtain ⟨rfl, rfl, rfl⟩ := hq; exact kk)
theorem g_c2K {G : Gt} {d mc ms : Nat} {own : String} {y : Mt} {X : Xt} {P : Pt3} {pc nx : Nat} {lo : List (Option Value)} {st : List Value} {I : It} {h : Ht} {k n : Nat} (hX : Xok G own y X) {y2 : Mt} {ci : Option Nat} {d2 mc2 ms2 : Nat} {v0 v1 : Value} {I1 : It} {h1 : Ht} (S : Site own y pc nx y2 ci 2) (hdd : d2 + 1 ≤ d) (hst : (st.map fun v => v.category).sum ≤ 8) (hrc : ∀ c, ci = some c → ∃ b As, ([v0, v1] : List Value) = .ref b :: As ∧ b < hn h ∧ (hs h b).1 = c) (hk : k + mc2 ≤ mc) (hms : n + ms2 ≤ ms) (hC : Con G d2 mc2 ms2 y2 [v0, v1] I h (rV I1 h1)) (kk : GG G d mc ms X P nx lo st I1 h1 (k + mc2) (n + ms2)) : GG G d mc ms X P pc lo (v1 :: v0 :: st) I h k n :=
  g_c2 hX S hdd hst hrc hk hms hC (fun r I' h' hq => by obtain ⟨rfl, rfl, rfl⟩ := hq; exact kk)
set_option maxRecDepth 8000 in
set_option maxHeartbeats 4000000 in
theorem c_State1 {G : Gt} (hG : Gok G) {I : It} {h : Ht}  (hGn : ∀ b, 2 ≤ b → b < 7 → Gnew G b) (hh : hn h = 2) (hs0 : (hs h 1).1 = 5) (hlt : 1 < hn h) : Con G (1) 5 48 mX5_init [.ref 1] I h (rV (zI (zI (zI (zI (zI I 2) 3) 4) 5) 6) (wR (zA (wR (zA (wR (zA (wR (zA (wR (zA h 2 3 (24, 10)) 1 0 (some 2)) 3 4 (20, 10)) 1 1 (some 3)) 4 5 (20, 4)) 1 5 (some 4)) 5 6 (20, 12)) 1 10 (some 5)) 6 7 (20, 12)) 1 11 (some 6))) := by
  refine con_intro (own := RX5) (lo0 := [some (.ref 1)]) hG rfl pl_X5 (Nat.le_of_ble_eq_true rfl) rfl (fun X hX => ?_)
  refine g_aload_0 hX (dk DX5_init 0 rfl) ?_
  refine g_objInit hX (dk DX5_init 1 rfl) (tg_1 31 rfl rfl) (tg_1 24 rfl rfl) (tg_1 25 rfl rfl) (by decide) (by decide) ?_
  refine g_aload_0 hX (dk DX5_init 2 rfl) ?_
  refine g_bipush (v := 10) hX (dk DX5_init 3 rfl) (by decide) ?_
  refine g_nw_ref hX 2 3 10 (by first | rfl | exact hh) rfl (dk DX5_init 4 rfl) (by decide) (i0 := 4) rfl (tg_1 32 rfl rfl) (fun U h => h.2.2.2.1.1) rfl (by decide) (hGn 2 (by decide) (by decide)) (by decide) (by decide) ?_
  refine g_putR (r := some 2) hX (dk DX5_init 5 rfl) KX5 fX5_11 (by decide) rfl (Nat.le_of_ble_eq_true rfl) hs0 (Or.inr ⟨rfl, rfl, rfl⟩) rfl (rfl) (rfl) ?_
  refine g_aload_0 hX (dk DX5_init 6 rfl) ?_
  refine g_bipush (v := 10) hX (dk DX5_init 7 rfl) (by decide) ?_
  refine g_nw_int hX 3 4 10 (by first | rfl | exact hh) rfl (dk DX5_init 8 rfl) (tg_1 96 rfl rfl) rfl (by decide) (hGn 3 (by decide) (by decide)) (by decide) (by decide) ?_
  refine g_putR (r := some 3) hX (dk DX5_init 9 rfl) KX5 fX5_17 (by decide) rfl (Nat.le_of_ble_eq_true rfl) hs0 (Or.inr ⟨rfl, rfl, rfl⟩) rfl (rfl) (rfl) ?_
  refine g_aload_0 hX (dk DX5_init 10 rfl) ?_
  refine g_iconst (v := 4) hX (dk DX5_init 11 rfl) (by decide) ?_
  refine g_nw_int hX 4 5 4 (by first | rfl | exact hh) rfl (dk DX5_init 12 rfl) (tg_1 96 rfl rfl) rfl (by decide) (hGn 4 (by decide) (by decide)) (by decide) (by decide) ?_
  refine g_putR (r := some 4) hX (dk DX5_init 13 rfl) KX5 fX5_21 (by decide) rfl (Nat.le_of_ble_eq_true rfl) hs0 (Or.inr ⟨rfl, rfl, rfl⟩) rfl (rfl) (rfl) ?_
  refine g_aload_0 hX (dk DX5_init 14 rfl) ?_
  refine g_bipush (v := 12) hX (dk DX5_init 15 rfl) (by decide) ?_
  refine g_nw_int hX 5 6 12 (by first | rfl | exact hh) rfl (dk DX5_init 16 rfl) (tg_1 96 rfl rfl) rfl (by decide) (hGn 5 (by decide) (by decide)) (by decide) (by decide) ?_
  refine g_putR (r := some 5) hX (dk DX5_init 17 rfl) KX5 fX5_24 (by decide) rfl (Nat.le_of_ble_eq_true rfl) hs0 (Or.inr ⟨rfl, rfl, rfl⟩) rfl (rfl) (rfl) ?_
  refine g_aload_0 hX (dk DX5_init 18 rfl) ?_
  refine g_bipush (v := 12) hX (dk DX5_init 19 rfl) (by decide) ?_
  refine g_nw_int hX 6 7 12 (by first | rfl | exact hh) rfl (dk DX5_init 20 rfl) (tg_1 96 rfl rfl) rfl (by decide) (hGn 6 (by decide) (by decide)) (by decide) (by decide) ?_
  refine g_putR (r := some 6) hX (dk DX5_init 21 rfl) KX5 fX5_27 (by decide) rfl (Nat.le_of_ble_eq_true rfl) hs0 (Or.inr ⟨rfl, rfl, rfl⟩) rfl (rfl) (rfl) ?_
  refine g_return hX (dk DX5_init 22 rfl) rfl (by decide) (by decide) ?_
  exact rV_of rfl rfl

set_option maxRecDepth 8000 in
set_option maxHeartbeats 4000000 in
theorem c_State7 {G : Gt} (hG : Gok G) {I : It} {h : Ht}  (hGn : ∀ b, 8 ≤ b → b < 13 → Gnew G b) (hh : hn h = 8) (hs0 : (hs h 7).1 = 5) (hlt : 7 < hn h) : Con G (1) 5 48 mX5_init [.ref 7] I h (rV (zI (zI (zI (zI (zI I 8) 9) 10) 11) 12) (wR (zA (wR (zA (wR (zA (wR (zA (wR (zA h 8 9 (24, 10)) 7 0 (some 8)) 9 10 (20, 10)) 7 1 (some 9)) 10 11 (20, 4)) 7 5 (some 10)) 11 12 (20, 12)) 7 10 (some 11)) 12 13 (20, 12)) 7 11 (some 12))) := by
  refine con_intro (own := RX5) (lo0 := [some (.ref 7)]) hG rfl pl_X5 (Nat.le_of_ble_eq_true rfl) rfl (fun X hX => ?_)
  refine g_aload_0 hX (dk DX5_init 0 rfl) ?_
  refine g_objInit hX (dk DX5_init 1 rfl) (tg_1 31 rfl rfl) (tg_1 24 rfl rfl) (tg_1 25 rfl rfl) (by decide) (by decide) ?_
  refine g_aload_0 hX (dk DX5_init 2 rfl) ?_
  refine g_bipush (v := 10) hX (dk DX5_init 3 rfl) (by decide) ?_
  refine g_nw_ref hX 8 9 10 (by first | rfl | exact hh) rfl (dk DX5_init 4 rfl) (by decide) (i0 := 4) rfl (tg_1 32 rfl rfl) (fun U h => h.2.2.2.1.1) rfl (by decide) (hGn 8 (by decide) (by decide)) (by decide) (by decide) ?_
  refine g_putR (r := some 8) hX (dk DX5_init 5 rfl) KX5 fX5_11 (by decide) rfl (Nat.le_of_ble_eq_true rfl) hs0 (Or.inr ⟨rfl, rfl, rfl⟩) rfl (rfl) (rfl) ?_
  refine g_aload_0 hX (dk DX5_init 6 rfl) ?_
  refine g_bipush (v := 10) hX (dk DX5_init 7 rfl) (by decide) ?_
  refine g_nw_int hX 9 10 10 (by first | rfl | exact hh) rfl (dk DX5_init 8 rfl) (tg_1 96 rfl rfl) rfl (by decide) (hGn 9 (by decide) (by decide)) (by decide) (by decide) ?_
  refine g_putR (r := some 9) hX (dk DX5_init 9 rfl) KX5 fX5_17 (by decide) rfl (Nat.le_of_ble_eq_true rfl) hs0 (Or.inr ⟨rfl, rfl, rfl⟩) rfl (rfl) (rfl) ?_
  refine g_aload_0 hX (dk DX5_init 10 rfl) ?_
  refine g_iconst (v := 4) hX (dk DX5_init 11 rfl) (by decide) ?_
  refine g_nw_int hX 10 11 4 (by first | rfl | exact hh) rfl (dk DX5_init 12 rfl) (tg_1 96 rfl rfl) rfl (by decide) (hGn 10 (by decide) (by decide)) (by decide) (by decide) ?_
  refine g_putR (r := some 10) hX (dk DX5_init 13 rfl) KX5 fX5_21 (by decide) rfl (Nat.le_of_ble_eq_true rfl) hs0 (Or.inr ⟨rfl, rfl, rfl⟩) rfl (rfl) (rfl) ?_
  refine g_aload_0 hX (dk DX5_init 14 rfl) ?_
  refine g_bipush (v := 12) hX (dk DX5_init 15 rfl) (by decide) ?_
  refine g_nw_int hX 11 12 12 (by first | rfl | exact hh) rfl (dk DX5_init 16 rfl) (tg_1 96 rfl rfl) rfl (by decide) (hGn 11 (by decide) (by decide)) (by decide) (by decide) ?_
  refine g_putR (r := some 11) hX (dk DX5_init 17 rfl) KX5 fX5_24 (by decide) rfl (Nat.le_of_ble_eq_true rfl) hs0 (Or.inr ⟨rfl, rfl, rfl⟩) rfl (rfl) (rfl) ?_
  refine g_aload_0 hX (dk DX5_init 18 rfl) ?_
  refine g_bipush (v := 12) hX (dk DX5_init 19 rfl) (by decide) ?_
  refine g_nw_int hX 12 13 12 (by first | rfl | exact hh) rfl (dk DX5_init 20 rfl) (tg_1 96 rfl rfl) rfl (by decide) (hGn 12 (by decide) (by decide)) (by decide) (by decide) ?_
  refine g_putR (r := some 12) hX (dk DX5_init 21 rfl) KX5 fX5_27 (by decide) rfl (Nat.le_of_ble_eq_true rfl) hs0 (Or.inr ⟨rfl, rfl, rfl⟩) rfl (rfl) (rfl) ?_
  refine g_return hX (dk DX5_init 22 rfl) rfl (by decide) (by decide) ?_
  exact rV_of rfl rfl

set_option maxRecDepth 8000 in
set_option maxHeartbeats 4000000 in
theorem c_Ahead {G : Gt} (hG : Gok G) {I : It} {h : Ht}  (hGn : ∀ b, 14 ≤ b → b < 30 → Gnew G b) (hh : hn h = 14) (hs0 : (hs h 13).1 = 0) (hlt : 13 < hn h) : Con G (1) 16 1058 mX0_init [.ref 13, .ref 1] I h (rV (zI (zI (zI (zMI (zI (zI I 14) 15) 16 10) 27) 28) 29) (wR (wR (zA (wR (zA (wR (zA (wR (zM (wR (zA (wR (zA h 14 15 (20, 200)) 13 2 (some 14)) 15 16 (20, 600)) 13 3 (some 15)) 16 27 10 (26, 10) (20, 4)) 13 4 (some 16)) 27 28 (20, 200)) 13 5 (some 27)) 28 29 (20, 4)) 13 14 (some 28)) 29 30 (20, 4)) 13 15 (some 29)) 13 0 (some 1))) := by
  refine con_intro (own := RX0) (lo0 := [some (.ref 13), some (.ref 1)]) hG rfl pl_X0 (Nat.le_of_ble_eq_true rfl) rfl (fun X hX => ?_)
  refine g_aload_0 hX (dk DX0_init 0 rfl) ?_
  refine g_objInit hX (dk DX0_init 1 rfl) (tg_1 102 rfl rfl) (tg_1 24 rfl rfl) (tg_1 25 rfl rfl) (by decide) (by decide) ?_
  refine g_aload_0 hX (dk DX0_init 2 rfl) ?_
  refine g_sipush (v := 200) hX (dk DX0_init 3 rfl) (by decide) ?_
  refine g_nw_int hX 14 15 200 (by first | rfl | exact hh) rfl (dk DX0_init 4 rfl) (tg_1 96 rfl rfl) rfl (by decide) (hGn 14 (by decide) (by decide)) (by decide) (by decide) ?_
  refine g_putR (r := some 14) hX (dk DX0_init 5 rfl) KX0 fX0_9 (by decide) rfl (Nat.le_of_ble_eq_true rfl) hs0 (Or.inr ⟨rfl, rfl, rfl⟩) rfl (rfl) (rfl) ?_
  refine g_aload_0 hX (dk DX0_init 6 rfl) ?_
  refine g_sipush (v := 600) hX (dk DX0_init 7 rfl) (by decide) ?_
  refine g_nw_int hX 15 16 600 (by first | rfl | exact hh) rfl (dk DX0_init 8 rfl) (tg_1 96 rfl rfl) rfl (by decide) (hGn 15 (by decide) (by decide)) (by decide) (by decide) ?_
  refine g_putR (r := some 15) hX (dk DX0_init 9 rfl) KX0 fX0_17 (by decide) rfl (Nat.le_of_ble_eq_true rfl) hs0 (Or.inr ⟨rfl, rfl, rfl⟩) rfl (rfl) (rfl) ?_
  refine g_aload_0 hX (dk DX0_init 10 rfl) ?_
  refine g_bipush (v := 10) hX (dk DX0_init 11 rfl) (by decide) ?_
  refine g_iconst (v := 4) hX (dk DX0_init 12 rfl) (by decide) ?_
  refine g_nw_multi_int hX 16 27 10 4 (by first | rfl | exact hh) rfl (dk DX0_init 13 rfl) (tg_1 103 rfl rfl) (tg_1 96 rfl rfl) rfl rfl (by decide) (by decide) (fun j hj => hGn _ (by omega) (by omega)) (by decide) (by decide) ?_
  refine g_putR (r := some 16) hX (dk DX0_init 14 rfl) KX0 fX0_22 (by decide) rfl (Nat.le_of_ble_eq_true rfl) hs0 (Or.inr ⟨rfl, rfl, rfl⟩) rfl (rfl) (rfl) ?_
  refine g_aload_0 hX (dk DX0_init 15 rfl) ?_
  refine g_sipush (v := 200) hX (dk DX0_init 16 rfl) (by decide) ?_
  refine g_nw_int hX 27 28 200 (by first | rfl | exact hh) rfl (dk DX0_init 17 rfl) (tg_1 96 rfl rfl) rfl (by decide) (hGn 27 (by decide) (by decide)) (by decide) (by decide) ?_
  refine g_putR (r := some 27) hX (dk DX0_init 18 rfl) KX0 fX0_25 (by decide) rfl (Nat.le_of_ble_eq_true rfl) hs0 (Or.inr ⟨rfl, rfl, rfl⟩) rfl (rfl) (rfl) ?_
  refine g_aload_0 hX (dk DX0_init 19 rfl) ?_
  refine g_iconst (v := 4) hX (dk DX0_init 20 rfl) (by decide) ?_
  refine g_nw_int hX 28 29 4 (by first | rfl | exact hh) rfl (dk DX0_init 21 rfl) (tg_1 96 rfl rfl) rfl (by decide) (hGn 28 (by decide) (by decide)) (by decide) (by decide) ?_
  refine g_putR (r := some 28) hX (dk DX0_init 22 rfl) KX0 fX0_28 (by decide) rfl (Nat.le_of_ble_eq_true rfl) hs0 (Or.inr ⟨rfl, rfl, rfl⟩) rfl (rfl) (rfl) ?_
  refine g_aload_0 hX (dk DX0_init 23 rfl) ?_
  refine g_iconst (v := 4) hX (dk DX0_init 24 rfl) (by decide) ?_
  refine g_nw_int hX 29 30 4 (by first | rfl | exact hh) rfl (dk DX0_init 25 rfl) (tg_1 96 rfl rfl) rfl (by decide) (hGn 29 (by decide) (by decide)) (by decide) (by decide) ?_
  refine g_putR (r := some 29) hX (dk DX0_init 26 rfl) KX0 fX0_31 (by decide) rfl (Nat.le_of_ble_eq_true rfl) hs0 (Or.inr ⟨rfl, rfl, rfl⟩) rfl (rfl) (rfl) ?_
  refine g_aload_0 hX (dk DX0_init 27 rfl) ?_
  refine g_aload_1 hX (dk DX0_init 28 rfl) ?_
  refine g_putR (r := some 1) hX (dk DX0_init 29 rfl) KX0 fX0_34 (by decide) rfl (Nat.le_of_ble_eq_true rfl) hs0 (Or.inr ⟨rfl, rfl, rfl⟩) rfl (rfl) (rfl) ?_
  refine g_return hX (dk DX0_init 30 rfl) rfl (by decide) (by decide) ?_
  exact rV_of rfl rfl

set_option maxRecDepth 8000 in
set_option maxHeartbeats 4000000 in
theorem c_Trace {G : Gt} (hG : Gok G) {I : It} {h : Ht}  (hGn : ∀ b, 33 ≤ b → b < 34 → Gnew G b) (hh : hn h = 33) (hs0 : (hs h 32).1 = 7) (hlt : 32 < hn h) : Con G (1) 1 20 mX7_init [.ref 32] I h (rV (zI I 33) (wR (zA h 33 34 (20, 20)) 32 0 (some 33))) := by
  refine con_intro (own := RX7) (lo0 := [some (.ref 32)]) hG rfl pl_X7 (Nat.le_of_ble_eq_true rfl) rfl (fun X hX => ?_)
  refine g_aload_0 hX (dk DX7_init 0 rfl) ?_
  refine g_objInit hX (dk DX7_init 1 rfl) (tg_1 167 rfl rfl) (tg_1 24 rfl rfl) (tg_1 25 rfl rfl) (by decide) (by decide) ?_
  refine g_aload_0 hX (dk DX7_init 2 rfl) ?_
  refine g_bipush (v := 20) hX (dk DX7_init 3 rfl) (by decide) ?_
  refine g_nw_int hX 33 34 20 (by first | rfl | exact hh) rfl (dk DX7_init 4 rfl) (tg_1 96 rfl rfl) rfl (by decide) (hGn 33 (by decide) (by decide)) (by decide) (by decide) ?_
  refine g_putR (r := some 33) hX (dk DX7_init 5 rfl) KX7 fX7_7 (by decide) rfl (Nat.le_of_ble_eq_true rfl) hs0 (Or.inr ⟨rfl, rfl, rfl⟩) rfl (rfl) (rfl) ?_
  refine g_return hX (dk DX7_init 6 rfl) rfl (by decide) (by decide) ?_
  exact rV_of rfl rfl

set_option maxRecDepth 8000 in
set_option maxHeartbeats 4000000 in
theorem c_Post0 {G : Gt} (hG : Gok G) {I : It} {h : Ht}  (hGn : ∀ b, 44 ≤ b → b < 48 → Gnew G b) (hh : hn h = 44) (hs0 : (hs h 43).1 = 3) (hlt : 43 < hn h) : Con G (1) 4 130 mX3_init [.ref 43, .ref 31] I h (rV (zI (zI (zI (zI I 44) 45) 46) 47) (wR (wR (zA (wR (zA (wR (zA (wR (zA h 44 45 (20, 10)) 43 3 (some 44)) 45 46 (20, 10)) 43 4 (some 45)) 46 47 (20, 10)) 43 5 (some 46)) 47 48 (20, 100)) 43 6 (some 47)) 43 8 (some 31))) := by
  refine con_intro (own := RX3) (lo0 := [some (.ref 43), some (.ref 31)]) hG rfl pl_X3 (Nat.le_of_ble_eq_true rfl) rfl (fun X hX => ?_)
  refine g_aload_0 hX (dk DX3_init 0 rfl) ?_
  refine g_objInit hX (dk DX3_init 1 rfl) (tg_1 187 rfl rfl) (tg_1 24 rfl rfl) (tg_1 25 rfl rfl) (by decide) (by decide) ?_
  refine g_aload_0 hX (dk DX3_init 2 rfl) ?_
  refine g_bipush (v := 10) hX (dk DX3_init 3 rfl) (by decide) ?_
  refine g_nw_int hX 44 45 10 (by first | rfl | exact hh) rfl (dk DX3_init 4 rfl) (tg_1 96 rfl rfl) rfl (by decide) (hGn 44 (by decide) (by decide)) (by decide) (by decide) ?_
  refine g_putR (r := some 44) hX (dk DX3_init 5 rfl) KX3 fX3_11 (by decide) rfl (Nat.le_of_ble_eq_true rfl) hs0 (Or.inr ⟨rfl, rfl, rfl⟩) rfl (rfl) (rfl) ?_
  refine g_aload_0 hX (dk DX3_init 6 rfl) ?_
  refine g_bipush (v := 10) hX (dk DX3_init 7 rfl) (by decide) ?_
  refine g_nw_int hX 45 46 10 (by first | rfl | exact hh) rfl (dk DX3_init 8 rfl) (tg_1 96 rfl rfl) rfl (by decide) (hGn 45 (by decide) (by decide)) (by decide) (by decide) ?_
  refine g_putR (r := some 45) hX (dk DX3_init 9 rfl) KX3 fX3_15 (by decide) rfl (Nat.le_of_ble_eq_true rfl) hs0 (Or.inr ⟨rfl, rfl, rfl⟩) rfl (rfl) (rfl) ?_
  refine g_aload_0 hX (dk DX3_init 10 rfl) ?_
  refine g_bipush (v := 10) hX (dk DX3_init 11 rfl) (by decide) ?_
  refine g_nw_int hX 46 47 10 (by first | rfl | exact hh) rfl (dk DX3_init 12 rfl) (tg_1 96 rfl rfl) rfl (by decide) (hGn 46 (by decide) (by decide)) (by decide) (by decide) ?_
  refine g_putR (r := some 46) hX (dk DX3_init 13 rfl) KX3 fX3_18 (by decide) rfl (Nat.le_of_ble_eq_true rfl) hs0 (Or.inr ⟨rfl, rfl, rfl⟩) rfl (rfl) (rfl) ?_
  refine g_aload_0 hX (dk DX3_init 14 rfl) ?_
  refine g_bipush (v := 100) hX (dk DX3_init 15 rfl) (by decide) ?_
  refine g_nw_int hX 47 48 100 (by first | rfl | exact hh) rfl (dk DX3_init 16 rfl) (tg_1 96 rfl rfl) rfl (by decide) (hGn 47 (by decide) (by decide)) (by decide) (by decide) ?_
  refine g_putR (r := some 47) hX (dk DX3_init 17 rfl) KX3 fX3_21 (by decide) rfl (Nat.le_of_ble_eq_true rfl) hs0 (Or.inr ⟨rfl, rfl, rfl⟩) rfl (rfl) (rfl) ?_
  refine g_aload_0 hX (dk DX3_init 18 rfl) ?_
  refine g_aload_1 hX (dk DX3_init 19 rfl) ?_
  refine g_putR (r := some 31) hX (dk DX3_init 20 rfl) KX3 fX3_24 (by decide) rfl (Nat.le_of_ble_eq_true rfl) hs0 (Or.inr ⟨rfl, rfl, rfl⟩) rfl (rfl) (rfl) ?_
  refine g_return hX (dk DX3_init 21 rfl) rfl (by decide) (by decide) ?_
  exact rV_of rfl rfl

set_option maxRecDepth 8000 in
set_option maxHeartbeats 4000000 in
theorem c_Post1 {G : Gt} (hG : Gok G) {I : It} {h : Ht}  (hGn : ∀ b, 49 ≤ b → b < 53 → Gnew G b) (hh : hn h = 49) (hs0 : (hs h 48).1 = 3) (hlt : 48 < hn h) : Con G (1) 4 130 mX3_init [.ref 48, .ref 31] I h (rV (zI (zI (zI (zI I 49) 50) 51) 52) (wR (wR (zA (wR (zA (wR (zA (wR (zA h 49 50 (20, 10)) 48 3 (some 49)) 50 51 (20, 10)) 48 4 (some 50)) 51 52 (20, 10)) 48 5 (some 51)) 52 53 (20, 100)) 48 6 (some 52)) 48 8 (some 31))) := by
  refine con_intro (own := RX3) (lo0 := [some (.ref 48), some (.ref 31)]) hG rfl pl_X3 (Nat.le_of_ble_eq_true rfl) rfl (fun X hX => ?_)
  refine g_aload_0 hX (dk DX3_init 0 rfl) ?_
  refine g_objInit hX (dk DX3_init 1 rfl) (tg_1 187 rfl rfl) (tg_1 24 rfl rfl) (tg_1 25 rfl rfl) (by decide) (by decide) ?_
  refine g_aload_0 hX (dk DX3_init 2 rfl) ?_
  refine g_bipush (v := 10) hX (dk DX3_init 3 rfl) (by decide) ?_
  refine g_nw_int hX 49 50 10 (by first | rfl | exact hh) rfl (dk DX3_init 4 rfl) (tg_1 96 rfl rfl) rfl (by decide) (hGn 49 (by decide) (by decide)) (by decide) (by decide) ?_
  refine g_putR (r := some 49) hX (dk DX3_init 5 rfl) KX3 fX3_11 (by decide) rfl (Nat.le_of_ble_eq_true rfl) hs0 (Or.inr ⟨rfl, rfl, rfl⟩) rfl (rfl) (rfl) ?_
  refine g_aload_0 hX (dk DX3_init 6 rfl) ?_
  refine g_bipush (v := 10) hX (dk DX3_init 7 rfl) (by decide) ?_
  refine g_nw_int hX 50 51 10 (by first | rfl | exact hh) rfl (dk DX3_init 8 rfl) (tg_1 96 rfl rfl) rfl (by decide) (hGn 50 (by decide) (by decide)) (by decide) (by decide) ?_
  refine g_putR (r := some 50) hX (dk DX3_init 9 rfl) KX3 fX3_15 (by decide) rfl (Nat.le_of_ble_eq_true rfl) hs0 (Or.inr ⟨rfl, rfl, rfl⟩) rfl (rfl) (rfl) ?_
  refine g_aload_0 hX (dk DX3_init 10 rfl) ?_
  refine g_bipush (v := 10) hX (dk DX3_init 11 rfl) (by decide) ?_
  refine g_nw_int hX 51 52 10 (by first | rfl | exact hh) rfl (dk DX3_init 12 rfl) (tg_1 96 rfl rfl) rfl (by decide) (hGn 51 (by decide) (by decide)) (by decide) (by decide) ?_
  refine g_putR (r := some 51) hX (dk DX3_init 13 rfl) KX3 fX3_18 (by decide) rfl (Nat.le_of_ble_eq_true rfl) hs0 (Or.inr ⟨rfl, rfl, rfl⟩) rfl (rfl) (rfl) ?_
  refine g_aload_0 hX (dk DX3_init 14 rfl) ?_
  refine g_bipush (v := 100) hX (dk DX3_init 15 rfl) (by decide) ?_
  refine g_nw_int hX 52 53 100 (by first | rfl | exact hh) rfl (dk DX3_init 16 rfl) (tg_1 96 rfl rfl) rfl (by decide) (hGn 52 (by decide) (by decide)) (by decide) (by decide) ?_
  refine g_putR (r := some 52) hX (dk DX3_init 17 rfl) KX3 fX3_21 (by decide) rfl (Nat.le_of_ble_eq_true rfl) hs0 (Or.inr ⟨rfl, rfl, rfl⟩) rfl (rfl) (rfl) ?_
  refine g_aload_0 hX (dk DX3_init 18 rfl) ?_
  refine g_aload_1 hX (dk DX3_init 19 rfl) ?_
  refine g_putR (r := some 31) hX (dk DX3_init 20 rfl) KX3 fX3_24 (by decide) rfl (Nat.le_of_ble_eq_true rfl) hs0 (Or.inr ⟨rfl, rfl, rfl⟩) rfl (rfl) (rfl) ?_
  refine g_return hX (dk DX3_init 21 rfl) rfl (by decide) (by decide) ?_
  exact rV_of rfl rfl

set_option maxRecDepth 8000 in
set_option maxHeartbeats 4000000 in
theorem c_Post2 {G : Gt} (hG : Gok G) {I : It} {h : Ht}  (hGn : ∀ b, 54 ≤ b → b < 58 → Gnew G b) (hh : hn h = 54) (hs0 : (hs h 53).1 = 3) (hlt : 53 < hn h) : Con G (1) 4 130 mX3_init [.ref 53, .ref 31] I h (rV (zI (zI (zI (zI I 54) 55) 56) 57) (wR (wR (zA (wR (zA (wR (zA (wR (zA h 54 55 (20, 10)) 53 3 (some 54)) 55 56 (20, 10)) 53 4 (some 55)) 56 57 (20, 10)) 53 5 (some 56)) 57 58 (20, 100)) 53 6 (some 57)) 53 8 (some 31))) := by
  refine con_intro (own := RX3) (lo0 := [some (.ref 53), some (.ref 31)]) hG rfl pl_X3 (Nat.le_of_ble_eq_true rfl) rfl (fun X hX => ?_)
  refine g_aload_0 hX (dk DX3_init 0 rfl) ?_
  refine g_objInit hX (dk DX3_init 1 rfl) (tg_1 187 rfl rfl) (tg_1 24 rfl rfl) (tg_1 25 rfl rfl) (by decide) (by decide) ?_
  refine g_aload_0 hX (dk DX3_init 2 rfl) ?_
  refine g_bipush (v := 10) hX (dk DX3_init 3 rfl) (by decide) ?_
  refine g_nw_int hX 54 55 10 (by first | rfl | exact hh) rfl (dk DX3_init 4 rfl) (tg_1 96 rfl rfl) rfl (by decide) (hGn 54 (by decide) (by decide)) (by decide) (by decide) ?_
  refine g_putR (r := some 54) hX (dk DX3_init 5 rfl) KX3 fX3_11 (by decide) rfl (Nat.le_of_ble_eq_true rfl) hs0 (Or.inr ⟨rfl, rfl, rfl⟩) rfl (rfl) (rfl) ?_
  refine g_aload_0 hX (dk DX3_init 6 rfl) ?_
  refine g_bipush (v := 10) hX (dk DX3_init 7 rfl) (by decide) ?_
  refine g_nw_int hX 55 56 10 (by first | rfl | exact hh) rfl (dk DX3_init 8 rfl) (tg_1 96 rfl rfl) rfl (by decide) (hGn 55 (by decide) (by decide)) (by decide) (by decide) ?_
  refine g_putR (r := some 55) hX (dk DX3_init 9 rfl) KX3 fX3_15 (by decide) rfl (Nat.le_of_ble_eq_true rfl) hs0 (Or.inr ⟨rfl, rfl, rfl⟩) rfl (rfl) (rfl) ?_
  refine g_aload_0 hX (dk DX3_init 10 rfl) ?_
  refine g_bipush (v := 10) hX (dk DX3_init 11 rfl) (by decide) ?_
  refine g_nw_int hX 56 57 10 (by first | rfl | exact hh) rfl (dk DX3_init 12 rfl) (tg_1 96 rfl rfl) rfl (by decide) (hGn 56 (by decide) (by decide)) (by decide) (by decide) ?_
  refine g_putR (r := some 56) hX (dk DX3_init 13 rfl) KX3 fX3_18 (by decide) rfl (Nat.le_of_ble_eq_true rfl) hs0 (Or.inr ⟨rfl, rfl, rfl⟩) rfl (rfl) (rfl) ?_
  refine g_aload_0 hX (dk DX3_init 14 rfl) ?_
  refine g_bipush (v := 100) hX (dk DX3_init 15 rfl) (by decide) ?_
  refine g_nw_int hX 57 58 100 (by first | rfl | exact hh) rfl (dk DX3_init 16 rfl) (tg_1 96 rfl rfl) rfl (by decide) (hGn 57 (by decide) (by decide)) (by decide) (by decide) ?_
  refine g_putR (r := some 57) hX (dk DX3_init 17 rfl) KX3 fX3_21 (by decide) rfl (Nat.le_of_ble_eq_true rfl) hs0 (Or.inr ⟨rfl, rfl, rfl⟩) rfl (rfl) (rfl) ?_
  refine g_aload_0 hX (dk DX3_init 18 rfl) ?_
  refine g_aload_1 hX (dk DX3_init 19 rfl) ?_
  refine g_putR (r := some 31) hX (dk DX3_init 20 rfl) KX3 fX3_24 (by decide) rfl (Nat.le_of_ble_eq_true rfl) hs0 (Or.inr ⟨rfl, rfl, rfl⟩) rfl (rfl) (rfl) ?_
  refine g_return hX (dk DX3_init 21 rfl) rfl (by decide) (by decide) ?_
  exact rV_of rfl rfl

set_option maxRecDepth 8000 in
set_option maxHeartbeats 4000000 in
theorem c_Post3 {G : Gt} (hG : Gok G) {I : It} {h : Ht}  (hGn : ∀ b, 59 ≤ b → b < 63 → Gnew G b) (hh : hn h = 59) (hs0 : (hs h 58).1 = 3) (hlt : 58 < hn h) : Con G (1) 4 130 mX3_init [.ref 58, .ref 31] I h (rV (zI (zI (zI (zI I 59) 60) 61) 62) (wR (wR (zA (wR (zA (wR (zA (wR (zA h 59 60 (20, 10)) 58 3 (some 59)) 60 61 (20, 10)) 58 4 (some 60)) 61 62 (20, 10)) 58 5 (some 61)) 62 63 (20, 100)) 58 6 (some 62)) 58 8 (some 31))) := by
  refine con_intro (own := RX3) (lo0 := [some (.ref 58), some (.ref 31)]) hG rfl pl_X3 (Nat.le_of_ble_eq_true rfl) rfl (fun X hX => ?_)
  refine g_aload_0 hX (dk DX3_init 0 rfl) ?_
  refine g_objInit hX (dk DX3_init 1 rfl) (tg_1 187 rfl rfl) (tg_1 24 rfl rfl) (tg_1 25 rfl rfl) (by decide) (by decide) ?_
  refine g_aload_0 hX (dk DX3_init 2 rfl) ?_
  refine g_bipush (v := 10) hX (dk DX3_init 3 rfl) (by decide) ?_
  refine g_nw_int hX 59 60 10 (by first | rfl | exact hh) rfl (dk DX3_init 4 rfl) (tg_1 96 rfl rfl) rfl (by decide) (hGn 59 (by decide) (by decide)) (by decide) (by decide) ?_
  refine g_putR (r := some 59) hX (dk DX3_init 5 rfl) KX3 fX3_11 (by decide) rfl (Nat.le_of_ble_eq_true rfl) hs0 (Or.inr ⟨rfl, rfl, rfl⟩) rfl (rfl) (rfl) ?_
  refine g_aload_0 hX (dk DX3_init 6 rfl) ?_
  refine g_bipush (v := 10) hX (dk DX3_init 7 rfl) (by decide) ?_
  refine g_nw_int hX 60 61 10 (by first | rfl | exact hh) rfl (dk DX3_init 8 rfl) (tg_1 96 rfl rfl) rfl (by decide) (hGn 60 (by decide) (by decide)) (by decide) (by decide) ?_
  refine g_putR (r := some 60) hX (dk DX3_init 9 rfl) KX3 fX3_15 (by decide) rfl (Nat.le_of_ble_eq_true rfl) hs0 (Or.inr ⟨rfl, rfl, rfl⟩) rfl (rfl) (rfl) ?_
  refine g_aload_0 hX (dk DX3_init 10 rfl) ?_
  refine g_bipush (v := 10) hX (dk DX3_init 11 rfl) (by decide) ?_
  refine g_nw_int hX 61 62 10 (by first | rfl | exact hh) rfl (dk DX3_init 12 rfl) (tg_1 96 rfl rfl) rfl (by decide) (hGn 61 (by decide) (by decide)) (by decide) (by decide) ?_
  refine g_putR (r := some 61) hX (dk DX3_init 13 rfl) KX3 fX3_18 (by decide) rfl (Nat.le_of_ble_eq_true rfl) hs0 (Or.inr ⟨rfl, rfl, rfl⟩) rfl (rfl) (rfl) ?_
  refine g_aload_0 hX (dk DX3_init 14 rfl) ?_
  refine g_bipush (v := 100) hX (dk DX3_init 15 rfl) (by decide) ?_
  refine g_nw_int hX 62 63 100 (by first | rfl | exact hh) rfl (dk DX3_init 16 rfl) (tg_1 96 rfl rfl) rfl (by decide) (hGn 62 (by decide) (by decide)) (by decide) (by decide) ?_
  refine g_putR (r := some 62) hX (dk DX3_init 17 rfl) KX3 fX3_21 (by decide) rfl (Nat.le_of_ble_eq_true rfl) hs0 (Or.inr ⟨rfl, rfl, rfl⟩) rfl (rfl) (rfl) ?_
  refine g_aload_0 hX (dk DX3_init 18 rfl) ?_
  refine g_aload_1 hX (dk DX3_init 19 rfl) ?_
  refine g_putR (r := some 31) hX (dk DX3_init 20 rfl) KX3 fX3_24 (by decide) rfl (Nat.le_of_ble_eq_true rfl) hs0 (Or.inr ⟨rfl, rfl, rfl⟩) rfl (rfl) (rfl) ?_
  refine g_return hX (dk DX3_init 21 rfl) rfl (by decide) (by decide) ?_
  exact rV_of rfl rfl

set_option maxRecDepth 8000 in
set_option maxHeartbeats 4000000 in
theorem c_Post4 {G : Gt} (hG : Gok G) {I : It} {h : Ht}  (hGn : ∀ b, 64 ≤ b → b < 68 → Gnew G b) (hh : hn h = 64) (hs0 : (hs h 63).1 = 3) (hlt : 63 < hn h) : Con G (1) 4 130 mX3_init [.ref 63, .ref 31] I h (rV (zI (zI (zI (zI I 64) 65) 66) 67) (wR (wR (zA (wR (zA (wR (zA (wR (zA h 64 65 (20, 10)) 63 3 (some 64)) 65 66 (20, 10)) 63 4 (some 65)) 66 67 (20, 10)) 63 5 (some 66)) 67 68 (20, 100)) 63 6 (some 67)) 63 8 (some 31))) := by
  refine con_intro (own := RX3) (lo0 := [some (.ref 63), some (.ref 31)]) hG rfl pl_X3 (Nat.le_of_ble_eq_true rfl) rfl (fun X hX => ?_)
  refine g_aload_0 hX (dk DX3_init 0 rfl) ?_
  refine g_objInit hX (dk DX3_init 1 rfl) (tg_1 187 rfl rfl) (tg_1 24 rfl rfl) (tg_1 25 rfl rfl) (by decide) (by decide) ?_
  refine g_aload_0 hX (dk DX3_init 2 rfl) ?_
  refine g_bipush (v := 10) hX (dk DX3_init 3 rfl) (by decide) ?_
  refine g_nw_int hX 64 65 10 (by first | rfl | exact hh) rfl (dk DX3_init 4 rfl) (tg_1 96 rfl rfl) rfl (by decide) (hGn 64 (by decide) (by decide)) (by decide) (by decide) ?_
  refine g_putR (r := some 64) hX (dk DX3_init 5 rfl) KX3 fX3_11 (by decide) rfl (Nat.le_of_ble_eq_true rfl) hs0 (Or.inr ⟨rfl, rfl, rfl⟩) rfl (rfl) (rfl) ?_
  refine g_aload_0 hX (dk DX3_init 6 rfl) ?_
  refine g_bipush (v := 10) hX (dk DX3_init 7 rfl) (by decide) ?_
  refine g_nw_int hX 65 66 10 (by first | rfl | exact hh) rfl (dk DX3_init 8 rfl) (tg_1 96 rfl rfl) rfl (by decide) (hGn 65 (by decide) (by decide)) (by decide) (by decide) ?_
  refine g_putR (r := some 65) hX (dk DX3_init 9 rfl) KX3 fX3_15 (by decide) rfl (Nat.le_of_ble_eq_true rfl) hs0 (Or.inr ⟨rfl, rfl, rfl⟩) rfl (rfl) (rfl) ?_
  refine g_aload_0 hX (dk DX3_init 10 rfl) ?_
  refine g_bipush (v := 10) hX (dk DX3_init 11 rfl) (by decide) ?_
  refine g_nw_int hX 66 67 10 (by first | rfl | exact hh) rfl (dk DX3_init 12 rfl) (tg_1 96 rfl rfl) rfl (by decide) (hGn 66 (by decide) (by decide)) (by decide) (by decide) ?_
  refine g_putR (r := some 66) hX (dk DX3_init 13 rfl) KX3 fX3_18 (by decide) rfl (Nat.le_of_ble_eq_true rfl) hs0 (Or.inr ⟨rfl, rfl, rfl⟩) rfl (rfl) (rfl) ?_
  refine g_aload_0 hX (dk DX3_init 14 rfl) ?_
  refine g_bipush (v := 100) hX (dk DX3_init 15 rfl) (by decide) ?_
  refine g_nw_int hX 67 68 100 (by first | rfl | exact hh) rfl (dk DX3_init 16 rfl) (tg_1 96 rfl rfl) rfl (by decide) (hGn 67 (by decide) (by decide)) (by decide) (by decide) ?_
  refine g_putR (r := some 67) hX (dk DX3_init 17 rfl) KX3 fX3_21 (by decide) rfl (Nat.le_of_ble_eq_true rfl) hs0 (Or.inr ⟨rfl, rfl, rfl⟩) rfl (rfl) (rfl) ?_
  refine g_aload_0 hX (dk DX3_init 18 rfl) ?_
  refine g_aload_1 hX (dk DX3_init 19 rfl) ?_
  refine g_putR (r := some 31) hX (dk DX3_init 20 rfl) KX3 fX3_24 (by decide) rfl (Nat.le_of_ble_eq_true rfl) hs0 (Or.inr ⟨rfl, rfl, rfl⟩) rfl (rfl) (rfl) ?_
  refine g_return hX (dk DX3_init 21 rfl) rfl (by decide) (by decide) ?_
  exact rV_of rfl rfl

set_option maxRecDepth 8000 in
set_option maxHeartbeats 4000000 in
theorem c_Post5 {G : Gt} (hG : Gok G) {I : It} {h : Ht}  (hGn : ∀ b, 69 ≤ b → b < 73 → Gnew G b) (hh : hn h = 69) (hs0 : (hs h 68).1 = 3) (hlt : 68 < hn h) : Con G (1) 4 130 mX3_init [.ref 68, .ref 31] I h (rV (zI (zI (zI (zI I 69) 70) 71) 72) (wR (wR (zA (wR (zA (wR (zA (wR (zA h 69 70 (20, 10)) 68 3 (some 69)) 70 71 (20, 10)) 68 4 (some 70)) 71 72 (20, 10)) 68 5 (some 71)) 72 73 (20, 100)) 68 6 (some 72)) 68 8 (some 31))) := by
  refine con_intro (own := RX3) (lo0 := [some (.ref 68), some (.ref 31)]) hG rfl pl_X3 (Nat.le_of_ble_eq_true rfl) rfl (fun X hX => ?_)
  refine g_aload_0 hX (dk DX3_init 0 rfl) ?_
  refine g_objInit hX (dk DX3_init 1 rfl) (tg_1 187 rfl rfl) (tg_1 24 rfl rfl) (tg_1 25 rfl rfl) (by decide) (by decide) ?_
  refine g_aload_0 hX (dk DX3_init 2 rfl) ?_
  refine g_bipush (v := 10) hX (dk DX3_init 3 rfl) (by decide) ?_
  refine g_nw_int hX 69 70 10 (by first | rfl | exact hh) rfl (dk DX3_init 4 rfl) (tg_1 96 rfl rfl) rfl (by decide) (hGn 69 (by decide) (by decide)) (by decide) (by decide) ?_
  refine g_putR (r := some 69) hX (dk DX3_init 5 rfl) KX3 fX3_11 (by decide) rfl (Nat.le_of_ble_eq_true rfl) hs0 (Or.inr ⟨rfl, rfl, rfl⟩) rfl (rfl) (rfl) ?_
  refine g_aload_0 hX (dk DX3_init 6 rfl) ?_
  refine g_bipush (v := 10) hX (dk DX3_init 7 rfl) (by decide) ?_
  refine g_nw_int hX 70 71 10 (by first | rfl | exact hh) rfl (dk DX3_init 8 rfl) (tg_1 96 rfl rfl) rfl (by decide) (hGn 70 (by decide) (by decide)) (by decide) (by decide) ?_
  refine g_putR (r := some 70) hX (dk DX3_init 9 rfl) KX3 fX3_15 (by decide) rfl (Nat.le_of_ble_eq_true rfl) hs0 (Or.inr ⟨rfl, rfl, rfl⟩) rfl (rfl) (rfl) ?_
  refine g_aload_0 hX (dk DX3_init 10 rfl) ?_
  refine g_bipush (v := 10) hX (dk DX3_init 11 rfl) (by decide) ?_
  refine g_nw_int hX 71 72 10 (by first | rfl | exact hh) rfl (dk DX3_init 12 rfl) (tg_1 96 rfl rfl) rfl (by decide) (hGn 71 (by decide) (by decide)) (by decide) (by decide) ?_
  refine g_putR (r := some 71) hX (dk DX3_init 13 rfl) KX3 fX3_18 (by decide) rfl (Nat.le_of_ble_eq_true rfl) hs0 (Or.inr ⟨rfl, rfl, rfl⟩) rfl (rfl) (rfl) ?_
  refine g_aload_0 hX (dk DX3_init 14 rfl) ?_
  refine g_bipush (v := 100) hX (dk DX3_init 15 rfl) (by decide) ?_
  refine g_nw_int hX 72 73 100 (by first | rfl | exact hh) rfl (dk DX3_init 16 rfl) (tg_1 96 rfl rfl) rfl (by decide) (hGn 72 (by decide) (by decide)) (by decide) (by decide) ?_
  refine g_putR (r := some 72) hX (dk DX3_init 17 rfl) KX3 fX3_21 (by decide) rfl (Nat.le_of_ble_eq_true rfl) hs0 (Or.inr ⟨rfl, rfl, rfl⟩) rfl (rfl) (rfl) ?_
  refine g_aload_0 hX (dk DX3_init 18 rfl) ?_
  refine g_aload_1 hX (dk DX3_init 19 rfl) ?_
  refine g_putR (r := some 31) hX (dk DX3_init 20 rfl) KX3 fX3_24 (by decide) rfl (Nat.le_of_ble_eq_true rfl) hs0 (Or.inr ⟨rfl, rfl, rfl⟩) rfl (rfl) (rfl) ?_
  refine g_return hX (dk DX3_init 21 rfl) rfl (by decide) (by decide) ?_
  exact rV_of rfl rfl
end
section
theorem pl_J7 : plainName RJ7 = true := by decide +kernel
set_option maxRecDepth 8000 in
set_option maxHeartbeats 4000000 in
theorem c_J7_fill_53178 {G : Gt} (hG : Gok G) {I : It} {h : Ht}  {q len : Nat} {x : Int32} (hq : q < hn h) (hsh : hs h q = (20, len)) (hl : len ≤ 10000) : Con G (1) 0 0 mJ7_fill_53178 [.ref q, .int x] I h (qV (fun I2 h2 => (∀ j, j < len → I2 q j = x) ∧ (∀ j, len ≤ j → I2 q j = I q j) ∧ (∀ a, a ≠ q → I2 a = I a) ∧ h2 = h)) := by
  refine con_intro (own := RJ7) (lo0 := [some (.ref q), some (.int x), none, none]) hG rfl pl_J7 (Nat.le_of_ble_eq_true rfl) rfl (fun X hX => ?_)
  have loop5 : ∀ (k i : Nat) (J : It), i + k = len → (∀ j, j < i → J q j = x) → (∀ j, i ≤ j → J q j = I q j) → (∀ a, a ≠ q → J a = I a) → GG G (1) 0 0 X (qV (fun I2 h2 => (∀ j, j < len → I2 q j = x) ∧ (∀ j, len ≤ j → I2 q j = I q j) ∧ (∀ a, a ≠ q → I2 a = I a) ∧ h2 = h)) 5 [some (.ref q), some (.int x), some (.int (nI i)), some (.int (nI len))] [] (J) (h) 0 0 := by
    intro k
    induction k using Nat.strongRecOn with | _ k ih => ?_
    intro i J hk h1 h2 h3
    refine g_iload_2 hX (dk DJ7_fill_53178 5 rfl) ?_
    refine g_iload_3 hX (dk DJ7_fill_53178 6 rfl) ?_
    refine g_icmp_ge (tgt := 20) hX (dk DJ7_fill_53178 7 rfl) (by decide) (fun hc1 => ?_) (fun hc1 => ?_)
    · refine g_return hX (dk DJ7_fill_53178 14 rfl) rfl (by decide) (by decide) ?_
      have hk0 := ct_end hk (by omega) hc1
      subst hk0
      exact qV_of ⟨fun j hj => h1 j (by omega), fun j hj => h2 j (by omega), h3, rfl⟩
    · obtain ⟨k, rfl⟩ := ct_go hk (by omega) hc1
      refine g_aload_0 hX (dk DJ7_fill_53178 8 rfl) ?_
      refine g_iload_2 hX (dk DJ7_fill_53178 9 rfl) ?_
      refine g_iload_1 hX (dk DJ7_fill_53178 10 rfl) ?_
      refine i_iastore hX (dk DJ7_fill_53178 11 rfl) hq hsh (⟨rfl, by omega, by omega⟩) ?_
      refine g_iinc_2 hX (dk DJ7_fill_53178 12 rfl) (nI_1 i) (by decide) rfl ?_
      refine g_goto (tgt := 5) hX (dk DJ7_fill_53178 13 rfl) (by decide) ?_
      exact ih k (by omega) (i + 1) _ (by omega) (fun j hj => by
        by_cases e : j = i
        · subst e; rw [up0]
        · rw [upn (by omega)]; exact h1 j (by omega)) (fun j hj => by rw [upn (by omega)]; exact h2 j (by omega)) (fun a ha => by rw [upI_off ha]; exact h3 a ha)
  refine g_iconst (v := 0) hX (dk DJ7_fill_53178 0 rfl) (by decide) ?_
  refine g_istore_2 hX (dk DJ7_fill_53178 1 rfl) (by decide) rfl ?_
  refine g_aload_0 hX (dk DJ7_fill_53178 2 rfl) ?_
  refine g_alen (v := nI len) hX (dk DJ7_fill_53178 3 rfl) hq hsh (by decide) (i0 := 0) rfl rfl ?_
  refine g_istore_3 hX (dk DJ7_fill_53178 4 rfl) (by decide) rfl ?_
  exact loop5 len 0 I (Nat.zero_add _) (fun j hj => absurd hj (Nat.not_lt_zero j)) (fun _ _ => rfl) (fun _ _ => rfl)

def SXL : List (Nat × Nat) := [(11, 0), (5, 0), (24, 10), (20, 10), (20, 4), (20, 12), (20, 12), (5, 0), (24, 10), (20, 10), (20, 4), (20, 12), (20, 12), (0, 0), (20, 200), (20, 600), (26, 10), (20, 4), (20, 4), (20, 4), (20, 4), (20, 4), (20, 4), (20, 4), (20, 4), (20, 4), (20, 4), (20, 200), (20, 4), (20, 4), (25, 6), (22, 100), (7, 0), (20, 20), (20, 6), (20, 6), (27, 6), (21, 60), (21, 60), (21, 60), (21, 60), (21, 60), (21, 60), (3, 0), (20, 10), (20, 10), (20, 10), (20, 100), (3, 0), (20, 10), (20, 10), (20, 10), (20, 100), (3, 0), (20, 10), (20, 10), (20, 10), (20, 100), (3, 0), (20, 10), (20, 10), (20, 10), (20, 100), (3, 0), (20, 10), (20, 10), (20, 10), (20, 100), (3, 0), (20, 10), (20, 10), (20, 10), (20, 100)]
def RXL : List ((Nat × Nat) × Nat) := [((0, 0), 1), ((0, 1), 7), ((0, 3), 13), ((0, 4), 30), ((0, 6), 31), ((0, 8), 32), ((0, 9), 34), ((0, 10), 35), ((0, 11), 36), ((1, 0), 2), ((1, 1), 3), ((1, 5), 4), ((1, 10), 5), ((1, 11), 6), ((7, 0), 8), ((7, 1), 9), ((7, 5), 10), ((7, 10), 11), ((7, 11), 12), ((13, 0), 1), ((13, 2), 14), ((13, 3), 15), ((13, 4), 16), ((13, 5), 27), ((13, 14), 28), ((13, 15), 29), ((32, 0), 33), ((16, 0), 17), ((16, 1), 18), ((16, 2), 19), ((16, 3), 20), ((16, 4), 21), ((16, 5), 22), ((16, 6), 23), ((16, 7), 24), ((16, 8), 25), ((16, 9), 26), ((30, 0), 43), ((36, 0), 37), ((43, 3), 44), ((43, 4), 45), ((43, 5), 46), ((43, 6), 47), ((43, 8), 31), ((30, 1), 48), ((36, 1), 38), ((48, 3), 49), ((48, 4), 50), ((48, 5), 51), ((48, 6), 52), ((48, 8), 31), ((30, 2), 53), ((36, 2), 39), ((53, 3), 54), ((53, 4), 55), ((53, 5), 56), ((53, 6), 57), ((53, 8), 31), ((30, 3), 58), ((36, 3), 40), ((58, 3), 59), ((58, 4), 60), ((58, 5), 61), ((58, 6), 62), ((58, 8), 31), ((30, 4), 63), ((36, 4), 41), ((63, 3), 64), ((63, 4), 65), ((63, 5), 66), ((63, 6), 67), ((63, 8), 31), ((30, 5), 68), ((36, 5), 42), ((68, 3), 69), ((68, 4), 70), ((68, 5), 71), ((68, 6), 72), ((68, 8), 31)]
/-- the class's cells as they are made, before any DOING -/
def HX0 (h : Ht) : Prop := hn h = 73 ∧ (∀ q, q < 73 → hs h q = SXL.getD q (0, 0)) ∧ (∀ x, x ∈ RXL → hR h x.1.1 x.1.2 = some x.2) ∧ (∀ j, j < 10 → hR h 2 j = none ∧ hR h 8 j = none) ∧ (hR h 1 13 = none ∧ hR h 7 13 = none) ∧ ∀ q, 37 ≤ q → q < 43 → ∀ j, hL h q j = 0
def IX0 (I : It) : Prop := (∀ q, q < 73 → q ≠ 34 → ∀ j, I q j = 0) ∧ ∀ j, j < 6 → I 34 j = -1
theorem ax_0 {P : (Nat × Nat) × Nat → Prop} : ∀ j, j ∈ ([] : List ((Nat × Nat) × Nat)) → P j := fun j hj => absurd hj (List.not_mem_nil)
theorem ax_s {P : (Nat × Nat) × Nat → Prop} {a : (Nat × Nat) × Nat} {l : List ((Nat × Nat) × Nat)} (hn : P a) (h : ∀ j, j ∈ l → P j) : ∀ j, j ∈ a :: l → P j := fun j hj => by
  rcases List.mem_cons.mp hj with rfl | z
  · exact hn
  · exact h j z
set_option maxRecDepth 8000 in
set_option maxHeartbeats 4000000 in
theorem c_X11_init {G : Gt} (hG : Gok G) {I : It} {h : Ht}  (hGn : ∀ b, 1 ≤ b → b < 73 → Gnew G b) (hI0 : ∀ j, I 0 j = 0) {L0 : Nat → Nat → Int64} {R0 : Nat → Nat → Option Nat} {S0 : Nat → Nat × Nat} (hR0 : ∀ j, R0 0 j = none) (hh : h = (L0, R0, fun q => if q = 0 then (11, 0) else S0 q, 1)) : Con G (2) 72 2556 mX11_init [.ref 0] I h (qV fun I2 h2 => IX0 I2 ∧ HX0 h2) := by
  refine con_intro (own := RX11) (lo0 := [some (.ref 0), none]) hG rfl pl_X11 (Nat.le_of_ble_eq_true rfl) rfl (fun X hX => ?_)
  subst hh
  refine g_aload_0 hX (dk DX11_init_0 0 rfl) ?_
  refine g_objInit hX (dk DX11_init_0 1 rfl) (tg_1 23 rfl rfl) (tg_1 24 rfl rfl) (tg_1 25 rfl rfl) (by decide) (by decide) ?_
  refine g_aload_0 hX (dk DX11_init_0 2 rfl) ?_
  refine g_nw_obj hX 1 2 (by first | rfl | exact hh) rfl (dk DX11_init_0 3 rfl) KX5 (by decide) (tg_1 26 rfl rfl) (tg_1 27 rfl rfl) (tg_1 2 rfl rfl) (hGn 1 (by decide) (by decide)) (by decide) (by decide) ?_
  refine g_dup hX (dk DX11_init_0 4 rfl) rfl ?_
  refine g_c1K hX sX11_init_9 (by decide) (Nat.le_of_ble_eq_true rfl) (rc0 rfl (Nat.le_of_ble_eq_true rfl) rfl) (by decide) (by decide) (c_State1 hG (fun b h1 h2 => hGn b (by omega) (by omega)) rfl rfl (Nat.le_of_ble_eq_true rfl)) ?_
  refine g_putR (r := some 1) hX (dk DX11_init_0 6 rfl) KX11 fX11_12 (by decide) rfl (Nat.le_of_ble_eq_true rfl) rfl (Or.inr ⟨rfl, rfl, rfl⟩) rfl (rfl) (rfl) ?_
  refine g_aload_0 hX (dk DX11_init_0 7 rfl) ?_
  refine g_nw_obj hX 7 8 (by first | rfl | exact hh) rfl (dk DX11_init_0 8 rfl) KX5 (by decide) (tg_1 26 rfl rfl) (tg_1 27 rfl rfl) (tg_1 2 rfl rfl) (hGn 7 (by decide) (by decide)) (by decide) (by decide) ?_
  refine g_dup hX (dk DX11_init_0 9 rfl) rfl ?_
  refine g_c1K hX sX11_init_20 (by decide) (Nat.le_of_ble_eq_true rfl) (rc0 rfl (Nat.le_of_ble_eq_true rfl) rfl) (by decide) (by decide) (c_State7 hG (fun b h1 h2 => hGn b (by omega) (by omega)) rfl rfl (Nat.le_of_ble_eq_true rfl)) ?_
  refine g_putR (r := some 7) hX (dk DX11_init_0 11 rfl) KX11 fX11_18 (by decide) rfl (Nat.le_of_ble_eq_true rfl) rfl (Or.inr ⟨rfl, rfl, rfl⟩) rfl (rfl) (rfl) ?_
  refine g_aload_0 hX (dk DX11_init_0 12 rfl) ?_
  refine g_nw_obj hX 13 14 (by first | rfl | exact hh) rfl (dk DX11_init_0 13 rfl) KX0 (by decide) (tg_1 97 rfl rfl) (tg_1 98 rfl rfl) (tg_1 3 rfl rfl) (hGn 13 (by decide) (by decide)) (by decide) (by decide) ?_
  refine g_dup hX (dk DX11_init_0 14 rfl) rfl ?_
  refine g_aload_0 hX (dk DX11_init_0 15 rfl) ?_
  refine g_getRs (r := 1) hX (dk DX11_init_0 16 rfl) KX11 fX11_12 (by decide) rfl (Nat.le_of_ble_eq_true rfl) rfl (rfl) ?_
  refine g_c2K hX sX11_init_35 (by decide) (Nat.le_of_ble_eq_true rfl) (rc0 rfl (Nat.le_of_ble_eq_true rfl) rfl) (by decide) (by decide) (c_Ahead hG (fun b h1 h2 => hGn b (by omega) (by omega)) rfl rfl (Nat.le_of_ble_eq_true rfl)) ?_
  refine g_putR (r := some 13) hX (dk DX11_init_0 18 rfl) KX11 fX11_26 (by decide) rfl (Nat.le_of_ble_eq_true rfl) rfl (Or.inr ⟨rfl, rfl, rfl⟩) rfl (rfl) (rfl) ?_
  refine g_aload_0 hX (dk DX11_init_0 19 rfl) ?_
  refine g_bipush (v := 6) hX (dk DX11_init_0 20 rfl) (by decide) ?_
  refine g_nw_ref hX 30 31 6 (by first | rfl | exact hh) rfl (dk DX11_init_0 21 rfl) (by decide) (i0 := 5) rfl (tg_1 160 rfl rfl) (fun U h => h.2.2.2.1.2) rfl (by decide) (hGn 30 (by decide) (by decide)) (by decide) (by decide) ?_
  refine g_putR (r := some 30) hX (dk DX11_init_0 22 rfl) KX11 fX11_32 (by decide) rfl (Nat.le_of_ble_eq_true rfl) rfl (Or.inr ⟨rfl, rfl, rfl⟩) rfl (rfl) (rfl) ?_
  refine g_aload_0 hX (dk DX11_init_0 23 rfl) ?_
  refine g_bipush (v := 100) hX (dk DX11_init_0 24 rfl) (by decide) ?_
  refine g_nw_byte hX 31 32 100 (by first | rfl | exact hh) rfl (dk DX11_init_0 25 rfl) (tg_1 177 rfl rfl) rfl (by decide) (hGn 31 (by decide) (by decide)) (by decide) (by decide) ?_
  refine g_putR (r := some 31) hX (dk DX11_init_0 26 rfl) KX11 fX11_36 (by decide) rfl (Nat.le_of_ble_eq_true rfl) rfl (Or.inr ⟨rfl, rfl, rfl⟩) rfl (rfl) (rfl) ?_
  refine g_aload_0 hX (dk DX11_init_0 27 rfl) ?_
  refine g_nw_obj hX 32 33 (by first | rfl | exact hh) rfl (dk DX11_init_0 28 rfl) KX7 (by decide) (tg_1 162 rfl rfl) (tg_1 163 rfl rfl) (tg_1 4 rfl rfl) (hGn 32 (by decide) (by decide)) (by decide) (by decide) ?_
  refine g_dup hX (dk DX11_init_0 29 rfl) rfl ?_
  refine g_c1K hX sX11_init_63 (by decide) (Nat.le_of_ble_eq_true rfl) (rc0 rfl (Nat.le_of_ble_eq_true rfl) rfl) (by decide) (by decide) (c_Trace hG (fun b h1 h2 => hGn b (by omega) (by omega)) rfl rfl (Nat.le_of_ble_eq_true rfl)) ?_
  refine g_putR (r := some 32) hX (dk DX11_init_0 31 rfl) KX11 fX11_43 (by decide) rfl (Nat.le_of_ble_eq_true rfl) rfl (Or.inr ⟨rfl, rfl, rfl⟩) rfl (rfl) (rfl) ?_
  refine g_aload_0 hX (dk DX11_init_0 32 rfl) ?_
  refine g_bipush (v := 6) hX (dk DX11_init_0 33 rfl) (by decide) ?_
  refine g_nw_int hX 34 35 6 (by first | rfl | exact hh) rfl (dk DX11_init_0 34 rfl) (tg_1 96 rfl rfl) rfl (by decide) (hGn 34 (by decide) (by decide)) (by decide) (by decide) ?_
  refine g_putR (r := some 34) hX (dk DX11_init_0 35 rfl) KX11 fX11_47 (by decide) rfl (Nat.le_of_ble_eq_true rfl) rfl (Or.inr ⟨rfl, rfl, rfl⟩) rfl (rfl) (rfl) ?_
  refine g_aload_0 hX (dk DX11_init_0 36 rfl) ?_
  refine g_bipush (v := 6) hX (dk DX11_init_0 37 rfl) (by decide) ?_
  refine g_nw_int hX 35 36 6 (by first | rfl | exact hh) rfl (dk DX11_init_0 38 rfl) (tg_1 96 rfl rfl) rfl (by decide) (hGn 35 (by decide) (by decide)) (by decide) (by decide) ?_
  refine g_putR (r := some 35) hX (dk DX11_init_0 39 rfl) KX11 fX11_51 (by decide) rfl (Nat.le_of_ble_eq_true rfl) rfl (Or.inr ⟨rfl, rfl, rfl⟩) rfl (rfl) (rfl) ?_
  refine g_aload_0 hX (dk DX11_init_0 40 rfl) ?_
  refine g_bipush (v := 6) hX (dk DX11_init_0 41 rfl) (by decide) ?_
  refine g_bipush (v := 60) hX (dk DX11_init_0 42 rfl) (by decide) ?_
  refine g_nw_multi_long hX 36 43 6 60 (by first | rfl | exact hh) rfl (dk DX11_init_0 43 rfl) (tg_1 178 rfl rfl) (tg_1 227 rfl rfl) rfl rfl (by decide) (by decide) (fun j hj => hGn _ (by omega) (by omega)) (by decide) (by decide) ?_
  refine g_putR (r := some 36) hX (dk DX11_init_0 44 rfl) KX11 fX11_56 (by decide) rfl (Nat.le_of_ble_eq_true rfl) rfl (Or.inr ⟨rfl, rfl, rfl⟩) rfl (rfl) (rfl) ?_
  refine g_aload_0 hX (dk DX11_init_0 45 rfl) ?_
  refine g_getRs (r := 34) hX (dk DX11_init_0 46 rfl) KX11 fX11_47 (by decide) rfl (Nat.le_of_ble_eq_true rfl) rfl (rfl) ?_
  refine g_iconst (v := -1) hX (dk DX11_init_0 47 rfl) (by decide) ?_
  refine g_c2v hX sX11_init_102 (by decide) (Nat.le_of_ble_eq_true rfl) rcN (by decide) (by decide) (c_J7_fill_53178 hG (len := 6) (Nat.le_of_ble_eq_true rfl) rfl (by decide)) ?_
  rintro J2 _ ⟨hf1, hf2, hf3, rfl⟩
  refine g_iconst (v := 0) hX (dk DX11_init_0 49 rfl) (by decide) ?_
  refine g_istore_1 hX (dk DX11_init_0 50 rfl) (by decide) rfl ?_
  refine g_iload_1 hX (dk DX11_init_0 51 rfl) ?_
  refine g_aload_0 hX (dk DX11_init_0 52 rfl) ?_
  refine g_getRs (r := 30) hX (dk DX11_init_0 53 rfl) KX11 fX11_32 (by decide) rfl (Nat.le_of_ble_eq_true rfl) rfl (rfl) ?_
  refine g_alen (v := 6) hX (dk DX11_init_0 54 rfl) (Nat.le_of_ble_eq_true rfl) rfl (by decide) (i0 := 5) rfl (by decide) ?_
  refine g_icmp_ge (tgt := 139) hX (dk DX11_init_0 55 rfl) (by decide) (fun hc1 => absurd hc1 (by decide)) (fun hc1 => ?_)
  refine g_aload_0 hX (dk DX11_init_0 56 rfl) ?_
  refine g_getRs (r := 30) hX (dk DX11_init_0 57 rfl) KX11 fX11_32 (by decide) rfl (Nat.le_of_ble_eq_true rfl) rfl (rfl) ?_
  refine g_iload_1 hX (dk DX11_init_0 58 rfl) ?_
  refine g_nw_obj hX 43 44 (by first | rfl | exact hh) rfl (dk DX11_init_0 59 rfl) KX3 (by decide) (tg_1 160 rfl rfl) (tg_1 183 rfl rfl) (tg_1 6 rfl rfl) (hGn 43 (by decide) (by decide)) (by decide) (by decide) ?_
  refine g_dup hX (dk DX11_init_1 0 rfl) rfl ?_
  refine g_aload_0 hX (dk DX11_init_1 1 rfl) ?_
  refine g_getRs (r := 31) hX (dk DX11_init_1 2 rfl) KX11 fX11_36 (by decide) rfl (Nat.le_of_ble_eq_true rfl) rfl (rfl) ?_
  refine g_c2K hX sX11_init_129 (by decide) (Nat.le_of_ble_eq_true rfl) (rc0 rfl (Nat.le_of_ble_eq_true rfl) rfl) (by decide) (by decide) (c_Post0 hG (fun b h1 h2 => hGn b (by omega) (by omega)) rfl rfl (Nat.le_of_ble_eq_true rfl)) ?_
  refine i_aastore (j := 0) hX (dk DX11_init_1 4 rfl) (Nat.le_of_ble_eq_true rfl) rfl (by decide) (i0 := 5) rfl ⟨rfl, by decide, by decide⟩ (Nat.le_of_ble_eq_true rfl) rfl KX3 (Or.inl rfl) ?_
  refine g_iinc_1 (v := 1) hX (dk DX11_init_1 5 rfl) (by decide) (by decide) rfl ?_
  refine g_goto (tgt := 107) hX (dk DX11_init_1 6 rfl) (by decide) ?_
  refine g_iload_1 hX (dk DX11_init_0 51 rfl) ?_
  refine g_aload_0 hX (dk DX11_init_0 52 rfl) ?_
  refine g_getRs (r := 30) hX (dk DX11_init_0 53 rfl) KX11 fX11_32 (by decide) rfl (Nat.le_of_ble_eq_true rfl) rfl (rfl) ?_
  refine g_alen (v := 6) hX (dk DX11_init_0 54 rfl) (Nat.le_of_ble_eq_true rfl) rfl (by decide) (i0 := 5) rfl (by decide) ?_
  refine g_icmp_ge (tgt := 139) hX (dk DX11_init_0 55 rfl) (by decide) (fun hc2 => absurd hc2 (by decide)) (fun hc2 => ?_)
  refine g_aload_0 hX (dk DX11_init_0 56 rfl) ?_
  refine g_getRs (r := 30) hX (dk DX11_init_0 57 rfl) KX11 fX11_32 (by decide) rfl (Nat.le_of_ble_eq_true rfl) rfl (rfl) ?_
  refine g_iload_1 hX (dk DX11_init_0 58 rfl) ?_
  refine g_nw_obj hX 48 49 (by first | rfl | exact hh) rfl (dk DX11_init_0 59 rfl) KX3 (by decide) (tg_1 160 rfl rfl) (tg_1 183 rfl rfl) (tg_1 6 rfl rfl) (hGn 48 (by decide) (by decide)) (by decide) (by decide) ?_
  refine g_dup hX (dk DX11_init_1 0 rfl) rfl ?_
  refine g_aload_0 hX (dk DX11_init_1 1 rfl) ?_
  refine g_getRs (r := 31) hX (dk DX11_init_1 2 rfl) KX11 fX11_36 (by decide) rfl (Nat.le_of_ble_eq_true rfl) rfl (rfl) ?_
  refine g_c2K hX sX11_init_129 (by decide) (Nat.le_of_ble_eq_true rfl) (rc0 rfl (Nat.le_of_ble_eq_true rfl) rfl) (by decide) (by decide) (c_Post1 hG (fun b h1 h2 => hGn b (by omega) (by omega)) rfl rfl (Nat.le_of_ble_eq_true rfl)) ?_
  refine i_aastore (j := 1) hX (dk DX11_init_1 4 rfl) (Nat.le_of_ble_eq_true rfl) rfl (by decide) (i0 := 5) rfl ⟨rfl, by decide, by decide⟩ (Nat.le_of_ble_eq_true rfl) rfl KX3 (Or.inl rfl) ?_
  refine g_iinc_1 (v := 2) hX (dk DX11_init_1 5 rfl) (by decide) (by decide) rfl ?_
  refine g_goto (tgt := 107) hX (dk DX11_init_1 6 rfl) (by decide) ?_
  refine g_iload_1 hX (dk DX11_init_0 51 rfl) ?_
  refine g_aload_0 hX (dk DX11_init_0 52 rfl) ?_
  refine g_getRs (r := 30) hX (dk DX11_init_0 53 rfl) KX11 fX11_32 (by decide) rfl (Nat.le_of_ble_eq_true rfl) rfl (rfl) ?_
  refine g_alen (v := 6) hX (dk DX11_init_0 54 rfl) (Nat.le_of_ble_eq_true rfl) rfl (by decide) (i0 := 5) rfl (by decide) ?_
  refine g_icmp_ge (tgt := 139) hX (dk DX11_init_0 55 rfl) (by decide) (fun hc3 => absurd hc3 (by decide)) (fun hc3 => ?_)
  refine g_aload_0 hX (dk DX11_init_0 56 rfl) ?_
  refine g_getRs (r := 30) hX (dk DX11_init_0 57 rfl) KX11 fX11_32 (by decide) rfl (Nat.le_of_ble_eq_true rfl) rfl (rfl) ?_
  refine g_iload_1 hX (dk DX11_init_0 58 rfl) ?_
  refine g_nw_obj hX 53 54 (by first | rfl | exact hh) rfl (dk DX11_init_0 59 rfl) KX3 (by decide) (tg_1 160 rfl rfl) (tg_1 183 rfl rfl) (tg_1 6 rfl rfl) (hGn 53 (by decide) (by decide)) (by decide) (by decide) ?_
  refine g_dup hX (dk DX11_init_1 0 rfl) rfl ?_
  refine g_aload_0 hX (dk DX11_init_1 1 rfl) ?_
  refine g_getRs (r := 31) hX (dk DX11_init_1 2 rfl) KX11 fX11_36 (by decide) rfl (Nat.le_of_ble_eq_true rfl) rfl (rfl) ?_
  refine g_c2K hX sX11_init_129 (by decide) (Nat.le_of_ble_eq_true rfl) (rc0 rfl (Nat.le_of_ble_eq_true rfl) rfl) (by decide) (by decide) (c_Post2 hG (fun b h1 h2 => hGn b (by omega) (by omega)) rfl rfl (Nat.le_of_ble_eq_true rfl)) ?_
  refine i_aastore (j := 2) hX (dk DX11_init_1 4 rfl) (Nat.le_of_ble_eq_true rfl) rfl (by decide) (i0 := 5) rfl ⟨rfl, by decide, by decide⟩ (Nat.le_of_ble_eq_true rfl) rfl KX3 (Or.inl rfl) ?_
  refine g_iinc_1 (v := 3) hX (dk DX11_init_1 5 rfl) (by decide) (by decide) rfl ?_
  refine g_goto (tgt := 107) hX (dk DX11_init_1 6 rfl) (by decide) ?_
  refine g_iload_1 hX (dk DX11_init_0 51 rfl) ?_
  refine g_aload_0 hX (dk DX11_init_0 52 rfl) ?_
  refine g_getRs (r := 30) hX (dk DX11_init_0 53 rfl) KX11 fX11_32 (by decide) rfl (Nat.le_of_ble_eq_true rfl) rfl (rfl) ?_
  refine g_alen (v := 6) hX (dk DX11_init_0 54 rfl) (Nat.le_of_ble_eq_true rfl) rfl (by decide) (i0 := 5) rfl (by decide) ?_
  refine g_icmp_ge (tgt := 139) hX (dk DX11_init_0 55 rfl) (by decide) (fun hc4 => absurd hc4 (by decide)) (fun hc4 => ?_)
  refine g_aload_0 hX (dk DX11_init_0 56 rfl) ?_
  refine g_getRs (r := 30) hX (dk DX11_init_0 57 rfl) KX11 fX11_32 (by decide) rfl (Nat.le_of_ble_eq_true rfl) rfl (rfl) ?_
  refine g_iload_1 hX (dk DX11_init_0 58 rfl) ?_
  refine g_nw_obj hX 58 59 (by first | rfl | exact hh) rfl (dk DX11_init_0 59 rfl) KX3 (by decide) (tg_1 160 rfl rfl) (tg_1 183 rfl rfl) (tg_1 6 rfl rfl) (hGn 58 (by decide) (by decide)) (by decide) (by decide) ?_
  refine g_dup hX (dk DX11_init_1 0 rfl) rfl ?_
  refine g_aload_0 hX (dk DX11_init_1 1 rfl) ?_
  refine g_getRs (r := 31) hX (dk DX11_init_1 2 rfl) KX11 fX11_36 (by decide) rfl (Nat.le_of_ble_eq_true rfl) rfl (rfl) ?_
  refine g_c2K hX sX11_init_129 (by decide) (Nat.le_of_ble_eq_true rfl) (rc0 rfl (Nat.le_of_ble_eq_true rfl) rfl) (by decide) (by decide) (c_Post3 hG (fun b h1 h2 => hGn b (by omega) (by omega)) rfl rfl (Nat.le_of_ble_eq_true rfl)) ?_
  refine i_aastore (j := 3) hX (dk DX11_init_1 4 rfl) (Nat.le_of_ble_eq_true rfl) rfl (by decide) (i0 := 5) rfl ⟨rfl, by decide, by decide⟩ (Nat.le_of_ble_eq_true rfl) rfl KX3 (Or.inl rfl) ?_
  refine g_iinc_1 (v := 4) hX (dk DX11_init_1 5 rfl) (by decide) (by decide) rfl ?_
  refine g_goto (tgt := 107) hX (dk DX11_init_1 6 rfl) (by decide) ?_
  refine g_iload_1 hX (dk DX11_init_0 51 rfl) ?_
  refine g_aload_0 hX (dk DX11_init_0 52 rfl) ?_
  refine g_getRs (r := 30) hX (dk DX11_init_0 53 rfl) KX11 fX11_32 (by decide) rfl (Nat.le_of_ble_eq_true rfl) rfl (rfl) ?_
  refine g_alen (v := 6) hX (dk DX11_init_0 54 rfl) (Nat.le_of_ble_eq_true rfl) rfl (by decide) (i0 := 5) rfl (by decide) ?_
  refine g_icmp_ge (tgt := 139) hX (dk DX11_init_0 55 rfl) (by decide) (fun hc5 => absurd hc5 (by decide)) (fun hc5 => ?_)
  refine g_aload_0 hX (dk DX11_init_0 56 rfl) ?_
  refine g_getRs (r := 30) hX (dk DX11_init_0 57 rfl) KX11 fX11_32 (by decide) rfl (Nat.le_of_ble_eq_true rfl) rfl (rfl) ?_
  refine g_iload_1 hX (dk DX11_init_0 58 rfl) ?_
  refine g_nw_obj hX 63 64 (by first | rfl | exact hh) rfl (dk DX11_init_0 59 rfl) KX3 (by decide) (tg_1 160 rfl rfl) (tg_1 183 rfl rfl) (tg_1 6 rfl rfl) (hGn 63 (by decide) (by decide)) (by decide) (by decide) ?_
  refine g_dup hX (dk DX11_init_1 0 rfl) rfl ?_
  refine g_aload_0 hX (dk DX11_init_1 1 rfl) ?_
  refine g_getRs (r := 31) hX (dk DX11_init_1 2 rfl) KX11 fX11_36 (by decide) rfl (Nat.le_of_ble_eq_true rfl) rfl (rfl) ?_
  refine g_c2K hX sX11_init_129 (by decide) (Nat.le_of_ble_eq_true rfl) (rc0 rfl (Nat.le_of_ble_eq_true rfl) rfl) (by decide) (by decide) (c_Post4 hG (fun b h1 h2 => hGn b (by omega) (by omega)) rfl rfl (Nat.le_of_ble_eq_true rfl)) ?_
  refine i_aastore (j := 4) hX (dk DX11_init_1 4 rfl) (Nat.le_of_ble_eq_true rfl) rfl (by decide) (i0 := 5) rfl ⟨rfl, by decide, by decide⟩ (Nat.le_of_ble_eq_true rfl) rfl KX3 (Or.inl rfl) ?_
  refine g_iinc_1 (v := 5) hX (dk DX11_init_1 5 rfl) (by decide) (by decide) rfl ?_
  refine g_goto (tgt := 107) hX (dk DX11_init_1 6 rfl) (by decide) ?_
  refine g_iload_1 hX (dk DX11_init_0 51 rfl) ?_
  refine g_aload_0 hX (dk DX11_init_0 52 rfl) ?_
  refine g_getRs (r := 30) hX (dk DX11_init_0 53 rfl) KX11 fX11_32 (by decide) rfl (Nat.le_of_ble_eq_true rfl) rfl (rfl) ?_
  refine g_alen (v := 6) hX (dk DX11_init_0 54 rfl) (Nat.le_of_ble_eq_true rfl) rfl (by decide) (i0 := 5) rfl (by decide) ?_
  refine g_icmp_ge (tgt := 139) hX (dk DX11_init_0 55 rfl) (by decide) (fun hc6 => absurd hc6 (by decide)) (fun hc6 => ?_)
  refine g_aload_0 hX (dk DX11_init_0 56 rfl) ?_
  refine g_getRs (r := 30) hX (dk DX11_init_0 57 rfl) KX11 fX11_32 (by decide) rfl (Nat.le_of_ble_eq_true rfl) rfl (rfl) ?_
  refine g_iload_1 hX (dk DX11_init_0 58 rfl) ?_
  refine g_nw_obj hX 68 69 (by first | rfl | exact hh) rfl (dk DX11_init_0 59 rfl) KX3 (by decide) (tg_1 160 rfl rfl) (tg_1 183 rfl rfl) (tg_1 6 rfl rfl) (hGn 68 (by decide) (by decide)) (by decide) (by decide) ?_
  refine g_dup hX (dk DX11_init_1 0 rfl) rfl ?_
  refine g_aload_0 hX (dk DX11_init_1 1 rfl) ?_
  refine g_getRs (r := 31) hX (dk DX11_init_1 2 rfl) KX11 fX11_36 (by decide) rfl (Nat.le_of_ble_eq_true rfl) rfl (rfl) ?_
  refine g_c2K hX sX11_init_129 (by decide) (Nat.le_of_ble_eq_true rfl) (rc0 rfl (Nat.le_of_ble_eq_true rfl) rfl) (by decide) (by decide) (c_Post5 hG (fun b h1 h2 => hGn b (by omega) (by omega)) rfl rfl (Nat.le_of_ble_eq_true rfl)) ?_
  refine i_aastore (j := 5) hX (dk DX11_init_1 4 rfl) (Nat.le_of_ble_eq_true rfl) rfl (by decide) (i0 := 5) rfl ⟨rfl, by decide, by decide⟩ (Nat.le_of_ble_eq_true rfl) rfl KX3 (Or.inl rfl) ?_
  refine g_iinc_1 (v := 6) hX (dk DX11_init_1 5 rfl) (by decide) (by decide) rfl ?_
  refine g_goto (tgt := 107) hX (dk DX11_init_1 6 rfl) (by decide) ?_
  refine g_iload_1 hX (dk DX11_init_0 51 rfl) ?_
  refine g_aload_0 hX (dk DX11_init_0 52 rfl) ?_
  refine g_getRs (r := 30) hX (dk DX11_init_0 53 rfl) KX11 fX11_32 (by decide) rfl (Nat.le_of_ble_eq_true rfl) rfl (rfl) ?_
  refine g_alen (v := 6) hX (dk DX11_init_0 54 rfl) (Nat.le_of_ble_eq_true rfl) rfl (by decide) (i0 := 5) rfl (by decide) ?_
  refine g_icmp_ge (tgt := 139) hX (dk DX11_init_0 55 rfl) (by decide) (fun hc7 => ?_) (fun hc7 => absurd (by decide) hc7)
  refine g_return hX (dk DX11_init_1 7 rfl) rfl (by decide) (by decide) ?_
  refine qV_of ⟨⟨?_, fun j hj => hf1 j hj⟩, ⟨rfl, ?_, ?_, fun j hj => ⟨rfl, rfl⟩, ⟨rfl, rfl⟩, ?_⟩⟩
  · repeat (first | exact al_0 | refine al_s ?_ (fun hne j => by first | rfl | exact absurd rfl hne | exact (congrFun (hf3 _ (by decide)) j).trans rfl | exact (congrFun (hf3 0 (by decide)) j).trans (hI0 j)))
  · repeat (first | exact al_0 | refine al_s ?_ rfl)
  · unfold RXL; repeat (first | exact ax_0 | refine ax_s rfl ?_)
  · intro q h1 h2 j
    rcases (by omega : q = 37 ∨ q = 38 ∨ q = 39 ∨ q = 40 ∨ q = 41 ∨ q = 42) with rfl | rfl | rfl | rfl | rfl | rfl <;> rfl
end
section
/-- the class's fixed cells -/
def HX (h : Ht) : Prop := 73 ≤ hn h ∧ (∀ q, q < 73 → hs h q = SXL.getD q (0, 0)) ∧ ∀ x, x ∈ RXL → hR h x.1.1 x.1.2 = some x.2
theorem HX0.hx {h : Ht} (hH : HX0 h) : HX h := ⟨by rw [hH.1]; exact Nat.le_refl _, hH.2.1, hH.2.2.1⟩
theorem CLt {h : Ht} (hH : HX h) {q : Nat} (hq : q < 73) : q < hn h := Nat.lt_of_lt_of_le hq hH.1
theorem CS {h : Ht} (hH : HX h) (q : Nat) {x : Nat × Nat} (hq : q < 73) (e : SXL.getD q (0, 0) = x) : hs h q = x := by rw [hH.2.1 q hq, e]
theorem CC {h : Ht} (hH : HX h) (q : Nat) {c : Nat} (hq : q < 73) (e : (SXL.getD q (0, 0)).1 = c) : (hs h q).1 = c := by rw [hH.2.1 q hq, e]
theorem CR {h : Ht} (hH : HX h) (q j r : Nat) (e : ((q, j), r) ∈ RXL) : hR h q j = some r := hH.2.2 ((q, j), r) e
set_option maxRecDepth 8000 in
set_option maxHeartbeats 4000000 in
theorem c_X11_isNot {G : Gt} (hG : Gok G) {I : It} {h : Ht}  {a b c : Int32} : Con G (1) 0 0 mX11_isNot [.int a, .int b, .int c] I h (rI (bI (¬ (b ≤ a ∧ a ≤ c))) I h) := by
  refine con_intro (own := RX11) (lo0 := [some (.int a), some (.int b), some (.int c)]) hG rfl pl_X11 (Nat.le_of_ble_eq_true rfl) rfl (fun X hX => ?_)
  refine g_iload_0 hX (dk DX11_isNot 0 rfl) ?_
  refine g_iload_1 hX (dk DX11_isNot 1 rfl) ?_
  refine g_icmp_lt (tgt := 10) hX (dk DX11_isNot 2 rfl) (by decide) (fun hc1 => ?_) (fun hc1 => ?_)
  · refine g_iconst (v := 1) hX (dk DX11_isNot 6 rfl) (by decide) ?_
    refine g_goto (tgt := 15) hX (dk DX11_isNot 7 rfl) (by decide) ?_
    refine g_ireturn hX (dk DX11_isNot 9 rfl) rfl (by decide) (by decide) (by decide) ?_
    exact rI_of (by grind [bI]) rfl rfl
  · refine g_iload_0 hX (dk DX11_isNot 3 rfl) ?_
    refine g_iload_2 hX (dk DX11_isNot 4 rfl) ?_
    refine g_icmp_le (tgt := 14) hX (dk DX11_isNot 5 rfl) (by decide) (fun hc2 => ?_) (fun hc2 => ?_)
    · refine g_iconst (v := 0) hX (dk DX11_isNot 8 rfl) (by decide) ?_
      refine g_ireturn hX (dk DX11_isNot 9 rfl) rfl (by decide) (by decide) (by decide) ?_
      exact rI_of (by grind [bI]) rfl rfl
    · refine g_iconst (v := 1) hX (dk DX11_isNot 6 rfl) (by decide) ?_
      refine g_goto (tgt := 15) hX (dk DX11_isNot 7 rfl) (by decide) ?_
      refine g_ireturn hX (dk DX11_isNot 9 rfl) rfl (by decide) (by decide) (by decide) ?_
      exact rI_of (by grind [bI]) rfl rfl

set_option maxRecDepth 8000 in
set_option maxHeartbeats 4000000 in
theorem c_X11_bit {G : Gt} (hG : Gok G) {I : It} {h : Ht}  {a b : Int32} : Con G (1) 0 0 mX11_bit [.int a, .int b] I h (rI (hasI a b) I h) := by
  refine con_intro (own := RX11) (lo0 := [some (.int a), some (.int b)]) hG rfl pl_X11 (Nat.le_of_ble_eq_true rfl) rfl (fun X hX => ?_)
  refine g_iload_0 hX (dk DX11_bit 0 rfl) ?_
  refine g_iload_1 hX (dk DX11_bit 1 rfl) ?_
  refine g_ishr hX (dk DX11_bit 2 rfl) ?_
  refine g_iconst (v := 1) hX (dk DX11_bit 3 rfl) (by decide) ?_
  refine g_iand hX (dk DX11_bit 4 rfl) ?_
  refine g_ireturn hX (dk DX11_bit 5 rfl) rfl (rfl) (by decide) (by decide) ?_
  exact rI_of rfl rfl rfl

set_option maxRecDepth 8000 in
set_option maxHeartbeats 4000000 in
theorem c_X11_withBit {G : Gt} (hG : Gok G) {I : It} {h : Ht}  {a b z : Int32} : Con G (1) 0 0 mX11_withBit [.int a, .int b, .int z] I h (rI (withI a b z) I h) := by
  refine con_intro (own := RX11) (lo0 := [some (.int a), some (.int b), some (.int z)]) hG rfl pl_X11 (Nat.le_of_ble_eq_true rfl) rfl (fun X hX => ?_)
  refine g_iload_2 hX (dk DX11_withBit 0 rfl) ?_
  refine g_if_eq (tgt := 12) hX (dk DX11_withBit 1 rfl) (by decide) (fun hc1 => ?_) (fun hc1 => ?_)
  · refine g_iload_0 hX (dk DX11_withBit 8 rfl) ?_
    refine g_iconst (v := 1) hX (dk DX11_withBit 9 rfl) (by decide) ?_
    refine g_iload_1 hX (dk DX11_withBit 10 rfl) ?_
    refine g_ishl hX (dk DX11_withBit 11 rfl) ?_
    refine g_iconst (v := -1) hX (dk DX11_withBit 12 rfl) (by decide) ?_
    refine g_ixor hX (dk DX11_withBit 13 rfl) ?_
    refine g_iand hX (dk DX11_withBit 14 rfl) ?_
    refine g_ireturn hX (dk DX11_withBit 15 rfl) rfl (rfl) (by decide) (by decide) ?_
    exact rI_of (by simp_all [withI, bitI]) rfl rfl
  · refine g_iload_0 hX (dk DX11_withBit 2 rfl) ?_
    refine g_iconst (v := 1) hX (dk DX11_withBit 3 rfl) (by decide) ?_
    refine g_iload_1 hX (dk DX11_withBit 4 rfl) ?_
    refine g_ishl hX (dk DX11_withBit 5 rfl) ?_
    refine g_ior hX (dk DX11_withBit 6 rfl) ?_
    refine g_goto (tgt := 19) hX (dk DX11_withBit 7 rfl) (by decide) ?_
    refine g_ireturn hX (dk DX11_withBit 15 rfl) rfl (rfl) (by decide) (by decide) ?_
    exact rI_of (by simp_all [withI, bitI]) rfl rfl

theorem Met_ofF {l : Launch} {y : MethodName} {ws ws' : List Cond} {rm : Room} {Pc : Array Value → State → Prop} {Qc : Array Value → State → Outcome → State → Prop} {mc ms : Nat} {free : Addr → Prop} {cc : ByteArray} {maxL : Nat} {ret : Option FieldType}
    (hy : plainFor y = true) (hw : ws = Cond.code y cc maxL ret :: ws')
    (body : ∀ p e s m args below meth c s₁, BodyLoose p l y (headSpec ws rm) cc maxL ret e s m args below meth c s₁ → c.maxLocals = maxL → Pc args s → W p l e (headSpec ws rm).room s m args below meth c s.heap [] 0 0 (MQ below Qc args s mc ms free) (entryFrame m args maxL)) : Met l y ws rm Pc Qc mc ms free := by
  refine MetFree.of_bodySF (code := cc) (maxLocals := maxL) (ret := ret) hy ?_ ?_
  · intro args s m h hn
    obtain ⟨meth, c, h1, h2, h3, h4, h5, h6, -, -⟩ := Cond.code_spec hn (atoms_spec (ws := ws) h _ (by rw [hw]; exact List.mem_cons_self))
    exact ⟨meth, c, h1, h2, h3, h4, h5, h6⟩
  · intro p e s m args below meth c s₁ B hml hP _
    have hh0 : s₁.heap = s.heap := by rw [B.state]; rfl
    obtain ⟨t, a1, o, b1, b2, b3⟩ := body p e s m args below meth c s₁ B hml hP s₁ hh0 (Stand.of_body B)
    exact ⟨t, o, a1, b1, b2, ⟨b3.1, b3.2⟩⟩
theorem con_introF {G : Gt} {d mc ms : Nat} {own : String} {y : Mt} {P : Pt3} {I : It} {h : Ht} {av : List Value} {lo0 : List (Option Value)} (hG : Gok G) (hown : y.1.cls = own) (hpl : plainFor y.1 = true) (hlen : (lg_sl av).length ≤ y.2.2.1) (hlo : loc0 av y.2.2.1 = lo0)
    (body : ∀ X, Xok G own y X → GG G d mc ms X P 0 lo0 [] I h 0 0) : Con G d mc ms y av I h P := by
  intro l
  refine Met_ofF (cc := y.2.1) (maxL := y.2.2.1) (ret := y.2.2.2) hpl rfl ?_
  intro p e s m args below meth c s₁ B hml hv
  obtain ⟨rfl, hW, hKs⟩ := hv
  have hts := atoms_spec (ws := ws y) B.pre
  have hX : Xok G own y (p, l, e, s, m, (av.map (cv G)).toArray, below, meth, c) :=
    ⟨B.exec, B.bytes, hml, by rw [← hown]; exact findClass_of_methodNamed B.named, fun w hw => hts w (List.mem_cons_of_mem _ hw), hKs, hG, B.notSynchronized, B.returns, (name_of_methodNamed B.named B.method).1⟩
  have hg := body _ hX
  rw [lg_entry_eq]
  exact hg s.heap [] _ (by rw [hml]; exact lv_fewer (lv_entry (av.map (cv G)) (n := y.2.2.1) (by rw [lg_sl_cv]; exact hlen)) (by subst hlo; exact lv_args_mem av 0 _)) hW va_S.rf
end
section
def fmI (a b : Int32) : Int32 := if 0 ≤ a ^^^ b then remI a b else if remI a b = 0 then remI a b else remI a b + b
set_option maxRecDepth 8000 in
set_option maxHeartbeats 4000000 in
theorem c_J9_max_7cf53 {G : Gt} (hG : Gok G) {I : It} {h : Ht}  {a b : Int32} : Con G (1) 0 0 mJ9_max_7cf53 [.int a, .int b] I h (rI (if a < b then b else a) I h) := by
  refine con_introF (own := RJ9) (lo0 := [some (.int a), some (.int b)]) hG rfl (by decide +kernel) (Nat.le_of_ble_eq_true rfl) rfl (fun X hX => ?_)
  refine g_iload_0 hX (dk DJ9_max_7cf53 0 rfl) ?_
  refine g_iload_1 hX (dk DJ9_max_7cf53 1 rfl) ?_
  refine g_icmp_lt (tgt := 9) hX (dk DJ9_max_7cf53 2 rfl) (by decide) (fun hc1 => ?_) (fun hc1 => ?_)
  · refine g_iload_1 hX (dk DJ9_max_7cf53 5 rfl) ?_
    refine g_ireturn hX (dk DJ9_max_7cf53 6 rfl) rfl (rfl) (by decide) (by decide) ?_
    exact rI_of (by grind) rfl rfl
  · refine g_iload_0 hX (dk DJ9_max_7cf53 3 rfl) ?_
    refine g_goto (tgt := 10) hX (dk DJ9_max_7cf53 4 rfl) (by decide) ?_
    refine g_ireturn hX (dk DJ9_max_7cf53 6 rfl) rfl (rfl) (by decide) (by decide) ?_
    exact rI_of (by grind) rfl rfl

set_option maxRecDepth 8000 in
set_option maxHeartbeats 4000000 in
theorem c_J9_min_7cf53 {G : Gt} (hG : Gok G) {I : It} {h : Ht}  {a b : Int32} : Con G (1) 0 0 mJ9_min_7cf53 [.int a, .int b] I h (rI (if b < a then b else a) I h) := by
  refine con_introF (own := RJ9) (lo0 := [some (.int a), some (.int b)]) hG rfl (by decide +kernel) (Nat.le_of_ble_eq_true rfl) rfl (fun X hX => ?_)
  refine g_iload_0 hX (dk DJ9_min_7cf53 0 rfl) ?_
  refine g_iload_1 hX (dk DJ9_min_7cf53 1 rfl) ?_
  refine g_icmp_gt (tgt := 9) hX (dk DJ9_min_7cf53 2 rfl) (by decide) (fun hc1 => ?_) (fun hc1 => ?_)
  · refine g_iload_1 hX (dk DJ9_min_7cf53 5 rfl) ?_
    refine g_ireturn hX (dk DJ9_min_7cf53 6 rfl) rfl (rfl) (by decide) (by decide) ?_
    exact rI_of (by grind) rfl rfl
  · refine g_iload_0 hX (dk DJ9_min_7cf53 3 rfl) ?_
    refine g_goto (tgt := 10) hX (dk DJ9_min_7cf53 4 rfl) (by decide) ?_
    refine g_ireturn hX (dk DJ9_min_7cf53 6 rfl) rfl (rfl) (by decide) (by decide) ?_
    exact rI_of (by grind) rfl rfl

set_option maxRecDepth 8000 in
set_option maxHeartbeats 4000000 in
theorem c_J9_floorMod_7cf53 {G : Gt} (hG : Gok G) {I : It} {h : Ht}  {a b : Int32} (hb : b ≠ 0) : Con G (1) 0 0 mJ9_floorMod_7cf53 [.int a, .int b] I h (rI (fmI a b) I h) := by
  refine con_introF (own := RJ9) (lo0 := [some (.int a), some (.int b), none]) hG rfl (by decide +kernel) (Nat.le_of_ble_eq_true rfl) rfl (fun X hX => ?_)
  refine g_iload_0 hX (dk DJ9_floorMod_7cf53 0 rfl) ?_
  refine g_iload_1 hX (dk DJ9_floorMod_7cf53 1 rfl) ?_
  refine g_irem hX (dk DJ9_floorMod_7cf53 2 rfl) (hb) ?_
  refine g_istore_2 hX (dk DJ9_floorMod_7cf53 3 rfl) (by decide) rfl ?_
  refine g_iload_0 hX (dk DJ9_floorMod_7cf53 4 rfl) ?_
  refine g_iload_1 hX (dk DJ9_floorMod_7cf53 5 rfl) ?_
  refine g_ixor hX (dk DJ9_floorMod_7cf53 6 rfl) ?_
  refine g_if_ge (tgt := 18) hX (dk DJ9_floorMod_7cf53 7 rfl) (by decide) (fun hc1 => ?_) (fun hc1 => ?_)
  · refine g_iload_2 hX (dk DJ9_floorMod_7cf53 14 rfl) ?_
    refine g_ireturn hX (dk DJ9_floorMod_7cf53 15 rfl) rfl (rfl) (by decide) (by decide) ?_
    exact rI_of (by unfold fmI remI; (try first | rw [if_pos hc1] | rw [if_neg hc1] | rw [if_neg (not_not_intro hc1)]); first | done | rfl) rfl rfl
  · refine g_iload_2 hX (dk DJ9_floorMod_7cf53 8 rfl) ?_
    refine g_if_eq (tgt := 18) hX (dk DJ9_floorMod_7cf53 9 rfl) (by decide) (fun hc2 => ?_) (fun hc2 => ?_)
    · refine g_iload_2 hX (dk DJ9_floorMod_7cf53 14 rfl) ?_
      refine g_ireturn hX (dk DJ9_floorMod_7cf53 15 rfl) rfl (rfl) (by decide) (by decide) ?_
      exact rI_of (by unfold fmI remI; (try first | rw [if_pos hc1] | rw [if_neg hc1] | rw [if_neg (not_not_intro hc1)]); (try first | rw [if_pos hc2] | rw [if_neg hc2] | rw [if_neg (not_not_intro hc2)]); first | done | rfl) rfl rfl
    · refine g_iload_2 hX (dk DJ9_floorMod_7cf53 10 rfl) ?_
      refine g_iload_1 hX (dk DJ9_floorMod_7cf53 11 rfl) ?_
      refine g_iadd hX (dk DJ9_floorMod_7cf53 12 rfl) ?_
      refine g_ireturn hX (dk DJ9_floorMod_7cf53 13 rfl) rfl (rfl) (by decide) (by decide) ?_
      exact rI_of (by unfold fmI remI; (try first | rw [if_pos hc1] | rw [if_neg hc1] | rw [if_neg (not_not_intro hc1)]); (try first | rw [if_pos hc2] | rw [if_neg hc2] | rw [if_neg (not_not_intro hc2)]); first | done | rfl) rfl rfl

set_option maxRecDepth 8000 in
set_option maxHeartbeats 4000000 in
theorem c_J6_bitCount_0f7a4 {G : Gt} (hG : Gok G) {I : It} {h : Ht}  {a : Int32} : Con G (1) 0 0 mJ6_bitCount_0f7a4 [.int a] I h (qI (fun x I2 h2 => (∀ m, m < 1024 → a = nI m → x = nI (onesN m)) ∧ I2 = I ∧ h2 = h)) := by
  refine con_introF (own := RJ6) (lo0 := [some (.int a)]) hG rfl (by decide +kernel) (Nat.le_of_ble_eq_true rfl) rfl (fun X hX => ?_)
  refine g_iload_0 hX (dk DJ6_bitCount_0f7a4 0 rfl) ?_
  refine g_iload_0 hX (dk DJ6_bitCount_0f7a4 1 rfl) ?_
  refine g_iconst (v := 1) hX (dk DJ6_bitCount_0f7a4 2 rfl) (by decide) ?_
  refine g_iushr hX (dk DJ6_bitCount_0f7a4 3 rfl) ?_
  refine g_ldc_w (v := 1431655765) hX (dk DJ6_bitCount_0f7a4 4 rfl) (tg_3 133 rfl rfl) ?_
  refine g_iand hX (dk DJ6_bitCount_0f7a4 5 rfl) ?_
  refine g_isub hX (dk DJ6_bitCount_0f7a4 6 rfl) ?_
  refine g_istore_0 hX (dk DJ6_bitCount_0f7a4 7 rfl) (by decide) rfl ?_
  refine g_iload_0 hX (dk DJ6_bitCount_0f7a4 8 rfl) ?_
  refine g_ldc_w (v := 858993459) hX (dk DJ6_bitCount_0f7a4 9 rfl) (tg_3 134 rfl rfl) ?_
  refine g_iand hX (dk DJ6_bitCount_0f7a4 10 rfl) ?_
  refine g_iload_0 hX (dk DJ6_bitCount_0f7a4 11 rfl) ?_
  refine g_iconst (v := 2) hX (dk DJ6_bitCount_0f7a4 12 rfl) (by decide) ?_
  refine g_iushr hX (dk DJ6_bitCount_0f7a4 13 rfl) ?_
  refine g_ldc_w (v := 858993459) hX (dk DJ6_bitCount_0f7a4 14 rfl) (tg_3 134 rfl rfl) ?_
  refine g_iand hX (dk DJ6_bitCount_0f7a4 15 rfl) ?_
  refine g_iadd hX (dk DJ6_bitCount_0f7a4 16 rfl) ?_
  refine g_istore_0 hX (dk DJ6_bitCount_0f7a4 17 rfl) (by decide) rfl ?_
  refine g_iload_0 hX (dk DJ6_bitCount_0f7a4 18 rfl) ?_
  refine g_iload_0 hX (dk DJ6_bitCount_0f7a4 19 rfl) ?_
  refine g_iconst (v := 4) hX (dk DJ6_bitCount_0f7a4 20 rfl) (by decide) ?_
  refine g_iushr hX (dk DJ6_bitCount_0f7a4 21 rfl) ?_
  refine g_iadd hX (dk DJ6_bitCount_0f7a4 22 rfl) ?_
  refine g_ldc_w (v := 252645135) hX (dk DJ6_bitCount_0f7a4 23 rfl) (tg_3 135 rfl rfl) ?_
  refine g_iand hX (dk DJ6_bitCount_0f7a4 24 rfl) ?_
  refine g_istore_0 hX (dk DJ6_bitCount_0f7a4 25 rfl) (by decide) rfl ?_
  refine g_iload_0 hX (dk DJ6_bitCount_0f7a4 26 rfl) ?_
  refine g_iload_0 hX (dk DJ6_bitCount_0f7a4 27 rfl) ?_
  refine g_bipush (v := 8) hX (dk DJ6_bitCount_0f7a4 28 rfl) (by decide) ?_
  refine g_iushr hX (dk DJ6_bitCount_0f7a4 29 rfl) ?_
  refine g_iadd hX (dk DJ6_bitCount_0f7a4 30 rfl) ?_
  refine g_istore_0 hX (dk DJ6_bitCount_0f7a4 31 rfl) (by decide) rfl ?_
  refine g_iload_0 hX (dk DJ6_bitCount_0f7a4 32 rfl) ?_
  refine g_iload_0 hX (dk DJ6_bitCount_0f7a4 33 rfl) ?_
  refine g_bipush (v := 16) hX (dk DJ6_bitCount_0f7a4 34 rfl) (by decide) ?_
  refine g_iushr hX (dk DJ6_bitCount_0f7a4 35 rfl) ?_
  refine g_iadd hX (dk DJ6_bitCount_0f7a4 36 rfl) ?_
  refine g_istore_0 hX (dk DJ6_bitCount_0f7a4 37 rfl) (by decide) rfl ?_
  refine g_iload_0 hX (dk DJ6_bitCount_0f7a4 38 rfl) ?_
  refine g_bipush (v := 63) hX (dk DJ6_bitCount_0f7a4 39 rfl) (by decide) ?_
  refine g_iand hX (dk DJ6_bitCount_0f7a4 40 rfl) ?_
  refine g_ireturn hX (dk DJ6_bitCount_0f7a4 41 rfl) rfl (rfl) (by decide) (by decide) ?_
  refine qI_of ⟨fun m hm e => ?_, rfl, rfl⟩
  subst e
  revert m
  decide +kernel
end
section
/-! System.arraycopy, references that may be null, long arrays filled -/
def acY : MethodName := ⟨"java/lang/System", "arraycopy", "(Ljava/lang/Object;ILjava/lang/Object;II)V"⟩
def cpI (I : It) (q0 q1 sp dp m : Nat) : It := fun a => if a = q1 then va_cpy (I q0) (I q1) sp dp m else I a
def cpL (h : Ht) (q0 q1 sp dp m : Nat) : Ht := (fun a => if a = q1 then va_cpy (hL h q0) (hL h q1) sp dp m else hL h a, hR h, hs h, hn h)
theorem cpI_off {I : It} {q0 q1 sp dp m a : Nat} (ha : a ≠ q1) : cpI I q0 q1 sp dp m a = I a := if_neg ha
theorem cpI_row {I : It} {q0 q1 sp dp m : Nat} : cpI I q0 q1 sp dp m q1 = va_cpy (I q0) (I q1) sp dp m := if_pos rfl
theorem cpy_in {f g : Nat → Int32} {n j : Nat} (hj : j < n) : va_cpy f g 0 0 n j = f j := by
  unfold va_cpy
  rw [if_pos ⟨Nat.zero_le _, by omega⟩]
  congr 1
  omega
theorem cpy_out {f g : Nat → Int32} {n j : Nat} (hj : n ≤ j) : va_cpy f g 0 0 n j = g j := by
  unfold va_cpy
  exact if_neg (by omega)
section CPY
variable {G : Gt} {d mc ms : Nat} {own : String} {y : Mt} {X : Xt} {P : Pt3} {pc nx : Nat} {lo : List (Option Value)} {st : List Value} {I : It} {h : Ht} {k n : Nat}
theorem g_copyI (hX : Xok G own y X) {idx q0 q1 l0 l1 sp dp m : Nat} {isp idp im : Int32} (hd : dc y.2.1 pc (.invokestatic idx) 3 nx) (hl : Cond.methodLink own idx acY ∈ TG) (w1 : Cond.native acY ∈ TG) (w2 : Cond.static acY ∈ TG) (w3 : Cond.initialized "java/lang/System" ∈ TG)
    (hq0 : q0 < hn h) (hc0 : hs h q0 = (20, l0)) (hq1 : q1 < hn h) (hc1 : hs h q1 = (20, l1)) (e : isp = nI sp ∧ idp = nI dp ∧ im = nI m) (b0 : sp + m ≤ l0 ∧ l0 < 2 ^ 31) (b1 : dp + m ≤ l1 ∧ l1 < 2 ^ 31) (hd1 : 1 ≤ d) (hst : (st.map fun v => v.category).sum ≤ 8)
    (kk : GG G d mc ms X P nx lo st (cpI I q0 q1 sp dp m) h k n) : GG G d mc ms X P pc lo (.int im :: .int idp :: .ref q1 :: .int isp :: .ref q0 :: st) I h k n := by
  obtain ⟨rfl, rfl, rfl⟩ := e
  obtain ⟨p, l, e, s, mm, args, below, meth, c⟩ := X
  obtain ⟨hexec, hb, hml, hown, hts, hKs, hGk, hlk, hrt, hnm⟩ := hX
  obtain ⟨hd, rfl⟩ := hd
  intro H locs ls hlv hW hS T hT X
  have g1 : (wl G I h)[q1]? = some (ga G q1, .inl (gc G 20, l1, .inl (I q1))) := by rw [wl_get hq1, ent_int hc1 (Or.inl rfl)]
  have g0 : (wl G I h)[q0]? = some (ga G q0, .inl (gc G 20, l0, .inl (I q0))) := by rw [wl_get hq0, ent_int hc0 (Or.inl rfl)]
  have hh0 : H[ga G q0]? = some (vp_cell (gc G 20) (l0, .inl (I q0))) := hW.1 q0 _ g0
  have hh1 : H[ga G q1]? = some (vp_cell (gc G 20) (l1, .inl (I q1))) := hW.1 q1 _ g1
  obtain ⟨-, k0, hk0, cm0, hkk0⟩ := (hKs.1.2 0 _ (tys_at rfl)).1 l0 (fun j => .int (I q0 j))
  obtain ⟨-, k1, hk1, cm1, hkk1⟩ := (hKs.1.2 0 _ (tys_at rfl)).1 l1 (fun j => .int (I q1 j))
  have a1 : (nI sp).toInt = (sp : Int) := nI_toInt (by omega)
  have a2 : (nI dp).toInt = (dp : Int) := nI_toInt (by omega)
  have a3 : (nI m).toInt = (m : Int) := nI_toInt (by omega)
  have c1 : (nI sp).toNatClampNeg = sp := nI_clamp (by omega)
  have c2 : (nI dp).toNatClampNeg = dp := nI_clamp (by omega)
  have c3 : (nI m).toNatClampNeg = m := nI_clamp (by omega)
  obtain ⟨vm', hWm, X', step⟩ := X.arraycopyK hexec hown (hts _ hl) (hts _ w1) (hts _ w2) (hts _ w3) (src := ga G q0) (dst := ga G q1) (cs := vp_cell (gc G 20) (l0, .inl (I q0))) (cd := vp_cell (gc G 20) (l1, .inl (I q1))) (srcPos := nI sp) (destPos := nI dp) (n := nI m) (by rw [hT]; exact hh0) (by rw [hT]; exact hh1)
    (fun _ h => by cases h) (fun _ h => by cases h) (fun h => by cases h) (fun h => by cases h) hk0 hk1 hkk0 hkk1 rfl (nI_pos (by omega)) (nI_pos (by omega)) (nI_pos (by omega))
    (by rw [a1, a3]; show ¬ _ > ((arrV (gc G 20) l0 (fun j => .int (I q0 j))).slots.size : Int); rw [arrV_size]; omega)
    (by rw [a2, a3]; show ¬ _ > ((arrV (gc G 20) l1 (fun j => .int (I q1 j))).slots.size : Int); rw [arrV_size]; omega)
    (fun vm₁ _ i hi => by
      rw [c3] at hi
      have e : (vp_cell (gc G 20) (l0, .inl (I q0))).slots.getD ((nI sp).toNatClampNeg + i) .null = .int (I q0 (sp + i)) := by
        rw [c1]
        show (arrV (gc G 20) l0 (fun j => .int (I q0 j))).slots.getD _ _ = _
        rw [Array.getD_eq_getD_getElem?, arrV_read _ _ (by omega)]
        rfl
      refine ⟨?_, ?_⟩
      · rw [e]; rfl
      · rw [e]; exact trivial)
    (g := F0 mm pc ls ((.int (nI m) :: .int (nI dp) :: .ref q1 :: .int (nI sp) :: .ref q0 :: st : List Value).map (cv G))) rfl hlv.1 (rest := st.map (cv G)) rfl (by rw [hb]; exact hd) hd1
    (by
      show 2 * 0 + ((st.map (cv G)).map fun v => v.category).sum + 18 ≤ 60 * d
      have : ((st.map (cv G)).map fun v => v.category).sum = (st.map fun v => v.category).sum := by simp only [List.map_map, Function.comp_def, cv_cat]
      omega)
  have e1 : copied (vp_cell (gc G 20) (l0, .inl (I q0))) (vp_cell (gc G 20) (l1, .inl (I q1))) (nI sp) (nI dp) (nI m) = vp_cell (gc G 20) (l1, .inl (va_cpy (I q0) (I q1) sp dp m)) := by
    unfold copied
    rw [c1, c2, c3]
    exact va_copied (fun z => Value.int z) (gc G 20) (gc G 20) (I q0) (I q1) b0.1
  rw [e1] at X' step
  have hl1 : ga G q1 < H.size := (Array.getElem?_eq_some_iff.mp hh1).1
  have hheap : ((T.setVm vm').setCell (ga G q1) (vp_cell (gc G 20) (l1, .inl (va_cpy (I q0) (I q1) sp dp m)))).heap = H.setIfInBounds (ga G q1) (vp_cell (gc G 20) (l1, .inl (va_cpy (I q0) (I q1) sp dp m))) := by rw [← hT]; rfl
  have oq : ∀ q : Nat, q ≠ ga G q1 → (H.setIfInBounds (ga G q1) (vp_cell (gc G 20) (l1, .inl (va_cpy (I q0) (I q1) sp dp m))))[q]? = H[q]? := fun q hq => by simp [Array.getElem?_setIfInBounds, Ne.symm hq]
  have hz : (H.setIfInBounds (ga G q1) (vp_cell (gc G 20) (l1, .inl (va_cpy (I q0) (I q1) sp dp m)))).size = H.size := by simp
  obtain ⟨t, z1, z2⟩ := kk _ _ ls hlv (wd_set (e := .inl (gc G 20, l1, .inl (va_cpy (I q0) (I q1) sp dp m))) (wl_set (h' := h) rfl (by rw [ent_int hc1 (Or.inl rfl), cpI_row]) (fun a ha => ent_congr (cpI_off ha) rfl rfl rfl)) (hW.1.set (wl_D hGk I h) g1 (show (H.setIfInBounds (ga G q1) _)[ga G q1]? = some _ by simp [Array.getElem?_setIfInBounds, hl1]) oq) hz hW rfl)
    ⟨by rw [hz]; exact hS.1, fun q g1 g2 => by rw [oq q (fun e => g2 (by rw [e]; exact hGk.2 q1))]; exact hS.2.1 q g1 g2, fun q hq => by
      rcases List.mem_append.mp hq with h | h
      · exact hS.2.2 q h
      · obtain ⟨z, -, hz⟩ := List.mem_map.mp h
        rw [← hz]
        exact hGk.2 q1⟩ _ hheap X'
  exact ⟨t, step t z1, z2⟩
theorem g_copyL (hX : Xok G own y X) {idx q0 q1 l0 l1 sp dp m : Nat} {isp idp im : Int32} (hd : dc y.2.1 pc (.invokestatic idx) 3 nx) (hl : Cond.methodLink own idx acY ∈ TG) (w1 : Cond.native acY ∈ TG) (w2 : Cond.static acY ∈ TG) (w3 : Cond.initialized "java/lang/System" ∈ TG)
    (hq0 : q0 < hn h) (hc0 : hs h q0 = (21, l0)) (hq1 : q1 < hn h) (hc1 : hs h q1 = (21, l1)) (e : isp = nI sp ∧ idp = nI dp ∧ im = nI m) (b0 : sp + m ≤ l0 ∧ l0 < 2 ^ 31) (b1 : dp + m ≤ l1 ∧ l1 < 2 ^ 31) (hd1 : 1 ≤ d) (hst : (st.map fun v => v.category).sum ≤ 8)
    (kk : GG G d mc ms X P nx lo st I (cpL h q0 q1 sp dp m) k n) : GG G d mc ms X P pc lo (.int im :: .int idp :: .ref q1 :: .int isp :: .ref q0 :: st) I h k n := by
  obtain ⟨rfl, rfl, rfl⟩ := e
  obtain ⟨p, l, e, s, mm, args, below, meth, c⟩ := X
  obtain ⟨hexec, hb, hml, hown, hts, hKs, hGk, hlk, hrt, hnm⟩ := hX
  obtain ⟨hd, rfl⟩ := hd
  intro H locs ls hlv hW hS T hT X
  have g1 : (wl G I h)[q1]? = some (ga G q1, .inl (gc G 21, l1, .inr (.inl (hL h q1)))) := by rw [wl_get hq1, ent_long hc1]
  have g0 : (wl G I h)[q0]? = some (ga G q0, .inl (gc G 21, l0, .inr (.inl (hL h q0)))) := by rw [wl_get hq0, ent_long hc0]
  have hh0 : H[ga G q0]? = some (vp_cell (gc G 21) (l0, .inr (.inl (hL h q0)))) := hW.1 q0 _ g0
  have hh1 : H[ga G q1]? = some (vp_cell (gc G 21) (l1, .inr (.inl (hL h q1)))) := hW.1 q1 _ g1
  obtain ⟨-, k0, hk0, cm0, hkk0⟩ := (hKs.1.2 1 _ (tys_at rfl)).1 l0 (fun j => .long (hL h q0 j))
  obtain ⟨-, k1, hk1, cm1, hkk1⟩ := (hKs.1.2 1 _ (tys_at rfl)).1 l1 (fun j => .long (hL h q1 j))
  have a1 : (nI sp).toInt = (sp : Int) := nI_toInt (by omega)
  have a2 : (nI dp).toInt = (dp : Int) := nI_toInt (by omega)
  have a3 : (nI m).toInt = (m : Int) := nI_toInt (by omega)
  have c1 : (nI sp).toNatClampNeg = sp := nI_clamp (by omega)
  have c2 : (nI dp).toNatClampNeg = dp := nI_clamp (by omega)
  have c3 : (nI m).toNatClampNeg = m := nI_clamp (by omega)
  obtain ⟨vm', hWm, X', step⟩ := X.arraycopyK hexec hown (hts _ hl) (hts _ w1) (hts _ w2) (hts _ w3) (src := ga G q0) (dst := ga G q1) (cs := vp_cell (gc G 21) (l0, .inr (.inl (hL h q0)))) (cd := vp_cell (gc G 21) (l1, .inr (.inl (hL h q1)))) (srcPos := nI sp) (destPos := nI dp) (n := nI m) (by rw [hT]; exact hh0) (by rw [hT]; exact hh1)
    (fun _ h => by cases h) (fun _ h => by cases h) (fun h => by cases h) (fun h => by cases h) hk0 hk1 hkk0 hkk1 rfl (nI_pos (by omega)) (nI_pos (by omega)) (nI_pos (by omega))
    (by rw [a1, a3]; show ¬ _ > ((arrV (gc G 21) l0 (fun j => .long (hL h q0 j))).slots.size : Int); rw [arrV_size]; omega)
    (by rw [a2, a3]; show ¬ _ > ((arrV (gc G 21) l1 (fun j => .long (hL h q1 j))).slots.size : Int); rw [arrV_size]; omega)
    (fun vm₁ _ i hi => by
      rw [c3] at hi
      have e : (vp_cell (gc G 21) (l0, .inr (.inl (hL h q0)))).slots.getD ((nI sp).toNatClampNeg + i) .null = .long (hL h q0 (sp + i)) := by
        rw [c1]
        show (arrV (gc G 21) l0 (fun j => .long (hL h q0 j))).slots.getD _ _ = _
        rw [Array.getD_eq_getD_getElem?, arrV_read _ _ (by omega)]
        rfl
      refine ⟨?_, ?_⟩
      · rw [e]; rfl
      · rw [e]; exact trivial)
    (g := F0 mm pc ls ((.int (nI m) :: .int (nI dp) :: .ref q1 :: .int (nI sp) :: .ref q0 :: st : List Value).map (cv G))) rfl hlv.1 (rest := st.map (cv G)) rfl (by rw [hb]; exact hd) hd1
    (by
      show 2 * 0 + ((st.map (cv G)).map fun v => v.category).sum + 18 ≤ 60 * d
      have : ((st.map (cv G)).map fun v => v.category).sum = (st.map fun v => v.category).sum := by simp only [List.map_map, Function.comp_def, cv_cat]
      omega)
  have e1 : copied (vp_cell (gc G 21) (l0, .inr (.inl (hL h q0)))) (vp_cell (gc G 21) (l1, .inr (.inl (hL h q1)))) (nI sp) (nI dp) (nI m) = vp_cell (gc G 21) (l1, .inr (.inl (va_cpy (hL h q0) (hL h q1) sp dp m))) := by
    unfold copied
    rw [c1, c2, c3]
    exact va_copied (fun z => Value.long z) (gc G 21) (gc G 21) (hL h q0) (hL h q1) b0.1
  rw [e1] at X' step
  have hl1 : ga G q1 < H.size := (Array.getElem?_eq_some_iff.mp hh1).1
  have hheap : ((T.setVm vm').setCell (ga G q1) (vp_cell (gc G 21) (l1, .inr (.inl (va_cpy (hL h q0) (hL h q1) sp dp m))))).heap = H.setIfInBounds (ga G q1) (vp_cell (gc G 21) (l1, .inr (.inl (va_cpy (hL h q0) (hL h q1) sp dp m)))) := by rw [← hT]; rfl
  have oq : ∀ q : Nat, q ≠ ga G q1 → (H.setIfInBounds (ga G q1) (vp_cell (gc G 21) (l1, .inr (.inl (va_cpy (hL h q0) (hL h q1) sp dp m)))))[q]? = H[q]? := fun q hq => by simp [Array.getElem?_setIfInBounds, Ne.symm hq]
  have hz : (H.setIfInBounds (ga G q1) (vp_cell (gc G 21) (l1, .inr (.inl (va_cpy (hL h q0) (hL h q1) sp dp m))))).size = H.size := by simp
  have hrow : hL (cpL h q0 q1 sp dp m) q1 = va_cpy (hL h q0) (hL h q1) sp dp m := if_pos rfl
  obtain ⟨t, z1, z2⟩ := kk _ _ ls hlv (wd_set (h := h) (h' := cpL h q0 q1 sp dp m) (e := .inl (gc G 21, l1, .inr (.inl (va_cpy (hL h q0) (hL h q1) sp dp m)))) (wl_set (h := h) (h' := cpL h q0 q1 sp dp m) rfl (by rw [ent_long (h := cpL h q0 q1 sp dp m) hc1, hrow]) (fun a ha => ent_congr rfl (show (if a = q1 then _ else hL h a) = hL h a from if_neg ha) rfl rfl)) (hW.1.set (wl_D hGk I h) g1 (show (H.setIfInBounds (ga G q1) _)[ga G q1]? = some _ by simp [Array.getElem?_setIfInBounds, hl1]) oq) hz hW rfl)
    ⟨by rw [hz]; exact hS.1, fun q g1 g2 => by rw [oq q (fun e => g2 (by rw [e]; exact hGk.2 q1))]; exact hS.2.1 q g1 g2, fun q hq => by
      rcases List.mem_append.mp hq with h | h
      · exact hS.2.2 q h
      · obtain ⟨z, -, hz⟩ := List.mem_map.mp h
        rw [← hz]
        exact hGk.2 q1⟩ _ hheap X'
  exact ⟨t, step t z1, z2⟩
/-- one of the seven classes of DOINGS -/
def isDC (c : Nat) : Prop := c = 1 ∨ c = 2 ∨ c = 4 ∨ c = 6 ∨ c = 8 ∨ c = 9 ∨ c = 10
def okD (h : Ht) (r : Option Nat) : Prop := ∀ v, r = some v → v < hn h ∧ isDC (hs h v).1
theorem g_aastoreD (hX : Xok G own y X) {q len j : Nat} {i : Int32} {r : Option Nat} (hd : dc y.2.1 pc .aastore 1 nx) (hq : q < hn h) (hc : hs h q = (24, len)) (hj : idx i j len) (hr : okD h r) (kk : GG G d mc ms X P nx lo st I (wR h q j r) k n) : GG G d mc ms X P pc lo (rv r :: .int i :: .ref q :: st) I h k n := by
  have hin := idx_in hj
  rw [← idx_cl hj] at kk
  cases r with
  | none => exact g_aastore0 hX hd hq hc (by decide) (i0 := 4) rfl hin kk
  | some v =>
    obtain ⟨hv, hdc⟩ := hr v rfl
    rcases hdc with e | e | e | e | e | e | e
    · exact g_aastore hX hd hq hc (by decide) (i0 := 4) rfl hin hv e KX1 (Or.inl rfl) kk
    · exact g_aastore hX hd hq hc (by decide) (i0 := 4) rfl hin hv e KX2 (Or.inr (by decide +kernel)) kk
    · exact g_aastore hX hd hq hc (by decide) (i0 := 4) rfl hin hv e KX4 (Or.inr (by decide +kernel)) kk
    · exact g_aastore hX hd hq hc (by decide) (i0 := 4) rfl hin hv e KX6 (Or.inr (by decide +kernel)) kk
    · exact g_aastore hX hd hq hc (by decide) (i0 := 4) rfl hin hv e KX8 (Or.inr (by decide +kernel)) kk
    · exact g_aastore hX hd hq hc (by decide) (i0 := 4) rfl hin hv e KX9 (Or.inr (by decide +kernel)) kk
    · exact g_aastore hX hd hq hc (by decide) (i0 := 4) rfl hin hv e KX10 (Or.inr (by decide +kernel)) kk
end CPY
theorem Con.imp {G : Gt} {d mc ms : Nat} {y : Mt} {av : List Value} {I : It} {h : Ht} {P Q : Pt3} (hC : Con G d mc ms y av I h P) (hPQ : ∀ r I' h', P r I' h' → Q r I' h') : Con G d mc ms y av I h Q := by
  intro l p e h1 h2 h3 s m args below hf happ hP hK
  obtain ⟨n, o, a1, a2, a3, ⟨⟨r, I', h', e1, e2, e3⟩, e4⟩, hL⟩ := hC l p e h1 h2 h3 s m args below hf happ hP hK
  exact ⟨n, o, a1, a2, a3, ⟨⟨r, I', h', e1, hPQ _ _ _ e2, e3⟩, e4⟩, hL⟩
end
section
theorem wL_at {h : Ht} {q j b : Nat} {x : Int64} : hL (wL h q j x) q b = if b = j then x else hL h q b := by
  show (if q = q ∧ b = j then x else hL h q b) = _
  by_cases e : b = j
  · rw [if_pos ⟨rfl, e⟩, if_pos e]
  · rw [if_neg (fun z => e z.2), if_neg e]
set_option maxRecDepth 8000 in
set_option maxHeartbeats 4000000 in
theorem c_J7_fill_d0a16 {G : Gt} (hG : Gok G) {I : It} {h : Ht}  {q len : Nat} {x : Int64} (hq : q < hn h) (hsh : hs h q = (21, len)) (hl : len ≤ 10000) : Con G (1) 0 0 mJ7_fill_d0a16 [.ref q, .long x] I h (qV (fun I2 h2 => (∀ j, j < len → hL h2 q j = x) ∧ (∀ j, len ≤ j → hL h2 q j = hL h q j) ∧ (∀ a, a ≠ q → hL h2 a = hL h a) ∧ hR h2 = hR h ∧ hs h2 = hs h ∧ hn h2 = hn h ∧ I2 = I)) := by
  refine con_intro (own := RJ7) (lo0 := [some (.ref q), some (.long x), none, none, none]) hG rfl pl_J7 (Nat.le_of_ble_eq_true rfl) rfl (fun X hX => ?_)
  have loop6 : ∀ (k i : Nat) (h2 : Ht), i + k = len → q < hn h2 → hs h2 q = (21, len) → (∀ j, j < i → hL h2 q j = x) → (∀ j, i ≤ j → hL h2 q j = hL h q j) → (∀ a, a ≠ q → hL h2 a = hL h a) → hR h2 = hR h → hs h2 = hs h → hn h2 = hn h → GG G (1) 0 0 X (qV (fun I2 h2 => (∀ j, j < len → hL h2 q j = x) ∧ (∀ j, len ≤ j → hL h2 q j = hL h q j) ∧ (∀ a, a ≠ q → hL h2 a = hL h a) ∧ hR h2 = hR h ∧ hs h2 = hs h ∧ hn h2 = hn h ∧ I2 = I)) 6 [some (.ref q), some (.long x), none, some (.int (nI i)), some (.int (nI len))] [] (I) (h2) 0 0 := by
    intro k
    induction k using Nat.strongRecOn with | _ k ih => ?_
    intro i h2 hk hq hsh h1 h2a h3 h4 h5 h6
    refine g_iload_3 hX (dk DJ7_fill_d0a16 5 rfl) ?_
    refine g_iload_4 hX (dk DJ7_fill_d0a16 6 rfl) ?_
    refine g_icmp_ge (tgt := 22) hX (dk DJ7_fill_d0a16 7 rfl) (by decide) (fun hc1 => ?_) (fun hc1 => ?_)
    · refine g_return hX (dk DJ7_fill_d0a16 14 rfl) rfl (by decide) (by decide) ?_
      have hk0 := ct_end hk (by omega) hc1
      subst hk0
      exact qV_of ⟨fun j hj => h1 j (by omega), fun j hj => h2a j (by omega), h3, h4, h5, h6, rfl⟩
    · obtain ⟨k, rfl⟩ := ct_go hk (by omega) hc1
      refine g_aload_0 hX (dk DJ7_fill_d0a16 8 rfl) ?_
      refine g_iload_3 hX (dk DJ7_fill_d0a16 9 rfl) ?_
      refine g_lload_1 hX (dk DJ7_fill_d0a16 10 rfl) ?_
      refine i_lastore hX (dk DJ7_fill_d0a16 11 rfl) hq hsh (⟨rfl, by omega, by omega⟩) ?_
      refine g_iinc_3 hX (dk DJ7_fill_d0a16 12 rfl) (nI_1 i) (by decide) rfl ?_
      refine g_goto (tgt := 6) hX (dk DJ7_fill_d0a16 13 rfl) (by decide) ?_
      exact ih k (by omega) (i + 1) _ (by omega) hq hsh (fun j hj => by
        rw [wL_at]
        by_cases e : j = i
        · rw [if_pos e]
        · rw [if_neg e]; exact h1 j (by omega)) (fun j hj => by rw [wL_at, if_neg (by omega)]; exact h2a j (by omega)) (fun a ha => by rw [wL_off ha]; exact h3 a ha) h4 h5 h6
  refine g_iconst (v := 0) hX (dk DJ7_fill_d0a16 0 rfl) (by decide) ?_
  refine g_istore_3 hX (dk DJ7_fill_d0a16 1 rfl) (by decide) rfl ?_
  refine g_aload_0 hX (dk DJ7_fill_d0a16 2 rfl) ?_
  refine g_alen (v := nI len) hX (dk DJ7_fill_d0a16 3 rfl) hq hsh (by decide) (i0 := 1) rfl rfl ?_
  refine g_istore_4 hX (dk DJ7_fill_d0a16 4 rfl) (by decide) rfl ?_
  exact loop6 len 0 h (Nat.zero_add _) hq hsh (fun j hj => absurd hj (Nat.not_lt_zero j)) (fun _ _ => rfl) (fun _ _ => rfl) rfl rfl rfl

set_option maxRecDepth 8000 in
set_option maxHeartbeats 4000000 in
theorem c_J9_max_f86c9 {G : Gt} (hG : Gok G) {I : It} {h : Ht}  {a b : Int64} : Con G (1) 0 0 mJ9_max_f86c9 [.long a, .long b] I h (rL (if a < b then b else a) I h) := by
  refine con_introF (own := RJ9) (lo0 := [some (.long a), none, some (.long b), none]) hG rfl (by decide +kernel) (Nat.le_of_ble_eq_true rfl) rfl (fun X hX => ?_)
  refine g_lload_0 hX (dk DJ9_max_f86c9 0 rfl) ?_
  refine g_lload_2 hX (dk DJ9_max_f86c9 1 rfl) ?_
  refine g_lcmp hX (dk DJ9_max_f86c9 2 rfl) ?_
  refine g_if_lt (tgt := 10) hX (dk DJ9_max_f86c9 3 rfl) (by decide) (fun hc1 => ?_) (fun hc1 => ?_)
  · refine g_lload_2 hX (dk DJ9_max_f86c9 6 rfl) ?_
    refine g_lreturn hX (dk DJ9_max_f86c9 7 rfl) rfl (by decide) (by decide) ?_
    exact rL_of (by have := lg_cmp_lt a b; grind) rfl rfl
  · refine g_lload_0 hX (dk DJ9_max_f86c9 4 rfl) ?_
    refine g_goto (tgt := 11) hX (dk DJ9_max_f86c9 5 rfl) (by decide) ?_
    refine g_lreturn hX (dk DJ9_max_f86c9 7 rfl) rfl (by decide) (by decide) ?_
    exact rL_of (by have := lg_cmp_lt a b; grind) rfl rfl

theorem prod_half {p q e : Nat} (hq : 0 < q) (hle : q ≤ p) (h : p * q < 2 ^ (e + 1)) : q * (p % q) < 2 ^ e := by
  have h1 := Nat.div_add_mod p q
  have h2 : p % q < q := Nat.mod_lt _ hq
  have h3 : 1 ≤ p / q := (Nat.one_le_div_iff hq).mpr hle
  have h4 : q * 1 ≤ q * (p / q) := Nat.mul_le_mul_left q h3
  have h5 : q + p % q ≤ p := by omega
  have h6 : (q + p % q) * q ≤ p * q := Nat.mul_le_mul_right q h5
  have h8 : p % q * q ≤ q * q := Nat.mul_le_mul_right q (Nat.le_of_lt h2)
  rw [Nat.add_mul] at h6
  rw [Nat.pow_succ] at h
  rw [Nat.mul_comm q (p % q)]
  omega
theorem lt63 {a : Nat} (h : a < 2 ^ 34) : a < 2 ^ 63 := Nat.lt_trans h (by decide)
set_option maxRecDepth 8000 in
set_option maxHeartbeats 4000000 in
theorem c_X11_commonDivisor {G : Gt} (hG : Gok G) {I : It} {h : Ht}  {a b : Nat} (hab : a ≤ b) (hb0 : 0 < b) (hb : b < 2 ^ 34) : Con G (2) 0 0 mX11_commonDivisor [.long (lN a), .long (lN b)] I h (rL (lN (Nat.gcd a b)) I h) := by
  refine con_intro (own := RX11) (lo0 := [some (.long (lN a)), none, some (.long (lN b)), none, none, none, none, none, none, none, none]) hG rfl pl_X11 (Nat.le_of_ble_eq_true rfl) rfl (fun X hX => ?_)
  have loop9 : ∀ (e s p q : Nat), s + e = 70 → 0 < p → q ≤ p → p < 2 ^ 34 → p * q < 2 ^ e → Nat.gcd p q = Nat.gcd a b → GG G (2) 0 0 X (rL (lN (Nat.gcd a b)) I h) 9 [some (.long (lN a)), none, some (.long (lN b)), none, some (.long (lN p)), none, some (.long (lN q)), none, some (.int (nI s)), none, none] [] (I) (h) 0 0 := by
    intro e
    induction e using Nat.strongRecOn with | _ e ih => ?_
    intro s p q hs hp hqp hp34 hpe hv
    have hq63 : q < 2 ^ 63 := lt63 (Nat.lt_of_le_of_lt hqp hp34)
    refine g_iload_8 hX (dk DX11_commonDivisor 6 rfl) ?_
    refine g_bipush (v := 100) hX (dk DX11_commonDivisor 7 rfl) (by decide) ?_
    refine g_icmp_ge (tgt := 44) hX (dk DX11_commonDivisor 8 rfl) (by decide) (fun hc1 => absurd hc1 (Int32.not_le.mpr (by show nI s < nI 100; exact nI_lt (by omega) (by decide)))) (fun hc1 => ?_)
    refine g_lload_6 hX (dk DX11_commonDivisor 9 rfl) ?_
    refine g_lconst (v := 0) hX (dk DX11_commonDivisor 10 rfl) (by decide) ?_
    refine g_lcmp hX (dk DX11_commonDivisor 11 rfl) ?_
    refine g_if_le (tgt := 44) hX (dk DX11_commonDivisor 12 rfl) (by decide) (fun hc2 => ?_) (fun hc2 => ?_)
    · have hq0 : q = 0 := (pk_lEQ (b := 0) hq63 (by decide)).mp (Int64.le_antisymm ((lg_cmp_le _ _).mp hc2) ((pk_lLE (a := 0) (by decide) hq63).mpr (Nat.zero_le q)))
      refine g_lconst (v := 1) hX (dk DX11_commonDivisor 23 rfl) (by decide) ?_
      refine g_lload_4 hX (dk DX11_commonDivisor 24 rfl) ?_
      refine g_c2L hX sX11_commonDivisor_47 (by decide) (Nat.le_of_ble_eq_true rfl) rcN (by decide) (by decide) (c_J9_max_f86c9 hG) ?_
      refine g_nmL (lN p) (by have h1 : lN 1 ≤ lN p := (pk_lLE (by decide) (lt63 hp34)).mpr hp; rcases Int64.lt_or_eq_of_le h1 with z | z; exact if_pos z; rw [if_neg (by rw [← z]; decide)]; exact z) ?_
      refine g_lreturn hX (dk DX11_commonDivisor 26 rfl) rfl (by decide) (by decide) ?_
      subst hq0
      exact rL_of (by rw [← hv, Nat.gcd_zero_right]) rfl rfl
    · have hq0 : q ≠ 0 := fun z => hc2 ((lg_cmp_le _ _).mpr (by rw [z]; exact Int64.le_refl _))
      obtain ⟨e, rfl⟩ : ∃ z, e = z + 1 := by
        cases e with
        | zero => exact absurd hpe (by have := Nat.mul_pos hp (Nat.pos_of_ne_zero hq0); omega)
        | succ z => exact ⟨z, rfl⟩
      refine g_lload_4 hX (dk DX11_commonDivisor 13 rfl) ?_
      refine g_lload_6 hX (dk DX11_commonDivisor 14 rfl) ?_
      refine g_lrem hX (dk DX11_commonDivisor 15 rfl) (fun z => hq0 ((pk_lEQ (b := 0) hq63 (by decide)).mp z)) ?_
      refine g_nmL (lN (p % q)) (pk_lRem (lt63 hp34) (by omega) hq63) ?_
      refine g_lstore_9 hX (dk DX11_commonDivisor 16 rfl) (by decide) rfl ?_
      refine g_lload_6 hX (dk DX11_commonDivisor 17 rfl) ?_
      refine g_lstore_4 hX (dk DX11_commonDivisor 18 rfl) (by decide) rfl ?_
      refine g_lload_9 hX (dk DX11_commonDivisor 19 rfl) ?_
      refine g_lstore_6 hX (dk DX11_commonDivisor 20 rfl) (by decide) rfl ?_
      refine g_iinc_8 hX (dk DX11_commonDivisor 21 rfl) (nI_1 s) (by decide) rfl ?_
      refine g_goto (tgt := 9) hX (dk DX11_commonDivisor 22 rfl) (by decide) ?_
      exact g_fgt (ih e (by omega) (s + 1) q (p % q) (by omega) (Nat.pos_of_ne_zero hq0) (Nat.le_of_lt (Nat.mod_lt _ (Nat.pos_of_ne_zero hq0))) (Nat.lt_of_le_of_lt hqp hp34) (prod_half (Nat.pos_of_ne_zero hq0) hqp hpe) (by rw [← hv, Nat.gcd_comm p q, Nat.gcd_rec q p, Nat.gcd_comm])) ⟨rfl, rfl, rfl, rfl, rfl, trivial⟩
  refine g_lload_2 hX (dk DX11_commonDivisor 0 rfl) ?_
  refine g_lstore_4 hX (dk DX11_commonDivisor 1 rfl) (by decide) rfl ?_
  refine g_lload_0 hX (dk DX11_commonDivisor 2 rfl) ?_
  refine g_lstore_6 hX (dk DX11_commonDivisor 3 rfl) (by decide) rfl ?_
  refine g_iconst (v := 0) hX (dk DX11_commonDivisor 4 rfl) (by decide) ?_
  refine g_istore_8 hX (dk DX11_commonDivisor 5 rfl) (by decide) rfl ?_
  exact loop9 70 0 b a (Nat.zero_add _) hb0 hab hb (Nat.lt_of_le_of_lt (Nat.mul_le_mul (Nat.le_of_lt hb) (Nat.le_trans hab (Nat.le_of_lt hb))) (by decide)) (Nat.gcd_comm b a)
end
section
/-- a DOING's six numbers -/
def dI (I : It) (a : Nat) (i v r p c n : Int32) : It := upI (upI (upI (upI (upI (upI I a 0 i) a 1 v) a 2 (if 1 < r then r else 1)) a 3 p) a 4 c) a 5 n
set_option maxRecDepth 8000 in
set_option maxHeartbeats 4000000 in
theorem c_ini1_1 {G : Gt} (hG : Gok G) {I : It} {h : Ht}  {q : Nat} {i v r p c n : Int32} (hq : q < hn h) (hcl : (hs h q).1 = 1) : Con G (2) 0 0 mX1_init [.ref q, .int i, .int v, .int r, .int p, .int c, .int n] I h (rV (dI I q i v r p c n) h) := by
  refine con_intro (own := RX1) (lo0 := [some (.ref q), some (.int i), some (.int v), some (.int r), some (.int p), some (.int c), some (.int n)]) hG rfl pl_X1 (Nat.le_of_ble_eq_true rfl) rfl (fun X hX => ?_)
  refine g_aload_0 hX (dk DX1_init 0 rfl) ?_
  refine g_objInit hX (dk DX1_init 1 rfl) (tg_2 43 rfl rfl) (tg_1 24 rfl rfl) (tg_1 25 rfl rfl) (by decide) (by decide) ?_
  refine g_aload_0 hX (dk DX1_init 2 rfl) ?_
  refine g_iload_1 hX (dk DX1_init 3 rfl) ?_
  refine g_putI hX (dk DX1_init 4 rfl) KX1 fX1_9 (by decide) rfl hq hcl (Or.inr ⟨rfl, rfl, rfl⟩) (rfl) (rfl) ?_
  refine g_aload_0 hX (dk DX1_init 5 rfl) ?_
  refine g_iload_2 hX (dk DX1_init 6 rfl) ?_
  refine g_putI hX (dk DX1_init 7 rfl) KX1 fX1_15 (by decide) rfl hq hcl (Or.inr ⟨rfl, rfl, rfl⟩) (rfl) (rfl) ?_
  refine g_aload_0 hX (dk DX1_init 8 rfl) ?_
  refine g_iconst (v := 1) hX (dk DX1_init 9 rfl) (by decide) ?_
  refine g_iload_3 hX (dk DX1_init 10 rfl) ?_
  refine g_c2I hX sX1_init_17 (by decide) (Nat.le_of_ble_eq_true rfl) rcN (by decide) (by decide) (c_J9_max_7cf53 hG) ?_
  refine g_putI hX (dk DX1_init 12 rfl) KX1 fX1_24 (by decide) rfl hq hcl (Or.inr ⟨rfl, rfl, rfl⟩) (rfl) (rfl) ?_
  refine g_aload_0 hX (dk DX1_init 13 rfl) ?_
  refine g_iload_4 hX (dk DX1_init 14 rfl) ?_
  refine g_putI hX (dk DX1_init 15 rfl) KX1 fX1_27 (by decide) rfl hq hcl (Or.inr ⟨rfl, rfl, rfl⟩) (rfl) (rfl) ?_
  refine g_aload_0 hX (dk DX1_init 16 rfl) ?_
  refine g_iload_5 hX (dk DX1_init 17 rfl) ?_
  refine g_putI hX (dk DX1_init 18 rfl) KX1 fX1_30 (by decide) rfl hq hcl (Or.inr ⟨rfl, rfl, rfl⟩) (rfl) (rfl) ?_
  refine g_aload_0 hX (dk DX1_init 19 rfl) ?_
  refine g_iload_6 hX (dk DX1_init 20 rfl) ?_
  refine g_putI hX (dk DX1_init 21 rfl) KX1 fX1_33 (by decide) rfl hq hcl (Or.inr ⟨rfl, rfl, rfl⟩) (rfl) (rfl) ?_
  refine g_return hX (dk DX1_init 22 rfl) rfl (by decide) (by decide) ?_
  exact rV_of rfl rfl

set_option maxRecDepth 8000 in
set_option maxHeartbeats 4000000 in
theorem c_ini1_2 {G : Gt} (hG : Gok G) {I : It} {h : Ht}  {q : Nat} {i v r p c n : Int32} (hq : q < hn h) (hcl : (hs h q).1 = 2) : Con G (2) 0 0 mX1_init [.ref q, .int i, .int v, .int r, .int p, .int c, .int n] I h (rV (dI I q i v r p c n) h) := by
  refine con_intro (own := RX1) (lo0 := [some (.ref q), some (.int i), some (.int v), some (.int r), some (.int p), some (.int c), some (.int n)]) hG rfl pl_X1 (Nat.le_of_ble_eq_true rfl) rfl (fun X hX => ?_)
  refine g_aload_0 hX (dk DX1_init 0 rfl) ?_
  refine g_objInit hX (dk DX1_init 1 rfl) (tg_2 43 rfl rfl) (tg_1 24 rfl rfl) (tg_1 25 rfl rfl) (by decide) (by decide) ?_
  refine g_aload_0 hX (dk DX1_init 2 rfl) ?_
  refine g_iload_1 hX (dk DX1_init 3 rfl) ?_
  refine g_putI hX (dk DX1_init 4 rfl) KX2 fX1_9 (by decide) rfl hq hcl (Or.inr ⟨rfl, rfl, rfl⟩) (rfl) (rfl) ?_
  refine g_aload_0 hX (dk DX1_init 5 rfl) ?_
  refine g_iload_2 hX (dk DX1_init 6 rfl) ?_
  refine g_putI hX (dk DX1_init 7 rfl) KX2 fX1_15 (by decide) rfl hq hcl (Or.inr ⟨rfl, rfl, rfl⟩) (rfl) (rfl) ?_
  refine g_aload_0 hX (dk DX1_init 8 rfl) ?_
  refine g_iconst (v := 1) hX (dk DX1_init 9 rfl) (by decide) ?_
  refine g_iload_3 hX (dk DX1_init 10 rfl) ?_
  refine g_c2I hX sX1_init_17 (by decide) (Nat.le_of_ble_eq_true rfl) rcN (by decide) (by decide) (c_J9_max_7cf53 hG) ?_
  refine g_putI hX (dk DX1_init 12 rfl) KX2 fX1_24 (by decide) rfl hq hcl (Or.inr ⟨rfl, rfl, rfl⟩) (rfl) (rfl) ?_
  refine g_aload_0 hX (dk DX1_init 13 rfl) ?_
  refine g_iload_4 hX (dk DX1_init 14 rfl) ?_
  refine g_putI hX (dk DX1_init 15 rfl) KX2 fX1_27 (by decide) rfl hq hcl (Or.inr ⟨rfl, rfl, rfl⟩) (rfl) (rfl) ?_
  refine g_aload_0 hX (dk DX1_init 16 rfl) ?_
  refine g_iload_5 hX (dk DX1_init 17 rfl) ?_
  refine g_putI hX (dk DX1_init 18 rfl) KX2 fX1_30 (by decide) rfl hq hcl (Or.inr ⟨rfl, rfl, rfl⟩) (rfl) (rfl) ?_
  refine g_aload_0 hX (dk DX1_init 19 rfl) ?_
  refine g_iload_6 hX (dk DX1_init 20 rfl) ?_
  refine g_putI hX (dk DX1_init 21 rfl) KX2 fX1_33 (by decide) rfl hq hcl (Or.inr ⟨rfl, rfl, rfl⟩) (rfl) (rfl) ?_
  refine g_return hX (dk DX1_init 22 rfl) rfl (by decide) (by decide) ?_
  exact rV_of rfl rfl

set_option maxRecDepth 8000 in
set_option maxHeartbeats 4000000 in
theorem c_ini2_2 {G : Gt} (hG : Gok G) {I : It} {h : Ht}  {q : Nat} {i v r p c n : Int32} (hq : q < hn h) (hcl : (hs h q).1 = 2) : Con G (3) 0 0 mX2_init [.ref q, .int i, .int v, .int r, .int p, .int c, .int n] I h (rV (dI I q i v r p c n) h) := by
  refine con_intro (own := RX2) (lo0 := [some (.ref q), some (.int i), some (.int v), some (.int r), some (.int p), some (.int c), some (.int n)]) hG rfl pl_X2 (Nat.le_of_ble_eq_true rfl) rfl (fun X hX => ?_)
  refine g_aload_0 hX (dk DX2_init 0 rfl) ?_
  refine g_iload_1 hX (dk DX2_init 1 rfl) ?_
  refine g_iload_2 hX (dk DX2_init 2 rfl) ?_
  refine g_iload_3 hX (dk DX2_init 3 rfl) ?_
  refine g_iload_4 hX (dk DX2_init 4 rfl) ?_
  refine g_iload_5 hX (dk DX2_init 5 rfl) ?_
  refine g_iload_6 hX (dk DX2_init 6 rfl) ?_
  refine g_c7V hX sX2_init_10 (by decide) (Nat.le_of_ble_eq_true rfl) (rc0 rfl hq hcl) (by decide) (by decide) (c_ini1_2 hG hq hcl) ?_
  refine g_return hX (dk DX2_init 8 rfl) rfl (by decide) (by decide) ?_
  exact rV_of rfl rfl

set_option maxRecDepth 8000 in
set_option maxHeartbeats 4000000 in
theorem c_ini1_4 {G : Gt} (hG : Gok G) {I : It} {h : Ht}  {q : Nat} {i v r p c n : Int32} (hq : q < hn h) (hcl : (hs h q).1 = 4) : Con G (2) 0 0 mX1_init [.ref q, .int i, .int v, .int r, .int p, .int c, .int n] I h (rV (dI I q i v r p c n) h) := by
  refine con_intro (own := RX1) (lo0 := [some (.ref q), some (.int i), some (.int v), some (.int r), some (.int p), some (.int c), some (.int n)]) hG rfl pl_X1 (Nat.le_of_ble_eq_true rfl) rfl (fun X hX => ?_)
  refine g_aload_0 hX (dk DX1_init 0 rfl) ?_
  refine g_objInit hX (dk DX1_init 1 rfl) (tg_2 43 rfl rfl) (tg_1 24 rfl rfl) (tg_1 25 rfl rfl) (by decide) (by decide) ?_
  refine g_aload_0 hX (dk DX1_init 2 rfl) ?_
  refine g_iload_1 hX (dk DX1_init 3 rfl) ?_
  refine g_putI hX (dk DX1_init 4 rfl) KX4 fX1_9 (by decide) rfl hq hcl (Or.inr ⟨rfl, rfl, rfl⟩) (rfl) (rfl) ?_
  refine g_aload_0 hX (dk DX1_init 5 rfl) ?_
  refine g_iload_2 hX (dk DX1_init 6 rfl) ?_
  refine g_putI hX (dk DX1_init 7 rfl) KX4 fX1_15 (by decide) rfl hq hcl (Or.inr ⟨rfl, rfl, rfl⟩) (rfl) (rfl) ?_
  refine g_aload_0 hX (dk DX1_init 8 rfl) ?_
  refine g_iconst (v := 1) hX (dk DX1_init 9 rfl) (by decide) ?_
  refine g_iload_3 hX (dk DX1_init 10 rfl) ?_
  refine g_c2I hX sX1_init_17 (by decide) (Nat.le_of_ble_eq_true rfl) rcN (by decide) (by decide) (c_J9_max_7cf53 hG) ?_
  refine g_putI hX (dk DX1_init 12 rfl) KX4 fX1_24 (by decide) rfl hq hcl (Or.inr ⟨rfl, rfl, rfl⟩) (rfl) (rfl) ?_
  refine g_aload_0 hX (dk DX1_init 13 rfl) ?_
  refine g_iload_4 hX (dk DX1_init 14 rfl) ?_
  refine g_putI hX (dk DX1_init 15 rfl) KX4 fX1_27 (by decide) rfl hq hcl (Or.inr ⟨rfl, rfl, rfl⟩) (rfl) (rfl) ?_
  refine g_aload_0 hX (dk DX1_init 16 rfl) ?_
  refine g_iload_5 hX (dk DX1_init 17 rfl) ?_
  refine g_putI hX (dk DX1_init 18 rfl) KX4 fX1_30 (by decide) rfl hq hcl (Or.inr ⟨rfl, rfl, rfl⟩) (rfl) (rfl) ?_
  refine g_aload_0 hX (dk DX1_init 19 rfl) ?_
  refine g_iload_6 hX (dk DX1_init 20 rfl) ?_
  refine g_putI hX (dk DX1_init 21 rfl) KX4 fX1_33 (by decide) rfl hq hcl (Or.inr ⟨rfl, rfl, rfl⟩) (rfl) (rfl) ?_
  refine g_return hX (dk DX1_init 22 rfl) rfl (by decide) (by decide) ?_
  exact rV_of rfl rfl

set_option maxRecDepth 8000 in
set_option maxHeartbeats 4000000 in
theorem c_ini4_4 {G : Gt} (hG : Gok G) {I : It} {h : Ht}  {q : Nat} {i v r p c n : Int32} (hq : q < hn h) (hcl : (hs h q).1 = 4) : Con G (3) 0 0 mX4_init [.ref q, .int i, .int v, .int r, .int p, .int c, .int n] I h (rV (dI I q i v r p c n) h) := by
  refine con_intro (own := RX4) (lo0 := [some (.ref q), some (.int i), some (.int v), some (.int r), some (.int p), some (.int c), some (.int n)]) hG rfl pl_X4 (Nat.le_of_ble_eq_true rfl) rfl (fun X hX => ?_)
  refine g_aload_0 hX (dk DX4_init 0 rfl) ?_
  refine g_iload_1 hX (dk DX4_init 1 rfl) ?_
  refine g_iload_2 hX (dk DX4_init 2 rfl) ?_
  refine g_iload_3 hX (dk DX4_init 3 rfl) ?_
  refine g_iload_4 hX (dk DX4_init 4 rfl) ?_
  refine g_iload_5 hX (dk DX4_init 5 rfl) ?_
  refine g_iload_6 hX (dk DX4_init 6 rfl) ?_
  refine g_c7V hX sX4_init_10 (by decide) (Nat.le_of_ble_eq_true rfl) (rc0 rfl hq hcl) (by decide) (by decide) (c_ini1_4 hG hq hcl) ?_
  refine g_return hX (dk DX4_init 8 rfl) rfl (by decide) (by decide) ?_
  exact rV_of rfl rfl

set_option maxRecDepth 8000 in
set_option maxHeartbeats 4000000 in
theorem c_ini1_6 {G : Gt} (hG : Gok G) {I : It} {h : Ht}  {q : Nat} {i v r p c n : Int32} (hq : q < hn h) (hcl : (hs h q).1 = 6) : Con G (2) 0 0 mX1_init [.ref q, .int i, .int v, .int r, .int p, .int c, .int n] I h (rV (dI I q i v r p c n) h) := by
  refine con_intro (own := RX1) (lo0 := [some (.ref q), some (.int i), some (.int v), some (.int r), some (.int p), some (.int c), some (.int n)]) hG rfl pl_X1 (Nat.le_of_ble_eq_true rfl) rfl (fun X hX => ?_)
  refine g_aload_0 hX (dk DX1_init 0 rfl) ?_
  refine g_objInit hX (dk DX1_init 1 rfl) (tg_2 43 rfl rfl) (tg_1 24 rfl rfl) (tg_1 25 rfl rfl) (by decide) (by decide) ?_
  refine g_aload_0 hX (dk DX1_init 2 rfl) ?_
  refine g_iload_1 hX (dk DX1_init 3 rfl) ?_
  refine g_putI hX (dk DX1_init 4 rfl) KX6 fX1_9 (by decide) rfl hq hcl (Or.inr ⟨rfl, rfl, rfl⟩) (rfl) (rfl) ?_
  refine g_aload_0 hX (dk DX1_init 5 rfl) ?_
  refine g_iload_2 hX (dk DX1_init 6 rfl) ?_
  refine g_putI hX (dk DX1_init 7 rfl) KX6 fX1_15 (by decide) rfl hq hcl (Or.inr ⟨rfl, rfl, rfl⟩) (rfl) (rfl) ?_
  refine g_aload_0 hX (dk DX1_init 8 rfl) ?_
  refine g_iconst (v := 1) hX (dk DX1_init 9 rfl) (by decide) ?_
  refine g_iload_3 hX (dk DX1_init 10 rfl) ?_
  refine g_c2I hX sX1_init_17 (by decide) (Nat.le_of_ble_eq_true rfl) rcN (by decide) (by decide) (c_J9_max_7cf53 hG) ?_
  refine g_putI hX (dk DX1_init 12 rfl) KX6 fX1_24 (by decide) rfl hq hcl (Or.inr ⟨rfl, rfl, rfl⟩) (rfl) (rfl) ?_
  refine g_aload_0 hX (dk DX1_init 13 rfl) ?_
  refine g_iload_4 hX (dk DX1_init 14 rfl) ?_
  refine g_putI hX (dk DX1_init 15 rfl) KX6 fX1_27 (by decide) rfl hq hcl (Or.inr ⟨rfl, rfl, rfl⟩) (rfl) (rfl) ?_
  refine g_aload_0 hX (dk DX1_init 16 rfl) ?_
  refine g_iload_5 hX (dk DX1_init 17 rfl) ?_
  refine g_putI hX (dk DX1_init 18 rfl) KX6 fX1_30 (by decide) rfl hq hcl (Or.inr ⟨rfl, rfl, rfl⟩) (rfl) (rfl) ?_
  refine g_aload_0 hX (dk DX1_init 19 rfl) ?_
  refine g_iload_6 hX (dk DX1_init 20 rfl) ?_
  refine g_putI hX (dk DX1_init 21 rfl) KX6 fX1_33 (by decide) rfl hq hcl (Or.inr ⟨rfl, rfl, rfl⟩) (rfl) (rfl) ?_
  refine g_return hX (dk DX1_init 22 rfl) rfl (by decide) (by decide) ?_
  exact rV_of rfl rfl

set_option maxRecDepth 8000 in
set_option maxHeartbeats 4000000 in
theorem c_ini2_6 {G : Gt} (hG : Gok G) {I : It} {h : Ht}  {q : Nat} {i v r p c n : Int32} (hq : q < hn h) (hcl : (hs h q).1 = 6) : Con G (3) 0 0 mX2_init [.ref q, .int i, .int v, .int r, .int p, .int c, .int n] I h (rV (dI I q i v r p c n) h) := by
  refine con_intro (own := RX2) (lo0 := [some (.ref q), some (.int i), some (.int v), some (.int r), some (.int p), some (.int c), some (.int n)]) hG rfl pl_X2 (Nat.le_of_ble_eq_true rfl) rfl (fun X hX => ?_)
  refine g_aload_0 hX (dk DX2_init 0 rfl) ?_
  refine g_iload_1 hX (dk DX2_init 1 rfl) ?_
  refine g_iload_2 hX (dk DX2_init 2 rfl) ?_
  refine g_iload_3 hX (dk DX2_init 3 rfl) ?_
  refine g_iload_4 hX (dk DX2_init 4 rfl) ?_
  refine g_iload_5 hX (dk DX2_init 5 rfl) ?_
  refine g_iload_6 hX (dk DX2_init 6 rfl) ?_
  refine g_c7V hX sX2_init_10 (by decide) (Nat.le_of_ble_eq_true rfl) (rc0 rfl hq hcl) (by decide) (by decide) (c_ini1_6 hG hq hcl) ?_
  refine g_return hX (dk DX2_init 8 rfl) rfl (by decide) (by decide) ?_
  exact rV_of rfl rfl

set_option maxRecDepth 8000 in
set_option maxHeartbeats 4000000 in
theorem c_ini6_6 {G : Gt} (hG : Gok G) {I : It} {h : Ht}  {q : Nat} {i v r p c n : Int32} (hq : q < hn h) (hcl : (hs h q).1 = 6) : Con G (4) 0 0 mX6_init [.ref q, .int i, .int v, .int r, .int p, .int c, .int n] I h (rV (dI I q i v r p c n) h) := by
  refine con_intro (own := RX6) (lo0 := [some (.ref q), some (.int i), some (.int v), some (.int r), some (.int p), some (.int c), some (.int n)]) hG rfl pl_X6 (Nat.le_of_ble_eq_true rfl) rfl (fun X hX => ?_)
  refine g_aload_0 hX (dk DX6_init 0 rfl) ?_
  refine g_iload_1 hX (dk DX6_init 1 rfl) ?_
  refine g_iload_2 hX (dk DX6_init 2 rfl) ?_
  refine g_iload_3 hX (dk DX6_init 3 rfl) ?_
  refine g_iload_4 hX (dk DX6_init 4 rfl) ?_
  refine g_iload_5 hX (dk DX6_init 5 rfl) ?_
  refine g_iload_6 hX (dk DX6_init 6 rfl) ?_
  refine g_c7V hX sX6_init_10 (by decide) (Nat.le_of_ble_eq_true rfl) (rc0 rfl hq hcl) (by decide) (by decide) (c_ini2_6 hG hq hcl) ?_
  refine g_return hX (dk DX6_init 8 rfl) rfl (by decide) (by decide) ?_
  exact rV_of rfl rfl

set_option maxRecDepth 8000 in
set_option maxHeartbeats 4000000 in
theorem c_ini1_8 {G : Gt} (hG : Gok G) {I : It} {h : Ht}  {q : Nat} {i v r p c n : Int32} (hq : q < hn h) (hcl : (hs h q).1 = 8) : Con G (2) 0 0 mX1_init [.ref q, .int i, .int v, .int r, .int p, .int c, .int n] I h (rV (dI I q i v r p c n) h) := by
  refine con_intro (own := RX1) (lo0 := [some (.ref q), some (.int i), some (.int v), some (.int r), some (.int p), some (.int c), some (.int n)]) hG rfl pl_X1 (Nat.le_of_ble_eq_true rfl) rfl (fun X hX => ?_)
  refine g_aload_0 hX (dk DX1_init 0 rfl) ?_
  refine g_objInit hX (dk DX1_init 1 rfl) (tg_2 43 rfl rfl) (tg_1 24 rfl rfl) (tg_1 25 rfl rfl) (by decide) (by decide) ?_
  refine g_aload_0 hX (dk DX1_init 2 rfl) ?_
  refine g_iload_1 hX (dk DX1_init 3 rfl) ?_
  refine g_putI hX (dk DX1_init 4 rfl) KX8 fX1_9 (by decide) rfl hq hcl (Or.inr ⟨rfl, rfl, rfl⟩) (rfl) (rfl) ?_
  refine g_aload_0 hX (dk DX1_init 5 rfl) ?_
  refine g_iload_2 hX (dk DX1_init 6 rfl) ?_
  refine g_putI hX (dk DX1_init 7 rfl) KX8 fX1_15 (by decide) rfl hq hcl (Or.inr ⟨rfl, rfl, rfl⟩) (rfl) (rfl) ?_
  refine g_aload_0 hX (dk DX1_init 8 rfl) ?_
  refine g_iconst (v := 1) hX (dk DX1_init 9 rfl) (by decide) ?_
  refine g_iload_3 hX (dk DX1_init 10 rfl) ?_
  refine g_c2I hX sX1_init_17 (by decide) (Nat.le_of_ble_eq_true rfl) rcN (by decide) (by decide) (c_J9_max_7cf53 hG) ?_
  refine g_putI hX (dk DX1_init 12 rfl) KX8 fX1_24 (by decide) rfl hq hcl (Or.inr ⟨rfl, rfl, rfl⟩) (rfl) (rfl) ?_
  refine g_aload_0 hX (dk DX1_init 13 rfl) ?_
  refine g_iload_4 hX (dk DX1_init 14 rfl) ?_
  refine g_putI hX (dk DX1_init 15 rfl) KX8 fX1_27 (by decide) rfl hq hcl (Or.inr ⟨rfl, rfl, rfl⟩) (rfl) (rfl) ?_
  refine g_aload_0 hX (dk DX1_init 16 rfl) ?_
  refine g_iload_5 hX (dk DX1_init 17 rfl) ?_
  refine g_putI hX (dk DX1_init 18 rfl) KX8 fX1_30 (by decide) rfl hq hcl (Or.inr ⟨rfl, rfl, rfl⟩) (rfl) (rfl) ?_
  refine g_aload_0 hX (dk DX1_init 19 rfl) ?_
  refine g_iload_6 hX (dk DX1_init 20 rfl) ?_
  refine g_putI hX (dk DX1_init 21 rfl) KX8 fX1_33 (by decide) rfl hq hcl (Or.inr ⟨rfl, rfl, rfl⟩) (rfl) (rfl) ?_
  refine g_return hX (dk DX1_init 22 rfl) rfl (by decide) (by decide) ?_
  exact rV_of rfl rfl

set_option maxRecDepth 8000 in
set_option maxHeartbeats 4000000 in
theorem c_ini9_8 {G : Gt} (hG : Gok G) {I : It} {h : Ht}  {q : Nat} {i v r p c n : Int32} (hq : q < hn h) (hcl : (hs h q).1 = 8) : Con G (3) 0 0 mX9_init [.ref q, .int i, .int v, .int r, .int p, .int c, .int n] I h (rV (dI I q i v r p c n) h) := by
  refine con_intro (own := RX9) (lo0 := [some (.ref q), some (.int i), some (.int v), some (.int r), some (.int p), some (.int c), some (.int n)]) hG rfl pl_X9 (Nat.le_of_ble_eq_true rfl) rfl (fun X hX => ?_)
  refine g_aload_0 hX (dk DX9_init 0 rfl) ?_
  refine g_iload_1 hX (dk DX9_init 1 rfl) ?_
  refine g_iload_2 hX (dk DX9_init 2 rfl) ?_
  refine g_iload_3 hX (dk DX9_init 3 rfl) ?_
  refine g_iload_4 hX (dk DX9_init 4 rfl) ?_
  refine g_iload_5 hX (dk DX9_init 5 rfl) ?_
  refine g_iload_6 hX (dk DX9_init 6 rfl) ?_
  refine g_c7V hX sX9_init_10 (by decide) (Nat.le_of_ble_eq_true rfl) (rc0 rfl hq hcl) (by decide) (by decide) (c_ini1_8 hG hq hcl) ?_
  refine g_return hX (dk DX9_init 8 rfl) rfl (by decide) (by decide) ?_
  exact rV_of rfl rfl

set_option maxRecDepth 8000 in
set_option maxHeartbeats 4000000 in
theorem c_ini8_8 {G : Gt} (hG : Gok G) {I : It} {h : Ht}  {q : Nat} {i v r p c n : Int32} (hq : q < hn h) (hcl : (hs h q).1 = 8) : Con G (4) 0 0 mX8_init [.ref q, .int i, .int v, .int r, .int p, .int c, .int n] I h (rV (dI I q i v r p c n) h) := by
  refine con_intro (own := RX8) (lo0 := [some (.ref q), some (.int i), some (.int v), some (.int r), some (.int p), some (.int c), some (.int n)]) hG rfl pl_X8 (Nat.le_of_ble_eq_true rfl) rfl (fun X hX => ?_)
  refine g_aload_0 hX (dk DX8_init 0 rfl) ?_
  refine g_iload_1 hX (dk DX8_init 1 rfl) ?_
  refine g_iload_2 hX (dk DX8_init 2 rfl) ?_
  refine g_iload_3 hX (dk DX8_init 3 rfl) ?_
  refine g_iload_4 hX (dk DX8_init 4 rfl) ?_
  refine g_iload_5 hX (dk DX8_init 5 rfl) ?_
  refine g_iload_6 hX (dk DX8_init 6 rfl) ?_
  refine g_c7V hX sX8_init_10 (by decide) (Nat.le_of_ble_eq_true rfl) (rc0 rfl hq hcl) (by decide) (by decide) (c_ini9_8 hG hq hcl) ?_
  refine g_return hX (dk DX8_init 8 rfl) rfl (by decide) (by decide) ?_
  exact rV_of rfl rfl

set_option maxRecDepth 8000 in
set_option maxHeartbeats 4000000 in
theorem c_ini1_9 {G : Gt} (hG : Gok G) {I : It} {h : Ht}  {q : Nat} {i v r p c n : Int32} (hq : q < hn h) (hcl : (hs h q).1 = 9) : Con G (2) 0 0 mX1_init [.ref q, .int i, .int v, .int r, .int p, .int c, .int n] I h (rV (dI I q i v r p c n) h) := by
  refine con_intro (own := RX1) (lo0 := [some (.ref q), some (.int i), some (.int v), some (.int r), some (.int p), some (.int c), some (.int n)]) hG rfl pl_X1 (Nat.le_of_ble_eq_true rfl) rfl (fun X hX => ?_)
  refine g_aload_0 hX (dk DX1_init 0 rfl) ?_
  refine g_objInit hX (dk DX1_init 1 rfl) (tg_2 43 rfl rfl) (tg_1 24 rfl rfl) (tg_1 25 rfl rfl) (by decide) (by decide) ?_
  refine g_aload_0 hX (dk DX1_init 2 rfl) ?_
  refine g_iload_1 hX (dk DX1_init 3 rfl) ?_
  refine g_putI hX (dk DX1_init 4 rfl) KX9 fX1_9 (by decide) rfl hq hcl (Or.inr ⟨rfl, rfl, rfl⟩) (rfl) (rfl) ?_
  refine g_aload_0 hX (dk DX1_init 5 rfl) ?_
  refine g_iload_2 hX (dk DX1_init 6 rfl) ?_
  refine g_putI hX (dk DX1_init 7 rfl) KX9 fX1_15 (by decide) rfl hq hcl (Or.inr ⟨rfl, rfl, rfl⟩) (rfl) (rfl) ?_
  refine g_aload_0 hX (dk DX1_init 8 rfl) ?_
  refine g_iconst (v := 1) hX (dk DX1_init 9 rfl) (by decide) ?_
  refine g_iload_3 hX (dk DX1_init 10 rfl) ?_
  refine g_c2I hX sX1_init_17 (by decide) (Nat.le_of_ble_eq_true rfl) rcN (by decide) (by decide) (c_J9_max_7cf53 hG) ?_
  refine g_putI hX (dk DX1_init 12 rfl) KX9 fX1_24 (by decide) rfl hq hcl (Or.inr ⟨rfl, rfl, rfl⟩) (rfl) (rfl) ?_
  refine g_aload_0 hX (dk DX1_init 13 rfl) ?_
  refine g_iload_4 hX (dk DX1_init 14 rfl) ?_
  refine g_putI hX (dk DX1_init 15 rfl) KX9 fX1_27 (by decide) rfl hq hcl (Or.inr ⟨rfl, rfl, rfl⟩) (rfl) (rfl) ?_
  refine g_aload_0 hX (dk DX1_init 16 rfl) ?_
  refine g_iload_5 hX (dk DX1_init 17 rfl) ?_
  refine g_putI hX (dk DX1_init 18 rfl) KX9 fX1_30 (by decide) rfl hq hcl (Or.inr ⟨rfl, rfl, rfl⟩) (rfl) (rfl) ?_
  refine g_aload_0 hX (dk DX1_init 19 rfl) ?_
  refine g_iload_6 hX (dk DX1_init 20 rfl) ?_
  refine g_putI hX (dk DX1_init 21 rfl) KX9 fX1_33 (by decide) rfl hq hcl (Or.inr ⟨rfl, rfl, rfl⟩) (rfl) (rfl) ?_
  refine g_return hX (dk DX1_init 22 rfl) rfl (by decide) (by decide) ?_
  exact rV_of rfl rfl

set_option maxRecDepth 8000 in
set_option maxHeartbeats 4000000 in
theorem c_ini9_9 {G : Gt} (hG : Gok G) {I : It} {h : Ht}  {q : Nat} {i v r p c n : Int32} (hq : q < hn h) (hcl : (hs h q).1 = 9) : Con G (3) 0 0 mX9_init [.ref q, .int i, .int v, .int r, .int p, .int c, .int n] I h (rV (dI I q i v r p c n) h) := by
  refine con_intro (own := RX9) (lo0 := [some (.ref q), some (.int i), some (.int v), some (.int r), some (.int p), some (.int c), some (.int n)]) hG rfl pl_X9 (Nat.le_of_ble_eq_true rfl) rfl (fun X hX => ?_)
  refine g_aload_0 hX (dk DX9_init 0 rfl) ?_
  refine g_iload_1 hX (dk DX9_init 1 rfl) ?_
  refine g_iload_2 hX (dk DX9_init 2 rfl) ?_
  refine g_iload_3 hX (dk DX9_init 3 rfl) ?_
  refine g_iload_4 hX (dk DX9_init 4 rfl) ?_
  refine g_iload_5 hX (dk DX9_init 5 rfl) ?_
  refine g_iload_6 hX (dk DX9_init 6 rfl) ?_
  refine g_c7V hX sX9_init_10 (by decide) (Nat.le_of_ble_eq_true rfl) (rc0 rfl hq hcl) (by decide) (by decide) (c_ini1_9 hG hq hcl) ?_
  refine g_return hX (dk DX9_init 8 rfl) rfl (by decide) (by decide) ?_
  exact rV_of rfl rfl

set_option maxRecDepth 8000 in
set_option maxHeartbeats 4000000 in
theorem c_ini1_10 {G : Gt} (hG : Gok G) {I : It} {h : Ht}  {q : Nat} {i v r p c n : Int32} (hq : q < hn h) (hcl : (hs h q).1 = 10) : Con G (2) 0 0 mX1_init [.ref q, .int i, .int v, .int r, .int p, .int c, .int n] I h (rV (dI I q i v r p c n) h) := by
  refine con_intro (own := RX1) (lo0 := [some (.ref q), some (.int i), some (.int v), some (.int r), some (.int p), some (.int c), some (.int n)]) hG rfl pl_X1 (Nat.le_of_ble_eq_true rfl) rfl (fun X hX => ?_)
  refine g_aload_0 hX (dk DX1_init 0 rfl) ?_
  refine g_objInit hX (dk DX1_init 1 rfl) (tg_2 43 rfl rfl) (tg_1 24 rfl rfl) (tg_1 25 rfl rfl) (by decide) (by decide) ?_
  refine g_aload_0 hX (dk DX1_init 2 rfl) ?_
  refine g_iload_1 hX (dk DX1_init 3 rfl) ?_
  refine g_putI hX (dk DX1_init 4 rfl) KX10 fX1_9 (by decide) rfl hq hcl (Or.inr ⟨rfl, rfl, rfl⟩) (rfl) (rfl) ?_
  refine g_aload_0 hX (dk DX1_init 5 rfl) ?_
  refine g_iload_2 hX (dk DX1_init 6 rfl) ?_
  refine g_putI hX (dk DX1_init 7 rfl) KX10 fX1_15 (by decide) rfl hq hcl (Or.inr ⟨rfl, rfl, rfl⟩) (rfl) (rfl) ?_
  refine g_aload_0 hX (dk DX1_init 8 rfl) ?_
  refine g_iconst (v := 1) hX (dk DX1_init 9 rfl) (by decide) ?_
  refine g_iload_3 hX (dk DX1_init 10 rfl) ?_
  refine g_c2I hX sX1_init_17 (by decide) (Nat.le_of_ble_eq_true rfl) rcN (by decide) (by decide) (c_J9_max_7cf53 hG) ?_
  refine g_putI hX (dk DX1_init 12 rfl) KX10 fX1_24 (by decide) rfl hq hcl (Or.inr ⟨rfl, rfl, rfl⟩) (rfl) (rfl) ?_
  refine g_aload_0 hX (dk DX1_init 13 rfl) ?_
  refine g_iload_4 hX (dk DX1_init 14 rfl) ?_
  refine g_putI hX (dk DX1_init 15 rfl) KX10 fX1_27 (by decide) rfl hq hcl (Or.inr ⟨rfl, rfl, rfl⟩) (rfl) (rfl) ?_
  refine g_aload_0 hX (dk DX1_init 16 rfl) ?_
  refine g_iload_5 hX (dk DX1_init 17 rfl) ?_
  refine g_putI hX (dk DX1_init 18 rfl) KX10 fX1_30 (by decide) rfl hq hcl (Or.inr ⟨rfl, rfl, rfl⟩) (rfl) (rfl) ?_
  refine g_aload_0 hX (dk DX1_init 19 rfl) ?_
  refine g_iload_6 hX (dk DX1_init 20 rfl) ?_
  refine g_putI hX (dk DX1_init 21 rfl) KX10 fX1_33 (by decide) rfl hq hcl (Or.inr ⟨rfl, rfl, rfl⟩) (rfl) (rfl) ?_
  refine g_return hX (dk DX1_init 22 rfl) rfl (by decide) (by decide) ?_
  exact rV_of rfl rfl

set_option maxRecDepth 8000 in
set_option maxHeartbeats 4000000 in
theorem c_ini4_10 {G : Gt} (hG : Gok G) {I : It} {h : Ht}  {q : Nat} {i v r p c n : Int32} (hq : q < hn h) (hcl : (hs h q).1 = 10) : Con G (3) 0 0 mX4_init [.ref q, .int i, .int v, .int r, .int p, .int c, .int n] I h (rV (dI I q i v r p c n) h) := by
  refine con_intro (own := RX4) (lo0 := [some (.ref q), some (.int i), some (.int v), some (.int r), some (.int p), some (.int c), some (.int n)]) hG rfl pl_X4 (Nat.le_of_ble_eq_true rfl) rfl (fun X hX => ?_)
  refine g_aload_0 hX (dk DX4_init 0 rfl) ?_
  refine g_iload_1 hX (dk DX4_init 1 rfl) ?_
  refine g_iload_2 hX (dk DX4_init 2 rfl) ?_
  refine g_iload_3 hX (dk DX4_init 3 rfl) ?_
  refine g_iload_4 hX (dk DX4_init 4 rfl) ?_
  refine g_iload_5 hX (dk DX4_init 5 rfl) ?_
  refine g_iload_6 hX (dk DX4_init 6 rfl) ?_
  refine g_c7V hX sX4_init_10 (by decide) (Nat.le_of_ble_eq_true rfl) (rc0 rfl hq hcl) (by decide) (by decide) (c_ini1_10 hG hq hcl) ?_
  refine g_return hX (dk DX4_init 8 rfl) rfl (by decide) (by decide) ?_
  exact rV_of rfl rfl

set_option maxRecDepth 8000 in
set_option maxHeartbeats 4000000 in
theorem c_ini10_10 {G : Gt} (hG : Gok G) {I : It} {h : Ht}  {q : Nat} {i v r p c n : Int32} (hq : q < hn h) (hcl : (hs h q).1 = 10) : Con G (4) 0 0 mX10_init [.ref q, .int i, .int v, .int r, .int p, .int c, .int n] I h (rV (dI I q i v r p c n) h) := by
  refine con_intro (own := RX10) (lo0 := [some (.ref q), some (.int i), some (.int v), some (.int r), some (.int p), some (.int c), some (.int n)]) hG rfl pl_X10 (Nat.le_of_ble_eq_true rfl) rfl (fun X hX => ?_)
  refine g_aload_0 hX (dk DX10_init 0 rfl) ?_
  refine g_iload_1 hX (dk DX10_init 1 rfl) ?_
  refine g_iload_2 hX (dk DX10_init 2 rfl) ?_
  refine g_iload_3 hX (dk DX10_init 3 rfl) ?_
  refine g_iload_4 hX (dk DX10_init 4 rfl) ?_
  refine g_iload_5 hX (dk DX10_init 5 rfl) ?_
  refine g_iload_6 hX (dk DX10_init 6 rfl) ?_
  refine g_c7V hX sX10_init_10 (by decide) (Nat.le_of_ble_eq_true rfl) (rc0 rfl hq hcl) (by decide) (by decide) (c_ini4_10 hG hq hcl) ?_
  refine g_return hX (dk DX10_init 8 rfl) rfl (by decide) (by decide) ?_
  exact rV_of rfl rfl

def kcl (k : Int32) : Nat := if k = 1 then 9 else if k = 2 then 2 else if k = 3 then 4 else if k = 4 then 8 else if k = 5 then 6 else if k = 6 then 10 else 1
theorem kcl_dc (k : Int32) : isDC (kcl k) := by
  unfold kcl isDC
  split <;> (try split) <;> (try split) <;> (try split) <;> (try split) <;> (try split) <;> simp
set_option maxRecDepth 8000 in
set_option maxHeartbeats 4000000 in
theorem c_X11_made {G : Gt} (hG : Gok G) {I : It} {h : Ht}  {k i v r p c n : Int32} (hGn : Gnew G (hn h)) : Con G (5) 1 6 mX11_made [.int k, .int i, .int v, .int r, .int p, .int c, .int n] I h (fun ro I2 h2 => ro = some (.ref (hn h)) ∧ I2 = dI (zI I (hn h)) (hn h) i v r p c n ∧ h2 = zA h (hn h) (hn h + 1) (kcl k, 0)) := by
  refine con_intro (own := RX11) (lo0 := [some (.int k), some (.int i), some (.int v), some (.int r), some (.int p), some (.int c), some (.int n)]) hG rfl pl_X11 (Nat.le_of_ble_eq_true rfl) rfl (fun X hX => ?_)
  refine g_iload_0 hX (dk DX11_made_0 0 rfl) ?_
  refine g_tswitch (dt := 142) hX [(1, 40), (2, 57), (3, 74), (4, 91), (5, 108), (6, 125)] (dk DX11_made_0 1 rfl) (by decide +kernel) ?_
  refine ⟨fun hc1 => ?_, fun hc1n => ?_⟩
  · show GG _ _ _ _ _ _ _ _ _ _ _ _ _
    refine g_nw_obj hX (hn h) (hn h + 1) rfl rfl (dk DX11_made_0 2 rfl) KX9 (by decide) (tg_2 35 rfl rfl) (tg_2 36 rfl rfl) (tg_1 9 rfl rfl) hGn (by decide) (by decide) ?_
    refine g_dup hX (dk DX11_made_0 3 rfl) rfl ?_
    refine g_iload_1 hX (dk DX11_made_0 4 rfl) ?_
    refine g_iload_2 hX (dk DX11_made_0 5 rfl) ?_
    refine g_iload_3 hX (dk DX11_made_0 6 rfl) ?_
    refine g_iload_4 hX (dk DX11_made_0 7 rfl) ?_
    refine g_iload_5 hX (dk DX11_made_0 8 rfl) ?_
    refine g_iload_6 hX (dk DX11_made_0 9 rfl) ?_
    refine g_c7V hX sX11_made_53 (by decide) (Nat.le_of_ble_eq_true rfl) (rc0 rfl (Nat.lt_succ_self _) (congrArg Prod.fst (if_pos rfl))) (by decide) (by decide) (c_ini9_9 hG (h := zA h (hn h) (hn h + 1) (9, 0)) (Nat.lt_succ_self _) (congrArg Prod.fst (if_pos rfl))) ?_
    refine g_areturn (r := some (hn h)) hX (dk DX11_made_0 11 rfl) rfl rfl (Or.inl ⟨_, rfl⟩) (by decide) (by decide) ?_
    exact ⟨rfl, rfl, by rw [hc1]; rfl⟩
  refine ⟨fun hc2 => ?_, fun hc2n => ?_⟩
  · show GG _ _ _ _ _ _ _ _ _ _ _ _ _
    refine g_nw_obj hX (hn h) (hn h + 1) rfl rfl (dk DX11_made_0 12 rfl) KX2 (by decide) (tg_2 93 rfl rfl) (tg_2 94 rfl rfl) (tg_1 11 rfl rfl) hGn (by decide) (by decide) ?_
    refine g_dup hX (dk DX11_made_0 13 rfl) rfl ?_
    refine g_iload_1 hX (dk DX11_made_0 14 rfl) ?_
    refine g_iload_2 hX (dk DX11_made_0 15 rfl) ?_
    refine g_iload_3 hX (dk DX11_made_0 16 rfl) ?_
    refine g_iload_4 hX (dk DX11_made_0 17 rfl) ?_
    refine g_iload_5 hX (dk DX11_made_0 18 rfl) ?_
    refine g_iload_6 hX (dk DX11_made_0 19 rfl) ?_
    refine g_c7V hX sX11_made_70 (by decide) (Nat.le_of_ble_eq_true rfl) (rc0 rfl (Nat.lt_succ_self _) (congrArg Prod.fst (if_pos rfl))) (by decide) (by decide) (c_ini2_2 hG (h := zA h (hn h) (hn h + 1) (2, 0)) (Nat.lt_succ_self _) (congrArg Prod.fst (if_pos rfl))) ?_
    refine g_areturn (r := some (hn h)) hX (dk DX11_made_0 21 rfl) rfl rfl (Or.inl ⟨_, rfl⟩) (by decide) (by decide) ?_
    exact ⟨rfl, rfl, by rw [hc2]; rfl⟩
  refine ⟨fun hc3 => ?_, fun hc3n => ?_⟩
  · show GG _ _ _ _ _ _ _ _ _ _ _ _ _
    refine g_nw_obj hX (hn h) (hn h + 1) rfl rfl (dk DX11_made_0 22 rfl) KX4 (by decide) (tg_2 106 rfl rfl) (tg_2 107 rfl rfl) (tg_1 12 rfl rfl) hGn (by decide) (by decide) ?_
    refine g_dup hX (dk DX11_made_0 23 rfl) rfl ?_
    refine g_iload_1 hX (dk DX11_made_0 24 rfl) ?_
    refine g_iload_2 hX (dk DX11_made_0 25 rfl) ?_
    refine g_iload_3 hX (dk DX11_made_0 26 rfl) ?_
    refine g_iload_4 hX (dk DX11_made_0 27 rfl) ?_
    refine g_iload_5 hX (dk DX11_made_0 28 rfl) ?_
    refine g_iload_6 hX (dk DX11_made_0 29 rfl) ?_
    refine g_c7V hX sX11_made_87 (by decide) (Nat.le_of_ble_eq_true rfl) (rc0 rfl (Nat.lt_succ_self _) (congrArg Prod.fst (if_pos rfl))) (by decide) (by decide) (c_ini4_4 hG (h := zA h (hn h) (hn h + 1) (4, 0)) (Nat.lt_succ_self _) (congrArg Prod.fst (if_pos rfl))) ?_
    refine g_areturn (r := some (hn h)) hX (dk DX11_made_0 31 rfl) rfl rfl (Or.inl ⟨_, rfl⟩) (by decide) (by decide) ?_
    exact ⟨rfl, rfl, by rw [hc3]; rfl⟩
  refine ⟨fun hc4 => ?_, fun hc4n => ?_⟩
  · show GG _ _ _ _ _ _ _ _ _ _ _ _ _
    refine g_nw_obj hX (hn h) (hn h + 1) rfl rfl (dk DX11_made_0 32 rfl) KX8 (by decide) (tg_2 119 rfl rfl) (tg_2 120 rfl rfl) (tg_1 13 rfl rfl) hGn (by decide) (by decide) ?_
    refine g_dup hX (dk DX11_made_0 33 rfl) rfl ?_
    refine g_iload_1 hX (dk DX11_made_0 34 rfl) ?_
    refine g_iload_2 hX (dk DX11_made_0 35 rfl) ?_
    refine g_iload_3 hX (dk DX11_made_0 36 rfl) ?_
    refine g_iload_4 hX (dk DX11_made_0 37 rfl) ?_
    refine g_iload_5 hX (dk DX11_made_0 38 rfl) ?_
    refine g_iload_6 hX (dk DX11_made_0 39 rfl) ?_
    refine g_c7V hX sX11_made_104 (by decide) (Nat.le_of_ble_eq_true rfl) (rc0 rfl (Nat.lt_succ_self _) (congrArg Prod.fst (if_pos rfl))) (by decide) (by decide) (c_ini8_8 hG (h := zA h (hn h) (hn h + 1) (8, 0)) (Nat.lt_succ_self _) (congrArg Prod.fst (if_pos rfl))) ?_
    refine g_areturn (r := some (hn h)) hX (dk DX11_made_0 41 rfl) rfl rfl (Or.inl ⟨_, rfl⟩) (by decide) (by decide) ?_
    exact ⟨rfl, rfl, by rw [hc4]; rfl⟩
  refine ⟨fun hc5 => ?_, fun hc5n => ?_⟩
  · show GG _ _ _ _ _ _ _ _ _ _ _ _ _
    refine g_nw_obj hX (hn h) (hn h + 1) rfl rfl (dk DX11_made_0 42 rfl) KX6 (by decide) (tg_2 132 rfl rfl) (tg_2 133 rfl rfl) (tg_1 14 rfl rfl) hGn (by decide) (by decide) ?_
    refine g_dup hX (dk DX11_made_0 43 rfl) rfl ?_
    refine g_iload_1 hX (dk DX11_made_0 44 rfl) ?_
    refine g_iload_2 hX (dk DX11_made_0 45 rfl) ?_
    refine g_iload_3 hX (dk DX11_made_0 46 rfl) ?_
    refine g_iload_4 hX (dk DX11_made_0 47 rfl) ?_
    refine g_iload_5 hX (dk DX11_made_0 48 rfl) ?_
    refine g_iload_6 hX (dk DX11_made_0 49 rfl) ?_
    refine g_c7V hX sX11_made_121 (by decide) (Nat.le_of_ble_eq_true rfl) (rc0 rfl (Nat.lt_succ_self _) (congrArg Prod.fst (if_pos rfl))) (by decide) (by decide) (c_ini6_6 hG (h := zA h (hn h) (hn h + 1) (6, 0)) (Nat.lt_succ_self _) (congrArg Prod.fst (if_pos rfl))) ?_
    refine g_areturn (r := some (hn h)) hX (dk DX11_made_0 51 rfl) rfl rfl (Or.inl ⟨_, rfl⟩) (by decide) (by decide) ?_
    exact ⟨rfl, rfl, by rw [hc5]; rfl⟩
  refine ⟨fun hc6 => ?_, fun hc6n => ?_⟩
  · show GG _ _ _ _ _ _ _ _ _ _ _ _ _
    refine g_nw_obj hX (hn h) (hn h + 1) rfl rfl (dk DX11_made_0 52 rfl) KX10 (by decide) (tg_2 145 rfl rfl) (tg_2 146 rfl rfl) (tg_1 15 rfl rfl) hGn (by decide) (by decide) ?_
    refine g_dup hX (dk DX11_made_0 53 rfl) rfl ?_
    refine g_iload_1 hX (dk DX11_made_0 54 rfl) ?_
    refine g_iload_2 hX (dk DX11_made_0 55 rfl) ?_
    refine g_iload_3 hX (dk DX11_made_0 56 rfl) ?_
    refine g_iload_4 hX (dk DX11_made_0 57 rfl) ?_
    refine g_iload_5 hX (dk DX11_made_0 58 rfl) ?_
    refine g_iload_6 hX (dk DX11_made_0 59 rfl) ?_
    refine g_c7V hX sX11_made_138 (by decide) (Nat.le_of_ble_eq_true rfl) (rc0 rfl (Nat.lt_succ_self _) (congrArg Prod.fst (if_pos rfl))) (by decide) (by decide) (c_ini10_10 hG (h := zA h (hn h) (hn h + 1) (10, 0)) (Nat.lt_succ_self _) (congrArg Prod.fst (if_pos rfl))) ?_
    refine g_areturn (r := some (hn h)) hX (dk DX11_made_1 1 rfl) rfl rfl (Or.inl ⟨_, rfl⟩) (by decide) (by decide) ?_
    exact ⟨rfl, rfl, by rw [hc6]; rfl⟩
  show GG _ _ _ _ _ _ _ _ _ _ _ _ _
  refine g_nw_obj hX (hn h) (hn h + 1) rfl rfl (dk DX11_made_1 2 rfl) KX1 (by decide) (tg_2 158 rfl rfl) (tg_2 159 rfl rfl) (tg_1 8 rfl rfl) hGn (by decide) (by decide) ?_
  refine g_dup hX (dk DX11_made_1 3 rfl) rfl ?_
  refine g_iload_1 hX (dk DX11_made_1 4 rfl) ?_
  refine g_iload_2 hX (dk DX11_made_1 5 rfl) ?_
  refine g_iload_3 hX (dk DX11_made_1 6 rfl) ?_
  refine g_iload_4 hX (dk DX11_made_1 7 rfl) ?_
  refine g_iload_5 hX (dk DX11_made_1 8 rfl) ?_
  refine g_iload_6 hX (dk DX11_made_1 9 rfl) ?_
  refine g_c7V hX sX11_made_155 (by decide) (Nat.le_of_ble_eq_true rfl) (rc0 rfl (Nat.lt_succ_self _) (congrArg Prod.fst (if_pos rfl))) (by decide) (by decide) (c_ini1_1 hG (h := zA h (hn h) (hn h + 1) (1, 0)) (Nat.lt_succ_self _) (congrArg Prod.fst (if_pos rfl))) ?_
  refine g_areturn (r := some (hn h)) hX (dk DX11_made_1 11 rfl) rfl rfl (Or.inl ⟨_, rfl⟩) (by decide) (by decide) ?_
  exact ⟨rfl, rfl, by unfold kcl; rw [if_neg hc1n, if_neg hc2n, if_neg hc3n, if_neg hc4n, if_neg hc5n, if_neg hc6n]⟩
end
