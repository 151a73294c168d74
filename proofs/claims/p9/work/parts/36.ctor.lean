theorem pl_J7 : plainName RJ7 = true := by decide +kernel
set_option maxRecDepth 8000 in
set_option maxHeartbeats 4000000 in
theorem c_J7_fill_53178 {G : Gt} (hG : Gok G) {I : It} {h : Ht}  {q len : Nat} {x : Int32} (hq : q < hn h) (hsh : hs h q = (20, len)) (hl : len ≤ 10000) : Con G (1) 0 0 mJ7_fill_53178 [.ref q, .int x] I h (qV (fun I2 h2 => (∀ j, j < len → I2 q j = x) ∧ (∀ j, len ≤ j → I2 q j = I q j) ∧ (∀ a, a ≠ q → I2 a = I a) ∧ h2 = h)) := by
  refine con_intro (own := RJ7) (lo0 := [some (.ref q), some (.int x), none, none]) hG rfl pl_J7 (Nat.le_of_ble_eq_true rfl) rfl (fun X hX => ?_)
  have loop5 : ∀ (k i : Nat) (J : It), i + k = len → (∀ j, j < i → J q j = x) → (∀ j, i ≤ j → J q j = I q j) → (∀ a, a ≠ q → J a = I a) → GG G (1) 0 0 X (qV (fun I2 h2 => (∀ j, j < len → I2 q j = x) ∧ (∀ j, len ≤ j → I2 q j = I q j) ∧ (∀ a, a ≠ q → I2 a = I a) ∧ h2 = h)) 5 [some (.ref q), some (.int x), some (.int (nI i)), some (.int (nI len))] [] (J) (h) 0 0 := by
    intro k
    induction k using Nat.strongRecOn with | _ k ih => ?_
    intro i J hk h1 h2 h3
    refine g_iload_2 hX (dk DJ7_fill_53178 5 rfl) ?_
    refine g_iload_3 hX (dk DJ7_fill_53178 6 rfl) ?_
    refine g_icmp_ge (tgt := 20) hX (dk DJ7_fill_53178 7 rfl) (by decide) (fun hc1 => ?_) (fun hc1 => ?_)
    · refine g_return hX (dk DJ7_fill_53178 14 rfl) rfl (by decide) (by decide) ?_
      have hk0 := ct_end hk (by omega) hc1
      subst hk0
      exact qV_of ⟨fun j hj => h1 j (by omega), fun j hj => h2 j (by omega), h3, rfl⟩
    · obtain ⟨k, rfl⟩ := ct_go hk (by omega) hc1
      refine g_aload_0 hX (dk DJ7_fill_53178 8 rfl) ?_
      refine g_iload_2 hX (dk DJ7_fill_53178 9 rfl) ?_
      refine g_iload_1 hX (dk DJ7_fill_53178 10 rfl) ?_
      refine i_iastore hX (dk DJ7_fill_53178 11 rfl) hq hsh (⟨rfl, by omega, by omega⟩) ?_
      refine g_iinc_2 hX (dk DJ7_fill_53178 12 rfl) (nI_1 i) (by decide) rfl ?_
      refine g_goto (tgt := 5) hX (dk DJ7_fill_53178 13 rfl) (by decide) ?_
      exact ih k (by omega) (i + 1) _ (by omega) (fun j hj => by
        by_cases e : j = i
        · subst e; rw [up0]
        · rw [upn (by omega)]; exact h1 j (by omega)) (fun j hj => by rw [upn (by omega)]; exact h2 j (by omega)) (fun a ha => by rw [upI_off ha]; exact h3 a ha)
  refine g_iconst (v := 0) hX (dk DJ7_fill_53178 0 rfl) (by decide) ?_
  refine g_istore_2 hX (dk DJ7_fill_53178 1 rfl) (by decide) rfl ?_
  refine g_aload_0 hX (dk DJ7_fill_53178 2 rfl) ?_
  refine g_alen (v := nI len) hX (dk DJ7_fill_53178 3 rfl) hq hsh (by decide) (i0 := 0) rfl rfl ?_
  refine g_istore_3 hX (dk DJ7_fill_53178 4 rfl) (by decide) rfl ?_
  exact loop5 len 0 I (Nat.zero_add _) (fun j hj => absurd hj (Nat.not_lt_zero j)) (fun _ _ => rfl) (fun _ _ => rfl)

def SXL : List (Nat × Nat) := [(11, 0), (5, 0), (24, 10), (20, 10), (20, 4), (20, 12), (20, 12), (5, 0), (24, 10), (20, 10), (20, 4), (20, 12), (20, 12), (0, 0), (20, 200), (20, 600), (26, 10), (20, 4), (20, 4), (20, 4), (20, 4), (20, 4), (20, 4), (20, 4), (20, 4), (20, 4), (20, 4), (20, 200), (20, 4), (20, 4), (25, 6), (22, 100), (7, 0), (20, 20), (20, 6), (20, 6), (27, 6), (21, 60), (21, 60), (21, 60), (21, 60), (21, 60), (21, 60), (3, 0), (20, 10), (20, 10), (20, 10), (20, 100), (3, 0), (20, 10), (20, 10), (20, 10), (20, 100), (3, 0), (20, 10), (20, 10), (20, 10), (20, 100), (3, 0), (20, 10), (20, 10), (20, 10), (20, 100), (3, 0), (20, 10), (20, 10), (20, 10), (20, 100), (3, 0), (20, 10), (20, 10), (20, 10), (20, 100)]
def RXL : List ((Nat × Nat) × Nat) := [((0, 0), 1), ((0, 1), 7), ((0, 3), 13), ((0, 4), 30), ((0, 6), 31), ((0, 8), 32), ((0, 9), 34), ((0, 10), 35), ((0, 11), 36), ((1, 0), 2), ((1, 1), 3), ((1, 5), 4), ((1, 10), 5), ((1, 11), 6), ((7, 0), 8), ((7, 1), 9), ((7, 5), 10), ((7, 10), 11), ((7, 11), 12), ((13, 0), 1), ((13, 2), 14), ((13, 3), 15), ((13, 4), 16), ((13, 5), 27), ((13, 14), 28), ((13, 15), 29), ((32, 0), 33), ((16, 0), 17), ((16, 1), 18), ((16, 2), 19), ((16, 3), 20), ((16, 4), 21), ((16, 5), 22), ((16, 6), 23), ((16, 7), 24), ((16, 8), 25), ((16, 9), 26), ((30, 0), 43), ((36, 0), 37), ((43, 3), 44), ((43, 4), 45), ((43, 5), 46), ((43, 6), 47), ((43, 8), 31), ((30, 1), 48), ((36, 1), 38), ((48, 3), 49), ((48, 4), 50), ((48, 5), 51), ((48, 6), 52), ((48, 8), 31), ((30, 2), 53), ((36, 2), 39), ((53, 3), 54), ((53, 4), 55), ((53, 5), 56), ((53, 6), 57), ((53, 8), 31), ((30, 3), 58), ((36, 3), 40), ((58, 3), 59), ((58, 4), 60), ((58, 5), 61), ((58, 6), 62), ((58, 8), 31), ((30, 4), 63), ((36, 4), 41), ((63, 3), 64), ((63, 4), 65), ((63, 5), 66), ((63, 6), 67), ((63, 8), 31), ((30, 5), 68), ((36, 5), 42), ((68, 3), 69), ((68, 4), 70), ((68, 5), 71), ((68, 6), 72), ((68, 8), 31)]
/-- the class's cells as they are made, before any DOING -/
def HX0 (h : Ht) : Prop := hn h = 73 ∧ (∀ q, q < 73 → hs h q = SXL.getD q (0, 0)) ∧ (∀ x, x ∈ RXL → hR h x.1.1 x.1.2 = some x.2) ∧ (∀ j, j < 10 → hR h 2 j = none ∧ hR h 8 j = none) ∧ (hR h 1 13 = none ∧ hR h 7 13 = none) ∧ ∀ q, 37 ≤ q → q < 43 → ∀ j, hL h q j = 0
def IX0 (I : It) : Prop := (∀ q, q < 73 → q ≠ 34 → ∀ j, I q j = 0) ∧ ∀ j, j < 6 → I 34 j = -1
theorem ax_0 {P : (Nat × Nat) × Nat → Prop} : ∀ j, j ∈ ([] : List ((Nat × Nat) × Nat)) → P j := fun j hj => absurd hj (List.not_mem_nil)
theorem ax_s {P : (Nat × Nat) × Nat → Prop} {a : (Nat × Nat) × Nat} {l : List ((Nat × Nat) × Nat)} (hn : P a) (h : ∀ j, j ∈ l → P j) : ∀ j, j ∈ a :: l → P j := fun j hj => by
  rcases List.mem_cons.mp hj with rfl | z
  · exact hn
  · exact h j z
set_option maxRecDepth 8000 in
set_option maxHeartbeats 4000000 in
theorem c_X11_init {G : Gt} (hG : Gok G) {I : It} {h : Ht}  (hGn : ∀ b, 1 ≤ b → b < 73 → Gnew G b) (hI0 : ∀ j, I 0 j = 0) {L0 : Nat → Nat → Int64} {R0 : Nat → Nat → Option Nat} {S0 : Nat → Nat × Nat} (hR0 : ∀ j, R0 0 j = none) (hh : h = (L0, R0, fun q => if q = 0 then (11, 0) else S0 q, 1)) : Con G (2) 72 2556 mX11_init [.ref 0] I h (qV fun I2 h2 => IX0 I2 ∧ HX0 h2) := by
  refine con_intro (own := RX11) (lo0 := [some (.ref 0), none]) hG rfl pl_X11 (Nat.le_of_ble_eq_true rfl) rfl (fun X hX => ?_)
  subst hh
  refine g_aload_0 hX (dk DX11_init_0 0 rfl) ?_
  refine g_objInit hX (dk DX11_init_0 1 rfl) (tg_1 23 rfl rfl) (tg_1 24 rfl rfl) (tg_1 25 rfl rfl) (by decide) (by decide) ?_
  refine g_aload_0 hX (dk DX11_init_0 2 rfl) ?_
  refine g_nw_obj hX 1 2 (by first | rfl | exact hh) rfl (dk DX11_init_0 3 rfl) KX5 (by decide) (tg_1 26 rfl rfl) (tg_1 27 rfl rfl) (tg_1 2 rfl rfl) (hGn 1 (by decide) (by decide)) (by decide) (by decide) ?_
  refine g_dup hX (dk DX11_init_0 4 rfl) rfl ?_
  refine g_c1K hX sX11_init_9 (by decide) (Nat.le_of_ble_eq_true rfl) (rc0 rfl (Nat.le_of_ble_eq_true rfl) rfl) (by decide) (by decide) (c_State1 hG (fun b h1 h2 => hGn b (by omega) (by omega)) rfl rfl (Nat.le_of_ble_eq_true rfl)) ?_
  refine g_putR (r := some 1) hX (dk DX11_init_0 6 rfl) KX11 fX11_12 (by decide) rfl (Nat.le_of_ble_eq_true rfl) rfl (Or.inr ⟨rfl, rfl, rfl⟩) rfl (rfl) (rfl) ?_
  refine g_aload_0 hX (dk DX11_init_0 7 rfl) ?_
  refine g_nw_obj hX 7 8 (by first | rfl | exact hh) rfl (dk DX11_init_0 8 rfl) KX5 (by decide) (tg_1 26 rfl rfl) (tg_1 27 rfl rfl) (tg_1 2 rfl rfl) (hGn 7 (by decide) (by decide)) (by decide) (by decide) ?_
  refine g_dup hX (dk DX11_init_0 9 rfl) rfl ?_
  refine g_c1K hX sX11_init_20 (by decide) (Nat.le_of_ble_eq_true rfl) (rc0 rfl (Nat.le_of_ble_eq_true rfl) rfl) (by decide) (by decide) (c_State7 hG (fun b h1 h2 => hGn b (by omega) (by omega)) rfl rfl (Nat.le_of_ble_eq_true rfl)) ?_
  refine g_putR (r := some 7) hX (dk DX11_init_0 11 rfl) KX11 fX11_18 (by decide) rfl (Nat.le_of_ble_eq_true rfl) rfl (Or.inr ⟨rfl, rfl, rfl⟩) rfl (rfl) (rfl) ?_
  refine g_aload_0 hX (dk DX11_init_0 12 rfl) ?_
  refine g_nw_obj hX 13 14 (by first | rfl | exact hh) rfl (dk DX11_init_0 13 rfl) KX0 (by decide) (tg_1 97 rfl rfl) (tg_1 98 rfl rfl) (tg_1 3 rfl rfl) (hGn 13 (by decide) (by decide)) (by decide) (by decide) ?_
  refine g_dup hX (dk DX11_init_0 14 rfl) rfl ?_
  refine g_aload_0 hX (dk DX11_init_0 15 rfl) ?_
  refine g_getRs (r := 1) hX (dk DX11_init_0 16 rfl) KX11 fX11_12 (by decide) rfl (Nat.le_of_ble_eq_true rfl) rfl (rfl) ?_
  refine g_c2K hX sX11_init_35 (by decide) (Nat.le_of_ble_eq_true rfl) (rc0 rfl (Nat.le_of_ble_eq_true rfl) rfl) (by decide) (by decide) (c_Ahead hG (fun b h1 h2 => hGn b (by omega) (by omega)) rfl rfl (Nat.le_of_ble_eq_true rfl)) ?_
  refine g_putR (r := some 13) hX (dk DX11_init_0 18 rfl) KX11 fX11_26 (by decide) rfl (Nat.le_of_ble_eq_true rfl) rfl (Or.inr ⟨rfl, rfl, rfl⟩) rfl (rfl) (rfl) ?_
  refine g_aload_0 hX (dk DX11_init_0 19 rfl) ?_
  refine g_bipush (v := 6) hX (dk DX11_init_0 20 rfl) (by decide) ?_
  refine g_nw_ref hX 30 31 6 (by first | rfl | exact hh) rfl (dk DX11_init_0 21 rfl) (by decide) (i0 := 5) rfl (tg_1 160 rfl rfl) (fun U h => h.2.2.2.1.2) rfl (by decide) (hGn 30 (by decide) (by decide)) (by decide) (by decide) ?_
  refine g_putR (r := some 30) hX (dk DX11_init_0 22 rfl) KX11 fX11_32 (by decide) rfl (Nat.le_of_ble_eq_true rfl) rfl (Or.inr ⟨rfl, rfl, rfl⟩) rfl (rfl) (rfl) ?_
  refine g_aload_0 hX (dk DX11_init_0 23 rfl) ?_
  refine g_bipush (v := 100) hX (dk DX11_init_0 24 rfl) (by decide) ?_
  refine g_nw_byte hX 31 32 100 (by first | rfl | exact hh) rfl (dk DX11_init_0 25 rfl) (tg_1 177 rfl rfl) rfl (by decide) (hGn 31 (by decide) (by decide)) (by decide) (by decide) ?_
  refine g_putR (r := some 31) hX (dk DX11_init_0 26 rfl) KX11 fX11_36 (by decide) rfl (Nat.le_of_ble_eq_true rfl) rfl (Or.inr ⟨rfl, rfl, rfl⟩) rfl (rfl) (rfl) ?_
  refine g_aload_0 hX (dk DX11_init_0 27 rfl) ?_
  refine g_nw_obj hX 32 33 (by first | rfl | exact hh) rfl (dk DX11_init_0 28 rfl) KX7 (by decide) (tg_1 162 rfl rfl) (tg_1 163 rfl rfl) (tg_1 4 rfl rfl) (hGn 32 (by decide) (by decide)) (by decide) (by decide) ?_
  refine g_dup hX (dk DX11_init_0 29 rfl) rfl ?_
  refine g_c1K hX sX11_init_63 (by decide) (Nat.le_of_ble_eq_true rfl) (rc0 rfl (Nat.le_of_ble_eq_true rfl) rfl) (by decide) (by decide) (c_Trace hG (fun b h1 h2 => hGn b (by omega) (by omega)) rfl rfl (Nat.le_of_ble_eq_true rfl)) ?_
  refine g_putR (r := some 32) hX (dk DX11_init_0 31 rfl) KX11 fX11_43 (by decide) rfl (Nat.le_of_ble_eq_true rfl) rfl (Or.inr ⟨rfl, rfl, rfl⟩) rfl (rfl) (rfl) ?_
  refine g_aload_0 hX (dk DX11_init_0 32 rfl) ?_
  refine g_bipush (v := 6) hX (dk DX11_init_0 33 rfl) (by decide) ?_
  refine g_nw_int hX 34 35 6 (by first | rfl | exact hh) rfl (dk DX11_init_0 34 rfl) (tg_1 96 rfl rfl) rfl (by decide) (hGn 34 (by decide) (by decide)) (by decide) (by decide) ?_
  refine g_putR (r := some 34) hX (dk DX11_init_0 35 rfl) KX11 fX11_47 (by decide) rfl (Nat.le_of_ble_eq_true rfl) rfl (Or.inr ⟨rfl, rfl, rfl⟩) rfl (rfl) (rfl) ?_
  refine g_aload_0 hX (dk DX11_init_0 36 rfl) ?_
  refine g_bipush (v := 6) hX (dk DX11_init_0 37 rfl) (by decide) ?_
  refine g_nw_int hX 35 36 6 (by first | rfl | exact hh) rfl (dk DX11_init_0 38 rfl) (tg_1 96 rfl rfl) rfl (by decide) (hGn 35 (by decide) (by decide)) (by decide) (by decide) ?_
  refine g_putR (r := some 35) hX (dk DX11_init_0 39 rfl) KX11 fX11_51 (by decide) rfl (Nat.le_of_ble_eq_true rfl) rfl (Or.inr ⟨rfl, rfl, rfl⟩) rfl (rfl) (rfl) ?_
  refine g_aload_0 hX (dk DX11_init_0 40 rfl) ?_
  refine g_bipush (v := 6) hX (dk DX11_init_0 41 rfl) (by decide) ?_
  refine g_bipush (v := 60) hX (dk DX11_init_0 42 rfl) (by decide) ?_
  refine g_nw_multi_long hX 36 43 6 60 (by first | rfl | exact hh) rfl (dk DX11_init_0 43 rfl) (tg_1 178 rfl rfl) (tg_1 227 rfl rfl) rfl rfl (by decide) (by decide) (fun j hj => hGn _ (by omega) (by omega)) (by decide) (by decide) ?_
  refine g_putR (r := some 36) hX (dk DX11_init_0 44 rfl) KX11 fX11_56 (by decide) rfl (Nat.le_of_ble_eq_true rfl) rfl (Or.inr ⟨rfl, rfl, rfl⟩) rfl (rfl) (rfl) ?_
  refine g_aload_0 hX (dk DX11_init_0 45 rfl) ?_
  refine g_getRs (r := 34) hX (dk DX11_init_0 46 rfl) KX11 fX11_47 (by decide) rfl (Nat.le_of_ble_eq_true rfl) rfl (rfl) ?_
  refine g_iconst (v := -1) hX (dk DX11_init_0 47 rfl) (by decide) ?_
  refine g_c2v hX sX11_init_102 (by decide) (Nat.le_of_ble_eq_true rfl) rcN (by decide) (by decide) (c_J7_fill_53178 hG (len := 6) (Nat.le_of_ble_eq_true rfl) rfl (by decide)) ?_
  rintro J2 _ ⟨hf1, hf2, hf3, rfl⟩
  refine g_iconst (v := 0) hX (dk DX11_init_0 49 rfl) (by decide) ?_
  refine g_istore_1 hX (dk DX11_init_0 50 rfl) (by decide) rfl ?_
  refine g_iload_1 hX (dk DX11_init_0 51 rfl) ?_
  refine g_aload_0 hX (dk DX11_init_0 52 rfl) ?_
  refine g_getRs (r := 30) hX (dk DX11_init_0 53 rfl) KX11 fX11_32 (by decide) rfl (Nat.le_of_ble_eq_true rfl) rfl (rfl) ?_
  refine g_alen (v := 6) hX (dk DX11_init_0 54 rfl) (Nat.le_of_ble_eq_true rfl) rfl (by decide) (i0 := 5) rfl (by decide) ?_
  refine g_icmp_ge (tgt := 139) hX (dk DX11_init_0 55 rfl) (by decide) (fun hc1 => absurd hc1 (by decide)) (fun hc1 => ?_)
  refine g_aload_0 hX (dk DX11_init_0 56 rfl) ?_
  refine g_getRs (r := 30) hX (dk DX11_init_0 57 rfl) KX11 fX11_32 (by decide) rfl (Nat.le_of_ble_eq_true rfl) rfl (rfl) ?_
  refine g_iload_1 hX (dk DX11_init_0 58 rfl) ?_
  refine g_nw_obj hX 43 44 (by first | rfl | exact hh) rfl (dk DX11_init_0 59 rfl) KX3 (by decide) (tg_1 160 rfl rfl) (tg_1 183 rfl rfl) (tg_1 6 rfl rfl) (hGn 43 (by decide) (by decide)) (by decide) (by decide) ?_
  refine g_dup hX (dk DX11_init_1 0 rfl) rfl ?_
  refine g_aload_0 hX (dk DX11_init_1 1 rfl) ?_
  refine g_getRs (r := 31) hX (dk DX11_init_1 2 rfl) KX11 fX11_36 (by decide) rfl (Nat.le_of_ble_eq_true rfl) rfl (rfl) ?_
  refine g_c2K hX sX11_init_129 (by decide) (Nat.le_of_ble_eq_true rfl) (rc0 rfl (Nat.le_of_ble_eq_true rfl) rfl) (by decide) (by decide) (c_Post0 hG (fun b h1 h2 => hGn b (by omega) (by omega)) rfl rfl (Nat.le_of_ble_eq_true rfl)) ?_
  refine i_aastore (j := 0) hX (dk DX11_init_1 4 rfl) (Nat.le_of_ble_eq_true rfl) rfl (by decide) (i0 := 5) rfl ⟨rfl, by decide, by decide⟩ (Nat.le_of_ble_eq_true rfl) rfl KX3 (Or.inl rfl) ?_
  refine g_iinc_1 (v := 1) hX (dk DX11_init_1 5 rfl) (by decide) (by decide) rfl ?_
  refine g_goto (tgt := 107) hX (dk DX11_init_1 6 rfl) (by decide) ?_
  refine g_iload_1 hX (dk DX11_init_0 51 rfl) ?_
  refine g_aload_0 hX (dk DX11_init_0 52 rfl) ?_
  refine g_getRs (r := 30) hX (dk DX11_init_0 53 rfl) KX11 fX11_32 (by decide) rfl (Nat.le_of_ble_eq_true rfl) rfl (rfl) ?_
  refine g_alen (v := 6) hX (dk DX11_init_0 54 rfl) (Nat.le_of_ble_eq_true rfl) rfl (by decide) (i0 := 5) rfl (by decide) ?_
  refine g_icmp_ge (tgt := 139) hX (dk DX11_init_0 55 rfl) (by decide) (fun hc2 => absurd hc2 (by decide)) (fun hc2 => ?_)
  refine g_aload_0 hX (dk DX11_init_0 56 rfl) ?_
  refine g_getRs (r := 30) hX (dk DX11_init_0 57 rfl) KX11 fX11_32 (by decide) rfl (Nat.le_of_ble_eq_true rfl) rfl (rfl) ?_
  refine g_iload_1 hX (dk DX11_init_0 58 rfl) ?_
  refine g_nw_obj hX 48 49 (by first | rfl | exact hh) rfl (dk DX11_init_0 59 rfl) KX3 (by decide) (tg_1 160 rfl rfl) (tg_1 183 rfl rfl) (tg_1 6 rfl rfl) (hGn 48 (by decide) (by decide)) (by decide) (by decide) ?_
  refine g_dup hX (dk DX11_init_1 0 rfl) rfl ?_
  refine g_aload_0 hX (dk DX11_init_1 1 rfl) ?_
  refine g_getRs (r := 31) hX (dk DX11_init_1 2 rfl) KX11 fX11_36 (by decide) rfl (Nat.le_of_ble_eq_true rfl) rfl (rfl) ?_
  refine g_c2K hX sX11_init_129 (by decide) (Nat.le_of_ble_eq_true rfl) (rc0 rfl (Nat.le_of_ble_eq_true rfl) rfl) (by decide) (by decide) (c_Post1 hG (fun b h1 h2 => hGn b (by omega) (by omega)) rfl rfl (Nat.le_of_ble_eq_true rfl)) ?_
  refine i_aastore (j := 1) hX (dk DX11_init_1 4 rfl) (Nat.le_of_ble_eq_true rfl) rfl (by decide) (i0 := 5) rfl ⟨rfl, by decide, by decide⟩ (Nat.le_of_ble_eq_true rfl) rfl KX3 (Or.inl rfl) ?_
  refine g_iinc_1 (v := 2) hX (dk DX11_init_1 5 rfl) (by decide) (by decide) rfl ?_
  refine g_goto (tgt := 107) hX (dk DX11_init_1 6 rfl) (by decide) ?_
  refine g_iload_1 hX (dk DX11_init_0 51 rfl) ?_
  refine g_aload_0 hX (dk DX11_init_0 52 rfl) ?_
  refine g_getRs (r := 30) hX (dk DX11_init_0 53 rfl) KX11 fX11_32 (by decide) rfl (Nat.le_of_ble_eq_true rfl) rfl (rfl) ?_
  refine g_alen (v := 6) hX (dk DX11_init_0 54 rfl) (Nat.le_of_ble_eq_true rfl) rfl (by decide) (i0 := 5) rfl (by decide) ?_
  refine g_icmp_ge (tgt := 139) hX (dk DX11_init_0 55 rfl) (by decide) (fun hc3 => absurd hc3 (by decide)) (fun hc3 => ?_)
  refine g_aload_0 hX (dk DX11_init_0 56 rfl) ?_
  refine g_getRs (r := 30) hX (dk DX11_init_0 57 rfl) KX11 fX11_32 (by decide) rfl (Nat.le_of_ble_eq_true rfl) rfl (rfl) ?_
  refine g_iload_1 hX (dk DX11_init_0 58 rfl) ?_
  refine g_nw_obj hX 53 54 (by first | rfl | exact hh) rfl (dk DX11_init_0 59 rfl) KX3 (by decide) (tg_1 160 rfl rfl) (tg_1 183 rfl rfl) (tg_1 6 rfl rfl) (hGn 53 (by decide) (by decide)) (by decide) (by decide) ?_
  refine g_dup hX (dk DX11_init_1 0 rfl) rfl ?_
  refine g_aload_0 hX (dk DX11_init_1 1 rfl) ?_
  refine g_getRs (r := 31) hX (dk DX11_init_1 2 rfl) KX11 fX11_36 (by decide) rfl (Nat.le_of_ble_eq_true rfl) rfl (rfl) ?_
  refine g_c2K hX sX11_init_129 (by decide) (Nat.le_of_ble_eq_true rfl) (rc0 rfl (Nat.le_of_ble_eq_true rfl) rfl) (by decide) (by decide) (c_Post2 hG (fun b h1 h2 => hGn b (by omega) (by omega)) rfl rfl (Nat.le_of_ble_eq_true rfl)) ?_
  refine i_aastore (j := 2) hX (dk DX11_init_1 4 rfl) (Nat.le_of_ble_eq_true rfl) rfl (by decide) (i0 := 5) rfl ⟨rfl, by decide, by decide⟩ (Nat.le_of_ble_eq_true rfl) rfl KX3 (Or.inl rfl) ?_
  refine g_iinc_1 (v := 3) hX (dk DX11_init_1 5 rfl) (by decide) (by decide) rfl ?_
  refine g_goto (tgt := 107) hX (dk DX11_init_1 6 rfl) (by decide) ?_
  refine g_iload_1 hX (dk DX11_init_0 51 rfl) ?_
  refine g_aload_0 hX (dk DX11_init_0 52 rfl) ?_
  refine g_getRs (r := 30) hX (dk DX11_init_0 53 rfl) KX11 fX11_32 (by decide) rfl (Nat.le_of_ble_eq_true rfl) rfl (rfl) ?_
  refine g_alen (v := 6) hX (dk DX11_init_0 54 rfl) (Nat.le_of_ble_eq_true rfl) rfl (by decide) (i0 := 5) rfl (by decide) ?_
  refine g_icmp_ge (tgt := 139) hX (dk DX11_init_0 55 rfl) (by decide) (fun hc4 => absurd hc4 (by decide)) (fun hc4 => ?_)
  refine g_aload_0 hX (dk DX11_init_0 56 rfl) ?_
  refine g_getRs (r := 30) hX (dk DX11_init_0 57 rfl) KX11 fX11_32 (by decide) rfl (Nat.le_of_ble_eq_true rfl) rfl (rfl) ?_
  refine g_iload_1 hX (dk DX11_init_0 58 rfl) ?_
  refine g_nw_obj hX 58 59 (by first | rfl | exact hh) rfl (dk DX11_init_0 59 rfl) KX3 (by decide) (tg_1 160 rfl rfl) (tg_1 183 rfl rfl) (tg_1 6 rfl rfl) (hGn 58 (by decide) (by decide)) (by decide) (by decide) ?_
  refine g_dup hX (dk DX11_init_1 0 rfl) rfl ?_
  refine g_aload_0 hX (dk DX11_init_1 1 rfl) ?_
  refine g_getRs (r := 31) hX (dk DX11_init_1 2 rfl) KX11 fX11_36 (by decide) rfl (Nat.le_of_ble_eq_true rfl) rfl (rfl) ?_
  refine g_c2K hX sX11_init_129 (by decide) (Nat.le_of_ble_eq_true rfl) (rc0 rfl (Nat.le_of_ble_eq_true rfl) rfl) (by decide) (by decide) (c_Post3 hG (fun b h1 h2 => hGn b (by omega) (by omega)) rfl rfl (Nat.le_of_ble_eq_true rfl)) ?_
  refine i_aastore (j := 3) hX (dk DX11_init_1 4 rfl) (Nat.le_of_ble_eq_true rfl) rfl (by decide) (i0 := 5) rfl ⟨rfl, by decide, by decide⟩ (Nat.le_of_ble_eq_true rfl) rfl KX3 (Or.inl rfl) ?_
  refine g_iinc_1 (v := 4) hX (dk DX11_init_1 5 rfl) (by decide) (by decide) rfl ?_
  refine g_goto (tgt := 107) hX (dk DX11_init_1 6 rfl) (by decide) ?_
  refine g_iload_1 hX (dk DX11_init_0 51 rfl) ?_
  refine g_aload_0 hX (dk DX11_init_0 52 rfl) ?_
  refine g_getRs (r := 30) hX (dk DX11_init_0 53 rfl) KX11 fX11_32 (by decide) rfl (Nat.le_of_ble_eq_true rfl) rfl (rfl) ?_
  refine g_alen (v := 6) hX (dk DX11_init_0 54 rfl) (Nat.le_of_ble_eq_true rfl) rfl (by decide) (i0 := 5) rfl (by decide) ?_
  refine g_icmp_ge (tgt := 139) hX (dk DX11_init_0 55 rfl) (by decide) (fun hc5 => absurd hc5 (by decide)) (fun hc5 => ?_)
  refine g_aload_0 hX (dk DX11_init_0 56 rfl) ?_
  refine g_getRs (r := 30) hX (dk DX11_init_0 57 rfl) KX11 fX11_32 (by decide) rfl (Nat.le_of_ble_eq_true rfl) rfl (rfl) ?_
  refine g_iload_1 hX (dk DX11_init_0 58 rfl) ?_
  refine g_nw_obj hX 63 64 (by first | rfl | exact hh) rfl (dk DX11_init_0 59 rfl) KX3 (by decide) (tg_1 160 rfl rfl) (tg_1 183 rfl rfl) (tg_1 6 rfl rfl) (hGn 63 (by decide) (by decide)) (by decide) (by decide) ?_
  refine g_dup hX (dk DX11_init_1 0 rfl) rfl ?_
  refine g_aload_0 hX (dk DX11_init_1 1 rfl) ?_
  refine g_getRs (r := 31) hX (dk DX11_init_1 2 rfl) KX11 fX11_36 (by decide) rfl (Nat.le_of_ble_eq_true rfl) rfl (rfl) ?_
  refine g_c2K hX sX11_init_129 (by decide) (Nat.le_of_ble_eq_true rfl) (rc0 rfl (Nat.le_of_ble_eq_true rfl) rfl) (by decide) (by decide) (c_Post4 hG (fun b h1 h2 => hGn b (by omega) (by omega)) rfl rfl (Nat.le_of_ble_eq_true rfl)) ?_
  refine i_aastore (j := 4) hX (dk DX11_init_1 4 rfl) (Nat.le_of_ble_eq_true rfl) rfl (by decide) (i0 := 5) rfl ⟨rfl, by decide, by decide⟩ (Nat.le_of_ble_eq_true rfl) rfl KX3 (Or.inl rfl) ?_
  refine g_iinc_1 (v := 5) hX (dk DX11_init_1 5 rfl) (by decide) (by decide) rfl ?_
  refine g_goto (tgt := 107) hX (dk DX11_init_1 6 rfl) (by decide) ?_
  refine g_iload_1 hX (dk DX11_init_0 51 rfl) ?_
  refine g_aload_0 hX (dk DX11_init_0 52 rfl) ?_
  refine g_getRs (r := 30) hX (dk DX11_init_0 53 rfl) KX11 fX11_32 (by decide) rfl (Nat.le_of_ble_eq_true rfl) rfl (rfl) ?_
  refine g_alen (v := 6) hX (dk DX11_init_0 54 rfl) (Nat.le_of_ble_eq_true rfl) rfl (by decide) (i0 := 5) rfl (by decide) ?_
  refine g_icmp_ge (tgt := 139) hX (dk DX11_init_0 55 rfl) (by decide) (fun hc6 => absurd hc6 (by decide)) (fun hc6 => ?_)
  refine g_aload_0 hX (dk DX11_init_0 56 rfl) ?_
  refine g_getRs (r := 30) hX (dk DX11_init_0 57 rfl) KX11 fX11_32 (by decide) rfl (Nat.le_of_ble_eq_true rfl) rfl (rfl) ?_
  refine g_iload_1 hX (dk DX11_init_0 58 rfl) ?_
  refine g_nw_obj hX 68 69 (by first | rfl | exact hh) rfl (dk DX11_init_0 59 rfl) KX3 (by decide) (tg_1 160 rfl rfl) (tg_1 183 rfl rfl) (tg_1 6 rfl rfl) (hGn 68 (by decide) (by decide)) (by decide) (by decide) ?_
  refine g_dup hX (dk DX11_init_1 0 rfl) rfl ?_
  refine g_aload_0 hX (dk DX11_init_1 1 rfl) ?_
  refine g_getRs (r := 31) hX (dk DX11_init_1 2 rfl) KX11 fX11_36 (by decide) rfl (Nat.le_of_ble_eq_true rfl) rfl (rfl) ?_
  refine g_c2K hX sX11_init_129 (by decide) (Nat.le_of_ble_eq_true rfl) (rc0 rfl (Nat.le_of_ble_eq_true rfl) rfl) (by decide) (by decide) (c_Post5 hG (fun b h1 h2 => hGn b (by omega) (by omega)) rfl rfl (Nat.le_of_ble_eq_true rfl)) ?_
  refine i_aastore (j := 5) hX (dk DX11_init_1 4 rfl) (Nat.le_of_ble_eq_true rfl) rfl (by decide) (i0 := 5) rfl ⟨rfl, by decide, by decide⟩ (Nat.le_of_ble_eq_true rfl) rfl KX3 (Or.inl rfl) ?_
  refine g_iinc_1 (v := 6) hX (dk DX11_init_1 5 rfl) (by decide) (by decide) rfl ?_
  refine g_goto (tgt := 107) hX (dk DX11_init_1 6 rfl) (by decide) ?_
  refine g_iload_1 hX (dk DX11_init_0 51 rfl) ?_
  refine g_aload_0 hX (dk DX11_init_0 52 rfl) ?_
  refine g_getRs (r := 30) hX (dk DX11_init_0 53 rfl) KX11 fX11_32 (by decide) rfl (Nat.le_of_ble_eq_true rfl) rfl (rfl) ?_
  refine g_alen (v := 6) hX (dk DX11_init_0 54 rfl) (Nat.le_of_ble_eq_true rfl) rfl (by decide) (i0 := 5) rfl (by decide) ?_
  refine g_icmp_ge (tgt := 139) hX (dk DX11_init_0 55 rfl) (by decide) (fun hc7 => ?_) (fun hc7 => absurd (by decide) hc7)
  refine g_return hX (dk DX11_init_1 7 rfl) rfl (by decide) (by decide) ?_
  refine qV_of ⟨⟨?_, fun j hj => hf1 j hj⟩, ⟨rfl, ?_, ?_, fun j hj => ⟨rfl, rfl⟩, ⟨rfl, rfl⟩, ?_⟩⟩
  · repeat (first | exact al_0 | refine al_s ?_ (fun hne j => by first | rfl | exact absurd rfl hne | exact (congrFun (hf3 _ (by decide)) j).trans rfl | exact (congrFun (hf3 0 (by decide)) j).trans (hI0 j)))
  · repeat (first | exact al_0 | refine al_s ?_ rfl)
  · unfold RXL; repeat (first | exact ax_0 | refine ax_s rfl ?_)
  · intro q h1 h2 j
    rcases (by omega : q = 37 ∨ q = 38 ∨ q = 39 ∨ q = 40 ∨ q = 41 ∨ q = 42) with rfl | rfl | rfl | rfl | rfl | rfl <;> rfl

