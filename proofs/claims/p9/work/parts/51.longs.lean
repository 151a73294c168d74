theorem wL_at {h : Ht} {q j b : Nat} {x : Int64} : hL (wL h q j x) q b = if b = j then x else hL h q b := by
  show (if q = q ∧ b = j then x else hL h q b) = _
  by_cases e : b = j
  · rw [if_pos ⟨rfl, e⟩, if_pos e]
  · rw [if_neg (fun z => e z.2), if_neg e]
set_option maxRecDepth 8000 in
set_option maxHeartbeats 4000000 in
theorem c_J7_fill_d0a16 {G : Gt} (hG : Gok G) {I : It} {h : Ht}  {q len : Nat} {x : Int64} (hq : q < hn h) (hsh : hs h q = (21, len)) (hl : len ≤ 10000) : Con G (1) 0 0 mJ7_fill_d0a16 [.ref q, .long x] I h (qV (fun I2 h2 => (∀ j, j < len → hL h2 q j = x) ∧ (∀ j, len ≤ j → hL h2 q j = hL h q j) ∧ (∀ a, a ≠ q → hL h2 a = hL h a) ∧ hR h2 = hR h ∧ hs h2 = hs h ∧ hn h2 = hn h ∧ I2 = I)) := by
  refine con_intro (own := RJ7) (lo0 := [some (.ref q), some (.long x), none, none, none]) hG rfl pl_J7 (Nat.le_of_ble_eq_true rfl) rfl (fun X hX => ?_)
  have loop6 : ∀ (k i : Nat) (h2 : Ht), i + k = len → q < hn h2 → hs h2 q = (21, len) → (∀ j, j < i → hL h2 q j = x) → (∀ j, i ≤ j → hL h2 q j = hL h q j) → (∀ a, a ≠ q → hL h2 a = hL h a) → hR h2 = hR h → hs h2 = hs h → hn h2 = hn h → GG G (1) 0 0 X (qV (fun I2 h2 => (∀ j, j < len → hL h2 q j = x) ∧ (∀ j, len ≤ j → hL h2 q j = hL h q j) ∧ (∀ a, a ≠ q → hL h2 a = hL h a) ∧ hR h2 = hR h ∧ hs h2 = hs h ∧ hn h2 = hn h ∧ I2 = I)) 6 [some (.ref q), some (.long x), none, some (.int (nI i)), some (.int (nI len))] [] (I) (h2) 0 0 := by
    intro k
    induction k using Nat.strongRecOn with | _ k ih => ?_
    intro i h2 hk hq hsh h1 h2a h3 h4 h5 h6
    refine g_iload_3 hX (dk DJ7_fill_d0a16 5 rfl) ?_
    refine g_iload_4 hX (dk DJ7_fill_d0a16 6 rfl) ?_
    refine g_icmp_ge (tgt := 22) hX (dk DJ7_fill_d0a16 7 rfl) (by decide) (fun hc1 => ?_) (fun hc1 => ?_)
    · refine g_return hX (dk DJ7_fill_d0a16 14 rfl) rfl (by decide) (by decide) ?_
      have hk0 := ct_end hk (by omega) hc1
      subst hk0
      exact qV_of ⟨fun j hj => h1 j (by omega), fun j hj => h2a j (by omega), h3, h4, h5, h6, rfl⟩
    · obtain ⟨k, rfl⟩ := ct_go hk (by omega) hc1
      refine g_aload_0 hX (dk DJ7_fill_d0a16 8 rfl) ?_
      refine g_iload_3 hX (dk DJ7_fill_d0a16 9 rfl) ?_
      refine g_lload_1 hX (dk DJ7_fill_d0a16 10 rfl) ?_
      refine i_lastore hX (dk DJ7_fill_d0a16 11 rfl) hq hsh (⟨rfl, by omega, by omega⟩) ?_
      refine g_iinc_3 hX (dk DJ7_fill_d0a16 12 rfl) (nI_1 i) (by decide) rfl ?_
      refine g_goto (tgt := 6) hX (dk DJ7_fill_d0a16 13 rfl) (by decide) ?_
      exact ih k (by omega) (i + 1) _ (by omega) hq hsh (fun j hj => by
        rw [wL_at]
        by_cases e : j = i
        · rw [if_pos e]
        · rw [if_neg e]; exact h1 j (by omega)) (fun j hj => by rw [wL_at, if_neg (by omega)]; exact h2a j (by omega)) (fun a ha => by rw [wL_off ha]; exact h3 a ha) h4 h5 h6
  refine g_iconst (v := 0) hX (dk DJ7_fill_d0a16 0 rfl) (by decide) ?_
  refine g_istore_3 hX (dk DJ7_fill_d0a16 1 rfl) (by decide) rfl ?_
  refine g_aload_0 hX (dk DJ7_fill_d0a16 2 rfl) ?_
  refine g_alen (v := nI len) hX (dk DJ7_fill_d0a16 3 rfl) hq hsh (by decide) (i0 := 1) rfl rfl ?_
  refine g_istore_4 hX (dk DJ7_fill_d0a16 4 rfl) (by decide) rfl ?_
  exact loop6 len 0 h (Nat.zero_add _) hq hsh (fun j hj => absurd hj (Nat.not_lt_zero j)) (fun _ _ => rfl) (fun _ _ => rfl) rfl rfl rfl

set_option maxRecDepth 8000 in
set_option maxHeartbeats 4000000 in
theorem c_J9_max_f86c9 {G : Gt} (hG : Gok G) {I : It} {h : Ht}  {a b : Int64} : Con G (1) 0 0 mJ9_max_f86c9 [.long a, .long b] I h (rL (if a < b then b else a) I h) := by
  refine con_introF (own := RJ9) (lo0 := [some (.long a), none, some (.long b), none]) hG rfl (by decide +kernel) (Nat.le_of_ble_eq_true rfl) rfl (fun X hX => ?_)
  refine g_lload_0 hX (dk DJ9_max_f86c9 0 rfl) ?_
  refine g_lload_2 hX (dk DJ9_max_f86c9 1 rfl) ?_
  refine g_lcmp hX (dk DJ9_max_f86c9 2 rfl) ?_
  refine g_if_lt (tgt := 10) hX (dk DJ9_max_f86c9 3 rfl) (by decide) (fun hc1 => ?_) (fun hc1 => ?_)
  · refine g_lload_2 hX (dk DJ9_max_f86c9 6 rfl) ?_
    refine g_lreturn hX (dk DJ9_max_f86c9 7 rfl) rfl (by decide) (by decide) ?_
    exact rL_of (by have := lg_cmp_lt a b; grind) rfl rfl
  · refine g_lload_0 hX (dk DJ9_max_f86c9 4 rfl) ?_
    refine g_goto (tgt := 11) hX (dk DJ9_max_f86c9 5 rfl) (by decide) ?_
    refine g_lreturn hX (dk DJ9_max_f86c9 7 rfl) rfl (by decide) (by decide) ?_
    exact rL_of (by have := lg_cmp_lt a b; grind) rfl rfl

theorem prod_half {p q e : Nat} (hq : 0 < q) (hle : q ≤ p) (h : p * q < 2 ^ (e + 1)) : q * (p % q) < 2 ^ e := by
  have h1 := Nat.div_add_mod p q
  have h2 : p % q < q := Nat.mod_lt _ hq
  have h3 : 1 ≤ p / q := (Nat.one_le_div_iff hq).mpr hle
  have h4 : q * 1 ≤ q * (p / q) := Nat.mul_le_mul_left q h3
  have h5 : q + p % q ≤ p := by omega
  have h6 : (q + p % q) * q ≤ p * q := Nat.mul_le_mul_right q h5
  have h8 : p % q * q ≤ q * q := Nat.mul_le_mul_right q (Nat.le_of_lt h2)
  rw [Nat.add_mul] at h6
  rw [Nat.pow_succ] at h
  rw [Nat.mul_comm q (p % q)]
  omega
theorem lt63 {a : Nat} (h : a < 2 ^ 34) : a < 2 ^ 63 := Nat.lt_trans h (by decide)
set_option maxRecDepth 8000 in
set_option maxHeartbeats 4000000 in
theorem c_X11_commonDivisor {G : Gt} (hG : Gok G) {I : It} {h : Ht}  {a b : Nat} (hab : a ≤ b) (hb0 : 0 < b) (hb : b < 2 ^ 34) : Con G (2) 0 0 mX11_commonDivisor [.long (lN a), .long (lN b)] I h (rL (lN (Nat.gcd a b)) I h) := by
  refine con_intro (own := RX11) (lo0 := [some (.long (lN a)), none, some (.long (lN b)), none, none, none, none, none, none, none, none]) hG rfl pl_X11 (Nat.le_of_ble_eq_true rfl) rfl (fun X hX => ?_)
  have loop9 : ∀ (e s p q : Nat), s + e = 70 → 0 < p → q ≤ p → p < 2 ^ 34 → p * q < 2 ^ e → Nat.gcd p q = Nat.gcd a b → GG G (2) 0 0 X (rL (lN (Nat.gcd a b)) I h) 9 [some (.long (lN a)), none, some (.long (lN b)), none, some (.long (lN p)), none, some (.long (lN q)), none, some (.int (nI s)), none, none] [] (I) (h) 0 0 := by
    intro e
    induction e using Nat.strongRecOn with | _ e ih => ?_
    intro s p q hs hp hqp hp34 hpe hv
    have hq63 : q < 2 ^ 63 := lt63 (Nat.lt_of_le_of_lt hqp hp34)
    refine g_iload_8 hX (dk DX11_commonDivisor 6 rfl) ?_
    refine g_bipush (v := 100) hX (dk DX11_commonDivisor 7 rfl) (by decide) ?_
    refine g_icmp_ge (tgt := 44) hX (dk DX11_commonDivisor 8 rfl) (by decide) (fun hc1 => absurd hc1 (Int32.not_le.mpr (by show nI s < nI 100; exact nI_lt (by omega) (by decide)))) (fun hc1 => ?_)
    refine g_lload_6 hX (dk DX11_commonDivisor 9 rfl) ?_
    refine g_lconst (v := 0) hX (dk DX11_commonDivisor 10 rfl) (by decide) ?_
    refine g_lcmp hX (dk DX11_commonDivisor 11 rfl) ?_
    refine g_if_le (tgt := 44) hX (dk DX11_commonDivisor 12 rfl) (by decide) (fun hc2 => ?_) (fun hc2 => ?_)
    · have hq0 : q = 0 := (pk_lEQ (b := 0) hq63 (by decide)).mp (Int64.le_antisymm ((lg_cmp_le _ _).mp hc2) ((pk_lLE (a := 0) (by decide) hq63).mpr (Nat.zero_le q)))
      refine g_lconst (v := 1) hX (dk DX11_commonDivisor 23 rfl) (by decide) ?_
      refine g_lload_4 hX (dk DX11_commonDivisor 24 rfl) ?_
      refine g_c2L hX sX11_commonDivisor_47 (by decide) (Nat.le_of_ble_eq_true rfl) rcN (by decide) (by decide) (c_J9_max_f86c9 hG) ?_
      refine g_nmL (lN p) (by have h1 : lN 1 ≤ lN p := (pk_lLE (by decide) (lt63 hp34)).mpr hp; rcases Int64.lt_or_eq_of_le h1 with z | z; exact if_pos z; rw [if_neg (by rw [← z]; decide)]; exact z) ?_
      refine g_lreturn hX (dk DX11_commonDivisor 26 rfl) rfl (by decide) (by decide) ?_
      subst hq0
      exact rL_of (by rw [← hv, Nat.gcd_zero_right]) rfl rfl
    · have hq0 : q ≠ 0 := fun z => hc2 ((lg_cmp_le _ _).mpr (by rw [z]; exact Int64.le_refl _))
      obtain ⟨e, rfl⟩ : ∃ z, e = z + 1 := by
        cases e with
        | zero => exact absurd hpe (by have := Nat.mul_pos hp (Nat.pos_of_ne_zero hq0); omega)
        | succ z => exact ⟨z, rfl⟩
      refine g_lload_4 hX (dk DX11_commonDivisor 13 rfl) ?_
      refine g_lload_6 hX (dk DX11_commonDivisor 14 rfl) ?_
      refine g_lrem hX (dk DX11_commonDivisor 15 rfl) (fun z => hq0 ((pk_lEQ (b := 0) hq63 (by decide)).mp z)) ?_
      refine g_nmL (lN (p % q)) (pk_lRem (lt63 hp34) (by omega) hq63) ?_
      refine g_lstore_9 hX (dk DX11_commonDivisor 16 rfl) (by decide) rfl ?_
      refine g_lload_6 hX (dk DX11_commonDivisor 17 rfl) ?_
      refine g_lstore_4 hX (dk DX11_commonDivisor 18 rfl) (by decide) rfl ?_
      refine g_lload_9 hX (dk DX11_commonDivisor 19 rfl) ?_
      refine g_lstore_6 hX (dk DX11_commonDivisor 20 rfl) (by decide) rfl ?_
      refine g_iinc_8 hX (dk DX11_commonDivisor 21 rfl) (nI_1 s) (by decide) rfl ?_
      refine g_goto (tgt := 9) hX (dk DX11_commonDivisor 22 rfl) (by decide) ?_
      exact g_fgt (ih e (by omega) (s + 1) q (p % q) (by omega) (Nat.pos_of_ne_zero hq0) (Nat.le_of_lt (Nat.mod_lt _ (Nat.pos_of_ne_zero hq0))) (Nat.lt_of_le_of_lt hqp hp34) (prod_half (Nat.pos_of_ne_zero hq0) hqp hpe) (by rw [← hv, Nat.gcd_comm p q, Nat.gcd_rec q p, Nat.gcd_comm])) ⟨rfl, rfl, rfl, rfl, rfl, trivial⟩
  refine g_lload_2 hX (dk DX11_commonDivisor 0 rfl) ?_
  refine g_lstore_4 hX (dk DX11_commonDivisor 1 rfl) (by decide) rfl ?_
  refine g_lload_0 hX (dk DX11_commonDivisor 2 rfl) ?_
  refine g_lstore_6 hX (dk DX11_commonDivisor 3 rfl) (by decide) rfl ?_
  refine g_iconst (v := 0) hX (dk DX11_commonDivisor 4 rfl) (by decide) ?_
  refine g_istore_8 hX (dk DX11_commonDivisor 5 rfl) (by decide) rfl ?_
  exact loop9 70 0 b a (Nat.zero_add _) hb0 hab hb (Nat.lt_of_le_of_lt (Nat.mul_le_mul (Nat.le_of_lt hb) (Nat.le_trans hab (Nat.le_of_lt hb))) (by decide)) (Nat.gcd_comm b a)

