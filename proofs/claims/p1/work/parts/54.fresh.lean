set_option maxRecDepth 8000 in
set_option maxHeartbeats 4000000 in
theorem c_X5_add {G : Gt} (hG : Gok G) {I : It} {h : Ht}  (hH : HX h) {v n : Nat} (hn1 : I 1 2 = nI n) (hn10 : n < 10) (hv : v < hn h) (hvd : isDC (hs h v).1) : Con G 2 0 0 mX5_add [.ref 1, .ref v] I h (qI (fun x I2 h2 => x = nI n ∧ I2 = upI (upI I 3 n 5) 1 2 (nI (n + 1)) ∧ h2 = wR h 2 n (some v))) := by
  refine con_intro (own := RX5) (lo0 := [some (.ref 1), some (.ref v)]) hG rfl pl_X5 (Nat.le_of_ble_eq_true rfl) rfl (fun X hX => ?_)
  refine g_aload_0 hX (dk DX5_add 0 rfl) ?_
  refine g_getIv hX (dk DX5_add 1 rfl) KX5 fX5_36 (by decide) rfl (CLt hH (q := 1) (by decide)) (CC hH 1 (by decide) rfl) (hn1) ?_
  refine g_bipush (v := 10) hX (dk DX5_add 2 rfl) (by decide) ?_
  refine g_icmp_lt (tgt := 12) hX (dk DX5_add 3 rfl) (by decide) (fun hc1 => ?_) (fun hc1 => absurd (show nI n < nI 10 from nI_lt hn10 (by decide)) hc1)
  refine g_aload_0 hX (dk DX5_add 6 rfl) ?_
  refine g_getRs (r := 2) hX (dk DX5_add 7 rfl) KX5 fX5_11 (by decide) rfl (CLt hH (q := 1) (by decide)) (CC hH 1 (by decide) rfl) (CR hH 1 0 2 (by decide)) ?_
  refine g_aload_0 hX (dk DX5_add 8 rfl) ?_
  refine g_getIv hX (dk DX5_add 9 rfl) KX5 fX5_36 (by decide) rfl (CLt hH (q := 1) (by decide)) (CC hH 1 (by decide) rfl) (hn1) ?_
  refine g_aload_1 hX (dk DX5_add 10 rfl) ?_
  refine g_aastoreD (r := some v) (j := n) hX (dk DX5_add 11 rfl) (CLt hH (q := 2) (by decide)) (CS hH 2 (by decide) rfl) (⟨rfl, hn10, by decide⟩) (fun z e => by cases e; exact ⟨hv, hvd⟩) ?_
  refine g_aload_0 hX (dk DX5_add 12 rfl) ?_
  refine g_getRs (r := 3) hX (dk DX5_add 13 rfl) KX5 fX5_17 (by decide) rfl (CLt hH (q := 1) (by decide)) (CC hH 1 (by decide) rfl) (CR hH 1 1 3 (by decide)) ?_
  refine g_aload_0 hX (dk DX5_add 14 rfl) ?_
  refine g_getIv hX (dk DX5_add 15 rfl) KX5 fX5_36 (by decide) rfl (CLt hH (q := 1) (by decide)) (CC hH 1 (by decide) rfl) (hn1) ?_
  refine g_iconst (v := 5) hX (dk DX5_add 16 rfl) (by decide) ?_
  refine i_iastore hX (dk DX5_add 17 rfl) (CLt hH (q := 3) (by decide)) (CS hH 3 (by decide) rfl) (⟨rfl, hn10, by decide⟩) ?_
  refine g_aload_0 hX (dk DX5_add 18 rfl) ?_
  refine g_dup hX (dk DX5_add 19 rfl) rfl ?_
  refine g_getIv hX (dk DX5_add 20 rfl) KX5 fX5_36 (by decide) rfl (CLt hH (q := 1) (by decide)) (CC hH 1 (by decide) rfl) ((show _ = nI n from hn1)) ?_
  refine g_iconst (v := 1) hX (dk DX5_add 21 rfl) (by decide) ?_
  refine g_iadd hX (dk DX5_add 22 rfl) ?_
  refine g_putI hX (dk DX5_add 23 rfl) KX5 fX5_36 (by decide) rfl (CLt hH (q := 1) (by decide)) (CC hH 1 (by decide) rfl) (Or.inl rfl) (rfl) (rfl) ?_
  refine g_aload_0 hX (dk DX5_add 24 rfl) ?_
  refine g_getIv hX (dk DX5_add 25 rfl) KX5 fX5_36 (by decide) rfl (CLt hH (q := 1) (by decide)) (CC hH 1 (by decide) rfl) ((up0 _ _ _ _).trans (nI_1 n)) ?_
  refine g_iconst (v := 1) hX (dk DX5_add 26 rfl) (by decide) ?_
  refine g_isub hX (dk DX5_add 27 rfl) ?_
  refine g_ireturn hX (dk DX5_add 28 rfl) rfl (rfl) (by decide) (by decide) ?_
  exact qI_of ⟨nI_pred n, by rw [nI_1], rfl⟩

theorem IT_r {h : Ht} (hH : HX h) {t : Nat} (ht : t < 6) : hR h 36 t = some (37 + t) := by
  rcases (by omega : t = 0 ∨ t = 1 ∨ t = 2 ∨ t = 3 ∨ t = 4 ∨ t = 5) with rfl | rfl | rfl | rfl | rfl | rfl <;> exact CR hH 36 _ _ (by decide)
theorem IT_lt {h : Ht} (hH : HX h) {t : Nat} (ht : t < 6) : 37 + t < hn h := CLt hH (by omega)
theorem IT_sh {h : Ht} (hH : HX h) {t : Nat} (ht : t < 6) : hs h (37 + t) = (21, 60) := by
  rcases (by omega : t = 0 ∨ t = 1 ∨ t = 2 ∨ t = 3 ∨ t = 4 ∨ t = 5) with rfl | rfl | rfl | rfl | rfl | rfl <;> exact CS hH _ (by decide) rfl
def qAL (v : Int64) : Pt3 := qL fun x _ _ => x = v
theorem qAL_of {v x : Int64} {I : It} {h : Ht} (e : x = v) : qAL v (some (.long x)) I h := ⟨x, rfl, e⟩
theorem no_m1 {b : Int32} (h : ¬ ¬ (0 ≤ b ∧ b ≤ 0 - 1)) : False := by
  have h2 := Decidable.not_not.mp h
  exact absurd (Int32.le_trans h2.1 h2.2) (by decide)
theorem NX.made {I : It} {a : Nat} {i v r p c n : Int32} (hN : NX I) (ha : 73 ≤ a) : NX (dI (zI I a) a i v r p c n) := by
  have key : ∀ q, q < 73 → dI (zI I a) a i v r p c n q = I q := fun q hq => by
    have hne : q ≠ a := by omega
    unfold dI
    rw [upI_off hne, upI_off hne, upI_off hne, upI_off hne, upI_off hne, upI_off hne]
    funext j
    show (if q = a then 0 else I q j) = I q j
    rw [if_neg hne]
  exact ⟨fun q hq j => by rw [key q (by revert q; decide)]; exact hN.1 q hq j, fun j hj => by rw [key 34 (by decide)]; exact hN.2 j hj⟩
set_option maxRecDepth 8000 in
set_option maxHeartbeats 4000000 in
theorem n_read {G : Gt} (hG : Gok G) {I : It} {h : Ht} (hH : HX h) (hN : NX I) (hP : NRF h) {a e : Int32} : Con G 3 0 0 mX11_read [.ref 0, .int a, .int e] I h (qAL (NOL)) := by
  refine con_intro (own := RX11) (lo0 := [some (.ref 0), some (.int a), some (.int e)]) hG rfl pl_X11 (Nat.le_of_ble_eq_true rfl) rfl (fun X hX => ?_)
  refine g_iload_1 hX (dk DX11_read 0 rfl) ?_
  refine g_iconst (v := 0) hX (dk DX11_read 1 rfl) (by decide) ?_
  refine g_iconst (v := 5) hX (dk DX11_read 2 rfl) (by decide) ?_
  refine g_c3I hX sX11_read_3 (by decide) (Nat.le_of_ble_eq_true rfl) rcN (by decide) (by decide) (c_X11_isNot hG ) ?_
  refine g_ifb_ne (tgt := 25) hX (dk DX11_read 4 rfl) (by decide) (fun hc1 => ?_) (fun hc1 => ?_)
  · refine g_ldc2_w (v := -9223372036854775808) hX (dk DX11_read 15 rfl) (tg_4 79 rfl rfl) ?_
    refine g_lreturn hX (dk DX11_read 16 rfl) rfl (by decide) (by decide) ?_
    exact qAL_of rfl
  · obtain ⟨t, ht, rfl⟩ := in_of (b := 5) (by decide) (Decidable.not_not.mp hc1)
    refine g_iload_2 hX (dk DX11_read 5 rfl) ?_
    refine g_iconst (v := 0) hX (dk DX11_read 6 rfl) (by decide) ?_
    refine g_aload_0 hX (dk DX11_read 7 rfl) ?_
    refine g_getRs (r := 35) hX (dk DX11_read 8 rfl) KX11 fX11_51 (by decide) rfl (CLt hH (q := 0) (by decide)) (CC hH 0 (by decide) rfl) (CR hH 0 10 35 (by decide)) ?_
    refine g_iload_1 hX (dk DX11_read 9 rfl) ?_
    refine v_iaload hX (dk DX11_read 10 rfl) (CLt hH (q := 35) (by decide)) (CS hH 35 (by decide) rfl) (⟨rfl, by omega, by decide⟩) ((hN.1 35 (by decide) _)) ?_
    refine g_iconst (v := 1) hX (dk DX11_read 11 rfl) (by decide) ?_
    refine g_isub hX (dk DX11_read 12 rfl) ?_
    refine g_c3I hX sX11_read_19 (by decide) (Nat.le_of_ble_eq_true rfl) rcN (by decide) (by decide) (c_X11_isNot hG ) ?_
    refine g_ifb_eq (tgt := 29) hX (dk DX11_read 14 rfl) (by decide) (fun hc2 => absurd trivial (fun _ => no_m1 hc2)) (fun hc2 => ?_)
    refine g_ldc2_w (v := -9223372036854775808) hX (dk DX11_read 15 rfl) (tg_4 79 rfl rfl) ?_
    refine g_lreturn hX (dk DX11_read 16 rfl) rfl (by decide) (by decide) ?_
    exact qAL_of rfl

set_option maxRecDepth 8000 in
set_option maxHeartbeats 4000000 in
theorem n_chance {G : Gt} (hG : Gok G) {I : It} {h : Ht} (hH : HX h) (hN : NX I) (hP : NRF h) {n w : Int32} : Con G 5 0 0 mX11_chance [.ref 0, .int n, .int w] I h (qAL (if ¬ (0 ≤ n ∧ n ≤ 60) then NOL else if ¬ (0 ≤ w ∧ w ≤ 1) then NOL else 1)) := by
  refine con_intro (own := RX11) (lo0 := [some (.ref 0), some (.int n), some (.int w), none, none, none, none, none, none]) hG rfl pl_X11 (Nat.le_of_ble_eq_true rfl) rfl (fun X hX => ?_)
  refine g_iload_1 hX (dk DX11_chance_0 0 rfl) ?_
  refine g_iconst (v := 0) hX (dk DX11_chance_0 1 rfl) (by decide) ?_
  refine g_bipush (v := 60) hX (dk DX11_chance_0 2 rfl) (by decide) ?_
  refine g_c3I hX sX11_chance_4 (by decide) (Nat.le_of_ble_eq_true rfl) rcN (by decide) (by decide) (c_X11_isNot hG ) ?_
  refine g_ifb_ne (tgt := 19) hX (dk DX11_chance_0 4 rfl) (by decide) (fun hc1 => ?_) (fun hc1 => ?_)
  · refine g_ldc2_w (v := -9223372036854775808) hX (dk DX11_chance_0 10 rfl) (tg_4 79 rfl rfl) ?_
    refine g_lreturn hX (dk DX11_chance_0 11 rfl) rfl (by decide) (by decide) ?_
    exact qAL_of (by (try first | rw [if_pos hc1] | rw [if_neg hc1] | rw [if_neg (not_not_intro hc1)]); first | done | decide | rfl)
  · refine g_iload_2 hX (dk DX11_chance_0 5 rfl) ?_
    refine g_iconst (v := 0) hX (dk DX11_chance_0 6 rfl) (by decide) ?_
    refine g_iconst (v := 1) hX (dk DX11_chance_0 7 rfl) (by decide) ?_
    refine g_c3I hX sX11_chance_13 (by decide) (Nat.le_of_ble_eq_true rfl) rcN (by decide) (by decide) (c_X11_isNot hG ) ?_
    refine g_ifb_eq (tgt := 23) hX (dk DX11_chance_0 9 rfl) (by decide) (fun hc2 => ?_) (fun hc2 => ?_)
    · refine g_lconst (v := 1) hX (dk DX11_chance_0 12 rfl) (by decide) ?_
      refine g_lstore_3 hX (dk DX11_chance_0 13 rfl) (by decide) rfl ?_
      refine g_lconst (v := 1) hX (dk DX11_chance_0 14 rfl) (by decide) ?_
      refine g_lstore_5 hX (dk DX11_chance_0 15 rfl) (by decide) rfl ?_
      refine g_iconst (v := 0) hX (dk DX11_chance_0 16 rfl) (by decide) ?_
      refine g_istore_7 hX (dk DX11_chance_0 17 rfl) (by decide) rfl ?_
      refine g_iload_7 hX (dk DX11_chance_0 18 rfl) ?_
      refine g_aload_0 hX (dk DX11_chance_0 19 rfl) ?_
      refine g_getRs (r := 1) hX (dk DX11_chance_0 20 rfl) KX11 fX11_12 (by decide) rfl (CLt hH (q := 0) (by decide)) (CC hH 0 (by decide) rfl) (CR hH 0 0 1 (by decide)) ?_
      refine g_getIv hX (dk DX11_chance_0 21 rfl) KX5 fX11_72 (by decide) rfl (CLt hH (q := 1) (by decide)) (CC hH 1 (by decide) rfl) ((hN.1 1 (by decide) 2)) ?_
      refine g_icmp_ge (tgt := 118) hX (dk DX11_chance_0 22 rfl) (by decide) (fun hc3 => ?_) (fun hc3 => absurd (by decide) hc3)
      refine g_lload_3 hX (dk DX11_chance_0 58 rfl) ?_
      refine g_lload_5 hX (dk DX11_chance_0 59 rfl) ?_
      refine g_c2L hX sX11_chance_121 (by decide) (Nat.le_of_ble_eq_true rfl) rcN (by decide) (by decide) (c_X11_commonDivisor hG (a := 1) (b := 1) (by decide) (by decide) (by decide)) ?_
      refine g_nmL (lN 1) (by rw [Nat.gcd_self]) ?_
      refine g_lstore_7 hX (dk DX11_chance_1 1 rfl) (by decide) rfl ?_
      refine g_iload_2 hX (dk DX11_chance_1 2 rfl) ?_
      refine g_if_ne (tgt := 134) hX (dk DX11_chance_1 3 rfl) (by decide) (fun hc4 => ?_) (fun hc4 => ?_)
      · refine g_lload_5 hX (dk DX11_chance_1 6 rfl) ?_
        refine g_lload_7 hX (dk DX11_chance_1 7 rfl) ?_
        refine g_ldiv hX (dk DX11_chance_1 8 rfl) (by decide) ?_
        refine g_lreturn hX (dk DX11_chance_1 9 rfl) rfl (by decide) (by decide) ?_
        exact qAL_of (by (try first | rw [if_pos hc1] | rw [if_neg hc1] | rw [if_neg (not_not_intro hc1)]); (try first | rw [if_pos hc2] | rw [if_neg hc2] | rw [if_neg (not_not_intro hc2)]); (try first | rw [if_pos hc3] | rw [if_neg hc3] | rw [if_neg (not_not_intro hc3)]); (try first | rw [if_pos hc4] | rw [if_neg hc4] | rw [if_neg (not_not_intro hc4)]); first | done | decide | rfl)
      · refine g_lload_3 hX (dk DX11_chance_1 4 rfl) ?_
        refine g_goto (tgt := 136) hX (dk DX11_chance_1 5 rfl) (by decide) ?_
        refine g_lload_7 hX (dk DX11_chance_1 7 rfl) ?_
        refine g_ldiv hX (dk DX11_chance_1 8 rfl) (by decide) ?_
        refine g_lreturn hX (dk DX11_chance_1 9 rfl) rfl (by decide) (by decide) ?_
        exact qAL_of (by (try first | rw [if_pos hc1] | rw [if_neg hc1] | rw [if_neg (not_not_intro hc1)]); (try first | rw [if_pos hc2] | rw [if_neg hc2] | rw [if_neg (not_not_intro hc2)]); (try first | rw [if_pos hc3] | rw [if_neg hc3] | rw [if_neg (not_not_intro hc3)]); (try first | rw [if_pos hc4] | rw [if_neg hc4] | rw [if_neg (not_not_intro hc4)]); first | done | decide | rfl)
    · refine g_ldc2_w (v := -9223372036854775808) hX (dk DX11_chance_0 10 rfl) (tg_4 79 rfl rfl) ?_
      refine g_lreturn hX (dk DX11_chance_0 11 rfl) rfl (by decide) (by decide) ?_
      exact qAL_of (by (try first | rw [if_pos hc1] | rw [if_neg hc1] | rw [if_neg (not_not_intro hc1)]); (try first | rw [if_pos hc2] | rw [if_neg hc2] | rw [if_neg (not_not_intro hc2)]); first | done | decide | rfl)

set_option maxRecDepth 8000 in
set_option maxHeartbeats 4000000 in
theorem n_doing {G : Gt} (hG : Gok G) {I : It} {h : Ht} (hH : HX h) (hN : NX I) (hP : NRF h) {k v r p c n : Int32} (hGn : Gnew G (hn h)) : Con G 7 1 6 mX11_doing [.ref 0, .int k, .int v, .int r, .int p, .int c, .int n] I h (qA (if ¬ (0 ≤ k ∧ k ≤ 6) then -1 else if ¬ (0 ≤ v ∧ v ≤ 9) then -2 else if ¬ (1 ≤ r ∧ r ≤ 60) then -2 else if ¬ (0 ≤ p ∧ p ≤ r - 1) then -2 else if ¬ (0 ≤ c ∧ c ≤ 99) then -2 else if ¬ (0 ≤ n ∧ n ≤ 99) then -2 else 0)) := by
  refine con_intro (own := RX11) (lo0 := [some (.ref 0), some (.int k), some (.int v), some (.int r), some (.int p), some (.int c), some (.int n)]) hG rfl pl_X11 (Nat.le_of_ble_eq_true rfl) rfl (fun X hX => ?_)
  refine g_iload_1 hX (dk DX11_doing 0 rfl) ?_
  refine g_iconst (v := 0) hX (dk DX11_doing 1 rfl) (by decide) ?_
  refine g_bipush (v := 6) hX (dk DX11_doing 2 rfl) (by decide) ?_
  refine g_c3I hX sX11_doing_4 (by decide) (Nat.le_of_ble_eq_true rfl) rcN (by decide) (by decide) (c_X11_isNot hG ) ?_
  refine g_ifb_eq (tgt := 12) hX (dk DX11_doing 4 rfl) (by decide) (fun hc1 => ?_) (fun hc1 => ?_)
  · refine g_iload_2 hX (dk DX11_doing 7 rfl) ?_
    refine g_iconst (v := 0) hX (dk DX11_doing 8 rfl) (by decide) ?_
    refine g_bipush (v := 9) hX (dk DX11_doing 9 rfl) (by decide) ?_
    refine g_c3I hX sX11_doing_16 (by decide) (Nat.le_of_ble_eq_true rfl) rcN (by decide) (by decide) (c_X11_isNot hG ) ?_
    refine g_ifb_ne (tgt := 66) hX (dk DX11_doing 11 rfl) (by decide) (fun hc2 => ?_) (fun hc2 => ?_)
    · refine g_bipush (v := -2) hX (dk DX11_doing 34 rfl) (by decide) ?_
      refine g_ireturn hX (dk DX11_doing 35 rfl) rfl (rfl) (by decide) (by decide) ?_
      exact qA_of (by (try first | rw [if_pos hc1] | rw [if_neg hc1] | rw [if_neg (not_not_intro hc1)]); (try first | rw [if_pos hc2] | rw [if_neg hc2] | rw [if_neg (not_not_intro hc2)]); first | done | rfl)
    · refine g_iload_3 hX (dk DX11_doing 12 rfl) ?_
      refine g_iconst (v := 1) hX (dk DX11_doing 13 rfl) (by decide) ?_
      refine g_bipush (v := 60) hX (dk DX11_doing 14 rfl) (by decide) ?_
      refine g_c3I hX sX11_doing_26 (by decide) (Nat.le_of_ble_eq_true rfl) rcN (by decide) (by decide) (c_X11_isNot hG ) ?_
      refine g_ifb_ne (tgt := 66) hX (dk DX11_doing 16 rfl) (by decide) (fun hc3 => ?_) (fun hc3 => ?_)
      · refine g_bipush (v := -2) hX (dk DX11_doing 34 rfl) (by decide) ?_
        refine g_ireturn hX (dk DX11_doing 35 rfl) rfl (rfl) (by decide) (by decide) ?_
        exact qA_of (by (try first | rw [if_pos hc1] | rw [if_neg hc1] | rw [if_neg (not_not_intro hc1)]); (try first | rw [if_pos hc2] | rw [if_neg hc2] | rw [if_neg (not_not_intro hc2)]); (try first | rw [if_pos hc3] | rw [if_neg hc3] | rw [if_neg (not_not_intro hc3)]); first | done | rfl)
      · refine g_iload_4 hX (dk DX11_doing 17 rfl) ?_
        refine g_iconst (v := 0) hX (dk DX11_doing 18 rfl) (by decide) ?_
        refine g_iload_3 hX (dk DX11_doing 19 rfl) ?_
        refine g_iconst (v := 1) hX (dk DX11_doing 20 rfl) (by decide) ?_
        refine g_isub hX (dk DX11_doing 21 rfl) ?_
        refine g_c3I hX sX11_doing_38 (by decide) (Nat.le_of_ble_eq_true rfl) rcN (by decide) (by decide) (c_X11_isNot hG ) ?_
        refine g_ifb_ne (tgt := 66) hX (dk DX11_doing 23 rfl) (by decide) (fun hc4 => ?_) (fun hc4 => ?_)
        · refine g_bipush (v := -2) hX (dk DX11_doing 34 rfl) (by decide) ?_
          refine g_ireturn hX (dk DX11_doing 35 rfl) rfl (rfl) (by decide) (by decide) ?_
          exact qA_of (by (try first | rw [if_pos hc1] | rw [if_neg hc1] | rw [if_neg (not_not_intro hc1)]); (try first | rw [if_pos hc2] | rw [if_neg hc2] | rw [if_neg (not_not_intro hc2)]); (try first | rw [if_pos hc3] | rw [if_neg hc3] | rw [if_neg (not_not_intro hc3)]); (try first | rw [if_pos hc4] | rw [if_neg hc4] | rw [if_neg (not_not_intro hc4)]); first | done | rfl)
        · refine g_iload_5 hX (dk DX11_doing 24 rfl) ?_
          refine g_iconst (v := 0) hX (dk DX11_doing 25 rfl) (by decide) ?_
          refine g_bipush (v := 99) hX (dk DX11_doing 26 rfl) (by decide) ?_
          refine g_c3I hX sX11_doing_49 (by decide) (Nat.le_of_ble_eq_true rfl) rcN (by decide) (by decide) (c_X11_isNot hG ) ?_
          refine g_ifb_ne (tgt := 66) hX (dk DX11_doing 28 rfl) (by decide) (fun hc5 => ?_) (fun hc5 => ?_)
          · refine g_bipush (v := -2) hX (dk DX11_doing 34 rfl) (by decide) ?_
            refine g_ireturn hX (dk DX11_doing 35 rfl) rfl (rfl) (by decide) (by decide) ?_
            exact qA_of (by (try first | rw [if_pos hc1] | rw [if_neg hc1] | rw [if_neg (not_not_intro hc1)]); (try first | rw [if_pos hc2] | rw [if_neg hc2] | rw [if_neg (not_not_intro hc2)]); (try first | rw [if_pos hc3] | rw [if_neg hc3] | rw [if_neg (not_not_intro hc3)]); (try first | rw [if_pos hc4] | rw [if_neg hc4] | rw [if_neg (not_not_intro hc4)]); (try first | rw [if_pos hc5] | rw [if_neg hc5] | rw [if_neg (not_not_intro hc5)]); first | done | rfl)
          · refine g_iload_6 hX (dk DX11_doing 29 rfl) ?_
            refine g_iconst (v := 0) hX (dk DX11_doing 30 rfl) (by decide) ?_
            refine g_bipush (v := 99) hX (dk DX11_doing 31 rfl) (by decide) ?_
            refine g_c3I hX sX11_doing_60 (by decide) (Nat.le_of_ble_eq_true rfl) rcN (by decide) (by decide) (c_X11_isNot hG ) ?_
            refine g_ifb_eq (tgt := 69) hX (dk DX11_doing 33 rfl) (by decide) (fun hc6 => ?_) (fun hc6 => ?_)
            · refine g_aload_0 hX (dk DX11_doing 36 rfl) ?_
              refine g_getRs (r := 1) hX (dk DX11_doing 37 rfl) KX11 fX11_12 (by decide) rfl (CLt hH (q := 0) (by decide)) (CC hH 0 (by decide) rfl) (CR hH 0 0 1 (by decide)) ?_
              refine g_getIv hX (dk DX11_doing 38 rfl) KX5 fX11_72 (by decide) rfl (CLt hH (q := 1) (by decide)) (CC hH 1 (by decide) rfl) ((hN.1 1 (by decide) 2)) ?_
              refine g_bipush (v := 10) hX (dk DX11_doing 39 rfl) (by decide) ?_
              refine g_icmp_lt (tgt := 84) hX (dk DX11_doing 40 rfl) (by decide) (fun hc7 => ?_) (fun hc7 => absurd (by decide) hc7)
              refine g_aload_0 hX (dk DX11_doing 43 rfl) ?_
              refine g_getRs (r := 1) hX (dk DX11_doing 44 rfl) KX11 fX11_12 (by decide) rfl (CLt hH (q := 0) (by decide)) (CC hH 0 (by decide) rfl) (CR hH 0 0 1 (by decide)) ?_
              refine g_iload_1 hX (dk DX11_doing 45 rfl) ?_
              refine g_aload_0 hX (dk DX11_doing 46 rfl) ?_
              refine g_getRs (r := 1) hX (dk DX11_doing 47 rfl) KX11 fX11_12 (by decide) rfl (CLt hH (q := 0) (by decide)) (CC hH 0 (by decide) rfl) (CR hH 0 0 1 (by decide)) ?_
              refine g_getIv hX (dk DX11_doing 48 rfl) KX5 fX11_72 (by decide) rfl (CLt hH (q := 1) (by decide)) (CC hH 1 (by decide) rfl) ((hN.1 1 (by decide) 2)) ?_
              refine g_iload_2 hX (dk DX11_doing 49 rfl) ?_
              refine g_iload_3 hX (dk DX11_doing 50 rfl) ?_
              refine g_iload_4 hX (dk DX11_doing 51 rfl) ?_
              refine g_iload_5 hX (dk DX11_doing 52 rfl) ?_
              refine g_iload_6 hX (dk DX11_doing 53 rfl) ?_
              refine g_c7 hX sX11_doing_104 (by decide) (Nat.le_of_ble_eq_true rfl) rcN (by decide) (by decide) (c_X11_made hG hGn) (fun r I2 h2 hq => ?_)
              obtain ⟨rfl, rfl, rfl⟩ := hq
              have hN := NX.made (i := 0) (v := v) (r := r) (p := p) (c := c) (n := n) hN hH.1
              have hH := HX.zA (c := kcl k) (a1 := 0) hH
              refine g_c2q hX sX11_doing_107 (by decide) (Nat.le_of_ble_eq_true rfl) (rc0 rfl (CLt hH (by decide)) (CC hH 1 (by decide) rfl)) (by decide) (by decide) (c_X5_add hG hH (n := 0) (hN.1 1 (by decide) 2) (by decide) (Nat.lt_succ_self _) (by show isDC (if hn h = hn h then (kcl k, 0) else hs h (hn h)).1; rw [if_pos rfl]; exact kcl_dc k)) ?_
              rintro x I2 h2 ⟨rfl, rfl, rfl⟩
              refine g_ireturn hX (dk DX11_doing 56 rfl) rfl (rfl) (by decide) (by decide) ?_
              exact qA_of (by (try first | rw [if_pos hc1] | rw [if_neg hc1] | rw [if_neg (not_not_intro hc1)]); (try first | rw [if_pos hc2] | rw [if_neg hc2] | rw [if_neg (not_not_intro hc2)]); (try first | rw [if_pos hc3] | rw [if_neg hc3] | rw [if_neg (not_not_intro hc3)]); (try first | rw [if_pos hc4] | rw [if_neg hc4] | rw [if_neg (not_not_intro hc4)]); (try first | rw [if_pos hc5] | rw [if_neg hc5] | rw [if_neg (not_not_intro hc5)]); (try first | rw [if_pos hc6] | rw [if_neg hc6] | rw [if_neg (not_not_intro hc6)]); (try first | rw [if_pos hc7] | rw [if_neg hc7] | rw [if_neg (not_not_intro hc7)]); first | done | rfl)
            · refine g_bipush (v := -2) hX (dk DX11_doing 34 rfl) (by decide) ?_
              refine g_ireturn hX (dk DX11_doing 35 rfl) rfl (rfl) (by decide) (by decide) ?_
              exact qA_of (by (try first | rw [if_pos hc1] | rw [if_neg hc1] | rw [if_neg (not_not_intro hc1)]); (try first | rw [if_pos hc2] | rw [if_neg hc2] | rw [if_neg (not_not_intro hc2)]); (try first | rw [if_pos hc3] | rw [if_neg hc3] | rw [if_neg (not_not_intro hc3)]); (try first | rw [if_pos hc4] | rw [if_neg hc4] | rw [if_neg (not_not_intro hc4)]); (try first | rw [if_pos hc5] | rw [if_neg hc5] | rw [if_neg (not_not_intro hc5)]); (try first | rw [if_pos hc6] | rw [if_neg hc6] | rw [if_neg (not_not_intro hc6)]); first | done | rfl)
  · refine g_iconst (v := -1) hX (dk DX11_doing 5 rfl) (by decide) ?_
    refine g_ireturn hX (dk DX11_doing 6 rfl) rfl (rfl) (by decide) (by decide) ?_
    exact qA_of (by (try first | rw [if_pos hc1] | rw [if_neg hc1] | rw [if_neg (not_not_intro hc1)]); first | done | rfl)

set_option maxRecDepth 8000 in
set_option maxHeartbeats 4000000 in
theorem n_image {G : Gt} (hG : Gok G) {I : It} {h : Ht} (hH : HX h) (hN : NX I) (hP : NRF h) (hD2 : ∀ j, j < 10 → hR h 2 j = none) : Con G 5 0 0 mX11_image [.ref 0] I h (qA (0)) := by
  refine con_intro (own := RX11) (lo0 := [some (.ref 0)]) hG rfl pl_X11 (Nat.le_of_ble_eq_true rfl) rfl (fun X hX => ?_)
  refine g_aload_0 hX (dk DX11_image 0 rfl) ?_
  refine g_getRs (r := 7) hX (dk DX11_image 1 rfl) KX11 fX11_18 (by decide) rfl (CLt hH (q := 0) (by decide)) (CC hH 0 (by decide) rfl) (CR hH 0 1 7 (by decide)) ?_
  refine g_aload_0 hX (dk DX11_image 2 rfl) ?_
  refine g_getRs (r := 1) hX (dk DX11_image 3 rfl) KX11 fX11_12 (by decide) rfl (CLt hH (q := 0) (by decide)) (CC hH 0 (by decide) rfl) (CR hH 0 0 1 (by decide)) ?_
  refine g_c2v hX sX11_image_8 (by decide) (Nat.le_of_ble_eq_true rfl) (rc0 rfl (CLt hH (by decide)) (CC hH 7 (by decide) rfl)) (by decide) (by decide) (c_take7 hG hH (fun j hj v e => by rw [hD2 j hj] at e; cases e)) ?_
  rintro I2 h2 ⟨-, -, -, -, -, hI1, -, -, -, -, -, -, -, hH⟩
  refine g_aload_0 hX (dk DX11_image 5 rfl) ?_
  refine g_iconst (v := 1) hX (dk DX11_image 6 rfl) (by decide) ?_
  refine g_putI hX (dk DX11_image 7 rfl) KX11 fX11_254 (by decide) rfl (CLt hH (q := 0) (by decide)) (CC hH 0 (by decide) rfl) (Or.inl rfl) (by decide) (by decide) ?_
  refine g_aload_0 hX (dk DX11_image 8 rfl) ?_
  refine g_getRs (r := 1) hX (dk DX11_image 9 rfl) KX11 fX11_12 (by decide) rfl (CLt hH (q := 0) (by decide)) (CC hH 0 (by decide) rfl) (CR hH 0 0 1 (by decide)) ?_
  refine g_getIv hX (dk DX11_image 10 rfl) KX5 fX11_72 (by decide) rfl (CLt hH (q := 1) (by decide)) (CC hH 1 (by decide) rfl) ((show I2 1 2 = 0 from (congrFun (hI1 1 (by decide)) 2).trans (hN.1 1 (by decide) 2))) ?_
  refine g_ireturn hX (dk DX11_image 11 rfl) rfl (rfl) (by decide) (by decide) ?_
  exact qA_of (by  first | done | rfl)

set_option maxRecDepth 8000 in
set_option maxHeartbeats 4000000 in
theorem n_tape {G : Gt} (hG : Gok G) {I : It} {h : Ht} (hH : HX h) (hN : NX I) (hP : NRF h) {a s n : Int32} : Con G 3 0 0 mX11_tape [.ref 0, .int a, .int s, .int n] I h (qA (if ¬ isT a then -1 else if ¬ (-1 ≤ s ∧ s ≤ 4) then -2 else if s = -1 then 1 else if ¬ n ≤ 60 then -2 else if ¬ 0 ≤ n then -14 else 1)) := by
  refine con_intro (own := RX11) (lo0 := [some (.ref 0), some (.int a), some (.int s), some (.int n)]) hG rfl pl_X11 (Nat.le_of_ble_eq_true rfl) rfl (fun X hX => ?_)
  refine g_iload_1 hX (dk DX11_tape 0 rfl) ?_
  refine g_iconst (v := 0) hX (dk DX11_tape 1 rfl) (by decide) ?_
  refine g_iconst (v := 5) hX (dk DX11_tape 2 rfl) (by decide) ?_
  refine g_c3I hX sX11_tape_3 (by decide) (Nat.le_of_ble_eq_true rfl) rcN (by decide) (by decide) (c_X11_isNot hG ) ?_
  refine g_ifb_eq (tgt := 11) hX (dk DX11_tape 4 rfl) (by decide) (fun hc1 => ?_) (fun hc1 => ?_)
  · obtain ⟨t, ht, rfl⟩ := in_of (b := 5) (by decide) (Decidable.not_not.mp hc1)
    refine g_iload_2 hX (dk DX11_tape 7 rfl) ?_
    refine g_iconst (v := -1) hX (dk DX11_tape 8 rfl) (by decide) ?_
    refine g_iconst (v := 4) hX (dk DX11_tape 9 rfl) (by decide) ?_
    refine g_c3I hX sX11_tape_14 (by decide) (Nat.le_of_ble_eq_true rfl) rcN (by decide) (by decide) (c_X11_isNot hG ) ?_
    refine g_ifb_ne (tgt := 31) hX (dk DX11_tape 11 rfl) (by decide) (fun hc2 => ?_) (fun hc2 => ?_)
    · refine g_bipush (v := -2) hX (dk DX11_tape 18 rfl) (by decide) ?_
      refine g_ireturn hX (dk DX11_tape 19 rfl) rfl (rfl) (by decide) (by decide) ?_
      exact qA_of (by (try first | rw [if_pos hc1] | rw [if_neg hc1] | rw [if_neg (not_not_intro hc1)]); (try first | rw [if_pos hc2] | rw [if_neg hc2] | rw [if_neg (not_not_intro hc2)]); first | done | rfl | contradiction)
    · refine g_iload_2 hX (dk DX11_tape 12 rfl) ?_
      refine g_iconst (v := -1) hX (dk DX11_tape 13 rfl) (by decide) ?_
      refine g_icmp_eq (tgt := 34) hX (dk DX11_tape 14 rfl) (by decide) (fun hc3 => ?_) (fun hc3 => ?_)
      · refine g_iload_2 hX (dk DX11_tape 20 rfl) ?_
        refine g_iconst (v := -1) hX (dk DX11_tape 21 rfl) (by decide) ?_
        refine g_icmp_eq (tgt := 46) hX (dk DX11_tape 22 rfl) (by decide) (fun hc4 => ?_) (fun hc4 => ?_)
        · refine g_aload_0 hX (dk DX11_tape 27 rfl) ?_
          refine g_getRs (r := 34) hX (dk DX11_tape 28 rfl) KX11 fX11_47 (by decide) rfl (CLt hH (q := 0) (by decide)) (CC hH 0 (by decide) rfl) (CR hH 0 9 34 (by decide)) ?_
          refine g_iload_1 hX (dk DX11_tape 29 rfl) ?_
          refine g_iload_2 hX (dk DX11_tape 30 rfl) ?_
          refine i_iastore hX (dk DX11_tape 31 rfl) (CLt hH (q := 34) (by decide)) (CS hH 34 (by decide) rfl) (⟨rfl, by omega, by decide⟩) ?_
          refine g_aload_0 hX (dk DX11_tape 32 rfl) ?_
          refine g_getRs (r := 35) hX (dk DX11_tape 33 rfl) KX11 fX11_51 (by decide) rfl (CLt hH (q := 0) (by decide)) (CC hH 0 (by decide) rfl) (CR hH 0 10 35 (by decide)) ?_
          refine g_iload_1 hX (dk DX11_tape 34 rfl) ?_
          refine g_iload_2 hX (dk DX11_tape 35 rfl) ?_
          refine g_iconst (v := -1) hX (dk DX11_tape 36 rfl) (by decide) ?_
          refine g_icmp_ne (tgt := 67) hX (dk DX11_tape 37 rfl) (by decide) (fun hc5 => ?_) (fun hc5 => ?_)
          · refine g_iload_3 hX (dk DX11_tape 40 rfl) ?_
            refine i_iastore hX (dk DX11_tape 41 rfl) (CLt hH (q := 35) (by decide)) (CS hH 35 (by decide) rfl) (⟨rfl, by omega, by decide⟩) ?_
            refine g_aload_0 hX (dk DX11_tape 42 rfl) ?_
            refine g_getRs (r := 36) hX (dk DX11_tape 43 rfl) KX11 fX11_56 (by decide) rfl (CLt hH (q := 0) (by decide)) (CC hH 0 (by decide) rfl) (CR hH 0 11 36 (by decide)) ?_
            refine g_iload_1 hX (dk DX11_tape 44 rfl) ?_
            refine i_aaload (i0 := 7) hX (dk DX11_tape 45 rfl) (CLt hH (q := 36) (by decide)) (CS hH 36 (by decide) rfl) (by decide) rfl rfl (⟨rfl, by omega, by decide⟩) (IT_r hH (by omega)) ?_
            refine g_lconst (v := 0) hX (dk DX11_tape 46 rfl) (by decide) ?_
            refine g_c2v hX sX11_tape_76 (by decide) (Nat.le_of_ble_eq_true rfl) rcN (by decide) (by decide) (c_J7_fill_d0a16 hG (len := 60) (IT_lt hH (by omega)) (IT_sh hH (by omega)) (by decide)) ?_
            rintro I2 h2 -
            refine g_iconst (v := 1) hX (dk DX11_tape 48 rfl) (by decide) ?_
            refine g_ireturn hX (dk DX11_tape 49 rfl) rfl (rfl) (by decide) (by decide) ?_
            exact qA_of (by (try first | rw [if_pos hc1] | rw [if_neg hc1] | rw [if_neg (not_not_intro hc1)]); (try first | rw [if_pos hc2] | rw [if_neg hc2] | rw [if_neg (not_not_intro hc2)]); (try first | rw [if_pos hc3] | rw [if_neg hc3] | rw [if_neg (not_not_intro hc3)]); (try first | rw [if_pos hc4] | rw [if_neg hc4] | rw [if_neg (not_not_intro hc4)]); (try first | rw [if_pos hc5] | rw [if_neg hc5] | rw [if_neg (not_not_intro hc5)]); first | done | rfl | contradiction)
          · refine g_iconst (v := 0) hX (dk DX11_tape 38 rfl) (by decide) ?_
            refine g_goto (tgt := 68) hX (dk DX11_tape 39 rfl) (by decide) ?_
            refine i_iastore hX (dk DX11_tape 41 rfl) (CLt hH (q := 35) (by decide)) (CS hH 35 (by decide) rfl) (⟨rfl, by omega, by decide⟩) ?_
            refine g_aload_0 hX (dk DX11_tape 42 rfl) ?_
            refine g_getRs (r := 36) hX (dk DX11_tape 43 rfl) KX11 fX11_56 (by decide) rfl (CLt hH (q := 0) (by decide)) (CC hH 0 (by decide) rfl) (CR hH 0 11 36 (by decide)) ?_
            refine g_iload_1 hX (dk DX11_tape 44 rfl) ?_
            refine i_aaload (i0 := 7) hX (dk DX11_tape 45 rfl) (CLt hH (q := 36) (by decide)) (CS hH 36 (by decide) rfl) (by decide) rfl rfl (⟨rfl, by omega, by decide⟩) (IT_r hH (by omega)) ?_
            refine g_lconst (v := 0) hX (dk DX11_tape 46 rfl) (by decide) ?_
            refine g_c2v hX sX11_tape_76 (by decide) (Nat.le_of_ble_eq_true rfl) rcN (by decide) (by decide) (c_J7_fill_d0a16 hG (len := 60) (IT_lt hH (by omega)) (IT_sh hH (by omega)) (by decide)) ?_
            rintro I2 h2 -
            refine g_iconst (v := 1) hX (dk DX11_tape 48 rfl) (by decide) ?_
            refine g_ireturn hX (dk DX11_tape 49 rfl) rfl (rfl) (by decide) (by decide) ?_
            exact qA_of (by (try first | rw [if_pos hc1] | rw [if_neg hc1] | rw [if_neg (not_not_intro hc1)]); (try first | rw [if_pos hc2] | rw [if_neg hc2] | rw [if_neg (not_not_intro hc2)]); (try first | rw [if_pos hc3] | rw [if_neg hc3] | rw [if_neg (not_not_intro hc3)]); (try first | rw [if_pos hc4] | rw [if_neg hc4] | rw [if_neg (not_not_intro hc4)]); (try first | rw [if_pos hc5] | rw [if_neg hc5] | rw [if_neg (not_not_intro hc5)]); first | done | rfl | contradiction)
        · refine g_iload_3 hX (dk DX11_tape 23 rfl) ?_
          refine g_if_ge (tgt := 46) hX (dk DX11_tape 24 rfl) (by decide) (fun hc6 => ?_) (fun hc6 => ?_)
          · refine g_aload_0 hX (dk DX11_tape 27 rfl) ?_
            refine g_getRs (r := 34) hX (dk DX11_tape 28 rfl) KX11 fX11_47 (by decide) rfl (CLt hH (q := 0) (by decide)) (CC hH 0 (by decide) rfl) (CR hH 0 9 34 (by decide)) ?_
            refine g_iload_1 hX (dk DX11_tape 29 rfl) ?_
            refine g_iload_2 hX (dk DX11_tape 30 rfl) ?_
            refine i_iastore hX (dk DX11_tape 31 rfl) (CLt hH (q := 34) (by decide)) (CS hH 34 (by decide) rfl) (⟨rfl, by omega, by decide⟩) ?_
            refine g_aload_0 hX (dk DX11_tape 32 rfl) ?_
            refine g_getRs (r := 35) hX (dk DX11_tape 33 rfl) KX11 fX11_51 (by decide) rfl (CLt hH (q := 0) (by decide)) (CC hH 0 (by decide) rfl) (CR hH 0 10 35 (by decide)) ?_
            refine g_iload_1 hX (dk DX11_tape 34 rfl) ?_
            refine g_iload_2 hX (dk DX11_tape 35 rfl) ?_
            refine g_iconst (v := -1) hX (dk DX11_tape 36 rfl) (by decide) ?_
            refine g_icmp_ne (tgt := 67) hX (dk DX11_tape 37 rfl) (by decide) (fun hc7 => ?_) (fun hc7 => ?_)
            · refine g_iload_3 hX (dk DX11_tape 40 rfl) ?_
              refine i_iastore hX (dk DX11_tape 41 rfl) (CLt hH (q := 35) (by decide)) (CS hH 35 (by decide) rfl) (⟨rfl, by omega, by decide⟩) ?_
              refine g_aload_0 hX (dk DX11_tape 42 rfl) ?_
              refine g_getRs (r := 36) hX (dk DX11_tape 43 rfl) KX11 fX11_56 (by decide) rfl (CLt hH (q := 0) (by decide)) (CC hH 0 (by decide) rfl) (CR hH 0 11 36 (by decide)) ?_
              refine g_iload_1 hX (dk DX11_tape 44 rfl) ?_
              refine i_aaload (i0 := 7) hX (dk DX11_tape 45 rfl) (CLt hH (q := 36) (by decide)) (CS hH 36 (by decide) rfl) (by decide) rfl rfl (⟨rfl, by omega, by decide⟩) (IT_r hH (by omega)) ?_
              refine g_lconst (v := 0) hX (dk DX11_tape 46 rfl) (by decide) ?_
              refine g_c2v hX sX11_tape_76 (by decide) (Nat.le_of_ble_eq_true rfl) rcN (by decide) (by decide) (c_J7_fill_d0a16 hG (len := 60) (IT_lt hH (by omega)) (IT_sh hH (by omega)) (by decide)) ?_
              rintro I2 h2 -
              refine g_iconst (v := 1) hX (dk DX11_tape 48 rfl) (by decide) ?_
              refine g_ireturn hX (dk DX11_tape 49 rfl) rfl (rfl) (by decide) (by decide) ?_
              exact qA_of (by (try first | rw [if_pos hc1] | rw [if_neg hc1] | rw [if_neg (not_not_intro hc1)]); (try first | rw [if_pos hc2] | rw [if_neg hc2] | rw [if_neg (not_not_intro hc2)]); (try first | rw [if_pos hc3] | rw [if_neg hc3] | rw [if_neg (not_not_intro hc3)]); (try first | rw [if_pos hc4] | rw [if_neg hc4] | rw [if_neg (not_not_intro hc4)]); (try first | rw [if_pos hc6] | rw [if_neg hc6] | rw [if_neg (not_not_intro hc6)]); (try first | rw [if_pos hc7] | rw [if_neg hc7] | rw [if_neg (not_not_intro hc7)]); first | done | rfl | contradiction)
            · refine g_iconst (v := 0) hX (dk DX11_tape 38 rfl) (by decide) ?_
              refine g_goto (tgt := 68) hX (dk DX11_tape 39 rfl) (by decide) ?_
              refine i_iastore hX (dk DX11_tape 41 rfl) (CLt hH (q := 35) (by decide)) (CS hH 35 (by decide) rfl) (⟨rfl, by omega, by decide⟩) ?_
              refine g_aload_0 hX (dk DX11_tape 42 rfl) ?_
              refine g_getRs (r := 36) hX (dk DX11_tape 43 rfl) KX11 fX11_56 (by decide) rfl (CLt hH (q := 0) (by decide)) (CC hH 0 (by decide) rfl) (CR hH 0 11 36 (by decide)) ?_
              refine g_iload_1 hX (dk DX11_tape 44 rfl) ?_
              refine i_aaload (i0 := 7) hX (dk DX11_tape 45 rfl) (CLt hH (q := 36) (by decide)) (CS hH 36 (by decide) rfl) (by decide) rfl rfl (⟨rfl, by omega, by decide⟩) (IT_r hH (by omega)) ?_
              refine g_lconst (v := 0) hX (dk DX11_tape 46 rfl) (by decide) ?_
              refine g_c2v hX sX11_tape_76 (by decide) (Nat.le_of_ble_eq_true rfl) rcN (by decide) (by decide) (c_J7_fill_d0a16 hG (len := 60) (IT_lt hH (by omega)) (IT_sh hH (by omega)) (by decide)) ?_
              rintro I2 h2 -
              refine g_iconst (v := 1) hX (dk DX11_tape 48 rfl) (by decide) ?_
              refine g_ireturn hX (dk DX11_tape 49 rfl) rfl (rfl) (by decide) (by decide) ?_
              exact qA_of (by (try first | rw [if_pos hc1] | rw [if_neg hc1] | rw [if_neg (not_not_intro hc1)]); (try first | rw [if_pos hc2] | rw [if_neg hc2] | rw [if_neg (not_not_intro hc2)]); (try first | rw [if_pos hc3] | rw [if_neg hc3] | rw [if_neg (not_not_intro hc3)]); (try first | rw [if_pos hc4] | rw [if_neg hc4] | rw [if_neg (not_not_intro hc4)]); (try first | rw [if_pos hc6] | rw [if_neg hc6] | rw [if_neg (not_not_intro hc6)]); (try first | rw [if_pos hc7] | rw [if_neg hc7] | rw [if_neg (not_not_intro hc7)]); first | done | rfl | contradiction)
          · refine g_bipush (v := -14) hX (dk DX11_tape 25 rfl) (by decide) ?_
            refine g_ireturn hX (dk DX11_tape 26 rfl) rfl (rfl) (by decide) (by decide) ?_
            exact qA_of (by (try first | rw [if_pos hc1] | rw [if_neg hc1] | rw [if_neg (not_not_intro hc1)]); (try first | rw [if_pos hc2] | rw [if_neg hc2] | rw [if_neg (not_not_intro hc2)]); (try first | rw [if_pos hc3] | rw [if_neg hc3] | rw [if_neg (not_not_intro hc3)]); (try first | rw [if_pos hc4] | rw [if_neg hc4] | rw [if_neg (not_not_intro hc4)]); (try first | rw [if_pos hc6] | rw [if_neg hc6] | rw [if_neg (not_not_intro hc6)]); first | done | rfl | contradiction)
      · refine g_iload_3 hX (dk DX11_tape 15 rfl) ?_
        refine g_bipush (v := 60) hX (dk DX11_tape 16 rfl) (by decide) ?_
        refine g_icmp_le (tgt := 34) hX (dk DX11_tape 17 rfl) (by decide) (fun hc8 => ?_) (fun hc8 => ?_)
        · refine g_iload_2 hX (dk DX11_tape 20 rfl) ?_
          refine g_iconst (v := -1) hX (dk DX11_tape 21 rfl) (by decide) ?_
          refine g_icmp_eq (tgt := 46) hX (dk DX11_tape 22 rfl) (by decide) (fun hc9 => ?_) (fun hc9 => ?_)
          · refine g_aload_0 hX (dk DX11_tape 27 rfl) ?_
            refine g_getRs (r := 34) hX (dk DX11_tape 28 rfl) KX11 fX11_47 (by decide) rfl (CLt hH (q := 0) (by decide)) (CC hH 0 (by decide) rfl) (CR hH 0 9 34 (by decide)) ?_
            refine g_iload_1 hX (dk DX11_tape 29 rfl) ?_
            refine g_iload_2 hX (dk DX11_tape 30 rfl) ?_
            refine i_iastore hX (dk DX11_tape 31 rfl) (CLt hH (q := 34) (by decide)) (CS hH 34 (by decide) rfl) (⟨rfl, by omega, by decide⟩) ?_
            refine g_aload_0 hX (dk DX11_tape 32 rfl) ?_
            refine g_getRs (r := 35) hX (dk DX11_tape 33 rfl) KX11 fX11_51 (by decide) rfl (CLt hH (q := 0) (by decide)) (CC hH 0 (by decide) rfl) (CR hH 0 10 35 (by decide)) ?_
            refine g_iload_1 hX (dk DX11_tape 34 rfl) ?_
            refine g_iload_2 hX (dk DX11_tape 35 rfl) ?_
            refine g_iconst (v := -1) hX (dk DX11_tape 36 rfl) (by decide) ?_
            refine g_icmp_ne (tgt := 67) hX (dk DX11_tape 37 rfl) (by decide) (fun hc10 => ?_) (fun hc10 => ?_)
            · refine g_iload_3 hX (dk DX11_tape 40 rfl) ?_
              refine i_iastore hX (dk DX11_tape 41 rfl) (CLt hH (q := 35) (by decide)) (CS hH 35 (by decide) rfl) (⟨rfl, by omega, by decide⟩) ?_
              refine g_aload_0 hX (dk DX11_tape 42 rfl) ?_
              refine g_getRs (r := 36) hX (dk DX11_tape 43 rfl) KX11 fX11_56 (by decide) rfl (CLt hH (q := 0) (by decide)) (CC hH 0 (by decide) rfl) (CR hH 0 11 36 (by decide)) ?_
              refine g_iload_1 hX (dk DX11_tape 44 rfl) ?_
              refine i_aaload (i0 := 7) hX (dk DX11_tape 45 rfl) (CLt hH (q := 36) (by decide)) (CS hH 36 (by decide) rfl) (by decide) rfl rfl (⟨rfl, by omega, by decide⟩) (IT_r hH (by omega)) ?_
              refine g_lconst (v := 0) hX (dk DX11_tape 46 rfl) (by decide) ?_
              refine g_c2v hX sX11_tape_76 (by decide) (Nat.le_of_ble_eq_true rfl) rcN (by decide) (by decide) (c_J7_fill_d0a16 hG (len := 60) (IT_lt hH (by omega)) (IT_sh hH (by omega)) (by decide)) ?_
              rintro I2 h2 -
              refine g_iconst (v := 1) hX (dk DX11_tape 48 rfl) (by decide) ?_
              refine g_ireturn hX (dk DX11_tape 49 rfl) rfl (rfl) (by decide) (by decide) ?_
              exact qA_of (by (try first | rw [if_pos hc1] | rw [if_neg hc1] | rw [if_neg (not_not_intro hc1)]); (try first | rw [if_pos hc2] | rw [if_neg hc2] | rw [if_neg (not_not_intro hc2)]); (try first | rw [if_pos hc3] | rw [if_neg hc3] | rw [if_neg (not_not_intro hc3)]); (try first | rw [if_pos hc8] | rw [if_neg hc8] | rw [if_neg (not_not_intro hc8)]); (try first | rw [if_pos hc9] | rw [if_neg hc9] | rw [if_neg (not_not_intro hc9)]); (try first | rw [if_pos hc10] | rw [if_neg hc10] | rw [if_neg (not_not_intro hc10)]); first | done | rfl | contradiction)
            · refine g_iconst (v := 0) hX (dk DX11_tape 38 rfl) (by decide) ?_
              refine g_goto (tgt := 68) hX (dk DX11_tape 39 rfl) (by decide) ?_
              refine i_iastore hX (dk DX11_tape 41 rfl) (CLt hH (q := 35) (by decide)) (CS hH 35 (by decide) rfl) (⟨rfl, by omega, by decide⟩) ?_
              refine g_aload_0 hX (dk DX11_tape 42 rfl) ?_
              refine g_getRs (r := 36) hX (dk DX11_tape 43 rfl) KX11 fX11_56 (by decide) rfl (CLt hH (q := 0) (by decide)) (CC hH 0 (by decide) rfl) (CR hH 0 11 36 (by decide)) ?_
              refine g_iload_1 hX (dk DX11_tape 44 rfl) ?_
              refine i_aaload (i0 := 7) hX (dk DX11_tape 45 rfl) (CLt hH (q := 36) (by decide)) (CS hH 36 (by decide) rfl) (by decide) rfl rfl (⟨rfl, by omega, by decide⟩) (IT_r hH (by omega)) ?_
              refine g_lconst (v := 0) hX (dk DX11_tape 46 rfl) (by decide) ?_
              refine g_c2v hX sX11_tape_76 (by decide) (Nat.le_of_ble_eq_true rfl) rcN (by decide) (by decide) (c_J7_fill_d0a16 hG (len := 60) (IT_lt hH (by omega)) (IT_sh hH (by omega)) (by decide)) ?_
              rintro I2 h2 -
              refine g_iconst (v := 1) hX (dk DX11_tape 48 rfl) (by decide) ?_
              refine g_ireturn hX (dk DX11_tape 49 rfl) rfl (rfl) (by decide) (by decide) ?_
              exact qA_of (by (try first | rw [if_pos hc1] | rw [if_neg hc1] | rw [if_neg (not_not_intro hc1)]); (try first | rw [if_pos hc2] | rw [if_neg hc2] | rw [if_neg (not_not_intro hc2)]); (try first | rw [if_pos hc3] | rw [if_neg hc3] | rw [if_neg (not_not_intro hc3)]); (try first | rw [if_pos hc8] | rw [if_neg hc8] | rw [if_neg (not_not_intro hc8)]); (try first | rw [if_pos hc9] | rw [if_neg hc9] | rw [if_neg (not_not_intro hc9)]); (try first | rw [if_pos hc10] | rw [if_neg hc10] | rw [if_neg (not_not_intro hc10)]); first | done | rfl | contradiction)
          · refine g_iload_3 hX (dk DX11_tape 23 rfl) ?_
            refine g_if_ge (tgt := 46) hX (dk DX11_tape 24 rfl) (by decide) (fun hc11 => ?_) (fun hc11 => ?_)
            · refine g_aload_0 hX (dk DX11_tape 27 rfl) ?_
              refine g_getRs (r := 34) hX (dk DX11_tape 28 rfl) KX11 fX11_47 (by decide) rfl (CLt hH (q := 0) (by decide)) (CC hH 0 (by decide) rfl) (CR hH 0 9 34 (by decide)) ?_
              refine g_iload_1 hX (dk DX11_tape 29 rfl) ?_
              refine g_iload_2 hX (dk DX11_tape 30 rfl) ?_
              refine i_iastore hX (dk DX11_tape 31 rfl) (CLt hH (q := 34) (by decide)) (CS hH 34 (by decide) rfl) (⟨rfl, by omega, by decide⟩) ?_
              refine g_aload_0 hX (dk DX11_tape 32 rfl) ?_
              refine g_getRs (r := 35) hX (dk DX11_tape 33 rfl) KX11 fX11_51 (by decide) rfl (CLt hH (q := 0) (by decide)) (CC hH 0 (by decide) rfl) (CR hH 0 10 35 (by decide)) ?_
              refine g_iload_1 hX (dk DX11_tape 34 rfl) ?_
              refine g_iload_2 hX (dk DX11_tape 35 rfl) ?_
              refine g_iconst (v := -1) hX (dk DX11_tape 36 rfl) (by decide) ?_
              refine g_icmp_ne (tgt := 67) hX (dk DX11_tape 37 rfl) (by decide) (fun hc12 => ?_) (fun hc12 => ?_)
              · refine g_iload_3 hX (dk DX11_tape 40 rfl) ?_
                refine i_iastore hX (dk DX11_tape 41 rfl) (CLt hH (q := 35) (by decide)) (CS hH 35 (by decide) rfl) (⟨rfl, by omega, by decide⟩) ?_
                refine g_aload_0 hX (dk DX11_tape 42 rfl) ?_
                refine g_getRs (r := 36) hX (dk DX11_tape 43 rfl) KX11 fX11_56 (by decide) rfl (CLt hH (q := 0) (by decide)) (CC hH 0 (by decide) rfl) (CR hH 0 11 36 (by decide)) ?_
                refine g_iload_1 hX (dk DX11_tape 44 rfl) ?_
                refine i_aaload (i0 := 7) hX (dk DX11_tape 45 rfl) (CLt hH (q := 36) (by decide)) (CS hH 36 (by decide) rfl) (by decide) rfl rfl (⟨rfl, by omega, by decide⟩) (IT_r hH (by omega)) ?_
                refine g_lconst (v := 0) hX (dk DX11_tape 46 rfl) (by decide) ?_
                refine g_c2v hX sX11_tape_76 (by decide) (Nat.le_of_ble_eq_true rfl) rcN (by decide) (by decide) (c_J7_fill_d0a16 hG (len := 60) (IT_lt hH (by omega)) (IT_sh hH (by omega)) (by decide)) ?_
                rintro I2 h2 -
                refine g_iconst (v := 1) hX (dk DX11_tape 48 rfl) (by decide) ?_
                refine g_ireturn hX (dk DX11_tape 49 rfl) rfl (rfl) (by decide) (by decide) ?_
                exact qA_of (by (try first | rw [if_pos hc1] | rw [if_neg hc1] | rw [if_neg (not_not_intro hc1)]); (try first | rw [if_pos hc2] | rw [if_neg hc2] | rw [if_neg (not_not_intro hc2)]); (try first | rw [if_pos hc3] | rw [if_neg hc3] | rw [if_neg (not_not_intro hc3)]); (try first | rw [if_pos hc8] | rw [if_neg hc8] | rw [if_neg (not_not_intro hc8)]); (try first | rw [if_pos hc9] | rw [if_neg hc9] | rw [if_neg (not_not_intro hc9)]); (try first | rw [if_pos hc11] | rw [if_neg hc11] | rw [if_neg (not_not_intro hc11)]); (try first | rw [if_pos hc12] | rw [if_neg hc12] | rw [if_neg (not_not_intro hc12)]); first | done | rfl | contradiction)
              · refine g_iconst (v := 0) hX (dk DX11_tape 38 rfl) (by decide) ?_
                refine g_goto (tgt := 68) hX (dk DX11_tape 39 rfl) (by decide) ?_
                refine i_iastore hX (dk DX11_tape 41 rfl) (CLt hH (q := 35) (by decide)) (CS hH 35 (by decide) rfl) (⟨rfl, by omega, by decide⟩) ?_
                refine g_aload_0 hX (dk DX11_tape 42 rfl) ?_
                refine g_getRs (r := 36) hX (dk DX11_tape 43 rfl) KX11 fX11_56 (by decide) rfl (CLt hH (q := 0) (by decide)) (CC hH 0 (by decide) rfl) (CR hH 0 11 36 (by decide)) ?_
                refine g_iload_1 hX (dk DX11_tape 44 rfl) ?_
                refine i_aaload (i0 := 7) hX (dk DX11_tape 45 rfl) (CLt hH (q := 36) (by decide)) (CS hH 36 (by decide) rfl) (by decide) rfl rfl (⟨rfl, by omega, by decide⟩) (IT_r hH (by omega)) ?_
                refine g_lconst (v := 0) hX (dk DX11_tape 46 rfl) (by decide) ?_
                refine g_c2v hX sX11_tape_76 (by decide) (Nat.le_of_ble_eq_true rfl) rcN (by decide) (by decide) (c_J7_fill_d0a16 hG (len := 60) (IT_lt hH (by omega)) (IT_sh hH (by omega)) (by decide)) ?_
                rintro I2 h2 -
                refine g_iconst (v := 1) hX (dk DX11_tape 48 rfl) (by decide) ?_
                refine g_ireturn hX (dk DX11_tape 49 rfl) rfl (rfl) (by decide) (by decide) ?_
                exact qA_of (by (try first | rw [if_pos hc1] | rw [if_neg hc1] | rw [if_neg (not_not_intro hc1)]); (try first | rw [if_pos hc2] | rw [if_neg hc2] | rw [if_neg (not_not_intro hc2)]); (try first | rw [if_pos hc3] | rw [if_neg hc3] | rw [if_neg (not_not_intro hc3)]); (try first | rw [if_pos hc8] | rw [if_neg hc8] | rw [if_neg (not_not_intro hc8)]); (try first | rw [if_pos hc9] | rw [if_neg hc9] | rw [if_neg (not_not_intro hc9)]); (try first | rw [if_pos hc11] | rw [if_neg hc11] | rw [if_neg (not_not_intro hc11)]); (try first | rw [if_pos hc12] | rw [if_neg hc12] | rw [if_neg (not_not_intro hc12)]); first | done | rfl | contradiction)
            · refine g_bipush (v := -14) hX (dk DX11_tape 25 rfl) (by decide) ?_
              refine g_ireturn hX (dk DX11_tape 26 rfl) rfl (rfl) (by decide) (by decide) ?_
              exact qA_of (by (try first | rw [if_pos hc1] | rw [if_neg hc1] | rw [if_neg (not_not_intro hc1)]); (try first | rw [if_pos hc2] | rw [if_neg hc2] | rw [if_neg (not_not_intro hc2)]); (try first | rw [if_pos hc3] | rw [if_neg hc3] | rw [if_neg (not_not_intro hc3)]); (try first | rw [if_pos hc8] | rw [if_neg hc8] | rw [if_neg (not_not_intro hc8)]); (try first | rw [if_pos hc9] | rw [if_neg hc9] | rw [if_neg (not_not_intro hc9)]); (try first | rw [if_pos hc11] | rw [if_neg hc11] | rw [if_neg (not_not_intro hc11)]); first | done | rfl | contradiction)
        · refine g_bipush (v := -2) hX (dk DX11_tape 18 rfl) (by decide) ?_
          refine g_ireturn hX (dk DX11_tape 19 rfl) rfl (rfl) (by decide) (by decide) ?_
          exact qA_of (by (try first | rw [if_pos hc1] | rw [if_neg hc1] | rw [if_neg (not_not_intro hc1)]); (try first | rw [if_pos hc2] | rw [if_neg hc2] | rw [if_neg (not_not_intro hc2)]); (try first | rw [if_pos hc3] | rw [if_neg hc3] | rw [if_neg (not_not_intro hc3)]); (try first | rw [if_pos hc8] | rw [if_neg hc8] | rw [if_neg (not_not_intro hc8)]); first | done | rfl | contradiction)
  · refine g_iconst (v := -1) hX (dk DX11_tape 5 rfl) (by decide) ?_
    refine g_ireturn hX (dk DX11_tape 6 rfl) rfl (rfl) (by decide) (by decide) ?_
    exact qA_of (by (try first | rw [if_pos hc1] | rw [if_neg hc1] | rw [if_neg (not_not_intro hc1)]); first | done | rfl | contradiction)

