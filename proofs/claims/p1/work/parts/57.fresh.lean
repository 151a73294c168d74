theorem Con.imp {G : Gt} {d mc ms : Nat} {y : Mt} {av : List Value} {I : It} {h : Ht} {P Q : Pt3} (hC : Con G d mc ms y av I h P) (hPQ : ∀ r I' h', P r I' h' → Q r I' h') : Con G d mc ms y av I h Q := by
  intro l p e h1 h2 h3 s m args below hf happ hP hK
  obtain ⟨n, o, a1, a2, a3, ⟨⟨r, I', h', e1, e2, e3⟩, e4⟩, hL⟩ := hC l p e h1 h2 h3 s m args below hf happ hP hK
  exact ⟨n, o, a1, a2, a3, ⟨⟨r, I', h', e1, hPQ _ _ _ e2, e3⟩, e4⟩, hL⟩
def co0 : Nat → Nat → Nat → Nat → Int32 := fun _ _ _ _ => 0
theorem bsC_0 (hh a b : Nat) (f : Nat → Int32) : ∀ k c, bsC co0 hh a b k c (0, f) = (0, f) := by
  intro k
  induction k with
  | zero => intro c; rfl
  | succ k ih => intro c; rw [bsC_s, if_neg (show ¬ (co0 a b c (hh - a - b - c) < ((0, f) : Int32 × (Nat → Int32)).1) from (by decide : ¬ ((0 : Int32) < 0)))]; exact ih (c + 1)
theorem bsB_0 (hh a : Nat) (f : Nat → Int32) : ∀ k b, bsB co0 hh a k b (0, f) = (0, f) := by
  intro k
  induction k with
  | zero => intro b; rfl
  | succ k ih => intro b; rw [bsB_s, bsC_0]; exact ih (b + 1)
theorem bsA_0 (hh : Nat) (f : Nat → Int32) : ∀ k a, bsA co0 hh k a (0, f) = (0, f) := by
  intro k
  induction k with
  | zero => intro a; rfl
  | succ k ih => intro a; rw [bsA_s, bsB_0]; exact ih (a + 1)
theorem bs_0 (hh : Nat) (f : Nat → Int32) : bsA co0 hh (hh + 1) 0 (2147483647, f) = (0, h4 0 0 0 hh) := by
  rw [bsA_s, show hh - 0 + 1 = hh + 1 from rfl, bsB_s, show hh - 0 - 0 + 1 = hh + 1 from rfl, bsC_s, if_pos (show (co0 0 0 0 (hh - 0 - 0 - 0) < ((2147483647, f) : Int32 × (Nat → Int32)).1) from (by decide : (0 : Int32) < 2147483647))]
  show bsA co0 hh hh 1 (bsB co0 hh 0 hh 1 (bsC co0 hh 0 0 hh 1 (0, h4 0 0 0 hh))) = _
  rw [bsC_0, bsB_0, bsA_0]
theorem h4_w {hh y : Nat} (hy : y ≤ 3) : h4 0 0 0 hh y = if nI y = 3 then nI hh else 0 := by
  rcases (by omega : y = 0 ∨ y = 1 ∨ y = 2 ∨ y = 3) with rfl | rfl | rfl | rfl <;> rfl
set_option maxRecDepth 8000 in
set_option maxHeartbeats 4000000 in
theorem n_split {G : Gt} (hG : Gok G) {I : It} {h : Ht} (hH : HX h) (hN : NX I) (hP : NRF h) {a n w : Int32} : Con G 10 0 0 mX11_split [.ref 0, .int a, .int n, .int w] I h (qA (if ¬ (-1 ≤ w ∧ w ≤ 3) then -10001 else if ¬ (0 ≤ a ∧ a ≤ 9) then -10002 else if ¬ (0 ≤ n ∧ n ≤ 60) then -10002 else if 0 ≤ w then (if w = 3 then a else 0) else 0)) := by
  refine con_intro (own := RX11) (lo0 := [some (.ref 0), some (.int a), some (.int n), some (.int w), none]) hG rfl pl_X11 (Nat.le_of_ble_eq_true rfl) rfl (fun X hX => ?_)
  refine g_iload_3 hX (dk DX11_split 0 rfl) ?_
  refine g_iconst (v := -1) hX (dk DX11_split 1 rfl) (by decide) ?_
  refine g_iconst (v := 3) hX (dk DX11_split 2 rfl) (by decide) ?_
  refine g_c3I hX sX11_split_3 (by decide) (Nat.le_of_ble_eq_true rfl) rcN (by decide) (by decide) (c_X11_isNot hG ) ?_
  refine g_ifb_eq (tgt := 13) hX (dk DX11_split 4 rfl) (by decide) (fun hc1 => ?_) (fun hc1 => ?_)
  · have hw := Decidable.not_not.mp hc1
    refine g_iload_1 hX (dk DX11_split 7 rfl) ?_
    refine g_iconst (v := 0) hX (dk DX11_split 8 rfl) (by decide) ?_
    refine g_bipush (v := 9) hX (dk DX11_split 9 rfl) (by decide) ?_
    refine g_c3I hX sX11_split_17 (by decide) (Nat.le_of_ble_eq_true rfl) rcN (by decide) (by decide) (c_X11_isNot hG ) ?_
    refine g_ifb_ne (tgt := 33) hX (dk DX11_split 11 rfl) (by decide) (fun hc2 => ?_) (fun hc2 => ?_)
    · refine g_sipush (v := -10002) hX (dk DX11_split 17 rfl) (by decide) ?_
      refine g_ireturn hX (dk DX11_split 18 rfl) rfl (rfl) (by decide) (by decide) ?_
      exact qA_of (by (try first | rw [if_pos hc1] | rw [if_neg hc1] | rw [if_neg (not_not_intro hc1)]); (try first | rw [if_pos hc2] | rw [if_neg hc2] | rw [if_neg (not_not_intro hc2)]); first | done | rfl)
    · obtain ⟨x, hx, rfl⟩ := in_of (b := 9) (by decide) (Decidable.not_not.mp hc2)
      refine g_iload_2 hX (dk DX11_split 12 rfl) ?_
      refine g_iconst (v := 0) hX (dk DX11_split 13 rfl) (by decide) ?_
      refine g_bipush (v := 60) hX (dk DX11_split 14 rfl) (by decide) ?_
      refine g_c3I hX sX11_split_27 (by decide) (Nat.le_of_ble_eq_true rfl) rcN (by decide) (by decide) (c_X11_isNot hG ) ?_
      refine g_ifb_eq (tgt := 37) hX (dk DX11_split 16 rfl) (by decide) (fun hc3 => ?_) (fun hc3 => ?_)
      · obtain ⟨m, hm, rfl⟩ := in_of (b := 60) (by decide) (Decidable.not_not.mp hc3)
        refine g_aload_0 hX (dk DX11_split 19 rfl) ?_
        refine g_getRs (r := 13) hX (dk DX11_split 20 rfl) KX11 fX11_26 (by decide) rfl (CLt hH (q := 0) (by decide)) (CC hH 0 (by decide) rfl) (CR hH 0 3 13 (by decide)) ?_
        refine g_iload_2 hX (dk DX11_split 21 rfl) ?_
        refine g_c2v hX sX11_split_42 (by decide) (Nat.le_of_ble_eq_true rfl) (rc0 rfl (CLt hH (by decide)) (CC hH 13 (by decide) rfl)) (by decide) (by decide) (n_X0_look hG hH hN hP (by omega)) ?_
        rintro J2 _ ⟨hN, rfl, hsp, hz⟩
        refine g_aload_0 hX (dk DX11_split 23 rfl) ?_
        refine g_getRs (r := 13) hX (dk DX11_split 24 rfl) KX11 fX11_26 (by decide) rfl (CLt hH (q := 0) (by decide)) (CC hH 0 (by decide) rfl) (CR hH 0 3 13 (by decide)) ?_
        refine g_c1V hX sX11_split_49 (by decide) (Nat.le_of_ble_eq_true rfl) (rc0 rfl (CLt hH (by decide)) (CC hH 13 (by decide) rfl)) (by decide) (by decide) (n_X0_hear hG hH hN hP) ?_
        refine g_aload_0 hX (dk DX11_split 26 rfl) ?_
        refine g_getRs (r := 13) hX (dk DX11_split 27 rfl) KX11 fX11_26 (by decide) rfl (CLt hH (q := 0) (by decide)) (CC hH 0 (by decide) rfl) (CR hH 0 3 13 (by decide)) ?_
        refine g_iload_1 hX (dk DX11_split 28 rfl) ?_
        refine g_c2q hX sX11_split_57 (by decide) (Nat.le_of_ble_eq_true rfl) (rc0 rfl (CLt hH (by decide)) (CC hH 13 (by decide) rfl)) (by decide) (by decide) (c_X0_bestSplit hG hH (dd := 5) (co := co0) (K := fun J => NX J ∧ J 13 1 = nI m ∧ ∀ z, z < m → J 14 z = 0) (by omega) (by decide) (fun J y x hK => ⟨NX.sc hK.1 rfl rfl, hK.2⟩) (fun J hK => ⟨NX.kp hK.1 (fun a ha => cpI_off ha) rfl rfl, hK.2⟩) (fun J a b c e hK _ _ => (n_X0_costHanded hG hH hK.1 hP (m := m) (by omega) hK.2.1 hK.2.2).imp (fun r I2 h2 hq => by obtain ⟨x, rfl, rfl, hN2, rfl, h1, h2, h3⟩ := hq; exact ⟨_, rfl, rfl, ⟨hN2, h1, h2⟩, rfl, h3 28 (by decide) (by decide), h3 29 (by decide) (by decide)⟩)) ⟨hN, hsp, hz⟩) ?_
        rintro _ J3 _ ⟨rfl, hb, ⟨hN, -, -⟩, rfl⟩
        rw [bs_0] at hb ⊢
        refine g_istore_4 hX (dk DX11_split 30 rfl) (by decide) rfl ?_
        refine g_iload_3 hX (dk DX11_split 31 rfl) ?_
        refine g_if_ge (tgt := 71) hX (dk DX11_split 32 rfl) (by decide) (fun hc4 => ?_) (fun hc4 => ?_)
        · obtain ⟨y, hy, rfl⟩ := in_of (b := 3) (by decide) ⟨hc4, hw.2⟩
          refine g_aload_0 hX (dk DX11_split 35 rfl) ?_
          refine g_getRs (r := 13) hX (dk DX11_split 36 rfl) KX11 fX11_26 (by decide) rfl (CLt hH (q := 0) (by decide)) (CC hH 0 (by decide) rfl) (CR hH 0 3 13 (by decide)) ?_
          refine g_getRs (r := 29) hX (dk DX11_split 37 rfl) KX0 fX11_205 (by decide) rfl (CLt hH (q := 13) (by decide)) (CC hH 13 (by decide) rfl) (CR hH 13 15 29 (by decide)) ?_
          refine g_iload_3 hX (dk DX11_split 38 rfl) ?_
          refine v_iaload hX (dk DX11_split 39 rfl) (CLt hH (q := 29) (by decide)) (CS hH 29 (by decide) rfl) (⟨rfl, by omega, by decide⟩) ((hb y (by omega)).trans (h4_w hy)) ?_
          refine g_ireturn hX (dk DX11_split 40 rfl) rfl (rfl) (by decide) (by decide) ?_
          exact qA_of (by (try first | rw [if_pos hc1] | rw [if_neg hc1] | rw [if_neg (not_not_intro hc1)]); (try first | rw [if_pos hc2] | rw [if_neg hc2] | rw [if_neg (not_not_intro hc2)]); (try first | rw [if_pos hc3] | rw [if_neg hc3] | rw [if_neg (not_not_intro hc3)]); (try first | rw [if_pos hc4] | rw [if_neg hc4] | rw [if_neg (not_not_intro hc4)]); first | done | rfl)
        · refine g_iload_4 hX (dk DX11_split 33 rfl) ?_
          refine g_goto (tgt := 80) hX (dk DX11_split 34 rfl) (by decide) ?_
          refine g_ireturn hX (dk DX11_split 40 rfl) rfl (rfl) (by decide) (by decide) ?_
          exact qA_of (by (try first | rw [if_pos hc1] | rw [if_neg hc1] | rw [if_neg (not_not_intro hc1)]); (try first | rw [if_pos hc2] | rw [if_neg hc2] | rw [if_neg (not_not_intro hc2)]); (try first | rw [if_pos hc3] | rw [if_neg hc3] | rw [if_neg (not_not_intro hc3)]); (try first | rw [if_pos hc4] | rw [if_neg hc4] | rw [if_neg (not_not_intro hc4)]); first | done | rfl)
      · refine g_sipush (v := -10002) hX (dk DX11_split 17 rfl) (by decide) ?_
        refine g_ireturn hX (dk DX11_split 18 rfl) rfl (rfl) (by decide) (by decide) ?_
        exact qA_of (by (try first | rw [if_pos hc1] | rw [if_neg hc1] | rw [if_neg (not_not_intro hc1)]); (try first | rw [if_pos hc2] | rw [if_neg hc2] | rw [if_neg (not_not_intro hc2)]); (try first | rw [if_pos hc3] | rw [if_neg hc3] | rw [if_neg (not_not_intro hc3)]); first | done | rfl)
  · refine g_sipush (v := -10001) hX (dk DX11_split 5 rfl) (by decide) ?_
    refine g_ireturn hX (dk DX11_split 6 rfl) rfl (rfl) (by decide) (by decide) ?_
    exact qA_of (by (try first | rw [if_pos hc1] | rw [if_neg hc1] | rw [if_neg (not_not_intro hc1)]); first | done | rfl)

