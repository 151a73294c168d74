def nzL : List Nat := [0, 1, 2, 3, 4, 5, 6, 7, 8, 9, 10, 11, 12, 31, 32, 33, 35]
/-- nothing was told yet (cells 13 .. 29 are scratch) -/
def NX (I : It) : Prop := (∀ q, q ∈ nzL → ∀ j, I q j = 0) ∧ ∀ j, j < 6 → I 34 j = -1
theorem NX.of {I : It} (h : IX0 I) : NX I := ⟨fun q hq j => h.1 q (by revert q; decide) (by rintro rfl; revert hq; decide) j, h.2⟩
/-- an answer, nothing else is claimed -/
def qA (v : Int32) : Pt3 := qI fun x _ _ => x = v
theorem qA_of {v x : Int32} {I : It} {h : Ht} (e : x = v) : qA v (some (.int x)) I h := ⟨x, rfl, e⟩
theorem NX.ran {I : It} (hN : NX I) : NX (upI I 32 1 0) := ⟨fun q hq j => by
  unfold upI
  split
  · rfl
  · exact hN.1 q hq j, fun j hj => by rw [upn (by omega)]; exact hN.2 j hj⟩
def NRF (h : Ht) : Prop := hR h 1 13 = none ∧ hR h 7 13 = none
set_option maxRecDepth 8000 in
set_option maxHeartbeats 4000000 in
theorem n_find {G : Gt} (hG : Gok G) {I : It} {h : Ht} (hH : HX h) {a : Int32} (hN : NX I) : Con G 1 0 0 mX5_find [.ref 1, .int a] I h (rR none I h) := by
  refine con_intro (own := RX5) (lo0 := [some (.ref 1), some (.int a)]) hG rfl pl_X5 (Nat.le_of_ble_eq_true rfl) rfl (fun X hX => ?_)
  refine g_iload_1 hX (dk DX5_find 0 rfl) ?_
  refine g_if_lt (tgt := 18) hX (dk DX5_find 1 rfl) (by decide) (fun hc1 => ?_) (fun hc1 => ?_)
  · refine g_aconst_null hX (dk DX5_find 9 rfl) ?_
    refine g_goto (tgt := 28) hX (dk DX5_find 10 rfl) (by decide) ?_
    refine g_areturn (r := none) hX (dk DX5_find 15 rfl) rfl rfl (Or.inl ⟨_, rfl⟩) (by decide) (by decide) ?_
    exact rR_of rfl rfl rfl
  · refine g_iload_1 hX (dk DX5_find 2 rfl) ?_
    refine g_aload_0 hX (dk DX5_find 3 rfl) ?_
    refine g_getIv hX (dk DX5_find 4 rfl) KX5 fX5_36 (by decide) rfl (CLt hH (q := 1) (by decide)) (CC hH 1 (by decide) rfl) (hN.1 1 (by decide) 2) ?_
    refine g_icmp_ge (tgt := 18) hX (dk DX5_find 5 rfl) (by decide) (fun hc2 => ?_) (fun hc2 => absurd (Int32.not_lt.mp hc1) hc2)
    refine g_aconst_null hX (dk DX5_find 9 rfl) ?_
    refine g_goto (tgt := 28) hX (dk DX5_find 10 rfl) (by decide) ?_
    refine g_areturn (r := none) hX (dk DX5_find 15 rfl) rfl rfl (Or.inl ⟨_, rfl⟩) (by decide) (by decide) ?_
    exact rR_of rfl rfl rfl

set_option maxRecDepth 8000 in
set_option maxHeartbeats 4000000 in
theorem n_of {G : Gt} (hG : Gok G) {I : It} {h : Ht} (hH : HX h) (hN : NX I) {a w : Int32} : Con G 3 0 0 mX11_of [.ref 0, .int a, .int w] I h (qA (-10001)) := by
  refine con_intro (own := RX11) (lo0 := [some (.ref 0), some (.int a), some (.int w), none]) hG rfl pl_X11 (Nat.le_of_ble_eq_true rfl) rfl (fun X hX => ?_)
  refine g_aload_0 hX (dk DX11_of_0 0 rfl) ?_
  refine g_getRs (r := 1) hX (dk DX11_of_0 1 rfl) KX11 fX11_12 (by decide) rfl (CLt hH (q := 0) (by decide)) (CC hH 0 (by decide) rfl) (CR hH 0 0 1 (by decide)) ?_
  refine g_iload_1 hX (dk DX11_of_0 2 rfl) ?_
  refine g_c2R hX sX11_of_5 (by decide) (Nat.le_of_ble_eq_true rfl) (rc0 rfl (CLt hH (by decide)) (CC hH 1 (by decide) rfl)) (by decide) (by decide) (n_find hG hH hN) ?_
  refine g_astoreN_3 hX (dk DX11_of_0 4 rfl) (by decide) rfl ?_
  refine g_aloadN_3 hX (dk DX11_of_0 5 rfl) ?_
  refine g_ifnonnullN hX (dk DX11_of_0 6 rfl) ?_
  refine g_sipush (v := -10001) hX (dk DX11_of_0 7 rfl) (by decide) ?_
  refine g_ireturn hX (dk DX11_of_0 8 rfl) rfl (rfl) (by decide) (by decide) ?_
  exact qA_of (by  first | done | rfl)

set_option maxRecDepth 8000 in
set_option maxHeartbeats 4000000 in
theorem n_needless {G : Gt} (hG : Gok G) {I : It} {h : Ht} (hH : HX h) (hN : NX I) {a z : Int32} : Con G 3 0 0 mX11_needless [.ref 0, .int a, .int z] I h (qA (-1)) := by
  refine con_intro (own := RX11) (lo0 := [some (.ref 0), some (.int a), some (.int z), none]) hG rfl pl_X11 (Nat.le_of_ble_eq_true rfl) rfl (fun X hX => ?_)
  refine g_aload_0 hX (dk DX11_needless 0 rfl) ?_
  refine g_getRs (r := 1) hX (dk DX11_needless 1 rfl) KX11 fX11_12 (by decide) rfl (CLt hH (q := 0) (by decide)) (CC hH 0 (by decide) rfl) (CR hH 0 0 1 (by decide)) ?_
  refine g_iload_1 hX (dk DX11_needless 2 rfl) ?_
  refine g_c2R hX sX11_needless_5 (by decide) (Nat.le_of_ble_eq_true rfl) (rc0 rfl (CLt hH (by decide)) (CC hH 1 (by decide) rfl)) (by decide) (by decide) (n_find hG hH hN) ?_
  refine g_ifnonnullN hX (dk DX11_needless 4 rfl) ?_
  refine g_iconst (v := -1) hX (dk DX11_needless 5 rfl) (by decide) ?_
  refine g_ireturn hX (dk DX11_needless 6 rfl) rfl (rfl) (by decide) (by decide) ?_
  exact qA_of (by  first | done | rfl)

set_option maxRecDepth 8000 in
set_option maxHeartbeats 4000000 in
theorem n_learn {G : Gt} (hG : Gok G) {I : It} {h : Ht} (hH : HX h) (hN : NX I) {a z : Int32} : Con G 3 0 0 mX11_learn [.ref 0, .int a, .int z] I h (qA (-1)) := by
  refine con_intro (own := RX11) (lo0 := [some (.ref 0), some (.int a), some (.int z), none]) hG rfl pl_X11 (Nat.le_of_ble_eq_true rfl) rfl (fun X hX => ?_)
  refine g_aload_0 hX (dk DX11_learn 0 rfl) ?_
  refine g_getRs (r := 1) hX (dk DX11_learn 1 rfl) KX11 fX11_12 (by decide) rfl (CLt hH (q := 0) (by decide)) (CC hH 0 (by decide) rfl) (CR hH 0 0 1 (by decide)) ?_
  refine g_iload_1 hX (dk DX11_learn 2 rfl) ?_
  refine g_c2R hX sX11_learn_5 (by decide) (Nat.le_of_ble_eq_true rfl) (rc0 rfl (CLt hH (by decide)) (CC hH 1 (by decide) rfl)) (by decide) (by decide) (n_find hG hH hN) ?_
  refine g_ifnonnullN hX (dk DX11_learn 4 rfl) ?_
  refine g_iconst (v := -1) hX (dk DX11_learn 5 rfl) (by decide) ?_
  refine g_ireturn hX (dk DX11_learn 6 rfl) rfl (rfl) (by decide) (by decide) ?_
  exact qA_of (by  first | done | rfl)

set_option maxRecDepth 8000 in
set_option maxHeartbeats 4000000 in
theorem n_odds {G : Gt} (hG : Gok G) {I : It} {h : Ht} (hH : HX h) (hN : NX I) {a n : Int32} : Con G 3 0 0 mX11_odds [.ref 0, .int a, .int n] I h (qA (-1)) := by
  refine con_intro (own := RX11) (lo0 := [some (.ref 0), some (.int a), some (.int n), none, none]) hG rfl pl_X11 (Nat.le_of_ble_eq_true rfl) rfl (fun X hX => ?_)
  refine g_aload_0 hX (dk DX11_odds 0 rfl) ?_
  refine g_getRs (r := 1) hX (dk DX11_odds 1 rfl) KX11 fX11_12 (by decide) rfl (CLt hH (q := 0) (by decide)) (CC hH 0 (by decide) rfl) (CR hH 0 0 1 (by decide)) ?_
  refine g_iload_1 hX (dk DX11_odds 2 rfl) ?_
  refine g_c2R hX sX11_odds_5 (by decide) (Nat.le_of_ble_eq_true rfl) (rc0 rfl (CLt hH (by decide)) (CC hH 1 (by decide) rfl)) (by decide) (by decide) (n_find hG hH hN) ?_
  refine g_astoreN_3 hX (dk DX11_odds 4 rfl) (by decide) rfl ?_
  refine g_aloadN_3 hX (dk DX11_odds 5 rfl) ?_
  refine g_ifnonnullN hX (dk DX11_odds 6 rfl) ?_
  refine g_iconst (v := -1) hX (dk DX11_odds 7 rfl) (by decide) ?_
  refine g_ireturn hX (dk DX11_odds 8 rfl) rfl (rfl) (by decide) (by decide) ?_
  exact qA_of (by  first | done | rfl)

set_option maxRecDepth 8000 in
set_option maxHeartbeats 4000000 in
theorem n_said {G : Gt} (hG : Gok G) {I : It} {h : Ht} (hH : HX h) (hN : NX I) {a y : Int32} : Con G 3 0 0 mX11_said [.ref 0, .int a, .int y] I h (qA (-1)) := by
  refine con_intro (own := RX11) (lo0 := [some (.ref 0), some (.int a), some (.int y), none]) hG rfl pl_X11 (Nat.le_of_ble_eq_true rfl) rfl (fun X hX => ?_)
  refine g_aload_0 hX (dk DX11_said 0 rfl) ?_
  refine g_getRs (r := 1) hX (dk DX11_said 1 rfl) KX11 fX11_12 (by decide) rfl (CLt hH (q := 0) (by decide)) (CC hH 0 (by decide) rfl) (CR hH 0 0 1 (by decide)) ?_
  refine g_iload_1 hX (dk DX11_said 2 rfl) ?_
  refine g_c2R hX sX11_said_5 (by decide) (Nat.le_of_ble_eq_true rfl) (rc0 rfl (CLt hH (by decide)) (CC hH 1 (by decide) rfl)) (by decide) (by decide) (n_find hG hH hN) ?_
  refine g_astoreN_3 hX (dk DX11_said 4 rfl) (by decide) rfl ?_
  refine g_aloadN_3 hX (dk DX11_said 5 rfl) ?_
  refine g_ifnull (tgt := 22) hX (dk DX11_said 6 rfl) (by decide) ?_
  refine g_iconst (v := -1) hX (dk DX11_said 12 rfl) (by decide) ?_
  refine g_ireturn hX (dk DX11_said 13 rfl) rfl (rfl) (by decide) (by decide) ?_
  exact qA_of (by  first | done | rfl)

set_option maxRecDepth 8000 in
set_option maxHeartbeats 4000000 in
theorem n_when {G : Gt} (hG : Gok G) {I : It} {h : Ht} (hH : HX h) (hN : NX I) {a : Int32} : Con G 3 0 0 mX11_when [.ref 0, .int a] I h (qA (-1)) := by
  refine con_intro (own := RX11) (lo0 := [some (.ref 0), some (.int a), none]) hG rfl pl_X11 (Nat.le_of_ble_eq_true rfl) rfl (fun X hX => ?_)
  refine g_aload_0 hX (dk DX11_when 0 rfl) ?_
  refine g_getRs (r := 1) hX (dk DX11_when 1 rfl) KX11 fX11_12 (by decide) rfl (CLt hH (q := 0) (by decide)) (CC hH 0 (by decide) rfl) (CR hH 0 0 1 (by decide)) ?_
  refine g_iload_1 hX (dk DX11_when 2 rfl) ?_
  refine g_c2R hX sX11_when_5 (by decide) (Nat.le_of_ble_eq_true rfl) (rc0 rfl (CLt hH (by decide)) (CC hH 1 (by decide) rfl)) (by decide) (by decide) (n_find hG hH hN) ?_
  refine g_astoreN_2 hX (dk DX11_when 4 rfl) (by decide) rfl ?_
  refine g_aloadN_2 hX (dk DX11_when 5 rfl) ?_
  refine g_ifnonnullN hX (dk DX11_when 6 rfl) ?_
  refine g_iconst (v := -1) hX (dk DX11_when 7 rfl) (by decide) ?_
  refine g_goto (tgt := 36) hX (dk DX11_when 8 rfl) (by decide) ?_
  refine g_ireturn hX (dk DX11_when 18 rfl) rfl (rfl) (by decide) (by decide) ?_
  exact qA_of (by  first | done | rfl)

set_option maxRecDepth 8000 in
set_option maxHeartbeats 4000000 in
theorem n_taken {G : Gt} (hG : Gok G) {I : It} {h : Ht} (hH : HX h) (hN : NX I) {a k : Int32} : Con G 3 0 0 mX11_taken [.ref 0, .int a, .int k] I h (qA (if ¬ (0 ≤ k ∧ k ≤ 6) then -2 else -11)) := by
  refine con_intro (own := RX11) (lo0 := [some (.ref 0), some (.int a), some (.int k), none]) hG rfl pl_X11 (Nat.le_of_ble_eq_true rfl) rfl (fun X hX => ?_)
  refine g_iload_2 hX (dk DX11_taken 0 rfl) ?_
  refine g_iconst (v := 0) hX (dk DX11_taken 1 rfl) (by decide) ?_
  refine g_bipush (v := 6) hX (dk DX11_taken 2 rfl) (by decide) ?_
  refine g_c3I hX sX11_taken_4 (by decide) (Nat.le_of_ble_eq_true rfl) rcN (by decide) (by decide) (c_X11_isNot hG ) ?_
  refine g_ifb_eq (tgt := 13) hX (dk DX11_taken 4 rfl) (by decide) (fun hc1 => ?_) (fun hc1 => ?_)
  · refine g_aload_0 hX (dk DX11_taken 7 rfl) ?_
    refine g_getRs (r := 1) hX (dk DX11_taken 8 rfl) KX11 fX11_12 (by decide) rfl (CLt hH (q := 0) (by decide)) (CC hH 0 (by decide) rfl) (CR hH 0 0 1 (by decide)) ?_
    refine g_iload_1 hX (dk DX11_taken 9 rfl) ?_
    refine g_c2R hX sX11_taken_18 (by decide) (Nat.le_of_ble_eq_true rfl) (rc0 rfl (CLt hH (by decide)) (CC hH 1 (by decide) rfl)) (by decide) (by decide) (n_find hG hH hN) ?_
    refine g_astoreN_3 hX (dk DX11_taken 11 rfl) (by decide) rfl ?_
    refine g_aloadN_3 hX (dk DX11_taken 12 rfl) ?_
    refine g_ifnonnullN hX (dk DX11_taken 13 rfl) ?_
    refine g_bipush (v := -11) hX (dk DX11_taken 14 rfl) (by decide) ?_
    refine g_ireturn hX (dk DX11_taken 15 rfl) rfl (rfl) (by decide) (by decide) ?_
    exact qA_of (by (try first | rw [if_pos hc1] | rw [if_neg hc1] | rw [if_neg (not_not_intro hc1)]); first | done | rfl)
  · refine g_bipush (v := -2) hX (dk DX11_taken 5 rfl) (by decide) ?_
    refine g_ireturn hX (dk DX11_taken 6 rfl) rfl (rfl) (by decide) (by decide) ?_
    exact qA_of (by (try first | rw [if_pos hc1] | rw [if_neg hc1] | rw [if_neg (not_not_intro hc1)]); first | done | rfl)

set_option maxRecDepth 8000 in
set_option maxHeartbeats 4000000 in
theorem n_list {G : Gt} (hG : Gok G) {I : It} {h : Ht} (hH : HX h) (hN : NX I) {w a : Int32} : Con G 3 0 0 mX11_list [.ref 0, .int w, .int a] I h (qA (if w = -1 then 0 else if ¬ (0 ≤ w ∧ w ≤ 99) then -2 else -1)) := by
  refine con_intro (own := RX11) (lo0 := [some (.ref 0), some (.int w), some (.int a)]) hG rfl pl_X11 (Nat.le_of_ble_eq_true rfl) rfl (fun X hX => ?_)
  refine g_iload_1 hX (dk DX11_list 0 rfl) ?_
  refine g_iconst (v := -1) hX (dk DX11_list 1 rfl) (by decide) ?_
  refine g_icmp_ne (tgt := 15) hX (dk DX11_list 2 rfl) (by decide) (fun hc1 => ?_) (fun hc1 => ?_)
  · refine g_iload_1 hX (dk DX11_list 9 rfl) ?_
    refine g_iconst (v := 0) hX (dk DX11_list 10 rfl) (by decide) ?_
    refine g_bipush (v := 99) hX (dk DX11_list 11 rfl) (by decide) ?_
    refine g_c3I hX sX11_list_19 (by decide) (Nat.le_of_ble_eq_true rfl) rcN (by decide) (by decide) (c_X11_isNot hG ) ?_
    refine g_ifb_eq (tgt := 28) hX (dk DX11_list 13 rfl) (by decide) (fun hc2 => ?_) (fun hc2 => ?_)
    · refine g_aload_0 hX (dk DX11_list 16 rfl) ?_
      refine g_getRs (r := 1) hX (dk DX11_list 17 rfl) KX11 fX11_12 (by decide) rfl (CLt hH (q := 0) (by decide)) (CC hH 0 (by decide) rfl) (CR hH 0 0 1 (by decide)) ?_
      refine g_iload_2 hX (dk DX11_list 18 rfl) ?_
      refine g_c2R hX sX11_list_33 (by decide) (Nat.le_of_ble_eq_true rfl) (rc0 rfl (CLt hH (by decide)) (CC hH 1 (by decide) rfl)) (by decide) (by decide) (n_find hG hH hN) ?_
      refine g_ifnonnullN hX (dk DX11_list 20 rfl) ?_
      refine g_iconst (v := -1) hX (dk DX11_list 21 rfl) (by decide) ?_
      refine g_ireturn hX (dk DX11_list 22 rfl) rfl (rfl) (by decide) (by decide) ?_
      exact qA_of (by (try first | rw [if_pos hc1] | rw [if_neg hc1] | rw [if_neg (not_not_intro hc1)]); (try first | rw [if_pos hc2] | rw [if_neg hc2] | rw [if_neg (not_not_intro hc2)]); first | done | rfl)
    · refine g_bipush (v := -2) hX (dk DX11_list 14 rfl) (by decide) ?_
      refine g_ireturn hX (dk DX11_list 15 rfl) rfl (rfl) (by decide) (by decide) ?_
      exact qA_of (by (try first | rw [if_pos hc1] | rw [if_neg hc1] | rw [if_neg (not_not_intro hc1)]); (try first | rw [if_pos hc2] | rw [if_neg hc2] | rw [if_neg (not_not_intro hc2)]); first | done | rfl)
  · refine g_aload_0 hX (dk DX11_list 3 rfl) ?_
    refine g_getRs (r := 1) hX (dk DX11_list 4 rfl) KX11 fX11_12 (by decide) rfl (CLt hH (q := 0) (by decide)) (CC hH 0 (by decide) rfl) (CR hH 0 0 1 (by decide)) ?_
    refine g_iconst (v := 0) hX (dk DX11_list 5 rfl) (by decide) ?_
    refine g_putI hX (dk DX11_list 6 rfl) KX5 fX11_231 (by decide) rfl (CLt hH (q := 1) (by decide)) (CC hH 1 (by decide) rfl) (Or.inl rfl) (rfl) (rfl) ?_
    refine g_iconst (v := 0) hX (dk DX11_list 7 rfl) (by decide) ?_
    refine g_ireturn hX (dk DX11_list 8 rfl) rfl (rfl) (by decide) (by decide) ?_
    exact qA_of (by (try first | rw [if_pos hc1] | rw [if_neg hc1] | rw [if_neg (not_not_intro hc1)]); first | done | rfl)

set_option maxRecDepth 8000 in
set_option maxHeartbeats 4000000 in
theorem n_hours {G : Gt} (hG : Gok G) {I : It} {h : Ht} (hH : HX h) (hN : NX I) {y n : Int32} : Con G 3 0 0 mX11_hours [.ref 0, .int y, .int n] I h (qA (if ¬ (0 ≤ y ∧ y ≤ 3) then -1 else if ¬ (0 ≤ n ∧ n ≤ 9) then -2 else 0)) := by
  refine con_intro (own := RX11) (lo0 := [some (.ref 0), some (.int y), some (.int n), none]) hG rfl pl_X11 (Nat.le_of_ble_eq_true rfl) rfl (fun X hX => ?_)
  refine g_iload_1 hX (dk DX11_hours 0 rfl) ?_
  refine g_iconst (v := 0) hX (dk DX11_hours 1 rfl) (by decide) ?_
  refine g_iconst (v := 3) hX (dk DX11_hours 2 rfl) (by decide) ?_
  refine g_c3I hX sX11_hours_3 (by decide) (Nat.le_of_ble_eq_true rfl) rcN (by decide) (by decide) (c_X11_isNot hG ) ?_
  refine g_ifb_eq (tgt := 11) hX (dk DX11_hours 4 rfl) (by decide) (fun hc1 => ?_) (fun hc1 => ?_)
  · obtain ⟨y, hy, rfl⟩ := in_of (b := 3) (by decide) (Decidable.not_not.mp hc1)
    refine g_iload_2 hX (dk DX11_hours 7 rfl) ?_
    refine g_iconst (v := 0) hX (dk DX11_hours 8 rfl) (by decide) ?_
    refine g_bipush (v := 9) hX (dk DX11_hours 9 rfl) (by decide) ?_
    refine g_c3I hX sX11_hours_15 (by decide) (Nat.le_of_ble_eq_true rfl) rcN (by decide) (by decide) (c_X11_isNot hG ) ?_
    refine g_ifb_eq (tgt := 24) hX (dk DX11_hours 11 rfl) (by decide) (fun hc2 => ?_) (fun hc2 => ?_)
    · refine g_aload_0 hX (dk DX11_hours 14 rfl) ?_
      refine g_getRs (r := 1) hX (dk DX11_hours 15 rfl) KX11 fX11_12 (by decide) rfl (CLt hH (q := 0) (by decide)) (CC hH 0 (by decide) rfl) (CR hH 0 0 1 (by decide)) ?_
      refine g_getRs (r := 4) hX (dk DX11_hours 16 rfl) KX5 fX11_139 (by decide) rfl (CLt hH (q := 1) (by decide)) (CC hH 1 (by decide) rfl) (CR hH 1 5 4 (by decide)) ?_
      refine g_iload_1 hX (dk DX11_hours 17 rfl) ?_
      refine v_iaload hX (dk DX11_hours 18 rfl) (CLt hH (q := 4) (by decide)) (CS hH 4 (by decide) rfl) (⟨rfl, by omega, by decide⟩) ((hN.1 4 (by decide) _)) ?_
      refine g_istore_3 hX (dk DX11_hours 19 rfl) (by decide) rfl ?_
      refine g_aload_0 hX (dk DX11_hours 20 rfl) ?_
      refine g_getRs (r := 1) hX (dk DX11_hours 21 rfl) KX11 fX11_12 (by decide) rfl (CLt hH (q := 0) (by decide)) (CC hH 0 (by decide) rfl) (CR hH 0 0 1 (by decide)) ?_
      refine g_getRs (r := 4) hX (dk DX11_hours 22 rfl) KX5 fX11_139 (by decide) rfl (CLt hH (q := 1) (by decide)) (CC hH 1 (by decide) rfl) (CR hH 1 5 4 (by decide)) ?_
      refine g_iload_1 hX (dk DX11_hours 23 rfl) ?_
      refine g_iload_2 hX (dk DX11_hours 24 rfl) ?_
      refine i_iastore hX (dk DX11_hours 25 rfl) (CLt hH (q := 4) (by decide)) (CS hH 4 (by decide) rfl) (⟨rfl, by omega, by decide⟩) ?_
      refine g_iload_3 hX (dk DX11_hours 26 rfl) ?_
      refine g_ireturn hX (dk DX11_hours 27 rfl) rfl (rfl) (by decide) (by decide) ?_
      exact qA_of (by (try first | rw [if_pos hc1] | rw [if_neg hc1] | rw [if_neg (not_not_intro hc1)]); (try first | rw [if_pos hc2] | rw [if_neg hc2] | rw [if_neg (not_not_intro hc2)]); first | done | rfl)
    · refine g_bipush (v := -2) hX (dk DX11_hours 12 rfl) (by decide) ?_
      refine g_ireturn hX (dk DX11_hours 13 rfl) rfl (rfl) (by decide) (by decide) ?_
      exact qA_of (by (try first | rw [if_pos hc1] | rw [if_neg hc1] | rw [if_neg (not_not_intro hc1)]); (try first | rw [if_pos hc2] | rw [if_neg hc2] | rw [if_neg (not_not_intro hc2)]); first | done | rfl)
  · refine g_iconst (v := -1) hX (dk DX11_hours 5 rfl) (by decide) ?_
    refine g_ireturn hX (dk DX11_hours 6 rfl) rfl (rfl) (by decide) (by decide) ?_
    exact qA_of (by (try first | rw [if_pos hc1] | rw [if_neg hc1] | rw [if_neg (not_not_intro hc1)]); first | done | rfl)

