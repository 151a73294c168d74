set_option maxRecDepth 8000 in
set_option maxHeartbeats 4000000 in
theorem c_X3_part4 {G : Gt} (hG : Gok G) {I : It} {h : Ht}  (hH : HX h) {p : Nat} (hp : p < 6) {I0 : It} (hK : KP p I0 I) : Con G (4) 0 0 mX3_readPart [.ref (43 + 5 * p), .int 4] I h (rV (tsW p I) h) := by
  refine con_intro (own := RX3) (lo0 := [some (.ref (43 + 5 * p)), some (.int 4)]) hG rfl pl_X3 (Nat.le_of_ble_eq_true rfl) rfl (fun X hX => ?_)
  refine g_iload_1 hX (dk DX3_readPart 0 rfl) ?_
  refine g_iconst (v := 4) hX (dk DX3_readPart 1 rfl) (by decide) ?_
  refine g_icmp_ge (tgt := 30) hX (dk DX3_readPart 2 rfl) (by decide) (fun hc1 => ?_) (fun hc1 => absurd (by decide) hc1)
  refine g_iload_1 hX (dk DX3_readPart 16 rfl) ?_
  refine g_iconst (v := 4) hX (dk DX3_readPart 17 rfl) (by decide) ?_
  refine g_icmp_ge (tgt := 60) hX (dk DX3_readPart 18 rfl) (by decide) (fun hc2 => ?_) (fun hc2 => absurd (by decide) hc2)
  refine g_aload_0 hX (dk DX3_readPart 32 rfl) ?_
  refine g_c1V hX sX3_readPart_61 (by decide) (Nat.le_of_ble_eq_true rfl) (rc0 rfl (PL0 hH hp) (PSh hH hp)) (by decide) (by decide) (c_X3_readTest hG hH hp hK) ?_
  refine g_return hX (dk DX3_readPart 34 rfl) rfl (by decide) (by decide) ?_
  exact rV_of rfl rfl

set_option maxRecDepth 8000 in
set_option maxHeartbeats 4000000 in
theorem c_X3_partN {G : Gt} (hG : Gok G) {I : It} {h : Ht}  (hH : HX h) {p : Nat} (hp : p < 6) {w n dd : Nat} (hw : w + (n + 1) = 4) (h2 : 3 ≤ dd) (hPc : ∀ I0 J, KP p I0 J → Con G dd 0 0 mX3_readPart [.ref (43 + 5 * p), .int (nI (w + 1))] J h (rV (paF p n J) h)) (hEc : ∀ I0 J, KP p I0 J → Con G (dd + 1) 0 0 mX3_readEither [.ref (43 + 5 * p), .int (nI (w + 1))] J h (rV (eiF p (paF p n) J) h)) {I0 : It} (hK : KP p I0 I) : Con G (dd + 2) 0 0 mX3_readPart [.ref (43 + 5 * p), .int (nI w)] I h (rV (paF p (n + 1) I) h) := by
  refine con_intro (own := RX3) (lo0 := [some (.ref (43 + 5 * p)), some (.int (nI w))]) hG rfl pl_X3 (Nat.le_of_ble_eq_true rfl) rfl (fun X hX => ?_)
  refine g_iload_1 hX (dk DX3_readPart 0 rfl) ?_
  refine g_iconst (v := 4) hX (dk DX3_readPart 1 rfl) (by decide) ?_
  refine g_icmp_ge (tgt := 30) hX (dk DX3_readPart 2 rfl) (by decide) (fun hc1 => absurd (nI_lt (a := w) (b := 4) (by omega) (by decide)) (Int32.not_lt.mpr hc1)) (fun hc1 => ?_)
  refine g_aload_0 hX (dk DX3_readPart 3 rfl) ?_
  refine g_bipush (v := 33) hX (dk DX3_readPart 4 rfl) (by decide) ?_
  refine g_c2I hX sX3_readPart_8 (by omega) (Nat.le_of_ble_eq_true rfl) (rc0 rfl (PL0 hH hp) (PSh hH hp)) (by decide) (by decide) (c_X3_takes hG hH hp) ?_
  refine g_ifb_eq (tgt := 30) hX (dk DX3_readPart 6 rfl) (by decide) (fun hc2 => ?_) (fun hc2 => ?_)
  · refine g_iload_1 hX (dk DX3_readPart 16 rfl) ?_
    refine g_iconst (v := 4) hX (dk DX3_readPart 17 rfl) (by decide) ?_
    refine g_icmp_ge (tgt := 60) hX (dk DX3_readPart 18 rfl) (by decide) (fun hc3 => absurd (nI_lt (a := w) (b := 4) (by omega) (by decide)) (Int32.not_lt.mpr hc3)) (fun hc3 => ?_)
    refine g_aload_0 hX (dk DX3_readPart 19 rfl) ?_
    refine g_bipush (v := 40) hX (dk DX3_readPart 20 rfl) (by decide) ?_
    refine g_c2I hX sX3_readPart_38 (by omega) (Nat.le_of_ble_eq_true rfl) (rc0 rfl (PL0 hH hp) (PSh hH hp)) (by decide) (by decide) (c_X3_takes hG hH hp) ?_
    refine g_ifb_eq (tgt := 60) hX (dk DX3_readPart 22 rfl) (by decide) (fun hc4 => ?_) (fun hc4 => ?_)
    · refine g_aload_0 hX (dk DX3_readPart 32 rfl) ?_
      refine g_c1V hX sX3_readPart_61 (by omega) (Nat.le_of_ble_eq_true rfl) (rc0 rfl (PL0 hH hp) (PSh hH hp)) (by decide) (by decide) (c_X3_readTest hG hH hp (I0 := I0) (by exact hK.tk.tk)) ?_
      refine g_return hX (dk DX3_readPart 34 rfl) rfl (by decide) (by decide) ?_
      exact rV_of (by rw [paF_s]; (try first | rw [if_pos hc1] | rw [if_neg hc1] | rw [if_neg (not_not_intro hc1)]); (try first | rw [if_pos hc2] | rw [if_neg hc2] | rw [if_neg (not_not_intro hc2)]); (try first | rw [if_pos hc3] | rw [if_neg hc3] | rw [if_neg (not_not_intro hc3)]); (try first | rw [if_pos hc4] | rw [if_neg hc4] | rw [if_neg (not_not_intro hc4)]); first | done | rfl) rfl
    · refine g_aload_0 hX (dk DX3_readPart 23 rfl) ?_
      refine g_iload_1 hX (dk DX3_readPart 24 rfl) ?_
      refine g_iconst (v := 1) hX (dk DX3_readPart 25 rfl) (by decide) ?_
      refine g_iadd hX (dk DX3_readPart 26 rfl) ?_
      refine g_nmI (nI (w + 1)) (nI_1 w) ?_
      refine g_c2V hX sX3_readPart_48 (by omega) (Nat.le_of_ble_eq_true rfl) (rc0 rfl (PL0 hH hp) (PSh hH hp)) (by decide) (by decide) (hEc I0 _ (by exact hK.tk.tk)) ?_
      refine g_aload_0 hX (dk DX3_readPart 28 rfl) ?_
      refine g_bipush (v := 41) hX (dk DX3_readPart 29 rfl) (by decide) ?_
      refine g_c2V hX sX3_readPart_54 (by omega) (Nat.le_of_ble_eq_true rfl) (rc0 rfl (PL0 hH hp) (PSh hH hp)) (by decide) (by decide) (c_X3_needs hG hH hp) ?_
      refine g_goto (tgt := 64) hX (dk DX3_readPart 31 rfl) (by decide) ?_
      refine g_return hX (dk DX3_readPart 34 rfl) rfl (by decide) (by decide) ?_
      exact rV_of (by rw [paF_s]; (try first | rw [if_pos hc1] | rw [if_neg hc1] | rw [if_neg (not_not_intro hc1)]); (try first | rw [if_pos hc2] | rw [if_neg hc2] | rw [if_neg (not_not_intro hc2)]); (try first | rw [if_pos hc3] | rw [if_neg hc3] | rw [if_neg (not_not_intro hc3)]); (try first | rw [if_pos hc4] | rw [if_neg hc4] | rw [if_neg (not_not_intro hc4)]); first | done | rfl) rfl
  · refine g_aload_0 hX (dk DX3_readPart 7 rfl) ?_
    refine g_iload_1 hX (dk DX3_readPart 8 rfl) ?_
    refine g_iconst (v := 1) hX (dk DX3_readPart 9 rfl) (by decide) ?_
    refine g_iadd hX (dk DX3_readPart 10 rfl) ?_
    refine g_nmI (nI (w + 1)) (nI_1 w) ?_
    refine g_c2V hX sX3_readPart_18 (by omega) (Nat.le_of_ble_eq_true rfl) (rc0 rfl (PL0 hH hp) (PSh hH hp)) (by decide) (by decide) (hPc I0 _ (by exact hK.tk)) ?_
    refine g_aload_0 hX (dk DX3_readPart 12 rfl) ?_
    refine g_bipush (v := 33) hX (dk DX3_readPart 13 rfl) (by decide) ?_
    refine g_c2V hX sX3_readPart_24 (by omega) (Nat.le_of_ble_eq_true rfl) (rc0 rfl (PL0 hH hp) (PSh hH hp)) (by decide) (by decide) (c_X3_keep hG hH hp (I0 := I0) (by exact (KP.pa n hK.tk))) ?_
    refine g_goto (tgt := 64) hX (dk DX3_readPart 15 rfl) (by decide) ?_
    refine g_return hX (dk DX3_readPart 34 rfl) rfl (by decide) (by decide) ?_
    exact rV_of (by rw [paF_s]; (try first | rw [if_pos hc1] | rw [if_neg hc1] | rw [if_neg (not_not_intro hc1)]); (try first | rw [if_pos hc2] | rw [if_neg hc2] | rw [if_neg (not_not_intro hc2)]); first | done | rfl) rfl

theorem c_X3_part {G : Gt} (hG : Gok G) {h : Ht} (hH : HX h) {p : Nat} (hp : p < 6) (n : Nat) : ∀ w, w + n = 4 → ∀ I0 J, KP p I0 J → Con G (4 + 2 * n) 0 0 mX3_readPart [.ref (43 + 5 * p), .int (nI w)] J h (rV (paF p n J) h) := by
  induction n with
  | zero =>
    intro w hw I0 J hK
    have : w = 4 := by omega
    subst this
    exact c_X3_part4 hG hH hp hK
  | succ n ih =>
    intro w hw I0 J hK
    exact c_X3_partN hG hH hp hw (dd := 4 + 2 * n) (by omega) (ih (w + 1) (by omega)) (fun I0 J hK => c_X3_readEither hG hH hp (by omega) (fun _ _ h => h.pa n) (ih (w + 1) (by omega)) hK) hK
theorem c_X3_ei0 {G : Gt} (hG : Gok G) {h : Ht} (hH : HX h) {p : Nat} (hp : p < 6) {I0 J : It} (hK : KP p I0 J) : Con G 13 0 0 mX3_readEither [.ref (43 + 5 * p), .int 0] J h (rV (eiF p (paF p 4) J) h) :=
  c_X3_readEither hG hH hp (dd := 12) (by decide) (fun _ _ h => h.pa 4) (c_X3_part hG hH hp 4 0 rfl) hK
