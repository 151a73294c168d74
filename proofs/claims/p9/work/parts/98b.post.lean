theorem bI_iff {p q : Prop} [Decidable p] [Decidable q] (h : p ↔ q) : bI p = bI q := by
  by_cases e : p
  · rw [bI_t e, bI_t (h.mp e)]
  · rw [bI_f e, bI_f (fun z => e (h.mpr z))]
theorem ng_lt {a n : Nat} (hn : a < 2 ^ 31) (h : ¬ nI n ≤ nI a) : a < n := Nat.lt_of_not_le (fun z => h (nI_le z hn))
theorem lg_le {a n : Nat} (hn : n < 2 ^ 31) (ha : a < 2 ^ 31) (h : nI n ≤ nI a) : ¬ a < n := Nat.not_lt.mpr ((nI_leI hn ha).mp h)
def W2 (J : It) (x y : Int32) : It := upI (upI J 0 18 x) 0 19 y
theorem W2_9 (J : It) (x y z : Int32) : upI (W2 J x y) 0 19 z = W2 J x z := up_up
theorem W2_8 (J : It) (x y z : Int32) : upI (W2 J x y) 0 18 z = W2 J z y := by
  funext a b
  unfold W2 upI
  by_cases e1 : a = 0 ∧ b = 18
  · rw [if_pos e1, if_neg (by omega), if_pos e1]
  · rw [if_neg e1]
    by_cases e2 : a = 0 ∧ b = 19
    · rw [if_pos e2, if_pos e2]
    · rw [if_neg e2, if_neg e2, if_neg e1, if_neg e1]
theorem W2_i {J : It} {a : Nat} (h : J 0 18 = nI a) (y : Int32) : upI J 0 19 y = W2 J (nI a) y := by unfold W2; rw [up_id h]
theorem W2_T {tx : Nat → Int32} {n : Nat} {J : It} {x y : Int32} (h : TX tx n J) : TX tx n (W2 J x y) := (h.u (by omega) (by decide)).u (by omega) (by decide)
theorem W2_v8 {J : It} {x y : Int32} : W2 J x y 0 18 = x := rfl
theorem W2_v9 {J : It} {x y : Int32} : W2 J x y 0 19 = y := rfl
theorem W2_w {J : It} {x y z : Int32} : W2 (upI J 0 18 z) x y = W2 J x y := by unfold W2; rw [up_up]
theorem W2_c {J : It} {x y : Int32} : W2 J x y = upI (upI J 0 19 y) 0 18 x := by
  have h := W2_8 J (J 0 18) y x
  rw [← h]
  unfold W2
  rw [up_id rfl]
theorem W2_A {n b : Nat} {J : It} {y : Int32} (h : b ≤ n) : AT n b (W2 J (nI b) y) := ⟨rfl, h⟩
theorem let_no : ∀ j, j < 15 → lettersL.getD j 0 ≠ -1 := by decide

set_option maxRecDepth 8000 in
set_option maxHeartbeats 4000000 in
theorem q_next {G : Gt} (hG : Gok G) {I : It} {h : Ht} (hM : HM h) {tx : Nat → Int32} {n a : Nat} (hT : TX tx n I) (hA : AT n a I)  : Con G (1) 0 0 mX12_next [.ref 0] I h (rI (nxA tx n a) I h) := by
  refine con_intro (own := RX12) (lo0 := [some (.ref 0)]) hG rfl pl_X12 (Nat.le_of_ble_eq_true rfl) rfl (fun X hX => ?_)
  have hn100 := hT.2.1
  have han := hA.2
  refine g_aload_0 hX (dk DX12_next 0 rfl) ?_
  refine g_getIv hX (dk DX12_next 1 rfl) KX12 fX12_65 (by decide) rfl (MLt hM (by decide)) (MC hM) (hA.1) ?_
  refine g_aload_0 hX (dk DX12_next 2 rfl) ?_
  refine g_getIv hX (dk DX12_next 3 rfl) KX12 fX12_62 (by decide) rfl (MLt hM (by decide)) (MC hM) (hT.1) ?_
  refine g_icmp_ge (tgt := 23) hX (dk DX12_next 4 rfl) (by decide) (fun hc1 => ?_) (fun hc1 => ?_)
  · refine g_iconst (v := -1) hX (dk DX12_next 11 rfl) (by decide) ?_
    refine g_ireturn hX (dk DX12_next 12 rfl) rfl (rfl) (by decide) (by decide) ?_
    exact rI_of (by unfold nxA; first | rw [if_pos (by assumption)] | rw [if_neg (lg_le (by omega) (by omega) (by assumption))]) rfl rfl
  · have hlt := ng_lt (by omega) hc1
    refine g_aload_0 hX (dk DX12_next 5 rfl) ?_
    refine g_getRs (r := 9) hX (dk DX12_next 6 rfl) KX12 fX12_71 (by decide) rfl (MLt hM (by decide)) (MC hM) (MR hM 20 (by decide) rfl) ?_
    refine g_aload_0 hX (dk DX12_next 7 rfl) ?_
    refine g_getIv hX (dk DX12_next 8 rfl) KX12 fX12_65 (by decide) rfl (MLt hM (by decide)) (MC hM) (hA.1) ?_
    refine v_iaload hX (dk DX12_next 9 rfl) (MLt hM (q := 9) (by decide)) (MS hM 9 (by decide) rfl) (⟨rfl, by omega, by decide⟩) (hT.2.2 a hlt) ?_
    refine g_goto (tgt := 24) hX (dk DX12_next 10 rfl) (by decide) ?_
    refine g_ireturn hX (dk DX12_next 12 rfl) rfl (rfl) (by decide) (by decide) ?_
    exact rI_of (by unfold nxA; first | rw [if_pos (by assumption)] | rw [if_neg (lg_le (by omega) (by omega) (by assumption))]) rfl rfl

set_option maxRecDepth 8000 in
set_option maxHeartbeats 4000000 in
theorem q_second {G : Gt} (hG : Gok G) {I : It} {h : Ht} (hM : HM h) {tx : Nat → Int32} {n a : Nat} (hT : TX tx n I) (hA : AT n a I)  : Con G (1) 0 0 mX12_second [.ref 0] I h (rI (nxA tx n (a + 1)) I h) := by
  refine con_intro (own := RX12) (lo0 := [some (.ref 0)]) hG rfl pl_X12 (Nat.le_of_ble_eq_true rfl) rfl (fun X hX => ?_)
  have hn100 := hT.2.1
  have han := hA.2
  refine g_aload_0 hX (dk DX12_second 0 rfl) ?_
  refine g_getIv hX (dk DX12_second 1 rfl) KX12 fX12_65 (by decide) rfl (MLt hM (by decide)) (MC hM) (hA.1) ?_
  refine g_iconst (v := 1) hX (dk DX12_second 2 rfl) (by decide) ?_
  refine g_iadd hX (dk DX12_second 3 rfl) ?_
  refine g_nmI (nI (a + 1)) (nI_1 a) ?_
  refine g_aload_0 hX (dk DX12_second 4 rfl) ?_
  refine g_getIv hX (dk DX12_second 5 rfl) KX12 fX12_62 (by decide) rfl (MLt hM (by decide)) (MC hM) (hT.1) ?_
  refine g_icmp_ge (tgt := 27) hX (dk DX12_second 6 rfl) (by decide) (fun hc1 => ?_) (fun hc1 => ?_)
  · refine g_iconst (v := -1) hX (dk DX12_second 15 rfl) (by decide) ?_
    refine g_ireturn hX (dk DX12_second 16 rfl) rfl (rfl) (by decide) (by decide) ?_
    exact rI_of (by unfold nxA; first | rw [if_pos (by assumption)] | rw [if_neg (lg_le (by omega) (by omega) (by assumption))]) rfl rfl
  · have hlt := ng_lt (by omega) hc1
    refine g_aload_0 hX (dk DX12_second 7 rfl) ?_
    refine g_getRs (r := 9) hX (dk DX12_second 8 rfl) KX12 fX12_71 (by decide) rfl (MLt hM (by decide)) (MC hM) (MR hM 20 (by decide) rfl) ?_
    refine g_aload_0 hX (dk DX12_second 9 rfl) ?_
    refine g_getIv hX (dk DX12_second 10 rfl) KX12 fX12_65 (by decide) rfl (MLt hM (by decide)) (MC hM) (hA.1) ?_
    refine g_iconst (v := 1) hX (dk DX12_second 11 rfl) (by decide) ?_
    refine g_iadd hX (dk DX12_second 12 rfl) ?_
    refine g_nmI (nI (a + 1)) (nI_1 a) ?_
    refine v_iaload hX (dk DX12_second 13 rfl) (MLt hM (q := 9) (by decide)) (MS hM 9 (by decide) rfl) (⟨rfl, by omega, by decide⟩) (hT.2.2 (a + 1) hlt) ?_
    refine g_goto (tgt := 28) hX (dk DX12_second 14 rfl) (by decide) ?_
    refine g_ireturn hX (dk DX12_second 16 rfl) rfl (rfl) (by decide) (by decide) ?_
    exact rI_of (by unfold nxA; first | rw [if_pos (by assumption)] | rw [if_neg (lg_le (by omega) (by omega) (by assumption))]) rfl rfl

set_option maxRecDepth 8000 in
set_option maxHeartbeats 4000000 in
theorem q_takes {G : Gt} (hG : Gok G) {I : It} {h : Ht} (hM : HM h) {tx : Nat → Int32} {n a : Nat} (hT : TX tx n I) (hA : AT n a I) {c : Int32} : Con G (2) 0 0 mX12_takes [.ref 0, .int c] I h (rI (bI (nxA tx n a = c)) (upI I 0 18 (nI (tkA tx n a c))) h) := by
  refine con_intro (own := RX12) (lo0 := [some (.ref 0), some (.int c)]) hG rfl pl_X12 (Nat.le_of_ble_eq_true rfl) rfl (fun X hX => ?_)
  have hn100 := hT.2.1
  have han := hA.2
  refine g_aload_0 hX (dk DX12_takes 0 rfl) ?_
  refine g_c1I hX sX12_takes_1 (by decide) (Nat.le_of_ble_eq_true rfl) (rc0 rfl (MLt hM (by decide)) (MC hM)) (by decide) (by decide) (q_next hG hM hT hA) ?_
  refine g_iload_1 hX (dk DX12_takes 2 rfl) ?_
  refine g_icmp_eq (tgt := 10) hX (dk DX12_takes 3 rfl) (by decide) (fun hc1 => ?_) (fun hc1 => ?_)
  · refine g_aload_0 hX (dk DX12_takes 6 rfl) ?_
    refine g_dup hX (dk DX12_takes 7 rfl) rfl ?_
    refine g_getIv hX (dk DX12_takes 8 rfl) KX12 fX12_65 (by decide) rfl (MLt hM (by decide)) (MC hM) (hA.1) ?_
    refine g_iconst (v := 1) hX (dk DX12_takes 9 rfl) (by decide) ?_
    refine g_iadd hX (dk DX12_takes 10 rfl) ?_
    refine g_nmI (nI (a + 1)) (nI_1 a) ?_
    refine g_putI hX (dk DX12_takes 11 rfl) KX12 fX12_65 (by decide) rfl (MLt hM (by decide)) (MC hM) (Or.inl rfl) (rfl) (rfl) ?_
    refine g_iconst (v := 1) hX (dk DX12_takes 12 rfl) (by decide) ?_
    refine g_ireturn hX (dk DX12_takes 13 rfl) rfl (by decide) (by decide) (by decide) ?_
    exact rI_of (bI_t (by assumption)).symm (by unfold tkA; rw [if_pos (by assumption)]) rfl
  · refine g_iconst (v := 0) hX (dk DX12_takes 4 rfl) (by decide) ?_
    refine g_ireturn hX (dk DX12_takes 5 rfl) rfl (by decide) (by decide) (by decide) ?_
    exact rI_of (bI_f (by assumption)).symm (by unfold tkA; rw [if_neg (by assumption), up_id hA.1]) rfl

set_option maxRecDepth 8000 in
set_option maxHeartbeats 4000000 in
theorem q_takesWord {G : Gt} (hG : Gok G) {I : It} {h : Ht} (hM : HM h) {tx : Nat → Int32} {n a : Nat} (hT : TX tx n I) (hA : AT n a I) {f m : Nat} (hfm : f + m ≤ 15) (hL : ∀ j, j < 15 → I 17 j = lettersL.getD j 0) : Con G (3) 0 0 mX12_takesWord [.ref 0, .int (nI f), .int (nI m)] I h (rI (bI ((twA tx n f m 0 a).1 = true)) (upI I 0 18 (nI (twA tx n f m 0 a).2)) h) := by
  refine con_intro (own := RX12) (lo0 := [some (.ref 0), some (.int (nI f)), some (.int (nI m)), none]) hG rfl pl_X12 (Nat.le_of_ble_eq_true rfl) rfl (fun X hX => ?_)
  have hn100 := hT.2.1
  have han := hA.2
  have loop2 : ∀ (r k b : Nat), k + r = m → b ≤ n → twA tx n f r k b = twA tx n f m 0 a → GG G (3) 0 0 X (rI (bI ((twA tx n f m 0 a).1 = true)) (upI I 0 18 (nI (twA tx n f m 0 a).2)) h) 2 [some (.ref 0), some (.int (nI f)), some (.int (nI m)), some (.int (nI k))] [] ((upI I 0 18 (nI b))) (h) 0 0 := by
    intro r
    induction r using Nat.strongRecOn with | _ r ih => ?_
    intro k b hk hb hv
    refine g_iload_3 hX (dk DX12_takesWord 2 rfl) ?_
    refine g_iload_2 hX (dk DX12_takesWord 3 rfl) ?_
    refine g_icmp_ge (tgt := 30) hX (dk DX12_takesWord 4 rfl) (by decide) (fun hc1 => ?_) (fun hc1 => ?_)
    · refine g_aload_0 hX (dk DX12_takesWord 18 rfl) ?_
      refine g_bipush (v := 32) hX (dk DX12_takesWord 19 rfl) (by decide) ?_
      refine g_c2I hX sX12_takesWord_33 (by decide) (Nat.le_of_ble_eq_true rfl) (rc0 rfl (MLt hM (by decide)) (MC hM)) (by decide) (by decide) (q_takes hG hM hT.w (AT.w hb)) ?_
      rw [up_up]
      refine g_ireturn hX (dk DX12_takesWord 21 rfl) rfl (narB _) (by decide) (by decide) ?_
      have hk0 := ct_end hk (by omega) hc1
      subst hk0
      have hst : twA tx n f m 0 a = (decide (nxA tx n b = 32), tkA tx n b 32) := by rw [← hv]; rfl
      exact rI_of (by rw [hst]; exact bI_iff decide_eq_true_iff.symm) (by rw [hst]) rfl
    · obtain ⟨r, rfl⟩ := ct_go hk (by omega) hc1
      refine g_aload_0 hX (dk DX12_takesWord 5 rfl) ?_
      refine g_aload_0 hX (dk DX12_takesWord 6 rfl) ?_
      refine g_getRs (r := 17) hX (dk DX12_takesWord 7 rfl) KX12 fX12_104 (by decide) rfl (MLt hM (by decide)) (MC hM) (MR hM 31 (by decide) rfl) ?_
      refine g_iload_1 hX (dk DX12_takesWord 8 rfl) ?_
      refine g_iload_3 hX (dk DX12_takesWord 9 rfl) ?_
      refine g_iadd hX (dk DX12_takesWord 10 rfl) ?_
      refine g_nmI (nI (f + k)) (nI_add _ _) ?_
      refine v_iaload hX (dk DX12_takesWord 11 rfl) (MLt hM (q := 17) (by decide)) (MS hM 17 (by decide) rfl) (⟨rfl, by omega, by decide⟩) ((show _ = lettersL.getD (f + k) 0 from hL _ (by omega))) ?_
      refine g_c2I hX sX12_takesWord_16 (by decide) (Nat.le_of_ble_eq_true rfl) (rc0 rfl (MLt hM (by decide)) (MC hM)) (by decide) (by decide) (q_takes hG hM hT.w (AT.w hb)) ?_
      rw [up_up]
      refine g_ifb_ne (tgt := 24) hX (dk DX12_takesWord 13 rfl) (by decide) (fun hc2 => ?_) (fun hc2 => ?_)
      · refine g_iinc_3 hX (dk DX12_takesWord 16 rfl) (nI_1 k) (by decide) rfl ?_
        refine g_goto (tgt := 2) hX (dk DX12_takesWord 17 rfl) (by decide) ?_
        have e : tkA tx n b (lettersL.getD (f + k) 0) = b + 1 := if_pos (by assumption)
        rw [e]
        exact g_fgt (ih r (by omega) (k + 1) (b + 1) (by omega) (nxA_no (X := tx) (let_no (f + k) (by omega)) (by assumption)) (by rw [← hv, twA_s, if_pos (by assumption)])) ⟨rfl, rfl, rfl, rfl, trivial⟩
      · refine g_iconst (v := 0) hX (dk DX12_takesWord 14 rfl) (by decide) ?_
        refine g_ireturn hX (dk DX12_takesWord 15 rfl) rfl (by decide) (by decide) (by decide) ?_
        have e : tkA tx n b (lettersL.getD (f + k) 0) = b := if_neg (by assumption)
        rw [e]
        have hst : twA tx n f m 0 a = (false, b) := by rw [← hv, twA_s, if_neg (by assumption)]
        exact rI_of (by rw [hst]; rfl) (by rw [hst]) rfl
  refine g_iconst (v := 0) hX (dk DX12_takesWord 0 rfl) (by decide) ?_
  refine g_istore_3 hX (dk DX12_takesWord 1 rfl) (by decide) rfl ?_
  refine g_gen (fun W eW => ?_)
  have eW2 : W = upI I 0 18 (nI a) := eW.trans (up_id hA.1).symm
  subst eW2
  exact g_fgt (loop2 m 0 a (Nat.zero_add _) han rfl) ⟨rfl, rfl, rfl, rfl, trivial⟩

set_option maxRecDepth 8000 in
set_option maxHeartbeats 4000000 in
theorem q_isDigit {G : Gt} (hG : Gok G) {I : It} {h : Ht} (hM : HM h) {tx : Nat → Int32} {n a : Nat} (hT : TX tx n I) (hA : AT n a I)  : Con G (2) 0 0 mX12_isDigit [.ref 0] I h (rI (bI (dgA tx n a)) I h) := by
  refine con_intro (own := RX12) (lo0 := [some (.ref 0)]) hG rfl pl_X12 (Nat.le_of_ble_eq_true rfl) rfl (fun X hX => ?_)
  have hn100 := hT.2.1
  have han := hA.2
  refine g_aload_0 hX (dk DX12_isDigit 0 rfl) ?_
  refine g_aload_0 hX (dk DX12_isDigit 1 rfl) ?_
  refine g_c1I hX sX12_isDigit_2 (by decide) (Nat.le_of_ble_eq_true rfl) (rc0 rfl (MLt hM (by decide)) (MC hM)) (by decide) (by decide) (q_next hG hM hT hA) ?_
  refine g_bipush (v := 48) hX (dk DX12_isDigit 3 rfl) (by decide) ?_
  refine g_bipush (v := 57) hX (dk DX12_isDigit 4 rfl) (by decide) ?_
  refine g_c4I hX sX12_isDigit_9 (by decide) (Nat.le_of_ble_eq_true rfl) (rc0 rfl (MLt hM (by decide)) (MC hM)) (by decide) (by decide) (c_X12_in hG) ?_
  refine g_ireturn hX (dk DX12_isDigit 6 rfl) rfl (narB _) (by decide) (by decide) ?_
  exact rI_of rfl rfl rfl

set_option maxRecDepth 8000 in
set_option maxHeartbeats 4000000 in
theorem q_takesNumber {G : Gt} (hG : Gok G) {I : It} {h : Ht} (hM : HM h) {tx : Nat → Int32} {n a : Nat} (hT : TX tx n I) (hA : AT n a I)  : Con G (3) 0 0 mX12_takesNumber [.ref 0] I h (qI (fun v J h2 => h2 = h ∧ v = bI (dgA tx n a) ∧ J = if dgA tx n a then W2 I (nI (nuA tx n a)) (nvA tx n a) else I)) := by
  refine con_intro (own := RX12) (lo0 := [some (.ref 0), none]) hG rfl pl_X12 (Nat.le_of_ble_eq_true rfl) rfl (fun X hX => ?_)
  have hn100 := hT.2.1
  have han := hA.2
  refine g_aload_0 hX (dk DX12_takesNumber 0 rfl) ?_
  refine g_c1I hX sX12_takesNumber_1 (by decide) (Nat.le_of_ble_eq_true rfl) (rc0 rfl (MLt hM (by decide)) (MC hM)) (by decide) (by decide) (q_isDigit hG hM hT hA) ?_
  refine g_ifb_ne (tgt := 9) hX (dk DX12_takesNumber 2 rfl) (by decide) (fun hc1 => ?_) (fun hc1 => ?_)
  · have hd0 := hc1
    have hlt := dgA_lt hc1
    refine g_aload_0 hX (dk DX12_takesNumber 5 rfl) ?_
    refine g_iconst (v := 0) hX (dk DX12_takesNumber 6 rfl) (by decide) ?_
    refine g_putI hX (dk DX12_takesNumber 7 rfl) KX12 fX12_68 (by decide) rfl (MLt hM (by decide)) (MC hM) (Or.inl rfl) (rfl) (rfl) ?_
    rw [W2_i hA.1]
    refine g_iconst (v := 0) hX (dk DX12_takesNumber 8 rfl) (by decide) ?_
    refine g_istore_1 hX (dk DX12_takesNumber 9 rfl) (by decide) rfl ?_
    refine g_iload_1 hX (dk DX12_takesNumber 10 rfl) ?_
    refine g_iconst (v := 2) hX (dk DX12_takesNumber 11 rfl) (by decide) ?_
    refine g_icmp_ge (tgt := 63) hX (dk DX12_takesNumber 12 rfl) (by decide) (fun hc2 => absurd hc2 (by decide)) (fun hc2 => ?_)
    refine g_aload_0 hX (dk DX12_takesNumber 13 rfl) ?_
    refine g_c1I hX sX12_takesNumber_22 (by decide) (Nat.le_of_ble_eq_true rfl) (rc0 rfl (MLt hM (by decide)) (MC hM)) (by decide) (by decide) (q_isDigit hG hM (W2_T hT) (W2_A (by omega))) ?_
    refine g_ifb_eq (tgt := 63) hX (dk DX12_takesNumber 15 rfl) (by decide) (fun hc3 => ?_) (fun hc3 => ?_)
    · refine g_iconst (v := 1) hX (dk DX12_takesNumber 35 rfl) (by decide) ?_
      refine g_ireturn hX (dk DX12_takesNumber 36 rfl) rfl (by decide) (by decide) (by decide) ?_
      first
      | exact absurd hd0 (by assumption)
      | exact qI_of ⟨rfl, (bI_t hd0).symm, by rw [if_pos hd0]; unfold nuA nvA; rw [if_pos hd0]; (try first | rw [if_pos hc1] | rw [if_neg hc1] | rw [if_neg (not_not_intro hc1)]); (try first | rw [if_pos hc2] | rw [if_neg hc2] | rw [if_neg (not_not_intro hc2)]); (try first | rw [if_pos hc3] | rw [if_neg hc3] | rw [if_neg (not_not_intro hc3)]); (try first | rw [if_pos hc1] | rw [if_neg hc1] | rw [if_neg (not_not_intro hc1)]); (try first | rw [if_pos hc2] | rw [if_neg hc2] | rw [if_neg (not_not_intro hc2)]); (try first | rw [if_pos hc3] | rw [if_neg hc3] | rw [if_neg (not_not_intro hc3)]); first | done | rfl⟩
    · refine g_aload_0 hX (dk DX12_takesNumber 16 rfl) ?_
      refine g_bipush (v := 10) hX (dk DX12_takesNumber 17 rfl) (by decide) ?_
      refine g_aload_0 hX (dk DX12_takesNumber 18 rfl) ?_
      refine g_getIv hX (dk DX12_takesNumber 19 rfl) KX12 fX12_68 (by decide) rfl (MLt hM (by decide)) (MC hM) (W2_v9) ?_
      refine g_imul hX (dk DX12_takesNumber 20 rfl) ?_
      refine g_aload_0 hX (dk DX12_takesNumber 21 rfl) ?_
      refine g_c1I hX sX12_takesNumber_37 (by decide) (Nat.le_of_ble_eq_true rfl) (rc0 rfl (MLt hM (by decide)) (MC hM)) (by decide) (by decide) (q_next hG hM (W2_T hT) (W2_A (by omega))) ?_
      refine g_iadd hX (dk DX12_takesNumber 23 rfl) ?_
      refine g_bipush (v := 48) hX (dk DX12_takesNumber 24 rfl) (by decide) ?_
      refine g_isub hX (dk DX12_takesNumber 25 rfl) ?_
      refine g_putI hX (dk DX12_takesNumber 26 rfl) KX12 fX12_68 (by decide) rfl (MLt hM (by decide)) (MC hM) (Or.inl rfl) (rfl) (rfl) ?_
      rw [W2_9]
      refine g_aload_0 hX (dk DX12_takesNumber 27 rfl) ?_
      refine g_dup hX (dk DX12_takesNumber 28 rfl) rfl ?_
      refine g_getIv hX (dk DX12_takesNumber 29 rfl) KX12 fX12_65 (by decide) rfl (MLt hM (by decide)) (MC hM) (W2_v8) ?_
      refine g_iconst (v := 1) hX (dk DX12_takesNumber 30 rfl) (by decide) ?_
      refine g_iadd hX (dk DX12_takesNumber 31 rfl) ?_
      refine g_nmI _ (nI_1 _) ?_
      refine g_putI hX (dk DX12_takesNumber 32 rfl) KX12 fX12_65 (by decide) rfl (MLt hM (by decide)) (MC hM) (Or.inl rfl) (rfl) (rfl) ?_
      rw [W2_8]
      refine g_iinc_1 (v := 1) hX (dk DX12_takesNumber 33 rfl) (by decide) (by decide) rfl ?_
      refine g_goto (tgt := 16) hX (dk DX12_takesNumber 34 rfl) (by decide) ?_
      refine g_iload_1 hX (dk DX12_takesNumber 10 rfl) ?_
      refine g_iconst (v := 2) hX (dk DX12_takesNumber 11 rfl) (by decide) ?_
      refine g_icmp_ge (tgt := 63) hX (dk DX12_takesNumber 12 rfl) (by decide) (fun hc4 => absurd hc4 (by decide)) (fun hc4 => ?_)
      refine g_aload_0 hX (dk DX12_takesNumber 13 rfl) ?_
      refine g_c1I hX sX12_takesNumber_22 (by decide) (Nat.le_of_ble_eq_true rfl) (rc0 rfl (MLt hM (by decide)) (MC hM)) (by decide) (by decide) (q_isDigit hG hM (W2_T hT) (W2_A (by omega))) ?_
      refine g_ifb_eq (tgt := 63) hX (dk DX12_takesNumber 15 rfl) (by decide) (fun hc5 => ?_) (fun hc5 => ?_)
      · refine g_iconst (v := 1) hX (dk DX12_takesNumber 35 rfl) (by decide) ?_
        refine g_ireturn hX (dk DX12_takesNumber 36 rfl) rfl (by decide) (by decide) (by decide) ?_
        first
        | exact absurd hd0 (by assumption)
        | exact qI_of ⟨rfl, (bI_t hd0).symm, by rw [if_pos hd0]; unfold nuA nvA; rw [if_pos hd0]; (try first | rw [if_pos hc1] | rw [if_neg hc1] | rw [if_neg (not_not_intro hc1)]); (try first | rw [if_pos hc2] | rw [if_neg hc2] | rw [if_neg (not_not_intro hc2)]); (try first | rw [if_pos hc3] | rw [if_neg hc3] | rw [if_neg (not_not_intro hc3)]); (try first | rw [if_pos hc4] | rw [if_neg hc4] | rw [if_neg (not_not_intro hc4)]); (try first | rw [if_pos hc5] | rw [if_neg hc5] | rw [if_neg (not_not_intro hc5)]); (try first | rw [if_pos hc1] | rw [if_neg hc1] | rw [if_neg (not_not_intro hc1)]); (try first | rw [if_pos hc2] | rw [if_neg hc2] | rw [if_neg (not_not_intro hc2)]); (try first | rw [if_pos hc3] | rw [if_neg hc3] | rw [if_neg (not_not_intro hc3)]); (try first | rw [if_pos hc4] | rw [if_neg hc4] | rw [if_neg (not_not_intro hc4)]); (try first | rw [if_pos hc5] | rw [if_neg hc5] | rw [if_neg (not_not_intro hc5)]); first | done | rfl⟩
      · refine g_aload_0 hX (dk DX12_takesNumber 16 rfl) ?_
        refine g_bipush (v := 10) hX (dk DX12_takesNumber 17 rfl) (by decide) ?_
        refine g_aload_0 hX (dk DX12_takesNumber 18 rfl) ?_
        refine g_getIv hX (dk DX12_takesNumber 19 rfl) KX12 fX12_68 (by decide) rfl (MLt hM (by decide)) (MC hM) (W2_v9) ?_
        refine g_imul hX (dk DX12_takesNumber 20 rfl) ?_
        refine g_aload_0 hX (dk DX12_takesNumber 21 rfl) ?_
        refine g_c1I hX sX12_takesNumber_37 (by decide) (Nat.le_of_ble_eq_true rfl) (rc0 rfl (MLt hM (by decide)) (MC hM)) (by decide) (by decide) (q_next hG hM (W2_T hT) (W2_A (by omega))) ?_
        refine g_iadd hX (dk DX12_takesNumber 23 rfl) ?_
        refine g_bipush (v := 48) hX (dk DX12_takesNumber 24 rfl) (by decide) ?_
        refine g_isub hX (dk DX12_takesNumber 25 rfl) ?_
        refine g_putI hX (dk DX12_takesNumber 26 rfl) KX12 fX12_68 (by decide) rfl (MLt hM (by decide)) (MC hM) (Or.inl rfl) (rfl) (rfl) ?_
        rw [W2_9]
        refine g_aload_0 hX (dk DX12_takesNumber 27 rfl) ?_
        refine g_dup hX (dk DX12_takesNumber 28 rfl) rfl ?_
        refine g_getIv hX (dk DX12_takesNumber 29 rfl) KX12 fX12_65 (by decide) rfl (MLt hM (by decide)) (MC hM) (W2_v8) ?_
        refine g_iconst (v := 1) hX (dk DX12_takesNumber 30 rfl) (by decide) ?_
        refine g_iadd hX (dk DX12_takesNumber 31 rfl) ?_
        refine g_nmI _ (nI_1 _) ?_
        refine g_putI hX (dk DX12_takesNumber 32 rfl) KX12 fX12_65 (by decide) rfl (MLt hM (by decide)) (MC hM) (Or.inl rfl) (rfl) (rfl) ?_
        rw [W2_8]
        refine g_iinc_1 (v := 2) hX (dk DX12_takesNumber 33 rfl) (by decide) (by decide) rfl ?_
        refine g_goto (tgt := 16) hX (dk DX12_takesNumber 34 rfl) (by decide) ?_
        refine g_iload_1 hX (dk DX12_takesNumber 10 rfl) ?_
        refine g_iconst (v := 2) hX (dk DX12_takesNumber 11 rfl) (by decide) ?_
        refine g_icmp_ge (tgt := 63) hX (dk DX12_takesNumber 12 rfl) (by decide) (fun hc6 => ?_) (fun hc6 => absurd (by decide) hc6)
        refine g_iconst (v := 1) hX (dk DX12_takesNumber 35 rfl) (by decide) ?_
        refine g_ireturn hX (dk DX12_takesNumber 36 rfl) rfl (by decide) (by decide) (by decide) ?_
        first
        | exact absurd hd0 (by assumption)
        | exact qI_of ⟨rfl, (bI_t hd0).symm, by rw [if_pos hd0]; unfold nuA nvA; rw [if_pos hd0]; (try first | rw [if_pos hc1] | rw [if_neg hc1] | rw [if_neg (not_not_intro hc1)]); (try first | rw [if_pos hc2] | rw [if_neg hc2] | rw [if_neg (not_not_intro hc2)]); (try first | rw [if_pos hc3] | rw [if_neg hc3] | rw [if_neg (not_not_intro hc3)]); (try first | rw [if_pos hc4] | rw [if_neg hc4] | rw [if_neg (not_not_intro hc4)]); (try first | rw [if_pos hc5] | rw [if_neg hc5] | rw [if_neg (not_not_intro hc5)]); (try first | rw [if_pos hc6] | rw [if_neg hc6] | rw [if_neg (not_not_intro hc6)]); (try first | rw [if_pos hc1] | rw [if_neg hc1] | rw [if_neg (not_not_intro hc1)]); (try first | rw [if_pos hc2] | rw [if_neg hc2] | rw [if_neg (not_not_intro hc2)]); (try first | rw [if_pos hc3] | rw [if_neg hc3] | rw [if_neg (not_not_intro hc3)]); (try first | rw [if_pos hc4] | rw [if_neg hc4] | rw [if_neg (not_not_intro hc4)]); (try first | rw [if_pos hc5] | rw [if_neg hc5] | rw [if_neg (not_not_intro hc5)]); (try first | rw [if_pos hc6] | rw [if_neg hc6] | rw [if_neg (not_not_intro hc6)]); first | done | rfl⟩
  · refine g_iconst (v := 0) hX (dk DX12_takesNumber 3 rfl) (by decide) ?_
    refine g_ireturn hX (dk DX12_takesNumber 4 rfl) rfl (by decide) (by decide) (by decide) ?_
    exact qI_of ⟨rfl, (bI_f (by assumption)).symm, (if_neg (by assumption)).symm⟩

