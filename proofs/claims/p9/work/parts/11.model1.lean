set_option maxRecDepth 8000 in
set_option maxHeartbeats 4000000 in
theorem c_X12_in {G : Gt} (hG : Gok G) {I : It} {h : Ht}  {a b c : Int32} : Con G (1) 0 0 mX12_in [.ref 0, .int a, .int b, .int c] I h (rI (bI (b ≤ a ∧ a ≤ c)) I h) := by
  refine con_intro (own := RX12) (lo0 := [some (.ref 0), some (.int a), some (.int b), some (.int c)]) hG rfl pl_X12 (Nat.le_of_ble_eq_true rfl) rfl (fun X hX => ?_)
  refine g_iload_1 hX (dk DX12_in 0 rfl) ?_
  refine g_iload_2 hX (dk DX12_in 1 rfl) ?_
  refine g_icmp_lt (tgt := 14) hX (dk DX12_in 2 rfl) (by decide) (fun hc1 => ?_) (fun hc1 => ?_)
  · refine g_iconst (v := 0) hX (dk DX12_in 8 rfl) (by decide) ?_
    refine g_ireturn hX (dk DX12_in 9 rfl) rfl (by decide) (by decide) (by decide) ?_
    exact rI_of (by grind [bI]) rfl rfl
  · refine g_iload_1 hX (dk DX12_in 3 rfl) ?_
    refine g_iload_3 hX (dk DX12_in 4 rfl) ?_
    refine g_icmp_gt (tgt := 14) hX (dk DX12_in 5 rfl) (by decide) (fun hc2 => ?_) (fun hc2 => ?_)
    · refine g_iconst (v := 0) hX (dk DX12_in 8 rfl) (by decide) ?_
      refine g_ireturn hX (dk DX12_in 9 rfl) rfl (by decide) (by decide) (by decide) ?_
      exact rI_of (by grind [bI]) rfl rfl
    · refine g_iconst (v := 1) hX (dk DX12_in 6 rfl) (by decide) ?_
      refine g_goto (tgt := 15) hX (dk DX12_in 7 rfl) (by decide) ?_
      refine g_ireturn hX (dk DX12_in 9 rfl) rfl (by decide) (by decide) (by decide) ?_
      exact rI_of (by grind [bI]) rfl rfl

set_option maxRecDepth 8000 in
set_option maxHeartbeats 4000000 in
theorem c_X12_has {G : Gt} (hG : Gok G) {I : It} {h : Ht}  {a b : Int32} : Con G (1) 0 0 mX12_has [.ref 0, .int a, .int b] I h (rI (bI (hasI a b = 1)) I h) := by
  refine con_intro (own := RX12) (lo0 := [some (.ref 0), some (.int a), some (.int b)]) hG rfl pl_X12 (Nat.le_of_ble_eq_true rfl) rfl (fun X hX => ?_)
  refine g_iload_1 hX (dk DX12_has 0 rfl) ?_
  refine g_iload_2 hX (dk DX12_has 1 rfl) ?_
  refine g_ishr hX (dk DX12_has 2 rfl) ?_
  refine g_iconst (v := 1) hX (dk DX12_has 3 rfl) (by decide) ?_
  refine g_iand hX (dk DX12_has 4 rfl) ?_
  refine g_iconst (v := 1) hX (dk DX12_has 5 rfl) (by decide) ?_
  refine g_icmp_ne (tgt := 13) hX (dk DX12_has 6 rfl) (by decide) (fun hc1 => ?_) (fun hc1 => ?_)
  · refine g_iconst (v := 0) hX (dk DX12_has 9 rfl) (by decide) ?_
    refine g_ireturn hX (dk DX12_has 10 rfl) rfl (by decide) (by decide) (by decide) ?_
    exact rI_of (by grind [bI, hasI]) rfl rfl
  · refine g_iconst (v := 1) hX (dk DX12_has 7 rfl) (by decide) ?_
    refine g_goto (tgt := 14) hX (dk DX12_has 8 rfl) (by decide) ?_
    refine g_ireturn hX (dk DX12_has 10 rfl) rfl (by decide) (by decide) (by decide) ?_
    exact rI_of (by grind [bI, hasI]) rfl rfl

set_option maxRecDepth 8000 in
set_option maxHeartbeats 4000000 in
theorem c_X12_isDoing {G : Gt} (hG : Gok G) {I : It} {h : Ht} (hM : HM h) {a : Int32} : Con G (2) 0 0 mX12_isDoing [.ref 0, .int a] I h (rI (bI (0 ≤ a ∧ a ≤ I 0 0 - 1)) I h) := by
  refine con_intro (own := RX12) (lo0 := [some (.ref 0), some (.int a)]) hG rfl pl_X12 (Nat.le_of_ble_eq_true rfl) rfl (fun X hX => ?_)
  refine g_aload_0 hX (dk DX12_isDoing 0 rfl) ?_
  refine g_iload_1 hX (dk DX12_isDoing 1 rfl) ?_
  refine g_iconst (v := 0) hX (dk DX12_isDoing 2 rfl) (by decide) ?_
  refine g_aload_0 hX (dk DX12_isDoing 3 rfl) ?_
  refine g_getI hX (dk DX12_isDoing 4 rfl) KX12 fX12_7 (by decide) rfl (MLt hM (by decide)) (MC hM) ?_
  refine g_iconst (v := 1) hX (dk DX12_isDoing 5 rfl) (by decide) ?_
  refine g_isub hX (dk DX12_isDoing 6 rfl) ?_
  refine g_c4I hX sX12_isDoing_9 (by decide) (Nat.le_of_ble_eq_true rfl) (rc0 rfl (MLt hM (by decide)) (MC hM)) (by decide) (by decide) (c_X12_in hG ) ?_
  refine g_ireturn hX (dk DX12_isDoing 8 rfl) rfl (narB _) (by decide) (by decide) ?_
  exact rI_of rfl rfl rfl

set_option maxRecDepth 8000 in
set_option maxHeartbeats 4000000 in
theorem c_X12_isWay {G : Gt} (hG : Gok G) {I : It} {h : Ht} (hM : HM h) {a : Int32} : Con G (2) 0 0 mX12_isWay [.ref 0, .int a] I h (rI (bI (0 ≤ a ∧ a ≤ 3)) I h) := by
  refine con_intro (own := RX12) (lo0 := [some (.ref 0), some (.int a)]) hG rfl pl_X12 (Nat.le_of_ble_eq_true rfl) rfl (fun X hX => ?_)
  refine g_aload_0 hX (dk DX12_isWay 0 rfl) ?_
  refine g_iload_1 hX (dk DX12_isWay 1 rfl) ?_
  refine g_iconst (v := 0) hX (dk DX12_isWay 2 rfl) (by decide) ?_
  refine g_iconst (v := 3) hX (dk DX12_isWay 3 rfl) (by decide) ?_
  refine g_c4I hX sX12_isWay_4 (by decide) (Nat.le_of_ble_eq_true rfl) (rc0 rfl (MLt hM (by decide)) (MC hM)) (by decide) (by decide) (c_X12_in hG ) ?_
  refine g_ireturn hX (dk DX12_isWay 5 rfl) rfl (narB _) (by decide) (by decide) ?_
  exact rI_of rfl rfl rfl

set_option maxRecDepth 8000 in
set_option maxHeartbeats 4000000 in
theorem c_X12_with {G : Gt} (hG : Gok G) {I : It} {h : Ht}  {a b z : Int32} : Con G (1) 0 0 mX12_with [.ref 0, .int a, .int b, .int z] I h (rI (withI a b z) I h) := by
  refine con_intro (own := RX12) (lo0 := [some (.ref 0), some (.int a), some (.int b), some (.int z)]) hG rfl pl_X12 (Nat.le_of_ble_eq_true rfl) rfl (fun X hX => ?_)
  refine g_iload_3 hX (dk DX12_with 0 rfl) ?_
  refine g_if_eq (tgt := 12) hX (dk DX12_with 1 rfl) (by decide) (fun hc1 => ?_) (fun hc1 => ?_)
  · refine g_iload_1 hX (dk DX12_with 8 rfl) ?_
    refine g_iconst (v := 1) hX (dk DX12_with 9 rfl) (by decide) ?_
    refine g_iload_2 hX (dk DX12_with 10 rfl) ?_
    refine g_ishl hX (dk DX12_with 11 rfl) ?_
    refine g_iconst (v := -1) hX (dk DX12_with 12 rfl) (by decide) ?_
    refine g_ixor hX (dk DX12_with 13 rfl) ?_
    refine g_iand hX (dk DX12_with 14 rfl) ?_
    refine g_ireturn hX (dk DX12_with 15 rfl) rfl (rfl) (by decide) (by decide) ?_
    exact rI_of (by simp_all [withI, bitI]) rfl rfl
  · refine g_iload_1 hX (dk DX12_with 2 rfl) ?_
    refine g_iconst (v := 1) hX (dk DX12_with 3 rfl) (by decide) ?_
    refine g_iload_2 hX (dk DX12_with 4 rfl) ?_
    refine g_ishl hX (dk DX12_with 5 rfl) ?_
    refine g_ior hX (dk DX12_with 6 rfl) ?_
    refine g_goto (tgt := 19) hX (dk DX12_with 7 rfl) (by decide) ?_
    refine g_ireturn hX (dk DX12_with 15 rfl) rfl (rfl) (by decide) (by decide) ?_
    exact rI_of (by simp_all [withI, bitI]) rfl rfl

theorem begin_a {E I : It} (hE : Inv E) (hA : Ag E I) (hc : 0 ≤ I 0 16) : (10 : Int32) * I 0 16 = nI (beg E) := by
  rw [hA.1.2.2] at hc ⊢
  rcases inv_the hE with ⟨e, -⟩ | ⟨x, c, hx, hx6, e, -, -, -, e1, -⟩
  · rw [e] at hc; exact absurd hc (by decide)
  · rw [e, e1, show (10 : Int32) = nI 10 from rfl, pk_mul]
theorem begin_b {E I : It} (hE : Inv E) (hA : Ag E I) (hc : ¬ 0 ≤ I 0 16) : nI (beg E) = 0 := by
  rw [hA.1.2.2] at hc
  rcases inv_the hE with ⟨e, e1, -⟩ | ⟨x, c, hx, hx6, e, -, -, -, e1, -⟩
  · rw [e1]; rfl
  · rw [e] at hc; exact absurd (nI_pos' (by omega)) hc
theorem behind_ix {E I : It} (hE : Inv E) (hA : Ag E I) (hc : 0 ≤ I 0 16) : idx (I 0 16) (tN (E 0 16)) 6 := by
  rw [hA.1.2.2] at hc ⊢
  rcases inv_the hE with ⟨e, -⟩ | ⟨x, c, hx, hx6, e, -⟩
  · rw [e] at hc; exact absurd hc (by decide)
  · rw [e, tN_nI (by omega)]; exact ⟨rfl, hx6, by decide⟩
theorem behind_a {E I : It} (hE : Inv E) (hA : Ag E I) (hc : 0 ≤ I 0 16) : (10 : Int32) * I 0 16 + I 10 (tN (E 0 16)) = nI (beg E + ncl E) := by
  rw [begin_a hE hA hc]
  rw [hA.1.2.2] at hc
  rcases inv_the hE with ⟨e, -⟩ | ⟨x, c, hx, hx6, e, -, -, e3, e1, e2, -⟩
  · rw [e] at hc; exact absurd hc (by decide)
  · rw [e, tN_nI (by omega), hA.2.2.1 x hx, e3, e2, nI_add]
theorem behind_b {E I : It} (hE : Inv E) (hA : Ag E I) (hc : ¬ 0 ≤ I 0 16) : nI (beg E + ncl E) = 0 := by
  rw [hA.1.2.2] at hc
  rcases inv_the hE with ⟨e, e1, e2⟩ | ⟨x, c, hx, hx6, e, -, -, -, e1, -⟩
  · rw [e1, e2]; rfl
  · rw [e] at hc; exact absurd (nI_pos' (by omega)) hc

set_option maxRecDepth 8000 in
set_option maxHeartbeats 4000000 in
theorem c_X12_begin {G : Gt} (hG : Gok G) {I : It} {h : Ht} (hM : HM h) {E : It} (hE : Inv E) (hA : Ag E I)  : Con G (1) 0 0 mX12_begin [.ref 0] I h (rI (nI (beg E)) I h) := by
  refine con_intro (own := RX12) (lo0 := [some (.ref 0)]) hG rfl pl_X12 (Nat.le_of_ble_eq_true rfl) rfl (fun X hX => ?_)
  refine g_aload_0 hX (dk DX12_begin 0 rfl) ?_
  refine g_getI hX (dk DX12_begin 1 rfl) KX12 fX12_59 (by decide) rfl (MLt hM (by decide)) (MC hM) ?_
  refine g_if_ge (tgt := 11) hX (dk DX12_begin 2 rfl) (by decide) (fun hc1 => ?_) (fun hc1 => ?_)
  · refine g_bipush (v := 10) hX (dk DX12_begin 5 rfl) (by decide) ?_
    refine g_aload_0 hX (dk DX12_begin 6 rfl) ?_
    refine g_getI hX (dk DX12_begin 7 rfl) KX12 fX12_59 (by decide) rfl (MLt hM (by decide)) (MC hM) ?_
    refine g_imul hX (dk DX12_begin 8 rfl) ?_
    refine g_ireturn hX (dk DX12_begin 9 rfl) rfl (rfl) (by decide) (by decide) ?_
    exact rI_of (by first | exact begin_a hE hA hc1 | exact (begin_b hE hA hc1).symm) rfl rfl
  · refine g_iconst (v := 0) hX (dk DX12_begin 3 rfl) (by decide) ?_
    refine g_goto (tgt := 18) hX (dk DX12_begin 4 rfl) (by decide) ?_
    refine g_ireturn hX (dk DX12_begin 9 rfl) rfl (rfl) (by decide) (by decide) ?_
    exact rI_of (by first | exact begin_a hE hA hc1 | exact (begin_b hE hA hc1).symm) rfl rfl

set_option maxRecDepth 8000 in
set_option maxHeartbeats 4000000 in
theorem c_X12_behind {G : Gt} (hG : Gok G) {I : It} {h : Ht} (hM : HM h) {E : It} (hE : Inv E) (hA : Ag E I)  : Con G (1) 0 0 mX12_behind [.ref 0] I h (rI (nI (beg E + ncl E)) I h) := by
  refine con_intro (own := RX12) (lo0 := [some (.ref 0)]) hG rfl pl_X12 (Nat.le_of_ble_eq_true rfl) rfl (fun X hX => ?_)
  refine g_aload_0 hX (dk DX12_behind 0 rfl) ?_
  refine g_getI hX (dk DX12_behind 1 rfl) KX12 fX12_59 (by decide) rfl (MLt hM (by decide)) (MC hM) ?_
  refine g_if_ge (tgt := 11) hX (dk DX12_behind 2 rfl) (by decide) (fun hc1 => ?_) (fun hc1 => ?_)
  · refine g_bipush (v := 10) hX (dk DX12_behind 5 rfl) (by decide) ?_
    refine g_aload_0 hX (dk DX12_behind 6 rfl) ?_
    refine g_getI hX (dk DX12_behind 7 rfl) KX12 fX12_59 (by decide) rfl (MLt hM (by decide)) (MC hM) ?_
    refine g_imul hX (dk DX12_behind 8 rfl) ?_
    refine g_aload_0 hX (dk DX12_behind 9 rfl) ?_
    refine g_getRs (r := 10) hX (dk DX12_behind 10 rfl) KX12 fX12_74 (by decide) rfl (MLt hM (by decide)) (MC hM) (MR hM 21 (by decide) rfl) ?_
    refine g_aload_0 hX (dk DX12_behind 11 rfl) ?_
    refine g_getI hX (dk DX12_behind 12 rfl) KX12 fX12_59 (by decide) rfl (MLt hM (by decide)) (MC hM) ?_
    refine i_iaload hX (dk DX12_behind 13 rfl) (MLt hM (q := 10) (by decide)) (MS hM 10 (by decide) rfl) (behind_ix hE hA hc1) ?_
    refine g_iadd hX (dk DX12_behind 14 rfl) ?_
    refine g_ireturn hX (dk DX12_behind 15 rfl) rfl (rfl) (by decide) (by decide) ?_
    exact rI_of (by first | exact behind_a hE hA hc1 | exact (behind_b hE hA hc1).symm) rfl rfl
  · refine g_iconst (v := 0) hX (dk DX12_behind 3 rfl) (by decide) ?_
    refine g_goto (tgt := 28) hX (dk DX12_behind 4 rfl) (by decide) ?_
    refine g_ireturn hX (dk DX12_behind 15 rfl) rfl (rfl) (by decide) (by decide) ?_
    exact rI_of (by first | exact behind_a hE hA hc1 | exact (behind_b hE hA hc1).symm) rfl rfl

theorem Ag.w {E I : It} (hE : Inv E) (hA : Ag E I) {c : Nat} (hc : c < beg E + ncl E) : idx (nI c) c 60 ∧ I 11 c = E 11 c ∧ I 12 c = E 12 c ∧ I 13 c = E 13 c ∧ I 14 c = E 14 c := by
  have := beg_le hE
  exact ⟨⟨rfl, by omega, by decide⟩, hA.2.2.2.1 c (by omega)⟩
theorem cl_end {c k e : Nat} (hk : c + k = e) (he : e ≤ 60) (hc : nI e ≤ nI c) : k = 0 := by
  have := (nI_leI (by omega) (by omega)).mp hc
  omega
theorem cl_go {c k e : Nat} (hk : c + k = e) (he : e ≤ 60) (hc : ¬ nI e ≤ nI c) : ∃ z, k = z + 1 := by
  cases k with
  | zero => exact absurd (nI_le (by omega) (by omega)) hc
  | succ z => exact ⟨z, rfl⟩

set_option maxRecDepth 8000 in
set_option maxHeartbeats 4000000 in
theorem c_X12_lastOf {G : Gt} (hG : Gok G) {I : It} {h : Ht} (hM : HM h) {E : It} (hE : Inv E) (hA : Ag E I) {w n : Int32} : Con G (2) 0 0 mX12_lastOf [.ref 0, .int w, .int n] I h (rI (lastF E w (ncl E) (beg E) n) I h) := by
  refine con_intro (own := RX12) (lo0 := [some (.ref 0), some (.int w), some (.int n), none, none]) hG rfl pl_X12 (Nat.le_of_ble_eq_true rfl) rfl (fun X hX => ?_)
  have loop8 : ∀ (k c : Nat) (z : Int32), c + k = beg E + ncl E → lastF E w k c z = lastF E w (ncl E) (beg E) n → GG G (2) 0 0 X (rI (lastF E w (ncl E) (beg E) n) I h) 8 [some (.ref 0), some (.int w), some (.int n), some (.int z), some (.int (nI c))] [] (I) (h) 0 0 := by
    intro k
    induction k using Nat.strongRecOn with | _ k ih => ?_
    intro c z hk hv
    have hb := beg_le hE
    refine g_iload_4 hX (dk DX12_lastOf 5 rfl) ?_
    refine g_aload_0 hX (dk DX12_lastOf 6 rfl) ?_
    refine g_c1I hX sX12_lastOf_11 (by decide) (Nat.le_of_ble_eq_true rfl) (rc0 rfl (MLt hM (by decide)) (MC hM)) (by decide) (by decide) (c_X12_behind hG hM hE hA) ?_
    refine g_icmp_ge (tgt := 46) hX (dk DX12_lastOf 8 rfl) (by decide) (fun hc1 => ?_) (fun hc1 => ?_)
    · refine g_iload_3 hX (dk DX12_lastOf 24 rfl) ?_
      refine g_ireturn hX (dk DX12_lastOf 25 rfl) rfl (rfl) (by decide) (by decide) ?_
      have hk0 := cl_end hk hb.1 hc1
      subst hk0
      exact rI_of hv rfl rfl
    · obtain ⟨k, rfl⟩ := cl_go hk hb.1 hc1
      have hw := Ag.w hE hA (c := c) (by omega)
      refine g_aload_0 hX (dk DX12_lastOf 9 rfl) ?_
      refine g_getRs (r := 11) hX (dk DX12_lastOf 10 rfl) KX12 fX12_77 (by decide) rfl (MLt hM (by decide)) (MC hM) (MR hM 22 (by decide) rfl) ?_
      refine g_iload_4 hX (dk DX12_lastOf 11 rfl) ?_
      refine i_iaload hX (dk DX12_lastOf 12 rfl) (MLt hM (q := 11) (by decide)) (MS hM 11 (by decide) rfl) (hw.1) ?_
      refine g_iload_1 hX (dk DX12_lastOf 13 rfl) ?_
      refine g_icmp_ne (tgt := 38) hX (dk DX12_lastOf 14 rfl) (by decide) (fun hc2 => ?_) (fun hc2 => ?_)
      · refine g_iload_3 hX (dk DX12_lastOf 20 rfl) ?_
        refine g_istore_3 hX (dk DX12_lastOf 21 rfl) (by decide) rfl ?_
        refine g_iinc_4 hX (dk DX12_lastOf 22 rfl) (nI_1 c) (by decide) rfl ?_
        refine g_goto (tgt := 8) hX (dk DX12_lastOf 23 rfl) (by decide) ?_
        exact ih k (by omega) (c + 1) _ (by omega) (by rw [← hv, lastF_s, ← hw.2.1, ← hw.2.2.1]; first | rw [if_pos hc2] | rw [if_neg hc2])
      · refine g_aload_0 hX (dk DX12_lastOf 15 rfl) ?_
        refine g_getRs (r := 12) hX (dk DX12_lastOf 16 rfl) KX12 fX12_80 (by decide) rfl (MLt hM (by decide)) (MC hM) (MR hM 23 (by decide) rfl) ?_
        refine g_iload_4 hX (dk DX12_lastOf 17 rfl) ?_
        refine i_iaload hX (dk DX12_lastOf 18 rfl) (MLt hM (q := 12) (by decide)) (MS hM 12 (by decide) rfl) (hw.1) ?_
        refine g_goto (tgt := 39) hX (dk DX12_lastOf 19 rfl) (by decide) ?_
        refine g_istore_3 hX (dk DX12_lastOf 21 rfl) (by decide) rfl ?_
        refine g_iinc_4 hX (dk DX12_lastOf 22 rfl) (nI_1 c) (by decide) rfl ?_
        refine g_goto (tgt := 8) hX (dk DX12_lastOf 23 rfl) (by decide) ?_
        exact ih k (by omega) (c + 1) _ (by omega) (by rw [← hv, lastF_s, ← hw.2.1, ← hw.2.2.1]; first | rw [if_pos hc2] | rw [if_neg hc2])
  refine g_iload_2 hX (dk DX12_lastOf 0 rfl) ?_
  refine g_istore_3 hX (dk DX12_lastOf 1 rfl) (by decide) rfl ?_
  refine g_aload_0 hX (dk DX12_lastOf 2 rfl) ?_
  refine g_c1I hX sX12_lastOf_3 (by decide) (Nat.le_of_ble_eq_true rfl) (rc0 rfl (MLt hM (by decide)) (MC hM)) (by decide) (by decide) (c_X12_begin hG hM hE hA) ?_
  refine g_istore_4 hX (dk DX12_lastOf 4 rfl) (by decide) rfl ?_
  exact loop8 (ncl E) (beg E) n rfl rfl

theorem depR_neg {t : Int32} {n m : Nat} (ht : t = -33) (h : depR t n = some m) : 0 < n ∧ m = n := by
  unfold depR at h
  rw [if_pos ht] at h
  split at h
  · cases h
  · cases h; omega
theorem depR_and {t : Int32} {n m : Nat} (ht : ¬ t = -33) (h0 : t < 0) (h : depR t n = some m) : 2 ≤ n ∧ m = n - 1 := by
  unfold depR at h
  rw [if_neg ht, if_pos h0] at h
  split at h
  · cases h
  · cases h; omega
theorem depR_test {t : Int32} {n m : Nat} (ht : ¬ t = -33) (h0 : ¬ t < 0) (h : depR t n = some m) : m = n + 1 := by
  unfold depR at h
  rw [if_neg ht, if_neg h0] at h
  cases h; rfl
theorem wf_go {E : It} {k c n : Nat} (h : wfR E (k + 1) c n = true) : ∃ m, depR (E 15 c) n = some m ∧ wfR E k (c + 1) m = true := by
  rw [wfR_s] at h
  cases hd : depR (E 15 c) n with
  | none => rw [hd] at h; cases h
  | some m => rw [hd] at h; exact ⟨m, rfl, h⟩

set_option maxRecDepth 8000 in
set_option maxHeartbeats 4000000 in
theorem c_X12_factOf {G : Gt} (hG : Gok G) {I : It} {h : Ht} (hM : HM h) {E : It} (hA : Ag E I) {f y w : Int32} {d : Nat} (hd : d < 10) : Con G (1) 0 0 mX12_factOf [.ref 0, .int f, .int (nI d), .int y, .int w] I h (rI (factF E f d y w) I h) := by
  refine con_intro (own := RX12) (lo0 := [some (.ref 0), some (.int f), some (.int (nI d)), some (.int y), some (.int w)]) hG rfl pl_X12 (Nat.le_of_ble_eq_true rfl) rfl (fun X hX => ?_)
  refine g_iload_1 hX (dk DX12_factOf 0 rfl) ?_
  refine g_tswitch (dt := 75) hX [(0, 40), (1, 42), (2, 49), (3, 56), (4, 63), (5, 73)] (dk DX12_factOf 1 rfl) (by decide +kernel) ?_
  refine ⟨fun hc1 => ?_, fun hc1n => ?_⟩
  · show GG _ _ _ _ _ _ _ _ _ _ _ _ _
    refine g_iload_2 hX (dk DX12_factOf 2 rfl) ?_
    refine g_ireturn hX (dk DX12_factOf 3 rfl) rfl (rfl) (by decide) (by decide) ?_
    subst hc1
    exact rI_of rfl rfl rfl
  refine ⟨fun hc2 => ?_, fun hc2n => ?_⟩
  · show GG _ _ _ _ _ _ _ _ _ _ _ _ _
    refine g_aload_0 hX (dk DX12_factOf 4 rfl) ?_
    refine g_getRs (r := 1) hX (dk DX12_factOf 5 rfl) KX12 fX12_31 (by decide) rfl (MLt hM (by decide)) (MC hM) (MR hM 7 (by decide) rfl) ?_
    refine g_iload_2 hX (dk DX12_factOf 6 rfl) ?_
    refine i_iaload hX (dk DX12_factOf 7 rfl) (MLt hM (q := 1) (by decide)) (MS hM 1 (by decide) rfl) (⟨rfl, hd, by decide⟩) ?_
    refine g_ireturn hX (dk DX12_factOf 8 rfl) rfl (rfl) (by decide) (by decide) ?_
    subst hc2
    exact rI_of (by rw [hA.2.1 1 (by decide)]; rfl) rfl rfl
  refine ⟨fun hc3 => ?_, fun hc3n => ?_⟩
  · show GG _ _ _ _ _ _ _ _ _ _ _ _ _
    refine g_aload_0 hX (dk DX12_factOf 9 rfl) ?_
    refine g_getRs (r := 3) hX (dk DX12_factOf 10 rfl) KX12 fX12_38 (by decide) rfl (MLt hM (by decide)) (MC hM) (MR hM 9 (by decide) rfl) ?_
    refine g_iload_2 hX (dk DX12_factOf 11 rfl) ?_
    refine i_iaload hX (dk DX12_factOf 12 rfl) (MLt hM (q := 3) (by decide)) (MS hM 3 (by decide) rfl) (⟨rfl, hd, by decide⟩) ?_
    refine g_ireturn hX (dk DX12_factOf 13 rfl) rfl (rfl) (by decide) (by decide) ?_
    subst hc3
    exact rI_of (by rw [hA.2.1 3 (by decide)]; rfl) rfl rfl
  refine ⟨fun hc4 => ?_, fun hc4n => ?_⟩
  · show GG _ _ _ _ _ _ _ _ _ _ _ _ _
    refine g_aload_0 hX (dk DX12_factOf 14 rfl) ?_
    refine g_getRs (r := 2) hX (dk DX12_factOf 15 rfl) KX12 fX12_35 (by decide) rfl (MLt hM (by decide)) (MC hM) (MR hM 8 (by decide) rfl) ?_
    refine g_iload_2 hX (dk DX12_factOf 16 rfl) ?_
    refine i_iaload hX (dk DX12_factOf 17 rfl) (MLt hM (q := 2) (by decide)) (MS hM 2 (by decide) rfl) (⟨rfl, hd, by decide⟩) ?_
    refine g_ireturn hX (dk DX12_factOf 18 rfl) rfl (rfl) (by decide) (by decide) ?_
    subst hc4
    exact rI_of (by rw [hA.2.1 2 (by decide)]; rfl) rfl rfl
  refine ⟨fun hc5 => ?_, fun hc5n => ?_⟩
  · show GG _ _ _ _ _ _ _ _ _ _ _ _ _
    refine g_aload_0 hX (dk DX12_factOf 19 rfl) ?_
    refine g_getRs (r := 5) hX (dk DX12_factOf 20 rfl) KX12 fX12_44 (by decide) rfl (MLt hM (by decide)) (MC hM) (MR hM 11 (by decide) rfl) ?_
    refine g_iload_2 hX (dk DX12_factOf 21 rfl) ?_
    refine i_iaload hX (dk DX12_factOf 22 rfl) (MLt hM (q := 5) (by decide)) (MS hM 5 (by decide) rfl) (⟨rfl, hd, by decide⟩) ?_
    refine g_bipush (v := 10) hX (dk DX12_factOf 23 rfl) (by decide) ?_
    refine g_idiv hX (dk DX12_factOf 24 rfl) (by decide) ?_
    refine g_ireturn hX (dk DX12_factOf 25 rfl) rfl (rfl) (by decide) (by decide) ?_
    subst hc5
    exact rI_of (by rw [hA.2.1 5 (by decide)]; rfl) rfl rfl
  refine ⟨fun hc6 => ?_, fun hc6n => ?_⟩
  · show GG _ _ _ _ _ _ _ _ _ _ _ _ _
    refine g_iload_3 hX (dk DX12_factOf 26 rfl) ?_
    refine g_ireturn hX (dk DX12_factOf 27 rfl) rfl (rfl) (by decide) (by decide) ?_
    subst hc6
    exact rI_of rfl rfl rfl
  show GG _ _ _ _ _ _ _ _ _ _ _ _ _
  refine g_iload_4 hX (dk DX12_factOf 28 rfl) ?_
  refine g_ireturn hX (dk DX12_factOf 29 rfl) rfl (rfl) (by decide) (by decide) ?_
  exact rI_of (by unfold factF; rw [if_neg hc1n, if_neg hc2n, if_neg hc3n, if_neg hc4n, if_neg hc5n, if_neg hc6n]) rfl rfl

