set_option maxRecDepth 8000 in
set_option maxHeartbeats 4000000 in
theorem c_X12_manyIn {G : Gt} (hG : Gok G) {I : It} {h : Ht} (hM : HM h) {E : It} (hE : Inv E) (hA : Ag E I) {w : Nat} : Con G (2) 0 0 mX12_manyIn [.ref 0, .int (nI w)] I h (rI (manyF E w) I h) := by
  refine con_intro (own := RX12) (lo0 := [some (.ref 0), some (.int (nI w)), none, none]) hG rfl pl_X12 (Nat.le_of_ble_eq_true rfl) rfl (fun X hX => ?_)
  have hc10 := inv_cnt hE
  have loop4 : ∀ (k i : Nat) (z : Int32), i + k = cnt E → manyR E w k i z = manyF E w → GG G (2) 0 0 X (rI (manyF E w) I h) 4 [some (.ref 0), some (.int (nI w)), some (.int z), some (.int (nI i))] [] (I) (h) 0 0 := by
    intro k
    induction k using Nat.strongRecOn with | _ k ih => ?_
    intro i z hk hv
    refine g_iload_3 hX (dk DX12_manyIn 4 rfl) ?_
    refine g_aload_0 hX (dk DX12_manyIn 5 rfl) ?_
    refine g_getIv hX (dk DX12_manyIn 6 rfl) KX12 fX12_7 (by decide) rfl (MLt hM (by decide)) (MC hM) (hA.1.1.trans hc10.1) ?_
    refine g_icmp_ge (tgt := 35) hX (dk DX12_manyIn 7 rfl) (by decide) (fun hc1 => ?_) (fun hc1 => ?_)
    · refine g_iload_2 hX (dk DX12_manyIn 21 rfl) ?_
      refine g_ireturn hX (dk DX12_manyIn 22 rfl) rfl (rfl) (by decide) (by decide) ?_
      have hk0 := cl_end hk (by omega) hc1
      subst hk0
      exact rI_of hv rfl rfl
    · obtain ⟨k, rfl⟩ := cl_go hk (by omega) hc1
      have hi : i < cnt E := by omega
      refine g_iload_2 hX (dk DX12_manyIn 8 rfl) ?_
      refine g_aload_0 hX (dk DX12_manyIn 9 rfl) ?_
      refine g_iload_3 hX (dk DX12_manyIn 10 rfl) ?_
      refine g_iload_1 hX (dk DX12_manyIn 11 rfl) ?_
      refine g_c3I hX sX12_manyIn_16 (by decide) (Nat.le_of_ble_eq_true rfl) (rc0 rfl (MLt hM (by decide)) (MC hM)) (by decide) (by decide) (c_X12_comes hG hM hE hA hi) ?_
      refine g_ifb_eq (tgt := 26) hX (dk DX12_manyIn 13 rfl) (by decide) (fun hc2 => ?_) (fun hc2 => ?_)
      · have hV := bI_f hc2
        refine g_iconst (v := 0) hX (dk DX12_manyIn 16 rfl) (by decide) ?_
        refine g_iadd hX (dk DX12_manyIn 17 rfl) ?_
        refine g_istore_2 hX (dk DX12_manyIn 18 rfl) (by decide) rfl ?_
        refine g_iinc_3 hX (dk DX12_manyIn 19 rfl) (nI_1 i) (by decide) rfl ?_
        refine g_goto (tgt := 4) hX (dk DX12_manyIn 20 rfl) (by decide) ?_
        exact ih k (by omega) (i + 1) _ (by omega) (by rw [← hv, manyR_s, hV])
      · have hV := bI_t hc2
        refine g_iconst (v := 1) hX (dk DX12_manyIn 14 rfl) (by decide) ?_
        refine g_goto (tgt := 27) hX (dk DX12_manyIn 15 rfl) (by decide) ?_
        refine g_iadd hX (dk DX12_manyIn 17 rfl) ?_
        refine g_istore_2 hX (dk DX12_manyIn 18 rfl) (by decide) rfl ?_
        refine g_iinc_3 hX (dk DX12_manyIn 19 rfl) (nI_1 i) (by decide) rfl ?_
        refine g_goto (tgt := 4) hX (dk DX12_manyIn 20 rfl) (by decide) ?_
        exact ih k (by omega) (i + 1) _ (by omega) (by rw [← hv, manyR_s, hV])
  refine g_iconst (v := 0) hX (dk DX12_manyIn 0 rfl) (by decide) ?_
  refine g_istore_2 hX (dk DX12_manyIn 1 rfl) (by decide) rfl ?_
  refine g_iconst (v := 0) hX (dk DX12_manyIn 2 rfl) (by decide) ?_
  refine g_istore_3 hX (dk DX12_manyIn 3 rfl) (by decide) rfl ?_
  exact loop4 (cnt E) 0 0 (Nat.zero_add _) rfl

set_option maxRecDepth 8000 in
set_option maxHeartbeats 4000000 in
theorem c_X12_allCome {G : Gt} (hG : Gok G) {I : It} {h : Ht} (hM : HM h) {E : It} (hE : Inv E) (hA : Ag E I) {w : Nat} {set : Int32} : Con G (2) 0 0 mX12_allCome [.ref 0, .int set, .int (nI w)] I h (rI (bI (allCR E set w (cnt E) 0 = true)) I h) := by
  refine con_intro (own := RX12) (lo0 := [some (.ref 0), some (.int set), some (.int (nI w)), none]) hG rfl pl_X12 (Nat.le_of_ble_eq_true rfl) rfl (fun X hX => ?_)
  have hc10 := inv_cnt hE
  have loop2 : ∀ (k i : Nat), i + k = cnt E → allCR E set w k i = allCR E set w (cnt E) 0 → GG G (2) 0 0 X (rI (bI (allCR E set w (cnt E) 0 = true)) I h) 2 [some (.ref 0), some (.int set), some (.int (nI w)), some (.int (nI i))] [] (I) (h) 0 0 := by
    intro k
    induction k using Nat.strongRecOn with | _ k ih => ?_
    intro i hk hv
    refine g_iload_3 hX (dk DX12_allCome 2 rfl) ?_
    refine g_aload_0 hX (dk DX12_allCome 3 rfl) ?_
    refine g_getIv hX (dk DX12_allCome 4 rfl) KX12 fX12_7 (by decide) rfl (MLt hM (by decide)) (MC hM) (hA.1.1.trans hc10.1) ?_
    refine g_icmp_ge (tgt := 36) hX (dk DX12_allCome 5 rfl) (by decide) (fun hc1 => ?_) (fun hc1 => ?_)
    · refine g_iconst (v := 1) hX (dk DX12_allCome 20 rfl) (by decide) ?_
      refine g_ireturn hX (dk DX12_allCome 21 rfl) rfl (by decide) (by decide) (by decide) ?_
      have hk0 := cl_end hk (by omega) hc1
      subst hk0
      exact rI_of (by rw [← hv]; rfl) rfl rfl
    · obtain ⟨k, rfl⟩ := cl_go hk (by omega) hc1
      have hi : i < cnt E := by omega
      refine g_aload_0 hX (dk DX12_allCome 6 rfl) ?_
      refine g_iload_1 hX (dk DX12_allCome 7 rfl) ?_
      refine g_iload_3 hX (dk DX12_allCome 8 rfl) ?_
      refine g_c3I hX sX12_allCome_13 (by decide) (Nat.le_of_ble_eq_true rfl) (rc0 rfl (MLt hM (by decide)) (MC hM)) (by decide) (by decide) (c_X12_has hG) ?_
      refine g_ifb_eq (tgt := 30) hX (dk DX12_allCome 10 rfl) (by decide) (fun hc2 => ?_) (fun hc2 => ?_)
      · have hst : allCR E set w (k + 1) i = allCR E set w k (i + 1) := by
          rw [allCR_s, if_neg]
          rintro ⟨e1, e2⟩
          first | exact e2 hc2 | exact hc2 e1
        refine g_iinc_3 hX (dk DX12_allCome 18 rfl) (nI_1 i) (by decide) rfl ?_
        refine g_goto (tgt := 2) hX (dk DX12_allCome 19 rfl) (by decide) ?_
        exact ih k (by omega) (i + 1) (by omega) (by rw [← hv, hst])
      · have hh := hc2
        refine g_aload_0 hX (dk DX12_allCome 11 rfl) ?_
        refine g_iload_3 hX (dk DX12_allCome 12 rfl) ?_
        refine g_iload_2 hX (dk DX12_allCome 13 rfl) ?_
        refine g_c3I hX sX12_allCome_22 (by decide) (Nat.le_of_ble_eq_true rfl) (rc0 rfl (MLt hM (by decide)) (MC hM)) (by decide) (by decide) (c_X12_comes hG hM hE hA hi) ?_
        refine g_ifb_ne (tgt := 30) hX (dk DX12_allCome 15 rfl) (by decide) (fun hc3 => ?_) (fun hc3 => ?_)
        · have hst : allCR E set w (k + 1) i = allCR E set w k (i + 1) := by
            rw [allCR_s, if_neg]
            rintro ⟨e1, e2⟩
            first | exact e2 hc3 | exact hc3 e1
          refine g_iinc_3 hX (dk DX12_allCome 18 rfl) (nI_1 i) (by decide) rfl ?_
          refine g_goto (tgt := 2) hX (dk DX12_allCome 19 rfl) (by decide) ?_
          exact ih k (by omega) (i + 1) (by omega) (by rw [← hv, hst])
        · have hst : allCR E set w (k + 1) i = false := by rw [allCR_s, if_pos ⟨hh, hc3⟩]
          refine g_iconst (v := 0) hX (dk DX12_allCome 16 rfl) (by decide) ?_
          refine g_ireturn hX (dk DX12_allCome 17 rfl) rfl (by decide) (by decide) (by decide) ?_
          exact rI_of (by rw [← hv, hst]; rfl) rfl rfl
  refine g_iconst (v := 0) hX (dk DX12_allCome 0 rfl) (by decide) ?_
  refine g_istore_3 hX (dk DX12_allCome 1 rfl) (by decide) rfl ?_
  exact loop2 (cnt E) 0 (Nat.zero_add _) rfl

set_option maxRecDepth 8000 in
set_option maxHeartbeats 4000000 in
theorem c_X12_comesIn {G : Gt} (hG : Gok G) {I : It} {h : Ht} (hM : HM h) {E : It} (hE : Inv E) (hA : Ag E I) {d m : Nat} (hd : d < cnt E) (hm : m ≤ 200) : Con G (2) 0 0 mX12_comesIn [.ref 0, .int (nI d), .int (nI m)] I h (rI (bI (comInR E d m (wk E) = true)) I h) := by
  refine con_intro (own := RX12) (lo0 := [some (.ref 0), some (.int (nI d)), some (.int (nI m)), none]) hG rfl pl_X12 (Nat.le_of_ble_eq_true rfl) rfl (fun X hX => ?_)
  have hw := inv_wk hE
  have loop5 : ∀ (k w : Nat), w + k = wk E + m → wk E ≤ w → comInR E d k w = comInR E d m (wk E) → GG G (2) 0 0 X (rI (bI (comInR E d m (wk E) = true)) I h) 5 [some (.ref 0), some (.int (nI d)), some (.int (nI m)), some (.int (nI w))] [] (I) (h) 0 0 := by
    intro k
    induction k using Nat.strongRecOn with | _ k ih => ?_
    intro w hk hw1 hv
    refine g_iload_3 hX (dk DX12_comesIn 3 rfl) ?_
    refine g_aload_0 hX (dk DX12_comesIn 4 rfl) ?_
    refine g_getIv hX (dk DX12_comesIn 5 rfl) KX12 fX12_13 (by decide) rfl (MLt hM (by decide)) (MC hM) (hA.1.2.1.trans hw.1) ?_
    refine g_iload_2 hX (dk DX12_comesIn 6 rfl) ?_
    refine g_iadd hX (dk DX12_comesIn 7 rfl) ?_
    refine g_icmp_ge (tgt := 32) hX (dk DX12_comesIn 8 rfl) (by decide) (fun hc1 => ?_) (fun hc1 => ?_)
    · refine g_iconst (v := 0) hX (dk DX12_comesIn 18 rfl) (by decide) ?_
      refine g_ireturn hX (dk DX12_comesIn 19 rfl) rfl (by decide) (by decide) (by decide) ?_
      rw [nI_add] at hc1
      have hk0 := ct_end hk (by omega) hc1
      subst hk0
      exact rI_of (by rw [← hv]; rfl) rfl rfl
    · rw [nI_add] at hc1
      obtain ⟨k, rfl⟩ := ct_go hk (by omega) hc1
      refine g_aload_0 hX (dk DX12_comesIn 9 rfl) ?_
      refine g_iload_1 hX (dk DX12_comesIn 10 rfl) ?_
      refine g_iload_3 hX (dk DX12_comesIn 11 rfl) ?_
      refine g_c3I hX sX12_comesIn_18 (by decide) (Nat.le_of_ble_eq_true rfl) (rc0 rfl (MLt hM (by decide)) (MC hM)) (by decide) (by decide) (c_X12_comes hG hM hE hA hd) ?_
      refine g_ifb_eq (tgt := 26) hX (dk DX12_comesIn 13 rfl) (by decide) (fun hc2 => ?_) (fun hc2 => ?_)
      · have hst : comInR E d (k + 1) w = comInR E d k (w + 1) := by rw [comInR_s, if_neg hc2]
        refine g_iinc_3 hX (dk DX12_comesIn 16 rfl) (nI_1 w) (by decide) rfl ?_
        refine g_goto (tgt := 5) hX (dk DX12_comesIn 17 rfl) (by decide) ?_
        exact ih k (by omega) (w + 1) (by omega) (by omega) (by rw [← hv, hst])
      · have hst : comInR E d (k + 1) w = true := by rw [comInR_s, if_pos hc2]
        refine g_iconst (v := 1) hX (dk DX12_comesIn 14 rfl) (by decide) ?_
        refine g_ireturn hX (dk DX12_comesIn 15 rfl) rfl (by decide) (by decide) (by decide) ?_
        exact rI_of (by rw [← hv, hst]; rfl) rfl rfl
  refine g_aload_0 hX (dk DX12_comesIn 0 rfl) ?_
  refine g_getIv hX (dk DX12_comesIn 1 rfl) KX12 fX12_13 (by decide) rfl (MLt hM (by decide)) (MC hM) (hA.1.2.1.trans hw.1) ?_
  refine g_istore_3 hX (dk DX12_comesIn 2 rfl) (by decide) rfl ?_
  exact loop5 m (wk E) rfl (Nat.le_refl _) rfl

set_option maxRecDepth 8000 in
set_option maxHeartbeats 4000000 in
theorem c_X12_divisor {G : Gt} (hG : Gok G) {I : It} {h : Ht}  {a b : Nat} (ha : a < 2 ^ 63) (hb : b < 2 ^ 63) : Con G (1) 0 0 mX12_divisor [.ref 0, .long (lN a), .long (lN b)] I h (rL (lN (Nat.gcd a b)) I h) := by
  refine con_intro (own := RX12) (lo0 := [some (.ref 0), some (.long (lN a)), none, some (.long (lN b)), none, none, none, none, none, none, none]) hG rfl pl_X12 (Nat.le_of_ble_eq_true rfl) rfl (fun X hX => ?_)
  have loop6 : ∀ (q p : Nat), p < 2 ^ 63 → q < 2 ^ 63 → Nat.gcd p q = Nat.gcd a b → GG G (1) 0 0 X (rL (lN (Nat.gcd a b)) I h) 6 [some (.ref 0), some (.long (lN a)), none, some (.long (lN b)), none, some (.long (lN p)), none, some (.long (lN q)), none, none, none] [] (I) (h) 0 0 := by
    intro q
    induction q using Nat.strongRecOn with | _ q ih => ?_
    intro p hp hq hv
    refine g_lload_7 hX (dk DX12_divisor 4 rfl) ?_
    refine g_lconst (v := 0) hX (dk DX12_divisor 5 rfl) (by decide) ?_
    refine g_lcmp hX (dk DX12_divisor 6 rfl) ?_
    refine g_if_eq (tgt := 31) hX (dk DX12_divisor 7 rfl) (by decide) (fun hc1 => ?_) (fun hc1 => ?_)
    · refine g_lload_5 hX (dk DX12_divisor 17 rfl) ?_
      refine g_lreturn hX (dk DX12_divisor 18 rfl) rfl (by decide) (by decide) ?_
      have hq0 : q = 0 := (pk_lEQ (b := 0) hq (by decide)).mp ((lg0 _).mp hc1)
      subst hq0
      exact rL_of (by rw [← hv, Nat.gcd_zero_right]) rfl rfl
    · have hq1 : ¬ lN q = 0 := fun e => hc1 ((lg0 _).mpr e)
      have hq0 : q ≠ 0 := fun e => hq1 (by rw [e]; rfl)
      refine g_lload_5 hX (dk DX12_divisor 8 rfl) ?_
      refine g_lload_7 hX (dk DX12_divisor 9 rfl) ?_
      refine g_lrem hX (dk DX12_divisor 10 rfl) (hq1) ?_
      refine g_nmL (lN (p % q)) (pk_lRem hp (by omega) hq) ?_
      refine g_lstore_9 hX (dk DX12_divisor 11 rfl) (by decide) rfl ?_
      refine g_lload_7 hX (dk DX12_divisor 12 rfl) ?_
      refine g_lstore_5 hX (dk DX12_divisor 13 rfl) (by decide) rfl ?_
      refine g_lload_9 hX (dk DX12_divisor 14 rfl) ?_
      refine g_lstore_7 hX (dk DX12_divisor 15 rfl) (by decide) rfl ?_
      refine g_goto (tgt := 6) hX (dk DX12_divisor 16 rfl) (by decide) ?_
      exact g_fgt (ih (p % q) (Nat.mod_lt _ (by omega)) q hq (Nat.lt_trans (Nat.mod_lt _ (by omega)) hq) (by rw [← hv, Nat.gcd_comm p q, Nat.gcd_rec q p, Nat.gcd_comm])) ⟨rfl, rfl, rfl, rfl, rfl, trivial⟩
  refine g_lload_1 hX (dk DX12_divisor 0 rfl) ?_
  refine g_lstore_5 hX (dk DX12_divisor 1 rfl) (by decide) rfl ?_
  refine g_lload_3 hX (dk DX12_divisor 2 rfl) ?_
  refine g_lstore_7 hX (dk DX12_divisor 3 rfl) (by decide) rfl ?_
  exact g_fgt (loop6 b a ha hb rfl) ⟨rfl, rfl, rfl, rfl, rfl, trivial⟩

