set_option maxRecDepth 8000 in
set_option maxHeartbeats 4000000 in
theorem c_X3_readFrom {G : Gt} (hG : Gok G) {I : It} {h : Ht}  (hH : HX h) {p : Nat} (hp : p < 6) {s : Int32} (hPO : PO I h) : Con G (15) 0 0 mX3_readFrom [.ref (43 + 5 * p), .int s] I h (rI (rfV p (rfW p s I)) (rfW p s I) h) := by
  refine con_intro (own := RX3) (lo0 := [some (.ref (43 + 5 * p)), some (.int s), none]) hG rfl pl_X3 (Nat.le_of_ble_eq_true rfl) rfl (fun X hX => ?_)
  have loop75 : ∀ (J : It), J = rfW p s I → GG G (15) 0 0 X (rI (rfV p (rfW p s I)) (rfW p s I) h) 75 [some (.ref (43 + 5 * p)), some (.int s), none] [] (J) (h) 0 0 := by
    intro J hJ
    refine g_aload_0 hX (dk DX3_readFrom 40 rfl) ?_
    refine g_getI hX (dk DX3_readFrom 41 rfl) KX3 fX3_41 (by decide) rfl (PL0 hH hp) (PSh hH hp) ?_
    refine g_if_ne (tgt := 97) hX (dk DX3_readFrom 42 rfl) (by decide) (fun hc1 => ?_) (fun hc1 => ?_)
    · refine g_aload_0 hX (dk DX3_readFrom 50 rfl) ?_
      refine g_getI hX (dk DX3_readFrom 51 rfl) KX3 fX3_38 (by decide) rfl (PL0 hH hp) (PSh hH hp) ?_
      refine g_ireturn hX (dk DX3_readFrom 52 rfl) rfl (rfl) (by decide) (by decide) ?_
      exact rI_of (by rw [← hJ]; unfold rfV; (try first | rw [if_pos hc1] | rw [if_neg hc1] | rw [if_neg (not_not_intro hc1)]); first | done | rfl) hJ rfl
    · refine g_aload_0 hX (dk DX3_readFrom 43 rfl) ?_
      refine g_getI hX (dk DX3_readFrom 44 rfl) KX3 fX3_38 (by decide) rfl (PL0 hH hp) (PSh hH hp) ?_
      refine g_aload_0 hX (dk DX3_readFrom 45 rfl) ?_
      refine g_getI hX (dk DX3_readFrom 46 rfl) KX3 fX3_34 (by decide) rfl (PL0 hH hp) (PSh hH hp) ?_
      refine g_icmp_ne (tgt := 97) hX (dk DX3_readFrom 47 rfl) (by decide) (fun hc2 => ?_) (fun hc2 => ?_)
      · refine g_aload_0 hX (dk DX3_readFrom 50 rfl) ?_
        refine g_getI hX (dk DX3_readFrom 51 rfl) KX3 fX3_38 (by decide) rfl (PL0 hH hp) (PSh hH hp) ?_
        refine g_ireturn hX (dk DX3_readFrom 52 rfl) rfl (rfl) (by decide) (by decide) ?_
        exact rI_of (by rw [← hJ]; unfold rfV; (try first | rw [if_pos hc1] | rw [if_neg hc1] | rw [if_neg (not_not_intro hc1)]); (try first | rw [if_pos hc2] | rw [if_neg hc2] | rw [if_neg (not_not_intro hc2)]); first | done | rfl) hJ rfl
      · refine g_iconst (v := -1) hX (dk DX3_readFrom 48 rfl) (by decide) ?_
        refine g_goto (tgt := 101) hX (dk DX3_readFrom 49 rfl) (by decide) ?_
        refine g_ireturn hX (dk DX3_readFrom 52 rfl) rfl (rfl) (by decide) (by decide) ?_
        exact rI_of (by rw [← hJ]; unfold rfV; (try first | rw [if_pos hc1] | rw [if_neg hc1] | rw [if_neg (not_not_intro hc1)]); (try first | rw [if_pos hc2] | rw [if_neg hc2] | rw [if_neg (not_not_intro hc2)]); first | done | rfl) hJ rfl
  have loop46 : ∀ (f k : Nat) (J : It), k + f = 10 → KP p I J → rfR p f k J = rfW p s I → GG G (15) 0 0 X (rI (rfV p (rfW p s I)) (rfW p s I) h) 46 [some (.ref (43 + 5 * p)), some (.int s), some (.int (nI k))] [] (J) (h) 0 0 := by
    intro f
    induction f using Nat.strongRecOn with | _ f ih => ?_
    intro k J hk hJ hR
    refine g_iload_2 hX (dk DX3_readFrom 27 rfl) ?_
    refine g_bipush (v := 10) hX (dk DX3_readFrom 28 rfl) (by decide) ?_
    refine g_icmp_ge (tgt := 75) hX (dk DX3_readFrom 29 rfl) (by decide) (fun hc1 => ?_) (fun hc1 => ?_)
    · first
      | exact g_fgt (loop75 _ (by rw [← hR, rf_c (k := k) (by assumption) (by assumption)])) ⟨rfl, rfl, trivial⟩
      | (have hk0 := ct_end (e := 10) hk (by decide) hc1; subst hk0; exact g_fgt (loop75 _ hR) ⟨rfl, rfl, trivial⟩)
    · obtain ⟨f, rfl⟩ := ct_go (e := 10) hk (by decide) hc1
      refine g_iload_2 hX (dk DX3_readFrom 30 rfl) ?_
      refine g_if_eq (tgt := 65) hX (dk DX3_readFrom 31 rfl) (by decide) (fun hc2 => ?_) (fun hc2 => ?_)
      · refine g_aload_0 hX (dk DX3_readFrom 36 rfl) ?_
        refine g_c1V hX sX3_readFrom_66 (by decide) (Nat.le_of_ble_eq_true rfl) (rc0 rfl (PL0 hH hp) (PSh hH hp)) (by decide) (by decide) (c_X3_readClause hG hH hp (I0 := I) (by first | exact KP.tk hJ | exact hJ)) ?_
        refine g_iinc_2 hX (dk DX3_readFrom 38 rfl) (nI_1 k) (by decide) rfl ?_
        refine g_goto (tgt := 46) hX (dk DX3_readFrom 39 rfl) (by decide) ?_
        first
        | (have h0 : nI k = 0 := by assumption
           have hE := rf_a (p := p) (f := f) (k := k) (J := J) h0 (by omega)
           exact g_fgt (ih f (by omega) (k + 1) (rcW p J) (by omega) hJ.rc (hE.symm.trans hR)) ⟨rfl, rfl, rfl, trivial⟩)
        | (have h0 : ¬ nI k = 0 := by assumption
           have hE := rf_b (p := p) (f := f) (k := k) (J := J) h0 (by assumption)
           exact g_fgt (ih f (by omega) (k + 1) (rcW p (tkW p 59 J)) (by omega) hJ.tk.rc (hE.symm.trans hR)) ⟨rfl, rfl, rfl, trivial⟩)
      · refine g_aload_0 hX (dk DX3_readFrom 32 rfl) ?_
        refine g_bipush (v := 59) hX (dk DX3_readFrom 33 rfl) (by decide) ?_
        refine g_c2I hX sX3_readFrom_59 (by decide) (Nat.le_of_ble_eq_true rfl) (rc0 rfl (PL0 hH hp) (PSh hH hp)) (by decide) (by decide) (c_X3_takes hG hH hp) ?_
        refine g_ifb_eq (tgt := 75) hX (dk DX3_readFrom 35 rfl) (by decide) (fun hc3 => ?_) (fun hc3 => ?_)
        · first
          | exact g_fgt (loop75 _ (by rw [← hR, rf_c (k := k) (by assumption) (by assumption)])) ⟨rfl, rfl, trivial⟩
          | (have hk0 := ct_end (e := 10) hk (by decide) hc3; subst hk0; exact g_fgt (loop75 _ hR) ⟨rfl, rfl, trivial⟩)
        · refine g_aload_0 hX (dk DX3_readFrom 36 rfl) ?_
          refine g_c1V hX sX3_readFrom_66 (by decide) (Nat.le_of_ble_eq_true rfl) (rc0 rfl (PL0 hH hp) (PSh hH hp)) (by decide) (by decide) (c_X3_readClause hG hH hp (I0 := I) (by first | exact KP.tk hJ | exact hJ)) ?_
          refine g_iinc_2 hX (dk DX3_readFrom 38 rfl) (nI_1 k) (by decide) rfl ?_
          refine g_goto (tgt := 46) hX (dk DX3_readFrom 39 rfl) (by decide) ?_
          first
          | (have h0 : nI k = 0 := by assumption
             have hE := rf_a (p := p) (f := f) (k := k) (J := J) h0 (by omega)
             exact g_fgt (ih f (by omega) (k + 1) (rcW p J) (by omega) hJ.rc (hE.symm.trans hR)) ⟨rfl, rfl, rfl, trivial⟩)
          | (have h0 : ¬ nI k = 0 := by assumption
             have hE := rf_b (p := p) (f := f) (k := k) (J := J) h0 (by assumption)
             exact g_fgt (ih f (by omega) (k + 1) (rcW p (tkW p 59 J)) (by omega) hJ.tk.rc (hE.symm.trans hR)) ⟨rfl, rfl, rfl, trivial⟩)
  refine g_aload_0 hX (dk DX3_readFrom 0 rfl) ?_
  refine g_iload_1 hX (dk DX3_readFrom 1 rfl) ?_
  refine g_aload_0 hX (dk DX3_readFrom 2 rfl) ?_
  refine g_getRs (r := 31) hX (dk DX3_readFrom 3 rfl) KX3 fX3_24 (by decide) rfl (PL0 hH hp) (PSh hH hp) (PR8 hH hp) ?_
  refine g_alen (v := 100) hX (dk DX3_readFrom 4 rfl) (CLt hH (q := 31) (by decide)) (CS hH 31 (by decide) rfl) (by decide) (i0 := 2) rfl (by decide) ?_
  refine g_c2I hX sX3_readFrom_7 (by decide) (Nat.le_of_ble_eq_true rfl) rcN (by decide) (by decide) (c_J9_min_7cf53 hG) ?_
  refine g_putI hX (dk DX3_readFrom 6 rfl) KX3 fX3_34 (by decide) rfl (PL0 hH hp) (PSh hH hp) (Or.inl rfl) (rfl) (rfl) ?_
  refine g_aload_0 hX (dk DX3_readFrom 7 rfl) ?_
  refine g_iconst (v := 0) hX (dk DX3_readFrom 8 rfl) (by decide) ?_
  refine g_putI hX (dk DX3_readFrom 9 rfl) KX3 fX3_38 (by decide) rfl (PL0 hH hp) (PSh hH hp) (Or.inl rfl) (rfl) (rfl) ?_
  refine g_aload_0 hX (dk DX3_readFrom 10 rfl) ?_
  refine g_iconst (v := 0) hX (dk DX3_readFrom 11 rfl) (by decide) ?_
  refine g_putI hX (dk DX3_readFrom 12 rfl) KX3 fX3_41 (by decide) rfl (PL0 hH hp) (PSh hH hp) (Or.inl rfl) (by decide) (by decide) ?_
  refine g_aload_0 hX (dk DX3_readFrom 13 rfl) ?_
  refine g_iconst (v := 0) hX (dk DX3_readFrom 14 rfl) (by decide) ?_
  refine g_putI hX (dk DX3_readFrom 15 rfl) KX3 fX3_45 (by decide) rfl (PL0 hH hp) (PSh hH hp) (Or.inl rfl) (rfl) (rfl) ?_
  refine g_aload_0 hX (dk DX3_readFrom 16 rfl) ?_
  refine g_iconst (v := 0) hX (dk DX3_readFrom 17 rfl) (by decide) ?_
  refine g_putI hX (dk DX3_readFrom 18 rfl) KX3 fX3_48 (by decide) rfl (PL0 hH hp) (PSh hH hp) (Or.inl rfl) (rfl) (rfl) ?_
  refine g_aload_0 hX (dk DX3_readFrom 19 rfl) ?_
  refine g_bipush (v := 7) hX (dk DX3_readFrom 20 rfl) (by decide) ?_
  refine g_putI hX (dk DX3_readFrom 21 rfl) KX3 fX3_51 (by decide) rfl (PL0 hH hp) (PSh hH hp) (Or.inl rfl) (rfl) (rfl) ?_
  refine g_aload_0 hX (dk DX3_readFrom 22 rfl) ?_
  refine g_iconst (v := 1) hX (dk DX3_readFrom 23 rfl) (by decide) ?_
  refine g_putI hX (dk DX3_readFrom 24 rfl) KX3 fX3_54 (by decide) rfl (PL0 hH hp) (PSh hH hp) (Or.inl rfl) (rfl) (rfl) ?_
  refine g_iconst (v := 0) hX (dk DX3_readFrom 25 rfl) (by decide) ?_
  refine g_istore_2 hX (dk DX3_readFrom 26 rfl) (by decide) rfl ?_
  exact g_fgt (loop46 10 0 (rf0 p s I) (by decide) (KP.rfZ (fun _ _ => rfl) (fun k hk => (hPO.2 p hp).2 k hk)) rfl) ⟨rfl, rfl, rfl, trivial⟩

