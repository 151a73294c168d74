theorem ei_a {p : Nat} {W : It → It} {f k : Nat} {J : It} (hk : nI k = 0) (hk2 : k < 2 ^ 31) : eiR p W (f + 1) k J = eiR p W f (k + 1) (anR p W 100 (W J)) := by
  have : k = 0 := (nI_eq (b := 0) hk2 (by decide)).mp hk
  subst this
  rfl
theorem ei_b {p : Nat} {W : It → It} {f k : Nat} {J : It} (hk : ¬ nI k = 0) (ht : hereC p J = 124) : eiR p W (f + 1) k J = eiR p W f (k + 1) (kpW p 124 (anR p W 100 (W (tkW p 124 J)))) := by
  rw [eiR_s, if_neg (fun z => hk (by rw [z]; rfl)), if_pos ht]
theorem ei_c {p : Nat} {W : It → It} {f k : Nat} {J : It} (hk : ¬ nI k = 0) (ht : ¬ hereC p J = 124) : eiR p W (f + 1) k J = tkW p 124 J := by
  rw [eiR_s, if_neg (fun z => hk (by rw [z]; rfl)), if_neg ht]
theorem rf_a {p f k : Nat} {J : It} (hk : nI k = 0) (hk2 : k < 2 ^ 31) : rfR p (f + 1) k J = rfR p f (k + 1) (rcW p J) := by
  have : k = 0 := (nI_eq (b := 0) hk2 (by decide)).mp hk
  subst this
  rfl
theorem rf_b {p f k : Nat} {J : It} (hk : ¬ nI k = 0) (ht : hereC p J = 59) : rfR p (f + 1) k J = rfR p f (k + 1) (rcW p (tkW p 59 J)) := by
  rw [rfR_s, if_neg (fun z => hk (by rw [z]; rfl)), if_pos ht]
theorem rf_c {p f k : Nat} {J : It} (hk : ¬ nI k = 0) (ht : ¬ hereC p J = 59) : rfR p (f + 1) k J = tkW p 59 J := by
  rw [rfR_s, if_neg (fun z => hk (by rw [z]; rfl)), if_neg ht]
theorem nz_le {k : Nat} (hk : k < 2 ^ 31) (h : ¬ nI k = 0) (h2 : nI k ≤ 0) : False := h (Int32.le_antisymm h2 (nI_le (a := 0) (Nat.zero_le k) hk))
theorem z_nle {k : Nat} (h : nI k = 0) (h2 : ¬ nI k ≤ 0) : False := h2 (by rw [h]; decide)

set_option maxRecDepth 8000 in
set_option maxHeartbeats 4000000 in
theorem c_X3_readEither {G : Gt} (hG : Gok G) {I : It} {h : Ht}  (hH : HX h) {p : Nat} (hp : p < 6) {w : Int32} {dd : Nat} (h2 : 2 ≤ dd) {W : It → It} (hWk : ∀ I0 J, KP p I0 J → KP p I0 (W J)) (hWc : ∀ I0 J, KP p I0 J → Con G dd 0 0 mX3_readPart [.ref (43 + 5 * p), .int w] J h (rV (W J) h)) {I0 : It} (hK : KP p I0 I) : Con G (dd + 1) 0 0 mX3_readEither [.ref (43 + 5 * p), .int w] I h (rV (eiF p W I) h) := by
  refine con_intro (own := RX3) (lo0 := [some (.ref (43 + 5 * p)), some (.int w), none, none]) hG rfl pl_X3 (Nat.le_of_ble_eq_true rfl) rfl (fun X hX => ?_)
  have loop28 : ∀ (kv : Nat) (R : It), GG G (dd + 1) 0 0 X (rV (eiF p W I) h) 60 [some (.ref (43 + 5 * p)), some (.int (w)), some (.int (nI kv)), none] [] R h 0 0 → ∀ (f j : Nat) (J : It), j + f = 100 → KP p I0 J → anR p W f J = R → GG G (dd + 1) 0 0 X (rV (eiF p W I) h) 28 [some (.ref (43 + 5 * p)), some (.int w), some (.int (nI kv)), some (.int (nI j))] [] (J) (h) 0 0 := by
    intro kv R kk f
    induction f using Nat.strongRecOn with | _ f ih => ?_
    intro j J hk hJ hR
    refine g_iload_3 hX (dk DX3_readEither 16 rfl) ?_
    refine g_bipush (v := 100) hX (dk DX3_readEither 17 rfl) (by decide) ?_
    refine g_icmp_ge (tgt := 60) hX (dk DX3_readEither 18 rfl) (by decide) (fun hc1 => ?_) (fun hc1 => ?_)
    · first
      | exact g_fgt (lo2 := [some (.ref (43 + 5 * p)), some (.int (w)), some (.int (nI kv)), none]) (by have hk0 := ct_end (e := 100) hk (by decide) hc1; subst hk0; rw [show J = R from hR]; exact kk) ⟨rfl, rfl, rfl, trivial⟩
      | exact g_fgt (lo2 := [some (.ref (43 + 5 * p)), some (.int (w)), some (.int (nI kv)), none]) (by rw [show tkW p 38 J = R by rw [← hR, anR_s, if_neg hc1]]; exact kk) ⟨rfl, rfl, rfl, trivial⟩
    · obtain ⟨f, rfl⟩ := ct_go (e := 100) hk (by decide) hc1
      refine g_aload_0 hX (dk DX3_readEither 19 rfl) ?_
      refine g_bipush (v := 38) hX (dk DX3_readEither 20 rfl) (by decide) ?_
      refine g_c2I hX sX3_readEither_37 (by omega) (Nat.le_of_ble_eq_true rfl) (rc0 rfl (PL0 hH hp) (PSh hH hp)) (by decide) (by decide) (c_X3_takes hG hH hp) ?_
      refine g_ifb_eq (tgt := 60) hX (dk DX3_readEither 22 rfl) (by decide) (fun hc2 => ?_) (fun hc2 => ?_)
      · first
        | exact g_fgt (lo2 := [some (.ref (43 + 5 * p)), some (.int (w)), some (.int (nI kv)), none]) (by have hk0 := ct_end (e := 100) hk (by decide) hc2; subst hk0; rw [show J = R from hR]; exact kk) ⟨rfl, rfl, rfl, trivial⟩
        | exact g_fgt (lo2 := [some (.ref (43 + 5 * p)), some (.int (w)), some (.int (nI kv)), none]) (by rw [show tkW p 38 J = R by rw [← hR, anR_s, if_neg hc2]]; exact kk) ⟨rfl, rfl, rfl, trivial⟩
      · refine g_aload_0 hX (dk DX3_readEither 23 rfl) ?_
        refine g_iload_1 hX (dk DX3_readEither 24 rfl) ?_
        refine g_c2V hX sX3_readEither_45 (by omega) (Nat.le_of_ble_eq_true rfl) (rc0 rfl (PL0 hH hp) (PSh hH hp)) (by decide) (by decide) (hWc I0 _ (by exact hJ.tk)) ?_
        refine g_aload_0 hX (dk DX3_readEither 26 rfl) ?_
        refine g_bipush (v := 38) hX (dk DX3_readEither 27 rfl) (by decide) ?_
        refine g_c2V hX sX3_readEither_51 (by omega) (Nat.le_of_ble_eq_true rfl) (rc0 rfl (PL0 hH hp) (PSh hH hp)) (by decide) (by decide) (c_X3_keep hG hH hp (I0 := I0) (by exact (hWk _ _ hJ.tk))) ?_
        refine g_iinc_3 hX (dk DX3_readEither 29 rfl) (nI_1 j) (by decide) rfl ?_
        refine g_goto (tgt := 28) hX (dk DX3_readEither 30 rfl) (by decide) ?_
        exact g_fgt (ih f (by omega) (j + 1) _ (by omega) (KP.kp (hWk _ _ hJ.tk)) (by rw [← hR, anR_s, if_pos (by assumption)])) ⟨rfl, rfl, rfl, rfl, trivial⟩
  have loop2 : ∀ (f k : Nat) (J : It), k + f = 100 → KP p I0 J → eiR p W f k J = eiF p W I → GG G (dd + 1) 0 0 X (rV (eiF p W I) h) 2 [some (.ref (43 + 5 * p)), some (.int w), some (.int (nI k)), none] [] (J) (h) 0 0 := by
    intro f
    induction f using Nat.strongRecOn with | _ f ih => ?_
    intro k J hk hJ hR
    refine g_iload_2 hX (dk DX3_readEither 2 rfl) ?_
    refine g_bipush (v := 100) hX (dk DX3_readEither 3 rfl) (by decide) ?_
    refine g_icmp_ge (tgt := 76) hX (dk DX3_readEither 4 rfl) (by decide) (fun hc1 => ?_) (fun hc1 => ?_)
    · refine g_return hX (dk DX3_readEither 38 rfl) rfl (by decide) (by decide) ?_
      first
      | exact rV_of (by rw [← hR, ei_c (k := k) (by assumption) (by assumption)]) rfl
      | (have hk0 := ct_end (e := 100) hk (by decide) hc1; subst hk0; exact rV_of hR rfl)
    · obtain ⟨f, rfl⟩ := ct_go (e := 100) hk (by decide) hc1
      refine g_iload_2 hX (dk DX3_readEither 5 rfl) ?_
      refine g_if_eq (tgt := 21) hX (dk DX3_readEither 6 rfl) (by decide) (fun hc2 => ?_) (fun hc2 => ?_)
      · refine g_aload_0 hX (dk DX3_readEither 11 rfl) ?_
        refine g_iload_1 hX (dk DX3_readEither 12 rfl) ?_
        refine g_c2V hX sX3_readEither_23 (by omega) (Nat.le_of_ble_eq_true rfl) (rc0 rfl (PL0 hH hp) (PSh hH hp)) (by decide) (by decide) (hWc I0 _ (by first | exact hJ | exact hJ.tk)) ?_
        refine g_iconst (v := 0) hX (dk DX3_readEither 14 rfl) (by decide) ?_
        refine g_istore_3 hX (dk DX3_readEither 15 rfl) (by decide) rfl ?_
        refine loop28 k _ ?_ 100 0 _ (by decide) (hWk _ _ (by first | exact hJ | exact hJ.tk)) rfl
        · skip
          refine g_iload_2 hX (dk DX3_readEither 31 rfl) ?_
          refine g_if_le (tgt := 70) hX (dk DX3_readEither 32 rfl) (by decide) (fun hc101 => ?_) (fun hc101 => ?_)
          · refine g_iinc_2 hX (dk DX3_readEither 36 rfl) (nI_1 k) (by decide) rfl ?_
            refine g_goto (tgt := 2) hX (dk DX3_readEither 37 rfl) (by decide) ?_
            first
            | exact (nz_le (k := k) (by omega) (by assumption) (by assumption)).elim
            | exact (z_nle (k := k) (by assumption) (by assumption)).elim
            | exact g_fgt (ih f (by omega) (k + 1) _ (by omega) (KP.an hWk 100 (hWk _ _ hJ)) (by rw [← hR, ei_a (k := k) (by assumption) (by omega)])) ⟨rfl, rfl, rfl, trivial⟩
            | exact g_fgt (ih f (by omega) (k + 1) _ (by omega) (KP.kp (KP.an hWk 100 (hWk _ _ hJ.tk))) (by rw [← hR, ei_b (k := k) (by assumption) (by assumption)])) ⟨rfl, rfl, rfl, trivial⟩
          · refine g_aload_0 hX (dk DX3_readEither 33 rfl) ?_
            refine g_bipush (v := 124) hX (dk DX3_readEither 34 rfl) (by decide) ?_
            refine g_c2V hX sX3_readEither_67 (by omega) (Nat.le_of_ble_eq_true rfl) (rc0 rfl (PL0 hH hp) (PSh hH hp)) (by decide) (by decide) (c_X3_keep hG hH hp (I0 := I0) (by exact (KP.an hWk 100 (hWk _ _ (by first | exact hJ | exact hJ.tk))))) ?_
            refine g_iinc_2 hX (dk DX3_readEither 36 rfl) (nI_1 k) (by decide) rfl ?_
            refine g_goto (tgt := 2) hX (dk DX3_readEither 37 rfl) (by decide) ?_
            first
            | exact (nz_le (k := k) (by omega) (by assumption) (by assumption)).elim
            | exact (z_nle (k := k) (by assumption) (by assumption)).elim
            | exact g_fgt (ih f (by omega) (k + 1) _ (by omega) (KP.an hWk 100 (hWk _ _ hJ)) (by rw [← hR, ei_a (k := k) (by assumption) (by omega)])) ⟨rfl, rfl, rfl, trivial⟩
            | exact g_fgt (ih f (by omega) (k + 1) _ (by omega) (KP.kp (KP.an hWk 100 (hWk _ _ hJ.tk))) (by rw [← hR, ei_b (k := k) (by assumption) (by assumption)])) ⟨rfl, rfl, rfl, trivial⟩
      · refine g_aload_0 hX (dk DX3_readEither 7 rfl) ?_
        refine g_bipush (v := 124) hX (dk DX3_readEither 8 rfl) (by decide) ?_
        refine g_c2I hX sX3_readEither_15 (by omega) (Nat.le_of_ble_eq_true rfl) (rc0 rfl (PL0 hH hp) (PSh hH hp)) (by decide) (by decide) (c_X3_takes hG hH hp) ?_
        refine g_ifb_eq (tgt := 76) hX (dk DX3_readEither 10 rfl) (by decide) (fun hc3 => ?_) (fun hc3 => ?_)
        · refine g_return hX (dk DX3_readEither 38 rfl) rfl (by decide) (by decide) ?_
          first
          | exact rV_of (by rw [← hR, ei_c (k := k) (by assumption) (by assumption)]) rfl
          | (have hk0 := ct_end (e := 100) hk (by decide) hc1; subst hk0; exact rV_of hR rfl)
        · refine g_aload_0 hX (dk DX3_readEither 11 rfl) ?_
          refine g_iload_1 hX (dk DX3_readEither 12 rfl) ?_
          refine g_c2V hX sX3_readEither_23 (by omega) (Nat.le_of_ble_eq_true rfl) (rc0 rfl (PL0 hH hp) (PSh hH hp)) (by decide) (by decide) (hWc I0 _ (by first | exact hJ | exact hJ.tk)) ?_
          refine g_iconst (v := 0) hX (dk DX3_readEither 14 rfl) (by decide) ?_
          refine g_istore_3 hX (dk DX3_readEither 15 rfl) (by decide) rfl ?_
          refine loop28 k _ ?_ 100 0 _ (by decide) (hWk _ _ (by first | exact hJ | exact hJ.tk)) rfl
          · skip
            refine g_iload_2 hX (dk DX3_readEither 31 rfl) ?_
            refine g_if_le (tgt := 70) hX (dk DX3_readEither 32 rfl) (by decide) (fun hc101 => ?_) (fun hc101 => ?_)
            · refine g_iinc_2 hX (dk DX3_readEither 36 rfl) (nI_1 k) (by decide) rfl ?_
              refine g_goto (tgt := 2) hX (dk DX3_readEither 37 rfl) (by decide) ?_
              first
              | exact (nz_le (k := k) (by omega) (by assumption) (by assumption)).elim
              | exact (z_nle (k := k) (by assumption) (by assumption)).elim
              | exact g_fgt (ih f (by omega) (k + 1) _ (by omega) (KP.an hWk 100 (hWk _ _ hJ)) (by rw [← hR, ei_a (k := k) (by assumption) (by omega)])) ⟨rfl, rfl, rfl, trivial⟩
              | exact g_fgt (ih f (by omega) (k + 1) _ (by omega) (KP.kp (KP.an hWk 100 (hWk _ _ hJ.tk))) (by rw [← hR, ei_b (k := k) (by assumption) (by assumption)])) ⟨rfl, rfl, rfl, trivial⟩
            · refine g_aload_0 hX (dk DX3_readEither 33 rfl) ?_
              refine g_bipush (v := 124) hX (dk DX3_readEither 34 rfl) (by decide) ?_
              refine g_c2V hX sX3_readEither_67 (by omega) (Nat.le_of_ble_eq_true rfl) (rc0 rfl (PL0 hH hp) (PSh hH hp)) (by decide) (by decide) (c_X3_keep hG hH hp (I0 := I0) (by exact (KP.an hWk 100 (hWk _ _ (by first | exact hJ | exact hJ.tk))))) ?_
              refine g_iinc_2 hX (dk DX3_readEither 36 rfl) (nI_1 k) (by decide) rfl ?_
              refine g_goto (tgt := 2) hX (dk DX3_readEither 37 rfl) (by decide) ?_
              first
              | exact (nz_le (k := k) (by omega) (by assumption) (by assumption)).elim
              | exact (z_nle (k := k) (by assumption) (by assumption)).elim
              | exact g_fgt (ih f (by omega) (k + 1) _ (by omega) (KP.an hWk 100 (hWk _ _ hJ)) (by rw [← hR, ei_a (k := k) (by assumption) (by omega)])) ⟨rfl, rfl, rfl, trivial⟩
              | exact g_fgt (ih f (by omega) (k + 1) _ (by omega) (KP.kp (KP.an hWk 100 (hWk _ _ hJ.tk))) (by rw [← hR, ei_b (k := k) (by assumption) (by assumption)])) ⟨rfl, rfl, rfl, trivial⟩
  refine g_iconst (v := 0) hX (dk DX3_readEither 0 rfl) (by decide) ?_
  refine g_istore_2 hX (dk DX3_readEither 1 rfl) (by decide) rfl ?_
  exact g_fgt (loop2 100 0 I (by decide) hK rfl) ⟨rfl, rfl, rfl, trivial⟩

