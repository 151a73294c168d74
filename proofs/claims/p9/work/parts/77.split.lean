set_option maxRecDepth 8000 in
set_option maxHeartbeats 4000000 in
theorem w_X0_bestSplit {G : Gt} (hG : Gok G) {I : It} {h : Ht}  (hH : HX h) {hh dd : Nat} {K : It → Prop} (hh9 : hh ≤ 9) (hdd : dd + 1 ≤ 9) (hKs : ∀ J y x, K J → K (upI J 28 y x)) (hKc : ∀ J, K J → K (cpI J 28 29 0 0 4)) (hco : ∀ J, K J → Con G dd 0 0 mX0_costHanded [.ref 13, .ref 28] J h (qI fun _ I2 h2 => K I2 ∧ h2 = h)) (hK0 : K I) : Con G (9) 0 0 mX0_bestSplit [.ref 13, .int (nI hh)] I h (qI (fun _ I2 h2 => K I2 ∧ h2 = h)) := by
  refine con_intro (own := RX0) (lo0 := [some (.ref 13), some (.int (nI hh)), none, none, none, none, none]) hG rfl pl_X0 (Nat.le_of_ble_eq_true rfl) rfl (fun X hX => ?_)
  have loop24 : ∀ a b, a ≤ hh → a + b ≤ hh → (∀ (J : It) (z : Int32), K J → GG G 9 0 0 X (qI (fun _ I2 h2 => K I2 ∧ h2 = h)) 92 [some (.ref 13), some (.int (nI hh)), some (.int z), some (.int (nI a)), some (.int (nI b)), none, none] [] J h 0 0) → ∀ (k c : Nat) (z : Int32) (J : It), c + k = hh - a - b + 1 → K J → GG G (9) 0 0 X (qI (fun _ I2 h2 => K I2 ∧ h2 = h)) 24 [some (.ref 13), some (.int (nI hh)), some (.int z), some (.int (nI a)), some (.int (nI b)), some (.int (nI c)), none] [] (J) (h) 0 0 := by
    intro a b ha hb kk k
    induction k using Nat.strongRecOn with | _ k ih => ?_
    intro c z J hk hK
    refine g_iload_5 hX (dk DX0_bestSplit_0 16 rfl) ?_
    refine g_iload_1 hX (dk DX0_bestSplit_0 17 rfl) ?_
    refine g_iload_3 hX (dk DX0_bestSplit_0 18 rfl) ?_
    refine g_isub hX (dk DX0_bestSplit_0 19 rfl) ?_
    refine g_nmI (nI (hh - a)) (pk_sub (by omega)) ?_
    refine g_iload_4 hX (dk DX0_bestSplit_0 20 rfl) ?_
    refine g_isub hX (dk DX0_bestSplit_0 21 rfl) ?_
    refine g_nmI (nI (hh - a - b)) (pk_sub (by omega)) ?_
    refine g_icmp_gt (tgt := 92) hX (dk DX0_bestSplit_0 22 rfl) (by decide) (fun hc1 => ?_) (fun hc1 => ?_)
    · exact g_fgt (kk J z hK) ⟨rfl, rfl, rfl, rfl, rfl, trivial⟩
    · obtain ⟨k, rfl⟩ := bs_go hk (by omega) hc1
      refine g_aload_0 hX (dk DX0_bestSplit_0 23 rfl) ?_
      refine g_iload_3 hX (dk DX0_bestSplit_0 24 rfl) ?_
      refine g_iload_4 hX (dk DX0_bestSplit_0 25 rfl) ?_
      refine g_iload_5 hX (dk DX0_bestSplit_0 26 rfl) ?_
      refine g_iload_1 hX (dk DX0_bestSplit_0 27 rfl) ?_
      refine g_iload_3 hX (dk DX0_bestSplit_0 28 rfl) ?_
      refine g_isub hX (dk DX0_bestSplit_0 29 rfl) ?_
      refine g_nmI (nI (hh - a)) (pk_sub (by omega)) ?_
      refine g_iload_4 hX (dk DX0_bestSplit_0 30 rfl) ?_
      refine g_isub hX (dk DX0_bestSplit_0 31 rfl) ?_
      refine g_nmI (nI (hh - a - b)) (pk_sub (by omega)) ?_
      refine g_iload_5 hX (dk DX0_bestSplit_0 32 rfl) ?_
      refine g_isub hX (dk DX0_bestSplit_0 33 rfl) ?_
      refine g_nmI (nI (hh - a - b - c)) (pk_sub (by omega)) ?_
      refine g_c5V hX sX0_bestSplit_50 (by decide) (Nat.le_of_ble_eq_true rfl) (rc0 rfl (CLt hH (by decide)) (CC hH 13 (by decide) rfl)) (by decide) (by decide) (c_X0_share hG hH) ?_
      refine g_aload_0 hX (dk DX0_bestSplit_0 35 rfl) ?_
      refine g_aload_0 hX (dk DX0_bestSplit_0 36 rfl) ?_
      refine g_getRs (r := 28) hX (dk DX0_bestSplit_0 37 rfl) KX0 fX0_28 (by decide) rfl (CLt hH (q := 13) (by decide)) (CC hH 13 (by decide) rfl) (CR hH 13 14 28 (by decide)) ?_
      refine g_c2q hX sX0_bestSplit_58 (hdd) (Nat.le_of_ble_eq_true rfl) (rc0 rfl (CLt hH (by decide)) (CC hH 13 (by decide) rfl)) (by decide) (by decide) (hco _ (hKs _ _ _ (hKs _ _ _ (hKs _ _ _ (hKs _ _ _ hK))))) ?_
      rintro _ J2 _ ⟨hK2, rfl⟩
      refine g_istore_6 hX (dk DX0_bestSplit_0 39 rfl) (by decide) rfl ?_
      refine g_iload_6 hX (dk DX0_bestSplit_0 40 rfl) ?_
      refine g_iload_2 hX (dk DX0_bestSplit_0 41 rfl) ?_
      refine g_icmp_ge (tgt := 86) hX (dk DX0_bestSplit_0 42 rfl) (by decide) (fun hc2 => ?_) (fun hc2 => ?_)
      · refine g_iinc_5 hX (dk DX0_bestSplit_0 53 rfl) (nI_1 c) (by decide) rfl ?_
        refine g_goto (tgt := 24) hX (dk DX0_bestSplit_0 54 rfl) (by decide) ?_
        first
        | exact g_fgt (ih k (by omega) (c + 1) _ _ (by omega) (hKc _ hK2)) ⟨rfl, rfl, rfl, rfl, rfl, rfl, trivial⟩
        | exact g_fgt (ih k (by omega) (c + 1) _ _ (by omega) hK2) ⟨rfl, rfl, rfl, rfl, rfl, rfl, trivial⟩
      · refine g_iload_6 hX (dk DX0_bestSplit_0 43 rfl) ?_
        refine g_istore_2 hX (dk DX0_bestSplit_0 44 rfl) (by decide) rfl ?_
        refine g_aload_0 hX (dk DX0_bestSplit_0 45 rfl) ?_
        refine g_getRs (r := 28) hX (dk DX0_bestSplit_0 46 rfl) KX0 fX0_28 (by decide) rfl (CLt hH (q := 13) (by decide)) (CC hH 13 (by decide) rfl) (CR hH 13 14 28 (by decide)) ?_
        refine g_iconst (v := 0) hX (dk DX0_bestSplit_0 47 rfl) (by decide) ?_
        refine g_aload_0 hX (dk DX0_bestSplit_0 48 rfl) ?_
        refine g_getRs (r := 29) hX (dk DX0_bestSplit_0 49 rfl) KX0 fX0_31 (by decide) rfl (CLt hH (q := 13) (by decide)) (CC hH 13 (by decide) rfl) (CR hH 13 15 29 (by decide)) ?_
        refine g_iconst (v := 0) hX (dk DX0_bestSplit_0 50 rfl) (by decide) ?_
        refine g_iconst (v := 4) hX (dk DX0_bestSplit_0 51 rfl) (by decide) ?_
        refine g_copyI (sp := 0) (dp := 0) (m := 4) hX (dk DX0_bestSplit_0 52 rfl) (tg_4 2 rfl rfl) (tg_4 4 rfl rfl) (tg_4 3 rfl rfl) (tg_1 17 rfl rfl) (CLt hH (q := 28) (by decide)) (CS hH 28 (by decide) rfl) (CLt hH (q := 29) (by decide)) (CS hH 29 (by decide) rfl) (⟨rfl, rfl, rfl⟩) (⟨by decide, by decide⟩) (⟨by decide, by decide⟩) (by decide) (by decide) ?_
        refine g_iinc_5 hX (dk DX0_bestSplit_0 53 rfl) (nI_1 c) (by decide) rfl ?_
        refine g_goto (tgt := 24) hX (dk DX0_bestSplit_0 54 rfl) (by decide) ?_
        first
        | exact g_fgt (ih k (by omega) (c + 1) _ _ (by omega) (hKc _ hK2)) ⟨rfl, rfl, rfl, rfl, rfl, rfl, trivial⟩
        | exact g_fgt (ih k (by omega) (c + 1) _ _ (by omega) hK2) ⟨rfl, rfl, rfl, rfl, rfl, rfl, trivial⟩
  have loop13 : ∀ a, a ≤ hh → (∀ (J : It) (z : Int32), K J → GG G 9 0 0 X (qI (fun _ I2 h2 => K I2 ∧ h2 = h)) 98 [some (.ref 13), some (.int (nI hh)), some (.int z), some (.int (nI a)), none, none, none] [] J h 0 0) → ∀ (k b : Nat) (z : Int32) (J : It), b + k = hh - a + 1 → K J → GG G (9) 0 0 X (qI (fun _ I2 h2 => K I2 ∧ h2 = h)) 13 [some (.ref 13), some (.int (nI hh)), some (.int z), some (.int (nI a)), some (.int (nI b)), none, none] [] (J) (h) 0 0 := by
    intro a ha kk k
    induction k using Nat.strongRecOn with | _ k ih => ?_
    intro b z J hk hK
    refine g_iload_4 hX (dk DX0_bestSplit_0 9 rfl) ?_
    refine g_iload_1 hX (dk DX0_bestSplit_0 10 rfl) ?_
    refine g_iload_3 hX (dk DX0_bestSplit_0 11 rfl) ?_
    refine g_isub hX (dk DX0_bestSplit_0 12 rfl) ?_
    refine g_nmI (nI (hh - a)) (pk_sub (by omega)) ?_
    refine g_icmp_gt (tgt := 98) hX (dk DX0_bestSplit_0 13 rfl) (by decide) (fun hc1 => ?_) (fun hc1 => ?_)
    · exact g_fgt (kk J z hK) ⟨rfl, rfl, rfl, rfl, trivial⟩
    · obtain ⟨k, rfl⟩ := bs_go hk (by omega) hc1
      refine g_iconst (v := 0) hX (dk DX0_bestSplit_0 14 rfl) (by decide) ?_
      refine g_istore_5 hX (dk DX0_bestSplit_0 15 rfl) (by decide) rfl ?_
      refine loop24 a b ha (by omega) (fun J z hK => ?_) (hh - a - b + 1) 0 z J (Nat.zero_add _) hK
      · skip
        refine g_iinc_4 hX (dk DX0_bestSplit_0 55 rfl) (nI_1 b) (by decide) rfl ?_
        refine g_goto (tgt := 13) hX (dk DX0_bestSplit_0 56 rfl) (by decide) ?_
        exact ih k (by omega) (b + 1) _ _ (by omega) hK
  have loop5 : ∀ (k a : Nat) (z : Int32) (J : It), a + k = hh + 1 → K J → GG G (9) 0 0 X (qI (fun _ I2 h2 => K I2 ∧ h2 = h)) 5 [some (.ref 13), some (.int (nI hh)), some (.int z), some (.int (nI a)), none, none, none] [] (J) (h) 0 0 := by
    intro k
    induction k using Nat.strongRecOn with | _ k ih => ?_
    intro a z J hk hK
    refine g_iload_3 hX (dk DX0_bestSplit_0 4 rfl) ?_
    refine g_iload_1 hX (dk DX0_bestSplit_0 5 rfl) ?_
    refine g_icmp_gt (tgt := 104) hX (dk DX0_bestSplit_0 6 rfl) (by decide) (fun hc1 => ?_) (fun hc1 => ?_)
    · refine g_iload_2 hX (dk DX0_bestSplit_0 59 rfl) ?_
      refine g_ireturn hX (dk DX0_bestSplit_1 0 rfl) rfl (rfl) (by decide) (by decide) ?_
      exact qI_of ⟨hK, rfl⟩
    · obtain ⟨k, rfl⟩ := bs_go hk (by omega) hc1
      refine g_iconst (v := 0) hX (dk DX0_bestSplit_0 7 rfl) (by decide) ?_
      refine g_istore_4 hX (dk DX0_bestSplit_0 8 rfl) (by decide) rfl ?_
      refine loop13 a (by omega) (fun J z hK => ?_) (hh - a + 1) 0 z J (Nat.zero_add _) hK
      · skip
        refine g_iinc_3 hX (dk DX0_bestSplit_0 57 rfl) (nI_1 a) (by decide) rfl ?_
        refine g_goto (tgt := 5) hX (dk DX0_bestSplit_0 58 rfl) (by decide) ?_
        exact ih k (by omega) (a + 1) _ _ (by omega) hK
  refine g_ldc (v := 2147483647) hX (dk DX0_bestSplit_0 0 rfl) (tg_3 231 rfl rfl) ?_
  refine g_istore_2 hX (dk DX0_bestSplit_0 1 rfl) (by decide) rfl ?_
  refine g_iconst (v := 0) hX (dk DX0_bestSplit_0 2 rfl) (by decide) ?_
  refine g_istore_3 hX (dk DX0_bestSplit_0 3 rfl) (by decide) rfl ?_
  exact loop5 (hh + 1) 0 _ I (Nat.zero_add _) hK0

