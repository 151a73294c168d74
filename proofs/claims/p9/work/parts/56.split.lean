def bsC (co : Nat → Nat → Nat → Nat → Int32) (hh a b : Nat) : Nat → Nat → Int32 × (Nat → Int32) → Int32 × (Nat → Int32) := fun k => match k with
  | 0 => fun _ s => s
  | k + 1 => fun c s => bsC co hh a b k (c + 1) (if co a b c (hh - a - b - c) < s.1 then (co a b c (hh - a - b - c), h4 a b c (hh - a - b - c)) else s)
theorem bsC_s (co : Nat → Nat → Nat → Nat → Int32) (hh a b k c : Nat) (s : Int32 × (Nat → Int32)) : bsC co hh a b (k + 1) c s = bsC co hh a b k (c + 1) (if co a b c (hh - a - b - c) < s.1 then (co a b c (hh - a - b - c), h4 a b c (hh - a - b - c)) else s) := rfl
def bsB (co : Nat → Nat → Nat → Nat → Int32) (hh a : Nat) : Nat → Nat → Int32 × (Nat → Int32) → Int32 × (Nat → Int32) := fun k => match k with
  | 0 => fun _ s => s
  | k + 1 => fun b s => bsB co hh a k (b + 1) (bsC co hh a b (hh - a - b + 1) 0 s)
theorem bsB_s (co : Nat → Nat → Nat → Nat → Int32) (hh a k b : Nat) (s : Int32 × (Nat → Int32)) : bsB co hh a (k + 1) b s = bsB co hh a k (b + 1) (bsC co hh a b (hh - a - b + 1) 0 s) := rfl
def bsA (co : Nat → Nat → Nat → Nat → Int32) (hh : Nat) : Nat → Nat → Int32 × (Nat → Int32) → Int32 × (Nat → Int32) := fun k => match k with
  | 0 => fun _ s => s
  | k + 1 => fun a s => bsA co hh k (a + 1) (bsB co hh a (hh - a + 1) 0 s)
theorem bsA_s (co : Nat → Nat → Nat → Nat → Int32) (hh k a : Nat) (s : Int32 × (Nat → Int32)) : bsA co hh (k + 1) a s = bsA co hh k (a + 1) (bsB co hh a (hh - a + 1) 0 s) := rfl
theorem bs_end {c k e : Nat} (hk : c + k = e + 1) (he : e ≤ 9) (hc : nI e < nI c) : k = 0 := by
  have := (nI_ltI (by omega) (by omega)).mp hc
  omega
theorem bs_go {c k e : Nat} (hk : c + k = e + 1) (he : e ≤ 9) (hc : ¬ nI e < nI c) : ∃ z, k = z + 1 := by
  cases k with
  | zero => exact absurd (nI_lt (by omega) (by omega)) hc
  | succ z => exact ⟨z, rfl⟩
set_option maxRecDepth 8000 in
set_option maxHeartbeats 4000000 in
theorem c_X0_share {G : Gt} (hG : Gok G) {I : It} {h : Ht}  (hH : HX h) {a b c e : Int32} : Con G (1) 0 0 mX0_share [.ref 13, .int a, .int b, .int c, .int e] I h (rV (upI (upI (upI (upI I 28 0 a) 28 1 b) 28 2 c) 28 3 e) h) := by
  refine con_intro (own := RX0) (lo0 := [some (.ref 13), some (.int a), some (.int b), some (.int c), some (.int e)]) hG rfl pl_X0 (Nat.le_of_ble_eq_true rfl) rfl (fun X hX => ?_)
  refine g_aload_0 hX (dk DX0_share 0 rfl) ?_
  refine g_getRs (r := 28) hX (dk DX0_share 1 rfl) KX0 fX0_28 (by decide) rfl (CLt hH (q := 13) (by decide)) (CC hH 13 (by decide) rfl) (CR hH 13 14 28 (by decide)) ?_
  refine g_iconst (v := 0) hX (dk DX0_share 2 rfl) (by decide) ?_
  refine g_iload_1 hX (dk DX0_share 3 rfl) ?_
  refine i_iastore (j := 0) hX (dk DX0_share 4 rfl) (CLt hH (q := 28) (by decide)) (CS hH 28 (by decide) rfl) (⟨rfl, by decide, by decide⟩) ?_
  refine g_aload_0 hX (dk DX0_share 5 rfl) ?_
  refine g_getRs (r := 28) hX (dk DX0_share 6 rfl) KX0 fX0_28 (by decide) rfl (CLt hH (q := 13) (by decide)) (CC hH 13 (by decide) rfl) (CR hH 13 14 28 (by decide)) ?_
  refine g_iconst (v := 1) hX (dk DX0_share 7 rfl) (by decide) ?_
  refine g_iload_2 hX (dk DX0_share 8 rfl) ?_
  refine i_iastore (j := 1) hX (dk DX0_share 9 rfl) (CLt hH (q := 28) (by decide)) (CS hH 28 (by decide) rfl) (⟨rfl, by decide, by decide⟩) ?_
  refine g_aload_0 hX (dk DX0_share 10 rfl) ?_
  refine g_getRs (r := 28) hX (dk DX0_share 11 rfl) KX0 fX0_28 (by decide) rfl (CLt hH (q := 13) (by decide)) (CC hH 13 (by decide) rfl) (CR hH 13 14 28 (by decide)) ?_
  refine g_iconst (v := 2) hX (dk DX0_share 12 rfl) (by decide) ?_
  refine g_iload_3 hX (dk DX0_share 13 rfl) ?_
  refine i_iastore (j := 2) hX (dk DX0_share 14 rfl) (CLt hH (q := 28) (by decide)) (CS hH 28 (by decide) rfl) (⟨rfl, by decide, by decide⟩) ?_
  refine g_aload_0 hX (dk DX0_share 15 rfl) ?_
  refine g_getRs (r := 28) hX (dk DX0_share 16 rfl) KX0 fX0_28 (by decide) rfl (CLt hH (q := 13) (by decide)) (CC hH 13 (by decide) rfl) (CR hH 13 14 28 (by decide)) ?_
  refine g_iconst (v := 3) hX (dk DX0_share 17 rfl) (by decide) ?_
  refine g_iload_4 hX (dk DX0_share 18 rfl) ?_
  refine i_iastore (j := 3) hX (dk DX0_share 19 rfl) (CLt hH (q := 28) (by decide)) (CS hH 28 (by decide) rfl) (⟨rfl, by decide, by decide⟩) ?_
  refine g_return hX (dk DX0_share 20 rfl) rfl (by decide) (by decide) ?_
  exact rV_of rfl rfl

set_option maxRecDepth 8000 in
set_option maxHeartbeats 4000000 in
theorem c_X0_bestSplit {G : Gt} (hG : Gok G) {I : It} {h : Ht}  (hH : HX h) {hh dd : Nat} {co : Nat → Nat → Nat → Nat → Int32} {K : It → Prop} (hh9 : hh ≤ 9) (hdd : dd + 1 ≤ 9) (hKs : ∀ J y x, K J → K (upI J 28 y x)) (hKc : ∀ J, K J → K (cpI J 28 29 0 0 4)) (hco : ∀ J a b c e, K J → (J 28 0 = nI a ∧ J 28 1 = nI b ∧ J 28 2 = nI c ∧ J 28 3 = nI e) → a + b + c + e = hh → Con G dd 0 0 mX0_costHanded [.ref 13, .ref 28] J h (qI fun x I2 h2 => x = co a b c e ∧ K I2 ∧ h2 = h ∧ I2 28 = J 28 ∧ I2 29 = J 29)) (hK0 : K I) : Con G (9) 0 0 mX0_bestSplit [.ref 13, .int (nI hh)] I h (qI (fun x I2 h2 => x = (bsA co hh (hh + 1) 0 (2147483647, I 29)).1 ∧ (∀ y, y < 4 → I2 29 y = (bsA co hh (hh + 1) 0 (2147483647, I 29)).2 y) ∧ K I2 ∧ h2 = h)) := by
  refine con_intro (own := RX0) (lo0 := [some (.ref 13), some (.int (nI hh)), none, none, none, none, none]) hG rfl pl_X0 (Nat.le_of_ble_eq_true rfl) rfl (fun X hX => ?_)
  have loop24 : ∀ a b, a ≤ hh → a + b ≤ hh → ∀ (sF : Int32 × (Nat → Int32)), (∀ J, K J → (∀ y, y < 4 → J 29 y = sF.2 y) → GG G 9 0 0 X (qI (fun x I2 h2 => x = (bsA co hh (hh + 1) 0 (2147483647, I 29)).1 ∧ (∀ y, y < 4 → I2 29 y = (bsA co hh (hh + 1) 0 (2147483647, I 29)).2 y) ∧ K I2 ∧ h2 = h)) 92 [some (.ref 13), some (.int (nI hh)), some (.int sF.1), some (.int (nI a)), some (.int (nI b)), none, none] [] J h 0 0) → ∀ (k c : Nat) (s : Int32 × (Nat → Int32)) (J : It), c + k = hh - a - b + 1 → bsC co hh a b k c s = sF → K J → (∀ y, y < 4 → J 29 y = s.2 y) → GG G (9) 0 0 X (qI (fun x I2 h2 => x = (bsA co hh (hh + 1) 0 (2147483647, I 29)).1 ∧ (∀ y, y < 4 → I2 29 y = (bsA co hh (hh + 1) 0 (2147483647, I 29)).2 y) ∧ K I2 ∧ h2 = h)) 24 [some (.ref 13), some (.int (nI hh)), some (.int s.1), some (.int (nI a)), some (.int (nI b)), some (.int (nI c)), none] [] (J) (h) 0 0 := by
    intro a b ha hb sF kk k
    induction k using Nat.strongRecOn with | _ k ih => ?_
    intro c s J hk hv hK hbest
    refine g_iload_5 hX (dk DX0_bestSplit_0 16 rfl) ?_
    refine g_iload_1 hX (dk DX0_bestSplit_0 17 rfl) ?_
    refine g_iload_3 hX (dk DX0_bestSplit_0 18 rfl) ?_
    refine g_isub hX (dk DX0_bestSplit_0 19 rfl) ?_
    refine g_nmI (nI (hh - a)) (pk_sub (by omega)) ?_
    refine g_iload_4 hX (dk DX0_bestSplit_0 20 rfl) ?_
    refine g_isub hX (dk DX0_bestSplit_0 21 rfl) ?_
    refine g_nmI (nI (hh - a - b)) (pk_sub (by omega)) ?_
    refine g_icmp_gt (tgt := 92) hX (dk DX0_bestSplit_0 22 rfl) (by decide) (fun hc1 => ?_) (fun hc1 => ?_)
    · have hk0 := bs_end hk (by omega) hc1
      subst hk0
      subst hv
      exact g_fgt (kk J hK hbest) ⟨rfl, rfl, rfl, rfl, rfl, trivial⟩
    · obtain ⟨k, rfl⟩ := bs_go hk (by omega) hc1
      rw [bsC_s] at hv
      refine g_aload_0 hX (dk DX0_bestSplit_0 23 rfl) ?_
      refine g_iload_3 hX (dk DX0_bestSplit_0 24 rfl) ?_
      refine g_iload_4 hX (dk DX0_bestSplit_0 25 rfl) ?_
      refine g_iload_5 hX (dk DX0_bestSplit_0 26 rfl) ?_
      refine g_iload_1 hX (dk DX0_bestSplit_0 27 rfl) ?_
      refine g_iload_3 hX (dk DX0_bestSplit_0 28 rfl) ?_
      refine g_isub hX (dk DX0_bestSplit_0 29 rfl) ?_
      refine g_nmI (nI (hh - a)) (pk_sub (by omega)) ?_
      refine g_iload_4 hX (dk DX0_bestSplit_0 30 rfl) ?_
      refine g_isub hX (dk DX0_bestSplit_0 31 rfl) ?_
      refine g_nmI (nI (hh - a - b)) (pk_sub (by omega)) ?_
      refine g_iload_5 hX (dk DX0_bestSplit_0 32 rfl) ?_
      refine g_isub hX (dk DX0_bestSplit_0 33 rfl) ?_
      refine g_nmI (nI (hh - a - b - c)) (pk_sub (by omega)) ?_
      refine g_c5V hX sX0_bestSplit_50 (by decide) (Nat.le_of_ble_eq_true rfl) (rc0 rfl (CLt hH (by decide)) (CC hH 13 (by decide) rfl)) (by decide) (by decide) (c_X0_share hG hH) ?_
      refine g_aload_0 hX (dk DX0_bestSplit_0 35 rfl) ?_
      refine g_aload_0 hX (dk DX0_bestSplit_0 36 rfl) ?_
      refine g_getRs (r := 28) hX (dk DX0_bestSplit_0 37 rfl) KX0 fX0_28 (by decide) rfl (CLt hH (q := 13) (by decide)) (CC hH 13 (by decide) rfl) (CR hH 13 14 28 (by decide)) ?_
      refine g_c2q hX sX0_bestSplit_58 (hdd) (Nat.le_of_ble_eq_true rfl) (rc0 rfl (CLt hH (by decide)) (CC hH 13 (by decide) rfl)) (by decide) (by decide) (hco _ a b c (hh - a - b - c) (hKs _ _ _ (hKs _ _ _ (hKs _ _ _ (hKs _ _ _ hK)))) ⟨rfl, rfl, rfl, rfl⟩ (by omega)) ?_
      rintro _ J2 _ ⟨rfl, hK2, rfl, h28, h29⟩
      refine g_istore_6 hX (dk DX0_bestSplit_0 39 rfl) (by decide) rfl ?_
      refine g_iload_6 hX (dk DX0_bestSplit_0 40 rfl) ?_
      refine g_iload_2 hX (dk DX0_bestSplit_0 41 rfl) ?_
      refine g_icmp_ge (tgt := 86) hX (dk DX0_bestSplit_0 42 rfl) (by decide) (fun hc2 => ?_) (fun hc2 => ?_)
      · refine g_iinc_5 hX (dk DX0_bestSplit_0 53 rfl) (nI_1 c) (by decide) rfl ?_
        refine g_goto (tgt := 24) hX (dk DX0_bestSplit_0 54 rfl) (by decide) ?_
        first
        | exact g_fgt (ih k (by omega) (c + 1) (co a b c (hh - a - b - c), h4 a b c (hh - a - b - c)) _ (by omega) hv (hKc _ hK2) (fun y hy => (cpy_in hy).trans (by rw [h28]; exact h4_eq (a := a) (b := b) (c := c) (d := hh - a - b - c) rfl rfl rfl rfl y hy))) ⟨rfl, rfl, rfl, rfl, rfl, rfl, trivial⟩
        | exact g_fgt (ih k (by omega) (c + 1) s _ (by omega) (by rw [if_neg (Int32.not_lt.mpr (by assumption))] at hv; exact hv) hK2 (fun y hy => by rw [h29]; exact hbest y hy)) ⟨rfl, rfl, rfl, rfl, rfl, rfl, trivial⟩
      · have hlt : co a b c (hh - a - b - c) < s.1 := Int32.not_le.mp hc2
        rw [if_pos hlt] at hv
        refine g_iload_6 hX (dk DX0_bestSplit_0 43 rfl) ?_
        refine g_istore_2 hX (dk DX0_bestSplit_0 44 rfl) (by decide) rfl ?_
        refine g_aload_0 hX (dk DX0_bestSplit_0 45 rfl) ?_
        refine g_getRs (r := 28) hX (dk DX0_bestSplit_0 46 rfl) KX0 fX0_28 (by decide) rfl (CLt hH (q := 13) (by decide)) (CC hH 13 (by decide) rfl) (CR hH 13 14 28 (by decide)) ?_
        refine g_iconst (v := 0) hX (dk DX0_bestSplit_0 47 rfl) (by decide) ?_
        refine g_aload_0 hX (dk DX0_bestSplit_0 48 rfl) ?_
        refine g_getRs (r := 29) hX (dk DX0_bestSplit_0 49 rfl) KX0 fX0_31 (by decide) rfl (CLt hH (q := 13) (by decide)) (CC hH 13 (by decide) rfl) (CR hH 13 15 29 (by decide)) ?_
        refine g_iconst (v := 0) hX (dk DX0_bestSplit_0 50 rfl) (by decide) ?_
        refine g_iconst (v := 4) hX (dk DX0_bestSplit_0 51 rfl) (by decide) ?_
        refine g_copyI (sp := 0) (dp := 0) (m := 4) hX (dk DX0_bestSplit_0 52 rfl) (tg_4 2 rfl rfl) (tg_4 4 rfl rfl) (tg_4 3 rfl rfl) (tg_1 17 rfl rfl) (CLt hH (q := 28) (by decide)) (CS hH 28 (by decide) rfl) (CLt hH (q := 29) (by decide)) (CS hH 29 (by decide) rfl) (⟨rfl, rfl, rfl⟩) (⟨by decide, by decide⟩) (⟨by decide, by decide⟩) (by decide) (by decide) ?_
        refine g_iinc_5 hX (dk DX0_bestSplit_0 53 rfl) (nI_1 c) (by decide) rfl ?_
        refine g_goto (tgt := 24) hX (dk DX0_bestSplit_0 54 rfl) (by decide) ?_
        first
        | exact g_fgt (ih k (by omega) (c + 1) (co a b c (hh - a - b - c), h4 a b c (hh - a - b - c)) _ (by omega) hv (hKc _ hK2) (fun y hy => (cpy_in hy).trans (by rw [h28]; exact h4_eq (a := a) (b := b) (c := c) (d := hh - a - b - c) rfl rfl rfl rfl y hy))) ⟨rfl, rfl, rfl, rfl, rfl, rfl, trivial⟩
        | exact g_fgt (ih k (by omega) (c + 1) s _ (by omega) (by rw [if_neg (Int32.not_lt.mpr (by assumption))] at hv; exact hv) hK2 (fun y hy => by rw [h29]; exact hbest y hy)) ⟨rfl, rfl, rfl, rfl, rfl, rfl, trivial⟩
  have loop13 : ∀ a, a ≤ hh → ∀ (sF : Int32 × (Nat → Int32)), (∀ J, K J → (∀ y, y < 4 → J 29 y = sF.2 y) → GG G 9 0 0 X (qI (fun x I2 h2 => x = (bsA co hh (hh + 1) 0 (2147483647, I 29)).1 ∧ (∀ y, y < 4 → I2 29 y = (bsA co hh (hh + 1) 0 (2147483647, I 29)).2 y) ∧ K I2 ∧ h2 = h)) 98 [some (.ref 13), some (.int (nI hh)), some (.int sF.1), some (.int (nI a)), none, none, none] [] J h 0 0) → ∀ (k b : Nat) (s : Int32 × (Nat → Int32)) (J : It), b + k = hh - a + 1 → bsB co hh a k b s = sF → K J → (∀ y, y < 4 → J 29 y = s.2 y) → GG G (9) 0 0 X (qI (fun x I2 h2 => x = (bsA co hh (hh + 1) 0 (2147483647, I 29)).1 ∧ (∀ y, y < 4 → I2 29 y = (bsA co hh (hh + 1) 0 (2147483647, I 29)).2 y) ∧ K I2 ∧ h2 = h)) 13 [some (.ref 13), some (.int (nI hh)), some (.int s.1), some (.int (nI a)), some (.int (nI b)), none, none] [] (J) (h) 0 0 := by
    intro a ha sF kk k
    induction k using Nat.strongRecOn with | _ k ih => ?_
    intro b s J hk hv hK hbest
    refine g_iload_4 hX (dk DX0_bestSplit_0 9 rfl) ?_
    refine g_iload_1 hX (dk DX0_bestSplit_0 10 rfl) ?_
    refine g_iload_3 hX (dk DX0_bestSplit_0 11 rfl) ?_
    refine g_isub hX (dk DX0_bestSplit_0 12 rfl) ?_
    refine g_nmI (nI (hh - a)) (pk_sub (by omega)) ?_
    refine g_icmp_gt (tgt := 98) hX (dk DX0_bestSplit_0 13 rfl) (by decide) (fun hc1 => ?_) (fun hc1 => ?_)
    · have hk0 := bs_end hk (by omega) hc1
      subst hk0
      subst hv
      exact g_fgt (kk J hK hbest) ⟨rfl, rfl, rfl, rfl, trivial⟩
    · obtain ⟨k, rfl⟩ := bs_go hk (by omega) hc1
      rw [bsB_s] at hv
      refine g_iconst (v := 0) hX (dk DX0_bestSplit_0 14 rfl) (by decide) ?_
      refine g_istore_5 hX (dk DX0_bestSplit_0 15 rfl) (by decide) rfl ?_
      refine loop24 a b ha (by omega) (bsC co hh a b (hh - a - b + 1) 0 s) (fun J hK hbest => ?_) (hh - a - b + 1) 0 s J (Nat.zero_add _) rfl hK hbest
      · skip
        refine g_iinc_4 hX (dk DX0_bestSplit_0 55 rfl) (nI_1 b) (by decide) rfl ?_
        refine g_goto (tgt := 13) hX (dk DX0_bestSplit_0 56 rfl) (by decide) ?_
        exact ih k (by omega) (b + 1) _ _ (by omega) hv hK hbest
  have loop5 : ∀ (k a : Nat) (s : Int32 × (Nat → Int32)) (J : It), a + k = hh + 1 → bsA co hh k a s = bsA co hh (hh + 1) 0 (2147483647, I 29) → K J → (∀ y, y < 4 → J 29 y = s.2 y) → GG G (9) 0 0 X (qI (fun x I2 h2 => x = (bsA co hh (hh + 1) 0 (2147483647, I 29)).1 ∧ (∀ y, y < 4 → I2 29 y = (bsA co hh (hh + 1) 0 (2147483647, I 29)).2 y) ∧ K I2 ∧ h2 = h)) 5 [some (.ref 13), some (.int (nI hh)), some (.int s.1), some (.int (nI a)), none, none, none] [] (J) (h) 0 0 := by
    intro k
    induction k using Nat.strongRecOn with | _ k ih => ?_
    intro a s J hk hv hK hbest
    refine g_iload_3 hX (dk DX0_bestSplit_0 4 rfl) ?_
    refine g_iload_1 hX (dk DX0_bestSplit_0 5 rfl) ?_
    refine g_icmp_gt (tgt := 104) hX (dk DX0_bestSplit_0 6 rfl) (by decide) (fun hc1 => ?_) (fun hc1 => ?_)
    · refine g_iload_2 hX (dk DX0_bestSplit_0 59 rfl) ?_
      refine g_ireturn hX (dk DX0_bestSplit_1 0 rfl) rfl (rfl) (by decide) (by decide) ?_
      have hk0 := bs_end hk (by omega) hc1
      subst hk0
      exact qI_of ⟨congrArg Prod.fst hv, fun y hy => by rw [hbest y hy, ← hv]; rfl, hK, rfl⟩
    · obtain ⟨k, rfl⟩ := bs_go hk (by omega) hc1
      rw [bsA_s] at hv
      refine g_iconst (v := 0) hX (dk DX0_bestSplit_0 7 rfl) (by decide) ?_
      refine g_istore_4 hX (dk DX0_bestSplit_0 8 rfl) (by decide) rfl ?_
      refine loop13 a (by omega) (bsB co hh a (hh - a + 1) 0 s) (fun J hK hbest => ?_) (hh - a + 1) 0 s J (Nat.zero_add _) rfl hK hbest
      · skip
        refine g_iinc_3 hX (dk DX0_bestSplit_0 57 rfl) (nI_1 a) (by decide) rfl ?_
        refine g_goto (tgt := 5) hX (dk DX0_bestSplit_0 58 rfl) (by decide) ?_
        exact ih k (by omega) (a + 1) _ _ (by omega) hv hK hbest
  refine g_ldc (v := 2147483647) hX (dk DX0_bestSplit_0 0 rfl) (tg_3 231 rfl rfl) ?_
  refine g_istore_2 hX (dk DX0_bestSplit_0 1 rfl) (by decide) rfl ?_
  refine g_iconst (v := 0) hX (dk DX0_bestSplit_0 2 rfl) (by decide) ?_
  refine g_istore_3 hX (dk DX0_bestSplit_0 3 rfl) (by decide) rfl ?_
  exact loop5 (hh + 1) 0 (2147483647, I 29) I (Nat.zero_add _) rfl hK0 (fun _ _ => rfl)

