theorem ten_p (p : Nat) : (10 : Int32) * nI p = nI (10 * p) := by rw [show (10 : Int32) = nI 10 from rfl, pk_mul]
theorem hun_p (p : Nat) : (100 : Int32) * nI p = nI (100 * p) := by rw [show (100 : Int32) = nI 100 from rfl, pk_mul]
theorem FG.L {p : Nat} {I J : It} (h : FG p I J) : J 17 = I 17 := h.2.1 17 (by decide)
theorem CLr.f {J : It} {c fr j : Nat} {k : Cl} {x : Int32} (h : CLr J c fr k) : CLr (upI J 0 j x) c fr k := h
theorem STc.f {J : It} {p j k fr : Nat} {l : List Cl} {x : Int32} (h : STc J p l k fr) : STc (upI J 0 j x) p l k fr := STc_mv h (fun _ _ _ => ⟨rfl, rfl, rfl, rfl⟩) (fun _ _ _ => rfl)
theorem STc.ten {J : It} {p j k fr : Nat} {l : List Cl} {x : Int32} (h : STc J p l k fr) : STc (upI J 10 j x) p l k fr := STc_mv h (fun _ _ _ => ⟨rfl, rfl, rfl, rfl⟩) (fun _ _ _ => rfl)
theorem STc.cl {J K : It} {p : Nat} {l : List Cl} {x : Cl} (h : STc J p l 0 (100 * p)) (hF : FC p (10 * p + l.length) (100 * p + tot l) J K) (hx : CLr K (10 * p + l.length) (100 * p + tot l) x) : STc K p (l ++ [x]) 0 (100 * p) := by
  refine STc_app (STc_mv h (fun c _ hc => hF.2.2.1 c (by omega)) (fun j _ hj => hF.2.2.2 j (by omega))) ?_
  rw [Nat.zero_add]
  exact hx
section GT
variable {X : Nat → Int32} {n f a : Nat} {l : List Cl}
theorem gt_f (h : ¬ (clA X n a).1 = true) : gtA X n (f + 1) a l = (false, (clA X n a).2.1, l) := by rw [gtA_s, if_pos (Bool.not_eq_true _ ▸ h)]
theorem gt_e (h : (clA X n a).1 = true) (h2 : (clA X n a).2.1 = n) : gtA X n (f + 1) a l = (true, n, l ++ [(clA X n a).2.2]) := by rw [gtA_s, if_neg (by rw [h]; decide), if_pos h2]
theorem gt_10 (h : (clA X n a).1 = true) (h2 : ¬ (clA X n a).2.1 = n) (h3 : l.length + 1 = 10) : gtA X n (f + 1) a l = (false, (clA X n a).2.1, l) := by rw [gtA_s, if_neg (by rw [h]; decide), if_neg h2, if_pos h3]
theorem gt_x (h : (clA X n a).1 = true) (h2 : ¬ (clA X n a).2.1 = n) (h3 : ¬ l.length + 1 = 10) (h4 : ¬ nxA X n (clA X n a).2.1 = 59) : gtA X n (f + 1) a l = (false, (clA X n a).2.1, l) := by rw [gtA_s, if_neg (by rw [h]; decide), if_neg h2, if_neg h3, if_neg h4]
theorem gt_s (h : (clA X n a).1 = true) (h2 : ¬ (clA X n a).2.1 = n) (h3 : ¬ l.length + 1 = 10) (h4 : nxA X n (clA X n a).2.1 = 59) : gtA X n (f + 1) a l = gtA X n f ((clA X n a).2.1 + 1) (l ++ [(clA X n a).2.2]) := by rw [gtA_s, if_neg (by rw [h]; decide), if_neg h2, if_neg h3, if_pos h4]
end GT

set_option maxRecDepth 8000 in
set_option maxHeartbeats 4000000 in
theorem q_goesText {G : Gt} (hG : Gok G) {I : It} {h : Ht} (hM : HM h) {p : Nat} {tx : Nat → Int32} {n : Nat} (hp : p < 6) (hT : TX tx n I) (hL : ∀ j, j < 15 → I 17 j = lettersL.getD j 0)  : Con G (8) 0 0 mX12_goesText [.ref 0, .int (nI p)] I h (qI (fun v J h2 => h2 = h ∧ v = bI ((gtA tx n 10 0 []).1 = true) ∧ FG p I J ∧ TX tx n J ∧ AT n (gtA tx n 10 0 []).2.1 J ∧ ((gtA tx n 10 0 []).1 = true → J 10 p = nI (gtA tx n 10 0 []).2.2.length ∧ STc J p (gtA tx n 10 0 []).2.2 0 (100 * p) ∧ tot (gtA tx n 10 0 []).2.2 ≤ n))) := by
  refine con_intro (own := RX12) (lo0 := [some (.ref 0), some (.int (nI p)), none]) hG rfl pl_X12 (Nat.le_of_ble_eq_true rfl) rfl (fun X hX => ?_)
  have hn100 := hT.2.1
  have loop15 : ∀ (f a2 : Nat) (l : List Cl) (J : It), l.length + f = 10 → 1 ≤ f → a2 ≤ n → FG p I J → TX tx n J → J 0 18 = nI a2 → J 0 28 = nI (100 * p + tot l) → tot l ≤ a2 → STc J p l 0 (100 * p) → gtA tx n f a2 l = (gtA tx n 10 0 []) → GG G (8) 0 0 X (qI (fun v J h2 => h2 = h ∧ v = bI ((gtA tx n 10 0 []).1 = true) ∧ FG p I J ∧ TX tx n J ∧ AT n (gtA tx n 10 0 []).2.1 J ∧ ((gtA tx n 10 0 []).1 = true → J 10 p = nI (gtA tx n 10 0 []).2.2.length ∧ STc J p (gtA tx n 10 0 []).2.2 0 (100 * p) ∧ tot (gtA tx n 10 0 []).2.2 ≤ n))) 15 [some (.ref 0), some (.int (nI p)), some (.int (nI l.length))] [] (J) (h) 0 0 := by
    intro f
    induction f using Nat.strongRecOn with | _ f ih => ?_
    intro a2 l J hl hf1 ha2 hFG hTJ hAJ h28 htot hST hv
    obtain ⟨f, rfl⟩ : ∃ z, f = z + 1 := ⟨f - 1, by omega⟩
    refine g_aload_0 hX (dk DX12_goesText 10 rfl) ?_
    refine g_bipush (v := 10) hX (dk DX12_goesText 11 rfl) (by decide) ?_
    refine g_iload_1 hX (dk DX12_goesText 12 rfl) ?_
    refine g_imul hX (dk DX12_goesText 13 rfl) ?_
    refine g_nmI (nI (10 * p)) (ten_p p) ?_
    refine g_iload_2 hX (dk DX12_goesText 14 rfl) ?_
    refine g_iadd hX (dk DX12_goesText 15 rfl) ?_
    refine g_nmI (nI (10 * p + l.length)) (nI_add _ _) ?_
    refine g_c2q hX sX12_goesText_22 (by decide) (Nat.le_of_ble_eq_true rfl) (rc0 rfl (MLt hM (by decide)) (MC hM)) (by decide) (by decide) (q_takesClause hG hM (p := p) (fr := 100 * p + tot l) (a := a2) hp (by omega) hTJ ⟨hAJ, ha2⟩ h28 (by omega) (by omega) (fun j hj => (congrFun hFG.L j).trans (hL j hj))) ?_
    rintro v J8 h8 ⟨rfl, rfl, hF8, hT8, hA8, hR8⟩
    have hG8 := hFG.c hF8 ⟨by omega, by omega⟩ (by omega)
    refine g_ifb_ne (tgt := 30) hX (dk DX12_goesText 17 rfl) (by decide) (fun hc1 => ?_) (fun hc1 => ?_)
    · have hc := hc1
      obtain ⟨r1, r2, r3⟩ := hR8 hc
      have hca := hA8.2
      refine g_iinc_2 hX (dk DX12_goesText 20 rfl) (nI_1 l.length) (by decide) rfl ?_
      refine g_aload_0 hX (dk DX12_goesText 21 rfl) ?_
      refine g_getRs (r := 10) hX (dk DX12_goesText 22 rfl) KX12 fX12_74 (by decide) rfl (MLt hM (by decide)) (MC hM) (MR hM 21 (by decide) rfl) ?_
      refine g_iload_1 hX (dk DX12_goesText 23 rfl) ?_
      refine g_iload_2 hX (dk DX12_goesText 24 rfl) ?_
      refine i_iastore hX (dk DX12_goesText 25 rfl) (MLt hM (q := 10) (by decide)) (MS hM 10 (by decide) rfl) (⟨rfl, hp, by decide⟩) ?_
      refine g_aload_0 hX (dk DX12_goesText 26 rfl) ?_
      refine g_getIv hX (dk DX12_goesText 27 rfl) KX12 fX12_65 (by decide) rfl (MLt hM (by decide)) (MC hM) ((show _ = nI (clA tx n a2).2.1 from hA8.1)) ?_
      refine g_aload_0 hX (dk DX12_goesText 28 rfl) ?_
      refine g_getIv hX (dk DX12_goesText 29 rfl) KX12 fX12_62 (by decide) rfl (MLt hM (by decide)) (MC hM) ((show _ = nI n from hT8.1)) ?_
      refine g_icmp_ne (tgt := 53) hX (dk DX12_goesText 30 rfl) (by decide) (fun hc2 => ?_) (fun hc2 => ?_)
      · have hne : ¬ (clA tx n a2).2.1 = n := fun z => hc2 (by rw [z])
        refine g_iload_2 hX (dk DX12_goesText 33 rfl) ?_
        refine g_bipush (v := 10) hX (dk DX12_goesText 34 rfl) (by decide) ?_
        refine g_icmp_eq (tgt := 68) hX (dk DX12_goesText 35 rfl) (by decide) (fun hc3 => ?_) (fun hc3 => ?_)
        · refine g_iconst (v := 0) hX (dk DX12_goesText 40 rfl) (by decide) ?_
          refine g_ireturn hX (dk DX12_goesText 41 rfl) rfl (by decide) (by decide) (by decide) ?_
          first
          | (have e := gt_10 (f := f) (l := l) hc hne ((nI_eq (b := 10) (by omega) (by decide)).mp (show nI (l.length + 1) = nI 10 by assumption))
             rw [e] at hv
             rw [← hv]
             exact qI_of ⟨rfl, rfl, hG8.w10, (hT8.u (by omega) (by decide)), (hA8.u (by omega)), fun z => absurd (show false = true from z) Bool.false_ne_true⟩)
          | (have e := gt_x (f := f) (l := l) hc hne h10 (by assumption)
             have etk : tkA tx n (clA tx n a2).2.1 59 = (clA tx n a2).2.1 := if_neg (by assumption)
             rw [e] at hv
             rw [← hv, etk]
             exact qI_of ⟨rfl, rfl, (hG8.w10.f (by decide)), (TX.w (hT8.u (by omega) (by decide))), (AT.w hca), fun z => absurd (show false = true from z) Bool.false_ne_true⟩)
        · have h10 : ¬ l.length + 1 = 10 := fun z => hc3 (by rw [z]; rfl)
          refine g_aload_0 hX (dk DX12_goesText 36 rfl) ?_
          refine g_bipush (v := 59) hX (dk DX12_goesText 37 rfl) (by decide) ?_
          refine g_c2I hX sX12_goesText_62 (by decide) (Nat.le_of_ble_eq_true rfl) (rc0 rfl (MLt hM (by decide)) (MC hM)) (by decide) (by decide) (q_takes hG hM (hT8.u (q := 10) (by omega) (by decide)) (hA8.u (by omega))) ?_
          refine g_ifb_ne (tgt := 15) hX (dk DX12_goesText 39 rfl) (by decide) (fun hc4 => ?_) (fun hc4 => ?_)
          · have h59 : nxA tx n (clA tx n a2).2.1 = 59 := by assumption
            have etk : tkA tx n (clA tx n a2).2.1 59 = (clA tx n a2).2.1 + 1 := if_pos h59
            have hlt := nxA_no (X := tx) (by decide) h59
            rw [etk]
            have eln : (l ++ [(clA tx n a2).2.2]).length = l.length + 1 := by simp
            exact g_fgt (ih f (by omega) ((clA tx n a2).2.1 + 1) (l ++ [(clA tx n a2).2.2]) _ (by rw [eln]; omega) (by omega) hlt ((hG8.w10).f (by decide)) (TX.w (hT8.u (by omega) (by decide))) rfl (by rw [tot_app, ← Nat.add_assoc]; exact r2) (by rw [tot_app]; omega) (STc.f (STc.ten (hST.cl hF8 r1))) (by rw [← hv, gt_s hc hne h10 h59])) ⟨rfl, rfl, by rw [eln], trivial⟩
          · refine g_iconst (v := 0) hX (dk DX12_goesText 40 rfl) (by decide) ?_
            refine g_ireturn hX (dk DX12_goesText 41 rfl) rfl (by decide) (by decide) (by decide) ?_
            first
            | (have e := gt_10 (f := f) (l := l) hc hne ((nI_eq (b := 10) (by omega) (by decide)).mp (show nI (l.length + 1) = nI 10 by assumption))
               rw [e] at hv
               rw [← hv]
               exact qI_of ⟨rfl, rfl, hG8.w10, (hT8.u (by omega) (by decide)), (hA8.u (by omega)), fun z => absurd (show false = true from z) Bool.false_ne_true⟩)
            | (have e := gt_x (f := f) (l := l) hc hne h10 (by assumption)
               have etk : tkA tx n (clA tx n a2).2.1 59 = (clA tx n a2).2.1 := if_neg (by assumption)
               rw [e] at hv
               rw [← hv, etk]
               exact qI_of ⟨rfl, rfl, (hG8.w10.f (by decide)), (TX.w (hT8.u (by omega) (by decide))), (AT.w hca), fun z => absurd (show false = true from z) Bool.false_ne_true⟩)
      · refine g_iconst (v := 1) hX (dk DX12_goesText 31 rfl) (by decide) ?_
        refine g_ireturn hX (dk DX12_goesText 32 rfl) rfl (by decide) (by decide) (by decide) ?_
        have hen : (clA tx n a2).2.1 = n := (nI_eq (by omega) (by omega)).mp (by assumption)
        have e := gt_e (f := f) (l := l) hc hen
        rw [e] at hv
        rw [← hv]
        have eln : (l ++ [(clA tx n a2).2.2]).length = l.length + 1 := by simp
        exact qI_of ⟨rfl, rfl, hG8.w10, hT8.u (by omega) (by decide), (show AT n n _ from ⟨by rw [hen] at hA8; exact hA8.1, Nat.le_refl _⟩), fun _ => ⟨by rw [eln]; exact up0 _ _ _ _, STc.ten (hST.cl hF8 r1), by rw [tot_app]; omega⟩⟩
    · refine g_iconst (v := 0) hX (dk DX12_goesText 18 rfl) (by decide) ?_
      refine g_ireturn hX (dk DX12_goesText 19 rfl) rfl (by decide) (by decide) (by decide) ?_
      have e := gt_f (f := f) (l := l) (X := tx) (n := n) (a := a2) (by assumption)
      rw [e] at hv
      rw [← hv]
      exact qI_of ⟨rfl, rfl, hG8, hT8, hA8, fun z => absurd (show false = true from z) Bool.false_ne_true⟩
  refine g_aload_0 hX (dk DX12_goesText 0 rfl) ?_
  refine g_iconst (v := 0) hX (dk DX12_goesText 1 rfl) (by decide) ?_
  refine g_putI hX (dk DX12_goesText 2 rfl) KX12 fX12_65 (by decide) rfl (MLt hM (by decide)) (MC hM) (Or.inl rfl) (rfl) (rfl) ?_
  refine g_aload_0 hX (dk DX12_goesText 3 rfl) ?_
  refine g_bipush (v := 100) hX (dk DX12_goesText 4 rfl) (by decide) ?_
  refine g_iload_1 hX (dk DX12_goesText 5 rfl) ?_
  refine g_imul hX (dk DX12_goesText 6 rfl) ?_
  refine g_nmI (nI (100 * p)) (hun_p p) ?_
  refine g_putI hX (dk DX12_goesText 7 rfl) KX12 fX12_95 (by decide) rfl (MLt hM (by decide)) (MC hM) (Or.inl rfl) (rfl) (rfl) ?_
  refine g_iconst (v := 0) hX (dk DX12_goesText 8 rfl) (by decide) ?_
  refine g_istore_2 hX (dk DX12_goesText 9 rfl) (by decide) rfl ?_
  exact g_fgt (loop15 10 0 [] _ rfl (by decide) (Nat.zero_le _) ((FG.rf.f (by decide)).f (by decide)) ((hT.u (by omega) (by decide)).u (by omega) (by decide)) rfl rfl (by decide) trivial rfl) ⟨rfl, rfl, rfl, trivial⟩

