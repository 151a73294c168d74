/-! acts: the bodies that ran -/
def TrE (E J : It) : Prop := J 32 1 = E 0 67 ∧ ∀ j, j < 20 → J 33 j = E 35 j
theorem tr_1 {E J : It} (b : Int32) (h : TrE E J) : TrE (body1 E b) (tb1 J b) := by
  obtain ⟨h1, h2⟩ := h
  unfold body1 tb1
  rw [h1]
  refine ⟨by rw [up0, up0], fun j hj => ?_⟩
  rw [upI_off (show (33 : Nat) ≠ 32 by decide), upI_off (show (35 : Nat) ≠ 0 by decide)]
  split
  · by_cases e : j = tN (E 0 67)
    · rw [e, up0, up0]
    · rw [upn (fun z => e z.2), upn (fun z => e z.2)]; exact h2 j hj
  · exact h2 j hj
theorem tr_L : ∀ (l : List Int32) {E J : It}, TrE E J → TrE (putB E l) (tbL J l) := by
  intro l
  induction l with
  | nil => intro E J h; exact h
  | cons b t ih => intro E J h; exact ih (tr_1 b h)
theorem RY.tr {E E2 : It} {L : Nat → Int64} {I J : It} {h : Ht} (hY : RY E L I h) (ht : TrE E2 J) (hf : Fr [67] [35] E E2) (hJ : ∀ a, a ≠ 32 → a ≠ 33 → J a = I a) : RY E2 L J h := by
  have q : RY (fun a j => if a = 0 then (if j = 67 then E 0 67 else E2 0 j) else if a = 35 then E 35 j else E2 a j) L I h := by
    refine hY.eE (fun j hj => ?_) (fun a ha => ?_)
    · show (if (0 : Nat) = 0 then (if j = 67 then E 0 67 else E2 0 j) else _) = E 0 j
      rw [if_pos rfl]
      split
      · next e => rw [e]
      · next e => exact hf.1 j (by simpa using e)
    · funext j
      show (if a = 0 then (if j = 67 then E 0 67 else E2 0 j) else if a = 35 then E 35 j else E2 a j) = E a j
      have h0 : a ≠ 0 := by rintro rfl; revert ha; decide
      rw [if_neg h0]
      split
      · next e => rw [e]
      · next e => exact congrFun (hf.2 a h0 (by simpa using e)) j
  obtain ⟨g1, g2, ⟨g3, g4⟩, g5, ⟨g6, g7⟩, -, gt, g10, g11⟩ := q
  refine ⟨g1, StR.keep g2 (fun a ha => hJ a (by omega) (by omega)) (fun _ => rfl) (Nat.le_refl _) (fun _ _ => rfl), ⟨by rw [hJ 0 (by decide) (by decide)]; exact g3, fun e => StR.keep (g4 e) (fun a ha => hJ a (by omega) (by omega)) (fun _ => rfl) (Nat.le_refl _) (fun _ _ => rfl)⟩, g5, ⟨g6.mv (fun a ha _ => hJ a (by omega) (by omega)), g7⟩, ht, ?_, ?_, ?_⟩
  · intro t ht2; rw [hJ 34 (by decide) (by decide), hJ 35 (by decide) (by decide)]; exact gt t ht2
  · rw [hJ 0 (by decide) (by decide)]; exact g10
  · rw [hJ 0 (by decide) (by decide)]; exact g11
theorem WX.tr {I J : It} {h : Ht} (hW : WX I h) (hS : ∀ a, a ≠ 32 → a ≠ 33 → J a = I a) : WX J h := by
  obtain ⟨h1, ⟨h2, h3⟩, h4, ⟨h5, h6⟩, ⟨h7, h8⟩, h9⟩ := hW
  have e1 : J 1 = I 1 := hS 1 (by omega) (by omega)
  have ec : cN J = cN I := by unfold cN; rw [e1]
  have ew : weN J = weN I := by unfold weN; rw [e1]
  refine ⟨h1, ⟨by rw [e1, ec]; exact h2, by rw [ec]; exact h3⟩, fun d hd => ?_, ⟨h5, fun p hp => ⟨?_, fun k hk => ?_⟩⟩, ⟨by rw [e1, ew]; exact h7, by rw [ew]; exact h8⟩, by rw [e1]; exact h9⟩
  · obtain ⟨g1, g2, g3, g4, g5, g6⟩ := h4 d (by rw [← ec]; exact hd)
    refine ⟨g1, g2, g3, g4, ?_, ?_⟩
    · rw [hS _ (by omega) (by omega)]; exact g5
    · rw [hS _ (by omega) (by omega)]; exact g6
  · rw [hS _ (by omega) (by omega)]; exact (h6 p hp).1
  · rw [hS _ (by omega) (by omega)]; exact (h6 p hp).2 k hk
theorem ac_all {E : It} (hE : Inv E) {d : Nat} (hd : d < cnt E) : ((∀ x, dsV (kcl (E 1 d)) (nI d) (E 2 d) x = saysV E d x) ∧ dsB (kcl (E 1 d)) = saysB E d) ∧ ((∀ x, dhV (kcl (E 1 d)) (nI d) (E 2 d) x = holdsV E d x) ∧ dhB (kcl (E 1 d)) = holdsB E d) ∧ (∀ x, dtlV (kcl (E 1 d)) (nI d) (E 2 d) x = tellsV E d x) ∧ dtlB (kcl (E 1 d)) = tellsB E d := by
  obtain ⟨k, hk, e⟩ := (inv_d hE hd).1
  unfold dtlV dtlB dtV dhV dhB dkV dsV dsB tellsV tellsB ktV ktB holdsV holdsB khV khB saysV saysB
  rw [e]
  rcases (by omega : k = 0 ∨ k = 1 ∨ k = 2 ∨ k = 3 ∨ k = 4 ∨ k = 5 ∨ k = 6) with rfl | rfl | rfl | rfl | rfl | rfl | rfl <;> exact ⟨⟨fun _ => rfl, rfl⟩, ⟨fun _ => rfl, rfl⟩, fun _ => rfl, rfl⟩
theorem w012 {w : Int32} (h0 : ¬ w = 0) (h1 : ¬ w = 1) (h2 : ¬ w = 2) : ¬ (0 ≤ w ∧ w ≤ 2) := by
  intro h
  obtain ⟨n, hn, rfl⟩ := in_of (b := 2) (by decide) h
  rcases (by omega : n = 0 ∨ n = 1 ∨ n = 2) with rfl | rfl | rfl
  · exact h0 rfl
  · exact h1 rfl
  · exact h2 rfl
theorem tr_0 {E I : It} {L : Nat → Int64} {h : Ht} (hY : RY E L I h) : TrE (upI E 0 67 0) (upI I 32 1 0) := ⟨by rw [up0, up0], fun j hj => by rw [upI_off (by decide), upI_off (by decide)]; exact hY.2.2.2.2.2.1.2 j hj⟩
theorem fr_0 (E : It) (l : List Int32) : Fr [67] [35] E (putB (upI E 0 67 0) l) := (Fr.rf.pf (by decide)).trans (putB_fr l _)
theorem of_0 (I : It) (l : List Int32) : ∀ a, a ≠ 32 → a ≠ 33 → tbL (upI I 32 1 0) l a = I a := fun _ h1 h2 => (tbL_off l _ h1 h2).trans (upI_off h1)
theorem RY.act {E : It} {L : Nat → Int64} {I : It} {h : Ht} (hY : RY E L I h) (l : List Int32) : RY (putB (upI E 0 67 0) l) L (tbL (upI I 32 1 0) l) h := hY.tr (tr_L l (tr_0 hY)) (fr_0 E l) (of_0 I l)

set_option maxRecDepth 8000 in
set_option maxHeartbeats 4000000 in
theorem y_act {G : Gt} (hG : Gok G) {I : It} {h : Ht}  {E : It} {L : Nat → Int64} (hE : Inv E) (hY : RY E L I h) {d : Nat} (hd : d < cnt E) {w x : Int32} : Con G (9) 0 0 mX11_act [.ref 0, .int (nI d), .int w, .int x] I h (qX (actS E (nI d) w x) L (hn h)) := by
  refine con_intro (own := RX11) (lo0 := [some (.ref 0), some (.int (nI d)), some (.int w), some (.int x), none]) hG rfl pl_X11 (Nat.le_of_ble_eq_true rfl) rfl (fun X hX => ?_)
  have hW := hY.wx hE
  have hH := hW.1
  have hc10 := hW.2.1.2
  have hd10 : d < 10 := Nat.lt_of_lt_of_le hd (inv_cnt hE).2
  have hcd : d < cN I := by rw [hY.cn]; exact hd
  have hDD := isD_mk hE hd
  obtain ⟨g1, g2, g3, g4, g5, g6, g7, g8, g9, g10⟩ := hY.d hd
  refine g_aload_0 hX (dk DX11_act 0 rfl) ?_
  refine g_getRs (r := 32) hX (dk DX11_act 1 rfl) KX11 fX11_43 (by decide) rfl (CLt hH (q := 0) (by decide)) (CC hH 0 (by decide) rfl) (CR hH 0 8 32 (by decide)) ?_
  refine g_iconst (v := 0) hX (dk DX11_act 2 rfl) (by decide) ?_
  refine g_putI hX (dk DX11_act 3 rfl) KX7 fX11_258 (by decide) rfl (CLt hH (q := 32) (by decide)) (CC hH 32 (by decide) rfl) (Or.inl rfl) (rfl) (rfl) ?_
  refine g_aload_0 hX (dk DX11_act 4 rfl) ?_
  refine g_getRs (r := 1) hX (dk DX11_act 5 rfl) KX11 fX11_12 (by decide) rfl (CLt hH (q := 0) (by decide)) (CC hH 0 (by decide) rfl) (CR hH 0 0 1 (by decide)) ?_
  refine g_iload_1 hX (dk DX11_act 6 rfl) ?_
  refine g_c2R hX sX11_act_13 (by decide) (Nat.le_of_ble_eq_true rfl) (rc0 rfl (CLt hH (by decide)) (CC hH 1 (by decide) rfl)) (by decide) (by decide) (c_X5_find hG (hW.tr (of_0 I [])) (by exact hcd)) ?_
  refine g_astore_4 hX (dk DX11_act 8 rfl) (by decide) rfl ?_
  refine g_aload_4 hX (dk DX11_act 9 rfl) ?_
  refine g_ifnonnull (tgt := 25) hX (dk DX11_act 10 rfl) (by decide) ?_
  refine g_iload_2 hX (dk DX11_act 13 rfl) ?_
  refine g_tswitch (dt := 85) hX [(0, 52), (1, 63), (2, 74)] (dk DX11_act 14 rfl) (by decide +kernel) ?_
  refine ⟨fun hc1 => ?_, fun hc1n => ?_⟩
  · show GG _ _ _ _ _ _ _ _ _ _ _ _ _
    refine g_aload_4 hX (dk DX11_act 15 rfl) ?_
    refine g_iload_3 hX (dk DX11_act 16 rfl) ?_
    refine g_aload_0 hX (dk DX11_act 17 rfl) ?_
    refine g_getRs (r := 32) hX (dk DX11_act 18 rfl) KX11 fX11_43 (by decide) rfl (CLt hH (q := 0) (by decide)) (CC hH 0 (by decide) rfl) (CR hH 0 8 32 (by decide)) ?_
    refine g_c3I hX (sD_X11_act_59 _ (by rw [g4]; exact kcl_dc _)) (by decide) (Nat.le_of_ble_eq_true rfl) (rc0 rfl g3 rfl) (by decide) (by decide) (cD_says hG g3 (by rw [g4]; exact kcl_dc _) hH (r := 0) (by exact up0 _ _ _ _) (by decide) (by omega) (by omega)) ?_
    refine g_ireturn hX (dk DX11_act 20 rfl) rfl (rfl) (by decide) (by decide) ?_
    exact qX_of (E' := putB (upI E 0 67 0) (saysB E d)) (by unfold actS; rw [if_neg (not_not_intro hDD), show w = 0 by assumption, if_neg (by decide), if_neg (by decide), tN_nI (by omega), show tbL (upI I 32 1 0) [] (dn h d) = I (dn h d) from upI_off (by omega), g5, g6, g4, (ac_all hE hd).1.1 x]) (by rw [g4, (ac_all hE hd).1.2]; exact hY.act _)
  refine ⟨fun hc2 => ?_, fun hc2n => ?_⟩
  · show GG _ _ _ _ _ _ _ _ _ _ _ _ _
    refine g_aload_4 hX (dk DX11_act 21 rfl) ?_
    refine g_iload_3 hX (dk DX11_act 22 rfl) ?_
    refine g_aload_0 hX (dk DX11_act 23 rfl) ?_
    refine g_getRs (r := 32) hX (dk DX11_act 24 rfl) KX11 fX11_43 (by decide) rfl (CLt hH (q := 0) (by decide)) (CC hH 0 (by decide) rfl) (CR hH 0 8 32 (by decide)) ?_
    refine g_c3I hX (sD_X11_act_70 _ (by rw [g4]; exact kcl_dc _)) (by decide) (Nat.le_of_ble_eq_true rfl) (rc0 rfl g3 rfl) (by decide) (by decide) (cD_holds hG g3 (by rw [g4]; exact kcl_dc _) hH (r := 0) (by exact up0 _ _ _ _) (by decide) (by omega) (by omega)) ?_
    refine g_ireturn hX (dk DX11_act 26 rfl) rfl (rfl) (by decide) (by decide) ?_
    exact qX_of (E' := putB (upI E 0 67 0) (holdsB E d)) (by unfold actS; rw [if_neg (not_not_intro hDD), show w = 1 by assumption, if_neg (by decide), if_pos (by decide), if_pos rfl, tN_nI (by omega), show tbL (upI I 32 1 0) [] (dn h d) = I (dn h d) from upI_off (by omega), g5, g6, g4, (ac_all hE hd).2.1.1 x]) (by rw [g4, (ac_all hE hd).2.1.2]; exact hY.act _)
  refine ⟨fun hc3 => ?_, fun hc3n => ?_⟩
  · show GG _ _ _ _ _ _ _ _ _ _ _ _ _
    refine g_aload_4 hX (dk DX11_act 27 rfl) ?_
    refine g_iload_3 hX (dk DX11_act 28 rfl) ?_
    refine g_aload_0 hX (dk DX11_act 29 rfl) ?_
    refine g_getRs (r := 32) hX (dk DX11_act 30 rfl) KX11 fX11_43 (by decide) rfl (CLt hH (q := 0) (by decide)) (CC hH 0 (by decide) rfl) (CR hH 0 8 32 (by decide)) ?_
    refine g_c3I hX (sD_X11_act_81 _ (by rw [g4]; exact kcl_dc _)) (by decide) (Nat.le_of_ble_eq_true rfl) (rc0 rfl g3 rfl) (by decide) (by decide) (cD_tells hG g3 (by rw [g4]; exact kcl_dc _) hH (r := 0) (by exact up0 _ _ _ _) (by decide) (by omega) (by omega)) ?_
    refine g_ireturn hX (dk DX11_act 32 rfl) rfl (rfl) (by decide) (by decide) ?_
    exact qX_of (E' := putB (upI E 0 67 0) (tellsB E d)) (by unfold actS; rw [if_neg (not_not_intro hDD), show w = 2 by assumption, if_neg (by decide), if_pos (by decide), if_neg (by decide), tN_nI (by omega), show tbL (upI I 32 1 0) [] (dn h d) = I (dn h d) from upI_off (by omega), g5, g6, g4, (ac_all hE hd).2.2.1 x]) (by rw [g4, (ac_all hE hd).2.2.2]; exact hY.act _)
  show GG _ _ _ _ _ _ _ _ _ _ _ _ _
  refine g_iconst (v := 0) hX (dk DX11_act 33 rfl) (by decide) ?_
  refine g_ireturn hX (dk DX11_act 34 rfl) rfl (rfl) (by decide) (by decide) ?_
  exact qX_of (E' := upI E 0 67 0) (by unfold actS; rw [if_neg (not_not_intro hDD), if_pos (w012 (by assumption) (by assumption) (by assumption))]) (by exact hY.act [])

set_option maxRecDepth 8000 in
set_option maxHeartbeats 4000000 in
theorem z_act {G : Gt} (hG : Gok G) {I : It} {h : Ht}  {E : It} {L : Nat → Int64} (hE : Inv E) (hY : RY E L I h) {a : Int32} (hno : ¬ isD E a) {w x : Int32} : Con G (9) 0 0 mX11_act [.ref 0, .int a, .int w, .int x] I h (qX (actS E a w x) L (hn h)) := by
  refine con_intro (own := RX11) (lo0 := [some (.ref 0), some (.int a), some (.int w), some (.int x), none]) hG rfl pl_X11 (Nat.le_of_ble_eq_true rfl) rfl (fun X hX => ?_)
  have hW := hY.wx hE
  have hH := hW.1
  have hc10 := hW.2.1.2
  refine g_aload_0 hX (dk DX11_act 0 rfl) ?_
  refine g_getRs (r := 32) hX (dk DX11_act 1 rfl) KX11 fX11_43 (by decide) rfl (CLt hH (q := 0) (by decide)) (CC hH 0 (by decide) rfl) (CR hH 0 8 32 (by decide)) ?_
  refine g_iconst (v := 0) hX (dk DX11_act 2 rfl) (by decide) ?_
  refine g_putI hX (dk DX11_act 3 rfl) KX7 fX11_258 (by decide) rfl (CLt hH (q := 32) (by decide)) (CC hH 32 (by decide) rfl) (Or.inl rfl) (rfl) (rfl) ?_
  refine g_aload_0 hX (dk DX11_act 4 rfl) ?_
  refine g_getRs (r := 1) hX (dk DX11_act 5 rfl) KX11 fX11_12 (by decide) rfl (CLt hH (q := 0) (by decide)) (CC hH 0 (by decide) rfl) (CR hH 0 0 1 (by decide)) ?_
  refine g_iload_1 hX (dk DX11_act 6 rfl) ?_
  refine g_c2R hX sX11_act_13 (by decide) (Nat.le_of_ble_eq_true rfl) (rc0 rfl (CLt hH (by decide)) (CC hH 1 (by decide) rfl)) (by decide) (by decide) (c_X5_find0 hG (hW.tr (of_0 I [])) (by exact hY.no hE hno)) ?_
  refine g_astoreN_4 hX (dk DX11_act 8 rfl) (by decide) rfl ?_
  refine g_aloadN_4 hX (dk DX11_act 9 rfl) ?_
  refine g_ifnonnullN hX (dk DX11_act 10 rfl) ?_
  refine g_iconst (v := 0) hX (dk DX11_act 11 rfl) (by decide) ?_
  refine g_ireturn hX (dk DX11_act 12 rfl) rfl (rfl) (by decide) (by decide) ?_
  exact qX_of (E' := upI E 0 67 0) (by unfold actS; rw [if_pos hno]) (by exact hY.act [])

theorem x_act {G : Gt} (hG : Gok G) {I : It} {h : Ht} {E : It} {L : Nat → Int64} (hE : Inv E) (hY : RY E L I h) {a : Int32} {w x : Int32} : Con G 9 0 0 mX11_act [.ref 0, .int a, .int w, .int x] I h (qX (actS E a w x) L (hn h)) := by
  by_cases hh : isD E a
  · obtain ⟨d, hd, rfl⟩ := isD_of hE hh
    exact y_act hG hE hY hd
  · exact z_act hG hE hY hh
