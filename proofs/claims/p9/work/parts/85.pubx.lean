/-! the image taken, and taken back -/
theorem img_off {E : It} {a : Nat} (h0 : a ≠ 0) (h : ¬ (25 ≤ a ∧ a ≤ 34)) : imgC (imgF E) a = E a := by
  funext j
  unfold imgC imgF
  rw [if_neg (by omega), if_neg (by omega), if_neg (by omega)]
  simp only [upI_off h0]
theorem img_0 {E : It} {j : Nat} (h : j ∉ [47, 48, 49, 50, 51, 52, 53, 54, 55, 56]) : imgC (imgF E) 0 j = E 0 j := by
  simp only [List.mem_cons, List.not_mem_nil, or_false, not_or] at h
  unfold imgC imgF
  rw [if_neg (by omega), if_neg (by omega), if_neg (by omega)]
  rw [upn (by omega), upn (by omega), upn (by omega), upn (by omega), upn (by omega), upn (by omega), upn (by omega), upn (by omega), upn (by omega), upn (by omega)]
theorem img_in {E : It} {a : Nat} (h1 : 25 ≤ a) (h2 : a ≤ 31) {j : Nat} (hj : j < 10) : imgC (imgF E) a j = E (a - 24) j := by
  unfold imgC imgF
  rw [if_pos ⟨h1, h2⟩, if_pos hj]
  simp only [upI_off (show a - 24 ≠ 0 by omega)]
theorem img_32 {E : It} {j : Nat} (hj : j < 4) : imgC (imgF E) 32 j = E 8 j := by
  unfold imgC imgF
  rw [if_neg (by omega), if_pos rfl, if_pos hj]
  rfl
theorem RY.img {E : It} {L : Nat → Int64} {I J : It} {h h2 : Ht} (hE : Inv E) (hY : RY E L I h) (hT : TF 7 1 I h J h2) : RY (imgC (imgF E)) L (upI J 0 2 1) h2 := by
  obtain ⟨t1, t2, t3, t4, t5, t6, t7, t8, t9, t10, es, en, el, hx⟩ := hT
  obtain ⟨g1, g2, ⟨g3, g4⟩, ⟨g5, g5b⟩, ⟨g6, g7⟩, ⟨g8, g9⟩, gt, g10, g11⟩ := hY
  obtain ⟨e0, hc⟩ := inv_cnt hE
  have K : ∀ a, a ≠ 0 → a ∉ [7, 9, 10, 11, 12] → upI J 0 2 1 a = I a := fun a h0 ha => (upI_off h0).trans (t6 a ha)
  have K0 : ∀ j, j ≠ 2 → upI J 0 2 1 0 j = I 0 j := fun j hj => (upn (fun z => hj z.2)).trans (congrFun (t6 0 (by decide)) j)
  have hPO : PO (upI J 0 2 1) h2 := ⟨fun r hr => g6.1 r (by rw [← t9 1 (by decide) (by decide)]; exact hr), fun p hp => ⟨by rw [K _ (by omega) (by simp; omega)]; exact (g6.2 p hp).1, fun k hk => by rw [K _ (by omega) (by simp; omega)]; exact (g6.2 p hp).2 k hk⟩⟩
  refine ⟨hx, ?_, ⟨?_, fun _ => ?_⟩, ⟨fun j hj => ?_, fun j hj => ?_⟩, ⟨hPO, fun r hr => g6.1 r (t8.symm.trans hr)⟩, ⟨?_, fun j hj => ?_⟩, fun t ht => ?_, ?_, ?_⟩
  · unfold St1
    rw [img_0 (by decide), img_0 (by decide), img_0 (by decide), img_0 (by decide), img_off (by decide) (by decide), img_off (by decide) (by decide), img_off (by decide) (by decide), img_off (by decide) (by decide), img_off (by decide) (by decide), img_off (by decide) (by decide), img_off (by decide) (by decide), img_off (by decide) (by decide)]
    exact StR.keep g2 (fun a ha => K a (by omega) (by simp; omega)) (fun j => congrFun (t9 2 (by decide) (by decide)) j) (Nat.le_of_eq en.symm) (fun a _ => by rw [es])
  · rw [up0]; rfl
  · obtain ⟨⟨s1, s2, s3, s4⟩, s5, s6, s7⟩ := g2
    have q : ∀ f, f ∈ [2, 3, 4, 6, 7, 8, 9, 12] → upI J 0 2 1 7 f = I 1 f := fun f hf => by rw [upI_off (by decide)]; exact t1 f hf
    refine ⟨⟨(q 2 (by decide)).trans s1, (q 6 (by decide)).trans s2, (q 4 (by decide)).trans s3, (q 12 (by decide)).trans s4⟩, fun j hj => ?_, fun y hy => ?_, fun d hd => ?_⟩
    · rw [img_in (by decide) (by decide) hj, upI_off (by decide)]; exact (t2 j hj).trans (s5 j hj)
    · rw [img_32 hy, upI_off (by decide)]; exact (t3 y hy).trans (s6 y hy)
    · have hd' : d < cnt E := hd
      have hd10 : d < 10 := by omega
      rw [img_in (by decide) (by decide) hd10, img_in (by decide) (by decide) hd10, img_in (by decide) (by decide) hd10, img_in (by decide) (by decide) hd10, img_in (by decide) (by decide) hd10, img_in (by decide) (by decide) hd10]
      obtain ⟨a, a1, a2, a3, a4, a5⟩ := s7 d hd'
      refine ⟨a, (t7 d hd10).trans a1, a2, by rw [en]; exact a3, by rw [es]; exact a4, ?_⟩
      rw [K a (by omega) (by simp; omega)]
      exact a5
  · rw [show hR h2 2 j = hR h 2 j from congrFun (t9 2 (by decide) (by decide)) j]; exact okD.mv en es (g5 j hj)
  · rw [show hR h2 8 j = hR h 2 j from t7 j hj]; exact okD.mv en es (g5 j hj)
  · rw [img_0 (by decide), K 32 (by decide) (by decide)]; exact g8
  · rw [img_off (by decide) (by decide), K 33 (by decide) (by decide)]; exact g9 j hj
  · rw [img_off (by decide) (by decide), img_off (by decide) (by decide), K 34 (by decide) (by decide), K 35 (by decide) (by decide), el]; exact gt t ht
  · rw [K0 5 (by decide)]; exact g10
  · rw [K0 7 (by decide)]; exact g11
theorem und_off {E : It} {a : Nat} (h0 : a ≠ 0) (h : ¬ ((1 ≤ a ∧ a ≤ 8) ∨ a = 23 ∨ a = 24)) : undC (undF E) a = E a := by
  funext j
  unfold undC undF
  rw [if_neg (by omega), if_neg (by omega), if_neg (by omega)]
  simp only [upI_off h0]
theorem und_0 {E : It} {j : Nat} (h : j ∉ [16, 0, 1, 2, 3, 4, 5, 6, 44]) : undC (undF E) 0 j = E 0 j := by
  simp only [List.mem_cons, List.not_mem_nil, or_false, not_or] at h
  unfold undC undF
  rw [if_neg (by omega), if_neg (by omega), if_neg (by omega)]
  rw [upn (by omega), upn (by omega), upn (by omega), upn (by omega), upn (by omega), upn (by omega), upn (by omega), upn (by omega), upn (by omega)]
theorem und_in {E : It} {a : Nat} (h1 : 1 ≤ a) (h2 : a ≤ 7) {j : Nat} (hj : j < 10) : undC (undF E) a j = E (a + 24) j := by
  unfold undC undF
  rw [if_pos ⟨h1, h2⟩, if_pos hj]
  simp only [upI_off (show a + 24 ≠ 0 by omega)]
theorem und_8 {E : It} {j : Nat} (hj : j < 4) : undC (undF E) 8 j = E 32 j := by
  unfold undC undF
  rw [if_neg (by omega), if_pos rfl, if_pos hj]
  rfl
theorem RY.und {E : It} {L : Nat → Int64} {I J : It} {h h2 : Ht} (hE : Inv E) (h47 : ¬ E 0 47 = 0) (hY : RY E L I h) (hT : TF 1 7 I h J h2) : RY (undC (undF E)) L J h2 := by
  obtain ⟨t1, t2, t3, t4, t5, t6, t7, t8, t9, t10, es, en, el, hx⟩ := hT
  obtain ⟨g1, g2, ⟨g3, g4⟩, ⟨g5, g5b⟩, ⟨g6, g7⟩, ⟨g8, g9⟩, gt, g10, g11⟩ := hY
  have h1 : E 0 47 = 1 := by rcases hE.2.1 with z | z; exact absurd z h47; exact z.1
  have hn : tN (E 0 49) ≤ 10 := by
    rcases hE.2.1 with z | z
    · exact absurd z h47
    · obtain ⟨x, hx, e, -⟩ := z.2.1
      rw [e, tN_nI (by omega)]; exact hx
  have K : ∀ a, a ∉ [1, 3, 4, 5, 6] → J a = I a := t6
  have hPO : PO J h2 := ⟨fun r hr => g7 r (t8.symm.trans hr), fun p hp => ⟨by rw [K _ (by simp; omega)]; exact (g6.2 p hp).1, fun k hk => by rw [K _ (by simp; omega)]; exact (g6.2 p hp).2 k hk⟩⟩
  have f0 : undC (undF E) 0 0 = E 0 49 ∧ undC (undF E) 0 1 = E 0 50 ∧ undC (undF E) 0 6 = E 0 55 ∧ undC (undF E) 0 44 = E 0 56 := ⟨rfl, rfl, rfl, rfl⟩
  obtain ⟨z0, z1, z6, z44⟩ := f0
  refine ⟨hx, ?_, ⟨?_, fun _ => ?_⟩, ⟨fun j hj => ?_, fun j hj => ?_⟩, ⟨hPO, fun r hr => g7 r (by rw [← t9 7 (by decide) (by decide)]; exact hr)⟩, ⟨?_, fun j hj => ?_⟩, fun t ht => ?_, ?_, ?_⟩
  · obtain ⟨⟨s1, s2, s3, s4⟩, s5, s6, s7⟩ := g4 h1
    unfold St1
    rw [z0, z1, z6, z44]
    refine ⟨⟨(t1 2 (by decide)).trans s1, (t1 6 (by decide)).trans s2, (t1 4 (by decide)).trans s3, (t1 12 (by decide)).trans s4⟩, fun j hj => ?_, fun y hy => ?_, fun d hd => ?_⟩
    · rw [und_in (by decide) (by decide) hj]; exact (t2 j hj).trans (s5 j hj)
    · rw [und_8 hy]; exact (t3 y hy).trans (s6 y hy)
    · have hd10 : d < 10 := by omega
      rw [und_in (by decide) (by decide) hd10, und_in (by decide) (by decide) hd10, und_in (by decide) (by decide) hd10, und_in (by decide) (by decide) hd10, und_in (by decide) (by decide) hd10, und_in (by decide) (by decide) hd10]
      obtain ⟨a, a1, a2, a3, a4, a5⟩ := s7 d hd
      refine ⟨a, (t7 d hd10).trans a1, a2, by rw [en]; exact a3, by rw [es]; exact a4, ?_⟩
      rw [K a (by simp; omega)]
      exact a5
  · rw [und_0 (by decide), K 0 (by decide)]; exact g3
  · unfold St7
    rw [und_0 (by decide), und_0 (by decide), und_0 (by decide), und_0 (by decide), und_off (by decide) (by decide), und_off (by decide) (by decide), und_off (by decide) (by decide), und_off (by decide) (by decide), und_off (by decide) (by decide), und_off (by decide) (by decide), und_off (by decide) (by decide), und_off (by decide) (by decide)]
    exact StR.keep (g4 h1) (fun a ha => K a (by simp; omega)) (fun j => congrFun (t9 8 (by decide) (by decide)) j) (Nat.le_of_eq en.symm) (fun a _ => by rw [es])
  · rw [show hR h2 2 j = hR h 8 j from t7 j hj]; exact okD.mv en es (g5b j hj)
  · rw [show hR h2 8 j = hR h 8 j from congrFun (t9 8 (by decide) (by decide)) j]; exact okD.mv en es (g5b j hj)
  · rw [und_0 (by decide), K 32 (by decide)]; exact g8
  · rw [und_off (by decide) (by decide), K 33 (by decide)]; exact g9 j hj
  · rw [und_off (by decide) (by decide), und_off (by decide) (by decide), K 34 (by decide), K 35 (by decide), el]; exact gt t ht
  · rw [K 0 (by decide)]; exact g10
  · rw [K 0 (by decide)]; exact g11

theorem qX_ofN {s : Int32 × It} {v : Int32} {E' J : It} {L : Nat → Int64} {h : Ht} {N : Nat} (e : s = (v, E')) (hY : RY E' L J h) (hN : hn h ≤ N) : qX s L N (some (.int v)) J h := ⟨v, rfl, by rw [e], by rw [e]; exact hY, hN⟩
set_option maxRecDepth 8000 in
set_option maxHeartbeats 4000000 in
theorem x_image {G : Gt} (hG : Gok G) {I : It} {h : Ht}  {E : It} {L : Nat → Int64} (hE : Inv E) (hY : RY E L I h)  : Con G (3) 0 0 mX11_image [.ref 0] I h (qX (imageS E) L (hn h)) := by
  refine con_intro (own := RX11) (lo0 := [some (.ref 0)]) hG rfl pl_X11 (Nat.le_of_ble_eq_true rfl) rfl (fun X hX => ?_)
  have hW := hY.wx hE
  have hH := hW.1
  have hc10 := hW.2.1.2
  refine g_aload_0 hX (dk DX11_image 0 rfl) ?_
  refine g_getRs (r := 7) hX (dk DX11_image 1 rfl) KX11 fX11_18 (by decide) rfl (CLt hH (q := 0) (by decide)) (CC hH 0 (by decide) rfl) (CR hH 0 1 7 (by decide)) ?_
  refine g_aload_0 hX (dk DX11_image 2 rfl) ?_
  refine g_getRs (r := 1) hX (dk DX11_image 3 rfl) KX11 fX11_12 (by decide) rfl (CLt hH (q := 0) (by decide)) (CC hH 0 (by decide) rfl) (CR hH 0 0 1 (by decide)) ?_
  refine g_c2v hX sX11_image_8 (by decide) (Nat.le_of_ble_eq_true rfl) (rc0 rfl (CLt hH (by decide)) (CC hH 7 (by decide) rfl)) (by decide) (by decide) (c_take7 hG hH hY.2.2.2.1.1) ?_
  rintro J h9 hT
  have en : hn h9 = hn h := hT.2.2.2.2.2.2.2.2.2.2.2.1
  have hx9 : HX h9 := hT.2.2.2.2.2.2.2.2.2.2.2.2.2
  have hY9 := hY.img hE hT
  have hH := hx9
  refine g_aload_0 hX (dk DX11_image 5 rfl) ?_
  refine g_iconst (v := 1) hX (dk DX11_image 6 rfl) (by decide) ?_
  refine g_putI hX (dk DX11_image 7 rfl) KX11 fX11_254 (by decide) rfl (CLt hH (q := 0) (by decide)) (CC hH 0 (by decide) rfl) (Or.inl rfl) (by decide) (by decide) ?_
  refine g_aload_0 hX (dk DX11_image 8 rfl) ?_
  refine g_getRs (r := 1) hX (dk DX11_image 9 rfl) KX11 fX11_12 (by decide) rfl (CLt hH (q := 0) (by decide)) (CC hH 0 (by decide) rfl) (CR hH 0 0 1 (by decide)) ?_
  refine g_getIv hX (dk DX11_image 10 rfl) KX5 fX11_72 (by decide) rfl (CLt hH (q := 1) (by decide)) (CC hH 1 (by decide) rfl) ((hY9.2.1.1.1.trans (img_0 (by decide)))) ?_
  refine g_ireturn hX (dk DX11_image 11 rfl) rfl (rfl) (by decide) (by decide) ?_
  exact qX_ofN rfl hY9 (Nat.le_of_eq en)

set_option maxRecDepth 8000 in
set_option maxHeartbeats 4000000 in
theorem x_undo {G : Gt} (hG : Gok G) {I : It} {h : Ht}  {E : It} {L : Nat → Int64} (hE : Inv E) (hY : RY E L I h)  : Con G (3) 0 0 mX11_undo [.ref 0] I h (qX (undoS E) L (hn h)) := by
  refine con_intro (own := RX11) (lo0 := [some (.ref 0)]) hG rfl pl_X11 (Nat.le_of_ble_eq_true rfl) rfl (fun X hX => ?_)
  have hW := hY.wx hE
  have hH := hW.1
  have hc10 := hW.2.1.2
  refine g_aload_0 hX (dk DX11_undo 0 rfl) ?_
  refine g_getIv hX (dk DX11_undo 1 rfl) KX11 fX11_254 (by decide) rfl (CLt hH (q := 0) (by decide)) (CC hH 0 (by decide) rfl) (hY.2.2.1.1) ?_
  refine g_if_ne (tgt := 10) hX (dk DX11_undo 2 rfl) (by decide) (fun hc1 => ?_) (fun hc1 => ?_)
  · refine g_aload_0 hX (dk DX11_undo 5 rfl) ?_
    refine g_getRs (r := 1) hX (dk DX11_undo 6 rfl) KX11 fX11_12 (by decide) rfl (CLt hH (q := 0) (by decide)) (CC hH 0 (by decide) rfl) (CR hH 0 0 1 (by decide)) ?_
    refine g_aload_0 hX (dk DX11_undo 7 rfl) ?_
    refine g_getRs (r := 7) hX (dk DX11_undo 8 rfl) KX11 fX11_18 (by decide) rfl (CLt hH (q := 0) (by decide)) (CC hH 0 (by decide) rfl) (CR hH 0 1 7 (by decide)) ?_
    refine g_c2v hX sX11_undo_18 (by decide) (Nat.le_of_ble_eq_true rfl) (rc0 rfl (CLt hH (by decide)) (CC hH 1 (by decide) rfl)) (by decide) (by decide) (c_take1 hG hH hY.2.2.2.1.2) ?_
    rintro J h9 hT
    have en : hn h9 = hn h := hT.2.2.2.2.2.2.2.2.2.2.2.1
    have hx9 : HX h9 := hT.2.2.2.2.2.2.2.2.2.2.2.2.2
    have hY9 := hY.und hE hc1 hT
    have hH := hx9
    refine g_aload_0 hX (dk DX11_undo 10 rfl) ?_
    refine g_getRs (r := 1) hX (dk DX11_undo 11 rfl) KX11 fX11_12 (by decide) rfl (CLt hH (q := 0) (by decide)) (CC hH 0 (by decide) rfl) (CR hH 0 0 1 (by decide)) ?_
    refine g_getIv hX (dk DX11_undo 12 rfl) KX5 fX11_72 (by decide) rfl (CLt hH (q := 1) (by decide)) (CC hH 1 (by decide) rfl) (hY9.2.1.1.1) ?_
    refine g_ireturn hX (dk DX11_undo 13 rfl) rfl (rfl) (by decide) (by decide) ?_
    exact qX_ofN (by unfold undoS; rw [if_neg hc1]; rfl) hY9 (Nat.le_of_eq en)
  · refine g_bipush (v := -3) hX (dk DX11_undo 3 rfl) (by decide) ?_
    refine g_ireturn hX (dk DX11_undo 4 rfl) rfl (rfl) (by decide) (by decide) ?_
    exact qX_of (by unfold undoS; rw [if_pos (by first | exact hc1 | exact Decidable.not_not.mp hc1)]) hY

