/-! tapes -/
theorem RY.tp {E E2 : It} {L L2 : Nat → Int64} {I J : It} {h h2 : Ht} (hY : RY E L I h) (hT : TpR E2 L2 J h2) (hE2 : ∀ a, a ≠ 36 → a ≠ 37 → E2 a = E a) (hJ : ∀ a, a ≠ 34 → a ≠ 35 → J a = I a) (e1 : hR h2 = hR h) (e2 : hs h2 = hs h) (e3 : hn h2 = hn h) : RY E2 L2 J h2 := by
  obtain ⟨g1, g2, ⟨g3, g4⟩, ⟨g5, g5b⟩, ⟨g6, g7⟩, ⟨g8, g9⟩, -, g10, g11⟩ := hY
  have hx : HX h2 := ⟨by rw [e3]; exact g1.1, fun q hq => by rw [e2]; exact g1.2.1 q hq, fun x hx => by rw [e1]; exact g1.2.2 x hx⟩
  refine ⟨hx, ?_, ⟨?_, fun e => ?_⟩, ⟨fun j hj => by rw [e1]; exact okD.mv e3 e2 (g5 j hj), fun j hj => by rw [e1]; exact okD.mv e3 e2 (g5b j hj)⟩, ⟨⟨fun r hr => g6.1 r (by rw [← e1]; exact hr), (g6.mv (h := h) (J := J) (fun a ha _ => hJ a (by omega) (by omega))).2⟩, fun r hr => g7 r (by rw [← e1]; exact hr)⟩, ⟨?_, fun j hj => ?_⟩, hT, ?_, ?_⟩
  · unfold St1
    rw [hE2 0 (by decide) (by decide), hE2 1 (by decide) (by decide), hE2 2 (by decide) (by decide), hE2 3 (by decide) (by decide), hE2 4 (by decide) (by decide), hE2 5 (by decide) (by decide), hE2 6 (by decide) (by decide), hE2 7 (by decide) (by decide), hE2 8 (by decide) (by decide)]
    exact StR.keep g2 (fun a ha => hJ a (by omega) (by omega)) (fun j => by rw [e1]) (Nat.le_of_eq e3.symm) (fun a _ => by rw [e2])
  · rw [hE2 0 (by decide) (by decide), hJ 0 (by decide) (by decide)]; exact g3
  · rw [hE2 0 (by decide) (by decide)] at e
    unfold St7
    rw [hE2 0 (by decide) (by decide), hE2 25 (by decide) (by decide), hE2 26 (by decide) (by decide), hE2 27 (by decide) (by decide), hE2 28 (by decide) (by decide), hE2 29 (by decide) (by decide), hE2 30 (by decide) (by decide), hE2 31 (by decide) (by decide), hE2 32 (by decide) (by decide)]
    exact StR.keep (g4 e) (fun a ha => hJ a (by omega) (by omega)) (fun j => by rw [e1]) (Nat.le_of_eq e3.symm) (fun a _ => by rw [e2])
  · rw [hE2 0 (by decide) (by decide), hJ 32 (by decide) (by decide)]; exact g8
  · rw [hE2 35 (by decide) (by decide), hJ 33 (by decide) (by decide)]; exact g9 j hj
  · rw [hJ 0 (by decide) (by decide)]; exact g10
  · rw [hJ 0 (by decide) (by decide)]; exact g11
theorem tp_of {E : It} (hE : Inv E) {t : Nat} (ht : t < 6) : ∃ l, l ≤ 60 ∧ E 37 t = nI l ∧ (E 36 t < 0 → l = 0) ∧ (E 36 t = -1 ∨ ∃ s, s ≤ 4 ∧ E 36 t = nI s) := by
  rcases hE.2.2.2.2.2.2 t ht with ⟨e, e2⟩ | ⟨s, l, hs, hl, e, e2⟩
  · exact ⟨0, by decide, e2, fun _ => rfl, Or.inl e⟩
  · exact ⟨l, hl, e2, fun z => absurd (by rw [e] at z; exact z) (nI_pos (by omega)), Or.inr ⟨s, hs, e⟩⟩
theorem tp_in {E : It} (hE : Inv E) {t : Nat} (ht : t < 6) {i : Int32} (h : 0 ≤ i ∧ i ≤ E 37 t - 1) : ¬ E 36 t < 0 ∧ ∃ k, k < 60 ∧ i = nI k := by
  obtain ⟨l, hl, e, hz, -⟩ := tp_of hE ht
  rw [e] at h
  obtain ⟨k, hk, ek⟩ := pl_of hl h
  exact ⟨fun z => by rw [hz z] at hk; omega, k, by omega, ek⟩
theorem tp_idx {t : Nat} {a : Int32} (h : a = nI t) (ht : t < 6) : idx a t 6 := ⟨h, ht, by decide⟩
/-- one item is written -/
theorem RY.it {E : It} {L : Nat → Int64} {I : It} {h : Ht} (hY : RY E L I h) {t k : Nat} (ht : t < 6) (hk : k < 60) (v : Int64) : RY E (vp_updL L (60 * t + k) v) I (wL h (37 + t) k v) := by
  refine hY.tp (fun s hs => ⟨(hY.2.2.2.2.2.2.1 s hs).1, (hY.2.2.2.2.2.2.1 s hs).2.1, fun j hj => ?_⟩) (fun _ _ _ => rfl) (fun _ _ _ => rfl) rfl rfl rfl
  show (if 37 + s = 37 + t ∧ j = k then v else hL h (37 + s) j) = vp_updL L (60 * t + k) v (60 * s + j)
  unfold vp_updL
  by_cases e : s = t
  · subst e
    by_cases e2 : j = k
    · subst e2
      rw [if_pos ⟨rfl, rfl⟩, if_pos rfl]
    · rw [if_neg (fun z => e2 z.2), if_neg (by omega)]
      exact (hY.2.2.2.2.2.2.1 s hs).2.2 j hj
  · rw [if_neg (fun z => e (by omega)), if_neg (by omega)]
    exact (hY.2.2.2.2.2.2.1 s hs).2.2 j hj
theorem it_of {E J : It} {s : Int32 × (Nat → Int64)} {v : Int32} {L' : Nat → Int64} {h : Ht} (e : s = (v, L')) (hY : RY E L' J h) : qX (s.1, E) s.2 (hn h) (some (.int v)) J h := ⟨v, rfl, by rw [e], by rw [e]; exact hY, Nat.le_refl _⟩
theorem tp2_of {E' J : It} {s : Int32 × It} {v : Int32} {L2 L' : Nat → Int64} {h h2 : Ht} (e : s = (v, E')) (eL : L2 = L') (en : hn h2 = hn h) (hY : RY E' L' J h2) : qX s L2 (hn h) (some (.int v)) J h2 := ⟨v, rfl, by rw [e], by rw [e, eL]; exact hY, Nat.le_of_eq en⟩
theorem s_nn {s : Int32} (h : ¬ ¬ (-1 ≤ s ∧ s ≤ 4)) (hne : ¬ s = -1) : ¬ s < 0 := by
  have h1 := (Decidable.not_not.mp h).1
  intro h2
  refine hne (Int32.toInt_inj.mp ?_)
  have a1 := Int32.le_iff_toInt_le.mp h1
  have a2 := Int32.lt_iff_toInt_lt.mp h2
  have e1 : (-1 : Int32).toInt = -1 := by decide
  have e0 : (0 : Int32).toInt = 0 := by decide
  omega
theorem s_m1 {s : Int32} (h : s = -1) : s < 0 := by rw [h]; decide
def zeL (L : Nat → Int64) (t : Nat) : Nat → Int64 := fun j => if 60 * t ≤ j ∧ j < 60 * t + 60 then 0 else L j
theorem RY.tape {E : It} {L : Nat → Int64} {I : It} {h h2 : Ht} (hY : RY E L I h) {t : Nat} (ht : t < 6) (s n : Int32) (f1 : ∀ j, j < 60 → hL h2 (37 + t) j = 0) (f3 : ∀ a, a ≠ 37 + t → hL h2 a = hL h a) (f4 : hR h2 = hR h) (f5 : hs h2 = hs h) (f6 : hn h2 = hn h) : RY (upI (upI E 36 t s) 37 t n) (zeL L t) (upI (upI I 34 t s) 35 t n) h2 := by
  refine hY.tp (fun r hr => ?_) (fun a h1 h2 => by rw [upI_off h2, upI_off h1]) (fun a h1 h2 => by rw [upI_off h2, upI_off h1]) f4 f5 f6
  obtain ⟨q1, q2, q3⟩ := hY.2.2.2.2.2.2.1 r hr
  have a34 : upI (upI I 34 t s) 35 t n 34 = upI I 34 t s 34 := upI_off (by decide)
  have e36 : upI (upI E 36 t s) 37 t n 36 = upI E 36 t s 36 := upI_off (by decide)
  have b35 : upI I 34 t s 35 = I 35 := upI_off (by decide)
  have b37 : upI E 36 t s 37 = E 37 := upI_off (by decide)
  by_cases e : r = t
  · subst e
    refine ⟨by rw [a34, e36, up0, up0], by rw [up0, up0], fun j hj => ?_⟩
    unfold zeL
    rw [f1 j hj, if_pos (by omega)]
  · refine ⟨by rw [a34, e36, upn (fun z => e z.2), upn (fun z => e z.2)]; exact q1, by rw [show upI (upI I 34 t s) 35 t n 35 r = upI I 34 t s 35 r from upn (fun z => e z.2), b35, upn (fun z => e z.2), b37]; exact q2, fun j hj => ?_⟩
    unfold zeL
    rw [f3 _ (by omega), if_neg (by omega)]
    exact q3 j hj
theorem jd_ix {e : Int32} {l d : Nat} (h0 : ¬ e < 0) (h1 : e < nI l - nI d) (hl : l ≤ 60) (hd : d ≤ 10) : ∃ q, e = nI q ∧ q + d < 60 := by
  obtain ⟨q, hq, rfl⟩ := nI_of h0
  have h2 := sh_le hl (n := d) (i := q) (by omega) hq (Int32.le_of_lt h1)
  rw [pk_sub (by omega)] at h1
  have := lt_nI hq (by omega) h1
  exact ⟨q, rfl, by omega⟩

set_option maxRecDepth 8000 in
set_option maxHeartbeats 4000000 in
theorem x_read {G : Gt} (hG : Gok G) {I : It} {h : Ht}  {E : It} {L : Nat → Int64} (hE : Inv E) (hY : RY E L I h) {a e : Int32} : Con G (3) 0 0 mX11_read [.ref 0, .int a, .int e] I h (qXL (readF E L a e) E L (hn h)) := by
  refine con_intro (own := RX11) (lo0 := [some (.ref 0), some (.int a), some (.int e)]) hG rfl pl_X11 (Nat.le_of_ble_eq_true rfl) rfl (fun X hX => ?_)
  have hW := hY.wx hE
  have hH := hW.1
  have hc10 := hW.2.1.2
  refine g_iload_1 hX (dk DX11_read 0 rfl) ?_
  refine g_iconst (v := 0) hX (dk DX11_read 1 rfl) (by decide) ?_
  refine g_iconst (v := 5) hX (dk DX11_read 2 rfl) (by decide) ?_
  refine g_c3I hX sX11_read_3 (by decide) (Nat.le_of_ble_eq_true rfl) rcN (by decide) (by decide) (c_X11_isNot hG ) ?_
  refine g_ifb_ne (tgt := 25) hX (dk DX11_read 4 rfl) (by decide) (fun hc1 => ?_) (fun hc1 => ?_)
  · refine g_ldc2_w (v := -9223372036854775808) hX (dk DX11_read 15 rfl) (tg_4 79 rfl rfl) ?_
    refine g_lreturn hX (dk DX11_read 16 rfl) rfl (by decide) (by decide) ?_
    first
    | exact qXL_of (by unfold readF; rw [if_pos hc1]; rfl) hY
    | exact qXL_of (by unfold readF; rw [if_neg hc1, tN_nI (by omega)]; split <;> first | rfl | (rw [if_pos hc2]; rfl)) hY
  · obtain ⟨t, ht5, rfl⟩ := in_of (b := 5) (by decide) (Decidable.not_not.mp hc1)
    have ht : t < 6 := by omega
    have hT := hY.2.2.2.2.2.2.1 t ht
    refine g_iload_2 hX (dk DX11_read 5 rfl) ?_
    refine g_iconst (v := 0) hX (dk DX11_read 6 rfl) (by decide) ?_
    refine g_aload_0 hX (dk DX11_read 7 rfl) ?_
    refine g_getRs (r := 35) hX (dk DX11_read 8 rfl) KX11 fX11_51 (by decide) rfl (CLt hH (q := 0) (by decide)) (CC hH 0 (by decide) rfl) (CR hH 0 10 35 (by decide)) ?_
    refine g_iload_1 hX (dk DX11_read 9 rfl) ?_
    refine v_iaload hX (dk DX11_read 10 rfl) (CLt hH (q := 35) (by decide)) (CS hH 35 (by decide) rfl) (⟨rfl, ht, by decide⟩) (hT.2.1) ?_
    refine g_iconst (v := 1) hX (dk DX11_read 11 rfl) (by decide) ?_
    refine g_isub hX (dk DX11_read 12 rfl) ?_
    refine g_c3I hX sX11_read_19 (by decide) (Nat.le_of_ble_eq_true rfl) rcN (by decide) (by decide) (c_X11_isNot hG ) ?_
    refine g_ifb_eq (tgt := 29) hX (dk DX11_read 14 rfl) (by decide) (fun hc2 => ?_) (fun hc2 => ?_)
    · obtain ⟨hs0, k, hk, ek⟩ := tp_in hE ht (Decidable.not_not.mp hc2)
      refine g_aload_0 hX (dk DX11_read 17 rfl) ?_
      refine g_getRs (r := 36) hX (dk DX11_read 18 rfl) KX11 fX11_56 (by decide) rfl (CLt hH (q := 0) (by decide)) (CC hH 0 (by decide) rfl) (CR hH 0 11 36 (by decide)) ?_
      refine g_iload_1 hX (dk DX11_read 19 rfl) ?_
      refine i_aaload (i0 := 7) hX (dk DX11_read 20 rfl) (CLt hH (q := 36) (by decide)) (CS hH 36 (by decide) rfl) (by decide) rfl rfl (⟨rfl, ht, by decide⟩) (IT_r hH ht) ?_
      refine g_iload_2 hX (dk DX11_read 21 rfl) ?_
      refine v_laload hX (dk DX11_read 22 rfl) (IT_lt hH ht) (IT_sh hH ht) (⟨ek, hk, by decide⟩) (hT.2.2 k hk) ?_
      refine g_lreturn hX (dk DX11_read 23 rfl) rfl (by decide) (by decide) ?_
      exact qXL_of (by unfold readF; rw [if_neg hc1, tN_nI (by omega), if_neg hs0, if_neg hc2, ek, tN_nI (by omega)]) hY
    · refine g_ldc2_w (v := -9223372036854775808) hX (dk DX11_read 15 rfl) (tg_4 79 rfl rfl) ?_
      refine g_lreturn hX (dk DX11_read 16 rfl) rfl (by decide) (by decide) ?_
      first
      | exact qXL_of (by unfold readF; rw [if_pos hc1]; rfl) hY
      | exact qXL_of (by unfold readF; rw [if_neg hc1, tN_nI (by omega)]; split <;> first | rfl | (rw [if_pos hc2]; rfl)) hY

set_option maxRecDepth 8000 in
set_option maxHeartbeats 4000000 in
theorem c_X11_cut {G : Gt} (hG : Gok G) {I : It} {h : Ht}  {s : Nat} {v : Int64} (hs : s ≤ 4) : Con G (1) 0 0 mX11_cut [.long v, .int (nI s)] I h (rL (narF (nI s) v) I h) := by
  refine con_intro (own := RX11) (lo0 := [some (.long v), none, some (.int (nI s))]) hG rfl pl_X11 (Nat.le_of_ble_eq_true rfl) rfl (fun X hX => ?_)
  refine g_iload_2 hX (dk DX11_cut 0 rfl) ?_
  refine g_tswitch (dt := 48) hX [(0, 32), (1, 37), (2, 42), (3, 46)] (dk DX11_cut 1 rfl) (by decide +kernel) ?_
  refine ⟨fun hc1 => ?_, fun hc1n => ?_⟩
  · show GG _ _ _ _ _ _ _ _ _ _ _ _ _
    refine g_lload_0 hX (dk DX11_cut 2 rfl) ?_
    refine g_l2i hX (dk DX11_cut 3 rfl) ?_
    refine g_i2b hX (dk DX11_cut 4 rfl) ?_
    refine g_i2l hX (dk DX11_cut 5 rfl) ?_
    refine g_lreturn hX (dk DX11_cut 6 rfl) rfl (by decide) (by decide) ?_
    exact rL_of (by rw [hc1]; rfl) rfl rfl
  refine ⟨fun hc2 => ?_, fun hc2n => ?_⟩
  · show GG _ _ _ _ _ _ _ _ _ _ _ _ _
    refine g_lload_0 hX (dk DX11_cut 7 rfl) ?_
    refine g_l2i hX (dk DX11_cut 8 rfl) ?_
    refine g_i2s hX (dk DX11_cut 9 rfl) ?_
    refine g_i2l hX (dk DX11_cut 10 rfl) ?_
    refine g_lreturn hX (dk DX11_cut 11 rfl) rfl (by decide) (by decide) ?_
    exact rL_of (by rw [hc2]; rfl) rfl rfl
  refine ⟨fun hc3 => ?_, fun hc3n => ?_⟩
  · show GG _ _ _ _ _ _ _ _ _ _ _ _ _
    refine g_lload_0 hX (dk DX11_cut 12 rfl) ?_
    refine g_l2i hX (dk DX11_cut 13 rfl) ?_
    refine g_i2l hX (dk DX11_cut 14 rfl) ?_
    refine g_lreturn hX (dk DX11_cut 15 rfl) rfl (by decide) (by decide) ?_
    exact rL_of (by rw [hc3]; rfl) rfl rfl
  refine ⟨fun hc4 => ?_, fun hc4n => ?_⟩
  · show GG _ _ _ _ _ _ _ _ _ _ _ _ _
    refine g_lload_0 hX (dk DX11_cut 16 rfl) ?_
    refine g_lreturn hX (dk DX11_cut 17 rfl) rfl (by decide) (by decide) ?_
    exact rL_of (by rw [hc4]; rfl) rfl rfl
  show GG _ _ _ _ _ _ _ _ _ _ _ _ _
  refine g_lload_0 hX (dk DX11_cut 18 rfl) ?_
  refine g_lconst (v := 0) hX (dk DX11_cut 19 rfl) (by decide) ?_
  refine g_lcmp hX (dk DX11_cut 20 rfl) ?_
  refine g_if_eq (tgt := 58) hX (dk DX11_cut 21 rfl) (by decide) (fun hc6 => ?_) (fun hc6 => ?_)
  · refine g_lconst (v := 0) hX (dk DX11_cut 24 rfl) (by decide) ?_
    refine g_lreturn hX (dk DX11_cut 25 rfl) rfl (by decide) (by decide) ?_
    have h4 : nI s = 4 := by
      rcases (by omega : s = 0 ∨ s = 1 ∨ s = 2 ∨ s = 3 ∨ s = 4) with rfl | rfl | rfl | rfl | rfl
      · exact absurd rfl hc1n
      · exact absurd rfl hc2n
      · exact absurd rfl hc3n
      · exact absurd rfl hc4n
      · rfl
    rw [h4]
    first
    | exact rL_of (by show _ = if v = 0 then (0 : Int64) else 1; rw [if_pos ((lg_eq v 0).mp (by assumption))]) rfl rfl
    | exact rL_of (by show _ = if v = 0 then (0 : Int64) else 1; rw [if_neg (fun z => absurd ((lg_eq v 0).mpr z) (by assumption))]) rfl rfl
  · refine g_lconst (v := 1) hX (dk DX11_cut 22 rfl) (by decide) ?_
    refine g_goto (tgt := 59) hX (dk DX11_cut 23 rfl) (by decide) ?_
    refine g_lreturn hX (dk DX11_cut 25 rfl) rfl (by decide) (by decide) ?_
    have h4 : nI s = 4 := by
      rcases (by omega : s = 0 ∨ s = 1 ∨ s = 2 ∨ s = 3 ∨ s = 4) with rfl | rfl | rfl | rfl | rfl
      · exact absurd rfl hc1n
      · exact absurd rfl hc2n
      · exact absurd rfl hc3n
      · exact absurd rfl hc4n
      · rfl
    rw [h4]
    first
    | exact rL_of (by show _ = if v = 0 then (0 : Int64) else 1; rw [if_pos ((lg_eq v 0).mp (by assumption))]) rfl rfl
    | exact rL_of (by show _ = if v = 0 then (0 : Int64) else 1; rw [if_neg (fun z => absurd ((lg_eq v 0).mpr z) (by assumption))]) rfl rfl

set_option maxRecDepth 8000 in
set_option maxHeartbeats 4000000 in
theorem x_item {G : Gt} (hG : Gok G) {I : It} {h : Ht}  {E : It} {L : Nat → Int64} (hE : Inv E) (hY : RY E L I h) {a e : Int32} {v : Int64} : Con G (3) 0 0 mX11_item [.ref 0, .int a, .int e, .long v] I h (qX ((itemS E L a e v).1, E) (itemS E L a e v).2 (hn h)) := by
  refine con_intro (own := RX11) (lo0 := [some (.ref 0), some (.int a), some (.int e), some (.long v), none]) hG rfl pl_X11 (Nat.le_of_ble_eq_true rfl) rfl (fun X hX => ?_)
  have hW := hY.wx hE
  have hH := hW.1
  have hc10 := hW.2.1.2
  refine g_iload_1 hX (dk DX11_item 0 rfl) ?_
  refine g_iconst (v := 0) hX (dk DX11_item 1 rfl) (by decide) ?_
  refine g_iconst (v := 5) hX (dk DX11_item 2 rfl) (by decide) ?_
  refine g_c3I hX sX11_item_3 (by decide) (Nat.le_of_ble_eq_true rfl) rcN (by decide) (by decide) (c_X11_isNot hG ) ?_
  refine g_ifb_eq (tgt := 11) hX (dk DX11_item 4 rfl) (by decide) (fun hc1 => ?_) (fun hc1 => ?_)
  · obtain ⟨t, ht5, rfl⟩ := in_of (b := 5) (by decide) (Decidable.not_not.mp hc1)
    have ht : t < 6 := by omega
    have hT := hY.2.2.2.2.2.2.1 t ht
    refine g_aload_0 hX (dk DX11_item 7 rfl) ?_
    refine g_getRs (r := 34) hX (dk DX11_item 8 rfl) KX11 fX11_47 (by decide) rfl (CLt hH (q := 0) (by decide)) (CC hH 0 (by decide) rfl) (CR hH 0 9 34 (by decide)) ?_
    refine g_iload_1 hX (dk DX11_item 9 rfl) ?_
    refine v_iaload hX (dk DX11_item 10 rfl) (CLt hH (q := 34) (by decide)) (CS hH 34 (by decide) rfl) (⟨rfl, ht, by decide⟩) (hT.1) ?_
    refine g_iconst (v := -1) hX (dk DX11_item 11 rfl) (by decide) ?_
    refine g_icmp_ne (tgt := 24) hX (dk DX11_item 12 rfl) (by decide) (fun hc2 => ?_) (fun hc2 => ?_)
    · have hsne := hc2
      obtain ⟨l, hl, el, hz, hs⟩ := tp_of hE ht
      have hs4 : ∃ s, s ≤ 4 ∧ E 36 t = nI s := hs.resolve_left hsne
      obtain ⟨s, hs4, es⟩ := hs4
      refine g_iload_2 hX (dk DX11_item 15 rfl) ?_
      refine g_iconst (v := 0) hX (dk DX11_item 16 rfl) (by decide) ?_
      refine g_aload_0 hX (dk DX11_item 17 rfl) ?_
      refine g_getRs (r := 35) hX (dk DX11_item 18 rfl) KX11 fX11_51 (by decide) rfl (CLt hH (q := 0) (by decide)) (CC hH 0 (by decide) rfl) (CR hH 0 10 35 (by decide)) ?_
      refine g_iload_1 hX (dk DX11_item 19 rfl) ?_
      refine v_iaload hX (dk DX11_item 20 rfl) (CLt hH (q := 35) (by decide)) (CS hH 35 (by decide) rfl) (⟨rfl, ht, by decide⟩) (hT.2.1) ?_
      refine g_iconst (v := 1) hX (dk DX11_item 21 rfl) (by decide) ?_
      refine g_isub hX (dk DX11_item 22 rfl) ?_
      refine g_c3I hX sX11_item_34 (by decide) (Nat.le_of_ble_eq_true rfl) rcN (by decide) (by decide) (c_X11_isNot hG ) ?_
      refine g_ifb_eq (tgt := 43) hX (dk DX11_item 24 rfl) (by decide) (fun hc3 => ?_) (fun hc3 => ?_)
      · obtain ⟨hs0, k, hk, ek⟩ := tp_in hE ht (Decidable.not_not.mp hc3)
        refine g_aload_0 hX (dk DX11_item 27 rfl) ?_
        refine g_getRs (r := 36) hX (dk DX11_item 28 rfl) KX11 fX11_56 (by decide) rfl (CLt hH (q := 0) (by decide)) (CC hH 0 (by decide) rfl) (CR hH 0 11 36 (by decide)) ?_
        refine g_iload_1 hX (dk DX11_item 29 rfl) ?_
        refine i_aaload (i0 := 7) hX (dk DX11_item 30 rfl) (CLt hH (q := 36) (by decide)) (CS hH 36 (by decide) rfl) (by decide) rfl rfl (⟨rfl, ht, by decide⟩) (IT_r hH ht) ?_
        refine g_iload_2 hX (dk DX11_item 31 rfl) ?_
        refine g_lload_3 hX (dk DX11_item 32 rfl) ?_
        refine g_aload_0 hX (dk DX11_item 33 rfl) ?_
        refine g_getRs (r := 34) hX (dk DX11_item 34 rfl) KX11 fX11_47 (by decide) rfl (CLt hH (q := 0) (by decide)) (CC hH 0 (by decide) rfl) (CR hH 0 9 34 (by decide)) ?_
        refine g_iload_1 hX (dk DX11_item 35 rfl) ?_
        refine v_iaload hX (dk DX11_item 36 rfl) (CLt hH (q := 34) (by decide)) (CS hH 34 (by decide) rfl) (⟨rfl, ht, by decide⟩) (hT.1.trans es) ?_
        refine g_c2L hX sX11_item_57 (by decide) (Nat.le_of_ble_eq_true rfl) rcN (by decide) (by decide) (c_X11_cut hG hs4) ?_
        refine i_lastore hX (dk DX11_item 38 rfl) (IT_lt hH ht) (IT_sh hH ht) (⟨ek, hk, by decide⟩) ?_
        refine g_iconst (v := 1) hX (dk DX11_item 39 rfl) (by decide) ?_
        refine g_ireturn hX (dk DX11_item 40 rfl) rfl (rfl) (by decide) (by decide) ?_
        exact it_of (by unfold itemS; rw [if_neg hc1, tN_nI (by omega), if_neg (not_not_intro (show 0 ≤ E 36 t from by rw [es]; exact nI_pos' (by omega))), if_neg (show ¬ ¬ (0 ≤ e ∧ e ≤ E 37 t - 1) by assumption), ek, tN_nI (by omega), es]) (hY.it ht hk _)
      · refine g_bipush (v := -13) hX (dk DX11_item 25 rfl) (by decide) ?_
        refine g_ireturn hX (dk DX11_item 26 rfl) rfl (rfl) (by decide) (by decide) ?_
        exact it_of (by unfold itemS; rw [if_neg hc1, tN_nI (by omega), if_neg (not_not_intro (show 0 ≤ E 36 t from by rw [es]; exact nI_pos' (by omega))), if_pos (by assumption)]) hY
    · refine g_bipush (v := -11) hX (dk DX11_item 13 rfl) (by decide) ?_
      refine g_ireturn hX (dk DX11_item 14 rfl) rfl (rfl) (by decide) (by decide) ?_
      exact it_of (by unfold itemS; rw [if_neg hc1, tN_nI (by omega), if_pos (show ¬ 0 ≤ E 36 t from by rw [show E 36 t = -1 by first | assumption | exact Decidable.not_not.mp (by assumption)]; decide)]) hY
  · refine g_iconst (v := -1) hX (dk DX11_item 5 rfl) (by decide) ?_
    refine g_ireturn hX (dk DX11_item 6 rfl) rfl (rfl) (by decide) (by decide) ?_
    exact it_of (by unfold itemS; rw [if_pos hc1]) hY

