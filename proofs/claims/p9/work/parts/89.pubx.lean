/-! a post is read: the relation stands -/
theorem RY.kp {E : It} {L : Nat → Int64} {I J : It} {h : Ht} {p : Nat} (hY : RY E L I h) (hp : p < 6) (hK : KP p I J) : RY E L J h := by
  refine hY.kI (fun _ _ => by rw [hK.1 1 (by omega)]) (fun _ _ => by rw [hK.1 0 (by omega)]) (fun a ha => hK.1 a (by omega)) (fun a ha _ => hK.1 a (by omega)) ⟨hY.2.2.2.2.1.1.1, fun q hq => ?_⟩
  by_cases e : q = p
  · subst e
    exact ⟨hK.2.2.1, hK.2.2.2⟩
  · refine ⟨?_, fun k hk => ?_⟩
    · rw [hK.1 _ (by omega)]; exact (hY.2.2.2.2.1.1.2 q hq).1
    · rw [hK.1 _ (by omega)]; exact (hY.2.2.2.2.1.1.2 q hq).2 k hk
theorem wR_n {h : Ht} {q j a b : Nat} {r : Option Nat} (e : ¬ (a = q ∧ b = j)) : hR (wR h q j r) a b = hR h a b := by
  show (if a = q ∧ b = j then r else hR h a b) = _
  rw [if_neg e]
theorem wR_s {h : Ht} {q j : Nat} {r : Option Nat} : hR (wR h q j r) q j = r := by
  show (if q = q ∧ j = j then r else hR h q j) = _
  rw [if_pos ⟨rfl, rfl⟩]
theorem RY_ps {E : It} {L : Nat → Int64} {I : It} {h : Ht} {p : Nat} (hY : RY E L I h) (hp : p < 6) : RY E L I (wR h 1 13 (some (43 + 5 * p))) := by
  obtain ⟨g1, g2, ⟨g3, g4⟩, ⟨g5, g5b⟩, ⟨g6, g7⟩, g8, g9, g10, g11⟩ := hY
  refine ⟨g1.wr (by decide), StR.keep g2 (fun _ _ => rfl) (fun j => wR_n (by omega)) (Nat.le_refl _) (fun _ _ => rfl), ⟨g3, fun e => StR.keep (g4 e) (fun _ _ => rfl) (fun j => wR_n (by omega)) (Nat.le_refl _) (fun _ _ => rfl)⟩, ⟨fun j hj => ?_, fun j hj => ?_⟩, ⟨⟨fun r hr => ?_, g6.2⟩, fun r hr => ?_⟩, g8, g9, g10, g11⟩
  · rw [wR_n (by omega)]; exact okD.mv rfl rfl (g5 j hj)
  · rw [wR_n (by omega)]; exact okD.mv rfl rfl (g5b j hj)
  · rw [wR_s] at hr
    exact ⟨p, hp, (Option.some.inj hr).symm⟩
  · rw [wR_n (by omega)] at hr
    exact g7 r hr
theorem PSr {h : Ht} (hH : HX h) {p : Nat} (hp : p < 6) : hR h 30 p = some (43 + 5 * p) := by
  rcases (by omega : p = 0 ∨ p = 1 ∨ p = 2 ∨ p = 3 ∨ p = 4 ∨ p = 5) with rfl | rfl | rfl | rfl | rfl | rfl <;> exact CR hH 30 _ _ (by decide)
theorem w_X3_readFrom {G : Gt} (hG : Gok G) {I : It} {h : Ht} (hH : HX h) {p : Nat} (hp : p < 6) {s : Int32} (hPO : PO I h) : Con G 15 0 0 mX3_readFrom [.ref (43 + 5 * p), .int s] I h (qI fun _ I2 h2 => KP p I I2 ∧ h2 = h) :=
  (c_X3_readFrom hG hH hp (s := s) hPO).imp fun r I' h' hq => by
    obtain ⟨e1, e2, e3⟩ := hq
    exact ⟨_, e1, by rw [e2]; exact KP.rf 10 (KP.rfZ (fun _ _ => rfl) (fun k hk => (hPO.2 p hp).2 k hk)), e3⟩
theorem p_w {E : It} {L : Nat → Int64} {I : It} {h : Ht} {p : Nat} (hY : RY E L I h) (e : I 0 5 = nI p) (hp : p < 6) : RY E L (upI I 0 5 (I 0 5 + 1)) h := by
  rw [e, nI_1]
  exact RY.u05 hY (by omega)
theorem ix4 {w : Int32} (h0 : 0 ≤ w) (h : ¬ ¬ (-1 ≤ w ∧ w ≤ 3)) : idx w (tN w) 4 := by
  obtain ⟨n, hn, rfl⟩ := in_of (b := 3) (by decide) ⟨h0, (Decidable.not_not.mp h).2⟩
  exact ⟨by rw [tN_nI (by omega)], by rw [tN_nI (by omega)]; omega, by decide⟩
theorem cpI_29 (J : It) {a : Nat} (ha : a ≠ 29) : cpI J 28 29 0 0 4 a = J a := by
  funext b
  unfold cpI
  simp [ha]
theorem ev_e {c : Nat} {x : Int32} (e : x = nI c) (hc : c ≤ 8) : bitI x - 1 = nI (2 ^ c - 1) := by
  rw [e, bit_nI c (by omega), show (1 : Int32) = nI 1 from rfl, pk_sub (Nat.one_le_two_pow)]
theorem p256 {c : Nat} (hc : c ≤ 8) : 1 ≤ 2 ^ c ∧ 2 ^ c ≤ 256 := ⟨Nat.one_le_two_pow, Nat.pow_le_pow_right (n := 2) (by decide) hc⟩
theorem s_go {c s : Nat} (hc : c ≤ 8) (hs : s ≤ 256) (h : ¬ nI (2 ^ c - 1) < nI s) : s < 2 ^ c := by
  have h2 := p256 hc
  rcases Nat.lt_or_ge s (2 ^ c) with z | z
  · exact z
  · exact absurd (nI_lt (by omega) (by omega)) h

set_option maxRecDepth 8000 in
set_option maxHeartbeats 4000000 in
theorem x_post {G : Gt} (hG : Gok G) {I : It} {h : Ht}  {E : It} {L : Nat → Int64} (hE : Inv E) (hY : RY E L I h)  : Con G (16) 0 0 mX11_post [.ref 0] I h (qW E L (hn h)) := by
  refine con_intro (own := RX11) (lo0 := [some (.ref 0), none, none]) hG rfl pl_X11 (Nat.le_of_ble_eq_true rfl) rfl (fun X hX => ?_)
  have hW := hY.wx hE
  have hH := hW.1
  have hc10 := hW.2.1.2
  obtain ⟨p, hp6, ep⟩ := hY.2.2.2.2.2.2.2.1
  refine g_aload_0 hX (dk DX11_post 0 rfl) ?_
  refine g_getIv hX (dk DX11_post 1 rfl) KX11 fX11_145 (by decide) rfl (CLt hH (q := 0) (by decide)) (CC hH 0 (by decide) rfl) (ep) ?_
  refine g_aload_0 hX (dk DX11_post 2 rfl) ?_
  refine g_getRs (r := 30) hX (dk DX11_post 3 rfl) KX11 fX11_32 (by decide) rfl (CLt hH (q := 0) (by decide)) (CC hH 0 (by decide) rfl) (CR hH 0 4 30 (by decide)) ?_
  refine g_alen (v := 6) hX (dk DX11_post 4 rfl) (CLt hH (q := 30) (by decide)) (CS hH 30 (by decide) rfl) (by decide) (i0 := 5) rfl (by decide) ?_
  refine g_icmp_lt (tgt := 15) hX (dk DX11_post 5 rfl) (by decide) (fun hc1 => ?_) (fun hc1 => ?_)
  · have hp : p < 6 := lt_nI (b := 6) (by omega) (by decide) hc1
    refine g_aload_0 hX (dk DX11_post 8 rfl) ?_
    refine g_getRs (r := 30) hX (dk DX11_post 9 rfl) KX11 fX11_32 (by decide) rfl (CLt hH (q := 0) (by decide)) (CC hH 0 (by decide) rfl) (CR hH 0 4 30 (by decide)) ?_
    refine g_aload_0 hX (dk DX11_post 10 rfl) ?_
    refine g_getIv hX (dk DX11_post 11 rfl) KX11 fX11_145 (by decide) rfl (CLt hH (q := 0) (by decide)) (CC hH 0 (by decide) rfl) (ep) ?_
    refine i_aaload (i0 := 5) hX (dk DX11_post 12 rfl) (CLt hH (q := 30) (by decide)) (CS hH 30 (by decide) rfl) (by decide) rfl rfl (⟨rfl, hp, by decide⟩) (PSr hH hp) ?_
    refine g_astore_1 hX (dk DX11_post 13 rfl) (by decide) rfl ?_
    refine g_aload_1 hX (dk DX11_post 14 rfl) ?_
    refine g_aload_0 hX (dk DX11_post 15 rfl) ?_
    refine g_getI hX (dk DX11_post 16 rfl) KX11 fX11_142 (by decide) rfl (CLt hH (q := 0) (by decide)) (CC hH 0 (by decide) rfl) ?_
    refine g_c2q hX sX11_post_30 (by decide) (Nat.le_of_ble_eq_true rfl) (rc0 rfl (PL0 hH hp) (PSh hH hp)) (by decide) (by decide) (w_X3_readFrom hG hH hp hY.2.2.2.2.1.1) ?_
    rintro x J h9 ⟨hK, e9⟩
    subst e9
    have hY2 := hY.kp hp hK
    refine g_istore_2 hX (dk DX11_post 18 rfl) (by decide) rfl ?_
    refine g_aload_0 hX (dk DX11_post 19 rfl) ?_
    refine g_iconst (v := 0) hX (dk DX11_post 20 rfl) (by decide) ?_
    refine g_putI hX (dk DX11_post 21 rfl) KX11 fX11_142 (by decide) rfl (CLt hH (q := 0) (by decide)) (CC hH 0 (by decide) rfl) (Or.inl rfl) (rfl) (rfl) ?_
    refine g_iload_2 hX (dk DX11_post 22 rfl) ?_
    refine g_if_lt (tgt := 48) hX (dk DX11_post 23 rfl) (by decide) (fun hc2 => ?_) (fun hc2 => ?_)
    · refine g_aload_0 hX (dk DX11_post 28 rfl) ?_
      refine g_getRs (r := 1) hX (dk DX11_post 29 rfl) KX11 fX11_12 (by decide) rfl (CLt hH (q := 0) (by decide)) (CC hH 0 (by decide) rfl) (CR hH 0 0 1 (by decide)) ?_
      refine g_aload_1 hX (dk DX11_post 30 rfl) ?_
      refine g_putR (r := some (43 + 5 * p)) hX (dk DX11_post 31 rfl) KX5 fX11_152 (by decide) rfl (CLt hH (q := 1) (by decide)) (CC hH 1 (by decide) rfl) (Or.inl rfl) rfl (rfl) (rfl) ?_
      refine g_aload_0 hX (dk DX11_post 32 rfl) ?_
      refine g_dup hX (dk DX11_post 33 rfl) rfl ?_
      refine g_getI hX (dk DX11_post 34 rfl) KX11 fX11_145 (by decide) rfl (CLt hH (q := 0) (by decide)) (CC hH 0 (by decide) rfl) ?_
      refine g_iconst (v := 1) hX (dk DX11_post 35 rfl) (by decide) ?_
      refine g_iadd hX (dk DX11_post 36 rfl) ?_
      refine g_putI hX (dk DX11_post 37 rfl) KX11 fX11_145 (by decide) rfl (CLt hH (q := 0) (by decide)) (CC hH 0 (by decide) rfl) (Or.inl rfl) (rfl) (rfl) ?_
      refine g_aload_0 hX (dk DX11_post 38 rfl) ?_
      refine g_getI hX (dk DX11_post 39 rfl) KX11 fX11_145 (by decide) rfl (CLt hH (q := 0) (by decide)) (CC hH 0 (by decide) rfl) ?_
      refine g_iconst (v := 1) hX (dk DX11_post 40 rfl) (by decide) ?_
      refine g_isub hX (dk DX11_post 41 rfl) ?_
      refine g_ireturn hX (dk DX11_post 42 rfl) rfl (rfl) (by decide) (by decide) ?_
      exact qW_of (RY_ps (p_w (RY.u07 (s := 0) hY2 (by decide)) (e := (upn (by decide)).trans ((congrFun (hK.1 0 (by omega)) 5).trans ep)) hp) hp)
    · refine g_bipush (v := -10) hX (dk DX11_post 24 rfl) (by decide) ?_
      refine g_iload_2 hX (dk DX11_post 25 rfl) ?_
      refine g_isub hX (dk DX11_post 26 rfl) ?_
      refine g_ireturn hX (dk DX11_post 27 rfl) rfl (rfl) (by decide) (by decide) ?_
      exact qW_of (RY.u07 (s := 0) hY2 (by decide))
  · refine g_bipush (v := -4) hX (dk DX11_post 6 rfl) (by decide) ?_
    refine g_ireturn hX (dk DX11_post 7 rfl) rfl (rfl) (by decide) (by decide) ?_
    exact qW_of hY

