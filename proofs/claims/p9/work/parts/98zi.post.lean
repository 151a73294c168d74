theorem e_readFrom {G : Gt} (hG : Gok G) {I : It} {h : Ht} (hH : HX h) {p : Nat} (hp : p < 6) {n : Nat} (hn : n ≤ 100) {X : Nat → Int32} (hX : ∀ j, j < n → I 31 j = X j) (hPO : PO I h) : Con G 15 0 0 mX3_readFrom [.ref (43 + 5 * p), .int (nI n)] I h (qI fun v J h2 => h2 = h ∧ KP p I J ∧
    ((gtA X n 10 0 []).1 = true → v = -1 ∧ J (43 + 5 * p) 2 = nI (gtA X n 10 0 []).2.2.length ∧ CTc J p (gtA X n 10 0 []).2.2 0 0 ∧ J (43 + 5 * p) 0 = lstL 2 (gtA X n 10 0 []).2.2 7 ∧ J (43 + 5 * p) 1 = lstL 3 (gtA X n 10 0 []).2.2 1) ∧
    (¬ (gtA X n 10 0 []).1 = true → v = nI (gtA X n 10 0 []).2.1)) :=
  (c_X3_readFrom hG hH hp (s := nI n) hPO).imp fun r I' h' hq => by
    obtain ⟨e1, e2, e3⟩ := hq
    have hK : KP p I I' := by rw [e2]; exact KP.rf 10 (KP.rfZ (fun _ _ => rfl) (fun k hk => (hPO.2 p hp).2 k hk))
    have q := rd_sp hp hn hX
    generalize rfW p (nI n) I = W at e1 e2 q
    subst e2
    exact ⟨_, e1, e3, hK, q⟩
theorem po_6 {E : It} (hE : Inv E) : E 0 15 = nI (nP E) ∧ nP E ≤ 6 := hE.2.2.1
theorem po_t {E : It} (hE : Inv E) : ∃ n, n ≤ 100 ∧ E 0 17 = nI n ∧ fedN E = n := by
  obtain ⟨f, hf, e, -⟩ := hE.2.2.2.2.1
  exact ⟨f, hf, e, by unfold fedN; rw [e, tN_nI (by omega)]⟩
theorem gt_le {X : Nat → Int32} {n : Nat} (h : (gtA X n 10 0 []).1 = true) : (gtA X n 10 0 []).2.2.length ≤ 10 := (gt_ok 10 0 [] rfl (fun _ z => absurd z List.not_mem_nil) h).2.2
def qPZ (E : It) (L : Nat → Int64) (N : Nat) : Pt3 := qI fun x I' h' => (∀ E2 v, PoS E E2 v → x = v ∧ RZ E2 L I' h') ∧ hn h' ≤ N
set_option maxRecDepth 8000 in
set_option maxHeartbeats 4000000 in
theorem zx_post {G : Gt} (hG : Gok G) {I : It} {h : Ht}  {E : It} {L : Nat → Int64} (hE : Inv E) (hZ : RZ E L I h)  : Con G (16) 0 0 mX11_post [.ref 0] I h (qPZ E L (hn h)) := by
  refine con_intro (own := RX11) (lo0 := [some (.ref 0), none, none]) hG rfl pl_X11 (Nat.le_of_ble_eq_true rfl) rfl (fun X hX => ?_)
  have hY := hZ.1
  have hW := hY.wx hE
  have hH := hW.1
  have hc10 := hW.2.1.2
  have hcE := (inv_cnt hE).2
  obtain ⟨e15, hp6⟩ := po_6 hE
  obtain ⟨n, hn100, e17, hfn⟩ := po_t hE
  obtain ⟨p, hpe⟩ : ∃ p, nP E = p := ⟨_, rfl⟩
  rw [hpe] at e15 hp6
  have ep : I 0 5 = nI p := hZ.2.2.2.2.1.1.trans e15
  have esg : I 0 7 = nI n := hZ.2.2.2.2.2.1.trans e17
  have hTX : ∀ j, j < n → I 31 j = E 9 j := fun j hj => hZ.2.2.2.2.2.2 j (by rw [hfn]; exact hj)
  refine g_aload_0 hX (dk DX11_post 0 rfl) ?_
  refine g_getIv hX (dk DX11_post 1 rfl) KX11 fX11_145 (by decide) rfl (CLt hH (q := 0) (by decide)) (CC hH 0 (by decide) rfl) (ep) ?_
  refine g_aload_0 hX (dk DX11_post 2 rfl) ?_
  refine g_getRs (r := 30) hX (dk DX11_post 3 rfl) KX11 fX11_32 (by decide) rfl (CLt hH (q := 0) (by decide)) (CC hH 0 (by decide) rfl) (CR hH 0 4 30 (by decide)) ?_
  refine g_alen (v := 6) hX (dk DX11_post 4 rfl) (CLt hH (q := 30) (by decide)) (CS hH 30 (by decide) rfl) (by decide) (i0 := 5) rfl (by decide) ?_
  refine g_icmp_lt (tgt := 15) hX (dk DX11_post 5 rfl) (by decide) (fun hc1 => ?_) (fun hc1 => ?_)
  · have hp : p < 6 := lt_nI (b := 6) (by omega) (by decide) hc1
    refine g_aload_0 hX (dk DX11_post 8 rfl) ?_
    refine g_getRs (r := 30) hX (dk DX11_post 9 rfl) KX11 fX11_32 (by decide) rfl (CLt hH (q := 0) (by decide)) (CC hH 0 (by decide) rfl) (CR hH 0 4 30 (by decide)) ?_
    refine g_aload_0 hX (dk DX11_post 10 rfl) ?_
    refine g_getIv hX (dk DX11_post 11 rfl) KX11 fX11_145 (by decide) rfl (CLt hH (q := 0) (by decide)) (CC hH 0 (by decide) rfl) (ep) ?_
    refine i_aaload (i0 := 5) hX (dk DX11_post 12 rfl) (CLt hH (q := 30) (by decide)) (CS hH 30 (by decide) rfl) (by decide) rfl rfl (⟨rfl, hp, by decide⟩) (PSr hH hp) ?_
    refine g_astore_1 hX (dk DX11_post 13 rfl) (by decide) rfl ?_
    refine g_aload_1 hX (dk DX11_post 14 rfl) ?_
    refine g_aload_0 hX (dk DX11_post 15 rfl) ?_
    refine g_getIv hX (dk DX11_post 16 rfl) KX11 fX11_142 (by decide) rfl (CLt hH (q := 0) (by decide)) (CC hH 0 (by decide) rfl) (esg) ?_
    refine g_c2q hX sX11_post_30 (by decide) (Nat.le_of_ble_eq_true rfl) (rc0 rfl (PL0 hH hp) (PSh hH hp)) (by decide) (by decide) (e_readFrom hG hH hp hn100 hTX hY.2.2.2.2.1.1) ?_
    rintro x J h9 ⟨e9, hK, hT1, hT0⟩
    subst e9
    have hY2 := hY.kp hp hK
    have hKf : ∀ a, (a < 43 + 5 * p ∨ 47 + 5 * p < a) → J a = I a := hK.1
    have ePo : poR E = gtA (E 9) n 10 0 [] := by unfold poR; rw [hfn]
    refine g_istore_2 hX (dk DX11_post 18 rfl) (by decide) rfl ?_
    refine g_aload_0 hX (dk DX11_post 19 rfl) ?_
    refine g_iconst (v := 0) hX (dk DX11_post 20 rfl) (by decide) ?_
    refine g_putI hX (dk DX11_post 21 rfl) KX11 fX11_142 (by decide) rfl (CLt hH (q := 0) (by decide)) (CC hH 0 (by decide) rfl) (Or.inl rfl) (rfl) (rfl) ?_
    refine g_iload_2 hX (dk DX11_post 22 rfl) ?_
    refine g_if_lt (tgt := 48) hX (dk DX11_post 23 rfl) (by decide) (fun hc2 => ?_) (fun hc2 => ?_)
    · have hlt := hc2
      refine g_aload_0 hX (dk DX11_post 28 rfl) ?_
      refine g_getRs (r := 1) hX (dk DX11_post 29 rfl) KX11 fX11_12 (by decide) rfl (CLt hH (q := 0) (by decide)) (CC hH 0 (by decide) rfl) (CR hH 0 0 1 (by decide)) ?_
      refine g_aload_1 hX (dk DX11_post 30 rfl) ?_
      refine g_putR (r := some (43 + 5 * p)) hX (dk DX11_post 31 rfl) KX5 fX11_152 (by decide) rfl (CLt hH (q := 1) (by decide)) (CC hH 1 (by decide) rfl) (Or.inl rfl) rfl (rfl) (rfl) ?_
      refine g_aload_0 hX (dk DX11_post 32 rfl) ?_
      refine g_dup hX (dk DX11_post 33 rfl) rfl ?_
      refine g_getIv hX (dk DX11_post 34 rfl) KX11 fX11_145 (by decide) rfl (CLt hH (q := 0) (by decide)) (CC hH 0 (by decide) rfl) ((upn (by decide)).trans ((congrFun (hK.1 0 (by omega)) 5).trans ep)) ?_
      refine g_iconst (v := 1) hX (dk DX11_post 35 rfl) (by decide) ?_
      refine g_iadd hX (dk DX11_post 36 rfl) ?_
      refine g_nmI (nI (p + 1)) (nI_1 p) ?_
      refine g_putI hX (dk DX11_post 37 rfl) KX11 fX11_145 (by decide) rfl (CLt hH (q := 0) (by decide)) (CC hH 0 (by decide) rfl) (Or.inl rfl) (rfl) (rfl) ?_
      refine g_aload_0 hX (dk DX11_post 38 rfl) ?_
      refine g_getIv hX (dk DX11_post 39 rfl) KX11 fX11_145 (by decide) rfl (CLt hH (q := 0) (by decide)) (CC hH 0 (by decide) rfl) (up0 _ _ _ _) ?_
      refine g_iconst (v := 1) hX (dk DX11_post 40 rfl) (by decide) ?_
      refine g_isub hX (dk DX11_post 41 rfl) ?_
      refine g_nmI (nI p) (pk_sub (a := p + 1) (b := 1) (by omega)) ?_
      refine g_ireturn hX (dk DX11_post 42 rfl) rfl (rfl) (by decide) (by decide) ?_
      refine ⟨_, rfl, fun E2 v hP => ?_, Nat.le_refl _⟩
      have hP0 := hP
      rcases hP with ⟨z, -⟩ | ⟨-, z1, -, -⟩ | ⟨-, z1, rfl, hN⟩
      · exact absurd z (by omega)
      · rw [ePo] at z1
        exact absurd (show x < 0 from hlt) (by rw [hT0 (by rw [z1]; exact Bool.false_ne_true)]; exact nI_pos (gt_31 hn100))
      · rw [ePo] at z1 hN
        obtain ⟨-, w2, w3, w4, w5⟩ := hT1 z1
        refine ⟨by rw [hpe], (RY_ps (RY.u05 (s := p + 1) (RY.u07 (s := 0) hY2 (by decide)) (by omega)) hp).eE hP0.eE.1 hP0.eE.2, hZ.2.post_t hpe hp hN (gt_ok2 10 0 [] (fun _ z => absurd z List.not_mem_nil) z1) (gt_le z1) hKf w2 w3 w4 w5⟩
    · have hge := hc2
      refine g_bipush (v := -10) hX (dk DX11_post 24 rfl) (by decide) ?_
      refine g_iload_2 hX (dk DX11_post 25 rfl) ?_
      refine g_isub hX (dk DX11_post 26 rfl) ?_
      refine g_ireturn hX (dk DX11_post 27 rfl) rfl (rfl) (by decide) (by decide) ?_
      refine ⟨_, rfl, fun E2 v hP => ?_, Nat.le_refl _⟩
      rcases hP with ⟨z, -⟩ | ⟨-, z1, rfl, rfl⟩ | ⟨-, z1, -⟩
      · exact absurd z (by omega)
      · rw [ePo] at z1 ⊢
        exact ⟨by rw [hT0 (by rw [z1]; exact Bool.false_ne_true)], (RY.u07 (s := 0) hY2 (by decide)).f (by decide), hZ.2.post_f hZ.n6 hpe hKf hp⟩
      · rw [ePo] at z1
        exact absurd (show x < 0 by rw [(hT1 z1).1]; decide) hge
  · have h6 : ¬ p < 6 := fun z => hc1 (nI_lt (b := 6) z (by decide))
    refine g_bipush (v := -4) hX (dk DX11_post 6 rfl) (by decide) ?_
    refine g_ireturn hX (dk DX11_post 7 rfl) rfl (rfl) (by decide) (by decide) ?_
    refine ⟨_, rfl, fun E2 v hP => ?_, Nat.le_refl _⟩
    rcases hP with ⟨-, rfl, rfl⟩ | ⟨z, -⟩ | ⟨z, -⟩
    · exact ⟨rfl, hZ⟩
    · exact absurd z (by omega)
    · exact absurd z (by omega)

