section
set_option maxRecDepth 8000 in
set_option maxHeartbeats 4000000 in
theorem q_put {G : Gt} (hG : Gok G) {I : It} {h : Ht} (hM : HM h) {x : Int32} {s : Nat} (hs : I 0 28 = nI s) (h6 : s < 600) : Con G (1) 0 0 mX12_put [.ref 0, .int x] I h (rV (upI (upI I 15 s x) 0 28 (nI (s + 1))) h) := by
  refine con_intro (own := RX12) (lo0 := [some (.ref 0), some (.int x)]) hG rfl pl_X12 (Nat.le_of_ble_eq_true rfl) rfl (fun X hX => ?_)
  refine g_aload_0 hX (dk DX12_put 0 rfl) ?_
  refine g_getRs (r := 15) hX (dk DX12_put 1 rfl) KX12 fX12_89 (by decide) rfl (MLt hM (by decide)) (MC hM) (MR hM 26 (by decide) rfl) ?_
  refine g_aload_0 hX (dk DX12_put 2 rfl) ?_
  refine g_getIv hX (dk DX12_put 3 rfl) KX12 fX12_95 (by decide) rfl (MLt hM (by decide)) (MC hM) (hs) ?_
  refine g_iload_1 hX (dk DX12_put 4 rfl) ?_
  refine i_iastore hX (dk DX12_put 5 rfl) (MLt hM (q := 15) (by decide)) (MS hM 15 (by decide) rfl) (⟨rfl, h6, by decide⟩) ?_
  refine g_aload_0 hX (dk DX12_put 6 rfl) ?_
  refine g_dup hX (dk DX12_put 7 rfl) rfl ?_
  refine g_getIv hX (dk DX12_put 8 rfl) KX12 fX12_95 (by decide) rfl (MLt hM (by decide)) (MC hM) (hs) ?_
  refine g_iconst (v := 1) hX (dk DX12_put 9 rfl) (by decide) ?_
  refine g_iadd hX (dk DX12_put 10 rfl) ?_
  refine g_nmI (nI (s + 1)) (nI_1 s) ?_
  refine g_putI hX (dk DX12_put 11 rfl) KX12 fX12_95 (by decide) rfl (MLt hM (by decide)) (MC hM) (Or.inl rfl) (rfl) (rfl) ?_
  refine g_return hX (dk DX12_put 12 rfl) rfl (by decide) (by decide) ?_
  exact rV_of rfl rfl

set_option maxRecDepth 8000 in
set_option maxHeartbeats 4000000 in
theorem q_whole {G : Gt} (hG : Gok G) {I : It} {h : Ht} (hM : HM h) {p c fr : Nat} {tx : Nat → Int32} {n : Nat} {I0 : It} {a : Nat} {cs ws : List Int32} (hp : p < 6) (hZ : MZ p c fr tx n I0 I a cs ws)  : Con G (2) 0 0 mX12_whole [.ref 0] I h (qV (fun J h2 => h2 = h ∧ MZ p c fr tx n I0 J a (whA ws cs).1 (whA ws cs).2)) := by
  refine con_intro (own := RX12) (lo0 := [some (.ref 0)]) hG rfl pl_X12 (Nat.le_of_ble_eq_true rfl) rfl (fun X hX => ?_)
  have loop0 : ∀ (k : Nat) (r cs2 : List Int32) (J : It), r.length = k → MZ p c fr tx n I0 J a cs2 r → whA r cs2 = whA ws cs → GG G (2) 0 0 X (qV (fun J h2 => h2 = h ∧ MZ p c fr tx n I0 J a (whA ws cs).1 (whA ws cs).2)) 0 [some (.ref 0)] [] (J) (h) 0 0 := by
    intro k
    induction k using Nat.strongRecOn with | _ k ih => ?_
    intro r cs2 J hk hZ hv
    refine g_aload_0 hX (dk DX12_whole 0 rfl) ?_
    refine g_getIv hX (dk DX12_whole 1 rfl) KX12 fX12_98 (by decide) rfl (MLt hM (by decide)) (MC hM) (hZ.2.2.2.2.2.1) ?_
    refine g_if_le (tgt := 52) hX (dk DX12_whole 2 rfl) (by decide) (fun hc1 => ?_) (fun hc1 => ?_)
    · refine g_return hX (dk DX12_whole 28 rfl) rfl (by decide) (by decide) ?_
      first
      | exact qV_of ⟨rfl, by rw [← hv, whA_c, if_neg (by assumption)]; exact hZ⟩
      | (have hr := nil_of (by have := hZ.lt; omega) hc1
         subst hr
         exact qV_of ⟨rfl, by rw [← hv]; exact hZ⟩)
    · obtain ⟨x, t, rfl⟩ := ne_cons hc1
      obtain ⟨l1, l2, l3, l4, l5⟩ := hZ.lt
      simp only [List.length_cons] at l3 l5
      refine g_aload_0 hX (dk DX12_whole 3 rfl) ?_
      refine g_getRs (r := 16) hX (dk DX12_whole 4 rfl) KX12 fX12_92 (by decide) rfl (MLt hM (by decide)) (MC hM) (MR hM 27 (by decide) rfl) ?_
      refine g_aload_0 hX (dk DX12_whole 5 rfl) ?_
      refine g_getIv hX (dk DX12_whole 6 rfl) KX12 fX12_98 (by decide) rfl (MLt hM (by decide)) (MC hM) ((show J 0 29 = nI (t.length + 1) from hZ.2.2.2.2.2.1)) ?_
      refine g_iconst (v := 1) hX (dk DX12_whole 7 rfl) (by decide) ?_
      refine g_isub hX (dk DX12_whole 8 rfl) ?_
      refine g_nmI (nI t.length) (nI_pred _) ?_
      refine v_iaload hX (dk DX12_whole 9 rfl) (MLt hM (q := 16) (by decide)) (MS hM 16 (by decide) rfl) (⟨rfl, by omega, by decide⟩) (hZ.2.2.2.2.2.2.1.1) ?_
      refine g_bipush (v := 33) hX (dk DX12_whole 10 rfl) (by decide) ?_
      refine g_icmp_ne (tgt := 52) hX (dk DX12_whole 11 rfl) (by decide) (fun hc2 => ?_) (fun hc2 => ?_)
      · refine g_return hX (dk DX12_whole 28 rfl) rfl (by decide) (by decide) ?_
        first
        | exact qV_of ⟨rfl, by rw [← hv, whA_c, if_neg (by assumption)]; exact hZ⟩
        | (have hr := nil_of (by have := hZ.lt; omega) hc1
           subst hr
           exact qV_of ⟨rfl, by rw [← hv]; exact hZ⟩)
      · have hx := hc2
        subst hx
        have ho : J 0 30 = nI (opn t + 1) := hZ.2.2.2.2.2.2.2.trans (by rw [opn_c, if_pos (Or.inl rfl)])
        refine g_aload_0 hX (dk DX12_whole 12 rfl) ?_
        refine g_bipush (v := -33) hX (dk DX12_whole 13 rfl) (by decide) ?_
        refine g_c2V hX sX12_whole_26 (by decide) (Nat.le_of_ble_eq_true rfl) (rc0 rfl (MLt hM (by decide)) (MC hM)) (by decide) (by decide) (q_put hG hM (s := fr + cs2.length) hZ.2.2.2.1.1 (by omega)) ?_
        refine g_aload_0 hX (dk DX12_whole 15 rfl) ?_
        refine g_dup hX (dk DX12_whole 16 rfl) rfl ?_
        refine g_getIv hX (dk DX12_whole 17 rfl) KX12 fX12_98 (by decide) rfl (MLt hM (by decide)) (MC hM) ((show _ = nI (t.length + 1) from hZ.2.2.2.2.2.1)) ?_
        refine g_iconst (v := 1) hX (dk DX12_whole 18 rfl) (by decide) ?_
        refine g_isub hX (dk DX12_whole 19 rfl) ?_
        refine g_nmI (nI t.length) (nI_pred _) ?_
        refine g_putI hX (dk DX12_whole 20 rfl) KX12 fX12_98 (by decide) rfl (MLt hM (by decide)) (MC hM) (Or.inl rfl) (rfl) (rfl) ?_
        refine g_aload_0 hX (dk DX12_whole 21 rfl) ?_
        refine g_dup hX (dk DX12_whole 22 rfl) rfl ?_
        refine g_getIv hX (dk DX12_whole 23 rfl) KX12 fX12_101 (by decide) rfl (MLt hM (by decide)) (MC hM) ((show _ = nI (opn t + 1) from ho)) ?_
        refine g_iconst (v := 1) hX (dk DX12_whole 24 rfl) (by decide) ?_
        refine g_isub hX (dk DX12_whole 25 rfl) ?_
        refine g_nmI (nI (opn t)) (nI_pred _) ?_
        refine g_putI hX (dk DX12_whole 26 rfl) KX12 fX12_101 (by decide) rfl (MLt hM (by decide)) (MC hM) (Or.inl rfl) (rfl) (rfl) ?_
        refine g_goto (tgt := 0) hX (dk DX12_whole 27 rfl) (by decide) ?_
        exact g_fgt (ih t.length (by simp only [List.length_cons] at hk; omega) t _ _ rfl hZ.bang (by rw [← hv, whA_c, if_pos rfl])) ⟨rfl, trivial⟩
  exact g_fgt (loop0 ws.length ws cs I rfl hZ rfl) ⟨rfl, trivial⟩

set_option maxRecDepth 8000 in
set_option maxHeartbeats 4000000 in
theorem q_settle {G : Gt} (hG : Gok G) {I : It} {h : Ht} (hM : HM h) {p c fr : Nat} {tx : Nat → Int32} {n : Nat} {I0 : It} {a : Nat} {cs ws : List Int32} (hp : p < 6) (hZ : MZ p c fr tx n I0 I a cs ws) {s : Int32} : Con G (2) 0 0 mX12_settle [.ref 0, .int s] I h (qV (fun J h2 => h2 = h ∧ MZ p c fr tx n I0 J a (seA s ws cs).1 (seA s ws cs).2)) := by
  refine con_intro (own := RX12) (lo0 := [some (.ref 0), some (.int s)]) hG rfl pl_X12 (Nat.le_of_ble_eq_true rfl) rfl (fun X hX => ?_)
  have loop0 : ∀ (k : Nat) (r cs2 : List Int32) (J : It), r.length = k → MZ p c fr tx n I0 J a cs2 r → seA s r cs2 = seA s ws cs → GG G (2) 0 0 X (qV (fun J h2 => h2 = h ∧ MZ p c fr tx n I0 J a (seA s ws cs).1 (seA s ws cs).2)) 0 [some (.ref 0), some (.int s)] [] (J) (h) 0 0 := by
    intro k
    induction k using Nat.strongRecOn with | _ k ih => ?_
    intro r cs2 J hk hZ hv
    refine g_aload_0 hX (dk DX12_settle 0 rfl) ?_
    refine g_getIv hX (dk DX12_settle 1 rfl) KX12 fX12_98 (by decide) rfl (MLt hM (by decide)) (MC hM) (hZ.2.2.2.2.2.1) ?_
    refine g_if_le (tgt := 72) hX (dk DX12_settle 2 rfl) (by decide) (fun hc1 => ?_) (fun hc1 => ?_)
    · refine g_return hX (dk DX12_settle 39 rfl) rfl (by decide) (by decide) ?_
      first
      | (have hr := nil_of (by have := hZ.lt; omega) hc1
         subst hr
         exact qV_of ⟨rfl, by rw [← hv]; exact hZ⟩)
      | (have hst : seA s (x :: t) cs2 = (cs2, x :: t) := by rw [seA_c]; (try first | rw [if_pos hc1] | rw [if_neg hc1] | rw [if_neg (not_not_intro hc1)]); first | done | rfl
         exact qV_of ⟨rfl, by rw [← hv, hst]; exact hZ⟩)
    · obtain ⟨x, t, rfl⟩ := ne_cons hc1
      obtain ⟨l1, l2, l3, l4, l5⟩ := hZ.lt
      simp only [List.length_cons] at l3 l5
      refine g_aload_0 hX (dk DX12_settle 3 rfl) ?_
      refine g_getRs (r := 16) hX (dk DX12_settle 4 rfl) KX12 fX12_92 (by decide) rfl (MLt hM (by decide)) (MC hM) (MR hM 27 (by decide) rfl) ?_
      refine g_aload_0 hX (dk DX12_settle 5 rfl) ?_
      refine g_getIv hX (dk DX12_settle 6 rfl) KX12 fX12_98 (by decide) rfl (MLt hM (by decide)) (MC hM) ((show J 0 29 = nI (t.length + 1) from hZ.2.2.2.2.2.1)) ?_
      refine g_iconst (v := 1) hX (dk DX12_settle 7 rfl) (by decide) ?_
      refine g_isub hX (dk DX12_settle 8 rfl) ?_
      refine g_nmI (nI t.length) (nI_pred _) ?_
      refine v_iaload hX (dk DX12_settle 9 rfl) (MLt hM (q := 16) (by decide)) (MS hM 16 (by decide) rfl) (⟨rfl, by omega, by decide⟩) (hZ.2.2.2.2.2.2.1.1) ?_
      refine g_bipush (v := 38) hX (dk DX12_settle 10 rfl) (by decide) ?_
      refine g_icmp_eq (tgt := 45) hX (dk DX12_settle 11 rfl) (by decide) (fun hc2 => ?_) (fun hc2 => ?_)
      · have hx : ¬ (x = 33 ∨ x = 40) := by
          first
          | (rw [show x = 38 by assumption]; decide)
          | (rw [show x = 124 by assumption]; decide)
        have hst : seA s (x :: t) cs2 = seA s t (cs2 ++ [-x]) := by rw [seA_c]; (try first | rw [if_pos hc1] | rw [if_neg hc1] | rw [if_neg (not_not_intro hc1)]); (try first | rw [if_pos hc2] | rw [if_neg hc2] | rw [if_neg (not_not_intro hc2)]); first | done | rfl
        refine g_aload_0 hX (dk DX12_settle 24 rfl) ?_
        refine g_dup hX (dk DX12_settle 25 rfl) rfl ?_
        refine g_getIv hX (dk DX12_settle 26 rfl) KX12 fX12_98 (by decide) rfl (MLt hM (by decide)) (MC hM) ((show _ = nI (t.length + 1) from hZ.2.2.2.2.2.1)) ?_
        refine g_iconst (v := 1) hX (dk DX12_settle 27 rfl) (by decide) ?_
        refine g_isub hX (dk DX12_settle 28 rfl) ?_
        refine g_nmI (nI t.length) (nI_pred _) ?_
        refine g_putI hX (dk DX12_settle 29 rfl) KX12 fX12_98 (by decide) rfl (MLt hM (by decide)) (MC hM) (Or.inl rfl) (rfl) (rfl) ?_
        refine g_aload_0 hX (dk DX12_settle 30 rfl) ?_
        refine g_aload_0 hX (dk DX12_settle 31 rfl) ?_
        refine g_getRs (r := 16) hX (dk DX12_settle 32 rfl) KX12 fX12_92 (by decide) rfl (MLt hM (by decide)) (MC hM) (MR hM 27 (by decide) rfl) ?_
        refine g_aload_0 hX (dk DX12_settle 33 rfl) ?_
        refine g_getIv hX (dk DX12_settle 34 rfl) KX12 fX12_98 (by decide) rfl (MLt hM (by decide)) (MC hM) ((show _ = nI t.length from rfl)) ?_
        refine v_iaload hX (dk DX12_settle 35 rfl) (MLt hM (q := 16) (by decide)) (MS hM 16 (by decide) rfl) (⟨rfl, by omega, by decide⟩) ((show _ = x from hZ.2.2.2.2.2.2.1.1)) ?_
        refine g_ineg hX (dk DX12_settle 36 rfl) ?_
        refine g_c2V hX sX12_settle_66 (by decide) (Nat.le_of_ble_eq_true rfl) (rc0 rfl (MLt hM (by decide)) (MC hM)) (by decide) (by decide) (q_put hG hM (s := fr + cs2.length) (show _ = _ from hZ.2.2.2.1.1) (by omega)) ?_
        refine g_goto (tgt := 0) hX (dk DX12_settle 38 rfl) (by decide) ?_
        exact g_fgt (ih t.length (by simp only [List.length_cons] at hk; omega) t _ _ rfl (hZ.op hx) (by rw [← hv, hst])) ⟨rfl, rfl, trivial⟩
      · refine g_aload_0 hX (dk DX12_settle 12 rfl) ?_
        refine g_getRs (r := 16) hX (dk DX12_settle 13 rfl) KX12 fX12_92 (by decide) rfl (MLt hM (by decide)) (MC hM) (MR hM 27 (by decide) rfl) ?_
        refine g_aload_0 hX (dk DX12_settle 14 rfl) ?_
        refine g_getIv hX (dk DX12_settle 15 rfl) KX12 fX12_98 (by decide) rfl (MLt hM (by decide)) (MC hM) ((show J 0 29 = nI (t.length + 1) from hZ.2.2.2.2.2.1)) ?_
        refine g_iconst (v := 1) hX (dk DX12_settle 16 rfl) (by decide) ?_
        refine g_isub hX (dk DX12_settle 17 rfl) ?_
        refine g_nmI (nI t.length) (nI_pred _) ?_
        refine v_iaload hX (dk DX12_settle 18 rfl) (MLt hM (q := 16) (by decide)) (MS hM 16 (by decide) rfl) (⟨rfl, by omega, by decide⟩) (hZ.2.2.2.2.2.2.1.1) ?_
        refine g_bipush (v := 124) hX (dk DX12_settle 19 rfl) (by decide) ?_
        refine g_icmp_ne (tgt := 72) hX (dk DX12_settle 20 rfl) (by decide) (fun hc3 => ?_) (fun hc3 => ?_)
        · refine g_return hX (dk DX12_settle 39 rfl) rfl (by decide) (by decide) ?_
          first
          | (have hr := nil_of (by have := hZ.lt; omega) hc1
             subst hr
             exact qV_of ⟨rfl, by rw [← hv]; exact hZ⟩)
          | (have hst : seA s (x :: t) cs2 = (cs2, x :: t) := by rw [seA_c]; (try first | rw [if_pos hc1] | rw [if_neg hc1] | rw [if_neg (not_not_intro hc1)]); (try first | rw [if_pos hc2] | rw [if_neg hc2] | rw [if_neg (not_not_intro hc2)]); (try first | rw [if_pos hc3] | rw [if_neg hc3] | rw [if_neg (not_not_intro hc3)]); first | done | rfl
             exact qV_of ⟨rfl, by rw [← hv, hst]; exact hZ⟩)
        · refine g_iload_1 hX (dk DX12_settle 21 rfl) ?_
          refine g_bipush (v := 38) hX (dk DX12_settle 22 rfl) (by decide) ?_
          refine g_icmp_eq (tgt := 72) hX (dk DX12_settle 23 rfl) (by decide) (fun hc4 => ?_) (fun hc4 => ?_)
          · refine g_return hX (dk DX12_settle 39 rfl) rfl (by decide) (by decide) ?_
            first
            | (have hr := nil_of (by have := hZ.lt; omega) hc1
               subst hr
               exact qV_of ⟨rfl, by rw [← hv]; exact hZ⟩)
            | (have hst : seA s (x :: t) cs2 = (cs2, x :: t) := by rw [seA_c]; (try first | rw [if_pos hc1] | rw [if_neg hc1] | rw [if_neg (not_not_intro hc1)]); (try first | rw [if_pos hc2] | rw [if_neg hc2] | rw [if_neg (not_not_intro hc2)]); (try first | rw [if_pos hc3] | rw [if_neg hc3] | rw [if_neg (not_not_intro hc3)]); (try first | rw [if_pos hc4] | rw [if_neg hc4] | rw [if_neg (not_not_intro hc4)]); first | done | rfl
               exact qV_of ⟨rfl, by rw [← hv, hst]; exact hZ⟩)
          · have hx : ¬ (x = 33 ∨ x = 40) := by
              first
              | (rw [show x = 38 by assumption]; decide)
              | (rw [show x = 124 by assumption]; decide)
            have hst : seA s (x :: t) cs2 = seA s t (cs2 ++ [-x]) := by rw [seA_c]; (try first | rw [if_pos hc1] | rw [if_neg hc1] | rw [if_neg (not_not_intro hc1)]); (try first | rw [if_pos hc2] | rw [if_neg hc2] | rw [if_neg (not_not_intro hc2)]); (try first | rw [if_pos hc3] | rw [if_neg hc3] | rw [if_neg (not_not_intro hc3)]); (try first | rw [if_pos hc4] | rw [if_neg hc4] | rw [if_neg (not_not_intro hc4)]); first | done | rfl
            refine g_aload_0 hX (dk DX12_settle 24 rfl) ?_
            refine g_dup hX (dk DX12_settle 25 rfl) rfl ?_
            refine g_getIv hX (dk DX12_settle 26 rfl) KX12 fX12_98 (by decide) rfl (MLt hM (by decide)) (MC hM) ((show _ = nI (t.length + 1) from hZ.2.2.2.2.2.1)) ?_
            refine g_iconst (v := 1) hX (dk DX12_settle 27 rfl) (by decide) ?_
            refine g_isub hX (dk DX12_settle 28 rfl) ?_
            refine g_nmI (nI t.length) (nI_pred _) ?_
            refine g_putI hX (dk DX12_settle 29 rfl) KX12 fX12_98 (by decide) rfl (MLt hM (by decide)) (MC hM) (Or.inl rfl) (rfl) (rfl) ?_
            refine g_aload_0 hX (dk DX12_settle 30 rfl) ?_
            refine g_aload_0 hX (dk DX12_settle 31 rfl) ?_
            refine g_getRs (r := 16) hX (dk DX12_settle 32 rfl) KX12 fX12_92 (by decide) rfl (MLt hM (by decide)) (MC hM) (MR hM 27 (by decide) rfl) ?_
            refine g_aload_0 hX (dk DX12_settle 33 rfl) ?_
            refine g_getIv hX (dk DX12_settle 34 rfl) KX12 fX12_98 (by decide) rfl (MLt hM (by decide)) (MC hM) ((show _ = nI t.length from rfl)) ?_
            refine v_iaload hX (dk DX12_settle 35 rfl) (MLt hM (q := 16) (by decide)) (MS hM 16 (by decide) rfl) (⟨rfl, by omega, by decide⟩) ((show _ = x from hZ.2.2.2.2.2.2.1.1)) ?_
            refine g_ineg hX (dk DX12_settle 36 rfl) ?_
            refine g_c2V hX sX12_settle_66 (by decide) (Nat.le_of_ble_eq_true rfl) (rc0 rfl (MLt hM (by decide)) (MC hM)) (by decide) (by decide) (q_put hG hM (s := fr + cs2.length) (show _ = _ from hZ.2.2.2.1.1) (by omega)) ?_
            refine g_goto (tgt := 0) hX (dk DX12_settle 38 rfl) (by decide) ?_
            exact g_fgt (ih t.length (by simp only [List.length_cons] at hk; omega) t _ _ rfl (hZ.op hx) (by rw [← hv, hst])) ⟨rfl, rfl, trivial⟩
  exact g_fgt (loop0 ws.length ws cs I rfl hZ rfl) ⟨rfl, rfl, trivial⟩

set_option maxRecDepth 8000 in
set_option maxHeartbeats 4000000 in
theorem q_place {G : Gt} (hG : Gok G) {I : It} {h : Ht} (hM : HM h) {c : Int32} : Con G (1) 0 0 mX12_place [.ref 0, .int c] I h (rI (plA c) I h) := by
  refine con_intro (own := RX12) (lo0 := [some (.ref 0), some (.int c)]) hG rfl pl_X12 (Nat.le_of_ble_eq_true rfl) rfl (fun X hX => ?_)
  refine g_iload_1 hX (dk DX12_place 0 rfl) ?_
  refine g_tswitch (dt := 123) hX [(99, 116), (100, 123), (101, 123), (102, 123), (103, 123), (104, 123), (105, 108), (106, 123), (107, 110), (108, 123), (109, 123), (110, 123), (111, 123), (112, 123), (113, 123), (114, 112), (115, 123), (116, 123), (117, 123), (118, 114), (119, 120), (120, 123), (121, 118)] (dk DX12_place 1 rfl) (by decide +kernel) ?_
  refine ⟨fun hc1 => ?_, fun hc1n => ?_⟩
  · show GG _ _ _ _ _ _ _ _ _ _ _ _ _
    refine g_iconst (v := 4) hX (dk DX12_place 10 rfl) (by decide) ?_
    refine g_ireturn hX (dk DX12_place 11 rfl) rfl (rfl) (by decide) (by decide) ?_
    exact rI_of (by first | (unfold plA; (try first | rw [if_pos hc1] | rw [if_neg hc1] | rw [if_neg (not_not_intro hc1)]); first | done | rfl) | simp_all [plA]) rfl rfl
  refine ⟨fun hc2 => ?_, fun hc2n => ?_⟩
  · show GG _ _ _ _ _ _ _ _ _ _ _ _ _
    refine g_iconst (v := -1) hX (dk DX12_place 16 rfl) (by decide) ?_
    refine g_ireturn hX (dk DX12_place 17 rfl) rfl (rfl) (by decide) (by decide) ?_
    exact rI_of (by first | (unfold plA; (try first | rw [if_pos hc1n] | rw [if_neg hc1n] | rw [if_neg (not_not_intro hc1n)]); (try first | rw [if_pos hc2] | rw [if_neg hc2] | rw [if_neg (not_not_intro hc2)]); first | done | rfl) | simp_all [plA]) rfl rfl
  refine ⟨fun hc3 => ?_, fun hc3n => ?_⟩
  · show GG _ _ _ _ _ _ _ _ _ _ _ _ _
    refine g_iconst (v := -1) hX (dk DX12_place 16 rfl) (by decide) ?_
    refine g_ireturn hX (dk DX12_place 17 rfl) rfl (rfl) (by decide) (by decide) ?_
    exact rI_of (by first | (unfold plA; (try first | rw [if_pos hc1n] | rw [if_neg hc1n] | rw [if_neg (not_not_intro hc1n)]); (try first | rw [if_pos hc2n] | rw [if_neg hc2n] | rw [if_neg (not_not_intro hc2n)]); (try first | rw [if_pos hc3] | rw [if_neg hc3] | rw [if_neg (not_not_intro hc3)]); first | done | rfl) | simp_all [plA]) rfl rfl
  refine ⟨fun hc4 => ?_, fun hc4n => ?_⟩
  · show GG _ _ _ _ _ _ _ _ _ _ _ _ _
    refine g_iconst (v := -1) hX (dk DX12_place 16 rfl) (by decide) ?_
    refine g_ireturn hX (dk DX12_place 17 rfl) rfl (rfl) (by decide) (by decide) ?_
    exact rI_of (by first | (unfold plA; (try first | rw [if_pos hc1n] | rw [if_neg hc1n] | rw [if_neg (not_not_intro hc1n)]); (try first | rw [if_pos hc2n] | rw [if_neg hc2n] | rw [if_neg (not_not_intro hc2n)]); (try first | rw [if_pos hc3n] | rw [if_neg hc3n] | rw [if_neg (not_not_intro hc3n)]); (try first | rw [if_pos hc4] | rw [if_neg hc4] | rw [if_neg (not_not_intro hc4)]); first | done | rfl) | simp_all [plA]) rfl rfl
  refine ⟨fun hc5 => ?_, fun hc5n => ?_⟩
  · show GG _ _ _ _ _ _ _ _ _ _ _ _ _
    refine g_iconst (v := -1) hX (dk DX12_place 16 rfl) (by decide) ?_
    refine g_ireturn hX (dk DX12_place 17 rfl) rfl (rfl) (by decide) (by decide) ?_
    exact rI_of (by first | (unfold plA; (try first | rw [if_pos hc1n] | rw [if_neg hc1n] | rw [if_neg (not_not_intro hc1n)]); (try first | rw [if_pos hc2n] | rw [if_neg hc2n] | rw [if_neg (not_not_intro hc2n)]); (try first | rw [if_pos hc3n] | rw [if_neg hc3n] | rw [if_neg (not_not_intro hc3n)]); (try first | rw [if_pos hc4n] | rw [if_neg hc4n] | rw [if_neg (not_not_intro hc4n)]); (try first | rw [if_pos hc5] | rw [if_neg hc5] | rw [if_neg (not_not_intro hc5)]); first | done | rfl) | simp_all [plA]) rfl rfl
  refine ⟨fun hc6 => ?_, fun hc6n => ?_⟩
  · show GG _ _ _ _ _ _ _ _ _ _ _ _ _
    refine g_iconst (v := -1) hX (dk DX12_place 16 rfl) (by decide) ?_
    refine g_ireturn hX (dk DX12_place 17 rfl) rfl (rfl) (by decide) (by decide) ?_
    exact rI_of (by first | (unfold plA; (try first | rw [if_pos hc1n] | rw [if_neg hc1n] | rw [if_neg (not_not_intro hc1n)]); (try first | rw [if_pos hc2n] | rw [if_neg hc2n] | rw [if_neg (not_not_intro hc2n)]); (try first | rw [if_pos hc3n] | rw [if_neg hc3n] | rw [if_neg (not_not_intro hc3n)]); (try first | rw [if_pos hc4n] | rw [if_neg hc4n] | rw [if_neg (not_not_intro hc4n)]); (try first | rw [if_pos hc5n] | rw [if_neg hc5n] | rw [if_neg (not_not_intro hc5n)]); (try first | rw [if_pos hc6] | rw [if_neg hc6] | rw [if_neg (not_not_intro hc6)]); first | done | rfl) | simp_all [plA]) rfl rfl
  refine ⟨fun hc7 => ?_, fun hc7n => ?_⟩
  · show GG _ _ _ _ _ _ _ _ _ _ _ _ _
    refine g_iconst (v := 0) hX (dk DX12_place 2 rfl) (by decide) ?_
    refine g_ireturn hX (dk DX12_place 3 rfl) rfl (rfl) (by decide) (by decide) ?_
    exact rI_of (by first | (unfold plA; (try first | rw [if_pos hc1n] | rw [if_neg hc1n] | rw [if_neg (not_not_intro hc1n)]); (try first | rw [if_pos hc2n] | rw [if_neg hc2n] | rw [if_neg (not_not_intro hc2n)]); (try first | rw [if_pos hc3n] | rw [if_neg hc3n] | rw [if_neg (not_not_intro hc3n)]); (try first | rw [if_pos hc4n] | rw [if_neg hc4n] | rw [if_neg (not_not_intro hc4n)]); (try first | rw [if_pos hc5n] | rw [if_neg hc5n] | rw [if_neg (not_not_intro hc5n)]); (try first | rw [if_pos hc6n] | rw [if_neg hc6n] | rw [if_neg (not_not_intro hc6n)]); (try first | rw [if_pos hc7] | rw [if_neg hc7] | rw [if_neg (not_not_intro hc7)]); first | done | rfl) | simp_all [plA]) rfl rfl
  refine ⟨fun hc8 => ?_, fun hc8n => ?_⟩
  · show GG _ _ _ _ _ _ _ _ _ _ _ _ _
    refine g_iconst (v := -1) hX (dk DX12_place 16 rfl) (by decide) ?_
    refine g_ireturn hX (dk DX12_place 17 rfl) rfl (rfl) (by decide) (by decide) ?_
    exact rI_of (by first | (unfold plA; (try first | rw [if_pos hc1n] | rw [if_neg hc1n] | rw [if_neg (not_not_intro hc1n)]); (try first | rw [if_pos hc2n] | rw [if_neg hc2n] | rw [if_neg (not_not_intro hc2n)]); (try first | rw [if_pos hc3n] | rw [if_neg hc3n] | rw [if_neg (not_not_intro hc3n)]); (try first | rw [if_pos hc4n] | rw [if_neg hc4n] | rw [if_neg (not_not_intro hc4n)]); (try first | rw [if_pos hc5n] | rw [if_neg hc5n] | rw [if_neg (not_not_intro hc5n)]); (try first | rw [if_pos hc6n] | rw [if_neg hc6n] | rw [if_neg (not_not_intro hc6n)]); (try first | rw [if_pos hc7n] | rw [if_neg hc7n] | rw [if_neg (not_not_intro hc7n)]); (try first | rw [if_pos hc8] | rw [if_neg hc8] | rw [if_neg (not_not_intro hc8)]); first | done | rfl) | simp_all [plA]) rfl rfl
  refine ⟨fun hc9 => ?_, fun hc9n => ?_⟩
  · show GG _ _ _ _ _ _ _ _ _ _ _ _ _
    refine g_iconst (v := 1) hX (dk DX12_place 4 rfl) (by decide) ?_
    refine g_ireturn hX (dk DX12_place 5 rfl) rfl (rfl) (by decide) (by decide) ?_
    exact rI_of (by first | (unfold plA; (try first | rw [if_pos hc1n] | rw [if_neg hc1n] | rw [if_neg (not_not_intro hc1n)]); (try first | rw [if_pos hc2n] | rw [if_neg hc2n] | rw [if_neg (not_not_intro hc2n)]); (try first | rw [if_pos hc3n] | rw [if_neg hc3n] | rw [if_neg (not_not_intro hc3n)]); (try first | rw [if_pos hc4n] | rw [if_neg hc4n] | rw [if_neg (not_not_intro hc4n)]); (try first | rw [if_pos hc5n] | rw [if_neg hc5n] | rw [if_neg (not_not_intro hc5n)]); (try first | rw [if_pos hc6n] | rw [if_neg hc6n] | rw [if_neg (not_not_intro hc6n)]); (try first | rw [if_pos hc7n] | rw [if_neg hc7n] | rw [if_neg (not_not_intro hc7n)]); (try first | rw [if_pos hc8n] | rw [if_neg hc8n] | rw [if_neg (not_not_intro hc8n)]); (try first | rw [if_pos hc9] | rw [if_neg hc9] | rw [if_neg (not_not_intro hc9)]); first | done | rfl) | simp_all [plA]) rfl rfl
  refine ⟨fun hc10 => ?_, fun hc10n => ?_⟩
  · show GG _ _ _ _ _ _ _ _ _ _ _ _ _
    refine g_iconst (v := -1) hX (dk DX12_place 16 rfl) (by decide) ?_
    refine g_ireturn hX (dk DX12_place 17 rfl) rfl (rfl) (by decide) (by decide) ?_
    exact rI_of (by first | (unfold plA; (try first | rw [if_pos hc1n] | rw [if_neg hc1n] | rw [if_neg (not_not_intro hc1n)]); (try first | rw [if_pos hc2n] | rw [if_neg hc2n] | rw [if_neg (not_not_intro hc2n)]); (try first | rw [if_pos hc3n] | rw [if_neg hc3n] | rw [if_neg (not_not_intro hc3n)]); (try first | rw [if_pos hc4n] | rw [if_neg hc4n] | rw [if_neg (not_not_intro hc4n)]); (try first | rw [if_pos hc5n] | rw [if_neg hc5n] | rw [if_neg (not_not_intro hc5n)]); (try first | rw [if_pos hc6n] | rw [if_neg hc6n] | rw [if_neg (not_not_intro hc6n)]); (try first | rw [if_pos hc7n] | rw [if_neg hc7n] | rw [if_neg (not_not_intro hc7n)]); (try first | rw [if_pos hc8n] | rw [if_neg hc8n] | rw [if_neg (not_not_intro hc8n)]); (try first | rw [if_pos hc9n] | rw [if_neg hc9n] | rw [if_neg (not_not_intro hc9n)]); (try first | rw [if_pos hc10] | rw [if_neg hc10] | rw [if_neg (not_not_intro hc10)]); first | done | rfl) | simp_all [plA]) rfl rfl
  refine ⟨fun hc11 => ?_, fun hc11n => ?_⟩
  · show GG _ _ _ _ _ _ _ _ _ _ _ _ _
    refine g_iconst (v := -1) hX (dk DX12_place 16 rfl) (by decide) ?_
    refine g_ireturn hX (dk DX12_place 17 rfl) rfl (rfl) (by decide) (by decide) ?_
    exact rI_of (by first | (unfold plA; (try first | rw [if_pos hc1n] | rw [if_neg hc1n] | rw [if_neg (not_not_intro hc1n)]); (try first | rw [if_pos hc2n] | rw [if_neg hc2n] | rw [if_neg (not_not_intro hc2n)]); (try first | rw [if_pos hc3n] | rw [if_neg hc3n] | rw [if_neg (not_not_intro hc3n)]); (try first | rw [if_pos hc4n] | rw [if_neg hc4n] | rw [if_neg (not_not_intro hc4n)]); (try first | rw [if_pos hc5n] | rw [if_neg hc5n] | rw [if_neg (not_not_intro hc5n)]); (try first | rw [if_pos hc6n] | rw [if_neg hc6n] | rw [if_neg (not_not_intro hc6n)]); (try first | rw [if_pos hc7n] | rw [if_neg hc7n] | rw [if_neg (not_not_intro hc7n)]); (try first | rw [if_pos hc8n] | rw [if_neg hc8n] | rw [if_neg (not_not_intro hc8n)]); (try first | rw [if_pos hc9n] | rw [if_neg hc9n] | rw [if_neg (not_not_intro hc9n)]); (try first | rw [if_pos hc10n] | rw [if_neg hc10n] | rw [if_neg (not_not_intro hc10n)]); (try first | rw [if_pos hc11] | rw [if_neg hc11] | rw [if_neg (not_not_intro hc11)]); first | done | rfl) | simp_all [plA]) rfl rfl
  refine ⟨fun hc12 => ?_, fun hc12n => ?_⟩
  · show GG _ _ _ _ _ _ _ _ _ _ _ _ _
    refine g_iconst (v := -1) hX (dk DX12_place 16 rfl) (by decide) ?_
    refine g_ireturn hX (dk DX12_place 17 rfl) rfl (rfl) (by decide) (by decide) ?_
    exact rI_of (by first | (unfold plA; (try first | rw [if_pos hc1n] | rw [if_neg hc1n] | rw [if_neg (not_not_intro hc1n)]); (try first | rw [if_pos hc2n] | rw [if_neg hc2n] | rw [if_neg (not_not_intro hc2n)]); (try first | rw [if_pos hc3n] | rw [if_neg hc3n] | rw [if_neg (not_not_intro hc3n)]); (try first | rw [if_pos hc4n] | rw [if_neg hc4n] | rw [if_neg (not_not_intro hc4n)]); (try first | rw [if_pos hc5n] | rw [if_neg hc5n] | rw [if_neg (not_not_intro hc5n)]); (try first | rw [if_pos hc6n] | rw [if_neg hc6n] | rw [if_neg (not_not_intro hc6n)]); (try first | rw [if_pos hc7n] | rw [if_neg hc7n] | rw [if_neg (not_not_intro hc7n)]); (try first | rw [if_pos hc8n] | rw [if_neg hc8n] | rw [if_neg (not_not_intro hc8n)]); (try first | rw [if_pos hc9n] | rw [if_neg hc9n] | rw [if_neg (not_not_intro hc9n)]); (try first | rw [if_pos hc10n] | rw [if_neg hc10n] | rw [if_neg (not_not_intro hc10n)]); (try first | rw [if_pos hc11n] | rw [if_neg hc11n] | rw [if_neg (not_not_intro hc11n)]); (try first | rw [if_pos hc12] | rw [if_neg hc12] | rw [if_neg (not_not_intro hc12)]); first | done | rfl) | simp_all [plA]) rfl rfl
  refine ⟨fun hc13 => ?_, fun hc13n => ?_⟩
  · show GG _ _ _ _ _ _ _ _ _ _ _ _ _
    refine g_iconst (v := -1) hX (dk DX12_place 16 rfl) (by decide) ?_
    refine g_ireturn hX (dk DX12_place 17 rfl) rfl (rfl) (by decide) (by decide) ?_
    exact rI_of (by first | (unfold plA; (try first | rw [if_pos hc1n] | rw [if_neg hc1n] | rw [if_neg (not_not_intro hc1n)]); (try first | rw [if_pos hc2n] | rw [if_neg hc2n] | rw [if_neg (not_not_intro hc2n)]); (try first | rw [if_pos hc3n] | rw [if_neg hc3n] | rw [if_neg (not_not_intro hc3n)]); (try first | rw [if_pos hc4n] | rw [if_neg hc4n] | rw [if_neg (not_not_intro hc4n)]); (try first | rw [if_pos hc5n] | rw [if_neg hc5n] | rw [if_neg (not_not_intro hc5n)]); (try first | rw [if_pos hc6n] | rw [if_neg hc6n] | rw [if_neg (not_not_intro hc6n)]); (try first | rw [if_pos hc7n] | rw [if_neg hc7n] | rw [if_neg (not_not_intro hc7n)]); (try first | rw [if_pos hc8n] | rw [if_neg hc8n] | rw [if_neg (not_not_intro hc8n)]); (try first | rw [if_pos hc9n] | rw [if_neg hc9n] | rw [if_neg (not_not_intro hc9n)]); (try first | rw [if_pos hc10n] | rw [if_neg hc10n] | rw [if_neg (not_not_intro hc10n)]); (try first | rw [if_pos hc11n] | rw [if_neg hc11n] | rw [if_neg (not_not_intro hc11n)]); (try first | rw [if_pos hc12n] | rw [if_neg hc12n] | rw [if_neg (not_not_intro hc12n)]); (try first | rw [if_pos hc13] | rw [if_neg hc13] | rw [if_neg (not_not_intro hc13)]); first | done | rfl) | simp_all [plA]) rfl rfl
  refine ⟨fun hc14 => ?_, fun hc14n => ?_⟩
  · show GG _ _ _ _ _ _ _ _ _ _ _ _ _
    refine g_iconst (v := -1) hX (dk DX12_place 16 rfl) (by decide) ?_
    refine g_ireturn hX (dk DX12_place 17 rfl) rfl (rfl) (by decide) (by decide) ?_
    exact rI_of (by first | (unfold plA; (try first | rw [if_pos hc1n] | rw [if_neg hc1n] | rw [if_neg (not_not_intro hc1n)]); (try first | rw [if_pos hc2n] | rw [if_neg hc2n] | rw [if_neg (not_not_intro hc2n)]); (try first | rw [if_pos hc3n] | rw [if_neg hc3n] | rw [if_neg (not_not_intro hc3n)]); (try first | rw [if_pos hc4n] | rw [if_neg hc4n] | rw [if_neg (not_not_intro hc4n)]); (try first | rw [if_pos hc5n] | rw [if_neg hc5n] | rw [if_neg (not_not_intro hc5n)]); (try first | rw [if_pos hc6n] | rw [if_neg hc6n] | rw [if_neg (not_not_intro hc6n)]); (try first | rw [if_pos hc7n] | rw [if_neg hc7n] | rw [if_neg (not_not_intro hc7n)]); (try first | rw [if_pos hc8n] | rw [if_neg hc8n] | rw [if_neg (not_not_intro hc8n)]); (try first | rw [if_pos hc9n] | rw [if_neg hc9n] | rw [if_neg (not_not_intro hc9n)]); (try first | rw [if_pos hc10n] | rw [if_neg hc10n] | rw [if_neg (not_not_intro hc10n)]); (try first | rw [if_pos hc11n] | rw [if_neg hc11n] | rw [if_neg (not_not_intro hc11n)]); (try first | rw [if_pos hc12n] | rw [if_neg hc12n] | rw [if_neg (not_not_intro hc12n)]); (try first | rw [if_pos hc13n] | rw [if_neg hc13n] | rw [if_neg (not_not_intro hc13n)]); (try first | rw [if_pos hc14] | rw [if_neg hc14] | rw [if_neg (not_not_intro hc14)]); first | done | rfl) | simp_all [plA]) rfl rfl
  refine ⟨fun hc15 => ?_, fun hc15n => ?_⟩
  · show GG _ _ _ _ _ _ _ _ _ _ _ _ _
    refine g_iconst (v := -1) hX (dk DX12_place 16 rfl) (by decide) ?_
    refine g_ireturn hX (dk DX12_place 17 rfl) rfl (rfl) (by decide) (by decide) ?_
    exact rI_of (by first | (unfold plA; (try first | rw [if_pos hc1n] | rw [if_neg hc1n] | rw [if_neg (not_not_intro hc1n)]); (try first | rw [if_pos hc2n] | rw [if_neg hc2n] | rw [if_neg (not_not_intro hc2n)]); (try first | rw [if_pos hc3n] | rw [if_neg hc3n] | rw [if_neg (not_not_intro hc3n)]); (try first | rw [if_pos hc4n] | rw [if_neg hc4n] | rw [if_neg (not_not_intro hc4n)]); (try first | rw [if_pos hc5n] | rw [if_neg hc5n] | rw [if_neg (not_not_intro hc5n)]); (try first | rw [if_pos hc6n] | rw [if_neg hc6n] | rw [if_neg (not_not_intro hc6n)]); (try first | rw [if_pos hc7n] | rw [if_neg hc7n] | rw [if_neg (not_not_intro hc7n)]); (try first | rw [if_pos hc8n] | rw [if_neg hc8n] | rw [if_neg (not_not_intro hc8n)]); (try first | rw [if_pos hc9n] | rw [if_neg hc9n] | rw [if_neg (not_not_intro hc9n)]); (try first | rw [if_pos hc10n] | rw [if_neg hc10n] | rw [if_neg (not_not_intro hc10n)]); (try first | rw [if_pos hc11n] | rw [if_neg hc11n] | rw [if_neg (not_not_intro hc11n)]); (try first | rw [if_pos hc12n] | rw [if_neg hc12n] | rw [if_neg (not_not_intro hc12n)]); (try first | rw [if_pos hc13n] | rw [if_neg hc13n] | rw [if_neg (not_not_intro hc13n)]); (try first | rw [if_pos hc14n] | rw [if_neg hc14n] | rw [if_neg (not_not_intro hc14n)]); (try first | rw [if_pos hc15] | rw [if_neg hc15] | rw [if_neg (not_not_intro hc15)]); first | done | rfl) | simp_all [plA]) rfl rfl
  refine ⟨fun hc16 => ?_, fun hc16n => ?_⟩
  · show GG _ _ _ _ _ _ _ _ _ _ _ _ _
    refine g_iconst (v := 2) hX (dk DX12_place 6 rfl) (by decide) ?_
    refine g_ireturn hX (dk DX12_place 7 rfl) rfl (rfl) (by decide) (by decide) ?_
    exact rI_of (by first | (unfold plA; (try first | rw [if_pos hc1n] | rw [if_neg hc1n] | rw [if_neg (not_not_intro hc1n)]); (try first | rw [if_pos hc2n] | rw [if_neg hc2n] | rw [if_neg (not_not_intro hc2n)]); (try first | rw [if_pos hc3n] | rw [if_neg hc3n] | rw [if_neg (not_not_intro hc3n)]); (try first | rw [if_pos hc4n] | rw [if_neg hc4n] | rw [if_neg (not_not_intro hc4n)]); (try first | rw [if_pos hc5n] | rw [if_neg hc5n] | rw [if_neg (not_not_intro hc5n)]); (try first | rw [if_pos hc6n] | rw [if_neg hc6n] | rw [if_neg (not_not_intro hc6n)]); (try first | rw [if_pos hc7n] | rw [if_neg hc7n] | rw [if_neg (not_not_intro hc7n)]); (try first | rw [if_pos hc8n] | rw [if_neg hc8n] | rw [if_neg (not_not_intro hc8n)]); (try first | rw [if_pos hc9n] | rw [if_neg hc9n] | rw [if_neg (not_not_intro hc9n)]); (try first | rw [if_pos hc10n] | rw [if_neg hc10n] | rw [if_neg (not_not_intro hc10n)]); (try first | rw [if_pos hc11n] | rw [if_neg hc11n] | rw [if_neg (not_not_intro hc11n)]); (try first | rw [if_pos hc12n] | rw [if_neg hc12n] | rw [if_neg (not_not_intro hc12n)]); (try first | rw [if_pos hc13n] | rw [if_neg hc13n] | rw [if_neg (not_not_intro hc13n)]); (try first | rw [if_pos hc14n] | rw [if_neg hc14n] | rw [if_neg (not_not_intro hc14n)]); (try first | rw [if_pos hc15n] | rw [if_neg hc15n] | rw [if_neg (not_not_intro hc15n)]); (try first | rw [if_pos hc16] | rw [if_neg hc16] | rw [if_neg (not_not_intro hc16)]); first | done | rfl) | simp_all [plA]) rfl rfl
  refine ⟨fun hc17 => ?_, fun hc17n => ?_⟩
  · show GG _ _ _ _ _ _ _ _ _ _ _ _ _
    refine g_iconst (v := -1) hX (dk DX12_place 16 rfl) (by decide) ?_
    refine g_ireturn hX (dk DX12_place 17 rfl) rfl (rfl) (by decide) (by decide) ?_
    exact rI_of (by first | (unfold plA; (try first | rw [if_pos hc1n] | rw [if_neg hc1n] | rw [if_neg (not_not_intro hc1n)]); (try first | rw [if_pos hc2n] | rw [if_neg hc2n] | rw [if_neg (not_not_intro hc2n)]); (try first | rw [if_pos hc3n] | rw [if_neg hc3n] | rw [if_neg (not_not_intro hc3n)]); (try first | rw [if_pos hc4n] | rw [if_neg hc4n] | rw [if_neg (not_not_intro hc4n)]); (try first | rw [if_pos hc5n] | rw [if_neg hc5n] | rw [if_neg (not_not_intro hc5n)]); (try first | rw [if_pos hc6n] | rw [if_neg hc6n] | rw [if_neg (not_not_intro hc6n)]); (try first | rw [if_pos hc7n] | rw [if_neg hc7n] | rw [if_neg (not_not_intro hc7n)]); (try first | rw [if_pos hc8n] | rw [if_neg hc8n] | rw [if_neg (not_not_intro hc8n)]); (try first | rw [if_pos hc9n] | rw [if_neg hc9n] | rw [if_neg (not_not_intro hc9n)]); (try first | rw [if_pos hc10n] | rw [if_neg hc10n] | rw [if_neg (not_not_intro hc10n)]); (try first | rw [if_pos hc11n] | rw [if_neg hc11n] | rw [if_neg (not_not_intro hc11n)]); (try first | rw [if_pos hc12n] | rw [if_neg hc12n] | rw [if_neg (not_not_intro hc12n)]); (try first | rw [if_pos hc13n] | rw [if_neg hc13n] | rw [if_neg (not_not_intro hc13n)]); (try first | rw [if_pos hc14n] | rw [if_neg hc14n] | rw [if_neg (not_not_intro hc14n)]); (try first | rw [if_pos hc15n] | rw [if_neg hc15n] | rw [if_neg (not_not_intro hc15n)]); (try first | rw [if_pos hc16n] | rw [if_neg hc16n] | rw [if_neg (not_not_intro hc16n)]); (try first | rw [if_pos hc17] | rw [if_neg hc17] | rw [if_neg (not_not_intro hc17)]); first | done | rfl) | simp_all [plA]) rfl rfl
  refine ⟨fun hc18 => ?_, fun hc18n => ?_⟩
  · show GG _ _ _ _ _ _ _ _ _ _ _ _ _
    refine g_iconst (v := -1) hX (dk DX12_place 16 rfl) (by decide) ?_
    refine g_ireturn hX (dk DX12_place 17 rfl) rfl (rfl) (by decide) (by decide) ?_
    exact rI_of (by first | (unfold plA; (try first | rw [if_pos hc1n] | rw [if_neg hc1n] | rw [if_neg (not_not_intro hc1n)]); (try first | rw [if_pos hc2n] | rw [if_neg hc2n] | rw [if_neg (not_not_intro hc2n)]); (try first | rw [if_pos hc3n] | rw [if_neg hc3n] | rw [if_neg (not_not_intro hc3n)]); (try first | rw [if_pos hc4n] | rw [if_neg hc4n] | rw [if_neg (not_not_intro hc4n)]); (try first | rw [if_pos hc5n] | rw [if_neg hc5n] | rw [if_neg (not_not_intro hc5n)]); (try first | rw [if_pos hc6n] | rw [if_neg hc6n] | rw [if_neg (not_not_intro hc6n)]); (try first | rw [if_pos hc7n] | rw [if_neg hc7n] | rw [if_neg (not_not_intro hc7n)]); (try first | rw [if_pos hc8n] | rw [if_neg hc8n] | rw [if_neg (not_not_intro hc8n)]); (try first | rw [if_pos hc9n] | rw [if_neg hc9n] | rw [if_neg (not_not_intro hc9n)]); (try first | rw [if_pos hc10n] | rw [if_neg hc10n] | rw [if_neg (not_not_intro hc10n)]); (try first | rw [if_pos hc11n] | rw [if_neg hc11n] | rw [if_neg (not_not_intro hc11n)]); (try first | rw [if_pos hc12n] | rw [if_neg hc12n] | rw [if_neg (not_not_intro hc12n)]); (try first | rw [if_pos hc13n] | rw [if_neg hc13n] | rw [if_neg (not_not_intro hc13n)]); (try first | rw [if_pos hc14n] | rw [if_neg hc14n] | rw [if_neg (not_not_intro hc14n)]); (try first | rw [if_pos hc15n] | rw [if_neg hc15n] | rw [if_neg (not_not_intro hc15n)]); (try first | rw [if_pos hc16n] | rw [if_neg hc16n] | rw [if_neg (not_not_intro hc16n)]); (try first | rw [if_pos hc17n] | rw [if_neg hc17n] | rw [if_neg (not_not_intro hc17n)]); (try first | rw [if_pos hc18] | rw [if_neg hc18] | rw [if_neg (not_not_intro hc18)]); first | done | rfl) | simp_all [plA]) rfl rfl
  refine ⟨fun hc19 => ?_, fun hc19n => ?_⟩
  · show GG _ _ _ _ _ _ _ _ _ _ _ _ _
    refine g_iconst (v := -1) hX (dk DX12_place 16 rfl) (by decide) ?_
    refine g_ireturn hX (dk DX12_place 17 rfl) rfl (rfl) (by decide) (by decide) ?_
    exact rI_of (by first | (unfold plA; (try first | rw [if_pos hc1n] | rw [if_neg hc1n] | rw [if_neg (not_not_intro hc1n)]); (try first | rw [if_pos hc2n] | rw [if_neg hc2n] | rw [if_neg (not_not_intro hc2n)]); (try first | rw [if_pos hc3n] | rw [if_neg hc3n] | rw [if_neg (not_not_intro hc3n)]); (try first | rw [if_pos hc4n] | rw [if_neg hc4n] | rw [if_neg (not_not_intro hc4n)]); (try first | rw [if_pos hc5n] | rw [if_neg hc5n] | rw [if_neg (not_not_intro hc5n)]); (try first | rw [if_pos hc6n] | rw [if_neg hc6n] | rw [if_neg (not_not_intro hc6n)]); (try first | rw [if_pos hc7n] | rw [if_neg hc7n] | rw [if_neg (not_not_intro hc7n)]); (try first | rw [if_pos hc8n] | rw [if_neg hc8n] | rw [if_neg (not_not_intro hc8n)]); (try first | rw [if_pos hc9n] | rw [if_neg hc9n] | rw [if_neg (not_not_intro hc9n)]); (try first | rw [if_pos hc10n] | rw [if_neg hc10n] | rw [if_neg (not_not_intro hc10n)]); (try first | rw [if_pos hc11n] | rw [if_neg hc11n] | rw [if_neg (not_not_intro hc11n)]); (try first | rw [if_pos hc12n] | rw [if_neg hc12n] | rw [if_neg (not_not_intro hc12n)]); (try first | rw [if_pos hc13n] | rw [if_neg hc13n] | rw [if_neg (not_not_intro hc13n)]); (try first | rw [if_pos hc14n] | rw [if_neg hc14n] | rw [if_neg (not_not_intro hc14n)]); (try first | rw [if_pos hc15n] | rw [if_neg hc15n] | rw [if_neg (not_not_intro hc15n)]); (try first | rw [if_pos hc16n] | rw [if_neg hc16n] | rw [if_neg (not_not_intro hc16n)]); (try first | rw [if_pos hc17n] | rw [if_neg hc17n] | rw [if_neg (not_not_intro hc17n)]); (try first | rw [if_pos hc18n] | rw [if_neg hc18n] | rw [if_neg (not_not_intro hc18n)]); (try first | rw [if_pos hc19] | rw [if_neg hc19] | rw [if_neg (not_not_intro hc19)]); first | done | rfl) | simp_all [plA]) rfl rfl
  refine ⟨fun hc20 => ?_, fun hc20n => ?_⟩
  · show GG _ _ _ _ _ _ _ _ _ _ _ _ _
    refine g_iconst (v := 3) hX (dk DX12_place 8 rfl) (by decide) ?_
    refine g_ireturn hX (dk DX12_place 9 rfl) rfl (rfl) (by decide) (by decide) ?_
    exact rI_of (by first | (unfold plA; (try first | rw [if_pos hc1n] | rw [if_neg hc1n] | rw [if_neg (not_not_intro hc1n)]); (try first | rw [if_pos hc2n] | rw [if_neg hc2n] | rw [if_neg (not_not_intro hc2n)]); (try first | rw [if_pos hc3n] | rw [if_neg hc3n] | rw [if_neg (not_not_intro hc3n)]); (try first | rw [if_pos hc4n] | rw [if_neg hc4n] | rw [if_neg (not_not_intro hc4n)]); (try first | rw [if_pos hc5n] | rw [if_neg hc5n] | rw [if_neg (not_not_intro hc5n)]); (try first | rw [if_pos hc6n] | rw [if_neg hc6n] | rw [if_neg (not_not_intro hc6n)]); (try first | rw [if_pos hc7n] | rw [if_neg hc7n] | rw [if_neg (not_not_intro hc7n)]); (try first | rw [if_pos hc8n] | rw [if_neg hc8n] | rw [if_neg (not_not_intro hc8n)]); (try first | rw [if_pos hc9n] | rw [if_neg hc9n] | rw [if_neg (not_not_intro hc9n)]); (try first | rw [if_pos hc10n] | rw [if_neg hc10n] | rw [if_neg (not_not_intro hc10n)]); (try first | rw [if_pos hc11n] | rw [if_neg hc11n] | rw [if_neg (not_not_intro hc11n)]); (try first | rw [if_pos hc12n] | rw [if_neg hc12n] | rw [if_neg (not_not_intro hc12n)]); (try first | rw [if_pos hc13n] | rw [if_neg hc13n] | rw [if_neg (not_not_intro hc13n)]); (try first | rw [if_pos hc14n] | rw [if_neg hc14n] | rw [if_neg (not_not_intro hc14n)]); (try first | rw [if_pos hc15n] | rw [if_neg hc15n] | rw [if_neg (not_not_intro hc15n)]); (try first | rw [if_pos hc16n] | rw [if_neg hc16n] | rw [if_neg (not_not_intro hc16n)]); (try first | rw [if_pos hc17n] | rw [if_neg hc17n] | rw [if_neg (not_not_intro hc17n)]); (try first | rw [if_pos hc18n] | rw [if_neg hc18n] | rw [if_neg (not_not_intro hc18n)]); (try first | rw [if_pos hc19n] | rw [if_neg hc19n] | rw [if_neg (not_not_intro hc19n)]); (try first | rw [if_pos hc20] | rw [if_neg hc20] | rw [if_neg (not_not_intro hc20)]); first | done | rfl) | simp_all [plA]) rfl rfl
  refine ⟨fun hc21 => ?_, fun hc21n => ?_⟩
  · show GG _ _ _ _ _ _ _ _ _ _ _ _ _
    refine g_bipush (v := 6) hX (dk DX12_place 14 rfl) (by decide) ?_
    refine g_ireturn hX (dk DX12_place 15 rfl) rfl (rfl) (by decide) (by decide) ?_
    exact rI_of (by first | (unfold plA; (try first | rw [if_pos hc1n] | rw [if_neg hc1n] | rw [if_neg (not_not_intro hc1n)]); (try first | rw [if_pos hc2n] | rw [if_neg hc2n] | rw [if_neg (not_not_intro hc2n)]); (try first | rw [if_pos hc3n] | rw [if_neg hc3n] | rw [if_neg (not_not_intro hc3n)]); (try first | rw [if_pos hc4n] | rw [if_neg hc4n] | rw [if_neg (not_not_intro hc4n)]); (try first | rw [if_pos hc5n] | rw [if_neg hc5n] | rw [if_neg (not_not_intro hc5n)]); (try first | rw [if_pos hc6n] | rw [if_neg hc6n] | rw [if_neg (not_not_intro hc6n)]); (try first | rw [if_pos hc7n] | rw [if_neg hc7n] | rw [if_neg (not_not_intro hc7n)]); (try first | rw [if_pos hc8n] | rw [if_neg hc8n] | rw [if_neg (not_not_intro hc8n)]); (try first | rw [if_pos hc9n] | rw [if_neg hc9n] | rw [if_neg (not_not_intro hc9n)]); (try first | rw [if_pos hc10n] | rw [if_neg hc10n] | rw [if_neg (not_not_intro hc10n)]); (try first | rw [if_pos hc11n] | rw [if_neg hc11n] | rw [if_neg (not_not_intro hc11n)]); (try first | rw [if_pos hc12n] | rw [if_neg hc12n] | rw [if_neg (not_not_intro hc12n)]); (try first | rw [if_pos hc13n] | rw [if_neg hc13n] | rw [if_neg (not_not_intro hc13n)]); (try first | rw [if_pos hc14n] | rw [if_neg hc14n] | rw [if_neg (not_not_intro hc14n)]); (try first | rw [if_pos hc15n] | rw [if_neg hc15n] | rw [if_neg (not_not_intro hc15n)]); (try first | rw [if_pos hc16n] | rw [if_neg hc16n] | rw [if_neg (not_not_intro hc16n)]); (try first | rw [if_pos hc17n] | rw [if_neg hc17n] | rw [if_neg (not_not_intro hc17n)]); (try first | rw [if_pos hc18n] | rw [if_neg hc18n] | rw [if_neg (not_not_intro hc18n)]); (try first | rw [if_pos hc19n] | rw [if_neg hc19n] | rw [if_neg (not_not_intro hc19n)]); (try first | rw [if_pos hc20n] | rw [if_neg hc20n] | rw [if_neg (not_not_intro hc20n)]); (try first | rw [if_pos hc21] | rw [if_neg hc21] | rw [if_neg (not_not_intro hc21)]); first | done | rfl) | simp_all [plA]) rfl rfl
  refine ⟨fun hc22 => ?_, fun hc22n => ?_⟩
  · show GG _ _ _ _ _ _ _ _ _ _ _ _ _
    refine g_iconst (v := -1) hX (dk DX12_place 16 rfl) (by decide) ?_
    refine g_ireturn hX (dk DX12_place 17 rfl) rfl (rfl) (by decide) (by decide) ?_
    exact rI_of (by first | (unfold plA; (try first | rw [if_pos hc1n] | rw [if_neg hc1n] | rw [if_neg (not_not_intro hc1n)]); (try first | rw [if_pos hc2n] | rw [if_neg hc2n] | rw [if_neg (not_not_intro hc2n)]); (try first | rw [if_pos hc3n] | rw [if_neg hc3n] | rw [if_neg (not_not_intro hc3n)]); (try first | rw [if_pos hc4n] | rw [if_neg hc4n] | rw [if_neg (not_not_intro hc4n)]); (try first | rw [if_pos hc5n] | rw [if_neg hc5n] | rw [if_neg (not_not_intro hc5n)]); (try first | rw [if_pos hc6n] | rw [if_neg hc6n] | rw [if_neg (not_not_intro hc6n)]); (try first | rw [if_pos hc7n] | rw [if_neg hc7n] | rw [if_neg (not_not_intro hc7n)]); (try first | rw [if_pos hc8n] | rw [if_neg hc8n] | rw [if_neg (not_not_intro hc8n)]); (try first | rw [if_pos hc9n] | rw [if_neg hc9n] | rw [if_neg (not_not_intro hc9n)]); (try first | rw [if_pos hc10n] | rw [if_neg hc10n] | rw [if_neg (not_not_intro hc10n)]); (try first | rw [if_pos hc11n] | rw [if_neg hc11n] | rw [if_neg (not_not_intro hc11n)]); (try first | rw [if_pos hc12n] | rw [if_neg hc12n] | rw [if_neg (not_not_intro hc12n)]); (try first | rw [if_pos hc13n] | rw [if_neg hc13n] | rw [if_neg (not_not_intro hc13n)]); (try first | rw [if_pos hc14n] | rw [if_neg hc14n] | rw [if_neg (not_not_intro hc14n)]); (try first | rw [if_pos hc15n] | rw [if_neg hc15n] | rw [if_neg (not_not_intro hc15n)]); (try first | rw [if_pos hc16n] | rw [if_neg hc16n] | rw [if_neg (not_not_intro hc16n)]); (try first | rw [if_pos hc17n] | rw [if_neg hc17n] | rw [if_neg (not_not_intro hc17n)]); (try first | rw [if_pos hc18n] | rw [if_neg hc18n] | rw [if_neg (not_not_intro hc18n)]); (try first | rw [if_pos hc19n] | rw [if_neg hc19n] | rw [if_neg (not_not_intro hc19n)]); (try first | rw [if_pos hc20n] | rw [if_neg hc20n] | rw [if_neg (not_not_intro hc20n)]); (try first | rw [if_pos hc21n] | rw [if_neg hc21n] | rw [if_neg (not_not_intro hc21n)]); (try first | rw [if_pos hc22] | rw [if_neg hc22] | rw [if_neg (not_not_intro hc22)]); first | done | rfl) | simp_all [plA]) rfl rfl
  refine ⟨fun hc23 => ?_, fun hc23n => ?_⟩
  · show GG _ _ _ _ _ _ _ _ _ _ _ _ _
    refine g_iconst (v := 5) hX (dk DX12_place 12 rfl) (by decide) ?_
    refine g_ireturn hX (dk DX12_place 13 rfl) rfl (rfl) (by decide) (by decide) ?_
    exact rI_of (by first | (unfold plA; (try first | rw [if_pos hc1n] | rw [if_neg hc1n] | rw [if_neg (not_not_intro hc1n)]); (try first | rw [if_pos hc2n] | rw [if_neg hc2n] | rw [if_neg (not_not_intro hc2n)]); (try first | rw [if_pos hc3n] | rw [if_neg hc3n] | rw [if_neg (not_not_intro hc3n)]); (try first | rw [if_pos hc4n] | rw [if_neg hc4n] | rw [if_neg (not_not_intro hc4n)]); (try first | rw [if_pos hc5n] | rw [if_neg hc5n] | rw [if_neg (not_not_intro hc5n)]); (try first | rw [if_pos hc6n] | rw [if_neg hc6n] | rw [if_neg (not_not_intro hc6n)]); (try first | rw [if_pos hc7n] | rw [if_neg hc7n] | rw [if_neg (not_not_intro hc7n)]); (try first | rw [if_pos hc8n] | rw [if_neg hc8n] | rw [if_neg (not_not_intro hc8n)]); (try first | rw [if_pos hc9n] | rw [if_neg hc9n] | rw [if_neg (not_not_intro hc9n)]); (try first | rw [if_pos hc10n] | rw [if_neg hc10n] | rw [if_neg (not_not_intro hc10n)]); (try first | rw [if_pos hc11n] | rw [if_neg hc11n] | rw [if_neg (not_not_intro hc11n)]); (try first | rw [if_pos hc12n] | rw [if_neg hc12n] | rw [if_neg (not_not_intro hc12n)]); (try first | rw [if_pos hc13n] | rw [if_neg hc13n] | rw [if_neg (not_not_intro hc13n)]); (try first | rw [if_pos hc14n] | rw [if_neg hc14n] | rw [if_neg (not_not_intro hc14n)]); (try first | rw [if_pos hc15n] | rw [if_neg hc15n] | rw [if_neg (not_not_intro hc15n)]); (try first | rw [if_pos hc16n] | rw [if_neg hc16n] | rw [if_neg (not_not_intro hc16n)]); (try first | rw [if_pos hc17n] | rw [if_neg hc17n] | rw [if_neg (not_not_intro hc17n)]); (try first | rw [if_pos hc18n] | rw [if_neg hc18n] | rw [if_neg (not_not_intro hc18n)]); (try first | rw [if_pos hc19n] | rw [if_neg hc19n] | rw [if_neg (not_not_intro hc19n)]); (try first | rw [if_pos hc20n] | rw [if_neg hc20n] | rw [if_neg (not_not_intro hc20n)]); (try first | rw [if_pos hc21n] | rw [if_neg hc21n] | rw [if_neg (not_not_intro hc21n)]); (try first | rw [if_pos hc22n] | rw [if_neg hc22n] | rw [if_neg (not_not_intro hc22n)]); (try first | rw [if_pos hc23] | rw [if_neg hc23] | rw [if_neg (not_not_intro hc23)]); first | done | rfl) | simp_all [plA]) rfl rfl
  show GG _ _ _ _ _ _ _ _ _ _ _ _ _
  refine g_iconst (v := -1) hX (dk DX12_place 16 rfl) (by decide) ?_
  refine g_ireturn hX (dk DX12_place 17 rfl) rfl (rfl) (by decide) (by decide) ?_
  exact rI_of (by first | (unfold plA; (try first | rw [if_pos hc1n] | rw [if_neg hc1n] | rw [if_neg (not_not_intro hc1n)]); (try first | rw [if_pos hc2n] | rw [if_neg hc2n] | rw [if_neg (not_not_intro hc2n)]); (try first | rw [if_pos hc3n] | rw [if_neg hc3n] | rw [if_neg (not_not_intro hc3n)]); (try first | rw [if_pos hc4n] | rw [if_neg hc4n] | rw [if_neg (not_not_intro hc4n)]); (try first | rw [if_pos hc5n] | rw [if_neg hc5n] | rw [if_neg (not_not_intro hc5n)]); (try first | rw [if_pos hc6n] | rw [if_neg hc6n] | rw [if_neg (not_not_intro hc6n)]); (try first | rw [if_pos hc7n] | rw [if_neg hc7n] | rw [if_neg (not_not_intro hc7n)]); (try first | rw [if_pos hc8n] | rw [if_neg hc8n] | rw [if_neg (not_not_intro hc8n)]); (try first | rw [if_pos hc9n] | rw [if_neg hc9n] | rw [if_neg (not_not_intro hc9n)]); (try first | rw [if_pos hc10n] | rw [if_neg hc10n] | rw [if_neg (not_not_intro hc10n)]); (try first | rw [if_pos hc11n] | rw [if_neg hc11n] | rw [if_neg (not_not_intro hc11n)]); (try first | rw [if_pos hc12n] | rw [if_neg hc12n] | rw [if_neg (not_not_intro hc12n)]); (try first | rw [if_pos hc13n] | rw [if_neg hc13n] | rw [if_neg (not_not_intro hc13n)]); (try first | rw [if_pos hc14n] | rw [if_neg hc14n] | rw [if_neg (not_not_intro hc14n)]); (try first | rw [if_pos hc15n] | rw [if_neg hc15n] | rw [if_neg (not_not_intro hc15n)]); (try first | rw [if_pos hc16n] | rw [if_neg hc16n] | rw [if_neg (not_not_intro hc16n)]); (try first | rw [if_pos hc17n] | rw [if_neg hc17n] | rw [if_neg (not_not_intro hc17n)]); (try first | rw [if_pos hc18n] | rw [if_neg hc18n] | rw [if_neg (not_not_intro hc18n)]); (try first | rw [if_pos hc19n] | rw [if_neg hc19n] | rw [if_neg (not_not_intro hc19n)]); (try first | rw [if_pos hc20n] | rw [if_neg hc20n] | rw [if_neg (not_not_intro hc20n)]); (try first | rw [if_pos hc21n] | rw [if_neg hc21n] | rw [if_neg (not_not_intro hc21n)]); (try first | rw [if_pos hc22n] | rw [if_neg hc22n] | rw [if_neg (not_not_intro hc22n)]); (try first | rw [if_pos hc23n] | rw [if_neg hc23n] | rw [if_neg (not_not_intro hc23n)]); first | done | rfl) | simp_all [plA]) rfl rfl
end
section
set_option maxRecDepth 8000 in
set_option maxHeartbeats 4000000 in
theorem q_takesTest {G : Gt} (hG : Gok G) {I : It} {h : Ht} (hM : HM h) {p c fr : Nat} {tx : Nat → Int32} {n : Nat} {I0 : It} {a : Nat} {cs ws : List Int32} (hp : p < 6) (hZ : MZ p c fr tx n I0 I a cs ws)  : Con G (4) 0 0 mX12_takesTest [.ref 0] I h (qI (fun v J h2 => h2 = h ∧ v = bI ((tsA tx n a).1 = true) ∧ MF p c fr tx n I0 J (tsA tx n a).2.1 ∧ ((tsA tx n a).1 = true → MZ p c fr tx n I0 J (tsA tx n a).2.1 (whA ws (cs ++ [(tsA tx n a).2.2])).1 (whA ws (cs ++ [(tsA tx n a).2.2])).2))) := by
  refine con_intro (own := RX12) (lo0 := [some (.ref 0), none, none]) hG rfl pl_X12 (Nat.le_of_ble_eq_true rfl) rfl (fun X hX => ?_)
  obtain ⟨l1, l2, l3, l4, l5⟩ := hZ.lt
  refine g_aload_0 hX (dk DX12_takesTest 0 rfl) ?_
  refine g_aload_0 hX (dk DX12_takesTest 1 rfl) ?_
  refine g_c1I hX sX12_takesTest_2 (by decide) (Nat.le_of_ble_eq_true rfl) (rc0 rfl (MLt hM (by decide)) (MC hM)) (by decide) (by decide) (q_next hG hM hZ.2.1 hZ.2.2.1) ?_
  refine g_c2I hX sX12_takesTest_5 (by decide) (Nat.le_of_ble_eq_true rfl) (rc0 rfl (MLt hM (by decide)) (MC hM)) (by decide) (by decide) (q_place hG hM) ?_
  refine g_istore_1 hX (dk DX12_takesTest 4 rfl) (by decide) rfl ?_
  refine g_iload_1 hX (dk DX12_takesTest 5 rfl) ?_
  refine g_if_ge (tgt := 15) hX (dk DX12_takesTest 6 rfl) (by decide) (fun hc1 => ?_) (fun hc1 => ?_)
  · have hlt := pl_lt hc1
    refine g_aload_0 hX (dk DX12_takesTest 9 rfl) ?_
    refine g_dup hX (dk DX12_takesTest 10 rfl) rfl ?_
    refine g_getIv hX (dk DX12_takesTest 11 rfl) KX12 fX12_65 (by decide) rfl (MLt hM (by decide)) (MC hM) (hZ.2.2.1.1) ?_
    refine g_iconst (v := 1) hX (dk DX12_takesTest 12 rfl) (by decide) ?_
    refine g_iadd hX (dk DX12_takesTest 13 rfl) ?_
    refine g_nmI (nI (a + 1)) (nI_1 a) ?_
    refine g_putI hX (dk DX12_takesTest 14 rfl) KX12 fX12_65 (by decide) rfl (MLt hM (by decide)) (MC hM) (Or.inl rfl) (rfl) (rfl) ?_
    refine g_aload_0 hX (dk DX12_takesTest 15 rfl) ?_
    refine g_c1I hX sX12_takesTest_26 (by decide) (Nat.le_of_ble_eq_true rfl) (rc0 rfl (MLt hM (by decide)) (MC hM)) (by decide) (by decide) (q_next hG hM hZ.2.1.w (AT.w (b := a + 1) (by omega))) ?_
    refine g_istore_2 hX (dk DX12_takesTest 17 rfl) (by decide) rfl ?_
    refine g_aload_0 hX (dk DX12_takesTest 18 rfl) ?_
    refine g_iload_2 hX (dk DX12_takesTest 19 rfl) ?_
    refine g_bipush (v := 60) hX (dk DX12_takesTest 20 rfl) (by decide) ?_
    refine g_bipush (v := 62) hX (dk DX12_takesTest 21 rfl) (by decide) ?_
    refine g_c4I hX sX12_takesTest_36 (by decide) (Nat.le_of_ble_eq_true rfl) (rc0 rfl (MLt hM (by decide)) (MC hM)) (by decide) (by decide) (c_X12_in hG) ?_
    refine g_ifb_ne (tgt := 44) hX (dk DX12_takesTest 23 rfl) (by decide) (fun hc2 => ?_) (fun hc2 => ?_)
    · have hr2 := hc2
      have hlt2 := in_lt hc2
      refine g_aload_0 hX (dk DX12_takesTest 26 rfl) ?_
      refine g_dup hX (dk DX12_takesTest 27 rfl) rfl ?_
      refine g_getIv hX (dk DX12_takesTest 28 rfl) KX12 fX12_65 (by decide) rfl (MLt hM (by decide)) (MC hM) ((show _ = nI (a + 1) from rfl)) ?_
      refine g_iconst (v := 1) hX (dk DX12_takesTest 29 rfl) (by decide) ?_
      refine g_iadd hX (dk DX12_takesTest 30 rfl) ?_
      refine g_nmI (nI (a + 2)) (nI_1 (a + 1)) ?_
      refine g_putI hX (dk DX12_takesTest 31 rfl) KX12 fX12_65 (by decide) rfl (MLt hM (by decide)) (MC hM) (Or.inl rfl) (rfl) (rfl) ?_
      rw [up_up]
      refine g_aload_0 hX (dk DX12_takesTest 32 rfl) ?_
      refine g_c1q hX sX12_takesTest_55 (by decide) (Nat.le_of_ble_eq_true rfl) (rc0 rfl (MLt hM (by decide)) (MC hM)) (by decide) (by decide) (q_takesNumber hG hM (a := a + 2) hZ.2.1.w (AT.w (by omega))) ?_
      rintro v J9 h9 ⟨rfl, rfl, rfl⟩
      refine g_ifb_ne (tgt := 63) hX (dk DX12_takesTest 34 rfl) (by decide) (fun hc3 => ?_) (fun hc3 => ?_)
      · have hd := hc3
        rw [if_pos hd, W2_w, W2_c]
        have hnu := nuA_le (X := tx) (n := n) (a := a + 2) (by omega)
        have hng := nuA_gt hd
        refine g_aload_0 hX (dk DX12_takesTest 37 rfl) ?_
        refine g_sipush (v := 1000) hX (dk DX12_takesTest 38 rfl) (by decide) ?_
        refine g_iload_1 hX (dk DX12_takesTest 39 rfl) ?_
        refine g_imul hX (dk DX12_takesTest 40 rfl) ?_
        refine g_bipush (v := 100) hX (dk DX12_takesTest 41 rfl) (by decide) ?_
        refine g_iload_2 hX (dk DX12_takesTest 42 rfl) ?_
        refine g_bipush (v := 60) hX (dk DX12_takesTest 43 rfl) (by decide) ?_
        refine g_isub hX (dk DX12_takesTest 44 rfl) ?_
        refine g_imul hX (dk DX12_takesTest 45 rfl) ?_
        refine g_iadd hX (dk DX12_takesTest 46 rfl) ?_
        refine g_aload_0 hX (dk DX12_takesTest 47 rfl) ?_
        refine g_getIv hX (dk DX12_takesTest 48 rfl) KX12 fX12_68 (by decide) rfl (MLt hM (by decide)) (MC hM) ((show _ = nvA tx n (a + 2) from rfl)) ?_
        refine g_iadd hX (dk DX12_takesTest 49 rfl) ?_
        refine g_c2V hX sX12_takesTest_82 (by decide) (Nat.le_of_ble_eq_true rfl) (rc0 rfl (MLt hM (by decide)) (MC hM)) (by decide) (by decide) (q_put hG hM (s := fr + cs.length) (show _ = _ from hZ.2.2.2.1.1) (by omega)) ?_
        refine g_aload_0 hX (dk DX12_takesTest 51 rfl) ?_
        refine g_c1v hX sX12_takesTest_86 (by decide) (Nat.le_of_ble_eq_true rfl) (rc0 rfl (MLt hM (by decide)) (MC hM)) (by decide) (by decide) (q_whole hG hM hp (hZ.dg.code (b := nuA tx n (a + 2)) (by omega) hnu)) ?_
        rintro J8 _ ⟨rfl, hZ8⟩
        refine g_iconst (v := 1) hX (dk DX12_takesTest 53 rfl) (by decide) ?_
        refine g_ireturn hX (dk DX12_takesTest 54 rfl) rfl (by decide) (by decide) (by decide) ?_
        have e : tsA tx n a = (true, nuA tx n (a + 2), 1000 * plA (nxA tx n a) + 100 * (nxA tx n (a + 1) - 60) + nvA tx n (a + 2)) := by unfold tsA; rw [if_neg (Int32.not_lt.mpr (by assumption)), if_neg (not_not_intro hr2), if_neg (not_not_intro hd)]
        rw [e]
        exact qI_of ⟨rfl, rfl, hZ8.mf, fun _ => hZ8⟩
      · refine g_iconst (v := 0) hX (dk DX12_takesTest 35 rfl) (by decide) ?_
        refine g_ireturn hX (dk DX12_takesTest 36 rfl) rfl (by decide) (by decide) (by decide) ?_
        have e : tsA tx n a = (false, a + 2, 0) := by unfold tsA; rw [if_neg (Int32.not_lt.mpr (by assumption)), if_neg (not_not_intro hr2), if_pos (by assumption)]
        rw [e, if_neg (by assumption)]
        exact qI_of ⟨rfl, rfl, (hZ.at (b := a + 2) (by omega) hlt2).mf, fun z => absurd (show false = true from z) Bool.false_ne_true⟩
    · refine g_iconst (v := 0) hX (dk DX12_takesTest 24 rfl) (by decide) ?_
      refine g_ireturn hX (dk DX12_takesTest 25 rfl) rfl (by decide) (by decide) (by decide) ?_
      have e : tsA tx n a = (false, a + 1, 0) := by unfold tsA; rw [if_neg (Int32.not_lt.mpr (by assumption)), if_pos (by assumption)]
      rw [e]
      exact qI_of ⟨rfl, rfl, (hZ.at (Nat.le_succ a) hlt).mf, fun z => absurd (show false = true from z) Bool.false_ne_true⟩
  · refine g_iconst (v := 0) hX (dk DX12_takesTest 7 rfl) (by decide) ?_
    refine g_ireturn hX (dk DX12_takesTest 8 rfl) rfl (by decide) (by decide) (by decide) ?_
    have e : tsA tx n a = (false, a, 0) := by unfold tsA; rw [if_pos (Int32.not_le.mp (by assumption))]
    rw [e]
    exact qI_of ⟨rfl, rfl, hZ.mf, fun z => absurd (show false = true from z) Bool.false_ne_true⟩
end
section
set_option maxRecDepth 8000 in
set_option maxHeartbeats 4000000 in
theorem q_takesE {G : Gt} (hG : Gok G) {I : It} {h : Ht} (hM : HM h) {p c fr : Nat} {tx : Nat → Int32} {n a : Nat} (hp : p < 6) (hc : c < 60) (hT : TX tx n I) (hA : AT n a I) (h28 : I 0 28 = nI fr) (h1 : 100 * p ≤ fr) (h2 : fr ≤ 100 * p + a)  : Con G (6) 0 0 mX12_takesE [.ref 0, .int (nI c)] I h (qI (fun v J h2 => h2 = h ∧ v = bI ((amR tx n 101 true a [] []).1 = true) ∧ FrE p c fr (teI I c (nI fr)) J ∧ TX tx n J ∧ AT n (amR tx n 101 true a [] []).2.1 J ∧ ((amR tx n 101 true a [] []).1 = true → J 14 c = nI (fr + (amR tx n 101 true a [] []).2.2.length) ∧ CD fr J (amR tx n 101 true a [] []).2.2 ∧ J 0 28 = nI (fr + (amR tx n 101 true a [] []).2.2.length) ∧ fr + (amR tx n 101 true a [] []).2.2.length ≤ 100 * p + (amR tx n 101 true a [] []).2.1))) := by
  refine con_intro (own := RX12) (lo0 := [some (.ref 0), some (.int (nI c)), none, none]) hG rfl pl_X12 (Nat.le_of_ble_eq_true rfl) rfl (fun X hX => ?_)
  have hn100 := hT.2.1
  have han := hA.2
  have loop22 : ∀ (f : Nat) (w : Bool) (a2 : Nat) (cs ws : List Int32) (J : It), n + 1 ≤ f + a2 → okW ws → MZ p c fr tx n (teI I c (nI fr)) J a2 cs ws → amR tx n f w a2 cs ws = (amR tx n 101 true a [] []) → GG G (6) 0 0 X (qI (fun v J h2 => h2 = h ∧ v = bI ((amR tx n 101 true a [] []).1 = true) ∧ FrE p c fr (teI I c (nI fr)) J ∧ TX tx n J ∧ AT n (amR tx n 101 true a [] []).2.1 J ∧ ((amR tx n 101 true a [] []).1 = true → J 14 c = nI (fr + (amR tx n 101 true a [] []).2.2.length) ∧ CD fr J (amR tx n 101 true a [] []).2.2 ∧ J 0 28 = nI (fr + (amR tx n 101 true a [] []).2.2.length) ∧ fr + (amR tx n 101 true a [] []).2.2.length ≤ 100 * p + (amR tx n 101 true a [] []).2.1))) 22 [some (.ref 0), some (.int (nI c)), some (.int (b2 w)), none] [] (J) (h) 0 0 := by
    intro f
    induction f using Nat.strongRecOn with | _ f ih => ?_
    intro w a2 cs ws J hf hw hZ hv
    obtain ⟨l1, l2, l3, l4, l5⟩ := hZ.lt
    obtain ⟨f, rfl⟩ : ∃ z, f = z + 1 := ⟨f - 1, by omega⟩
    refine g_aload_0 hX (dk DX12_takesE_0 14 rfl) ?_
    refine g_c1I hX sX12_takesE_23 (by decide) (Nat.le_of_ble_eq_true rfl) (rc0 rfl (MLt hM (by decide)) (MC hM)) (by decide) (by decide) (q_next hG hM hZ.2.1 hZ.2.2.1) ?_
    refine g_istore_3 hX (dk DX12_takesE_0 16 rfl) (by decide) rfl ?_
    refine g_iload_2 hX (dk DX12_takesE_0 17 rfl) ?_
    refine g_if_eq (tgt := 110) hX (dk DX12_takesE_0 18 rfl) (by decide) (fun hc1 => ?_) (fun hc1 => ?_)
    · have hwt : w = false := by
        cases w
        · rfl
        · exact absurd hc1 (by decide)
      subst hwt
      refine g_iload_3 hX (dk DX12_takesE_1 4 rfl) ?_
      refine g_bipush (v := 38) hX (dk DX12_takesE_1 5 rfl) (by decide) ?_
      refine g_icmp_eq (tgt := 122) hX (dk DX12_takesE_1 6 rfl) (by decide) (fun hc2 => ?_) (fun hc2 => ?_)
      · have hb : nxA tx n a2 = 38 ∨ nxA tx n a2 = 124 := by first | exact Or.inl (by assumption) | exact Or.inr (by assumption)
        have hlt : a2 < n := by rcases hb with z | z <;> exact nxA_no (by decide) z
        have hb3 : ¬ (nxA tx n a2 = 33 ∨ nxA tx n a2 = 40) := by rcases hb with z | z <;> rw [z] <;> decide
        refine g_aload_0 hX (dk DX12_takesE_1 10 rfl) ?_
        refine g_iload_3 hX (dk DX12_takesE_1 11 rfl) ?_
        refine g_c2v hX sX12_takesE_124 (by decide) (Nat.le_of_ble_eq_true rfl) (rc0 rfl (MLt hM (by decide)) (MC hM)) (by decide) (by decide) (q_settle hG hM hp hZ) ?_
        rintro J9 _ ⟨rfl, hZ9⟩
        obtain ⟨m1, m2, m3, m4, m5⟩ := hZ9.lt
        refine g_aload_0 hX (dk DX12_takesE_1 13 rfl) ?_
        refine g_getRs (r := 16) hX (dk DX12_takesE_1 14 rfl) KX12 fX12_92 (by decide) rfl (MLt hM (by decide)) (MC hM) (MR hM 27 (by decide) rfl) ?_
        refine g_aload_0 hX (dk DX12_takesE_1 15 rfl) ?_
        refine g_getIv hX (dk DX12_takesE_1 16 rfl) KX12 fX12_98 (by decide) rfl (MLt hM (by decide)) (MC hM) (hZ9.2.2.2.2.2.1) ?_
        refine g_iload_3 hX (dk DX12_takesE_1 17 rfl) ?_
        refine i_iastore hX (dk DX12_takesE_1 18 rfl) (MLt hM (q := 16) (by decide)) (MS hM 16 (by decide) rfl) (⟨rfl, by omega, by decide⟩) ?_
        refine g_aload_0 hX (dk DX12_takesE_1 19 rfl) ?_
        refine g_dup hX (dk DX12_takesE_1 20 rfl) rfl ?_
        refine g_getIv hX (dk DX12_takesE_1 21 rfl) KX12 fX12_98 (by decide) rfl (MLt hM (by decide)) (MC hM) ((show _ = nI (seA (nxA tx n a2) ws cs).2.length from hZ9.2.2.2.2.2.1)) ?_
        refine g_iconst (v := 1) hX (dk DX12_takesE_1 22 rfl) (by decide) ?_
        refine g_iadd hX (dk DX12_takesE_1 23 rfl) ?_
        refine g_nmI (nI ((seA (nxA tx n a2) ws cs).2.length + 1)) (nI_1 _) ?_
        refine g_putI hX (dk DX12_takesE_1 24 rfl) KX12 fX12_98 (by decide) rfl (MLt hM (by decide)) (MC hM) (Or.inl rfl) (rfl) (rfl) ?_
        refine g_iconst (v := 1) hX (dk DX12_takesE_1 25 rfl) (by decide) ?_
        refine g_istore_2 hX (dk DX12_takesE_1 26 rfl) (by decide) rfl ?_
        refine g_aload_0 hX (dk DX12_takesE_1 27 rfl) ?_
        refine g_dup hX (dk DX12_takesE_1 28 rfl) rfl ?_
        refine g_getIv hX (dk DX12_takesE_1 29 rfl) KX12 fX12_65 (by decide) rfl (MLt hM (by decide)) (MC hM) ((show _ = nI a2 from hZ9.2.2.1.1)) ?_
        refine g_iconst (v := 1) hX (dk DX12_takesE_1 30 rfl) (by decide) ?_
        refine g_iadd hX (dk DX12_takesE_1 31 rfl) ?_
        refine g_nmI (nI (a2 + 1)) (nI_1 _) ?_
        refine g_putI hX (dk DX12_takesE_1 32 rfl) KX12 fX12_65 (by decide) rfl (MLt hM (by decide)) (MC hM) (Or.inl rfl) (rfl) (rfl) ?_
        refine g_goto (tgt := 22) hX (dk DX12_takesE_1 33 rfl) (by decide) ?_
        first
        | exact g_fgt (ih f (by omega) true (a2 + 1) cs (nxA tx n a2 :: ws) _ (by omega) (hw.cn (by rcases ho with z | z <;> rw [z] <;> decide)) (hZ.push hlt (by rw [opn_c, if_pos ho])) (by rw [← hv, am_o ho h4])) ⟨rfl, rfl, rfl, trivial⟩
        | exact g_fgt (ih f (by omega) false _ _ _ _ (by have := ts_gt hts; omega) (hw.wh _) (hZ9 hts) (by rw [← hv, am_t hno hts])) ⟨rfl, rfl, rfl, trivial⟩
        | exact g_fgt (ih f (by omega) true (a2 + 1) _ (nxA tx n a2 :: (seA (nxA tx n a2) ws cs).2) _ (by omega) ((hw.se _).cn (by rcases hb with z | z <;> rw [z] <;> decide)) (hZ9.push0 hlt hb3) (by rw [← hv, am_b hb])) ⟨rfl, rfl, rfl, trivial⟩
        | exact g_fgt (ih f (by omega) false (a2 + 1) _ _ _ (by omega) (hw10.wh _) hZ8 (by rw [← hv, am_c hnb hne h41, ext]; rfl)) ⟨rfl, rfl, rfl, trivial⟩
      · refine g_iload_3 hX (dk DX12_takesE_1 7 rfl) ?_
        refine g_bipush (v := 124) hX (dk DX12_takesE_1 8 rfl) (by decide) ?_
        refine g_icmp_ne (tgt := 162) hX (dk DX12_takesE_1 9 rfl) (by decide) (fun hc3 => ?_) (fun hc3 => ?_)
        · have hnb : ¬ (nxA tx n a2 = 38 ∨ nxA tx n a2 = 124) := by rintro (z | z) <;> contradiction
          refine g_aload_0 hX (dk DX12_takesE_1 34 rfl) ?_
          refine g_bipush (v := 124) hX (dk DX12_takesE_1 35 rfl) (by decide) ?_
          refine g_c2v hX sX12_takesE_165 (by decide) (Nat.le_of_ble_eq_true rfl) (rc0 rfl (MLt hM (by decide)) (MC hM)) (by decide) (by decide) (q_settle hG hM hp hZ) ?_
          rintro J9 _ ⟨rfl, hZ9⟩
          obtain ⟨m1, m2, m3, m4, m5⟩ := hZ9.lt
          refine g_aload_0 hX (dk DX12_takesE_1 37 rfl) ?_
          refine g_getRs (r := 14) hX (dk DX12_takesE_1 38 rfl) KX12 fX12_86 (by decide) rfl (MLt hM (by decide)) (MC hM) (MR hM 25 (by decide) rfl) ?_
          refine g_iload_1 hX (dk DX12_takesE_1 39 rfl) ?_
          refine g_aload_0 hX (dk DX12_takesE_1 40 rfl) ?_
          refine g_getIv hX (dk DX12_takesE_1 41 rfl) KX12 fX12_95 (by decide) rfl (MLt hM (by decide)) (MC hM) (hZ9.2.2.2.1.1) ?_
          refine i_iastore hX (dk DX12_takesE_1 42 rfl) (MLt hM (q := 14) (by decide)) (MS hM 14 (by decide) rfl) (⟨rfl, hc, by decide⟩) ?_
          refine g_aload_0 hX (dk DX12_takesE_1 43 rfl) ?_
          refine g_getIv hX (dk DX12_takesE_1 44 rfl) KX12 fX12_98 (by decide) rfl (MLt hM (by decide)) (MC hM) ((show _ = nI (seA 124 ws cs).2.length from hZ9.2.2.2.2.2.1)) ?_
          refine g_if_ne (tgt := 187) hX (dk DX12_takesE_1 45 rfl) (by decide) (fun hc4 => ?_) (fun hc4 => ?_)
          · obtain ⟨x, t, ext⟩ := cons_0 (by omega) hc4
            have hne : ¬ (seA 124 ws cs).2 = [] := by rw [ext]; exact List.cons_ne_nil _ _
            refine g_iload_3 hX (dk DX12_takesE_1 48 rfl) ?_
            refine g_bipush (v := 41) hX (dk DX12_takesE_1 49 rfl) (by decide) ?_
            refine g_icmp_eq (tgt := 195) hX (dk DX12_takesE_1 50 rfl) (by decide) (fun hc5 => ?_) (fun hc5 => ?_)
            · have h41 := hc5
              have hlt : a2 < n := nxA_no (by decide) h41
              have hx : x = 33 ∨ x = 40 := by
                have q1 := hw.se (s := 124) cs x (by rw [ext]; exact List.mem_cons_self)
                have q2 := se_top ext
                rcases q1 with z | z | z | z
                · exact Or.inl z
                · exact Or.inr z
                · exact absurd z q2.1
                · exact absurd z q2.2
              have hw10 : okW t := by have q1 := hw.se (s := 124) cs; rw [ext] at q1; exact q1.tl
              have hZ10 := hZ9.w14 (x := nI (fr + (seA 124 ws cs).1.length))
              rw [ext] at hZ10
              have ho10 := hZ10.2.2.2.2.2.2.2.trans (show nI (opn (x :: t)) = nI (opn t + 1) by rw [opn_c, if_pos hx])
              refine g_aload_0 hX (dk DX12_takesE_1 53 rfl) ?_
              refine g_dup hX (dk DX12_takesE_1 54 rfl) rfl ?_
              refine g_getIv hX (dk DX12_takesE_1 55 rfl) KX12 fX12_98 (by decide) rfl (MLt hM (by decide)) (MC hM) ((show _ = nI (t.length + 1) from hZ10.2.2.2.2.2.1)) ?_
              refine g_iconst (v := 1) hX (dk DX12_takesE_1 56 rfl) (by decide) ?_
              refine g_isub hX (dk DX12_takesE_1 57 rfl) ?_
              refine g_nmI (nI t.length) (nI_pred _) ?_
              refine g_putI hX (dk DX12_takesE_1 58 rfl) KX12 fX12_98 (by decide) rfl (MLt hM (by decide)) (MC hM) (Or.inl rfl) (rfl) (rfl) ?_
              refine g_aload_0 hX (dk DX12_takesE_1 59 rfl) ?_
              refine g_dup hX (dk DX12_takesE_2 0 rfl) rfl ?_
              refine g_getIv hX (dk DX12_takesE_2 1 rfl) KX12 fX12_101 (by decide) rfl (MLt hM (by decide)) (MC hM) ((show _ = nI (opn t + 1) from ho10)) ?_
              refine g_iconst (v := 1) hX (dk DX12_takesE_2 2 rfl) (by decide) ?_
              refine g_isub hX (dk DX12_takesE_2 3 rfl) ?_
              refine g_nmI (nI (opn t)) (nI_pred _) ?_
              refine g_putI hX (dk DX12_takesE_2 4 rfl) KX12 fX12_101 (by decide) rfl (MLt hM (by decide)) (MC hM) (Or.inl rfl) (rfl) (rfl) ?_
              refine g_aload_0 hX (dk DX12_takesE_2 5 rfl) ?_
              refine g_dup hX (dk DX12_takesE_2 6 rfl) rfl ?_
              refine g_getIv hX (dk DX12_takesE_2 7 rfl) KX12 fX12_65 (by decide) rfl (MLt hM (by decide)) (MC hM) ((show _ = nI a2 from hZ9.2.2.1.1)) ?_
              refine g_iconst (v := 1) hX (dk DX12_takesE_2 8 rfl) (by decide) ?_
              refine g_iadd hX (dk DX12_takesE_2 9 rfl) ?_
              refine g_nmI (nI (a2 + 1)) (nI_1 _) ?_
              refine g_putI hX (dk DX12_takesE_2 10 rfl) KX12 fX12_65 (by decide) rfl (MLt hM (by decide)) (MC hM) (Or.inl rfl) (rfl) (rfl) ?_
              refine g_aload_0 hX (dk DX12_takesE_2 11 rfl) ?_
              refine g_c1v hX sX12_takesE_226 (by decide) (Nat.le_of_ble_eq_true rfl) (rc0 rfl (MLt hM (by decide)) (MC hM)) (by decide) (by decide) (q_whole hG hM hp (hZ10.pop hlt)) ?_
              rintro J8 _ ⟨rfl, hZ8⟩
              refine g_goto (tgt := 22) hX (dk DX12_takesE_2 13 rfl) (by decide) ?_
              first
              | exact g_fgt (ih f (by omega) true (a2 + 1) cs (nxA tx n a2 :: ws) _ (by omega) (hw.cn (by rcases ho with z | z <;> rw [z] <;> decide)) (hZ.push hlt (by rw [opn_c, if_pos ho])) (by rw [← hv, am_o ho h4])) ⟨rfl, rfl, rfl, trivial⟩
              | exact g_fgt (ih f (by omega) false _ _ _ _ (by have := ts_gt hts; omega) (hw.wh _) (hZ9 hts) (by rw [← hv, am_t hno hts])) ⟨rfl, rfl, rfl, trivial⟩
              | exact g_fgt (ih f (by omega) true (a2 + 1) _ (nxA tx n a2 :: (seA (nxA tx n a2) ws cs).2) _ (by omega) ((hw.se _).cn (by rcases hb with z | z <;> rw [z] <;> decide)) (hZ9.push0 hlt hb3) (by rw [← hv, am_b hb])) ⟨rfl, rfl, rfl, trivial⟩
              | exact g_fgt (ih f (by omega) false (a2 + 1) _ _ _ (by omega) (hw10.wh _) hZ8 (by rw [← hv, am_c hnb hne h41, ext]; rfl)) ⟨rfl, rfl, rfl, trivial⟩
            · refine g_iconst (v := 0) hX (dk DX12_takesE_1 51 rfl) (by decide) ?_
              refine g_ireturn hX (dk DX12_takesE_1 52 rfl) rfl (by decide) (by decide) (by decide) ?_
              have e := am_x (f := f) hnb hne (by assumption)
              rw [e] at hv
              rw [← hv]
              exact qI_of ⟨rfl, rfl, (hZ9.w14).mf.1, (hZ9.w14).mf.2.1, (hZ9.w14).mf.2.2, fun z => absurd (show false = true from z) Bool.false_ne_true⟩
          · refine g_iconst (v := 1) hX (dk DX12_takesE_1 46 rfl) (by decide) ?_
            refine g_ireturn hX (dk DX12_takesE_1 47 rfl) rfl (by decide) (by decide) (by decide) ?_
            have hnil := nil_0 (by omega) (show nI (seA 124 ws cs).2.length = 0 by assumption)
            have e := am_e (f := f) hnb hnil
            rw [e] at hv
            rw [← hv]
            have hZ10 := hZ9.w14 (x := nI (fr + (seA 124 ws cs).1.length))
            exact qI_of ⟨rfl, rfl, hZ10.1, hZ10.2.1, hZ10.2.2.1, fun _ => ⟨up0 _ _ _ _, hZ10.2.2.2.2.1, hZ10.2.2.2.1.1, by show fr + (seA 124 ws cs).1.length ≤ 100 * p + a2; omega⟩⟩
        · have hb : nxA tx n a2 = 38 ∨ nxA tx n a2 = 124 := by first | exact Or.inl (by assumption) | exact Or.inr (by assumption)
          have hlt : a2 < n := by rcases hb with z | z <;> exact nxA_no (by decide) z
          have hb3 : ¬ (nxA tx n a2 = 33 ∨ nxA tx n a2 = 40) := by rcases hb with z | z <;> rw [z] <;> decide
          refine g_aload_0 hX (dk DX12_takesE_1 10 rfl) ?_
          refine g_iload_3 hX (dk DX12_takesE_1 11 rfl) ?_
          refine g_c2v hX sX12_takesE_124 (by decide) (Nat.le_of_ble_eq_true rfl) (rc0 rfl (MLt hM (by decide)) (MC hM)) (by decide) (by decide) (q_settle hG hM hp hZ) ?_
          rintro J9 _ ⟨rfl, hZ9⟩
          obtain ⟨m1, m2, m3, m4, m5⟩ := hZ9.lt
          refine g_aload_0 hX (dk DX12_takesE_1 13 rfl) ?_
          refine g_getRs (r := 16) hX (dk DX12_takesE_1 14 rfl) KX12 fX12_92 (by decide) rfl (MLt hM (by decide)) (MC hM) (MR hM 27 (by decide) rfl) ?_
          refine g_aload_0 hX (dk DX12_takesE_1 15 rfl) ?_
          refine g_getIv hX (dk DX12_takesE_1 16 rfl) KX12 fX12_98 (by decide) rfl (MLt hM (by decide)) (MC hM) (hZ9.2.2.2.2.2.1) ?_
          refine g_iload_3 hX (dk DX12_takesE_1 17 rfl) ?_
          refine i_iastore hX (dk DX12_takesE_1 18 rfl) (MLt hM (q := 16) (by decide)) (MS hM 16 (by decide) rfl) (⟨rfl, by omega, by decide⟩) ?_
          refine g_aload_0 hX (dk DX12_takesE_1 19 rfl) ?_
          refine g_dup hX (dk DX12_takesE_1 20 rfl) rfl ?_
          refine g_getIv hX (dk DX12_takesE_1 21 rfl) KX12 fX12_98 (by decide) rfl (MLt hM (by decide)) (MC hM) ((show _ = nI (seA (nxA tx n a2) ws cs).2.length from hZ9.2.2.2.2.2.1)) ?_
          refine g_iconst (v := 1) hX (dk DX12_takesE_1 22 rfl) (by decide) ?_
          refine g_iadd hX (dk DX12_takesE_1 23 rfl) ?_
          refine g_nmI (nI ((seA (nxA tx n a2) ws cs).2.length + 1)) (nI_1 _) ?_
          refine g_putI hX (dk DX12_takesE_1 24 rfl) KX12 fX12_98 (by decide) rfl (MLt hM (by decide)) (MC hM) (Or.inl rfl) (rfl) (rfl) ?_
          refine g_iconst (v := 1) hX (dk DX12_takesE_1 25 rfl) (by decide) ?_
          refine g_istore_2 hX (dk DX12_takesE_1 26 rfl) (by decide) rfl ?_
          refine g_aload_0 hX (dk DX12_takesE_1 27 rfl) ?_
          refine g_dup hX (dk DX12_takesE_1 28 rfl) rfl ?_
          refine g_getIv hX (dk DX12_takesE_1 29 rfl) KX12 fX12_65 (by decide) rfl (MLt hM (by decide)) (MC hM) ((show _ = nI a2 from hZ9.2.2.1.1)) ?_
          refine g_iconst (v := 1) hX (dk DX12_takesE_1 30 rfl) (by decide) ?_
          refine g_iadd hX (dk DX12_takesE_1 31 rfl) ?_
          refine g_nmI (nI (a2 + 1)) (nI_1 _) ?_
          refine g_putI hX (dk DX12_takesE_1 32 rfl) KX12 fX12_65 (by decide) rfl (MLt hM (by decide)) (MC hM) (Or.inl rfl) (rfl) (rfl) ?_
          refine g_goto (tgt := 22) hX (dk DX12_takesE_1 33 rfl) (by decide) ?_
          first
          | exact g_fgt (ih f (by omega) true (a2 + 1) cs (nxA tx n a2 :: ws) _ (by omega) (hw.cn (by rcases ho with z | z <;> rw [z] <;> decide)) (hZ.push hlt (by rw [opn_c, if_pos ho])) (by rw [← hv, am_o ho h4])) ⟨rfl, rfl, rfl, trivial⟩
          | exact g_fgt (ih f (by omega) false _ _ _ _ (by have := ts_gt hts; omega) (hw.wh _) (hZ9 hts) (by rw [← hv, am_t hno hts])) ⟨rfl, rfl, rfl, trivial⟩
          | exact g_fgt (ih f (by omega) true (a2 + 1) _ (nxA tx n a2 :: (seA (nxA tx n a2) ws cs).2) _ (by omega) ((hw.se _).cn (by rcases hb with z | z <;> rw [z] <;> decide)) (hZ9.push0 hlt hb3) (by rw [← hv, am_b hb])) ⟨rfl, rfl, rfl, trivial⟩
          | exact g_fgt (ih f (by omega) false (a2 + 1) _ _ _ (by omega) (hw10.wh _) hZ8 (by rw [← hv, am_c hnb hne h41, ext]; rfl)) ⟨rfl, rfl, rfl, trivial⟩
    · have hwt : w = true := by
        cases w
        · exact absurd rfl hc1
        · rfl
      subst hwt
      refine g_iload_3 hX (dk DX12_takesE_0 19 rfl) ?_
      refine g_bipush (v := 33) hX (dk DX12_takesE_0 20 rfl) (by decide) ?_
      refine g_icmp_eq (tgt := 43) hX (dk DX12_takesE_0 21 rfl) (by decide) (fun hc6 => ?_) (fun hc6 => ?_)
      · have ho : nxA tx n a2 = 33 ∨ nxA tx n a2 = 40 := by first | exact Or.inl (by assumption) | exact Or.inr (by assumption)
        have hlt : a2 < n := by rcases ho with z | z <;> exact nxA_no (by decide) z
        have hol := opn_le ws
        refine g_aload_0 hX (dk DX12_takesE_0 25 rfl) ?_
        refine g_getIv hX (dk DX12_takesE_0 26 rfl) KX12 fX12_101 (by decide) rfl (MLt hM (by decide)) (MC hM) (hZ.2.2.2.2.2.2.2) ?_
        refine g_iconst (v := 4) hX (dk DX12_takesE_0 27 rfl) (by decide) ?_
        refine g_icmp_ne (tgt := 53) hX (dk DX12_takesE_0 28 rfl) (by decide) (fun hc7 => ?_) (fun hc7 => ?_)
        · have h4 : ¬ opn ws = 4 := fun z => hc7 (by rw [z]; rfl)
          refine g_aload_0 hX (dk DX12_takesE_0 31 rfl) ?_
          refine g_dup hX (dk DX12_takesE_0 32 rfl) rfl ?_
          refine g_getIv hX (dk DX12_takesE_0 33 rfl) KX12 fX12_101 (by decide) rfl (MLt hM (by decide)) (MC hM) (hZ.2.2.2.2.2.2.2) ?_
          refine g_iconst (v := 1) hX (dk DX12_takesE_0 34 rfl) (by decide) ?_
          refine g_iadd hX (dk DX12_takesE_0 35 rfl) ?_
          refine g_nmI (nI (opn ws + 1)) (nI_1 _) ?_
          refine g_putI hX (dk DX12_takesE_0 36 rfl) KX12 fX12_101 (by decide) rfl (MLt hM (by decide)) (MC hM) (Or.inl rfl) (rfl) (rfl) ?_
          refine g_aload_0 hX (dk DX12_takesE_0 37 rfl) ?_
          refine g_getRs (r := 16) hX (dk DX12_takesE_0 38 rfl) KX12 fX12_92 (by decide) rfl (MLt hM (by decide)) (MC hM) (MR hM 27 (by decide) rfl) ?_
          refine g_aload_0 hX (dk DX12_takesE_0 39 rfl) ?_
          refine g_getIv hX (dk DX12_takesE_0 40 rfl) KX12 fX12_98 (by decide) rfl (MLt hM (by decide)) (MC hM) ((show _ = nI ws.length from hZ.2.2.2.2.2.1)) ?_
          refine g_iload_3 hX (dk DX12_takesE_0 41 rfl) ?_
          refine i_iastore hX (dk DX12_takesE_0 42 rfl) (MLt hM (q := 16) (by decide)) (MS hM 16 (by decide) rfl) (⟨rfl, by omega, by decide⟩) ?_
          refine g_aload_0 hX (dk DX12_takesE_0 43 rfl) ?_
          refine g_dup hX (dk DX12_takesE_0 44 rfl) rfl ?_
          refine g_getIv hX (dk DX12_takesE_0 45 rfl) KX12 fX12_98 (by decide) rfl (MLt hM (by decide)) (MC hM) ((show _ = nI ws.length from hZ.2.2.2.2.2.1)) ?_
          refine g_iconst (v := 1) hX (dk DX12_takesE_0 46 rfl) (by decide) ?_
          refine g_iadd hX (dk DX12_takesE_0 47 rfl) ?_
          refine g_nmI (nI (ws.length + 1)) (nI_1 _) ?_
          refine g_putI hX (dk DX12_takesE_0 48 rfl) KX12 fX12_98 (by decide) rfl (MLt hM (by decide)) (MC hM) (Or.inl rfl) (rfl) (rfl) ?_
          refine g_aload_0 hX (dk DX12_takesE_0 49 rfl) ?_
          refine g_dup hX (dk DX12_takesE_0 50 rfl) rfl ?_
          refine g_getIv hX (dk DX12_takesE_0 51 rfl) KX12 fX12_65 (by decide) rfl (MLt hM (by decide)) (MC hM) ((show _ = nI a2 from hZ.2.2.1.1)) ?_
          refine g_iconst (v := 1) hX (dk DX12_takesE_0 52 rfl) (by decide) ?_
          refine g_iadd hX (dk DX12_takesE_0 53 rfl) ?_
          refine g_nmI (nI (a2 + 1)) (nI_1 _) ?_
          refine g_putI hX (dk DX12_takesE_0 54 rfl) KX12 fX12_65 (by decide) rfl (MLt hM (by decide)) (MC hM) (Or.inl rfl) (rfl) (rfl) ?_
          refine g_goto (tgt := 22) hX (dk DX12_takesE_0 55 rfl) (by decide) ?_
          first
          | exact g_fgt (ih f (by omega) true (a2 + 1) cs (nxA tx n a2 :: ws) _ (by omega) (hw.cn (by rcases ho with z | z <;> rw [z] <;> decide)) (hZ.push hlt (by rw [opn_c, if_pos ho])) (by rw [← hv, am_o ho h4])) ⟨rfl, rfl, rfl, trivial⟩
          | exact g_fgt (ih f (by omega) false _ _ _ _ (by have := ts_gt hts; omega) (hw.wh _) (hZ9 hts) (by rw [← hv, am_t hno hts])) ⟨rfl, rfl, rfl, trivial⟩
          | exact g_fgt (ih f (by omega) true (a2 + 1) _ (nxA tx n a2 :: (seA (nxA tx n a2) ws cs).2) _ (by omega) ((hw.se _).cn (by rcases hb with z | z <;> rw [z] <;> decide)) (hZ9.push0 hlt hb3) (by rw [← hv, am_b hb])) ⟨rfl, rfl, rfl, trivial⟩
          | exact g_fgt (ih f (by omega) false (a2 + 1) _ _ _ (by omega) (hw10.wh _) hZ8 (by rw [← hv, am_c hnb hne h41, ext]; rfl)) ⟨rfl, rfl, rfl, trivial⟩
        · refine g_iconst (v := 0) hX (dk DX12_takesE_0 29 rfl) (by decide) ?_
          refine g_ireturn hX (dk DX12_takesE_0 30 rfl) rfl (by decide) (by decide) (by decide) ?_
          have e := am_o4 (f := f) (cs := cs) ho ((nI_eq (b := 4) (by omega) (by decide)).mp (show nI (opn ws) = nI 4 by assumption))
          rw [e] at hv
          rw [← hv]
          exact qI_of ⟨rfl, rfl, hZ.mf.1, hZ.mf.2.1, hZ.mf.2.2, fun z => absurd (show false = true from z) Bool.false_ne_true⟩
      · refine g_iload_3 hX (dk DX12_takesE_0 22 rfl) ?_
        refine g_bipush (v := 40) hX (dk DX12_takesE_0 23 rfl) (by decide) ?_
        refine g_icmp_ne (tgt := 96) hX (dk DX12_takesE_0 24 rfl) (by decide) (fun hc8 => ?_) (fun hc8 => ?_)
        · have hno : ¬ (nxA tx n a2 = 33 ∨ nxA tx n a2 = 40) := by rintro (z | z) <;> contradiction
          refine g_aload_0 hX (dk DX12_takesE_0 56 rfl) ?_
          refine g_c1q hX sX12_takesE_97 (by decide) (Nat.le_of_ble_eq_true rfl) (rc0 rfl (MLt hM (by decide)) (MC hM)) (by decide) (by decide) (q_takesTest hG hM hp hZ) ?_
          rintro v J9 h9 ⟨rfl, rfl, hF9, hZ9⟩
          refine g_ifb_eq (tgt := 108) hX (dk DX12_takesE_0 58 rfl) (by decide) (fun hc9 => ?_) (fun hc9 => ?_)
          · refine g_iconst (v := 0) hX (dk DX12_takesE_1 2 rfl) (by decide) ?_
            refine g_ireturn hX (dk DX12_takesE_1 3 rfl) rfl (by decide) (by decide) (by decide) ?_
            have e := am_tf (f := f) (cs := cs) (ws := ws) hno (by assumption)
            rw [e] at hv
            rw [← hv]
            exact qI_of ⟨rfl, rfl, hF9.1, hF9.2.1, hF9.2.2, fun z => absurd (show false = true from z) Bool.false_ne_true⟩
          · have hts := hc9
            refine g_iconst (v := 0) hX (dk DX12_takesE_0 59 rfl) (by decide) ?_
            refine g_istore_2 hX (dk DX12_takesE_1 0 rfl) (by decide) rfl ?_
            refine g_goto (tgt := 22) hX (dk DX12_takesE_1 1 rfl) (by decide) ?_
            first
            | exact g_fgt (ih f (by omega) true (a2 + 1) cs (nxA tx n a2 :: ws) _ (by omega) (hw.cn (by rcases ho with z | z <;> rw [z] <;> decide)) (hZ.push hlt (by rw [opn_c, if_pos ho])) (by rw [← hv, am_o ho h4])) ⟨rfl, rfl, rfl, trivial⟩
            | exact g_fgt (ih f (by omega) false _ _ _ _ (by have := ts_gt hts; omega) (hw.wh _) (hZ9 hts) (by rw [← hv, am_t hno hts])) ⟨rfl, rfl, rfl, trivial⟩
            | exact g_fgt (ih f (by omega) true (a2 + 1) _ (nxA tx n a2 :: (seA (nxA tx n a2) ws cs).2) _ (by omega) ((hw.se _).cn (by rcases hb with z | z <;> rw [z] <;> decide)) (hZ9.push0 hlt hb3) (by rw [← hv, am_b hb])) ⟨rfl, rfl, rfl, trivial⟩
            | exact g_fgt (ih f (by omega) false (a2 + 1) _ _ _ (by omega) (hw10.wh _) hZ8 (by rw [← hv, am_c hnb hne h41, ext]; rfl)) ⟨rfl, rfl, rfl, trivial⟩
        · have ho : nxA tx n a2 = 33 ∨ nxA tx n a2 = 40 := by first | exact Or.inl (by assumption) | exact Or.inr (by assumption)
          have hlt : a2 < n := by rcases ho with z | z <;> exact nxA_no (by decide) z
          have hol := opn_le ws
          refine g_aload_0 hX (dk DX12_takesE_0 25 rfl) ?_
          refine g_getIv hX (dk DX12_takesE_0 26 rfl) KX12 fX12_101 (by decide) rfl (MLt hM (by decide)) (MC hM) (hZ.2.2.2.2.2.2.2) ?_
          refine g_iconst (v := 4) hX (dk DX12_takesE_0 27 rfl) (by decide) ?_
          refine g_icmp_ne (tgt := 53) hX (dk DX12_takesE_0 28 rfl) (by decide) (fun hc10 => ?_) (fun hc10 => ?_)
          · have h4 : ¬ opn ws = 4 := fun z => hc10 (by rw [z]; rfl)
            refine g_aload_0 hX (dk DX12_takesE_0 31 rfl) ?_
            refine g_dup hX (dk DX12_takesE_0 32 rfl) rfl ?_
            refine g_getIv hX (dk DX12_takesE_0 33 rfl) KX12 fX12_101 (by decide) rfl (MLt hM (by decide)) (MC hM) (hZ.2.2.2.2.2.2.2) ?_
            refine g_iconst (v := 1) hX (dk DX12_takesE_0 34 rfl) (by decide) ?_
            refine g_iadd hX (dk DX12_takesE_0 35 rfl) ?_
            refine g_nmI (nI (opn ws + 1)) (nI_1 _) ?_
            refine g_putI hX (dk DX12_takesE_0 36 rfl) KX12 fX12_101 (by decide) rfl (MLt hM (by decide)) (MC hM) (Or.inl rfl) (rfl) (rfl) ?_
            refine g_aload_0 hX (dk DX12_takesE_0 37 rfl) ?_
            refine g_getRs (r := 16) hX (dk DX12_takesE_0 38 rfl) KX12 fX12_92 (by decide) rfl (MLt hM (by decide)) (MC hM) (MR hM 27 (by decide) rfl) ?_
            refine g_aload_0 hX (dk DX12_takesE_0 39 rfl) ?_
            refine g_getIv hX (dk DX12_takesE_0 40 rfl) KX12 fX12_98 (by decide) rfl (MLt hM (by decide)) (MC hM) ((show _ = nI ws.length from hZ.2.2.2.2.2.1)) ?_
            refine g_iload_3 hX (dk DX12_takesE_0 41 rfl) ?_
            refine i_iastore hX (dk DX12_takesE_0 42 rfl) (MLt hM (q := 16) (by decide)) (MS hM 16 (by decide) rfl) (⟨rfl, by omega, by decide⟩) ?_
            refine g_aload_0 hX (dk DX12_takesE_0 43 rfl) ?_
            refine g_dup hX (dk DX12_takesE_0 44 rfl) rfl ?_
            refine g_getIv hX (dk DX12_takesE_0 45 rfl) KX12 fX12_98 (by decide) rfl (MLt hM (by decide)) (MC hM) ((show _ = nI ws.length from hZ.2.2.2.2.2.1)) ?_
            refine g_iconst (v := 1) hX (dk DX12_takesE_0 46 rfl) (by decide) ?_
            refine g_iadd hX (dk DX12_takesE_0 47 rfl) ?_
            refine g_nmI (nI (ws.length + 1)) (nI_1 _) ?_
            refine g_putI hX (dk DX12_takesE_0 48 rfl) KX12 fX12_98 (by decide) rfl (MLt hM (by decide)) (MC hM) (Or.inl rfl) (rfl) (rfl) ?_
            refine g_aload_0 hX (dk DX12_takesE_0 49 rfl) ?_
            refine g_dup hX (dk DX12_takesE_0 50 rfl) rfl ?_
            refine g_getIv hX (dk DX12_takesE_0 51 rfl) KX12 fX12_65 (by decide) rfl (MLt hM (by decide)) (MC hM) ((show _ = nI a2 from hZ.2.2.1.1)) ?_
            refine g_iconst (v := 1) hX (dk DX12_takesE_0 52 rfl) (by decide) ?_
            refine g_iadd hX (dk DX12_takesE_0 53 rfl) ?_
            refine g_nmI (nI (a2 + 1)) (nI_1 _) ?_
            refine g_putI hX (dk DX12_takesE_0 54 rfl) KX12 fX12_65 (by decide) rfl (MLt hM (by decide)) (MC hM) (Or.inl rfl) (rfl) (rfl) ?_
            refine g_goto (tgt := 22) hX (dk DX12_takesE_0 55 rfl) (by decide) ?_
            first
            | exact g_fgt (ih f (by omega) true (a2 + 1) cs (nxA tx n a2 :: ws) _ (by omega) (hw.cn (by rcases ho with z | z <;> rw [z] <;> decide)) (hZ.push hlt (by rw [opn_c, if_pos ho])) (by rw [← hv, am_o ho h4])) ⟨rfl, rfl, rfl, trivial⟩
            | exact g_fgt (ih f (by omega) false _ _ _ _ (by have := ts_gt hts; omega) (hw.wh _) (hZ9 hts) (by rw [← hv, am_t hno hts])) ⟨rfl, rfl, rfl, trivial⟩
            | exact g_fgt (ih f (by omega) true (a2 + 1) _ (nxA tx n a2 :: (seA (nxA tx n a2) ws cs).2) _ (by omega) ((hw.se _).cn (by rcases hb with z | z <;> rw [z] <;> decide)) (hZ9.push0 hlt hb3) (by rw [← hv, am_b hb])) ⟨rfl, rfl, rfl, trivial⟩
            | exact g_fgt (ih f (by omega) false (a2 + 1) _ _ _ (by omega) (hw10.wh _) hZ8 (by rw [← hv, am_c hnb hne h41, ext]; rfl)) ⟨rfl, rfl, rfl, trivial⟩
          · refine g_iconst (v := 0) hX (dk DX12_takesE_0 29 rfl) (by decide) ?_
            refine g_ireturn hX (dk DX12_takesE_0 30 rfl) rfl (by decide) (by decide) (by decide) ?_
            have e := am_o4 (f := f) (cs := cs) ho ((nI_eq (b := 4) (by omega) (by decide)).mp (show nI (opn ws) = nI 4 by assumption))
            rw [e] at hv
            rw [← hv]
            exact qI_of ⟨rfl, rfl, hZ.mf.1, hZ.mf.2.1, hZ.mf.2.2, fun z => absurd (show false = true from z) Bool.false_ne_true⟩
  refine g_aload_0 hX (dk DX12_takesE_0 0 rfl) ?_
  refine g_iconst (v := 0) hX (dk DX12_takesE_0 1 rfl) (by decide) ?_
  refine g_putI hX (dk DX12_takesE_0 2 rfl) KX12 fX12_98 (by decide) rfl (MLt hM (by decide)) (MC hM) (Or.inl rfl) (rfl) (rfl) ?_
  refine g_aload_0 hX (dk DX12_takesE_0 3 rfl) ?_
  refine g_iconst (v := 0) hX (dk DX12_takesE_0 4 rfl) (by decide) ?_
  refine g_putI hX (dk DX12_takesE_0 5 rfl) KX12 fX12_101 (by decide) rfl (MLt hM (by decide)) (MC hM) (Or.inl rfl) (rfl) (rfl) ?_
  refine g_aload_0 hX (dk DX12_takesE_0 6 rfl) ?_
  refine g_getRs (r := 13) hX (dk DX12_takesE_0 7 rfl) KX12 fX12_83 (by decide) rfl (MLt hM (by decide)) (MC hM) (MR hM 24 (by decide) rfl) ?_
  refine g_iload_1 hX (dk DX12_takesE_0 8 rfl) ?_
  refine g_aload_0 hX (dk DX12_takesE_0 9 rfl) ?_
  refine g_getIv hX (dk DX12_takesE_0 10 rfl) KX12 fX12_95 (by decide) rfl (MLt hM (by decide)) (MC hM) ((show _ = nI fr from h28)) ?_
  refine i_iastore hX (dk DX12_takesE_0 11 rfl) (MLt hM (q := 13) (by decide)) (MS hM 13 (by decide) rfl) (⟨rfl, hc, by decide⟩) ?_
  refine g_iconst (v := 1) hX (dk DX12_takesE_0 12 rfl) (by decide) ?_
  refine g_istore_2 hX (dk DX12_takesE_0 13 rfl) (by decide) rfl ?_
  exact g_fgt (loop22 101 true a [] [] _ (by omega) (fun _ z => absurd z List.not_mem_nil) (MZ.start hT hA h28 h1 h2) rfl) ⟨rfl, rfl, rfl, trivial⟩
end
section
/-! clauses and the text, as they lie in memory -/
theorem twA_le {X : Nat → Int32} {n f : Nat} : ∀ (m i a : Nat), f + i + m ≤ 15 → a ≤ n → a ≤ (twA X n f m i a).2 ∧ (twA X n f m i a).2 ≤ n := by
  intro m
  induction m with
  | zero =>
    intro i a _ ha
    show a ≤ tkA X n a 32 ∧ tkA X n a 32 ≤ n
    unfold tkA
    split
    · next h => have := nxA_no (by decide) h; omega
    · omega
  | succ m ih =>
    intro i a h ha
    rw [twA_s]
    split
    · next e =>
      have := nxA_no (let_no (f + i) (by omega)) e
      have := ih (i + 1) (a + 1) (by omega) (by omega)
      omega
    · exact ⟨Nat.le_refl _, ha⟩
theorem hdA_le {X : Nat → Int32} {n a : Nat} (ha : a ≤ n) : a ≤ (hdA X n a).2.1 ∧ (hdA X n a).2.1 ≤ n := by
  unfold hdA
  split
  · split
    · exact twA_le 4 0 a (by decide) ha
    · exact twA_le 4 0 a (by decide) ha
  · split
    · exact twA_le 3 0 a (by decide) ha
    · exact twA_le 4 0 a (by decide) ha
section CL
variable {X : Nat → Int32} {n a : Nat}
theorem cl_h (h : ¬ (hdA X n a).1 = true) : clA X n a = (false, (hdA X n a).2.1, 0, 0, []) := by
  unfold clA
  rw [if_pos (Bool.not_eq_true _ ▸ h)]
theorem cl_n (h : (hdA X n a).1 = true) (h2 : ¬ dgA X n (hdA X n a).2.1) : clA X n a = (false, (hdA X n a).2.1, 0, 0, []) := by
  unfold clA
  rw [if_neg (by rw [h]; decide), if_pos h2]
theorem cl_w (h : (hdA X n a).1 = true) (h2 : dgA X n (hdA X n a).2.1) (h3 : 1 < (hdA X n a).2.2) : clA X n a = (true, nuA X n (hdA X n a).2.1, (hdA X n a).2.2, nvA X n (hdA X n a).2.1, []) := by
  unfold clA
  rw [if_neg (by rw [h]; decide), if_neg (not_not_intro h2), if_pos h3]
theorem cl_s (h : (hdA X n a).1 = true) (h2 : dgA X n (hdA X n a).2.1) (h3 : ¬ 1 < (hdA X n a).2.2) (h4 : ¬ nxA X n (nuA X n (hdA X n a).2.1) = 32) : clA X n a = (false, nuA X n (hdA X n a).2.1, 0, 0, []) := by
  unfold clA
  rw [if_neg (by rw [h]; decide), if_neg (not_not_intro h2), if_neg h3, if_neg h4]
theorem cl_E (h : (hdA X n a).1 = true) (h2 : dgA X n (hdA X n a).2.1) (h3 : ¬ 1 < (hdA X n a).2.2) (h4 : nxA X n (nuA X n (hdA X n a).2.1) = 32) : clA X n a = ((amR X n 101 true (nuA X n (hdA X n a).2.1 + 1) [] []).1, (amR X n 101 true (nuA X n (hdA X n a).2.1 + 1) [] []).2.1, (hdA X n a).2.2, nvA X n (hdA X n a).2.1, (amR X n 101 true (nuA X n (hdA X n a).2.1 + 1) [] []).2.2) := by
  unfold clA
  rw [if_neg (by rw [h]; decide), if_neg (not_not_intro h2), if_neg h3, if_pos h4]
end CL
theorem FC.rf {p c fr : Nat} {I : It} : FC p c fr I I := ⟨fun _ _ => rfl, fun _ _ => rfl, fun _ _ => ⟨rfl, rfl, rfl, rfl⟩, fun _ _ => rfl⟩
theorem FC.f {p c fr : Nat} {I J : It} {j : Nat} {x : Int32} (h : FC p c fr I J) (hj : j ∈ [18, 19, 28, 29, 30]) : FC p c fr I (upI J 0 j x) :=
  ⟨fun b hb => (upn (fun z => hb (by rw [z.2]; exact hj))).trans (h.1 b hb), fun a ha => (upI_off (by rintro rfl; revert ha; decide)).trans (h.2.1 a ha), h.2.2.1, h.2.2.2⟩
theorem FC.w11 {p c fr : Nat} {I J : It} {x : Int32} (h : FC p c fr I J) : FC p c fr I (upI J 11 c x) :=
  ⟨h.1, fun a ha => (upI_off (by rintro rfl; revert ha; decide)).trans (h.2.1 a ha), fun b hb => ⟨(upn (fun z => hb z.2)).trans (h.2.2.1 b hb).1, (h.2.2.1 b hb).2⟩, h.2.2.2⟩
theorem FC.w12 {p c fr : Nat} {I J : It} {x : Int32} (h : FC p c fr I J) : FC p c fr I (upI J 12 c x) :=
  ⟨h.1, fun a ha => (upI_off (by rintro rfl; revert ha; decide)).trans (h.2.1 a ha), fun b hb => ⟨(h.2.2.1 b hb).1, (upn (fun z => hb z.2)).trans (h.2.2.1 b hb).2.1, (h.2.2.1 b hb).2.2⟩, h.2.2.2⟩
theorem FC.tr {p c fr : Nat} {I J K : It} (h : FC p c fr I J) (h2 : FC p c fr J K) : FC p c fr I K :=
  ⟨fun j hj => (h2.1 j hj).trans (h.1 j hj), fun a ha => (h2.2.1 a ha).trans (h.2.1 a ha), fun b hb => ⟨(h2.2.2.1 b hb).1.trans (h.2.2.1 b hb).1, (h2.2.2.1 b hb).2.1.trans (h.2.2.1 b hb).2.1, (h2.2.2.1 b hb).2.2.1.trans (h.2.2.1 b hb).2.2.1, (h2.2.2.1 b hb).2.2.2.trans (h.2.2.1 b hb).2.2.2⟩, fun b hb => (h2.2.2.2 b hb).trans (h.2.2.2 b hb)⟩
def CLr (J : It) (c fr : Nat) (k : Cl) : Prop := J 11 c = k.1 ∧ J 12 c = k.2.1 ∧ (¬ 1 < k.1 → J 13 c = nI fr ∧ J 14 c = nI (fr + k.2.2.length) ∧ CD fr J k.2.2)
def tot : List Cl → Nat := fun l => match l with
  | [] => 0
  | x :: r => x.2.2.length + tot r
theorem tot_c (x : Cl) (r : List Cl) : tot (x :: r) = x.2.2.length + tot r := rfl
theorem tot_app (l : List Cl) (x : Cl) : tot (l ++ [x]) = tot l + x.2.2.length := by
  induction l with
  | nil => show x.2.2.length + 0 = 0 + x.2.2.length; omega
  | cons y r ih => rw [List.cons_append, tot_c, tot_c, ih]; omega
def STc (J : It) (p : Nat) : List Cl → Nat → Nat → Prop := fun l => match l with
  | [] => fun _ _ => True
  | x :: r => fun k fr => CLr J (10 * p + k) fr x ∧ STc J p r (k + 1) (fr + x.2.2.length)
theorem STc_app {J : It} {p : Nat} {x : Cl} : ∀ {l : List Cl} {k fr : Nat}, STc J p l k fr → CLr J (10 * p + (k + l.length)) (fr + tot l) x → STc J p (l ++ [x]) k fr := by
  intro l
  induction l with
  | nil => intro k fr _ h; exact ⟨h, trivial⟩
  | cons y r ih =>
    intro k fr h hx
    refine ⟨h.1, ih h.2 ?_⟩
    rw [tot_c, List.length_cons] at hx
    rw [show 10 * p + (k + 1 + r.length) = 10 * p + (k + (r.length + 1)) by omega, show fr + y.2.2.length + tot r = fr + (y.2.2.length + tot r) by omega]
    exact hx
theorem STc_mv {J K : It} {p : Nat} : ∀ {l : List Cl} {k fr : Nat}, STc J p l k fr → (∀ c, 10 * p + k ≤ c → c < 10 * p + k + l.length → K 11 c = J 11 c ∧ K 12 c = J 12 c ∧ K 13 c = J 13 c ∧ K 14 c = J 14 c) → (∀ j, fr ≤ j → j < fr + tot l → K 15 j = J 15 j) → STc K p l k fr := by
  intro l
  induction l with
  | nil => intro k fr _ _ _; trivial
  | cons y r ih =>
    intro k fr h h1 h2
    rw [List.length_cons] at h1
    rw [tot_c] at h2
    obtain ⟨e1, e2, e3, e4⟩ := h1 (10 * p + k) (by omega) (by omega)
    refine ⟨⟨e1.trans h.1.1, e2.trans h.1.2.1, fun w => ?_⟩, ih h.2 (fun c a1 a2 => h1 c (by omega) (by omega)) (fun j a1 a2 => h2 j (by omega) (by omega))⟩
    obtain ⟨g1, g2, g3⟩ := h.1.2.2 w
    exact ⟨e3.trans g1, e4.trans g2, fun i hi => (h2 _ (by omega) (by omega)).trans (g3 i hi)⟩
/-- what a whole text may have written: row p -/
def FG (p : Nat) (I J : It) : Prop := (∀ j, j ∉ [18, 19, 28, 29, 30] → J 0 j = I 0 j) ∧ (∀ a, a ∉ [0, 10, 11, 12, 13, 14, 15, 16] → J a = I a) ∧ (∀ j, j ≠ p → J 10 j = I 10 j) ∧ (∀ j, (j < 10 * p ∨ 10 * p + 10 ≤ j) → J 11 j = I 11 j ∧ J 12 j = I 12 j ∧ J 13 j = I 13 j ∧ J 14 j = I 14 j) ∧ ∀ j, (j < 100 * p ∨ 100 * p + 100 ≤ j) → J 15 j = I 15 j
theorem FG.f {p : Nat} {I J : It} {j : Nat} {x : Int32} (h : FG p I J) (hj : j ∈ [18, 19, 28, 29, 30]) : FG p I (upI J 0 j x) :=
  ⟨fun b hb => (upn (fun z => hb (by rw [z.2]; exact hj))).trans (h.1 b hb), fun a ha => (upI_off (by rintro rfl; revert ha; decide)).trans (h.2.1 a ha), h.2.2.1, h.2.2.2.1, h.2.2.2.2⟩
theorem FG.rf {p : Nat} {I : It} : FG p I I := ⟨fun _ _ => rfl, fun _ _ => rfl, fun _ _ => rfl, fun _ _ => ⟨rfl, rfl, rfl, rfl⟩, fun _ _ => rfl⟩
theorem FG.w10 {p : Nat} {I J : It} {x : Int32} (h : FG p I J) : FG p I (upI J 10 p x) :=
  ⟨h.1, fun a ha => (upI_off (by rintro rfl; revert ha; decide)).trans (h.2.1 a ha), fun b hb => (upn (fun z => hb z.2)).trans (h.2.2.1 b hb), h.2.2.2.1, h.2.2.2.2⟩
theorem FG.c {p c fr : Nat} {I J K : It} (h : FG p I J) (h2 : FC p c fr J K) (hc : 10 * p ≤ c ∧ c < 10 * p + 10) (hf : 100 * p ≤ fr) : FG p I K :=
  ⟨fun j hj => (h2.1 j hj).trans (h.1 j hj), fun a ha => (h2.2.1 a (by revert ha; simp; omega)).trans (h.2.1 a ha), fun j hj => (congrFun (h2.2.1 10 (by decide)) j).trans (h.2.2.1 j hj), fun j hj => by
    obtain ⟨e1, e2, e3, e4⟩ := h2.2.2.1 j (by omega)
    obtain ⟨g1, g2, g3, g4⟩ := h.2.2.2.1 j hj
    exact ⟨e1.trans g1, e2.trans g2, e3.trans g3, e4.trans g4⟩, fun j hj => (h2.2.2.2 j (by omega)).trans (h.2.2.2.2 j hj)⟩
theorem am_le {X : Nat → Int32} {n : Nat} : ∀ (f : Nat) (w : Bool) (a : Nat) (cs ws : List Int32), a ≤ n → a ≤ (amR X n f w a cs ws).2.1 ∧ (amR X n f w a cs ws).2.1 ≤ n := by
  intro f
  induction f with
  | zero => intro w a cs ws ha; exact ⟨Nat.le_refl _, ha⟩
  | succ f ih =>
    intro w a cs ws ha
    cases w with
    | true =>
      by_cases h : nxA X n a = 33 ∨ nxA X n a = 40
      · have hlt : a < n := by rcases h with z | z <;> exact nxA_no (by decide) z
        by_cases h4 : opn ws = 4
        · rw [am_o4 h h4]; exact ⟨Nat.le_refl _, ha⟩
        · rw [am_o h h4]; have := ih true (a + 1) cs (nxA X n a :: ws) hlt; omega
      · have ht : a ≤ (tsA X n a).2.1 ∧ (tsA X n a).2.1 ≤ n := by
          unfold tsA
          split
          · exact ⟨Nat.le_refl _, ha⟩
          · next z => 
            have := pl_lt (Int32.not_lt.mp z)
            split
            · show a ≤ a + 1 ∧ a + 1 ≤ n; omega
            · next z => 
              have := in_lt (Decidable.not_not.mp z)
              split
              · show a ≤ a + 2 ∧ a + 2 ≤ n; omega
              · next z =>
                have := nuA_le (X := X) (n := n) (a := a + 2) (by omega)
                have := nuA_gt (Decidable.not_not.mp z)
                show a ≤ nuA X n (a + 2) ∧ nuA X n (a + 2) ≤ n
                omega
        by_cases h4 : (tsA X n a).1 = true
        · rw [am_t h h4]; have := ih false (tsA X n a).2.1 (whA ws (cs ++ [(tsA X n a).2.2])).1 (whA ws (cs ++ [(tsA X n a).2.2])).2 ht.2; omega
        · rw [am_tf h h4]; exact ht
    | false =>
      by_cases h : nxA X n a = 38 ∨ nxA X n a = 124
      · have hlt : a < n := by rcases h with z | z <;> exact nxA_no (by decide) z
        rw [am_b h]; have := ih true (a + 1) (seA (nxA X n a) ws cs).1 (nxA X n a :: (seA (nxA X n a) ws cs).2) hlt; omega
      · by_cases h2 : (seA 124 ws cs).2 = []
        · rw [am_e h h2]; exact ⟨Nat.le_refl _, ha⟩
        · by_cases h3 : nxA X n a = 41
          · have hlt : a < n := nxA_no (by decide) h3
            rw [am_c h h2 h3]; have := ih false (a + 1) (whA (seA 124 ws cs).2.tail (seA 124 ws cs).1).1 (whA (seA 124 ws cs).2.tail (seA 124 ws cs).1).2 hlt; omega
          · rw [am_x h h2 h3]; exact ⟨Nat.le_refl _, ha⟩

set_option maxRecDepth 8000 in
set_option maxHeartbeats 4000000 in
theorem q_takesHead {G : Gt} (hG : Gok G) {I : It} {h : Ht} (hM : HM h) {tx : Nat → Int32} {n a : Nat} (hT : TX tx n I) (hA : AT n a I) {c : Nat} (hc : c < 60) (hL : ∀ j, j < 15 → I 17 j = lettersL.getD j 0) : Con G (4) 0 0 mX12_takesHead [.ref 0, .int (nI c)] I h (qI (fun v J h2 => h2 = h ∧ v = bI ((hdA tx n a).1 = true) ∧ J = upI (upI I 11 c (hdA tx n a).2.2) 0 18 (nI (hdA tx n a).2.1))) := by
  refine con_intro (own := RX12) (lo0 := [some (.ref 0), some (.int (nI c)), none]) hG rfl pl_X12 (Nat.le_of_ble_eq_true rfl) rfl (fun X hX => ?_)
  have hn100 := hT.2.1
  have han := hA.2
  refine g_aload_0 hX (dk DX12_takesHead 0 rfl) ?_
  refine g_c1I hX sX12_takesHead_1 (by decide) (Nat.le_of_ble_eq_true rfl) (rc0 rfl (MLt hM (by decide)) (MC hM)) (by decide) (by decide) (q_second hG hM hT hA) ?_
  refine g_istore_2 hX (dk DX12_takesHead 2 rfl) (by decide) rfl ?_
  refine g_aload_0 hX (dk DX12_takesHead 3 rfl) ?_
  refine g_c1I hX sX12_takesHead_6 (by decide) (Nat.le_of_ble_eq_true rfl) (rc0 rfl (MLt hM (by decide)) (MC hM)) (by decide) (by decide) (q_next hG hM hT hA) ?_
  refine g_lswitch (dt := 90) hX [(99, 50), (115, 36)] (dk DX12_takesHead 5 rfl) (by decide +kernel) (by decide +kernel) ?_
  refine ⟨fun hc1 => ?_, fun hc1n => ?_⟩
  · show GG _ _ _ _ _ _ _ _ _ _ _ _ _
    refine g_aload_0 hX (dk DX12_takesHead 16 rfl) ?_
    refine g_getRs (r := 11) hX (dk DX12_takesHead 17 rfl) KX12 fX12_77 (by decide) rfl (MLt hM (by decide)) (MC hM) (MR hM 22 (by decide) rfl) ?_
    refine g_iload_1 hX (dk DX12_takesHead 18 rfl) ?_
    refine g_iload_2 hX (dk DX12_takesHead 19 rfl) ?_
    refine g_bipush (v := 97) hX (dk DX12_takesHead 20 rfl) (by decide) ?_
    refine g_icmp_ne (tgt := 65) hX (dk DX12_takesHead 21 rfl) (by decide) (fun hc2 => ?_) (fun hc2 => ?_)
    · refine g_iconst (v := 1) hX (dk DX12_takesHead 24 rfl) (by decide) ?_
      refine i_iastore hX (dk DX12_takesHead 25 rfl) (MLt hM (q := 11) (by decide)) (MS hM 11 (by decide) rfl) (⟨rfl, hc, by decide⟩) ?_
      refine g_iload_2 hX (dk DX12_takesHead 26 rfl) ?_
      refine g_bipush (v := 97) hX (dk DX12_takesHead 27 rfl) (by decide) ?_
      refine g_icmp_ne (tgt := 83) hX (dk DX12_takesHead 28 rfl) (by decide) (fun hc3 => ?_) (fun hc3 => ?_)
      · refine g_aload_0 hX (dk DX12_takesHead 34 rfl) ?_
        refine g_iconst (v := 3) hX (dk DX12_takesHead 35 rfl) (by decide) ?_
        refine g_iconst (v := 4) hX (dk DX12_takesHead 36 rfl) (by decide) ?_
        refine g_c3I hX sX12_takesHead_86 (by decide) (Nat.le_of_ble_eq_true rfl) (rc0 rfl (MLt hM (by decide)) (MC hM)) (by decide) (by decide) (q_takesWord hG hM (hT.u (q := 11) (j := c) (by omega) (by decide)) (hA.u (by omega)) (f := 3) (m := 4) (by decide) (fun j hj => hL j hj)) ?_
        refine g_ireturn hX (dk DX12_takesHead 38 rfl) rfl (narB _) (by decide) (by decide) ?_
        first
        | contradiction
        | (have e : hdA tx n a = ((twA tx n 7 4 0 a).1, (twA tx n 7 4 0 a).2, 2) := by unfold hdA; (try first | rw [if_pos hc1] | rw [if_neg hc1] | rw [if_neg (not_not_intro hc1)]); (try first | rw [if_pos hc2] | rw [if_neg hc2] | rw [if_neg (not_not_intro hc2)]); (try first | rw [if_pos hc3] | rw [if_neg hc3] | rw [if_neg (not_not_intro hc3)]); (try first | rw [if_pos hc1] | rw [if_neg hc1] | rw [if_neg (not_not_intro hc1)]); (try first | rw [if_pos hc2] | rw [if_neg hc2] | rw [if_neg (not_not_intro hc2)]); (try first | rw [if_pos hc3] | rw [if_neg hc3] | rw [if_neg (not_not_intro hc3)]); first | done | rfl
           rw [e]
           exact qI_of ⟨rfl, rfl, rfl⟩)
        | contradiction
        | (have e : hdA tx n a = ((twA tx n 3 4 0 a).1, (twA tx n 3 4 0 a).2, 1) := by unfold hdA; (try first | rw [if_pos hc1] | rw [if_neg hc1] | rw [if_neg (not_not_intro hc1)]); (try first | rw [if_pos hc2] | rw [if_neg hc2] | rw [if_neg (not_not_intro hc2)]); (try first | rw [if_pos hc3] | rw [if_neg hc3] | rw [if_neg (not_not_intro hc3)]); (try first | rw [if_pos hc1] | rw [if_neg hc1] | rw [if_neg (not_not_intro hc1)]); (try first | rw [if_pos hc2] | rw [if_neg hc2] | rw [if_neg (not_not_intro hc2)]); (try first | rw [if_pos hc3] | rw [if_neg hc3] | rw [if_neg (not_not_intro hc3)]); first | done | rfl
           rw [e]
           exact qI_of ⟨rfl, rfl, rfl⟩)
      · refine g_aload_0 hX (dk DX12_takesHead 29 rfl) ?_
        refine g_bipush (v := 7) hX (dk DX12_takesHead 30 rfl) (by decide) ?_
        refine g_iconst (v := 4) hX (dk DX12_takesHead 31 rfl) (by decide) ?_
        refine g_c3I hX sX12_takesHead_77 (by decide) (Nat.le_of_ble_eq_true rfl) (rc0 rfl (MLt hM (by decide)) (MC hM)) (by decide) (by decide) (q_takesWord hG hM (hT.u (q := 11) (j := c) (by omega) (by decide)) (hA.u (by omega)) (f := 7) (m := 4) (by decide) (fun j hj => hL j hj)) ?_
        refine g_goto (tgt := 89) hX (dk DX12_takesHead 33 rfl) (by decide) ?_
        refine g_ireturn hX (dk DX12_takesHead 38 rfl) rfl (narB _) (by decide) (by decide) ?_
        first
        | contradiction
        | (have e : hdA tx n a = ((twA tx n 7 4 0 a).1, (twA tx n 7 4 0 a).2, 2) := by unfold hdA; (try first | rw [if_pos hc1] | rw [if_neg hc1] | rw [if_neg (not_not_intro hc1)]); (try first | rw [if_pos hc2] | rw [if_neg hc2] | rw [if_neg (not_not_intro hc2)]); (try first | rw [if_pos hc3] | rw [if_neg hc3] | rw [if_neg (not_not_intro hc3)]); (try first | rw [if_pos hc1] | rw [if_neg hc1] | rw [if_neg (not_not_intro hc1)]); (try first | rw [if_pos hc2] | rw [if_neg hc2] | rw [if_neg (not_not_intro hc2)]); (try first | rw [if_pos hc3] | rw [if_neg hc3] | rw [if_neg (not_not_intro hc3)]); first | done | rfl
           rw [e]
           exact qI_of ⟨rfl, rfl, rfl⟩)
        | contradiction
        | (have e : hdA tx n a = ((twA tx n 3 4 0 a).1, (twA tx n 3 4 0 a).2, 1) := by unfold hdA; (try first | rw [if_pos hc1] | rw [if_neg hc1] | rw [if_neg (not_not_intro hc1)]); (try first | rw [if_pos hc2] | rw [if_neg hc2] | rw [if_neg (not_not_intro hc2)]); (try first | rw [if_pos hc3] | rw [if_neg hc3] | rw [if_neg (not_not_intro hc3)]); (try first | rw [if_pos hc1] | rw [if_neg hc1] | rw [if_neg (not_not_intro hc1)]); (try first | rw [if_pos hc2] | rw [if_neg hc2] | rw [if_neg (not_not_intro hc2)]); (try first | rw [if_pos hc3] | rw [if_neg hc3] | rw [if_neg (not_not_intro hc3)]); first | done | rfl
           rw [e]
           exact qI_of ⟨rfl, rfl, rfl⟩)
    · refine g_iconst (v := 2) hX (dk DX12_takesHead 22 rfl) (by decide) ?_
      refine g_goto (tgt := 66) hX (dk DX12_takesHead 23 rfl) (by decide) ?_
      refine i_iastore hX (dk DX12_takesHead 25 rfl) (MLt hM (q := 11) (by decide)) (MS hM 11 (by decide) rfl) (⟨rfl, hc, by decide⟩) ?_
      refine g_iload_2 hX (dk DX12_takesHead 26 rfl) ?_
      refine g_bipush (v := 97) hX (dk DX12_takesHead 27 rfl) (by decide) ?_
      refine g_icmp_ne (tgt := 83) hX (dk DX12_takesHead 28 rfl) (by decide) (fun hc4 => ?_) (fun hc4 => ?_)
      · refine g_aload_0 hX (dk DX12_takesHead 34 rfl) ?_
        refine g_iconst (v := 3) hX (dk DX12_takesHead 35 rfl) (by decide) ?_
        refine g_iconst (v := 4) hX (dk DX12_takesHead 36 rfl) (by decide) ?_
        refine g_c3I hX sX12_takesHead_86 (by decide) (Nat.le_of_ble_eq_true rfl) (rc0 rfl (MLt hM (by decide)) (MC hM)) (by decide) (by decide) (q_takesWord hG hM (hT.u (q := 11) (j := c) (by omega) (by decide)) (hA.u (by omega)) (f := 3) (m := 4) (by decide) (fun j hj => hL j hj)) ?_
        refine g_ireturn hX (dk DX12_takesHead 38 rfl) rfl (narB _) (by decide) (by decide) ?_
        first
        | contradiction
        | (have e : hdA tx n a = ((twA tx n 7 4 0 a).1, (twA tx n 7 4 0 a).2, 2) := by unfold hdA; (try first | rw [if_pos hc1] | rw [if_neg hc1] | rw [if_neg (not_not_intro hc1)]); (try first | rw [if_pos hc2] | rw [if_neg hc2] | rw [if_neg (not_not_intro hc2)]); (try first | rw [if_pos hc4] | rw [if_neg hc4] | rw [if_neg (not_not_intro hc4)]); (try first | rw [if_pos hc1] | rw [if_neg hc1] | rw [if_neg (not_not_intro hc1)]); (try first | rw [if_pos hc2] | rw [if_neg hc2] | rw [if_neg (not_not_intro hc2)]); (try first | rw [if_pos hc4] | rw [if_neg hc4] | rw [if_neg (not_not_intro hc4)]); first | done | rfl
           rw [e]
           exact qI_of ⟨rfl, rfl, rfl⟩)
        | contradiction
        | (have e : hdA tx n a = ((twA tx n 3 4 0 a).1, (twA tx n 3 4 0 a).2, 1) := by unfold hdA; (try first | rw [if_pos hc1] | rw [if_neg hc1] | rw [if_neg (not_not_intro hc1)]); (try first | rw [if_pos hc2] | rw [if_neg hc2] | rw [if_neg (not_not_intro hc2)]); (try first | rw [if_pos hc4] | rw [if_neg hc4] | rw [if_neg (not_not_intro hc4)]); (try first | rw [if_pos hc1] | rw [if_neg hc1] | rw [if_neg (not_not_intro hc1)]); (try first | rw [if_pos hc2] | rw [if_neg hc2] | rw [if_neg (not_not_intro hc2)]); (try first | rw [if_pos hc4] | rw [if_neg hc4] | rw [if_neg (not_not_intro hc4)]); first | done | rfl
           rw [e]
           exact qI_of ⟨rfl, rfl, rfl⟩)
      · refine g_aload_0 hX (dk DX12_takesHead 29 rfl) ?_
        refine g_bipush (v := 7) hX (dk DX12_takesHead 30 rfl) (by decide) ?_
        refine g_iconst (v := 4) hX (dk DX12_takesHead 31 rfl) (by decide) ?_
        refine g_c3I hX sX12_takesHead_77 (by decide) (Nat.le_of_ble_eq_true rfl) (rc0 rfl (MLt hM (by decide)) (MC hM)) (by decide) (by decide) (q_takesWord hG hM (hT.u (q := 11) (j := c) (by omega) (by decide)) (hA.u (by omega)) (f := 7) (m := 4) (by decide) (fun j hj => hL j hj)) ?_
        refine g_goto (tgt := 89) hX (dk DX12_takesHead 33 rfl) (by decide) ?_
        refine g_ireturn hX (dk DX12_takesHead 38 rfl) rfl (narB _) (by decide) (by decide) ?_
        first
        | contradiction
        | (have e : hdA tx n a = ((twA tx n 7 4 0 a).1, (twA tx n 7 4 0 a).2, 2) := by unfold hdA; (try first | rw [if_pos hc1] | rw [if_neg hc1] | rw [if_neg (not_not_intro hc1)]); (try first | rw [if_pos hc2] | rw [if_neg hc2] | rw [if_neg (not_not_intro hc2)]); (try first | rw [if_pos hc4] | rw [if_neg hc4] | rw [if_neg (not_not_intro hc4)]); (try first | rw [if_pos hc1] | rw [if_neg hc1] | rw [if_neg (not_not_intro hc1)]); (try first | rw [if_pos hc2] | rw [if_neg hc2] | rw [if_neg (not_not_intro hc2)]); (try first | rw [if_pos hc4] | rw [if_neg hc4] | rw [if_neg (not_not_intro hc4)]); first | done | rfl
           rw [e]
           exact qI_of ⟨rfl, rfl, rfl⟩)
        | contradiction
        | (have e : hdA tx n a = ((twA tx n 3 4 0 a).1, (twA tx n 3 4 0 a).2, 1) := by unfold hdA; (try first | rw [if_pos hc1] | rw [if_neg hc1] | rw [if_neg (not_not_intro hc1)]); (try first | rw [if_pos hc2] | rw [if_neg hc2] | rw [if_neg (not_not_intro hc2)]); (try first | rw [if_pos hc4] | rw [if_neg hc4] | rw [if_neg (not_not_intro hc4)]); (try first | rw [if_pos hc1] | rw [if_neg hc1] | rw [if_neg (not_not_intro hc1)]); (try first | rw [if_pos hc2] | rw [if_neg hc2] | rw [if_neg (not_not_intro hc2)]); (try first | rw [if_pos hc4] | rw [if_neg hc4] | rw [if_neg (not_not_intro hc4)]); first | done | rfl
           rw [e]
           exact qI_of ⟨rfl, rfl, rfl⟩)
  refine ⟨fun hc5 => ?_, fun hc5n => ?_⟩
  · show GG _ _ _ _ _ _ _ _ _ _ _ _ _
    refine g_aload_0 hX (dk DX12_takesHead 6 rfl) ?_
    refine g_getRs (r := 11) hX (dk DX12_takesHead 7 rfl) KX12 fX12_77 (by decide) rfl (MLt hM (by decide)) (MC hM) (MR hM 22 (by decide) rfl) ?_
    refine g_iload_1 hX (dk DX12_takesHead 8 rfl) ?_
    refine g_iconst (v := 0) hX (dk DX12_takesHead 9 rfl) (by decide) ?_
    refine i_iastore hX (dk DX12_takesHead 10 rfl) (MLt hM (q := 11) (by decide)) (MS hM 11 (by decide) rfl) (⟨rfl, hc, by decide⟩) ?_
    refine g_aload_0 hX (dk DX12_takesHead 11 rfl) ?_
    refine g_iconst (v := 0) hX (dk DX12_takesHead 12 rfl) (by decide) ?_
    refine g_iconst (v := 3) hX (dk DX12_takesHead 13 rfl) (by decide) ?_
    refine g_c3I hX sX12_takesHead_46 (by decide) (Nat.le_of_ble_eq_true rfl) (rc0 rfl (MLt hM (by decide)) (MC hM)) (by decide) (by decide) (q_takesWord hG hM (hT.u (q := 11) (j := c) (by omega) (by decide)) (hA.u (by omega)) (f := 0) (m := 3) (by decide) (fun j hj => hL j hj)) ?_
    refine g_ireturn hX (dk DX12_takesHead 15 rfl) rfl (narB _) (by decide) (by decide) ?_
    first
    | contradiction
    | (have e : hdA tx n a = ((twA tx n 0 3 0 a).1, (twA tx n 0 3 0 a).2, 0) := by unfold hdA; (try first | rw [if_pos hc1n] | rw [if_neg hc1n] | rw [if_neg (not_not_intro hc1n)]); (try first | rw [if_pos hc5] | rw [if_neg hc5] | rw [if_neg (not_not_intro hc5)]); (try first | rw [if_pos hc1n] | rw [if_neg hc1n] | rw [if_neg (not_not_intro hc1n)]); (try first | rw [if_pos hc5] | rw [if_neg hc5] | rw [if_neg (not_not_intro hc5)]); first | done | rfl
       rw [e]
       exact qI_of ⟨rfl, rfl, rfl⟩)
  show GG _ _ _ _ _ _ _ _ _ _ _ _ _
  refine g_aload_0 hX (dk DX12_takesHead 39 rfl) ?_
  refine g_getRs (r := 11) hX (dk DX12_takesHead 40 rfl) KX12 fX12_77 (by decide) rfl (MLt hM (by decide)) (MC hM) (MR hM 22 (by decide) rfl) ?_
  refine g_iload_1 hX (dk DX12_takesHead 41 rfl) ?_
  refine g_iconst (v := 3) hX (dk DX12_takesHead 42 rfl) (by decide) ?_
  refine i_iastore hX (dk DX12_takesHead 43 rfl) (MLt hM (q := 11) (by decide)) (MS hM 11 (by decide) rfl) (⟨rfl, hc, by decide⟩) ?_
  refine g_aload_0 hX (dk DX12_takesHead 44 rfl) ?_
  refine g_bipush (v := 11) hX (dk DX12_takesHead 45 rfl) (by decide) ?_
  refine g_iconst (v := 4) hX (dk DX12_takesHead 46 rfl) (by decide) ?_
  refine g_c3I hX sX12_takesHead_101 (by decide) (Nat.le_of_ble_eq_true rfl) (rc0 rfl (MLt hM (by decide)) (MC hM)) (by decide) (by decide) (q_takesWord hG hM (hT.u (q := 11) (j := c) (by omega) (by decide)) (hA.u (by omega)) (f := 11) (m := 4) (by decide) (fun j hj => hL j hj)) ?_
  refine g_ireturn hX (dk DX12_takesHead 48 rfl) rfl (narB _) (by decide) (by decide) ?_
  first
  | contradiction
  | (have e : hdA tx n a = ((twA tx n 11 4 0 a).1, (twA tx n 11 4 0 a).2, 3) := by unfold hdA; (try first | rw [if_pos hc1n] | rw [if_neg hc1n] | rw [if_neg (not_not_intro hc1n)]); (try first | rw [if_pos hc5n] | rw [if_neg hc5n] | rw [if_neg (not_not_intro hc5n)]); (try first | rw [if_pos hc1n] | rw [if_neg hc1n] | rw [if_neg (not_not_intro hc1n)]); (try first | rw [if_pos hc5n] | rw [if_neg hc5n] | rw [if_neg (not_not_intro hc5n)]); first | done | rfl
     rw [e]
     exact qI_of ⟨rfl, rfl, rfl⟩)
end
section
set_option maxRecDepth 8000 in
set_option maxHeartbeats 4000000 in
theorem q_takesClause {G : Gt} (hG : Gok G) {I : It} {h : Ht} (hM : HM h) {p c fr : Nat} {tx : Nat → Int32} {n a : Nat} (hp : p < 6) (hc : c < 60) (hT : TX tx n I) (hA : AT n a I) (h28 : I 0 28 = nI fr) (h1 : 100 * p ≤ fr) (h2 : fr ≤ 100 * p + a) (hL : ∀ j, j < 15 → I 17 j = lettersL.getD j 0)  : Con G (7) 0 0 mX12_takesClause [.ref 0, .int (nI c)] I h (qI (fun v J h2 => h2 = h ∧ v = bI ((clA tx n a).1 = true) ∧ FC p c fr I J ∧ TX tx n J ∧ AT n (clA tx n a).2.1 J ∧ ((clA tx n a).1 = true → CLr J c fr (clA tx n a).2.2 ∧ J 0 28 = nI (fr + (clA tx n a).2.2.2.2.length) ∧ fr + (clA tx n a).2.2.2.2.length ≤ 100 * p + (clA tx n a).2.1))) := by
  refine con_intro (own := RX12) (lo0 := [some (.ref 0), some (.int (nI c))]) hG rfl pl_X12 (Nat.le_of_ble_eq_true rfl) rfl (fun X hX => ?_)
  have hn100 := hT.2.1
  have han := hA.2
  have hhd := hdA_le (X := tx) han
  refine g_aload_0 hX (dk DX12_takesClause 0 rfl) ?_
  refine g_iload_1 hX (dk DX12_takesClause 1 rfl) ?_
  refine g_c2q hX sX12_takesClause_2 (by decide) (Nat.le_of_ble_eq_true rfl) (rc0 rfl (MLt hM (by decide)) (MC hM)) (by decide) (by decide) (q_takesHead hG hM hT hA hc hL) ?_
  rintro v J9 h9 ⟨rfl, rfl, rfl⟩
  refine g_ifb_eq (tgt := 15) hX (dk DX12_takesClause 3 rfl) (by decide) (fun hc1 => ?_) (fun hc1 => ?_)
  · refine g_iconst (v := 0) hX (dk DX12_takesClause 7 rfl) (by decide) ?_
    refine g_ireturn hX (dk DX12_takesClause 8 rfl) rfl (by decide) (by decide) (by decide) ?_
    first
    | (have e := cl_h (X := tx) (n := n) (a := a) (by assumption)
       rw [e]
       exact qI_of ⟨rfl, rfl, ((FC.rf.w11).f (by decide)), (hT.u (q := 11) (j := c) (by omega) (by decide)).w, (AT.w hhd.2), fun z => absurd (show false = true from z) Bool.false_ne_true⟩)
    | (have e := cl_n (X := tx) (n := n) (a := a) hh (by assumption)
       rw [e, if_neg (by assumption)]
       exact qI_of ⟨rfl, rfl, ((FC.rf.w11).f (by decide)), (hT.u (q := 11) (j := c) (by omega) (by decide)).w, (AT.w hhd.2), fun z => absurd (show false = true from z) Bool.false_ne_true⟩)
  · have hh := hc1
    refine g_aload_0 hX (dk DX12_takesClause 4 rfl) ?_
    refine g_c1q hX sX12_takesClause_9 (by decide) (Nat.le_of_ble_eq_true rfl) (rc0 rfl (MLt hM (by decide)) (MC hM)) (by decide) (by decide) (q_takesNumber hG hM (a := (hdA tx n a).2.1) ((hT.u (q := 11) (j := c) (by omega) (by decide)).w) (AT.w hhd.2)) ?_
    rintro v J9 h9 ⟨rfl, rfl, rfl⟩
    refine g_ifb_ne (tgt := 17) hX (dk DX12_takesClause 6 rfl) (by decide) (fun hc2 => ?_) (fun hc2 => ?_)
    · have hd := hc2
      rw [if_pos hd, W2_w]
      have hnu := nuA_le (X := tx) hhd.2
      have hng := nuA_gt hd
      refine g_aload_0 hX (dk DX12_takesClause 9 rfl) ?_
      refine g_getRs (r := 12) hX (dk DX12_takesClause 10 rfl) KX12 fX12_80 (by decide) rfl (MLt hM (by decide)) (MC hM) (MR hM 23 (by decide) rfl) ?_
      refine g_iload_1 hX (dk DX12_takesClause 11 rfl) ?_
      refine g_aload_0 hX (dk DX12_takesClause 12 rfl) ?_
      refine g_getIv hX (dk DX12_takesClause 13 rfl) KX12 fX12_68 (by decide) rfl (MLt hM (by decide)) (MC hM) (W2_v9) ?_
      refine i_iastore hX (dk DX12_takesClause 14 rfl) (MLt hM (q := 12) (by decide)) (MS hM 12 (by decide) rfl) (⟨rfl, hc, by decide⟩) ?_
      refine g_aload_0 hX (dk DX12_takesClause 15 rfl) ?_
      refine g_getRs (r := 11) hX (dk DX12_takesClause 16 rfl) KX12 fX12_77 (by decide) rfl (MLt hM (by decide)) (MC hM) (MR hM 22 (by decide) rfl) ?_
      refine g_iload_1 hX (dk DX12_takesClause 17 rfl) ?_
      refine v_iaload hX (dk DX12_takesClause 18 rfl) (MLt hM (q := 11) (by decide)) (MS hM 11 (by decide) rfl) (⟨rfl, hc, by decide⟩) ((show upI I 11 c (hdA tx n a).2.2 11 c = (hdA tx n a).2.2 from up0 _ _ _ _)) ?_
      refine g_iconst (v := 1) hX (dk DX12_takesClause 19 rfl) (by decide) ?_
      refine g_icmp_gt (tgt := 54) hX (dk DX12_takesClause 20 rfl) (by decide) (fun hc3 => ?_) (fun hc3 => ?_)
      · refine g_iconst (v := 1) hX (dk DX12_takesClause 29 rfl) (by decide) ?_
        refine g_goto (tgt := 59) hX (dk DX12_takesClause 30 rfl) (by decide) ?_
        refine g_ireturn hX (dk DX12_takesClause 32 rfl) rfl (by decide) (by decide) (by decide) ?_
        first
        | (have e := cl_w hh hd (by assumption)
           rw [e]
           exact qI_of ⟨rfl, rfl, ((((FC.rf.w11).f (by decide)).f (by decide)).w12), ((W2_T (hT.u (q := 11) (j := c) (by omega) (by decide))).u (q := 12) (j := c) (by omega) (by decide)), (show AT n (nuA tx n (hdA tx n a).2.1) _ from ⟨rfl, hnu⟩), fun _ => ⟨⟨up0 _ _ _ _, up0 _ _ _ _, fun z => absurd (show 1 < (hdA tx n a).2.2 by assumption) z⟩, h28, by show fr + 0 ≤ 100 * p + (nuA tx n (hdA tx n a).2.1); omega⟩⟩)
        | (have e := cl_s hh hd (by assumption) (by assumption)
           have etk : tkA tx n (nuA tx n (hdA tx n a).2.1) 32 = (nuA tx n (hdA tx n a).2.1) := if_neg (by assumption)
           rw [e, etk]
           exact qI_of ⟨rfl, rfl, (((((FC.rf.w11).f (by decide)).f (by decide)).w12).f (by decide)), (TX.w ((W2_T (hT.u (q := 11) (j := c) (by omega) (by decide))).u (q := 12) (j := c) (by omega) (by decide))), (AT.w hnu), fun z => absurd (show false = true from z) Bool.false_ne_true⟩)
        | (have e := cl_E hh hd hw1 h32
           have hr : (amR tx n 101 true ((nuA tx n (hdA tx n a).2.1) + 1) [] []).1 = false := Bool.not_eq_true _ ▸ (by assumption)
           rw [e]
           exact qI_of ⟨rfl, (bI_f (by assumption)).symm, (((((FC.rf.w11).f (by decide)).f (by decide)).w12).f (by decide)).tr k1, hT8, hA8, fun z => absurd z (by assumption)⟩)
        | (have e := cl_E hh hd hw1 h32
           have hr : (amR tx n 101 true ((nuA tx n (hdA tx n a).2.1) + 1) [] []).1 = true := by assumption
           obtain ⟨r1, r2, r3, r4⟩ := hR8 hr
           rw [e]
           exact qI_of ⟨rfl, (bI_t hr).symm, (((((FC.rf.w11).f (by decide)).f (by decide)).w12).f (by decide)).tr k1, hT8, hA8, fun _ => ⟨⟨(congrFun k3 c).trans (up0 _ _ _ _), (congrFun k4 c).trans (up0 _ _ _ _), fun _ => ⟨k2, r1, r2⟩⟩, r3, r4⟩⟩)
      · have hw1 := hc3
        refine g_aload_0 hX (dk DX12_takesClause 21 rfl) ?_
        refine g_bipush (v := 32) hX (dk DX12_takesClause 22 rfl) (by decide) ?_
        refine g_c2I hX sX12_takesClause_40 (by decide) (Nat.le_of_ble_eq_true rfl) (rc0 rfl (MLt hM (by decide)) (MC hM)) (by decide) (by decide) (q_takes hG hM ((W2_T (hT.u (q := 11) (j := c) (by omega) (by decide))).u (q := 12) (j := c) (by omega) (by decide)) (show AT n (nuA tx n (hdA tx n a).2.1) _ from ⟨rfl, hnu⟩)) ?_
        refine g_ifb_eq (tgt := 58) hX (dk DX12_takesClause 24 rfl) (by decide) (fun hc4 => ?_) (fun hc4 => ?_)
        · refine g_iconst (v := 0) hX (dk DX12_takesClause 31 rfl) (by decide) ?_
          refine g_ireturn hX (dk DX12_takesClause 32 rfl) rfl (by decide) (by decide) (by decide) ?_
          first
          | (have e := cl_w hh hd (by assumption)
             rw [e]
             exact qI_of ⟨rfl, rfl, ((((FC.rf.w11).f (by decide)).f (by decide)).w12), ((W2_T (hT.u (q := 11) (j := c) (by omega) (by decide))).u (q := 12) (j := c) (by omega) (by decide)), (show AT n (nuA tx n (hdA tx n a).2.1) _ from ⟨rfl, hnu⟩), fun _ => ⟨⟨up0 _ _ _ _, up0 _ _ _ _, fun z => absurd (show 1 < (hdA tx n a).2.2 by assumption) z⟩, h28, by show fr + 0 ≤ 100 * p + (nuA tx n (hdA tx n a).2.1); omega⟩⟩)
          | (have e := cl_s hh hd (by assumption) (by assumption)
             have etk : tkA tx n (nuA tx n (hdA tx n a).2.1) 32 = (nuA tx n (hdA tx n a).2.1) := if_neg (by assumption)
             rw [e, etk]
             exact qI_of ⟨rfl, rfl, (((((FC.rf.w11).f (by decide)).f (by decide)).w12).f (by decide)), (TX.w ((W2_T (hT.u (q := 11) (j := c) (by omega) (by decide))).u (q := 12) (j := c) (by omega) (by decide))), (AT.w hnu), fun z => absurd (show false = true from z) Bool.false_ne_true⟩)
          | (have e := cl_E hh hd hw1 h32
             have hr : (amR tx n 101 true ((nuA tx n (hdA tx n a).2.1) + 1) [] []).1 = false := Bool.not_eq_true _ ▸ (by assumption)
             rw [e]
             exact qI_of ⟨rfl, (bI_f (by assumption)).symm, (((((FC.rf.w11).f (by decide)).f (by decide)).w12).f (by decide)).tr k1, hT8, hA8, fun z => absurd z (by assumption)⟩)
          | (have e := cl_E hh hd hw1 h32
             have hr : (amR tx n 101 true ((nuA tx n (hdA tx n a).2.1) + 1) [] []).1 = true := by assumption
             obtain ⟨r1, r2, r3, r4⟩ := hR8 hr
             rw [e]
             exact qI_of ⟨rfl, (bI_t hr).symm, (((((FC.rf.w11).f (by decide)).f (by decide)).w12).f (by decide)).tr k1, hT8, hA8, fun _ => ⟨⟨(congrFun k3 c).trans (up0 _ _ _ _), (congrFun k4 c).trans (up0 _ _ _ _), fun _ => ⟨k2, r1, r2⟩⟩, r3, r4⟩⟩)
        · have h32 := hc4
          have hlt2 : (nuA tx n (hdA tx n a).2.1) < n := nxA_no (by decide) h32
          have etk : tkA tx n (nuA tx n (hdA tx n a).2.1) 32 = (nuA tx n (hdA tx n a).2.1) + 1 := if_pos h32
          rw [etk]
          refine g_aload_0 hX (dk DX12_takesClause 25 rfl) ?_
          refine g_iload_1 hX (dk DX12_takesClause 26 rfl) ?_
          refine g_c2q hX sX12_takesClause_48 (by decide) (Nat.le_of_ble_eq_true rfl) (rc0 rfl (MLt hM (by decide)) (MC hM)) (by decide) (by decide) (q_takesE hG hM (p := p) (fr := fr) (a := (nuA tx n (hdA tx n a).2.1) + 1) hp hc (TX.w ((W2_T (hT.u (q := 11) (j := c) (by omega) (by decide))).u (q := 12) (j := c) (by omega) (by decide))) (AT.w hlt2) (show _ = nI fr from h28) h1 (by omega)) ?_
          rintro v J8 h8 ⟨rfl, rfl, hF8, hT8, hA8, hR8⟩
          obtain ⟨k1, k2, k3, k4⟩ := FC.of hF8
          refine g_ifb_eq (tgt := 58) hX (dk DX12_takesClause 28 rfl) (by decide) (fun hc5 => ?_) (fun hc5 => ?_)
          · refine g_iconst (v := 0) hX (dk DX12_takesClause 31 rfl) (by decide) ?_
            refine g_ireturn hX (dk DX12_takesClause 32 rfl) rfl (by decide) (by decide) (by decide) ?_
            first
            | (have e := cl_w hh hd (by assumption)
               rw [e]
               exact qI_of ⟨rfl, rfl, ((((FC.rf.w11).f (by decide)).f (by decide)).w12), ((W2_T (hT.u (q := 11) (j := c) (by omega) (by decide))).u (q := 12) (j := c) (by omega) (by decide)), (show AT n (nuA tx n (hdA tx n a).2.1) _ from ⟨rfl, hnu⟩), fun _ => ⟨⟨up0 _ _ _ _, up0 _ _ _ _, fun z => absurd (show 1 < (hdA tx n a).2.2 by assumption) z⟩, h28, by show fr + 0 ≤ 100 * p + (nuA tx n (hdA tx n a).2.1); omega⟩⟩)
            | (have e := cl_s hh hd (by assumption) (by assumption)
               have etk : tkA tx n (nuA tx n (hdA tx n a).2.1) 32 = (nuA tx n (hdA tx n a).2.1) := if_neg (by assumption)
               rw [e, etk]
               exact qI_of ⟨rfl, rfl, (((((FC.rf.w11).f (by decide)).f (by decide)).w12).f (by decide)), (TX.w ((W2_T (hT.u (q := 11) (j := c) (by omega) (by decide))).u (q := 12) (j := c) (by omega) (by decide))), (AT.w hnu), fun z => absurd (show false = true from z) Bool.false_ne_true⟩)
            | (have e := cl_E hh hd hw1 h32
               have hr : (amR tx n 101 true ((nuA tx n (hdA tx n a).2.1) + 1) [] []).1 = false := Bool.not_eq_true _ ▸ (by assumption)
               rw [e]
               exact qI_of ⟨rfl, (bI_f (by assumption)).symm, (((((FC.rf.w11).f (by decide)).f (by decide)).w12).f (by decide)).tr k1, hT8, hA8, fun z => absurd z (by assumption)⟩)
            | (have e := cl_E hh hd hw1 h32
               have hr : (amR tx n 101 true ((nuA tx n (hdA tx n a).2.1) + 1) [] []).1 = true := by assumption
               obtain ⟨r1, r2, r3, r4⟩ := hR8 hr
               rw [e]
               exact qI_of ⟨rfl, (bI_t hr).symm, (((((FC.rf.w11).f (by decide)).f (by decide)).w12).f (by decide)).tr k1, hT8, hA8, fun _ => ⟨⟨(congrFun k3 c).trans (up0 _ _ _ _), (congrFun k4 c).trans (up0 _ _ _ _), fun _ => ⟨k2, r1, r2⟩⟩, r3, r4⟩⟩)
          · refine g_iconst (v := 1) hX (dk DX12_takesClause 29 rfl) (by decide) ?_
            refine g_goto (tgt := 59) hX (dk DX12_takesClause 30 rfl) (by decide) ?_
            refine g_ireturn hX (dk DX12_takesClause 32 rfl) rfl (by decide) (by decide) (by decide) ?_
            first
            | (have e := cl_w hh hd (by assumption)
               rw [e]
               exact qI_of ⟨rfl, rfl, ((((FC.rf.w11).f (by decide)).f (by decide)).w12), ((W2_T (hT.u (q := 11) (j := c) (by omega) (by decide))).u (q := 12) (j := c) (by omega) (by decide)), (show AT n (nuA tx n (hdA tx n a).2.1) _ from ⟨rfl, hnu⟩), fun _ => ⟨⟨up0 _ _ _ _, up0 _ _ _ _, fun z => absurd (show 1 < (hdA tx n a).2.2 by assumption) z⟩, h28, by show fr + 0 ≤ 100 * p + (nuA tx n (hdA tx n a).2.1); omega⟩⟩)
            | (have e := cl_s hh hd (by assumption) (by assumption)
               have etk : tkA tx n (nuA tx n (hdA tx n a).2.1) 32 = (nuA tx n (hdA tx n a).2.1) := if_neg (by assumption)
               rw [e, etk]
               exact qI_of ⟨rfl, rfl, (((((FC.rf.w11).f (by decide)).f (by decide)).w12).f (by decide)), (TX.w ((W2_T (hT.u (q := 11) (j := c) (by omega) (by decide))).u (q := 12) (j := c) (by omega) (by decide))), (AT.w hnu), fun z => absurd (show false = true from z) Bool.false_ne_true⟩)
            | (have e := cl_E hh hd hw1 h32
               have hr : (amR tx n 101 true ((nuA tx n (hdA tx n a).2.1) + 1) [] []).1 = false := Bool.not_eq_true _ ▸ (by assumption)
               rw [e]
               exact qI_of ⟨rfl, (bI_f (by assumption)).symm, (((((FC.rf.w11).f (by decide)).f (by decide)).w12).f (by decide)).tr k1, hT8, hA8, fun z => absurd z (by assumption)⟩)
            | (have e := cl_E hh hd hw1 h32
               have hr : (amR tx n 101 true ((nuA tx n (hdA tx n a).2.1) + 1) [] []).1 = true := by assumption
               obtain ⟨r1, r2, r3, r4⟩ := hR8 hr
               rw [e]
               exact qI_of ⟨rfl, (bI_t hr).symm, (((((FC.rf.w11).f (by decide)).f (by decide)).w12).f (by decide)).tr k1, hT8, hA8, fun _ => ⟨⟨(congrFun k3 c).trans (up0 _ _ _ _), (congrFun k4 c).trans (up0 _ _ _ _), fun _ => ⟨k2, r1, r2⟩⟩, r3, r4⟩⟩)
    · refine g_iconst (v := 0) hX (dk DX12_takesClause 7 rfl) (by decide) ?_
      refine g_ireturn hX (dk DX12_takesClause 8 rfl) rfl (by decide) (by decide) (by decide) ?_
      first
      | (have e := cl_h (X := tx) (n := n) (a := a) (by assumption)
         rw [e]
         exact qI_of ⟨rfl, rfl, ((FC.rf.w11).f (by decide)), (hT.u (q := 11) (j := c) (by omega) (by decide)).w, (AT.w hhd.2), fun z => absurd (show false = true from z) Bool.false_ne_true⟩)
      | (have e := cl_n (X := tx) (n := n) (a := a) hh (by assumption)
         rw [e, if_neg (by assumption)]
         exact qI_of ⟨rfl, rfl, ((FC.rf.w11).f (by decide)), (hT.u (q := 11) (j := c) (by omega) (by decide)).w, (AT.w hhd.2), fun z => absurd (show false = true from z) Bool.false_ne_true⟩)
end
section
theorem ten_p (p : Nat) : (10 : Int32) * nI p = nI (10 * p) := by rw [show (10 : Int32) = nI 10 from rfl, pk_mul]
theorem hun_p (p : Nat) : (100 : Int32) * nI p = nI (100 * p) := by rw [show (100 : Int32) = nI 100 from rfl, pk_mul]
theorem FG.L {p : Nat} {I J : It} (h : FG p I J) : J 17 = I 17 := h.2.1 17 (by decide)
theorem CLr.f {J : It} {c fr j : Nat} {k : Cl} {x : Int32} (h : CLr J c fr k) : CLr (upI J 0 j x) c fr k := h
theorem STc.f {J : It} {p j k fr : Nat} {l : List Cl} {x : Int32} (h : STc J p l k fr) : STc (upI J 0 j x) p l k fr := STc_mv h (fun _ _ _ => ⟨rfl, rfl, rfl, rfl⟩) (fun _ _ _ => rfl)
theorem STc.ten {J : It} {p j k fr : Nat} {l : List Cl} {x : Int32} (h : STc J p l k fr) : STc (upI J 10 j x) p l k fr := STc_mv h (fun _ _ _ => ⟨rfl, rfl, rfl, rfl⟩) (fun _ _ _ => rfl)
theorem STc.cl {J K : It} {p : Nat} {l : List Cl} {x : Cl} (h : STc J p l 0 (100 * p)) (hF : FC p (10 * p + l.length) (100 * p + tot l) J K) (hx : CLr K (10 * p + l.length) (100 * p + tot l) x) : STc K p (l ++ [x]) 0 (100 * p) := by
  refine STc_app (STc_mv h (fun c _ hc => hF.2.2.1 c (by omega)) (fun j _ hj => hF.2.2.2 j (by omega))) ?_
  rw [Nat.zero_add]
  exact hx
section GT
variable {X : Nat → Int32} {n f a : Nat} {l : List Cl}
theorem gt_f (h : ¬ (clA X n a).1 = true) : gtA X n (f + 1) a l = (false, (clA X n a).2.1, l) := by rw [gtA_s, if_pos (Bool.not_eq_true _ ▸ h)]
theorem gt_e (h : (clA X n a).1 = true) (h2 : (clA X n a).2.1 = n) : gtA X n (f + 1) a l = (true, n, l ++ [(clA X n a).2.2]) := by rw [gtA_s, if_neg (by rw [h]; decide), if_pos h2]
theorem gt_10 (h : (clA X n a).1 = true) (h2 : ¬ (clA X n a).2.1 = n) (h3 : l.length + 1 = 10) : gtA X n (f + 1) a l = (false, (clA X n a).2.1, l) := by rw [gtA_s, if_neg (by rw [h]; decide), if_neg h2, if_pos h3]
theorem gt_x (h : (clA X n a).1 = true) (h2 : ¬ (clA X n a).2.1 = n) (h3 : ¬ l.length + 1 = 10) (h4 : ¬ nxA X n (clA X n a).2.1 = 59) : gtA X n (f + 1) a l = (false, (clA X n a).2.1, l) := by rw [gtA_s, if_neg (by rw [h]; decide), if_neg h2, if_neg h3, if_neg h4]
theorem gt_s (h : (clA X n a).1 = true) (h2 : ¬ (clA X n a).2.1 = n) (h3 : ¬ l.length + 1 = 10) (h4 : nxA X n (clA X n a).2.1 = 59) : gtA X n (f + 1) a l = gtA X n f ((clA X n a).2.1 + 1) (l ++ [(clA X n a).2.2]) := by rw [gtA_s, if_neg (by rw [h]; decide), if_neg h2, if_neg h3, if_pos h4]
end GT

set_option maxRecDepth 8000 in
set_option maxHeartbeats 4000000 in
theorem q_goesText {G : Gt} (hG : Gok G) {I : It} {h : Ht} (hM : HM h) {p : Nat} {tx : Nat → Int32} {n : Nat} (hp : p < 6) (hT : TX tx n I) (hL : ∀ j, j < 15 → I 17 j = lettersL.getD j 0)  : Con G (8) 0 0 mX12_goesText [.ref 0, .int (nI p)] I h (qI (fun v J h2 => h2 = h ∧ v = bI ((gtA tx n 10 0 []).1 = true) ∧ FG p I J ∧ TX tx n J ∧ AT n (gtA tx n 10 0 []).2.1 J ∧ ((gtA tx n 10 0 []).1 = true → J 10 p = nI (gtA tx n 10 0 []).2.2.length ∧ STc J p (gtA tx n 10 0 []).2.2 0 (100 * p) ∧ tot (gtA tx n 10 0 []).2.2 ≤ n))) := by
  refine con_intro (own := RX12) (lo0 := [some (.ref 0), some (.int (nI p)), none]) hG rfl pl_X12 (Nat.le_of_ble_eq_true rfl) rfl (fun X hX => ?_)
  have hn100 := hT.2.1
  have loop15 : ∀ (f a2 : Nat) (l : List Cl) (J : It), l.length + f = 10 → 1 ≤ f → a2 ≤ n → FG p I J → TX tx n J → J 0 18 = nI a2 → J 0 28 = nI (100 * p + tot l) → tot l ≤ a2 → STc J p l 0 (100 * p) → gtA tx n f a2 l = (gtA tx n 10 0 []) → GG G (8) 0 0 X (qI (fun v J h2 => h2 = h ∧ v = bI ((gtA tx n 10 0 []).1 = true) ∧ FG p I J ∧ TX tx n J ∧ AT n (gtA tx n 10 0 []).2.1 J ∧ ((gtA tx n 10 0 []).1 = true → J 10 p = nI (gtA tx n 10 0 []).2.2.length ∧ STc J p (gtA tx n 10 0 []).2.2 0 (100 * p) ∧ tot (gtA tx n 10 0 []).2.2 ≤ n))) 15 [some (.ref 0), some (.int (nI p)), some (.int (nI l.length))] [] (J) (h) 0 0 := by
    intro f
    induction f using Nat.strongRecOn with | _ f ih => ?_
    intro a2 l J hl hf1 ha2 hFG hTJ hAJ h28 htot hST hv
    obtain ⟨f, rfl⟩ : ∃ z, f = z + 1 := ⟨f - 1, by omega⟩
    refine g_aload_0 hX (dk DX12_goesText 10 rfl) ?_
    refine g_bipush (v := 10) hX (dk DX12_goesText 11 rfl) (by decide) ?_
    refine g_iload_1 hX (dk DX12_goesText 12 rfl) ?_
    refine g_imul hX (dk DX12_goesText 13 rfl) ?_
    refine g_nmI (nI (10 * p)) (ten_p p) ?_
    refine g_iload_2 hX (dk DX12_goesText 14 rfl) ?_
    refine g_iadd hX (dk DX12_goesText 15 rfl) ?_
    refine g_nmI (nI (10 * p + l.length)) (nI_add _ _) ?_
    refine g_c2q hX sX12_goesText_22 (by decide) (Nat.le_of_ble_eq_true rfl) (rc0 rfl (MLt hM (by decide)) (MC hM)) (by decide) (by decide) (q_takesClause hG hM (p := p) (fr := 100 * p + tot l) (a := a2) hp (by omega) hTJ ⟨hAJ, ha2⟩ h28 (by omega) (by omega) (fun j hj => (congrFun hFG.L j).trans (hL j hj))) ?_
    rintro v J8 h8 ⟨rfl, rfl, hF8, hT8, hA8, hR8⟩
    have hG8 := hFG.c hF8 ⟨by omega, by omega⟩ (by omega)
    refine g_ifb_ne (tgt := 30) hX (dk DX12_goesText 17 rfl) (by decide) (fun hc1 => ?_) (fun hc1 => ?_)
    · have hc := hc1
      obtain ⟨r1, r2, r3⟩ := hR8 hc
      have hca := hA8.2
      refine g_iinc_2 hX (dk DX12_goesText 20 rfl) (nI_1 l.length) (by decide) rfl ?_
      refine g_aload_0 hX (dk DX12_goesText 21 rfl) ?_
      refine g_getRs (r := 10) hX (dk DX12_goesText 22 rfl) KX12 fX12_74 (by decide) rfl (MLt hM (by decide)) (MC hM) (MR hM 21 (by decide) rfl) ?_
      refine g_iload_1 hX (dk DX12_goesText 23 rfl) ?_
      refine g_iload_2 hX (dk DX12_goesText 24 rfl) ?_
      refine i_iastore hX (dk DX12_goesText 25 rfl) (MLt hM (q := 10) (by decide)) (MS hM 10 (by decide) rfl) (⟨rfl, hp, by decide⟩) ?_
      refine g_aload_0 hX (dk DX12_goesText 26 rfl) ?_
      refine g_getIv hX (dk DX12_goesText 27 rfl) KX12 fX12_65 (by decide) rfl (MLt hM (by decide)) (MC hM) ((show _ = nI (clA tx n a2).2.1 from hA8.1)) ?_
      refine g_aload_0 hX (dk DX12_goesText 28 rfl) ?_
      refine g_getIv hX (dk DX12_goesText 29 rfl) KX12 fX12_62 (by decide) rfl (MLt hM (by decide)) (MC hM) ((show _ = nI n from hT8.1)) ?_
      refine g_icmp_ne (tgt := 53) hX (dk DX12_goesText 30 rfl) (by decide) (fun hc2 => ?_) (fun hc2 => ?_)
      · have hne : ¬ (clA tx n a2).2.1 = n := fun z => hc2 (by rw [z])
        refine g_iload_2 hX (dk DX12_goesText 33 rfl) ?_
        refine g_bipush (v := 10) hX (dk DX12_goesText 34 rfl) (by decide) ?_
        refine g_icmp_eq (tgt := 68) hX (dk DX12_goesText 35 rfl) (by decide) (fun hc3 => ?_) (fun hc3 => ?_)
        · refine g_iconst (v := 0) hX (dk DX12_goesText 40 rfl) (by decide) ?_
          refine g_ireturn hX (dk DX12_goesText 41 rfl) rfl (by decide) (by decide) (by decide) ?_
          first
          | (have e := gt_10 (f := f) (l := l) hc hne ((nI_eq (b := 10) (by omega) (by decide)).mp (show nI (l.length + 1) = nI 10 by assumption))
             rw [e] at hv
             rw [← hv]
             exact qI_of ⟨rfl, rfl, hG8.w10, (hT8.u (by omega) (by decide)), (hA8.u (by omega)), fun z => absurd (show false = true from z) Bool.false_ne_true⟩)
          | (have e := gt_x (f := f) (l := l) hc hne h10 (by assumption)
             have etk : tkA tx n (clA tx n a2).2.1 59 = (clA tx n a2).2.1 := if_neg (by assumption)
             rw [e] at hv
             rw [← hv, etk]
             exact qI_of ⟨rfl, rfl, (hG8.w10.f (by decide)), (TX.w (hT8.u (by omega) (by decide))), (AT.w hca), fun z => absurd (show false = true from z) Bool.false_ne_true⟩)
        · have h10 : ¬ l.length + 1 = 10 := fun z => hc3 (by rw [z]; rfl)
          refine g_aload_0 hX (dk DX12_goesText 36 rfl) ?_
          refine g_bipush (v := 59) hX (dk DX12_goesText 37 rfl) (by decide) ?_
          refine g_c2I hX sX12_goesText_62 (by decide) (Nat.le_of_ble_eq_true rfl) (rc0 rfl (MLt hM (by decide)) (MC hM)) (by decide) (by decide) (q_takes hG hM (hT8.u (q := 10) (by omega) (by decide)) (hA8.u (by omega))) ?_
          refine g_ifb_ne (tgt := 15) hX (dk DX12_goesText 39 rfl) (by decide) (fun hc4 => ?_) (fun hc4 => ?_)
          · have h59 : nxA tx n (clA tx n a2).2.1 = 59 := by assumption
            have etk : tkA tx n (clA tx n a2).2.1 59 = (clA tx n a2).2.1 + 1 := if_pos h59
            have hlt := nxA_no (X := tx) (by decide) h59
            rw [etk]
            have eln : (l ++ [(clA tx n a2).2.2]).length = l.length + 1 := by simp
            exact g_fgt (ih f (by omega) ((clA tx n a2).2.1 + 1) (l ++ [(clA tx n a2).2.2]) _ (by rw [eln]; omega) (by omega) hlt ((hG8.w10).f (by decide)) (TX.w (hT8.u (by omega) (by decide))) rfl (by rw [tot_app, ← Nat.add_assoc]; exact r2) (by rw [tot_app]; omega) (STc.f (STc.ten (hST.cl hF8 r1))) (by rw [← hv, gt_s hc hne h10 h59])) ⟨rfl, rfl, by rw [eln], trivial⟩
          · refine g_iconst (v := 0) hX (dk DX12_goesText 40 rfl) (by decide) ?_
            refine g_ireturn hX (dk DX12_goesText 41 rfl) rfl (by decide) (by decide) (by decide) ?_
            first
            | (have e := gt_10 (f := f) (l := l) hc hne ((nI_eq (b := 10) (by omega) (by decide)).mp (show nI (l.length + 1) = nI 10 by assumption))
               rw [e] at hv
               rw [← hv]
               exact qI_of ⟨rfl, rfl, hG8.w10, (hT8.u (by omega) (by decide)), (hA8.u (by omega)), fun z => absurd (show false = true from z) Bool.false_ne_true⟩)
            | (have e := gt_x (f := f) (l := l) hc hne h10 (by assumption)
               have etk : tkA tx n (clA tx n a2).2.1 59 = (clA tx n a2).2.1 := if_neg (by assumption)
               rw [e] at hv
               rw [← hv, etk]
               exact qI_of ⟨rfl, rfl, (hG8.w10.f (by decide)), (TX.w (hT8.u (by omega) (by decide))), (AT.w hca), fun z => absurd (show false = true from z) Bool.false_ne_true⟩)
      · refine g_iconst (v := 1) hX (dk DX12_goesText 31 rfl) (by decide) ?_
        refine g_ireturn hX (dk DX12_goesText 32 rfl) rfl (by decide) (by decide) (by decide) ?_
        have hen : (clA tx n a2).2.1 = n := (nI_eq (by omega) (by omega)).mp (by assumption)
        have e := gt_e (f := f) (l := l) hc hen
        rw [e] at hv
        rw [← hv]
        have eln : (l ++ [(clA tx n a2).2.2]).length = l.length + 1 := by simp
        exact qI_of ⟨rfl, rfl, hG8.w10, hT8.u (by omega) (by decide), (show AT n n _ from ⟨by rw [hen] at hA8; exact hA8.1, Nat.le_refl _⟩), fun _ => ⟨by rw [eln]; exact up0 _ _ _ _, STc.ten (hST.cl hF8 r1), by rw [tot_app]; omega⟩⟩
    · refine g_iconst (v := 0) hX (dk DX12_goesText 18 rfl) (by decide) ?_
      refine g_ireturn hX (dk DX12_goesText 19 rfl) rfl (by decide) (by decide) (by decide) ?_
      have e := gt_f (f := f) (l := l) (X := tx) (n := n) (a := a2) (by assumption)
      rw [e] at hv
      rw [← hv]
      exact qI_of ⟨rfl, rfl, hG8, hT8, hA8, fun z => absurd (show false = true from z) Bool.false_ne_true⟩
  refine g_aload_0 hX (dk DX12_goesText 0 rfl) ?_
  refine g_iconst (v := 0) hX (dk DX12_goesText 1 rfl) (by decide) ?_
  refine g_putI hX (dk DX12_goesText 2 rfl) KX12 fX12_65 (by decide) rfl (MLt hM (by decide)) (MC hM) (Or.inl rfl) (rfl) (rfl) ?_
  refine g_aload_0 hX (dk DX12_goesText 3 rfl) ?_
  refine g_bipush (v := 100) hX (dk DX12_goesText 4 rfl) (by decide) ?_
  refine g_iload_1 hX (dk DX12_goesText 5 rfl) ?_
  refine g_imul hX (dk DX12_goesText 6 rfl) ?_
  refine g_nmI (nI (100 * p)) (hun_p p) ?_
  refine g_putI hX (dk DX12_goesText 7 rfl) KX12 fX12_95 (by decide) rfl (MLt hM (by decide)) (MC hM) (Or.inl rfl) (rfl) (rfl) ?_
  refine g_iconst (v := 0) hX (dk DX12_goesText 8 rfl) (by decide) ?_
  refine g_istore_2 hX (dk DX12_goesText 9 rfl) (by decide) rfl ?_
  exact g_fgt (loop15 10 0 [] _ rfl (by decide) (Nat.zero_le _) ((FG.rf.f (by decide)).f (by decide)) ((hT.u (by omega) (by decide)).u (by omega) (by decide)) rfl rfl (by decide) trivial rfl) ⟨rfl, rfl, rfl, trivial⟩
end
section
/-! the post: what is answered, and the picture behind it -/
def fedN (E : It) : Nat := tN (E 0 17)
def poR (E : It) : Bool × Nat × List Cl := gtA (E 9) (fedN E) 10 0 []
/-- a picture with a post more -/
def PN (E E' : It) (l : List Cl) : Prop :=
  (E' 0 15 = nI (nP E + 1) ∧ E' 0 16 = nI (nP E) ∧ E' 0 17 = 0) ∧ (∀ j, j ∉ [15, 16, 17] → E' 0 j = E 0 j) ∧ (∀ a, a ∉ [0, 10, 11, 12, 13, 14, 15] → E' a = E a) ∧
  (∀ j, j < nP E → E' 10 j = E 10 j) ∧ (∀ j, j < 10 * nP E → E' 11 j = E 11 j ∧ E' 12 j = E 12 j ∧ E' 13 j = E 13 j ∧ E' 14 j = E 14 j) ∧ (∀ j, j < 100 * nP E → E' 15 j = E 15 j) ∧
  E' 10 (nP E) = nI l.length ∧ STc E' (nP E) l 0 (100 * nP E) ∧ tot l ≤ 100
def PoS (E E' : It) (v : Int32) : Prop :=
  (nP E = 6 ∧ v = -4 ∧ E' = E) ∨ (nP E < 6 ∧ (poR E).1 = false ∧ v = -10 - nI (poR E).2.1 ∧ E' = upI E 0 17 0) ∨ (nP E < 6 ∧ (poR E).1 = true ∧ v = nI (nP E) ∧ PN E E' (poR E).2.2)
def pnE (E J : It) (p : Nat) : It := fun a j => if a = 0 then (if j = 15 then nI (p + 1) else if j = 16 then nI p else if j = 17 then 0 else E 0 j) else if 10 ≤ a ∧ a ≤ 15 then J a j else E a j
theorem pnE_0 {E J : It} {p j : Nat} (h : j ∉ [15, 16, 17]) : pnE E J p 0 j = E 0 j := by
  simp only [List.mem_cons, List.not_mem_nil, or_false, not_or] at h
  unfold pnE
  rw [if_pos rfl, if_neg h.1, if_neg h.2.1, if_neg h.2.2]
theorem pnE_c {E J : It} {p a : Nat} (h0 : a ≠ 0) (h : ¬ (10 ≤ a ∧ a ≤ 15)) : pnE E J p a = E a := by
  funext j
  unfold pnE
  rw [if_neg h0, if_neg h]
theorem pnE_r {E J : It} {p a : Nat} (h : 10 ≤ a ∧ a ≤ 15) : pnE E J p a = J a := by
  funext j
  unfold pnE
  rw [if_neg (by omega), if_pos h]
theorem post_f {E I J : It} (hR : RM E I) (hG : FG (nP E) I J) : RM (upI E 0 17 0) (upI J 0 17 0) := by
  obtain ⟨a1, a2, a3, a4, a5, a6⟩ := hR
  obtain ⟨g1, g2, g3, g4, g5⟩ := hG
  have hn : nP (upI E 0 17 0) = nP E := rfl
  refine ⟨fun j hj _ => ?_, fun a ha _ => ?_, ?_, ?_, ?_, ?_⟩
  · by_cases e : j = 17
    · subst e; rw [up0, up0]
    · rw [upn (fun z => e z.2), upn (fun z => e z.2), g1 j (by intro z; revert hj z; simp [pfL]; omega)]
      exact a1 j hj (by simp)
  · have h0 : a ≠ 0 := by rintro rfl; revert ha; decide
    rw [upI_off h0, upI_off h0, g2 a (by intro z; revert ha z; simp [pcL]; omega)]
    exact a2 a ha (by simp)
  · intro j hj
    rw [hn] at hj
    exact (g3 j (by omega)).trans (a3 j hj)
  · intro j hj
    rw [hn] at hj
    obtain ⟨e1, e2, e3, e4⟩ := g4 j (by omega)
    obtain ⟨b1, b2, b3, b4⟩ := a4 j hj
    exact ⟨e1.trans b1, e2.trans b2, e3.trans b3, e4.trans b4⟩
  · intro j hj
    rw [hn] at hj
    exact (g5 j (by omega)).trans (a5 j hj)
  · intro j hj
    exact (congrFun (g2 17 (by decide)) j).trans (a6 j hj)
theorem post_t {E I J : It} (hR : RM E I) (hG : FG (nP E) I J) : RM (pnE E J (nP E)) (upI (upI (upI J 0 17 0) 0 16 (nI (nP E))) 0 15 (nI (nP E + 1))) := by
  obtain ⟨a1, a2, a3, a4, a5, a6⟩ := hR
  obtain ⟨g1, g2, g3, g4, g5⟩ := hG
  have ho : ∀ a, a ≠ 0 → upI (upI (upI J 0 17 0) 0 16 (nI (nP E))) 0 15 (nI (nP E + 1)) a = J a := fun a h0 => (upI_off h0).trans ((upI_off h0).trans (upI_off h0))
  refine ⟨fun j hj _ => ?_, fun a ha _ => ?_, fun j hj => ?_, fun j hj => ?_, fun j hj => ?_, fun j hj => ?_⟩
  · by_cases e : j = 15
    · subst e; rfl
    · by_cases e2 : j = 16
      · subst e2; rfl
      · by_cases e3 : j = 17
        · subst e3; rfl
        · rw [pnE_0 (by simp; omega), upn (fun z => e z.2), upn (fun z => e2 z.2), upn (fun z => e3 z.2), g1 j (by intro z; revert hj z; simp [pfL]; omega)]
          exact a1 j hj (by simp)
  · have h0 : a ≠ 0 := by rintro rfl; revert ha; decide
    rw [ho a h0, pnE_c h0 (by intro z; revert ha z; simp [pcL]; omega), g2 a (by intro z; revert ha z; simp [pcL]; omega)]
    exact a2 a ha (by simp)
  · rw [ho 10 (by decide), pnE_r (by decide)]
  · rw [ho 11 (by decide), pnE_r (by decide), ho 12 (by decide), pnE_r (by decide), ho 13 (by decide), pnE_r (by decide), ho 14 (by decide), pnE_r (by decide)]
    exact ⟨rfl, rfl, rfl, rfl⟩
  · rw [ho 15 (by decide), pnE_r (by decide)]
  · rw [ho 17 (by decide)]
    exact (congrFun (g2 17 (by decide)) j).trans (a6 j hj)
theorem post_n {E I J : It} {l : List Cl} (hR : RM E I) (hG : FG (nP E) I J) (h1 : J 10 (nP E) = nI l.length) (h2 : STc J (nP E) l 0 (100 * nP E)) (h3 : tot l ≤ 100) : PN E (pnE E J (nP E)) l := by
  obtain ⟨a1, a2, a3, a4, a5, a6⟩ := hR
  obtain ⟨g1, g2, g3, g4, g5⟩ := hG
  refine ⟨⟨rfl, rfl, rfl⟩, fun j hj => pnE_0 hj, fun a ha => pnE_c (by rintro rfl; revert ha; decide) (by intro z; revert ha z; simp; omega), fun j hj => ?_, fun j hj => ?_, fun j hj => ?_, ?_, ?_, h3⟩
  · rw [pnE_r (by decide), g3 j (by omega)]; exact a3 j hj
  · rw [pnE_r (by decide), pnE_r (by decide), pnE_r (by decide), pnE_r (by decide)]
    obtain ⟨e1, e2, e3, e4⟩ := g4 j (by omega)
    obtain ⟨b1, b2, b3, b4⟩ := a4 j hj
    exact ⟨e1.trans b1, e2.trans b2, e3.trans b3, e4.trans b4⟩
  · rw [pnE_r (by decide), g5 j (by omega)]; exact a5 j hj
  · rw [pnE_r (by decide)]; exact h1
  · exact STc_mv h2 (fun c _ _ => by rw [pnE_r (by decide), pnE_r (by decide), pnE_r (by decide), pnE_r (by decide)]; exact ⟨rfl, rfl, rfl, rfl⟩) (fun j _ _ => by rw [pnE_r (by decide)])
theorem post_T {E I : It} (hE : Inv E) (hR : RM E I) : TX (E 9) (fedN E) I := by
  obtain ⟨f, hf, ef, -⟩ := hE.2.2.2.2.1
  have e : fedN E = f := by unfold fedN; rw [ef, tN_nI (by omega)]
  rw [e]
  exact ⟨(RM.f hR 17 (by decide) (by decide)).trans ef, hf, fun j _ => RM.c1 hR 9 j (by decide) (by decide)⟩

set_option maxRecDepth 8000 in
set_option maxHeartbeats 4000000 in
theorem c_X12_post {G : Gt} (hG : Gok G) {I : It} {h : Ht} (hM : HM h) {E : It} (hE : Inv E) (hR : RM E I) {L : Nat → Int64} (hl : hL h 38 = L)  : Con G (9) 0 0 mX12_post [.ref 0] I h (qI (fun v I2 h2 => ∃ E2, PoS E E2 v ∧ SM E2 L I2 h2)) := by
  refine con_intro (own := RX12) (lo0 := [some (.ref 0), none]) hG rfl pl_X12 (Nat.le_of_ble_eq_true rfl) rfl (fun X hX => ?_)
  refine g_aload_0 hX (dk DX12_post 0 rfl) ?_
  refine g_getIv hX (dk DX12_post 1 rfl) KX12 fX12_56 (by decide) rfl (MLt hM (by decide)) (MC hM) ((RM.f hR 15 (by decide) (by decide)).trans hE.2.2.1.1) ?_
  refine g_bipush (v := 6) hX (dk DX12_post 2 rfl) (by decide) ?_
  refine g_icmp_ne (tgt := 12) hX (dk DX12_post 3 rfl) (by decide) (fun hc1 => ?_) (fun hc1 => ?_)
  · have hp : nP E < 6 := by
      have := hE.2.2.1.2
      rcases Nat.lt_or_ge (nP E) 6 with z | z
      · exact z
      · exact absurd (show nI (nP E) = 6 by rw [show nP E = 6 by omega]; rfl) hc1
    refine g_aload_0 hX (dk DX12_post 6 rfl) ?_
    refine g_aload_0 hX (dk DX12_post 7 rfl) ?_
    refine g_getIv hX (dk DX12_post 8 rfl) KX12 fX12_56 (by decide) rfl (MLt hM (by decide)) (MC hM) ((RM.f hR 15 (by decide) (by decide)).trans hE.2.2.1.1) ?_
    refine g_c2q hX sX12_post_17 (by decide) (Nat.le_of_ble_eq_true rfl) (rc0 rfl (MLt hM (by decide)) (MC hM)) (by decide) (by decide) (q_goesText hG hM hp (post_T hE hR) hR.2.2.2.2.2) ?_
    rintro v J8 h8 ⟨rfl, rfl, hG8, hT8, hA8, hR8⟩
    refine g_istore_1 hX (dk DX12_post 10 rfl) (by decide) rfl ?_
    refine g_aload_0 hX (dk DX12_post 11 rfl) ?_
    refine g_iconst (v := 0) hX (dk DX12_post 12 rfl) (by decide) ?_
    refine g_putI hX (dk DX12_post 13 rfl) KX12 fX12_62 (by decide) rfl (MLt hM (by decide)) (MC hM) (Or.inl rfl) (rfl) (rfl) ?_
    refine g_iload_1 hX (dk DX12_post 14 rfl) ?_
    refine g_ifb_ne (tgt := 38) hX (dk DX12_post 15 rfl) (by decide) (fun hc2 => ?_) (fun hc2 => ?_)
    · refine g_aload_0 hX (dk DX12_post 21 rfl) ?_
      refine g_aload_0 hX (dk DX12_post 22 rfl) ?_
      refine g_getIv hX (dk DX12_post 23 rfl) KX12 fX12_56 (by decide) rfl (MLt hM (by decide)) (MC hM) ((show _ = nI (nP E) from (hG8.1 15 (by decide)).trans ((RM.f hR 15 (by decide) (by decide)).trans hE.2.2.1.1))) ?_
      refine g_putI hX (dk DX12_post 24 rfl) KX12 fX12_59 (by decide) rfl (MLt hM (by decide)) (MC hM) (Or.inl rfl) (rfl) (rfl) ?_
      refine g_aload_0 hX (dk DX12_post 25 rfl) ?_
      refine g_dup hX (dk DX12_post 26 rfl) rfl ?_
      refine g_getIv hX (dk DX12_post 27 rfl) KX12 fX12_56 (by decide) rfl (MLt hM (by decide)) (MC hM) ((show _ = nI (nP E) from (hG8.1 15 (by decide)).trans ((RM.f hR 15 (by decide) (by decide)).trans hE.2.2.1.1))) ?_
      refine g_iconst (v := 1) hX (dk DX12_post 28 rfl) (by decide) ?_
      refine g_iadd hX (dk DX12_post 29 rfl) ?_
      refine g_nmI (nI (nP E + 1)) (nI_1 _) ?_
      refine g_putI hX (dk DX12_post 30 rfl) KX12 fX12_56 (by decide) rfl (MLt hM (by decide)) (MC hM) (Or.inl rfl) (rfl) (rfl) ?_
      refine g_aload_0 hX (dk DX12_post 31 rfl) ?_
      refine g_getIv hX (dk DX12_post 32 rfl) KX12 fX12_59 (by decide) rfl (MLt hM (by decide)) (MC hM) ((show _ = nI (nP E) from rfl)) ?_
      refine g_ireturn hX (dk DX12_post 33 rfl) rfl (rfl) (by decide) (by decide) ?_
      have hr : (poR E).1 = true := by assumption
      exact qI_of ⟨pnE E J8 (nP E), Or.inr (Or.inr ⟨hp, hr, rfl, post_n hR hG8 (hR8 hr).1 (hR8 hr).2.1 (Nat.le_trans (hR8 hr).2.2 (post_T hE hR).2.1)⟩), post_t hR hG8, hM, hl⟩
    · refine g_bipush (v := -10) hX (dk DX12_post 16 rfl) (by decide) ?_
      refine g_aload_0 hX (dk DX12_post 17 rfl) ?_
      refine g_getIv hX (dk DX12_post 18 rfl) KX12 fX12_65 (by decide) rfl (MLt hM (by decide)) (MC hM) ((show _ = nI (poR E).2.1 from hA8.1)) ?_
      refine g_isub hX (dk DX12_post 19 rfl) ?_
      refine g_ireturn hX (dk DX12_post 20 rfl) rfl (rfl) (by decide) (by decide) ?_
      exact qI_of ⟨upI E 0 17 0, Or.inr (Or.inl ⟨hp, Bool.not_eq_true _ ▸ (by assumption), rfl, rfl⟩), post_f hR hG8, hM, hl⟩
  · refine g_bipush (v := -4) hX (dk DX12_post 4 rfl) (by decide) ?_
    refine g_ireturn hX (dk DX12_post 5 rfl) rfl (rfl) (by decide) (by decide) ?_
    exact qI_of ⟨E, Or.inl ⟨(nI_eq (b := 6) (by have := hE.2.2.1.2; omega) (by decide)).mp (by assumption), rfl, rfl⟩, hR, hM, hl⟩
end
section
/-! what is read is well made: codes, clauses, the picture behind a post -/
def dpL : List Int32 → Nat → Option Nat := fun l => match l with
  | [] => fun n => some n
  | x :: r => fun n => match depR x n with
    | none => none
    | some m => dpL r m
theorem dpL_c (x : Int32) (r : List Int32) (n : Nat) : dpL (x :: r) n = (match depR x n with
    | none => none
    | some m => dpL r m) := rfl
theorem dpL_app {x : Int32} : ∀ {l : List Int32} {n m : Nat}, dpL l n = some m → dpL (l ++ [x]) n = depR x m := by
  intro l
  induction l with
  | nil =>
    intro n m h
    cases h
    show dpL [x] n = _
    rw [dpL_c]
    cases depR x n <;> rfl
  | cons y r ih =>
    intro n m h
    rw [List.cons_append, dpL_c]
    rw [dpL_c] at h
    cases e : depR y n with
    | none => rw [e] at h; cases h
    | some q => rw [e] at h; exact ih h
def okCo (x : Int32) : Prop := (∃ t, t ≤ 6299 ∧ x = nI t) ∨ x = -33 ∨ x = -38 ∨ x = -124
def bns : List Int32 → Nat := fun ws => match ws with
  | [] => 0
  | x :: r => if x = 38 ∨ x = 124 then bns r + 1 else bns r
theorem bns_c (x : Int32) (r : List Int32) : bns (x :: r) = if x = 38 ∨ x = 124 then bns r + 1 else bns r := rfl
theorem dep_t {t n : Nat} (ht : t ≤ 6299) : depR (nI t) n = some (n + 1) := by
  unfold depR
  rw [if_neg (fun z => absurd (show nI t < 0 by rw [z]; decide) (nI_pos (by omega))), if_neg (nI_pos (by omega))]
theorem dep_b (n : Nat) : depR (-33) (n + 1) = some (n + 1) := by
  unfold depR
  rw [if_pos rfl, if_neg (by omega)]
theorem dep_o {x : Int32} (hx : x = 38 ∨ x = 124) (n : Nat) : depR (-x) (n + 2) = some (n + 1) := by
  unfold depR
  rcases hx with rfl | rfl
  · rw [if_neg (by decide), if_pos (by decide), if_neg (by omega)]; rfl
  · rw [if_neg (by decide), if_pos (by decide), if_neg (by omega)]; rfl
def okL (cs : List Int32) (m : Nat) : Prop := (∀ x, x ∈ cs → okCo x) ∧ dpL cs 0 = some m
theorem okL.put {cs : List Int32} {m m2 : Nat} {x : Int32} (h : okL cs m) (hx : okCo x) (hd : depR x m = some m2) : okL (cs ++ [x]) m2 :=
  ⟨fun y hy => by
    rcases List.mem_append.mp hy with z | z
    · exact h.1 y z
    · rw [List.mem_singleton.mp z]; exact hx, (dpL_app h.2).trans hd⟩
theorem okL.wh : ∀ {ws cs : List Int32}, okL cs (bns ws + 1) → okL (whA ws cs).1 (bns (whA ws cs).2 + 1) := by
  intro ws
  induction ws with
  | nil => intro cs h; exact h
  | cons x r ih =>
    intro cs h
    rw [whA_c]
    by_cases e : x = 33
    · rw [if_pos e]
      rw [bns_c, if_neg (by rw [e]; decide)] at h
      exact ih (h.put (Or.inr (Or.inl rfl)) (dep_b _))
    · rw [if_neg e]; exact h
theorem okL.se {s : Int32} : ∀ {ws cs : List Int32}, okL cs (bns ws + 1) → okL (seA s ws cs).1 (bns (seA s ws cs).2 + 1) := by
  intro ws
  induction ws with
  | nil => intro cs h; exact h
  | cons x r ih =>
    intro cs h
    rw [seA_c]
    by_cases e : x = 38
    · rw [if_pos e]
      rw [bns_c, if_pos (Or.inl e)] at h
      exact ih (h.put (by rw [e]; exact Or.inr (Or.inr (Or.inl rfl))) (dep_o (Or.inl e) _))
    · rw [if_neg e]
      by_cases e2 : x = 124
      · rw [if_pos e2]
        by_cases e3 : s = 38
        · rw [if_pos e3]; exact h
        · rw [if_neg e3]
          rw [bns_c, if_pos (Or.inr e2)] at h
          exact ih (h.put (by rw [e2]; exact Or.inr (Or.inr (Or.inr rfl))) (dep_o (Or.inr e2) _))
      · rw [if_neg e2]; exact h
theorem dg_c {x : Int32} (h : 48 ≤ x ∧ x ≤ 57) : ∃ c, 48 ≤ c ∧ c ≤ 57 ∧ x = nI c := in1_of (c := 48) (b := 57) (by decide) (by decide) h
theorem dg_1 : ∀ c, c ≤ 57 → 48 ≤ c → 10 * 0 + nI c - 48 = nI (c - 48) := by decide
theorem dg_2 : ∀ c, c ≤ 57 → 48 ≤ c → ∀ e, e ≤ 57 → 48 ≤ e → 10 * nI (c - 48) + nI e - 48 = nI (10 * (c - 48) + (e - 48)) := by decide +kernel
theorem nv_99 {X : Nat → Int32} {n a : Nat} (h : dgA X n a) : ∃ d, d ≤ 99 ∧ nvA X n a = nI d := by
  obtain ⟨c, c1, c2, ec⟩ := dg_c h
  unfold nvA
  by_cases h2 : dgA X n (a + 1)
  · obtain ⟨e, e1, e2, ee⟩ := dg_c h2
    rw [if_pos h2, ec, ee, dg_1 c c2 c1, dg_2 c c2 c1 e e2 e1]
    exact ⟨_, by omega, rfl⟩
  · rw [if_neg h2, ec, dg_1 c c2 c1]
    exact ⟨_, by omega, rfl⟩
theorem pl_c {c : Int32} (h : ¬ plA c < 0) : ∃ f, f ≤ 6 ∧ plA c = nI f := by
  unfold plA at h ⊢
  split at h
  · next e => rw [if_pos e]; exact ⟨4, by decide, rfl⟩
  next e1 =>
  rw [if_neg e1]
  split at h
  · next e => rw [if_pos e]; exact ⟨0, by decide, rfl⟩
  next e1 =>
  rw [if_neg e1]
  split at h
  · next e => rw [if_pos e]; exact ⟨1, by decide, rfl⟩
  next e1 =>
  rw [if_neg e1]
  split at h
  · next e => rw [if_pos e]; exact ⟨2, by decide, rfl⟩
  next e1 =>
  rw [if_neg e1]
  split at h
  · next e => rw [if_pos e]; exact ⟨3, by decide, rfl⟩
  next e1 =>
  rw [if_neg e1]
  split at h
  · next e => rw [if_pos e]; exact ⟨6, by decide, rfl⟩
  next e1 =>
  rw [if_neg e1]
  split at h
  · next e => rw [if_pos e]; exact ⟨5, by decide, rfl⟩
  · exact absurd (by decide) h
theorem cd_e : ∀ f, f ≤ 6 → ∀ s, s ≤ 62 → 60 ≤ s → 1000 * nI f + 100 * (nI s - 60) = nI (1000 * f + 100 * (s - 60)) := by decide +kernel
theorem ts_ok {X : Nat → Int32} {n a : Nat} (h : (tsA X n a).1 = true) : ∃ f s d, f ≤ 6 ∧ s ≤ 2 ∧ d ≤ 99 ∧ plA (nxA X n a) = nI f ∧ nxA X n (a + 1) = nI (s + 60) ∧ nvA X n (a + 2) = nI d ∧ (tsA X n a).2.2 = nI (1000 * f + 100 * s + d) := by
  unfold tsA at h ⊢
  split at h
  · exact absurd h Bool.false_ne_true
  next h1 =>
  rw [if_neg h1]
  split at h
  · exact absurd h Bool.false_ne_true
  next h2 =>
  rw [if_neg h2]
  split at h
  · exact absurd h Bool.false_ne_true
  next h3 =>
  rw [if_neg h3]
  obtain ⟨f, hf, ef⟩ := pl_c h1
  obtain ⟨s, s1, s2, es⟩ := in1_of (c := 60) (b := 62) (by decide) (by decide) (Decidable.not_not.mp h2)
  obtain ⟨d, hd, ed⟩ := nv_99 (Decidable.not_not.mp h3)
  refine ⟨f, s - 60, d, hf, by omega, hd, ef, by rw [es, show s - 60 + 60 = s by omega], ed, ?_⟩
  show 1000 * plA (nxA X n a) + 100 * (nxA X n (a + 1) - 60) + nvA X n (a + 2) = _
  rw [ef, es, ed, cd_e f hf s s2 s1, nI_add]
theorem am_ok {X : Nat → Int32} {n : Nat} : ∀ (f : Nat) (w : Bool) (a : Nat) (cs ws : List Int32), okW ws → okL cs (bns ws + (if w = true then 0 else 1)) → (amR X n f w a cs ws).1 = true → okL (amR X n f w a cs ws).2.2 1 := by
  intro f
  induction f with
  | zero => intro w a cs ws _ _ h; exact absurd h Bool.false_ne_true
  | succ f ih =>
    intro w a cs ws hw hL h
    cases w with
    | true =>
      rw [if_pos rfl, Nat.add_zero] at hL
      by_cases h1 : nxA X n a = 33 ∨ nxA X n a = 40
      · by_cases h4 : opn ws = 4
        · rw [am_o4 h1 h4] at h; exact absurd h Bool.false_ne_true
        · rw [am_o h1 h4] at h ⊢
          refine ih true _ _ _ (hw.cn (by rcases h1 with z | z <;> rw [z] <;> decide)) ?_ h
          rw [bns_c, if_neg (by rcases h1 with z | z <;> rw [z] <;> decide), if_pos rfl, Nat.add_zero]
          exact hL
      · by_cases h4 : (tsA X n a).1 = true
        · rw [am_t h1 h4] at h ⊢
          obtain ⟨q, s, d, q1, q2, q3, -, -, -, q4⟩ := ts_ok h4
          refine ih false _ _ _ (hw.wh _) ?_ h
          rw [if_neg Bool.false_ne_true]
          refine okL.wh (hL.put ?_ ?_)
          · rw [q4]; exact Or.inl ⟨_, by omega, rfl⟩
          · rw [q4]; exact dep_t (by omega)
        · rw [am_tf h1 h4] at h; exact absurd h Bool.false_ne_true
    | false =>
      rw [if_neg Bool.false_ne_true] at hL
      by_cases h1 : nxA X n a = 38 ∨ nxA X n a = 124
      · rw [am_b h1] at h ⊢
        refine ih true _ _ _ ((hw.se _).cn (by rcases h1 with z | z <;> rw [z] <;> decide)) ?_ h
        rw [bns_c, if_pos h1, if_pos rfl]
        exact hL.se
      · by_cases h2 : (seA 124 ws cs).2 = []
        · rw [am_e h1 h2]
          have := hL.se (s := 124)
          rw [h2] at this
          exact this
        · by_cases h3 : nxA X n a = 41
          · rw [am_c h1 h2 h3] at h ⊢
            obtain ⟨x, t, ext⟩ := List.exists_cons_of_ne_nil h2
            have q1 := hw.se (s := 124) cs
            have q2 := se_top ext
            have q3 := hL.se (s := 124)
            rw [ext] at q1 q3 h ⊢
            rw [bns_c, if_neg (by rintro (z | z); exact q2.1 z; exact q2.2 z)] at q3
            refine ih false _ _ _ (q1.tl.wh _) ?_ h
            rw [if_neg Bool.false_ne_true]
            exact okL.wh q3
          · rw [am_x h1 h2 h3] at h; exact absurd h Bool.false_ne_true
def okCl (x : Cl) : Prop := (x.1 = 0 ∨ x.1 = 1 ∨ x.1 = 2 ∨ x.1 = 3) ∧ (∃ v, v ≤ 99 ∧ x.2.1 = nI v) ∧ (¬ 1 < x.1 → okL x.2.2 1)
theorem hd_w {X : Nat → Int32} {n a : Nat} : (hdA X n a).2.2 = 0 ∨ (hdA X n a).2.2 = 1 ∨ (hdA X n a).2.2 = 2 ∨ (hdA X n a).2.2 = 3 := by
  unfold hdA
  split
  · split
    · exact Or.inr (Or.inr (Or.inl rfl))
    · exact Or.inr (Or.inl rfl)
  · split
    · exact Or.inl rfl
    · exact Or.inr (Or.inr (Or.inr rfl))
theorem clA_ok {X : Nat → Int32} {n a : Nat} (h : (clA X n a).1 = true) : okCl (clA X n a).2.2 := by
  by_cases h1 : (hdA X n a).1 = true
  · by_cases h2 : dgA X n (hdA X n a).2.1
    · by_cases h3 : 1 < (hdA X n a).2.2
      · rw [cl_w h1 h2 h3]; exact ⟨hd_w, nv_99 h2, fun z => absurd h3 z⟩
      · by_cases h4 : nxA X n (nuA X n (hdA X n a).2.1) = 32
        · rw [cl_E h1 h2 h3 h4] at h ⊢
          exact ⟨hd_w, nv_99 h2, fun _ => am_ok 101 true _ [] [] (fun _ z => absurd z List.not_mem_nil) ⟨fun _ z => absurd z List.not_mem_nil, rfl⟩ h⟩
        · rw [cl_s h1 h2 h3 h4] at h; exact absurd h Bool.false_ne_true
    · rw [cl_n h1 h2] at h; exact absurd h Bool.false_ne_true
  · rw [cl_h h1] at h; exact absurd h Bool.false_ne_true
theorem gt_ok {X : Nat → Int32} {n : Nat} : ∀ (f a : Nat) (l : List Cl), l.length + f = 10 → (∀ x, x ∈ l → okCl x) → (gtA X n f a l).1 = true → (∀ x, x ∈ (gtA X n f a l).2.2 → okCl x) ∧ 1 ≤ (gtA X n f a l).2.2.length ∧ (gtA X n f a l).2.2.length ≤ 10 := by
  intro f
  induction f with
  | zero => intro a l _ _ h; exact absurd h Bool.false_ne_true
  | succ f ih =>
    intro a l hl hk h
    by_cases h1 : (clA X n a).1 = true
    · have hk2 : ∀ x, x ∈ l ++ [(clA X n a).2.2] → okCl x := fun x hx => by
        rcases List.mem_append.mp hx with z | z
        · exact hk x z
        · rw [List.mem_singleton.mp z]; exact clA_ok h1
      have eln : (l ++ [(clA X n a).2.2]).length = l.length + 1 := by simp
      by_cases h2 : (clA X n a).2.1 = n
      · rw [gt_e h1 h2]
        exact ⟨hk2, by show 1 ≤ (l ++ [(clA X n a).2.2]).length; omega, by show (l ++ [(clA X n a).2.2]).length ≤ 10; omega⟩
      · by_cases h3 : l.length + 1 = 10
        · rw [gt_10 h1 h2 h3] at h; exact absurd h Bool.false_ne_true
        · by_cases h4 : nxA X n (clA X n a).2.1 = 59
          · rw [gt_s h1 h2 h3 h4] at h ⊢
            exact ih _ _ (by omega) hk2 h
          · rw [gt_x h1 h2 h3 h4] at h; exact absurd h Bool.false_ne_true
    · rw [gt_f h1] at h; exact absurd h Bool.false_ne_true
/-! the picture -/
theorem wf_dp {E : It} : ∀ (cs : List Int32) (fr n : Nat), CD fr E cs → dpL cs n = some 1 → wfR E cs.length fr n = true := by
  intro cs
  induction cs with
  | nil => intro fr n _ h; cases h; rfl
  | cons x r ih =>
    intro fr n hc h
    have e0 : E 15 fr = x := hc 0 (by simp)
    rw [List.length_cons, wfR_s, e0]
    rw [dpL_c] at h
    cases e : depR x n with
    | none => rw [e] at h; cases h
    | some m =>
      rw [e] at h
      refine ih (fr + 1) m (fun i hi => ?_) h
      have := hc (i + 1) (by simp only [List.length_cons]; omega)
      rw [show fr + (i + 1) = fr + 1 + i by omega] at this
      rw [this]
      simp
theorem wfR_mv {E E2 : It} {b : Nat} (h : ∀ j, j < b → E2 15 j = E 15 j) : ∀ (k c n : Nat), c + k ≤ b → wfR E2 k c n = wfR E k c n := by
  intro k
  induction k with
  | zero => intro c n _; rfl
  | succ k ih =>
    intro c n hb
    rw [wfR_s, wfR_s, h c (by omega)]
    cases depR (E 15 c) n with
    | none => rfl
    | some m => exact ih (c + 1) m (by omega)
theorem clOk_mv {E E2 : It} {p q c : Nat} (hq : q < p) (h1 : E2 11 c = E 11 c ∧ E2 12 c = E 12 c ∧ E2 13 c = E 13 c ∧ E2 14 c = E 14 c) (h2 : ∀ j, j < 100 * p → E2 15 j = E 15 j) (hc : clOk E q c) : clOk E2 q c := by
  unfold clOk at hc ⊢
  rw [h1.1, h1.2.1, h1.2.2.1, h1.2.2.2]
  refine ⟨hc.1, hc.2.1, fun w => ?_⟩
  obtain ⟨a, b, e1, e2, e3, e4, e5, e6, e7⟩ := hc.2.2 w
  exact ⟨a, b, e1, e2, e3, e4, e5, by rw [wfR_mv h2 _ _ _ (by omega)]; exact e6, fun j j1 j2 => by rw [h2 j (by omega)]; exact e7 j j1 j2⟩
theorem clOk_of {E : It} {p c fr : Nat} {x : Cl} (h : CLr E c fr x) (hx : okCl x) (h1 : 100 * p ≤ fr) (h2 : fr + x.2.2.length ≤ 100 * p + 100) : clOk E p c := by
  obtain ⟨e1, e2, e3⟩ := h
  obtain ⟨x1, x2, x3⟩ := hx
  refine ⟨by rw [e1]; exact x1, by rw [e2]; exact x2, fun w => ?_⟩
  have hw : ¬ 1 < x.1 := by
    rw [e1] at w
    rcases w with w | w <;> rw [w] <;> decide
  obtain ⟨g1, g2, g3⟩ := e3 hw
  obtain ⟨k1, k2⟩ := x3 hw
  refine ⟨fr, fr + x.2.2.length, g1, g2, h1, by omega, h2, ?_, fun j j1 j2 => ?_⟩
  · rw [show fr + x.2.2.length - fr = x.2.2.length by omega]
    exact wf_dp _ _ _ g3 k2
  · have hi : j - fr < x.2.2.length := by omega
    have := g3 (j - fr) hi
    rw [show fr + (j - fr) = j by omega] at this
    have hm : x.2.2.getD (j - fr) 0 ∈ x.2.2 := by
      rw [List.getD_eq_getElem?_getD, List.getElem?_eq_getElem hi]
      exact List.getElem_mem hi
    rw [this]
    rcases k1 _ hm with ⟨t, ht, et⟩ | z | z | z
    · exact ⟨t, ht, Or.inl et⟩
    · exact ⟨0, by decide, Or.inr (Or.inl z)⟩
    · exact ⟨0, by decide, Or.inr (Or.inr (Or.inl z))⟩
    · exact ⟨0, by decide, Or.inr (Or.inr (Or.inr z))⟩
theorem STc_at {E : It} {p : Nat} : ∀ {l : List Cl} {k fr : Nat}, STc E p l k fr → ∀ c, c < l.length → ∃ x fr2, x ∈ l ∧ CLr E (10 * p + (k + c)) fr2 x ∧ fr ≤ fr2 ∧ fr2 + x.2.2.length ≤ fr + tot l := by
  intro l
  induction l with
  | nil => intro k fr _ c hc; exact absurd hc (Nat.not_lt_zero c)
  | cons y r ih =>
    intro k fr h c hc
    rw [List.length_cons] at hc
    rw [tot_c]
    cases c with
    | zero => exact ⟨y, fr, List.mem_cons_self, h.1, Nat.le_refl _, by omega⟩
    | succ c =>
      obtain ⟨x, fr2, q1, q2, q3, q4⟩ := ih h.2 c (by omega)
      exact ⟨x, fr2, List.mem_cons_of_mem _ q1, by rw [show k + (c + 1) = k + 1 + c by omega]; exact q2, by omega, by omega⟩
theorem partOk_up {n w the rows kn idl : Int32} {kd v rd pl co ne od hr rw rdd : Nat → Int32} {p : Nat} (h : partOk n w the rows kn idl kd v rd pl co ne od hr rw rdd p) : partOk n w the rows kn idl kd v rd pl co ne od hr rw rdd (p + 1) := by
  obtain ⟨h1, h2, h3, h4⟩ := h
  refine ⟨h1, h2, ?_, h4⟩
  rcases h3 with z | ⟨x, hx, e⟩
  · exact Or.inl z
  · exact Or.inr ⟨x, by omega, e⟩
theorem PN.inv {E E2 : It} {l : List Cl} (hE : Inv E) (hp : nP E < 6) (h : PN E E2 l) (hk : ∀ x, x ∈ l → okCl x) (h1 : 1 ≤ l.length) (h10 : l.length ≤ 10) : Inv E2 := by
  obtain ⟨⟨z15, z16, z17⟩, f0, fC, f10, f11, f15, g10, gS, gt⟩ := h
  have hn : nP E2 = nP E + 1 := by unfold nP at *; rw [z15, tN_nI (by omega)]
  refine ⟨?_, ?_, ⟨by rw [hn]; exact z15, by omega⟩, fun p hpp => ?_, ⟨0, by decide, z17, fun j hj => absurd hj (Nat.not_lt_zero j)⟩, ?_, ?_⟩
  · rw [hn, f0 0 (by decide), f0 1 (by decide), f0 44 (by decide), f0 5 (by decide), f0 6 (by decide), fC 1 (by decide), fC 2 (by decide), fC 3 (by decide), fC 4 (by decide), fC 5 (by decide), fC 6 (by decide), fC 7 (by decide), fC 8 (by decide), fC 23 (by decide), fC 24 (by decide), z16]
    obtain ⟨q1, q2, -, q4⟩ := hE.1
    exact ⟨q1, q2, Or.inr ⟨nP E, by omega, rfl⟩, q4⟩
  · have := hE.2.1
    have h2 : iM E2 (nP E) := iM_cg hE.2.1 (fun j hj => f0 j (by intro z; revert hj z; simp; omega)) (fun a ha => fC a (by intro z; revert ha z; simp; omega))
    rw [hn]
    rcases h2 with z | ⟨z, q⟩
    · exact Or.inl z
    · exact Or.inr ⟨z, partOk_up q⟩
  · rw [hn] at hpp
    by_cases e : p = nP E
    · subst e
      refine ⟨l.length, h1, h10, g10, fun c hc => ?_⟩
      obtain ⟨x, fr2, q1, q2, q3, q4⟩ := STc_at gS c hc
      rw [Nat.zero_add] at q2
      exact clOk_of q2 (hk x q1) q3 (by omega)
    · have hlt : p < nP E := by omega
      obtain ⟨x, x1, x2, x3, x4⟩ := hE.2.2.2.1 p hlt
      exact ⟨x, x1, x2, by rw [f10 p hlt]; exact x3, fun c hc => clOk_mv hlt (f11 _ (by omega)) f15 (x4 c hc)⟩
  · rw [f0 67 (by decide)]; exact hE.2.2.2.2.2.1
  · rw [fC 36 (by decide), fC 37 (by decide)]; exact hE.2.2.2.2.2.2
theorem Inv.f17 {E : It} (hE : Inv E) : Inv (upI E 0 17 0) :=
  hE.cg (iP_cg hE.1 (fun j hj => upn (fun z => absurd hj (by rw [z.2]; decide))) (fun a ha => upI_off (by rintro rfl; revert ha; decide))) (iM_cg hE.2.1 (fun j hj => upn (fun z => absurd hj (by rw [z.2]; decide))) (fun a ha => upI_off (by rintro rfl; revert ha; decide))) rfl (fun a ha => upI_off (by rintro rfl; revert ha; decide)) ⟨0, by decide, rfl, fun j hj => absurd hj (Nat.not_lt_zero j)⟩ hE.2.2.2.2.2.1 hE.2.2.2.2.2.2
theorem PoS.inv {E E2 : It} {v : Int32} (hE : Inv E) (h : PoS E E2 v) : Inv E2 := by
  rcases h with ⟨-, -, rfl⟩ | ⟨-, -, -, rfl⟩ | ⟨hp, hr, -, h⟩
  · exact hE
  · exact hE.f17
  · obtain ⟨q1, q2, q3⟩ := gt_ok 10 0 [] rfl (fun _ z => absurd z List.not_mem_nil) hr
    exact h.inv hE hp q1 q2 q3
/-- nothing that is compared without posts is changed by a post -/
theorem PoS.eE {E E2 : It} {v : Int32} (h : PoS E E2 v) : (∀ j, j ∈ [0, 1, 6, 44, 47, 49, 50, 55, 56, 67] → E2 0 j = E 0 j) ∧ ∀ a, a ∈ [1, 2, 3, 4, 5, 6, 7, 8, 25, 26, 27, 28, 29, 30, 31, 32, 35, 36, 37] → E2 a = E a := by
  rcases h with ⟨-, -, rfl⟩ | ⟨-, -, -, rfl⟩ | ⟨hp, hr, -, -, f0, fC, -⟩
  · exact ⟨fun _ _ => rfl, fun _ _ => rfl⟩
  · exact ⟨fun j hj => upn (fun z => absurd hj (by rw [z.2]; decide)), fun a ha => upI_off (by rintro rfl; revert ha; decide)⟩
  · exact ⟨fun j hj => f0 j (by intro z; revert hj z; simp; omega), fun a ha => fC a (by intro z; revert ha z; simp; omega)⟩
end
section
/-! the rest of the relation: what HE KNOWS, COSTS, posts, THE TEXT; a post's codes go alike in both -/
def letL (f : Nat) : Nat := if f = 0 then 105 else if f = 1 then 107 else if f = 2 then 114 else if f = 3 then 118 else if f = 4 then 99 else if f = 5 then 121 else 119
/-- a code of the reference and the class's -/
def CRq (x y : Int32) : Prop := (x = -33 ∧ y = 33) ∨ (x = -38 ∧ y = 38) ∨ (x = -124 ∧ y = 124) ∨ ∃ f s d, f ≤ 6 ∧ s ≤ 2 ∧ d ≤ 99 ∧ x = nI (1000 * f + 100 * s + d) ∧ y = nI (letL f + 256 * (60 + s) + 65536 * d)
set_option maxRecDepth 100000 in
theorem cr_y : ∀ f, f ≤ 6 → ∀ s, s ≤ 2 → ∀ d, d ≤ 99 → (nI (letL f + 256 * (60 + s) + 65536 * d) &&& 255 = nI (letL f) ∧ (nI (letL f + 256 * (60 + s) + 65536 * d) >>> (8 &&& 31)) &&& 255 = nI (60 + s) ∧ nI (letL f + 256 * (60 + s) + 65536 * d) >>> (16 &&& 31) = nI d) := by decide +kernel
set_option maxRecDepth 100000 in
theorem cr_x : ∀ f, f ≤ 6 → ∀ s, s ≤ 2 → ∀ d, d ≤ 99 → (nI (1000 * f + 100 * s + d) / 1000 = nI f ∧ remI (nI (1000 * f + 100 * s + d) / 100) 10 = nI s ∧ remI (nI (1000 * f + 100 * s + d)) 100 = nI d) := by decide +kernel
theorem nI_neL {a b : Nat} (ha : a < 2 ^ 31) (hb : b < 2 ^ 31) (h : a ≠ b) : ¬ nI a = nI b := fun z => h ((nI_eq ha hb).mp z)
theorem f7 {f : Nat} (hf : f ≤ 6) : f = 0 ∨ f = 1 ∨ f = 2 ∨ f = 3 ∨ f = 4 ∨ f = 5 ∨ f = 6 := by omega
theorem knd_e : ∀ x, x ≤ 6 → knd (kcl (nI x)) = nI x := by decide
/-- the fact that a code asks of is the same -/
theorem fact_e {E : It} {L : Nat → Int64} {I : It} {h : Ht} (hE : Inv E) (hY : RY E L I h) {d : Nat} (hd : d < cnt E) {f s n : Nat} (hf : f ≤ 6) (hs2 : s ≤ 2) (hn : n ≤ 99) (y w : Int32) :
    factC I h (dn h d) (nI (letL f + 256 * (60 + s) + 65536 * n)) y w = factF E (nI f) d y w := by
  obtain ⟨g1, g2, g3, g4, g5, g6, g7, g8, g9, g10⟩ := hY.d hd
  obtain ⟨⟨x, hx, ex⟩, -⟩ := inv_d hE hd
  have hk : knd (hs h (dn h d)).1 = E 1 d := by rw [g4, ex]; exact knd_e x hx
  unfold factC
  rw [(cr_y f hf s hs2 n hn).1, g5, g6, g7, g9, hk]
  rcases f7 hf with rfl | rfl | rfl | rfl | rfl | rfl | rfl <;> rfl
theorem test_e {E : It} {L : Nat → Int64} {I : It} {h : Ht} (hE : Inv E) (hY : RY E L I h) {d : Nat} (hd : d < cnt E) {f s n : Nat} (hf : f ≤ 6) (hs2 : s ≤ 2) (hn : n ≤ 99) (y w : Int32) :
    psC I h (dn h d) (nI (letL f + 256 * (60 + s) + 65536 * n)) y w = b2 (testF E (nI (1000 * f + 100 * s + n)) d y w) := by
  have hfa := fact_e hE hY hd hf hs2 hn y w
  obtain ⟨-, c2, c3⟩ := cr_y f hf s hs2 n hn
  obtain ⟨x1, x2, x3⟩ := cr_x f hf s hs2 n hn
  unfold psC testF
  rw [c2, c3, hfa, x1, x2, x3, b2_bI]
  rcases (by omega : s = 0 ∨ s = 1 ∨ s = 2) with rfl | rfl | rfl
  · rw [if_pos (by decide), if_pos (show nI 0 = 0 from rfl)]
    exact bI_iff decide_eq_true_iff.symm
  · rw [if_neg (by decide), if_pos (by decide), if_neg (show ¬ nI 1 = 0 by decide), if_pos (show nI 1 = 1 from rfl)]
    exact bI_iff decide_eq_true_iff.symm
  · rw [if_neg (by decide), if_neg (by decide), if_neg (show ¬ nI 2 = 0 by decide), if_neg (show ¬ nI 2 = 1 by decide)]
    exact bI_iff decide_eq_true_iff.symm
/-! the pile of answers as bits -/
def gb (b : Int32) (i : Nat) : Bool := b.toBitVec.getLsbD i
def BS (b : Int32) (s : List Bool) : Prop := ∀ i, i < s.length → gb b i = s.getD i false
theorem gb_xor (a b : Int32) (i : Nat) : gb (a ^^^ b) i = (gb a i ^^ gb b i) := by unfold gb; rw [Int32.toBitVec_xor, BitVec.getLsbD_xor]
theorem gb_or (a b : Int32) (i : Nat) : gb (a ||| b) i = (gb a i || gb b i) := by unfold gb; rw [Int32.toBitVec_or, BitVec.getLsbD_or]
theorem gb_and (a b : Int32) (i : Nat) : gb (a &&& b) i = (gb a i && gb b i) := by unfold gb; rw [Int32.toBitVec_and, BitVec.getLsbD_and]
theorem gb_sr (b : Int32) {i : Nat} (hi : i < 31) : gb (b >>> (1 &&& 31)) i = gb b (i + 1) := by
  unfold gb
  rw [show (1 &&& 31 : Int32) = 1 by decide, Int32.toBitVec_shiftRight]
  rw [show (1 : Int32).toBitVec.smod 32 = 1#32 by decide, BitVec.sshiftRight_eq', show (1#32 : BitVec 32).toNat = 1 by decide, BitVec.getLsbD_sshiftRight]
  rw [show decide (32 ≤ i) = false by simp; omega, if_pos (by omega), Nat.add_comm]
  rfl
theorem gb_sl (b : Int32) {i : Nat} (hi : i < 32) : gb (b <<< (1 &&& 31)) i = (decide (0 < i) && gb b (i - 1)) := by
  unfold gb
  rw [show (1 &&& 31 : Int32) = 1 by decide, Int32.toBitVec_shiftLeft]
  rw [show (1 : Int32).toBitVec.smod 32 = 1#32 by decide, BitVec.shiftLeft_eq', show (1#32 : BitVec 32).toNat = 1 by decide, BitVec.getLsbD_shiftLeft]
  rw [show decide (i < 32) = true by simp; omega]
  cases i with
  | zero => rfl
  | succ i => simp
theorem gb_1 : ∀ i, i < 32 → gb 1 i = decide (i = 0) := by decide
theorem gb_m2 : ∀ i, i < 32 → gb (-2) i = decide (0 < i) := by decide
theorem gb_0 : ∀ i, i < 32 → gb 0 i = false := by decide
theorem gb_b2 (x : Bool) {i : Nat} (hi : i < 32) : gb (b2 x) i = (decide (i = 0) && x) := by
  cases x
  · rw [show b2 false = 0 from rfl, gb_0 i hi]; simp
  · rw [show b2 true = 1 from rfl, gb_1 i hi]; simp
theorem BS.top {b : Int32} {x : Bool} {r : List Bool} (h : BS b (x :: r)) : gb b 0 = x := h 0 (by simp)
theorem BS.head {b : Int32} {s : List Bool} (h : BS b s) (hl : s.length = 1) : (b &&& 1 ≠ 0) ↔ s.headD false = true := by
  obtain ⟨x, rfl⟩ : ∃ x, s = [x] := by
    match s, hl with
    | [x], _ => exact ⟨x, rfl⟩
  have h0 := h.top
  show (b &&& 1 ≠ 0) ↔ x = true
  rw [← h0]
  constructor
  · intro z
    cases e : gb b 0 with
    | true => rfl
    | false =>
      refine absurd ?_ z
      apply Int32.toBitVec.inj
      apply BitVec.eq_of_getLsbD_eq
      intro i hi
      show gb (b &&& 1) i = gb 0 i
      rw [gb_and, gb_1 i hi, gb_0 i hi]
      by_cases e0 : i = 0
      · subst e0; rw [e]; rfl
      · simp [e0]
  · intro z e
    have h1 : gb (b &&& 1) 0 = true := by rw [gb_and, z]; rfl
    rw [e] at h1
    exact absurd h1 (by decide)
theorem BS.bang {b : Int32} {x : Bool} {r : List Bool} (hl : r.length ≤ 30) (h : BS b (x :: r)) : BS (b ^^^ 1) ((!x) :: r) := by
  intro i hi
  simp only [List.length_cons] at hi
  rw [gb_xor, gb_1 i (by omega)]
  have := h i (by simpa using hi)
  cases i with
  | zero => rw [this]; simp
  | succ i => rw [this]; simp
theorem BS.and {b : Int32} {x y : Bool} {r : List Bool} (hl : r.length ≤ 29) (h : BS b (x :: y :: r)) : BS (b >>> (1 &&& 31) &&& (b ||| -2)) ((y && x) :: r) := by
  intro i hi
  simp only [List.length_cons] at hi
  rw [gb_and, gb_sr b (by omega), gb_or, gb_m2 i (by omega)]
  have h1 := h (i + 1) (by simp only [List.length_cons]; omega)
  have h0 := h 0 (by simp)
  cases i with
  | zero => rw [h1, h0]; simp
  | succ i => rw [h1]; simp
theorem BS.or {b : Int32} {x y : Bool} {r : List Bool} (hl : r.length ≤ 29) (h : BS b (x :: y :: r)) : BS (b >>> (1 &&& 31) ||| b &&& 1) ((y || x) :: r) := by
  intro i hi
  simp only [List.length_cons] at hi
  rw [gb_or, gb_sr b (by omega), gb_and, gb_1 i (by omega)]
  have h1 := h (i + 1) (by simp only [List.length_cons]; omega)
  have h0 := h 0 (by simp)
  cases i with
  | zero => rw [h1, h0]; simp
  | succ i => rw [h1]; simp
theorem BS.push {b : Int32} {x : Bool} {s : List Bool} (hl : s.length ≤ 30) (h : BS b s) : BS (b <<< (1 &&& 31) ||| b2 x) (x :: s) := by
  intro i hi
  simp only [List.length_cons] at hi
  rw [gb_or, gb_sl b (by omega), gb_b2 x (by omega)]
  cases i with
  | zero => simp
  | succ i =>
    have h1 := h i (by omega)
    simp [h1]
/-! codes in a list: the deepest pile, what they come to -/
def dpB : List Int32 → Nat → Option Nat := fun l => match l with
  | [] => fun n => some n
  | x :: r => fun n => match depR x n with
    | none => none
    | some m => if 30 < m then none else dpB r m
theorem dpB_c (x : Int32) (r : List Int32) (n : Nat) : dpB (x :: r) n = (match depR x n with
    | none => none
    | some m => if 30 < m then none else dpB r m) := rfl
theorem dpB_app {x : Int32} : ∀ {l : List Int32} {n m k : Nat}, dpB l n = some m → depR x m = some k → k ≤ 30 → dpB (l ++ [x]) n = some k := by
  intro l
  induction l with
  | nil =>
    intro n m k h h2 h3
    cases h
    show dpB [x] n = _
    rw [dpB_c, h2]
    show (if 30 < k then none else some k) = some k
    rw [if_neg (by omega)]
  | cons y r ih =>
    intro n m k h h2 h3
    rw [List.cons_append, dpB_c]
    rw [dpB_c] at h
    cases e : depR y n with
    | none => rw [e] at h; cases h
    | some q =>
      rw [e] at h
      show (if 30 < q then none else dpB (r ++ [x]) q) = some k
      replace h : (if 30 < q then none else dpB r q) = some m := h
      by_cases hq : 30 < q
      · rw [if_pos hq] at h; cases h
      · rw [if_neg hq] at h ⊢; exact ih h h2 h3
def evL (E : It) (i : Nat) (y w : Int32) : List Int32 → List Bool → List Bool := fun l => match l with
  | [] => fun s => s
  | x :: r => fun s => evL E i y w r (stepR E i y w x s)
theorem evL_c (E : It) (i : Nat) (y w x : Int32) (r : List Int32) (s : List Bool) : evL E i y w (x :: r) s = evL E i y w r (stepR E i y w x s) := rfl
theorem evalR_L {E : It} {i : Nat} {y w : Int32} : ∀ (cs : List Int32) (fr : Nat) (s : List Bool), CD fr E cs → evalR E i y w cs.length fr s = evL E i y w cs s := by
  intro cs
  induction cs with
  | nil => intro fr s _; rfl
  | cons x r ih =>
    intro fr s hc
    have e0 : E 15 fr = x := hc 0 (by simp)
    rw [List.length_cons, evalR_s, evL_c, e0]
    refine ih (fr + 1) _ (fun i hi => ?_)
    have := hc (i + 1) (by simp only [List.length_cons]; omega)
    rw [show fr + (i + 1) = fr + 1 + i by omega] at this
    rw [this]
    simp
/-- class's codes from fr on are those of the list -/
def CC2 (fr : Nat) (f : Nat → Int32) (cs : List Int32) : Prop := ∀ i, i < cs.length → CRq (cs.getD i 0) (f (fr + i))
/-- one code -/
theorem st_e {E : It} {L : Nat → Int64} {I : It} {h : Ht} (hE : Inv E) (hY : RY E L I h) {d : Nat} (hd : d < cnt E) {y w x t b : Int32} {s : List Bool} {m : Nat} (hc : CRq x t) (hb : BS b s) (hs : s.length ≤ 30) (hm : depR x s.length = some m) (hm30 : m ≤ 30) : BS (stC I h (dn h d) y w t b) (stepR E d y w x s) ∧ (stepR E d y w x s).length = m := by
  rcases hc with ⟨rfl, rfl⟩ | ⟨rfl, rfl⟩ | ⟨rfl, rfl⟩ | ⟨f, z, n, hf, hz, hn, rfl, rfl⟩
  · cases s with
    | nil => exact absurd (show (none : Option Nat) = some m from hm) (by simp)
    | cons a r =>
      simp only [List.length_cons] at hs hm
      rw [show depR (-33) (r.length + 1) = some (r.length + 1) from dep_b _] at hm
      cases hm
      refine ⟨?_, ?_⟩
      · show BS (if (33 : Int32) = 33 then b ^^^ 1 else _) ((!a) :: r)
        rw [if_pos rfl]
        exact hb.bang (by omega)
      · show ((!a) :: r).length = _
        simp
  · cases s with
    | nil => exact absurd (show (none : Option Nat) = some m from hm) (by simp)
    | cons a r =>
      cases r with
      | nil => exact absurd (show (none : Option Nat) = some m from hm) (by simp)
      | cons c q =>
        simp only [List.length_cons] at hs hm
        rw [show depR (-38) (q.length + 1 + 1) = some (q.length + 1) from dep_o (Or.inl rfl) _] at hm
        cases hm
        have e : stepR E d y w (-38) (a :: c :: q) = (c && a) :: q := rfl
        rw [e]
        refine ⟨?_, by simp⟩
        show BS (if (38 : Int32) = 33 then _ else if (38 : Int32) = 38 then b >>> (1 &&& 31) &&& (b ||| -2) else _) _
        rw [if_neg (by decide), if_pos rfl]
        exact hb.and (by omega)
  · cases s with
    | nil => exact absurd (show (none : Option Nat) = some m from hm) (by simp)
    | cons a r =>
      cases r with
      | nil => exact absurd (show (none : Option Nat) = some m from hm) (by simp)
      | cons c q =>
        simp only [List.length_cons] at hs hm
        rw [show depR (-124) (q.length + 1 + 1) = some (q.length + 1) from dep_o (Or.inr rfl) _] at hm
        cases hm
        have e : stepR E d y w (-124) (a :: c :: q) = (c || a) :: q := rfl
        rw [e]
        refine ⟨?_, by simp⟩
        show BS (if (124 : Int32) = 33 then _ else if (124 : Int32) = 38 then _ else if (124 : Int32) = 124 then b >>> (1 &&& 31) ||| b &&& 1 else _) _
        rw [if_neg (by decide), if_neg (by decide), if_pos rfl]
        exact hb.or (by omega)
  · rw [dep_t (by omega)] at hm
    cases hm
    have n1 : ¬ nI (1000 * f + 100 * z + n) = -33 := fun q => nI_pos (n := 1000 * f + 100 * z + n) (by omega) (by rw [q]; decide)
    have n2 : ¬ nI (1000 * f + 100 * z + n) < 0 := nI_pos (by omega)
    have e : stepR E d y w (nI (1000 * f + 100 * z + n)) s = testF E (nI (1000 * f + 100 * z + n)) d y w :: s := by
      unfold stepR
      rw [if_neg n1, if_neg n2]
    rw [e]
    refine ⟨?_, by simp⟩
    have hl : letL f ≤ 121 := by rcases f7 hf with rfl | rfl | rfl | rfl | rfl | rfl | rfl <;> decide
    have hK : ∀ q, q < 256 → ¬ nI (letL f + 256 * (60 + z) + 65536 * n) = nI q := fun q hq => nI_neL (by omega) (by omega) (by omega)
    unfold stC
    rw [if_neg (show ¬ nI (letL f + 256 * (60 + z) + 65536 * n) = 33 from hK 33 (by decide)), if_neg (show ¬ nI (letL f + 256 * (60 + z) + 65536 * n) = 38 from hK 38 (by decide)), if_neg (show ¬ nI (letL f + 256 * (60 + z) + 65536 * n) = 124 from hK 124 (by decide)), test_e hE hY hd hf hz hn]
    exact hb.push hs
/-- all codes of an E -/
theorem hb_e {E : It} {L : Nat → Int64} {I : It} {h : Ht} (hE : Inv E) (hY : RY E L I h) {d p : Nat} (hd : d < cnt E) {y w : Int32} : ∀ (cs : List Int32) (fr : Nat) (b : Int32) (s : List Bool) (m : Nat), CC2 fr (I (47 + 5 * p)) cs → BS b s → s.length ≤ 30 → dpB cs s.length = some m → BS (hbR I h p (dn h d) y w cs.length fr b) (evL E d y w cs s) ∧ (evL E d y w cs s).length = m := by
  intro cs
  induction cs with
  | nil => intro fr b s m _ hb _ hm; cases hm; exact ⟨hb, rfl⟩
  | cons x r ih =>
    intro fr b s m hc hb hs hm
    rw [dpB_c] at hm
    cases e : depR x s.length with
    | none => rw [e] at hm; cases hm
    | some q =>
      rw [e] at hm
      replace hm : (if 30 < q then none else dpB r q) = some m := hm
      by_cases hq : 30 < q
      · rw [if_pos hq] at hm; cases hm
      · rw [if_neg hq] at hm
        have c0 : CRq x (I (47 + 5 * p) fr) := hc 0 (by simp)
        obtain ⟨s1, s2⟩ := st_e hE hY hd (y := y) (w := w) c0 hb hs e (by omega)
        rw [List.length_cons, hbR_s, evL_c]
        refine ih (fr + 1) _ _ m (fun i hi => ?_) s1 (by omega) (by rw [s2]; exact hm)
        have := hc (i + 1) (by simp only [List.length_cons]; omega)
        rw [show fr + (i + 1) = fr + 1 + i by omega] at this
        simpa using this
/-- the deepest pile is small: what waits, level by level -/
def sg : List Int32 → Nat → Prop := fun ws => match ws with
  | [] => fun _ => True
  | x :: r => fun k => (x = 38 ∧ k = 2 ∧ sg r 1) ∨ (x = 124 ∧ 1 ≤ k ∧ sg r 0) ∨ ((x = 33 ∨ x = 40) ∧ sg r 2)
theorem sg.mono : ∀ {ws : List Int32} {k : Nat}, sg ws k → k ≤ 2 → sg ws 2 := by
  intro ws
  cases ws with
  | nil => intro _ _ _; trivial
  | cons x r =>
    intro k h hk
    rcases h with ⟨h1, h2, h3⟩ | ⟨h1, h2, h3⟩ | ⟨h1, h2⟩
    · exact Or.inl ⟨h1, rfl, h3⟩
    · exact Or.inr (Or.inl ⟨h1, by decide, h3⟩)
    · exact Or.inr (Or.inr ⟨h1, h2⟩)
theorem sg_b : ∀ (ws : List Int32) (k : Nat), sg ws k → bns ws ≤ k + 2 * opn ws := by
  intro ws
  induction ws with
  | nil => intro k _; exact Nat.zero_le _
  | cons x r ih =>
    intro k h
    rw [bns_c, opn_c]
    rcases h with ⟨rfl, rfl, h3⟩ | ⟨rfl, h2, h3⟩ | ⟨h1, h2⟩
    · rw [if_pos (by decide), if_neg (by decide)]
      have := ih 1 h3; omega
    · rw [if_pos (by decide), if_neg (by decide)]
      have := ih 0 h3; omega
    · rw [if_neg (by rcases h1 with rfl | rfl <;> decide), if_pos h1]
      have := ih 2 h2; omega
def okB (cs : List Int32) (m : Nat) : Prop := (∀ x, x ∈ cs → okCo x) ∧ dpB cs 0 = some m
/-- behind settle: what waits -/
theorem okB.put {cs : List Int32} {m m2 : Nat} {x : Int32} (h : okB cs m) (hx : okCo x) (hd : depR x m = some m2) (h30 : m2 ≤ 30) : okB (cs ++ [x]) m2 :=
  ⟨fun y hy => by
    rcases List.mem_append.mp hy with z | z
    · exact h.1 y z
    · rw [List.mem_singleton.mp z]; exact hx, dpB_app h.2 hd h30⟩
theorem opn_wh : ∀ (ws cs : List Int32), opn (whA ws cs).2 ≤ opn ws := by
  intro ws
  induction ws with
  | nil => intro cs; exact Nat.le_refl _
  | cons x r ih =>
    intro cs
    rw [whA_c]
    split
    · have := ih (cs ++ [-33])
      rw [opn_c]
      split <;> omega
    · exact Nat.le_refl _
theorem opn_se {s : Int32} : ∀ (ws cs : List Int32), opn (seA s ws cs).2 ≤ opn ws := by
  intro ws
  induction ws with
  | nil => intro cs; exact Nat.le_refl _
  | cons x r ih =>
    intro cs
    rw [seA_c, opn_c]
    have := ih (cs ++ [-x])
    split
    · split <;> omega
    · split
      · split
        · rw [opn_c]; exact Nat.le_refl _
        · split <;> omega
      · rw [opn_c]; exact Nat.le_refl _
theorem okB.wh : ∀ {ws cs : List Int32}, okB cs (bns ws + 1) → bns ws ≤ 29 → sg ws 2 → okB (whA ws cs).1 (bns (whA ws cs).2 + 1) ∧ sg (whA ws cs).2 2 := by
  intro ws
  induction ws with
  | nil => intro cs h _ h2; exact ⟨h, h2⟩
  | cons x r ih =>
    intro cs h hb h2
    rw [whA_c]
    by_cases e : x = 33
    · rw [if_pos e]
      rw [bns_c, if_neg (by rw [e]; decide)] at h hb
      refine ih (h.put (Or.inr (Or.inl rfl)) (dep_b _) (by omega)) hb ?_
      rcases h2 with ⟨z, -⟩ | ⟨z, -⟩ | ⟨-, z⟩
      · rw [e] at z; exact absurd z (by decide)
      · rw [e] at z; exact absurd z (by decide)
      · exact z
    · rw [if_neg e]; exact ⟨h, h2⟩
theorem okB.se {s : Int32} : ∀ {ws cs : List Int32} {k : Nat}, okB cs (bns ws + 1) → bns ws ≤ 29 → sg ws k → k ≤ 2 → okB (seA s ws cs).1 (bns (seA s ws cs).2 + 1) ∧ sg (seA s ws cs).2 (if s = 38 then 1 else 0) := by
  intro ws
  induction ws with
  | nil => intro cs k h _ _ _; exact ⟨h, trivial⟩
  | cons x r ih =>
    intro cs k h hb h2 hk
    rw [seA_c]
    by_cases e : x = 38
    · rw [if_pos e]
      rw [bns_c, if_pos (Or.inl e)] at h hb
      rcases h2 with ⟨-, -, z⟩ | ⟨z, -⟩ | ⟨z, -⟩
      · exact ih (h.put (by rw [e]; exact Or.inr (Or.inr (Or.inl rfl))) (dep_o (Or.inl e) _) (by omega)) (by omega) z (by decide)
      · rw [e] at z; exact absurd z (by decide)
      · rw [e] at z; exact absurd z (by decide)
    · rw [if_neg e]
      by_cases e2 : x = 124
      · rw [if_pos e2]
        rcases h2 with ⟨z, -⟩ | ⟨-, z1, z⟩ | ⟨z, -⟩
        · exact absurd z e
        · by_cases e3 : s = 38
          · rw [if_pos e3, if_pos e3]
            exact ⟨h, Or.inr (Or.inl ⟨e2, by decide, z⟩)⟩
          · rw [if_neg e3]
            rw [bns_c, if_pos (Or.inr e2)] at h hb
            exact ih (h.put (by rw [e2]; exact Or.inr (Or.inr (Or.inr rfl))) (dep_o (Or.inr e2) _) (by omega)) (by omega) z (by decide)
        · rw [e2] at z; exact absurd z (by decide)
      · rw [if_neg e2]
        rcases h2 with ⟨z, -⟩ | ⟨z, -⟩ | ⟨z1, z⟩
        · exact absurd z e
        · exact absurd z e2
        · exact ⟨h, Or.inr (Or.inr ⟨z1, z⟩)⟩
theorem am_okB {X : Nat → Int32} {n : Nat} : ∀ (f : Nat) (w : Bool) (a : Nat) (cs ws : List Int32), okW ws → opn ws ≤ 4 → sg ws 2 → okB cs (bns ws + (if w = true then 0 else 1)) → (amR X n f w a cs ws).1 = true → okB (amR X n f w a cs ws).2.2 1 := by
  intro f
  induction f with
  | zero => intro w a cs ws _ _ _ _ h; exact absurd h Bool.false_ne_true
  | succ f ih =>
    intro w a cs ws hw ho hg hL h
    have hbn := sg_b ws 2 hg
    cases w with
    | true =>
      rw [if_pos rfl, Nat.add_zero] at hL
      by_cases h1 : nxA X n a = 33 ∨ nxA X n a = 40
      · by_cases h4 : opn ws = 4
        · rw [am_o4 h1 h4] at h; exact absurd h Bool.false_ne_true
        · rw [am_o h1 h4] at h ⊢
          refine ih true _ _ _ (hw.cn (by rcases h1 with z | z <;> rw [z] <;> decide)) (by rw [opn_c, if_pos h1]; omega) (Or.inr (Or.inr ⟨h1, hg⟩)) ?_ h
          rw [bns_c, if_neg (by rcases h1 with z | z <;> rw [z] <;> decide), if_pos rfl, Nat.add_zero]
          exact hL
      · by_cases h4 : (tsA X n a).1 = true
        · rw [am_t h1 h4] at h ⊢
          obtain ⟨q, s, d, q1, q2, q3, -, -, -, q4⟩ := ts_ok h4
          have hq : okB (cs ++ [(tsA X n a).2.2]) (bns ws + 1) := by
            rw [q4]
            exact hL.put (Or.inl ⟨_, by omega, rfl⟩) (dep_t (by omega)) (by omega)
          obtain ⟨r1, r2⟩ := okB.wh hq (by omega) hg
          refine ih false _ _ _ (hw.wh _) (Nat.le_trans (opn_wh _ _) ho) r2 ?_ h
          rw [if_neg Bool.false_ne_true]
          exact r1
        · rw [am_tf h1 h4] at h; exact absurd h Bool.false_ne_true
    | false =>
      rw [if_neg Bool.false_ne_true] at hL
      by_cases h1 : nxA X n a = 38 ∨ nxA X n a = 124
      · rw [am_b h1] at h ⊢
        obtain ⟨r1, r2⟩ := okB.se (s := nxA X n a) hL (by omega) hg (Nat.le_refl _)
        refine ih true _ _ _ ((hw.se _).cn (by rcases h1 with z | z <;> rw [z] <;> decide)) ?_ ?_ ?_ h
        · rw [opn_c, if_neg (by rcases h1 with z | z <;> rw [z] <;> decide)]
          exact Nat.le_trans (opn_se _ _) ho
        · rcases h1 with z | z
          · rw [z, if_pos rfl] at r2
            rw [z]
            exact Or.inl ⟨rfl, rfl, r2⟩
          · rw [z, if_neg (by decide)] at r2
            rw [z]
            exact Or.inr (Or.inl ⟨rfl, by decide, r2⟩)
        · rw [bns_c, if_pos h1, if_pos rfl]
          exact r1
      · obtain ⟨r1, r2⟩ := okB.se (s := 124) hL (by omega) hg (Nat.le_refl _)
        by_cases h2 : (seA 124 ws cs).2 = []
        · rw [am_e h1 h2]
          rw [h2] at r1
          exact r1
        · by_cases h3 : nxA X n a = 41
          · rw [am_c h1 h2 h3] at h ⊢
            obtain ⟨x, t, ext⟩ := List.exists_cons_of_ne_nil h2
            have q1 := hw.se (s := 124) cs
            have q2 := se_top ext
            have q3 := opn_se (s := 124) ws cs
            rw [if_neg (by decide)] at r2
            rw [ext] at q1 q3 r1 r2 h ⊢
            rw [bns_c, if_neg (by rintro (z | z); exact q2.1 z; exact q2.2 z)] at r1
            have hg2 : sg t 2 := by
              rcases r2 with ⟨z, -⟩ | ⟨z, -⟩ | ⟨-, z⟩
              · exact absurd z q2.1
              · exact absurd z q2.2
              · exact z
            have ho2 : opn t ≤ 4 := by
              rw [opn_c] at q3
              split at q3 <;> omega
            have hbn2 := sg_b t 2 hg2
            obtain ⟨w1, w2⟩ := okB.wh r1 (by omega) hg2
            refine ih false _ _ _ (q1.tl.wh _) (Nat.le_trans (opn_wh _ _) ho2) w2 ?_ h
            rw [if_neg Bool.false_ne_true]
            exact w1
          · rw [am_x h1 h2 h3] at h; exact absurd h Bool.false_ne_true
end
