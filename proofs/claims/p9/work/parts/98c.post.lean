set_option maxRecDepth 8000 in
set_option maxHeartbeats 4000000 in
theorem q_put {G : Gt} (hG : Gok G) {I : It} {h : Ht} (hM : HM h) {x : Int32} {s : Nat} (hs : I 0 28 = nI s) (h6 : s < 600) : Con G (1) 0 0 mX12_put [.ref 0, .int x] I h (rV (upI (upI I 15 s x) 0 28 (nI (s + 1))) h) := by
  refine con_intro (own := RX12) (lo0 := [some (.ref 0), some (.int x)]) hG rfl pl_X12 (Nat.le_of_ble_eq_true rfl) rfl (fun X hX => ?_)
  refine g_aload_0 hX (dk DX12_put 0 rfl) ?_
  refine g_getRs (r := 15) hX (dk DX12_put 1 rfl) KX12 fX12_89 (by decide) rfl (MLt hM (by decide)) (MC hM) (MR hM 26 (by decide) rfl) ?_
  refine g_aload_0 hX (dk DX12_put 2 rfl) ?_
  refine g_getIv hX (dk DX12_put 3 rfl) KX12 fX12_95 (by decide) rfl (MLt hM (by decide)) (MC hM) (hs) ?_
  refine g_iload_1 hX (dk DX12_put 4 rfl) ?_
  refine i_iastore hX (dk DX12_put 5 rfl) (MLt hM (q := 15) (by decide)) (MS hM 15 (by decide) rfl) (⟨rfl, h6, by decide⟩) ?_
  refine g_aload_0 hX (dk DX12_put 6 rfl) ?_
  refine g_dup hX (dk DX12_put 7 rfl) rfl ?_
  refine g_getIv hX (dk DX12_put 8 rfl) KX12 fX12_95 (by decide) rfl (MLt hM (by decide)) (MC hM) (hs) ?_
  refine g_iconst (v := 1) hX (dk DX12_put 9 rfl) (by decide) ?_
  refine g_iadd hX (dk DX12_put 10 rfl) ?_
  refine g_nmI (nI (s + 1)) (nI_1 s) ?_
  refine g_putI hX (dk DX12_put 11 rfl) KX12 fX12_95 (by decide) rfl (MLt hM (by decide)) (MC hM) (Or.inl rfl) (rfl) (rfl) ?_
  refine g_return hX (dk DX12_put 12 rfl) rfl (by decide) (by decide) ?_
  exact rV_of rfl rfl

set_option maxRecDepth 8000 in
set_option maxHeartbeats 4000000 in
theorem q_whole {G : Gt} (hG : Gok G) {I : It} {h : Ht} (hM : HM h) {p c fr : Nat} {tx : Nat → Int32} {n : Nat} {I0 : It} {a : Nat} {cs ws : List Int32} (hp : p < 6) (hZ : MZ p c fr tx n I0 I a cs ws)  : Con G (2) 0 0 mX12_whole [.ref 0] I h (qV (fun J h2 => h2 = h ∧ MZ p c fr tx n I0 J a (whA ws cs).1 (whA ws cs).2)) := by
  refine con_intro (own := RX12) (lo0 := [some (.ref 0)]) hG rfl pl_X12 (Nat.le_of_ble_eq_true rfl) rfl (fun X hX => ?_)
  have loop0 : ∀ (k : Nat) (r cs2 : List Int32) (J : It), r.length = k → MZ p c fr tx n I0 J a cs2 r → whA r cs2 = whA ws cs → GG G (2) 0 0 X (qV (fun J h2 => h2 = h ∧ MZ p c fr tx n I0 J a (whA ws cs).1 (whA ws cs).2)) 0 [some (.ref 0)] [] (J) (h) 0 0 := by
    intro k
    induction k using Nat.strongRecOn with | _ k ih => ?_
    intro r cs2 J hk hZ hv
    refine g_aload_0 hX (dk DX12_whole 0 rfl) ?_
    refine g_getIv hX (dk DX12_whole 1 rfl) KX12 fX12_98 (by decide) rfl (MLt hM (by decide)) (MC hM) (hZ.2.2.2.2.2.1) ?_
    refine g_if_le (tgt := 52) hX (dk DX12_whole 2 rfl) (by decide) (fun hc1 => ?_) (fun hc1 => ?_)
    · refine g_return hX (dk DX12_whole 28 rfl) rfl (by decide) (by decide) ?_
      first
      | exact qV_of ⟨rfl, by rw [← hv, whA_c, if_neg (by assumption)]; exact hZ⟩
      | (have hr := nil_of (by have := hZ.lt; omega) hc1
         subst hr
         exact qV_of ⟨rfl, by rw [← hv]; exact hZ⟩)
    · obtain ⟨x, t, rfl⟩ := ne_cons hc1
      obtain ⟨l1, l2, l3, l4, l5⟩ := hZ.lt
      simp only [List.length_cons] at l3 l5
      refine g_aload_0 hX (dk DX12_whole 3 rfl) ?_
      refine g_getRs (r := 16) hX (dk DX12_whole 4 rfl) KX12 fX12_92 (by decide) rfl (MLt hM (by decide)) (MC hM) (MR hM 27 (by decide) rfl) ?_
      refine g_aload_0 hX (dk DX12_whole 5 rfl) ?_
      refine g_getIv hX (dk DX12_whole 6 rfl) KX12 fX12_98 (by decide) rfl (MLt hM (by decide)) (MC hM) ((show J 0 29 = nI (t.length + 1) from hZ.2.2.2.2.2.1)) ?_
      refine g_iconst (v := 1) hX (dk DX12_whole 7 rfl) (by decide) ?_
      refine g_isub hX (dk DX12_whole 8 rfl) ?_
      refine g_nmI (nI t.length) (nI_pred _) ?_
      refine v_iaload hX (dk DX12_whole 9 rfl) (MLt hM (q := 16) (by decide)) (MS hM 16 (by decide) rfl) (⟨rfl, by omega, by decide⟩) (hZ.2.2.2.2.2.2.1.1) ?_
      refine g_bipush (v := 33) hX (dk DX12_whole 10 rfl) (by decide) ?_
      refine g_icmp_ne (tgt := 52) hX (dk DX12_whole 11 rfl) (by decide) (fun hc2 => ?_) (fun hc2 => ?_)
      · refine g_return hX (dk DX12_whole 28 rfl) rfl (by decide) (by decide) ?_
        first
        | exact qV_of ⟨rfl, by rw [← hv, whA_c, if_neg (by assumption)]; exact hZ⟩
        | (have hr := nil_of (by have := hZ.lt; omega) hc1
           subst hr
           exact qV_of ⟨rfl, by rw [← hv]; exact hZ⟩)
      · have hx := hc2
        subst hx
        have ho : J 0 30 = nI (opn t + 1) := hZ.2.2.2.2.2.2.2.trans (by rw [opn_c, if_pos (Or.inl rfl)])
        refine g_aload_0 hX (dk DX12_whole 12 rfl) ?_
        refine g_bipush (v := -33) hX (dk DX12_whole 13 rfl) (by decide) ?_
        refine g_c2V hX sX12_whole_26 (by decide) (Nat.le_of_ble_eq_true rfl) (rc0 rfl (MLt hM (by decide)) (MC hM)) (by decide) (by decide) (q_put hG hM (s := fr + cs2.length) hZ.2.2.2.1.1 (by omega)) ?_
        refine g_aload_0 hX (dk DX12_whole 15 rfl) ?_
        refine g_dup hX (dk DX12_whole 16 rfl) rfl ?_
        refine g_getIv hX (dk DX12_whole 17 rfl) KX12 fX12_98 (by decide) rfl (MLt hM (by decide)) (MC hM) ((show _ = nI (t.length + 1) from hZ.2.2.2.2.2.1)) ?_
        refine g_iconst (v := 1) hX (dk DX12_whole 18 rfl) (by decide) ?_
        refine g_isub hX (dk DX12_whole 19 rfl) ?_
        refine g_nmI (nI t.length) (nI_pred _) ?_
        refine g_putI hX (dk DX12_whole 20 rfl) KX12 fX12_98 (by decide) rfl (MLt hM (by decide)) (MC hM) (Or.inl rfl) (rfl) (rfl) ?_
        refine g_aload_0 hX (dk DX12_whole 21 rfl) ?_
        refine g_dup hX (dk DX12_whole 22 rfl) rfl ?_
        refine g_getIv hX (dk DX12_whole 23 rfl) KX12 fX12_101 (by decide) rfl (MLt hM (by decide)) (MC hM) ((show _ = nI (opn t + 1) from ho)) ?_
        refine g_iconst (v := 1) hX (dk DX12_whole 24 rfl) (by decide) ?_
        refine g_isub hX (dk DX12_whole 25 rfl) ?_
        refine g_nmI (nI (opn t)) (nI_pred _) ?_
        refine g_putI hX (dk DX12_whole 26 rfl) KX12 fX12_101 (by decide) rfl (MLt hM (by decide)) (MC hM) (Or.inl rfl) (rfl) (rfl) ?_
        refine g_goto (tgt := 0) hX (dk DX12_whole 27 rfl) (by decide) ?_
        exact g_fgt (ih t.length (by simp only [List.length_cons] at hk; omega) t _ _ rfl hZ.bang (by rw [← hv, whA_c, if_pos rfl])) ⟨rfl, trivial⟩
  exact g_fgt (loop0 ws.length ws cs I rfl hZ rfl) ⟨rfl, trivial⟩

set_option maxRecDepth 8000 in
set_option maxHeartbeats 4000000 in
theorem q_settle {G : Gt} (hG : Gok G) {I : It} {h : Ht} (hM : HM h) {p c fr : Nat} {tx : Nat → Int32} {n : Nat} {I0 : It} {a : Nat} {cs ws : List Int32} (hp : p < 6) (hZ : MZ p c fr tx n I0 I a cs ws) {s : Int32} : Con G (2) 0 0 mX12_settle [.ref 0, .int s] I h (qV (fun J h2 => h2 = h ∧ MZ p c fr tx n I0 J a (seA s ws cs).1 (seA s ws cs).2)) := by
  refine con_intro (own := RX12) (lo0 := [some (.ref 0), some (.int s)]) hG rfl pl_X12 (Nat.le_of_ble_eq_true rfl) rfl (fun X hX => ?_)
  have loop0 : ∀ (k : Nat) (r cs2 : List Int32) (J : It), r.length = k → MZ p c fr tx n I0 J a cs2 r → seA s r cs2 = seA s ws cs → GG G (2) 0 0 X (qV (fun J h2 => h2 = h ∧ MZ p c fr tx n I0 J a (seA s ws cs).1 (seA s ws cs).2)) 0 [some (.ref 0), some (.int s)] [] (J) (h) 0 0 := by
    intro k
    induction k using Nat.strongRecOn with | _ k ih => ?_
    intro r cs2 J hk hZ hv
    refine g_aload_0 hX (dk DX12_settle 0 rfl) ?_
    refine g_getIv hX (dk DX12_settle 1 rfl) KX12 fX12_98 (by decide) rfl (MLt hM (by decide)) (MC hM) (hZ.2.2.2.2.2.1) ?_
    refine g_if_le (tgt := 72) hX (dk DX12_settle 2 rfl) (by decide) (fun hc1 => ?_) (fun hc1 => ?_)
    · refine g_return hX (dk DX12_settle 39 rfl) rfl (by decide) (by decide) ?_
      first
      | (have hr := nil_of (by have := hZ.lt; omega) hc1
         subst hr
         exact qV_of ⟨rfl, by rw [← hv]; exact hZ⟩)
      | (have hst : seA s (x :: t) cs2 = (cs2, x :: t) := by rw [seA_c]; (try first | rw [if_pos hc1] | rw [if_neg hc1] | rw [if_neg (not_not_intro hc1)]); first | done | rfl
         exact qV_of ⟨rfl, by rw [← hv, hst]; exact hZ⟩)
    · obtain ⟨x, t, rfl⟩ := ne_cons hc1
      obtain ⟨l1, l2, l3, l4, l5⟩ := hZ.lt
      simp only [List.length_cons] at l3 l5
      refine g_aload_0 hX (dk DX12_settle 3 rfl) ?_
      refine g_getRs (r := 16) hX (dk DX12_settle 4 rfl) KX12 fX12_92 (by decide) rfl (MLt hM (by decide)) (MC hM) (MR hM 27 (by decide) rfl) ?_
      refine g_aload_0 hX (dk DX12_settle 5 rfl) ?_
      refine g_getIv hX (dk DX12_settle 6 rfl) KX12 fX12_98 (by decide) rfl (MLt hM (by decide)) (MC hM) ((show J 0 29 = nI (t.length + 1) from hZ.2.2.2.2.2.1)) ?_
      refine g_iconst (v := 1) hX (dk DX12_settle 7 rfl) (by decide) ?_
      refine g_isub hX (dk DX12_settle 8 rfl) ?_
      refine g_nmI (nI t.length) (nI_pred _) ?_
      refine v_iaload hX (dk DX12_settle 9 rfl) (MLt hM (q := 16) (by decide)) (MS hM 16 (by decide) rfl) (⟨rfl, by omega, by decide⟩) (hZ.2.2.2.2.2.2.1.1) ?_
      refine g_bipush (v := 38) hX (dk DX12_settle 10 rfl) (by decide) ?_
      refine g_icmp_eq (tgt := 45) hX (dk DX12_settle 11 rfl) (by decide) (fun hc2 => ?_) (fun hc2 => ?_)
      · have hx : ¬ (x = 33 ∨ x = 40) := by
          first
          | (rw [show x = 38 by assumption]; decide)
          | (rw [show x = 124 by assumption]; decide)
        have hst : seA s (x :: t) cs2 = seA s t (cs2 ++ [-x]) := by rw [seA_c]; (try first | rw [if_pos hc1] | rw [if_neg hc1] | rw [if_neg (not_not_intro hc1)]); (try first | rw [if_pos hc2] | rw [if_neg hc2] | rw [if_neg (not_not_intro hc2)]); first | done | rfl
        refine g_aload_0 hX (dk DX12_settle 24 rfl) ?_
        refine g_dup hX (dk DX12_settle 25 rfl) rfl ?_
        refine g_getIv hX (dk DX12_settle 26 rfl) KX12 fX12_98 (by decide) rfl (MLt hM (by decide)) (MC hM) ((show _ = nI (t.length + 1) from hZ.2.2.2.2.2.1)) ?_
        refine g_iconst (v := 1) hX (dk DX12_settle 27 rfl) (by decide) ?_
        refine g_isub hX (dk DX12_settle 28 rfl) ?_
        refine g_nmI (nI t.length) (nI_pred _) ?_
        refine g_putI hX (dk DX12_settle 29 rfl) KX12 fX12_98 (by decide) rfl (MLt hM (by decide)) (MC hM) (Or.inl rfl) (rfl) (rfl) ?_
        refine g_aload_0 hX (dk DX12_settle 30 rfl) ?_
        refine g_aload_0 hX (dk DX12_settle 31 rfl) ?_
        refine g_getRs (r := 16) hX (dk DX12_settle 32 rfl) KX12 fX12_92 (by decide) rfl (MLt hM (by decide)) (MC hM) (MR hM 27 (by decide) rfl) ?_
        refine g_aload_0 hX (dk DX12_settle 33 rfl) ?_
        refine g_getIv hX (dk DX12_settle 34 rfl) KX12 fX12_98 (by decide) rfl (MLt hM (by decide)) (MC hM) ((show _ = nI t.length from rfl)) ?_
        refine v_iaload hX (dk DX12_settle 35 rfl) (MLt hM (q := 16) (by decide)) (MS hM 16 (by decide) rfl) (⟨rfl, by omega, by decide⟩) ((show _ = x from hZ.2.2.2.2.2.2.1.1)) ?_
        refine g_ineg hX (dk DX12_settle 36 rfl) ?_
        refine g_c2V hX sX12_settle_66 (by decide) (Nat.le_of_ble_eq_true rfl) (rc0 rfl (MLt hM (by decide)) (MC hM)) (by decide) (by decide) (q_put hG hM (s := fr + cs2.length) (show _ = _ from hZ.2.2.2.1.1) (by omega)) ?_
        refine g_goto (tgt := 0) hX (dk DX12_settle 38 rfl) (by decide) ?_
        exact g_fgt (ih t.length (by simp only [List.length_cons] at hk; omega) t _ _ rfl (hZ.op hx) (by rw [← hv, hst])) ⟨rfl, rfl, trivial⟩
      · refine g_aload_0 hX (dk DX12_settle 12 rfl) ?_
        refine g_getRs (r := 16) hX (dk DX12_settle 13 rfl) KX12 fX12_92 (by decide) rfl (MLt hM (by decide)) (MC hM) (MR hM 27 (by decide) rfl) ?_
        refine g_aload_0 hX (dk DX12_settle 14 rfl) ?_
        refine g_getIv hX (dk DX12_settle 15 rfl) KX12 fX12_98 (by decide) rfl (MLt hM (by decide)) (MC hM) ((show J 0 29 = nI (t.length + 1) from hZ.2.2.2.2.2.1)) ?_
        refine g_iconst (v := 1) hX (dk DX12_settle 16 rfl) (by decide) ?_
        refine g_isub hX (dk DX12_settle 17 rfl) ?_
        refine g_nmI (nI t.length) (nI_pred _) ?_
        refine v_iaload hX (dk DX12_settle 18 rfl) (MLt hM (q := 16) (by decide)) (MS hM 16 (by decide) rfl) (⟨rfl, by omega, by decide⟩) (hZ.2.2.2.2.2.2.1.1) ?_
        refine g_bipush (v := 124) hX (dk DX12_settle 19 rfl) (by decide) ?_
        refine g_icmp_ne (tgt := 72) hX (dk DX12_settle 20 rfl) (by decide) (fun hc3 => ?_) (fun hc3 => ?_)
        · refine g_return hX (dk DX12_settle 39 rfl) rfl (by decide) (by decide) ?_
          first
          | (have hr := nil_of (by have := hZ.lt; omega) hc1
             subst hr
             exact qV_of ⟨rfl, by rw [← hv]; exact hZ⟩)
          | (have hst : seA s (x :: t) cs2 = (cs2, x :: t) := by rw [seA_c]; (try first | rw [if_pos hc1] | rw [if_neg hc1] | rw [if_neg (not_not_intro hc1)]); (try first | rw [if_pos hc2] | rw [if_neg hc2] | rw [if_neg (not_not_intro hc2)]); (try first | rw [if_pos hc3] | rw [if_neg hc3] | rw [if_neg (not_not_intro hc3)]); first | done | rfl
             exact qV_of ⟨rfl, by rw [← hv, hst]; exact hZ⟩)
        · refine g_iload_1 hX (dk DX12_settle 21 rfl) ?_
          refine g_bipush (v := 38) hX (dk DX12_settle 22 rfl) (by decide) ?_
          refine g_icmp_eq (tgt := 72) hX (dk DX12_settle 23 rfl) (by decide) (fun hc4 => ?_) (fun hc4 => ?_)
          · refine g_return hX (dk DX12_settle 39 rfl) rfl (by decide) (by decide) ?_
            first
            | (have hr := nil_of (by have := hZ.lt; omega) hc1
               subst hr
               exact qV_of ⟨rfl, by rw [← hv]; exact hZ⟩)
            | (have hst : seA s (x :: t) cs2 = (cs2, x :: t) := by rw [seA_c]; (try first | rw [if_pos hc1] | rw [if_neg hc1] | rw [if_neg (not_not_intro hc1)]); (try first | rw [if_pos hc2] | rw [if_neg hc2] | rw [if_neg (not_not_intro hc2)]); (try first | rw [if_pos hc3] | rw [if_neg hc3] | rw [if_neg (not_not_intro hc3)]); (try first | rw [if_pos hc4] | rw [if_neg hc4] | rw [if_neg (not_not_intro hc4)]); first | done | rfl
               exact qV_of ⟨rfl, by rw [← hv, hst]; exact hZ⟩)
          · have hx : ¬ (x = 33 ∨ x = 40) := by
              first
              | (rw [show x = 38 by assumption]; decide)
              | (rw [show x = 124 by assumption]; decide)
            have hst : seA s (x :: t) cs2 = seA s t (cs2 ++ [-x]) := by rw [seA_c]; (try first | rw [if_pos hc1] | rw [if_neg hc1] | rw [if_neg (not_not_intro hc1)]); (try first | rw [if_pos hc2] | rw [if_neg hc2] | rw [if_neg (not_not_intro hc2)]); (try first | rw [if_pos hc3] | rw [if_neg hc3] | rw [if_neg (not_not_intro hc3)]); (try first | rw [if_pos hc4] | rw [if_neg hc4] | rw [if_neg (not_not_intro hc4)]); first | done | rfl
            refine g_aload_0 hX (dk DX12_settle 24 rfl) ?_
            refine g_dup hX (dk DX12_settle 25 rfl) rfl ?_
            refine g_getIv hX (dk DX12_settle 26 rfl) KX12 fX12_98 (by decide) rfl (MLt hM (by decide)) (MC hM) ((show _ = nI (t.length + 1) from hZ.2.2.2.2.2.1)) ?_
            refine g_iconst (v := 1) hX (dk DX12_settle 27 rfl) (by decide) ?_
            refine g_isub hX (dk DX12_settle 28 rfl) ?_
            refine g_nmI (nI t.length) (nI_pred _) ?_
            refine g_putI hX (dk DX12_settle 29 rfl) KX12 fX12_98 (by decide) rfl (MLt hM (by decide)) (MC hM) (Or.inl rfl) (rfl) (rfl) ?_
            refine g_aload_0 hX (dk DX12_settle 30 rfl) ?_
            refine g_aload_0 hX (dk DX12_settle 31 rfl) ?_
            refine g_getRs (r := 16) hX (dk DX12_settle 32 rfl) KX12 fX12_92 (by decide) rfl (MLt hM (by decide)) (MC hM) (MR hM 27 (by decide) rfl) ?_
            refine g_aload_0 hX (dk DX12_settle 33 rfl) ?_
            refine g_getIv hX (dk DX12_settle 34 rfl) KX12 fX12_98 (by decide) rfl (MLt hM (by decide)) (MC hM) ((show _ = nI t.length from rfl)) ?_
            refine v_iaload hX (dk DX12_settle 35 rfl) (MLt hM (q := 16) (by decide)) (MS hM 16 (by decide) rfl) (⟨rfl, by omega, by decide⟩) ((show _ = x from hZ.2.2.2.2.2.2.1.1)) ?_
            refine g_ineg hX (dk DX12_settle 36 rfl) ?_
            refine g_c2V hX sX12_settle_66 (by decide) (Nat.le_of_ble_eq_true rfl) (rc0 rfl (MLt hM (by decide)) (MC hM)) (by decide) (by decide) (q_put hG hM (s := fr + cs2.length) (show _ = _ from hZ.2.2.2.1.1) (by omega)) ?_
            refine g_goto (tgt := 0) hX (dk DX12_settle 38 rfl) (by decide) ?_
            exact g_fgt (ih t.length (by simp only [List.length_cons] at hk; omega) t _ _ rfl (hZ.op hx) (by rw [← hv, hst])) ⟨rfl, rfl, trivial⟩
  exact g_fgt (loop0 ws.length ws cs I rfl hZ rfl) ⟨rfl, rfl, trivial⟩

set_option maxRecDepth 8000 in
set_option maxHeartbeats 4000000 in
theorem q_place {G : Gt} (hG : Gok G) {I : It} {h : Ht} (hM : HM h) {c : Int32} : Con G (1) 0 0 mX12_place [.ref 0, .int c] I h (rI (plA c) I h) := by
  refine con_intro (own := RX12) (lo0 := [some (.ref 0), some (.int c)]) hG rfl pl_X12 (Nat.le_of_ble_eq_true rfl) rfl (fun X hX => ?_)
  refine g_iload_1 hX (dk DX12_place 0 rfl) ?_
  refine g_tswitch (dt := 123) hX [(99, 116), (100, 123), (101, 123), (102, 123), (103, 123), (104, 123), (105, 108), (106, 123), (107, 110), (108, 123), (109, 123), (110, 123), (111, 123), (112, 123), (113, 123), (114, 112), (115, 123), (116, 123), (117, 123), (118, 114), (119, 120), (120, 123), (121, 118)] (dk DX12_place 1 rfl) (by decide +kernel) ?_
  refine ⟨fun hc1 => ?_, fun hc1n => ?_⟩
  · show GG _ _ _ _ _ _ _ _ _ _ _ _ _
    refine g_iconst (v := 4) hX (dk DX12_place 10 rfl) (by decide) ?_
    refine g_ireturn hX (dk DX12_place 11 rfl) rfl (rfl) (by decide) (by decide) ?_
    exact rI_of (by first | (unfold plA; (try first | rw [if_pos hc1] | rw [if_neg hc1] | rw [if_neg (not_not_intro hc1)]); first | done | rfl) | simp_all [plA]) rfl rfl
  refine ⟨fun hc2 => ?_, fun hc2n => ?_⟩
  · show GG _ _ _ _ _ _ _ _ _ _ _ _ _
    refine g_iconst (v := -1) hX (dk DX12_place 16 rfl) (by decide) ?_
    refine g_ireturn hX (dk DX12_place 17 rfl) rfl (rfl) (by decide) (by decide) ?_
    exact rI_of (by first | (unfold plA; (try first | rw [if_pos hc1n] | rw [if_neg hc1n] | rw [if_neg (not_not_intro hc1n)]); (try first | rw [if_pos hc2] | rw [if_neg hc2] | rw [if_neg (not_not_intro hc2)]); first | done | rfl) | simp_all [plA]) rfl rfl
  refine ⟨fun hc3 => ?_, fun hc3n => ?_⟩
  · show GG _ _ _ _ _ _ _ _ _ _ _ _ _
    refine g_iconst (v := -1) hX (dk DX12_place 16 rfl) (by decide) ?_
    refine g_ireturn hX (dk DX12_place 17 rfl) rfl (rfl) (by decide) (by decide) ?_
    exact rI_of (by first | (unfold plA; (try first | rw [if_pos hc1n] | rw [if_neg hc1n] | rw [if_neg (not_not_intro hc1n)]); (try first | rw [if_pos hc2n] | rw [if_neg hc2n] | rw [if_neg (not_not_intro hc2n)]); (try first | rw [if_pos hc3] | rw [if_neg hc3] | rw [if_neg (not_not_intro hc3)]); first | done | rfl) | simp_all [plA]) rfl rfl
  refine ⟨fun hc4 => ?_, fun hc4n => ?_⟩
  · show GG _ _ _ _ _ _ _ _ _ _ _ _ _
    refine g_iconst (v := -1) hX (dk DX12_place 16 rfl) (by decide) ?_
    refine g_ireturn hX (dk DX12_place 17 rfl) rfl (rfl) (by decide) (by decide) ?_
    exact rI_of (by first | (unfold plA; (try first | rw [if_pos hc1n] | rw [if_neg hc1n] | rw [if_neg (not_not_intro hc1n)]); (try first | rw [if_pos hc2n] | rw [if_neg hc2n] | rw [if_neg (not_not_intro hc2n)]); (try first | rw [if_pos hc3n] | rw [if_neg hc3n] | rw [if_neg (not_not_intro hc3n)]); (try first | rw [if_pos hc4] | rw [if_neg hc4] | rw [if_neg (not_not_intro hc4)]); first | done | rfl) | simp_all [plA]) rfl rfl
  refine ⟨fun hc5 => ?_, fun hc5n => ?_⟩
  · show GG _ _ _ _ _ _ _ _ _ _ _ _ _
    refine g_iconst (v := -1) hX (dk DX12_place 16 rfl) (by decide) ?_
    refine g_ireturn hX (dk DX12_place 17 rfl) rfl (rfl) (by decide) (by decide) ?_
    exact rI_of (by first | (unfold plA; (try first | rw [if_pos hc1n] | rw [if_neg hc1n] | rw [if_neg (not_not_intro hc1n)]); (try first | rw [if_pos hc2n] | rw [if_neg hc2n] | rw [if_neg (not_not_intro hc2n)]); (try first | rw [if_pos hc3n] | rw [if_neg hc3n] | rw [if_neg (not_not_intro hc3n)]); (try first | rw [if_pos hc4n] | rw [if_neg hc4n] | rw [if_neg (not_not_intro hc4n)]); (try first | rw [if_pos hc5] | rw [if_neg hc5] | rw [if_neg (not_not_intro hc5)]); first | done | rfl) | simp_all [plA]) rfl rfl
  refine ⟨fun hc6 => ?_, fun hc6n => ?_⟩
  · show GG _ _ _ _ _ _ _ _ _ _ _ _ _
    refine g_iconst (v := -1) hX (dk DX12_place 16 rfl) (by decide) ?_
    refine g_ireturn hX (dk DX12_place 17 rfl) rfl (rfl) (by decide) (by decide) ?_
    exact rI_of (by first | (unfold plA; (try first | rw [if_pos hc1n] | rw [if_neg hc1n] | rw [if_neg (not_not_intro hc1n)]); (try first | rw [if_pos hc2n] | rw [if_neg hc2n] | rw [if_neg (not_not_intro hc2n)]); (try first | rw [if_pos hc3n] | rw [if_neg hc3n] | rw [if_neg (not_not_intro hc3n)]); (try first | rw [if_pos hc4n] | rw [if_neg hc4n] | rw [if_neg (not_not_intro hc4n)]); (try first | rw [if_pos hc5n] | rw [if_neg hc5n] | rw [if_neg (not_not_intro hc5n)]); (try first | rw [if_pos hc6] | rw [if_neg hc6] | rw [if_neg (not_not_intro hc6)]); first | done | rfl) | simp_all [plA]) rfl rfl
  refine ⟨fun hc7 => ?_, fun hc7n => ?_⟩
  · show GG _ _ _ _ _ _ _ _ _ _ _ _ _
    refine g_iconst (v := 0) hX (dk DX12_place 2 rfl) (by decide) ?_
    refine g_ireturn hX (dk DX12_place 3 rfl) rfl (rfl) (by decide) (by decide) ?_
    exact rI_of (by first | (unfold plA; (try first | rw [if_pos hc1n] | rw [if_neg hc1n] | rw [if_neg (not_not_intro hc1n)]); (try first | rw [if_pos hc2n] | rw [if_neg hc2n] | rw [if_neg (not_not_intro hc2n)]); (try first | rw [if_pos hc3n] | rw [if_neg hc3n] | rw [if_neg (not_not_intro hc3n)]); (try first | rw [if_pos hc4n] | rw [if_neg hc4n] | rw [if_neg (not_not_intro hc4n)]); (try first | rw [if_pos hc5n] | rw [if_neg hc5n] | rw [if_neg (not_not_intro hc5n)]); (try first | rw [if_pos hc6n] | rw [if_neg hc6n] | rw [if_neg (not_not_intro hc6n)]); (try first | rw [if_pos hc7] | rw [if_neg hc7] | rw [if_neg (not_not_intro hc7)]); first | done | rfl) | simp_all [plA]) rfl rfl
  refine ⟨fun hc8 => ?_, fun hc8n => ?_⟩
  · show GG _ _ _ _ _ _ _ _ _ _ _ _ _
    refine g_iconst (v := -1) hX (dk DX12_place 16 rfl) (by decide) ?_
    refine g_ireturn hX (dk DX12_place 17 rfl) rfl (rfl) (by decide) (by decide) ?_
    exact rI_of (by first | (unfold plA; (try first | rw [if_pos hc1n] | rw [if_neg hc1n] | rw [if_neg (not_not_intro hc1n)]); (try first | rw [if_pos hc2n] | rw [if_neg hc2n] | rw [if_neg (not_not_intro hc2n)]); (try first | rw [if_pos hc3n] | rw [if_neg hc3n] | rw [if_neg (not_not_intro hc3n)]); (try first | rw [if_pos hc4n] | rw [if_neg hc4n] | rw [if_neg (not_not_intro hc4n)]); (try first | rw [if_pos hc5n] | rw [if_neg hc5n] | rw [if_neg (not_not_intro hc5n)]); (try first | rw [if_pos hc6n] | rw [if_neg hc6n] | rw [if_neg (not_not_intro hc6n)]); (try first | rw [if_pos hc7n] | rw [if_neg hc7n] | rw [if_neg (not_not_intro hc7n)]); (try first | rw [if_pos hc8] | rw [if_neg hc8] | rw [if_neg (not_not_intro hc8)]); first | done | rfl) | simp_all [plA]) rfl rfl
  refine ⟨fun hc9 => ?_, fun hc9n => ?_⟩
  · show GG _ _ _ _ _ _ _ _ _ _ _ _ _
    refine g_iconst (v := 1) hX (dk DX12_place 4 rfl) (by decide) ?_
    refine g_ireturn hX (dk DX12_place 5 rfl) rfl (rfl) (by decide) (by decide) ?_
    exact rI_of (by first | (unfold plA; (try first | rw [if_pos hc1n] | rw [if_neg hc1n] | rw [if_neg (not_not_intro hc1n)]); (try first | rw [if_pos hc2n] | rw [if_neg hc2n] | rw [if_neg (not_not_intro hc2n)]); (try first | rw [if_pos hc3n] | rw [if_neg hc3n] | rw [if_neg (not_not_intro hc3n)]); (try first | rw [if_pos hc4n] | rw [if_neg hc4n] | rw [if_neg (not_not_intro hc4n)]); (try first | rw [if_pos hc5n] | rw [if_neg hc5n] | rw [if_neg (not_not_intro hc5n)]); (try first | rw [if_pos hc6n] | rw [if_neg hc6n] | rw [if_neg (not_not_intro hc6n)]); (try first | rw [if_pos hc7n] | rw [if_neg hc7n] | rw [if_neg (not_not_intro hc7n)]); (try first | rw [if_pos hc8n] | rw [if_neg hc8n] | rw [if_neg (not_not_intro hc8n)]); (try first | rw [if_pos hc9] | rw [if_neg hc9] | rw [if_neg (not_not_intro hc9)]); first | done | rfl) | simp_all [plA]) rfl rfl
  refine ⟨fun hc10 => ?_, fun hc10n => ?_⟩
  · show GG _ _ _ _ _ _ _ _ _ _ _ _ _
    refine g_iconst (v := -1) hX (dk DX12_place 16 rfl) (by decide) ?_
    refine g_ireturn hX (dk DX12_place 17 rfl) rfl (rfl) (by decide) (by decide) ?_
    exact rI_of (by first | (unfold plA; (try first | rw [if_pos hc1n] | rw [if_neg hc1n] | rw [if_neg (not_not_intro hc1n)]); (try first | rw [if_pos hc2n] | rw [if_neg hc2n] | rw [if_neg (not_not_intro hc2n)]); (try first | rw [if_pos hc3n] | rw [if_neg hc3n] | rw [if_neg (not_not_intro hc3n)]); (try first | rw [if_pos hc4n] | rw [if_neg hc4n] | rw [if_neg (not_not_intro hc4n)]); (try first | rw [if_pos hc5n] | rw [if_neg hc5n] | rw [if_neg (not_not_intro hc5n)]); (try first | rw [if_pos hc6n] | rw [if_neg hc6n] | rw [if_neg (not_not_intro hc6n)]); (try first | rw [if_pos hc7n] | rw [if_neg hc7n] | rw [if_neg (not_not_intro hc7n)]); (try first | rw [if_pos hc8n] | rw [if_neg hc8n] | rw [if_neg (not_not_intro hc8n)]); (try first | rw [if_pos hc9n] | rw [if_neg hc9n] | rw [if_neg (not_not_intro hc9n)]); (try first | rw [if_pos hc10] | rw [if_neg hc10] | rw [if_neg (not_not_intro hc10)]); first | done | rfl) | simp_all [plA]) rfl rfl
  refine ⟨fun hc11 => ?_, fun hc11n => ?_⟩
  · show GG _ _ _ _ _ _ _ _ _ _ _ _ _
    refine g_iconst (v := -1) hX (dk DX12_place 16 rfl) (by decide) ?_
    refine g_ireturn hX (dk DX12_place 17 rfl) rfl (rfl) (by decide) (by decide) ?_
    exact rI_of (by first | (unfold plA; (try first | rw [if_pos hc1n] | rw [if_neg hc1n] | rw [if_neg (not_not_intro hc1n)]); (try first | rw [if_pos hc2n] | rw [if_neg hc2n] | rw [if_neg (not_not_intro hc2n)]); (try first | rw [if_pos hc3n] | rw [if_neg hc3n] | rw [if_neg (not_not_intro hc3n)]); (try first | rw [if_pos hc4n] | rw [if_neg hc4n] | rw [if_neg (not_not_intro hc4n)]); (try first | rw [if_pos hc5n] | rw [if_neg hc5n] | rw [if_neg (not_not_intro hc5n)]); (try first | rw [if_pos hc6n] | rw [if_neg hc6n] | rw [if_neg (not_not_intro hc6n)]); (try first | rw [if_pos hc7n] | rw [if_neg hc7n] | rw [if_neg (not_not_intro hc7n)]); (try first | rw [if_pos hc8n] | rw [if_neg hc8n] | rw [if_neg (not_not_intro hc8n)]); (try first | rw [if_pos hc9n] | rw [if_neg hc9n] | rw [if_neg (not_not_intro hc9n)]); (try first | rw [if_pos hc10n] | rw [if_neg hc10n] | rw [if_neg (not_not_intro hc10n)]); (try first | rw [if_pos hc11] | rw [if_neg hc11] | rw [if_neg (not_not_intro hc11)]); first | done | rfl) | simp_all [plA]) rfl rfl
  refine ⟨fun hc12 => ?_, fun hc12n => ?_⟩
  · show GG _ _ _ _ _ _ _ _ _ _ _ _ _
    refine g_iconst (v := -1) hX (dk DX12_place 16 rfl) (by decide) ?_
    refine g_ireturn hX (dk DX12_place 17 rfl) rfl (rfl) (by decide) (by decide) ?_
    exact rI_of (by first | (unfold plA; (try first | rw [if_pos hc1n] | rw [if_neg hc1n] | rw [if_neg (not_not_intro hc1n)]); (try first | rw [if_pos hc2n] | rw [if_neg hc2n] | rw [if_neg (not_not_intro hc2n)]); (try first | rw [if_pos hc3n] | rw [if_neg hc3n] | rw [if_neg (not_not_intro hc3n)]); (try first | rw [if_pos hc4n] | rw [if_neg hc4n] | rw [if_neg (not_not_intro hc4n)]); (try first | rw [if_pos hc5n] | rw [if_neg hc5n] | rw [if_neg (not_not_intro hc5n)]); (try first | rw [if_pos hc6n] | rw [if_neg hc6n] | rw [if_neg (not_not_intro hc6n)]); (try first | rw [if_pos hc7n] | rw [if_neg hc7n] | rw [if_neg (not_not_intro hc7n)]); (try first | rw [if_pos hc8n] | rw [if_neg hc8n] | rw [if_neg (not_not_intro hc8n)]); (try first | rw [if_pos hc9n] | rw [if_neg hc9n] | rw [if_neg (not_not_intro hc9n)]); (try first | rw [if_pos hc10n] | rw [if_neg hc10n] | rw [if_neg (not_not_intro hc10n)]); (try first | rw [if_pos hc11n] | rw [if_neg hc11n] | rw [if_neg (not_not_intro hc11n)]); (try first | rw [if_pos hc12] | rw [if_neg hc12] | rw [if_neg (not_not_intro hc12)]); first | done | rfl) | simp_all [plA]) rfl rfl
  refine ⟨fun hc13 => ?_, fun hc13n => ?_⟩
  · show GG _ _ _ _ _ _ _ _ _ _ _ _ _
    refine g_iconst (v := -1) hX (dk DX12_place 16 rfl) (by decide) ?_
    refine g_ireturn hX (dk DX12_place 17 rfl) rfl (rfl) (by decide) (by decide) ?_
    exact rI_of (by first | (unfold plA; (try first | rw [if_pos hc1n] | rw [if_neg hc1n] | rw [if_neg (not_not_intro hc1n)]); (try first | rw [if_pos hc2n] | rw [if_neg hc2n] | rw [if_neg (not_not_intro hc2n)]); (try first | rw [if_pos hc3n] | rw [if_neg hc3n] | rw [if_neg (not_not_intro hc3n)]); (try first | rw [if_pos hc4n] | rw [if_neg hc4n] | rw [if_neg (not_not_intro hc4n)]); (try first | rw [if_pos hc5n] | rw [if_neg hc5n] | rw [if_neg (not_not_intro hc5n)]); (try first | rw [if_pos hc6n] | rw [if_neg hc6n] | rw [if_neg (not_not_intro hc6n)]); (try first | rw [if_pos hc7n] | rw [if_neg hc7n] | rw [if_neg (not_not_intro hc7n)]); (try first | rw [if_pos hc8n] | rw [if_neg hc8n] | rw [if_neg (not_not_intro hc8n)]); (try first | rw [if_pos hc9n] | rw [if_neg hc9n] | rw [if_neg (not_not_intro hc9n)]); (try first | rw [if_pos hc10n] | rw [if_neg hc10n] | rw [if_neg (not_not_intro hc10n)]); (try first | rw [if_pos hc11n] | rw [if_neg hc11n] | rw [if_neg (not_not_intro hc11n)]); (try first | rw [if_pos hc12n] | rw [if_neg hc12n] | rw [if_neg (not_not_intro hc12n)]); (try first | rw [if_pos hc13] | rw [if_neg hc13] | rw [if_neg (not_not_intro hc13)]); first | done | rfl) | simp_all [plA]) rfl rfl
  refine ⟨fun hc14 => ?_, fun hc14n => ?_⟩
  · show GG _ _ _ _ _ _ _ _ _ _ _ _ _
    refine g_iconst (v := -1) hX (dk DX12_place 16 rfl) (by decide) ?_
    refine g_ireturn hX (dk DX12_place 17 rfl) rfl (rfl) (by decide) (by decide) ?_
    exact rI_of (by first | (unfold plA; (try first | rw [if_pos hc1n] | rw [if_neg hc1n] | rw [if_neg (not_not_intro hc1n)]); (try first | rw [if_pos hc2n] | rw [if_neg hc2n] | rw [if_neg (not_not_intro hc2n)]); (try first | rw [if_pos hc3n] | rw [if_neg hc3n] | rw [if_neg (not_not_intro hc3n)]); (try first | rw [if_pos hc4n] | rw [if_neg hc4n] | rw [if_neg (not_not_intro hc4n)]); (try first | rw [if_pos hc5n] | rw [if_neg hc5n] | rw [if_neg (not_not_intro hc5n)]); (try first | rw [if_pos hc6n] | rw [if_neg hc6n] | rw [if_neg (not_not_intro hc6n)]); (try first | rw [if_pos hc7n] | rw [if_neg hc7n] | rw [if_neg (not_not_intro hc7n)]); (try first | rw [if_pos hc8n] | rw [if_neg hc8n] | rw [if_neg (not_not_intro hc8n)]); (try first | rw [if_pos hc9n] | rw [if_neg hc9n] | rw [if_neg (not_not_intro hc9n)]); (try first | rw [if_pos hc10n] | rw [if_neg hc10n] | rw [if_neg (not_not_intro hc10n)]); (try first | rw [if_pos hc11n] | rw [if_neg hc11n] | rw [if_neg (not_not_intro hc11n)]); (try first | rw [if_pos hc12n] | rw [if_neg hc12n] | rw [if_neg (not_not_intro hc12n)]); (try first | rw [if_pos hc13n] | rw [if_neg hc13n] | rw [if_neg (not_not_intro hc13n)]); (try first | rw [if_pos hc14] | rw [if_neg hc14] | rw [if_neg (not_not_intro hc14)]); first | done | rfl) | simp_all [plA]) rfl rfl
  refine ⟨fun hc15 => ?_, fun hc15n => ?_⟩
  · show GG _ _ _ _ _ _ _ _ _ _ _ _ _
    refine g_iconst (v := -1) hX (dk DX12_place 16 rfl) (by decide) ?_
    refine g_ireturn hX (dk DX12_place 17 rfl) rfl (rfl) (by decide) (by decide) ?_
    exact rI_of (by first | (unfold plA; (try first | rw [if_pos hc1n] | rw [if_neg hc1n] | rw [if_neg (not_not_intro hc1n)]); (try first | rw [if_pos hc2n] | rw [if_neg hc2n] | rw [if_neg (not_not_intro hc2n)]); (try first | rw [if_pos hc3n] | rw [if_neg hc3n] | rw [if_neg (not_not_intro hc3n)]); (try first | rw [if_pos hc4n] | rw [if_neg hc4n] | rw [if_neg (not_not_intro hc4n)]); (try first | rw [if_pos hc5n] | rw [if_neg hc5n] | rw [if_neg (not_not_intro hc5n)]); (try first | rw [if_pos hc6n] | rw [if_neg hc6n] | rw [if_neg (not_not_intro hc6n)]); (try first | rw [if_pos hc7n] | rw [if_neg hc7n] | rw [if_neg (not_not_intro hc7n)]); (try first | rw [if_pos hc8n] | rw [if_neg hc8n] | rw [if_neg (not_not_intro hc8n)]); (try first | rw [if_pos hc9n] | rw [if_neg hc9n] | rw [if_neg (not_not_intro hc9n)]); (try first | rw [if_pos hc10n] | rw [if_neg hc10n] | rw [if_neg (not_not_intro hc10n)]); (try first | rw [if_pos hc11n] | rw [if_neg hc11n] | rw [if_neg (not_not_intro hc11n)]); (try first | rw [if_pos hc12n] | rw [if_neg hc12n] | rw [if_neg (not_not_intro hc12n)]); (try first | rw [if_pos hc13n] | rw [if_neg hc13n] | rw [if_neg (not_not_intro hc13n)]); (try first | rw [if_pos hc14n] | rw [if_neg hc14n] | rw [if_neg (not_not_intro hc14n)]); (try first | rw [if_pos hc15] | rw [if_neg hc15] | rw [if_neg (not_not_intro hc15)]); first | done | rfl) | simp_all [plA]) rfl rfl
  refine ⟨fun hc16 => ?_, fun hc16n => ?_⟩
  · show GG _ _ _ _ _ _ _ _ _ _ _ _ _
    refine g_iconst (v := 2) hX (dk DX12_place 6 rfl) (by decide) ?_
    refine g_ireturn hX (dk DX12_place 7 rfl) rfl (rfl) (by decide) (by decide) ?_
    exact rI_of (by first | (unfold plA; (try first | rw [if_pos hc1n] | rw [if_neg hc1n] | rw [if_neg (not_not_intro hc1n)]); (try first | rw [if_pos hc2n] | rw [if_neg hc2n] | rw [if_neg (not_not_intro hc2n)]); (try first | rw [if_pos hc3n] | rw [if_neg hc3n] | rw [if_neg (not_not_intro hc3n)]); (try first | rw [if_pos hc4n] | rw [if_neg hc4n] | rw [if_neg (not_not_intro hc4n)]); (try first | rw [if_pos hc5n] | rw [if_neg hc5n] | rw [if_neg (not_not_intro hc5n)]); (try first | rw [if_pos hc6n] | rw [if_neg hc6n] | rw [if_neg (not_not_intro hc6n)]); (try first | rw [if_pos hc7n] | rw [if_neg hc7n] | rw [if_neg (not_not_intro hc7n)]); (try first | rw [if_pos hc8n] | rw [if_neg hc8n] | rw [if_neg (not_not_intro hc8n)]); (try first | rw [if_pos hc9n] | rw [if_neg hc9n] | rw [if_neg (not_not_intro hc9n)]); (try first | rw [if_pos hc10n] | rw [if_neg hc10n] | rw [if_neg (not_not_intro hc10n)]); (try first | rw [if_pos hc11n] | rw [if_neg hc11n] | rw [if_neg (not_not_intro hc11n)]); (try first | rw [if_pos hc12n] | rw [if_neg hc12n] | rw [if_neg (not_not_intro hc12n)]); (try first | rw [if_pos hc13n] | rw [if_neg hc13n] | rw [if_neg (not_not_intro hc13n)]); (try first | rw [if_pos hc14n] | rw [if_neg hc14n] | rw [if_neg (not_not_intro hc14n)]); (try first | rw [if_pos hc15n] | rw [if_neg hc15n] | rw [if_neg (not_not_intro hc15n)]); (try first | rw [if_pos hc16] | rw [if_neg hc16] | rw [if_neg (not_not_intro hc16)]); first | done | rfl) | simp_all [plA]) rfl rfl
  refine ⟨fun hc17 => ?_, fun hc17n => ?_⟩
  · show GG _ _ _ _ _ _ _ _ _ _ _ _ _
    refine g_iconst (v := -1) hX (dk DX12_place 16 rfl) (by decide) ?_
    refine g_ireturn hX (dk DX12_place 17 rfl) rfl (rfl) (by decide) (by decide) ?_
    exact rI_of (by first | (unfold plA; (try first | rw [if_pos hc1n] | rw [if_neg hc1n] | rw [if_neg (not_not_intro hc1n)]); (try first | rw [if_pos hc2n] | rw [if_neg hc2n] | rw [if_neg (not_not_intro hc2n)]); (try first | rw [if_pos hc3n] | rw [if_neg hc3n] | rw [if_neg (not_not_intro hc3n)]); (try first | rw [if_pos hc4n] | rw [if_neg hc4n] | rw [if_neg (not_not_intro hc4n)]); (try first | rw [if_pos hc5n] | rw [if_neg hc5n] | rw [if_neg (not_not_intro hc5n)]); (try first | rw [if_pos hc6n] | rw [if_neg hc6n] | rw [if_neg (not_not_intro hc6n)]); (try first | rw [if_pos hc7n] | rw [if_neg hc7n] | rw [if_neg (not_not_intro hc7n)]); (try first | rw [if_pos hc8n] | rw [if_neg hc8n] | rw [if_neg (not_not_intro hc8n)]); (try first | rw [if_pos hc9n] | rw [if_neg hc9n] | rw [if_neg (not_not_intro hc9n)]); (try first | rw [if_pos hc10n] | rw [if_neg hc10n] | rw [if_neg (not_not_intro hc10n)]); (try first | rw [if_pos hc11n] | rw [if_neg hc11n] | rw [if_neg (not_not_intro hc11n)]); (try first | rw [if_pos hc12n] | rw [if_neg hc12n] | rw [if_neg (not_not_intro hc12n)]); (try first | rw [if_pos hc13n] | rw [if_neg hc13n] | rw [if_neg (not_not_intro hc13n)]); (try first | rw [if_pos hc14n] | rw [if_neg hc14n] | rw [if_neg (not_not_intro hc14n)]); (try first | rw [if_pos hc15n] | rw [if_neg hc15n] | rw [if_neg (not_not_intro hc15n)]); (try first | rw [if_pos hc16n] | rw [if_neg hc16n] | rw [if_neg (not_not_intro hc16n)]); (try first | rw [if_pos hc17] | rw [if_neg hc17] | rw [if_neg (not_not_intro hc17)]); first | done | rfl) | simp_all [plA]) rfl rfl
  refine ⟨fun hc18 => ?_, fun hc18n => ?_⟩
  · show GG _ _ _ _ _ _ _ _ _ _ _ _ _
    refine g_iconst (v := -1) hX (dk DX12_place 16 rfl) (by decide) ?_
    refine g_ireturn hX (dk DX12_place 17 rfl) rfl (rfl) (by decide) (by decide) ?_
    exact rI_of (by first | (unfold plA; (try first | rw [if_pos hc1n] | rw [if_neg hc1n] | rw [if_neg (not_not_intro hc1n)]); (try first | rw [if_pos hc2n] | rw [if_neg hc2n] | rw [if_neg (not_not_intro hc2n)]); (try first | rw [if_pos hc3n] | rw [if_neg hc3n] | rw [if_neg (not_not_intro hc3n)]); (try first | rw [if_pos hc4n] | rw [if_neg hc4n] | rw [if_neg (not_not_intro hc4n)]); (try first | rw [if_pos hc5n] | rw [if_neg hc5n] | rw [if_neg (not_not_intro hc5n)]); (try first | rw [if_pos hc6n] | rw [if_neg hc6n] | rw [if_neg (not_not_intro hc6n)]); (try first | rw [if_pos hc7n] | rw [if_neg hc7n] | rw [if_neg (not_not_intro hc7n)]); (try first | rw [if_pos hc8n] | rw [if_neg hc8n] | rw [if_neg (not_not_intro hc8n)]); (try first | rw [if_pos hc9n] | rw [if_neg hc9n] | rw [if_neg (not_not_intro hc9n)]); (try first | rw [if_pos hc10n] | rw [if_neg hc10n] | rw [if_neg (not_not_intro hc10n)]); (try first | rw [if_pos hc11n] | rw [if_neg hc11n] | rw [if_neg (not_not_intro hc11n)]); (try first | rw [if_pos hc12n] | rw [if_neg hc12n] | rw [if_neg (not_not_intro hc12n)]); (try first | rw [if_pos hc13n] | rw [if_neg hc13n] | rw [if_neg (not_not_intro hc13n)]); (try first | rw [if_pos hc14n] | rw [if_neg hc14n] | rw [if_neg (not_not_intro hc14n)]); (try first | rw [if_pos hc15n] | rw [if_neg hc15n] | rw [if_neg (not_not_intro hc15n)]); (try first | rw [if_pos hc16n] | rw [if_neg hc16n] | rw [if_neg (not_not_intro hc16n)]); (try first | rw [if_pos hc17n] | rw [if_neg hc17n] | rw [if_neg (not_not_intro hc17n)]); (try first | rw [if_pos hc18] | rw [if_neg hc18] | rw [if_neg (not_not_intro hc18)]); first | done | rfl) | simp_all [plA]) rfl rfl
  refine ⟨fun hc19 => ?_, fun hc19n => ?_⟩
  · show GG _ _ _ _ _ _ _ _ _ _ _ _ _
    refine g_iconst (v := -1) hX (dk DX12_place 16 rfl) (by decide) ?_
    refine g_ireturn hX (dk DX12_place 17 rfl) rfl (rfl) (by decide) (by decide) ?_
    exact rI_of (by first | (unfold plA; (try first | rw [if_pos hc1n] | rw [if_neg hc1n] | rw [if_neg (not_not_intro hc1n)]); (try first | rw [if_pos hc2n] | rw [if_neg hc2n] | rw [if_neg (not_not_intro hc2n)]); (try first | rw [if_pos hc3n] | rw [if_neg hc3n] | rw [if_neg (not_not_intro hc3n)]); (try first | rw [if_pos hc4n] | rw [if_neg hc4n] | rw [if_neg (not_not_intro hc4n)]); (try first | rw [if_pos hc5n] | rw [if_neg hc5n] | rw [if_neg (not_not_intro hc5n)]); (try first | rw [if_pos hc6n] | rw [if_neg hc6n] | rw [if_neg (not_not_intro hc6n)]); (try first | rw [if_pos hc7n] | rw [if_neg hc7n] | rw [if_neg (not_not_intro hc7n)]); (try first | rw [if_pos hc8n] | rw [if_neg hc8n] | rw [if_neg (not_not_intro hc8n)]); (try first | rw [if_pos hc9n] | rw [if_neg hc9n] | rw [if_neg (not_not_intro hc9n)]); (try first | rw [if_pos hc10n] | rw [if_neg hc10n] | rw [if_neg (not_not_intro hc10n)]); (try first | rw [if_pos hc11n] | rw [if_neg hc11n] | rw [if_neg (not_not_intro hc11n)]); (try first | rw [if_pos hc12n] | rw [if_neg hc12n] | rw [if_neg (not_not_intro hc12n)]); (try first | rw [if_pos hc13n] | rw [if_neg hc13n] | rw [if_neg (not_not_intro hc13n)]); (try first | rw [if_pos hc14n] | rw [if_neg hc14n] | rw [if_neg (not_not_intro hc14n)]); (try first | rw [if_pos hc15n] | rw [if_neg hc15n] | rw [if_neg (not_not_intro hc15n)]); (try first | rw [if_pos hc16n] | rw [if_neg hc16n] | rw [if_neg (not_not_intro hc16n)]); (try first | rw [if_pos hc17n] | rw [if_neg hc17n] | rw [if_neg (not_not_intro hc17n)]); (try first | rw [if_pos hc18n] | rw [if_neg hc18n] | rw [if_neg (not_not_intro hc18n)]); (try first | rw [if_pos hc19] | rw [if_neg hc19] | rw [if_neg (not_not_intro hc19)]); first | done | rfl) | simp_all [plA]) rfl rfl
  refine ⟨fun hc20 => ?_, fun hc20n => ?_⟩
  · show GG _ _ _ _ _ _ _ _ _ _ _ _ _
    refine g_iconst (v := 3) hX (dk DX12_place 8 rfl) (by decide) ?_
    refine g_ireturn hX (dk DX12_place 9 rfl) rfl (rfl) (by decide) (by decide) ?_
    exact rI_of (by first | (unfold plA; (try first | rw [if_pos hc1n] | rw [if_neg hc1n] | rw [if_neg (not_not_intro hc1n)]); (try first | rw [if_pos hc2n] | rw [if_neg hc2n] | rw [if_neg (not_not_intro hc2n)]); (try first | rw [if_pos hc3n] | rw [if_neg hc3n] | rw [if_neg (not_not_intro hc3n)]); (try first | rw [if_pos hc4n] | rw [if_neg hc4n] | rw [if_neg (not_not_intro hc4n)]); (try first | rw [if_pos hc5n] | rw [if_neg hc5n] | rw [if_neg (not_not_intro hc5n)]); (try first | rw [if_pos hc6n] | rw [if_neg hc6n] | rw [if_neg (not_not_intro hc6n)]); (try first | rw [if_pos hc7n] | rw [if_neg hc7n] | rw [if_neg (not_not_intro hc7n)]); (try first | rw [if_pos hc8n] | rw [if_neg hc8n] | rw [if_neg (not_not_intro hc8n)]); (try first | rw [if_pos hc9n] | rw [if_neg hc9n] | rw [if_neg (not_not_intro hc9n)]); (try first | rw [if_pos hc10n] | rw [if_neg hc10n] | rw [if_neg (not_not_intro hc10n)]); (try first | rw [if_pos hc11n] | rw [if_neg hc11n] | rw [if_neg (not_not_intro hc11n)]); (try first | rw [if_pos hc12n] | rw [if_neg hc12n] | rw [if_neg (not_not_intro hc12n)]); (try first | rw [if_pos hc13n] | rw [if_neg hc13n] | rw [if_neg (not_not_intro hc13n)]); (try first | rw [if_pos hc14n] | rw [if_neg hc14n] | rw [if_neg (not_not_intro hc14n)]); (try first | rw [if_pos hc15n] | rw [if_neg hc15n] | rw [if_neg (not_not_intro hc15n)]); (try first | rw [if_pos hc16n] | rw [if_neg hc16n] | rw [if_neg (not_not_intro hc16n)]); (try first | rw [if_pos hc17n] | rw [if_neg hc17n] | rw [if_neg (not_not_intro hc17n)]); (try first | rw [if_pos hc18n] | rw [if_neg hc18n] | rw [if_neg (not_not_intro hc18n)]); (try first | rw [if_pos hc19n] | rw [if_neg hc19n] | rw [if_neg (not_not_intro hc19n)]); (try first | rw [if_pos hc20] | rw [if_neg hc20] | rw [if_neg (not_not_intro hc20)]); first | done | rfl) | simp_all [plA]) rfl rfl
  refine ⟨fun hc21 => ?_, fun hc21n => ?_⟩
  · show GG _ _ _ _ _ _ _ _ _ _ _ _ _
    refine g_bipush (v := 6) hX (dk DX12_place 14 rfl) (by decide) ?_
    refine g_ireturn hX (dk DX12_place 15 rfl) rfl (rfl) (by decide) (by decide) ?_
    exact rI_of (by first | (unfold plA; (try first | rw [if_pos hc1n] | rw [if_neg hc1n] | rw [if_neg (not_not_intro hc1n)]); (try first | rw [if_pos hc2n] | rw [if_neg hc2n] | rw [if_neg (not_not_intro hc2n)]); (try first | rw [if_pos hc3n] | rw [if_neg hc3n] | rw [if_neg (not_not_intro hc3n)]); (try first | rw [if_pos hc4n] | rw [if_neg hc4n] | rw [if_neg (not_not_intro hc4n)]); (try first | rw [if_pos hc5n] | rw [if_neg hc5n] | rw [if_neg (not_not_intro hc5n)]); (try first | rw [if_pos hc6n] | rw [if_neg hc6n] | rw [if_neg (not_not_intro hc6n)]); (try first | rw [if_pos hc7n] | rw [if_neg hc7n] | rw [if_neg (not_not_intro hc7n)]); (try first | rw [if_pos hc8n] | rw [if_neg hc8n] | rw [if_neg (not_not_intro hc8n)]); (try first | rw [if_pos hc9n] | rw [if_neg hc9n] | rw [if_neg (not_not_intro hc9n)]); (try first | rw [if_pos hc10n] | rw [if_neg hc10n] | rw [if_neg (not_not_intro hc10n)]); (try first | rw [if_pos hc11n] | rw [if_neg hc11n] | rw [if_neg (not_not_intro hc11n)]); (try first | rw [if_pos hc12n] | rw [if_neg hc12n] | rw [if_neg (not_not_intro hc12n)]); (try first | rw [if_pos hc13n] | rw [if_neg hc13n] | rw [if_neg (not_not_intro hc13n)]); (try first | rw [if_pos hc14n] | rw [if_neg hc14n] | rw [if_neg (not_not_intro hc14n)]); (try first | rw [if_pos hc15n] | rw [if_neg hc15n] | rw [if_neg (not_not_intro hc15n)]); (try first | rw [if_pos hc16n] | rw [if_neg hc16n] | rw [if_neg (not_not_intro hc16n)]); (try first | rw [if_pos hc17n] | rw [if_neg hc17n] | rw [if_neg (not_not_intro hc17n)]); (try first | rw [if_pos hc18n] | rw [if_neg hc18n] | rw [if_neg (not_not_intro hc18n)]); (try first | rw [if_pos hc19n] | rw [if_neg hc19n] | rw [if_neg (not_not_intro hc19n)]); (try first | rw [if_pos hc20n] | rw [if_neg hc20n] | rw [if_neg (not_not_intro hc20n)]); (try first | rw [if_pos hc21] | rw [if_neg hc21] | rw [if_neg (not_not_intro hc21)]); first | done | rfl) | simp_all [plA]) rfl rfl
  refine ⟨fun hc22 => ?_, fun hc22n => ?_⟩
  · show GG _ _ _ _ _ _ _ _ _ _ _ _ _
    refine g_iconst (v := -1) hX (dk DX12_place 16 rfl) (by decide) ?_
    refine g_ireturn hX (dk DX12_place 17 rfl) rfl (rfl) (by decide) (by decide) ?_
    exact rI_of (by first | (unfold plA; (try first | rw [if_pos hc1n] | rw [if_neg hc1n] | rw [if_neg (not_not_intro hc1n)]); (try first | rw [if_pos hc2n] | rw [if_neg hc2n] | rw [if_neg (not_not_intro hc2n)]); (try first | rw [if_pos hc3n] | rw [if_neg hc3n] | rw [if_neg (not_not_intro hc3n)]); (try first | rw [if_pos hc4n] | rw [if_neg hc4n] | rw [if_neg (not_not_intro hc4n)]); (try first | rw [if_pos hc5n] | rw [if_neg hc5n] | rw [if_neg (not_not_intro hc5n)]); (try first | rw [if_pos hc6n] | rw [if_neg hc6n] | rw [if_neg (not_not_intro hc6n)]); (try first | rw [if_pos hc7n] | rw [if_neg hc7n] | rw [if_neg (not_not_intro hc7n)]); (try first | rw [if_pos hc8n] | rw [if_neg hc8n] | rw [if_neg (not_not_intro hc8n)]); (try first | rw [if_pos hc9n] | rw [if_neg hc9n] | rw [if_neg (not_not_intro hc9n)]); (try first | rw [if_pos hc10n] | rw [if_neg hc10n] | rw [if_neg (not_not_intro hc10n)]); (try first | rw [if_pos hc11n] | rw [if_neg hc11n] | rw [if_neg (not_not_intro hc11n)]); (try first | rw [if_pos hc12n] | rw [if_neg hc12n] | rw [if_neg (not_not_intro hc12n)]); (try first | rw [if_pos hc13n] | rw [if_neg hc13n] | rw [if_neg (not_not_intro hc13n)]); (try first | rw [if_pos hc14n] | rw [if_neg hc14n] | rw [if_neg (not_not_intro hc14n)]); (try first | rw [if_pos hc15n] | rw [if_neg hc15n] | rw [if_neg (not_not_intro hc15n)]); (try first | rw [if_pos hc16n] | rw [if_neg hc16n] | rw [if_neg (not_not_intro hc16n)]); (try first | rw [if_pos hc17n] | rw [if_neg hc17n] | rw [if_neg (not_not_intro hc17n)]); (try first | rw [if_pos hc18n] | rw [if_neg hc18n] | rw [if_neg (not_not_intro hc18n)]); (try first | rw [if_pos hc19n] | rw [if_neg hc19n] | rw [if_neg (not_not_intro hc19n)]); (try first | rw [if_pos hc20n] | rw [if_neg hc20n] | rw [if_neg (not_not_intro hc20n)]); (try first | rw [if_pos hc21n] | rw [if_neg hc21n] | rw [if_neg (not_not_intro hc21n)]); (try first | rw [if_pos hc22] | rw [if_neg hc22] | rw [if_neg (not_not_intro hc22)]); first | done | rfl) | simp_all [plA]) rfl rfl
  refine ⟨fun hc23 => ?_, fun hc23n => ?_⟩
  · show GG _ _ _ _ _ _ _ _ _ _ _ _ _
    refine g_iconst (v := 5) hX (dk DX12_place 12 rfl) (by decide) ?_
    refine g_ireturn hX (dk DX12_place 13 rfl) rfl (rfl) (by decide) (by decide) ?_
    exact rI_of (by first | (unfold plA; (try first | rw [if_pos hc1n] | rw [if_neg hc1n] | rw [if_neg (not_not_intro hc1n)]); (try first | rw [if_pos hc2n] | rw [if_neg hc2n] | rw [if_neg (not_not_intro hc2n)]); (try first | rw [if_pos hc3n] | rw [if_neg hc3n] | rw [if_neg (not_not_intro hc3n)]); (try first | rw [if_pos hc4n] | rw [if_neg hc4n] | rw [if_neg (not_not_intro hc4n)]); (try first | rw [if_pos hc5n] | rw [if_neg hc5n] | rw [if_neg (not_not_intro hc5n)]); (try first | rw [if_pos hc6n] | rw [if_neg hc6n] | rw [if_neg (not_not_intro hc6n)]); (try first | rw [if_pos hc7n] | rw [if_neg hc7n] | rw [if_neg (not_not_intro hc7n)]); (try first | rw [if_pos hc8n] | rw [if_neg hc8n] | rw [if_neg (not_not_intro hc8n)]); (try first | rw [if_pos hc9n] | rw [if_neg hc9n] | rw [if_neg (not_not_intro hc9n)]); (try first | rw [if_pos hc10n] | rw [if_neg hc10n] | rw [if_neg (not_not_intro hc10n)]); (try first | rw [if_pos hc11n] | rw [if_neg hc11n] | rw [if_neg (not_not_intro hc11n)]); (try first | rw [if_pos hc12n] | rw [if_neg hc12n] | rw [if_neg (not_not_intro hc12n)]); (try first | rw [if_pos hc13n] | rw [if_neg hc13n] | rw [if_neg (not_not_intro hc13n)]); (try first | rw [if_pos hc14n] | rw [if_neg hc14n] | rw [if_neg (not_not_intro hc14n)]); (try first | rw [if_pos hc15n] | rw [if_neg hc15n] | rw [if_neg (not_not_intro hc15n)]); (try first | rw [if_pos hc16n] | rw [if_neg hc16n] | rw [if_neg (not_not_intro hc16n)]); (try first | rw [if_pos hc17n] | rw [if_neg hc17n] | rw [if_neg (not_not_intro hc17n)]); (try first | rw [if_pos hc18n] | rw [if_neg hc18n] | rw [if_neg (not_not_intro hc18n)]); (try first | rw [if_pos hc19n] | rw [if_neg hc19n] | rw [if_neg (not_not_intro hc19n)]); (try first | rw [if_pos hc20n] | rw [if_neg hc20n] | rw [if_neg (not_not_intro hc20n)]); (try first | rw [if_pos hc21n] | rw [if_neg hc21n] | rw [if_neg (not_not_intro hc21n)]); (try first | rw [if_pos hc22n] | rw [if_neg hc22n] | rw [if_neg (not_not_intro hc22n)]); (try first | rw [if_pos hc23] | rw [if_neg hc23] | rw [if_neg (not_not_intro hc23)]); first | done | rfl) | simp_all [plA]) rfl rfl
  show GG _ _ _ _ _ _ _ _ _ _ _ _ _
  refine g_iconst (v := -1) hX (dk DX12_place 16 rfl) (by decide) ?_
  refine g_ireturn hX (dk DX12_place 17 rfl) rfl (rfl) (by decide) (by decide) ?_
  exact rI_of (by first | (unfold plA; (try first | rw [if_pos hc1n] | rw [if_neg hc1n] | rw [if_neg (not_not_intro hc1n)]); (try first | rw [if_pos hc2n] | rw [if_neg hc2n] | rw [if_neg (not_not_intro hc2n)]); (try first | rw [if_pos hc3n] | rw [if_neg hc3n] | rw [if_neg (not_not_intro hc3n)]); (try first | rw [if_pos hc4n] | rw [if_neg hc4n] | rw [if_neg (not_not_intro hc4n)]); (try first | rw [if_pos hc5n] | rw [if_neg hc5n] | rw [if_neg (not_not_intro hc5n)]); (try first | rw [if_pos hc6n] | rw [if_neg hc6n] | rw [if_neg (not_not_intro hc6n)]); (try first | rw [if_pos hc7n] | rw [if_neg hc7n] | rw [if_neg (not_not_intro hc7n)]); (try first | rw [if_pos hc8n] | rw [if_neg hc8n] | rw [if_neg (not_not_intro hc8n)]); (try first | rw [if_pos hc9n] | rw [if_neg hc9n] | rw [if_neg (not_not_intro hc9n)]); (try first | rw [if_pos hc10n] | rw [if_neg hc10n] | rw [if_neg (not_not_intro hc10n)]); (try first | rw [if_pos hc11n] | rw [if_neg hc11n] | rw [if_neg (not_not_intro hc11n)]); (try first | rw [if_pos hc12n] | rw [if_neg hc12n] | rw [if_neg (not_not_intro hc12n)]); (try first | rw [if_pos hc13n] | rw [if_neg hc13n] | rw [if_neg (not_not_intro hc13n)]); (try first | rw [if_pos hc14n] | rw [if_neg hc14n] | rw [if_neg (not_not_intro hc14n)]); (try first | rw [if_pos hc15n] | rw [if_neg hc15n] | rw [if_neg (not_not_intro hc15n)]); (try first | rw [if_pos hc16n] | rw [if_neg hc16n] | rw [if_neg (not_not_intro hc16n)]); (try first | rw [if_pos hc17n] | rw [if_neg hc17n] | rw [if_neg (not_not_intro hc17n)]); (try first | rw [if_pos hc18n] | rw [if_neg hc18n] | rw [if_neg (not_not_intro hc18n)]); (try first | rw [if_pos hc19n] | rw [if_neg hc19n] | rw [if_neg (not_not_intro hc19n)]); (try first | rw [if_pos hc20n] | rw [if_neg hc20n] | rw [if_neg (not_not_intro hc20n)]); (try first | rw [if_pos hc21n] | rw [if_neg hc21n] | rw [if_neg (not_not_intro hc21n)]); (try first | rw [if_pos hc22n] | rw [if_neg hc22n] | rw [if_neg (not_not_intro hc22n)]); (try first | rw [if_pos hc23n] | rw [if_neg hc23n] | rw [if_neg (not_not_intro hc23n)]); first | done | rfl) | simp_all [plA]) rfl rfl

