set_option maxHeartbeats 4000000 in
set_option maxRecDepth 20000 in
/-- the end: 1 -/
theorem lexit {p : Program} {l : Launch} {e : Env} {s : State} {m : MethodId} {below : List Frame} {meth : Method} {c : Code} {b L : Nat} {xs : Nat → Int32} {H : Heap} {locs : List Loc} {ls : Array Slot} {k n : Nat} (C0 : lw_At p s m meth c b L xs) (hk : k ≤ 600000) (hn' : n ≤ 7302250) (hS : va_S (fun q => s.heap.size ≤ q) s.heap H locs) : W p l e room_1 s m #[Value.ref b] below meth c H locs k n (lw_Z below #[Value.ref b] s) (F0 m 1313 ls []) := by
  obtain ⟨hx, hb, hr, hml, hown, hts0, hX, hbl, hlocks, hgv⟩ := C0
  refine lv_iconst (v := 1) hx hb (dk DL_18 9 rfl).1 (by decide) ?_
  refine va_forget (fun q hq => hS.2.2 q hq) ?_
  refine W.widen (k := 600000) (n := 7302250) hk hn' ?_
  exact lw_ret hx hb hr hlocks (dk DL_18 10 rfl).1
set_option maxHeartbeats 8000000 in
set_option maxRecDepth 20000 in
/-- the loop -/
theorem lloop {p : Program} {l : Launch} {e : Env} {s : State} {m : MethodId} {below : List Frame} {meth : Method} {c : Code} {b L : Nat} {xs : Nat → Int32} {D : va_G} {ci : Nat → ClassId} (C0 : lw_At p s m meth c b L xs) (hL : L ≤ 3584) (hKs : ∀ G, gD G = D → gc G = ci → Ks G s) : ∀ (r t : Nat) (E : It) (Li : Nat → Int64) (Ix : It) (hxx : Ht) (Im : It) (hmm : Ht) (H : Heap) (locs : List Loc) (ls : Array Slot), L ≤ 7 * t + 7 * r + 6 → 7 * t ≤ 3584 → LI D ci s.heap.size E Li Ix hxx Im hmm H → hn hxx ≤ 73 + t → lv_has ls 4 (lvs b s.heap.size (7 * t)) → va_S (fun q => s.heap.size ≤ q) s.heap H locs → W p l e room_1 s m #[Value.ref b] below meth c H locs (113 + t) (5499 + 6 * t) (lw_Z below #[Value.ref b] s) (F0 m 18 ls []) := by
  obtain ⟨hx, hb, hr, hml, hown, hts0, hX, hbl, hlocks, hgv⟩ := id C0
  have hbA : ¬ (fun q : Nat => s.heap.size ≤ q) b := Nat.not_le.mpr hbl
  intro r
  induction r using Nat.strongRecOn with | _ r ih => ?_
  intro t E Li Ix hxx Im hmm H locs ls hr7 ht F hnx hl hS
  refine lv_iload_n hx hb (dk DL_0 10 rfl).1 rfl (lv_at hl 3 rfl) ?_
  refine lv_aload_n hx hb (dk DL_0 11 rfl).1 rfl (lv_at hl 0 rfl) ?_
  refine va_slen hx hb hX hbl hbA hS (dk DL_0 12 rfl).1 ?_
  refine lv_bipush (v := 7) hx hb (dk DL_0 13 rfl).1 (by decide) ?_
  refine lv_isub hx hb (dk DL_0 14 rfl).1 ?_
  refine lv_icmp_gt (tgt := 1313) hx hb (dk DL_0 15 rfl).1 (by decide) (fun hc => ?_) (fun hc => ?_)
  · exact lexit C0 (by omega) (by omega) hS
  have h7 : 7 * t + 7 ≤ L := li7 hL hc (by omega)
  have hend : ∀ (E' : It) (L' : Nat → Int64) (Ix' : It) (hx' : Ht) (Im' : It) (hm' : Ht) (H' : Heap) (locs' : List Loc), LI D ci s.heap.size E' L' Ix' hx' Im' hm' H' → hn hx' ≤ hn hxx + 1 → va_S (fun q => s.heap.size ≤ q) s.heap H' locs' → W p l e room_1 s m #[Value.ref b] below meth c H' locs' (113 + t + 1) (5499 + 6 * t + 6) (lw_Z below #[Value.ref b] s) (F0 m 1307 ls []) := by
    intro E' L' Ix' hx' Im' hm' H' locs' F' hn2 hS
    refine lv_iinc (v := nI (7 * (t + 1))) (lv' := [(3, .int (nI (7 * (t + 1)))), (0, .ref b), (1, .ref s.heap.size), (2, .ref (s.heap.size + 73))]) hx hb (dk DL_18 7 rfl).1 hl (k := 3) rfl (show nI (7 * t) + 7 = nI (7 * t + 7) from nI_add _ 7) (by decide) rfl (fun ls hl => ?_)
    refine lv_goto (tgt := 18) hx hb (dk DL_18 8 rfl).1 (by decide) ?_
    exact ih (r - 1) (by omega) (t + 1) E' L' Ix' hx' Im' hm' H' locs' ls (by omega) (by omega) F' (by omega) (lv_sub hl [1, 2, 3, 0] rfl) hS
  refine lv_aload_n hx hb (dk DL_0 16 rfl).1 rfl (lv_at hl 0 rfl) ?_
  refine lv_iload_n hx hb (dk DL_0 17 rfl).1 rfl (lv_at hl 3 rfl) ?_
  refine va_sld hx hb hX hbl hbA hS (vp_in_nI (by omega) (by omega)) (dk DL_0 18 rfl).1 ?_
  refine lv_bipush (v := 63) hx hb (dk DL_0 19 rfl).1 (by decide) ?_
  refine lv_iand hx hb (dk DL_0 20 rfl).1 ?_
  exact ltswitch C0 [(0, 188), (1, 263), (2, 296), (3, 345), (4, 394), (5, 427), (6, 460), (7, 483), (8, 496), (9, 519), (10, 552), (11, 565), (12, 588), (13, 621), (14, 664), (15, 697), (16, 720), (17, 743), (18, 766), (19, 799), (20, 822), (21, 855), (22, 868), (23, 881), (24, 914), (25, 947), (26, 960), (27, 973), (28, 1016), (29, 1039), (30, 1072), (31, 1095), (32, 1138), (33, 1211), (34, 1244)] (dk DL_0 21 rfl).1 (dt := 1307) (by decide +kernel) ⟨fun _ => lc_0 C0 hKs rfl F (by omega) (by omega) (by omega) hl hS h7 (by omega) hend, fun _ => ⟨fun _ => lc_1 C0 hKs rfl F (by omega) (by omega) (by omega) hl hS h7 (by omega) hend, fun _ => ⟨fun _ => lc_2 C0 hKs rfl F (by omega) (by omega) (by omega) hl hS h7 (by omega) hend, fun _ => ⟨fun _ => lc_3 C0 hKs rfl F (by omega) (by omega) (by omega) hl hS h7 (by omega) hend, fun _ => ⟨fun _ => lc_4 C0 hKs rfl F (by omega) (by omega) (by omega) hl hS h7 (by omega) hend, fun _ => ⟨fun _ => lc_5 C0 hKs rfl F (by omega) (by omega) (by omega) hl hS h7 (by omega) hend, fun _ => ⟨fun _ => lc_6 C0 hKs rfl F (by omega) (by omega) (by omega) hl hS h7 (by omega) hend, fun _ => ⟨fun _ => lc_7 C0 hKs rfl F (by omega) (by omega) (by omega) hl hS h7 (by omega) hend, fun _ => ⟨fun _ => lc_8 C0 hKs rfl F (by omega) (by omega) (by omega) hl hS h7 (by omega) hend, fun _ => ⟨fun _ => lc_9 C0 hKs rfl F (by omega) (by omega) (by omega) hl hS h7 (by omega) hend, fun _ => ⟨fun _ => lc_10 C0 hKs rfl F (by omega) (by omega) (by omega) hl hS h7 (by omega) hend, fun _ => ⟨fun _ => lc_11 C0 hKs rfl F (by omega) (by omega) (by omega) hl hS h7 (by omega) hend, fun _ => ⟨fun _ => lc_12 C0 hKs rfl F (by omega) (by omega) (by omega) hl hS h7 (by omega) hend, fun _ => ⟨fun _ => lc_13 C0 hKs rfl F (by omega) (by omega) (by omega) hl hS h7 (by omega) hend, fun _ => ⟨fun _ => lc_14 C0 hKs rfl F (by omega) (by omega) (by omega) hl hS h7 (by omega) hend, fun _ => ⟨fun _ => lc_15 C0 hKs rfl F (by omega) (by omega) (by omega) hl hS h7 (by omega) hend, fun _ => ⟨fun _ => lc_16 C0 hKs rfl F (by omega) (by omega) (by omega) hl hS h7 (by omega) hend, fun _ => ⟨fun _ => lc_17 C0 hKs rfl F (by omega) (by omega) (by omega) hl hS h7 (by omega) hend, fun _ => ⟨fun _ => lc_18 C0 hKs rfl F (by omega) (by omega) (by omega) hl hS h7 (by omega) hend, fun _ => ⟨fun _ => lc_19 C0 hKs rfl F (by omega) (by omega) (by omega) hl hS h7 (by omega) hend, fun _ => ⟨fun _ => lc_20 C0 hKs rfl F (by omega) (by omega) (by omega) hl hS h7 (by omega) hend, fun _ => ⟨fun _ => lc_21 C0 hKs rfl F (by omega) (by omega) (by omega) hl hS h7 (by omega) hend, fun _ => ⟨fun _ => lc_22 C0 hKs rfl F (by omega) (by omega) (by omega) hl hS h7 (by omega) hend, fun _ => ⟨fun _ => lc_23 C0 hKs rfl F (by omega) (by omega) (by omega) hl hS h7 (by omega) hend, fun _ => ⟨fun _ => lc_24 C0 hKs rfl F (by omega) (by omega) (by omega) hl hS h7 (by omega) hend, fun _ => ⟨fun _ => lc_25 C0 hKs rfl F (by omega) (by omega) (by omega) hl hS h7 (by omega) hend, fun _ => ⟨fun _ => lc_26 C0 hKs rfl F (by omega) (by omega) (by omega) hl hS h7 (by omega) hend, fun _ => ⟨fun _ => lc_27 C0 hKs rfl F (by omega) (by omega) (by omega) hl hS h7 (by omega) hend, fun _ => ⟨fun _ => lc_28 C0 hKs rfl F (by omega) (by omega) (by omega) hl hS h7 (by omega) hend, fun _ => ⟨fun _ => lc_29 C0 hKs rfl F (by omega) (by omega) (by omega) hl hS h7 (by omega) hend, fun _ => ⟨fun _ => lc_30 C0 hKs rfl F (by omega) (by omega) (by omega) hl hS h7 (by omega) hend, fun _ => ⟨fun _ => lc_31 C0 hKs rfl F (by omega) (by omega) (by omega) hl hS h7 (by omega) hend, fun _ => ⟨fun _ => lc_32 C0 hKs rfl F (by omega) (by omega) (by omega) hl hS h7 (by omega) hend, fun _ => ⟨fun _ => lc_33 C0 hKs rfl F (by omega) (by omega) (by omega) hl hS h7 (by omega) hend, fun _ => ⟨fun _ => lc_34 C0 hKs rfl F (by omega) (by omega) (by omega) hl hS h7 (by omega) hend, fun _ => W.widen (by omega) (by omega) (hend _ _ _ _ _ _ _ _ F (by omega) hS)⟩⟩⟩⟩⟩⟩⟩⟩⟩⟩⟩⟩⟩⟩⟩⟩⟩⟩⟩⟩⟩⟩⟩⟩⟩⟩⟩⟩⟩⟩⟩⟩⟩⟩⟩
set_option maxHeartbeats 4000000 in
set_option maxRecDepth 20000 in
theorem whole_start {p : Program} {e : Env} {s : State} {m : MethodId} {below : List Frame} {meth : Method} {c : Code} (l : Launch) (hflags : l.flags = flags0) {b L : Nat} {xs : Nat → Int32} (hL : L ≤ 3584) (C0 : lw_At p s m meth c b L xs) : W p l e room_1 s m #[Value.ref b] below meth c s.heap [] 0 0 (lw_Z below #[Value.ref b] s) (entryFrame m ([Value.ref b] : List Value).toArray 4) := by
  obtain ⟨hx, hb, hr, hml, hown, hts0, hX, hbl, hlocks, hgv⟩ := id C0
  obtain ⟨D, ci, hKs⟩ := ks_start hts0 hgv
  have hS : va_S (fun q => s.heap.size ≤ q) s.heap s.heap [] := va_S.rf
  have hl := lv_entry ([.ref b]) (n := 4) (Nat.le_of_ble_eq_true rfl)
  rw [lg_entry_eq]
  generalize (lg_sl ([.ref b]) ++ List.replicate (4 - (lg_sl ([.ref b])).length) Slot.unset).toArray = ls at hl ⊢
  have hl : lv_has ls 4 [(0, .ref b)] := hl
  refine lnew (G := gX D ci s.heap.size 0) C0 (hKs _ rfl rfl) (dk DL_0 0 rfl).1 KX11 (by decide) (tg_1 18 rfl rfl) (tg_1 19 rfl rfl) (tg_1 1 rfl rfl) (gX_new0 (by decide)) rfl (Nat.le_of_ble_eq_true rfl) (Nat.le_of_ble_eq_true rfl) hS (fun H1 hW1 o1 z1 hS => ?_)
  refine lv_dup hx hb (dk DL_0 1 rfl).1 rfl ?_
  refine lcallI (I := zI iE 0) (h := zH hE (11, 0)) C0 gX_ok (hKs _ rfl rfl) (fun q hq => gX_low hq) (dk DL_0 2 rfl).1 rfl rfl (tg_1 20 rfl rfl) (tg_1 21 rfl rfl) (tg_1 1 rfl rfl) kX11_init pmX11_init (by decide) (c_X11_init gX_ok (fun a _ h2 => gX_new0 h2) (fun _ => rfl) (fun _ => rfl) rfl) (by decide) (Nat.le_of_ble_eq_true rfl) (Nat.le_of_ble_eq_true rfl) hl.1 (Nat.le_of_ble_eq_true rfl) hW1 hS (fun r Ix hxx H2 locs2 hq hWx hfr hS => ?_)
  obtain ⟨rfl, hI0, hH0⟩ := hq
  refine lv_astore_n (lv' := [(1, .ref s.heap.size), (0, .ref b)]) hx hb (dk DL_0 3 rfl).1 rfl hl (by decide) rfl (fun ls hl => ?_)
  have hz2 : H2.size = s.heap.size + 73 := by rw [hWx.2]; show s.heap.size + 0 + hn hxx = _; rw [hH0.1]
  refine lnew (G := gM D ci s.heap.size (fun n => s.heap.size + 73 + n)) C0 (hKs _ rfl rfl) (dk DL_0 4 rfl).1 KX12 (by decide) (tg_4 225 rfl rfl) (tg_4 226 rfl rfl) (tg_1 7 rfl rfl) (gM_new0 (by decide)) hz2 (Nat.le_of_ble_eq_true rfl) (Nat.le_of_ble_eq_true rfl) hS (fun H3 hW3 o3 z3 hS => ?_)
  have hPX3 : va_P D vwCl (wl (gX D ci s.heap.size 0) Ix hxx) H3 := hWx.1.kept fun k x hx => o3 x.1 ((hWx.1 k x hx).lt)
  refine lv_dup hx hb (dk DL_0 5 rfl).1 rfl ?_
  refine lcallI (I := zI iE 0) (h := zH hE (12, 0)) C0 gM_ok (hKs _ rfl rfl) (fun q hq => gM_low hq) (dk DL_0 6 rfl).1 rfl rfl (tg_4 227 rfl rfl) (tg_4 228 rfl rfl) (tg_1 7 rfl rfl) kX12_init pmX12_init (by decide) (c_X12_init gM_ok (fun a _ h2 => gM_new0 h2) (S0 := fun q => if q = 0 then (12, 0) else (0, 0)) (if_pos rfl) (fun _ => rfl) (by
    show ((_, _, _, _) : Ht) = (_, _, _, _)
    congr 3
    funext q
    by_cases hq : q = 0
    · subst hq; rfl
    · show (if q = 0 then (12, 0) else (0, 0)) = (if q = 0 then (12, 0) else if q = 0 then (12, 0) else (0, 0))
      simp only [if_neg hq])) (by decide) (Nat.le_of_ble_eq_true rfl) (Nat.le_of_ble_eq_true rfl) hl.1 (Nat.le_of_ble_eq_true rfl) hW3 hS (fun r Im hmm H4 locs4 hq hWm hfr4 hS => ?_)
  obtain ⟨rfl, hF, hRM, hHM, hL38⟩ := hq
  refine lv_astore_n (lv' := [(2, .ref (s.heap.size + 73)), (1, .ref s.heap.size), (0, .ref b)]) hx hb (dk DL_0 7 rfl).1 rfl hl (by decide) rfl (fun ls hl => ?_)
  refine lv_iconst (v := 0) hx hb (dk DL_0 8 rfl).1 (by decide) ?_
  refine lv_istore_n (lv' := [(3, .int 0), (2, .ref (s.heap.size + 73)), (1, .ref s.heap.size), (0, .ref b)]) hx hb (dk DL_0 9 rfl).1 rfl hl (by decide) rfl (fun ls hl => ?_)
  have hz4 : H4.size = s.heap.size + 40 + hn hxx := by rw [hWm.2]; show s.heap.size + 73 + hn hmm = _; rw [hHM.1, hH0.1]
  exact lloop C0 hL hKs 512 0 Im _ Ix hxx Im hmm H4 _ ls (by omega) (by decide) ⟨RZ_start hI0 hH0 hF (RY_start hI0 hH0 hF), fr_inv hF, ⟨hRM, hHM, hL38⟩, ⟨keepX (off := 40) (by rw [hH0.1]; decide) hPX3 hfr4.2, hz4⟩, hWm.1⟩ (by rw [hH0.1]; decide) (lv_sub hl [3, 2, 1, 0] rfl) hS
