set_option maxHeartbeats 4000000 in
set_option maxRecDepth 20000 in
theorem lc_24 {p : Program} {l : Launch} {e : Env} {s : State} {m : MethodId} {below : List Frame} {meth : Method} {c : Code} {b L i k n : Nat} {xs : Nat → Int32} {H : Heap} {locs : List Loc} {ls : Array Slot} {D : va_G} {ci : Nat → ClassId} {b0 : Nat} {E : It} {Li : Nat → Int64} {Ix : It} {hxx : Ht} {Im : It} {hmm : Ht} (C0 : lw_At p s m meth c b L xs) (hKs : ∀ G, gD G = D → gc G = ci → Ks G s) (hb0 : b0 = s.heap.size) (F : LI D ci b0 E Li Ix hxx Im hmm H) (h900 : hn hxx ≤ 900) (hk : k + 1 ≤ 600000) (hnn : n + 6 ≤ 7302250) (hl : lv_has ls 4 (lvs b b0 i)) (hS : va_S (fun q => s.heap.size ≤ q) s.heap H locs) (h7 : i + 7 ≤ L) (hL31 : L < 2 ^ 31)
    (hend : ∀ (E' : It) (L' : Nat → Int64) (Ix' : It) (hx' : Ht) (Im' : It) (hm' : Ht) (H' : Heap) (locs' : List Loc), LI D ci b0 E' L' Ix' hx' Im' hm' H' → hn hx' ≤ hn hxx + 1 → va_S (fun q => s.heap.size ≤ q) s.heap H' locs' → W p l e room_1 s m #[Value.ref b] below meth c H' locs' (k + 1) (n + 6) (lw_Z below #[Value.ref b] s) (F0 m 1307 ls [])) : W p l e room_1 s m #[Value.ref b] below meth c H locs k n (lw_Z below #[Value.ref b] s) (F0 m 914 ls []) := by
  obtain ⟨hx, hb, -, hml, hown, hts0, -, -, -, -⟩ := id C0
  refine lv_aload_n hx hb (dk DL_11 36 rfl).1 rfl (lv_at hl 1 rfl) ?_
  refine larg (k0 := 1) C0 hl rfl rfl hS (dk DL_11 37 rfl).1 (dk DL_11 38 rfl).1 (dk DL_11 39 rfl).1 (dk DL_11 40 rfl).1 (dk DL_11 41 rfl).1 rfl (by omega) hL31 ?_
  refine larg (k0 := 2) C0 hl rfl rfl hS (dk DL_11 42 rfl).1 (dk DL_11 43 rfl).1 (dk DL_11 44 rfl).1 (dk DL_11 45 rfl).1 (dk DL_11 46 rfl).1 rfl (by omega) hL31 ?_
  refine kxI (av := [.int (xs (i + 1)), .int (xs (i + 2))]) C0 hKs hb0 F.2.2.2.1 F.1.1.1 F.2.2.1.2.1.1 F.2.2.2.2 hS hl.1 (dk DL_11 47 rfl).1 rfl (tg_4 87 rfl rfl) (tg_4 88 rfl rfl) (tg_4 89 rfl rfl) (tg_1 1 rfl rfl) kX11_judge pmX11_judge (by decide) rfl (fun _ => rfl) (zx_judge gX_ok F.2.1 F.1) (Nat.le_of_ble_eq_true rfl) (by omega) (by omega) (Nat.le_of_ble_eq_true rfl) (fun x1 I1 h1 H1 locs1 hq1 hW1 hP1 hS => ?_)
  obtain ⟨rfl, hY1, hn1⟩ := hq1
  refine lv_pop hx hb (dk DL_11 48 rfl).1 rfl ?_
  refine lv_aload_n hx hb (dk DL_11 49 rfl).1 rfl (lv_at hl 2 rfl) ?_
  refine larg (k0 := 1) C0 hl rfl rfl hS (dk DL_12 0 rfl).1 (dk DL_12 1 rfl).1 (dk DL_12 2 rfl).1 (dk DL_12 3 rfl).1 (dk DL_12 4 rfl).1 rfl (by omega) hL31 ?_
  refine larg (k0 := 2) C0 hl rfl rfl hS (dk DL_12 5 rfl).1 (dk DL_12 6 rfl).1 (dk DL_12 7 rfl).1 (dk DL_12 8 rfl).1 (dk DL_12 9 rfl).1 rfl (by omega) hL31 ?_
  refine kmI (av := [.int (xs (i + 1)), .int (xs (i + 2))]) C0 hKs hb0 hW1 (by omega) F.2.2.1.2.1 hP1 hS hl.1 (dk DL_12 10 rfl).1 rfl (tg_7 14 rfl rfl) (tg_7 15 rfl rfl) (tg_7 16 rfl rfl) (tg_1 7 rfl rfl) kX12_judge pmX12_judge (by decide) rfl (fun _ => rfl) (fun G hG => c_X12_judge hG F.2.2.1.2.1 F.2.1 F.2.2.1.1 F.2.2.1.2.2) (Nat.le_of_ble_eq_true rfl) (by omega) (by omega) (Nat.le_of_ble_eq_true rfl) (fun x2 I2 h2 H2 locs2 hq2 hW2 hP2 hS => ?_)
  obtain ⟨rfl, hR2⟩ := hq2
  refine lv_pop hx hb (dk DL_12 11 rfl).1 rfl ?_
  refine lv_goto (tgt := 1307) hx hb (dk DL_12 12 rfl).1 (by decide) ?_
  exact W.widen (by omega) (by omega) (hend _ _ _ _ _ _ _ _ ⟨hY1, (by rw [judge_2]; exact F.2.1), hR2, hW2, hP2⟩ (by omega) hS)
set_option maxHeartbeats 4000000 in
set_option maxRecDepth 20000 in
theorem lc_25 {p : Program} {l : Launch} {e : Env} {s : State} {m : MethodId} {below : List Frame} {meth : Method} {c : Code} {b L i k n : Nat} {xs : Nat → Int32} {H : Heap} {locs : List Loc} {ls : Array Slot} {D : va_G} {ci : Nat → ClassId} {b0 : Nat} {E : It} {Li : Nat → Int64} {Ix : It} {hxx : Ht} {Im : It} {hmm : Ht} (C0 : lw_At p s m meth c b L xs) (hKs : ∀ G, gD G = D → gc G = ci → Ks G s) (hb0 : b0 = s.heap.size) (F : LI D ci b0 E Li Ix hxx Im hmm H) (h900 : hn hxx ≤ 900) (hk : k + 1 ≤ 600000) (hnn : n + 6 ≤ 7302250) (hl : lv_has ls 4 (lvs b b0 i)) (hS : va_S (fun q => s.heap.size ≤ q) s.heap H locs) (h7 : i + 7 ≤ L) (hL31 : L < 2 ^ 31)
    (hend : ∀ (E' : It) (L' : Nat → Int64) (Ix' : It) (hx' : Ht) (Im' : It) (hm' : Ht) (H' : Heap) (locs' : List Loc), LI D ci b0 E' L' Ix' hx' Im' hm' H' → hn hx' ≤ hn hxx + 1 → va_S (fun q => s.heap.size ≤ q) s.heap H' locs' → W p l e room_1 s m #[Value.ref b] below meth c H' locs' (k + 1) (n + 6) (lw_Z below #[Value.ref b] s) (F0 m 1307 ls [])) : W p l e room_1 s m #[Value.ref b] below meth c H locs k n (lw_Z below #[Value.ref b] s) (F0 m 947 ls []) := by
  obtain ⟨hx, hb, -, hml, hown, hts0, -, -, -, -⟩ := id C0
  refine lv_aload_n hx hb (dk DL_12 13 rfl).1 rfl (lv_at hl 1 rfl) ?_
  refine kxI (av := []) C0 hKs hb0 F.2.2.2.1 F.1.1.1 F.2.2.1.2.1.1 F.2.2.2.2 hS hl.1 (dk DL_12 14 rfl).1 rfl (tg_4 91 rfl rfl) (tg_4 92 rfl rfl) (tg_4 93 rfl rfl) (tg_1 1 rfl rfl) kX11_image pmX11_image (by decide) rfl (fun _ => rfl) (zx_image gX_ok F.2.1 F.1) (Nat.le_of_ble_eq_true rfl) (by omega) (by omega) (Nat.le_of_ble_eq_true rfl) (fun x1 I1 h1 H1 locs1 hq1 hW1 hP1 hS => ?_)
  obtain ⟨rfl, hY1, hn1⟩ := hq1
  refine lv_pop hx hb (dk DL_12 15 rfl).1 rfl ?_
  refine lv_aload_n hx hb (dk DL_12 16 rfl).1 rfl (lv_at hl 2 rfl) ?_
  refine kmI (av := []) C0 hKs hb0 hW1 (by omega) F.2.2.1.2.1 hP1 hS hl.1 (dk DL_12 17 rfl).1 rfl (tg_7 22 rfl rfl) (tg_7 23 rfl rfl) (tg_7 24 rfl rfl) (tg_1 7 rfl rfl) kX12_image pmX12_image (by decide) rfl (fun _ => rfl) (fun G hG => c_X12_image hG F.2.2.1.2.1 F.2.1 F.2.2.1.1 F.2.2.1.2.2) (Nat.le_of_ble_eq_true rfl) (by omega) (by omega) (Nat.le_of_ble_eq_true rfl) (fun x2 I2 h2 H2 locs2 hq2 hW2 hP2 hS => ?_)
  obtain ⟨rfl, hR2⟩ := hq2
  refine lv_pop hx hb (dk DL_12 18 rfl).1 rfl ?_
  refine lv_goto (tgt := 1307) hx hb (dk DL_12 19 rfl).1 (by decide) ?_
  exact W.widen (by omega) (by omega) (hend _ _ _ _ _ _ _ _ ⟨hY1, F.2.1.image, hR2, hW2, hP2⟩ (by omega) hS)
set_option maxHeartbeats 4000000 in
set_option maxRecDepth 20000 in
theorem lc_26 {p : Program} {l : Launch} {e : Env} {s : State} {m : MethodId} {below : List Frame} {meth : Method} {c : Code} {b L i k n : Nat} {xs : Nat → Int32} {H : Heap} {locs : List Loc} {ls : Array Slot} {D : va_G} {ci : Nat → ClassId} {b0 : Nat} {E : It} {Li : Nat → Int64} {Ix : It} {hxx : Ht} {Im : It} {hmm : Ht} (C0 : lw_At p s m meth c b L xs) (hKs : ∀ G, gD G = D → gc G = ci → Ks G s) (hb0 : b0 = s.heap.size) (F : LI D ci b0 E Li Ix hxx Im hmm H) (h900 : hn hxx ≤ 900) (hk : k + 1 ≤ 600000) (hnn : n + 6 ≤ 7302250) (hl : lv_has ls 4 (lvs b b0 i)) (hS : va_S (fun q => s.heap.size ≤ q) s.heap H locs) (h7 : i + 7 ≤ L) (hL31 : L < 2 ^ 31)
    (hend : ∀ (E' : It) (L' : Nat → Int64) (Ix' : It) (hx' : Ht) (Im' : It) (hm' : Ht) (H' : Heap) (locs' : List Loc), LI D ci b0 E' L' Ix' hx' Im' hm' H' → hn hx' ≤ hn hxx + 1 → va_S (fun q => s.heap.size ≤ q) s.heap H' locs' → W p l e room_1 s m #[Value.ref b] below meth c H' locs' (k + 1) (n + 6) (lw_Z below #[Value.ref b] s) (F0 m 1307 ls [])) : W p l e room_1 s m #[Value.ref b] below meth c H locs k n (lw_Z below #[Value.ref b] s) (F0 m 960 ls []) := by
  obtain ⟨hx, hb, -, hml, hown, hts0, -, -, -, -⟩ := id C0
  refine lv_aload_n hx hb (dk DL_12 20 rfl).1 rfl (lv_at hl 1 rfl) ?_
  refine kxI (av := []) C0 hKs hb0 F.2.2.2.1 F.1.1.1 F.2.2.1.2.1.1 F.2.2.2.2 hS hl.1 (dk DL_12 21 rfl).1 rfl (tg_4 100 rfl rfl) (tg_4 101 rfl rfl) (tg_4 102 rfl rfl) (tg_1 1 rfl rfl) kX11_undo pmX11_undo (by decide) rfl (fun _ => rfl) (zx_undo gX_ok F.2.1 F.1) (Nat.le_of_ble_eq_true rfl) (by omega) (by omega) (Nat.le_of_ble_eq_true rfl) (fun x1 I1 h1 H1 locs1 hq1 hW1 hP1 hS => ?_)
  obtain ⟨rfl, hY1, hn1⟩ := hq1
  refine lv_pop hx hb (dk DL_12 22 rfl).1 rfl ?_
  refine lv_aload_n hx hb (dk DL_12 23 rfl).1 rfl (lv_at hl 2 rfl) ?_
  refine kmI (av := []) C0 hKs hb0 hW1 (by omega) F.2.2.1.2.1 hP1 hS hl.1 (dk DL_12 24 rfl).1 rfl (tg_7 26 rfl rfl) (tg_7 27 rfl rfl) (tg_7 28 rfl rfl) (tg_1 7 rfl rfl) kX12_undo pmX12_undo (by decide) rfl (fun _ => rfl) (fun G hG => c_X12_undo hG F.2.2.1.2.1 F.2.1 F.2.2.1.1 F.2.2.1.2.2) (Nat.le_of_ble_eq_true rfl) (by omega) (by omega) (Nat.le_of_ble_eq_true rfl) (fun x2 I2 h2 H2 locs2 hq2 hW2 hP2 hS => ?_)
  obtain ⟨rfl, hR2⟩ := hq2
  refine lv_pop hx hb (dk DL_12 25 rfl).1 rfl ?_
  refine lv_goto (tgt := 1307) hx hb (dk DL_12 26 rfl).1 (by decide) ?_
  exact W.widen (by omega) (by omega) (hend _ _ _ _ _ _ _ _ ⟨hY1, F.2.1.undo, hR2, hW2, hP2⟩ (by omega) hS)
set_option maxHeartbeats 4000000 in
set_option maxRecDepth 20000 in
theorem lc_27 {p : Program} {l : Launch} {e : Env} {s : State} {m : MethodId} {below : List Frame} {meth : Method} {c : Code} {b L i k n : Nat} {xs : Nat → Int32} {H : Heap} {locs : List Loc} {ls : Array Slot} {D : va_G} {ci : Nat → ClassId} {b0 : Nat} {E : It} {Li : Nat → Int64} {Ix : It} {hxx : Ht} {Im : It} {hmm : Ht} (C0 : lw_At p s m meth c b L xs) (hKs : ∀ G, gD G = D → gc G = ci → Ks G s) (hb0 : b0 = s.heap.size) (F : LI D ci b0 E Li Ix hxx Im hmm H) (h900 : hn hxx ≤ 900) (hk : k + 1 ≤ 600000) (hnn : n + 6 ≤ 7302250) (hl : lv_has ls 4 (lvs b b0 i)) (hS : va_S (fun q => s.heap.size ≤ q) s.heap H locs) (h7 : i + 7 ≤ L) (hL31 : L < 2 ^ 31)
    (hend : ∀ (E' : It) (L' : Nat → Int64) (Ix' : It) (hx' : Ht) (Im' : It) (hm' : Ht) (H' : Heap) (locs' : List Loc), LI D ci b0 E' L' Ix' hx' Im' hm' H' → hn hx' ≤ hn hxx + 1 → va_S (fun q => s.heap.size ≤ q) s.heap H' locs' → W p l e room_1 s m #[Value.ref b] below meth c H' locs' (k + 1) (n + 6) (lw_Z below #[Value.ref b] s) (F0 m 1307 ls [])) : W p l e room_1 s m #[Value.ref b] below meth c H locs k n (lw_Z below #[Value.ref b] s) (F0 m 973 ls []) := by
  obtain ⟨hx, hb, -, hml, hown, hts0, -, -, -, -⟩ := id C0
  refine lv_aload_n hx hb (dk DL_12 27 rfl).1 rfl (lv_at hl 1 rfl) ?_
  refine larg (k0 := 1) C0 hl rfl rfl hS (dk DL_12 28 rfl).1 (dk DL_12 29 rfl).1 (dk DL_12 30 rfl).1 (dk DL_12 31 rfl).1 (dk DL_12 32 rfl).1 rfl (by omega) hL31 ?_
  refine larg (k0 := 2) C0 hl rfl rfl hS (dk DL_12 33 rfl).1 (dk DL_12 34 rfl).1 (dk DL_12 35 rfl).1 (dk DL_12 36 rfl).1 (dk DL_12 37 rfl).1 rfl (by omega) hL31 ?_
  refine larg (k0 := 3) C0 hl rfl rfl hS (dk DL_12 38 rfl).1 (dk DL_12 39 rfl).1 (dk DL_12 40 rfl).1 (dk DL_12 41 rfl).1 (dk DL_12 42 rfl).1 rfl (by omega) hL31 ?_
  refine kxI (av := [.int (xs (i + 1)), .int (xs (i + 2)), .int (xs (i + 3))]) C0 hKs hb0 F.2.2.2.1 F.1.1.1 F.2.2.1.2.1.1 F.2.2.2.2 hS hl.1 (dk DL_12 43 rfl).1 rfl (tg_4 104 rfl rfl) (tg_4 105 rfl rfl) (tg_4 106 rfl rfl) (tg_1 1 rfl rfl) kX11_act pmX11_act (by decide) rfl (fun _ => rfl) (zx_act gX_ok F.2.1 F.1) (Nat.le_of_ble_eq_true rfl) (by omega) (by omega) (Nat.le_of_ble_eq_true rfl) (fun x1 I1 h1 H1 locs1 hq1 hW1 hP1 hS => ?_)
  obtain ⟨rfl, hY1, hn1⟩ := hq1
  refine lv_pop hx hb (dk DL_12 44 rfl).1 rfl ?_
  refine lv_aload_n hx hb (dk DL_12 45 rfl).1 rfl (lv_at hl 2 rfl) ?_
  refine larg (k0 := 1) C0 hl rfl rfl hS (dk DL_12 46 rfl).1 (dk DL_12 47 rfl).1 (dk DL_12 48 rfl).1 (dk DL_12 49 rfl).1 (dk DL_13 0 rfl).1 rfl (by omega) hL31 ?_
  refine larg (k0 := 2) C0 hl rfl rfl hS (dk DL_13 1 rfl).1 (dk DL_13 2 rfl).1 (dk DL_13 3 rfl).1 (dk DL_13 4 rfl).1 (dk DL_13 5 rfl).1 rfl (by omega) hL31 ?_
  refine larg (k0 := 3) C0 hl rfl rfl hS (dk DL_13 6 rfl).1 (dk DL_13 7 rfl).1 (dk DL_13 8 rfl).1 (dk DL_13 9 rfl).1 (dk DL_13 10 rfl).1 rfl (by omega) hL31 ?_
  refine kmI (av := [.int (xs (i + 1)), .int (xs (i + 2)), .int (xs (i + 3))]) C0 hKs hb0 hW1 (by omega) F.2.2.1.2.1 hP1 hS hl.1 (dk DL_13 11 rfl).1 rfl (tg_7 30 rfl rfl) (tg_7 31 rfl rfl) (tg_7 32 rfl rfl) (tg_1 7 rfl rfl) kX12_act pmX12_act (by decide) rfl (fun _ => rfl) (fun G hG => c_X12_act hG F.2.2.1.2.1 F.2.1 F.2.2.1.1 F.2.2.1.2.2) (Nat.le_of_ble_eq_true rfl) (by omega) (by omega) (Nat.le_of_ble_eq_true rfl) (fun x2 I2 h2 H2 locs2 hq2 hW2 hP2 hS => ?_)
  obtain ⟨rfl, hR2⟩ := hq2
  refine lv_pop hx hb (dk DL_13 12 rfl).1 rfl ?_
  refine lv_goto (tgt := 1307) hx hb (dk DL_13 13 rfl).1 (by decide) ?_
  exact W.widen (by omega) (by omega) (hend _ _ _ _ _ _ _ _ ⟨hY1, F.2.1.act, hR2, hW2, hP2⟩ (by omega) hS)
set_option maxHeartbeats 4000000 in
set_option maxRecDepth 20000 in
theorem lc_28 {p : Program} {l : Launch} {e : Env} {s : State} {m : MethodId} {below : List Frame} {meth : Method} {c : Code} {b L i k n : Nat} {xs : Nat → Int32} {H : Heap} {locs : List Loc} {ls : Array Slot} {D : va_G} {ci : Nat → ClassId} {b0 : Nat} {E : It} {Li : Nat → Int64} {Ix : It} {hxx : Ht} {Im : It} {hmm : Ht} (C0 : lw_At p s m meth c b L xs) (hKs : ∀ G, gD G = D → gc G = ci → Ks G s) (hb0 : b0 = s.heap.size) (F : LI D ci b0 E Li Ix hxx Im hmm H) (h900 : hn hxx ≤ 900) (hk : k + 1 ≤ 600000) (hnn : n + 6 ≤ 7302250) (hl : lv_has ls 4 (lvs b b0 i)) (hS : va_S (fun q => s.heap.size ≤ q) s.heap H locs) (h7 : i + 7 ≤ L) (hL31 : L < 2 ^ 31)
    (hend : ∀ (E' : It) (L' : Nat → Int64) (Ix' : It) (hx' : Ht) (Im' : It) (hm' : Ht) (H' : Heap) (locs' : List Loc), LI D ci b0 E' L' Ix' hx' Im' hm' H' → hn hx' ≤ hn hxx + 1 → va_S (fun q => s.heap.size ≤ q) s.heap H' locs' → W p l e room_1 s m #[Value.ref b] below meth c H' locs' (k + 1) (n + 6) (lw_Z below #[Value.ref b] s) (F0 m 1307 ls [])) : W p l e room_1 s m #[Value.ref b] below meth c H locs k n (lw_Z below #[Value.ref b] s) (F0 m 1016 ls []) := by
  obtain ⟨hx, hb, -, hml, hown, hts0, -, -, -, -⟩ := id C0
  refine lv_aload_n hx hb (dk DL_13 14 rfl).1 rfl (lv_at hl 1 rfl) ?_
  refine larg (k0 := 1) C0 hl rfl rfl hS (dk DL_13 15 rfl).1 (dk DL_13 16 rfl).1 (dk DL_13 17 rfl).1 (dk DL_13 18 rfl).1 (dk DL_13 19 rfl).1 rfl (by omega) hL31 ?_
  refine kxI (av := [.int (xs (i + 1))]) C0 hKs hb0 F.2.2.2.1 F.1.1.1 F.2.2.1.2.1.1 F.2.2.2.2 hS hl.1 (dk DL_13 20 rfl).1 rfl (tg_4 187 rfl rfl) (tg_4 188 rfl rfl) (tg_4 189 rfl rfl) (tg_1 1 rfl rfl) kX11_trace pmX11_trace (by decide) rfl (fun _ => rfl) (zx_trace gX_ok F.2.1 F.1) (Nat.le_of_ble_eq_true rfl) (by omega) (by omega) (Nat.le_of_ble_eq_true rfl) (fun x1 I1 h1 H1 locs1 hq1 hW1 hP1 hS => ?_)
  obtain ⟨rfl, hY1, hn1⟩ := hq1
  refine lv_pop hx hb (dk DL_13 21 rfl).1 rfl ?_
  refine lv_aload_n hx hb (dk DL_13 22 rfl).1 rfl (lv_at hl 2 rfl) ?_
  refine larg (k0 := 1) C0 hl rfl rfl hS (dk DL_13 23 rfl).1 (dk DL_13 24 rfl).1 (dk DL_13 25 rfl).1 (dk DL_13 26 rfl).1 (dk DL_13 27 rfl).1 rfl (by omega) hL31 ?_
  refine kmI (av := [.int (xs (i + 1))]) C0 hKs hb0 hW1 (by omega) F.2.2.1.2.1 hP1 hS hl.1 (dk DL_13 28 rfl).1 rfl (tg_7 66 rfl rfl) (tg_7 67 rfl rfl) (tg_7 68 rfl rfl) (tg_1 7 rfl rfl) kX12_trace pmX12_trace (by decide) rfl (fun _ => rfl) (fun G hG => c_X12_trace hG F.2.2.1.2.1 F.2.1 F.2.2.1.1 F.2.2.1.2.2) (Nat.le_of_ble_eq_true rfl) (by omega) (by omega) (Nat.le_of_ble_eq_true rfl) (fun x2 I2 h2 H2 locs2 hq2 hW2 hP2 hS => ?_)
  obtain ⟨rfl, hR2⟩ := hq2
  refine lv_pop hx hb (dk DL_13 29 rfl).1 rfl ?_
  refine lv_goto (tgt := 1307) hx hb (dk DL_13 30 rfl).1 (by decide) ?_
  exact W.widen (by omega) (by omega) (hend _ _ _ _ _ _ _ _ ⟨hY1, (by rw [trace_2]; exact F.2.1), hR2, hW2, hP2⟩ (by omega) hS)
set_option maxHeartbeats 4000000 in
set_option maxRecDepth 20000 in
theorem lc_29 {p : Program} {l : Launch} {e : Env} {s : State} {m : MethodId} {below : List Frame} {meth : Method} {c : Code} {b L i k n : Nat} {xs : Nat → Int32} {H : Heap} {locs : List Loc} {ls : Array Slot} {D : va_G} {ci : Nat → ClassId} {b0 : Nat} {E : It} {Li : Nat → Int64} {Ix : It} {hxx : Ht} {Im : It} {hmm : Ht} (C0 : lw_At p s m meth c b L xs) (hKs : ∀ G, gD G = D → gc G = ci → Ks G s) (hb0 : b0 = s.heap.size) (F : LI D ci b0 E Li Ix hxx Im hmm H) (h900 : hn hxx ≤ 900) (hk : k + 1 ≤ 600000) (hnn : n + 6 ≤ 7302250) (hl : lv_has ls 4 (lvs b b0 i)) (hS : va_S (fun q => s.heap.size ≤ q) s.heap H locs) (h7 : i + 7 ≤ L) (hL31 : L < 2 ^ 31)
    (hend : ∀ (E' : It) (L' : Nat → Int64) (Ix' : It) (hx' : Ht) (Im' : It) (hm' : Ht) (H' : Heap) (locs' : List Loc), LI D ci b0 E' L' Ix' hx' Im' hm' H' → hn hx' ≤ hn hxx + 1 → va_S (fun q => s.heap.size ≤ q) s.heap H' locs' → W p l e room_1 s m #[Value.ref b] below meth c H' locs' (k + 1) (n + 6) (lw_Z below #[Value.ref b] s) (F0 m 1307 ls [])) : W p l e room_1 s m #[Value.ref b] below meth c H locs k n (lw_Z below #[Value.ref b] s) (F0 m 1039 ls []) := by
  obtain ⟨hx, hb, -, hml, hown, hts0, -, -, -, -⟩ := id C0
  refine lv_aload_n hx hb (dk DL_13 31 rfl).1 rfl (lv_at hl 1 rfl) ?_
  refine larg (k0 := 1) C0 hl rfl rfl hS (dk DL_13 32 rfl).1 (dk DL_13 33 rfl).1 (dk DL_13 34 rfl).1 (dk DL_13 35 rfl).1 (dk DL_13 36 rfl).1 rfl (by omega) hL31 ?_
  refine larg (k0 := 2) C0 hl rfl rfl hS (dk DL_13 37 rfl).1 (dk DL_13 38 rfl).1 (dk DL_13 39 rfl).1 (dk DL_13 40 rfl).1 (dk DL_13 41 rfl).1 rfl (by omega) hL31 ?_
  refine kxI (av := [.int (xs (i + 1)), .int (xs (i + 2))]) C0 hKs hb0 F.2.2.2.1 F.1.1.1 F.2.2.1.2.1.1 F.2.2.2.2 hS hl.1 (dk DL_13 42 rfl).1 rfl (tg_4 191 rfl rfl) (tg_4 192 rfl rfl) (tg_4 193 rfl rfl) (tg_1 1 rfl rfl) kX11_taken pmX11_taken (by decide) rfl (fun _ => rfl) (zx_taken gX_ok F.2.1 F.1) (Nat.le_of_ble_eq_true rfl) (by omega) (by omega) (Nat.le_of_ble_eq_true rfl) (fun x1 I1 h1 H1 locs1 hq1 hW1 hP1 hS => ?_)
  obtain ⟨rfl, hY1, hn1⟩ := hq1
  refine lv_pop hx hb (dk DL_13 43 rfl).1 rfl ?_
  refine lv_aload_n hx hb (dk DL_13 44 rfl).1 rfl (lv_at hl 2 rfl) ?_
  refine larg (k0 := 1) C0 hl rfl rfl hS (dk DL_13 45 rfl).1 (dk DL_13 46 rfl).1 (dk DL_13 47 rfl).1 (dk DL_13 48 rfl).1 (dk DL_13 49 rfl).1 rfl (by omega) hL31 ?_
  refine larg (k0 := 2) C0 hl rfl rfl hS (dk DL_14 0 rfl).1 (dk DL_14 1 rfl).1 (dk DL_14 2 rfl).1 (dk DL_14 3 rfl).1 (dk DL_14 4 rfl).1 rfl (by omega) hL31 ?_
  refine kmI (av := [.int (xs (i + 1)), .int (xs (i + 2))]) C0 hKs hb0 hW1 (by omega) F.2.2.1.2.1 hP1 hS hl.1 (dk DL_14 5 rfl).1 rfl (tg_7 70 rfl rfl) (tg_7 71 rfl rfl) (tg_7 72 rfl rfl) (tg_1 7 rfl rfl) kX12_taken pmX12_taken (by decide) rfl (fun _ => rfl) (fun G hG => c_X12_taken hG F.2.2.1.2.1 F.2.1 F.2.2.1.1 F.2.2.1.2.2) (Nat.le_of_ble_eq_true rfl) (by omega) (by omega) (Nat.le_of_ble_eq_true rfl) (fun x2 I2 h2 H2 locs2 hq2 hW2 hP2 hS => ?_)
  obtain ⟨rfl, hR2⟩ := hq2
  refine lv_pop hx hb (dk DL_14 6 rfl).1 rfl ?_
  refine lv_goto (tgt := 1307) hx hb (dk DL_14 7 rfl).1 (by decide) ?_
  exact W.widen (by omega) (by omega) (hend _ _ _ _ _ _ _ _ ⟨hY1, (by rw [taken_2]; exact F.2.1), hR2, hW2, hP2⟩ (by omega) hS)
set_option maxHeartbeats 4000000 in
set_option maxRecDepth 20000 in
theorem lc_30 {p : Program} {l : Launch} {e : Env} {s : State} {m : MethodId} {below : List Frame} {meth : Method} {c : Code} {b L i k n : Nat} {xs : Nat → Int32} {H : Heap} {locs : List Loc} {ls : Array Slot} {D : va_G} {ci : Nat → ClassId} {b0 : Nat} {E : It} {Li : Nat → Int64} {Ix : It} {hxx : Ht} {Im : It} {hmm : Ht} (C0 : lw_At p s m meth c b L xs) (hKs : ∀ G, gD G = D → gc G = ci → Ks G s) (hb0 : b0 = s.heap.size) (F : LI D ci b0 E Li Ix hxx Im hmm H) (h900 : hn hxx ≤ 900) (hk : k + 1 ≤ 600000) (hnn : n + 6 ≤ 7302250) (hl : lv_has ls 4 (lvs b b0 i)) (hS : va_S (fun q => s.heap.size ≤ q) s.heap H locs) (h7 : i + 7 ≤ L) (hL31 : L < 2 ^ 31)
    (hend : ∀ (E' : It) (L' : Nat → Int64) (Ix' : It) (hx' : Ht) (Im' : It) (hm' : Ht) (H' : Heap) (locs' : List Loc), LI D ci b0 E' L' Ix' hx' Im' hm' H' → hn hx' ≤ hn hxx + 1 → va_S (fun q => s.heap.size ≤ q) s.heap H' locs' → W p l e room_1 s m #[Value.ref b] below meth c H' locs' (k + 1) (n + 6) (lw_Z below #[Value.ref b] s) (F0 m 1307 ls [])) : W p l e room_1 s m #[Value.ref b] below meth c H locs k n (lw_Z below #[Value.ref b] s) (F0 m 1072 ls []) := by
  obtain ⟨hx, hb, -, hml, hown, hts0, -, -, -, -⟩ := id C0
  refine lv_aload_n hx hb (dk DL_14 8 rfl).1 rfl (lv_at hl 1 rfl) ?_
  refine larg (k0 := 1) C0 hl rfl rfl hS (dk DL_14 9 rfl).1 (dk DL_14 10 rfl).1 (dk DL_14 11 rfl).1 (dk DL_14 12 rfl).1 (dk DL_14 13 rfl).1 rfl (by omega) hL31 ?_
  refine kxI (av := [.int (xs (i + 1))]) C0 hKs hb0 F.2.2.2.1 F.1.1.1 F.2.2.1.2.1.1 F.2.2.2.2 hS hl.1 (dk DL_14 14 rfl).1 rfl (tg_4 198 rfl rfl) (tg_4 199 rfl rfl) (tg_4 200 rfl rfl) (tg_1 1 rfl rfl) kX11_count pmX11_count (by decide) rfl (fun _ => rfl) (zx_count gX_ok F.2.1 F.1) (Nat.le_of_ble_eq_true rfl) (by omega) (by omega) (Nat.le_of_ble_eq_true rfl) (fun x1 I1 h1 H1 locs1 hq1 hW1 hP1 hS => ?_)
  obtain ⟨rfl, hY1, hn1⟩ := hq1
  refine lv_pop hx hb (dk DL_14 15 rfl).1 rfl ?_
  refine lv_aload_n hx hb (dk DL_14 16 rfl).1 rfl (lv_at hl 2 rfl) ?_
  refine larg (k0 := 1) C0 hl rfl rfl hS (dk DL_14 17 rfl).1 (dk DL_14 18 rfl).1 (dk DL_14 19 rfl).1 (dk DL_14 20 rfl).1 (dk DL_14 21 rfl).1 rfl (by omega) hL31 ?_
  refine kmI (av := [.int (xs (i + 1))]) C0 hKs hb0 hW1 (by omega) F.2.2.1.2.1 hP1 hS hl.1 (dk DL_14 22 rfl).1 rfl (tg_7 74 rfl rfl) (tg_7 75 rfl rfl) (tg_7 76 rfl rfl) (tg_1 7 rfl rfl) kX12_count pmX12_count (by decide) rfl (fun _ => rfl) (fun G hG => c_X12_count hG F.2.2.1.2.1 F.2.1 F.2.2.1.1 F.2.2.1.2.2) (Nat.le_of_ble_eq_true rfl) (by omega) (by omega) (Nat.le_of_ble_eq_true rfl) (fun x2 I2 h2 H2 locs2 hq2 hW2 hP2 hS => ?_)
  obtain ⟨rfl, hR2⟩ := hq2
  refine lv_pop hx hb (dk DL_14 23 rfl).1 rfl ?_
  refine lv_goto (tgt := 1307) hx hb (dk DL_14 24 rfl).1 (by decide) ?_
  exact W.widen (by omega) (by omega) (hend _ _ _ _ _ _ _ _ ⟨hY1, (by rw [count_2]; exact F.2.1), hR2, hW2, hP2⟩ (by omega) hS)
set_option maxHeartbeats 4000000 in
set_option maxRecDepth 20000 in
theorem lc_31 {p : Program} {l : Launch} {e : Env} {s : State} {m : MethodId} {below : List Frame} {meth : Method} {c : Code} {b L i k n : Nat} {xs : Nat → Int32} {H : Heap} {locs : List Loc} {ls : Array Slot} {D : va_G} {ci : Nat → ClassId} {b0 : Nat} {E : It} {Li : Nat → Int64} {Ix : It} {hxx : Ht} {Im : It} {hmm : Ht} (C0 : lw_At p s m meth c b L xs) (hKs : ∀ G, gD G = D → gc G = ci → Ks G s) (hb0 : b0 = s.heap.size) (F : LI D ci b0 E Li Ix hxx Im hmm H) (h900 : hn hxx ≤ 900) (hk : k + 1 ≤ 600000) (hnn : n + 6 ≤ 7302250) (hl : lv_has ls 4 (lvs b b0 i)) (hS : va_S (fun q => s.heap.size ≤ q) s.heap H locs) (h7 : i + 7 ≤ L) (hL31 : L < 2 ^ 31)
    (hend : ∀ (E' : It) (L' : Nat → Int64) (Ix' : It) (hx' : Ht) (Im' : It) (hm' : Ht) (H' : Heap) (locs' : List Loc), LI D ci b0 E' L' Ix' hx' Im' hm' H' → hn hx' ≤ hn hxx + 1 → va_S (fun q => s.heap.size ≤ q) s.heap H' locs' → W p l e room_1 s m #[Value.ref b] below meth c H' locs' (k + 1) (n + 6) (lw_Z below #[Value.ref b] s) (F0 m 1307 ls [])) : W p l e room_1 s m #[Value.ref b] below meth c H locs k n (lw_Z below #[Value.ref b] s) (F0 m 1095 ls []) := by
  obtain ⟨hx, hb, -, hml, hown, hts0, -, -, -, -⟩ := id C0
  refine lv_aload_n hx hb (dk DL_14 25 rfl).1 rfl (lv_at hl 1 rfl) ?_
  refine larg (k0 := 1) C0 hl rfl rfl hS (dk DL_14 26 rfl).1 (dk DL_14 27 rfl).1 (dk DL_14 28 rfl).1 (dk DL_14 29 rfl).1 (dk DL_14 30 rfl).1 rfl (by omega) hL31 ?_
  refine larg (k0 := 2) C0 hl rfl rfl hS (dk DL_14 31 rfl).1 (dk DL_14 32 rfl).1 (dk DL_14 33 rfl).1 (dk DL_14 34 rfl).1 (dk DL_14 35 rfl).1 rfl (by omega) hL31 ?_
  refine larg (k0 := 3) C0 hl rfl rfl hS (dk DL_14 36 rfl).1 (dk DL_14 37 rfl).1 (dk DL_14 38 rfl).1 (dk DL_14 39 rfl).1 (dk DL_14 40 rfl).1 rfl (by omega) hL31 ?_
  refine kxI (av := [.int (xs (i + 1)), .int (xs (i + 2)), .int (xs (i + 3))]) C0 hKs hb0 F.2.2.2.1 F.1.1.1 F.2.2.1.2.1.1 F.2.2.2.2 hS hl.1 (dk DL_14 41 rfl).1 rfl (tg_4 202 rfl rfl) (tg_4 203 rfl rfl) (tg_4 204 rfl rfl) (tg_1 1 rfl rfl) kX11_tape pmX11_tape (by decide) rfl (fun _ => rfl) (zx_tape gX_ok F.2.1 F.1) (Nat.le_of_ble_eq_true rfl) (by omega) (by omega) (Nat.le_of_ble_eq_true rfl) (fun x1 I1 h1 H1 locs1 hq1 hW1 hP1 hS => ?_)
  obtain ⟨rfl, hY1, hn1⟩ := hq1
  refine lv_pop hx hb (dk DL_14 42 rfl).1 rfl ?_
  refine lv_aload_n hx hb (dk DL_14 43 rfl).1 rfl (lv_at hl 2 rfl) ?_
  refine larg (k0 := 1) C0 hl rfl rfl hS (dk DL_14 44 rfl).1 (dk DL_14 45 rfl).1 (dk DL_14 46 rfl).1 (dk DL_14 47 rfl).1 (dk DL_14 48 rfl).1 rfl (by omega) hL31 ?_
  refine larg (k0 := 2) C0 hl rfl rfl hS (dk DL_14 49 rfl).1 (dk DL_15 0 rfl).1 (dk DL_15 1 rfl).1 (dk DL_15 2 rfl).1 (dk DL_15 3 rfl).1 rfl (by omega) hL31 ?_
  refine larg (k0 := 3) C0 hl rfl rfl hS (dk DL_15 4 rfl).1 (dk DL_15 5 rfl).1 (dk DL_15 6 rfl).1 (dk DL_15 7 rfl).1 (dk DL_15 8 rfl).1 rfl (by omega) hL31 ?_
  refine kmI (av := [.int (xs (i + 1)), .int (xs (i + 2)), .int (xs (i + 3))]) C0 hKs hb0 hW1 (by omega) F.2.2.1.2.1 hP1 hS hl.1 (dk DL_15 9 rfl).1 rfl (tg_7 78 rfl rfl) (tg_7 79 rfl rfl) (tg_7 80 rfl rfl) (tg_1 7 rfl rfl) kX12_tape pmX12_tape (by decide) rfl (fun _ => rfl) (fun G hG => c_X12_tape hG F.2.2.1.2.1 F.2.1 F.2.2.1.1 F.2.2.1.2.2) (Nat.le_of_ble_eq_true rfl) (by omega) (by omega) (Nat.le_of_ble_eq_true rfl) (fun x2 I2 h2 H2 locs2 hq2 hW2 hP2 hS => ?_)
  obtain ⟨rfl, hR2⟩ := hq2
  refine lv_pop hx hb (dk DL_15 10 rfl).1 rfl ?_
  refine lv_goto (tgt := 1307) hx hb (dk DL_15 11 rfl).1 (by decide) ?_
  exact W.widen (by omega) (by omega) (hend _ _ _ _ _ _ _ _ ⟨hY1, F.2.1.tape, hR2, hW2, hP2⟩ (by omega) hS)
set_option maxHeartbeats 4000000 in
set_option maxRecDepth 20000 in
theorem lc_32 {p : Program} {l : Launch} {e : Env} {s : State} {m : MethodId} {below : List Frame} {meth : Method} {c : Code} {b L i k n : Nat} {xs : Nat → Int32} {H : Heap} {locs : List Loc} {ls : Array Slot} {D : va_G} {ci : Nat → ClassId} {b0 : Nat} {E : It} {Li : Nat → Int64} {Ix : It} {hxx : Ht} {Im : It} {hmm : Ht} (C0 : lw_At p s m meth c b L xs) (hKs : ∀ G, gD G = D → gc G = ci → Ks G s) (hb0 : b0 = s.heap.size) (F : LI D ci b0 E Li Ix hxx Im hmm H) (h900 : hn hxx ≤ 900) (hk : k + 1 ≤ 600000) (hnn : n + 6 ≤ 7302250) (hl : lv_has ls 4 (lvs b b0 i)) (hS : va_S (fun q => s.heap.size ≤ q) s.heap H locs) (h7 : i + 7 ≤ L) (hL31 : L < 2 ^ 31)
    (hend : ∀ (E' : It) (L' : Nat → Int64) (Ix' : It) (hx' : Ht) (Im' : It) (hm' : Ht) (H' : Heap) (locs' : List Loc), LI D ci b0 E' L' Ix' hx' Im' hm' H' → hn hx' ≤ hn hxx + 1 → va_S (fun q => s.heap.size ≤ q) s.heap H' locs' → W p l e room_1 s m #[Value.ref b] below meth c H' locs' (k + 1) (n + 6) (lw_Z below #[Value.ref b] s) (F0 m 1307 ls [])) : W p l e room_1 s m #[Value.ref b] below meth c H locs k n (lw_Z below #[Value.ref b] s) (F0 m 1138 ls []) := by
  obtain ⟨hx, hb, -, hml, hown, hts0, -, -, -, -⟩ := id C0
  refine lv_aload_n hx hb (dk DL_15 12 rfl).1 rfl (lv_at hl 1 rfl) ?_
  refine larg (k0 := 1) C0 hl rfl rfl hS (dk DL_15 13 rfl).1 (dk DL_15 14 rfl).1 (dk DL_15 15 rfl).1 (dk DL_15 16 rfl).1 (dk DL_15 17 rfl).1 rfl (by omega) hL31 ?_
  refine larg (k0 := 2) C0 hl rfl rfl hS (dk DL_15 18 rfl).1 (dk DL_15 19 rfl).1 (dk DL_15 20 rfl).1 (dk DL_15 21 rfl).1 (dk DL_15 22 rfl).1 rfl (by omega) hL31 ?_
  refine larg (k0 := 3) C0 hl rfl rfl hS (dk DL_15 23 rfl).1 (dk DL_15 24 rfl).1 (dk DL_15 25 rfl).1 (dk DL_15 26 rfl).1 (dk DL_15 27 rfl).1 rfl (by omega) hL31 ?_
  refine lv_i2l hx hb (dk DL_15 28 rfl).1 rfl ?_
  refine lv_bipush (v := 32) hx hb (dk DL_15 29 rfl).1 (by decide) ?_
  refine lv_lshl hx hb (dk DL_15 30 rfl).1 rfl ?_
  refine larg (k0 := 4) C0 hl rfl rfl hS (dk DL_15 31 rfl).1 (dk DL_15 32 rfl).1 (dk DL_15 33 rfl).1 (dk DL_15 34 rfl).1 (dk DL_15 35 rfl).1 rfl (by omega) hL31 ?_
  refine lv_i2l hx hb (dk DL_15 36 rfl).1 rfl ?_
  refine lv_ldc2 (v := 4294967295) hx hb hown (hts0 _ (tb_7 98 rfl)) (dk DL_15 37 rfl).1 ?_
  refine lv_land hx hb (dk DL_15 38 rfl).1 ?_
  refine lv_lor hx hb (dk DL_15 39 rfl).1 ?_
  refine kxI (av := [.int (xs (i + 1)), .int (xs (i + 2)), .long ((((xs (i + 3))).toInt64 <<< ((32 : Int32).toInt64 &&& 63)) ||| (((xs (i + 4))).toInt64 &&& 4294967295))]) C0 hKs hb0 F.2.2.2.1 F.1.1.1 F.2.2.1.2.1.1 F.2.2.2.2 hS hl.1 (dk DL_15 40 rfl).1 rfl (tg_4 209 rfl rfl) (tg_4 210 rfl rfl) (tg_4 211 rfl rfl) (tg_1 1 rfl rfl) kX11_item pmX11_item (by decide) rfl (fun _ => rfl) (zx_item gX_ok F.2.1 F.1) (Nat.le_of_ble_eq_true rfl) (by omega) (by omega) (Nat.le_of_ble_eq_true rfl) (fun x1 I1 h1 H1 locs1 hq1 hW1 hP1 hS => ?_)
  obtain ⟨rfl, hY1, hn1⟩ := hq1
  refine lv_pop hx hb (dk DL_15 41 rfl).1 rfl ?_
  refine lv_aload_n hx hb (dk DL_15 42 rfl).1 rfl (lv_at hl 2 rfl) ?_
  refine larg (k0 := 1) C0 hl rfl rfl hS (dk DL_15 43 rfl).1 (dk DL_15 44 rfl).1 (dk DL_15 45 rfl).1 (dk DL_15 46 rfl).1 (dk DL_15 47 rfl).1 rfl (by omega) hL31 ?_
  refine larg (k0 := 2) C0 hl rfl rfl hS (dk DL_15 48 rfl).1 (dk DL_15 49 rfl).1 (dk DL_16 0 rfl).1 (dk DL_16 1 rfl).1 (dk DL_16 2 rfl).1 rfl (by omega) hL31 ?_
  refine larg (k0 := 3) C0 hl rfl rfl hS (dk DL_16 3 rfl).1 (dk DL_16 4 rfl).1 (dk DL_16 5 rfl).1 (dk DL_16 6 rfl).1 (dk DL_16 7 rfl).1 rfl (by omega) hL31 ?_
  refine lv_i2l hx hb (dk DL_16 8 rfl).1 rfl ?_
  refine lv_bipush (v := 32) hx hb (dk DL_16 9 rfl).1 (by decide) ?_
  refine lv_lshl hx hb (dk DL_16 10 rfl).1 rfl ?_
  refine larg (k0 := 4) C0 hl rfl rfl hS (dk DL_16 11 rfl).1 (dk DL_16 12 rfl).1 (dk DL_16 13 rfl).1 (dk DL_16 14 rfl).1 (dk DL_16 15 rfl).1 rfl (by omega) hL31 ?_
  refine lv_i2l hx hb (dk DL_16 16 rfl).1 rfl ?_
  refine lv_ldc2 (v := 4294967295) hx hb hown (hts0 _ (tb_7 98 rfl)) (dk DL_16 17 rfl).1 ?_
  refine lv_land hx hb (dk DL_16 18 rfl).1 ?_
  refine lv_lor hx hb (dk DL_16 19 rfl).1 ?_
  refine kmI (av := [.int (xs (i + 1)), .int (xs (i + 2)), .long ((((xs (i + 3))).toInt64 <<< ((32 : Int32).toInt64 &&& 63)) ||| (((xs (i + 4))).toInt64 &&& 4294967295))]) C0 hKs hb0 hW1 (by omega) F.2.2.1.2.1 hP1 hS hl.1 (dk DL_16 20 rfl).1 rfl (tg_7 82 rfl rfl) (tg_7 83 rfl rfl) (tg_7 84 rfl rfl) (tg_1 7 rfl rfl) kX12_item pmX12_item (by decide) rfl (fun _ => rfl) (fun G hG => c_X12_item hG F.2.2.1.2.1 F.2.1 F.2.2.1.1 F.2.2.1.2.2) (Nat.le_of_ble_eq_true rfl) (by omega) (by omega) (Nat.le_of_ble_eq_true rfl) (fun x2 I2 h2 H2 locs2 hq2 hW2 hP2 hS => ?_)
  obtain ⟨rfl, hR2⟩ := hq2
  refine lv_pop hx hb (dk DL_16 21 rfl).1 rfl ?_
  refine lv_goto (tgt := 1307) hx hb (dk DL_16 22 rfl).1 (by decide) ?_
  exact W.widen (by omega) (by omega) (hend _ _ _ _ _ _ _ _ ⟨hY1, F.2.1, hR2, hW2, hP2⟩ (by omega) hS)
set_option maxHeartbeats 4000000 in
set_option maxRecDepth 20000 in
theorem lc_33 {p : Program} {l : Launch} {e : Env} {s : State} {m : MethodId} {below : List Frame} {meth : Method} {c : Code} {b L i k n : Nat} {xs : Nat → Int32} {H : Heap} {locs : List Loc} {ls : Array Slot} {D : va_G} {ci : Nat → ClassId} {b0 : Nat} {E : It} {Li : Nat → Int64} {Ix : It} {hxx : Ht} {Im : It} {hmm : Ht} (C0 : lw_At p s m meth c b L xs) (hKs : ∀ G, gD G = D → gc G = ci → Ks G s) (hb0 : b0 = s.heap.size) (F : LI D ci b0 E Li Ix hxx Im hmm H) (h900 : hn hxx ≤ 900) (hk : k + 1 ≤ 600000) (hnn : n + 6 ≤ 7302250) (hl : lv_has ls 4 (lvs b b0 i)) (hS : va_S (fun q => s.heap.size ≤ q) s.heap H locs) (h7 : i + 7 ≤ L) (hL31 : L < 2 ^ 31)
    (hend : ∀ (E' : It) (L' : Nat → Int64) (Ix' : It) (hx' : Ht) (Im' : It) (hm' : Ht) (H' : Heap) (locs' : List Loc), LI D ci b0 E' L' Ix' hx' Im' hm' H' → hn hx' ≤ hn hxx + 1 → va_S (fun q => s.heap.size ≤ q) s.heap H' locs' → W p l e room_1 s m #[Value.ref b] below meth c H' locs' (k + 1) (n + 6) (lw_Z below #[Value.ref b] s) (F0 m 1307 ls [])) : W p l e room_1 s m #[Value.ref b] below meth c H locs k n (lw_Z below #[Value.ref b] s) (F0 m 1211 ls []) := by
  obtain ⟨hx, hb, -, hml, hown, hts0, -, -, -, -⟩ := id C0
  refine lv_aload_n hx hb (dk DL_16 23 rfl).1 rfl (lv_at hl 1 rfl) ?_
  refine larg (k0 := 1) C0 hl rfl rfl hS (dk DL_16 24 rfl).1 (dk DL_16 25 rfl).1 (dk DL_16 26 rfl).1 (dk DL_16 27 rfl).1 (dk DL_16 28 rfl).1 rfl (by omega) hL31 ?_
  refine larg (k0 := 2) C0 hl rfl rfl hS (dk DL_16 29 rfl).1 (dk DL_16 30 rfl).1 (dk DL_16 31 rfl).1 (dk DL_16 32 rfl).1 (dk DL_16 33 rfl).1 rfl (by omega) hL31 ?_
  refine kxL (av := [.int (xs (i + 1)), .int (xs (i + 2))]) C0 hKs hb0 F.2.2.2.1 F.1.1.1 F.2.2.1.2.1.1 F.2.2.2.2 hS hl.1 (dk DL_16 34 rfl).1 rfl (tg_4 216 rfl rfl) (tg_4 217 rfl rfl) (tg_4 218 rfl rfl) (tg_1 1 rfl rfl) kX11_read pmX11_read (by decide) rfl (fun _ => rfl) (zx_read gX_ok F.2.1 F.1) (Nat.le_of_ble_eq_true rfl) (by omega) (by omega) (Nat.le_of_ble_eq_true rfl) (fun x1 I1 h1 H1 locs1 hq1 hW1 hP1 hS => ?_)
  obtain ⟨rfl, hY1, hn1⟩ := hq1
  refine lv_pop2_2 hx hb (dk DL_16 35 rfl).1 rfl ?_
  refine lv_aload_n hx hb (dk DL_16 36 rfl).1 rfl (lv_at hl 2 rfl) ?_
  refine larg (k0 := 1) C0 hl rfl rfl hS (dk DL_16 37 rfl).1 (dk DL_16 38 rfl).1 (dk DL_16 39 rfl).1 (dk DL_16 40 rfl).1 (dk DL_16 41 rfl).1 rfl (by omega) hL31 ?_
  refine larg (k0 := 2) C0 hl rfl rfl hS (dk DL_16 42 rfl).1 (dk DL_16 43 rfl).1 (dk DL_16 44 rfl).1 (dk DL_16 45 rfl).1 (dk DL_16 46 rfl).1 rfl (by omega) hL31 ?_
  refine kmL (av := [.int (xs (i + 1)), .int (xs (i + 2))]) C0 hKs hb0 hW1 (by omega) F.2.2.1.2.1 hP1 hS hl.1 (dk DL_16 47 rfl).1 rfl (tg_7 90 rfl rfl) (tg_7 91 rfl rfl) (tg_7 92 rfl rfl) (tg_1 7 rfl rfl) kX12_read pmX12_read (by decide) rfl (fun _ => rfl) (fun G hG => c_X12_read hG F.2.2.1.2.1 F.2.1 F.2.2.1.1 F.2.2.1.2.2) (Nat.le_of_ble_eq_true rfl) (by omega) (by omega) (Nat.le_of_ble_eq_true rfl) (fun x2 I2 h2 H2 locs2 hq2 hW2 hP2 hS => ?_)
  obtain ⟨rfl, hR2⟩ := hq2
  refine lv_pop2_2 hx hb (dk DL_16 48 rfl).1 rfl ?_
  refine lv_goto (tgt := 1307) hx hb (dk DL_16 49 rfl).1 (by decide) ?_
  exact W.widen (by omega) (by omega) (hend _ _ _ _ _ _ _ _ ⟨hY1, F.2.1, hR2, hW2, hP2⟩ (by omega) hS)
set_option maxHeartbeats 4000000 in
set_option maxRecDepth 20000 in
theorem lc_34 {p : Program} {l : Launch} {e : Env} {s : State} {m : MethodId} {below : List Frame} {meth : Method} {c : Code} {b L i k n : Nat} {xs : Nat → Int32} {H : Heap} {locs : List Loc} {ls : Array Slot} {D : va_G} {ci : Nat → ClassId} {b0 : Nat} {E : It} {Li : Nat → Int64} {Ix : It} {hxx : Ht} {Im : It} {hmm : Ht} (C0 : lw_At p s m meth c b L xs) (hKs : ∀ G, gD G = D → gc G = ci → Ks G s) (hb0 : b0 = s.heap.size) (F : LI D ci b0 E Li Ix hxx Im hmm H) (h900 : hn hxx ≤ 900) (hk : k + 1 ≤ 600000) (hnn : n + 6 ≤ 7302250) (hl : lv_has ls 4 (lvs b b0 i)) (hS : va_S (fun q => s.heap.size ≤ q) s.heap H locs) (h7 : i + 7 ≤ L) (hL31 : L < 2 ^ 31)
    (hend : ∀ (E' : It) (L' : Nat → Int64) (Ix' : It) (hx' : Ht) (Im' : It) (hm' : Ht) (H' : Heap) (locs' : List Loc), LI D ci b0 E' L' Ix' hx' Im' hm' H' → hn hx' ≤ hn hxx + 1 → va_S (fun q => s.heap.size ≤ q) s.heap H' locs' → W p l e room_1 s m #[Value.ref b] below meth c H' locs' (k + 1) (n + 6) (lw_Z below #[Value.ref b] s) (F0 m 1307 ls [])) : W p l e room_1 s m #[Value.ref b] below meth c H locs k n (lw_Z below #[Value.ref b] s) (F0 m 1244 ls []) := by
  obtain ⟨hx, hb, -, hml, hown, hts0, -, -, -, -⟩ := id C0
  refine lv_aload_n hx hb (dk DL_17 0 rfl).1 rfl (lv_at hl 1 rfl) ?_
  refine larg (k0 := 1) C0 hl rfl rfl hS (dk DL_17 1 rfl).1 (dk DL_17 2 rfl).1 (dk DL_17 3 rfl).1 (dk DL_17 4 rfl).1 (dk DL_17 5 rfl).1 rfl (by omega) hL31 ?_
  refine larg (k0 := 2) C0 hl rfl rfl hS (dk DL_17 6 rfl).1 (dk DL_17 7 rfl).1 (dk DL_17 8 rfl).1 (dk DL_17 9 rfl).1 (dk DL_17 10 rfl).1 rfl (by omega) hL31 ?_
  refine larg (k0 := 3) C0 hl rfl rfl hS (dk DL_17 11 rfl).1 (dk DL_17 12 rfl).1 (dk DL_17 13 rfl).1 (dk DL_17 14 rfl).1 (dk DL_17 15 rfl).1 rfl (by omega) hL31 ?_
  refine larg (k0 := 4) C0 hl rfl rfl hS (dk DL_17 16 rfl).1 (dk DL_17 17 rfl).1 (dk DL_17 18 rfl).1 (dk DL_17 19 rfl).1 (dk DL_17 20 rfl).1 rfl (by omega) hL31 ?_
  refine larg (k0 := 5) C0 hl rfl rfl hS (dk DL_17 21 rfl).1 (dk DL_17 22 rfl).1 (dk DL_17 23 rfl).1 (dk DL_17 24 rfl).1 (dk DL_17 25 rfl).1 rfl (by omega) hL31 ?_
  refine kxI (av := [.int (xs (i + 1)), .int (xs (i + 2)), .int (xs (i + 3)), .int (xs (i + 4)), .int (xs (i + 5))]) C0 hKs hb0 F.2.2.2.1 F.1.1.1 F.2.2.1.2.1.1 F.2.2.2.2 hS hl.1 (dk DL_17 26 rfl).1 rfl (tg_4 220 rfl rfl) (tg_4 221 rfl rfl) (tg_4 222 rfl rfl) (tg_1 1 rfl rfl) kX11_shift pmX11_shift (by decide) rfl (fun _ => rfl) (zx_shift gX_ok F.2.1 F.1) (Nat.le_of_ble_eq_true rfl) (by omega) (by omega) (Nat.le_of_ble_eq_true rfl) (fun x1 I1 h1 H1 locs1 hq1 hW1 hP1 hS => ?_)
  obtain ⟨rfl, hY1, hn1⟩ := hq1
  refine lv_pop hx hb (dk DL_17 27 rfl).1 rfl ?_
  refine lv_aload_n hx hb (dk DL_17 28 rfl).1 rfl (lv_at hl 2 rfl) ?_
  refine larg (k0 := 1) C0 hl rfl rfl hS (dk DL_17 29 rfl).1 (dk DL_17 30 rfl).1 (dk DL_17 31 rfl).1 (dk DL_17 32 rfl).1 (dk DL_17 33 rfl).1 rfl (by omega) hL31 ?_
  refine larg (k0 := 2) C0 hl rfl rfl hS (dk DL_17 34 rfl).1 (dk DL_17 35 rfl).1 (dk DL_17 36 rfl).1 (dk DL_17 37 rfl).1 (dk DL_17 38 rfl).1 rfl (by omega) hL31 ?_
  refine larg (k0 := 3) C0 hl rfl rfl hS (dk DL_17 39 rfl).1 (dk DL_17 40 rfl).1 (dk DL_17 41 rfl).1 (dk DL_17 42 rfl).1 (dk DL_17 43 rfl).1 rfl (by omega) hL31 ?_
  refine larg (k0 := 4) C0 hl rfl rfl hS (dk DL_17 44 rfl).1 (dk DL_17 45 rfl).1 (dk DL_17 46 rfl).1 (dk DL_17 47 rfl).1 (dk DL_17 48 rfl).1 rfl (by omega) hL31 ?_
  refine larg (k0 := 5) C0 hl rfl rfl hS (dk DL_17 49 rfl).1 (dk DL_18 0 rfl).1 (dk DL_18 1 rfl).1 (dk DL_18 2 rfl).1 (dk DL_18 3 rfl).1 rfl (by omega) hL31 ?_
  refine kmI (av := [.int (xs (i + 1)), .int (xs (i + 2)), .int (xs (i + 3)), .int (xs (i + 4)), .int (xs (i + 5))]) C0 hKs hb0 hW1 (by omega) F.2.2.1.2.1 hP1 hS hl.1 (dk DL_18 4 rfl).1 rfl (tg_7 94 rfl rfl) (tg_7 95 rfl rfl) (tg_7 96 rfl rfl) (tg_1 7 rfl rfl) kX12_shift pmX12_shift (by decide) rfl (fun _ => rfl) (fun G hG => c_X12_shift hG F.2.2.1.2.1 F.2.1 F.2.2.1.1 F.2.2.1.2.2) (Nat.le_of_ble_eq_true rfl) (by omega) (by omega) (Nat.le_of_ble_eq_true rfl) (fun x2 I2 h2 H2 locs2 hq2 hW2 hP2 hS => ?_)
  obtain ⟨rfl, hR2⟩ := hq2
  refine lv_pop hx hb (dk DL_18 5 rfl).1 rfl ?_
  refine lv_goto (tgt := 1307) hx hb (dk DL_18 6 rfl).1 (by decide) ?_
  exact W.widen (by omega) (by omega) (hend _ _ _ _ _ _ _ _ ⟨hY1, F.2.1, hR2, hW2, hP2⟩ (by omega) hS)
