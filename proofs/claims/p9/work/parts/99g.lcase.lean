set_option maxHeartbeats 4000000 in
set_option maxRecDepth 20000 in
theorem lc_12 {p : Program} {l : Launch} {e : Env} {s : State} {m : MethodId} {below : List Frame} {meth : Method} {c : Code} {b L i k n : Nat} {xs : Nat → Int32} {H : Heap} {locs : List Loc} {ls : Array Slot} {D : va_G} {ci : Nat → ClassId} {b0 : Nat} {E : It} {Li : Nat → Int64} {Ix : It} {hxx : Ht} {Im : It} {hmm : Ht} (C0 : lw_At p s m meth c b L xs) (hKs : ∀ G, gD G = D → gc G = ci → Ks G s) (hb0 : b0 = s.heap.size) (F : LI D ci b0 E Li Ix hxx Im hmm H) (h900 : hn hxx ≤ 900) (hk : k + 1 ≤ 600000) (hnn : n + 6 ≤ 7302250) (hl : lv_has ls 4 (lvs b b0 i)) (hS : va_S (fun q => s.heap.size ≤ q) s.heap H locs) (h7 : i + 7 ≤ L) (hL31 : L < 2 ^ 31)
    (hend : ∀ (E' : It) (L' : Nat → Int64) (Ix' : It) (hx' : Ht) (Im' : It) (hm' : Ht) (H' : Heap) (locs' : List Loc), LI D ci b0 E' L' Ix' hx' Im' hm' H' → hn hx' ≤ hn hxx + 1 → va_S (fun q => s.heap.size ≤ q) s.heap H' locs' → W p l e room_1 s m #[Value.ref b] below meth c H' locs' (k + 1) (n + 6) (lw_Z below #[Value.ref b] s) (F0 m 1307 ls [])) : W p l e room_1 s m #[Value.ref b] below meth c H locs k n (lw_Z below #[Value.ref b] s) (F0 m 588 ls []) := by
  obtain ⟨hx, hb, -, hml, hown, hts0, -, -, -, -⟩ := id C0
  refine lv_aload_n hx hb (dk DL_6 32 rfl).1 rfl (lv_at hl 1 rfl) ?_
  refine larg (k0 := 1) C0 hl rfl rfl hS (dk DL_6 33 rfl).1 (dk DL_6 34 rfl).1 (dk DL_6 35 rfl).1 (dk DL_6 36 rfl).1 (dk DL_6 37 rfl).1 rfl (by omega) hL31 ?_
  refine larg (k0 := 2) C0 hl rfl rfl hS (dk DL_6 38 rfl).1 (dk DL_6 39 rfl).1 (dk DL_6 40 rfl).1 (dk DL_6 41 rfl).1 (dk DL_6 42 rfl).1 rfl (by omega) hL31 ?_
  refine kxI (av := [.int (xs (i + 1)), .int (xs (i + 2))]) C0 hKs hb0 F.2.2.2.1 F.1.1.1 F.2.2.1.2.1.1 F.2.2.2.2 hS hl.1 (dk DL_6 43 rfl).1 rfl (tg_3 219 rfl rfl) (tg_3 220 rfl rfl) (tg_3 221 rfl rfl) (tg_1 1 rfl rfl) kX11_run pmX11_run (by decide) rfl (fun _ => rfl) (zx_run gX_ok F.2.1 F.1) (Nat.le_of_ble_eq_true rfl) (by omega) (by omega) (Nat.le_of_ble_eq_true rfl) (fun x1 I1 h1 H1 locs1 hq1 hW1 hP1 hS => ?_)
  obtain ⟨rfl, hY1, hn1⟩ := hq1
  refine lv_pop hx hb (dk DL_6 44 rfl).1 rfl ?_
  refine lv_aload_n hx hb (dk DL_6 45 rfl).1 rfl (lv_at hl 2 rfl) ?_
  refine larg (k0 := 1) C0 hl rfl rfl hS (dk DL_6 46 rfl).1 (dk DL_6 47 rfl).1 (dk DL_6 48 rfl).1 (dk DL_6 49 rfl).1 (dk DL_7 0 rfl).1 rfl (by omega) hL31 ?_
  refine larg (k0 := 2) C0 hl rfl rfl hS (dk DL_7 1 rfl).1 (dk DL_7 2 rfl).1 (dk DL_7 3 rfl).1 (dk DL_7 4 rfl).1 (dk DL_7 5 rfl).1 rfl (by omega) hL31 ?_
  refine kmI (av := [.int (xs (i + 1)), .int (xs (i + 2))]) C0 hKs hb0 hW1 (by omega) F.2.2.1.2.1 hP1 hS hl.1 (dk DL_7 6 rfl).1 rfl (tg_6 168 rfl rfl) (tg_6 169 rfl rfl) (tg_6 170 rfl rfl) (tg_1 7 rfl rfl) kX12_run pmX12_run (by decide) rfl (fun _ => rfl) (fun G hG => c_X12_run hG F.2.2.1.2.1 F.2.1 F.2.2.1.1 F.2.2.1.2.2) (Nat.le_of_ble_eq_true rfl) (by omega) (by omega) (Nat.le_of_ble_eq_true rfl) (fun x2 I2 h2 H2 locs2 hq2 hW2 hP2 hS => ?_)
  obtain ⟨rfl, hR2⟩ := hq2
  refine lv_pop hx hb (dk DL_7 7 rfl).1 rfl ?_
  refine lv_goto (tgt := 1307) hx hb (dk DL_7 8 rfl).1 (by decide) ?_
  exact W.widen (by omega) (by omega) (hend _ _ _ _ _ _ _ _ ⟨hY1, (by rw [run_2]; exact F.2.1), hR2, hW2, hP2⟩ (by omega) hS)
set_option maxHeartbeats 4000000 in
set_option maxRecDepth 20000 in
theorem lc_13 {p : Program} {l : Launch} {e : Env} {s : State} {m : MethodId} {below : List Frame} {meth : Method} {c : Code} {b L i k n : Nat} {xs : Nat → Int32} {H : Heap} {locs : List Loc} {ls : Array Slot} {D : va_G} {ci : Nat → ClassId} {b0 : Nat} {E : It} {Li : Nat → Int64} {Ix : It} {hxx : Ht} {Im : It} {hmm : Ht} (C0 : lw_At p s m meth c b L xs) (hKs : ∀ G, gD G = D → gc G = ci → Ks G s) (hb0 : b0 = s.heap.size) (F : LI D ci b0 E Li Ix hxx Im hmm H) (h900 : hn hxx ≤ 900) (hk : k + 1 ≤ 600000) (hnn : n + 6 ≤ 7302250) (hl : lv_has ls 4 (lvs b b0 i)) (hS : va_S (fun q => s.heap.size ≤ q) s.heap H locs) (h7 : i + 7 ≤ L) (hL31 : L < 2 ^ 31)
    (hend : ∀ (E' : It) (L' : Nat → Int64) (Ix' : It) (hx' : Ht) (Im' : It) (hm' : Ht) (H' : Heap) (locs' : List Loc), LI D ci b0 E' L' Ix' hx' Im' hm' H' → hn hx' ≤ hn hxx + 1 → va_S (fun q => s.heap.size ≤ q) s.heap H' locs' → W p l e room_1 s m #[Value.ref b] below meth c H' locs' (k + 1) (n + 6) (lw_Z below #[Value.ref b] s) (F0 m 1307 ls [])) : W p l e room_1 s m #[Value.ref b] below meth c H locs k n (lw_Z below #[Value.ref b] s) (F0 m 621 ls []) := by
  obtain ⟨hx, hb, -, hml, hown, hts0, -, -, -, -⟩ := id C0
  refine lv_aload_n hx hb (dk DL_7 9 rfl).1 rfl (lv_at hl 1 rfl) ?_
  refine larg (k0 := 1) C0 hl rfl rfl hS (dk DL_7 10 rfl).1 (dk DL_7 11 rfl).1 (dk DL_7 12 rfl).1 (dk DL_7 13 rfl).1 (dk DL_7 14 rfl).1 rfl (by omega) hL31 ?_
  refine larg (k0 := 2) C0 hl rfl rfl hS (dk DL_7 15 rfl).1 (dk DL_7 16 rfl).1 (dk DL_7 17 rfl).1 (dk DL_7 18 rfl).1 (dk DL_7 19 rfl).1 rfl (by omega) hL31 ?_
  refine larg (k0 := 3) C0 hl rfl rfl hS (dk DL_7 20 rfl).1 (dk DL_7 21 rfl).1 (dk DL_7 22 rfl).1 (dk DL_7 23 rfl).1 (dk DL_7 24 rfl).1 rfl (by omega) hL31 ?_
  refine kxI (av := [.int (xs (i + 1)), .int (xs (i + 2)), .int (xs (i + 3))]) C0 hKs hb0 F.2.2.2.1 F.1.1.1 F.2.2.1.2.1.1 F.2.2.2.2 hS hl.1 (dk DL_7 25 rfl).1 rfl (tg_3 223 rfl rfl) (tg_3 224 rfl rfl) (tg_3 225 rfl rfl) (tg_1 1 rfl rfl) kX11_split pmX11_split (by decide) rfl (fun _ => rfl) (zx_split gX_ok F.2.1 F.1) (Nat.le_of_ble_eq_true rfl) (by omega) (by omega) (Nat.le_of_ble_eq_true rfl) (fun x1 I1 h1 H1 locs1 hq1 hW1 hP1 hS => ?_)
  obtain ⟨rfl, hY1, hn1⟩ := hq1
  refine lv_pop hx hb (dk DL_7 26 rfl).1 rfl ?_
  refine lv_aload_n hx hb (dk DL_7 27 rfl).1 rfl (lv_at hl 2 rfl) ?_
  refine larg (k0 := 1) C0 hl rfl rfl hS (dk DL_7 28 rfl).1 (dk DL_7 29 rfl).1 (dk DL_7 30 rfl).1 (dk DL_7 31 rfl).1 (dk DL_7 32 rfl).1 rfl (by omega) hL31 ?_
  refine larg (k0 := 2) C0 hl rfl rfl hS (dk DL_7 33 rfl).1 (dk DL_7 34 rfl).1 (dk DL_7 35 rfl).1 (dk DL_7 36 rfl).1 (dk DL_7 37 rfl).1 rfl (by omega) hL31 ?_
  refine larg (k0 := 3) C0 hl rfl rfl hS (dk DL_7 38 rfl).1 (dk DL_7 39 rfl).1 (dk DL_7 40 rfl).1 (dk DL_7 41 rfl).1 (dk DL_7 42 rfl).1 rfl (by omega) hL31 ?_
  refine kmI (av := [.int (xs (i + 1)), .int (xs (i + 2)), .int (xs (i + 3))]) C0 hKs hb0 hW1 (by omega) F.2.2.1.2.1 hP1 hS hl.1 (dk DL_7 43 rfl).1 rfl (tg_6 172 rfl rfl) (tg_6 173 rfl rfl) (tg_6 174 rfl rfl) (tg_1 7 rfl rfl) kX12_split pmX12_split (by decide) rfl (fun _ => rfl) (fun G hG => c_X12_split hG F.2.2.1.2.1 F.2.1 F.2.2.1.1 F.2.2.1.2.2) (Nat.le_of_ble_eq_true rfl) (by omega) (by omega) (Nat.le_of_ble_eq_true rfl) (fun x2 I2 h2 H2 locs2 hq2 hW2 hP2 hS => ?_)
  obtain ⟨rfl, hR2⟩ := hq2
  refine lv_pop hx hb (dk DL_7 44 rfl).1 rfl ?_
  refine lv_goto (tgt := 1307) hx hb (dk DL_7 45 rfl).1 (by decide) ?_
  exact W.widen (by omega) (by omega) (hend _ _ _ _ _ _ _ _ ⟨hY1, (by rw [split_2]; exact F.2.1), hR2, hW2, hP2⟩ (by omega) hS)
set_option maxHeartbeats 4000000 in
set_option maxRecDepth 20000 in
theorem lc_14 {p : Program} {l : Launch} {e : Env} {s : State} {m : MethodId} {below : List Frame} {meth : Method} {c : Code} {b L i k n : Nat} {xs : Nat → Int32} {H : Heap} {locs : List Loc} {ls : Array Slot} {D : va_G} {ci : Nat → ClassId} {b0 : Nat} {E : It} {Li : Nat → Int64} {Ix : It} {hxx : Ht} {Im : It} {hmm : Ht} (C0 : lw_At p s m meth c b L xs) (hKs : ∀ G, gD G = D → gc G = ci → Ks G s) (hb0 : b0 = s.heap.size) (F : LI D ci b0 E Li Ix hxx Im hmm H) (h900 : hn hxx ≤ 900) (hk : k + 1 ≤ 600000) (hnn : n + 6 ≤ 7302250) (hl : lv_has ls 4 (lvs b b0 i)) (hS : va_S (fun q => s.heap.size ≤ q) s.heap H locs) (h7 : i + 7 ≤ L) (hL31 : L < 2 ^ 31)
    (hend : ∀ (E' : It) (L' : Nat → Int64) (Ix' : It) (hx' : Ht) (Im' : It) (hm' : Ht) (H' : Heap) (locs' : List Loc), LI D ci b0 E' L' Ix' hx' Im' hm' H' → hn hx' ≤ hn hxx + 1 → va_S (fun q => s.heap.size ≤ q) s.heap H' locs' → W p l e room_1 s m #[Value.ref b] below meth c H' locs' (k + 1) (n + 6) (lw_Z below #[Value.ref b] s) (F0 m 1307 ls [])) : W p l e room_1 s m #[Value.ref b] below meth c H locs k n (lw_Z below #[Value.ref b] s) (F0 m 664 ls []) := by
  obtain ⟨hx, hb, -, hml, hown, hts0, -, -, -, -⟩ := id C0
  refine lv_aload_n hx hb (dk DL_7 46 rfl).1 rfl (lv_at hl 1 rfl) ?_
  refine larg (k0 := 1) C0 hl rfl rfl hS (dk DL_7 47 rfl).1 (dk DL_7 48 rfl).1 (dk DL_7 49 rfl).1 (dk DL_8 0 rfl).1 (dk DL_8 1 rfl).1 rfl (by omega) hL31 ?_
  refine larg (k0 := 2) C0 hl rfl rfl hS (dk DL_8 2 rfl).1 (dk DL_8 3 rfl).1 (dk DL_8 4 rfl).1 (dk DL_8 5 rfl).1 (dk DL_8 6 rfl).1 rfl (by omega) hL31 ?_
  refine kxI (av := [.int (xs (i + 1)), .int (xs (i + 2))]) C0 hKs hb0 F.2.2.2.1 F.1.1.1 F.2.2.1.2.1.1 F.2.2.2.2 hS hl.1 (dk DL_8 7 rfl).1 rfl (tg_4 5 rfl rfl) (tg_4 6 rfl rfl) (tg_4 7 rfl rfl) (tg_1 1 rfl rfl) kX11_more pmX11_more (by decide) rfl (fun _ => rfl) (zx_more gX_ok F.2.1 F.1) (Nat.le_of_ble_eq_true rfl) (by omega) (by omega) (Nat.le_of_ble_eq_true rfl) (fun x1 I1 h1 H1 locs1 hq1 hW1 hP1 hS => ?_)
  obtain ⟨rfl, hY1, hn1⟩ := hq1
  refine lv_pop hx hb (dk DL_8 8 rfl).1 rfl ?_
  refine lv_aload_n hx hb (dk DL_8 9 rfl).1 rfl (lv_at hl 2 rfl) ?_
  refine larg (k0 := 1) C0 hl rfl rfl hS (dk DL_8 10 rfl).1 (dk DL_8 11 rfl).1 (dk DL_8 12 rfl).1 (dk DL_8 13 rfl).1 (dk DL_8 14 rfl).1 rfl (by omega) hL31 ?_
  refine larg (k0 := 2) C0 hl rfl rfl hS (dk DL_8 15 rfl).1 (dk DL_8 16 rfl).1 (dk DL_8 17 rfl).1 (dk DL_8 18 rfl).1 (dk DL_8 19 rfl).1 rfl (by omega) hL31 ?_
  refine kmI (av := [.int (xs (i + 1)), .int (xs (i + 2))]) C0 hKs hb0 hW1 (by omega) F.2.2.1.2.1 hP1 hS hl.1 (dk DL_8 20 rfl).1 rfl (tg_6 192 rfl rfl) (tg_6 193 rfl rfl) (tg_6 194 rfl rfl) (tg_1 7 rfl rfl) kX12_more pmX12_more (by decide) rfl (fun _ => rfl) (fun G hG => c_X12_more hG F.2.2.1.2.1 F.2.1 F.2.2.1.1 F.2.2.1.2.2) (Nat.le_of_ble_eq_true rfl) (by omega) (by omega) (Nat.le_of_ble_eq_true rfl) (fun x2 I2 h2 H2 locs2 hq2 hW2 hP2 hS => ?_)
  obtain ⟨rfl, hR2⟩ := hq2
  refine lv_pop hx hb (dk DL_8 21 rfl).1 rfl ?_
  refine lv_goto (tgt := 1307) hx hb (dk DL_8 22 rfl).1 (by decide) ?_
  exact W.widen (by omega) (by omega) (hend _ _ _ _ _ _ _ _ ⟨hY1, (by rw [more_2]; exact F.2.1), hR2, hW2, hP2⟩ (by omega) hS)
set_option maxHeartbeats 4000000 in
set_option maxRecDepth 20000 in
theorem lc_15 {p : Program} {l : Launch} {e : Env} {s : State} {m : MethodId} {below : List Frame} {meth : Method} {c : Code} {b L i k n : Nat} {xs : Nat → Int32} {H : Heap} {locs : List Loc} {ls : Array Slot} {D : va_G} {ci : Nat → ClassId} {b0 : Nat} {E : It} {Li : Nat → Int64} {Ix : It} {hxx : Ht} {Im : It} {hmm : Ht} (C0 : lw_At p s m meth c b L xs) (hKs : ∀ G, gD G = D → gc G = ci → Ks G s) (hb0 : b0 = s.heap.size) (F : LI D ci b0 E Li Ix hxx Im hmm H) (h900 : hn hxx ≤ 900) (hk : k + 1 ≤ 600000) (hnn : n + 6 ≤ 7302250) (hl : lv_has ls 4 (lvs b b0 i)) (hS : va_S (fun q => s.heap.size ≤ q) s.heap H locs) (h7 : i + 7 ≤ L) (hL31 : L < 2 ^ 31)
    (hend : ∀ (E' : It) (L' : Nat → Int64) (Ix' : It) (hx' : Ht) (Im' : It) (hm' : Ht) (H' : Heap) (locs' : List Loc), LI D ci b0 E' L' Ix' hx' Im' hm' H' → hn hx' ≤ hn hxx + 1 → va_S (fun q => s.heap.size ≤ q) s.heap H' locs' → W p l e room_1 s m #[Value.ref b] below meth c H' locs' (k + 1) (n + 6) (lw_Z below #[Value.ref b] s) (F0 m 1307 ls [])) : W p l e room_1 s m #[Value.ref b] below meth c H locs k n (lw_Z below #[Value.ref b] s) (F0 m 697 ls []) := by
  obtain ⟨hx, hb, -, hml, hown, hts0, -, -, -, -⟩ := id C0
  refine lv_aload_n hx hb (dk DL_8 23 rfl).1 rfl (lv_at hl 1 rfl) ?_
  refine larg (k0 := 1) C0 hl rfl rfl hS (dk DL_8 24 rfl).1 (dk DL_8 25 rfl).1 (dk DL_8 26 rfl).1 (dk DL_8 27 rfl).1 (dk DL_8 28 rfl).1 rfl (by omega) hL31 ?_
  refine kxI (av := [.int (xs (i + 1))]) C0 hKs hb0 F.2.2.2.1 F.1.1.1 F.2.2.1.2.1.1 F.2.2.2.2 hS hl.1 (dk DL_8 29 rfl).1 rfl (tg_4 14 rfl rfl) (tg_4 15 rfl rfl) (tg_4 16 rfl rfl) (tg_1 1 rfl rfl) kX11_ask pmX11_ask (by decide) rfl (fun _ => rfl) (zx_ask gX_ok F.2.1 F.1) (Nat.le_of_ble_eq_true rfl) (by omega) (by omega) (Nat.le_of_ble_eq_true rfl) (fun x1 I1 h1 H1 locs1 hq1 hW1 hP1 hS => ?_)
  obtain ⟨rfl, hY1, hn1⟩ := hq1
  refine lv_pop hx hb (dk DL_8 30 rfl).1 rfl ?_
  refine lv_aload_n hx hb (dk DL_8 31 rfl).1 rfl (lv_at hl 2 rfl) ?_
  refine larg (k0 := 1) C0 hl rfl rfl hS (dk DL_8 32 rfl).1 (dk DL_8 33 rfl).1 (dk DL_8 34 rfl).1 (dk DL_8 35 rfl).1 (dk DL_8 36 rfl).1 rfl (by omega) hL31 ?_
  refine kmI (av := [.int (xs (i + 1))]) C0 hKs hb0 hW1 (by omega) F.2.2.1.2.1 hP1 hS hl.1 (dk DL_8 37 rfl).1 rfl (tg_6 196 rfl rfl) (tg_6 197 rfl rfl) (tg_6 198 rfl rfl) (tg_1 7 rfl rfl) kX12_ask pmX12_ask (by decide) rfl (fun _ => rfl) (fun G hG => c_X12_ask hG F.2.2.1.2.1 F.2.1 F.2.2.1.1 F.2.2.1.2.2) (Nat.le_of_ble_eq_true rfl) (by omega) (by omega) (Nat.le_of_ble_eq_true rfl) (fun x2 I2 h2 H2 locs2 hq2 hW2 hP2 hS => ?_)
  obtain ⟨rfl, hR2⟩ := hq2
  refine lv_pop hx hb (dk DL_8 38 rfl).1 rfl ?_
  refine lv_goto (tgt := 1307) hx hb (dk DL_8 39 rfl).1 (by decide) ?_
  exact W.widen (by omega) (by omega) (hend _ _ _ _ _ _ _ _ ⟨hY1, (by rw [ask_2]; exact F.2.1), hR2, hW2, hP2⟩ (by omega) hS)
set_option maxHeartbeats 4000000 in
set_option maxRecDepth 20000 in
theorem lc_16 {p : Program} {l : Launch} {e : Env} {s : State} {m : MethodId} {below : List Frame} {meth : Method} {c : Code} {b L i k n : Nat} {xs : Nat → Int32} {H : Heap} {locs : List Loc} {ls : Array Slot} {D : va_G} {ci : Nat → ClassId} {b0 : Nat} {E : It} {Li : Nat → Int64} {Ix : It} {hxx : Ht} {Im : It} {hmm : Ht} (C0 : lw_At p s m meth c b L xs) (hKs : ∀ G, gD G = D → gc G = ci → Ks G s) (hb0 : b0 = s.heap.size) (F : LI D ci b0 E Li Ix hxx Im hmm H) (h900 : hn hxx ≤ 900) (hk : k + 1 ≤ 600000) (hnn : n + 6 ≤ 7302250) (hl : lv_has ls 4 (lvs b b0 i)) (hS : va_S (fun q => s.heap.size ≤ q) s.heap H locs) (h7 : i + 7 ≤ L) (hL31 : L < 2 ^ 31)
    (hend : ∀ (E' : It) (L' : Nat → Int64) (Ix' : It) (hx' : Ht) (Im' : It) (hm' : Ht) (H' : Heap) (locs' : List Loc), LI D ci b0 E' L' Ix' hx' Im' hm' H' → hn hx' ≤ hn hxx + 1 → va_S (fun q => s.heap.size ≤ q) s.heap H' locs' → W p l e room_1 s m #[Value.ref b] below meth c H' locs' (k + 1) (n + 6) (lw_Z below #[Value.ref b] s) (F0 m 1307 ls [])) : W p l e room_1 s m #[Value.ref b] below meth c H locs k n (lw_Z below #[Value.ref b] s) (F0 m 720 ls []) := by
  obtain ⟨hx, hb, -, hml, hown, hts0, -, -, -, -⟩ := id C0
  refine lv_aload_n hx hb (dk DL_8 40 rfl).1 rfl (lv_at hl 1 rfl) ?_
  refine larg (k0 := 1) C0 hl rfl rfl hS (dk DL_8 41 rfl).1 (dk DL_8 42 rfl).1 (dk DL_8 43 rfl).1 (dk DL_8 44 rfl).1 (dk DL_8 45 rfl).1 rfl (by omega) hL31 ?_
  refine kxI (av := [.int (xs (i + 1))]) C0 hKs hb0 F.2.2.2.1 F.1.1.1 F.2.2.1.2.1.1 F.2.2.2.2 hS hl.1 (dk DL_8 46 rfl).1 rfl (tg_4 22 rfl rfl) (tg_4 23 rfl rfl) (tg_4 24 rfl rfl) (tg_1 1 rfl rfl) kX11_drop pmX11_drop (by decide) rfl (fun _ => rfl) (zx_drop gX_ok F.2.1 F.1) (Nat.le_of_ble_eq_true rfl) (by omega) (by omega) (Nat.le_of_ble_eq_true rfl) (fun x1 I1 h1 H1 locs1 hq1 hW1 hP1 hS => ?_)
  obtain ⟨rfl, hY1, hn1⟩ := hq1
  refine lv_pop hx hb (dk DL_8 47 rfl).1 rfl ?_
  refine lv_aload_n hx hb (dk DL_8 48 rfl).1 rfl (lv_at hl 2 rfl) ?_
  refine larg (k0 := 1) C0 hl rfl rfl hS (dk DL_8 49 rfl).1 (dk DL_9 0 rfl).1 (dk DL_9 1 rfl).1 (dk DL_9 2 rfl).1 (dk DL_9 3 rfl).1 rfl (by omega) hL31 ?_
  refine kmI (av := [.int (xs (i + 1))]) C0 hKs hb0 hW1 (by omega) F.2.2.1.2.1 hP1 hS hl.1 (dk DL_9 4 rfl).1 rfl (tg_6 200 rfl rfl) (tg_6 201 rfl rfl) (tg_6 202 rfl rfl) (tg_1 7 rfl rfl) kX12_drop pmX12_drop (by decide) rfl (fun _ => rfl) (fun G hG => c_X12_drop hG F.2.2.1.2.1 F.2.1 F.2.2.1.1 F.2.2.1.2.2) (Nat.le_of_ble_eq_true rfl) (by omega) (by omega) (Nat.le_of_ble_eq_true rfl) (fun x2 I2 h2 H2 locs2 hq2 hW2 hP2 hS => ?_)
  obtain ⟨rfl, hR2⟩ := hq2
  refine lv_pop hx hb (dk DL_9 5 rfl).1 rfl ?_
  refine lv_goto (tgt := 1307) hx hb (dk DL_9 6 rfl).1 (by decide) ?_
  exact W.widen (by omega) (by omega) (hend _ _ _ _ _ _ _ _ ⟨hY1, (by rw [drop_2]; exact F.2.1), hR2, hW2, hP2⟩ (by omega) hS)
set_option maxHeartbeats 4000000 in
set_option maxRecDepth 20000 in
theorem lc_17 {p : Program} {l : Launch} {e : Env} {s : State} {m : MethodId} {below : List Frame} {meth : Method} {c : Code} {b L i k n : Nat} {xs : Nat → Int32} {H : Heap} {locs : List Loc} {ls : Array Slot} {D : va_G} {ci : Nat → ClassId} {b0 : Nat} {E : It} {Li : Nat → Int64} {Ix : It} {hxx : Ht} {Im : It} {hmm : Ht} (C0 : lw_At p s m meth c b L xs) (hKs : ∀ G, gD G = D → gc G = ci → Ks G s) (hb0 : b0 = s.heap.size) (F : LI D ci b0 E Li Ix hxx Im hmm H) (h900 : hn hxx ≤ 900) (hk : k + 1 ≤ 600000) (hnn : n + 6 ≤ 7302250) (hl : lv_has ls 4 (lvs b b0 i)) (hS : va_S (fun q => s.heap.size ≤ q) s.heap H locs) (h7 : i + 7 ≤ L) (hL31 : L < 2 ^ 31)
    (hend : ∀ (E' : It) (L' : Nat → Int64) (Ix' : It) (hx' : Ht) (Im' : It) (hm' : Ht) (H' : Heap) (locs' : List Loc), LI D ci b0 E' L' Ix' hx' Im' hm' H' → hn hx' ≤ hn hxx + 1 → va_S (fun q => s.heap.size ≤ q) s.heap H' locs' → W p l e room_1 s m #[Value.ref b] below meth c H' locs' (k + 1) (n + 6) (lw_Z below #[Value.ref b] s) (F0 m 1307 ls [])) : W p l e room_1 s m #[Value.ref b] below meth c H locs k n (lw_Z below #[Value.ref b] s) (F0 m 743 ls []) := by
  obtain ⟨hx, hb, -, hml, hown, hts0, -, -, -, -⟩ := id C0
  refine lv_aload_n hx hb (dk DL_9 7 rfl).1 rfl (lv_at hl 1 rfl) ?_
  refine larg (k0 := 1) C0 hl rfl rfl hS (dk DL_9 8 rfl).1 (dk DL_9 9 rfl).1 (dk DL_9 10 rfl).1 (dk DL_9 11 rfl).1 (dk DL_9 12 rfl).1 rfl (by omega) hL31 ?_
  refine kxI (av := [.int (xs (i + 1))]) C0 hKs hb0 F.2.2.2.1 F.1.1.1 F.2.2.1.2.1.1 F.2.2.2.2 hS hl.1 (dk DL_9 13 rfl).1 rfl (tg_4 26 rfl rfl) (tg_4 27 rfl rfl) (tg_4 28 rfl rfl) (tg_1 1 rfl rfl) kX11_when pmX11_when (by decide) rfl (fun _ => rfl) (zx_when gX_ok F.2.1 F.1) (Nat.le_of_ble_eq_true rfl) (by omega) (by omega) (Nat.le_of_ble_eq_true rfl) (fun x1 I1 h1 H1 locs1 hq1 hW1 hP1 hS => ?_)
  obtain ⟨rfl, hY1, hn1⟩ := hq1
  refine lv_pop hx hb (dk DL_9 14 rfl).1 rfl ?_
  refine lv_aload_n hx hb (dk DL_9 15 rfl).1 rfl (lv_at hl 2 rfl) ?_
  refine larg (k0 := 1) C0 hl rfl rfl hS (dk DL_9 16 rfl).1 (dk DL_9 17 rfl).1 (dk DL_9 18 rfl).1 (dk DL_9 19 rfl).1 (dk DL_9 20 rfl).1 rfl (by omega) hL31 ?_
  refine kmI (av := [.int (xs (i + 1))]) C0 hKs hb0 hW1 (by omega) F.2.2.1.2.1 hP1 hS hl.1 (dk DL_9 21 rfl).1 rfl (tg_6 204 rfl rfl) (tg_6 205 rfl rfl) (tg_6 206 rfl rfl) (tg_1 7 rfl rfl) kX12_when pmX12_when (by decide) rfl (fun _ => rfl) (fun G hG => c_X12_when hG F.2.2.1.2.1 F.2.1 F.2.2.1.1 F.2.2.1.2.2) (Nat.le_of_ble_eq_true rfl) (by omega) (by omega) (Nat.le_of_ble_eq_true rfl) (fun x2 I2 h2 H2 locs2 hq2 hW2 hP2 hS => ?_)
  obtain ⟨rfl, hR2⟩ := hq2
  refine lv_pop hx hb (dk DL_9 22 rfl).1 rfl ?_
  refine lv_goto (tgt := 1307) hx hb (dk DL_9 23 rfl).1 (by decide) ?_
  exact W.widen (by omega) (by omega) (hend _ _ _ _ _ _ _ _ ⟨hY1, (by rw [when_2]; exact F.2.1), hR2, hW2, hP2⟩ (by omega) hS)
set_option maxHeartbeats 4000000 in
set_option maxRecDepth 20000 in
theorem lc_18 {p : Program} {l : Launch} {e : Env} {s : State} {m : MethodId} {below : List Frame} {meth : Method} {c : Code} {b L i k n : Nat} {xs : Nat → Int32} {H : Heap} {locs : List Loc} {ls : Array Slot} {D : va_G} {ci : Nat → ClassId} {b0 : Nat} {E : It} {Li : Nat → Int64} {Ix : It} {hxx : Ht} {Im : It} {hmm : Ht} (C0 : lw_At p s m meth c b L xs) (hKs : ∀ G, gD G = D → gc G = ci → Ks G s) (hb0 : b0 = s.heap.size) (F : LI D ci b0 E Li Ix hxx Im hmm H) (h900 : hn hxx ≤ 900) (hk : k + 1 ≤ 600000) (hnn : n + 6 ≤ 7302250) (hl : lv_has ls 4 (lvs b b0 i)) (hS : va_S (fun q => s.heap.size ≤ q) s.heap H locs) (h7 : i + 7 ≤ L) (hL31 : L < 2 ^ 31)
    (hend : ∀ (E' : It) (L' : Nat → Int64) (Ix' : It) (hx' : Ht) (Im' : It) (hm' : Ht) (H' : Heap) (locs' : List Loc), LI D ci b0 E' L' Ix' hx' Im' hm' H' → hn hx' ≤ hn hxx + 1 → va_S (fun q => s.heap.size ≤ q) s.heap H' locs' → W p l e room_1 s m #[Value.ref b] below meth c H' locs' (k + 1) (n + 6) (lw_Z below #[Value.ref b] s) (F0 m 1307 ls [])) : W p l e room_1 s m #[Value.ref b] below meth c H locs k n (lw_Z below #[Value.ref b] s) (F0 m 766 ls []) := by
  obtain ⟨hx, hb, -, hml, hown, hts0, -, -, -, -⟩ := id C0
  refine lv_aload_n hx hb (dk DL_9 24 rfl).1 rfl (lv_at hl 1 rfl) ?_
  refine larg (k0 := 1) C0 hl rfl rfl hS (dk DL_9 25 rfl).1 (dk DL_9 26 rfl).1 (dk DL_9 27 rfl).1 (dk DL_9 28 rfl).1 (dk DL_9 29 rfl).1 rfl (by omega) hL31 ?_
  refine larg (k0 := 2) C0 hl rfl rfl hS (dk DL_9 30 rfl).1 (dk DL_9 31 rfl).1 (dk DL_9 32 rfl).1 (dk DL_9 33 rfl).1 (dk DL_9 34 rfl).1 rfl (by omega) hL31 ?_
  refine kxI (av := [.int (xs (i + 1)), .int (xs (i + 2))]) C0 hKs hb0 F.2.2.2.1 F.1.1.1 F.2.2.1.2.1.1 F.2.2.2.2 hS hl.1 (dk DL_9 35 rfl).1 rfl (tg_4 31 rfl rfl) (tg_4 32 rfl rfl) (tg_4 33 rfl rfl) (tg_1 1 rfl rfl) kX11_busiest pmX11_busiest (by decide) rfl (fun _ => rfl) (zx_busiest gX_ok F.2.1 F.1) (Nat.le_of_ble_eq_true rfl) (by omega) (by omega) (Nat.le_of_ble_eq_true rfl) (fun x1 I1 h1 H1 locs1 hq1 hW1 hP1 hS => ?_)
  obtain ⟨rfl, hY1, hn1⟩ := hq1
  refine lv_pop hx hb (dk DL_9 36 rfl).1 rfl ?_
  refine lv_aload_n hx hb (dk DL_9 37 rfl).1 rfl (lv_at hl 2 rfl) ?_
  refine larg (k0 := 1) C0 hl rfl rfl hS (dk DL_9 38 rfl).1 (dk DL_9 39 rfl).1 (dk DL_9 40 rfl).1 (dk DL_9 41 rfl).1 (dk DL_9 42 rfl).1 rfl (by omega) hL31 ?_
  refine larg (k0 := 2) C0 hl rfl rfl hS (dk DL_9 43 rfl).1 (dk DL_9 44 rfl).1 (dk DL_9 45 rfl).1 (dk DL_9 46 rfl).1 (dk DL_9 47 rfl).1 rfl (by omega) hL31 ?_
  refine kmI (av := [.int (xs (i + 1)), .int (xs (i + 2))]) C0 hKs hb0 hW1 (by omega) F.2.2.1.2.1 hP1 hS hl.1 (dk DL_9 48 rfl).1 rfl (tg_6 208 rfl rfl) (tg_6 209 rfl rfl) (tg_6 210 rfl rfl) (tg_1 7 rfl rfl) kX12_busiest pmX12_busiest (by decide) rfl (fun _ => rfl) (fun G hG => c_X12_busiest hG F.2.2.1.2.1 F.2.1 F.2.2.1.1 F.2.2.1.2.2) (Nat.le_of_ble_eq_true rfl) (by omega) (by omega) (Nat.le_of_ble_eq_true rfl) (fun x2 I2 h2 H2 locs2 hq2 hW2 hP2 hS => ?_)
  obtain ⟨rfl, hR2⟩ := hq2
  refine lv_pop hx hb (dk DL_9 49 rfl).1 rfl ?_
  refine lv_goto (tgt := 1307) hx hb (dk DL_10 0 rfl).1 (by decide) ?_
  exact W.widen (by omega) (by omega) (hend _ _ _ _ _ _ _ _ ⟨hY1, (by rw [busiest_2]; exact F.2.1), hR2, hW2, hP2⟩ (by omega) hS)
set_option maxHeartbeats 4000000 in
set_option maxRecDepth 20000 in
theorem lc_19 {p : Program} {l : Launch} {e : Env} {s : State} {m : MethodId} {below : List Frame} {meth : Method} {c : Code} {b L i k n : Nat} {xs : Nat → Int32} {H : Heap} {locs : List Loc} {ls : Array Slot} {D : va_G} {ci : Nat → ClassId} {b0 : Nat} {E : It} {Li : Nat → Int64} {Ix : It} {hxx : Ht} {Im : It} {hmm : Ht} (C0 : lw_At p s m meth c b L xs) (hKs : ∀ G, gD G = D → gc G = ci → Ks G s) (hb0 : b0 = s.heap.size) (F : LI D ci b0 E Li Ix hxx Im hmm H) (h900 : hn hxx ≤ 900) (hk : k + 1 ≤ 600000) (hnn : n + 6 ≤ 7302250) (hl : lv_has ls 4 (lvs b b0 i)) (hS : va_S (fun q => s.heap.size ≤ q) s.heap H locs) (h7 : i + 7 ≤ L) (hL31 : L < 2 ^ 31)
    (hend : ∀ (E' : It) (L' : Nat → Int64) (Ix' : It) (hx' : Ht) (Im' : It) (hm' : Ht) (H' : Heap) (locs' : List Loc), LI D ci b0 E' L' Ix' hx' Im' hm' H' → hn hx' ≤ hn hxx + 1 → va_S (fun q => s.heap.size ≤ q) s.heap H' locs' → W p l e room_1 s m #[Value.ref b] below meth c H' locs' (k + 1) (n + 6) (lw_Z below #[Value.ref b] s) (F0 m 1307 ls [])) : W p l e room_1 s m #[Value.ref b] below meth c H locs k n (lw_Z below #[Value.ref b] s) (F0 m 799 ls []) := by
  obtain ⟨hx, hb, -, hml, hown, hts0, -, -, -, -⟩ := id C0
  refine lv_aload_n hx hb (dk DL_10 1 rfl).1 rfl (lv_at hl 1 rfl) ?_
  refine larg (k0 := 1) C0 hl rfl rfl hS (dk DL_10 2 rfl).1 (dk DL_10 3 rfl).1 (dk DL_10 4 rfl).1 (dk DL_10 5 rfl).1 (dk DL_10 6 rfl).1 rfl (by omega) hL31 ?_
  refine kxI (av := [.int (xs (i + 1))]) C0 hKs hb0 F.2.2.2.1 F.1.1.1 F.2.2.1.2.1.1 F.2.2.2.2 hS hl.1 (dk DL_10 7 rfl).1 rfl (tg_4 36 rfl rfl) (tg_4 37 rfl rfl) (tg_4 38 rfl rfl) (tg_1 1 rfl rfl) kX11_all pmX11_all (by decide) rfl (fun _ => rfl) (zx_all gX_ok F.2.1 F.1) (Nat.le_of_ble_eq_true rfl) (by omega) (by omega) (Nat.le_of_ble_eq_true rfl) (fun x1 I1 h1 H1 locs1 hq1 hW1 hP1 hS => ?_)
  obtain ⟨rfl, hY1, hn1⟩ := hq1
  refine lv_pop hx hb (dk DL_10 8 rfl).1 rfl ?_
  refine lv_aload_n hx hb (dk DL_10 9 rfl).1 rfl (lv_at hl 2 rfl) ?_
  refine larg (k0 := 1) C0 hl rfl rfl hS (dk DL_10 10 rfl).1 (dk DL_10 11 rfl).1 (dk DL_10 12 rfl).1 (dk DL_10 13 rfl).1 (dk DL_10 14 rfl).1 rfl (by omega) hL31 ?_
  refine kmI (av := [.int (xs (i + 1))]) C0 hKs hb0 hW1 (by omega) F.2.2.1.2.1 hP1 hS hl.1 (dk DL_10 15 rfl).1 rfl (tg_6 216 rfl rfl) (tg_6 217 rfl rfl) (tg_6 218 rfl rfl) (tg_1 7 rfl rfl) kX12_all pmX12_all (by decide) rfl (fun _ => rfl) (fun G hG => c_X12_all hG F.2.2.1.2.1 F.2.1 F.2.2.1.1 F.2.2.1.2.2) (Nat.le_of_ble_eq_true rfl) (by omega) (by omega) (Nat.le_of_ble_eq_true rfl) (fun x2 I2 h2 H2 locs2 hq2 hW2 hP2 hS => ?_)
  obtain ⟨rfl, hR2⟩ := hq2
  refine lv_pop hx hb (dk DL_10 16 rfl).1 rfl ?_
  refine lv_goto (tgt := 1307) hx hb (dk DL_10 17 rfl).1 (by decide) ?_
  exact W.widen (by omega) (by omega) (hend _ _ _ _ _ _ _ _ ⟨hY1, (by rw [all_2]; exact F.2.1), hR2, hW2, hP2⟩ (by omega) hS)
set_option maxHeartbeats 4000000 in
set_option maxRecDepth 20000 in
theorem lc_20 {p : Program} {l : Launch} {e : Env} {s : State} {m : MethodId} {below : List Frame} {meth : Method} {c : Code} {b L i k n : Nat} {xs : Nat → Int32} {H : Heap} {locs : List Loc} {ls : Array Slot} {D : va_G} {ci : Nat → ClassId} {b0 : Nat} {E : It} {Li : Nat → Int64} {Ix : It} {hxx : Ht} {Im : It} {hmm : Ht} (C0 : lw_At p s m meth c b L xs) (hKs : ∀ G, gD G = D → gc G = ci → Ks G s) (hb0 : b0 = s.heap.size) (F : LI D ci b0 E Li Ix hxx Im hmm H) (h900 : hn hxx ≤ 900) (hk : k + 1 ≤ 600000) (hnn : n + 6 ≤ 7302250) (hl : lv_has ls 4 (lvs b b0 i)) (hS : va_S (fun q => s.heap.size ≤ q) s.heap H locs) (h7 : i + 7 ≤ L) (hL31 : L < 2 ^ 31)
    (hend : ∀ (E' : It) (L' : Nat → Int64) (Ix' : It) (hx' : Ht) (Im' : It) (hm' : Ht) (H' : Heap) (locs' : List Loc), LI D ci b0 E' L' Ix' hx' Im' hm' H' → hn hx' ≤ hn hxx + 1 → va_S (fun q => s.heap.size ≤ q) s.heap H' locs' → W p l e room_1 s m #[Value.ref b] below meth c H' locs' (k + 1) (n + 6) (lw_Z below #[Value.ref b] s) (F0 m 1307 ls [])) : W p l e room_1 s m #[Value.ref b] below meth c H locs k n (lw_Z below #[Value.ref b] s) (F0 m 822 ls []) := by
  obtain ⟨hx, hb, -, hml, hown, hts0, -, -, -, -⟩ := id C0
  refine lv_aload_n hx hb (dk DL_10 18 rfl).1 rfl (lv_at hl 1 rfl) ?_
  refine larg (k0 := 1) C0 hl rfl rfl hS (dk DL_10 19 rfl).1 (dk DL_10 20 rfl).1 (dk DL_10 21 rfl).1 (dk DL_10 22 rfl).1 (dk DL_10 23 rfl).1 rfl (by omega) hL31 ?_
  refine larg (k0 := 2) C0 hl rfl rfl hS (dk DL_10 24 rfl).1 (dk DL_10 25 rfl).1 (dk DL_10 26 rfl).1 (dk DL_10 27 rfl).1 (dk DL_10 28 rfl).1 rfl (by omega) hL31 ?_
  refine kxI (av := [.int (xs (i + 1)), .int (xs (i + 2))]) C0 hKs hb0 F.2.2.2.1 F.1.1.1 F.2.2.1.2.1.1 F.2.2.2.2 hS hl.1 (dk DL_10 29 rfl).1 rfl (tg_4 50 rfl rfl) (tg_4 51 rfl rfl) (tg_4 52 rfl rfl) (tg_1 1 rfl rfl) kX11_list pmX11_list (by decide) rfl (fun _ => rfl) (zx_list gX_ok F.2.1 F.1) (Nat.le_of_ble_eq_true rfl) (by omega) (by omega) (Nat.le_of_ble_eq_true rfl) (fun x1 I1 h1 H1 locs1 hq1 hW1 hP1 hS => ?_)
  obtain ⟨rfl, hY1, hn1⟩ := hq1
  refine lv_pop hx hb (dk DL_10 30 rfl).1 rfl ?_
  refine lv_aload_n hx hb (dk DL_10 31 rfl).1 rfl (lv_at hl 2 rfl) ?_
  refine larg (k0 := 1) C0 hl rfl rfl hS (dk DL_10 32 rfl).1 (dk DL_10 33 rfl).1 (dk DL_10 34 rfl).1 (dk DL_10 35 rfl).1 (dk DL_10 36 rfl).1 rfl (by omega) hL31 ?_
  refine larg (k0 := 2) C0 hl rfl rfl hS (dk DL_10 37 rfl).1 (dk DL_10 38 rfl).1 (dk DL_10 39 rfl).1 (dk DL_10 40 rfl).1 (dk DL_10 41 rfl).1 rfl (by omega) hL31 ?_
  refine kmI (av := [.int (xs (i + 1)), .int (xs (i + 2))]) C0 hKs hb0 hW1 (by omega) F.2.2.1.2.1 hP1 hS hl.1 (dk DL_10 42 rfl).1 rfl (tg_6 224 rfl rfl) (tg_6 225 rfl rfl) (tg_6 226 rfl rfl) (tg_1 7 rfl rfl) kX12_list pmX12_list (by decide) rfl (fun _ => rfl) (fun G hG => c_X12_list hG F.2.2.1.2.1 F.2.1 F.2.2.1.1 F.2.2.1.2.2) (Nat.le_of_ble_eq_true rfl) (by omega) (by omega) (Nat.le_of_ble_eq_true rfl) (fun x2 I2 h2 H2 locs2 hq2 hW2 hP2 hS => ?_)
  obtain ⟨rfl, hR2⟩ := hq2
  refine lv_pop hx hb (dk DL_10 43 rfl).1 rfl ?_
  refine lv_goto (tgt := 1307) hx hb (dk DL_10 44 rfl).1 (by decide) ?_
  exact W.widen (by omega) (by omega) (hend _ _ _ _ _ _ _ _ ⟨hY1, F.2.1.list, hR2, hW2, hP2⟩ (by omega) hS)
set_option maxHeartbeats 4000000 in
set_option maxRecDepth 20000 in
theorem lc_21 {p : Program} {l : Launch} {e : Env} {s : State} {m : MethodId} {below : List Frame} {meth : Method} {c : Code} {b L i k n : Nat} {xs : Nat → Int32} {H : Heap} {locs : List Loc} {ls : Array Slot} {D : va_G} {ci : Nat → ClassId} {b0 : Nat} {E : It} {Li : Nat → Int64} {Ix : It} {hxx : Ht} {Im : It} {hmm : Ht} (C0 : lw_At p s m meth c b L xs) (hKs : ∀ G, gD G = D → gc G = ci → Ks G s) (hb0 : b0 = s.heap.size) (F : LI D ci b0 E Li Ix hxx Im hmm H) (h900 : hn hxx ≤ 900) (hk : k + 1 ≤ 600000) (hnn : n + 6 ≤ 7302250) (hl : lv_has ls 4 (lvs b b0 i)) (hS : va_S (fun q => s.heap.size ≤ q) s.heap H locs) (h7 : i + 7 ≤ L) (hL31 : L < 2 ^ 31)
    (hend : ∀ (E' : It) (L' : Nat → Int64) (Ix' : It) (hx' : Ht) (Im' : It) (hm' : Ht) (H' : Heap) (locs' : List Loc), LI D ci b0 E' L' Ix' hx' Im' hm' H' → hn hx' ≤ hn hxx + 1 → va_S (fun q => s.heap.size ≤ q) s.heap H' locs' → W p l e room_1 s m #[Value.ref b] below meth c H' locs' (k + 1) (n + 6) (lw_Z below #[Value.ref b] s) (F0 m 1307 ls [])) : W p l e room_1 s m #[Value.ref b] below meth c H locs k n (lw_Z below #[Value.ref b] s) (F0 m 855 ls []) := by
  obtain ⟨hx, hb, -, hml, hown, hts0, -, -, -, -⟩ := id C0
  refine lv_aload_n hx hb (dk DL_10 45 rfl).1 rfl (lv_at hl 1 rfl) ?_
  refine kxI (av := []) C0 hKs hb0 F.2.2.2.1 F.1.1.1 F.2.2.1.2.1.1 F.2.2.2.2 hS hl.1 (dk DL_10 46 rfl).1 rfl (tg_4 58 rfl rfl) (tg_4 59 rfl rfl) (tg_4 60 rfl rfl) (tg_1 1 rfl rfl) kX11_looked pmX11_looked (by decide) rfl (fun _ => rfl) (zx_looked gX_ok F.2.1 F.1) (Nat.le_of_ble_eq_true rfl) (by omega) (by omega) (Nat.le_of_ble_eq_true rfl) (fun x1 I1 h1 H1 locs1 hq1 hW1 hP1 hS => ?_)
  obtain ⟨hY1, hn1⟩ := hq1
  refine lv_pop hx hb (dk DL_10 47 rfl).1 rfl ?_
  refine lv_aload_n hx hb (dk DL_10 48 rfl).1 rfl (lv_at hl 2 rfl) ?_
  refine kmI (av := []) C0 hKs hb0 hW1 (by omega) F.2.2.1.2.1 hP1 hS hl.1 (dk DL_10 49 rfl).1 rfl (tg_6 228 rfl rfl) (tg_6 229 rfl rfl) (tg_6 230 rfl rfl) (tg_1 7 rfl rfl) kX12_looked pmX12_looked (by decide) rfl (fun _ => rfl) (fun G hG => c_X12_looked hG F.2.2.1.2.1 F.2.1 F.2.2.1.1 F.2.2.1.2.2) (Nat.le_of_ble_eq_true rfl) (by omega) (by omega) (Nat.le_of_ble_eq_true rfl) (fun x2 I2 h2 H2 locs2 hq2 hW2 hP2 hS => ?_)
  have hR2 := hq2
  refine lv_pop hx hb (dk DL_11 0 rfl).1 rfl ?_
  refine lv_goto (tgt := 1307) hx hb (dk DL_11 1 rfl).1 (by decide) ?_
  exact W.widen (by omega) (by omega) (hend _ _ _ _ _ _ _ _ ⟨hY1, F.2.1, hR2, hW2, hP2⟩ (by omega) hS)
set_option maxHeartbeats 4000000 in
set_option maxRecDepth 20000 in
theorem lc_22 {p : Program} {l : Launch} {e : Env} {s : State} {m : MethodId} {below : List Frame} {meth : Method} {c : Code} {b L i k n : Nat} {xs : Nat → Int32} {H : Heap} {locs : List Loc} {ls : Array Slot} {D : va_G} {ci : Nat → ClassId} {b0 : Nat} {E : It} {Li : Nat → Int64} {Ix : It} {hxx : Ht} {Im : It} {hmm : Ht} (C0 : lw_At p s m meth c b L xs) (hKs : ∀ G, gD G = D → gc G = ci → Ks G s) (hb0 : b0 = s.heap.size) (F : LI D ci b0 E Li Ix hxx Im hmm H) (h900 : hn hxx ≤ 900) (hk : k + 1 ≤ 600000) (hnn : n + 6 ≤ 7302250) (hl : lv_has ls 4 (lvs b b0 i)) (hS : va_S (fun q => s.heap.size ≤ q) s.heap H locs) (h7 : i + 7 ≤ L) (hL31 : L < 2 ^ 31)
    (hend : ∀ (E' : It) (L' : Nat → Int64) (Ix' : It) (hx' : Ht) (Im' : It) (hm' : Ht) (H' : Heap) (locs' : List Loc), LI D ci b0 E' L' Ix' hx' Im' hm' H' → hn hx' ≤ hn hxx + 1 → va_S (fun q => s.heap.size ≤ q) s.heap H' locs' → W p l e room_1 s m #[Value.ref b] below meth c H' locs' (k + 1) (n + 6) (lw_Z below #[Value.ref b] s) (F0 m 1307 ls [])) : W p l e room_1 s m #[Value.ref b] below meth c H locs k n (lw_Z below #[Value.ref b] s) (F0 m 868 ls []) := by
  obtain ⟨hx, hb, -, hml, hown, hts0, -, -, -, -⟩ := id C0
  refine lv_aload_n hx hb (dk DL_11 2 rfl).1 rfl (lv_at hl 1 rfl) ?_
  refine kxI (av := []) C0 hKs hb0 F.2.2.2.1 F.1.1.1 F.2.2.1.2.1.1 F.2.2.2.2 hS hl.1 (dk DL_11 3 rfl).1 rfl (tg_4 71 rfl rfl) (tg_4 72 rfl rfl) (tg_4 73 rfl rfl) (tg_1 1 rfl rfl) kX11_fits pmX11_fits (by decide) rfl (fun _ => rfl) (zx_fits gX_ok F.2.1 F.1) (Nat.le_of_ble_eq_true rfl) (by omega) (by omega) (Nat.le_of_ble_eq_true rfl) (fun x1 I1 h1 H1 locs1 hq1 hW1 hP1 hS => ?_)
  obtain ⟨hY1, hn1⟩ := hq1
  refine lv_pop hx hb (dk DL_11 4 rfl).1 rfl ?_
  refine lv_aload_n hx hb (dk DL_11 5 rfl).1 rfl (lv_at hl 2 rfl) ?_
  refine kmI (av := []) C0 hKs hb0 hW1 (by omega) F.2.2.1.2.1 hP1 hS hl.1 (dk DL_11 6 rfl).1 rfl (tg_6 236 rfl rfl) (tg_6 237 rfl rfl) (tg_6 238 rfl rfl) (tg_1 7 rfl rfl) kX12_fits pmX12_fits (by decide) rfl (fun _ => rfl) (fun G hG => c_X12_fits hG F.2.2.1.2.1 F.2.1 F.2.2.1.1 F.2.2.1.2.2) (Nat.le_of_ble_eq_true rfl) (by omega) (by omega) (Nat.le_of_ble_eq_true rfl) (fun x2 I2 h2 H2 locs2 hq2 hW2 hP2 hS => ?_)
  have hR2 := hq2
  refine lv_pop hx hb (dk DL_11 7 rfl).1 rfl ?_
  refine lv_goto (tgt := 1307) hx hb (dk DL_11 8 rfl).1 (by decide) ?_
  exact W.widen (by omega) (by omega) (hend _ _ _ _ _ _ _ _ ⟨hY1, F.2.1, hR2, hW2, hP2⟩ (by omega) hS)
set_option maxHeartbeats 4000000 in
set_option maxRecDepth 20000 in
theorem lc_23 {p : Program} {l : Launch} {e : Env} {s : State} {m : MethodId} {below : List Frame} {meth : Method} {c : Code} {b L i k n : Nat} {xs : Nat → Int32} {H : Heap} {locs : List Loc} {ls : Array Slot} {D : va_G} {ci : Nat → ClassId} {b0 : Nat} {E : It} {Li : Nat → Int64} {Ix : It} {hxx : Ht} {Im : It} {hmm : Ht} (C0 : lw_At p s m meth c b L xs) (hKs : ∀ G, gD G = D → gc G = ci → Ks G s) (hb0 : b0 = s.heap.size) (F : LI D ci b0 E Li Ix hxx Im hmm H) (h900 : hn hxx ≤ 900) (hk : k + 1 ≤ 600000) (hnn : n + 6 ≤ 7302250) (hl : lv_has ls 4 (lvs b b0 i)) (hS : va_S (fun q => s.heap.size ≤ q) s.heap H locs) (h7 : i + 7 ≤ L) (hL31 : L < 2 ^ 31)
    (hend : ∀ (E' : It) (L' : Nat → Int64) (Ix' : It) (hx' : Ht) (Im' : It) (hm' : Ht) (H' : Heap) (locs' : List Loc), LI D ci b0 E' L' Ix' hx' Im' hm' H' → hn hx' ≤ hn hxx + 1 → va_S (fun q => s.heap.size ≤ q) s.heap H' locs' → W p l e room_1 s m #[Value.ref b] below meth c H' locs' (k + 1) (n + 6) (lw_Z below #[Value.ref b] s) (F0 m 1307 ls [])) : W p l e room_1 s m #[Value.ref b] below meth c H locs k n (lw_Z below #[Value.ref b] s) (F0 m 881 ls []) := by
  obtain ⟨hx, hb, -, hml, hown, hts0, -, -, -, -⟩ := id C0
  refine lv_aload_n hx hb (dk DL_11 9 rfl).1 rfl (lv_at hl 1 rfl) ?_
  refine larg (k0 := 1) C0 hl rfl rfl hS (dk DL_11 10 rfl).1 (dk DL_11 11 rfl).1 (dk DL_11 12 rfl).1 (dk DL_11 13 rfl).1 (dk DL_11 14 rfl).1 rfl (by omega) hL31 ?_
  refine larg (k0 := 2) C0 hl rfl rfl hS (dk DL_11 15 rfl).1 (dk DL_11 16 rfl).1 (dk DL_11 17 rfl).1 (dk DL_11 18 rfl).1 (dk DL_11 19 rfl).1 rfl (by omega) hL31 ?_
  refine kxL (av := [.int (xs (i + 1)), .int (xs (i + 2))]) C0 hKs hb0 F.2.2.2.1 F.1.1.1 F.2.2.1.2.1.1 F.2.2.2.2 hS hl.1 (dk DL_11 20 rfl).1 rfl (tg_4 75 rfl rfl) (tg_4 76 rfl rfl) (tg_4 77 rfl rfl) (tg_1 1 rfl rfl) kX11_chance pmX11_chance (by decide) rfl (fun _ => rfl) (zx_chance gX_ok F.2.1 F.1) (Nat.le_of_ble_eq_true rfl) (by omega) (by omega) (Nat.le_of_ble_eq_true rfl) (fun x1 I1 h1 H1 locs1 hq1 hW1 hP1 hS => ?_)
  obtain ⟨rfl, hY1, hn1⟩ := hq1
  refine lv_pop2_2 hx hb (dk DL_11 21 rfl).1 rfl ?_
  refine lv_aload_n hx hb (dk DL_11 22 rfl).1 rfl (lv_at hl 2 rfl) ?_
  refine larg (k0 := 1) C0 hl rfl rfl hS (dk DL_11 23 rfl).1 (dk DL_11 24 rfl).1 (dk DL_11 25 rfl).1 (dk DL_11 26 rfl).1 (dk DL_11 27 rfl).1 rfl (by omega) hL31 ?_
  refine larg (k0 := 2) C0 hl rfl rfl hS (dk DL_11 28 rfl).1 (dk DL_11 29 rfl).1 (dk DL_11 30 rfl).1 (dk DL_11 31 rfl).1 (dk DL_11 32 rfl).1 rfl (by omega) hL31 ?_
  refine kmL (av := [.int (xs (i + 1)), .int (xs (i + 2))]) C0 hKs hb0 hW1 (by omega) F.2.2.1.2.1 hP1 hS hl.1 (dk DL_11 33 rfl).1 rfl (tg_7 0 rfl rfl) (tg_7 1 rfl rfl) (tg_7 2 rfl rfl) (tg_1 7 rfl rfl) kX12_chance pmX12_chance (by decide) rfl (fun _ => rfl) (fun G hG => c_X12_chance hG F.2.2.1.2.1 F.2.1 F.2.2.1.1 F.2.2.1.2.2) (Nat.le_of_ble_eq_true rfl) (by omega) (by omega) (Nat.le_of_ble_eq_true rfl) (fun x2 I2 h2 H2 locs2 hq2 hW2 hP2 hS => ?_)
  obtain ⟨rfl, hR2⟩ := hq2
  refine lv_pop2_2 hx hb (dk DL_11 34 rfl).1 rfl ?_
  refine lv_goto (tgt := 1307) hx hb (dk DL_11 35 rfl).1 (by decide) ?_
  exact W.widen (by omega) (by omega) (hend _ _ _ _ _ _ _ _ ⟨hY1, F.2.1, hR2, hW2, hP2⟩ (by omega) hS)
