set_option maxHeartbeats 4000000 in
set_option maxRecDepth 20000 in
theorem lc_0 {p : Program} {l : Launch} {e : Env} {s : State} {m : MethodId} {below : List Frame} {meth : Method} {c : Code} {b L i k n : Nat} {xs : Nat → Int32} {H : Heap} {locs : List Loc} {ls : Array Slot} {D : va_G} {ci : Nat → ClassId} {b0 : Nat} {E : It} {Li : Nat → Int64} {Ix : It} {hxx : Ht} {Im : It} {hmm : Ht} (C0 : lw_At p s m meth c b L xs) (hKs : ∀ G, gD G = D → gc G = ci → Ks G s) (hb0 : b0 = s.heap.size) (F : LI D ci b0 E Li Ix hxx Im hmm H) (h900 : hn hxx ≤ 900) (hk : k + 1 ≤ 600000) (hnn : n + 6 ≤ 7302250) (hl : lv_has ls 4 (lvs b b0 i)) (hS : va_S (fun q => s.heap.size ≤ q) s.heap H locs) (h7 : i + 7 ≤ L) (hL31 : L < 2 ^ 31)
    (hend : ∀ (E' : It) (L' : Nat → Int64) (Ix' : It) (hx' : Ht) (Im' : It) (hm' : Ht) (H' : Heap) (locs' : List Loc), LI D ci b0 E' L' Ix' hx' Im' hm' H' → hn hx' ≤ hn hxx + 1 → va_S (fun q => s.heap.size ≤ q) s.heap H' locs' → W p l e room_1 s m #[Value.ref b] below meth c H' locs' (k + 1) (n + 6) (lw_Z below #[Value.ref b] s) (F0 m 1307 ls [])) : W p l e room_1 s m #[Value.ref b] below meth c H locs k n (lw_Z below #[Value.ref b] s) (F0 m 188 ls []) := by
  obtain ⟨hx, hb, -, hml, hown, hts0, -, -, -, -⟩ := id C0
  refine lv_aload_n hx hb (dk DL_0 22 rfl).1 rfl (lv_at hl 1 rfl) ?_
  refine larg (k0 := 1) C0 hl rfl rfl hS (dk DL_0 23 rfl).1 (dk DL_0 24 rfl).1 (dk DL_0 25 rfl).1 (dk DL_0 26 rfl).1 (dk DL_0 27 rfl).1 rfl (by omega) hL31 ?_
  refine larg (k0 := 2) C0 hl rfl rfl hS (dk DL_0 28 rfl).1 (dk DL_0 29 rfl).1 (dk DL_0 30 rfl).1 (dk DL_0 31 rfl).1 (dk DL_0 32 rfl).1 rfl (by omega) hL31 ?_
  refine larg (k0 := 3) C0 hl rfl rfl hS (dk DL_0 33 rfl).1 (dk DL_0 34 rfl).1 (dk DL_0 35 rfl).1 (dk DL_0 36 rfl).1 (dk DL_0 37 rfl).1 rfl (by omega) hL31 ?_
  refine larg (k0 := 4) C0 hl rfl rfl hS (dk DL_0 38 rfl).1 (dk DL_0 39 rfl).1 (dk DL_0 40 rfl).1 (dk DL_0 41 rfl).1 (dk DL_0 42 rfl).1 rfl (by omega) hL31 ?_
  refine larg (k0 := 5) C0 hl rfl rfl hS (dk DL_0 43 rfl).1 (dk DL_0 44 rfl).1 (dk DL_0 45 rfl).1 (dk DL_0 46 rfl).1 (dk DL_0 47 rfl).1 rfl (by omega) hL31 ?_
  refine larg6 (k0 := 6) C0 hl rfl rfl hS (dk DL_0 48 rfl).1 (dk DL_0 49 rfl).1 (dk DL_1 0 rfl).1 (dk DL_1 1 rfl).1 (dk DL_1 2 rfl).1 rfl (by omega) hL31 ?_
  refine kxI (av := [.int (xs (i + 1)), .int (xs (i + 2)), .int (xs (i + 3)), .int (xs (i + 4)), .int (xs (i + 5)), .int (xs (i + 6))]) C0 hKs hb0 F.2.2.2.1 F.1.1.1 F.2.2.1.2.1.1 F.2.2.2.2 hS hl.1 (dk DL_1 3 rfl).1 rfl (tg_2 25 rfl rfl) (tg_2 26 rfl rfl) (tg_2 27 rfl rfl) (tg_1 1 rfl rfl) kX11_doing pmX11_doing (by decide) rfl (fun _ => rfl) (zx_doing gX_ok F.2.1 F.1 (gX_new F.1.1.1.1)) (Nat.le_of_ble_eq_true rfl) (by omega) (by omega) (Nat.le_of_ble_eq_true rfl) (fun x1 I1 h1 H1 locs1 hq1 hW1 hP1 hS => ?_)
  obtain ⟨rfl, hY1, hn1⟩ := hq1
  refine lv_pop hx hb (dk DL_1 4 rfl).1 rfl ?_
  refine lv_aload_n hx hb (dk DL_1 5 rfl).1 rfl (lv_at hl 2 rfl) ?_
  refine larg (k0 := 1) C0 hl rfl rfl hS (dk DL_1 6 rfl).1 (dk DL_1 7 rfl).1 (dk DL_1 8 rfl).1 (dk DL_1 9 rfl).1 (dk DL_1 10 rfl).1 rfl (by omega) hL31 ?_
  refine larg (k0 := 2) C0 hl rfl rfl hS (dk DL_1 11 rfl).1 (dk DL_1 12 rfl).1 (dk DL_1 13 rfl).1 (dk DL_1 14 rfl).1 (dk DL_1 15 rfl).1 rfl (by omega) hL31 ?_
  refine larg (k0 := 3) C0 hl rfl rfl hS (dk DL_1 16 rfl).1 (dk DL_1 17 rfl).1 (dk DL_1 18 rfl).1 (dk DL_1 19 rfl).1 (dk DL_1 20 rfl).1 rfl (by omega) hL31 ?_
  refine larg (k0 := 4) C0 hl rfl rfl hS (dk DL_1 21 rfl).1 (dk DL_1 22 rfl).1 (dk DL_1 23 rfl).1 (dk DL_1 24 rfl).1 (dk DL_1 25 rfl).1 rfl (by omega) hL31 ?_
  refine larg (k0 := 5) C0 hl rfl rfl hS (dk DL_1 26 rfl).1 (dk DL_1 27 rfl).1 (dk DL_1 28 rfl).1 (dk DL_1 29 rfl).1 (dk DL_1 30 rfl).1 rfl (by omega) hL31 ?_
  refine larg6 (k0 := 6) C0 hl rfl rfl hS (dk DL_1 31 rfl).1 (dk DL_1 32 rfl).1 (dk DL_1 33 rfl).1 (dk DL_1 34 rfl).1 (dk DL_1 35 rfl).1 rfl (by omega) hL31 ?_
  refine kmI (av := [.int (xs (i + 1)), .int (xs (i + 2)), .int (xs (i + 3)), .int (xs (i + 4)), .int (xs (i + 5)), .int (xs (i + 6))]) C0 hKs hb0 hW1 (by omega) F.2.2.1.2.1 hP1 hS hl.1 (dk DL_1 36 rfl).1 rfl (tg_5 212 rfl rfl) (tg_5 213 rfl rfl) (tg_5 214 rfl rfl) (tg_1 7 rfl rfl) kX12_doing pmX12_doing (by decide) rfl (fun _ => rfl) (fun G hG => c_X12_doing hG F.2.2.1.2.1 F.2.1 F.2.2.1.1 F.2.2.1.2.2) (Nat.le_of_ble_eq_true rfl) (by omega) (by omega) (Nat.le_of_ble_eq_true rfl) (fun x2 I2 h2 H2 locs2 hq2 hW2 hP2 hS => ?_)
  obtain ⟨rfl, hR2⟩ := hq2
  refine lv_pop hx hb (dk DL_1 37 rfl).1 rfl ?_
  refine lv_goto (tgt := 1307) hx hb (dk DL_1 38 rfl).1 (by decide) ?_
  exact W.widen (by omega) (by omega) (hend _ _ _ _ _ _ _ _ ⟨hY1, F.2.1.doing, hR2, hW2, hP2⟩ (by omega) hS)
set_option maxHeartbeats 4000000 in
set_option maxRecDepth 20000 in
theorem lc_1 {p : Program} {l : Launch} {e : Env} {s : State} {m : MethodId} {below : List Frame} {meth : Method} {c : Code} {b L i k n : Nat} {xs : Nat → Int32} {H : Heap} {locs : List Loc} {ls : Array Slot} {D : va_G} {ci : Nat → ClassId} {b0 : Nat} {E : It} {Li : Nat → Int64} {Ix : It} {hxx : Ht} {Im : It} {hmm : Ht} (C0 : lw_At p s m meth c b L xs) (hKs : ∀ G, gD G = D → gc G = ci → Ks G s) (hb0 : b0 = s.heap.size) (F : LI D ci b0 E Li Ix hxx Im hmm H) (h900 : hn hxx ≤ 900) (hk : k + 1 ≤ 600000) (hnn : n + 6 ≤ 7302250) (hl : lv_has ls 4 (lvs b b0 i)) (hS : va_S (fun q => s.heap.size ≤ q) s.heap H locs) (h7 : i + 7 ≤ L) (hL31 : L < 2 ^ 31)
    (hend : ∀ (E' : It) (L' : Nat → Int64) (Ix' : It) (hx' : Ht) (Im' : It) (hm' : Ht) (H' : Heap) (locs' : List Loc), LI D ci b0 E' L' Ix' hx' Im' hm' H' → hn hx' ≤ hn hxx + 1 → va_S (fun q => s.heap.size ≤ q) s.heap H' locs' → W p l e room_1 s m #[Value.ref b] below meth c H' locs' (k + 1) (n + 6) (lw_Z below #[Value.ref b] s) (F0 m 1307 ls [])) : W p l e room_1 s m #[Value.ref b] below meth c H locs k n (lw_Z below #[Value.ref b] s) (F0 m 263 ls []) := by
  obtain ⟨hx, hb, -, hml, hown, hts0, -, -, -, -⟩ := id C0
  refine lv_aload_n hx hb (dk DL_1 39 rfl).1 rfl (lv_at hl 1 rfl) ?_
  refine larg (k0 := 1) C0 hl rfl rfl hS (dk DL_1 40 rfl).1 (dk DL_1 41 rfl).1 (dk DL_1 42 rfl).1 (dk DL_1 43 rfl).1 (dk DL_1 44 rfl).1 rfl (by omega) hL31 ?_
  refine larg (k0 := 2) C0 hl rfl rfl hS (dk DL_1 45 rfl).1 (dk DL_1 46 rfl).1 (dk DL_1 47 rfl).1 (dk DL_1 48 rfl).1 (dk DL_1 49 rfl).1 rfl (by omega) hL31 ?_
  refine kxI (av := [.int (xs (i + 1)), .int (xs (i + 2))]) C0 hKs hb0 F.2.2.2.1 F.1.1.1 F.2.2.1.2.1.1 F.2.2.2.2 hS hl.1 (dk DL_2 0 rfl).1 rfl (tg_2 172 rfl rfl) (tg_2 173 rfl rfl) (tg_2 174 rfl rfl) (tg_1 1 rfl rfl) kX11_of pmX11_of (by decide) rfl (fun _ => rfl) (zx_of gX_ok F.2.1 F.1) (Nat.le_of_ble_eq_true rfl) (by omega) (by omega) (Nat.le_of_ble_eq_true rfl) (fun x1 I1 h1 H1 locs1 hq1 hW1 hP1 hS => ?_)
  obtain ⟨rfl, hY1, hn1⟩ := hq1
  refine lv_pop hx hb (dk DL_2 1 rfl).1 rfl ?_
  refine lv_aload_n hx hb (dk DL_2 2 rfl).1 rfl (lv_at hl 2 rfl) ?_
  refine larg (k0 := 1) C0 hl rfl rfl hS (dk DL_2 3 rfl).1 (dk DL_2 4 rfl).1 (dk DL_2 5 rfl).1 (dk DL_2 6 rfl).1 (dk DL_2 7 rfl).1 rfl (by omega) hL31 ?_
  refine larg (k0 := 2) C0 hl rfl rfl hS (dk DL_2 8 rfl).1 (dk DL_2 9 rfl).1 (dk DL_2 10 rfl).1 (dk DL_2 11 rfl).1 (dk DL_2 12 rfl).1 rfl (by omega) hL31 ?_
  refine kmI (av := [.int (xs (i + 1)), .int (xs (i + 2))]) C0 hKs hb0 hW1 (by omega) F.2.2.1.2.1 hP1 hS hl.1 (dk DL_2 13 rfl).1 rfl (tg_6 80 rfl rfl) (tg_6 81 rfl rfl) (tg_6 82 rfl rfl) (tg_1 7 rfl rfl) kX12_of pmX12_of (by decide) rfl (fun _ => rfl) (fun G hG => c_X12_of hG F.2.2.1.2.1 F.2.1 F.2.2.1.1 F.2.2.1.2.2) (Nat.le_of_ble_eq_true rfl) (by omega) (by omega) (Nat.le_of_ble_eq_true rfl) (fun x2 I2 h2 H2 locs2 hq2 hW2 hP2 hS => ?_)
  obtain ⟨rfl, hR2⟩ := hq2
  refine lv_pop hx hb (dk DL_2 14 rfl).1 rfl ?_
  refine lv_goto (tgt := 1307) hx hb (dk DL_2 15 rfl).1 (by decide) ?_
  exact W.widen (by omega) (by omega) (hend _ _ _ _ _ _ _ _ ⟨hY1, (by rw [of_2]; exact F.2.1), hR2, hW2, hP2⟩ (by omega) hS)
set_option maxHeartbeats 4000000 in
set_option maxRecDepth 20000 in
theorem lc_2 {p : Program} {l : Launch} {e : Env} {s : State} {m : MethodId} {below : List Frame} {meth : Method} {c : Code} {b L i k n : Nat} {xs : Nat → Int32} {H : Heap} {locs : List Loc} {ls : Array Slot} {D : va_G} {ci : Nat → ClassId} {b0 : Nat} {E : It} {Li : Nat → Int64} {Ix : It} {hxx : Ht} {Im : It} {hmm : Ht} (C0 : lw_At p s m meth c b L xs) (hKs : ∀ G, gD G = D → gc G = ci → Ks G s) (hb0 : b0 = s.heap.size) (F : LI D ci b0 E Li Ix hxx Im hmm H) (h900 : hn hxx ≤ 900) (hk : k + 1 ≤ 600000) (hnn : n + 6 ≤ 7302250) (hl : lv_has ls 4 (lvs b b0 i)) (hS : va_S (fun q => s.heap.size ≤ q) s.heap H locs) (h7 : i + 7 ≤ L) (hL31 : L < 2 ^ 31)
    (hend : ∀ (E' : It) (L' : Nat → Int64) (Ix' : It) (hx' : Ht) (Im' : It) (hm' : Ht) (H' : Heap) (locs' : List Loc), LI D ci b0 E' L' Ix' hx' Im' hm' H' → hn hx' ≤ hn hxx + 1 → va_S (fun q => s.heap.size ≤ q) s.heap H' locs' → W p l e room_1 s m #[Value.ref b] below meth c H' locs' (k + 1) (n + 6) (lw_Z below #[Value.ref b] s) (F0 m 1307 ls [])) : W p l e room_1 s m #[Value.ref b] below meth c H locs k n (lw_Z below #[Value.ref b] s) (F0 m 296 ls []) := by
  obtain ⟨hx, hb, -, hml, hown, hts0, -, -, -, -⟩ := id C0
  refine lv_aload_n hx hb (dk DL_2 16 rfl).1 rfl (lv_at hl 1 rfl) ?_
  refine larg (k0 := 1) C0 hl rfl rfl hS (dk DL_2 17 rfl).1 (dk DL_2 18 rfl).1 (dk DL_2 19 rfl).1 (dk DL_2 20 rfl).1 (dk DL_2 21 rfl).1 rfl (by omega) hL31 ?_
  refine larg (k0 := 2) C0 hl rfl rfl hS (dk DL_2 22 rfl).1 (dk DL_2 23 rfl).1 (dk DL_2 24 rfl).1 (dk DL_2 25 rfl).1 (dk DL_2 26 rfl).1 rfl (by omega) hL31 ?_
  refine lv_if_eq (tgt := 314) hx hb (dk DL_2 27 rfl).1 (by decide) (fun hz => ?_) (fun hz => ?_)
  · refine lv_iconst (v := 0) hx hb (dk DL_2 30 rfl).1 (by decide) ?_
    refine kxI (av := [.int (xs (i + 1)), .int 0]) C0 hKs hb0 F.2.2.2.1 F.1.1.1 F.2.2.1.2.1.1 F.2.2.2.2 hS hl.1 (dk DL_2 31 rfl).1 rfl (tg_3 22 rfl rfl) (tg_3 23 rfl rfl) (tg_3 24 rfl rfl) (tg_1 1 rfl rfl) kX11_needless pmX11_needless (by decide) rfl (fun _ => rfl) (zx_needless gX_ok F.2.1 F.1) (Nat.le_of_ble_eq_true rfl) (by omega) (by omega) (Nat.le_of_ble_eq_true rfl) (fun x1 I1 h1 H1 locs1 hq1 hW1 hP1 hS => ?_)
    obtain ⟨rfl, hY1, hn1⟩ := hq1
    refine lv_pop hx hb (dk DL_2 32 rfl).1 rfl ?_
    refine lv_aload_n hx hb (dk DL_2 33 rfl).1 rfl (lv_at hl 2 rfl) ?_
    refine larg (k0 := 1) C0 hl rfl rfl hS (dk DL_2 34 rfl).1 (dk DL_2 35 rfl).1 (dk DL_2 36 rfl).1 (dk DL_2 37 rfl).1 (dk DL_2 38 rfl).1 rfl (by omega) hL31 ?_
    refine larg (k0 := 2) C0 hl rfl rfl hS (dk DL_2 39 rfl).1 (dk DL_2 40 rfl).1 (dk DL_2 41 rfl).1 (dk DL_2 42 rfl).1 (dk DL_2 43 rfl).1 rfl (by omega) hL31 ?_
    refine lv_if_eq (tgt := 337) hx hb (dk DL_2 44 rfl).1 (by decide) (fun _ => ?_) (fun hc => absurd hz hc)
    refine lv_iconst (v := 0) hx hb (dk DL_2 47 rfl).1 (by decide) ?_
    refine kmI (av := [.int (xs (i + 1)), .int 0]) C0 hKs hb0 hW1 (by omega) F.2.2.1.2.1 hP1 hS hl.1 (dk DL_2 48 rfl).1 rfl (tg_5 224 rfl rfl) (tg_5 225 rfl rfl) (tg_5 226 rfl rfl) (tg_1 7 rfl rfl) kX12_needless pmX12_needless (by decide) rfl (fun _ => rfl) (fun G hG => c_X12_needless hG F.2.2.1.2.1 F.2.1 F.2.2.1.1 F.2.2.1.2.2) (Nat.le_of_ble_eq_true rfl) (by omega) (by omega) (Nat.le_of_ble_eq_true rfl) (fun x2 I2 h2 H2 locs2 hq2 hW2 hP2 hS => ?_)
    obtain ⟨rfl, hR2⟩ := hq2
    refine lv_pop hx hb (dk DL_2 49 rfl).1 rfl ?_
    refine lv_goto (tgt := 1307) hx hb (dk DL_3 0 rfl).1 (by decide) ?_
    exact W.widen (by omega) (by omega) (hend _ _ _ _ _ _ _ _ ⟨hY1, F.2.1.needless, hR2, hW2, hP2⟩ (by omega) hS)
  · refine lv_iconst (v := 1) hx hb (dk DL_2 28 rfl).1 (by decide) ?_
    refine lv_goto (tgt := 315) hx hb (dk DL_2 29 rfl).1 (by decide) ?_
    refine kxI (av := [.int (xs (i + 1)), .int 1]) C0 hKs hb0 F.2.2.2.1 F.1.1.1 F.2.2.1.2.1.1 F.2.2.2.2 hS hl.1 (dk DL_2 31 rfl).1 rfl (tg_3 22 rfl rfl) (tg_3 23 rfl rfl) (tg_3 24 rfl rfl) (tg_1 1 rfl rfl) kX11_needless pmX11_needless (by decide) rfl (fun _ => rfl) (zx_needless gX_ok F.2.1 F.1) (Nat.le_of_ble_eq_true rfl) (by omega) (by omega) (Nat.le_of_ble_eq_true rfl) (fun x1 I1 h1 H1 locs1 hq1 hW1 hP1 hS => ?_)
    obtain ⟨rfl, hY1, hn1⟩ := hq1
    refine lv_pop hx hb (dk DL_2 32 rfl).1 rfl ?_
    refine lv_aload_n hx hb (dk DL_2 33 rfl).1 rfl (lv_at hl 2 rfl) ?_
    refine larg (k0 := 1) C0 hl rfl rfl hS (dk DL_2 34 rfl).1 (dk DL_2 35 rfl).1 (dk DL_2 36 rfl).1 (dk DL_2 37 rfl).1 (dk DL_2 38 rfl).1 rfl (by omega) hL31 ?_
    refine larg (k0 := 2) C0 hl rfl rfl hS (dk DL_2 39 rfl).1 (dk DL_2 40 rfl).1 (dk DL_2 41 rfl).1 (dk DL_2 42 rfl).1 (dk DL_2 43 rfl).1 rfl (by omega) hL31 ?_
    refine lv_if_eq (tgt := 337) hx hb (dk DL_2 44 rfl).1 (by decide) (fun hc => absurd hc hz) (fun _ => ?_)
    refine lv_iconst (v := 1) hx hb (dk DL_2 45 rfl).1 (by decide) ?_
    refine lv_goto (tgt := 338) hx hb (dk DL_2 46 rfl).1 (by decide) ?_
    refine kmI (av := [.int (xs (i + 1)), .int 1]) C0 hKs hb0 hW1 (by omega) F.2.2.1.2.1 hP1 hS hl.1 (dk DL_2 48 rfl).1 rfl (tg_5 224 rfl rfl) (tg_5 225 rfl rfl) (tg_5 226 rfl rfl) (tg_1 7 rfl rfl) kX12_needless pmX12_needless (by decide) rfl (fun _ => rfl) (fun G hG => c_X12_needless hG F.2.2.1.2.1 F.2.1 F.2.2.1.1 F.2.2.1.2.2) (Nat.le_of_ble_eq_true rfl) (by omega) (by omega) (Nat.le_of_ble_eq_true rfl) (fun x2 I2 h2 H2 locs2 hq2 hW2 hP2 hS => ?_)
    obtain ⟨rfl, hR2⟩ := hq2
    refine lv_pop hx hb (dk DL_2 49 rfl).1 rfl ?_
    refine lv_goto (tgt := 1307) hx hb (dk DL_3 0 rfl).1 (by decide) ?_
    exact W.widen (by omega) (by omega) (hend _ _ _ _ _ _ _ _ ⟨hY1, F.2.1.needless, hR2, hW2, hP2⟩ (by omega) hS)
set_option maxHeartbeats 4000000 in
set_option maxRecDepth 20000 in
theorem lc_3 {p : Program} {l : Launch} {e : Env} {s : State} {m : MethodId} {below : List Frame} {meth : Method} {c : Code} {b L i k n : Nat} {xs : Nat → Int32} {H : Heap} {locs : List Loc} {ls : Array Slot} {D : va_G} {ci : Nat → ClassId} {b0 : Nat} {E : It} {Li : Nat → Int64} {Ix : It} {hxx : Ht} {Im : It} {hmm : Ht} (C0 : lw_At p s m meth c b L xs) (hKs : ∀ G, gD G = D → gc G = ci → Ks G s) (hb0 : b0 = s.heap.size) (F : LI D ci b0 E Li Ix hxx Im hmm H) (h900 : hn hxx ≤ 900) (hk : k + 1 ≤ 600000) (hnn : n + 6 ≤ 7302250) (hl : lv_has ls 4 (lvs b b0 i)) (hS : va_S (fun q => s.heap.size ≤ q) s.heap H locs) (h7 : i + 7 ≤ L) (hL31 : L < 2 ^ 31)
    (hend : ∀ (E' : It) (L' : Nat → Int64) (Ix' : It) (hx' : Ht) (Im' : It) (hm' : Ht) (H' : Heap) (locs' : List Loc), LI D ci b0 E' L' Ix' hx' Im' hm' H' → hn hx' ≤ hn hxx + 1 → va_S (fun q => s.heap.size ≤ q) s.heap H' locs' → W p l e room_1 s m #[Value.ref b] below meth c H' locs' (k + 1) (n + 6) (lw_Z below #[Value.ref b] s) (F0 m 1307 ls [])) : W p l e room_1 s m #[Value.ref b] below meth c H locs k n (lw_Z below #[Value.ref b] s) (F0 m 345 ls []) := by
  obtain ⟨hx, hb, -, hml, hown, hts0, -, -, -, -⟩ := id C0
  refine lv_aload_n hx hb (dk DL_3 1 rfl).1 rfl (lv_at hl 1 rfl) ?_
  refine larg (k0 := 1) C0 hl rfl rfl hS (dk DL_3 2 rfl).1 (dk DL_3 3 rfl).1 (dk DL_3 4 rfl).1 (dk DL_3 5 rfl).1 (dk DL_3 6 rfl).1 rfl (by omega) hL31 ?_
  refine larg (k0 := 2) C0 hl rfl rfl hS (dk DL_3 7 rfl).1 (dk DL_3 8 rfl).1 (dk DL_3 9 rfl).1 (dk DL_3 10 rfl).1 (dk DL_3 11 rfl).1 rfl (by omega) hL31 ?_
  refine lv_if_eq (tgt := 363) hx hb (dk DL_3 12 rfl).1 (by decide) (fun hz => ?_) (fun hz => ?_)
  · refine lv_iconst (v := 0) hx hb (dk DL_3 15 rfl).1 (by decide) ?_
    refine kxI (av := [.int (xs (i + 1)), .int 0]) C0 hKs hb0 F.2.2.2.1 F.1.1.1 F.2.2.1.2.1.1 F.2.2.2.2 hS hl.1 (dk DL_3 16 rfl).1 rfl (tg_3 29 rfl rfl) (tg_3 30 rfl rfl) (tg_3 31 rfl rfl) (tg_1 1 rfl rfl) kX11_learn pmX11_learn (by decide) rfl (fun _ => rfl) (zx_learn gX_ok F.2.1 F.1) (Nat.le_of_ble_eq_true rfl) (by omega) (by omega) (Nat.le_of_ble_eq_true rfl) (fun x1 I1 h1 H1 locs1 hq1 hW1 hP1 hS => ?_)
    obtain ⟨rfl, hY1, hn1⟩ := hq1
    refine lv_pop hx hb (dk DL_3 17 rfl).1 rfl ?_
    refine lv_aload_n hx hb (dk DL_3 18 rfl).1 rfl (lv_at hl 2 rfl) ?_
    refine larg (k0 := 1) C0 hl rfl rfl hS (dk DL_3 19 rfl).1 (dk DL_3 20 rfl).1 (dk DL_3 21 rfl).1 (dk DL_3 22 rfl).1 (dk DL_3 23 rfl).1 rfl (by omega) hL31 ?_
    refine larg (k0 := 2) C0 hl rfl rfl hS (dk DL_3 24 rfl).1 (dk DL_3 25 rfl).1 (dk DL_3 26 rfl).1 (dk DL_3 27 rfl).1 (dk DL_3 28 rfl).1 rfl (by omega) hL31 ?_
    refine lv_if_eq (tgt := 386) hx hb (dk DL_3 29 rfl).1 (by decide) (fun _ => ?_) (fun hc => absurd hz hc)
    refine lv_iconst (v := 0) hx hb (dk DL_3 32 rfl).1 (by decide) ?_
    refine kmI (av := [.int (xs (i + 1)), .int 0]) C0 hKs hb0 hW1 (by omega) F.2.2.1.2.1 hP1 hS hl.1 (dk DL_3 33 rfl).1 rfl (tg_5 236 rfl rfl) (tg_5 237 rfl rfl) (tg_5 238 rfl rfl) (tg_1 7 rfl rfl) kX12_learn pmX12_learn (by decide) rfl (fun _ => rfl) (fun G hG => c_X12_learn hG F.2.2.1.2.1 F.2.1 F.2.2.1.1 F.2.2.1.2.2) (Nat.le_of_ble_eq_true rfl) (by omega) (by omega) (Nat.le_of_ble_eq_true rfl) (fun x2 I2 h2 H2 locs2 hq2 hW2 hP2 hS => ?_)
    obtain ⟨rfl, hR2⟩ := hq2
    refine lv_pop hx hb (dk DL_3 34 rfl).1 rfl ?_
    refine lv_goto (tgt := 1307) hx hb (dk DL_3 35 rfl).1 (by decide) ?_
    exact W.widen (by omega) (by omega) (hend _ _ _ _ _ _ _ _ ⟨hY1, F.2.1.learn, hR2, hW2, hP2⟩ (by omega) hS)
  · refine lv_iconst (v := 1) hx hb (dk DL_3 13 rfl).1 (by decide) ?_
    refine lv_goto (tgt := 364) hx hb (dk DL_3 14 rfl).1 (by decide) ?_
    refine kxI (av := [.int (xs (i + 1)), .int 1]) C0 hKs hb0 F.2.2.2.1 F.1.1.1 F.2.2.1.2.1.1 F.2.2.2.2 hS hl.1 (dk DL_3 16 rfl).1 rfl (tg_3 29 rfl rfl) (tg_3 30 rfl rfl) (tg_3 31 rfl rfl) (tg_1 1 rfl rfl) kX11_learn pmX11_learn (by decide) rfl (fun _ => rfl) (zx_learn gX_ok F.2.1 F.1) (Nat.le_of_ble_eq_true rfl) (by omega) (by omega) (Nat.le_of_ble_eq_true rfl) (fun x1 I1 h1 H1 locs1 hq1 hW1 hP1 hS => ?_)
    obtain ⟨rfl, hY1, hn1⟩ := hq1
    refine lv_pop hx hb (dk DL_3 17 rfl).1 rfl ?_
    refine lv_aload_n hx hb (dk DL_3 18 rfl).1 rfl (lv_at hl 2 rfl) ?_
    refine larg (k0 := 1) C0 hl rfl rfl hS (dk DL_3 19 rfl).1 (dk DL_3 20 rfl).1 (dk DL_3 21 rfl).1 (dk DL_3 22 rfl).1 (dk DL_3 23 rfl).1 rfl (by omega) hL31 ?_
    refine larg (k0 := 2) C0 hl rfl rfl hS (dk DL_3 24 rfl).1 (dk DL_3 25 rfl).1 (dk DL_3 26 rfl).1 (dk DL_3 27 rfl).1 (dk DL_3 28 rfl).1 rfl (by omega) hL31 ?_
    refine lv_if_eq (tgt := 386) hx hb (dk DL_3 29 rfl).1 (by decide) (fun hc => absurd hc hz) (fun _ => ?_)
    refine lv_iconst (v := 1) hx hb (dk DL_3 30 rfl).1 (by decide) ?_
    refine lv_goto (tgt := 387) hx hb (dk DL_3 31 rfl).1 (by decide) ?_
    refine kmI (av := [.int (xs (i + 1)), .int 1]) C0 hKs hb0 hW1 (by omega) F.2.2.1.2.1 hP1 hS hl.1 (dk DL_3 33 rfl).1 rfl (tg_5 236 rfl rfl) (tg_5 237 rfl rfl) (tg_5 238 rfl rfl) (tg_1 7 rfl rfl) kX12_learn pmX12_learn (by decide) rfl (fun _ => rfl) (fun G hG => c_X12_learn hG F.2.2.1.2.1 F.2.1 F.2.2.1.1 F.2.2.1.2.2) (Nat.le_of_ble_eq_true rfl) (by omega) (by omega) (Nat.le_of_ble_eq_true rfl) (fun x2 I2 h2 H2 locs2 hq2 hW2 hP2 hS => ?_)
    obtain ⟨rfl, hR2⟩ := hq2
    refine lv_pop hx hb (dk DL_3 34 rfl).1 rfl ?_
    refine lv_goto (tgt := 1307) hx hb (dk DL_3 35 rfl).1 (by decide) ?_
    exact W.widen (by omega) (by omega) (hend _ _ _ _ _ _ _ _ ⟨hY1, F.2.1.learn, hR2, hW2, hP2⟩ (by omega) hS)
set_option maxHeartbeats 4000000 in
set_option maxRecDepth 20000 in
theorem lc_4 {p : Program} {l : Launch} {e : Env} {s : State} {m : MethodId} {below : List Frame} {meth : Method} {c : Code} {b L i k n : Nat} {xs : Nat → Int32} {H : Heap} {locs : List Loc} {ls : Array Slot} {D : va_G} {ci : Nat → ClassId} {b0 : Nat} {E : It} {Li : Nat → Int64} {Ix : It} {hxx : Ht} {Im : It} {hmm : Ht} (C0 : lw_At p s m meth c b L xs) (hKs : ∀ G, gD G = D → gc G = ci → Ks G s) (hb0 : b0 = s.heap.size) (F : LI D ci b0 E Li Ix hxx Im hmm H) (h900 : hn hxx ≤ 900) (hk : k + 1 ≤ 600000) (hnn : n + 6 ≤ 7302250) (hl : lv_has ls 4 (lvs b b0 i)) (hS : va_S (fun q => s.heap.size ≤ q) s.heap H locs) (h7 : i + 7 ≤ L) (hL31 : L < 2 ^ 31)
    (hend : ∀ (E' : It) (L' : Nat → Int64) (Ix' : It) (hx' : Ht) (Im' : It) (hm' : Ht) (H' : Heap) (locs' : List Loc), LI D ci b0 E' L' Ix' hx' Im' hm' H' → hn hx' ≤ hn hxx + 1 → va_S (fun q => s.heap.size ≤ q) s.heap H' locs' → W p l e room_1 s m #[Value.ref b] below meth c H' locs' (k + 1) (n + 6) (lw_Z below #[Value.ref b] s) (F0 m 1307 ls [])) : W p l e room_1 s m #[Value.ref b] below meth c H locs k n (lw_Z below #[Value.ref b] s) (F0 m 394 ls []) := by
  obtain ⟨hx, hb, -, hml, hown, hts0, -, -, -, -⟩ := id C0
  refine lv_aload_n hx hb (dk DL_3 36 rfl).1 rfl (lv_at hl 1 rfl) ?_
  refine larg (k0 := 1) C0 hl rfl rfl hS (dk DL_3 37 rfl).1 (dk DL_3 38 rfl).1 (dk DL_3 39 rfl).1 (dk DL_3 40 rfl).1 (dk DL_3 41 rfl).1 rfl (by omega) hL31 ?_
  refine larg (k0 := 2) C0 hl rfl rfl hS (dk DL_3 42 rfl).1 (dk DL_3 43 rfl).1 (dk DL_3 44 rfl).1 (dk DL_3 45 rfl).1 (dk DL_3 46 rfl).1 rfl (by omega) hL31 ?_
  refine kxI (av := [.int (xs (i + 1)), .int (xs (i + 2))]) C0 hKs hb0 F.2.2.2.1 F.1.1.1 F.2.2.1.2.1.1 F.2.2.2.2 hS hl.1 (dk DL_3 47 rfl).1 rfl (tg_3 33 rfl rfl) (tg_3 34 rfl rfl) (tg_3 35 rfl rfl) (tg_1 1 rfl rfl) kX11_odds pmX11_odds (by decide) rfl (fun _ => rfl) (zx_odds gX_ok F.2.1 F.1) (Nat.le_of_ble_eq_true rfl) (by omega) (by omega) (Nat.le_of_ble_eq_true rfl) (fun x1 I1 h1 H1 locs1 hq1 hW1 hP1 hS => ?_)
  obtain ⟨rfl, hY1, hn1⟩ := hq1
  refine lv_pop hx hb (dk DL_3 48 rfl).1 rfl ?_
  refine lv_aload_n hx hb (dk DL_3 49 rfl).1 rfl (lv_at hl 2 rfl) ?_
  refine larg (k0 := 1) C0 hl rfl rfl hS (dk DL_4 0 rfl).1 (dk DL_4 1 rfl).1 (dk DL_4 2 rfl).1 (dk DL_4 3 rfl).1 (dk DL_4 4 rfl).1 rfl (by omega) hL31 ?_
  refine larg (k0 := 2) C0 hl rfl rfl hS (dk DL_4 5 rfl).1 (dk DL_4 6 rfl).1 (dk DL_4 7 rfl).1 (dk DL_4 8 rfl).1 (dk DL_4 9 rfl).1 rfl (by omega) hL31 ?_
  refine kmI (av := [.int (xs (i + 1)), .int (xs (i + 2))]) C0 hKs hb0 hW1 (by omega) F.2.2.1.2.1 hP1 hS hl.1 (dk DL_4 10 rfl).1 rfl (tg_6 0 rfl rfl) (tg_6 1 rfl rfl) (tg_6 2 rfl rfl) (tg_1 7 rfl rfl) kX12_odds pmX12_odds (by decide) rfl (fun _ => rfl) (fun G hG => c_X12_odds hG F.2.2.1.2.1 F.2.1 F.2.2.1.1 F.2.2.1.2.2) (Nat.le_of_ble_eq_true rfl) (by omega) (by omega) (Nat.le_of_ble_eq_true rfl) (fun x2 I2 h2 H2 locs2 hq2 hW2 hP2 hS => ?_)
  obtain ⟨rfl, hR2⟩ := hq2
  refine lv_pop hx hb (dk DL_4 11 rfl).1 rfl ?_
  refine lv_goto (tgt := 1307) hx hb (dk DL_4 12 rfl).1 (by decide) ?_
  exact W.widen (by omega) (by omega) (hend _ _ _ _ _ _ _ _ ⟨hY1, F.2.1.odds, hR2, hW2, hP2⟩ (by omega) hS)
set_option maxHeartbeats 4000000 in
set_option maxRecDepth 20000 in
theorem lc_5 {p : Program} {l : Launch} {e : Env} {s : State} {m : MethodId} {below : List Frame} {meth : Method} {c : Code} {b L i k n : Nat} {xs : Nat → Int32} {H : Heap} {locs : List Loc} {ls : Array Slot} {D : va_G} {ci : Nat → ClassId} {b0 : Nat} {E : It} {Li : Nat → Int64} {Ix : It} {hxx : Ht} {Im : It} {hmm : Ht} (C0 : lw_At p s m meth c b L xs) (hKs : ∀ G, gD G = D → gc G = ci → Ks G s) (hb0 : b0 = s.heap.size) (F : LI D ci b0 E Li Ix hxx Im hmm H) (h900 : hn hxx ≤ 900) (hk : k + 1 ≤ 600000) (hnn : n + 6 ≤ 7302250) (hl : lv_has ls 4 (lvs b b0 i)) (hS : va_S (fun q => s.heap.size ≤ q) s.heap H locs) (h7 : i + 7 ≤ L) (hL31 : L < 2 ^ 31)
    (hend : ∀ (E' : It) (L' : Nat → Int64) (Ix' : It) (hx' : Ht) (Im' : It) (hm' : Ht) (H' : Heap) (locs' : List Loc), LI D ci b0 E' L' Ix' hx' Im' hm' H' → hn hx' ≤ hn hxx + 1 → va_S (fun q => s.heap.size ≤ q) s.heap H' locs' → W p l e room_1 s m #[Value.ref b] below meth c H' locs' (k + 1) (n + 6) (lw_Z below #[Value.ref b] s) (F0 m 1307 ls [])) : W p l e room_1 s m #[Value.ref b] below meth c H locs k n (lw_Z below #[Value.ref b] s) (F0 m 427 ls []) := by
  obtain ⟨hx, hb, -, hml, hown, hts0, -, -, -, -⟩ := id C0
  refine lv_aload_n hx hb (dk DL_4 13 rfl).1 rfl (lv_at hl 1 rfl) ?_
  refine larg (k0 := 1) C0 hl rfl rfl hS (dk DL_4 14 rfl).1 (dk DL_4 15 rfl).1 (dk DL_4 16 rfl).1 (dk DL_4 17 rfl).1 (dk DL_4 18 rfl).1 rfl (by omega) hL31 ?_
  refine larg (k0 := 2) C0 hl rfl rfl hS (dk DL_4 19 rfl).1 (dk DL_4 20 rfl).1 (dk DL_4 21 rfl).1 (dk DL_4 22 rfl).1 (dk DL_4 23 rfl).1 rfl (by omega) hL31 ?_
  refine kxI (av := [.int (xs (i + 1)), .int (xs (i + 2))]) C0 hKs hb0 F.2.2.2.1 F.1.1.1 F.2.2.1.2.1.1 F.2.2.2.2 hS hl.1 (dk DL_4 24 rfl).1 rfl (tg_3 37 rfl rfl) (tg_3 38 rfl rfl) (tg_3 39 rfl rfl) (tg_1 1 rfl rfl) kX11_hours pmX11_hours (by decide) rfl (fun _ => rfl) (zx_hours gX_ok F.2.1 F.1) (Nat.le_of_ble_eq_true rfl) (by omega) (by omega) (Nat.le_of_ble_eq_true rfl) (fun x1 I1 h1 H1 locs1 hq1 hW1 hP1 hS => ?_)
  obtain ⟨rfl, hY1, hn1⟩ := hq1
  refine lv_pop hx hb (dk DL_4 25 rfl).1 rfl ?_
  refine lv_aload_n hx hb (dk DL_4 26 rfl).1 rfl (lv_at hl 2 rfl) ?_
  refine larg (k0 := 1) C0 hl rfl rfl hS (dk DL_4 27 rfl).1 (dk DL_4 28 rfl).1 (dk DL_4 29 rfl).1 (dk DL_4 30 rfl).1 (dk DL_4 31 rfl).1 rfl (by omega) hL31 ?_
  refine larg (k0 := 2) C0 hl rfl rfl hS (dk DL_4 32 rfl).1 (dk DL_4 33 rfl).1 (dk DL_4 34 rfl).1 (dk DL_4 35 rfl).1 (dk DL_4 36 rfl).1 rfl (by omega) hL31 ?_
  refine kmI (av := [.int (xs (i + 1)), .int (xs (i + 2))]) C0 hKs hb0 hW1 (by omega) F.2.2.1.2.1 hP1 hS hl.1 (dk DL_4 37 rfl).1 rfl (tg_6 4 rfl rfl) (tg_6 5 rfl rfl) (tg_6 6 rfl rfl) (tg_1 7 rfl rfl) kX12_hours pmX12_hours (by decide) rfl (fun _ => rfl) (fun G hG => c_X12_hours hG F.2.2.1.2.1 F.2.1 F.2.2.1.1 F.2.2.1.2.2) (Nat.le_of_ble_eq_true rfl) (by omega) (by omega) (Nat.le_of_ble_eq_true rfl) (fun x2 I2 h2 H2 locs2 hq2 hW2 hP2 hS => ?_)
  obtain ⟨rfl, hR2⟩ := hq2
  refine lv_pop hx hb (dk DL_4 38 rfl).1 rfl ?_
  refine lv_goto (tgt := 1307) hx hb (dk DL_4 39 rfl).1 (by decide) ?_
  exact W.widen (by omega) (by omega) (hend _ _ _ _ _ _ _ _ ⟨hY1, F.2.1.hours, hR2, hW2, hP2⟩ (by omega) hS)
set_option maxHeartbeats 4000000 in
set_option maxRecDepth 20000 in
theorem lc_6 {p : Program} {l : Launch} {e : Env} {s : State} {m : MethodId} {below : List Frame} {meth : Method} {c : Code} {b L i k n : Nat} {xs : Nat → Int32} {H : Heap} {locs : List Loc} {ls : Array Slot} {D : va_G} {ci : Nat → ClassId} {b0 : Nat} {E : It} {Li : Nat → Int64} {Ix : It} {hxx : Ht} {Im : It} {hmm : Ht} (C0 : lw_At p s m meth c b L xs) (hKs : ∀ G, gD G = D → gc G = ci → Ks G s) (hb0 : b0 = s.heap.size) (F : LI D ci b0 E Li Ix hxx Im hmm H) (h900 : hn hxx ≤ 900) (hk : k + 1 ≤ 600000) (hnn : n + 6 ≤ 7302250) (hl : lv_has ls 4 (lvs b b0 i)) (hS : va_S (fun q => s.heap.size ≤ q) s.heap H locs) (h7 : i + 7 ≤ L) (hL31 : L < 2 ^ 31)
    (hend : ∀ (E' : It) (L' : Nat → Int64) (Ix' : It) (hx' : Ht) (Im' : It) (hm' : Ht) (H' : Heap) (locs' : List Loc), LI D ci b0 E' L' Ix' hx' Im' hm' H' → hn hx' ≤ hn hxx + 1 → va_S (fun q => s.heap.size ≤ q) s.heap H' locs' → W p l e room_1 s m #[Value.ref b] below meth c H' locs' (k + 1) (n + 6) (lw_Z below #[Value.ref b] s) (F0 m 1307 ls [])) : W p l e room_1 s m #[Value.ref b] below meth c H locs k n (lw_Z below #[Value.ref b] s) (F0 m 460 ls []) := by
  obtain ⟨hx, hb, -, hml, hown, hts0, -, -, -, -⟩ := id C0
  refine lv_aload_n hx hb (dk DL_4 40 rfl).1 rfl (lv_at hl 1 rfl) ?_
  refine larg (k0 := 1) C0 hl rfl rfl hS (dk DL_4 41 rfl).1 (dk DL_4 42 rfl).1 (dk DL_4 43 rfl).1 (dk DL_4 44 rfl).1 (dk DL_4 45 rfl).1 rfl (by omega) hL31 ?_
  refine kxI (av := [.int (xs (i + 1))]) C0 hKs hb0 F.2.2.2.1 F.1.1.1 F.2.2.1.2.1.1 F.2.2.2.2 hS hl.1 (dk DL_4 46 rfl).1 rfl (tg_3 41 rfl rfl) (tg_3 42 rfl rfl) (tg_3 43 rfl rfl) (tg_1 1 rfl rfl) kX11_feed pmX11_feed (by decide) rfl (fun _ => rfl) (zx_feed gX_ok F.2.1 F.1) (Nat.le_of_ble_eq_true rfl) (by omega) (by omega) (Nat.le_of_ble_eq_true rfl) (fun x1 I1 h1 H1 locs1 hq1 hW1 hP1 hS => ?_)
  obtain ⟨rfl, hY1, hn1⟩ := hq1
  refine lv_pop hx hb (dk DL_4 47 rfl).1 rfl ?_
  refine lv_aload_n hx hb (dk DL_4 48 rfl).1 rfl (lv_at hl 2 rfl) ?_
  refine larg (k0 := 1) C0 hl rfl rfl hS (dk DL_4 49 rfl).1 (dk DL_5 0 rfl).1 (dk DL_5 1 rfl).1 (dk DL_5 2 rfl).1 (dk DL_5 3 rfl).1 rfl (by omega) hL31 ?_
  refine kmI (av := [.int (xs (i + 1))]) C0 hKs hb0 hW1 (by omega) F.2.2.1.2.1 hP1 hS hl.1 (dk DL_5 4 rfl).1 rfl (tg_6 12 rfl rfl) (tg_6 13 rfl rfl) (tg_6 14 rfl rfl) (tg_1 7 rfl rfl) kX12_feed pmX12_feed (by decide) rfl (fun _ => rfl) (fun G hG => c_X12_feed hG F.2.2.1.2.1 F.2.1 F.2.2.1.1 F.2.2.1.2.2) (Nat.le_of_ble_eq_true rfl) (by omega) (by omega) (Nat.le_of_ble_eq_true rfl) (fun x2 I2 h2 H2 locs2 hq2 hW2 hP2 hS => ?_)
  obtain ⟨rfl, hR2⟩ := hq2
  refine lv_pop hx hb (dk DL_5 5 rfl).1 rfl ?_
  refine lv_goto (tgt := 1307) hx hb (dk DL_5 6 rfl).1 (by decide) ?_
  exact W.widen (by omega) (by omega) (hend _ _ _ _ _ _ _ _ ⟨hY1, F.2.1.feed, hR2, hW2, hP2⟩ (by omega) hS)
set_option maxHeartbeats 4000000 in
set_option maxRecDepth 20000 in
theorem lc_7 {p : Program} {l : Launch} {e : Env} {s : State} {m : MethodId} {below : List Frame} {meth : Method} {c : Code} {b L i k n : Nat} {xs : Nat → Int32} {H : Heap} {locs : List Loc} {ls : Array Slot} {D : va_G} {ci : Nat → ClassId} {b0 : Nat} {E : It} {Li : Nat → Int64} {Ix : It} {hxx : Ht} {Im : It} {hmm : Ht} (C0 : lw_At p s m meth c b L xs) (hKs : ∀ G, gD G = D → gc G = ci → Ks G s) (hb0 : b0 = s.heap.size) (F : LI D ci b0 E Li Ix hxx Im hmm H) (h900 : hn hxx ≤ 900) (hk : k + 1 ≤ 600000) (hnn : n + 6 ≤ 7302250) (hl : lv_has ls 4 (lvs b b0 i)) (hS : va_S (fun q => s.heap.size ≤ q) s.heap H locs) (h7 : i + 7 ≤ L) (hL31 : L < 2 ^ 31)
    (hend : ∀ (E' : It) (L' : Nat → Int64) (Ix' : It) (hx' : Ht) (Im' : It) (hm' : Ht) (H' : Heap) (locs' : List Loc), LI D ci b0 E' L' Ix' hx' Im' hm' H' → hn hx' ≤ hn hxx + 1 → va_S (fun q => s.heap.size ≤ q) s.heap H' locs' → W p l e room_1 s m #[Value.ref b] below meth c H' locs' (k + 1) (n + 6) (lw_Z below #[Value.ref b] s) (F0 m 1307 ls [])) : W p l e room_1 s m #[Value.ref b] below meth c H locs k n (lw_Z below #[Value.ref b] s) (F0 m 483 ls []) := by
  obtain ⟨hx, hb, -, hml, hown, hts0, -, -, -, -⟩ := id C0
  refine lv_aload_n hx hb (dk DL_5 7 rfl).1 rfl (lv_at hl 1 rfl) ?_
  refine kxI (av := []) C0 hKs hb0 F.2.2.2.1 F.1.1.1 F.2.2.1.2.1.1 F.2.2.2.2 hS hl.1 (dk DL_5 8 rfl).1 rfl (tg_3 45 rfl rfl) (tg_3 46 rfl rfl) (tg_3 47 rfl rfl) (tg_1 1 rfl rfl) kX11_post pmX11_post (by decide) rfl (fun _ => rfl) (zx_post gX_ok F.2.1 F.1) (Nat.le_of_ble_eq_true rfl) (by omega) (by omega) (Nat.le_of_ble_eq_true rfl) (fun x1 I1 h1 H1 locs1 hq1 hW1 hP1 hS => ?_)
  obtain ⟨hY1, hn1⟩ := hq1
  refine lv_aload_n hx hb (dk DL_5 9 rfl).1 rfl (lv_at hl 2 rfl) ?_
  refine kmI (av := []) C0 hKs hb0 hW1 (by omega) F.2.2.1.2.1 hP1 hS hl.1 (dk DL_5 10 rfl).1 rfl (tg_6 16 rfl rfl) (tg_6 17 rfl rfl) (tg_6 18 rfl rfl) (tg_1 7 rfl rfl) kX12_post pmX12_post (by decide) rfl (fun _ => rfl) (fun G hG => c_X12_post hG F.2.2.1.2.1 F.2.1 F.2.2.1.1 F.2.2.1.2.2) (Nat.le_of_ble_eq_true rfl) (by omega) (by omega) (Nat.le_of_ble_eq_true rfl) (fun x2 I2 h2 H2 locs2 hq2 hW2 hP2 hS => ?_)
  obtain ⟨E2, hpo, hR2⟩ := hq2
  obtain ⟨e1, hY1⟩ := hY1 _ _ hpo
  subst e1
  refine lv_icmp_eq (tgt := 1307) hx hb (dk DL_5 11 rfl).1 (by decide) (fun _ => ?_) (fun hc => absurd rfl hc)
  exact W.widen (by omega) (by omega) (hend _ _ _ _ _ _ _ _ ⟨hY1, (PoS.inv F.2.1 hpo), hR2, hW2, hP2⟩ (by omega) hS)
set_option maxHeartbeats 4000000 in
set_option maxRecDepth 20000 in
theorem lc_8 {p : Program} {l : Launch} {e : Env} {s : State} {m : MethodId} {below : List Frame} {meth : Method} {c : Code} {b L i k n : Nat} {xs : Nat → Int32} {H : Heap} {locs : List Loc} {ls : Array Slot} {D : va_G} {ci : Nat → ClassId} {b0 : Nat} {E : It} {Li : Nat → Int64} {Ix : It} {hxx : Ht} {Im : It} {hmm : Ht} (C0 : lw_At p s m meth c b L xs) (hKs : ∀ G, gD G = D → gc G = ci → Ks G s) (hb0 : b0 = s.heap.size) (F : LI D ci b0 E Li Ix hxx Im hmm H) (h900 : hn hxx ≤ 900) (hk : k + 1 ≤ 600000) (hnn : n + 6 ≤ 7302250) (hl : lv_has ls 4 (lvs b b0 i)) (hS : va_S (fun q => s.heap.size ≤ q) s.heap H locs) (h7 : i + 7 ≤ L) (hL31 : L < 2 ^ 31)
    (hend : ∀ (E' : It) (L' : Nat → Int64) (Ix' : It) (hx' : Ht) (Im' : It) (hm' : Ht) (H' : Heap) (locs' : List Loc), LI D ci b0 E' L' Ix' hx' Im' hm' H' → hn hx' ≤ hn hxx + 1 → va_S (fun q => s.heap.size ≤ q) s.heap H' locs' → W p l e room_1 s m #[Value.ref b] below meth c H' locs' (k + 1) (n + 6) (lw_Z below #[Value.ref b] s) (F0 m 1307 ls [])) : W p l e room_1 s m #[Value.ref b] below meth c H locs k n (lw_Z below #[Value.ref b] s) (F0 m 496 ls []) := by
  obtain ⟨hx, hb, -, hml, hown, hts0, -, -, -, -⟩ := id C0
  refine lv_aload_n hx hb (dk DL_5 14 rfl).1 rfl (lv_at hl 1 rfl) ?_
  refine larg (k0 := 1) C0 hl rfl rfl hS (dk DL_5 15 rfl).1 (dk DL_5 16 rfl).1 (dk DL_5 17 rfl).1 (dk DL_5 18 rfl).1 (dk DL_5 19 rfl).1 rfl (by omega) hL31 ?_
  refine kxI (av := [.int (xs (i + 1))]) C0 hKs hb0 F.2.2.2.1 F.1.1.1 F.2.2.1.2.1.1 F.2.2.2.2 hS hl.1 (dk DL_5 20 rfl).1 rfl (tg_3 100 rfl rfl) (tg_3 101 rfl rfl) (tg_3 102 rfl rfl) (tg_1 1 rfl rfl) kX11_told pmX11_told (by decide) rfl (fun _ => rfl) (zx_told gX_ok F.2.1 F.1) (Nat.le_of_ble_eq_true rfl) (by omega) (by omega) (Nat.le_of_ble_eq_true rfl) (fun x1 I1 h1 H1 locs1 hq1 hW1 hP1 hS => ?_)
  obtain ⟨rfl, hY1, hn1⟩ := hq1
  refine lv_pop hx hb (dk DL_5 21 rfl).1 rfl ?_
  refine lv_aload_n hx hb (dk DL_5 22 rfl).1 rfl (lv_at hl 2 rfl) ?_
  refine larg (k0 := 1) C0 hl rfl rfl hS (dk DL_5 23 rfl).1 (dk DL_5 24 rfl).1 (dk DL_5 25 rfl).1 (dk DL_5 26 rfl).1 (dk DL_5 27 rfl).1 rfl (by omega) hL31 ?_
  refine kmI (av := [.int (xs (i + 1))]) C0 hKs hb0 hW1 (by omega) F.2.2.1.2.1 hP1 hS hl.1 (dk DL_5 28 rfl).1 rfl (tg_6 120 rfl rfl) (tg_6 121 rfl rfl) (tg_6 122 rfl rfl) (tg_1 7 rfl rfl) kX12_told pmX12_told (by decide) rfl (fun _ => rfl) (fun G hG => c_X12_told hG F.2.2.1.2.1 F.2.1 F.2.2.1.1 F.2.2.1.2.2) (Nat.le_of_ble_eq_true rfl) (by omega) (by omega) (Nat.le_of_ble_eq_true rfl) (fun x2 I2 h2 H2 locs2 hq2 hW2 hP2 hS => ?_)
  obtain ⟨rfl, hR2⟩ := hq2
  refine lv_pop hx hb (dk DL_5 29 rfl).1 rfl ?_
  refine lv_goto (tgt := 1307) hx hb (dk DL_5 30 rfl).1 (by decide) ?_
  exact W.widen (by omega) (by omega) (hend _ _ _ _ _ _ _ _ ⟨hY1, (by rw [told_2]; exact F.2.1), hR2, hW2, hP2⟩ (by omega) hS)
set_option maxHeartbeats 4000000 in
set_option maxRecDepth 20000 in
theorem lc_9 {p : Program} {l : Launch} {e : Env} {s : State} {m : MethodId} {below : List Frame} {meth : Method} {c : Code} {b L i k n : Nat} {xs : Nat → Int32} {H : Heap} {locs : List Loc} {ls : Array Slot} {D : va_G} {ci : Nat → ClassId} {b0 : Nat} {E : It} {Li : Nat → Int64} {Ix : It} {hxx : Ht} {Im : It} {hmm : Ht} (C0 : lw_At p s m meth c b L xs) (hKs : ∀ G, gD G = D → gc G = ci → Ks G s) (hb0 : b0 = s.heap.size) (F : LI D ci b0 E Li Ix hxx Im hmm H) (h900 : hn hxx ≤ 900) (hk : k + 1 ≤ 600000) (hnn : n + 6 ≤ 7302250) (hl : lv_has ls 4 (lvs b b0 i)) (hS : va_S (fun q => s.heap.size ≤ q) s.heap H locs) (h7 : i + 7 ≤ L) (hL31 : L < 2 ^ 31)
    (hend : ∀ (E' : It) (L' : Nat → Int64) (Ix' : It) (hx' : Ht) (Im' : It) (hm' : Ht) (H' : Heap) (locs' : List Loc), LI D ci b0 E' L' Ix' hx' Im' hm' H' → hn hx' ≤ hn hxx + 1 → va_S (fun q => s.heap.size ≤ q) s.heap H' locs' → W p l e room_1 s m #[Value.ref b] below meth c H' locs' (k + 1) (n + 6) (lw_Z below #[Value.ref b] s) (F0 m 1307 ls [])) : W p l e room_1 s m #[Value.ref b] below meth c H locs k n (lw_Z below #[Value.ref b] s) (F0 m 519 ls []) := by
  obtain ⟨hx, hb, -, hml, hown, hts0, -, -, -, -⟩ := id C0
  refine lv_aload_n hx hb (dk DL_5 31 rfl).1 rfl (lv_at hl 1 rfl) ?_
  refine larg (k0 := 1) C0 hl rfl rfl hS (dk DL_5 32 rfl).1 (dk DL_5 33 rfl).1 (dk DL_5 34 rfl).1 (dk DL_5 35 rfl).1 (dk DL_5 36 rfl).1 rfl (by omega) hL31 ?_
  refine larg (k0 := 2) C0 hl rfl rfl hS (dk DL_5 37 rfl).1 (dk DL_5 38 rfl).1 (dk DL_5 39 rfl).1 (dk DL_5 40 rfl).1 (dk DL_5 41 rfl).1 rfl (by omega) hL31 ?_
  refine kxI (av := [.int (xs (i + 1)), .int (xs (i + 2))]) C0 hKs hb0 F.2.2.2.1 F.1.1.1 F.2.2.1.2.1.1 F.2.2.2.2 hS hl.1 (dk DL_5 42 rfl).1 rfl (tg_3 112 rfl rfl) (tg_3 113 rfl rfl) (tg_3 114 rfl rfl) (tg_1 1 rfl rfl) kX11_said pmX11_said (by decide) rfl (fun _ => rfl) (zx_said gX_ok F.2.1 F.1) (Nat.le_of_ble_eq_true rfl) (by omega) (by omega) (Nat.le_of_ble_eq_true rfl) (fun x1 I1 h1 H1 locs1 hq1 hW1 hP1 hS => ?_)
  obtain ⟨rfl, hY1, hn1⟩ := hq1
  refine lv_pop hx hb (dk DL_5 43 rfl).1 rfl ?_
  refine lv_aload_n hx hb (dk DL_5 44 rfl).1 rfl (lv_at hl 2 rfl) ?_
  refine larg (k0 := 1) C0 hl rfl rfl hS (dk DL_5 45 rfl).1 (dk DL_5 46 rfl).1 (dk DL_5 47 rfl).1 (dk DL_5 48 rfl).1 (dk DL_5 49 rfl).1 rfl (by omega) hL31 ?_
  refine larg (k0 := 2) C0 hl rfl rfl hS (dk DL_6 0 rfl).1 (dk DL_6 1 rfl).1 (dk DL_6 2 rfl).1 (dk DL_6 3 rfl).1 (dk DL_6 4 rfl).1 rfl (by omega) hL31 ?_
  refine kmI (av := [.int (xs (i + 1)), .int (xs (i + 2))]) C0 hKs hb0 hW1 (by omega) F.2.2.1.2.1 hP1 hS hl.1 (dk DL_6 5 rfl).1 rfl (tg_6 128 rfl rfl) (tg_6 129 rfl rfl) (tg_6 130 rfl rfl) (tg_1 7 rfl rfl) kX12_said pmX12_said (by decide) rfl (fun _ => rfl) (fun G hG => c_X12_said hG F.2.2.1.2.1 F.2.1 F.2.2.1.1 F.2.2.1.2.2) (Nat.le_of_ble_eq_true rfl) (by omega) (by omega) (Nat.le_of_ble_eq_true rfl) (fun x2 I2 h2 H2 locs2 hq2 hW2 hP2 hS => ?_)
  obtain ⟨rfl, hR2⟩ := hq2
  refine lv_pop hx hb (dk DL_6 6 rfl).1 rfl ?_
  refine lv_goto (tgt := 1307) hx hb (dk DL_6 7 rfl).1 (by decide) ?_
  exact W.widen (by omega) (by omega) (hend _ _ _ _ _ _ _ _ ⟨hY1, (by rw [said_2]; exact F.2.1), hR2, hW2, hP2⟩ (by omega) hS)
set_option maxHeartbeats 4000000 in
set_option maxRecDepth 20000 in
theorem lc_10 {p : Program} {l : Launch} {e : Env} {s : State} {m : MethodId} {below : List Frame} {meth : Method} {c : Code} {b L i k n : Nat} {xs : Nat → Int32} {H : Heap} {locs : List Loc} {ls : Array Slot} {D : va_G} {ci : Nat → ClassId} {b0 : Nat} {E : It} {Li : Nat → Int64} {Ix : It} {hxx : Ht} {Im : It} {hmm : Ht} (C0 : lw_At p s m meth c b L xs) (hKs : ∀ G, gD G = D → gc G = ci → Ks G s) (hb0 : b0 = s.heap.size) (F : LI D ci b0 E Li Ix hxx Im hmm H) (h900 : hn hxx ≤ 900) (hk : k + 1 ≤ 600000) (hnn : n + 6 ≤ 7302250) (hl : lv_has ls 4 (lvs b b0 i)) (hS : va_S (fun q => s.heap.size ≤ q) s.heap H locs) (h7 : i + 7 ≤ L) (hL31 : L < 2 ^ 31)
    (hend : ∀ (E' : It) (L' : Nat → Int64) (Ix' : It) (hx' : Ht) (Im' : It) (hm' : Ht) (H' : Heap) (locs' : List Loc), LI D ci b0 E' L' Ix' hx' Im' hm' H' → hn hx' ≤ hn hxx + 1 → va_S (fun q => s.heap.size ≤ q) s.heap H' locs' → W p l e room_1 s m #[Value.ref b] below meth c H' locs' (k + 1) (n + 6) (lw_Z below #[Value.ref b] s) (F0 m 1307 ls [])) : W p l e room_1 s m #[Value.ref b] below meth c H locs k n (lw_Z below #[Value.ref b] s) (F0 m 552 ls []) := by
  obtain ⟨hx, hb, -, hml, hown, hts0, -, -, -, -⟩ := id C0
  refine lv_aload_n hx hb (dk DL_6 8 rfl).1 rfl (lv_at hl 1 rfl) ?_
  refine kxI (av := []) C0 hKs hb0 F.2.2.2.1 F.1.1.1 F.2.2.1.2.1.1 F.2.2.2.2 hS hl.1 (dk DL_6 9 rfl).1 rfl (tg_3 117 rfl rfl) (tg_3 118 rfl rfl) (tg_3 119 rfl rfl) (tg_1 1 rfl rfl) kX11_hand pmX11_hand (by decide) rfl (fun _ => rfl) (zx_hand gX_ok F.2.1 F.1) (Nat.le_of_ble_eq_true rfl) (by omega) (by omega) (Nat.le_of_ble_eq_true rfl) (fun x1 I1 h1 H1 locs1 hq1 hW1 hP1 hS => ?_)
  obtain ⟨rfl, hY1, hn1⟩ := hq1
  refine lv_pop hx hb (dk DL_6 10 rfl).1 rfl ?_
  refine lv_aload_n hx hb (dk DL_6 11 rfl).1 rfl (lv_at hl 2 rfl) ?_
  refine kmI (av := []) C0 hKs hb0 hW1 (by omega) F.2.2.1.2.1 hP1 hS hl.1 (dk DL_6 12 rfl).1 rfl (tg_6 132 rfl rfl) (tg_6 133 rfl rfl) (tg_6 134 rfl rfl) (tg_1 7 rfl rfl) kX12_hand pmX12_hand (by decide) rfl (fun _ => rfl) (fun G hG => c_X12_hand hG F.2.2.1.2.1 F.2.1 F.2.2.1.1 F.2.2.1.2.2) (Nat.le_of_ble_eq_true rfl) (by omega) (by omega) (Nat.le_of_ble_eq_true rfl) (fun x2 I2 h2 H2 locs2 hq2 hW2 hP2 hS => ?_)
  obtain ⟨rfl, hR2⟩ := hq2
  refine lv_pop hx hb (dk DL_6 13 rfl).1 rfl ?_
  refine lv_goto (tgt := 1307) hx hb (dk DL_6 14 rfl).1 (by decide) ?_
  exact W.widen (by omega) (by omega) (hend _ _ _ _ _ _ _ _ ⟨hY1, F.2.1.hand, hR2, hW2, hP2⟩ (by omega) hS)
set_option maxHeartbeats 4000000 in
set_option maxRecDepth 20000 in
theorem lc_11 {p : Program} {l : Launch} {e : Env} {s : State} {m : MethodId} {below : List Frame} {meth : Method} {c : Code} {b L i k n : Nat} {xs : Nat → Int32} {H : Heap} {locs : List Loc} {ls : Array Slot} {D : va_G} {ci : Nat → ClassId} {b0 : Nat} {E : It} {Li : Nat → Int64} {Ix : It} {hxx : Ht} {Im : It} {hmm : Ht} (C0 : lw_At p s m meth c b L xs) (hKs : ∀ G, gD G = D → gc G = ci → Ks G s) (hb0 : b0 = s.heap.size) (F : LI D ci b0 E Li Ix hxx Im hmm H) (h900 : hn hxx ≤ 900) (hk : k + 1 ≤ 600000) (hnn : n + 6 ≤ 7302250) (hl : lv_has ls 4 (lvs b b0 i)) (hS : va_S (fun q => s.heap.size ≤ q) s.heap H locs) (h7 : i + 7 ≤ L) (hL31 : L < 2 ^ 31)
    (hend : ∀ (E' : It) (L' : Nat → Int64) (Ix' : It) (hx' : Ht) (Im' : It) (hm' : Ht) (H' : Heap) (locs' : List Loc), LI D ci b0 E' L' Ix' hx' Im' hm' H' → hn hx' ≤ hn hxx + 1 → va_S (fun q => s.heap.size ≤ q) s.heap H' locs' → W p l e room_1 s m #[Value.ref b] below meth c H' locs' (k + 1) (n + 6) (lw_Z below #[Value.ref b] s) (F0 m 1307 ls [])) : W p l e room_1 s m #[Value.ref b] below meth c H locs k n (lw_Z below #[Value.ref b] s) (F0 m 565 ls []) := by
  obtain ⟨hx, hb, -, hml, hown, hts0, -, -, -, -⟩ := id C0
  refine lv_aload_n hx hb (dk DL_6 15 rfl).1 rfl (lv_at hl 1 rfl) ?_
  refine larg (k0 := 1) C0 hl rfl rfl hS (dk DL_6 16 rfl).1 (dk DL_6 17 rfl).1 (dk DL_6 18 rfl).1 (dk DL_6 19 rfl).1 (dk DL_6 20 rfl).1 rfl (by omega) hL31 ?_
  refine kxI (av := [.int (xs (i + 1))]) C0 hKs hb0 F.2.2.2.1 F.1.1.1 F.2.2.1.2.1.1 F.2.2.2.2 hS hl.1 (dk DL_6 21 rfl).1 rfl (tg_3 136 rfl rfl) (tg_3 137 rfl rfl) (tg_3 138 rfl rfl) (tg_1 1 rfl rfl) kX11_go pmX11_go (by decide) rfl (fun _ => rfl) (zx_go gX_ok F.2.1 F.1) (Nat.le_of_ble_eq_true rfl) (by omega) (by omega) (Nat.le_of_ble_eq_true rfl) (fun x1 I1 h1 H1 locs1 hq1 hW1 hP1 hS => ?_)
  obtain ⟨rfl, hY1, hn1⟩ := hq1
  refine lv_pop hx hb (dk DL_6 22 rfl).1 rfl ?_
  refine lv_aload_n hx hb (dk DL_6 23 rfl).1 rfl (lv_at hl 2 rfl) ?_
  refine larg (k0 := 1) C0 hl rfl rfl hS (dk DL_6 24 rfl).1 (dk DL_6 25 rfl).1 (dk DL_6 26 rfl).1 (dk DL_6 27 rfl).1 (dk DL_6 28 rfl).1 rfl (by omega) hL31 ?_
  refine kmI (av := [.int (xs (i + 1))]) C0 hKs hb0 hW1 (by omega) F.2.2.1.2.1 hP1 hS hl.1 (dk DL_6 29 rfl).1 rfl (tg_6 144 rfl rfl) (tg_6 145 rfl rfl) (tg_6 146 rfl rfl) (tg_1 7 rfl rfl) kX12_go pmX12_go (by decide) rfl (fun _ => rfl) (fun G hG => c_X12_go hG F.2.2.1.2.1 F.2.1 F.2.2.1.1 F.2.2.1.2.2) (Nat.le_of_ble_eq_true rfl) (by omega) (by omega) (Nat.le_of_ble_eq_true rfl) (fun x2 I2 h2 H2 locs2 hq2 hW2 hP2 hS => ?_)
  obtain ⟨rfl, hR2⟩ := hq2
  refine lv_pop hx hb (dk DL_6 30 rfl).1 rfl ?_
  refine lv_goto (tgt := 1307) hx hb (dk DL_6 31 rfl).1 (by decide) ?_
  exact W.widen (by omega) (by omega) (hend _ _ _ _ _ _ _ _ ⟨hY1, F.2.1.go, hR2, hW2, hP2⟩ (by omega) hS)
