/-! the law's loop: both worlds, one picture -/
theorem fr_z {E : It} (hF : fresh E) (j : Nat) (hj : j ∈ pfL) (h1 : j ≠ 16) (h2 : j ≠ 48) : E 0 j = 0 := by
  rw [hF.1 j hj, if_neg (by omega)]
theorem fr_c {E : It} (hF : fresh E) (a j : Nat) (ha : a ∈ pcL) (h1 : a ≠ 36) : E a j = 0 := hF.2.1 a ha h1 j
theorem fr_inv {E : It} (hF : fresh E) : Inv E := by
  have z := fr_z hF
  have e0 : E 0 0 = nI 0 := z 0 (by decide) (by decide) (by decide)
  have e15 : E 0 15 = nI 0 := z 15 (by decide) (by decide) (by decide)
  have hn : nP E = 0 := by unfold nP; rw [e15]; rfl
  refine ⟨⟨⟨0, by decide, e0, fun d hd => absurd hd (Nat.not_lt_zero d)⟩, ⟨0, by decide, z 1 (by decide) (by decide) (by decide)⟩, Or.inl ?_, ⟨0, by decide, z 44 (by decide) (by decide) (by decide)⟩, fun y _ => ⟨0, by decide, fr_c hF 8 y (by decide) (by decide)⟩, fun k _ => ⟨0, 0, by decide, by decide, fr_c hF 23 k (by decide) (by decide), fr_c hF 24 k (by decide) (by decide)⟩, ⟨0, Nat.two_pow_pos _, z 5 (by decide) (by decide) (by decide)⟩, ⟨0, Nat.two_pow_pos _, z 6 (by decide) (by decide) (by decide)⟩⟩, Or.inl (z 47 (by decide) (by decide) (by decide)), ⟨by rw [hn]; exact e15, by rw [hn]; decide⟩, fun p hp => by rw [hn] at hp; exact absurd hp (Nat.not_lt_zero p), ⟨0, by decide, z 17 (by decide) (by decide) (by decide), fun j hj => absurd hj (Nat.not_lt_zero j)⟩, ⟨0, by decide, z 67 (by decide) (by decide) (by decide)⟩, fun t ht => Or.inl ⟨hF.2.2 t ht, fr_c hF 37 t (by decide) (by decide)⟩⟩
  rw [hF.1 16 (by decide), if_pos (Or.inl rfl)]
theorem RY_start {Ix E : It} {hx : Ht} (hI : IX0 Ix) (hH : HX0 hx) (hF : fresh E) : RY E (fun _ => 0) Ix hx := by
  have z := fr_z hF
  have c := fr_c hF
  have i0 : ∀ q, q < 73 → q ≠ 34 → ∀ j, Ix q j = 0 := hI.1
  have e0 : E 0 0 = 0 := z 0 (by decide) (by decide) (by decide)
  refine ⟨hH.hx, ⟨⟨?_, ?_, ?_, ?_⟩, fun j hj => ?_, fun y hy => ?_, fun d hd => ?_⟩, ⟨?_, fun e => ?_⟩, ⟨fun j hj v e => ?_, fun j hj v e => ?_⟩, ⟨⟨fun r e => ?_, fun p hp => ⟨⟨0, by decide, i0 _ (by omega) (by omega) 2⟩, fun k hk => ⟨0, by decide, i0 _ (by omega) (by omega) k⟩⟩⟩, fun r e => ?_⟩, ⟨?_, fun j hj => ?_⟩, fun t ht => ⟨?_, ?_, fun j hj => hH.2.2.2.2.2 _ (by omega) (by omega) j⟩, ⟨0, by decide, i0 0 (by decide) (by decide) 5⟩, ⟨0, by decide, i0 0 (by decide) (by decide) 7⟩⟩
  · rw [i0 1 (by decide) (by decide), e0]
  · rw [i0 1 (by decide) (by decide), z 1 (by decide) (by decide) (by decide)]
  · rw [i0 1 (by decide) (by decide), z 6 (by decide) (by decide) (by decide)]
  · rw [i0 1 (by decide) (by decide), z 44 (by decide) (by decide) (by decide)]
  · rw [i0 3 (by decide) (by decide), c 7 j (by decide) (by decide)]
  · rw [i0 4 (by decide) (by decide), c 8 y (by decide) (by decide)]
  · rw [e0] at hd; exact absurd hd (Nat.not_lt_zero d)
  · rw [i0 0 (by decide) (by decide), z 47 (by decide) (by decide) (by decide)]
  · rw [z 47 (by decide) (by decide) (by decide)] at e; exact absurd e (by decide)
  · rw [(hH.2.2.2.1 j hj).1] at e; cases e
  · rw [(hH.2.2.2.1 j hj).2] at e; cases e
  · rw [hH.2.2.2.2.1.1] at e; cases e
  · rw [hH.2.2.2.2.1.2] at e; cases e
  · rw [i0 32 (by decide) (by decide), z 67 (by decide) (by decide) (by decide)]
  · rw [i0 33 (by decide) (by decide), c 35 j (by decide) (by decide)]
  · rw [hI.2 t ht, hF.2.2 t ht]
  · rw [i0 35 (by decide) (by decide), c 37 t (by decide) (by decide)]
/-- the two worlds, of one picture -/
def LI (D : va_G) (ci : Nat → ClassId) (b0 : Nat) (E : It) (L : Nat → Int64) (Ix : It) (hx : Ht) (Im : It) (hm : Ht) (H : Heap) : Prop :=
  RZ E L Ix hx ∧ Inv E ∧ SM E L Im hm ∧ Wd (gX D ci b0 40) Ix hx H ∧ va_P D vwCl (wl (gM D ci b0 (fun n => n)) Im hm) H
def lvs (b b0 i : Nat) : List (Nat × Value) := [(0, .ref b), (1, .ref b0), (2, .ref (b0 + 73)), (3, .int (nI i))]
section LC2
variable {p : Program} {l : Launch} {e : Env} {s : State} {m : MethodId} {below : List Frame} {meth : Method} {c : Code} {b L : Nat} {xs : Nat → Int32} {H : Heap} {locs : List Loc} {ls : Array Slot} {k n pc : Nat} {D : va_G} {ci : Nat → ClassId} {b0 : Nat} {Ix : It} {hx : Ht} {Im : It} {hm : Ht}
/-- the class's call: an int comes back -/
theorem kxI (C0 : lw_At p s m meth c b L xs) (hKs : ∀ G, gD G = D → gc G = ci → Ks G s) (hb0 : b0 = s.heap.size) (hW : Wd (gX D ci b0 40) Ix hx H) (hH : HX hx) (hm40 : hn hm = 40) (hPM : va_P D vwCl (wl (gM D ci b0 (fun n => n)) Im hm) H) (hS : va_S (fun q => s.heap.size ≤ q) s.heap H locs) (hls : ls.size = 4)
    {y' : Mt} {idx na : Nat} {av rest : List Value} {f : Int32 → It → Ht → Prop} {d' mc' ms' : Nat}
    (hd : decode code pc = .ok (.invokevirtual idx, 3)) (hcls : y'.1.cls = RX11) (h1 : Cond.methodLink R_law idx y'.1 ∈ TG) (h2 : Cond.instanceMethod y'.1 ∈ TG) (h2s : Cond.selects y'.1.cls y'.1 y'.1 ∈ TG) (h3 : Cond.initialized y'.1.cls ∈ TG) (h4 : Cond.code y'.1 y'.2.1 y'.2.2.1 y'.2.2.2 ∈ TG) (h5 : prms y'.1 na) (h6 : y'.2.2.1 ≤ 41)
    (hlen : av.length = na) (hav : ∀ G, av.map (cv G) = av) (hC : Con (gX D ci b0 40) d' mc' ms' y' (.ref 0 :: av) Ix hx (qI f)) (hdd : d' ≤ 1000) (hk : k + mc' ≤ 600000) (hn' : n + ms' ≤ 7302250) (hst : (rest.map fun v => v.category).sum ≤ 8)
    (kk : ∀ (x : Int32) (I' : It) (h' : Ht) (H' : Heap) (locs' : List Loc), f x I' h' → Wd (gX D ci b0 40) I' h' H' → va_P D vwCl (wl (gM D ci b0 (fun n => n)) Im hm) H' → va_S (fun q => s.heap.size ≤ q) s.heap H' locs' → W p l e room_1 s m #[Value.ref b] below meth c H' locs' (k + mc') (n + ms') (lw_Z below #[Value.ref b] s) (F0 m (pc + 3) ls (.int x :: rest))) :
    W p l e room_1 s m #[Value.ref b] below meth c H locs k n (lw_Z below #[Value.ref b] s) (F0 m pc ls (av.reverse ++ .ref b0 :: rest)) := by
  refine lcallV C0 gX_ok (hKs _ rfl rfl) (fun q hq => by rw [← hb0]; exact gX_low hq) hd (by rw [hcls]; exact KX11) h1 h2 h2s h3 h4 h5 h6 (CC hH 0 (by decide) rfl) (CLt hH (by decide)) hlen (hav _) hC hdd hk hn' hls hst hW hS (fun r I' h' H' locs' hq hW' hfr hS' => ?_)
  obtain ⟨x, rfl, hf⟩ := hq
  exact kk x I' h' H' locs' hf hW' (keepM hm40 hPM hfr.2) hS'
theorem kxL (C0 : lw_At p s m meth c b L xs) (hKs : ∀ G, gD G = D → gc G = ci → Ks G s) (hb0 : b0 = s.heap.size) (hW : Wd (gX D ci b0 40) Ix hx H) (hH : HX hx) (hm40 : hn hm = 40) (hPM : va_P D vwCl (wl (gM D ci b0 (fun n => n)) Im hm) H) (hS : va_S (fun q => s.heap.size ≤ q) s.heap H locs) (hls : ls.size = 4)
    {y' : Mt} {idx na : Nat} {av rest : List Value} {f : Int64 → It → Ht → Prop} {d' mc' ms' : Nat}
    (hd : decode code pc = .ok (.invokevirtual idx, 3)) (hcls : y'.1.cls = RX11) (h1 : Cond.methodLink R_law idx y'.1 ∈ TG) (h2 : Cond.instanceMethod y'.1 ∈ TG) (h2s : Cond.selects y'.1.cls y'.1 y'.1 ∈ TG) (h3 : Cond.initialized y'.1.cls ∈ TG) (h4 : Cond.code y'.1 y'.2.1 y'.2.2.1 y'.2.2.2 ∈ TG) (h5 : prms y'.1 na) (h6 : y'.2.2.1 ≤ 41)
    (hlen : av.length = na) (hav : ∀ G, av.map (cv G) = av) (hC : Con (gX D ci b0 40) d' mc' ms' y' (.ref 0 :: av) Ix hx (qL f)) (hdd : d' ≤ 1000) (hk : k + mc' ≤ 600000) (hn' : n + ms' ≤ 7302250) (hst : (rest.map fun v => v.category).sum ≤ 8)
    (kk : ∀ (x : Int64) (I' : It) (h' : Ht) (H' : Heap) (locs' : List Loc), f x I' h' → Wd (gX D ci b0 40) I' h' H' → va_P D vwCl (wl (gM D ci b0 (fun n => n)) Im hm) H' → va_S (fun q => s.heap.size ≤ q) s.heap H' locs' → W p l e room_1 s m #[Value.ref b] below meth c H' locs' (k + mc') (n + ms') (lw_Z below #[Value.ref b] s) (F0 m (pc + 3) ls (.long x :: rest))) :
    W p l e room_1 s m #[Value.ref b] below meth c H locs k n (lw_Z below #[Value.ref b] s) (F0 m pc ls (av.reverse ++ .ref b0 :: rest)) := by
  refine lcallV C0 gX_ok (hKs _ rfl rfl) (fun q hq => by rw [← hb0]; exact gX_low hq) hd (by rw [hcls]; exact KX11) h1 h2 h2s h3 h4 h5 h6 (CC hH 0 (by decide) rfl) (CLt hH (by decide)) hlen (hav _) hC hdd hk hn' hls hst hW hS (fun r I' h' H' locs' hq hW' hfr hS' => ?_)
  obtain ⟨x, rfl, hf⟩ := hq
  exact kk x I' h' H' locs' hf hW' (keepM hm40 hPM hfr.2) hS'
/-- the reference's call -/
theorem kmI (C0 : lw_At p s m meth c b L xs) (hKs : ∀ G, gD G = D → gc G = ci → Ks G s) (hb0 : b0 = s.heap.size) (hW : Wd (gX D ci b0 40) Ix hx H) (hx1000 : hn hx ≤ 1000) (hM : HM hm) (hPM : va_P D vwCl (wl (gM D ci b0 (fun n => n)) Im hm) H) (hS : va_S (fun q => s.heap.size ≤ q) s.heap H locs) (hls : ls.size = 4)
    {y' : Mt} {idx na : Nat} {av rest : List Value} {f : Int32 → It → Ht → Prop} {d' : Nat}
    (hd : decode code pc = .ok (.invokevirtual idx, 3)) (hcls : y'.1.cls = RX12) (h1 : Cond.methodLink R_law idx y'.1 ∈ TG) (h2 : Cond.instanceMethod y'.1 ∈ TG) (h2s : Cond.selects y'.1.cls y'.1 y'.1 ∈ TG) (h3 : Cond.initialized y'.1.cls ∈ TG) (h4 : Cond.code y'.1 y'.2.1 y'.2.2.1 y'.2.2.2 ∈ TG) (h5 : prms y'.1 na) (h6 : y'.2.2.1 ≤ 41)
    (hlen : av.length = na) (hav : ∀ G, av.map (cv G) = av) (hC : ∀ G, Gok G → Con G d' 0 0 y' (.ref 0 :: av) Im hm (qI f)) (hdd : d' ≤ 1000) (hk : k ≤ 600000) (hn' : n ≤ 7302250) (hst : (rest.map fun v => v.category).sum ≤ 8)
    (kk : ∀ (x : Int32) (I' : It) (h' : Ht) (H' : Heap) (locs' : List Loc), f x I' h' → Wd (gX D ci b0 40) Ix hx H' → va_P D vwCl (wl (gM D ci b0 (fun n => n)) I' h') H' → va_S (fun q => s.heap.size ≤ q) s.heap H' locs' → W p l e room_1 s m #[Value.ref b] below meth c H' locs' k n (lw_Z below #[Value.ref b] s) (F0 m (pc + 3) ls (.int x :: rest))) :
    W p l e room_1 s m #[Value.ref b] below meth c H locs k n (lw_Z below #[Value.ref b] s) (F0 m pc ls (av.reverse ++ .ref (b0 + 73) :: rest)) := by
  refine lcallV (G := gM D ci b0 (fun _ => H.size)) C0 gM_ok (hKs _ rfl rfl) (fun q hq => by rw [← hb0]; exact gM_low hq) hd (by rw [hcls]; exact KX12) h1 h2 h2s h3 h4 h5 h6 (MC hM) (MLt hM (by decide)) hlen (hav _) (hC _ gM_ok) hdd hk hn' hls hst ⟨hPM, rfl⟩ hS (fun r I' h' H' locs' hq hW' hfr hS' => ?_)
  obtain ⟨x, rfl, hf⟩ := hq
  exact kk x I' h' H' locs' hf ⟨keepX hx1000 hW.1 hfr.2, hW'.2.trans hW.2⟩ hW'.1 hS'
theorem kmL (C0 : lw_At p s m meth c b L xs) (hKs : ∀ G, gD G = D → gc G = ci → Ks G s) (hb0 : b0 = s.heap.size) (hW : Wd (gX D ci b0 40) Ix hx H) (hx1000 : hn hx ≤ 1000) (hM : HM hm) (hPM : va_P D vwCl (wl (gM D ci b0 (fun n => n)) Im hm) H) (hS : va_S (fun q => s.heap.size ≤ q) s.heap H locs) (hls : ls.size = 4)
    {y' : Mt} {idx na : Nat} {av rest : List Value} {f : Int64 → It → Ht → Prop} {d' : Nat}
    (hd : decode code pc = .ok (.invokevirtual idx, 3)) (hcls : y'.1.cls = RX12) (h1 : Cond.methodLink R_law idx y'.1 ∈ TG) (h2 : Cond.instanceMethod y'.1 ∈ TG) (h2s : Cond.selects y'.1.cls y'.1 y'.1 ∈ TG) (h3 : Cond.initialized y'.1.cls ∈ TG) (h4 : Cond.code y'.1 y'.2.1 y'.2.2.1 y'.2.2.2 ∈ TG) (h5 : prms y'.1 na) (h6 : y'.2.2.1 ≤ 41)
    (hlen : av.length = na) (hav : ∀ G, av.map (cv G) = av) (hC : ∀ G, Gok G → Con G d' 0 0 y' (.ref 0 :: av) Im hm (qL f)) (hdd : d' ≤ 1000) (hk : k ≤ 600000) (hn' : n ≤ 7302250) (hst : (rest.map fun v => v.category).sum ≤ 8)
    (kk : ∀ (x : Int64) (I' : It) (h' : Ht) (H' : Heap) (locs' : List Loc), f x I' h' → Wd (gX D ci b0 40) Ix hx H' → va_P D vwCl (wl (gM D ci b0 (fun n => n)) I' h') H' → va_S (fun q => s.heap.size ≤ q) s.heap H' locs' → W p l e room_1 s m #[Value.ref b] below meth c H' locs' k n (lw_Z below #[Value.ref b] s) (F0 m (pc + 3) ls (.long x :: rest))) :
    W p l e room_1 s m #[Value.ref b] below meth c H locs k n (lw_Z below #[Value.ref b] s) (F0 m pc ls (av.reverse ++ .ref (b0 + 73) :: rest)) := by
  refine lcallV (G := gM D ci b0 (fun _ => H.size)) C0 gM_ok (hKs _ rfl rfl) (fun q hq => by rw [← hb0]; exact gM_low hq) hd (by rw [hcls]; exact KX12) h1 h2 h2s h3 h4 h5 h6 (MC hM) (MLt hM (by decide)) hlen (hav _) (hC _ gM_ok) hdd hk hn' hls hst ⟨hPM, rfl⟩ hS (fun r I' h' H' locs' hq hW' hfr hS' => ?_)
  obtain ⟨x, rfl, hf⟩ := hq
  exact kk x I' h' H' locs' hf ⟨keepX hx1000 hW.1 hfr.2, hW'.2.trans hW.2⟩ hW'.1 hS'
end LC2
/-! queries leave the picture -/
theorem told_2 (E : It) (w : Int32) : (toldS E w).2 = E := by unfold toldS; split <;> (try split) <;> (try split) <;> (try split) <;> (try split) <;> (try split) <;> (try split) <;> rfl
theorem said_2 (E : It) (a y : Int32) : (saidS E a y).2 = E := by unfold saidS; split <;> (try split) <;> rfl
theorem count_2 (E : It) (w : Int32) : (countS E w).2 = E := by unfold countS; split <;> (try split) <;> (try split) <;> (try split) <;> (try split) <;> (try split) <;> rfl
theorem it2g {c : Prop} [Decidable c] {E : It} {t s : Int32 × It} (h1 : t.2 = E) (h2 : s.2 = E) : (if c then t else s).2 = E := by
  by_cases h : c
  · rw [if_pos h]; exact h1
  · rw [if_neg h]; exact h2
theorem of_2 (E : It) (a w : Int32) : (ofS E a w).2 = E := by
  unfold ofS
  repeat (first | rfl | apply it2g)
theorem run_2 (E : It) (n w : Int32) : (runS E n w).2 = E := by unfold runS; split <;> (try split) <;> (try split) <;> (try split) <;> (try split) <;> (try split) <;> (try split) <;> rfl
theorem more_2 (E : It) (y n : Int32) : (moreS E y n).2 = E := by unfold moreS; split <;> (try split) <;> (try split) <;> rfl
theorem ask_2 (E : It) (n : Int32) : (askS E n).2 = E := by unfold askS; split <;> rfl
theorem drop_2 (E : It) (n : Int32) : (dropS E n).2 = E := by unfold dropS; split <;> rfl
theorem judge_2 (E : It) (L : Nat → Int64) (t i : Int32) : (judgeS E L t i).2 = E := by unfold judgeS; split <;> (try split) <;> (try split) <;> rfl
theorem split_2 (E : It) (h n w : Int32) : (splitS E h n w).2 = E := by unfold splitS; split <;> (try split) <;> (try split) <;> (try split) <;> rfl
theorem when_2 (E : It) (a : Int32) : (whenS E a).2 = E := by unfold whenS; split <;> rfl
theorem busiest_2 (E : It) (a w : Int32) : (busiestS E a w).2 = E := by unfold busiestS; split <;> (try split) <;> (try split) <;> rfl
theorem all_2 (E : It) (a : Int32) : (allS E a).2 = E := by unfold allS; split <;> rfl
theorem trace_2 (E : It) (a : Int32) : (traceS E a).2 = E := by unfold traceS; split <;> (try split) <;> rfl
theorem taken_2 (E : It) (a k : Int32) : (takenS E a k).2 = E := by unfold takenS; split <;> (try split) <;> (try split) <;> rfl
theorem RY.feed {E : It} {L : Nat → Int64} {I : It} {h : Ht} {s : Int32} (hY : RY E L I h) : RY (feedS E s).2 L I h := by
  unfold feedS
  split
  · exact hY
  · split
    · exact hY
    · exact (hY.cc (by decide)).f (by decide)
theorem RY.post {E E2 : It} {L : Nat → Int64} {I : It} {h : Ht} {v : Int32} (hY : RY E L I h) (hP : PoS E E2 v) : RY E2 L I h := hY.eE hP.eE.1 hP.eE.2
theorem li7 {L i : Nat} (hL : L ≤ 3584) (h : ¬ nI L - 7 < nI i) (hi : i < 2 ^ 31) : i + 7 ≤ L := by
  have h1 := Int32.le_iff_toInt_le.mp (Int32.not_lt.mp h)
  rw [show (7 : Int32) = nI 7 from rfl, Int32.toInt_sub, nI_toInt (show L < 2 ^ 31 by omega), nI_toInt (show 7 < 2 ^ 31 by decide), nI_toInt hi, Int.bmod_eq_of_le (by omega) (by omega)] at h1
  omega

