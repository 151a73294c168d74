/-- the two worlds as they are made -/
def FP (D : va_G) (ci : Nat → ClassId) (b0 : Nat) (Ix : It) (hx : Ht) (Im : It) (hm : Ht) (H : Heap) : Prop :=
  (NX Ix ∧ HX hx ∧ NRF hx ∧ hn hx = 73 ∧ ∀ j, j < 10 → hR hx 2 j = none) ∧ (fresh Im ∧ RM Im Im ∧ HM hm ∧ hL hm 38 = fun _ => 0) ∧ Wd (gX D ci b0 40) Ix hx H ∧ va_P D vwCl (wl (gM D ci b0 (fun n => n)) Im hm) H
def lvs (b b0 i : Nat) : List (Nat × Value) := [(0, .ref b), (1, .ref b0), (2, .ref (b0 + 73)), (3, .int (nI i))]
section LP1
variable {p : Program} {l : Launch} {e : Env} {s : State} {m : MethodId} {below : List Frame} {meth : Method} {c : Code} {b L : Nat} {xs : Nat → Int32} {H : Heap} {locs : List Loc} {ls : Array Slot} {k n pc : Nat} {D : va_G} {ci : Nat → ClassId} {b0 : Nat} {Ix : It} {hx : Ht} {Im : It} {hm : Ht}
/-- the class's call: the answer w; the reference stands -/
theorem lcX (C0 : lw_At p s m meth c b L xs) (hKs : ∀ G, gD G = D → gc G = ci → Ks G s) (hb0 : b0 = s.heap.size) (hW : Wd (gX D ci b0 40) Ix hx H) (hH : HX hx) (hm40 : hn hm = 40) (hPM : va_P D vwCl (wl (gM D ci b0 (fun n => n)) Im hm) H) (hS : va_S (fun q => s.heap.size ≤ q) s.heap H locs) (hls : ls.size = 4)
    {y' : Mt} {idx na : Nat} {av rest : List Value} {Q : Pt3} {d' mc' ms' : Nat} {w : Value}
    (hd : decode code pc = .ok (.invokevirtual idx, 3)) (hcls : y'.1.cls = RX11) (h1 : Cond.methodLink R_law idx y'.1 ∈ TG) (h2 : Cond.instanceMethod y'.1 ∈ TG) (h2s : Cond.selects y'.1.cls y'.1 y'.1 ∈ TG) (h3 : Cond.initialized y'.1.cls ∈ TG) (h4 : Cond.code y'.1 y'.2.1 y'.2.2.1 y'.2.2.2 ∈ TG) (h5 : prms y'.1 na) (h6 : y'.2.2.1 ≤ 41)
    (hlen : av.length = na) (hav : ∀ G, av.map (cv G) = av) (hC : Con (gX D ci b0 40) d' mc' ms' y' (.ref 0 :: av) Ix hx Q) (hQ : ∀ r I' h', Q r I' h' → r = some w) (hw : ∀ G, cv G w = w) (hdd : d' ≤ 1000) (hk : k + mc' ≤ 600000) (hn' : n + ms' ≤ 7302250) (hst : (rest.map fun v => v.category).sum ≤ 8)
    (kk : ∀ H' locs', va_P D vwCl (wl (gM D ci b0 (fun n => n)) Im hm) H' → va_S (fun q => s.heap.size ≤ q) s.heap H' locs' → W p l e room_1 s m #[Value.ref b] below meth c H' locs' (k + mc') (n + ms') (lw_Z below #[Value.ref b] s) (F0 m (pc + 3) ls (w :: rest))) :
    W p l e room_1 s m #[Value.ref b] below meth c H locs k n (lw_Z below #[Value.ref b] s) (F0 m pc ls (av.reverse ++ .ref b0 :: rest)) := by
  refine lcallV C0 gX_ok (hKs _ rfl rfl) (fun q hq => by rw [← hb0]; exact gX_low hq) hd (by rw [hcls]; exact KX11) h1 h2 h2s h3 h4 h5 h6 (CC hH 0 (by decide) rfl) (CLt hH (by decide)) hlen (hav _) hC hdd hk hn' hls hst hW hS (fun r I' h' H' locs' hq hW' hfr hS' => ?_)
  rw [hQ r I' h' hq]
  show W _ _ _ _ _ _ _ _ _ _ _ _ _ _ _ (F0 m (pc + 3) ls (cv _ w :: rest))
  rw [hw]
  exact kk H' locs' (keepM hm40 hPM hfr.2) hS'
/-- the reference's call -/
theorem lcM (C0 : lw_At p s m meth c b L xs) (hKs : ∀ G, gD G = D → gc G = ci → Ks G s) (hb0 : b0 = s.heap.size) (hM : HM hm) (hPM : va_P D vwCl (wl (gM D ci b0 (fun n => n)) Im hm) H) (hS : va_S (fun q => s.heap.size ≤ q) s.heap H locs) (hls : ls.size = 4)
    {y' : Mt} {idx na : Nat} {av rest : List Value} {Q : Pt3} {d' : Nat} {w : Value}
    (hd : decode code pc = .ok (.invokevirtual idx, 3)) (hcls : y'.1.cls = RX12) (h1 : Cond.methodLink R_law idx y'.1 ∈ TG) (h2 : Cond.instanceMethod y'.1 ∈ TG) (h2s : Cond.selects y'.1.cls y'.1 y'.1 ∈ TG) (h3 : Cond.initialized y'.1.cls ∈ TG) (h4 : Cond.code y'.1 y'.2.1 y'.2.2.1 y'.2.2.2 ∈ TG) (h5 : prms y'.1 na) (h6 : y'.2.2.1 ≤ 41)
    (hlen : av.length = na) (hav : ∀ G, av.map (cv G) = av) (hC : ∀ G, Gok G → Con G d' 0 0 y' (.ref 0 :: av) Im hm Q) (hQ : ∀ r I' h', Q r I' h' → r = some w) (hw : ∀ G, cv G w = w) (hdd : d' ≤ 1000) (hk : k ≤ 600000) (hn' : n ≤ 7302250) (hst : (rest.map fun v => v.category).sum ≤ 8)
    (kk : ∀ H' locs', va_S (fun q => s.heap.size ≤ q) s.heap H' locs' → W p l e room_1 s m #[Value.ref b] below meth c H' locs' k n (lw_Z below #[Value.ref b] s) (F0 m (pc + 3) ls (w :: rest))) :
    W p l e room_1 s m #[Value.ref b] below meth c H locs k n (lw_Z below #[Value.ref b] s) (F0 m pc ls (av.reverse ++ .ref (b0 + 73) :: rest)) := by
  refine lcallV (G := gM D ci b0 (fun _ => H.size)) C0 gM_ok (hKs _ rfl rfl) (fun q hq => by rw [← hb0]; exact gM_low hq) hd (by rw [hcls]; exact KX12) h1 h2 h2s h3 h4 h5 h6 (MC hM) (MLt hM (by decide)) hlen (hav _) (hC _ gM_ok) hdd hk hn' hls hst ⟨hPM, rfl⟩ hS (fun r I' h' H' locs' hq hW' hfr hS' => ?_)
  rw [hQ r I' h' hq]
  show W _ _ _ _ _ _ _ _ _ _ _ _ _ _ _ (F0 m (pc + 3) ls (cv _ w :: rest))
  rw [hw]
  exact kk H' locs' hS'
end LP1
