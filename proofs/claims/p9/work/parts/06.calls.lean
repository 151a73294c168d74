section
/-! calls: a site is a place of a method's code that calls y'; ci: the class that the receiver must have (none: any, or no receiver) -/
def Site (own : String) (y : Mt) (pc nx : Nat) (y' : Mt) (ci : Option Nat) (na : Nat) : Prop :=
  ∀ (G : Gt) (d mc ms : Nat) (X : Xt) (P : Pt3) (lo : List (Option Value)) (rest : List Value) (I : It) (h : Ht) (k n d' mc' ms' : Nat) (av : List Value) (Q : Pt3),
    Xok G own y X → d' + 1 ≤ d → k + mc' ≤ mc → n + ms' ≤ ms → (rest.map fun v => v.category).sum ≤ 8 → av.length = na →
    (∀ c, ci = some c → ∃ b As, av = .ref b :: As ∧ b < hn h ∧ (hs h b).1 = c) → Con G d' mc' ms' y' av I h Q →
    (∀ r I' h', Q r I' h' → GG G d mc ms X P nx lo (r.toList ++ rest) I' h' (k + mc') (n + ms')) → GG G d mc ms X P pc lo (av.reverse ++ rest) I h k n
theorem tg_goodIn {l : List Cond} (h : ∀ w ∈ l, w ∈ TG) : GoodIn TG l := fun w hw => ⟨h w hw, good_of_word (tg_good (h w hw))⟩
theorem tg_ws {y : Mt} (h : Cond.code y.1 y.2.1 y.2.2.1 y.2.2.2 ∈ TG) : GoodIn TG (ws y) := tg_goodIn fun w hw => by
  rcases List.mem_cons.mp hw with e | e
  · rw [e]; exact h
  · exact e
theorem tg_app {l : List Cond} {y : Mt} (hl : ∀ w ∈ l, w ∈ TG) (h : Cond.code y.1 y.2.1 y.2.2.1 y.2.2.2 ∈ TG) : GoodIn TG (l ++ ws y) := tg_goodIn fun w hw => by
  rcases List.mem_append.mp hw with e | e
  · exact hl w e
  · exact (tg_ws h w e).1
theorem pc_blind {G : Gt} {I : It} {h : Ht} {av : List Value} : FrameBlind (va_Pc (av.map (cv G)) (fun U => Wd G I h U.heap ∧ Ks G U)) :=
  fun _ U g mk hp => ⟨hp.1, hp.2.1, Ks.same (u := U) (U := U.calling g mk _) rfl hp.2.2⟩
section CR
variable {G : Gt} {d mc ms : Nat} {own : String} {y : Mt} {P : Pt3} {pc nx : Nat} {lo : List (Option Value)} {I : It} {h : Ht} {k n : Nat}
variable {p : Program} {l : Launch} {e : Env} {s : State} {m : MethodId} {args : Array Value} {below : List Frame} {meth : Method} {c : Code} {H : Heap} {locs : List Loc} {ls : Array Slot}
theorem run_core {mc' ms' : Nat} {st0 rest : List Value} {Q : Pt3} {a : Array Value} (hlv : lv_has ls c.maxLocals (lpr G 0 lo)) (hS : va_S (gA G) s.heap H locs)
    (hr : va_Run p l e (rmd d mc ms) s m args below meth c H locs k n mc' ms' (F0 m pc ls st0) (rest.map (cv G)) (QC G Q a) (gA G))
    (kk : ∀ r I' h', Q r I' h' → GG G d mc ms (p, l, e, s, m, args, below, meth, c) P (pc + 3) lo (r.toList ++ rest) I' h' (k + mc') (n + ms')) :
    W p l e (rmd d mc ms) s m args below meth c H locs k n (MQ below (QC G P) args s mc ms (gA G)) (F0 m pc ls st0) := by
  intro T hT Xs
  obtain ⟨v, st₀, t, T', L, h0, X', hL, e1, e2, ⟨⟨r, I', h', hv, hp, hw⟩, hz, hk⟩, st⟩ := hr T hT Xs
  cases hv
  rw [h0] at hz hk
  obtain ⟨t2, a1, b1⟩ := kk r I' h' hp T'.heap (locs ++ L) ls hlv (by rw [e1]; exact hw)
    ⟨Nat.le_trans hS.1 (by rw [e1]; exact hz), fun q h1 h2 => by rw [e1, hk q (Nat.lt_of_lt_of_le h1 hS.1) h2]; exact hS.2.1 q h1 h2, fun q hq => by
      rcases List.mem_append.mp hq with h | h
      · exact hS.2.2 q h
      · exact hL q h⟩ T' rfl X'
  refine ⟨t2, st t2 ?_, b1⟩
  cases r <;> exact a1
theorem rcv_of (hK : va_K (gD G) vwCl (tysG G) s) (hW : Wd G I h H) {ci N b : Nat} {C : String} {T : u_T} {ty : Nat → FieldType} (hC : CLS ci C T N ty) (hb : b < hn h) (hc : (hs h b).1 = ci) :
    ∃ cell : Cell, H[ga G b]? = some cell ∧ cell.vm.isStatics = false ∧ s.vm.findClass C = some cell.cls :=
  va_recv hK hW.1 hC.1 (by rw [wl_get hb, ent_obj hc hC.2.2.2.2.2])
end CR
def prms (y : MethodName) (n : Nat) : Prop := y.cls ≠ "java/lang/invoke/MethodHandle" ∧ y.cls ≠ "java/lang/invoke/VarHandle" ∧ (parseMethodDescriptor y.desc).map (fun d => d.parameters.length) = some n
theorem prms_len {y : MethodName} {n : Nat} (h : prms y n) : ∀ sig, parseMethodDescriptor y.desc = some sig → n = sig.parameters.length := fun sig hs => by
  have h2 := h.2.2
  rw [hs] at h2
  exact (Option.some.inj h2).symm
theorem rm_ok {d d' mc ms mc' ms' maxL : Nat} (hd : d' + 1 ≤ d) (hm : maxL ≤ 41) : (rmd d' mc' ms').frames + 1 ≤ (rmd d mc ms).frames ∧ 8 + (maxL + 11) + (rmd d' mc' ms').locals ≤ (rmd d mc ms).locals := by
  refine ⟨hd, ?_⟩
  show 8 + (maxL + 11) + 60 * d' ≤ 60 * d
  omega
theorem site_S {own : String} {y : Mt} {pc nx idx na : Nat} {y' : Mt} (hd : dc y.2.1 pc (.invokestatic idx) 3 nx) (h1 : Cond.methodLink own idx y'.1 ∈ TG) (h2 : Cond.static y'.1 ∈ TG) (h3 : Cond.initialized y'.1.cls ∈ TG) (h4 : Cond.code y'.1 y'.2.1 y'.2.2.1 y'.2.2.2 ∈ TG) (h5 : prms y'.1 na) (h6 : y'.2.2.1 ≤ 41) : Site own y pc nx y' none na := by
  intro G d mc ms X P lo rest I h k n d' mc' ms' av Q hX hdd hk hn' hst hlen hrc hC kk
  obtain ⟨p, l, e, s, m, args, below, meth, c⟩ := X
  obtain ⟨hexec, hb, hml, hown, hts, hKs, hGk, hlk, hrt, hnm⟩ := hX
  obtain ⟨hd, rfl⟩ := hd
  intro H locs ls hlv hW hS
  refine run_core hlv hS (va_runS (As := av.map (cv G)) (nL := y.2.2.1) (Ts := TG) ⟨hexec, hb, hml, hown, hts⟩ (hC l) ⟨callB_of na hts (tg_ws h4) rfl rfl rfl (hts _ h3) (hts _ h1) h5 (rm_ok hdd h6), hts _ h2⟩ ⟨pc_blind, fun U hU hWm => ⟨rfl, by rw [hU]; exact hW, hKs.moved hWm⟩⟩ rfl (by rw [List.length_map]; exact hlen) (hlv.1.trans hml) (by simp) (lv_room (by simp only [List.map_map, Function.comp_def, cv_cat]; exact hst)) hd ⟨hk, hn'⟩) kk
theorem site_V {own : String} {y : Mt} {pc nx idx na ci N : Nat} {y' : Mt} {T : u_T} {ty : Nat → FieldType} (hd : dc y.2.1 pc (.invokevirtual idx) 3 nx) (hCls : CLS ci y'.1.cls T N ty) (h1 : Cond.methodLink own idx y'.1 ∈ TG) (h2 : Cond.instanceMethod y'.1 ∈ TG) (h2s : Cond.selects y'.1.cls y'.1 y'.1 ∈ TG) (h3 : Cond.initialized y'.1.cls ∈ TG) (h4 : Cond.code y'.1 y'.2.1 y'.2.2.1 y'.2.2.2 ∈ TG) (h5 : prms y'.1 na) (h6 : y'.2.2.1 ≤ 41) : Site own y pc nx y' (some ci) (na + 1) := by
  intro G d mc ms X P lo rest I h k n d' mc' ms' av Q hX hdd hk hn' hst hlen hrc hC kk
  obtain ⟨p, l, e, s, m, args, below, meth, c⟩ := X
  obtain ⟨hexec, hb, hml, hown, hts, hKs, hGk, hlk, hrt, hnm⟩ := hX
  obtain ⟨hd, rfl⟩ := hd
  obtain ⟨b, As, rfl, hbn, hbc⟩ := hrc ci rfl
  intro H locs ls hlv hW hS
  have hlen' : As.length = na := by simpa using hlen
  refine run_core hlv hS (va_runV (C := y'.1.cls) (b := ga G b) (As := As.map (cv G)) (nL := y.2.2.1) (Ts := TG) ⟨hexec, hb, hml, hown, hts⟩ (hC l) ⟨callB_of na hts (tg_ws h4) rfl rfl rfl (hts _ h3) (hts _ h1) h5 (rm_ok hdd h6), hts _ h2, hts _ h2s⟩ ⟨pc_blind, rcv_of hKs.1 hW hCls hbn hbc, fun U hU hWm => ⟨rfl, by rw [hU]; exact hW, hKs.moved hWm⟩⟩ rfl (by rw [List.length_map]; exact hlen') (hlv.1.trans hml) (by simp [cv]) (lv_room (by simp only [List.map_map, Function.comp_def, cv_cat]; exact hst)) hd ⟨hk, hn'⟩) kk
theorem site_I {own : String} {y : Mt} {pc nx idx na : Nat} {y' : Mt} (hd : dc y.2.1 pc (.invokespecial idx) 3 nx) (hi : y'.1.name = "<init>") (hre : y'.2.2.2 = none) (h1 : Cond.methodLink own idx y'.1 ∈ TG) (h2 : Cond.instanceMethod y'.1 ∈ TG) (h3 : Cond.initialized y'.1.cls ∈ TG) (h4 : Cond.code y'.1 y'.2.1 y'.2.2.1 y'.2.2.2 ∈ TG) (h5 : prms y'.1 na) (h6 : y'.2.2.1 ≤ 41) {ci : Nat} : Site own y pc nx y' (some ci) (na + 1) := by
  intro G d mc ms X P lo rest I h k n d' mc' ms' av Q hX hdd hk hn' hst hlen hrc hC kk
  obtain ⟨p, l, e, s, m, args, below, meth, c⟩ := X
  obtain ⟨hexec, hb, hml, hown, hts, hKs, hGk, hlk, hrt, hnm⟩ := hX
  obtain ⟨hd, rfl⟩ := hd
  obtain ⟨b, As, rfl, hbn, hbc⟩ := hrc ci rfl
  intro H locs ls hlv hW hS
  have hlen' : As.length = na := by simpa using hlen
  refine run_core hlv hS (va_runI (bytes := y'.2.1) (maxL := y'.2.2.1) (b := ga G b) (As := As.map (cv G)) (nL := y.2.2.1) (Ts := TG) ⟨hexec, hb, hml, hown, hts⟩ (hC l) ⟨callB_of (ws' := TG) na hts (tg_ws h4) (by rw [← hre]; rfl) rfl rfl (hts _ h3) (hts _ h1) h5 (rm_ok hdd h6), hi, hts _ h2⟩ ⟨pc_blind, fun U hU hWm => ⟨rfl, by rw [hU]; exact hW, hKs.moved hWm⟩⟩ rfl (by rw [List.length_map]; exact hlen') (hlv.1.trans hml) (by simp [cv]) (lv_room (by simp only [List.map_map, Function.comp_def, cv_cat]; exact hst)) hd ⟨hk, hn'⟩) kk
theorem site_IN {own host : String} {y : Mt} {pc nx idx na : Nat} {y' : Mt} (hd : dc y.2.1 pc (.invokespecial idx) 3 nx) (hi : y'.1.name = "<init>") (hre : y'.2.2.2 = none) (h1 : (own, idx, y'.1, host) ∈ nestL) (h2 : Cond.instanceMethod y'.1 ∈ TG) (h3 : Cond.initialized y'.1.cls ∈ TG) (h4 : Cond.code y'.1 y'.2.1 y'.2.2.1 y'.2.2.2 ∈ TG) (h5 : prms y'.1 na) (h6 : y'.2.2.1 ≤ 41) {ci : Nat} : Site own y pc nx y' (some ci) (na + 1) := by
  intro G d mc ms X P lo rest I h k n d' mc' ms' av Q hX hdd hk hn' hst hlen hrc hC kk
  obtain ⟨p, l, e, s, m, args, below, meth, c⟩ := X
  obtain ⟨hexec, hb, hml, hown, hts, hKs, hGk, hlk, hrt, hnm⟩ := hX
  obtain ⟨hd, rfl⟩ := hd
  obtain ⟨b, As, rfl, hbn, hbc⟩ := hrc ci rfl
  intro H locs ls hlv hW hS
  have hlen' : As.length = na := by simpa using hlen
  refine run_core hlv hS (va_runIN (host := host) (bytes := y'.2.1) (maxL := y'.2.2.1) (b := ga G b) (As := As.map (cv G)) (nL := y.2.2.1) (Ts := TG) ⟨hexec, hb, hml, hown, hts⟩ (hC l) ⟨va_cnB (ws' := TG) na hts (tg_ws h4) (by rw [← hre]; rfl) rfl rfl (hKs.2.1 _ h1) (hts _ h3) h5 (rm_ok hdd h6), hi, hts _ h2⟩ ⟨pc_blind, fun U hU hWm => ⟨rfl, by rw [hU]; exact hW, hKs.moved hWm⟩⟩ rfl (by rw [List.length_map]; exact hlen') (hlv.1.trans hml) (by simp [cv]) (lv_room (by simp only [List.map_map, Function.comp_def, cv_cat]; exact hst)) hd ⟨hk, hn'⟩) kk
theorem site_SN {own host : String} {y : Mt} {pc nx idx na : Nat} {y' : Mt} (hd : dc y.2.1 pc (.invokestatic idx) 3 nx) (h1 : (own, idx, y'.1, host) ∈ nestL) (h2 : Cond.static y'.1 ∈ TG) (h3 : Cond.initialized y'.1.cls ∈ TG) (h4 : Cond.code y'.1 y'.2.1 y'.2.2.1 y'.2.2.2 ∈ TG) (h5 : prms y'.1 na) (h6 : y'.2.2.1 ≤ 41) : Site own y pc nx y' none na := by
  intro G d mc ms X P lo rest I h k n d' mc' ms' av Q hX hdd hk hn' hst hlen hrc hC kk
  obtain ⟨p, l, e, s, m, args, below, meth, c⟩ := X
  obtain ⟨hexec, hb, hml, hown, hts, hKs, hGk, hlk, hrt, hnm⟩ := hX
  obtain ⟨hd, rfl⟩ := hd
  intro H locs ls hlv hW hS
  refine run_core hlv hS (va_runSN (host := host) (As := av.map (cv G)) (nL := y.2.2.1) (Ts := TG) ⟨hexec, hb, hml, hown, hts⟩ (hC l) ⟨va_cnB na hts (tg_ws h4) rfl rfl rfl (hKs.2.1 _ h1) (hts _ h3) h5 (rm_ok hdd h6), hts _ h2, trivial⟩ ⟨pc_blind, fun U hU hWm => ⟨rfl, by rw [hU]; exact hW, hKs.moved hWm⟩⟩ rfl (by rw [List.length_map]; exact hlen) (hlv.1.trans hml) (by simp) (lv_room (by simp only [List.map_map, Function.comp_def, cv_cat]; exact hst)) hd ⟨hk, hn'⟩) kk
/-- a virtual call by x, found in owner; an object of class C runs y' -/
theorem site_U {own owner C : String} {x : MethodName} {y : Mt} {pc nx idx na ci N m0 : Nat} {b0 : ByteArray} {r0 : Option FieldType} {y' : Mt} {T : u_T} {ty : Nat → FieldType} (hd : dc y.2.1 pc (.invokevirtual idx) 3 nx) (hCls : CLS ci C T N ty) (h1 : Cond.methodLink own idx x ∈ TG) (h1s : Cond.sameMethod x.cls owner x.name x.desc ∈ TG) (h2o : Cond.instanceMethod ⟨owner, x.name, x.desc⟩ ∈ TG) (h0 : Cond.code ⟨owner, x.name, x.desc⟩ b0 m0 r0 ∈ TG) (h2 : Cond.instanceMethod y'.1 ∈ TG) (h2s : Cond.selects C x y'.1 ∈ TG) (h3 : Cond.initialized y'.1.cls ∈ TG) (h4 : Cond.code y'.1 y'.2.1 y'.2.2.1 y'.2.2.2 ∈ TG) (h5 : owner ≠ "java/lang/invoke/MethodHandle" ∧ owner ≠ "java/lang/invoke/VarHandle" ∧ (parseMethodDescriptor x.desc).map (fun d => d.parameters.length) = some na) (h6 : y'.2.2.1 ≤ 41) : Site own y pc nx y' (some ci) (na + 1) := by
  intro G d mc ms X P lo rest I h k n d' mc' ms' av Q hX hdd hk hn' hst hlen hrc hC kk
  obtain ⟨p, l, e, s, m, args, below, meth, c⟩ := X
  obtain ⟨hexec, hb, hml, hown, hts, hKs, hGk, hlk, hrt, hnm⟩ := hX
  obtain ⟨hd, rfl⟩ := hd
  obtain ⟨b, As, rfl, hbn, hbc⟩ := hrc ci rfl
  intro H locs ls hlv hW hS
  have hlen' : As.length = na := by simpa using hlen
  have hG : GoodIn TG (va_wsO own idx C owner x y'.1 (ws y')) := tg_app (by
    intro w hw
    simp only [List.mem_cons, List.not_mem_nil, or_false] at hw
    rcases hw with rfl | rfl | rfl | rfl | rfl | rfl <;> assumption) h4
  refine run_core hlv hS (va_runU (C := C) (b := ga G b) (As := As.map (cv G)) (nL := y.2.2.1) (Ts := TG) ⟨hexec, hb, hml, hown, hts⟩ (hC l) (va_cwO na hts hG rfl rfl rfl h0 h5 (rm_ok hdd h6)) ⟨pc_blind, rcv_of hKs.1 hW hCls hbn hbc, fun U hU hWm => ⟨rfl, by rw [hU]; exact hW, hKs.moved hWm⟩⟩ rfl (by rw [List.length_map]; exact hlen') (hlv.1.trans hml) (by simp [cv]) (lv_room (by simp only [List.map_map, Function.comp_def, cv_cat]; exact hst)) hd ⟨hk, hn'⟩) kk
/-- super.x(..), found in y'.cls, the direct superclass x.cls itself or one above -/
theorem site_SU {own C : String} {x : MethodName} {y : Mt} {pc nx idx na ci N : Nat} {y' : Mt} {T : u_T} {ty : Nat → FieldType} (hd : dc y.2.1 pc (.invokespecial idx) 3 nx) (hCls : CLS ci C T N ty) (hy : y'.1.name = x.name ∧ y'.1.desc = x.desc) (h1 : Cond.methodLink own idx x ∈ TG) (h1s : Cond.sameMethod x.cls y'.1.cls x.name x.desc ∈ TG) (hsup : Cond.superclass own x.cls ∈ TG) (hup : x.cls = y'.1.cls ∨ Cond.superclass x.cls y'.1.cls ∈ TG) (h2 : Cond.instanceMethod y'.1 ∈ TG) (h3 : Cond.initialized y'.1.cls ∈ TG) (h4 : Cond.code y'.1 y'.2.1 y'.2.2.1 y'.2.2.2 ∈ TG) (hno : x.name ≠ "<init>") (h5 : (parseMethodDescriptor y'.1.desc).map (fun d => d.parameters.length) = some na) (h6 : y'.2.2.1 ≤ 41) : Site own y pc nx y' (some ci) (na + 1) := by
  intro G d mc ms X P lo rest I h k n d' mc' ms' av Q hX hdd hk hn' hst hlen hrc hC kk
  obtain ⟨p, l, e, s, m, args, below, meth, c⟩ := X
  obtain ⟨hexec, hb, hml, hown, hts, hKs, hGk, hlk, hrt, hnm⟩ := hX
  obtain ⟨hd, rfl⟩ := hd
  obtain ⟨b, As, rfl, hbn, hbc⟩ := hrc ci rfl
  intro H locs ls hlv hW hS
  have hlen' : As.length = na := by simpa using hlen
  obtain ⟨cellB, hcB, hoB, hclB⟩ := rcv_of hKs.1 hW hCls hbn hbc
  obtain ⟨-, kB, hkB, -⟩ := (hKs.1.1 ci _ hCls.1).2
  have hfc := (hKs.1.1 ci _ hCls.1).2.1
  have hcc : cellB.cls = (gD G).1 ci := (Option.some.inj (hfc.symm.trans hclB)).symm
  have hkB2 : s.vm.classes[cellB.cls]? = some kB := by rw [hcc]; exact hkB
  have hK : Back l (rmd d mc ms) p e below s args y'.1 3 8 (PreOf (rmd d mc ms) mc' ms' (va_Pc ((Value.ref b :: As).map (cv G)) (fun U => Wd G I h U.heap ∧ Ks G U))) (PostOf (QC G Q) mc' ms' (gA G)) :=
    back_of (bytes := y'.2.1) (maxL := y'.2.2.1) (ret := y'.2.2.2) (hC l) pc_blind rfl rfl (rm_ok (mc := mc) (ms := ms) (mc' := mc') (ms' := ms') hdd h6).1 (rm_ok (mc := mc) (ms := ms) (mc' := mc') (ms' := ms') hdd h6).2 (pay_in hts (tg_ws h4)) List.mem_cons_self (fun a' U hW => word_at hW (Or.inl (by first | rfl | simp [Cond.onTables, Cond.keeps, Cond.steady])) (hts _ h3))
  refine run_core hlv hS (st0 := ((Value.ref b :: As).reverse ++ rest).map (cv G)) (a := (Value.ref (ga G b) :: As.map (cv G)).toArray) ?_ kk
  intro T hT Xs
  obtain ⟨mk, methM, hnamed, hmethM, hstM, habM⟩ := Cond.instanceMethod_spec (hts _ h2)
  obtain ⟨methM', cM, hmethM', -, -, -, -, -, -, hsigM⟩ := Cond.code_spec hnamed (hts _ h4)
  cases hmethM.symm.trans hmethM'
  obtain ⟨ps, dk, kp, hps, hdk, hkp, hsuper, -, -, hnid⟩ := Cond.superclass_spec hown (hts _ hsup)
  have hyx : (⟨y'.1.cls, x.name, x.desc⟩ : MethodName) = y'.1 := by rw [← hy.1, ← hy.2]
  have hn2 : s.methodNamed? ⟨y'.1.cls, x.name, x.desc⟩ = some mk := by rw [hyx]; exact hnamed
  have hmcls := findClass_of_methodNamed hnamed
  have hsub : s.vm.isSubclass ps mk.cls = true := by
    rcases hup with e | e
    · rw [e] at hps
      have hpm : ps = mk.cls := Option.some.inj (hps.symm.trans hmcls)
      rw [hpm]; simp [Vm.isSubclass, Vm.isSubclassAux]
    · obtain ⟨pz, kz, kpz, hz1, hz2, hz3, hz4, -⟩ := Cond.superclass_spec hps (hts _ e)
      have hpm : pz = mk.cls := Option.some.inj (hz1.symm.trans hmcls)
      subst hpm
      have hsz : ps < s.vm.classes.size := (Array.getElem?_eq_some_iff.mp hz2).1
      obtain ⟨z, hz⟩ : ∃ z, s.vm.classes.size = z + 1 := ⟨_, (Nat.succ_pred_eq_of_pos (Nat.zero_lt_of_lt hsz)).symm⟩
      unfold Vm.isSubclass
      rw [hz]
      simp [Vm.isSubclassAux, hz2, hz4]
  obtain ⟨vm₁, X₁, hstep₁⟩ := Xs.invokespecialUp hexec hown (hts _ h1) (hts _ h1s) hn2 hmethM hstM habM hno hdk hnid hps hsuper hsub (a := ga G b) (cell := cellB) (by rw [hT]; exact hcB)
    (fun z h => by rw [h] at hoB; cases hoB) hkB2 (g := F0 m pc ls (((Value.ref b :: As).reverse ++ rest).map (cv G))) rfl (argsL := As.map (cv G)) (rest := rest.map (cv G)) (by rw [List.length_map, hlen']; have h2 := h5; rw [hsigM] at h2; exact (Option.some.inj h2).symm) (by simp [cv]) (by rw [hb]; exact hd)
  obtain ⟨v, ⟨U', l2, c2, s2⟩, X', ⟨g', mk2, t, L, e1, e2, hq, g1, hL, g2, g3⟩, hsteps⟩ := hK m meth c ⟨T.setVm vm₁, locs, k, n⟩ { F0 m pc ls (((Value.ref b :: As).reverse ++ rest).map (cv G)) with stack := rest.map (cv G) } (.invokespecial idx) mk (Value.ref (ga G b) :: As.map (cv G)).toArray X₁ rfl hlv.1 (by rw [hb]; exact hd) (lv_room (m := m) (pc := pc) (ls := ls) (rest := rest.map (cv G)) (by simp only [List.map_map, Function.comp_def, cv_cat]; exact hst)) (X₁.named hnamed) ⟨hk, hn', rfl, by show Wd G I h T.heap; rw [hT]; exact hW, hKs.moved X₁.warmed⟩
  dsimp only [Pt.U, Pt.locs, Pt.cells, Pt.slots] at X' e1 e2 g1 g2 g3 hsteps
  subst g1; subst g2; subst g3
  exact ⟨v, (T.setVm vm₁).calling g' mk2 (Value.ref (ga G b) :: As.map (cv G)).toArray, t, U', L, hT, X', hL, e1, e2, hq, fun target h => hstep₁ _ (by rw [doInvoke_state]; exact hsteps.trans h)⟩
end
section
/-! switches: the cases one behind another -/
def swk (cases : List (Int32 × Nat)) (dflt : Nat) (x : Int32) (K : Nat → Prop) : Prop := match cases with
  | [] => K dflt
  | q :: r => (x = q.1 → K q.2) ∧ (¬ x = q.1 → swk r dflt x K)
theorem swk_use : ∀ (cs : List (Int32 × Nat)) (dflt : Nat) (x : Int32) (K : Nat → Prop), swk cs dflt x K → (∃ (i : Nat) (q : Int32 × Nat), cs[i]? = some q ∧ x = q.1 ∧ K q.2 ∧ ∀ j, j < i → ∀ q', cs[j]? = some q' → x ≠ q'.1) ∨ ((∀ q ∈ cs, x ≠ q.1) ∧ K dflt) := by
  intro cs
  induction cs with
  | nil => intro d x K h; exact Or.inr ⟨fun q hq => (by cases hq), h⟩
  | cons a r ih =>
    intro d x K h
    obtain ⟨h1, h2⟩ := h
    by_cases hx : x = a.1
    · exact Or.inl ⟨0, a, rfl, hx, h1 hx, fun j hj => absurd hj (Nat.not_lt_zero j)⟩
    · rcases ih d x K (h2 hx) with ⟨i, q, g1, g2, g3, g4⟩ | ⟨g1, g2⟩
      · refine Or.inl ⟨i + 1, q, by simpa using g1, g2, g3, fun j hj q' hq' => ?_⟩
        cases j with
        | zero =>
          simp at hq'
          subst hq'
          exact hx
        | succ j => exact g4 j (by omega) q' (by simpa using hq')
      · exact Or.inr ⟨fun q hq => by
          rcases List.mem_cons.mp hq with e | e
          · rw [e]; exact hx
          · exact g1 q e, g2⟩
def tsOk (pc : Nat) (lo hi dflt : Int) (offs : Array Int) (cs : List (Int32 × Nat)) (dt : Nat) : Bool :=
  decide ((pc : Int) + dflt = (dt : Int)) && decide (hi = lo + (cs.length : Int) - 1) && (List.range cs.length).all fun i => match cs[i]?, offs[i]? with
    | some q, some o => decide ((pc : Int) + o = (q.2 : Int)) && decide (q.1.toInt = lo + (i : Int))
    | _, _ => false
def lsOk (pc : Nat) (dflt : Int) (ps : List (Int × Int)) (cs : List (Int32 × Nat)) (dt : Nat) : Bool := match ps, cs with
  | [], [] => decide ((pc : Int) + dflt = (dt : Int))
  | p :: ps, c :: cs => decide (c.1.toInt = p.1) && decide ((pc : Int) + p.2 = (c.2 : Int)) && lsOk pc dflt ps cs dt
  | _, _ => false
theorem lsOk_use : ∀ (ps : List (Int × Int)) (cs : List (Int32 × Nat)) (pc : Nat) (dflt : Int) (dt : Nat) (x : Int32) (K : Nat → Prop), lsOk pc dflt ps cs dt = true → swk cs dt x K → ∃ t : Nat, K t ∧ (pc : Int) + Op.lookupswitch.offset ps dflt x.toInt = (t : Int) := by
  intro ps
  induction ps with
  | nil =>
    intro cs pc d dt x K h hk
    cases cs with
    | nil => exact ⟨dt, hk, of_decide_eq_true h⟩
    | cons c cs => simp [lsOk] at h
  | cons p ps ih =>
    intro cs pc d dt x K h hk
    cases cs with
    | nil => simp [lsOk] at h
    | cons c cs =>
      simp only [lsOk, Bool.and_eq_true, decide_eq_true_eq] at h
      obtain ⟨⟨h1, h2⟩, h3⟩ := h
      obtain ⟨k1, k2⟩ := hk
      obtain ⟨pa, po⟩ := p
      rw [Op.lookupswitch.offset_cons]
      by_cases hx : x = c.1
      · refine ⟨c.2, k1 hx, ?_⟩
        rw [if_pos (by rw [hx, h1])]
        exact h2
      · rw [if_neg (fun e => hx (Int32.toInt_inj.mp (by first | (rw [e, h1]) | (rw [← e, h1]))))]
        exact ih cs pc d dt x K h3 (k2 hx)
section SW
variable {G : Gt} {d mc ms : Nat} {own : String} {y : Mt} {X : Xt} {P : Pt3} {pc nx : Nat} {lo : List (Option Value)} {st : List Value} {I : It} {h : Ht} {k n : Nat}
theorem g_tswitch (hX : Xok G own y X) {x : Int32} {dflt a b : Int} {offs : Array Int} {len dt : Nat} (cs : List (Int32 × Nat)) (hd : dc y.2.1 pc (.tableswitch dflt a b offs) len nx) (ho : tsOk pc a b dflt offs cs dt = true)
    (kk : swk cs dt x (fun t => GG G d mc ms X P t lo st I h k n)) : GG G d mc ms X P pc lo (.int x :: st) I h k n := by
  obtain ⟨p, l, e, s, m, args, below, meth, c⟩ := X
  obtain ⟨hexec, hb, hml, hown, hts, hKs, hGk, hlk, hrt, hnm⟩ := hX
  obtain ⟨hd, rfl⟩ := hd
  simp only [tsOk, Bool.and_eq_true, decide_eq_true_eq, List.all_eq_true, List.mem_range] at ho
  obtain ⟨⟨h1, h2⟩, h3⟩ := ho
  intro H locs ls hlv hW hS
  rcases swk_use cs dt x _ kk with ⟨i, q, g1, g2, g3, -⟩ | ⟨g1, g2⟩
  · have hi : i < cs.length := (List.getElem?_eq_some_iff.mp g1).1
    have h4 := h3 i hi
    rw [g1] at h4
    cases ho : offs[i]? with
    | none => rw [ho] at h4; simp at h4
    | some o =>
      rw [ho] at h4
      simp only [Bool.and_eq_true, decide_eq_true_eq] at h4
      have hx : x.toInt = a + (i : Int) := by rw [g2]; exact h4.2
      exact lv_tableIn hexec hb hd (by omega) (by omega) (by rw [hx, show (a + (i : Int) - a).toNat = i by omega]; exact ho) h4.1 (g3 H locs ls hlv hW hS)
  · refine lv_tableOut hexec hb hd ?_ h1 (g2 H locs ls hlv hW hS)
    by_cases hr : x.toInt < a ∨ b < x.toInt
    · exact hr
    · exfalso
      obtain ⟨i, hi⟩ : ∃ i : Nat, x.toInt = a + (i : Int) := ⟨(x.toInt - a).toNat, by omega⟩
      have hil : i < cs.length := by omega
      have h4 := h3 i hil
      rw [List.getElem?_eq_getElem hil] at h4
      cases ho : offs[i]? with
      | none => rw [ho] at h4; simp at h4
      | some o =>
        rw [ho] at h4
        simp only [Bool.and_eq_true, decide_eq_true_eq] at h4
        exact g1 _ (List.getElem_mem hil) (Int32.toInt_inj.mp (by rw [hi, h4.2]))
theorem g_lswitch (hX : Xok G own y X) {x : Int32} {dflt : Int} {ps : Array (Int × Int)} {len dt : Nat} (cs : List (Int32 × Nat)) (hd : dc y.2.1 pc (.lookupswitch dflt ps) len nx) (hp : (ps.toList.zip (ps.toList.drop 1)).all (fun (a, next) => a.1 < next.1) = true) (ho : lsOk pc dflt ps.toList cs dt = true)
    (kk : swk cs dt x (fun t => GG G d mc ms X P t lo st I h k n)) : GG G d mc ms X P pc lo (.int x :: st) I h k n := by
  obtain ⟨t, hK, ht⟩ := lsOk_use ps.toList cs pc dflt dt x _ ho kk
  obtain ⟨p, l, e, s, m, args, below, meth, c⟩ := X
  obtain ⟨hexec, hb, hml, hown, hts, hKs, hGk, hlk, hrt, hnm⟩ := hX
  obtain ⟨hd, rfl⟩ := hd
  intro H locs ls hlv hW hS
  exact lv_lookup hexec hb hd hp rfl ht (hK H locs ls hlv hW hS)
/-! what else: Object's constructor, instanceof, new, new arrays -/
theorem g_objInit (hX : Xok G own y X) {idx q : Nat} (hd : dc y.2.1 pc (.invokespecial idx) 3 nx) (h1 : Cond.methodLink own idx objectInit ∈ TG) (h2 : Cond.instanceMethod objectInit ∈ TG) (h3 : Cond.code objectInit ⟨#[0xb1]⟩ 1 none ∈ TG) (hd1 : 1 ≤ d) (hst : (st.map fun v => v.category).sum ≤ 8)
    (kk : GG G d mc ms X P nx lo st I h k n) : GG G d mc ms X P pc lo (.ref q :: st) I h k n := by
  obtain ⟨p, l, e, s, m, args, below, meth, c⟩ := X
  obtain ⟨hexec, hb, hml, hown, hts, hKs, hGk, hlk, hrt, hnm⟩ := hX
  obtain ⟨hd, rfl⟩ := hd
  intro H locs ls hlv hW hS
  refine W.objInit hexec hb hown (hts _ h1) (hts _ h2) (hts _ h3) rfl hlv.1 rfl hd hd1 ?_ (kk H locs ls hlv hW hS)
  show 2 * 0 + ((st.map (cv G)).map fun v => v.category).sum + 12 ≤ 60 * d
  have : ((st.map (cv G)).map fun v => v.category).sum = (st.map fun v => v.category).sum := by simp only [List.map_map, Function.comp_def, cv_cat]
  omega
theorem g_inst (hX : Xok G own y X) {idx q ci N : Nat} {C nm : String} {T : u_T} {ty : Nat → FieldType} {b : Int32} (hd : dc y.2.1 pc (.instanceof idx) 3 nx) (hC : CLS ci C T N ty) (hl : Cond.classLink own idx nm ∈ TG) (hq : q < hn h) (hc : (hs h q).1 = ci)
    (hb : (b = 1 ∧ (C = nm ∨ (C, nm) ∈ castL)) ∨ (b = 0 ∧ (C, nm) ∈ noCastL)) (kk : GG G d mc ms X P nx lo (.int b :: st) I h k n) : GG G d mc ms X P pc lo (.ref q :: st) I h k n := by
  obtain ⟨p, l, e, s, m, args, below, meth, c⟩ := X
  obtain ⟨hexec, hbb, hml, hown, hts, hKs, hGk, hlk, hrt, hnm⟩ := hX
  obtain ⟨hd, rfl⟩ := hd
  intro H locs ls hlv hW hS
  have hr := rcv_of hKs.1 hW hC hq hc
  rcases hb with ⟨rfl, rfl | hb⟩ | ⟨rfl, hb⟩
  · exact va_instS hexec hbb hown (hts _ hl) (hKs.1.1 ci _ hC.1).2 hr hd (kk H locs ls hlv hW hS)
  · exact va_instY hexec hbb hown (hts _ hl) (hKs.2.2.1 _ hb) hr hd (kk H locs ls hlv hW hS)
  · exact va_instNo hexec hbb hown (hts _ hl) (hKs.2.2.2.1 _ hb) hr hd (kk H locs ls hlv hW hS)
/-- a new cell may be made at the next number -/
def Gnew (G : Gt) (a : Nat) : Prop := gz G a = ga G a ∧ gz G (a + 1) = ga G a + 1
def wN (h : Ht) (sh : Nat × Nat) : Ht := (hL h, hR h, fun a => if a = hn h then sh else hs h a, hn h + 1)
/-- nothing is told of a cell that isn't made yet: a new one's ints, longs, references must be as Java has them -/
theorem wl_new {G : Gt} {I I' : It} {h h' : Ht} {e : va_E} (hn' : hn h' = hn h + 1) (he : ent G I' h' (hn h) = e) (ho : ∀ a, a < hn h → ent G I' h' a = ent G I h a) : wl G I h ++ [(ga G (hn h), e)] = wl G I' h' := by
  apply List.ext_getElem?
  intro i
  by_cases hi : i < hn h
  · rw [List.getElem?_append_left (by rw [wl_len]; exact hi), wl_get hi, wl_get (by omega), ho i hi]
  · by_cases hq : i = hn h
    · subst hq
      rw [List.getElem?_append_right (by rw [wl_len]; omega), wl_len, Nat.sub_self, wl_get (by omega), he]
      rfl
    · rw [List.getElem?_eq_none (by rw [List.length_append, wl_len]; simp; omega), List.getElem?_eq_none (by rw [wl_len]; omega)]
def zI (I : It) (a : Nat) : It := fun b j => if b = a then 0 else I b j
def zH (h : Ht) (sh : Nat × Nat) : Ht := (fun b j => if b = hn h then 0 else hL h b j, fun b j => if b = hn h then none else hR h b j, fun a => if a = hn h then sh else hs h a, hn h + 1)
theorem ent_new {G : Gt} {I : It} {h : Ht} {sh : Nat × Nat} {a : Nat} (ha : a < hn h) : ent G (zI I (hn h)) (zH h sh) a = ent G I h a := by
  have hne : a ≠ hn h := Nat.ne_of_lt ha
  apply ent_congr
  · funext j; simp [zI, hne]
  · funext j; show (if a = hn h then 0 else hL h a j) = hL h a j; rw [if_neg hne]
  · funext j; show (if a = hn h then none else hR h a j) = hR h a j; rw [if_neg hne]
  · show (if a = hn h then sh else hs h a) = hs h a; rw [if_neg hne]
theorem g_new (hX : Xok G own y X) {idx ci N : Nat} {C : String} {T : u_T} {ty : Nat → FieldType} (hd : dc y.2.1 pc (.new idx) 3 nx) (hC : CLS ci C T N ty) (hdf : ∀ j, j < N → defaultValue (ty j) = if isr ci j then .null else .int 0) (hl : Cond.classLink own idx C ∈ TG) (hin : Cond.instantiable C N ∈ TG) (hini : Cond.initialized C ∈ TG) (hG : Gnew G (hn h)) (hk : k + 1 ≤ mc) (hn' : n + N ≤ ms)
    (kk : GG G d mc ms X P nx lo (.ref (hn h) :: st) (zI I (hn h)) (zH h (ci, 0)) (k + 1) (n + N)) : GG G d mc ms X P pc lo st I h k n := by
  obtain ⟨p, l, e, s, m, args, below, meth, c⟩ := X
  obtain ⟨hexec, hb, hml, hown, hts, hKs, hGk, hlk, hrt, hnm⟩ := hX
  obtain ⟨hd, rfl⟩ := hd
  obtain ⟨c1, c2, c3, c4, c5, c6⟩ := hC
  intro H locs ls hlv hW hS
  have hsz : H.size = ga G (hn h) := by rw [hW.2, hG.1]
  have hKn := hKs.1.1 ci _ c1
  refine W.newcK hexec hb hown (hts _ hl) (hts _ hin) (hts _ hini) rfl hd hk hn' hKn.2.1 rfl fun H1 kC hkC e1 z1 o1 => ?_
  rw [hsz]
  have hko : ∀ (i : Nat) (x : Nat × va_E), (wl G I h)[i]? = some x → H1[x.1]? = H[x.1]? := fun i x hx => o1 x.1 ((hW.1 i x hx).lt)
  refine kk H1 locs ls hlv ⟨?_, by rw [z1, hsz]; exact hG.2.symm⟩ ⟨Nat.le_trans hS.1 (by omega), fun x h1 h2 => (o1 x (Nat.lt_of_lt_of_le h1 hS.1)).trans (hS.2.1 x h1 h2), hS.2.2⟩
  rw [← wl_new (I := I) (h := h) (e := .inr (ci, fvs G (zI I (hn h)) (zH h (ci, 0)) (hn h) ci)) rfl (ent_obj (by show (if hn h = hn h then (ci, 0) else hs h (hn h)).1 = ci; rw [if_pos rfl]) c6) (fun a ha => ent_new ha)]
  refine (hW.1.kept hko).app (fun i x hx => ?_)
  have hz : i < 1 := (List.getElem?_eq_some_iff.mp hx).1
  rw [show i = 0 by omega] at hx
  cases hx
  rw [← hsz]
  refine ⟨_, c1, (u_born ty hts c2 hKn hkC e1 c3).to fun j hj => ?_⟩
  rw [hdf j hj]
  show _ = vp_V _ j
  unfold vp_V
  rw [List.getD_eq_getElem?_getD, fvs_get (by rw [c5]; exact hj), Option.getD_some]
  unfold fvl
  by_cases hr : isr ci j = true
  · rw [if_pos hr, if_pos hr]
    show Value.null = cv G (rv (if hn h = hn h then none else hR h (hn h) j))
    rw [if_pos rfl]
    rfl
  · rw [if_neg hr, if_neg hr]
    show Value.int 0 = cv G (.int (if hn h = hn h then 0 else I (hn h) j))
    rw [if_pos rfl]
    rfl
end SW
end
