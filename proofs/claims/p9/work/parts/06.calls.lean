/-! calls: a site is a place of a method's code that calls y'; ci: the class that the receiver must have (none: any, or no receiver) -/
def Site (own : String) (y : Mt) (pc nx : Nat) (y' : Mt) (ci : Option Nat) (na : Nat) : Prop :=
  ∀ (G : Gt) (d mc ms : Nat) (X : Xt) (P : Pt3) (lo : List (Option Value)) (rest : List Value) (I : It) (h : Ht) (k n d' mc' ms' : Nat) (av : List Value) (Q : Pt3),
    Xok G own y X → d' + 1 ≤ d → k + mc' ≤ mc → n + ms' ≤ ms → (rest.map fun v => v.category).sum ≤ 8 → av.length = na →
    (∀ c, ci = some c → ∃ b As, av = .ref b :: As ∧ b < hn h ∧ (hs h b).1 = c) → Con G d' mc' ms' y' av I h Q →
    (∀ r I' h', Q r I' h' → GG G d mc ms X P nx lo (r.toList ++ rest) I' h' (k + mc') (n + ms')) → GG G d mc ms X P pc lo (av.reverse ++ rest) I h k n
theorem tg_goodIn {l : List Cond} (h : ∀ w ∈ l, w ∈ TG) : GoodIn TG l := fun w hw => ⟨h w hw, good_of_word (tg_good (h w hw))⟩
theorem tg_ws {y : Mt} (h : Cond.code y.1 y.2.1 y.2.2.1 y.2.2.2 ∈ TG) : GoodIn TG (ws y) := tg_goodIn fun w hw => by
  rcases List.mem_cons.mp hw with e | e
  · rw [e]; exact h
  · exact e
theorem tg_app {l : List Cond} {y : Mt} (hl : ∀ w ∈ l, w ∈ TG) (h : Cond.code y.1 y.2.1 y.2.2.1 y.2.2.2 ∈ TG) : GoodIn TG (l ++ ws y) := tg_goodIn fun w hw => by
  rcases List.mem_append.mp hw with e | e
  · exact hl w e
  · exact (tg_ws h w e).1
theorem pc_blind {G : Gt} {I : It} {h : Ht} {av : List Value} : FrameBlind (va_Pc (av.map (cv G)) (fun U => Wd G I h U.heap ∧ Ks G U)) :=
  fun _ U g mk hp => ⟨hp.1, hp.2.1, Ks.same (u := U) (U := U.calling g mk _) rfl hp.2.2⟩
section CR
variable {G : Gt} {d mc ms : Nat} {own : String} {y : Mt} {P : Pt3} {pc nx : Nat} {lo : List (Option Value)} {I : It} {h : Ht} {k n : Nat}
variable {p : Program} {l : Launch} {e : Env} {s : State} {m : MethodId} {args : Array Value} {below : List Frame} {meth : Method} {c : Code} {H : Heap} {locs : List Loc} {ls : Array Slot}
theorem run_core {mc' ms' : Nat} {st0 rest : List Value} {Q : Pt3} {a : Array Value} (hlv : lv_has ls c.maxLocals (lpr G 0 lo)) (hS : va_S (gA G) s.heap H locs)
    (hr : va_Run p l e (rmd d mc ms) s m args below meth c H locs k n mc' ms' (F0 m pc ls st0) (rest.map (cv G)) (QC G Q a) (gA G))
    (kk : ∀ r I' h', Q r I' h' → GG G d mc ms (p, l, e, s, m, args, below, meth, c) P (pc + 3) lo (r.toList ++ rest) I' h' (k + mc') (n + ms')) :
    W p l e (rmd d mc ms) s m args below meth c H locs k n (MQ below (QC G P) args s mc ms (gA G)) (F0 m pc ls st0) := by
  intro T hT Xs
  obtain ⟨v, st₀, t, T', L, h0, X', hL, e1, e2, ⟨⟨r, I', h', hv, hp, hw⟩, hz, hk⟩, st⟩ := hr T hT Xs
  cases hv
  rw [h0] at hz hk
  obtain ⟨t2, a1, b1⟩ := kk r I' h' hp T'.heap (locs ++ L) ls hlv (by rw [e1]; exact hw)
    ⟨Nat.le_trans hS.1 (by rw [e1]; exact hz), fun q h1 h2 => by rw [e1, hk q (Nat.lt_of_lt_of_le h1 hS.1) h2]; exact hS.2.1 q h1 h2, fun q hq => by
      rcases List.mem_append.mp hq with h | h
      · exact hS.2.2 q h
      · exact hL q h⟩ T' rfl X'
  refine ⟨t2, st t2 ?_, b1⟩
  cases r <;> exact a1
theorem rcv_of (hK : va_K (gD G) vwCl (tysG G) s) (hW : Wd G I h H) {ci N b : Nat} {C : String} {T : u_T} {ty : Nat → FieldType} (hC : CLS ci C T N ty) (hb : b < hn h) (hc : (hs h b).1 = ci) :
    ∃ cell : Cell, H[ga G b]? = some cell ∧ cell.vm.isStatics = false ∧ s.vm.findClass C = some cell.cls :=
  va_recv hK hW.1 hC.1 (by rw [wl_get hb, ent_obj hc hC.2.2.2.2.2])
end CR
def prms (y : MethodName) (n : Nat) : Prop := y.cls ≠ "java/lang/invoke/MethodHandle" ∧ y.cls ≠ "java/lang/invoke/VarHandle" ∧ (parseMethodDescriptor y.desc).map (fun d => d.parameters.length) = some n
theorem prms_len {y : MethodName} {n : Nat} (h : prms y n) : ∀ sig, parseMethodDescriptor y.desc = some sig → n = sig.parameters.length := fun sig hs => by
  have h2 := h.2.2
  rw [hs] at h2
  exact (Option.some.inj h2).symm
theorem rm_ok {d d' mc ms mc' ms' maxL : Nat} (hd : d' + 1 ≤ d) (hm : maxL ≤ 41) : (rmd d' mc' ms').frames + 1 ≤ (rmd d mc ms).frames ∧ 8 + (maxL + 11) + (rmd d' mc' ms').locals ≤ (rmd d mc ms).locals := by
  refine ⟨hd, ?_⟩
  show 8 + (maxL + 11) + 60 * d' ≤ 60 * d
  omega
theorem site_S {own : String} {y : Mt} {pc nx idx na : Nat} {y' : Mt} (hd : dc y.2.1 pc (.invokestatic idx) 3 nx) (h1 : Cond.methodLink own idx y'.1 ∈ TG) (h2 : Cond.static y'.1 ∈ TG) (h3 : Cond.initialized y'.1.cls ∈ TG) (h4 : Cond.code y'.1 y'.2.1 y'.2.2.1 y'.2.2.2 ∈ TG) (h5 : prms y'.1 na) (h6 : y'.2.2.1 ≤ 41) : Site own y pc nx y' none na := by
  intro G d mc ms X P lo rest I h k n d' mc' ms' av Q hX hdd hk hn' hst hlen hrc hC kk
  obtain ⟨p, l, e, s, m, args, below, meth, c⟩ := X
  obtain ⟨hexec, hb, hml, hown, hts, hKs, hGk, hlk, hrt, hnm⟩ := hX
  obtain ⟨hd, rfl⟩ := hd
  intro H locs ls hlv hW hS
  refine run_core hlv hS (va_runS (As := av.map (cv G)) (nL := y.2.2.1) (Ts := TG) ⟨hexec, hb, hml, hown, hts⟩ (hC l) ⟨callB_of na hts (tg_ws h4) rfl rfl rfl (hts _ h3) (hts _ h1) h5 (rm_ok hdd h6), hts _ h2⟩ ⟨pc_blind, fun U hU hWm => ⟨rfl, by rw [hU]; exact hW, hKs.moved hWm⟩⟩ rfl (by rw [List.length_map]; exact hlen) (hlv.1.trans hml) (by simp) (lv_room (by simp only [List.map_map, Function.comp_def, cv_cat]; exact hst)) hd ⟨hk, hn'⟩) kk
theorem site_V {own : String} {y : Mt} {pc nx idx na ci N : Nat} {y' : Mt} {T : u_T} {ty : Nat → FieldType} (hd : dc y.2.1 pc (.invokevirtual idx) 3 nx) (hCls : CLS ci y'.1.cls T N ty) (h1 : Cond.methodLink own idx y'.1 ∈ TG) (h2 : Cond.instanceMethod y'.1 ∈ TG) (h2s : Cond.selects y'.1.cls y'.1 y'.1 ∈ TG) (h3 : Cond.initialized y'.1.cls ∈ TG) (h4 : Cond.code y'.1 y'.2.1 y'.2.2.1 y'.2.2.2 ∈ TG) (h5 : prms y'.1 na) (h6 : y'.2.2.1 ≤ 41) : Site own y pc nx y' (some ci) (na + 1) := by
  intro G d mc ms X P lo rest I h k n d' mc' ms' av Q hX hdd hk hn' hst hlen hrc hC kk
  obtain ⟨p, l, e, s, m, args, below, meth, c⟩ := X
  obtain ⟨hexec, hb, hml, hown, hts, hKs, hGk, hlk, hrt, hnm⟩ := hX
  obtain ⟨hd, rfl⟩ := hd
  obtain ⟨b, As, rfl, hbn, hbc⟩ := hrc ci rfl
  intro H locs ls hlv hW hS
  have hlen' : As.length = na := by simpa using hlen
  refine run_core hlv hS (va_runV (C := y'.1.cls) (b := ga G b) (As := As.map (cv G)) (nL := y.2.2.1) (Ts := TG) ⟨hexec, hb, hml, hown, hts⟩ (hC l) ⟨callB_of na hts (tg_ws h4) rfl rfl rfl (hts _ h3) (hts _ h1) h5 (rm_ok hdd h6), hts _ h2, hts _ h2s⟩ ⟨pc_blind, rcv_of hKs.1 hW hCls hbn hbc, fun U hU hWm => ⟨rfl, by rw [hU]; exact hW, hKs.moved hWm⟩⟩ rfl (by rw [List.length_map]; exact hlen') (hlv.1.trans hml) (by simp [cv]) (lv_room (by simp only [List.map_map, Function.comp_def, cv_cat]; exact hst)) hd ⟨hk, hn'⟩) kk
theorem site_I {own : String} {y : Mt} {pc nx idx na : Nat} {y' : Mt} (hd : dc y.2.1 pc (.invokespecial idx) 3 nx) (hi : y'.1.name = "<init>") (hre : y'.2.2.2 = none) (h1 : Cond.methodLink own idx y'.1 ∈ TG) (h2 : Cond.instanceMethod y'.1 ∈ TG) (h3 : Cond.initialized y'.1.cls ∈ TG) (h4 : Cond.code y'.1 y'.2.1 y'.2.2.1 y'.2.2.2 ∈ TG) (h5 : prms y'.1 na) (h6 : y'.2.2.1 ≤ 41) {ci : Nat} : Site own y pc nx y' (some ci) (na + 1) := by
  intro G d mc ms X P lo rest I h k n d' mc' ms' av Q hX hdd hk hn' hst hlen hrc hC kk
  obtain ⟨p, l, e, s, m, args, below, meth, c⟩ := X
  obtain ⟨hexec, hb, hml, hown, hts, hKs, hGk, hlk, hrt, hnm⟩ := hX
  obtain ⟨hd, rfl⟩ := hd
  obtain ⟨b, As, rfl, hbn, hbc⟩ := hrc ci rfl
  intro H locs ls hlv hW hS
  have hlen' : As.length = na := by simpa using hlen
  refine run_core hlv hS (va_runI (bytes := y'.2.1) (maxL := y'.2.2.1) (b := ga G b) (As := As.map (cv G)) (nL := y.2.2.1) (Ts := TG) ⟨hexec, hb, hml, hown, hts⟩ (hC l) ⟨callB_of (ws' := TG) na hts (tg_ws h4) (by rw [← hre]; rfl) rfl rfl (hts _ h3) (hts _ h1) h5 (rm_ok hdd h6), hi, hts _ h2⟩ ⟨pc_blind, fun U hU hWm => ⟨rfl, by rw [hU]; exact hW, hKs.moved hWm⟩⟩ rfl (by rw [List.length_map]; exact hlen') (hlv.1.trans hml) (by simp [cv]) (lv_room (by simp only [List.map_map, Function.comp_def, cv_cat]; exact hst)) hd ⟨hk, hn'⟩) kk
theorem site_IN {own host : String} {y : Mt} {pc nx idx na : Nat} {y' : Mt} (hd : dc y.2.1 pc (.invokespecial idx) 3 nx) (hi : y'.1.name = "<init>") (hre : y'.2.2.2 = none) (h1 : (own, idx, y'.1, host) ∈ nestL) (h2 : Cond.instanceMethod y'.1 ∈ TG) (h3 : Cond.initialized y'.1.cls ∈ TG) (h4 : Cond.code y'.1 y'.2.1 y'.2.2.1 y'.2.2.2 ∈ TG) (h5 : prms y'.1 na) (h6 : y'.2.2.1 ≤ 41) {ci : Nat} : Site own y pc nx y' (some ci) (na + 1) := by
  intro G d mc ms X P lo rest I h k n d' mc' ms' av Q hX hdd hk hn' hst hlen hrc hC kk
  obtain ⟨p, l, e, s, m, args, below, meth, c⟩ := X
  obtain ⟨hexec, hb, hml, hown, hts, hKs, hGk, hlk, hrt, hnm⟩ := hX
  obtain ⟨hd, rfl⟩ := hd
  obtain ⟨b, As, rfl, hbn, hbc⟩ := hrc ci rfl
  intro H locs ls hlv hW hS
  have hlen' : As.length = na := by simpa using hlen
  refine run_core hlv hS (va_runIN (host := host) (bytes := y'.2.1) (maxL := y'.2.2.1) (b := ga G b) (As := As.map (cv G)) (nL := y.2.2.1) (Ts := TG) ⟨hexec, hb, hml, hown, hts⟩ (hC l) ⟨va_cnB (ws' := TG) na hts (tg_ws h4) (by rw [← hre]; rfl) rfl rfl (hKs.2.1 _ h1) (hts _ h3) h5 (rm_ok hdd h6), hi, hts _ h2⟩ ⟨pc_blind, fun U hU hWm => ⟨rfl, by rw [hU]; exact hW, hKs.moved hWm⟩⟩ rfl (by rw [List.length_map]; exact hlen') (hlv.1.trans hml) (by simp [cv]) (lv_room (by simp only [List.map_map, Function.comp_def, cv_cat]; exact hst)) hd ⟨hk, hn'⟩) kk
theorem site_SN {own host : String} {y : Mt} {pc nx idx na : Nat} {y' : Mt} (hd : dc y.2.1 pc (.invokestatic idx) 3 nx) (h1 : (own, idx, y'.1, host) ∈ nestL) (h2 : Cond.static y'.1 ∈ TG) (h3 : Cond.initialized y'.1.cls ∈ TG) (h4 : Cond.code y'.1 y'.2.1 y'.2.2.1 y'.2.2.2 ∈ TG) (h5 : prms y'.1 na) (h6 : y'.2.2.1 ≤ 41) : Site own y pc nx y' none na := by
  intro G d mc ms X P lo rest I h k n d' mc' ms' av Q hX hdd hk hn' hst hlen hrc hC kk
  obtain ⟨p, l, e, s, m, args, below, meth, c⟩ := X
  obtain ⟨hexec, hb, hml, hown, hts, hKs, hGk, hlk, hrt, hnm⟩ := hX
  obtain ⟨hd, rfl⟩ := hd
  intro H locs ls hlv hW hS
  refine run_core hlv hS (va_runSN (host := host) (As := av.map (cv G)) (nL := y.2.2.1) (Ts := TG) ⟨hexec, hb, hml, hown, hts⟩ (hC l) ⟨va_cnB na hts (tg_ws h4) rfl rfl rfl (hKs.2.1 _ h1) (hts _ h3) h5 (rm_ok hdd h6), hts _ h2, trivial⟩ ⟨pc_blind, fun U hU hWm => ⟨rfl, by rw [hU]; exact hW, hKs.moved hWm⟩⟩ rfl (by rw [List.length_map]; exact hlen) (hlv.1.trans hml) (by simp) (lv_room (by simp only [List.map_map, Function.comp_def, cv_cat]; exact hst)) hd ⟨hk, hn'⟩) kk
/-- a virtual call by x, found in owner; an object of class C runs y' -/
theorem site_U {own owner C : String} {x : MethodName} {y : Mt} {pc nx idx na ci N m0 : Nat} {b0 : ByteArray} {r0 : Option FieldType} {y' : Mt} {T : u_T} {ty : Nat → FieldType} (hd : dc y.2.1 pc (.invokevirtual idx) 3 nx) (hCls : CLS ci C T N ty) (h1 : Cond.methodLink own idx x ∈ TG) (h1s : Cond.sameMethod x.cls owner x.name x.desc ∈ TG) (h2o : Cond.instanceMethod ⟨owner, x.name, x.desc⟩ ∈ TG) (h0 : Cond.code ⟨owner, x.name, x.desc⟩ b0 m0 r0 ∈ TG) (h2 : Cond.instanceMethod y'.1 ∈ TG) (h2s : Cond.selects C x y'.1 ∈ TG) (h3 : Cond.initialized y'.1.cls ∈ TG) (h4 : Cond.code y'.1 y'.2.1 y'.2.2.1 y'.2.2.2 ∈ TG) (h5 : owner ≠ "java/lang/invoke/MethodHandle" ∧ owner ≠ "java/lang/invoke/VarHandle" ∧ (parseMethodDescriptor x.desc).map (fun d => d.parameters.length) = some na) (h6 : y'.2.2.1 ≤ 41) : Site own y pc nx y' (some ci) (na + 1) := by
  intro G d mc ms X P lo rest I h k n d' mc' ms' av Q hX hdd hk hn' hst hlen hrc hC kk
  obtain ⟨p, l, e, s, m, args, below, meth, c⟩ := X
  obtain ⟨hexec, hb, hml, hown, hts, hKs, hGk, hlk, hrt, hnm⟩ := hX
  obtain ⟨hd, rfl⟩ := hd
  obtain ⟨b, As, rfl, hbn, hbc⟩ := hrc ci rfl
  intro H locs ls hlv hW hS
  have hlen' : As.length = na := by simpa using hlen
  have hG : GoodIn TG (va_wsO own idx C owner x y'.1 (ws y')) := tg_app (by
    intro w hw
    simp only [List.mem_cons, List.not_mem_nil, or_false] at hw
    rcases hw with rfl | rfl | rfl | rfl | rfl | rfl <;> assumption) h4
  refine run_core hlv hS (va_runU (C := C) (b := ga G b) (As := As.map (cv G)) (nL := y.2.2.1) (Ts := TG) ⟨hexec, hb, hml, hown, hts⟩ (hC l) (va_cwO na hts hG rfl rfl rfl h0 h5 (rm_ok hdd h6)) ⟨pc_blind, rcv_of hKs.1 hW hCls hbn hbc, fun U hU hWm => ⟨rfl, by rw [hU]; exact hW, hKs.moved hWm⟩⟩ rfl (by rw [List.length_map]; exact hlen') (hlv.1.trans hml) (by simp [cv]) (lv_room (by simp only [List.map_map, Function.comp_def, cv_cat]; exact hst)) hd ⟨hk, hn'⟩) kk
/-- super.x(..), found in y'.cls, the direct superclass x.cls itself or one above -/
theorem site_SU {own C : String} {x : MethodName} {y : Mt} {pc nx idx na ci N : Nat} {y' : Mt} {T : u_T} {ty : Nat → FieldType} (hd : dc y.2.1 pc (.invokespecial idx) 3 nx) (hCls : CLS ci C T N ty) (hy : y'.1.name = x.name ∧ y'.1.desc = x.desc) (h1 : Cond.methodLink own idx x ∈ TG) (h1s : Cond.sameMethod x.cls y'.1.cls x.name x.desc ∈ TG) (hsup : Cond.superclass own x.cls ∈ TG) (hup : x.cls = y'.1.cls ∨ Cond.superclass x.cls y'.1.cls ∈ TG) (h2 : Cond.instanceMethod y'.1 ∈ TG) (h3 : Cond.initialized y'.1.cls ∈ TG) (h4 : Cond.code y'.1 y'.2.1 y'.2.2.1 y'.2.2.2 ∈ TG) (hno : x.name ≠ "<init>") (h5 : (parseMethodDescriptor y'.1.desc).map (fun d => d.parameters.length) = some na) (h6 : y'.2.2.1 ≤ 41) : Site own y pc nx y' (some ci) (na + 1) := by
  intro G d mc ms X P lo rest I h k n d' mc' ms' av Q hX hdd hk hn' hst hlen hrc hC kk
  obtain ⟨p, l, e, s, m, args, below, meth, c⟩ := X
  obtain ⟨hexec, hb, hml, hown, hts, hKs, hGk, hlk, hrt, hnm⟩ := hX
  obtain ⟨hd, rfl⟩ := hd
  obtain ⟨b, As, rfl, hbn, hbc⟩ := hrc ci rfl
  intro H locs ls hlv hW hS
  have hlen' : As.length = na := by simpa using hlen
  obtain ⟨cellB, hcB, hoB, hclB⟩ := rcv_of hKs.1 hW hCls hbn hbc
  obtain ⟨-, kB, hkB, -⟩ := (hKs.1.1 ci _ hCls.1).2
  have hfc := (hKs.1.1 ci _ hCls.1).2.1
  have hcc : cellB.cls = (gD G).1 ci := (Option.some.inj (hfc.symm.trans hclB)).symm
  have hkB2 : s.vm.classes[cellB.cls]? = some kB := by rw [hcc]; exact hkB
  have hK : Back l (rmd d mc ms) p e below s args y'.1 3 8 (PreOf (rmd d mc ms) mc' ms' (va_Pc ((Value.ref b :: As).map (cv G)) (fun U => Wd G I h U.heap ∧ Ks G U))) (PostOf (QC G Q) mc' ms' (gA G)) :=
    back_of (bytes := y'.2.1) (maxL := y'.2.2.1) (ret := y'.2.2.2) (hC l) pc_blind rfl rfl (rm_ok (mc := mc) (ms := ms) (mc' := mc') (ms' := ms') hdd h6).1 (rm_ok (mc := mc) (ms := ms) (mc' := mc') (ms' := ms') hdd h6).2 (pay_in hts (tg_ws h4)) List.mem_cons_self (fun a' U hW => word_at hW (Or.inl (by first | rfl | simp [Cond.onTables, Cond.keeps, Cond.steady])) (hts _ h3))
  refine run_core hlv hS (st0 := ((Value.ref b :: As).reverse ++ rest).map (cv G)) (a := (Value.ref (ga G b) :: As.map (cv G)).toArray) ?_ kk
  intro T hT Xs
  obtain ⟨mk, methM, hnamed, hmethM, hstM, habM⟩ := Cond.instanceMethod_spec (hts _ h2)
  obtain ⟨methM', cM, hmethM', -, -, -, -, -, -, hsigM⟩ := Cond.code_spec hnamed (hts _ h4)
  cases hmethM.symm.trans hmethM'
  obtain ⟨ps, dk, kp, hps, hdk, hkp, hsuper, -, -, hnid⟩ := Cond.superclass_spec hown (hts _ hsup)
  have hyx : (⟨y'.1.cls, x.name, x.desc⟩ : MethodName) = y'.1 := by rw [← hy.1, ← hy.2]
  have hn2 : s.methodNamed? ⟨y'.1.cls, x.name, x.desc⟩ = some mk := by rw [hyx]; exact hnamed
  have hmcls := findClass_of_methodNamed hnamed
  have hsub : s.vm.isSubclass ps mk.cls = true := by
    rcases hup with e | e
    · rw [e] at hps
      have hpm : ps = mk.cls := Option.some.inj (hps.symm.trans hmcls)
      rw [hpm]; simp [Vm.isSubclass, Vm.isSubclassAux]
    · obtain ⟨pz, kz, kpz, hz1, hz2, hz3, hz4, -⟩ := Cond.superclass_spec hps (hts _ e)
      have hpm : pz = mk.cls := Option.some.inj (hz1.symm.trans hmcls)
      subst hpm
      have hsz : ps < s.vm.classes.size := (Array.getElem?_eq_some_iff.mp hz2).1
      obtain ⟨z, hz⟩ : ∃ z, s.vm.classes.size = z + 1 := ⟨_, (Nat.succ_pred_eq_of_pos (Nat.zero_lt_of_lt hsz)).symm⟩
      unfold Vm.isSubclass
      rw [hz]
      simp [Vm.isSubclassAux, hz2, hz4]
  obtain ⟨vm₁, X₁, hstep₁⟩ := Xs.invokespecialUp hexec hown (hts _ h1) (hts _ h1s) hn2 hmethM hstM habM hno hdk hnid hps hsuper hsub (a := ga G b) (cell := cellB) (by rw [hT]; exact hcB)
    (fun z h => by rw [h] at hoB; cases hoB) hkB2 (g := F0 m pc ls (((Value.ref b :: As).reverse ++ rest).map (cv G))) rfl (argsL := As.map (cv G)) (rest := rest.map (cv G)) (by rw [List.length_map, hlen']; have h2 := h5; rw [hsigM] at h2; exact (Option.some.inj h2).symm) (by simp [cv]) (by rw [hb]; exact hd)
  obtain ⟨v, ⟨U', l2, c2, s2⟩, X', ⟨g', mk2, t, L, e1, e2, hq, g1, hL, g2, g3⟩, hsteps⟩ := hK m meth c ⟨T.setVm vm₁, locs, k, n⟩ { F0 m pc ls (((Value.ref b :: As).reverse ++ rest).map (cv G)) with stack := rest.map (cv G) } (.invokespecial idx) mk (Value.ref (ga G b) :: As.map (cv G)).toArray X₁ rfl hlv.1 (by rw [hb]; exact hd) (lv_room (m := m) (pc := pc) (ls := ls) (rest := rest.map (cv G)) (by simp only [List.map_map, Function.comp_def, cv_cat]; exact hst)) (X₁.named hnamed) ⟨hk, hn', rfl, by show Wd G I h T.heap; rw [hT]; exact hW, hKs.moved X₁.warmed⟩
  dsimp only [Pt.U, Pt.locs, Pt.cells, Pt.slots] at X' e1 e2 g1 g2 g3 hsteps
  subst g1; subst g2; subst g3
  exact ⟨v, (T.setVm vm₁).calling g' mk2 (Value.ref (ga G b) :: As.map (cv G)).toArray, t, U', L, hT, X', hL, e1, e2, hq, fun target h => hstep₁ _ (by rw [doInvoke_state]; exact hsteps.trans h)⟩
