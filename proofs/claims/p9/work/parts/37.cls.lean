/-- the class's fixed cells -/
def HX (h : Ht) : Prop := 73 ≤ hn h ∧ (∀ q, q < 73 → hs h q = SXL.getD q (0, 0)) ∧ ∀ x, x ∈ RXL → hR h x.1.1 x.1.2 = some x.2
theorem HX0.hx {h : Ht} (hH : HX0 h) : HX h := ⟨by rw [hH.1]; exact Nat.le_refl _, hH.2.1, hH.2.2.1⟩
theorem CLt {h : Ht} (hH : HX h) {q : Nat} (hq : q < 73) : q < hn h := Nat.lt_of_lt_of_le hq hH.1
theorem CS {h : Ht} (hH : HX h) (q : Nat) {x : Nat × Nat} (hq : q < 73) (e : SXL.getD q (0, 0) = x) : hs h q = x := by rw [hH.2.1 q hq, e]
theorem CC {h : Ht} (hH : HX h) (q : Nat) {c : Nat} (hq : q < 73) (e : (SXL.getD q (0, 0)).1 = c) : (hs h q).1 = c := by rw [hH.2.1 q hq, e]
theorem CR {h : Ht} (hH : HX h) (q j r : Nat) (e : ((q, j), r) ∈ RXL) : hR h q j = some r := hH.2.2 ((q, j), r) e
set_option maxRecDepth 8000 in
set_option maxHeartbeats 4000000 in
theorem c_X11_isNot {G : Gt} (hG : Gok G) {I : It} {h : Ht}  {a b c : Int32} : Con G (1) 0 0 mX11_isNot [.int a, .int b, .int c] I h (rI (bI (¬ (b ≤ a ∧ a ≤ c))) I h) := by
  refine con_intro (own := RX11) (lo0 := [some (.int a), some (.int b), some (.int c)]) hG rfl pl_X11 (Nat.le_of_ble_eq_true rfl) rfl (fun X hX => ?_)
  refine g_iload_0 hX (dk DX11_isNot 0 rfl) ?_
  refine g_iload_1 hX (dk DX11_isNot 1 rfl) ?_
  refine g_icmp_lt (tgt := 10) hX (dk DX11_isNot 2 rfl) (by decide) (fun hc1 => ?_) (fun hc1 => ?_)
  · refine g_iconst (v := 1) hX (dk DX11_isNot 6 rfl) (by decide) ?_
    refine g_goto (tgt := 15) hX (dk DX11_isNot 7 rfl) (by decide) ?_
    refine g_ireturn hX (dk DX11_isNot 9 rfl) rfl (by decide) (by decide) (by decide) ?_
    exact rI_of (by grind [bI]) rfl rfl
  · refine g_iload_0 hX (dk DX11_isNot 3 rfl) ?_
    refine g_iload_2 hX (dk DX11_isNot 4 rfl) ?_
    refine g_icmp_le (tgt := 14) hX (dk DX11_isNot 5 rfl) (by decide) (fun hc2 => ?_) (fun hc2 => ?_)
    · refine g_iconst (v := 0) hX (dk DX11_isNot 8 rfl) (by decide) ?_
      refine g_ireturn hX (dk DX11_isNot 9 rfl) rfl (by decide) (by decide) (by decide) ?_
      exact rI_of (by grind [bI]) rfl rfl
    · refine g_iconst (v := 1) hX (dk DX11_isNot 6 rfl) (by decide) ?_
      refine g_goto (tgt := 15) hX (dk DX11_isNot 7 rfl) (by decide) ?_
      refine g_ireturn hX (dk DX11_isNot 9 rfl) rfl (by decide) (by decide) (by decide) ?_
      exact rI_of (by grind [bI]) rfl rfl

set_option maxRecDepth 8000 in
set_option maxHeartbeats 4000000 in
theorem c_X11_bit {G : Gt} (hG : Gok G) {I : It} {h : Ht}  {a b : Int32} : Con G (1) 0 0 mX11_bit [.int a, .int b] I h (rI (hasI a b) I h) := by
  refine con_intro (own := RX11) (lo0 := [some (.int a), some (.int b)]) hG rfl pl_X11 (Nat.le_of_ble_eq_true rfl) rfl (fun X hX => ?_)
  refine g_iload_0 hX (dk DX11_bit 0 rfl) ?_
  refine g_iload_1 hX (dk DX11_bit 1 rfl) ?_
  refine g_ishr hX (dk DX11_bit 2 rfl) ?_
  refine g_iconst (v := 1) hX (dk DX11_bit 3 rfl) (by decide) ?_
  refine g_iand hX (dk DX11_bit 4 rfl) ?_
  refine g_ireturn hX (dk DX11_bit 5 rfl) rfl (rfl) (by decide) (by decide) ?_
  exact rI_of rfl rfl rfl

set_option maxRecDepth 8000 in
set_option maxHeartbeats 4000000 in
theorem c_X11_withBit {G : Gt} (hG : Gok G) {I : It} {h : Ht}  {a b z : Int32} : Con G (1) 0 0 mX11_withBit [.int a, .int b, .int z] I h (rI (withI a b z) I h) := by
  refine con_intro (own := RX11) (lo0 := [some (.int a), some (.int b), some (.int z)]) hG rfl pl_X11 (Nat.le_of_ble_eq_true rfl) rfl (fun X hX => ?_)
  refine g_iload_2 hX (dk DX11_withBit 0 rfl) ?_
  refine g_if_eq (tgt := 12) hX (dk DX11_withBit 1 rfl) (by decide) (fun hc1 => ?_) (fun hc1 => ?_)
  · refine g_iload_0 hX (dk DX11_withBit 8 rfl) ?_
    refine g_iconst (v := 1) hX (dk DX11_withBit 9 rfl) (by decide) ?_
    refine g_iload_1 hX (dk DX11_withBit 10 rfl) ?_
    refine g_ishl hX (dk DX11_withBit 11 rfl) ?_
    refine g_iconst (v := -1) hX (dk DX11_withBit 12 rfl) (by decide) ?_
    refine g_ixor hX (dk DX11_withBit 13 rfl) ?_
    refine g_iand hX (dk DX11_withBit 14 rfl) ?_
    refine g_ireturn hX (dk DX11_withBit 15 rfl) rfl (rfl) (by decide) (by decide) ?_
    exact rI_of (by simp_all [withI, bitI]) rfl rfl
  · refine g_iload_0 hX (dk DX11_withBit 2 rfl) ?_
    refine g_iconst (v := 1) hX (dk DX11_withBit 3 rfl) (by decide) ?_
    refine g_iload_1 hX (dk DX11_withBit 4 rfl) ?_
    refine g_ishl hX (dk DX11_withBit 5 rfl) ?_
    refine g_ior hX (dk DX11_withBit 6 rfl) ?_
    refine g_goto (tgt := 19) hX (dk DX11_withBit 7 rfl) (by decide) ?_
    refine g_ireturn hX (dk DX11_withBit 15 rfl) rfl (rfl) (by decide) (by decide) ?_
    exact rI_of (by simp_all [withI, bitI]) rfl rfl

theorem Met_ofF {l : Launch} {y : MethodName} {ws ws' : List Cond} {rm : Room} {Pc : Array Value → State → Prop} {Qc : Array Value → State → Outcome → State → Prop} {mc ms : Nat} {free : Addr → Prop} {cc : ByteArray} {maxL : Nat} {ret : Option FieldType}
    (hy : plainFor y = true) (hw : ws = Cond.code y cc maxL ret :: ws')
    (body : ∀ p e s m args below meth c s₁, BodyLoose p l y (headSpec ws rm) cc maxL ret e s m args below meth c s₁ → c.maxLocals = maxL → Pc args s → W p l e (headSpec ws rm).room s m args below meth c s.heap [] 0 0 (MQ below Qc args s mc ms free) (entryFrame m args maxL)) : Met l y ws rm Pc Qc mc ms free := by
  refine MetFree.of_bodySF (code := cc) (maxLocals := maxL) (ret := ret) hy ?_ ?_
  · intro args s m h hn
    obtain ⟨meth, c, h1, h2, h3, h4, h5, h6, -, -⟩ := Cond.code_spec hn (atoms_spec (ws := ws) h _ (by rw [hw]; exact List.mem_cons_self))
    exact ⟨meth, c, h1, h2, h3, h4, h5, h6⟩
  · intro p e s m args below meth c s₁ B hml hP _
    have hh0 : s₁.heap = s.heap := by rw [B.state]; rfl
    obtain ⟨t, a1, o, b1, b2, b3⟩ := body p e s m args below meth c s₁ B hml hP s₁ hh0 (Stand.of_body B)
    exact ⟨t, o, a1, b1, b2, ⟨b3.1, b3.2⟩⟩
theorem con_introF {G : Gt} {d mc ms : Nat} {own : String} {y : Mt} {P : Pt3} {I : It} {h : Ht} {av : List Value} {lo0 : List (Option Value)} (hG : Gok G) (hown : y.1.cls = own) (hpl : plainFor y.1 = true) (hlen : (lg_sl av).length ≤ y.2.2.1) (hlo : loc0 av y.2.2.1 = lo0)
    (body : ∀ X, Xok G own y X → GG G d mc ms X P 0 lo0 [] I h 0 0) : Con G d mc ms y av I h P := by
  intro l
  refine Met_ofF (cc := y.2.1) (maxL := y.2.2.1) (ret := y.2.2.2) hpl rfl ?_
  intro p e s m args below meth c s₁ B hml hv
  obtain ⟨rfl, hW, hKs⟩ := hv
  have hts := atoms_spec (ws := ws y) B.pre
  have hX : Xok G own y (p, l, e, s, m, (av.map (cv G)).toArray, below, meth, c) :=
    ⟨B.exec, B.bytes, hml, by rw [← hown]; exact findClass_of_methodNamed B.named, fun w hw => hts w (List.mem_cons_of_mem _ hw), hKs, hG, B.notSynchronized, B.returns, (name_of_methodNamed B.named B.method).1⟩
  have hg := body _ hX
  rw [lg_entry_eq]
  exact hg s.heap [] _ (by rw [hml]; exact lv_fewer (lv_entry (av.map (cv G)) (n := y.2.2.1) (by rw [lg_sl_cv]; exact hlen)) (by subst hlo; exact lv_args_mem av 0 _)) hW va_S.rf
