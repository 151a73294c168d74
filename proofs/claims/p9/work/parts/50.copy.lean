/-! System.arraycopy, references that may be null, long arrays filled -/
def acY : MethodName := ⟨"java/lang/System", "arraycopy", "(Ljava/lang/Object;ILjava/lang/Object;II)V"⟩
def cpI (I : It) (q0 q1 sp dp m : Nat) : It := fun a => if a = q1 then va_cpy (I q0) (I q1) sp dp m else I a
def cpL (h : Ht) (q0 q1 sp dp m : Nat) : Ht := (fun a => if a = q1 then va_cpy (hL h q0) (hL h q1) sp dp m else hL h a, hR h, hs h, hn h)
theorem cpI_off {I : It} {q0 q1 sp dp m a : Nat} (ha : a ≠ q1) : cpI I q0 q1 sp dp m a = I a := if_neg ha
theorem cpI_row {I : It} {q0 q1 sp dp m : Nat} : cpI I q0 q1 sp dp m q1 = va_cpy (I q0) (I q1) sp dp m := if_pos rfl
theorem cpy_in {f g : Nat → Int32} {n j : Nat} (hj : j < n) : va_cpy f g 0 0 n j = f j := by
  unfold va_cpy
  rw [if_pos ⟨Nat.zero_le _, by omega⟩]
  congr 1
  omega
theorem cpy_out {f g : Nat → Int32} {n j : Nat} (hj : n ≤ j) : va_cpy f g 0 0 n j = g j := by
  unfold va_cpy
  exact if_neg (by omega)
section CPY
variable {G : Gt} {d mc ms : Nat} {own : String} {y : Mt} {X : Xt} {P : Pt3} {pc nx : Nat} {lo : List (Option Value)} {st : List Value} {I : It} {h : Ht} {k n : Nat}
theorem g_copyI (hX : Xok G own y X) {idx q0 q1 l0 l1 sp dp m : Nat} {isp idp im : Int32} (hd : dc y.2.1 pc (.invokestatic idx) 3 nx) (hl : Cond.methodLink own idx acY ∈ TG) (w1 : Cond.native acY ∈ TG) (w2 : Cond.static acY ∈ TG) (w3 : Cond.initialized "java/lang/System" ∈ TG)
    (hq0 : q0 < hn h) (hc0 : hs h q0 = (20, l0)) (hq1 : q1 < hn h) (hc1 : hs h q1 = (20, l1)) (e : isp = nI sp ∧ idp = nI dp ∧ im = nI m) (b0 : sp + m ≤ l0 ∧ l0 < 2 ^ 31) (b1 : dp + m ≤ l1 ∧ l1 < 2 ^ 31) (hd1 : 1 ≤ d) (hst : (st.map fun v => v.category).sum ≤ 8)
    (kk : GG G d mc ms X P nx lo st (cpI I q0 q1 sp dp m) h k n) : GG G d mc ms X P pc lo (.int im :: .int idp :: .ref q1 :: .int isp :: .ref q0 :: st) I h k n := by
  obtain ⟨rfl, rfl, rfl⟩ := e
  obtain ⟨p, l, e, s, mm, args, below, meth, c⟩ := X
  obtain ⟨hexec, hb, hml, hown, hts, hKs, hGk, hlk, hrt, hnm⟩ := hX
  obtain ⟨hd, rfl⟩ := hd
  intro H locs ls hlv hW hS T hT X
  have g1 : (wl G I h)[q1]? = some (ga G q1, .inl (gc G 20, l1, .inl (I q1))) := by rw [wl_get hq1, ent_int hc1 (Or.inl rfl)]
  have g0 : (wl G I h)[q0]? = some (ga G q0, .inl (gc G 20, l0, .inl (I q0))) := by rw [wl_get hq0, ent_int hc0 (Or.inl rfl)]
  have hh0 : H[ga G q0]? = some (vp_cell (gc G 20) (l0, .inl (I q0))) := hW.1 q0 _ g0
  have hh1 : H[ga G q1]? = some (vp_cell (gc G 20) (l1, .inl (I q1))) := hW.1 q1 _ g1
  obtain ⟨-, k0, hk0, cm0, hkk0⟩ := (hKs.1.2 0 _ (tys_at rfl)).1 l0 (fun j => .int (I q0 j))
  obtain ⟨-, k1, hk1, cm1, hkk1⟩ := (hKs.1.2 0 _ (tys_at rfl)).1 l1 (fun j => .int (I q1 j))
  have a1 : (nI sp).toInt = (sp : Int) := nI_toInt (by omega)
  have a2 : (nI dp).toInt = (dp : Int) := nI_toInt (by omega)
  have a3 : (nI m).toInt = (m : Int) := nI_toInt (by omega)
  have c1 : (nI sp).toNatClampNeg = sp := nI_clamp (by omega)
  have c2 : (nI dp).toNatClampNeg = dp := nI_clamp (by omega)
  have c3 : (nI m).toNatClampNeg = m := nI_clamp (by omega)
  obtain ⟨vm', hWm, X', step⟩ := X.arraycopyK hexec hown (hts _ hl) (hts _ w1) (hts _ w2) (hts _ w3) (src := ga G q0) (dst := ga G q1) (cs := vp_cell (gc G 20) (l0, .inl (I q0))) (cd := vp_cell (gc G 20) (l1, .inl (I q1))) (srcPos := nI sp) (destPos := nI dp) (n := nI m) (by rw [hT]; exact hh0) (by rw [hT]; exact hh1)
    (fun _ h => by cases h) (fun _ h => by cases h) (fun h => by cases h) (fun h => by cases h) hk0 hk1 hkk0 hkk1 rfl (nI_pos (by omega)) (nI_pos (by omega)) (nI_pos (by omega))
    (by rw [a1, a3]; show ¬ _ > ((arrV (gc G 20) l0 (fun j => .int (I q0 j))).slots.size : Int); rw [arrV_size]; omega)
    (by rw [a2, a3]; show ¬ _ > ((arrV (gc G 20) l1 (fun j => .int (I q1 j))).slots.size : Int); rw [arrV_size]; omega)
    (fun vm₁ _ i hi => by
      rw [c3] at hi
      have e : (vp_cell (gc G 20) (l0, .inl (I q0))).slots.getD ((nI sp).toNatClampNeg + i) .null = .int (I q0 (sp + i)) := by
        rw [c1]
        show (arrV (gc G 20) l0 (fun j => .int (I q0 j))).slots.getD _ _ = _
        rw [Array.getD_eq_getD_getElem?, arrV_read _ _ (by omega)]
        rfl
      refine ⟨?_, ?_⟩
      · rw [e]; rfl
      · rw [e]; exact trivial)
    (g := F0 mm pc ls ((.int (nI m) :: .int (nI dp) :: .ref q1 :: .int (nI sp) :: .ref q0 :: st : List Value).map (cv G))) rfl hlv.1 (rest := st.map (cv G)) rfl (by rw [hb]; exact hd) hd1
    (by
      show 2 * 0 + ((st.map (cv G)).map fun v => v.category).sum + 18 ≤ 60 * d
      have : ((st.map (cv G)).map fun v => v.category).sum = (st.map fun v => v.category).sum := by simp only [List.map_map, Function.comp_def, cv_cat]
      omega)
  have e1 : copied (vp_cell (gc G 20) (l0, .inl (I q0))) (vp_cell (gc G 20) (l1, .inl (I q1))) (nI sp) (nI dp) (nI m) = vp_cell (gc G 20) (l1, .inl (va_cpy (I q0) (I q1) sp dp m)) := by
    unfold copied
    rw [c1, c2, c3]
    exact va_copied (fun z => Value.int z) (gc G 20) (gc G 20) (I q0) (I q1) b0.1
  rw [e1] at X' step
  have hl1 : ga G q1 < H.size := (Array.getElem?_eq_some_iff.mp hh1).1
  have hheap : ((T.setVm vm').setCell (ga G q1) (vp_cell (gc G 20) (l1, .inl (va_cpy (I q0) (I q1) sp dp m)))).heap = H.setIfInBounds (ga G q1) (vp_cell (gc G 20) (l1, .inl (va_cpy (I q0) (I q1) sp dp m))) := by rw [← hT]; rfl
  have oq : ∀ q : Nat, q ≠ ga G q1 → (H.setIfInBounds (ga G q1) (vp_cell (gc G 20) (l1, .inl (va_cpy (I q0) (I q1) sp dp m))))[q]? = H[q]? := fun q hq => by simp [Array.getElem?_setIfInBounds, Ne.symm hq]
  have hz : (H.setIfInBounds (ga G q1) (vp_cell (gc G 20) (l1, .inl (va_cpy (I q0) (I q1) sp dp m)))).size = H.size := by simp
  obtain ⟨t, z1, z2⟩ := kk _ _ ls hlv (wd_set (e := .inl (gc G 20, l1, .inl (va_cpy (I q0) (I q1) sp dp m))) (wl_set (h' := h) rfl (by rw [ent_int hc1 (Or.inl rfl), cpI_row]) (fun a ha => ent_congr (cpI_off ha) rfl rfl rfl)) (hW.1.set (wl_D hGk I h) g1 (show (H.setIfInBounds (ga G q1) _)[ga G q1]? = some _ by simp [Array.getElem?_setIfInBounds, hl1]) oq) hz hW rfl)
    ⟨by rw [hz]; exact hS.1, fun q g1 g2 => by rw [oq q (fun e => g2 (by rw [e]; exact hGk.2 q1))]; exact hS.2.1 q g1 g2, fun q hq => by
      rcases List.mem_append.mp hq with h | h
      · exact hS.2.2 q h
      · obtain ⟨z, -, hz⟩ := List.mem_map.mp h
        rw [← hz]
        exact hGk.2 q1⟩ _ hheap X'
  exact ⟨t, step t z1, z2⟩
theorem g_copyL (hX : Xok G own y X) {idx q0 q1 l0 l1 sp dp m : Nat} {isp idp im : Int32} (hd : dc y.2.1 pc (.invokestatic idx) 3 nx) (hl : Cond.methodLink own idx acY ∈ TG) (w1 : Cond.native acY ∈ TG) (w2 : Cond.static acY ∈ TG) (w3 : Cond.initialized "java/lang/System" ∈ TG)
    (hq0 : q0 < hn h) (hc0 : hs h q0 = (21, l0)) (hq1 : q1 < hn h) (hc1 : hs h q1 = (21, l1)) (e : isp = nI sp ∧ idp = nI dp ∧ im = nI m) (b0 : sp + m ≤ l0 ∧ l0 < 2 ^ 31) (b1 : dp + m ≤ l1 ∧ l1 < 2 ^ 31) (hd1 : 1 ≤ d) (hst : (st.map fun v => v.category).sum ≤ 8)
    (kk : GG G d mc ms X P nx lo st I (cpL h q0 q1 sp dp m) k n) : GG G d mc ms X P pc lo (.int im :: .int idp :: .ref q1 :: .int isp :: .ref q0 :: st) I h k n := by
  obtain ⟨rfl, rfl, rfl⟩ := e
  obtain ⟨p, l, e, s, mm, args, below, meth, c⟩ := X
  obtain ⟨hexec, hb, hml, hown, hts, hKs, hGk, hlk, hrt, hnm⟩ := hX
  obtain ⟨hd, rfl⟩ := hd
  intro H locs ls hlv hW hS T hT X
  have g1 : (wl G I h)[q1]? = some (ga G q1, .inl (gc G 21, l1, .inr (.inl (hL h q1)))) := by rw [wl_get hq1, ent_long hc1]
  have g0 : (wl G I h)[q0]? = some (ga G q0, .inl (gc G 21, l0, .inr (.inl (hL h q0)))) := by rw [wl_get hq0, ent_long hc0]
  have hh0 : H[ga G q0]? = some (vp_cell (gc G 21) (l0, .inr (.inl (hL h q0)))) := hW.1 q0 _ g0
  have hh1 : H[ga G q1]? = some (vp_cell (gc G 21) (l1, .inr (.inl (hL h q1)))) := hW.1 q1 _ g1
  obtain ⟨-, k0, hk0, cm0, hkk0⟩ := (hKs.1.2 1 _ (tys_at rfl)).1 l0 (fun j => .long (hL h q0 j))
  obtain ⟨-, k1, hk1, cm1, hkk1⟩ := (hKs.1.2 1 _ (tys_at rfl)).1 l1 (fun j => .long (hL h q1 j))
  have a1 : (nI sp).toInt = (sp : Int) := nI_toInt (by omega)
  have a2 : (nI dp).toInt = (dp : Int) := nI_toInt (by omega)
  have a3 : (nI m).toInt = (m : Int) := nI_toInt (by omega)
  have c1 : (nI sp).toNatClampNeg = sp := nI_clamp (by omega)
  have c2 : (nI dp).toNatClampNeg = dp := nI_clamp (by omega)
  have c3 : (nI m).toNatClampNeg = m := nI_clamp (by omega)
  obtain ⟨vm', hWm, X', step⟩ := X.arraycopyK hexec hown (hts _ hl) (hts _ w1) (hts _ w2) (hts _ w3) (src := ga G q0) (dst := ga G q1) (cs := vp_cell (gc G 21) (l0, .inr (.inl (hL h q0)))) (cd := vp_cell (gc G 21) (l1, .inr (.inl (hL h q1)))) (srcPos := nI sp) (destPos := nI dp) (n := nI m) (by rw [hT]; exact hh0) (by rw [hT]; exact hh1)
    (fun _ h => by cases h) (fun _ h => by cases h) (fun h => by cases h) (fun h => by cases h) hk0 hk1 hkk0 hkk1 rfl (nI_pos (by omega)) (nI_pos (by omega)) (nI_pos (by omega))
    (by rw [a1, a3]; show ¬ _ > ((arrV (gc G 21) l0 (fun j => .long (hL h q0 j))).slots.size : Int); rw [arrV_size]; omega)
    (by rw [a2, a3]; show ¬ _ > ((arrV (gc G 21) l1 (fun j => .long (hL h q1 j))).slots.size : Int); rw [arrV_size]; omega)
    (fun vm₁ _ i hi => by
      rw [c3] at hi
      have e : (vp_cell (gc G 21) (l0, .inr (.inl (hL h q0)))).slots.getD ((nI sp).toNatClampNeg + i) .null = .long (hL h q0 (sp + i)) := by
        rw [c1]
        show (arrV (gc G 21) l0 (fun j => .long (hL h q0 j))).slots.getD _ _ = _
        rw [Array.getD_eq_getD_getElem?, arrV_read _ _ (by omega)]
        rfl
      refine ⟨?_, ?_⟩
      · rw [e]; rfl
      · rw [e]; exact trivial)
    (g := F0 mm pc ls ((.int (nI m) :: .int (nI dp) :: .ref q1 :: .int (nI sp) :: .ref q0 :: st : List Value).map (cv G))) rfl hlv.1 (rest := st.map (cv G)) rfl (by rw [hb]; exact hd) hd1
    (by
      show 2 * 0 + ((st.map (cv G)).map fun v => v.category).sum + 18 ≤ 60 * d
      have : ((st.map (cv G)).map fun v => v.category).sum = (st.map fun v => v.category).sum := by simp only [List.map_map, Function.comp_def, cv_cat]
      omega)
  have e1 : copied (vp_cell (gc G 21) (l0, .inr (.inl (hL h q0)))) (vp_cell (gc G 21) (l1, .inr (.inl (hL h q1)))) (nI sp) (nI dp) (nI m) = vp_cell (gc G 21) (l1, .inr (.inl (va_cpy (hL h q0) (hL h q1) sp dp m))) := by
    unfold copied
    rw [c1, c2, c3]
    exact va_copied (fun z => Value.long z) (gc G 21) (gc G 21) (hL h q0) (hL h q1) b0.1
  rw [e1] at X' step
  have hl1 : ga G q1 < H.size := (Array.getElem?_eq_some_iff.mp hh1).1
  have hheap : ((T.setVm vm').setCell (ga G q1) (vp_cell (gc G 21) (l1, .inr (.inl (va_cpy (hL h q0) (hL h q1) sp dp m))))).heap = H.setIfInBounds (ga G q1) (vp_cell (gc G 21) (l1, .inr (.inl (va_cpy (hL h q0) (hL h q1) sp dp m)))) := by rw [← hT]; rfl
  have oq : ∀ q : Nat, q ≠ ga G q1 → (H.setIfInBounds (ga G q1) (vp_cell (gc G 21) (l1, .inr (.inl (va_cpy (hL h q0) (hL h q1) sp dp m)))))[q]? = H[q]? := fun q hq => by simp [Array.getElem?_setIfInBounds, Ne.symm hq]
  have hz : (H.setIfInBounds (ga G q1) (vp_cell (gc G 21) (l1, .inr (.inl (va_cpy (hL h q0) (hL h q1) sp dp m))))).size = H.size := by simp
  have hrow : hL (cpL h q0 q1 sp dp m) q1 = va_cpy (hL h q0) (hL h q1) sp dp m := if_pos rfl
  obtain ⟨t, z1, z2⟩ := kk _ _ ls hlv (wd_set (h := h) (h' := cpL h q0 q1 sp dp m) (e := .inl (gc G 21, l1, .inr (.inl (va_cpy (hL h q0) (hL h q1) sp dp m)))) (wl_set (h := h) (h' := cpL h q0 q1 sp dp m) rfl (by rw [ent_long (h := cpL h q0 q1 sp dp m) hc1, hrow]) (fun a ha => ent_congr rfl (show (if a = q1 then _ else hL h a) = hL h a from if_neg ha) rfl rfl)) (hW.1.set (wl_D hGk I h) g1 (show (H.setIfInBounds (ga G q1) _)[ga G q1]? = some _ by simp [Array.getElem?_setIfInBounds, hl1]) oq) hz hW rfl)
    ⟨by rw [hz]; exact hS.1, fun q g1 g2 => by rw [oq q (fun e => g2 (by rw [e]; exact hGk.2 q1))]; exact hS.2.1 q g1 g2, fun q hq => by
      rcases List.mem_append.mp hq with h | h
      · exact hS.2.2 q h
      · obtain ⟨z, -, hz⟩ := List.mem_map.mp h
        rw [← hz]
        exact hGk.2 q1⟩ _ hheap X'
  exact ⟨t, step t z1, z2⟩
/-- one of the seven classes of DOINGS -/
def isDC (c : Nat) : Prop := c = 1 ∨ c = 2 ∨ c = 4 ∨ c = 6 ∨ c = 8 ∨ c = 9 ∨ c = 10
def okD (h : Ht) (r : Option Nat) : Prop := ∀ v, r = some v → v < hn h ∧ isDC (hs h v).1
theorem g_aastoreD (hX : Xok G own y X) {q len j : Nat} {i : Int32} {r : Option Nat} (hd : dc y.2.1 pc .aastore 1 nx) (hq : q < hn h) (hc : hs h q = (24, len)) (hj : idx i j len) (hr : okD h r) (kk : GG G d mc ms X P nx lo st I (wR h q j r) k n) : GG G d mc ms X P pc lo (rv r :: .int i :: .ref q :: st) I h k n := by
  have hin := idx_in hj
  rw [← idx_cl hj] at kk
  cases r with
  | none => exact g_aastore0 hX hd hq hc (by decide) (i0 := 4) rfl hin kk
  | some v =>
    obtain ⟨hv, hdc⟩ := hr v rfl
    rcases hdc with e | e | e | e | e | e | e
    · exact g_aastore hX hd hq hc (by decide) (i0 := 4) rfl hin hv e KX1 (Or.inl rfl) kk
    · exact g_aastore hX hd hq hc (by decide) (i0 := 4) rfl hin hv e KX2 (Or.inr (by decide +kernel)) kk
    · exact g_aastore hX hd hq hc (by decide) (i0 := 4) rfl hin hv e KX4 (Or.inr (by decide +kernel)) kk
    · exact g_aastore hX hd hq hc (by decide) (i0 := 4) rfl hin hv e KX6 (Or.inr (by decide +kernel)) kk
    · exact g_aastore hX hd hq hc (by decide) (i0 := 4) rfl hin hv e KX8 (Or.inr (by decide +kernel)) kk
    · exact g_aastore hX hd hq hc (by decide) (i0 := 4) rfl hin hv e KX9 (Or.inr (by decide +kernel)) kk
    · exact g_aastore hX hd hq hc (by decide) (i0 := 4) rfl hin hv e KX10 (Or.inr (by decide +kernel)) kk
end CPY
theorem Con.imp {G : Gt} {d mc ms : Nat} {y : Mt} {av : List Value} {I : It} {h : Ht} {P Q : Pt3} (hC : Con G d mc ms y av I h P) (hPQ : ∀ r I' h', P r I' h' → Q r I' h') : Con G d mc ms y av I h Q := by
  intro l p e h1 h2 h3 s m args below hf happ hP hK
  obtain ⟨n, o, a1, a2, a3, ⟨⟨r, I', h', e1, e2, e3⟩, e4⟩, hL⟩ := hC l p e h1 h2 h3 s m args below hf happ hP hK
  exact ⟨n, o, a1, a2, a3, ⟨⟨r, I', h', e1, hPQ _ _ _ e2, e3⟩, e4⟩, hL⟩

