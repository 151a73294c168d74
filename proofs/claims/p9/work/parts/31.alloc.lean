section AL
variable {G : Gt} {d mc ms : Nat} {own : String} {y : Mt} {X : Xt} {P : Pt3} {pc nx : Nat} {lo : List (Option Value)} {st : List Value} {I : It} {h : Ht} {k n : Nat}
theorem wd_push {t N : Nat} {H : Heap} {cell : Cell} {a : ClassId × vp_A} (hG : Gnew G (hn h)) (hW : Wd G I h H) (e : ent G (zI I (hn h)) (zH h (t, N)) (hn h) = .inl a) (hc : cell = vp_cell a.1 a.2) : Wd G (zI I (hn h)) (zH h (t, N)) (H.push cell) := by
  have hsz : H.size = ga G (hn h) := by rw [hW.2, hG.1]
  refine ⟨?_, by show (H.push cell).size = gz G (hn h + 1); rw [Array.size_push, hsz, hG.2]⟩
  have hko : ∀ (i : Nat) (x : Nat × va_E), (wl G I h)[i]? = some x → (H.push cell)[x.1]? = H[x.1]? := fun i x hx => by
    rw [Array.getElem?_push, if_neg (Nat.ne_of_lt ((hW.1 i x hx).lt))]
  rw [← wl_new (I := I) (h := h) (e := .inl a) rfl e (fun a ha => ent_new ha)]
  refine (hW.1.kept hko).app (fun i x hx => ?_)
  have hz : i < 1 := (List.getElem?_eq_some_iff.mp hx).1
  rw [show i = 0 by omega] at hx
  cases hx
  show (H.push cell)[ga G (hn h)]? = some (vp_cell a.1 a.2)
  rw [← hsz, ← hc]
  simp
theorem zs_new {t N : Nat} : hs (zH h (t, N)) (hn h) = (t, N) := if_pos rfl
theorem g_newarray_int (hX : Xok G own y X) {i : Int32} (N : Nat) (hd : dc y.2.1 pc (.newarray .int) 2 nx) (hw : Cond.arrayClass .int ∈ TG) (hi : i = nI N) (hN : N ≤ 1000000) (hG : Gnew G (hn h)) (hk : k + 1 ≤ mc) (hn' : n + N ≤ ms)
    (kk : GG G d mc ms X P nx lo (.ref (hn h) :: st) (zI I (hn h)) (zH h (20, N)) (k + 1) (n + N)) : GG G d mc ms X P pc lo (.int i :: st) I h k n := by
  obtain ⟨p, l, e, s, m, args, below, meth, c⟩ := X
  obtain ⟨hexec, hb, hml, hown, hts, hKs, hGk, hlk, hrt, hnm⟩ := hX
  obtain ⟨hd, rfl⟩ := hd
  subst hi
  intro H locs ls hlv hW hS
  have hcl : (nI N).toNatClampNeg = N := nI_clamp (by omega)
  have hsz : H.size = ga G (hn h) := by rw [hW.2, hG.1]
  refine W.newa (atype := .int) (n := nI N) hexec hb (hts _ hw) rfl hd rfl (nI_pos (by omega)) (by rw [hcl]; show N * _ ≤ _; simp only [newarray.typeOf, componentBytes]; omega) hk (by rw [hcl]; exact hn') fun cA kA comp h1 h2 h3 => ?_
  have hA : s.vm.findClass ("[" ++ (FieldType.int).toString) = some (gc G 20) := (hKs.1.2 0 _ (tys_at rfl)).2
  cases h1.symm.trans hA
  rw [hcl, hsz]
  exact kk _ locs ls hlv (wd_push hG hW (ent_int zs_new (Or.inl rfl)) (by rw [arrV_new, vp_cell_i]; congr 1; funext j; show Value.int 0 = Value.int (if hn h = hn h then 0 else I (hn h) j); rw [if_pos rfl])) ⟨Nat.le_trans hS.1 (by rw [Array.size_push]; omega), fun x g1 g2 => by rw [Array.getElem?_push, if_neg (Nat.ne_of_lt (Nat.lt_of_lt_of_le g1 hS.1))]; exact hS.2.1 x g1 g2, hS.2.2⟩
theorem g_newarray_byte (hX : Xok G own y X) {i : Int32} (N : Nat) (hd : dc y.2.1 pc (.newarray .byte) 2 nx) (hw : Cond.arrayClass .byte ∈ TG) (hi : i = nI N) (hN : N ≤ 1000000) (hG : Gnew G (hn h)) (hk : k + 1 ≤ mc) (hn' : n + N ≤ ms)
    (kk : GG G d mc ms X P nx lo (.ref (hn h) :: st) (zI I (hn h)) (zH h (22, N)) (k + 1) (n + N)) : GG G d mc ms X P pc lo (.int i :: st) I h k n := by
  obtain ⟨p, l, e, s, m, args, below, meth, c⟩ := X
  obtain ⟨hexec, hb, hml, hown, hts, hKs, hGk, hlk, hrt, hnm⟩ := hX
  obtain ⟨hd, rfl⟩ := hd
  subst hi
  intro H locs ls hlv hW hS
  have hcl : (nI N).toNatClampNeg = N := nI_clamp (by omega)
  have hsz : H.size = ga G (hn h) := by rw [hW.2, hG.1]
  refine W.newa (atype := .byte) (n := nI N) hexec hb (hts _ hw) rfl hd rfl (nI_pos (by omega)) (by rw [hcl]; show N * _ ≤ _; simp only [newarray.typeOf, componentBytes]; omega) hk (by rw [hcl]; exact hn') fun cA kA comp h1 h2 h3 => ?_
  have hA : s.vm.findClass ("[" ++ (FieldType.byte).toString) = some (gc G 22) := (hKs.1.2 2 _ (tys_at rfl)).2
  cases h1.symm.trans hA
  rw [hcl, hsz]
  exact kk _ locs ls hlv (wd_push hG hW (ent_int zs_new (Or.inr (Or.inl rfl))) (by rw [arrV_new, vp_cell_i]; congr 1; funext j; show Value.int 0 = Value.int (if hn h = hn h then 0 else I (hn h) j); rw [if_pos rfl])) ⟨Nat.le_trans hS.1 (by rw [Array.size_push]; omega), fun x g1 g2 => by rw [Array.getElem?_push, if_neg (Nat.ne_of_lt (Nat.lt_of_lt_of_le g1 hS.1))]; exact hS.2.1 x g1 g2, hS.2.2⟩
theorem g_newarray_boolean (hX : Xok G own y X) {i : Int32} (N : Nat) (hd : dc y.2.1 pc (.newarray .boolean) 2 nx) (hw : Cond.arrayClass .boolean ∈ TG) (hi : i = nI N) (hN : N ≤ 1000000) (hG : Gnew G (hn h)) (hk : k + 1 ≤ mc) (hn' : n + N ≤ ms)
    (kk : GG G d mc ms X P nx lo (.ref (hn h) :: st) (zI I (hn h)) (zH h (23, N)) (k + 1) (n + N)) : GG G d mc ms X P pc lo (.int i :: st) I h k n := by
  obtain ⟨p, l, e, s, m, args, below, meth, c⟩ := X
  obtain ⟨hexec, hb, hml, hown, hts, hKs, hGk, hlk, hrt, hnm⟩ := hX
  obtain ⟨hd, rfl⟩ := hd
  subst hi
  intro H locs ls hlv hW hS
  have hcl : (nI N).toNatClampNeg = N := nI_clamp (by omega)
  have hsz : H.size = ga G (hn h) := by rw [hW.2, hG.1]
  refine W.newa (atype := .boolean) (n := nI N) hexec hb (hts _ hw) rfl hd rfl (nI_pos (by omega)) (by rw [hcl]; show N * _ ≤ _; simp only [newarray.typeOf, componentBytes]; omega) hk (by rw [hcl]; exact hn') fun cA kA comp h1 h2 h3 => ?_
  have hA : s.vm.findClass ("[" ++ (FieldType.boolean).toString) = some (gc G 23) := (hKs.1.2 3 _ (tys_at rfl)).2
  cases h1.symm.trans hA
  rw [hcl, hsz]
  exact kk _ locs ls hlv (wd_push hG hW (ent_int zs_new (Or.inr (Or.inr rfl))) (by rw [arrV_new, vp_cell_i]; congr 1; funext j; show Value.int 0 = Value.int (if hn h = hn h then 0 else I (hn h) j); rw [if_pos rfl])) ⟨Nat.le_trans hS.1 (by rw [Array.size_push]; omega), fun x g1 g2 => by rw [Array.getElem?_push, if_neg (Nat.ne_of_lt (Nat.lt_of_lt_of_le g1 hS.1))]; exact hS.2.1 x g1 g2, hS.2.2⟩
theorem g_newarray_long (hX : Xok G own y X) {i : Int32} (N : Nat) (hd : dc y.2.1 pc (.newarray .long) 2 nx) (hw : Cond.arrayClass .long ∈ TG) (hi : i = nI N) (hN : N ≤ 1000000) (hG : Gnew G (hn h)) (hk : k + 1 ≤ mc) (hn' : n + N ≤ ms)
    (kk : GG G d mc ms X P nx lo (.ref (hn h) :: st) (zI I (hn h)) (zH h (21, N)) (k + 1) (n + N)) : GG G d mc ms X P pc lo (.int i :: st) I h k n := by
  obtain ⟨p, l, e, s, m, args, below, meth, c⟩ := X
  obtain ⟨hexec, hb, hml, hown, hts, hKs, hGk, hlk, hrt, hnm⟩ := hX
  obtain ⟨hd, rfl⟩ := hd
  subst hi
  intro H locs ls hlv hW hS
  have hcl : (nI N).toNatClampNeg = N := nI_clamp (by omega)
  have hsz : H.size = ga G (hn h) := by rw [hW.2, hG.1]
  refine W.newa (atype := .long) (n := nI N) hexec hb (hts _ hw) rfl hd rfl (nI_pos (by omega)) (by rw [hcl]; show N * _ ≤ _; simp only [newarray.typeOf, componentBytes]; omega) hk (by rw [hcl]; exact hn') fun cA kA comp h1 h2 h3 => ?_
  have hA : s.vm.findClass ("[" ++ (FieldType.long).toString) = some (gc G 21) := (hKs.1.2 1 _ (tys_at rfl)).2
  cases h1.symm.trans hA
  rw [hcl, hsz]
  exact kk _ locs ls hlv (wd_push hG hW (ent_long zs_new) (by rw [arrV_new, vp_cell_l]; congr 1; funext j; show Value.long 0 = Value.long (if hn h = hn h then 0 else hL h (hn h) j); rw [if_pos rfl])) ⟨Nat.le_trans hS.1 (by rw [Array.size_push]; omega), fun x g1 g2 => by rw [Array.getElem?_push, if_neg (Nat.ne_of_lt (Nat.lt_of_lt_of_le g1 hS.1))]; exact hS.2.1 x g1 g2, hS.2.2⟩
theorem g_anewarray (hX : Xok G own y X) {i : Int32} {idx t i0 : Nat} {C : String} (N : Nat) (hd : dc y.2.1 pc (.anewarray idx) 3 nx) (ht : 24 ≤ t) (hty : tysL[i0]? = some (t, .object C)) (hl : Cond.classLink own idx C ∈ TG) (hw : ∀ U, Kw U → va_AO C U) (hi : i = nI N) (hN : N ≤ 1000000) (hG : Gnew G (hn h)) (hk : k + 1 ≤ mc) (hn' : n + N ≤ ms)
    (kk : GG G d mc ms X P nx lo (.ref (hn h) :: st) (zI I (hn h)) (zH h (t, N)) (k + 1) (n + N)) : GG G d mc ms X P pc lo (.int i :: st) I h k n := by
  obtain ⟨p, l, e, s, m, args, below, meth, c⟩ := X
  obtain ⟨hexec, hb, hml, hown, hts, hKs, hGk, hlk, hrt, hnm⟩ := hX
  obtain ⟨hd, rfl⟩ := hd
  subst hi
  intro H locs ls hlv hW hS
  have hcl : (nI N).toNatClampNeg = N := nI_clamp (by omega)
  have hsz : H.size = ga G (hn h) := by rw [hW.2, hG.1]
  refine W.anew (C := C) (n := nI N) hexec hb hown (hts _ hl) (va_AO.use (hw _ hKs.2)) rfl hd rfl (nI_pos (by omega)) (by rw [hcl]; omega) hk (by rw [hcl]; exact hn') fun cA kA comp h1 h2 h3 h4 => ?_
  obtain ⟨-, -, -, -, -, hA⟩ := (hKs.1.2 i0 _ (tys_at hty)).2
  cases h1.symm.trans hA
  rw [hcl, hsz]
  refine kk _ locs ls hlv (wd_push hG hW (ent_ref zs_new ht) ?_) ⟨Nat.le_trans hS.1 (by rw [Array.size_push]; omega), fun x g1 g2 => by rw [Array.getElem?_push, if_neg (Nat.ne_of_lt (Nat.lt_of_lt_of_le g1 hS.1))]; exact hS.2.1 x g1 g2, hS.2.2⟩
  rw [arrV_new, vp_cell_q]
  congr 1
  funext j
  show Value.null = va_rf ((if hn h = hn h then none else hR h (hn h) j).map (ga G))
  rw [if_pos rfl]
  rfl
def zA (h : Ht) (a a1 : Nat) (sh : Nat × Nat) : Ht := (fun b j => if b = a then 0 else hL h b j, fun b j => if b = a then none else hR h b j, fun b => if b = a then sh else hs h b, a1)
theorem zA_eq {a a1 : Nat} {sh : Nat × Nat} (ha : hn h = a) (h1 : a + 1 = a1) : zH h sh = zA h a a1 sh := by subst ha h1; rfl
theorem g_nw_int (hX : Xok G own y X) {i : Int32} (a a1 N : Nat) (ha : hn h = a) (h1 : a + 1 = a1) (hd : dc y.2.1 pc (.newarray .int) 2 nx) (hw : Cond.arrayClass .int ∈ TG) (hi : i = nI N) (hN : N ≤ 1000000) (hG : Gnew G a) (hk : k + 1 ≤ mc) (hn' : n + N ≤ ms)
    (kk : GG G d mc ms X P nx lo (.ref a :: st) (zI I a) (zA h a a1 (20, N)) (k + 1) (n + N)) : GG G d mc ms X P pc lo (.int i :: st) I h k n :=
  g_newarray_int hX N hd hw hi hN (by rw [ha]; exact hG) hk hn' (by rw [zA_eq ha h1, ha]; exact kk)
theorem g_nw_byte (hX : Xok G own y X) {i : Int32} (a a1 N : Nat) (ha : hn h = a) (h1 : a + 1 = a1) (hd : dc y.2.1 pc (.newarray .byte) 2 nx) (hw : Cond.arrayClass .byte ∈ TG) (hi : i = nI N) (hN : N ≤ 1000000) (hG : Gnew G a) (hk : k + 1 ≤ mc) (hn' : n + N ≤ ms)
    (kk : GG G d mc ms X P nx lo (.ref a :: st) (zI I a) (zA h a a1 (22, N)) (k + 1) (n + N)) : GG G d mc ms X P pc lo (.int i :: st) I h k n :=
  g_newarray_byte hX N hd hw hi hN (by rw [ha]; exact hG) hk hn' (by rw [zA_eq ha h1, ha]; exact kk)
theorem g_nw_boolean (hX : Xok G own y X) {i : Int32} (a a1 N : Nat) (ha : hn h = a) (h1 : a + 1 = a1) (hd : dc y.2.1 pc (.newarray .boolean) 2 nx) (hw : Cond.arrayClass .boolean ∈ TG) (hi : i = nI N) (hN : N ≤ 1000000) (hG : Gnew G a) (hk : k + 1 ≤ mc) (hn' : n + N ≤ ms)
    (kk : GG G d mc ms X P nx lo (.ref a :: st) (zI I a) (zA h a a1 (23, N)) (k + 1) (n + N)) : GG G d mc ms X P pc lo (.int i :: st) I h k n :=
  g_newarray_boolean hX N hd hw hi hN (by rw [ha]; exact hG) hk hn' (by rw [zA_eq ha h1, ha]; exact kk)
theorem g_nw_long (hX : Xok G own y X) {i : Int32} (a a1 N : Nat) (ha : hn h = a) (h1 : a + 1 = a1) (hd : dc y.2.1 pc (.newarray .long) 2 nx) (hw : Cond.arrayClass .long ∈ TG) (hi : i = nI N) (hN : N ≤ 1000000) (hG : Gnew G a) (hk : k + 1 ≤ mc) (hn' : n + N ≤ ms)
    (kk : GG G d mc ms X P nx lo (.ref a :: st) (zI I a) (zA h a a1 (21, N)) (k + 1) (n + N)) : GG G d mc ms X P pc lo (.int i :: st) I h k n :=
  g_newarray_long hX N hd hw hi hN (by rw [ha]; exact hG) hk hn' (by rw [zA_eq ha h1, ha]; exact kk)
theorem g_nw_ref (hX : Xok G own y X) {i : Int32} {idx t i0 : Nat} {C : String} (a a1 N : Nat) (ha : hn h = a) (h1 : a + 1 = a1) (hd : dc y.2.1 pc (.anewarray idx) 3 nx) (ht : 24 ≤ t) (hty : tysL[i0]? = some (t, .object C)) (hl : Cond.classLink own idx C ∈ TG) (hw : ∀ U, Kw U → va_AO C U) (hi : i = nI N) (hN : N ≤ 1000000) (hG : Gnew G a) (hk : k + 1 ≤ mc) (hn' : n + N ≤ ms)
    (kk : GG G d mc ms X P nx lo (.ref a :: st) (zI I a) (zA h a a1 (t, N)) (k + 1) (n + N)) : GG G d mc ms X P pc lo (.int i :: st) I h k n :=
  g_anewarray hX N hd ht hty hl hw hi hN (by rw [ha]; exact hG) hk hn' (by rw [zA_eq ha h1, ha]; exact kk)
theorem g_nw_obj (hX : Xok G own y X) {idx ci N : Nat} {C : String} {T : u_T} {ty : Nat → FieldType} (a a1 : Nat) (ha : hn h = a) (h1 : a + 1 = a1) (hd : dc y.2.1 pc (.new idx) 3 nx) (hC : CLS ci C T N ty) (hdf : ∀ j, j < N → defaultValue (ty j) = if isr ci j then .null else .int 0) (hl : Cond.classLink own idx C ∈ TG) (hin : Cond.instantiable C N ∈ TG) (hini : Cond.initialized C ∈ TG) (hG : Gnew G a) (hk : k + 1 ≤ mc) (hn' : n + N ≤ ms)
    (kk : GG G d mc ms X P nx lo (.ref a :: st) (zI I a) (zA h a a1 (ci, 0)) (k + 1) (n + N)) : GG G d mc ms X P pc lo st I h k n :=
  g_new hX hd hC hdf hl hin hini (by rw [ha]; exact hG) hk hn' (by rw [zA_eq ha h1, ha]; exact kk)
end AL
