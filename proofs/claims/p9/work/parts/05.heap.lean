/-! fields -/
def CLS (ci : Nat) (C : String) (T : u_T) (N : Nat) (ty : Nat → FieldType) : Prop :=
  vwCl[ci]? = some (C, T, N) ∧ (∀ w ∈ u_ws C T N, w ∈ TG) ∧ (∀ k, k < N → parseFieldDescriptor (T k).2.2.1 = some (ty k)) ∧ (∀ a, a < N → ∀ b, b < N → a ≠ b → (T a).2.1 ≠ (T b).2.1) ∧ nf ci = N ∧ ci < 13
theorem ent_obj {G : Gt} {I : It} {h : Ht} {q ci : Nat} (hc : (hs h q).1 = ci) (h13 : ci < 13) : ent G I h q = .inr (ci, fvs G I h q ci) := by
  subst hc
  unfold ent
  rw [if_pos h13]
theorem ent_int {G : Gt} {I : It} {h : Ht} {q t len : Nat} (hc : hs h q = (t, len)) (ht : t = 20 ∨ t = 22 ∨ t = 23) : ent G I h q = .inl (gc G t, len, .inl (I q)) := by
  unfold ent
  rw [hc]
  rcases ht with rfl | rfl | rfl <;> rfl
theorem ent_long {G : Gt} {I : It} {h : Ht} {q len : Nat} (hc : hs h q = (21, len)) : ent G I h q = .inl (gc G 21, len, .inr (.inl (hL h q))) := by
  unfold ent
  rw [hc]
  rfl
theorem ent_ref {G : Gt} {I : It} {h : Ht} {q t len : Nat} (hc : hs h q = (t, len)) (ht : 24 ≤ t) : ent G I h q = .inl (gc G t, len, .inr (.inr (.inr (.inr (fun j => (hR h q j).map (ga G)))))) := by
  unfold ent
  rw [hc]
  simp only []
  rw [if_neg (by omega), if_neg (by omega), if_neg (by omega)]
def Fln (own ref : String) (T : u_T) (idx j : Nat) : Prop := Cond.fieldLink own idx ref (T j).2.1 (T j).2.2.1 ∈ TG ∧ ((T j).1 = ref ∨ Cond.sameField ref (T j).1 (T j).2.1 (T j).2.2.1 ∈ TG)
theorem fln_same {own ref : String} {T : u_T} {idx j : Nat} {s : State} {args : Array Value} (hts : ∀ w ∈ TG, w.before args s = true) (hl : Fln own ref T idx j) : ∀ x, s.fieldFound? (T j).1 (T j).2.1 (T j).2.2.1 = some x → s.fieldFound? ref (T j).2.1 (T j).2.2.1 = some x := by
  intro x hx
  rcases hl.2 with e | e
  · rw [← e]; exact hx
  · exact u_same (hts _ e) x hx
def loc0 : List Value → Nat → List (Option Value) := fun vs => match vs with
  | [] => fun n => List.replicate n none
  | v :: vs => fun n => if v.category = 2 then some v :: none :: loc0 vs (n - 2) else some v :: loc0 vs (n - 1)
section HR
variable {G : Gt} {d mc ms : Nat} {own : String} {y : Mt} {X : Xt} {P : Pt3} {pc nx : Nat} {lo : List (Option Value)} {st : List Value} {I : It} {h : Ht} {k n : Nat}
theorem g_get (hX : Xok G own y X) {idx ci N j q : Nat} {C ref : String} {T : u_T} {ty : Nat → FieldType} (hd : dc y.2.1 pc (.getfield idx) 3 nx) (hC : CLS ci C T N ty) (hl : Fln own ref T idx j) (hj : j < N) (hq : q < hn h) (hc : (hs h q).1 = ci)
    (kk : GG G d mc ms X P nx lo (fvl I h q ci j :: st) I h k n) : GG G d mc ms X P pc lo (.ref q :: st) I h k n := by
  obtain ⟨p, l, e, s, m, args, below, meth, c⟩ := X
  obtain ⟨hexec, hb, hml, hown, hts, hKs, hGk, hlk, hrt, hnm⟩ := hX
  obtain ⟨hd, rfl⟩ := hd
  obtain ⟨h1, h2, h3, h4, h5, h6⟩ := hC
  intro H locs ls hlv hW hS
  exact va_get (ci := ci) (C := C) (T := T) (N := N) hexec hb hts h2 hown hKs.1 hW.1 q (by rw [wl_get hq, ent_obj hc h6]) h1 j hj (hts _ hl.1) (fln_same hts hl) (fvs_get (by rw [h5]; exact hj)) hd (kk H locs ls hlv hW hS)
theorem g_getI (hX : Xok G own y X) {idx ci N j q : Nat} {C ref : String} {T : u_T} {ty : Nat → FieldType} (hd : dc y.2.1 pc (.getfield idx) 3 nx) (hC : CLS ci C T N ty) (hl : Fln own ref T idx j) (hj : j < N) (hr : isr ci j = false) (hq : q < hn h) (hc : (hs h q).1 = ci)
    (kk : GG G d mc ms X P nx lo (.int (I q j) :: st) I h k n) : GG G d mc ms X P pc lo (.ref q :: st) I h k n :=
  g_get hX hd hC hl hj hq hc (by unfold fvl; rw [hr]; exact kk)
theorem g_getR (hX : Xok G own y X) {idx ci N j q : Nat} {C ref : String} {T : u_T} {ty : Nat → FieldType} {r : Option Nat} (hd : dc y.2.1 pc (.getfield idx) 3 nx) (hC : CLS ci C T N ty) (hl : Fln own ref T idx j) (hj : j < N) (hr : isr ci j = true) (hq : q < hn h) (hc : (hs h q).1 = ci) (hv : hR h q j = r)
    (kk : GG G d mc ms X P nx lo (rv r :: st) I h k n) : GG G d mc ms X P pc lo (.ref q :: st) I h k n :=
  g_get hX hd hC hl hj hq hc (by unfold fvl; rw [hr]; subst hv; exact kk)
theorem g_put0 (hX : Xok G own y X) {idx ci N j q : Nat} {C ref : String} {T : u_T} {ty : Nat → FieldType} {v : Value} {I' : It} {h' : Ht} (hd : dc y.2.1 pc (.putfield idx) 3 nx) (hC : CLS ci C T N ty) (hl : Fln own ref T idx j) (hj : j < N) (hq : q < hn h) (hc : (hs h q).1 = ci)
    (hfin : (T j).2.2.2 = false ∨ ((T j).2.2.2 = true ∧ y.1.name = "<init>" ∧ (T j).1 = own)) (hnr : narrow (ty j) (cv G v) = cv G v) (hft : fits (ty j) (cv G v) = true)
    (hn' : hn h' = hn h) (hs' : hs h' = hs h) (hv : fvl I' h' q ci j = v) (ho : ∀ b, b ≠ j → fvl I' h' q ci b = fvl I h q ci b) (hoq : ∀ a, a ≠ q → ent G I' h' a = ent G I h a)
    (kk : GG G d mc ms X P nx lo st I' h' k n) : GG G d mc ms X P pc lo (v :: .ref q :: st) I h k n := by
  obtain ⟨p, l, e, s, m, args, below, meth, c⟩ := X
  obtain ⟨hexec, hb, hml, hown, hts, hKs, hGk, hlk, hrt, hnm⟩ := hX
  obtain ⟨hd, rfl⟩ := hd
  obtain ⟨h1, h2, h3, h4, h5, h6⟩ := hC
  intro H locs ls hlv hW hS
  have hset : (wl G I h).set q (ga G q, .inr (ci, (fvs G I h q ci).set j (cv G v))) = wl G I' h' :=
    wl_set hn' (by rw [ent_obj (by rw [hs']; exact hc) h6, fvs_set (I' := I') (h' := h') (by rw [hv]) ho]) hoq
  have key : ∀ (H1 : Heap) (locs1 : List Loc), va_P (gD G) vwCl ((wl G I h).set q (ga G q, .inr (ci, (fvs G I h q ci).set j (cv G v)))) H1 → va_S (gA G) s.heap H1 locs1 → H1.size = H.size →
      W p l e (rmd d mc ms) s m args below meth c H1 locs1 k n (MQ below (QC G P) args s mc ms (gA G)) (F0 m (pc + 3) ls (st.map (cv G))) := by
    intro H1 locs1 hP1 hS1 hz
    rw [hset] at hP1
    exact kk H1 locs1 ls hlv ⟨hP1, by rw [hz, hn']; exact hW.2⟩ hS1
  have hap := va_apart (own := own) hts h2 ty h3 h4 hKs.1 h1
  have he : ent G I h q = .inr (ci, fvs G I h q ci) := ent_obj hc h6
  have hget : (wl G I h)[q]? = some (ga G q, .inr (ci, fvs G I h q ci)) := by rw [wl_get hq, he]
  obtain ⟨r, g1, cell, q1, q2, q3, q4⟩ := hW.1 q _ hget
  have hr : r = (C, T, N) := Option.some.inj (g1.symm.trans h1)
  subst hr
  obtain ⟨hSl, hfc, kC, hkC, hkind⟩ := hKs.1.1 ci _ h1
  obtain ⟨cf, kf, fi, f, hi, hsl⟩ := hSl j hj
  have hlay := hts _ (h2 _ (u_in_lay hj))
  unfold u_lay at hlay
  have hst := (u_facts hfc hkC (u_lays hts h2 hj) hi).1
  have hlen : j < (fvs G I h q ci).length := by rw [fvs_len, h5]; exact hj
  rcases hfin with hfin | ⟨hfin, hin2, hdecl⟩
  · rw [if_neg (by rw [hfin]; decide)] at hlay
    have h6' := u_store hfc hkC hkind hlay hi (h3 j hj) hnr hft
    refine W.putK hexec hb (f := f) ⟨hown, hts _ hl.1, ⟨_, _, _, fln_same hts hl _ hi⟩, hst⟩ (by rw [q2]; exact h6') q1 q3 (by rw [hsl]; exact k2_hasslot (q4 j hj)) rfl rfl hd fun H' e1 e2 e3 => ?_
    rw [hsl] at e1 ⊢
    exact key H' _ (hW.1.set (wl_D hGk I h) hget ⟨_, h1, t_OB.to (V := updV (vp_V (fvs G I h q ci)) j (cv G v)) ⟨_, e1, q2, q3, t_set q4 hap hj (cv G v)⟩ (fun i _ => vp_updV_set hlen (cv G v) i)⟩ e3) (hS.put e2 e3 (hGk.2 q)) e2
  · rw [if_pos hfin] at hlay
    have hcf : m.cls = cf := by
      obtain ⟨_, _, c', _, _, _, -, -, hf', -, -, -, hown2, -⟩ := Cond.laysFinal_spec hlay
      have e1 : c' = cf := by have := hi.symm.trans hf'; simp at this; exact this.1.symm
      rw [hdecl] at hown2
      rw [← e1]; exact Option.some.inj (hown.symm.trans hown2)
    have h6' := u_fits hfc hkC hkind (Or.inr hlay) hi (h3 j hj) hnr hft
    refine W.putFinK hexec hb hown (hts _ hl.1) (fln_same hts hl _ hi) hst hcf (hnm.trans hin2) (by rw [q2]; exact h6') q1 q3 (by rw [hsl]; exact k2_hasslot (q4 j hj)) rfl rfl hd fun H' e1 e2 e3 => ?_
    rw [hsl] at e1 ⊢
    exact key H' _ (hW.1.set (wl_D hGk I h) hget ⟨_, h1, t_OB.to (V := updV (vp_V (fvs G I h q ci)) j (cv G v)) ⟨_, e1, q2, q3, t_set q4 hap hj (cv G v)⟩ (fun i _ => vp_updV_set hlen (cv G v) i)⟩ e3) (hS.put e2 e3 (hGk.2 q)) e2
theorem g_putI (hX : Xok G own y X) {idx ci N j q : Nat} {C ref : String} {T : u_T} {ty : Nat → FieldType} {x : Int32} (hd : dc y.2.1 pc (.putfield idx) 3 nx) (hC : CLS ci C T N ty) (hl : Fln own ref T idx j) (hj : j < N) (hr : isr ci j = false) (hq : q < hn h) (hc : (hs h q).1 = ci)
    (hfin : (T j).2.2.2 = false ∨ ((T j).2.2.2 = true ∧ y.1.name = "<init>" ∧ (T j).1 = own)) (hnr : narrow (ty j) (.int x) = .int x) (hft : fits (ty j) (.int x) = true)
    (kk : GG G d mc ms X P nx lo st (upI I q j x) h k n) : GG G d mc ms X P pc lo (.int x :: .ref q :: st) I h k n :=
  g_put0 hX hd hC hl hj hq hc hfin hnr hft rfl rfl (by unfold fvl; rw [hr]; simp [upI]) (fun b hb => by unfold fvl; simp [upI, hb]) (fun a ha => ent_congr (upI_off ha) rfl rfl rfl) kk
theorem g_putR (hX : Xok G own y X) {idx ci N j q : Nat} {C ref : String} {T : u_T} {ty : Nat → FieldType} {r : Option Nat} {v : Value} (hd : dc y.2.1 pc (.putfield idx) 3 nx) (hC : CLS ci C T N ty) (hl : Fln own ref T idx j) (hj : j < N) (hr : isr ci j = true) (hq : q < hn h) (hc : (hs h q).1 = ci)
    (hfin : (T j).2.2.2 = false ∨ ((T j).2.2.2 = true ∧ y.1.name = "<init>" ∧ (T j).1 = own)) (hv : rv r = v) (hnr : narrow (ty j) (cv G v) = cv G v) (hft : fits (ty j) (cv G v) = true)
    (kk : GG G d mc ms X P nx lo st I (wR h q j r) k n) : GG G d mc ms X P pc lo (v :: .ref q :: st) I h k n :=
  g_put0 (I' := I) (h' := wR h q j r) hX hd hC hl hj hq hc hfin hnr hft rfl rfl (by unfold fvl; rw [hr]; simp [wR, hR, upR, hv]) (fun b hb => by unfold fvl; simp [wR, hR, upR, hb]) (fun a ha => ent_congr rfl rfl (by show upR (hR h) q j r a = _; exact upR_off ha) rfl) kk
/-! arrays -/
theorem tys_at {G : Gt} {i t : Nat} {ty : FieldType} (hi : tysL[i]? = some (t, ty)) : (tysG G)[i]? = some (gc G t, ty) := by
  unfold tysG
  rw [List.getElem?_map, hi]
  rfl
theorem g_iaload (hX : Xok G own y X) {q len : Nat} {i : Int32} (hd : dc y.2.1 pc .iaload 1 nx) (hq : q < hn h) (hc : hs h q = (20, len)) (hin : vp_in i len)
    (kk : GG G d mc ms X P nx lo (.int (I q i.toNatClampNeg) :: st) I h k n) : GG G d mc ms X P pc lo (.int i :: .ref q :: st) I h k n := by
  obtain ⟨p, l, e, s, m, args, below, meth, c⟩ := X
  obtain ⟨hexec, hb, hml, hown, hts, hKs, hGk, hlk, hrt, hnm⟩ := hX
  obtain ⟨hd, rfl⟩ := hd
  intro H locs ls hlv hW hS
  exact va_iald hexec hb hKs.1 hW.1 q 0 (by rw [wl_get hq, ent_int hc (Or.inl rfl)]) (tys_at rfl) hin hd (kk H locs ls hlv hW hS)
theorem g_baload (hX : Xok G own y X) {q len : Nat} {i : Int32} (hd : dc y.2.1 pc .baload 1 nx) (hq : q < hn h) (hc : hs h q = (22, len)) (hin : vp_in i len)
    (kk : GG G d mc ms X P nx lo (.int (I q i.toNatClampNeg) :: st) I h k n) : GG G d mc ms X P pc lo (.int i :: .ref q :: st) I h k n := by
  obtain ⟨p, l, e, s, m, args, below, meth, c⟩ := X
  obtain ⟨hexec, hb, hml, hown, hts, hKs, hGk, hlk, hrt, hnm⟩ := hX
  obtain ⟨hd, rfl⟩ := hd
  intro H locs ls hlv hW hS
  exact va_bald hexec hb hKs.1 hW.1 q 2 (by rw [wl_get hq, ent_int hc (Or.inr (Or.inl rfl))]) (tys_at rfl) hin hd (kk H locs ls hlv hW hS)
theorem g_zaload (hX : Xok G own y X) {q len : Nat} {i : Int32} (hd : dc y.2.1 pc .baload 1 nx) (hq : q < hn h) (hc : hs h q = (23, len)) (hin : vp_in i len)
    (kk : GG G d mc ms X P nx lo (.int (I q i.toNatClampNeg) :: st) I h k n) : GG G d mc ms X P pc lo (.int i :: .ref q :: st) I h k n := by
  obtain ⟨p, l, e, s, m, args, below, meth, c⟩ := X
  obtain ⟨hexec, hb, hml, hown, hts, hKs, hGk, hlk, hrt, hnm⟩ := hX
  obtain ⟨hd, rfl⟩ := hd
  intro H locs ls hlv hW hS
  exact va_zald hexec hb hKs.1 hW.1 q 3 (by rw [wl_get hq, ent_int hc (Or.inr (Or.inr rfl))]) (tys_at rfl) hin hd (kk H locs ls hlv hW hS)
theorem g_laload (hX : Xok G own y X) {q len : Nat} {i : Int32} (hd : dc y.2.1 pc .laload 1 nx) (hq : q < hn h) (hc : hs h q = (21, len)) (hin : vp_in i len)
    (kk : GG G d mc ms X P nx lo (.long (hL h q i.toNatClampNeg) :: st) I h k n) : GG G d mc ms X P pc lo (.int i :: .ref q :: st) I h k n := by
  obtain ⟨p, l, e, s, m, args, below, meth, c⟩ := X
  obtain ⟨hexec, hb, hml, hown, hts, hKs, hGk, hlk, hrt, hnm⟩ := hX
  obtain ⟨hd, rfl⟩ := hd
  intro H locs ls hlv hW hS
  exact va_lald hexec hb hKs.1 hW.1 q 1 (by rw [wl_get hq, ent_long hc]) (tys_at rfl) hin hd (kk H locs ls hlv hW hS)
theorem g_aaload (hX : Xok G own y X) {q t len i0 : Nat} {ty : FieldType} {i : Int32} {r : Option Nat} (hd : dc y.2.1 pc .aaload 1 nx) (hq : q < hn h) (hc : hs h q = (t, len)) (ht : 24 ≤ t) (hty : tysL[i0]? = some (t, ty)) (hrk : refKind ty = true) (hin : vp_in i len) (hr : hR h q i.toNatClampNeg = r)
    (kk : GG G d mc ms X P nx lo (rv r :: st) I h k n) : GG G d mc ms X P pc lo (.int i :: .ref q :: st) I h k n := by
  obtain ⟨p, l, e, s, m, args, below, meth, c⟩ := X
  obtain ⟨hexec, hb, hml, hown, hts, hKs, hGk, hlk, hrt, hnm⟩ := hX
  obtain ⟨hd, rfl⟩ := hd
  intro H locs ls hlv hW hS
  subst hr
  have hlt : i.toNatClampNeg < len := Nat.not_le.mp fun q => hin (Or.inr q)
  have hget : (wl G I h)[q]? = some (ga G q, .inl (gc G t, len, .inr (.inr (.inr (.inr (fun j => (hR h q j).map (ga G))))))) := by rw [wl_get hq, ent_ref hc ht]
  have hk := kk H locs ls hlv hW hS
  rw [List.map_cons, cv_rv] at hk
  exact W.aald (v := va_rf ((hR h q i.toNatClampNeg).map (ga G))) (ty := ty) hexec hb (hW.1 q _ hget) ((hKs.1.2 i0 _ (tys_at hty)).1 len (fun j => va_rf ((hR h q j).map (ga G)))) hrk (fun q => by cases q) (by show ¬ (i < 0 ∨ (arrV _ _ _).slots.size ≤ _); rw [arrV_size]; exact hin) (by show (arrV _ _ _).slots[_]? = _; rw [arrV_read _ _ hlt]) rfl rfl hd hk
theorem g_alen (hX : Xok G own y X) {q t len i0 : Nat} {ty : FieldType} {v : Int32} (hd : dc y.2.1 pc .arraylength 1 nx) (hq : q < hn h) (hc : hs h q = (t, len)) (ht : t = 20 ∨ t = 22 ∨ t = 23 ∨ t = 21 ∨ 24 ≤ t) (hty : tysL[i0]? = some (t, ty)) (hv : Int32.ofNat len = v)
    (kk : GG G d mc ms X P nx lo (.int v :: st) I h k n) : GG G d mc ms X P pc lo (.ref q :: st) I h k n := by
  obtain ⟨p, l, e, s, m, args, below, meth, c⟩ := X
  obtain ⟨hexec, hb, hml, hown, hts, hKs, hGk, hlk, hrt, hnm⟩ := hX
  obtain ⟨hd, rfl⟩ := hd
  intro H locs ls hlv hW hS
  have hk := kk H locs ls hlv hW hS
  rcases ht with ht | ht | ht | ht | ht
  · exact va_alen hexec hb hKs.1 hW.1 q i0 (by rw [wl_get hq, ent_int hc (Or.inl ht)]) (tys_at hty) hv hd hk
  · exact va_alen hexec hb hKs.1 hW.1 q i0 (by rw [wl_get hq, ent_int hc (Or.inr (Or.inl ht))]) (tys_at hty) hv hd hk
  · exact va_alen hexec hb hKs.1 hW.1 q i0 (by rw [wl_get hq, ent_int hc (Or.inr (Or.inr ht))]) (tys_at hty) hv hd hk
  · subst ht
    exact va_alen hexec hb hKs.1 hW.1 q i0 (by rw [wl_get hq, ent_long hc]) (tys_at hty) hv hd hk
  · exact va_alen hexec hb hKs.1 hW.1 q i0 (by rw [wl_get hq, ent_ref hc ht]) (tys_at hty) hv hd hk
theorem wd_set {G : Gt} {I I' : It} {h h' : Ht} {q : Nat} {e : va_E} {H H1 : Heap} (hw : (wl G I h).set q (ga G q, e) = wl G I' h') (hP : va_P (gD G) vwCl ((wl G I h).set q (ga G q, e)) H1) (hz : H1.size = H.size) (hW : Wd G I h H) (hn' : hn h' = hn h) : Wd G I' h' H1 := ⟨by rw [← hw]; exact hP, by rw [hz, hn']; exact hW.2⟩
theorem g_iastore (hX : Xok G own y X) {q len : Nat} {i x : Int32} (hd : dc y.2.1 pc .iastore 1 nx) (hq : q < hn h) (hc : hs h q = (20, len)) (hin : vp_in i len)
    (kk : GG G d mc ms X P nx lo st (upI I q i.toNatClampNeg x) h k n) : GG G d mc ms X P pc lo (.int x :: .int i :: .ref q :: st) I h k n := by
  obtain ⟨p, l, e, s, m, args, below, meth, c⟩ := X
  obtain ⟨hexec, hb, hml, hown, hts, hKs, hGk, hlk, hrt, hnm⟩ := hX
  obtain ⟨hd, rfl⟩ := hd
  intro H locs ls hlv hW hS
  have hget : (wl G I h)[q]? = some (ga G q, .inl (gc G 20, len, .inl (I q))) := by rw [wl_get hq, ent_int hc (Or.inl rfl)]
  have hcell := hW.1 q _ hget
  refine W.iast hexec hb hcell ((hKs.1.2 0 _ (tys_at rfl)).1 len (fun j => .int (I q j))) (fun q => by cases q) (by show ¬ (i < 0 ∨ (arrV _ _ _).slots.size ≤ _); rw [arrV_size]; exact hin) rfl rfl hd fun H1 e1 z oq => ?_
  refine kk H1 _ ls hlv (wd_set (e := .inl (gc G 20, len, .inl (upd (I q) i.toNatClampNeg x))) (wl_set rfl (by rw [ent_int hc (Or.inl rfl), upI_row]) (fun a ha => ent_congr (upI_off ha) rfl rfl rfl)) (hW.1.set (wl_D hGk I h) hget ?_ oq) z hW rfl) (hS.put z oq (hGk.2 q))
  show H1[ga G q]? = some (vp_cell _ _)
  rw [e1, vp_cell_i, vp_cell_i, arrV_store]
  congr 2
  funext b
  by_cases hq : b = i.toNatClampNeg
  · subst hq
    simp [updV, upd]
  · simp [updV, upd, hq]
theorem g_bastore (hX : Xok G own y X) {q len : Nat} {i x : Int32} (hd : dc y.2.1 pc .bastore 1 nx) (hq : q < hn h) (hc : hs h q = (22, len)) (hin : vp_in i len)
    (kk : GG G d mc ms X P nx lo st (upI I q i.toNatClampNeg (vp_nar .byte x)) h k n) : GG G d mc ms X P pc lo (.int x :: .int i :: .ref q :: st) I h k n := by
  obtain ⟨p, l, e, s, m, args, below, meth, c⟩ := X
  obtain ⟨hexec, hb, hml, hown, hts, hKs, hGk, hlk, hrt, hnm⟩ := hX
  obtain ⟨hd, rfl⟩ := hd
  intro H locs ls hlv hW hS
  have hget : (wl G I h)[q]? = some (ga G q, .inl (gc G 22, len, .inl (I q))) := by rw [wl_get hq, ent_int hc (Or.inr (Or.inl rfl))]
  refine W.bast hexec hb (hW.1 q _ hget) ((hKs.1.2 2 _ (tys_at rfl)).1 len (fun j => .int (I q j))) (fun q => by cases q) (by show ¬ (i < 0 ∨ (arrV _ _ _).slots.size ≤ _); rw [arrV_size]; exact hin) rfl rfl hd fun H1 e1 z oq => ?_
  refine kk H1 _ ls hlv (wd_set (e := .inl (gc G 22, len, .inl (upd (I q) i.toNatClampNeg (vp_nar .byte x)))) (wl_set rfl (by rw [ent_int hc (Or.inr (Or.inl rfl)), upI_row]) (fun a ha => ent_congr (upI_off ha) rfl rfl rfl)) (hW.1.set (wl_D hGk I h) hget ?_ oq) z hW rfl) (hS.put z oq (hGk.2 q))
  show H1[ga G q]? = some (vp_cell _ _)
  rw [e1, vp_cell_i, vp_cell_i, arrV_store]
  congr 2
  funext b
  by_cases hq : b = i.toNatClampNeg
  · subst hq
    simp [updV, upd, vp_nar]
    try rfl
  · simp [updV, upd, hq]
theorem g_zastore (hX : Xok G own y X) {q len : Nat} {i x : Int32} (hd : dc y.2.1 pc .bastore 1 nx) (hq : q < hn h) (hc : hs h q = (23, len)) (hin : vp_in i len)
    (kk : GG G d mc ms X P nx lo st (upI I q i.toNatClampNeg (vp_nar .boolean x)) h k n) : GG G d mc ms X P pc lo (.int x :: .int i :: .ref q :: st) I h k n := by
  obtain ⟨p, l, e, s, m, args, below, meth, c⟩ := X
  obtain ⟨hexec, hb, hml, hown, hts, hKs, hGk, hlk, hrt, hnm⟩ := hX
  obtain ⟨hd, rfl⟩ := hd
  intro H locs ls hlv hW hS
  have hget : (wl G I h)[q]? = some (ga G q, .inl (gc G 23, len, .inl (I q))) := by rw [wl_get hq, ent_int hc (Or.inr (Or.inr rfl))]
  refine W.zast hexec hb (hW.1 q _ hget) ((hKs.1.2 3 _ (tys_at rfl)).1 len (fun j => .int (I q j))) (fun q => by cases q) (by show ¬ (i < 0 ∨ (arrV _ _ _).slots.size ≤ _); rw [arrV_size]; exact hin) rfl rfl hd fun H1 e1 z oq => ?_
  refine kk H1 _ ls hlv (wd_set (e := .inl (gc G 23, len, .inl (upd (I q) i.toNatClampNeg (vp_nar .boolean x)))) (wl_set rfl (by rw [ent_int hc (Or.inr (Or.inr rfl)), upI_row]) (fun a ha => ent_congr (upI_off ha) rfl rfl rfl)) (hW.1.set (wl_D hGk I h) hget ?_ oq) z hW rfl) (hS.put z oq (hGk.2 q))
  show H1[ga G q]? = some (vp_cell _ _)
  rw [e1, vp_cell_i, vp_cell_i, arrV_store]
  congr 2
  funext b
  by_cases hq : b = i.toNatClampNeg
  · subst hq
    simp [updV, upd, vp_nar]
    try rfl
  · simp [updV, upd, hq]
theorem g_lastore (hX : Xok G own y X) {q len : Nat} {i : Int32} {x : Int64} (hd : dc y.2.1 pc .lastore 1 nx) (hq : q < hn h) (hc : hs h q = (21, len)) (hin : vp_in i len)
    (kk : GG G d mc ms X P nx lo st I (wL h q i.toNatClampNeg x) k n) : GG G d mc ms X P pc lo (.long x :: .int i :: .ref q :: st) I h k n := by
  obtain ⟨p, l, e, s, m, args, below, meth, c⟩ := X
  obtain ⟨hexec, hb, hml, hown, hts, hKs, hGk, hlk, hrt, hnm⟩ := hX
  obtain ⟨hd, rfl⟩ := hd
  intro H locs ls hlv hW hS
  have hget : (wl G I h)[q]? = some (ga G q, .inl (gc G 21, len, .inr (.inl (hL h q)))) := by rw [wl_get hq, ent_long hc]
  refine W.last hexec hb (hW.1 q _ hget) ((hKs.1.2 1 _ (tys_at rfl)).1 len (fun j => .long (hL h q j))) (fun q => by cases q) (by show ¬ (i < 0 ∨ (arrV _ _ _).slots.size ≤ _); rw [arrV_size]; exact hin) rfl rfl hd fun H1 e1 z oq => ?_
  refine kk H1 _ ls hlv (wd_set (e := .inl (gc G 21, len, .inr (.inl (vp_updL (hL h q) i.toNatClampNeg x)))) (wl_set (h := h) (q := q) (h' := wL h q i.toNatClampNeg x) rfl (by rw [ent_long (h := wL h q i.toNatClampNeg x) hc, show hL (wL h q i.toNatClampNeg x) q = upL (hL h) q i.toNatClampNeg x q from rfl, upL_row]) (fun a ha => ent_congr rfl (by show upL (hL h) q i.toNatClampNeg x a = hL h a; exact upL_off ha) rfl rfl)) (hW.1.set (wl_D hGk I h) hget ?_ oq) z hW rfl) (hS.put z oq (hGk.2 q))
  show H1[ga G q]? = some (vp_cell _ _)
  rw [e1, vp_cell_l, vp_cell_l, arrV_store]
  congr 2
  funext b
  by_cases hq : b = i.toNatClampNeg
  · subst hq
    simp [updV, vp_updL]
  · simp [updV, vp_updL, hq]
theorem map_upR (G : Gt) (f : Nat → Nat → Option Nat) (q j : Nat) (x : Option Nat) : (fun b => (upR f q j x q b).map (ga G)) = va_up (fun b => (f q b).map (ga G)) j (x.map (ga G)) := by
  funext b
  by_cases hb : b = j
  · subst hb
    simp [upR, va_up]
  · simp [upR, va_up, hb]
theorem g_aastore0 (hX : Xok G own y X) {q t len i0 : Nat} {C : String} {i : Int32} (hd : dc y.2.1 pc .aastore 1 nx) (hq : q < hn h) (hc : hs h q = (t, len)) (ht : 24 ≤ t) (hty : tysL[i0]? = some (t, .object C)) (hin : vp_in i len)
    (kk : GG G d mc ms X P nx lo st I (wR h q i.toNatClampNeg none) k n) : GG G d mc ms X P pc lo (.null :: .int i :: .ref q :: st) I h k n := by
  obtain ⟨p, l, e, s, m, args, below, meth, c⟩ := X
  obtain ⟨hexec, hb, hml, hown, hts, hKs, hGk, hlk, hrt, hnm⟩ := hX
  obtain ⟨hd, rfl⟩ := hd
  intro H locs ls hlv hW hS
  have hget : (wl G I h)[q]? = some (ga G q, .inl (gc G t, len, .inr (.inr (.inr (.inr (fun j => (hR h q j).map (ga G))))))) := by rw [wl_get hq, ent_ref hc ht]
  refine va_WaastN (C := C) hexec hb (hW.1 q _ hget) ((hKs.1.2 i0 _ (tys_at hty)).1 len (fun j => va_rf ((hR h q j).map (ga G)))) (fun h => by cases h) (by show ¬ (i < 0 ∨ (arrV _ _ _).slots.size ≤ _); rw [arrV_size]; exact hin) rfl rfl hd fun H1 e1 z oq => ?_
  refine kk H1 _ ls hlv (wd_set (e := .inl (gc G t, len, .inr (.inr (.inr (.inr (va_up (fun j => (hR h q j).map (ga G)) i.toNatClampNeg none)))))) (wl_set (h := h) (q := q) (h' := wR h q i.toNatClampNeg none) rfl (by rw [ent_ref (h := wR h q i.toNatClampNeg none) hc ht, show hR (wR h q i.toNatClampNeg none) = upR (hR h) q i.toNatClampNeg none from rfl, map_upR]; rfl) (fun a ha => ent_congr rfl rfl (by show upR (hR h) q i.toNatClampNeg none a = hR h a; exact upR_off ha) rfl)) (hW.1.set (wl_D hGk I h) hget ?_ oq) z hW rfl) (hS.put z oq (hGk.2 q))
  show H1[ga G q]? = some (vp_cell _ _)
  rw [e1, vp_cell_q, vp_cell_q, arrV_store]
  congr 2
  funext b
  by_cases hq : b = i.toNatClampNeg
  · subst hq
    simp [updV, va_up, va_rf]
  · simp [updV, va_up, hq]
theorem g_aastore (hX : Xok G own y X) {q t len i0 v ci N : Nat} {C E : String} {T : u_T} {ty : Nat → FieldType} {i : Int32} (hd : dc y.2.1 pc .aastore 1 nx) (hq : q < hn h) (hc : hs h q = (t, len)) (ht : 24 ≤ t) (hty : tysL[i0]? = some (t, .object E)) (hin : vp_in i len)
    (hv : v < hn h) (hvc : (hs h v).1 = ci) (hC : CLS ci C T N ty) (hCE : C = E ∨ (C, E) ∈ castL)
    (kk : GG G d mc ms X P nx lo st I (wR h q i.toNatClampNeg (some v)) k n) : GG G d mc ms X P pc lo (.ref v :: .int i :: .ref q :: st) I h k n := by
  obtain ⟨p, l, e, s, m, args, below, meth, c⟩ := X
  obtain ⟨hexec, hb, hml, hown, hts, hKs, hGk, hlk, hrt, hnm⟩ := hX
  obtain ⟨hd, rfl⟩ := hd
  obtain ⟨c1, c2, c3, c4, c5, c6⟩ := hC
  intro H locs ls hlv hW hS
  have hget : (wl G I h)[q]? = some (ga G q, .inl (gc G t, len, .inr (.inr (.inr (.inr (fun j => (hR h q j).map (ga G))))))) := by rw [wl_get hq, ent_ref hc ht]
  have hgv : (wl G I h)[v]? = some (ga G v, .inr (ci, fvs G I h v ci)) := by rw [wl_get hv, ent_obj hvc c6]
  have hlt : i.toNatClampNeg < len := Nat.not_le.mp fun q => hin (Or.inr q)
  have h0 : ¬ i < 0 := fun q => hin (Or.inl q)
  obtain ⟨r', hr', cellV, g1, g2, g3, -⟩ := hW.1 v _ hgv
  have hcls := (hKs.1.1 ci _ c1).2
  obtain ⟨kA, comp, k1, k2, k3, -⟩ := (hKs.1.2 i0 _ (tys_at hty)).2
  obtain ⟨kE, hkE, -⟩ := Vm.findClass_spec k3
  obtain ⟨kC, hkC, -⟩ := hcls.2
  have hasg : s.vm.assignable cellV.cls comp = true := by
    rw [g2]
    rcases hCE with e | e
    · subst e
      have hcomp : comp = (gD G).1 ci := Option.some.inj (k3.symm.trans hcls.1)
      rw [hcomp]
      exact va_assign hcls
    · obtain ⟨c0, t1, f1, f2, f3⟩ := Cond.castable_spec (va_Nw.use (A := args) rfl (hKs.2.2.1 _ e))
      cases hcls.1.symm.trans f1
      cases k3.symm.trans f2
      exact f3
  refine W.aast hexec hb (hW.1 q _ hget) (fun q h => by cases h) (fun h => by cases h) k1 k2 rfl hkE ⟨h0, by show _ < (arrV _ _ _).slots.size; rw [arrV_size]; exact hlt⟩ g1 (fun q h => by rw [g3] at h; cases h) (by rw [g2]; exact hkC) hasg rfl rfl hd fun H1 e1 z oq => ?_
  refine kk H1 _ ls hlv (wd_set (e := .inl (gc G t, len, .inr (.inr (.inr (.inr (va_up (fun j => (hR h q j).map (ga G)) i.toNatClampNeg (some (ga G v)))))))) (wl_set (h := h) (q := q) (h' := wR h q i.toNatClampNeg (some v)) rfl (by rw [ent_ref (h := wR h q i.toNatClampNeg (some v)) hc ht, show hR (wR h q i.toNatClampNeg (some v)) = upR (hR h) q i.toNatClampNeg (some v) from rfl, map_upR]; rfl) (fun a ha => ent_congr rfl rfl (by show upR (hR h) q i.toNatClampNeg (some v) a = hR h a; exact upR_off ha) rfl)) (hW.1.set (wl_D hGk I h) hget ?_ oq) z hW rfl) (hS.put z oq (hGk.2 q))
  show H1[ga G q]? = some (vp_cell _ _)
  rw [e1, vp_cell_q, vp_cell_q, arrV_store]
  congr 2
  funext b
  by_cases hq : b = i.toNatClampNeg
  · subst hq
    simp [updV, va_up, va_rf]
  · simp [updV, va_up, hq]
/-! the ends -/
theorem wd_end {args : Array Value} {s : State} {H : Heap} {locs : List Loc} {v : Option Value} (hp : P v I h) (hW : Wd G I h H) (hS : va_S (gA G) s.heap H locs) : ∀ t : State, t.heap = H → s.WarmedH t.vm → QC G P args s (.returned (v.map (cv G))) t :=
  fun t ht _ => ⟨⟨v, I, h, rfl, hp, by rw [ht]; exact hW⟩, hS.F ht⟩
theorem g_ireturn (hX : Xok G own y X) {x : Int32} {ty : FieldType} (hd : dc y.2.1 pc .ireturn 1 nx) (hr : y.2.2.2 = some ty) (hnr : narrow ty (.int x) = .int x) (hk : k ≤ mc) (hn' : n ≤ ms) (hp : P (some (.int x)) I h) : GG G d mc ms X P pc lo [.int x] I h k n := by
  obtain ⟨p, l, e, s, m, args, below, meth, c⟩ := X
  obtain ⟨hexec, hb, hml, hown, hts, hKs, hGk, hlk, hrt, hnm⟩ := hX
  obtain ⟨hd, rfl⟩ := hd
  intro H locs ls hlv hW hS
  exact W.widen hk hn' (W.zret (v := x) hexec hb (hrt.trans hr) hnr (wd_end (v := some (.int x)) hp hW hS) hS.2.2 hd hlk)
theorem g_lreturn (hX : Xok G own y X) {x : Int64} (hd : dc y.2.1 pc .lreturn 1 nx) (hr : y.2.2.2 = some .long) (hk : k ≤ mc) (hn' : n ≤ ms) (hp : P (some (.long x)) I h) : GG G d mc ms X P pc lo [.long x] I h k n := by
  obtain ⟨p, l, e, s, m, args, below, meth, c⟩ := X
  obtain ⟨hexec, hb, hml, hown, hts, hKs, hGk, hlk, hrt, hnm⟩ := hX
  obtain ⟨hd, rfl⟩ := hd
  intro H locs ls hlv hW hS
  exact W.widen hk hn' (W.lret (v := x) hexec hb (hrt.trans hr) (wd_end (v := some (.long x)) hp hW hS) hS.2.2 hd hlk)
theorem g_return (hX : Xok G own y X) (hd : dc y.2.1 pc .return_ 1 nx) (hr : y.2.2.2 = none) (hk : k ≤ mc) (hn' : n ≤ ms) (hp : P none I h) : GG G d mc ms X P pc lo [] I h k n := by
  obtain ⟨p, l, e, s, m, args, below, meth, c⟩ := X
  obtain ⟨hexec, hb, hml, hown, hts, hKs, hGk, hlk, hrt, hnm⟩ := hX
  obtain ⟨hd, rfl⟩ := hd
  intro H locs ls hlv hW hS
  exact W.widen hk hn' (W.vret hexec hb (hrt.trans hr) (wd_end (v := none) hp hW hS) hS.2.2 hd hlk)
theorem g_areturn (hX : Xok G own y X) {r : Option Nat} {v : Value} {rt : FieldType} (hd : dc y.2.1 pc .areturn 1 nx) (hv : rv r = v) (hr : y.2.2.2 = some rt) (hrt' : (∃ n, rt = .object n) ∨ ∃ t, rt = .array t) (hk : k ≤ mc) (hn' : n ≤ ms) (hp : P (some (rv r)) I h) : GG G d mc ms X P pc lo [v] I h k n := by
  obtain ⟨p, l, e, s, m, args, below, meth, c⟩ := X
  obtain ⟨hexec, hb, hml, hown, hts, hKs, hGk, hlk, hrt, hnm⟩ := hX
  obtain ⟨hd, rfl⟩ := hd
  subst hv
  intro H locs ls hlv hW hS
  exact W.widen hk hn' (W.aret (v := cv G (rv r)) hexec hb (hrt.trans hr) hrt' (by cases r <;> simp [rv, cv]) (wd_end (v := some (rv r)) hp hW hS) hS.2.2 hd hlk)
/-! the beginning -/
theorem lv_args_mem : ∀ (vs : List Value) (i n : Nat), ∀ q ∈ lpr G i (loc0 vs n), q ∈ lv_args i (vs.map (cv G)) := by
  intro vs
  induction vs with
  | nil =>
    intro i n q hq
    exfalso
    obtain ⟨j, v, h1, -⟩ := (lpr_mem _ _ _).mp hq
    have h2 := List.mem_of_getElem? h1
    simp [loc0] at h2
  | cons v vs ih =>
    intro i n q hq
    have hcat : (cv G v).category = v.category := cv_cat G v
    by_cases hc : v.category = 2
    · simp only [loc0, hc, if_true] at hq
      rw [show lpr G i (some v :: none :: loc0 vs (n - 2)) = (i, cv G v) :: lpr G (i + 2) (loc0 vs (n - 2)) from rfl] at hq
      simp only [List.map_cons, lv_args, hcat, hc, if_true]
      rcases List.mem_cons.mp hq with h | h
      · exact List.mem_cons.mpr (Or.inl h)
      · exact List.mem_cons.mpr (Or.inr (ih (i + 2) (n - 2) q h))
    · simp only [loc0, hc, if_false] at hq
      rw [show lpr G i (some v :: loc0 vs (n - 1)) = (i, cv G v) :: lpr G (i + 1) (loc0 vs (n - 1)) from rfl] at hq
      simp only [List.map_cons, lv_args, hcat, hc, if_false]
      rcases List.mem_cons.mp hq with h | h
      · exact List.mem_cons.mpr (Or.inl h)
      · exact List.mem_cons.mpr (Or.inr (ih (i + 1) (n - 1) q h))
theorem lg_sl_cv (G : Gt) (vs : List Value) : (lg_sl (vs.map (cv G))).length = (lg_sl vs).length := by
  induction vs with
  | nil => rfl
  | cons v vs ih =>
    simp only [lg_sl, List.map_cons, List.flatMap_cons, List.length_append] at ih ⊢
    rw [ih, cv_cat]
    split <;> rfl
theorem con_intro {av : List Value} {lo0 : List (Option Value)} (hG : Gok G) (hown : y.1.cls = own) (hpl : plainName y.1.cls = true) (hlen : (lg_sl av).length ≤ y.2.2.1) (hlo : loc0 av y.2.2.1 = lo0)
    (body : ∀ X, Xok G own y X → GG G d mc ms X P 0 lo0 [] I h 0 0) : Con G d mc ms y av I h P := by
  intro l
  refine Met.ofW (cc := y.2.1) (maxL := y.2.2.1) (ret := y.2.2.2) hpl rfl ?_
  intro p e s m args below meth c s₁ B hml hv
  obtain ⟨rfl, hW, hKs⟩ := hv
  have hts := atoms_spec (ws := ws y) B.pre
  have hX : Xok G own y (p, l, e, s, m, (av.map (cv G)).toArray, below, meth, c) :=
    ⟨B.exec, B.bytes, hml, by rw [← hown]; exact findClass_of_methodNamed B.named, fun w hw => hts w (List.mem_cons_of_mem _ hw), hKs, hG, B.notSynchronized, B.returns, (name_of_methodNamed B.named B.method).1⟩
  have hg := body _ hX
  rw [lg_entry_eq]
  exact hg s.heap [] _ (by rw [hml]; exact lv_fewer (lv_entry (av.map (cv G)) (n := y.2.2.1) (by rw [lg_sl_cv]; exact hlen)) (by subst hlo; exact lv_args_mem av 0 _)) hW va_S.rf
end HR
