/-! switches: the cases one behind another -/
def swk (cases : List (Int32 × Nat)) (dflt : Nat) (x : Int32) (K : Nat → Prop) : Prop := match cases with
  | [] => K dflt
  | q :: r => (x = q.1 → K q.2) ∧ (¬ x = q.1 → swk r dflt x K)
theorem swk_use : ∀ (cs : List (Int32 × Nat)) (dflt : Nat) (x : Int32) (K : Nat → Prop), swk cs dflt x K → (∃ (i : Nat) (q : Int32 × Nat), cs[i]? = some q ∧ x = q.1 ∧ K q.2 ∧ ∀ j, j < i → ∀ q', cs[j]? = some q' → x ≠ q'.1) ∨ ((∀ q ∈ cs, x ≠ q.1) ∧ K dflt) := by
  intro cs
  induction cs with
  | nil => intro d x K h; exact Or.inr ⟨fun q hq => (by cases hq), h⟩
  | cons a r ih =>
    intro d x K h
    obtain ⟨h1, h2⟩ := h
    by_cases hx : x = a.1
    · exact Or.inl ⟨0, a, rfl, hx, h1 hx, fun j hj => absurd hj (Nat.not_lt_zero j)⟩
    · rcases ih d x K (h2 hx) with ⟨i, q, g1, g2, g3, g4⟩ | ⟨g1, g2⟩
      · refine Or.inl ⟨i + 1, q, by simpa using g1, g2, g3, fun j hj q' hq' => ?_⟩
        cases j with
        | zero =>
          simp at hq'
          subst hq'
          exact hx
        | succ j => exact g4 j (by omega) q' (by simpa using hq')
      · exact Or.inr ⟨fun q hq => by
          rcases List.mem_cons.mp hq with e | e
          · rw [e]; exact hx
          · exact g1 q e, g2⟩
def tsOk (pc : Nat) (lo hi dflt : Int) (offs : Array Int) (cs : List (Int32 × Nat)) (dt : Nat) : Bool :=
  decide ((pc : Int) + dflt = (dt : Int)) && decide (hi = lo + (cs.length : Int) - 1) && (List.range cs.length).all fun i => match cs[i]?, offs[i]? with
    | some q, some o => decide ((pc : Int) + o = (q.2 : Int)) && decide (q.1.toInt = lo + (i : Int))
    | _, _ => false
def lsOk (pc : Nat) (dflt : Int) (ps : List (Int × Int)) (cs : List (Int32 × Nat)) (dt : Nat) : Bool := match ps, cs with
  | [], [] => decide ((pc : Int) + dflt = (dt : Int))
  | p :: ps, c :: cs => decide (c.1.toInt = p.1) && decide ((pc : Int) + p.2 = (c.2 : Int)) && lsOk pc dflt ps cs dt
  | _, _ => false
theorem lsOk_use : ∀ (ps : List (Int × Int)) (cs : List (Int32 × Nat)) (pc : Nat) (dflt : Int) (dt : Nat) (x : Int32) (K : Nat → Prop), lsOk pc dflt ps cs dt = true → swk cs dt x K → ∃ t : Nat, K t ∧ (pc : Int) + Op.lookupswitch.offset ps dflt x.toInt = (t : Int) := by
  intro ps
  induction ps with
  | nil =>
    intro cs pc d dt x K h hk
    cases cs with
    | nil => exact ⟨dt, hk, of_decide_eq_true h⟩
    | cons c cs => simp [lsOk] at h
  | cons p ps ih =>
    intro cs pc d dt x K h hk
    cases cs with
    | nil => simp [lsOk] at h
    | cons c cs =>
      simp only [lsOk, Bool.and_eq_true, decide_eq_true_eq] at h
      obtain ⟨⟨h1, h2⟩, h3⟩ := h
      obtain ⟨k1, k2⟩ := hk
      obtain ⟨pa, po⟩ := p
      rw [Op.lookupswitch.offset_cons]
      by_cases hx : x = c.1
      · refine ⟨c.2, k1 hx, ?_⟩
        rw [if_pos (by rw [hx, h1])]
        exact h2
      · rw [if_neg (fun e => hx (Int32.toInt_inj.mp (by first | (rw [e, h1]) | (rw [← e, h1]))))]
        exact ih cs pc d dt x K h3 (k2 hx)
section SW
variable {G : Gt} {d mc ms : Nat} {own : String} {y : Mt} {X : Xt} {P : Pt3} {pc nx : Nat} {lo : List (Option Value)} {st : List Value} {I : It} {h : Ht} {k n : Nat}
theorem g_tswitch (hX : Xok G own y X) {x : Int32} {dflt a b : Int} {offs : Array Int} {len dt : Nat} (cs : List (Int32 × Nat)) (hd : dc y.2.1 pc (.tableswitch dflt a b offs) len nx) (ho : tsOk pc a b dflt offs cs dt = true)
    (kk : swk cs dt x (fun t => GG G d mc ms X P t lo st I h k n)) : GG G d mc ms X P pc lo (.int x :: st) I h k n := by
  obtain ⟨p, l, e, s, m, args, below, meth, c⟩ := X
  obtain ⟨hexec, hb, hml, hown, hts, hKs, hGk, hlk, hrt, hnm⟩ := hX
  obtain ⟨hd, rfl⟩ := hd
  simp only [tsOk, Bool.and_eq_true, decide_eq_true_eq, List.all_eq_true, List.mem_range] at ho
  obtain ⟨⟨h1, h2⟩, h3⟩ := ho
  intro H locs ls hlv hW hS
  rcases swk_use cs dt x _ kk with ⟨i, q, g1, g2, g3, -⟩ | ⟨g1, g2⟩
  · have hi : i < cs.length := (List.getElem?_eq_some_iff.mp g1).1
    have h4 := h3 i hi
    rw [g1] at h4
    cases ho : offs[i]? with
    | none => rw [ho] at h4; simp at h4
    | some o =>
      rw [ho] at h4
      simp only [Bool.and_eq_true, decide_eq_true_eq] at h4
      have hx : x.toInt = a + (i : Int) := by rw [g2]; exact h4.2
      exact lv_tableIn hexec hb hd (by omega) (by omega) (by rw [hx, show (a + (i : Int) - a).toNat = i by omega]; exact ho) h4.1 (g3 H locs ls hlv hW hS)
  · refine lv_tableOut hexec hb hd ?_ h1 (g2 H locs ls hlv hW hS)
    by_cases hr : x.toInt < a ∨ b < x.toInt
    · exact hr
    · exfalso
      obtain ⟨i, hi⟩ : ∃ i : Nat, x.toInt = a + (i : Int) := ⟨(x.toInt - a).toNat, by omega⟩
      have hil : i < cs.length := by omega
      have h4 := h3 i hil
      rw [List.getElem?_eq_getElem hil] at h4
      cases ho : offs[i]? with
      | none => rw [ho] at h4; simp at h4
      | some o =>
        rw [ho] at h4
        simp only [Bool.and_eq_true, decide_eq_true_eq] at h4
        exact g1 _ (List.getElem_mem hil) (Int32.toInt_inj.mp (by rw [hi, h4.2]))
theorem g_lswitch (hX : Xok G own y X) {x : Int32} {dflt : Int} {ps : Array (Int × Int)} {len dt : Nat} (cs : List (Int32 × Nat)) (hd : dc y.2.1 pc (.lookupswitch dflt ps) len nx) (hp : (ps.toList.zip (ps.toList.drop 1)).all (fun (a, next) => a.1 < next.1) = true) (ho : lsOk pc dflt ps.toList cs dt = true)
    (kk : swk cs dt x (fun t => GG G d mc ms X P t lo st I h k n)) : GG G d mc ms X P pc lo (.int x :: st) I h k n := by
  obtain ⟨t, hK, ht⟩ := lsOk_use ps.toList cs pc dflt dt x _ ho kk
  obtain ⟨p, l, e, s, m, args, below, meth, c⟩ := X
  obtain ⟨hexec, hb, hml, hown, hts, hKs, hGk, hlk, hrt, hnm⟩ := hX
  obtain ⟨hd, rfl⟩ := hd
  intro H locs ls hlv hW hS
  exact lv_lookup hexec hb hd hp rfl ht (hK H locs ls hlv hW hS)
/-! what else: Object's constructor, instanceof, new, new arrays -/
theorem g_objInit (hX : Xok G own y X) {idx q : Nat} (hd : dc y.2.1 pc (.invokespecial idx) 3 nx) (h1 : Cond.methodLink own idx objectInit ∈ TG) (h2 : Cond.instanceMethod objectInit ∈ TG) (h3 : Cond.code objectInit ⟨#[0xb1]⟩ 1 none ∈ TG) (hd1 : 1 ≤ d) (hst : (st.map fun v => v.category).sum ≤ 8)
    (kk : GG G d mc ms X P nx lo st I h k n) : GG G d mc ms X P pc lo (.ref q :: st) I h k n := by
  obtain ⟨p, l, e, s, m, args, below, meth, c⟩ := X
  obtain ⟨hexec, hb, hml, hown, hts, hKs, hGk, hlk, hrt, hnm⟩ := hX
  obtain ⟨hd, rfl⟩ := hd
  intro H locs ls hlv hW hS
  refine W.objInit hexec hb hown (hts _ h1) (hts _ h2) (hts _ h3) rfl hlv.1 rfl hd hd1 ?_ (kk H locs ls hlv hW hS)
  show 2 * 0 + ((st.map (cv G)).map fun v => v.category).sum + 12 ≤ 60 * d
  have : ((st.map (cv G)).map fun v => v.category).sum = (st.map fun v => v.category).sum := by simp only [List.map_map, Function.comp_def, cv_cat]
  omega
theorem g_inst (hX : Xok G own y X) {idx q ci N : Nat} {C nm : String} {T : u_T} {ty : Nat → FieldType} {b : Int32} (hd : dc y.2.1 pc (.instanceof idx) 3 nx) (hC : CLS ci C T N ty) (hl : Cond.classLink own idx nm ∈ TG) (hq : q < hn h) (hc : (hs h q).1 = ci)
    (hb : (b = 1 ∧ (C = nm ∨ (C, nm) ∈ castL)) ∨ (b = 0 ∧ (C, nm) ∈ noCastL)) (kk : GG G d mc ms X P nx lo (.int b :: st) I h k n) : GG G d mc ms X P pc lo (.ref q :: st) I h k n := by
  obtain ⟨p, l, e, s, m, args, below, meth, c⟩ := X
  obtain ⟨hexec, hbb, hml, hown, hts, hKs, hGk, hlk, hrt, hnm⟩ := hX
  obtain ⟨hd, rfl⟩ := hd
  intro H locs ls hlv hW hS
  have hr := rcv_of hKs.1 hW hC hq hc
  rcases hb with ⟨rfl, rfl | hb⟩ | ⟨rfl, hb⟩
  · exact va_instS hexec hbb hown (hts _ hl) (hKs.1.1 ci _ hC.1).2 hr hd (kk H locs ls hlv hW hS)
  · exact va_instY hexec hbb hown (hts _ hl) (hKs.2.2.1 _ hb) hr hd (kk H locs ls hlv hW hS)
  · exact va_instNo hexec hbb hown (hts _ hl) (hKs.2.2.2.1 _ hb) hr hd (kk H locs ls hlv hW hS)
/-- a new cell may be made at the next number -/
def Gnew (G : Gt) (a : Nat) : Prop := gz G a = ga G a ∧ gz G (a + 1) = ga G a + 1
def wN (h : Ht) (sh : Nat × Nat) : Ht := (hL h, hR h, fun a => if a = hn h then sh else hs h a, hn h + 1)
/-- nothing is told of a cell that isn't made yet: a new one's ints, longs, references must be as Java has them -/
theorem wl_new {G : Gt} {I I' : It} {h h' : Ht} {e : va_E} (hn' : hn h' = hn h + 1) (he : ent G I' h' (hn h) = e) (ho : ∀ a, a < hn h → ent G I' h' a = ent G I h a) : wl G I h ++ [(ga G (hn h), e)] = wl G I' h' := by
  apply List.ext_getElem?
  intro i
  by_cases hi : i < hn h
  · rw [List.getElem?_append_left (by rw [wl_len]; exact hi), wl_get hi, wl_get (by omega), ho i hi]
  · by_cases hq : i = hn h
    · subst hq
      rw [List.getElem?_append_right (by rw [wl_len]; omega), wl_len, Nat.sub_self, wl_get (by omega), he]
      rfl
    · rw [List.getElem?_eq_none (by rw [List.length_append, wl_len]; simp; omega), List.getElem?_eq_none (by rw [wl_len]; omega)]
def zI (I : It) (a : Nat) : It := fun b j => if b = a then 0 else I b j
def zH (h : Ht) (sh : Nat × Nat) : Ht := (fun b j => if b = hn h then 0 else hL h b j, fun b j => if b = hn h then none else hR h b j, fun a => if a = hn h then sh else hs h a, hn h + 1)
theorem ent_new {G : Gt} {I : It} {h : Ht} {sh : Nat × Nat} {a : Nat} (ha : a < hn h) : ent G (zI I (hn h)) (zH h sh) a = ent G I h a := by
  have hne : a ≠ hn h := Nat.ne_of_lt ha
  apply ent_congr
  · funext j; simp [zI, hne]
  · funext j; show (if a = hn h then 0 else hL h a j) = hL h a j; rw [if_neg hne]
  · funext j; show (if a = hn h then none else hR h a j) = hR h a j; rw [if_neg hne]
  · show (if a = hn h then sh else hs h a) = hs h a; rw [if_neg hne]
theorem g_new (hX : Xok G own y X) {idx ci N : Nat} {C : String} {T : u_T} {ty : Nat → FieldType} (hd : dc y.2.1 pc (.new idx) 3 nx) (hC : CLS ci C T N ty) (hdf : ∀ j, j < N → defaultValue (ty j) = if isr ci j then .null else .int 0) (hl : Cond.classLink own idx C ∈ TG) (hin : Cond.instantiable C N ∈ TG) (hini : Cond.initialized C ∈ TG) (hG : Gnew G (hn h)) (hk : k + 1 ≤ mc) (hn' : n + N ≤ ms)
    (kk : GG G d mc ms X P nx lo (.ref (hn h) :: st) (zI I (hn h)) (zH h (ci, 0)) (k + 1) (n + N)) : GG G d mc ms X P pc lo st I h k n := by
  obtain ⟨p, l, e, s, m, args, below, meth, c⟩ := X
  obtain ⟨hexec, hb, hml, hown, hts, hKs, hGk, hlk, hrt, hnm⟩ := hX
  obtain ⟨hd, rfl⟩ := hd
  obtain ⟨c1, c2, c3, c4, c5, c6⟩ := hC
  intro H locs ls hlv hW hS
  have hsz : H.size = ga G (hn h) := by rw [hW.2, hG.1]
  have hKn := hKs.1.1 ci _ c1
  refine W.newcK hexec hb hown (hts _ hl) (hts _ hin) (hts _ hini) rfl hd hk hn' hKn.2.1 rfl fun H1 kC hkC e1 z1 o1 => ?_
  rw [hsz]
  have hko : ∀ (i : Nat) (x : Nat × va_E), (wl G I h)[i]? = some x → H1[x.1]? = H[x.1]? := fun i x hx => o1 x.1 ((hW.1 i x hx).lt)
  refine kk H1 locs ls hlv ⟨?_, by rw [z1, hsz]; exact hG.2.symm⟩ ⟨Nat.le_trans hS.1 (by omega), fun x h1 h2 => (o1 x (Nat.lt_of_lt_of_le h1 hS.1)).trans (hS.2.1 x h1 h2), hS.2.2⟩
  rw [← wl_new (I := I) (h := h) (e := .inr (ci, fvs G (zI I (hn h)) (zH h (ci, 0)) (hn h) ci)) rfl (ent_obj (by show (if hn h = hn h then (ci, 0) else hs h (hn h)).1 = ci; rw [if_pos rfl]) c6) (fun a ha => ent_new ha)]
  refine (hW.1.kept hko).app (fun i x hx => ?_)
  have hz : i < 1 := (List.getElem?_eq_some_iff.mp hx).1
  rw [show i = 0 by omega] at hx
  cases hx
  rw [← hsz]
  refine ⟨_, c1, (u_born ty hts c2 hKn hkC e1 c3).to fun j hj => ?_⟩
  rw [hdf j hj]
  show _ = vp_V _ j
  unfold vp_V
  rw [List.getD_eq_getElem?_getD, fvs_get (by rw [c5]; exact hj), Option.getD_some]
  unfold fvl
  by_cases hr : isr ci j = true
  · rw [if_pos hr, if_pos hr]
    show Value.null = cv G (rv (if hn h = hn h then none else hR h (hn h) j))
    rw [if_pos rfl]
    rfl
  · rw [if_neg hr, if_neg hr]
    show Value.int 0 = cv G (.int (if hn h = hn h then 0 else I (hn h) j))
    rw [if_pos rfl]
    rfl
end SW
