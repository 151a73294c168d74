section
def isrT : List (List Bool) := [[true, false, true, true, true, true, false, false, false, false, false, false, false, false, true, true], [false, false, false, false, false, false], [false, false, false, false, false, false], [false, false, false, true, true, true, true, false, true, false, false, false], [false, false, false, false, false, false], [true, true, false, false, false, true, false, false, false, false, true, true, false, true], [false, false, false, false, false, false], [true, false], [false, false, false, false, false, false], [false, false, false, false, false, false], [false, false, false, false, false, false], [true, true, false, true, true, false, true, false, true, true, true, true], [false, false, false, false, false, false, false, true, true, true, true, true, true, true, true, false, false, false, false, false, true, true, true, true, true, true, true, true, false, false, false, true, true, true, false, false, false, false, false, false, false, true, true, true, false, true, true, false, false, false, false, false, false, false, false, false, false, true, true, true, true, true, true, true, true, true, true, false, true, true, true, true, true]]
def nestL : List (String × Nat × MethodName × String) := [("NextOneKnows", 11, ⟨"NextOneKnows$State", "<init>", "()V"⟩, "NextOneKnows"), ("NextOneKnows", 42, ⟨"NextOneKnows$Trace", "<init>", "()V"⟩, "NextOneKnows"), ("NextOneKnows$Ahead", 79, ⟨"NextOneKnows", "bit", "(II)I"⟩, "NextOneKnows"), ("NextOneKnows$State", 97, ⟨"NextOneKnows", "bit", "(II)I"⟩, "NextOneKnows")]
def castL : List (String × String) := [("NextOneKnows$Why", "NextOneKnows$Written"), ("NextOneKnows$Tied", "NextOneKnows$Plain"), ("NextOneKnows$Wrong", "NextOneKnows$Rare"), ("NextOneKnows$Written", "NextOneKnows$Doing"), ("NextOneKnows$Plain", "NextOneKnows$Doing"), ("NextOneKnows$Rare", "NextOneKnows$Doing"), ("NextOneKnows$Why", "NextOneKnows$Doing"), ("NextOneKnows$Tied", "NextOneKnows$Doing"), ("NextOneKnows$Wrong", "NextOneKnows$Doing")]
def noCastL : List (String × String) := [("NextOneKnows$Plain", "NextOneKnows$Written"), ("NextOneKnows$Rare", "NextOneKnows$Written"), ("NextOneKnows$Tied", "NextOneKnows$Written"), ("NextOneKnows$Wrong", "NextOneKnows$Written"), ("NextOneKnows$Doing", "NextOneKnows$Written"), ("NextOneKnows$Written", "NextOneKnows$Plain"), ("NextOneKnows$Rare", "NextOneKnows$Plain"), ("NextOneKnows$Why", "NextOneKnows$Plain"), ("NextOneKnows$Wrong", "NextOneKnows$Plain"), ("NextOneKnows$Doing", "NextOneKnows$Plain"), ("NextOneKnows$Written", "NextOneKnows$Rare"), ("NextOneKnows$Plain", "NextOneKnows$Rare"), ("NextOneKnows$Why", "NextOneKnows$Rare"), ("NextOneKnows$Tied", "NextOneKnows$Rare"), ("NextOneKnows$Doing", "NextOneKnows$Rare"), ("NextOneKnows$Written", "NextOneKnows$Why"), ("NextOneKnows$Plain", "NextOneKnows$Why"), ("NextOneKnows$Rare", "NextOneKnows$Why"), ("NextOneKnows$Tied", "NextOneKnows$Why"), ("NextOneKnows$Wrong", "NextOneKnows$Why"), ("NextOneKnows$Doing", "NextOneKnows$Why"), ("NextOneKnows$Written", "NextOneKnows$Tied"), ("NextOneKnows$Plain", "NextOneKnows$Tied"), ("NextOneKnows$Rare", "NextOneKnows$Tied"), ("NextOneKnows$Why", "NextOneKnows$Tied"), ("NextOneKnows$Wrong", "NextOneKnows$Tied"), ("NextOneKnows$Doing", "NextOneKnows$Tied"), ("NextOneKnows$Written", "NextOneKnows$Wrong"), ("NextOneKnows$Plain", "NextOneKnows$Wrong"), ("NextOneKnows$Rare", "NextOneKnows$Wrong"), ("NextOneKnows$Why", "NextOneKnows$Wrong"), ("NextOneKnows$Tied", "NextOneKnows$Wrong"), ("NextOneKnows$Doing", "NextOneKnows$Wrong")]
/-! the abstract layer: a world of numbered cells, ints apart from the rest, one predicate GG for 'from here the method comes to an end that P allows' -/
abbrev It : Type := Nat → Nat → Int32
abbrev Ht : Type := (Nat → Nat → Int64) × (Nat → Nat → Option Nat) × (Nat → Nat × Nat) × Nat
abbrev Gt : Type := va_G × (Nat → ClassId) × (Nat → Nat) × (Nat → Nat) × (Nat → Prop)
abbrev Pt3 : Type := Option Value → It → Ht → Prop
def hL (h : Ht) : Nat → Nat → Int64 := h.1
def hR (h : Ht) : Nat → Nat → Option Nat := h.2.1
def hs (h : Ht) : Nat → Nat × Nat := h.2.2.1
def hn (h : Ht) : Nat := h.2.2.2
def gD (G : Gt) : va_G := G.1
def gc (G : Gt) : Nat → ClassId := G.2.1
def ga (G : Gt) : Nat → Nat := G.2.2.1
def gz (G : Gt) : Nat → Nat := G.2.2.2.1
def gA (G : Gt) : Nat → Prop := G.2.2.2.2
def rv (r : Option Nat) : Value := match r with
  | none => .null
  | some a => .ref a
def cv (G : Gt) : Value → Value := fun v => match v with
  | .ref a => .ref (ga G a)
  | w => w
theorem cv_cat (G : Gt) (v : Value) : (cv G v).category = v.category := by cases v <;> rfl
theorem cv_rv (G : Gt) (r : Option Nat) : cv G (rv r) = va_rf (r.map (ga G)) := by cases r <;> rfl
def isr (c j : Nat) : Bool := (isrT.getD c []).getD j false
def nf (c : Nat) : Nat := (isrT.getD c []).length
def fvl (I : It) (h : Ht) (q c j : Nat) : Value := if isr c j then rv (hR h q j) else .int (I q j)
def fvs (G : Gt) (I : It) (h : Ht) (q c : Nat) : List Value := (List.range (nf c)).map fun j => cv G (fvl I h q c j)
def ent (G : Gt) (I : It) (h : Ht) (q : Nat) : va_E :=
  if (hs h q).1 < 13 then .inr ((hs h q).1, fvs G I h q (hs h q).1)
  else if (hs h q).1 = 21 then .inl (gc G (hs h q).1, (hs h q).2, .inr (.inl (hL h q)))
  else if (hs h q).1 < 24 then .inl (gc G (hs h q).1, (hs h q).2, .inl (I q))
  else .inl (gc G (hs h q).1, (hs h q).2, .inr (.inr (.inr (.inr (fun j => (hR h q j).map (ga G))))))
def wl (G : Gt) (I : It) (h : Ht) : va_W := (List.range (hn h)).map fun q => (ga G q, ent G I h q)
def Wd (G : Gt) (I : It) (h : Ht) (H : Heap) : Prop := va_P (gD G) vwCl (wl G I h) H ∧ H.size = gz G (hn h)
def tysL : List (Nat × FieldType) := [(20, .int), (21, .long), (22, .byte), (23, .boolean), (24, .object "NextOneKnows$Doing"), (25, .object "NextOneKnows$Post"), (26, .array .int), (27, .array .long)]
def tysG (G : Gt) : List (ClassId × FieldType) := tysL.map fun q => (gc G q.1, q.2)
/-- what of the tables is no word that a contract may hold -/
def Kw (U : State) : Prop := (∀ q ∈ nestL, va_Nw (.methodLinkNest q.1 q.2.1 q.2.2.1 q.2.2.2) U) ∧ (∀ q ∈ castL, va_Nw (.castable q.1 q.2) U) ∧ (∀ q ∈ noCastL, va_Nc q.1 q.2 U) ∧
  (va_AO "NextOneKnows$Doing" U ∧ va_AO "NextOneKnows$Post" U) ∧ (Cond.arrayOver (.array .int)).before #[] U = true ∧ (Cond.arrayOver (.array .long)).before #[] U = true
theorem Kw.moved {u U : State} (hW : u.WarmedH U.vm) (h : Kw u) : Kw U :=
  ⟨fun q hq => (h.1 q hq).warmM hW, fun q hq => (h.2.1 q hq).warmC hW, fun q hq => (h.2.2.1 q hq).moved hW.alike, ⟨h.2.2.2.1.1.moved hW.alike, h.2.2.2.1.2.moved hW.alike⟩, over_moved hW.alike h.2.2.2.2.1, over_moved hW.alike h.2.2.2.2.2⟩
theorem Kw.same {u U : State} (hv : u.vm = U.vm) (h : Kw u) : Kw U :=
  have hal : u.vm.Alike U.vm := by rw [hv]; exact Vm.Alike.refl U.vm
  ⟨fun q hq => va_Nw.same rfl hv (h.1 q hq), fun q hq => va_Nw.same rfl hv (h.2.1 q hq), fun q hq => (h.2.2.1 q hq).moved hal, ⟨h.2.2.2.1.1.moved hal, h.2.2.2.1.2.moved hal⟩, over_moved hal h.2.2.2.2.1, over_moved hal h.2.2.2.2.2⟩
def Ks (G : Gt) (U : State) : Prop := va_K (gD G) vwCl (tysG G) U ∧ Kw U
theorem Ks.moved {G : Gt} {u U : State} (hW : u.WarmedH U.vm) (h : Ks G u) : Ks G U := ⟨va_K.moved hW.alike h.1, h.2.moved hW⟩
theorem Ks.same {G : Gt} {u U : State} (hv : u.vm = U.vm) (h : Ks G u) : Ks G U := ⟨va_K.moved (by rw [hv]; exact Vm.Alike.refl U.vm) h.1, h.2.same hv⟩
/-- the addresses are apart, and all of the part that may change -/
def Gok (G : Gt) : Prop := (∀ a b, ga G a = ga G b → a = b) ∧ ∀ a, gA G (ga G a)
def ws (y : Mt) : List Cond := .code y.1 y.2.1 y.2.2.1 y.2.2.2 :: TG
def rmd (d mc ms : Nat) : Room := { frames := d, cells := mc, slots := ms, locals := 60 * d }
def QC (G : Gt) (P : Pt3) : Array Value → State → Outcome → State → Prop := fun _ st oc t =>
  (∃ (r : Option Value) (I : It) (h : Ht), oc = .returned (r.map (cv G)) ∧ P r I h ∧ Wd G I h t.heap) ∧ va_F (gA G) st t
/-- y, called with av in the world I, h, comes back with what P allows; depth d, mc cells of ms slots at most are new -/
def Con (G : Gt) (d mc ms : Nat) (y : Mt) (av : List Value) (I : It) (h : Ht) (P : Pt3) : Prop :=
  ∀ l : Launch, Met l y.1 (ws y) (rmd d mc ms) (va_Pc (av.map (cv G)) (fun U => Wd G I h U.heap ∧ Ks G U)) (QC G P) mc ms (gA G)
abbrev Xt : Type := Program × Launch × Env × State × MethodId × Array Value × List Frame × Method × Code
def lpr (G : Gt) : Nat → List (Option Value) → List (Nat × Value) := fun i lo => match lo with
  | [] => []
  | none :: t => lpr G (i + 1) t
  | some v :: t => (i, cv G v) :: lpr G (i + 1) t
def GG (G : Gt) (d mc ms : Nat) (X : Xt) (P : Pt3) (pc : Nat) (lo : List (Option Value)) (st : List Value) (I : It) (h : Ht) (k n : Nat) : Prop :=
  match X with
  | (p, l, e, s, m, args, below, meth, c) => ∀ (H : Heap) (locs : List Loc) (ls : Array Slot), lv_has ls c.maxLocals (lpr G 0 lo) → Wd G I h H → va_S (gA G) s.heap H locs →
      W p l e (rmd d mc ms) s m args below meth c H locs k n (MQ below (QC G P) args s mc ms (gA G)) (F0 m pc ls (st.map (cv G)))
def Xok (G : Gt) (own : String) (y : Mt) (X : Xt) : Prop :=
  match X with
  | (p, l, e, s, m, args, below, meth, c) => p.tables.exec = Jvm.exec ∧ c.code = y.2.1 ∧ c.maxLocals = y.2.2.1 ∧ s.vm.findClass own = some m.cls ∧ (∀ w ∈ TG, w.before args s = true) ∧ Ks G s ∧ Gok G ∧ meth.locks = false ∧ meth.sig.returnType = y.2.2.2 ∧ meth.name = y.1.name
/-! the world's list -/
theorem wl_get {G : Gt} {I : It} {h : Ht} {q : Nat} (hq : q < hn h) : (wl G I h)[q]? = some (ga G q, ent G I h q) := by
  unfold wl
  rw [List.getElem?_map, List.getElem?_range hq]
  rfl
theorem wl_len (G : Gt) (I : It) (h : Ht) : (wl G I h).length = hn h := by simp [wl]
theorem wl_D {G : Gt} (hG : Gok G) (I : It) (h : Ht) : va_D (gA G) (wl G I h) := by
  have key : ∀ (i : Nat) (p : Nat × va_E), (wl G I h)[i]? = some p → i < hn h ∧ p.1 = ga G i := by
    intro i p hi
    have hl : i < hn h := by
      have := (List.getElem?_eq_some_iff.mp hi).1
      rwa [wl_len] at this
    rw [wl_get hl] at hi
    cases hi
    exact ⟨hl, rfl⟩
  refine ⟨fun i j p q hi hj hpq => ?_, fun k q hk => ?_⟩
  · obtain ⟨_, e1⟩ := key i p hi
    obtain ⟨_, e2⟩ := key j q hj
    exact hG.1 i j (by rw [← e1, ← e2, hpq])
  · obtain ⟨_, e1⟩ := key k q hk
    rw [e1]
    exact hG.2 k
theorem wl_set {G : Gt} {I I' : It} {h h' : Ht} {q : Nat} {e : va_E} (hn' : hn h' = hn h) (he : ent G I' h' q = e) (ho : ∀ a, a ≠ q → ent G I' h' a = ent G I h a) : (wl G I h).set q (ga G q, e) = wl G I' h' := by
  apply List.ext_getElem?
  intro i
  by_cases hi : i < hn h
  · by_cases hq : i = q
    · subst hq
      rw [List.getElem?_set_self (by rw [wl_len]; exact hi), wl_get (by rw [hn']; exact hi), he]
    · rw [List.getElem?_set_ne (Ne.symm hq), wl_get hi, wl_get (by rw [hn']; exact hi), ho i hq]
  · rw [List.getElem?_eq_none (by rw [List.length_set, wl_len]; omega), List.getElem?_eq_none (by rw [wl_len, hn']; omega)]
def upI (I : It) (q j : Nat) (x : Int32) : It := fun a b => if a = q ∧ b = j then x else I a b
def upL (f : Nat → Nat → Int64) (q j : Nat) (x : Int64) : Nat → Nat → Int64 := fun a b => if a = q ∧ b = j then x else f a b
def upR (f : Nat → Nat → Option Nat) (q j : Nat) (x : Option Nat) : Nat → Nat → Option Nat := fun a b => if a = q ∧ b = j then x else f a b
def wL (h : Ht) (q j : Nat) (x : Int64) : Ht := (upL (hL h) q j x, hR h, hs h, hn h)
def wR (h : Ht) (q j : Nat) (x : Option Nat) : Ht := (hL h, upR (hR h) q j x, hs h, hn h)
theorem upI_row (I : It) (q j : Nat) (x : Int32) : upI I q j x q = upd (I q) j x := by
  funext b
  simp [upI, upd]
theorem upI_off {I : It} {q j : Nat} {x : Int32} {a : Nat} (ha : a ≠ q) : upI I q j x a = I a := by
  funext b
  simp [upI, ha]
theorem upL_row (I : Nat → Nat → Int64) (q j : Nat) (x : Int64) : upL I q j x q = vp_updL (I q) j x := by
  funext b
  simp [upL, vp_updL]
theorem upL_off {I : Nat → Nat → Int64} {q j : Nat} {x : Int64} {a : Nat} (ha : a ≠ q) : upL I q j x a = I a := by
  funext b
  simp [upL, ha]
theorem upR_off {I : Nat → Nat → Option Nat} {q j : Nat} {x : Option Nat} {a : Nat} (ha : a ≠ q) : upR I q j x a = I a := by
  funext b
  simp [upR, ha]
theorem ent_congr {G : Gt} {I I' : It} {h h' : Ht} {a : Nat} (e1 : I' a = I a) (e2 : hL h' a = hL h a) (e3 : hR h' a = hR h a) (e4 : hs h' a = hs h a) : ent G I' h' a = ent G I h a := by
  unfold ent fvs fvl
  rw [e1, e2, e3, e4]
theorem fvs_set {G : Gt} {I I' : It} {h h' : Ht} {q c j : Nat} {v : Value} (hv : cv G (fvl I' h' q c j) = v) (ho : ∀ b, b ≠ j → fvl I' h' q c b = fvl I h q c b) : (fvs G I h q c).set j v = fvs G I' h' q c := by
  unfold fvs
  apply List.ext_getElem?
  intro i
  by_cases hi : i < nf c
  · by_cases hj : i = j
    · subst hj
      rw [List.getElem?_set_self (by simp; exact hi), List.getElem?_map, List.getElem?_range hi]
      simp [hv]
    · rw [List.getElem?_set_ne (Ne.symm hj), List.getElem?_map, List.getElem?_map, List.getElem?_range hi]
      simp [ho i hj]
  · rw [List.getElem?_eq_none (by simp; omega), List.getElem?_eq_none (by simp; omega)]
theorem fvs_get {G : Gt} {I : It} {h : Ht} {q c j : Nat} (hj : j < nf c) : (fvs G I h q c)[j]? = some (cv G (fvl I h q c j)) := by
  unfold fvs
  rw [List.getElem?_map, List.getElem?_range hj]
  rfl
theorem fvs_len (G : Gt) (I : It) (h : Ht) (q c : Nat) : (fvs G I h q c).length = nf c := by simp [fvs]
/-! locals -/
theorem lpr_mem {G : Gt} : ∀ (lo : List (Option Value)) (i : Nat) (q : Nat × Value), q ∈ lpr G i lo ↔ ∃ (j : Nat) (v : Value), lo[j]? = some (some v) ∧ q = (i + j, cv G v) := by
  intro lo
  induction lo with
  | nil => intro i q; simp [lpr]
  | cons a t ih =>
    intro i q
    cases a with
    | none =>
      rw [show lpr G i (none :: t) = lpr G (i + 1) t from rfl, ih]
      constructor
      · rintro ⟨j, v, h1, h2⟩
        exact ⟨j + 1, v, by simpa using h1, by rw [h2]; congr 1; omega⟩
      · rintro ⟨j, v, h1, h2⟩
        cases j with
        | zero => simp at h1
        | succ j => exact ⟨j, v, by simpa using h1, by rw [h2]; congr 1; omega⟩
    | some w =>
      rw [show lpr G i (some w :: t) = (i, cv G w) :: lpr G (i + 1) t from rfl, List.mem_cons, ih]
      constructor
      · rintro (h | ⟨j, v, h1, h2⟩)
        · exact ⟨0, w, rfl, h⟩
        · exact ⟨j + 1, v, by simpa using h1, by rw [h2]; congr 1; omega⟩
      · rintro ⟨j, v, h1, h2⟩
        cases j with
        | zero =>
          simp at h1
          subst h1
          exact Or.inl h2
        | succ j => exact Or.inr ⟨j, v, by simpa using h1, by rw [h2]; congr 1; omega⟩
theorem lv_fewer {ls : Array Slot} {nL : Nat} {l l' : List (Nat × Value)} (h : lv_has ls nL l) (hs : ∀ q ∈ l', q ∈ l) : lv_has ls nL l' := ⟨h.1, h.2.1, fun q hq => h.2.2 q (hs q hq)⟩
theorem lpr_at {G : Gt} {ls : Array Slot} {nL : Nat} {lo : List (Option Value)} (h : lv_has ls nL (lpr G 0 lo)) {i : Nat} {v : Value} (hi : lo[i]? = some (some v)) : ls[i]? = some (.val (cv G v)) :=
  h.2.2 (i, cv G v) ((lpr_mem lo 0 _).mpr ⟨i, v, hi, by simp⟩)
def notL : Option Value → Bool := fun v => match v with
  | some (.long _) => false
  | some (.double _) => false
  | _ => true
/-- the slot ahead of i holds no long -/
def ahd (lo : List (Option Value)) (i : Nat) : Bool := i == 0 || notL (lo.getD (i - 1) none)
theorem lpr_set {G : Gt} {lo : List (Option Value)} {i : Nat} {v : Value} (ha : ahd lo i = true) (hi : i < lo.length) :
    ∀ q ∈ lpr G 0 (lo.set i (some v)), q ∈ (i, cv G v) :: (lpr G 0 lo).filter (fun q => !(q.1 == i) && !(q.1 + 1 == i && q.2.category == 2)) := by
  intro q hq
  obtain ⟨j, w, h1, rfl⟩ := (lpr_mem _ _ _).mp hq
  by_cases hj : j = i
  · subst hj
    rw [List.getElem?_set_self hi] at h1
    cases h1
    simp
  · rw [List.getElem?_set_ne (Ne.symm hj)] at h1
    refine List.mem_cons_of_mem _ (List.mem_filter.mpr ⟨(lpr_mem _ _ _).mpr ⟨j, w, h1, rfl⟩, ?_⟩)
    have h2 : ¬ (j + 1 = i ∧ w.category = 2) := by
      rintro ⟨e, hc⟩
      subst e
      simp only [ahd, Nat.add_sub_cancel, Nat.add_eq_zero_iff, Nat.succ_ne_self, and_false, beq_iff_eq, Bool.or_eq_true, false_or, List.getD_eq_getElem?_getD, h1, Option.getD_some] at ha
      cases w <;> simp [notL, Value.category] at ha hc
    simp only [Nat.zero_add, cv_cat, Bool.and_eq_true, Bool.not_eq_true', beq_eq_false_iff_ne, ne_eq, Bool.and_eq_false_iff]
    refine ⟨hj, ?_⟩
    by_cases e : j + 1 = i
    · exact Or.inr (fun hc => h2 ⟨e, hc⟩)
    · exact Or.inl e
theorem lpr_set2 {G : Gt} {lo : List (Option Value)} {i : Nat} {v : Value} (ha : ahd lo i = true) (hi : i + 1 < lo.length) :
    ∀ q ∈ lpr G 0 ((lo.set i (some v)).set (i + 1) none), q ∈ (i, cv G v) :: (lpr G 0 lo).filter (fun q => !(q.1 == i) && (!(q.1 == i + 1) && !(q.1 + 1 == i && q.2.category == 2))) := by
  intro q hq
  obtain ⟨j, w, h1, rfl⟩ := (lpr_mem _ _ _).mp hq
  by_cases hj1 : j = i + 1
  · subst hj1
    rw [List.getElem?_set_self (by simpa using hi)] at h1
    cases h1
  rw [List.getElem?_set_ne (Ne.symm hj1)] at h1
  by_cases hj : j = i
  · subst hj
    rw [List.getElem?_set_self (by omega)] at h1
    cases h1
    simp
  · rw [List.getElem?_set_ne (Ne.symm hj)] at h1
    refine List.mem_cons_of_mem _ (List.mem_filter.mpr ⟨(lpr_mem _ _ _).mpr ⟨j, w, h1, rfl⟩, ?_⟩)
    have h2 : ¬ (j + 1 = i ∧ w.category = 2) := by
      rintro ⟨e, hc⟩
      subst e
      simp only [ahd, Nat.add_sub_cancel, Nat.add_eq_zero_iff, Nat.succ_ne_self, and_false, beq_iff_eq, Bool.or_eq_true, false_or, List.getD_eq_getElem?_getD, h1, Option.getD_some] at ha
      cases w <;> simp [notL, Value.category] at ha hc
    simp only [Nat.zero_add, cv_cat, Bool.and_eq_true, Bool.not_eq_true', beq_eq_false_iff_ne, ne_eq, Bool.and_eq_false_iff]
    refine ⟨hj, hj1, ?_⟩
    by_cases e : j + 1 = i
    · exact Or.inr (fun hc => h2 ⟨e, hc⟩)
    · exact Or.inl e
end
section
theorem g_iconst {G : Gt} {d mc ms : Nat} {own : String} {y : Mt} {X : Xt} {P : Pt3} {pc nx : Nat} {lo : List (Option Value)} {st : List Value} {I : It} {h : Ht} {k n : Nat} {z : Int} {v : Int32} (hX : Xok G own y X) (hd : dc y.2.1 pc (.iconst z) 1 nx) (hv : Int32.ofInt z = v) (kk : GG G d mc ms X P nx lo (.int v :: st) I h k n) : GG G d mc ms X P pc lo (st) I h k n := by
  obtain ⟨p, l, e, s, m, args, below, meth, c⟩ := X
  obtain ⟨hexec, hb, hml, hown, hts, hKs, hGk, hlk, hrt, hnm⟩ := hX
  obtain ⟨hd, hnx⟩ := hd
  subst hnx
  intro H locs ls hl hW hS
  exact lv_iconst hexec hb hd hv (kk H locs ls hl hW hS)

theorem g_bipush {G : Gt} {d mc ms : Nat} {own : String} {y : Mt} {X : Xt} {P : Pt3} {pc nx : Nat} {lo : List (Option Value)} {st : List Value} {I : It} {h : Ht} {k n : Nat} {z : Int} {v : Int32} (hX : Xok G own y X) (hd : dc y.2.1 pc (.bipush z) 2 nx) (hv : (Int8.ofInt z).toInt32 = v) (kk : GG G d mc ms X P nx lo (.int v :: st) I h k n) : GG G d mc ms X P pc lo (st) I h k n := by
  obtain ⟨p, l, e, s, m, args, below, meth, c⟩ := X
  obtain ⟨hexec, hb, hml, hown, hts, hKs, hGk, hlk, hrt, hnm⟩ := hX
  obtain ⟨hd, hnx⟩ := hd
  subst hnx
  intro H locs ls hl hW hS
  exact lv_bipush hexec hb hd hv (kk H locs ls hl hW hS)

theorem g_sipush {G : Gt} {d mc ms : Nat} {own : String} {y : Mt} {X : Xt} {P : Pt3} {pc nx : Nat} {lo : List (Option Value)} {st : List Value} {I : It} {h : Ht} {k n : Nat} {z : Int} {v : Int32} (hX : Xok G own y X) (hd : dc y.2.1 pc (.sipush z) 3 nx) (hv : (Int16.ofInt z).toInt32 = v) (kk : GG G d mc ms X P nx lo (.int v :: st) I h k n) : GG G d mc ms X P pc lo (st) I h k n := by
  obtain ⟨p, l, e, s, m, args, below, meth, c⟩ := X
  obtain ⟨hexec, hb, hml, hown, hts, hKs, hGk, hlk, hrt, hnm⟩ := hX
  obtain ⟨hd, hnx⟩ := hd
  subst hnx
  intro H locs ls hl hW hS
  exact lv_sipush hexec hb hd hv (kk H locs ls hl hW hS)

theorem g_lconst {G : Gt} {d mc ms : Nat} {own : String} {y : Mt} {X : Xt} {P : Pt3} {pc nx : Nat} {lo : List (Option Value)} {st : List Value} {I : It} {h : Ht} {k n : Nat} {z : Fin 2} {v : Int64} (hX : Xok G own y X) (hd : dc y.2.1 pc (.lconst z) 1 nx) (hv : Int64.ofNat (z : Nat) = v) (kk : GG G d mc ms X P nx lo (.long v :: st) I h k n) : GG G d mc ms X P pc lo (st) I h k n := by
  obtain ⟨p, l, e, s, m, args, below, meth, c⟩ := X
  obtain ⟨hexec, hb, hml, hown, hts, hKs, hGk, hlk, hrt, hnm⟩ := hX
  obtain ⟨hd, hnx⟩ := hd
  subst hnx
  intro H locs ls hl hW hS
  exact lv_lconst hexec hb hd hv (kk H locs ls hl hW hS)

theorem g_ldc {G : Gt} {d mc ms : Nat} {own : String} {y : Mt} {X : Xt} {P : Pt3} {pc nx : Nat} {lo : List (Option Value)} {st : List Value} {I : It} {h : Ht} {k n : Nat} {z : Nat} {v : Int32} (hX : Xok G own y X) (hd : dc y.2.1 pc (.ldc z) 2 nx) (hc : Cond.constant own z v ∈ TG) (kk : GG G d mc ms X P nx lo (.int v :: st) I h k n) : GG G d mc ms X P pc lo (st) I h k n := by
  obtain ⟨p, l, e, s, m, args, below, meth, c⟩ := X
  obtain ⟨hexec, hb, hml, hown, hts, hKs, hGk, hlk, hrt, hnm⟩ := hX
  obtain ⟨hd, hnx⟩ := hd
  subst hnx
  intro H locs ls hl hW hS
  exact lv_ldc hexec hb hown (hts _ hc) hd (kk H locs ls hl hW hS)

theorem g_ldc_w {G : Gt} {d mc ms : Nat} {own : String} {y : Mt} {X : Xt} {P : Pt3} {pc nx : Nat} {lo : List (Option Value)} {st : List Value} {I : It} {h : Ht} {k n : Nat} {z : Nat} {v : Int32} (hX : Xok G own y X) (hd : dc y.2.1 pc (.ldc_w z) 3 nx) (hc : Cond.constant own z v ∈ TG) (kk : GG G d mc ms X P nx lo (.int v :: st) I h k n) : GG G d mc ms X P pc lo (st) I h k n := by
  obtain ⟨p, l, e, s, m, args, below, meth, c⟩ := X
  obtain ⟨hexec, hb, hml, hown, hts, hKs, hGk, hlk, hrt, hnm⟩ := hX
  obtain ⟨hd, hnx⟩ := hd
  subst hnx
  intro H locs ls hl hW hS
  exact lv_ldcw hexec hb hown (hts _ hc) hd (kk H locs ls hl hW hS)

theorem g_ldc2_w {G : Gt} {d mc ms : Nat} {own : String} {y : Mt} {X : Xt} {P : Pt3} {pc nx : Nat} {lo : List (Option Value)} {st : List Value} {I : It} {h : Ht} {k n : Nat} {z : Nat} {v : Int64} (hX : Xok G own y X) (hd : dc y.2.1 pc (.ldc2_w z) 3 nx) (hc : Cond.constantLong own z v ∈ TG) (kk : GG G d mc ms X P nx lo (.long v :: st) I h k n) : GG G d mc ms X P pc lo (st) I h k n := by
  obtain ⟨p, l, e, s, m, args, below, meth, c⟩ := X
  obtain ⟨hexec, hb, hml, hown, hts, hKs, hGk, hlk, hrt, hnm⟩ := hX
  obtain ⟨hd, hnx⟩ := hd
  subst hnx
  intro H locs ls hl hW hS
  exact lv_ldc2 hexec hb hown (hts _ hc) hd (kk H locs ls hl hW hS)

theorem g_aconst_null {G : Gt} {d mc ms : Nat} {own : String} {y : Mt} {X : Xt} {P : Pt3} {pc nx : Nat} {lo : List (Option Value)} {st : List Value} {I : It} {h : Ht} {k n : Nat}  (hX : Xok G own y X) (hd : dc y.2.1 pc (.aconst_null) 1 nx) (kk : GG G d mc ms X P nx lo (.null :: st) I h k n) : GG G d mc ms X P pc lo (st) I h k n := by
  obtain ⟨p, l, e, s, m, args, below, meth, c⟩ := X
  obtain ⟨hexec, hb, hml, hown, hts, hKs, hGk, hlk, hrt, hnm⟩ := hX
  obtain ⟨hd, hnx⟩ := hd
  subst hnx
  intro H locs ls hl hW hS
  exact lv_null hexec hb hd (kk H locs ls hl hW hS)

theorem g_iadd {G : Gt} {d mc ms : Nat} {own : String} {y : Mt} {X : Xt} {P : Pt3} {pc nx : Nat} {lo : List (Option Value)} {st : List Value} {I : It} {h : Ht} {k n : Nat} {a b : Int32} (hX : Xok G own y X) (hd : dc y.2.1 pc (.iadd) 1 nx) (kk : GG G d mc ms X P nx lo (.int (a + b) :: st) I h k n) : GG G d mc ms X P pc lo (.int b :: .int a :: st) I h k n := by
  obtain ⟨p, l, e, s, m, args, below, meth, c⟩ := X
  obtain ⟨hexec, hb, hml, hown, hts, hKs, hGk, hlk, hrt, hnm⟩ := hX
  obtain ⟨hd, hnx⟩ := hd
  subst hnx
  intro H locs ls hl hW hS
  exact lv_iadd hexec hb hd (kk H locs ls hl hW hS)

theorem g_isub {G : Gt} {d mc ms : Nat} {own : String} {y : Mt} {X : Xt} {P : Pt3} {pc nx : Nat} {lo : List (Option Value)} {st : List Value} {I : It} {h : Ht} {k n : Nat} {a b : Int32} (hX : Xok G own y X) (hd : dc y.2.1 pc (.isub) 1 nx) (kk : GG G d mc ms X P nx lo (.int (a - b) :: st) I h k n) : GG G d mc ms X P pc lo (.int b :: .int a :: st) I h k n := by
  obtain ⟨p, l, e, s, m, args, below, meth, c⟩ := X
  obtain ⟨hexec, hb, hml, hown, hts, hKs, hGk, hlk, hrt, hnm⟩ := hX
  obtain ⟨hd, hnx⟩ := hd
  subst hnx
  intro H locs ls hl hW hS
  exact lv_isub hexec hb hd (kk H locs ls hl hW hS)

theorem g_imul {G : Gt} {d mc ms : Nat} {own : String} {y : Mt} {X : Xt} {P : Pt3} {pc nx : Nat} {lo : List (Option Value)} {st : List Value} {I : It} {h : Ht} {k n : Nat} {a b : Int32} (hX : Xok G own y X) (hd : dc y.2.1 pc (.imul) 1 nx) (kk : GG G d mc ms X P nx lo (.int (a * b) :: st) I h k n) : GG G d mc ms X P pc lo (.int b :: .int a :: st) I h k n := by
  obtain ⟨p, l, e, s, m, args, below, meth, c⟩ := X
  obtain ⟨hexec, hb, hml, hown, hts, hKs, hGk, hlk, hrt, hnm⟩ := hX
  obtain ⟨hd, hnx⟩ := hd
  subst hnx
  intro H locs ls hl hW hS
  exact lv_imul hexec hb hd (kk H locs ls hl hW hS)

theorem g_iand {G : Gt} {d mc ms : Nat} {own : String} {y : Mt} {X : Xt} {P : Pt3} {pc nx : Nat} {lo : List (Option Value)} {st : List Value} {I : It} {h : Ht} {k n : Nat} {a b : Int32} (hX : Xok G own y X) (hd : dc y.2.1 pc (.iand) 1 nx) (kk : GG G d mc ms X P nx lo (.int (a &&& b) :: st) I h k n) : GG G d mc ms X P pc lo (.int b :: .int a :: st) I h k n := by
  obtain ⟨p, l, e, s, m, args, below, meth, c⟩ := X
  obtain ⟨hexec, hb, hml, hown, hts, hKs, hGk, hlk, hrt, hnm⟩ := hX
  obtain ⟨hd, hnx⟩ := hd
  subst hnx
  intro H locs ls hl hW hS
  exact lv_iand hexec hb hd (kk H locs ls hl hW hS)

theorem g_ior {G : Gt} {d mc ms : Nat} {own : String} {y : Mt} {X : Xt} {P : Pt3} {pc nx : Nat} {lo : List (Option Value)} {st : List Value} {I : It} {h : Ht} {k n : Nat} {a b : Int32} (hX : Xok G own y X) (hd : dc y.2.1 pc (.ior) 1 nx) (kk : GG G d mc ms X P nx lo (.int (a ||| b) :: st) I h k n) : GG G d mc ms X P pc lo (.int b :: .int a :: st) I h k n := by
  obtain ⟨p, l, e, s, m, args, below, meth, c⟩ := X
  obtain ⟨hexec, hb, hml, hown, hts, hKs, hGk, hlk, hrt, hnm⟩ := hX
  obtain ⟨hd, hnx⟩ := hd
  subst hnx
  intro H locs ls hl hW hS
  exact lv_ior hexec hb hd (kk H locs ls hl hW hS)

theorem g_ixor {G : Gt} {d mc ms : Nat} {own : String} {y : Mt} {X : Xt} {P : Pt3} {pc nx : Nat} {lo : List (Option Value)} {st : List Value} {I : It} {h : Ht} {k n : Nat} {a b : Int32} (hX : Xok G own y X) (hd : dc y.2.1 pc (.ixor) 1 nx) (kk : GG G d mc ms X P nx lo (.int (a ^^^ b) :: st) I h k n) : GG G d mc ms X P pc lo (.int b :: .int a :: st) I h k n := by
  obtain ⟨p, l, e, s, m, args, below, meth, c⟩ := X
  obtain ⟨hexec, hb, hml, hown, hts, hKs, hGk, hlk, hrt, hnm⟩ := hX
  obtain ⟨hd, hnx⟩ := hd
  subst hnx
  intro H locs ls hl hW hS
  exact lv_ixor hexec hb hd (kk H locs ls hl hW hS)

theorem g_ishl {G : Gt} {d mc ms : Nat} {own : String} {y : Mt} {X : Xt} {P : Pt3} {pc nx : Nat} {lo : List (Option Value)} {st : List Value} {I : It} {h : Ht} {k n : Nat} {a b : Int32} (hX : Xok G own y X) (hd : dc y.2.1 pc (.ishl) 1 nx) (kk : GG G d mc ms X P nx lo (.int (a <<< (b &&& 31)) :: st) I h k n) : GG G d mc ms X P pc lo (.int b :: .int a :: st) I h k n := by
  obtain ⟨p, l, e, s, m, args, below, meth, c⟩ := X
  obtain ⟨hexec, hb, hml, hown, hts, hKs, hGk, hlk, hrt, hnm⟩ := hX
  obtain ⟨hd, hnx⟩ := hd
  subst hnx
  intro H locs ls hl hW hS
  exact lv_ishl hexec hb hd (kk H locs ls hl hW hS)

theorem g_ishr {G : Gt} {d mc ms : Nat} {own : String} {y : Mt} {X : Xt} {P : Pt3} {pc nx : Nat} {lo : List (Option Value)} {st : List Value} {I : It} {h : Ht} {k n : Nat} {a b : Int32} (hX : Xok G own y X) (hd : dc y.2.1 pc (.ishr) 1 nx) (kk : GG G d mc ms X P nx lo (.int (a >>> (b &&& 31)) :: st) I h k n) : GG G d mc ms X P pc lo (.int b :: .int a :: st) I h k n := by
  obtain ⟨p, l, e, s, m, args, below, meth, c⟩ := X
  obtain ⟨hexec, hb, hml, hown, hts, hKs, hGk, hlk, hrt, hnm⟩ := hX
  obtain ⟨hd, hnx⟩ := hd
  subst hnx
  intro H locs ls hl hW hS
  exact lv_ishr hexec hb hd (kk H locs ls hl hW hS)

theorem g_iushr {G : Gt} {d mc ms : Nat} {own : String} {y : Mt} {X : Xt} {P : Pt3} {pc nx : Nat} {lo : List (Option Value)} {st : List Value} {I : It} {h : Ht} {k n : Nat} {a b : Int32} (hX : Xok G own y X) (hd : dc y.2.1 pc (.iushr) 1 nx) (kk : GG G d mc ms X P nx lo (.int ((a.toUInt32 >>> (b.toUInt32 &&& Int32.toUInt32 31)).toInt32) :: st) I h k n) : GG G d mc ms X P pc lo (.int b :: .int a :: st) I h k n := by
  obtain ⟨p, l, e, s, m, args, below, meth, c⟩ := X
  obtain ⟨hexec, hb, hml, hown, hts, hKs, hGk, hlk, hrt, hnm⟩ := hX
  obtain ⟨hd, hnx⟩ := hd
  subst hnx
  intro H locs ls hl hW hS
  exact lv_iushr hexec hb hd rfl (kk H locs ls hl hW hS)

theorem g_idiv {G : Gt} {d mc ms : Nat} {own : String} {y : Mt} {X : Xt} {P : Pt3} {pc nx : Nat} {lo : List (Option Value)} {st : List Value} {I : It} {h : Ht} {k n : Nat} {a b : Int32} (hX : Xok G own y X) (hd : dc y.2.1 pc (.idiv) 1 nx) (hne : ¬ b = 0) (kk : GG G d mc ms X P nx lo (.int (a / b) :: st) I h k n) : GG G d mc ms X P pc lo (.int b :: .int a :: st) I h k n := by
  obtain ⟨p, l, e, s, m, args, below, meth, c⟩ := X
  obtain ⟨hexec, hb, hml, hown, hts, hKs, hGk, hlk, hrt, hnm⟩ := hX
  obtain ⟨hd, hnx⟩ := hd
  subst hnx
  intro H locs ls hl hW hS
  exact lv_idiv hexec hb hd hne (kk H locs ls hl hW hS)

theorem g_irem {G : Gt} {d mc ms : Nat} {own : String} {y : Mt} {X : Xt} {P : Pt3} {pc nx : Nat} {lo : List (Option Value)} {st : List Value} {I : It} {h : Ht} {k n : Nat} {a b : Int32} (hX : Xok G own y X) (hd : dc y.2.1 pc (.irem) 1 nx) (hne : ¬ b = 0) (kk : GG G d mc ms X P nx lo (.int (a - a / b * b) :: st) I h k n) : GG G d mc ms X P pc lo (.int b :: .int a :: st) I h k n := by
  obtain ⟨p, l, e, s, m, args, below, meth, c⟩ := X
  obtain ⟨hexec, hb, hml, hown, hts, hKs, hGk, hlk, hrt, hnm⟩ := hX
  obtain ⟨hd, hnx⟩ := hd
  subst hnx
  intro H locs ls hl hW hS
  exact lv_irem hexec hb hd hne (kk H locs ls hl hW hS)

theorem g_ineg {G : Gt} {d mc ms : Nat} {own : String} {y : Mt} {X : Xt} {P : Pt3} {pc nx : Nat} {lo : List (Option Value)} {st : List Value} {I : It} {h : Ht} {k n : Nat} {a : Int32} (hX : Xok G own y X) (hd : dc y.2.1 pc (.ineg) 1 nx) (kk : GG G d mc ms X P nx lo (.int (-a) :: st) I h k n) : GG G d mc ms X P pc lo (.int a :: st) I h k n := by
  obtain ⟨p, l, e, s, m, args, below, meth, c⟩ := X
  obtain ⟨hexec, hb, hml, hown, hts, hKs, hGk, hlk, hrt, hnm⟩ := hX
  obtain ⟨hd, hnx⟩ := hd
  subst hnx
  intro H locs ls hl hW hS
  exact lv_ineg hexec hb hd (kk H locs ls hl hW hS)

theorem g_lmul {G : Gt} {d mc ms : Nat} {own : String} {y : Mt} {X : Xt} {P : Pt3} {pc nx : Nat} {lo : List (Option Value)} {st : List Value} {I : It} {h : Ht} {k n : Nat} {a b : Int64} (hX : Xok G own y X) (hd : dc y.2.1 pc (.lmul) 1 nx) (kk : GG G d mc ms X P nx lo (.long (a * b) :: st) I h k n) : GG G d mc ms X P pc lo (.long b :: .long a :: st) I h k n := by
  obtain ⟨p, l, e, s, m, args, below, meth, c⟩ := X
  obtain ⟨hexec, hb, hml, hown, hts, hKs, hGk, hlk, hrt, hnm⟩ := hX
  obtain ⟨hd, hnx⟩ := hd
  subst hnx
  intro H locs ls hl hW hS
  exact lv_lmul hexec hb hd (kk H locs ls hl hW hS)

theorem g_land {G : Gt} {d mc ms : Nat} {own : String} {y : Mt} {X : Xt} {P : Pt3} {pc nx : Nat} {lo : List (Option Value)} {st : List Value} {I : It} {h : Ht} {k n : Nat} {a b : Int64} (hX : Xok G own y X) (hd : dc y.2.1 pc (.land) 1 nx) (kk : GG G d mc ms X P nx lo (.long (a &&& b) :: st) I h k n) : GG G d mc ms X P pc lo (.long b :: .long a :: st) I h k n := by
  obtain ⟨p, l, e, s, m, args, below, meth, c⟩ := X
  obtain ⟨hexec, hb, hml, hown, hts, hKs, hGk, hlk, hrt, hnm⟩ := hX
  obtain ⟨hd, hnx⟩ := hd
  subst hnx
  intro H locs ls hl hW hS
  exact lv_land hexec hb hd (kk H locs ls hl hW hS)

theorem g_lor {G : Gt} {d mc ms : Nat} {own : String} {y : Mt} {X : Xt} {P : Pt3} {pc nx : Nat} {lo : List (Option Value)} {st : List Value} {I : It} {h : Ht} {k n : Nat} {a b : Int64} (hX : Xok G own y X) (hd : dc y.2.1 pc (.lor) 1 nx) (kk : GG G d mc ms X P nx lo (.long (a ||| b) :: st) I h k n) : GG G d mc ms X P pc lo (.long b :: .long a :: st) I h k n := by
  obtain ⟨p, l, e, s, m, args, below, meth, c⟩ := X
  obtain ⟨hexec, hb, hml, hown, hts, hKs, hGk, hlk, hrt, hnm⟩ := hX
  obtain ⟨hd, hnx⟩ := hd
  subst hnx
  intro H locs ls hl hW hS
  exact lv_lor hexec hb hd (kk H locs ls hl hW hS)

theorem g_ldiv {G : Gt} {d mc ms : Nat} {own : String} {y : Mt} {X : Xt} {P : Pt3} {pc nx : Nat} {lo : List (Option Value)} {st : List Value} {I : It} {h : Ht} {k n : Nat} {a b : Int64} (hX : Xok G own y X) (hd : dc y.2.1 pc (.ldiv) 1 nx) (hne : ¬ b = 0) (kk : GG G d mc ms X P nx lo (.long (a / b) :: st) I h k n) : GG G d mc ms X P pc lo (.long b :: .long a :: st) I h k n := by
  obtain ⟨p, l, e, s, m, args, below, meth, c⟩ := X
  obtain ⟨hexec, hb, hml, hown, hts, hKs, hGk, hlk, hrt, hnm⟩ := hX
  obtain ⟨hd, hnx⟩ := hd
  subst hnx
  intro H locs ls hl hW hS
  exact lv_ldiv hexec hb hd hne (kk H locs ls hl hW hS)

theorem g_lrem {G : Gt} {d mc ms : Nat} {own : String} {y : Mt} {X : Xt} {P : Pt3} {pc nx : Nat} {lo : List (Option Value)} {st : List Value} {I : It} {h : Ht} {k n : Nat} {a b : Int64} (hX : Xok G own y X) (hd : dc y.2.1 pc (.lrem) 1 nx) (hne : ¬ b = 0) (kk : GG G d mc ms X P nx lo (.long (a - a / b * b) :: st) I h k n) : GG G d mc ms X P pc lo (.long b :: .long a :: st) I h k n := by
  obtain ⟨p, l, e, s, m, args, below, meth, c⟩ := X
  obtain ⟨hexec, hb, hml, hown, hts, hKs, hGk, hlk, hrt, hnm⟩ := hX
  obtain ⟨hd, hnx⟩ := hd
  subst hnx
  intro H locs ls hl hW hS
  exact lv_lrem hexec hb hd hne (kk H locs ls hl hW hS)

theorem g_lshl {G : Gt} {d mc ms : Nat} {own : String} {y : Mt} {X : Xt} {P : Pt3} {pc nx : Nat} {lo : List (Option Value)} {st : List Value} {I : It} {h : Ht} {k n : Nat} {a : Int64} {b : Int32} (hX : Xok G own y X) (hd : dc y.2.1 pc (.lshl) 1 nx) (kk : GG G d mc ms X P nx lo (.long (a <<< (b.toInt64 &&& 63)) :: st) I h k n) : GG G d mc ms X P pc lo (.int b :: .long a :: st) I h k n := by
  obtain ⟨p, l, e, s, m, args, below, meth, c⟩ := X
  obtain ⟨hexec, hb, hml, hown, hts, hKs, hGk, hlk, hrt, hnm⟩ := hX
  obtain ⟨hd, hnx⟩ := hd
  subst hnx
  intro H locs ls hl hW hS
  exact lv_lshl hexec hb hd rfl (kk H locs ls hl hW hS)

theorem g_i2l {G : Gt} {d mc ms : Nat} {own : String} {y : Mt} {X : Xt} {P : Pt3} {pc nx : Nat} {lo : List (Option Value)} {st : List Value} {I : It} {h : Ht} {k n : Nat} {a : Int32} (hX : Xok G own y X) (hd : dc y.2.1 pc (.i2l) 1 nx) (kk : GG G d mc ms X P nx lo (.long a.toInt64 :: st) I h k n) : GG G d mc ms X P pc lo (.int a :: st) I h k n := by
  obtain ⟨p, l, e, s, m, args, below, meth, c⟩ := X
  obtain ⟨hexec, hb, hml, hown, hts, hKs, hGk, hlk, hrt, hnm⟩ := hX
  obtain ⟨hd, hnx⟩ := hd
  subst hnx
  intro H locs ls hl hW hS
  exact lv_i2l hexec hb hd rfl (kk H locs ls hl hW hS)

theorem g_l2i {G : Gt} {d mc ms : Nat} {own : String} {y : Mt} {X : Xt} {P : Pt3} {pc nx : Nat} {lo : List (Option Value)} {st : List Value} {I : It} {h : Ht} {k n : Nat} {a : Int64} (hX : Xok G own y X) (hd : dc y.2.1 pc (.l2i) 1 nx) (kk : GG G d mc ms X P nx lo (.int a.toInt32 :: st) I h k n) : GG G d mc ms X P pc lo (.long a :: st) I h k n := by
  obtain ⟨p, l, e, s, m, args, below, meth, c⟩ := X
  obtain ⟨hexec, hb, hml, hown, hts, hKs, hGk, hlk, hrt, hnm⟩ := hX
  obtain ⟨hd, hnx⟩ := hd
  subst hnx
  intro H locs ls hl hW hS
  exact lv_l2i hexec hb hd rfl (kk H locs ls hl hW hS)

theorem g_i2b {G : Gt} {d mc ms : Nat} {own : String} {y : Mt} {X : Xt} {P : Pt3} {pc nx : Nat} {lo : List (Option Value)} {st : List Value} {I : It} {h : Ht} {k n : Nat} {a : Int32} (hX : Xok G own y X) (hd : dc y.2.1 pc (.i2b) 1 nx) (kk : GG G d mc ms X P nx lo (.int a.toInt8.toInt32 :: st) I h k n) : GG G d mc ms X P pc lo (.int a :: st) I h k n := by
  obtain ⟨p, l, e, s, m, args, below, meth, c⟩ := X
  obtain ⟨hexec, hb, hml, hown, hts, hKs, hGk, hlk, hrt, hnm⟩ := hX
  obtain ⟨hd, hnx⟩ := hd
  subst hnx
  intro H locs ls hl hW hS
  exact lv_i2b hexec hb hd rfl (kk H locs ls hl hW hS)

theorem g_i2s {G : Gt} {d mc ms : Nat} {own : String} {y : Mt} {X : Xt} {P : Pt3} {pc nx : Nat} {lo : List (Option Value)} {st : List Value} {I : It} {h : Ht} {k n : Nat} {a : Int32} (hX : Xok G own y X) (hd : dc y.2.1 pc (.i2s) 1 nx) (kk : GG G d mc ms X P nx lo (.int a.toInt16.toInt32 :: st) I h k n) : GG G d mc ms X P pc lo (.int a :: st) I h k n := by
  obtain ⟨p, l, e, s, m, args, below, meth, c⟩ := X
  obtain ⟨hexec, hb, hml, hown, hts, hKs, hGk, hlk, hrt, hnm⟩ := hX
  obtain ⟨hd, hnx⟩ := hd
  subst hnx
  intro H locs ls hl hW hS
  exact lv_i2s hexec hb hd rfl (kk H locs ls hl hW hS)

theorem g_lcmp {G : Gt} {d mc ms : Nat} {own : String} {y : Mt} {X : Xt} {P : Pt3} {pc nx : Nat} {lo : List (Option Value)} {st : List Value} {I : It} {h : Ht} {k n : Nat} {a b : Int64} (hX : Xok G own y X) (hd : dc y.2.1 pc (.lcmp) 1 nx) (kk : GG G d mc ms X P nx lo (.int (lg_cmp a b) :: st) I h k n) : GG G d mc ms X P pc lo (.long b :: .long a :: st) I h k n := by
  obtain ⟨p, l, e, s, m, args, below, meth, c⟩ := X
  obtain ⟨hexec, hb, hml, hown, hts, hKs, hGk, hlk, hrt, hnm⟩ := hX
  obtain ⟨hd, hnx⟩ := hd
  subst hnx
  intro H locs ls hl hW hS
  exact W.lcmp hexec hb hd (kk H locs ls hl hW hS)

theorem g_dup {G : Gt} {d mc ms : Nat} {own : String} {y : Mt} {X : Xt} {P : Pt3} {pc nx : Nat} {lo : List (Option Value)} {st : List Value} {I : It} {h : Ht} {k n : Nat} {v : Value} (hX : Xok G own y X) (hd : dc y.2.1 pc (.dup) 1 nx) (hv : v.category = 1) (kk : GG G d mc ms X P nx lo (v :: v :: st) I h k n) : GG G d mc ms X P pc lo (v :: st) I h k n := by
  obtain ⟨p, l, e, s, m, args, below, meth, c⟩ := X
  obtain ⟨hexec, hb, hml, hown, hts, hKs, hGk, hlk, hrt, hnm⟩ := hX
  obtain ⟨hd, hnx⟩ := hd
  subst hnx
  intro H locs ls hl hW hS
  exact lv_dup hexec hb hd (by rw [cv_cat]; exact hv) (kk H locs ls hl hW hS)

theorem g_dup2 {G : Gt} {d mc ms : Nat} {own : String} {y : Mt} {X : Xt} {P : Pt3} {pc nx : Nat} {lo : List (Option Value)} {st : List Value} {I : It} {h : Ht} {k n : Nat} {v w : Value} (hX : Xok G own y X) (hd : dc y.2.1 pc (.dup2) 1 nx) (hv : v.category = 1) (hw : w.category = 1) (kk : GG G d mc ms X P nx lo (v :: w :: v :: w :: st) I h k n) : GG G d mc ms X P pc lo (v :: w :: st) I h k n := by
  obtain ⟨p, l, e, s, m, args, below, meth, c⟩ := X
  obtain ⟨hexec, hb, hml, hown, hts, hKs, hGk, hlk, hrt, hnm⟩ := hX
  obtain ⟨hd, hnx⟩ := hd
  subst hnx
  intro H locs ls hl hW hS
  exact lv_dup2_11 hexec hb hd (by rw [cv_cat]; exact hv) (by rw [cv_cat]; exact hw) (kk H locs ls hl hW hS)

theorem g_dup2l {G : Gt} {d mc ms : Nat} {own : String} {y : Mt} {X : Xt} {P : Pt3} {pc nx : Nat} {lo : List (Option Value)} {st : List Value} {I : It} {h : Ht} {k n : Nat} {a : Int64} (hX : Xok G own y X) (hd : dc y.2.1 pc (.dup2) 1 nx) (kk : GG G d mc ms X P nx lo (.long a :: .long a :: st) I h k n) : GG G d mc ms X P pc lo (.long a :: st) I h k n := by
  obtain ⟨p, l, e, s, m, args, below, meth, c⟩ := X
  obtain ⟨hexec, hb, hml, hown, hts, hKs, hGk, hlk, hrt, hnm⟩ := hX
  obtain ⟨hd, hnx⟩ := hd
  subst hnx
  intro H locs ls hl hW hS
  exact lv_dup2_2 hexec hb hd rfl (kk H locs ls hl hW hS)

theorem g_pop {G : Gt} {d mc ms : Nat} {own : String} {y : Mt} {X : Xt} {P : Pt3} {pc nx : Nat} {lo : List (Option Value)} {st : List Value} {I : It} {h : Ht} {k n : Nat} {v : Value} (hX : Xok G own y X) (hd : dc y.2.1 pc (.pop) 1 nx) (hv : v.category = 1) (kk : GG G d mc ms X P nx lo (st) I h k n) : GG G d mc ms X P pc lo (v :: st) I h k n := by
  obtain ⟨p, l, e, s, m, args, below, meth, c⟩ := X
  obtain ⟨hexec, hb, hml, hown, hts, hKs, hGk, hlk, hrt, hnm⟩ := hX
  obtain ⟨hd, hnx⟩ := hd
  subst hnx
  intro H locs ls hl hW hS
  exact lv_pop hexec hb hd (by rw [cv_cat]; exact hv) (kk H locs ls hl hW hS)

theorem g_iload_0 {G : Gt} {d mc ms : Nat} {own : String} {y : Mt} {X : Xt} {P : Pt3} {pc nx : Nat} {st : List Value} {I : It} {h : Ht} {k n : Nat} {rs : List (Option Value)} {x : Int32} (hX : Xok G own y X) (hd : dc y.2.1 pc (.iload_n 0) 1 nx) (kk : GG G d mc ms X P nx (some (.int x) :: rs) (.int x :: st) I h k n) : GG G d mc ms X P pc (some (.int x) :: rs) (st) I h k n := by
  obtain ⟨p, l, e, s, m, args, below, meth, c⟩ := X
  obtain ⟨hexec, hb, hml, hown, hts, hKs, hGk, hlk, hrt, hnm⟩ := hX
  obtain ⟨hd, hnx⟩ := hd
  subst hnx
  intro H locs ls hl hW hS
  exact lv_iload_n hexec hb hd rfl (lpr_at hl (i := 0) rfl) (kk H locs ls hl hW hS)

theorem g_lload_0 {G : Gt} {d mc ms : Nat} {own : String} {y : Mt} {X : Xt} {P : Pt3} {pc nx : Nat} {st : List Value} {I : It} {h : Ht} {k n : Nat} {rs : List (Option Value)} {x : Int64} (hX : Xok G own y X) (hd : dc y.2.1 pc (.lload_n 0) 1 nx) (kk : GG G d mc ms X P nx (some (.long x) :: rs) (.long x :: st) I h k n) : GG G d mc ms X P pc (some (.long x) :: rs) (st) I h k n := by
  obtain ⟨p, l, e, s, m, args, below, meth, c⟩ := X
  obtain ⟨hexec, hb, hml, hown, hts, hKs, hGk, hlk, hrt, hnm⟩ := hX
  obtain ⟨hd, hnx⟩ := hd
  subst hnx
  intro H locs ls hl hW hS
  exact lv_lload_n hexec hb hd rfl (lpr_at hl (i := 0) rfl) (kk H locs ls hl hW hS)

theorem g_aload_0 {G : Gt} {d mc ms : Nat} {own : String} {y : Mt} {X : Xt} {P : Pt3} {pc nx : Nat} {st : List Value} {I : It} {h : Ht} {k n : Nat} {rs : List (Option Value)} {x : Nat} (hX : Xok G own y X) (hd : dc y.2.1 pc (.aload_n 0) 1 nx) (kk : GG G d mc ms X P nx (some (.ref x) :: rs) (.ref x :: st) I h k n) : GG G d mc ms X P pc (some (.ref x) :: rs) (st) I h k n := by
  obtain ⟨p, l, e, s, m, args, below, meth, c⟩ := X
  obtain ⟨hexec, hb, hml, hown, hts, hKs, hGk, hlk, hrt, hnm⟩ := hX
  obtain ⟨hd, hnx⟩ := hd
  subst hnx
  intro H locs ls hl hW hS
  exact lv_aload_n hexec hb hd rfl (lpr_at hl (i := 0) rfl) (kk H locs ls hl hW hS)

theorem g_aloadN_0 {G : Gt} {d mc ms : Nat} {own : String} {y : Mt} {X : Xt} {P : Pt3} {pc nx : Nat} {st : List Value} {I : It} {h : Ht} {k n : Nat} {rs : List (Option Value)}  (hX : Xok G own y X) (hd : dc y.2.1 pc (.aload_n 0) 1 nx) (kk : GG G d mc ms X P nx (some .null :: rs) (.null :: st) I h k n) : GG G d mc ms X P pc (some .null :: rs) (st) I h k n := by
  obtain ⟨p, l, e, s, m, args, below, meth, c⟩ := X
  obtain ⟨hexec, hb, hml, hown, hts, hKs, hGk, hlk, hrt, hnm⟩ := hX
  obtain ⟨hd, hnx⟩ := hd
  subst hnx
  intro H locs ls hl hW hS
  exact lv_aload_nN hexec hb hd rfl (lpr_at hl (i := 0) rfl) (kk H locs ls hl hW hS)

theorem g_istore_0 {G : Gt} {d mc ms : Nat} {own : String} {y : Mt} {X : Xt} {P : Pt3} {pc nx : Nat} {st : List Value} {I : It} {h : Ht} {k n : Nat} {rs : List (Option Value)} {z : Option Value} {x : Int32} (hX : Xok G own y X) (hd : dc y.2.1 pc (.istore_n 0) 1 nx) (hi : 0 < y.2.2.1) (ha : ahd (z :: rs) 0 = true) (kk : GG G d mc ms X P nx (some (.int x) :: rs) st I h k n) : GG G d mc ms X P pc (z :: rs) (.int x :: st) I h k n := by
  obtain ⟨p, l, e, s, m, args, below, meth, c⟩ := X
  obtain ⟨hexec, hb, hml, hown, hts, hKs, hGk, hlk, hrt, hnm⟩ := hX
  obtain ⟨hd, hnx⟩ := hd
  subst hnx
  intro H locs ls hl hW hS
  refine lv_istore_n hexec hb hd rfl hl (by rw [hml]; exact hi) rfl (fun ls2 hl2 => ?_)
  exact kk H locs ls2 (lv_fewer hl2 (lpr_set (lo := z :: rs) (i := 0) (v := .int x) ha (by simp))) hW hS

theorem g_astore_0 {G : Gt} {d mc ms : Nat} {own : String} {y : Mt} {X : Xt} {P : Pt3} {pc nx : Nat} {st : List Value} {I : It} {h : Ht} {k n : Nat} {rs : List (Option Value)} {z : Option Value} {x : Nat} (hX : Xok G own y X) (hd : dc y.2.1 pc (.astore_n 0) 1 nx) (hi : 0 < y.2.2.1) (ha : ahd (z :: rs) 0 = true) (kk : GG G d mc ms X P nx (some (.ref x) :: rs) st I h k n) : GG G d mc ms X P pc (z :: rs) (.ref x :: st) I h k n := by
  obtain ⟨p, l, e, s, m, args, below, meth, c⟩ := X
  obtain ⟨hexec, hb, hml, hown, hts, hKs, hGk, hlk, hrt, hnm⟩ := hX
  obtain ⟨hd, hnx⟩ := hd
  subst hnx
  intro H locs ls hl hW hS
  refine lv_astore_n hexec hb hd rfl hl (by rw [hml]; exact hi) rfl (fun ls2 hl2 => ?_)
  exact kk H locs ls2 (lv_fewer hl2 (lpr_set (lo := z :: rs) (i := 0) (v := .ref x) ha (by simp))) hW hS

theorem g_astoreN_0 {G : Gt} {d mc ms : Nat} {own : String} {y : Mt} {X : Xt} {P : Pt3} {pc nx : Nat} {st : List Value} {I : It} {h : Ht} {k n : Nat} {rs : List (Option Value)} {z : Option Value}  (hX : Xok G own y X) (hd : dc y.2.1 pc (.astore_n 0) 1 nx) (hi : 0 < y.2.2.1) (ha : ahd (z :: rs) 0 = true) (kk : GG G d mc ms X P nx (some (.null) :: rs) st I h k n) : GG G d mc ms X P pc (z :: rs) (.null :: st) I h k n := by
  obtain ⟨p, l, e, s, m, args, below, meth, c⟩ := X
  obtain ⟨hexec, hb, hml, hown, hts, hKs, hGk, hlk, hrt, hnm⟩ := hX
  obtain ⟨hd, hnx⟩ := hd
  subst hnx
  intro H locs ls hl hW hS
  refine lv_astore_nN hexec hb hd rfl hl (by rw [hml]; exact hi) rfl (fun ls2 hl2 => ?_)
  exact kk H locs ls2 (lv_fewer hl2 (lpr_set (lo := z :: rs) (i := 0) (v := .null) ha (by simp))) hW hS

theorem g_lstore_0 {G : Gt} {d mc ms : Nat} {own : String} {y : Mt} {X : Xt} {P : Pt3} {pc nx : Nat} {st : List Value} {I : It} {h : Ht} {k n : Nat} {rs : List (Option Value)} {z z2 : Option Value} {x : Int64} (hX : Xok G own y X) (hd : dc y.2.1 pc (.lstore_n 0) 1 nx) (hi : 0 + 1 < y.2.2.1) (ha : ahd (z :: z2 :: rs) 0 = true) (kk : GG G d mc ms X P nx (some (.long x) :: none :: rs) st I h k n) : GG G d mc ms X P pc (z :: z2 :: rs) (.long x :: st) I h k n := by
  obtain ⟨p, l, e, s, m, args, below, meth, c⟩ := X
  obtain ⟨hexec, hb, hml, hown, hts, hKs, hGk, hlk, hrt, hnm⟩ := hX
  obtain ⟨hd, hnx⟩ := hd
  subst hnx
  intro H locs ls hl hW hS
  refine lv_lstore_n hexec hb hd rfl hl (by rw [hml]; exact hi) rfl (fun ls2 hl2 => ?_)
  exact kk H locs ls2 (lv_fewer hl2 (lpr_set2 (lo := z :: z2 :: rs) (i := 0) (v := .long x) ha (by simp))) hW hS

theorem g_iinc_0 {G : Gt} {d mc ms : Nat} {own : String} {y : Mt} {X : Xt} {P : Pt3} {pc nx : Nat} {st : List Value} {I : It} {h : Ht} {k n : Nat} {rs : List (Option Value)} {x v : Int32} {z : Int} (hX : Xok G own y X) (hd : dc y.2.1 pc (.iinc 0 z) 3 nx) (hv : x + Int32.ofInt z = v) (hi : 0 < y.2.2.1) (ha : ahd (some (.int x) :: rs) 0 = true) (kk : GG G d mc ms X P nx (some (.int v) :: rs) st I h k n) : GG G d mc ms X P pc (some (.int x) :: rs) st I h k n := by
  obtain ⟨p, l, e, s, m, args, below, meth, c⟩ := X
  obtain ⟨hexec, hb, hml, hown, hts, hKs, hGk, hlk, hrt, hnm⟩ := hX
  obtain ⟨hd, hnx⟩ := hd
  subst hnx
  intro H locs ls hl hW hS
  have hmem : (0, Value.int x) ∈ lpr G 0 (some (.int x) :: rs) := (lpr_mem _ 0 _).mpr ⟨0, .int x, rfl, by simp [cv]⟩
  obtain ⟨kq, hkq⟩ := List.getElem?_of_mem hmem
  refine lv_iinc hexec hb hd hl hkq hv (by rw [hml]; exact hi) rfl (fun ls2 hl2 => ?_)
  exact kk H locs ls2 (lv_fewer hl2 (lpr_set (lo := some (.int x) :: rs) (i := 0) (v := .int v) ha (by simp))) hW hS

theorem g_iload_1 {G : Gt} {d mc ms : Nat} {own : String} {y : Mt} {X : Xt} {P : Pt3} {pc nx : Nat} {st : List Value} {I : It} {h : Ht} {k n : Nat} {a0 : Option Value} {rs : List (Option Value)} {x : Int32} (hX : Xok G own y X) (hd : dc y.2.1 pc (.iload_n 1) 1 nx) (kk : GG G d mc ms X P nx (a0 :: some (.int x) :: rs) (.int x :: st) I h k n) : GG G d mc ms X P pc (a0 :: some (.int x) :: rs) (st) I h k n := by
  obtain ⟨p, l, e, s, m, args, below, meth, c⟩ := X
  obtain ⟨hexec, hb, hml, hown, hts, hKs, hGk, hlk, hrt, hnm⟩ := hX
  obtain ⟨hd, hnx⟩ := hd
  subst hnx
  intro H locs ls hl hW hS
  exact lv_iload_n hexec hb hd rfl (lpr_at hl (i := 1) rfl) (kk H locs ls hl hW hS)

theorem g_lload_1 {G : Gt} {d mc ms : Nat} {own : String} {y : Mt} {X : Xt} {P : Pt3} {pc nx : Nat} {st : List Value} {I : It} {h : Ht} {k n : Nat} {a0 : Option Value} {rs : List (Option Value)} {x : Int64} (hX : Xok G own y X) (hd : dc y.2.1 pc (.lload_n 1) 1 nx) (kk : GG G d mc ms X P nx (a0 :: some (.long x) :: rs) (.long x :: st) I h k n) : GG G d mc ms X P pc (a0 :: some (.long x) :: rs) (st) I h k n := by
  obtain ⟨p, l, e, s, m, args, below, meth, c⟩ := X
  obtain ⟨hexec, hb, hml, hown, hts, hKs, hGk, hlk, hrt, hnm⟩ := hX
  obtain ⟨hd, hnx⟩ := hd
  subst hnx
  intro H locs ls hl hW hS
  exact lv_lload_n hexec hb hd rfl (lpr_at hl (i := 1) rfl) (kk H locs ls hl hW hS)

theorem g_aload_1 {G : Gt} {d mc ms : Nat} {own : String} {y : Mt} {X : Xt} {P : Pt3} {pc nx : Nat} {st : List Value} {I : It} {h : Ht} {k n : Nat} {a0 : Option Value} {rs : List (Option Value)} {x : Nat} (hX : Xok G own y X) (hd : dc y.2.1 pc (.aload_n 1) 1 nx) (kk : GG G d mc ms X P nx (a0 :: some (.ref x) :: rs) (.ref x :: st) I h k n) : GG G d mc ms X P pc (a0 :: some (.ref x) :: rs) (st) I h k n := by
  obtain ⟨p, l, e, s, m, args, below, meth, c⟩ := X
  obtain ⟨hexec, hb, hml, hown, hts, hKs, hGk, hlk, hrt, hnm⟩ := hX
  obtain ⟨hd, hnx⟩ := hd
  subst hnx
  intro H locs ls hl hW hS
  exact lv_aload_n hexec hb hd rfl (lpr_at hl (i := 1) rfl) (kk H locs ls hl hW hS)

theorem g_aloadN_1 {G : Gt} {d mc ms : Nat} {own : String} {y : Mt} {X : Xt} {P : Pt3} {pc nx : Nat} {st : List Value} {I : It} {h : Ht} {k n : Nat} {a0 : Option Value} {rs : List (Option Value)}  (hX : Xok G own y X) (hd : dc y.2.1 pc (.aload_n 1) 1 nx) (kk : GG G d mc ms X P nx (a0 :: some .null :: rs) (.null :: st) I h k n) : GG G d mc ms X P pc (a0 :: some .null :: rs) (st) I h k n := by
  obtain ⟨p, l, e, s, m, args, below, meth, c⟩ := X
  obtain ⟨hexec, hb, hml, hown, hts, hKs, hGk, hlk, hrt, hnm⟩ := hX
  obtain ⟨hd, hnx⟩ := hd
  subst hnx
  intro H locs ls hl hW hS
  exact lv_aload_nN hexec hb hd rfl (lpr_at hl (i := 1) rfl) (kk H locs ls hl hW hS)

theorem g_istore_1 {G : Gt} {d mc ms : Nat} {own : String} {y : Mt} {X : Xt} {P : Pt3} {pc nx : Nat} {st : List Value} {I : It} {h : Ht} {k n : Nat} {a0 : Option Value} {rs : List (Option Value)} {z : Option Value} {x : Int32} (hX : Xok G own y X) (hd : dc y.2.1 pc (.istore_n 1) 1 nx) (hi : 1 < y.2.2.1) (ha : ahd (a0 :: z :: rs) 1 = true) (kk : GG G d mc ms X P nx (a0 :: some (.int x) :: rs) st I h k n) : GG G d mc ms X P pc (a0 :: z :: rs) (.int x :: st) I h k n := by
  obtain ⟨p, l, e, s, m, args, below, meth, c⟩ := X
  obtain ⟨hexec, hb, hml, hown, hts, hKs, hGk, hlk, hrt, hnm⟩ := hX
  obtain ⟨hd, hnx⟩ := hd
  subst hnx
  intro H locs ls hl hW hS
  refine lv_istore_n hexec hb hd rfl hl (by rw [hml]; exact hi) rfl (fun ls2 hl2 => ?_)
  exact kk H locs ls2 (lv_fewer hl2 (lpr_set (lo := a0 :: z :: rs) (i := 1) (v := .int x) ha (by simp))) hW hS

theorem g_astore_1 {G : Gt} {d mc ms : Nat} {own : String} {y : Mt} {X : Xt} {P : Pt3} {pc nx : Nat} {st : List Value} {I : It} {h : Ht} {k n : Nat} {a0 : Option Value} {rs : List (Option Value)} {z : Option Value} {x : Nat} (hX : Xok G own y X) (hd : dc y.2.1 pc (.astore_n 1) 1 nx) (hi : 1 < y.2.2.1) (ha : ahd (a0 :: z :: rs) 1 = true) (kk : GG G d mc ms X P nx (a0 :: some (.ref x) :: rs) st I h k n) : GG G d mc ms X P pc (a0 :: z :: rs) (.ref x :: st) I h k n := by
  obtain ⟨p, l, e, s, m, args, below, meth, c⟩ := X
  obtain ⟨hexec, hb, hml, hown, hts, hKs, hGk, hlk, hrt, hnm⟩ := hX
  obtain ⟨hd, hnx⟩ := hd
  subst hnx
  intro H locs ls hl hW hS
  refine lv_astore_n hexec hb hd rfl hl (by rw [hml]; exact hi) rfl (fun ls2 hl2 => ?_)
  exact kk H locs ls2 (lv_fewer hl2 (lpr_set (lo := a0 :: z :: rs) (i := 1) (v := .ref x) ha (by simp))) hW hS

theorem g_astoreN_1 {G : Gt} {d mc ms : Nat} {own : String} {y : Mt} {X : Xt} {P : Pt3} {pc nx : Nat} {st : List Value} {I : It} {h : Ht} {k n : Nat} {a0 : Option Value} {rs : List (Option Value)} {z : Option Value}  (hX : Xok G own y X) (hd : dc y.2.1 pc (.astore_n 1) 1 nx) (hi : 1 < y.2.2.1) (ha : ahd (a0 :: z :: rs) 1 = true) (kk : GG G d mc ms X P nx (a0 :: some (.null) :: rs) st I h k n) : GG G d mc ms X P pc (a0 :: z :: rs) (.null :: st) I h k n := by
  obtain ⟨p, l, e, s, m, args, below, meth, c⟩ := X
  obtain ⟨hexec, hb, hml, hown, hts, hKs, hGk, hlk, hrt, hnm⟩ := hX
  obtain ⟨hd, hnx⟩ := hd
  subst hnx
  intro H locs ls hl hW hS
  refine lv_astore_nN hexec hb hd rfl hl (by rw [hml]; exact hi) rfl (fun ls2 hl2 => ?_)
  exact kk H locs ls2 (lv_fewer hl2 (lpr_set (lo := a0 :: z :: rs) (i := 1) (v := .null) ha (by simp))) hW hS

theorem g_lstore_1 {G : Gt} {d mc ms : Nat} {own : String} {y : Mt} {X : Xt} {P : Pt3} {pc nx : Nat} {st : List Value} {I : It} {h : Ht} {k n : Nat} {a0 : Option Value} {rs : List (Option Value)} {z z2 : Option Value} {x : Int64} (hX : Xok G own y X) (hd : dc y.2.1 pc (.lstore_n 1) 1 nx) (hi : 1 + 1 < y.2.2.1) (ha : ahd (a0 :: z :: z2 :: rs) 1 = true) (kk : GG G d mc ms X P nx (a0 :: some (.long x) :: none :: rs) st I h k n) : GG G d mc ms X P pc (a0 :: z :: z2 :: rs) (.long x :: st) I h k n := by
  obtain ⟨p, l, e, s, m, args, below, meth, c⟩ := X
  obtain ⟨hexec, hb, hml, hown, hts, hKs, hGk, hlk, hrt, hnm⟩ := hX
  obtain ⟨hd, hnx⟩ := hd
  subst hnx
  intro H locs ls hl hW hS
  refine lv_lstore_n hexec hb hd rfl hl (by rw [hml]; exact hi) rfl (fun ls2 hl2 => ?_)
  exact kk H locs ls2 (lv_fewer hl2 (lpr_set2 (lo := a0 :: z :: z2 :: rs) (i := 1) (v := .long x) ha (by simp))) hW hS

theorem g_iinc_1 {G : Gt} {d mc ms : Nat} {own : String} {y : Mt} {X : Xt} {P : Pt3} {pc nx : Nat} {st : List Value} {I : It} {h : Ht} {k n : Nat} {a0 : Option Value} {rs : List (Option Value)} {x v : Int32} {z : Int} (hX : Xok G own y X) (hd : dc y.2.1 pc (.iinc 1 z) 3 nx) (hv : x + Int32.ofInt z = v) (hi : 1 < y.2.2.1) (ha : ahd (a0 :: some (.int x) :: rs) 1 = true) (kk : GG G d mc ms X P nx (a0 :: some (.int v) :: rs) st I h k n) : GG G d mc ms X P pc (a0 :: some (.int x) :: rs) st I h k n := by
  obtain ⟨p, l, e, s, m, args, below, meth, c⟩ := X
  obtain ⟨hexec, hb, hml, hown, hts, hKs, hGk, hlk, hrt, hnm⟩ := hX
  obtain ⟨hd, hnx⟩ := hd
  subst hnx
  intro H locs ls hl hW hS
  have hmem : (1, Value.int x) ∈ lpr G 0 (a0 :: some (.int x) :: rs) := (lpr_mem _ 0 _).mpr ⟨1, .int x, rfl, by simp [cv]⟩
  obtain ⟨kq, hkq⟩ := List.getElem?_of_mem hmem
  refine lv_iinc hexec hb hd hl hkq hv (by rw [hml]; exact hi) rfl (fun ls2 hl2 => ?_)
  exact kk H locs ls2 (lv_fewer hl2 (lpr_set (lo := a0 :: some (.int x) :: rs) (i := 1) (v := .int v) ha (by simp))) hW hS

theorem g_iload_2 {G : Gt} {d mc ms : Nat} {own : String} {y : Mt} {X : Xt} {P : Pt3} {pc nx : Nat} {st : List Value} {I : It} {h : Ht} {k n : Nat} {a0 a1 : Option Value} {rs : List (Option Value)} {x : Int32} (hX : Xok G own y X) (hd : dc y.2.1 pc (.iload_n 2) 1 nx) (kk : GG G d mc ms X P nx (a0 :: a1 :: some (.int x) :: rs) (.int x :: st) I h k n) : GG G d mc ms X P pc (a0 :: a1 :: some (.int x) :: rs) (st) I h k n := by
  obtain ⟨p, l, e, s, m, args, below, meth, c⟩ := X
  obtain ⟨hexec, hb, hml, hown, hts, hKs, hGk, hlk, hrt, hnm⟩ := hX
  obtain ⟨hd, hnx⟩ := hd
  subst hnx
  intro H locs ls hl hW hS
  exact lv_iload_n hexec hb hd rfl (lpr_at hl (i := 2) rfl) (kk H locs ls hl hW hS)

theorem g_lload_2 {G : Gt} {d mc ms : Nat} {own : String} {y : Mt} {X : Xt} {P : Pt3} {pc nx : Nat} {st : List Value} {I : It} {h : Ht} {k n : Nat} {a0 a1 : Option Value} {rs : List (Option Value)} {x : Int64} (hX : Xok G own y X) (hd : dc y.2.1 pc (.lload_n 2) 1 nx) (kk : GG G d mc ms X P nx (a0 :: a1 :: some (.long x) :: rs) (.long x :: st) I h k n) : GG G d mc ms X P pc (a0 :: a1 :: some (.long x) :: rs) (st) I h k n := by
  obtain ⟨p, l, e, s, m, args, below, meth, c⟩ := X
  obtain ⟨hexec, hb, hml, hown, hts, hKs, hGk, hlk, hrt, hnm⟩ := hX
  obtain ⟨hd, hnx⟩ := hd
  subst hnx
  intro H locs ls hl hW hS
  exact lv_lload_n hexec hb hd rfl (lpr_at hl (i := 2) rfl) (kk H locs ls hl hW hS)

theorem g_aload_2 {G : Gt} {d mc ms : Nat} {own : String} {y : Mt} {X : Xt} {P : Pt3} {pc nx : Nat} {st : List Value} {I : It} {h : Ht} {k n : Nat} {a0 a1 : Option Value} {rs : List (Option Value)} {x : Nat} (hX : Xok G own y X) (hd : dc y.2.1 pc (.aload_n 2) 1 nx) (kk : GG G d mc ms X P nx (a0 :: a1 :: some (.ref x) :: rs) (.ref x :: st) I h k n) : GG G d mc ms X P pc (a0 :: a1 :: some (.ref x) :: rs) (st) I h k n := by
  obtain ⟨p, l, e, s, m, args, below, meth, c⟩ := X
  obtain ⟨hexec, hb, hml, hown, hts, hKs, hGk, hlk, hrt, hnm⟩ := hX
  obtain ⟨hd, hnx⟩ := hd
  subst hnx
  intro H locs ls hl hW hS
  exact lv_aload_n hexec hb hd rfl (lpr_at hl (i := 2) rfl) (kk H locs ls hl hW hS)

theorem g_aloadN_2 {G : Gt} {d mc ms : Nat} {own : String} {y : Mt} {X : Xt} {P : Pt3} {pc nx : Nat} {st : List Value} {I : It} {h : Ht} {k n : Nat} {a0 a1 : Option Value} {rs : List (Option Value)}  (hX : Xok G own y X) (hd : dc y.2.1 pc (.aload_n 2) 1 nx) (kk : GG G d mc ms X P nx (a0 :: a1 :: some .null :: rs) (.null :: st) I h k n) : GG G d mc ms X P pc (a0 :: a1 :: some .null :: rs) (st) I h k n := by
  obtain ⟨p, l, e, s, m, args, below, meth, c⟩ := X
  obtain ⟨hexec, hb, hml, hown, hts, hKs, hGk, hlk, hrt, hnm⟩ := hX
  obtain ⟨hd, hnx⟩ := hd
  subst hnx
  intro H locs ls hl hW hS
  exact lv_aload_nN hexec hb hd rfl (lpr_at hl (i := 2) rfl) (kk H locs ls hl hW hS)

theorem g_istore_2 {G : Gt} {d mc ms : Nat} {own : String} {y : Mt} {X : Xt} {P : Pt3} {pc nx : Nat} {st : List Value} {I : It} {h : Ht} {k n : Nat} {a0 a1 : Option Value} {rs : List (Option Value)} {z : Option Value} {x : Int32} (hX : Xok G own y X) (hd : dc y.2.1 pc (.istore_n 2) 1 nx) (hi : 2 < y.2.2.1) (ha : ahd (a0 :: a1 :: z :: rs) 2 = true) (kk : GG G d mc ms X P nx (a0 :: a1 :: some (.int x) :: rs) st I h k n) : GG G d mc ms X P pc (a0 :: a1 :: z :: rs) (.int x :: st) I h k n := by
  obtain ⟨p, l, e, s, m, args, below, meth, c⟩ := X
  obtain ⟨hexec, hb, hml, hown, hts, hKs, hGk, hlk, hrt, hnm⟩ := hX
  obtain ⟨hd, hnx⟩ := hd
  subst hnx
  intro H locs ls hl hW hS
  refine lv_istore_n hexec hb hd rfl hl (by rw [hml]; exact hi) rfl (fun ls2 hl2 => ?_)
  exact kk H locs ls2 (lv_fewer hl2 (lpr_set (lo := a0 :: a1 :: z :: rs) (i := 2) (v := .int x) ha (by simp))) hW hS

theorem g_astore_2 {G : Gt} {d mc ms : Nat} {own : String} {y : Mt} {X : Xt} {P : Pt3} {pc nx : Nat} {st : List Value} {I : It} {h : Ht} {k n : Nat} {a0 a1 : Option Value} {rs : List (Option Value)} {z : Option Value} {x : Nat} (hX : Xok G own y X) (hd : dc y.2.1 pc (.astore_n 2) 1 nx) (hi : 2 < y.2.2.1) (ha : ahd (a0 :: a1 :: z :: rs) 2 = true) (kk : GG G d mc ms X P nx (a0 :: a1 :: some (.ref x) :: rs) st I h k n) : GG G d mc ms X P pc (a0 :: a1 :: z :: rs) (.ref x :: st) I h k n := by
  obtain ⟨p, l, e, s, m, args, below, meth, c⟩ := X
  obtain ⟨hexec, hb, hml, hown, hts, hKs, hGk, hlk, hrt, hnm⟩ := hX
  obtain ⟨hd, hnx⟩ := hd
  subst hnx
  intro H locs ls hl hW hS
  refine lv_astore_n hexec hb hd rfl hl (by rw [hml]; exact hi) rfl (fun ls2 hl2 => ?_)
  exact kk H locs ls2 (lv_fewer hl2 (lpr_set (lo := a0 :: a1 :: z :: rs) (i := 2) (v := .ref x) ha (by simp))) hW hS

theorem g_astoreN_2 {G : Gt} {d mc ms : Nat} {own : String} {y : Mt} {X : Xt} {P : Pt3} {pc nx : Nat} {st : List Value} {I : It} {h : Ht} {k n : Nat} {a0 a1 : Option Value} {rs : List (Option Value)} {z : Option Value}  (hX : Xok G own y X) (hd : dc y.2.1 pc (.astore_n 2) 1 nx) (hi : 2 < y.2.2.1) (ha : ahd (a0 :: a1 :: z :: rs) 2 = true) (kk : GG G d mc ms X P nx (a0 :: a1 :: some (.null) :: rs) st I h k n) : GG G d mc ms X P pc (a0 :: a1 :: z :: rs) (.null :: st) I h k n := by
  obtain ⟨p, l, e, s, m, args, below, meth, c⟩ := X
  obtain ⟨hexec, hb, hml, hown, hts, hKs, hGk, hlk, hrt, hnm⟩ := hX
  obtain ⟨hd, hnx⟩ := hd
  subst hnx
  intro H locs ls hl hW hS
  refine lv_astore_nN hexec hb hd rfl hl (by rw [hml]; exact hi) rfl (fun ls2 hl2 => ?_)
  exact kk H locs ls2 (lv_fewer hl2 (lpr_set (lo := a0 :: a1 :: z :: rs) (i := 2) (v := .null) ha (by simp))) hW hS

theorem g_lstore_2 {G : Gt} {d mc ms : Nat} {own : String} {y : Mt} {X : Xt} {P : Pt3} {pc nx : Nat} {st : List Value} {I : It} {h : Ht} {k n : Nat} {a0 a1 : Option Value} {rs : List (Option Value)} {z z2 : Option Value} {x : Int64} (hX : Xok G own y X) (hd : dc y.2.1 pc (.lstore_n 2) 1 nx) (hi : 2 + 1 < y.2.2.1) (ha : ahd (a0 :: a1 :: z :: z2 :: rs) 2 = true) (kk : GG G d mc ms X P nx (a0 :: a1 :: some (.long x) :: none :: rs) st I h k n) : GG G d mc ms X P pc (a0 :: a1 :: z :: z2 :: rs) (.long x :: st) I h k n := by
  obtain ⟨p, l, e, s, m, args, below, meth, c⟩ := X
  obtain ⟨hexec, hb, hml, hown, hts, hKs, hGk, hlk, hrt, hnm⟩ := hX
  obtain ⟨hd, hnx⟩ := hd
  subst hnx
  intro H locs ls hl hW hS
  refine lv_lstore_n hexec hb hd rfl hl (by rw [hml]; exact hi) rfl (fun ls2 hl2 => ?_)
  exact kk H locs ls2 (lv_fewer hl2 (lpr_set2 (lo := a0 :: a1 :: z :: z2 :: rs) (i := 2) (v := .long x) ha (by simp))) hW hS

theorem g_iinc_2 {G : Gt} {d mc ms : Nat} {own : String} {y : Mt} {X : Xt} {P : Pt3} {pc nx : Nat} {st : List Value} {I : It} {h : Ht} {k n : Nat} {a0 a1 : Option Value} {rs : List (Option Value)} {x v : Int32} {z : Int} (hX : Xok G own y X) (hd : dc y.2.1 pc (.iinc 2 z) 3 nx) (hv : x + Int32.ofInt z = v) (hi : 2 < y.2.2.1) (ha : ahd (a0 :: a1 :: some (.int x) :: rs) 2 = true) (kk : GG G d mc ms X P nx (a0 :: a1 :: some (.int v) :: rs) st I h k n) : GG G d mc ms X P pc (a0 :: a1 :: some (.int x) :: rs) st I h k n := by
  obtain ⟨p, l, e, s, m, args, below, meth, c⟩ := X
  obtain ⟨hexec, hb, hml, hown, hts, hKs, hGk, hlk, hrt, hnm⟩ := hX
  obtain ⟨hd, hnx⟩ := hd
  subst hnx
  intro H locs ls hl hW hS
  have hmem : (2, Value.int x) ∈ lpr G 0 (a0 :: a1 :: some (.int x) :: rs) := (lpr_mem _ 0 _).mpr ⟨2, .int x, rfl, by simp [cv]⟩
  obtain ⟨kq, hkq⟩ := List.getElem?_of_mem hmem
  refine lv_iinc hexec hb hd hl hkq hv (by rw [hml]; exact hi) rfl (fun ls2 hl2 => ?_)
  exact kk H locs ls2 (lv_fewer hl2 (lpr_set (lo := a0 :: a1 :: some (.int x) :: rs) (i := 2) (v := .int v) ha (by simp))) hW hS

theorem g_iload_3 {G : Gt} {d mc ms : Nat} {own : String} {y : Mt} {X : Xt} {P : Pt3} {pc nx : Nat} {st : List Value} {I : It} {h : Ht} {k n : Nat} {a0 a1 a2 : Option Value} {rs : List (Option Value)} {x : Int32} (hX : Xok G own y X) (hd : dc y.2.1 pc (.iload_n 3) 1 nx) (kk : GG G d mc ms X P nx (a0 :: a1 :: a2 :: some (.int x) :: rs) (.int x :: st) I h k n) : GG G d mc ms X P pc (a0 :: a1 :: a2 :: some (.int x) :: rs) (st) I h k n := by
  obtain ⟨p, l, e, s, m, args, below, meth, c⟩ := X
  obtain ⟨hexec, hb, hml, hown, hts, hKs, hGk, hlk, hrt, hnm⟩ := hX
  obtain ⟨hd, hnx⟩ := hd
  subst hnx
  intro H locs ls hl hW hS
  exact lv_iload_n hexec hb hd rfl (lpr_at hl (i := 3) rfl) (kk H locs ls hl hW hS)

theorem g_lload_3 {G : Gt} {d mc ms : Nat} {own : String} {y : Mt} {X : Xt} {P : Pt3} {pc nx : Nat} {st : List Value} {I : It} {h : Ht} {k n : Nat} {a0 a1 a2 : Option Value} {rs : List (Option Value)} {x : Int64} (hX : Xok G own y X) (hd : dc y.2.1 pc (.lload_n 3) 1 nx) (kk : GG G d mc ms X P nx (a0 :: a1 :: a2 :: some (.long x) :: rs) (.long x :: st) I h k n) : GG G d mc ms X P pc (a0 :: a1 :: a2 :: some (.long x) :: rs) (st) I h k n := by
  obtain ⟨p, l, e, s, m, args, below, meth, c⟩ := X
  obtain ⟨hexec, hb, hml, hown, hts, hKs, hGk, hlk, hrt, hnm⟩ := hX
  obtain ⟨hd, hnx⟩ := hd
  subst hnx
  intro H locs ls hl hW hS
  exact lv_lload_n hexec hb hd rfl (lpr_at hl (i := 3) rfl) (kk H locs ls hl hW hS)

theorem g_aload_3 {G : Gt} {d mc ms : Nat} {own : String} {y : Mt} {X : Xt} {P : Pt3} {pc nx : Nat} {st : List Value} {I : It} {h : Ht} {k n : Nat} {a0 a1 a2 : Option Value} {rs : List (Option Value)} {x : Nat} (hX : Xok G own y X) (hd : dc y.2.1 pc (.aload_n 3) 1 nx) (kk : GG G d mc ms X P nx (a0 :: a1 :: a2 :: some (.ref x) :: rs) (.ref x :: st) I h k n) : GG G d mc ms X P pc (a0 :: a1 :: a2 :: some (.ref x) :: rs) (st) I h k n := by
  obtain ⟨p, l, e, s, m, args, below, meth, c⟩ := X
  obtain ⟨hexec, hb, hml, hown, hts, hKs, hGk, hlk, hrt, hnm⟩ := hX
  obtain ⟨hd, hnx⟩ := hd
  subst hnx
  intro H locs ls hl hW hS
  exact lv_aload_n hexec hb hd rfl (lpr_at hl (i := 3) rfl) (kk H locs ls hl hW hS)

theorem g_aloadN_3 {G : Gt} {d mc ms : Nat} {own : String} {y : Mt} {X : Xt} {P : Pt3} {pc nx : Nat} {st : List Value} {I : It} {h : Ht} {k n : Nat} {a0 a1 a2 : Option Value} {rs : List (Option Value)}  (hX : Xok G own y X) (hd : dc y.2.1 pc (.aload_n 3) 1 nx) (kk : GG G d mc ms X P nx (a0 :: a1 :: a2 :: some .null :: rs) (.null :: st) I h k n) : GG G d mc ms X P pc (a0 :: a1 :: a2 :: some .null :: rs) (st) I h k n := by
  obtain ⟨p, l, e, s, m, args, below, meth, c⟩ := X
  obtain ⟨hexec, hb, hml, hown, hts, hKs, hGk, hlk, hrt, hnm⟩ := hX
  obtain ⟨hd, hnx⟩ := hd
  subst hnx
  intro H locs ls hl hW hS
  exact lv_aload_nN hexec hb hd rfl (lpr_at hl (i := 3) rfl) (kk H locs ls hl hW hS)

theorem g_istore_3 {G : Gt} {d mc ms : Nat} {own : String} {y : Mt} {X : Xt} {P : Pt3} {pc nx : Nat} {st : List Value} {I : It} {h : Ht} {k n : Nat} {a0 a1 a2 : Option Value} {rs : List (Option Value)} {z : Option Value} {x : Int32} (hX : Xok G own y X) (hd : dc y.2.1 pc (.istore_n 3) 1 nx) (hi : 3 < y.2.2.1) (ha : ahd (a0 :: a1 :: a2 :: z :: rs) 3 = true) (kk : GG G d mc ms X P nx (a0 :: a1 :: a2 :: some (.int x) :: rs) st I h k n) : GG G d mc ms X P pc (a0 :: a1 :: a2 :: z :: rs) (.int x :: st) I h k n := by
  obtain ⟨p, l, e, s, m, args, below, meth, c⟩ := X
  obtain ⟨hexec, hb, hml, hown, hts, hKs, hGk, hlk, hrt, hnm⟩ := hX
  obtain ⟨hd, hnx⟩ := hd
  subst hnx
  intro H locs ls hl hW hS
  refine lv_istore_n hexec hb hd rfl hl (by rw [hml]; exact hi) rfl (fun ls2 hl2 => ?_)
  exact kk H locs ls2 (lv_fewer hl2 (lpr_set (lo := a0 :: a1 :: a2 :: z :: rs) (i := 3) (v := .int x) ha (by simp))) hW hS

theorem g_astore_3 {G : Gt} {d mc ms : Nat} {own : String} {y : Mt} {X : Xt} {P : Pt3} {pc nx : Nat} {st : List Value} {I : It} {h : Ht} {k n : Nat} {a0 a1 a2 : Option Value} {rs : List (Option Value)} {z : Option Value} {x : Nat} (hX : Xok G own y X) (hd : dc y.2.1 pc (.astore_n 3) 1 nx) (hi : 3 < y.2.2.1) (ha : ahd (a0 :: a1 :: a2 :: z :: rs) 3 = true) (kk : GG G d mc ms X P nx (a0 :: a1 :: a2 :: some (.ref x) :: rs) st I h k n) : GG G d mc ms X P pc (a0 :: a1 :: a2 :: z :: rs) (.ref x :: st) I h k n := by
  obtain ⟨p, l, e, s, m, args, below, meth, c⟩ := X
  obtain ⟨hexec, hb, hml, hown, hts, hKs, hGk, hlk, hrt, hnm⟩ := hX
  obtain ⟨hd, hnx⟩ := hd
  subst hnx
  intro H locs ls hl hW hS
  refine lv_astore_n hexec hb hd rfl hl (by rw [hml]; exact hi) rfl (fun ls2 hl2 => ?_)
  exact kk H locs ls2 (lv_fewer hl2 (lpr_set (lo := a0 :: a1 :: a2 :: z :: rs) (i := 3) (v := .ref x) ha (by simp))) hW hS

theorem g_astoreN_3 {G : Gt} {d mc ms : Nat} {own : String} {y : Mt} {X : Xt} {P : Pt3} {pc nx : Nat} {st : List Value} {I : It} {h : Ht} {k n : Nat} {a0 a1 a2 : Option Value} {rs : List (Option Value)} {z : Option Value}  (hX : Xok G own y X) (hd : dc y.2.1 pc (.astore_n 3) 1 nx) (hi : 3 < y.2.2.1) (ha : ahd (a0 :: a1 :: a2 :: z :: rs) 3 = true) (kk : GG G d mc ms X P nx (a0 :: a1 :: a2 :: some (.null) :: rs) st I h k n) : GG G d mc ms X P pc (a0 :: a1 :: a2 :: z :: rs) (.null :: st) I h k n := by
  obtain ⟨p, l, e, s, m, args, below, meth, c⟩ := X
  obtain ⟨hexec, hb, hml, hown, hts, hKs, hGk, hlk, hrt, hnm⟩ := hX
  obtain ⟨hd, hnx⟩ := hd
  subst hnx
  intro H locs ls hl hW hS
  refine lv_astore_nN hexec hb hd rfl hl (by rw [hml]; exact hi) rfl (fun ls2 hl2 => ?_)
  exact kk H locs ls2 (lv_fewer hl2 (lpr_set (lo := a0 :: a1 :: a2 :: z :: rs) (i := 3) (v := .null) ha (by simp))) hW hS

theorem g_lstore_3 {G : Gt} {d mc ms : Nat} {own : String} {y : Mt} {X : Xt} {P : Pt3} {pc nx : Nat} {st : List Value} {I : It} {h : Ht} {k n : Nat} {a0 a1 a2 : Option Value} {rs : List (Option Value)} {z z2 : Option Value} {x : Int64} (hX : Xok G own y X) (hd : dc y.2.1 pc (.lstore_n 3) 1 nx) (hi : 3 + 1 < y.2.2.1) (ha : ahd (a0 :: a1 :: a2 :: z :: z2 :: rs) 3 = true) (kk : GG G d mc ms X P nx (a0 :: a1 :: a2 :: some (.long x) :: none :: rs) st I h k n) : GG G d mc ms X P pc (a0 :: a1 :: a2 :: z :: z2 :: rs) (.long x :: st) I h k n := by
  obtain ⟨p, l, e, s, m, args, below, meth, c⟩ := X
  obtain ⟨hexec, hb, hml, hown, hts, hKs, hGk, hlk, hrt, hnm⟩ := hX
  obtain ⟨hd, hnx⟩ := hd
  subst hnx
  intro H locs ls hl hW hS
  refine lv_lstore_n hexec hb hd rfl hl (by rw [hml]; exact hi) rfl (fun ls2 hl2 => ?_)
  exact kk H locs ls2 (lv_fewer hl2 (lpr_set2 (lo := a0 :: a1 :: a2 :: z :: z2 :: rs) (i := 3) (v := .long x) ha (by simp))) hW hS

theorem g_iinc_3 {G : Gt} {d mc ms : Nat} {own : String} {y : Mt} {X : Xt} {P : Pt3} {pc nx : Nat} {st : List Value} {I : It} {h : Ht} {k n : Nat} {a0 a1 a2 : Option Value} {rs : List (Option Value)} {x v : Int32} {z : Int} (hX : Xok G own y X) (hd : dc y.2.1 pc (.iinc 3 z) 3 nx) (hv : x + Int32.ofInt z = v) (hi : 3 < y.2.2.1) (ha : ahd (a0 :: a1 :: a2 :: some (.int x) :: rs) 3 = true) (kk : GG G d mc ms X P nx (a0 :: a1 :: a2 :: some (.int v) :: rs) st I h k n) : GG G d mc ms X P pc (a0 :: a1 :: a2 :: some (.int x) :: rs) st I h k n := by
  obtain ⟨p, l, e, s, m, args, below, meth, c⟩ := X
  obtain ⟨hexec, hb, hml, hown, hts, hKs, hGk, hlk, hrt, hnm⟩ := hX
  obtain ⟨hd, hnx⟩ := hd
  subst hnx
  intro H locs ls hl hW hS
  have hmem : (3, Value.int x) ∈ lpr G 0 (a0 :: a1 :: a2 :: some (.int x) :: rs) := (lpr_mem _ 0 _).mpr ⟨3, .int x, rfl, by simp [cv]⟩
  obtain ⟨kq, hkq⟩ := List.getElem?_of_mem hmem
  refine lv_iinc hexec hb hd hl hkq hv (by rw [hml]; exact hi) rfl (fun ls2 hl2 => ?_)
  exact kk H locs ls2 (lv_fewer hl2 (lpr_set (lo := a0 :: a1 :: a2 :: some (.int x) :: rs) (i := 3) (v := .int v) ha (by simp))) hW hS

theorem g_iload_4 {G : Gt} {d mc ms : Nat} {own : String} {y : Mt} {X : Xt} {P : Pt3} {pc nx : Nat} {st : List Value} {I : It} {h : Ht} {k n : Nat} {a0 a1 a2 a3 : Option Value} {rs : List (Option Value)} {x : Int32} (hX : Xok G own y X) (hd : dc y.2.1 pc (.iload 4) 2 nx) (kk : GG G d mc ms X P nx (a0 :: a1 :: a2 :: a3 :: some (.int x) :: rs) (.int x :: st) I h k n) : GG G d mc ms X P pc (a0 :: a1 :: a2 :: a3 :: some (.int x) :: rs) (st) I h k n := by
  obtain ⟨p, l, e, s, m, args, below, meth, c⟩ := X
  obtain ⟨hexec, hb, hml, hown, hts, hKs, hGk, hlk, hrt, hnm⟩ := hX
  obtain ⟨hd, hnx⟩ := hd
  subst hnx
  intro H locs ls hl hW hS
  exact lv_iload hexec hb hd (lpr_at hl (i := 4) rfl) (kk H locs ls hl hW hS)

theorem g_lload_4 {G : Gt} {d mc ms : Nat} {own : String} {y : Mt} {X : Xt} {P : Pt3} {pc nx : Nat} {st : List Value} {I : It} {h : Ht} {k n : Nat} {a0 a1 a2 a3 : Option Value} {rs : List (Option Value)} {x : Int64} (hX : Xok G own y X) (hd : dc y.2.1 pc (.lload 4) 2 nx) (kk : GG G d mc ms X P nx (a0 :: a1 :: a2 :: a3 :: some (.long x) :: rs) (.long x :: st) I h k n) : GG G d mc ms X P pc (a0 :: a1 :: a2 :: a3 :: some (.long x) :: rs) (st) I h k n := by
  obtain ⟨p, l, e, s, m, args, below, meth, c⟩ := X
  obtain ⟨hexec, hb, hml, hown, hts, hKs, hGk, hlk, hrt, hnm⟩ := hX
  obtain ⟨hd, hnx⟩ := hd
  subst hnx
  intro H locs ls hl hW hS
  exact lv_lload hexec hb hd (lpr_at hl (i := 4) rfl) (kk H locs ls hl hW hS)

theorem g_aload_4 {G : Gt} {d mc ms : Nat} {own : String} {y : Mt} {X : Xt} {P : Pt3} {pc nx : Nat} {st : List Value} {I : It} {h : Ht} {k n : Nat} {a0 a1 a2 a3 : Option Value} {rs : List (Option Value)} {x : Nat} (hX : Xok G own y X) (hd : dc y.2.1 pc (.aload 4) 2 nx) (kk : GG G d mc ms X P nx (a0 :: a1 :: a2 :: a3 :: some (.ref x) :: rs) (.ref x :: st) I h k n) : GG G d mc ms X P pc (a0 :: a1 :: a2 :: a3 :: some (.ref x) :: rs) (st) I h k n := by
  obtain ⟨p, l, e, s, m, args, below, meth, c⟩ := X
  obtain ⟨hexec, hb, hml, hown, hts, hKs, hGk, hlk, hrt, hnm⟩ := hX
  obtain ⟨hd, hnx⟩ := hd
  subst hnx
  intro H locs ls hl hW hS
  exact lv_aload hexec hb hd (lpr_at hl (i := 4) rfl) (kk H locs ls hl hW hS)

theorem g_aloadN_4 {G : Gt} {d mc ms : Nat} {own : String} {y : Mt} {X : Xt} {P : Pt3} {pc nx : Nat} {st : List Value} {I : It} {h : Ht} {k n : Nat} {a0 a1 a2 a3 : Option Value} {rs : List (Option Value)}  (hX : Xok G own y X) (hd : dc y.2.1 pc (.aload 4) 2 nx) (kk : GG G d mc ms X P nx (a0 :: a1 :: a2 :: a3 :: some .null :: rs) (.null :: st) I h k n) : GG G d mc ms X P pc (a0 :: a1 :: a2 :: a3 :: some .null :: rs) (st) I h k n := by
  obtain ⟨p, l, e, s, m, args, below, meth, c⟩ := X
  obtain ⟨hexec, hb, hml, hown, hts, hKs, hGk, hlk, hrt, hnm⟩ := hX
  obtain ⟨hd, hnx⟩ := hd
  subst hnx
  intro H locs ls hl hW hS
  exact lv_aloadN hexec hb hd (lpr_at hl (i := 4) rfl) (kk H locs ls hl hW hS)

theorem g_istore_4 {G : Gt} {d mc ms : Nat} {own : String} {y : Mt} {X : Xt} {P : Pt3} {pc nx : Nat} {st : List Value} {I : It} {h : Ht} {k n : Nat} {a0 a1 a2 a3 : Option Value} {rs : List (Option Value)} {z : Option Value} {x : Int32} (hX : Xok G own y X) (hd : dc y.2.1 pc (.istore 4) 2 nx) (hi : 4 < y.2.2.1) (ha : ahd (a0 :: a1 :: a2 :: a3 :: z :: rs) 4 = true) (kk : GG G d mc ms X P nx (a0 :: a1 :: a2 :: a3 :: some (.int x) :: rs) st I h k n) : GG G d mc ms X P pc (a0 :: a1 :: a2 :: a3 :: z :: rs) (.int x :: st) I h k n := by
  obtain ⟨p, l, e, s, m, args, below, meth, c⟩ := X
  obtain ⟨hexec, hb, hml, hown, hts, hKs, hGk, hlk, hrt, hnm⟩ := hX
  obtain ⟨hd, hnx⟩ := hd
  subst hnx
  intro H locs ls hl hW hS
  refine lv_istore hexec hb hd  hl (by rw [hml]; exact hi) rfl (fun ls2 hl2 => ?_)
  exact kk H locs ls2 (lv_fewer hl2 (lpr_set (lo := a0 :: a1 :: a2 :: a3 :: z :: rs) (i := 4) (v := .int x) ha (by simp))) hW hS

theorem g_astore_4 {G : Gt} {d mc ms : Nat} {own : String} {y : Mt} {X : Xt} {P : Pt3} {pc nx : Nat} {st : List Value} {I : It} {h : Ht} {k n : Nat} {a0 a1 a2 a3 : Option Value} {rs : List (Option Value)} {z : Option Value} {x : Nat} (hX : Xok G own y X) (hd : dc y.2.1 pc (.astore 4) 2 nx) (hi : 4 < y.2.2.1) (ha : ahd (a0 :: a1 :: a2 :: a3 :: z :: rs) 4 = true) (kk : GG G d mc ms X P nx (a0 :: a1 :: a2 :: a3 :: some (.ref x) :: rs) st I h k n) : GG G d mc ms X P pc (a0 :: a1 :: a2 :: a3 :: z :: rs) (.ref x :: st) I h k n := by
  obtain ⟨p, l, e, s, m, args, below, meth, c⟩ := X
  obtain ⟨hexec, hb, hml, hown, hts, hKs, hGk, hlk, hrt, hnm⟩ := hX
  obtain ⟨hd, hnx⟩ := hd
  subst hnx
  intro H locs ls hl hW hS
  refine lv_astore hexec hb hd  hl (by rw [hml]; exact hi) rfl (fun ls2 hl2 => ?_)
  exact kk H locs ls2 (lv_fewer hl2 (lpr_set (lo := a0 :: a1 :: a2 :: a3 :: z :: rs) (i := 4) (v := .ref x) ha (by simp))) hW hS

theorem g_astoreN_4 {G : Gt} {d mc ms : Nat} {own : String} {y : Mt} {X : Xt} {P : Pt3} {pc nx : Nat} {st : List Value} {I : It} {h : Ht} {k n : Nat} {a0 a1 a2 a3 : Option Value} {rs : List (Option Value)} {z : Option Value}  (hX : Xok G own y X) (hd : dc y.2.1 pc (.astore 4) 2 nx) (hi : 4 < y.2.2.1) (ha : ahd (a0 :: a1 :: a2 :: a3 :: z :: rs) 4 = true) (kk : GG G d mc ms X P nx (a0 :: a1 :: a2 :: a3 :: some (.null) :: rs) st I h k n) : GG G d mc ms X P pc (a0 :: a1 :: a2 :: a3 :: z :: rs) (.null :: st) I h k n := by
  obtain ⟨p, l, e, s, m, args, below, meth, c⟩ := X
  obtain ⟨hexec, hb, hml, hown, hts, hKs, hGk, hlk, hrt, hnm⟩ := hX
  obtain ⟨hd, hnx⟩ := hd
  subst hnx
  intro H locs ls hl hW hS
  refine lv_astoreN hexec hb hd  hl (by rw [hml]; exact hi) rfl (fun ls2 hl2 => ?_)
  exact kk H locs ls2 (lv_fewer hl2 (lpr_set (lo := a0 :: a1 :: a2 :: a3 :: z :: rs) (i := 4) (v := .null) ha (by simp))) hW hS

theorem g_lstore_4 {G : Gt} {d mc ms : Nat} {own : String} {y : Mt} {X : Xt} {P : Pt3} {pc nx : Nat} {st : List Value} {I : It} {h : Ht} {k n : Nat} {a0 a1 a2 a3 : Option Value} {rs : List (Option Value)} {z z2 : Option Value} {x : Int64} (hX : Xok G own y X) (hd : dc y.2.1 pc (.lstore 4) 2 nx) (hi : 4 + 1 < y.2.2.1) (ha : ahd (a0 :: a1 :: a2 :: a3 :: z :: z2 :: rs) 4 = true) (kk : GG G d mc ms X P nx (a0 :: a1 :: a2 :: a3 :: some (.long x) :: none :: rs) st I h k n) : GG G d mc ms X P pc (a0 :: a1 :: a2 :: a3 :: z :: z2 :: rs) (.long x :: st) I h k n := by
  obtain ⟨p, l, e, s, m, args, below, meth, c⟩ := X
  obtain ⟨hexec, hb, hml, hown, hts, hKs, hGk, hlk, hrt, hnm⟩ := hX
  obtain ⟨hd, hnx⟩ := hd
  subst hnx
  intro H locs ls hl hW hS
  refine lv_lstore hexec hb hd  hl (by rw [hml]; exact hi) rfl (fun ls2 hl2 => ?_)
  exact kk H locs ls2 (lv_fewer hl2 (lpr_set2 (lo := a0 :: a1 :: a2 :: a3 :: z :: z2 :: rs) (i := 4) (v := .long x) ha (by simp))) hW hS

theorem g_iinc_4 {G : Gt} {d mc ms : Nat} {own : String} {y : Mt} {X : Xt} {P : Pt3} {pc nx : Nat} {st : List Value} {I : It} {h : Ht} {k n : Nat} {a0 a1 a2 a3 : Option Value} {rs : List (Option Value)} {x v : Int32} {z : Int} (hX : Xok G own y X) (hd : dc y.2.1 pc (.iinc 4 z) 3 nx) (hv : x + Int32.ofInt z = v) (hi : 4 < y.2.2.1) (ha : ahd (a0 :: a1 :: a2 :: a3 :: some (.int x) :: rs) 4 = true) (kk : GG G d mc ms X P nx (a0 :: a1 :: a2 :: a3 :: some (.int v) :: rs) st I h k n) : GG G d mc ms X P pc (a0 :: a1 :: a2 :: a3 :: some (.int x) :: rs) st I h k n := by
  obtain ⟨p, l, e, s, m, args, below, meth, c⟩ := X
  obtain ⟨hexec, hb, hml, hown, hts, hKs, hGk, hlk, hrt, hnm⟩ := hX
  obtain ⟨hd, hnx⟩ := hd
  subst hnx
  intro H locs ls hl hW hS
  have hmem : (4, Value.int x) ∈ lpr G 0 (a0 :: a1 :: a2 :: a3 :: some (.int x) :: rs) := (lpr_mem _ 0 _).mpr ⟨4, .int x, rfl, by simp [cv]⟩
  obtain ⟨kq, hkq⟩ := List.getElem?_of_mem hmem
  refine lv_iinc hexec hb hd hl hkq hv (by rw [hml]; exact hi) rfl (fun ls2 hl2 => ?_)
  exact kk H locs ls2 (lv_fewer hl2 (lpr_set (lo := a0 :: a1 :: a2 :: a3 :: some (.int x) :: rs) (i := 4) (v := .int v) ha (by simp))) hW hS

theorem g_iload_5 {G : Gt} {d mc ms : Nat} {own : String} {y : Mt} {X : Xt} {P : Pt3} {pc nx : Nat} {st : List Value} {I : It} {h : Ht} {k n : Nat} {a0 a1 a2 a3 a4 : Option Value} {rs : List (Option Value)} {x : Int32} (hX : Xok G own y X) (hd : dc y.2.1 pc (.iload 5) 2 nx) (kk : GG G d mc ms X P nx (a0 :: a1 :: a2 :: a3 :: a4 :: some (.int x) :: rs) (.int x :: st) I h k n) : GG G d mc ms X P pc (a0 :: a1 :: a2 :: a3 :: a4 :: some (.int x) :: rs) (st) I h k n := by
  obtain ⟨p, l, e, s, m, args, below, meth, c⟩ := X
  obtain ⟨hexec, hb, hml, hown, hts, hKs, hGk, hlk, hrt, hnm⟩ := hX
  obtain ⟨hd, hnx⟩ := hd
  subst hnx
  intro H locs ls hl hW hS
  exact lv_iload hexec hb hd (lpr_at hl (i := 5) rfl) (kk H locs ls hl hW hS)

theorem g_lload_5 {G : Gt} {d mc ms : Nat} {own : String} {y : Mt} {X : Xt} {P : Pt3} {pc nx : Nat} {st : List Value} {I : It} {h : Ht} {k n : Nat} {a0 a1 a2 a3 a4 : Option Value} {rs : List (Option Value)} {x : Int64} (hX : Xok G own y X) (hd : dc y.2.1 pc (.lload 5) 2 nx) (kk : GG G d mc ms X P nx (a0 :: a1 :: a2 :: a3 :: a4 :: some (.long x) :: rs) (.long x :: st) I h k n) : GG G d mc ms X P pc (a0 :: a1 :: a2 :: a3 :: a4 :: some (.long x) :: rs) (st) I h k n := by
  obtain ⟨p, l, e, s, m, args, below, meth, c⟩ := X
  obtain ⟨hexec, hb, hml, hown, hts, hKs, hGk, hlk, hrt, hnm⟩ := hX
  obtain ⟨hd, hnx⟩ := hd
  subst hnx
  intro H locs ls hl hW hS
  exact lv_lload hexec hb hd (lpr_at hl (i := 5) rfl) (kk H locs ls hl hW hS)

theorem g_aload_5 {G : Gt} {d mc ms : Nat} {own : String} {y : Mt} {X : Xt} {P : Pt3} {pc nx : Nat} {st : List Value} {I : It} {h : Ht} {k n : Nat} {a0 a1 a2 a3 a4 : Option Value} {rs : List (Option Value)} {x : Nat} (hX : Xok G own y X) (hd : dc y.2.1 pc (.aload 5) 2 nx) (kk : GG G d mc ms X P nx (a0 :: a1 :: a2 :: a3 :: a4 :: some (.ref x) :: rs) (.ref x :: st) I h k n) : GG G d mc ms X P pc (a0 :: a1 :: a2 :: a3 :: a4 :: some (.ref x) :: rs) (st) I h k n := by
  obtain ⟨p, l, e, s, m, args, below, meth, c⟩ := X
  obtain ⟨hexec, hb, hml, hown, hts, hKs, hGk, hlk, hrt, hnm⟩ := hX
  obtain ⟨hd, hnx⟩ := hd
  subst hnx
  intro H locs ls hl hW hS
  exact lv_aload hexec hb hd (lpr_at hl (i := 5) rfl) (kk H locs ls hl hW hS)

theorem g_aloadN_5 {G : Gt} {d mc ms : Nat} {own : String} {y : Mt} {X : Xt} {P : Pt3} {pc nx : Nat} {st : List Value} {I : It} {h : Ht} {k n : Nat} {a0 a1 a2 a3 a4 : Option Value} {rs : List (Option Value)}  (hX : Xok G own y X) (hd : dc y.2.1 pc (.aload 5) 2 nx) (kk : GG G d mc ms X P nx (a0 :: a1 :: a2 :: a3 :: a4 :: some .null :: rs) (.null :: st) I h k n) : GG G d mc ms X P pc (a0 :: a1 :: a2 :: a3 :: a4 :: some .null :: rs) (st) I h k n := by
  obtain ⟨p, l, e, s, m, args, below, meth, c⟩ := X
  obtain ⟨hexec, hb, hml, hown, hts, hKs, hGk, hlk, hrt, hnm⟩ := hX
  obtain ⟨hd, hnx⟩ := hd
  subst hnx
  intro H locs ls hl hW hS
  exact lv_aloadN hexec hb hd (lpr_at hl (i := 5) rfl) (kk H locs ls hl hW hS)

theorem g_istore_5 {G : Gt} {d mc ms : Nat} {own : String} {y : Mt} {X : Xt} {P : Pt3} {pc nx : Nat} {st : List Value} {I : It} {h : Ht} {k n : Nat} {a0 a1 a2 a3 a4 : Option Value} {rs : List (Option Value)} {z : Option Value} {x : Int32} (hX : Xok G own y X) (hd : dc y.2.1 pc (.istore 5) 2 nx) (hi : 5 < y.2.2.1) (ha : ahd (a0 :: a1 :: a2 :: a3 :: a4 :: z :: rs) 5 = true) (kk : GG G d mc ms X P nx (a0 :: a1 :: a2 :: a3 :: a4 :: some (.int x) :: rs) st I h k n) : GG G d mc ms X P pc (a0 :: a1 :: a2 :: a3 :: a4 :: z :: rs) (.int x :: st) I h k n := by
  obtain ⟨p, l, e, s, m, args, below, meth, c⟩ := X
  obtain ⟨hexec, hb, hml, hown, hts, hKs, hGk, hlk, hrt, hnm⟩ := hX
  obtain ⟨hd, hnx⟩ := hd
  subst hnx
  intro H locs ls hl hW hS
  refine lv_istore hexec hb hd  hl (by rw [hml]; exact hi) rfl (fun ls2 hl2 => ?_)
  exact kk H locs ls2 (lv_fewer hl2 (lpr_set (lo := a0 :: a1 :: a2 :: a3 :: a4 :: z :: rs) (i := 5) (v := .int x) ha (by simp))) hW hS

theorem g_astore_5 {G : Gt} {d mc ms : Nat} {own : String} {y : Mt} {X : Xt} {P : Pt3} {pc nx : Nat} {st : List Value} {I : It} {h : Ht} {k n : Nat} {a0 a1 a2 a3 a4 : Option Value} {rs : List (Option Value)} {z : Option Value} {x : Nat} (hX : Xok G own y X) (hd : dc y.2.1 pc (.astore 5) 2 nx) (hi : 5 < y.2.2.1) (ha : ahd (a0 :: a1 :: a2 :: a3 :: a4 :: z :: rs) 5 = true) (kk : GG G d mc ms X P nx (a0 :: a1 :: a2 :: a3 :: a4 :: some (.ref x) :: rs) st I h k n) : GG G d mc ms X P pc (a0 :: a1 :: a2 :: a3 :: a4 :: z :: rs) (.ref x :: st) I h k n := by
  obtain ⟨p, l, e, s, m, args, below, meth, c⟩ := X
  obtain ⟨hexec, hb, hml, hown, hts, hKs, hGk, hlk, hrt, hnm⟩ := hX
  obtain ⟨hd, hnx⟩ := hd
  subst hnx
  intro H locs ls hl hW hS
  refine lv_astore hexec hb hd  hl (by rw [hml]; exact hi) rfl (fun ls2 hl2 => ?_)
  exact kk H locs ls2 (lv_fewer hl2 (lpr_set (lo := a0 :: a1 :: a2 :: a3 :: a4 :: z :: rs) (i := 5) (v := .ref x) ha (by simp))) hW hS

theorem g_astoreN_5 {G : Gt} {d mc ms : Nat} {own : String} {y : Mt} {X : Xt} {P : Pt3} {pc nx : Nat} {st : List Value} {I : It} {h : Ht} {k n : Nat} {a0 a1 a2 a3 a4 : Option Value} {rs : List (Option Value)} {z : Option Value}  (hX : Xok G own y X) (hd : dc y.2.1 pc (.astore 5) 2 nx) (hi : 5 < y.2.2.1) (ha : ahd (a0 :: a1 :: a2 :: a3 :: a4 :: z :: rs) 5 = true) (kk : GG G d mc ms X P nx (a0 :: a1 :: a2 :: a3 :: a4 :: some (.null) :: rs) st I h k n) : GG G d mc ms X P pc (a0 :: a1 :: a2 :: a3 :: a4 :: z :: rs) (.null :: st) I h k n := by
  obtain ⟨p, l, e, s, m, args, below, meth, c⟩ := X
  obtain ⟨hexec, hb, hml, hown, hts, hKs, hGk, hlk, hrt, hnm⟩ := hX
  obtain ⟨hd, hnx⟩ := hd
  subst hnx
  intro H locs ls hl hW hS
  refine lv_astoreN hexec hb hd  hl (by rw [hml]; exact hi) rfl (fun ls2 hl2 => ?_)
  exact kk H locs ls2 (lv_fewer hl2 (lpr_set (lo := a0 :: a1 :: a2 :: a3 :: a4 :: z :: rs) (i := 5) (v := .null) ha (by simp))) hW hS

theorem g_lstore_5 {G : Gt} {d mc ms : Nat} {own : String} {y : Mt} {X : Xt} {P : Pt3} {pc nx : Nat} {st : List Value} {I : It} {h : Ht} {k n : Nat} {a0 a1 a2 a3 a4 : Option Value} {rs : List (Option Value)} {z z2 : Option Value} {x : Int64} (hX : Xok G own y X) (hd : dc y.2.1 pc (.lstore 5) 2 nx) (hi : 5 + 1 < y.2.2.1) (ha : ahd (a0 :: a1 :: a2 :: a3 :: a4 :: z :: z2 :: rs) 5 = true) (kk : GG G d mc ms X P nx (a0 :: a1 :: a2 :: a3 :: a4 :: some (.long x) :: none :: rs) st I h k n) : GG G d mc ms X P pc (a0 :: a1 :: a2 :: a3 :: a4 :: z :: z2 :: rs) (.long x :: st) I h k n := by
  obtain ⟨p, l, e, s, m, args, below, meth, c⟩ := X
  obtain ⟨hexec, hb, hml, hown, hts, hKs, hGk, hlk, hrt, hnm⟩ := hX
  obtain ⟨hd, hnx⟩ := hd
  subst hnx
  intro H locs ls hl hW hS
  refine lv_lstore hexec hb hd  hl (by rw [hml]; exact hi) rfl (fun ls2 hl2 => ?_)
  exact kk H locs ls2 (lv_fewer hl2 (lpr_set2 (lo := a0 :: a1 :: a2 :: a3 :: a4 :: z :: z2 :: rs) (i := 5) (v := .long x) ha (by simp))) hW hS

theorem g_iinc_5 {G : Gt} {d mc ms : Nat} {own : String} {y : Mt} {X : Xt} {P : Pt3} {pc nx : Nat} {st : List Value} {I : It} {h : Ht} {k n : Nat} {a0 a1 a2 a3 a4 : Option Value} {rs : List (Option Value)} {x v : Int32} {z : Int} (hX : Xok G own y X) (hd : dc y.2.1 pc (.iinc 5 z) 3 nx) (hv : x + Int32.ofInt z = v) (hi : 5 < y.2.2.1) (ha : ahd (a0 :: a1 :: a2 :: a3 :: a4 :: some (.int x) :: rs) 5 = true) (kk : GG G d mc ms X P nx (a0 :: a1 :: a2 :: a3 :: a4 :: some (.int v) :: rs) st I h k n) : GG G d mc ms X P pc (a0 :: a1 :: a2 :: a3 :: a4 :: some (.int x) :: rs) st I h k n := by
  obtain ⟨p, l, e, s, m, args, below, meth, c⟩ := X
  obtain ⟨hexec, hb, hml, hown, hts, hKs, hGk, hlk, hrt, hnm⟩ := hX
  obtain ⟨hd, hnx⟩ := hd
  subst hnx
  intro H locs ls hl hW hS
  have hmem : (5, Value.int x) ∈ lpr G 0 (a0 :: a1 :: a2 :: a3 :: a4 :: some (.int x) :: rs) := (lpr_mem _ 0 _).mpr ⟨5, .int x, rfl, by simp [cv]⟩
  obtain ⟨kq, hkq⟩ := List.getElem?_of_mem hmem
  refine lv_iinc hexec hb hd hl hkq hv (by rw [hml]; exact hi) rfl (fun ls2 hl2 => ?_)
  exact kk H locs ls2 (lv_fewer hl2 (lpr_set (lo := a0 :: a1 :: a2 :: a3 :: a4 :: some (.int x) :: rs) (i := 5) (v := .int v) ha (by simp))) hW hS

theorem g_iload_6 {G : Gt} {d mc ms : Nat} {own : String} {y : Mt} {X : Xt} {P : Pt3} {pc nx : Nat} {st : List Value} {I : It} {h : Ht} {k n : Nat} {a0 a1 a2 a3 a4 a5 : Option Value} {rs : List (Option Value)} {x : Int32} (hX : Xok G own y X) (hd : dc y.2.1 pc (.iload 6) 2 nx) (kk : GG G d mc ms X P nx (a0 :: a1 :: a2 :: a3 :: a4 :: a5 :: some (.int x) :: rs) (.int x :: st) I h k n) : GG G d mc ms X P pc (a0 :: a1 :: a2 :: a3 :: a4 :: a5 :: some (.int x) :: rs) (st) I h k n := by
  obtain ⟨p, l, e, s, m, args, below, meth, c⟩ := X
  obtain ⟨hexec, hb, hml, hown, hts, hKs, hGk, hlk, hrt, hnm⟩ := hX
  obtain ⟨hd, hnx⟩ := hd
  subst hnx
  intro H locs ls hl hW hS
  exact lv_iload hexec hb hd (lpr_at hl (i := 6) rfl) (kk H locs ls hl hW hS)

theorem g_lload_6 {G : Gt} {d mc ms : Nat} {own : String} {y : Mt} {X : Xt} {P : Pt3} {pc nx : Nat} {st : List Value} {I : It} {h : Ht} {k n : Nat} {a0 a1 a2 a3 a4 a5 : Option Value} {rs : List (Option Value)} {x : Int64} (hX : Xok G own y X) (hd : dc y.2.1 pc (.lload 6) 2 nx) (kk : GG G d mc ms X P nx (a0 :: a1 :: a2 :: a3 :: a4 :: a5 :: some (.long x) :: rs) (.long x :: st) I h k n) : GG G d mc ms X P pc (a0 :: a1 :: a2 :: a3 :: a4 :: a5 :: some (.long x) :: rs) (st) I h k n := by
  obtain ⟨p, l, e, s, m, args, below, meth, c⟩ := X
  obtain ⟨hexec, hb, hml, hown, hts, hKs, hGk, hlk, hrt, hnm⟩ := hX
  obtain ⟨hd, hnx⟩ := hd
  subst hnx
  intro H locs ls hl hW hS
  exact lv_lload hexec hb hd (lpr_at hl (i := 6) rfl) (kk H locs ls hl hW hS)

theorem g_aload_6 {G : Gt} {d mc ms : Nat} {own : String} {y : Mt} {X : Xt} {P : Pt3} {pc nx : Nat} {st : List Value} {I : It} {h : Ht} {k n : Nat} {a0 a1 a2 a3 a4 a5 : Option Value} {rs : List (Option Value)} {x : Nat} (hX : Xok G own y X) (hd : dc y.2.1 pc (.aload 6) 2 nx) (kk : GG G d mc ms X P nx (a0 :: a1 :: a2 :: a3 :: a4 :: a5 :: some (.ref x) :: rs) (.ref x :: st) I h k n) : GG G d mc ms X P pc (a0 :: a1 :: a2 :: a3 :: a4 :: a5 :: some (.ref x) :: rs) (st) I h k n := by
  obtain ⟨p, l, e, s, m, args, below, meth, c⟩ := X
  obtain ⟨hexec, hb, hml, hown, hts, hKs, hGk, hlk, hrt, hnm⟩ := hX
  obtain ⟨hd, hnx⟩ := hd
  subst hnx
  intro H locs ls hl hW hS
  exact lv_aload hexec hb hd (lpr_at hl (i := 6) rfl) (kk H locs ls hl hW hS)

theorem g_aloadN_6 {G : Gt} {d mc ms : Nat} {own : String} {y : Mt} {X : Xt} {P : Pt3} {pc nx : Nat} {st : List Value} {I : It} {h : Ht} {k n : Nat} {a0 a1 a2 a3 a4 a5 : Option Value} {rs : List (Option Value)}  (hX : Xok G own y X) (hd : dc y.2.1 pc (.aload 6) 2 nx) (kk : GG G d mc ms X P nx (a0 :: a1 :: a2 :: a3 :: a4 :: a5 :: some .null :: rs) (.null :: st) I h k n) : GG G d mc ms X P pc (a0 :: a1 :: a2 :: a3 :: a4 :: a5 :: some .null :: rs) (st) I h k n := by
  obtain ⟨p, l, e, s, m, args, below, meth, c⟩ := X
  obtain ⟨hexec, hb, hml, hown, hts, hKs, hGk, hlk, hrt, hnm⟩ := hX
  obtain ⟨hd, hnx⟩ := hd
  subst hnx
  intro H locs ls hl hW hS
  exact lv_aloadN hexec hb hd (lpr_at hl (i := 6) rfl) (kk H locs ls hl hW hS)

theorem g_istore_6 {G : Gt} {d mc ms : Nat} {own : String} {y : Mt} {X : Xt} {P : Pt3} {pc nx : Nat} {st : List Value} {I : It} {h : Ht} {k n : Nat} {a0 a1 a2 a3 a4 a5 : Option Value} {rs : List (Option Value)} {z : Option Value} {x : Int32} (hX : Xok G own y X) (hd : dc y.2.1 pc (.istore 6) 2 nx) (hi : 6 < y.2.2.1) (ha : ahd (a0 :: a1 :: a2 :: a3 :: a4 :: a5 :: z :: rs) 6 = true) (kk : GG G d mc ms X P nx (a0 :: a1 :: a2 :: a3 :: a4 :: a5 :: some (.int x) :: rs) st I h k n) : GG G d mc ms X P pc (a0 :: a1 :: a2 :: a3 :: a4 :: a5 :: z :: rs) (.int x :: st) I h k n := by
  obtain ⟨p, l, e, s, m, args, below, meth, c⟩ := X
  obtain ⟨hexec, hb, hml, hown, hts, hKs, hGk, hlk, hrt, hnm⟩ := hX
  obtain ⟨hd, hnx⟩ := hd
  subst hnx
  intro H locs ls hl hW hS
  refine lv_istore hexec hb hd  hl (by rw [hml]; exact hi) rfl (fun ls2 hl2 => ?_)
  exact kk H locs ls2 (lv_fewer hl2 (lpr_set (lo := a0 :: a1 :: a2 :: a3 :: a4 :: a5 :: z :: rs) (i := 6) (v := .int x) ha (by simp))) hW hS

theorem g_astore_6 {G : Gt} {d mc ms : Nat} {own : String} {y : Mt} {X : Xt} {P : Pt3} {pc nx : Nat} {st : List Value} {I : It} {h : Ht} {k n : Nat} {a0 a1 a2 a3 a4 a5 : Option Value} {rs : List (Option Value)} {z : Option Value} {x : Nat} (hX : Xok G own y X) (hd : dc y.2.1 pc (.astore 6) 2 nx) (hi : 6 < y.2.2.1) (ha : ahd (a0 :: a1 :: a2 :: a3 :: a4 :: a5 :: z :: rs) 6 = true) (kk : GG G d mc ms X P nx (a0 :: a1 :: a2 :: a3 :: a4 :: a5 :: some (.ref x) :: rs) st I h k n) : GG G d mc ms X P pc (a0 :: a1 :: a2 :: a3 :: a4 :: a5 :: z :: rs) (.ref x :: st) I h k n := by
  obtain ⟨p, l, e, s, m, args, below, meth, c⟩ := X
  obtain ⟨hexec, hb, hml, hown, hts, hKs, hGk, hlk, hrt, hnm⟩ := hX
  obtain ⟨hd, hnx⟩ := hd
  subst hnx
  intro H locs ls hl hW hS
  refine lv_astore hexec hb hd  hl (by rw [hml]; exact hi) rfl (fun ls2 hl2 => ?_)
  exact kk H locs ls2 (lv_fewer hl2 (lpr_set (lo := a0 :: a1 :: a2 :: a3 :: a4 :: a5 :: z :: rs) (i := 6) (v := .ref x) ha (by simp))) hW hS

theorem g_astoreN_6 {G : Gt} {d mc ms : Nat} {own : String} {y : Mt} {X : Xt} {P : Pt3} {pc nx : Nat} {st : List Value} {I : It} {h : Ht} {k n : Nat} {a0 a1 a2 a3 a4 a5 : Option Value} {rs : List (Option Value)} {z : Option Value}  (hX : Xok G own y X) (hd : dc y.2.1 pc (.astore 6) 2 nx) (hi : 6 < y.2.2.1) (ha : ahd (a0 :: a1 :: a2 :: a3 :: a4 :: a5 :: z :: rs) 6 = true) (kk : GG G d mc ms X P nx (a0 :: a1 :: a2 :: a3 :: a4 :: a5 :: some (.null) :: rs) st I h k n) : GG G d mc ms X P pc (a0 :: a1 :: a2 :: a3 :: a4 :: a5 :: z :: rs) (.null :: st) I h k n := by
  obtain ⟨p, l, e, s, m, args, below, meth, c⟩ := X
  obtain ⟨hexec, hb, hml, hown, hts, hKs, hGk, hlk, hrt, hnm⟩ := hX
  obtain ⟨hd, hnx⟩ := hd
  subst hnx
  intro H locs ls hl hW hS
  refine lv_astoreN hexec hb hd  hl (by rw [hml]; exact hi) rfl (fun ls2 hl2 => ?_)
  exact kk H locs ls2 (lv_fewer hl2 (lpr_set (lo := a0 :: a1 :: a2 :: a3 :: a4 :: a5 :: z :: rs) (i := 6) (v := .null) ha (by simp))) hW hS

theorem g_lstore_6 {G : Gt} {d mc ms : Nat} {own : String} {y : Mt} {X : Xt} {P : Pt3} {pc nx : Nat} {st : List Value} {I : It} {h : Ht} {k n : Nat} {a0 a1 a2 a3 a4 a5 : Option Value} {rs : List (Option Value)} {z z2 : Option Value} {x : Int64} (hX : Xok G own y X) (hd : dc y.2.1 pc (.lstore 6) 2 nx) (hi : 6 + 1 < y.2.2.1) (ha : ahd (a0 :: a1 :: a2 :: a3 :: a4 :: a5 :: z :: z2 :: rs) 6 = true) (kk : GG G d mc ms X P nx (a0 :: a1 :: a2 :: a3 :: a4 :: a5 :: some (.long x) :: none :: rs) st I h k n) : GG G d mc ms X P pc (a0 :: a1 :: a2 :: a3 :: a4 :: a5 :: z :: z2 :: rs) (.long x :: st) I h k n := by
  obtain ⟨p, l, e, s, m, args, below, meth, c⟩ := X
  obtain ⟨hexec, hb, hml, hown, hts, hKs, hGk, hlk, hrt, hnm⟩ := hX
  obtain ⟨hd, hnx⟩ := hd
  subst hnx
  intro H locs ls hl hW hS
  refine lv_lstore hexec hb hd  hl (by rw [hml]; exact hi) rfl (fun ls2 hl2 => ?_)
  exact kk H locs ls2 (lv_fewer hl2 (lpr_set2 (lo := a0 :: a1 :: a2 :: a3 :: a4 :: a5 :: z :: z2 :: rs) (i := 6) (v := .long x) ha (by simp))) hW hS

theorem g_iinc_6 {G : Gt} {d mc ms : Nat} {own : String} {y : Mt} {X : Xt} {P : Pt3} {pc nx : Nat} {st : List Value} {I : It} {h : Ht} {k n : Nat} {a0 a1 a2 a3 a4 a5 : Option Value} {rs : List (Option Value)} {x v : Int32} {z : Int} (hX : Xok G own y X) (hd : dc y.2.1 pc (.iinc 6 z) 3 nx) (hv : x + Int32.ofInt z = v) (hi : 6 < y.2.2.1) (ha : ahd (a0 :: a1 :: a2 :: a3 :: a4 :: a5 :: some (.int x) :: rs) 6 = true) (kk : GG G d mc ms X P nx (a0 :: a1 :: a2 :: a3 :: a4 :: a5 :: some (.int v) :: rs) st I h k n) : GG G d mc ms X P pc (a0 :: a1 :: a2 :: a3 :: a4 :: a5 :: some (.int x) :: rs) st I h k n := by
  obtain ⟨p, l, e, s, m, args, below, meth, c⟩ := X
  obtain ⟨hexec, hb, hml, hown, hts, hKs, hGk, hlk, hrt, hnm⟩ := hX
  obtain ⟨hd, hnx⟩ := hd
  subst hnx
  intro H locs ls hl hW hS
  have hmem : (6, Value.int x) ∈ lpr G 0 (a0 :: a1 :: a2 :: a3 :: a4 :: a5 :: some (.int x) :: rs) := (lpr_mem _ 0 _).mpr ⟨6, .int x, rfl, by simp [cv]⟩
  obtain ⟨kq, hkq⟩ := List.getElem?_of_mem hmem
  refine lv_iinc hexec hb hd hl hkq hv (by rw [hml]; exact hi) rfl (fun ls2 hl2 => ?_)
  exact kk H locs ls2 (lv_fewer hl2 (lpr_set (lo := a0 :: a1 :: a2 :: a3 :: a4 :: a5 :: some (.int x) :: rs) (i := 6) (v := .int v) ha (by simp))) hW hS

theorem g_iload_7 {G : Gt} {d mc ms : Nat} {own : String} {y : Mt} {X : Xt} {P : Pt3} {pc nx : Nat} {st : List Value} {I : It} {h : Ht} {k n : Nat} {a0 a1 a2 a3 a4 a5 a6 : Option Value} {rs : List (Option Value)} {x : Int32} (hX : Xok G own y X) (hd : dc y.2.1 pc (.iload 7) 2 nx) (kk : GG G d mc ms X P nx (a0 :: a1 :: a2 :: a3 :: a4 :: a5 :: a6 :: some (.int x) :: rs) (.int x :: st) I h k n) : GG G d mc ms X P pc (a0 :: a1 :: a2 :: a3 :: a4 :: a5 :: a6 :: some (.int x) :: rs) (st) I h k n := by
  obtain ⟨p, l, e, s, m, args, below, meth, c⟩ := X
  obtain ⟨hexec, hb, hml, hown, hts, hKs, hGk, hlk, hrt, hnm⟩ := hX
  obtain ⟨hd, hnx⟩ := hd
  subst hnx
  intro H locs ls hl hW hS
  exact lv_iload hexec hb hd (lpr_at hl (i := 7) rfl) (kk H locs ls hl hW hS)

theorem g_lload_7 {G : Gt} {d mc ms : Nat} {own : String} {y : Mt} {X : Xt} {P : Pt3} {pc nx : Nat} {st : List Value} {I : It} {h : Ht} {k n : Nat} {a0 a1 a2 a3 a4 a5 a6 : Option Value} {rs : List (Option Value)} {x : Int64} (hX : Xok G own y X) (hd : dc y.2.1 pc (.lload 7) 2 nx) (kk : GG G d mc ms X P nx (a0 :: a1 :: a2 :: a3 :: a4 :: a5 :: a6 :: some (.long x) :: rs) (.long x :: st) I h k n) : GG G d mc ms X P pc (a0 :: a1 :: a2 :: a3 :: a4 :: a5 :: a6 :: some (.long x) :: rs) (st) I h k n := by
  obtain ⟨p, l, e, s, m, args, below, meth, c⟩ := X
  obtain ⟨hexec, hb, hml, hown, hts, hKs, hGk, hlk, hrt, hnm⟩ := hX
  obtain ⟨hd, hnx⟩ := hd
  subst hnx
  intro H locs ls hl hW hS
  exact lv_lload hexec hb hd (lpr_at hl (i := 7) rfl) (kk H locs ls hl hW hS)

theorem g_aload_7 {G : Gt} {d mc ms : Nat} {own : String} {y : Mt} {X : Xt} {P : Pt3} {pc nx : Nat} {st : List Value} {I : It} {h : Ht} {k n : Nat} {a0 a1 a2 a3 a4 a5 a6 : Option Value} {rs : List (Option Value)} {x : Nat} (hX : Xok G own y X) (hd : dc y.2.1 pc (.aload 7) 2 nx) (kk : GG G d mc ms X P nx (a0 :: a1 :: a2 :: a3 :: a4 :: a5 :: a6 :: some (.ref x) :: rs) (.ref x :: st) I h k n) : GG G d mc ms X P pc (a0 :: a1 :: a2 :: a3 :: a4 :: a5 :: a6 :: some (.ref x) :: rs) (st) I h k n := by
  obtain ⟨p, l, e, s, m, args, below, meth, c⟩ := X
  obtain ⟨hexec, hb, hml, hown, hts, hKs, hGk, hlk, hrt, hnm⟩ := hX
  obtain ⟨hd, hnx⟩ := hd
  subst hnx
  intro H locs ls hl hW hS
  exact lv_aload hexec hb hd (lpr_at hl (i := 7) rfl) (kk H locs ls hl hW hS)

theorem g_aloadN_7 {G : Gt} {d mc ms : Nat} {own : String} {y : Mt} {X : Xt} {P : Pt3} {pc nx : Nat} {st : List Value} {I : It} {h : Ht} {k n : Nat} {a0 a1 a2 a3 a4 a5 a6 : Option Value} {rs : List (Option Value)}  (hX : Xok G own y X) (hd : dc y.2.1 pc (.aload 7) 2 nx) (kk : GG G d mc ms X P nx (a0 :: a1 :: a2 :: a3 :: a4 :: a5 :: a6 :: some .null :: rs) (.null :: st) I h k n) : GG G d mc ms X P pc (a0 :: a1 :: a2 :: a3 :: a4 :: a5 :: a6 :: some .null :: rs) (st) I h k n := by
  obtain ⟨p, l, e, s, m, args, below, meth, c⟩ := X
  obtain ⟨hexec, hb, hml, hown, hts, hKs, hGk, hlk, hrt, hnm⟩ := hX
  obtain ⟨hd, hnx⟩ := hd
  subst hnx
  intro H locs ls hl hW hS
  exact lv_aloadN hexec hb hd (lpr_at hl (i := 7) rfl) (kk H locs ls hl hW hS)

theorem g_istore_7 {G : Gt} {d mc ms : Nat} {own : String} {y : Mt} {X : Xt} {P : Pt3} {pc nx : Nat} {st : List Value} {I : It} {h : Ht} {k n : Nat} {a0 a1 a2 a3 a4 a5 a6 : Option Value} {rs : List (Option Value)} {z : Option Value} {x : Int32} (hX : Xok G own y X) (hd : dc y.2.1 pc (.istore 7) 2 nx) (hi : 7 < y.2.2.1) (ha : ahd (a0 :: a1 :: a2 :: a3 :: a4 :: a5 :: a6 :: z :: rs) 7 = true) (kk : GG G d mc ms X P nx (a0 :: a1 :: a2 :: a3 :: a4 :: a5 :: a6 :: some (.int x) :: rs) st I h k n) : GG G d mc ms X P pc (a0 :: a1 :: a2 :: a3 :: a4 :: a5 :: a6 :: z :: rs) (.int x :: st) I h k n := by
  obtain ⟨p, l, e, s, m, args, below, meth, c⟩ := X
  obtain ⟨hexec, hb, hml, hown, hts, hKs, hGk, hlk, hrt, hnm⟩ := hX
  obtain ⟨hd, hnx⟩ := hd
  subst hnx
  intro H locs ls hl hW hS
  refine lv_istore hexec hb hd  hl (by rw [hml]; exact hi) rfl (fun ls2 hl2 => ?_)
  exact kk H locs ls2 (lv_fewer hl2 (lpr_set (lo := a0 :: a1 :: a2 :: a3 :: a4 :: a5 :: a6 :: z :: rs) (i := 7) (v := .int x) ha (by simp))) hW hS

theorem g_astore_7 {G : Gt} {d mc ms : Nat} {own : String} {y : Mt} {X : Xt} {P : Pt3} {pc nx : Nat} {st : List Value} {I : It} {h : Ht} {k n : Nat} {a0 a1 a2 a3 a4 a5 a6 : Option Value} {rs : List (Option Value)} {z : Option Value} {x : Nat} (hX : Xok G own y X) (hd : dc y.2.1 pc (.astore 7) 2 nx) (hi : 7 < y.2.2.1) (ha : ahd (a0 :: a1 :: a2 :: a3 :: a4 :: a5 :: a6 :: z :: rs) 7 = true) (kk : GG G d mc ms X P nx (a0 :: a1 :: a2 :: a3 :: a4 :: a5 :: a6 :: some (.ref x) :: rs) st I h k n) : GG G d mc ms X P pc (a0 :: a1 :: a2 :: a3 :: a4 :: a5 :: a6 :: z :: rs) (.ref x :: st) I h k n := by
  obtain ⟨p, l, e, s, m, args, below, meth, c⟩ := X
  obtain ⟨hexec, hb, hml, hown, hts, hKs, hGk, hlk, hrt, hnm⟩ := hX
  obtain ⟨hd, hnx⟩ := hd
  subst hnx
  intro H locs ls hl hW hS
  refine lv_astore hexec hb hd  hl (by rw [hml]; exact hi) rfl (fun ls2 hl2 => ?_)
  exact kk H locs ls2 (lv_fewer hl2 (lpr_set (lo := a0 :: a1 :: a2 :: a3 :: a4 :: a5 :: a6 :: z :: rs) (i := 7) (v := .ref x) ha (by simp))) hW hS

theorem g_astoreN_7 {G : Gt} {d mc ms : Nat} {own : String} {y : Mt} {X : Xt} {P : Pt3} {pc nx : Nat} {st : List Value} {I : It} {h : Ht} {k n : Nat} {a0 a1 a2 a3 a4 a5 a6 : Option Value} {rs : List (Option Value)} {z : Option Value}  (hX : Xok G own y X) (hd : dc y.2.1 pc (.astore 7) 2 nx) (hi : 7 < y.2.2.1) (ha : ahd (a0 :: a1 :: a2 :: a3 :: a4 :: a5 :: a6 :: z :: rs) 7 = true) (kk : GG G d mc ms X P nx (a0 :: a1 :: a2 :: a3 :: a4 :: a5 :: a6 :: some (.null) :: rs) st I h k n) : GG G d mc ms X P pc (a0 :: a1 :: a2 :: a3 :: a4 :: a5 :: a6 :: z :: rs) (.null :: st) I h k n := by
  obtain ⟨p, l, e, s, m, args, below, meth, c⟩ := X
  obtain ⟨hexec, hb, hml, hown, hts, hKs, hGk, hlk, hrt, hnm⟩ := hX
  obtain ⟨hd, hnx⟩ := hd
  subst hnx
  intro H locs ls hl hW hS
  refine lv_astoreN hexec hb hd  hl (by rw [hml]; exact hi) rfl (fun ls2 hl2 => ?_)
  exact kk H locs ls2 (lv_fewer hl2 (lpr_set (lo := a0 :: a1 :: a2 :: a3 :: a4 :: a5 :: a6 :: z :: rs) (i := 7) (v := .null) ha (by simp))) hW hS

theorem g_lstore_7 {G : Gt} {d mc ms : Nat} {own : String} {y : Mt} {X : Xt} {P : Pt3} {pc nx : Nat} {st : List Value} {I : It} {h : Ht} {k n : Nat} {a0 a1 a2 a3 a4 a5 a6 : Option Value} {rs : List (Option Value)} {z z2 : Option Value} {x : Int64} (hX : Xok G own y X) (hd : dc y.2.1 pc (.lstore 7) 2 nx) (hi : 7 + 1 < y.2.2.1) (ha : ahd (a0 :: a1 :: a2 :: a3 :: a4 :: a5 :: a6 :: z :: z2 :: rs) 7 = true) (kk : GG G d mc ms X P nx (a0 :: a1 :: a2 :: a3 :: a4 :: a5 :: a6 :: some (.long x) :: none :: rs) st I h k n) : GG G d mc ms X P pc (a0 :: a1 :: a2 :: a3 :: a4 :: a5 :: a6 :: z :: z2 :: rs) (.long x :: st) I h k n := by
  obtain ⟨p, l, e, s, m, args, below, meth, c⟩ := X
  obtain ⟨hexec, hb, hml, hown, hts, hKs, hGk, hlk, hrt, hnm⟩ := hX
  obtain ⟨hd, hnx⟩ := hd
  subst hnx
  intro H locs ls hl hW hS
  refine lv_lstore hexec hb hd  hl (by rw [hml]; exact hi) rfl (fun ls2 hl2 => ?_)
  exact kk H locs ls2 (lv_fewer hl2 (lpr_set2 (lo := a0 :: a1 :: a2 :: a3 :: a4 :: a5 :: a6 :: z :: z2 :: rs) (i := 7) (v := .long x) ha (by simp))) hW hS

theorem g_iinc_7 {G : Gt} {d mc ms : Nat} {own : String} {y : Mt} {X : Xt} {P : Pt3} {pc nx : Nat} {st : List Value} {I : It} {h : Ht} {k n : Nat} {a0 a1 a2 a3 a4 a5 a6 : Option Value} {rs : List (Option Value)} {x v : Int32} {z : Int} (hX : Xok G own y X) (hd : dc y.2.1 pc (.iinc 7 z) 3 nx) (hv : x + Int32.ofInt z = v) (hi : 7 < y.2.2.1) (ha : ahd (a0 :: a1 :: a2 :: a3 :: a4 :: a5 :: a6 :: some (.int x) :: rs) 7 = true) (kk : GG G d mc ms X P nx (a0 :: a1 :: a2 :: a3 :: a4 :: a5 :: a6 :: some (.int v) :: rs) st I h k n) : GG G d mc ms X P pc (a0 :: a1 :: a2 :: a3 :: a4 :: a5 :: a6 :: some (.int x) :: rs) st I h k n := by
  obtain ⟨p, l, e, s, m, args, below, meth, c⟩ := X
  obtain ⟨hexec, hb, hml, hown, hts, hKs, hGk, hlk, hrt, hnm⟩ := hX
  obtain ⟨hd, hnx⟩ := hd
  subst hnx
  intro H locs ls hl hW hS
  have hmem : (7, Value.int x) ∈ lpr G 0 (a0 :: a1 :: a2 :: a3 :: a4 :: a5 :: a6 :: some (.int x) :: rs) := (lpr_mem _ 0 _).mpr ⟨7, .int x, rfl, by simp [cv]⟩
  obtain ⟨kq, hkq⟩ := List.getElem?_of_mem hmem
  refine lv_iinc hexec hb hd hl hkq hv (by rw [hml]; exact hi) rfl (fun ls2 hl2 => ?_)
  exact kk H locs ls2 (lv_fewer hl2 (lpr_set (lo := a0 :: a1 :: a2 :: a3 :: a4 :: a5 :: a6 :: some (.int x) :: rs) (i := 7) (v := .int v) ha (by simp))) hW hS

theorem g_iload_8 {G : Gt} {d mc ms : Nat} {own : String} {y : Mt} {X : Xt} {P : Pt3} {pc nx : Nat} {st : List Value} {I : It} {h : Ht} {k n : Nat} {a0 a1 a2 a3 a4 a5 a6 a7 : Option Value} {rs : List (Option Value)} {x : Int32} (hX : Xok G own y X) (hd : dc y.2.1 pc (.iload 8) 2 nx) (kk : GG G d mc ms X P nx (a0 :: a1 :: a2 :: a3 :: a4 :: a5 :: a6 :: a7 :: some (.int x) :: rs) (.int x :: st) I h k n) : GG G d mc ms X P pc (a0 :: a1 :: a2 :: a3 :: a4 :: a5 :: a6 :: a7 :: some (.int x) :: rs) (st) I h k n := by
  obtain ⟨p, l, e, s, m, args, below, meth, c⟩ := X
  obtain ⟨hexec, hb, hml, hown, hts, hKs, hGk, hlk, hrt, hnm⟩ := hX
  obtain ⟨hd, hnx⟩ := hd
  subst hnx
  intro H locs ls hl hW hS
  exact lv_iload hexec hb hd (lpr_at hl (i := 8) rfl) (kk H locs ls hl hW hS)

theorem g_lload_8 {G : Gt} {d mc ms : Nat} {own : String} {y : Mt} {X : Xt} {P : Pt3} {pc nx : Nat} {st : List Value} {I : It} {h : Ht} {k n : Nat} {a0 a1 a2 a3 a4 a5 a6 a7 : Option Value} {rs : List (Option Value)} {x : Int64} (hX : Xok G own y X) (hd : dc y.2.1 pc (.lload 8) 2 nx) (kk : GG G d mc ms X P nx (a0 :: a1 :: a2 :: a3 :: a4 :: a5 :: a6 :: a7 :: some (.long x) :: rs) (.long x :: st) I h k n) : GG G d mc ms X P pc (a0 :: a1 :: a2 :: a3 :: a4 :: a5 :: a6 :: a7 :: some (.long x) :: rs) (st) I h k n := by
  obtain ⟨p, l, e, s, m, args, below, meth, c⟩ := X
  obtain ⟨hexec, hb, hml, hown, hts, hKs, hGk, hlk, hrt, hnm⟩ := hX
  obtain ⟨hd, hnx⟩ := hd
  subst hnx
  intro H locs ls hl hW hS
  exact lv_lload hexec hb hd (lpr_at hl (i := 8) rfl) (kk H locs ls hl hW hS)

theorem g_aload_8 {G : Gt} {d mc ms : Nat} {own : String} {y : Mt} {X : Xt} {P : Pt3} {pc nx : Nat} {st : List Value} {I : It} {h : Ht} {k n : Nat} {a0 a1 a2 a3 a4 a5 a6 a7 : Option Value} {rs : List (Option Value)} {x : Nat} (hX : Xok G own y X) (hd : dc y.2.1 pc (.aload 8) 2 nx) (kk : GG G d mc ms X P nx (a0 :: a1 :: a2 :: a3 :: a4 :: a5 :: a6 :: a7 :: some (.ref x) :: rs) (.ref x :: st) I h k n) : GG G d mc ms X P pc (a0 :: a1 :: a2 :: a3 :: a4 :: a5 :: a6 :: a7 :: some (.ref x) :: rs) (st) I h k n := by
  obtain ⟨p, l, e, s, m, args, below, meth, c⟩ := X
  obtain ⟨hexec, hb, hml, hown, hts, hKs, hGk, hlk, hrt, hnm⟩ := hX
  obtain ⟨hd, hnx⟩ := hd
  subst hnx
  intro H locs ls hl hW hS
  exact lv_aload hexec hb hd (lpr_at hl (i := 8) rfl) (kk H locs ls hl hW hS)

theorem g_aloadN_8 {G : Gt} {d mc ms : Nat} {own : String} {y : Mt} {X : Xt} {P : Pt3} {pc nx : Nat} {st : List Value} {I : It} {h : Ht} {k n : Nat} {a0 a1 a2 a3 a4 a5 a6 a7 : Option Value} {rs : List (Option Value)}  (hX : Xok G own y X) (hd : dc y.2.1 pc (.aload 8) 2 nx) (kk : GG G d mc ms X P nx (a0 :: a1 :: a2 :: a3 :: a4 :: a5 :: a6 :: a7 :: some .null :: rs) (.null :: st) I h k n) : GG G d mc ms X P pc (a0 :: a1 :: a2 :: a3 :: a4 :: a5 :: a6 :: a7 :: some .null :: rs) (st) I h k n := by
  obtain ⟨p, l, e, s, m, args, below, meth, c⟩ := X
  obtain ⟨hexec, hb, hml, hown, hts, hKs, hGk, hlk, hrt, hnm⟩ := hX
  obtain ⟨hd, hnx⟩ := hd
  subst hnx
  intro H locs ls hl hW hS
  exact lv_aloadN hexec hb hd (lpr_at hl (i := 8) rfl) (kk H locs ls hl hW hS)

theorem g_istore_8 {G : Gt} {d mc ms : Nat} {own : String} {y : Mt} {X : Xt} {P : Pt3} {pc nx : Nat} {st : List Value} {I : It} {h : Ht} {k n : Nat} {a0 a1 a2 a3 a4 a5 a6 a7 : Option Value} {rs : List (Option Value)} {z : Option Value} {x : Int32} (hX : Xok G own y X) (hd : dc y.2.1 pc (.istore 8) 2 nx) (hi : 8 < y.2.2.1) (ha : ahd (a0 :: a1 :: a2 :: a3 :: a4 :: a5 :: a6 :: a7 :: z :: rs) 8 = true) (kk : GG G d mc ms X P nx (a0 :: a1 :: a2 :: a3 :: a4 :: a5 :: a6 :: a7 :: some (.int x) :: rs) st I h k n) : GG G d mc ms X P pc (a0 :: a1 :: a2 :: a3 :: a4 :: a5 :: a6 :: a7 :: z :: rs) (.int x :: st) I h k n := by
  obtain ⟨p, l, e, s, m, args, below, meth, c⟩ := X
  obtain ⟨hexec, hb, hml, hown, hts, hKs, hGk, hlk, hrt, hnm⟩ := hX
  obtain ⟨hd, hnx⟩ := hd
  subst hnx
  intro H locs ls hl hW hS
  refine lv_istore hexec hb hd  hl (by rw [hml]; exact hi) rfl (fun ls2 hl2 => ?_)
  exact kk H locs ls2 (lv_fewer hl2 (lpr_set (lo := a0 :: a1 :: a2 :: a3 :: a4 :: a5 :: a6 :: a7 :: z :: rs) (i := 8) (v := .int x) ha (by simp))) hW hS

theorem g_astore_8 {G : Gt} {d mc ms : Nat} {own : String} {y : Mt} {X : Xt} {P : Pt3} {pc nx : Nat} {st : List Value} {I : It} {h : Ht} {k n : Nat} {a0 a1 a2 a3 a4 a5 a6 a7 : Option Value} {rs : List (Option Value)} {z : Option Value} {x : Nat} (hX : Xok G own y X) (hd : dc y.2.1 pc (.astore 8) 2 nx) (hi : 8 < y.2.2.1) (ha : ahd (a0 :: a1 :: a2 :: a3 :: a4 :: a5 :: a6 :: a7 :: z :: rs) 8 = true) (kk : GG G d mc ms X P nx (a0 :: a1 :: a2 :: a3 :: a4 :: a5 :: a6 :: a7 :: some (.ref x) :: rs) st I h k n) : GG G d mc ms X P pc (a0 :: a1 :: a2 :: a3 :: a4 :: a5 :: a6 :: a7 :: z :: rs) (.ref x :: st) I h k n := by
  obtain ⟨p, l, e, s, m, args, below, meth, c⟩ := X
  obtain ⟨hexec, hb, hml, hown, hts, hKs, hGk, hlk, hrt, hnm⟩ := hX
  obtain ⟨hd, hnx⟩ := hd
  subst hnx
  intro H locs ls hl hW hS
  refine lv_astore hexec hb hd  hl (by rw [hml]; exact hi) rfl (fun ls2 hl2 => ?_)
  exact kk H locs ls2 (lv_fewer hl2 (lpr_set (lo := a0 :: a1 :: a2 :: a3 :: a4 :: a5 :: a6 :: a7 :: z :: rs) (i := 8) (v := .ref x) ha (by simp))) hW hS

theorem g_astoreN_8 {G : Gt} {d mc ms : Nat} {own : String} {y : Mt} {X : Xt} {P : Pt3} {pc nx : Nat} {st : List Value} {I : It} {h : Ht} {k n : Nat} {a0 a1 a2 a3 a4 a5 a6 a7 : Option Value} {rs : List (Option Value)} {z : Option Value}  (hX : Xok G own y X) (hd : dc y.2.1 pc (.astore 8) 2 nx) (hi : 8 < y.2.2.1) (ha : ahd (a0 :: a1 :: a2 :: a3 :: a4 :: a5 :: a6 :: a7 :: z :: rs) 8 = true) (kk : GG G d mc ms X P nx (a0 :: a1 :: a2 :: a3 :: a4 :: a5 :: a6 :: a7 :: some (.null) :: rs) st I h k n) : GG G d mc ms X P pc (a0 :: a1 :: a2 :: a3 :: a4 :: a5 :: a6 :: a7 :: z :: rs) (.null :: st) I h k n := by
  obtain ⟨p, l, e, s, m, args, below, meth, c⟩ := X
  obtain ⟨hexec, hb, hml, hown, hts, hKs, hGk, hlk, hrt, hnm⟩ := hX
  obtain ⟨hd, hnx⟩ := hd
  subst hnx
  intro H locs ls hl hW hS
  refine lv_astoreN hexec hb hd  hl (by rw [hml]; exact hi) rfl (fun ls2 hl2 => ?_)
  exact kk H locs ls2 (lv_fewer hl2 (lpr_set (lo := a0 :: a1 :: a2 :: a3 :: a4 :: a5 :: a6 :: a7 :: z :: rs) (i := 8) (v := .null) ha (by simp))) hW hS

theorem g_lstore_8 {G : Gt} {d mc ms : Nat} {own : String} {y : Mt} {X : Xt} {P : Pt3} {pc nx : Nat} {st : List Value} {I : It} {h : Ht} {k n : Nat} {a0 a1 a2 a3 a4 a5 a6 a7 : Option Value} {rs : List (Option Value)} {z z2 : Option Value} {x : Int64} (hX : Xok G own y X) (hd : dc y.2.1 pc (.lstore 8) 2 nx) (hi : 8 + 1 < y.2.2.1) (ha : ahd (a0 :: a1 :: a2 :: a3 :: a4 :: a5 :: a6 :: a7 :: z :: z2 :: rs) 8 = true) (kk : GG G d mc ms X P nx (a0 :: a1 :: a2 :: a3 :: a4 :: a5 :: a6 :: a7 :: some (.long x) :: none :: rs) st I h k n) : GG G d mc ms X P pc (a0 :: a1 :: a2 :: a3 :: a4 :: a5 :: a6 :: a7 :: z :: z2 :: rs) (.long x :: st) I h k n := by
  obtain ⟨p, l, e, s, m, args, below, meth, c⟩ := X
  obtain ⟨hexec, hb, hml, hown, hts, hKs, hGk, hlk, hrt, hnm⟩ := hX
  obtain ⟨hd, hnx⟩ := hd
  subst hnx
  intro H locs ls hl hW hS
  refine lv_lstore hexec hb hd  hl (by rw [hml]; exact hi) rfl (fun ls2 hl2 => ?_)
  exact kk H locs ls2 (lv_fewer hl2 (lpr_set2 (lo := a0 :: a1 :: a2 :: a3 :: a4 :: a5 :: a6 :: a7 :: z :: z2 :: rs) (i := 8) (v := .long x) ha (by simp))) hW hS

theorem g_iinc_8 {G : Gt} {d mc ms : Nat} {own : String} {y : Mt} {X : Xt} {P : Pt3} {pc nx : Nat} {st : List Value} {I : It} {h : Ht} {k n : Nat} {a0 a1 a2 a3 a4 a5 a6 a7 : Option Value} {rs : List (Option Value)} {x v : Int32} {z : Int} (hX : Xok G own y X) (hd : dc y.2.1 pc (.iinc 8 z) 3 nx) (hv : x + Int32.ofInt z = v) (hi : 8 < y.2.2.1) (ha : ahd (a0 :: a1 :: a2 :: a3 :: a4 :: a5 :: a6 :: a7 :: some (.int x) :: rs) 8 = true) (kk : GG G d mc ms X P nx (a0 :: a1 :: a2 :: a3 :: a4 :: a5 :: a6 :: a7 :: some (.int v) :: rs) st I h k n) : GG G d mc ms X P pc (a0 :: a1 :: a2 :: a3 :: a4 :: a5 :: a6 :: a7 :: some (.int x) :: rs) st I h k n := by
  obtain ⟨p, l, e, s, m, args, below, meth, c⟩ := X
  obtain ⟨hexec, hb, hml, hown, hts, hKs, hGk, hlk, hrt, hnm⟩ := hX
  obtain ⟨hd, hnx⟩ := hd
  subst hnx
  intro H locs ls hl hW hS
  have hmem : (8, Value.int x) ∈ lpr G 0 (a0 :: a1 :: a2 :: a3 :: a4 :: a5 :: a6 :: a7 :: some (.int x) :: rs) := (lpr_mem _ 0 _).mpr ⟨8, .int x, rfl, by simp [cv]⟩
  obtain ⟨kq, hkq⟩ := List.getElem?_of_mem hmem
  refine lv_iinc hexec hb hd hl hkq hv (by rw [hml]; exact hi) rfl (fun ls2 hl2 => ?_)
  exact kk H locs ls2 (lv_fewer hl2 (lpr_set (lo := a0 :: a1 :: a2 :: a3 :: a4 :: a5 :: a6 :: a7 :: some (.int x) :: rs) (i := 8) (v := .int v) ha (by simp))) hW hS

theorem g_iload_9 {G : Gt} {d mc ms : Nat} {own : String} {y : Mt} {X : Xt} {P : Pt3} {pc nx : Nat} {st : List Value} {I : It} {h : Ht} {k n : Nat} {a0 a1 a2 a3 a4 a5 a6 a7 a8 : Option Value} {rs : List (Option Value)} {x : Int32} (hX : Xok G own y X) (hd : dc y.2.1 pc (.iload 9) 2 nx) (kk : GG G d mc ms X P nx (a0 :: a1 :: a2 :: a3 :: a4 :: a5 :: a6 :: a7 :: a8 :: some (.int x) :: rs) (.int x :: st) I h k n) : GG G d mc ms X P pc (a0 :: a1 :: a2 :: a3 :: a4 :: a5 :: a6 :: a7 :: a8 :: some (.int x) :: rs) (st) I h k n := by
  obtain ⟨p, l, e, s, m, args, below, meth, c⟩ := X
  obtain ⟨hexec, hb, hml, hown, hts, hKs, hGk, hlk, hrt, hnm⟩ := hX
  obtain ⟨hd, hnx⟩ := hd
  subst hnx
  intro H locs ls hl hW hS
  exact lv_iload hexec hb hd (lpr_at hl (i := 9) rfl) (kk H locs ls hl hW hS)

theorem g_lload_9 {G : Gt} {d mc ms : Nat} {own : String} {y : Mt} {X : Xt} {P : Pt3} {pc nx : Nat} {st : List Value} {I : It} {h : Ht} {k n : Nat} {a0 a1 a2 a3 a4 a5 a6 a7 a8 : Option Value} {rs : List (Option Value)} {x : Int64} (hX : Xok G own y X) (hd : dc y.2.1 pc (.lload 9) 2 nx) (kk : GG G d mc ms X P nx (a0 :: a1 :: a2 :: a3 :: a4 :: a5 :: a6 :: a7 :: a8 :: some (.long x) :: rs) (.long x :: st) I h k n) : GG G d mc ms X P pc (a0 :: a1 :: a2 :: a3 :: a4 :: a5 :: a6 :: a7 :: a8 :: some (.long x) :: rs) (st) I h k n := by
  obtain ⟨p, l, e, s, m, args, below, meth, c⟩ := X
  obtain ⟨hexec, hb, hml, hown, hts, hKs, hGk, hlk, hrt, hnm⟩ := hX
  obtain ⟨hd, hnx⟩ := hd
  subst hnx
  intro H locs ls hl hW hS
  exact lv_lload hexec hb hd (lpr_at hl (i := 9) rfl) (kk H locs ls hl hW hS)

theorem g_aload_9 {G : Gt} {d mc ms : Nat} {own : String} {y : Mt} {X : Xt} {P : Pt3} {pc nx : Nat} {st : List Value} {I : It} {h : Ht} {k n : Nat} {a0 a1 a2 a3 a4 a5 a6 a7 a8 : Option Value} {rs : List (Option Value)} {x : Nat} (hX : Xok G own y X) (hd : dc y.2.1 pc (.aload 9) 2 nx) (kk : GG G d mc ms X P nx (a0 :: a1 :: a2 :: a3 :: a4 :: a5 :: a6 :: a7 :: a8 :: some (.ref x) :: rs) (.ref x :: st) I h k n) : GG G d mc ms X P pc (a0 :: a1 :: a2 :: a3 :: a4 :: a5 :: a6 :: a7 :: a8 :: some (.ref x) :: rs) (st) I h k n := by
  obtain ⟨p, l, e, s, m, args, below, meth, c⟩ := X
  obtain ⟨hexec, hb, hml, hown, hts, hKs, hGk, hlk, hrt, hnm⟩ := hX
  obtain ⟨hd, hnx⟩ := hd
  subst hnx
  intro H locs ls hl hW hS
  exact lv_aload hexec hb hd (lpr_at hl (i := 9) rfl) (kk H locs ls hl hW hS)

theorem g_aloadN_9 {G : Gt} {d mc ms : Nat} {own : String} {y : Mt} {X : Xt} {P : Pt3} {pc nx : Nat} {st : List Value} {I : It} {h : Ht} {k n : Nat} {a0 a1 a2 a3 a4 a5 a6 a7 a8 : Option Value} {rs : List (Option Value)}  (hX : Xok G own y X) (hd : dc y.2.1 pc (.aload 9) 2 nx) (kk : GG G d mc ms X P nx (a0 :: a1 :: a2 :: a3 :: a4 :: a5 :: a6 :: a7 :: a8 :: some .null :: rs) (.null :: st) I h k n) : GG G d mc ms X P pc (a0 :: a1 :: a2 :: a3 :: a4 :: a5 :: a6 :: a7 :: a8 :: some .null :: rs) (st) I h k n := by
  obtain ⟨p, l, e, s, m, args, below, meth, c⟩ := X
  obtain ⟨hexec, hb, hml, hown, hts, hKs, hGk, hlk, hrt, hnm⟩ := hX
  obtain ⟨hd, hnx⟩ := hd
  subst hnx
  intro H locs ls hl hW hS
  exact lv_aloadN hexec hb hd (lpr_at hl (i := 9) rfl) (kk H locs ls hl hW hS)

theorem g_istore_9 {G : Gt} {d mc ms : Nat} {own : String} {y : Mt} {X : Xt} {P : Pt3} {pc nx : Nat} {st : List Value} {I : It} {h : Ht} {k n : Nat} {a0 a1 a2 a3 a4 a5 a6 a7 a8 : Option Value} {rs : List (Option Value)} {z : Option Value} {x : Int32} (hX : Xok G own y X) (hd : dc y.2.1 pc (.istore 9) 2 nx) (hi : 9 < y.2.2.1) (ha : ahd (a0 :: a1 :: a2 :: a3 :: a4 :: a5 :: a6 :: a7 :: a8 :: z :: rs) 9 = true) (kk : GG G d mc ms X P nx (a0 :: a1 :: a2 :: a3 :: a4 :: a5 :: a6 :: a7 :: a8 :: some (.int x) :: rs) st I h k n) : GG G d mc ms X P pc (a0 :: a1 :: a2 :: a3 :: a4 :: a5 :: a6 :: a7 :: a8 :: z :: rs) (.int x :: st) I h k n := by
  obtain ⟨p, l, e, s, m, args, below, meth, c⟩ := X
  obtain ⟨hexec, hb, hml, hown, hts, hKs, hGk, hlk, hrt, hnm⟩ := hX
  obtain ⟨hd, hnx⟩ := hd
  subst hnx
  intro H locs ls hl hW hS
  refine lv_istore hexec hb hd  hl (by rw [hml]; exact hi) rfl (fun ls2 hl2 => ?_)
  exact kk H locs ls2 (lv_fewer hl2 (lpr_set (lo := a0 :: a1 :: a2 :: a3 :: a4 :: a5 :: a6 :: a7 :: a8 :: z :: rs) (i := 9) (v := .int x) ha (by simp))) hW hS

theorem g_astore_9 {G : Gt} {d mc ms : Nat} {own : String} {y : Mt} {X : Xt} {P : Pt3} {pc nx : Nat} {st : List Value} {I : It} {h : Ht} {k n : Nat} {a0 a1 a2 a3 a4 a5 a6 a7 a8 : Option Value} {rs : List (Option Value)} {z : Option Value} {x : Nat} (hX : Xok G own y X) (hd : dc y.2.1 pc (.astore 9) 2 nx) (hi : 9 < y.2.2.1) (ha : ahd (a0 :: a1 :: a2 :: a3 :: a4 :: a5 :: a6 :: a7 :: a8 :: z :: rs) 9 = true) (kk : GG G d mc ms X P nx (a0 :: a1 :: a2 :: a3 :: a4 :: a5 :: a6 :: a7 :: a8 :: some (.ref x) :: rs) st I h k n) : GG G d mc ms X P pc (a0 :: a1 :: a2 :: a3 :: a4 :: a5 :: a6 :: a7 :: a8 :: z :: rs) (.ref x :: st) I h k n := by
  obtain ⟨p, l, e, s, m, args, below, meth, c⟩ := X
  obtain ⟨hexec, hb, hml, hown, hts, hKs, hGk, hlk, hrt, hnm⟩ := hX
  obtain ⟨hd, hnx⟩ := hd
  subst hnx
  intro H locs ls hl hW hS
  refine lv_astore hexec hb hd  hl (by rw [hml]; exact hi) rfl (fun ls2 hl2 => ?_)
  exact kk H locs ls2 (lv_fewer hl2 (lpr_set (lo := a0 :: a1 :: a2 :: a3 :: a4 :: a5 :: a6 :: a7 :: a8 :: z :: rs) (i := 9) (v := .ref x) ha (by simp))) hW hS

theorem g_astoreN_9 {G : Gt} {d mc ms : Nat} {own : String} {y : Mt} {X : Xt} {P : Pt3} {pc nx : Nat} {st : List Value} {I : It} {h : Ht} {k n : Nat} {a0 a1 a2 a3 a4 a5 a6 a7 a8 : Option Value} {rs : List (Option Value)} {z : Option Value}  (hX : Xok G own y X) (hd : dc y.2.1 pc (.astore 9) 2 nx) (hi : 9 < y.2.2.1) (ha : ahd (a0 :: a1 :: a2 :: a3 :: a4 :: a5 :: a6 :: a7 :: a8 :: z :: rs) 9 = true) (kk : GG G d mc ms X P nx (a0 :: a1 :: a2 :: a3 :: a4 :: a5 :: a6 :: a7 :: a8 :: some (.null) :: rs) st I h k n) : GG G d mc ms X P pc (a0 :: a1 :: a2 :: a3 :: a4 :: a5 :: a6 :: a7 :: a8 :: z :: rs) (.null :: st) I h k n := by
  obtain ⟨p, l, e, s, m, args, below, meth, c⟩ := X
  obtain ⟨hexec, hb, hml, hown, hts, hKs, hGk, hlk, hrt, hnm⟩ := hX
  obtain ⟨hd, hnx⟩ := hd
  subst hnx
  intro H locs ls hl hW hS
  refine lv_astoreN hexec hb hd  hl (by rw [hml]; exact hi) rfl (fun ls2 hl2 => ?_)
  exact kk H locs ls2 (lv_fewer hl2 (lpr_set (lo := a0 :: a1 :: a2 :: a3 :: a4 :: a5 :: a6 :: a7 :: a8 :: z :: rs) (i := 9) (v := .null) ha (by simp))) hW hS

theorem g_lstore_9 {G : Gt} {d mc ms : Nat} {own : String} {y : Mt} {X : Xt} {P : Pt3} {pc nx : Nat} {st : List Value} {I : It} {h : Ht} {k n : Nat} {a0 a1 a2 a3 a4 a5 a6 a7 a8 : Option Value} {rs : List (Option Value)} {z z2 : Option Value} {x : Int64} (hX : Xok G own y X) (hd : dc y.2.1 pc (.lstore 9) 2 nx) (hi : 9 + 1 < y.2.2.1) (ha : ahd (a0 :: a1 :: a2 :: a3 :: a4 :: a5 :: a6 :: a7 :: a8 :: z :: z2 :: rs) 9 = true) (kk : GG G d mc ms X P nx (a0 :: a1 :: a2 :: a3 :: a4 :: a5 :: a6 :: a7 :: a8 :: some (.long x) :: none :: rs) st I h k n) : GG G d mc ms X P pc (a0 :: a1 :: a2 :: a3 :: a4 :: a5 :: a6 :: a7 :: a8 :: z :: z2 :: rs) (.long x :: st) I h k n := by
  obtain ⟨p, l, e, s, m, args, below, meth, c⟩ := X
  obtain ⟨hexec, hb, hml, hown, hts, hKs, hGk, hlk, hrt, hnm⟩ := hX
  obtain ⟨hd, hnx⟩ := hd
  subst hnx
  intro H locs ls hl hW hS
  refine lv_lstore hexec hb hd  hl (by rw [hml]; exact hi) rfl (fun ls2 hl2 => ?_)
  exact kk H locs ls2 (lv_fewer hl2 (lpr_set2 (lo := a0 :: a1 :: a2 :: a3 :: a4 :: a5 :: a6 :: a7 :: a8 :: z :: z2 :: rs) (i := 9) (v := .long x) ha (by simp))) hW hS

theorem g_iinc_9 {G : Gt} {d mc ms : Nat} {own : String} {y : Mt} {X : Xt} {P : Pt3} {pc nx : Nat} {st : List Value} {I : It} {h : Ht} {k n : Nat} {a0 a1 a2 a3 a4 a5 a6 a7 a8 : Option Value} {rs : List (Option Value)} {x v : Int32} {z : Int} (hX : Xok G own y X) (hd : dc y.2.1 pc (.iinc 9 z) 3 nx) (hv : x + Int32.ofInt z = v) (hi : 9 < y.2.2.1) (ha : ahd (a0 :: a1 :: a2 :: a3 :: a4 :: a5 :: a6 :: a7 :: a8 :: some (.int x) :: rs) 9 = true) (kk : GG G d mc ms X P nx (a0 :: a1 :: a2 :: a3 :: a4 :: a5 :: a6 :: a7 :: a8 :: some (.int v) :: rs) st I h k n) : GG G d mc ms X P pc (a0 :: a1 :: a2 :: a3 :: a4 :: a5 :: a6 :: a7 :: a8 :: some (.int x) :: rs) st I h k n := by
  obtain ⟨p, l, e, s, m, args, below, meth, c⟩ := X
  obtain ⟨hexec, hb, hml, hown, hts, hKs, hGk, hlk, hrt, hnm⟩ := hX
  obtain ⟨hd, hnx⟩ := hd
  subst hnx
  intro H locs ls hl hW hS
  have hmem : (9, Value.int x) ∈ lpr G 0 (a0 :: a1 :: a2 :: a3 :: a4 :: a5 :: a6 :: a7 :: a8 :: some (.int x) :: rs) := (lpr_mem _ 0 _).mpr ⟨9, .int x, rfl, by simp [cv]⟩
  obtain ⟨kq, hkq⟩ := List.getElem?_of_mem hmem
  refine lv_iinc hexec hb hd hl hkq hv (by rw [hml]; exact hi) rfl (fun ls2 hl2 => ?_)
  exact kk H locs ls2 (lv_fewer hl2 (lpr_set (lo := a0 :: a1 :: a2 :: a3 :: a4 :: a5 :: a6 :: a7 :: a8 :: some (.int x) :: rs) (i := 9) (v := .int v) ha (by simp))) hW hS

theorem g_iload_10 {G : Gt} {d mc ms : Nat} {own : String} {y : Mt} {X : Xt} {P : Pt3} {pc nx : Nat} {st : List Value} {I : It} {h : Ht} {k n : Nat} {a0 a1 a2 a3 a4 a5 a6 a7 a8 a9 : Option Value} {rs : List (Option Value)} {x : Int32} (hX : Xok G own y X) (hd : dc y.2.1 pc (.iload 10) 2 nx) (kk : GG G d mc ms X P nx (a0 :: a1 :: a2 :: a3 :: a4 :: a5 :: a6 :: a7 :: a8 :: a9 :: some (.int x) :: rs) (.int x :: st) I h k n) : GG G d mc ms X P pc (a0 :: a1 :: a2 :: a3 :: a4 :: a5 :: a6 :: a7 :: a8 :: a9 :: some (.int x) :: rs) (st) I h k n := by
  obtain ⟨p, l, e, s, m, args, below, meth, c⟩ := X
  obtain ⟨hexec, hb, hml, hown, hts, hKs, hGk, hlk, hrt, hnm⟩ := hX
  obtain ⟨hd, hnx⟩ := hd
  subst hnx
  intro H locs ls hl hW hS
  exact lv_iload hexec hb hd (lpr_at hl (i := 10) rfl) (kk H locs ls hl hW hS)

theorem g_lload_10 {G : Gt} {d mc ms : Nat} {own : String} {y : Mt} {X : Xt} {P : Pt3} {pc nx : Nat} {st : List Value} {I : It} {h : Ht} {k n : Nat} {a0 a1 a2 a3 a4 a5 a6 a7 a8 a9 : Option Value} {rs : List (Option Value)} {x : Int64} (hX : Xok G own y X) (hd : dc y.2.1 pc (.lload 10) 2 nx) (kk : GG G d mc ms X P nx (a0 :: a1 :: a2 :: a3 :: a4 :: a5 :: a6 :: a7 :: a8 :: a9 :: some (.long x) :: rs) (.long x :: st) I h k n) : GG G d mc ms X P pc (a0 :: a1 :: a2 :: a3 :: a4 :: a5 :: a6 :: a7 :: a8 :: a9 :: some (.long x) :: rs) (st) I h k n := by
  obtain ⟨p, l, e, s, m, args, below, meth, c⟩ := X
  obtain ⟨hexec, hb, hml, hown, hts, hKs, hGk, hlk, hrt, hnm⟩ := hX
  obtain ⟨hd, hnx⟩ := hd
  subst hnx
  intro H locs ls hl hW hS
  exact lv_lload hexec hb hd (lpr_at hl (i := 10) rfl) (kk H locs ls hl hW hS)

theorem g_aload_10 {G : Gt} {d mc ms : Nat} {own : String} {y : Mt} {X : Xt} {P : Pt3} {pc nx : Nat} {st : List Value} {I : It} {h : Ht} {k n : Nat} {a0 a1 a2 a3 a4 a5 a6 a7 a8 a9 : Option Value} {rs : List (Option Value)} {x : Nat} (hX : Xok G own y X) (hd : dc y.2.1 pc (.aload 10) 2 nx) (kk : GG G d mc ms X P nx (a0 :: a1 :: a2 :: a3 :: a4 :: a5 :: a6 :: a7 :: a8 :: a9 :: some (.ref x) :: rs) (.ref x :: st) I h k n) : GG G d mc ms X P pc (a0 :: a1 :: a2 :: a3 :: a4 :: a5 :: a6 :: a7 :: a8 :: a9 :: some (.ref x) :: rs) (st) I h k n := by
  obtain ⟨p, l, e, s, m, args, below, meth, c⟩ := X
  obtain ⟨hexec, hb, hml, hown, hts, hKs, hGk, hlk, hrt, hnm⟩ := hX
  obtain ⟨hd, hnx⟩ := hd
  subst hnx
  intro H locs ls hl hW hS
  exact lv_aload hexec hb hd (lpr_at hl (i := 10) rfl) (kk H locs ls hl hW hS)

theorem g_aloadN_10 {G : Gt} {d mc ms : Nat} {own : String} {y : Mt} {X : Xt} {P : Pt3} {pc nx : Nat} {st : List Value} {I : It} {h : Ht} {k n : Nat} {a0 a1 a2 a3 a4 a5 a6 a7 a8 a9 : Option Value} {rs : List (Option Value)}  (hX : Xok G own y X) (hd : dc y.2.1 pc (.aload 10) 2 nx) (kk : GG G d mc ms X P nx (a0 :: a1 :: a2 :: a3 :: a4 :: a5 :: a6 :: a7 :: a8 :: a9 :: some .null :: rs) (.null :: st) I h k n) : GG G d mc ms X P pc (a0 :: a1 :: a2 :: a3 :: a4 :: a5 :: a6 :: a7 :: a8 :: a9 :: some .null :: rs) (st) I h k n := by
  obtain ⟨p, l, e, s, m, args, below, meth, c⟩ := X
  obtain ⟨hexec, hb, hml, hown, hts, hKs, hGk, hlk, hrt, hnm⟩ := hX
  obtain ⟨hd, hnx⟩ := hd
  subst hnx
  intro H locs ls hl hW hS
  exact lv_aloadN hexec hb hd (lpr_at hl (i := 10) rfl) (kk H locs ls hl hW hS)

theorem g_istore_10 {G : Gt} {d mc ms : Nat} {own : String} {y : Mt} {X : Xt} {P : Pt3} {pc nx : Nat} {st : List Value} {I : It} {h : Ht} {k n : Nat} {a0 a1 a2 a3 a4 a5 a6 a7 a8 a9 : Option Value} {rs : List (Option Value)} {z : Option Value} {x : Int32} (hX : Xok G own y X) (hd : dc y.2.1 pc (.istore 10) 2 nx) (hi : 10 < y.2.2.1) (ha : ahd (a0 :: a1 :: a2 :: a3 :: a4 :: a5 :: a6 :: a7 :: a8 :: a9 :: z :: rs) 10 = true) (kk : GG G d mc ms X P nx (a0 :: a1 :: a2 :: a3 :: a4 :: a5 :: a6 :: a7 :: a8 :: a9 :: some (.int x) :: rs) st I h k n) : GG G d mc ms X P pc (a0 :: a1 :: a2 :: a3 :: a4 :: a5 :: a6 :: a7 :: a8 :: a9 :: z :: rs) (.int x :: st) I h k n := by
  obtain ⟨p, l, e, s, m, args, below, meth, c⟩ := X
  obtain ⟨hexec, hb, hml, hown, hts, hKs, hGk, hlk, hrt, hnm⟩ := hX
  obtain ⟨hd, hnx⟩ := hd
  subst hnx
  intro H locs ls hl hW hS
  refine lv_istore hexec hb hd  hl (by rw [hml]; exact hi) rfl (fun ls2 hl2 => ?_)
  exact kk H locs ls2 (lv_fewer hl2 (lpr_set (lo := a0 :: a1 :: a2 :: a3 :: a4 :: a5 :: a6 :: a7 :: a8 :: a9 :: z :: rs) (i := 10) (v := .int x) ha (by simp))) hW hS

theorem g_astore_10 {G : Gt} {d mc ms : Nat} {own : String} {y : Mt} {X : Xt} {P : Pt3} {pc nx : Nat} {st : List Value} {I : It} {h : Ht} {k n : Nat} {a0 a1 a2 a3 a4 a5 a6 a7 a8 a9 : Option Value} {rs : List (Option Value)} {z : Option Value} {x : Nat} (hX : Xok G own y X) (hd : dc y.2.1 pc (.astore 10) 2 nx) (hi : 10 < y.2.2.1) (ha : ahd (a0 :: a1 :: a2 :: a3 :: a4 :: a5 :: a6 :: a7 :: a8 :: a9 :: z :: rs) 10 = true) (kk : GG G d mc ms X P nx (a0 :: a1 :: a2 :: a3 :: a4 :: a5 :: a6 :: a7 :: a8 :: a9 :: some (.ref x) :: rs) st I h k n) : GG G d mc ms X P pc (a0 :: a1 :: a2 :: a3 :: a4 :: a5 :: a6 :: a7 :: a8 :: a9 :: z :: rs) (.ref x :: st) I h k n := by
  obtain ⟨p, l, e, s, m, args, below, meth, c⟩ := X
  obtain ⟨hexec, hb, hml, hown, hts, hKs, hGk, hlk, hrt, hnm⟩ := hX
  obtain ⟨hd, hnx⟩ := hd
  subst hnx
  intro H locs ls hl hW hS
  refine lv_astore hexec hb hd  hl (by rw [hml]; exact hi) rfl (fun ls2 hl2 => ?_)
  exact kk H locs ls2 (lv_fewer hl2 (lpr_set (lo := a0 :: a1 :: a2 :: a3 :: a4 :: a5 :: a6 :: a7 :: a8 :: a9 :: z :: rs) (i := 10) (v := .ref x) ha (by simp))) hW hS

theorem g_astoreN_10 {G : Gt} {d mc ms : Nat} {own : String} {y : Mt} {X : Xt} {P : Pt3} {pc nx : Nat} {st : List Value} {I : It} {h : Ht} {k n : Nat} {a0 a1 a2 a3 a4 a5 a6 a7 a8 a9 : Option Value} {rs : List (Option Value)} {z : Option Value}  (hX : Xok G own y X) (hd : dc y.2.1 pc (.astore 10) 2 nx) (hi : 10 < y.2.2.1) (ha : ahd (a0 :: a1 :: a2 :: a3 :: a4 :: a5 :: a6 :: a7 :: a8 :: a9 :: z :: rs) 10 = true) (kk : GG G d mc ms X P nx (a0 :: a1 :: a2 :: a3 :: a4 :: a5 :: a6 :: a7 :: a8 :: a9 :: some (.null) :: rs) st I h k n) : GG G d mc ms X P pc (a0 :: a1 :: a2 :: a3 :: a4 :: a5 :: a6 :: a7 :: a8 :: a9 :: z :: rs) (.null :: st) I h k n := by
  obtain ⟨p, l, e, s, m, args, below, meth, c⟩ := X
  obtain ⟨hexec, hb, hml, hown, hts, hKs, hGk, hlk, hrt, hnm⟩ := hX
  obtain ⟨hd, hnx⟩ := hd
  subst hnx
  intro H locs ls hl hW hS
  refine lv_astoreN hexec hb hd  hl (by rw [hml]; exact hi) rfl (fun ls2 hl2 => ?_)
  exact kk H locs ls2 (lv_fewer hl2 (lpr_set (lo := a0 :: a1 :: a2 :: a3 :: a4 :: a5 :: a6 :: a7 :: a8 :: a9 :: z :: rs) (i := 10) (v := .null) ha (by simp))) hW hS

theorem g_lstore_10 {G : Gt} {d mc ms : Nat} {own : String} {y : Mt} {X : Xt} {P : Pt3} {pc nx : Nat} {st : List Value} {I : It} {h : Ht} {k n : Nat} {a0 a1 a2 a3 a4 a5 a6 a7 a8 a9 : Option Value} {rs : List (Option Value)} {z z2 : Option Value} {x : Int64} (hX : Xok G own y X) (hd : dc y.2.1 pc (.lstore 10) 2 nx) (hi : 10 + 1 < y.2.2.1) (ha : ahd (a0 :: a1 :: a2 :: a3 :: a4 :: a5 :: a6 :: a7 :: a8 :: a9 :: z :: z2 :: rs) 10 = true) (kk : GG G d mc ms X P nx (a0 :: a1 :: a2 :: a3 :: a4 :: a5 :: a6 :: a7 :: a8 :: a9 :: some (.long x) :: none :: rs) st I h k n) : GG G d mc ms X P pc (a0 :: a1 :: a2 :: a3 :: a4 :: a5 :: a6 :: a7 :: a8 :: a9 :: z :: z2 :: rs) (.long x :: st) I h k n := by
  obtain ⟨p, l, e, s, m, args, below, meth, c⟩ := X
  obtain ⟨hexec, hb, hml, hown, hts, hKs, hGk, hlk, hrt, hnm⟩ := hX
  obtain ⟨hd, hnx⟩ := hd
  subst hnx
  intro H locs ls hl hW hS
  refine lv_lstore hexec hb hd  hl (by rw [hml]; exact hi) rfl (fun ls2 hl2 => ?_)
  exact kk H locs ls2 (lv_fewer hl2 (lpr_set2 (lo := a0 :: a1 :: a2 :: a3 :: a4 :: a5 :: a6 :: a7 :: a8 :: a9 :: z :: z2 :: rs) (i := 10) (v := .long x) ha (by simp))) hW hS

theorem g_iinc_10 {G : Gt} {d mc ms : Nat} {own : String} {y : Mt} {X : Xt} {P : Pt3} {pc nx : Nat} {st : List Value} {I : It} {h : Ht} {k n : Nat} {a0 a1 a2 a3 a4 a5 a6 a7 a8 a9 : Option Value} {rs : List (Option Value)} {x v : Int32} {z : Int} (hX : Xok G own y X) (hd : dc y.2.1 pc (.iinc 10 z) 3 nx) (hv : x + Int32.ofInt z = v) (hi : 10 < y.2.2.1) (ha : ahd (a0 :: a1 :: a2 :: a3 :: a4 :: a5 :: a6 :: a7 :: a8 :: a9 :: some (.int x) :: rs) 10 = true) (kk : GG G d mc ms X P nx (a0 :: a1 :: a2 :: a3 :: a4 :: a5 :: a6 :: a7 :: a8 :: a9 :: some (.int v) :: rs) st I h k n) : GG G d mc ms X P pc (a0 :: a1 :: a2 :: a3 :: a4 :: a5 :: a6 :: a7 :: a8 :: a9 :: some (.int x) :: rs) st I h k n := by
  obtain ⟨p, l, e, s, m, args, below, meth, c⟩ := X
  obtain ⟨hexec, hb, hml, hown, hts, hKs, hGk, hlk, hrt, hnm⟩ := hX
  obtain ⟨hd, hnx⟩ := hd
  subst hnx
  intro H locs ls hl hW hS
  have hmem : (10, Value.int x) ∈ lpr G 0 (a0 :: a1 :: a2 :: a3 :: a4 :: a5 :: a6 :: a7 :: a8 :: a9 :: some (.int x) :: rs) := (lpr_mem _ 0 _).mpr ⟨10, .int x, rfl, by simp [cv]⟩
  obtain ⟨kq, hkq⟩ := List.getElem?_of_mem hmem
  refine lv_iinc hexec hb hd hl hkq hv (by rw [hml]; exact hi) rfl (fun ls2 hl2 => ?_)
  exact kk H locs ls2 (lv_fewer hl2 (lpr_set (lo := a0 :: a1 :: a2 :: a3 :: a4 :: a5 :: a6 :: a7 :: a8 :: a9 :: some (.int x) :: rs) (i := 10) (v := .int v) ha (by simp))) hW hS

theorem g_iload_11 {G : Gt} {d mc ms : Nat} {own : String} {y : Mt} {X : Xt} {P : Pt3} {pc nx : Nat} {st : List Value} {I : It} {h : Ht} {k n : Nat} {a0 a1 a2 a3 a4 a5 a6 a7 a8 a9 a10 : Option Value} {rs : List (Option Value)} {x : Int32} (hX : Xok G own y X) (hd : dc y.2.1 pc (.iload 11) 2 nx) (kk : GG G d mc ms X P nx (a0 :: a1 :: a2 :: a3 :: a4 :: a5 :: a6 :: a7 :: a8 :: a9 :: a10 :: some (.int x) :: rs) (.int x :: st) I h k n) : GG G d mc ms X P pc (a0 :: a1 :: a2 :: a3 :: a4 :: a5 :: a6 :: a7 :: a8 :: a9 :: a10 :: some (.int x) :: rs) (st) I h k n := by
  obtain ⟨p, l, e, s, m, args, below, meth, c⟩ := X
  obtain ⟨hexec, hb, hml, hown, hts, hKs, hGk, hlk, hrt, hnm⟩ := hX
  obtain ⟨hd, hnx⟩ := hd
  subst hnx
  intro H locs ls hl hW hS
  exact lv_iload hexec hb hd (lpr_at hl (i := 11) rfl) (kk H locs ls hl hW hS)

theorem g_lload_11 {G : Gt} {d mc ms : Nat} {own : String} {y : Mt} {X : Xt} {P : Pt3} {pc nx : Nat} {st : List Value} {I : It} {h : Ht} {k n : Nat} {a0 a1 a2 a3 a4 a5 a6 a7 a8 a9 a10 : Option Value} {rs : List (Option Value)} {x : Int64} (hX : Xok G own y X) (hd : dc y.2.1 pc (.lload 11) 2 nx) (kk : GG G d mc ms X P nx (a0 :: a1 :: a2 :: a3 :: a4 :: a5 :: a6 :: a7 :: a8 :: a9 :: a10 :: some (.long x) :: rs) (.long x :: st) I h k n) : GG G d mc ms X P pc (a0 :: a1 :: a2 :: a3 :: a4 :: a5 :: a6 :: a7 :: a8 :: a9 :: a10 :: some (.long x) :: rs) (st) I h k n := by
  obtain ⟨p, l, e, s, m, args, below, meth, c⟩ := X
  obtain ⟨hexec, hb, hml, hown, hts, hKs, hGk, hlk, hrt, hnm⟩ := hX
  obtain ⟨hd, hnx⟩ := hd
  subst hnx
  intro H locs ls hl hW hS
  exact lv_lload hexec hb hd (lpr_at hl (i := 11) rfl) (kk H locs ls hl hW hS)

theorem g_aload_11 {G : Gt} {d mc ms : Nat} {own : String} {y : Mt} {X : Xt} {P : Pt3} {pc nx : Nat} {st : List Value} {I : It} {h : Ht} {k n : Nat} {a0 a1 a2 a3 a4 a5 a6 a7 a8 a9 a10 : Option Value} {rs : List (Option Value)} {x : Nat} (hX : Xok G own y X) (hd : dc y.2.1 pc (.aload 11) 2 nx) (kk : GG G d mc ms X P nx (a0 :: a1 :: a2 :: a3 :: a4 :: a5 :: a6 :: a7 :: a8 :: a9 :: a10 :: some (.ref x) :: rs) (.ref x :: st) I h k n) : GG G d mc ms X P pc (a0 :: a1 :: a2 :: a3 :: a4 :: a5 :: a6 :: a7 :: a8 :: a9 :: a10 :: some (.ref x) :: rs) (st) I h k n := by
  obtain ⟨p, l, e, s, m, args, below, meth, c⟩ := X
  obtain ⟨hexec, hb, hml, hown, hts, hKs, hGk, hlk, hrt, hnm⟩ := hX
  obtain ⟨hd, hnx⟩ := hd
  subst hnx
  intro H locs ls hl hW hS
  exact lv_aload hexec hb hd (lpr_at hl (i := 11) rfl) (kk H locs ls hl hW hS)

theorem g_aloadN_11 {G : Gt} {d mc ms : Nat} {own : String} {y : Mt} {X : Xt} {P : Pt3} {pc nx : Nat} {st : List Value} {I : It} {h : Ht} {k n : Nat} {a0 a1 a2 a3 a4 a5 a6 a7 a8 a9 a10 : Option Value} {rs : List (Option Value)}  (hX : Xok G own y X) (hd : dc y.2.1 pc (.aload 11) 2 nx) (kk : GG G d mc ms X P nx (a0 :: a1 :: a2 :: a3 :: a4 :: a5 :: a6 :: a7 :: a8 :: a9 :: a10 :: some .null :: rs) (.null :: st) I h k n) : GG G d mc ms X P pc (a0 :: a1 :: a2 :: a3 :: a4 :: a5 :: a6 :: a7 :: a8 :: a9 :: a10 :: some .null :: rs) (st) I h k n := by
  obtain ⟨p, l, e, s, m, args, below, meth, c⟩ := X
  obtain ⟨hexec, hb, hml, hown, hts, hKs, hGk, hlk, hrt, hnm⟩ := hX
  obtain ⟨hd, hnx⟩ := hd
  subst hnx
  intro H locs ls hl hW hS
  exact lv_aloadN hexec hb hd (lpr_at hl (i := 11) rfl) (kk H locs ls hl hW hS)

theorem g_istore_11 {G : Gt} {d mc ms : Nat} {own : String} {y : Mt} {X : Xt} {P : Pt3} {pc nx : Nat} {st : List Value} {I : It} {h : Ht} {k n : Nat} {a0 a1 a2 a3 a4 a5 a6 a7 a8 a9 a10 : Option Value} {rs : List (Option Value)} {z : Option Value} {x : Int32} (hX : Xok G own y X) (hd : dc y.2.1 pc (.istore 11) 2 nx) (hi : 11 < y.2.2.1) (ha : ahd (a0 :: a1 :: a2 :: a3 :: a4 :: a5 :: a6 :: a7 :: a8 :: a9 :: a10 :: z :: rs) 11 = true) (kk : GG G d mc ms X P nx (a0 :: a1 :: a2 :: a3 :: a4 :: a5 :: a6 :: a7 :: a8 :: a9 :: a10 :: some (.int x) :: rs) st I h k n) : GG G d mc ms X P pc (a0 :: a1 :: a2 :: a3 :: a4 :: a5 :: a6 :: a7 :: a8 :: a9 :: a10 :: z :: rs) (.int x :: st) I h k n := by
  obtain ⟨p, l, e, s, m, args, below, meth, c⟩ := X
  obtain ⟨hexec, hb, hml, hown, hts, hKs, hGk, hlk, hrt, hnm⟩ := hX
  obtain ⟨hd, hnx⟩ := hd
  subst hnx
  intro H locs ls hl hW hS
  refine lv_istore hexec hb hd  hl (by rw [hml]; exact hi) rfl (fun ls2 hl2 => ?_)
  exact kk H locs ls2 (lv_fewer hl2 (lpr_set (lo := a0 :: a1 :: a2 :: a3 :: a4 :: a5 :: a6 :: a7 :: a8 :: a9 :: a10 :: z :: rs) (i := 11) (v := .int x) ha (by simp))) hW hS

theorem g_astore_11 {G : Gt} {d mc ms : Nat} {own : String} {y : Mt} {X : Xt} {P : Pt3} {pc nx : Nat} {st : List Value} {I : It} {h : Ht} {k n : Nat} {a0 a1 a2 a3 a4 a5 a6 a7 a8 a9 a10 : Option Value} {rs : List (Option Value)} {z : Option Value} {x : Nat} (hX : Xok G own y X) (hd : dc y.2.1 pc (.astore 11) 2 nx) (hi : 11 < y.2.2.1) (ha : ahd (a0 :: a1 :: a2 :: a3 :: a4 :: a5 :: a6 :: a7 :: a8 :: a9 :: a10 :: z :: rs) 11 = true) (kk : GG G d mc ms X P nx (a0 :: a1 :: a2 :: a3 :: a4 :: a5 :: a6 :: a7 :: a8 :: a9 :: a10 :: some (.ref x) :: rs) st I h k n) : GG G d mc ms X P pc (a0 :: a1 :: a2 :: a3 :: a4 :: a5 :: a6 :: a7 :: a8 :: a9 :: a10 :: z :: rs) (.ref x :: st) I h k n := by
  obtain ⟨p, l, e, s, m, args, below, meth, c⟩ := X
  obtain ⟨hexec, hb, hml, hown, hts, hKs, hGk, hlk, hrt, hnm⟩ := hX
  obtain ⟨hd, hnx⟩ := hd
  subst hnx
  intro H locs ls hl hW hS
  refine lv_astore hexec hb hd  hl (by rw [hml]; exact hi) rfl (fun ls2 hl2 => ?_)
  exact kk H locs ls2 (lv_fewer hl2 (lpr_set (lo := a0 :: a1 :: a2 :: a3 :: a4 :: a5 :: a6 :: a7 :: a8 :: a9 :: a10 :: z :: rs) (i := 11) (v := .ref x) ha (by simp))) hW hS

theorem g_astoreN_11 {G : Gt} {d mc ms : Nat} {own : String} {y : Mt} {X : Xt} {P : Pt3} {pc nx : Nat} {st : List Value} {I : It} {h : Ht} {k n : Nat} {a0 a1 a2 a3 a4 a5 a6 a7 a8 a9 a10 : Option Value} {rs : List (Option Value)} {z : Option Value}  (hX : Xok G own y X) (hd : dc y.2.1 pc (.astore 11) 2 nx) (hi : 11 < y.2.2.1) (ha : ahd (a0 :: a1 :: a2 :: a3 :: a4 :: a5 :: a6 :: a7 :: a8 :: a9 :: a10 :: z :: rs) 11 = true) (kk : GG G d mc ms X P nx (a0 :: a1 :: a2 :: a3 :: a4 :: a5 :: a6 :: a7 :: a8 :: a9 :: a10 :: some (.null) :: rs) st I h k n) : GG G d mc ms X P pc (a0 :: a1 :: a2 :: a3 :: a4 :: a5 :: a6 :: a7 :: a8 :: a9 :: a10 :: z :: rs) (.null :: st) I h k n := by
  obtain ⟨p, l, e, s, m, args, below, meth, c⟩ := X
  obtain ⟨hexec, hb, hml, hown, hts, hKs, hGk, hlk, hrt, hnm⟩ := hX
  obtain ⟨hd, hnx⟩ := hd
  subst hnx
  intro H locs ls hl hW hS
  refine lv_astoreN hexec hb hd  hl (by rw [hml]; exact hi) rfl (fun ls2 hl2 => ?_)
  exact kk H locs ls2 (lv_fewer hl2 (lpr_set (lo := a0 :: a1 :: a2 :: a3 :: a4 :: a5 :: a6 :: a7 :: a8 :: a9 :: a10 :: z :: rs) (i := 11) (v := .null) ha (by simp))) hW hS

theorem g_lstore_11 {G : Gt} {d mc ms : Nat} {own : String} {y : Mt} {X : Xt} {P : Pt3} {pc nx : Nat} {st : List Value} {I : It} {h : Ht} {k n : Nat} {a0 a1 a2 a3 a4 a5 a6 a7 a8 a9 a10 : Option Value} {rs : List (Option Value)} {z z2 : Option Value} {x : Int64} (hX : Xok G own y X) (hd : dc y.2.1 pc (.lstore 11) 2 nx) (hi : 11 + 1 < y.2.2.1) (ha : ahd (a0 :: a1 :: a2 :: a3 :: a4 :: a5 :: a6 :: a7 :: a8 :: a9 :: a10 :: z :: z2 :: rs) 11 = true) (kk : GG G d mc ms X P nx (a0 :: a1 :: a2 :: a3 :: a4 :: a5 :: a6 :: a7 :: a8 :: a9 :: a10 :: some (.long x) :: none :: rs) st I h k n) : GG G d mc ms X P pc (a0 :: a1 :: a2 :: a3 :: a4 :: a5 :: a6 :: a7 :: a8 :: a9 :: a10 :: z :: z2 :: rs) (.long x :: st) I h k n := by
  obtain ⟨p, l, e, s, m, args, below, meth, c⟩ := X
  obtain ⟨hexec, hb, hml, hown, hts, hKs, hGk, hlk, hrt, hnm⟩ := hX
  obtain ⟨hd, hnx⟩ := hd
  subst hnx
  intro H locs ls hl hW hS
  refine lv_lstore hexec hb hd  hl (by rw [hml]; exact hi) rfl (fun ls2 hl2 => ?_)
  exact kk H locs ls2 (lv_fewer hl2 (lpr_set2 (lo := a0 :: a1 :: a2 :: a3 :: a4 :: a5 :: a6 :: a7 :: a8 :: a9 :: a10 :: z :: z2 :: rs) (i := 11) (v := .long x) ha (by simp))) hW hS

theorem g_iinc_11 {G : Gt} {d mc ms : Nat} {own : String} {y : Mt} {X : Xt} {P : Pt3} {pc nx : Nat} {st : List Value} {I : It} {h : Ht} {k n : Nat} {a0 a1 a2 a3 a4 a5 a6 a7 a8 a9 a10 : Option Value} {rs : List (Option Value)} {x v : Int32} {z : Int} (hX : Xok G own y X) (hd : dc y.2.1 pc (.iinc 11 z) 3 nx) (hv : x + Int32.ofInt z = v) (hi : 11 < y.2.2.1) (ha : ahd (a0 :: a1 :: a2 :: a3 :: a4 :: a5 :: a6 :: a7 :: a8 :: a9 :: a10 :: some (.int x) :: rs) 11 = true) (kk : GG G d mc ms X P nx (a0 :: a1 :: a2 :: a3 :: a4 :: a5 :: a6 :: a7 :: a8 :: a9 :: a10 :: some (.int v) :: rs) st I h k n) : GG G d mc ms X P pc (a0 :: a1 :: a2 :: a3 :: a4 :: a5 :: a6 :: a7 :: a8 :: a9 :: a10 :: some (.int x) :: rs) st I h k n := by
  obtain ⟨p, l, e, s, m, args, below, meth, c⟩ := X
  obtain ⟨hexec, hb, hml, hown, hts, hKs, hGk, hlk, hrt, hnm⟩ := hX
  obtain ⟨hd, hnx⟩ := hd
  subst hnx
  intro H locs ls hl hW hS
  have hmem : (11, Value.int x) ∈ lpr G 0 (a0 :: a1 :: a2 :: a3 :: a4 :: a5 :: a6 :: a7 :: a8 :: a9 :: a10 :: some (.int x) :: rs) := (lpr_mem _ 0 _).mpr ⟨11, .int x, rfl, by simp [cv]⟩
  obtain ⟨kq, hkq⟩ := List.getElem?_of_mem hmem
  refine lv_iinc hexec hb hd hl hkq hv (by rw [hml]; exact hi) rfl (fun ls2 hl2 => ?_)
  exact kk H locs ls2 (lv_fewer hl2 (lpr_set (lo := a0 :: a1 :: a2 :: a3 :: a4 :: a5 :: a6 :: a7 :: a8 :: a9 :: a10 :: some (.int x) :: rs) (i := 11) (v := .int v) ha (by simp))) hW hS

theorem g_iload_12 {G : Gt} {d mc ms : Nat} {own : String} {y : Mt} {X : Xt} {P : Pt3} {pc nx : Nat} {st : List Value} {I : It} {h : Ht} {k n : Nat} {a0 a1 a2 a3 a4 a5 a6 a7 a8 a9 a10 a11 : Option Value} {rs : List (Option Value)} {x : Int32} (hX : Xok G own y X) (hd : dc y.2.1 pc (.iload 12) 2 nx) (kk : GG G d mc ms X P nx (a0 :: a1 :: a2 :: a3 :: a4 :: a5 :: a6 :: a7 :: a8 :: a9 :: a10 :: a11 :: some (.int x) :: rs) (.int x :: st) I h k n) : GG G d mc ms X P pc (a0 :: a1 :: a2 :: a3 :: a4 :: a5 :: a6 :: a7 :: a8 :: a9 :: a10 :: a11 :: some (.int x) :: rs) (st) I h k n := by
  obtain ⟨p, l, e, s, m, args, below, meth, c⟩ := X
  obtain ⟨hexec, hb, hml, hown, hts, hKs, hGk, hlk, hrt, hnm⟩ := hX
  obtain ⟨hd, hnx⟩ := hd
  subst hnx
  intro H locs ls hl hW hS
  exact lv_iload hexec hb hd (lpr_at hl (i := 12) rfl) (kk H locs ls hl hW hS)

theorem g_lload_12 {G : Gt} {d mc ms : Nat} {own : String} {y : Mt} {X : Xt} {P : Pt3} {pc nx : Nat} {st : List Value} {I : It} {h : Ht} {k n : Nat} {a0 a1 a2 a3 a4 a5 a6 a7 a8 a9 a10 a11 : Option Value} {rs : List (Option Value)} {x : Int64} (hX : Xok G own y X) (hd : dc y.2.1 pc (.lload 12) 2 nx) (kk : GG G d mc ms X P nx (a0 :: a1 :: a2 :: a3 :: a4 :: a5 :: a6 :: a7 :: a8 :: a9 :: a10 :: a11 :: some (.long x) :: rs) (.long x :: st) I h k n) : GG G d mc ms X P pc (a0 :: a1 :: a2 :: a3 :: a4 :: a5 :: a6 :: a7 :: a8 :: a9 :: a10 :: a11 :: some (.long x) :: rs) (st) I h k n := by
  obtain ⟨p, l, e, s, m, args, below, meth, c⟩ := X
  obtain ⟨hexec, hb, hml, hown, hts, hKs, hGk, hlk, hrt, hnm⟩ := hX
  obtain ⟨hd, hnx⟩ := hd
  subst hnx
  intro H locs ls hl hW hS
  exact lv_lload hexec hb hd (lpr_at hl (i := 12) rfl) (kk H locs ls hl hW hS)

theorem g_aload_12 {G : Gt} {d mc ms : Nat} {own : String} {y : Mt} {X : Xt} {P : Pt3} {pc nx : Nat} {st : List Value} {I : It} {h : Ht} {k n : Nat} {a0 a1 a2 a3 a4 a5 a6 a7 a8 a9 a10 a11 : Option Value} {rs : List (Option Value)} {x : Nat} (hX : Xok G own y X) (hd : dc y.2.1 pc (.aload 12) 2 nx) (kk : GG G d mc ms X P nx (a0 :: a1 :: a2 :: a3 :: a4 :: a5 :: a6 :: a7 :: a8 :: a9 :: a10 :: a11 :: some (.ref x) :: rs) (.ref x :: st) I h k n) : GG G d mc ms X P pc (a0 :: a1 :: a2 :: a3 :: a4 :: a5 :: a6 :: a7 :: a8 :: a9 :: a10 :: a11 :: some (.ref x) :: rs) (st) I h k n := by
  obtain ⟨p, l, e, s, m, args, below, meth, c⟩ := X
  obtain ⟨hexec, hb, hml, hown, hts, hKs, hGk, hlk, hrt, hnm⟩ := hX
  obtain ⟨hd, hnx⟩ := hd
  subst hnx
  intro H locs ls hl hW hS
  exact lv_aload hexec hb hd (lpr_at hl (i := 12) rfl) (kk H locs ls hl hW hS)

theorem g_aloadN_12 {G : Gt} {d mc ms : Nat} {own : String} {y : Mt} {X : Xt} {P : Pt3} {pc nx : Nat} {st : List Value} {I : It} {h : Ht} {k n : Nat} {a0 a1 a2 a3 a4 a5 a6 a7 a8 a9 a10 a11 : Option Value} {rs : List (Option Value)}  (hX : Xok G own y X) (hd : dc y.2.1 pc (.aload 12) 2 nx) (kk : GG G d mc ms X P nx (a0 :: a1 :: a2 :: a3 :: a4 :: a5 :: a6 :: a7 :: a8 :: a9 :: a10 :: a11 :: some .null :: rs) (.null :: st) I h k n) : GG G d mc ms X P pc (a0 :: a1 :: a2 :: a3 :: a4 :: a5 :: a6 :: a7 :: a8 :: a9 :: a10 :: a11 :: some .null :: rs) (st) I h k n := by
  obtain ⟨p, l, e, s, m, args, below, meth, c⟩ := X
  obtain ⟨hexec, hb, hml, hown, hts, hKs, hGk, hlk, hrt, hnm⟩ := hX
  obtain ⟨hd, hnx⟩ := hd
  subst hnx
  intro H locs ls hl hW hS
  exact lv_aloadN hexec hb hd (lpr_at hl (i := 12) rfl) (kk H locs ls hl hW hS)

theorem g_istore_12 {G : Gt} {d mc ms : Nat} {own : String} {y : Mt} {X : Xt} {P : Pt3} {pc nx : Nat} {st : List Value} {I : It} {h : Ht} {k n : Nat} {a0 a1 a2 a3 a4 a5 a6 a7 a8 a9 a10 a11 : Option Value} {rs : List (Option Value)} {z : Option Value} {x : Int32} (hX : Xok G own y X) (hd : dc y.2.1 pc (.istore 12) 2 nx) (hi : 12 < y.2.2.1) (ha : ahd (a0 :: a1 :: a2 :: a3 :: a4 :: a5 :: a6 :: a7 :: a8 :: a9 :: a10 :: a11 :: z :: rs) 12 = true) (kk : GG G d mc ms X P nx (a0 :: a1 :: a2 :: a3 :: a4 :: a5 :: a6 :: a7 :: a8 :: a9 :: a10 :: a11 :: some (.int x) :: rs) st I h k n) : GG G d mc ms X P pc (a0 :: a1 :: a2 :: a3 :: a4 :: a5 :: a6 :: a7 :: a8 :: a9 :: a10 :: a11 :: z :: rs) (.int x :: st) I h k n := by
  obtain ⟨p, l, e, s, m, args, below, meth, c⟩ := X
  obtain ⟨hexec, hb, hml, hown, hts, hKs, hGk, hlk, hrt, hnm⟩ := hX
  obtain ⟨hd, hnx⟩ := hd
  subst hnx
  intro H locs ls hl hW hS
  refine lv_istore hexec hb hd  hl (by rw [hml]; exact hi) rfl (fun ls2 hl2 => ?_)
  exact kk H locs ls2 (lv_fewer hl2 (lpr_set (lo := a0 :: a1 :: a2 :: a3 :: a4 :: a5 :: a6 :: a7 :: a8 :: a9 :: a10 :: a11 :: z :: rs) (i := 12) (v := .int x) ha (by simp))) hW hS

theorem g_astore_12 {G : Gt} {d mc ms : Nat} {own : String} {y : Mt} {X : Xt} {P : Pt3} {pc nx : Nat} {st : List Value} {I : It} {h : Ht} {k n : Nat} {a0 a1 a2 a3 a4 a5 a6 a7 a8 a9 a10 a11 : Option Value} {rs : List (Option Value)} {z : Option Value} {x : Nat} (hX : Xok G own y X) (hd : dc y.2.1 pc (.astore 12) 2 nx) (hi : 12 < y.2.2.1) (ha : ahd (a0 :: a1 :: a2 :: a3 :: a4 :: a5 :: a6 :: a7 :: a8 :: a9 :: a10 :: a11 :: z :: rs) 12 = true) (kk : GG G d mc ms X P nx (a0 :: a1 :: a2 :: a3 :: a4 :: a5 :: a6 :: a7 :: a8 :: a9 :: a10 :: a11 :: some (.ref x) :: rs) st I h k n) : GG G d mc ms X P pc (a0 :: a1 :: a2 :: a3 :: a4 :: a5 :: a6 :: a7 :: a8 :: a9 :: a10 :: a11 :: z :: rs) (.ref x :: st) I h k n := by
  obtain ⟨p, l, e, s, m, args, below, meth, c⟩ := X
  obtain ⟨hexec, hb, hml, hown, hts, hKs, hGk, hlk, hrt, hnm⟩ := hX
  obtain ⟨hd, hnx⟩ := hd
  subst hnx
  intro H locs ls hl hW hS
  refine lv_astore hexec hb hd  hl (by rw [hml]; exact hi) rfl (fun ls2 hl2 => ?_)
  exact kk H locs ls2 (lv_fewer hl2 (lpr_set (lo := a0 :: a1 :: a2 :: a3 :: a4 :: a5 :: a6 :: a7 :: a8 :: a9 :: a10 :: a11 :: z :: rs) (i := 12) (v := .ref x) ha (by simp))) hW hS

theorem g_astoreN_12 {G : Gt} {d mc ms : Nat} {own : String} {y : Mt} {X : Xt} {P : Pt3} {pc nx : Nat} {st : List Value} {I : It} {h : Ht} {k n : Nat} {a0 a1 a2 a3 a4 a5 a6 a7 a8 a9 a10 a11 : Option Value} {rs : List (Option Value)} {z : Option Value}  (hX : Xok G own y X) (hd : dc y.2.1 pc (.astore 12) 2 nx) (hi : 12 < y.2.2.1) (ha : ahd (a0 :: a1 :: a2 :: a3 :: a4 :: a5 :: a6 :: a7 :: a8 :: a9 :: a10 :: a11 :: z :: rs) 12 = true) (kk : GG G d mc ms X P nx (a0 :: a1 :: a2 :: a3 :: a4 :: a5 :: a6 :: a7 :: a8 :: a9 :: a10 :: a11 :: some (.null) :: rs) st I h k n) : GG G d mc ms X P pc (a0 :: a1 :: a2 :: a3 :: a4 :: a5 :: a6 :: a7 :: a8 :: a9 :: a10 :: a11 :: z :: rs) (.null :: st) I h k n := by
  obtain ⟨p, l, e, s, m, args, below, meth, c⟩ := X
  obtain ⟨hexec, hb, hml, hown, hts, hKs, hGk, hlk, hrt, hnm⟩ := hX
  obtain ⟨hd, hnx⟩ := hd
  subst hnx
  intro H locs ls hl hW hS
  refine lv_astoreN hexec hb hd  hl (by rw [hml]; exact hi) rfl (fun ls2 hl2 => ?_)
  exact kk H locs ls2 (lv_fewer hl2 (lpr_set (lo := a0 :: a1 :: a2 :: a3 :: a4 :: a5 :: a6 :: a7 :: a8 :: a9 :: a10 :: a11 :: z :: rs) (i := 12) (v := .null) ha (by simp))) hW hS

theorem g_iinc_12 {G : Gt} {d mc ms : Nat} {own : String} {y : Mt} {X : Xt} {P : Pt3} {pc nx : Nat} {st : List Value} {I : It} {h : Ht} {k n : Nat} {a0 a1 a2 a3 a4 a5 a6 a7 a8 a9 a10 a11 : Option Value} {rs : List (Option Value)} {x v : Int32} {z : Int} (hX : Xok G own y X) (hd : dc y.2.1 pc (.iinc 12 z) 3 nx) (hv : x + Int32.ofInt z = v) (hi : 12 < y.2.2.1) (ha : ahd (a0 :: a1 :: a2 :: a3 :: a4 :: a5 :: a6 :: a7 :: a8 :: a9 :: a10 :: a11 :: some (.int x) :: rs) 12 = true) (kk : GG G d mc ms X P nx (a0 :: a1 :: a2 :: a3 :: a4 :: a5 :: a6 :: a7 :: a8 :: a9 :: a10 :: a11 :: some (.int v) :: rs) st I h k n) : GG G d mc ms X P pc (a0 :: a1 :: a2 :: a3 :: a4 :: a5 :: a6 :: a7 :: a8 :: a9 :: a10 :: a11 :: some (.int x) :: rs) st I h k n := by
  obtain ⟨p, l, e, s, m, args, below, meth, c⟩ := X
  obtain ⟨hexec, hb, hml, hown, hts, hKs, hGk, hlk, hrt, hnm⟩ := hX
  obtain ⟨hd, hnx⟩ := hd
  subst hnx
  intro H locs ls hl hW hS
  have hmem : (12, Value.int x) ∈ lpr G 0 (a0 :: a1 :: a2 :: a3 :: a4 :: a5 :: a6 :: a7 :: a8 :: a9 :: a10 :: a11 :: some (.int x) :: rs) := (lpr_mem _ 0 _).mpr ⟨12, .int x, rfl, by simp [cv]⟩
  obtain ⟨kq, hkq⟩ := List.getElem?_of_mem hmem
  refine lv_iinc hexec hb hd hl hkq hv (by rw [hml]; exact hi) rfl (fun ls2 hl2 => ?_)
  exact kk H locs ls2 (lv_fewer hl2 (lpr_set (lo := a0 :: a1 :: a2 :: a3 :: a4 :: a5 :: a6 :: a7 :: a8 :: a9 :: a10 :: a11 :: some (.int x) :: rs) (i := 12) (v := .int v) ha (by simp))) hW hS

theorem g_icmp_eq {G : Gt} {d mc ms : Nat} {own : String} {y : Mt} {X : Xt} {P : Pt3} {pc nx : Nat} {lo : List (Option Value)} {st : List Value} {I : It} {h : Ht} {k n : Nat} {a b : Int32} {off : Int} {tgt : Nat} (hX : Xok G own y X) (hd : dc y.2.1 pc (.if_icmp .eq off) 3 nx) (ht : (pc : Int) + off = (tgt : Int)) (kt : a = b → GG G d mc ms X P tgt lo st I h k n) (kf : ¬ a = b → GG G d mc ms X P nx lo st I h k n) : GG G d mc ms X P pc lo (.int b :: .int a :: st) I h k n := by
  obtain ⟨p, l, e, s, m, args, below, meth, c⟩ := X
  obtain ⟨hexec, hb, hml, hown, hts, hKs, hGk, hlk, hrt, hnm⟩ := hX
  obtain ⟨hd, hnx⟩ := hd
  subst hnx
  intro H locs ls hl hW hS
  exact lv_icmp_eq hexec hb hd ht (fun q => kt q H locs ls hl hW hS) (fun q => kf q H locs ls hl hW hS)

theorem g_if_eq {G : Gt} {d mc ms : Nat} {own : String} {y : Mt} {X : Xt} {P : Pt3} {pc nx : Nat} {lo : List (Option Value)} {st : List Value} {I : It} {h : Ht} {k n : Nat} {a : Int32} {off : Int} {tgt : Nat} (hX : Xok G own y X) (hd : dc y.2.1 pc (.ifCond .eq off) 3 nx) (ht : (pc : Int) + off = (tgt : Int)) (kt : a = 0 → GG G d mc ms X P tgt lo st I h k n) (kf : ¬ a = 0 → GG G d mc ms X P nx lo st I h k n) : GG G d mc ms X P pc lo (.int a :: st) I h k n := by
  obtain ⟨p, l, e, s, m, args, below, meth, c⟩ := X
  obtain ⟨hexec, hb, hml, hown, hts, hKs, hGk, hlk, hrt, hnm⟩ := hX
  obtain ⟨hd, hnx⟩ := hd
  subst hnx
  intro H locs ls hl hW hS
  exact lv_if_eq hexec hb hd ht (fun q => kt q H locs ls hl hW hS) (fun q => kf q H locs ls hl hW hS)

theorem g_icmp_ne {G : Gt} {d mc ms : Nat} {own : String} {y : Mt} {X : Xt} {P : Pt3} {pc nx : Nat} {lo : List (Option Value)} {st : List Value} {I : It} {h : Ht} {k n : Nat} {a b : Int32} {off : Int} {tgt : Nat} (hX : Xok G own y X) (hd : dc y.2.1 pc (.if_icmp .ne off) 3 nx) (ht : (pc : Int) + off = (tgt : Int)) (kt : a ≠ b → GG G d mc ms X P tgt lo st I h k n) (kf : a = b → GG G d mc ms X P nx lo st I h k n) : GG G d mc ms X P pc lo (.int b :: .int a :: st) I h k n := by
  obtain ⟨p, l, e, s, m, args, below, meth, c⟩ := X
  obtain ⟨hexec, hb, hml, hown, hts, hKs, hGk, hlk, hrt, hnm⟩ := hX
  obtain ⟨hd, hnx⟩ := hd
  subst hnx
  intro H locs ls hl hW hS
  exact lv_icmp_ne hexec hb hd ht (fun q => kt q H locs ls hl hW hS) (fun q => kf q H locs ls hl hW hS)

theorem g_if_ne {G : Gt} {d mc ms : Nat} {own : String} {y : Mt} {X : Xt} {P : Pt3} {pc nx : Nat} {lo : List (Option Value)} {st : List Value} {I : It} {h : Ht} {k n : Nat} {a : Int32} {off : Int} {tgt : Nat} (hX : Xok G own y X) (hd : dc y.2.1 pc (.ifCond .ne off) 3 nx) (ht : (pc : Int) + off = (tgt : Int)) (kt : a ≠ 0 → GG G d mc ms X P tgt lo st I h k n) (kf : a = 0 → GG G d mc ms X P nx lo st I h k n) : GG G d mc ms X P pc lo (.int a :: st) I h k n := by
  obtain ⟨p, l, e, s, m, args, below, meth, c⟩ := X
  obtain ⟨hexec, hb, hml, hown, hts, hKs, hGk, hlk, hrt, hnm⟩ := hX
  obtain ⟨hd, hnx⟩ := hd
  subst hnx
  intro H locs ls hl hW hS
  exact lv_if_ne hexec hb hd ht (fun q => kt q H locs ls hl hW hS) (fun q => kf q H locs ls hl hW hS)

theorem g_icmp_lt {G : Gt} {d mc ms : Nat} {own : String} {y : Mt} {X : Xt} {P : Pt3} {pc nx : Nat} {lo : List (Option Value)} {st : List Value} {I : It} {h : Ht} {k n : Nat} {a b : Int32} {off : Int} {tgt : Nat} (hX : Xok G own y X) (hd : dc y.2.1 pc (.if_icmp .lt off) 3 nx) (ht : (pc : Int) + off = (tgt : Int)) (kt : a < b → GG G d mc ms X P tgt lo st I h k n) (kf : ¬ a < b → GG G d mc ms X P nx lo st I h k n) : GG G d mc ms X P pc lo (.int b :: .int a :: st) I h k n := by
  obtain ⟨p, l, e, s, m, args, below, meth, c⟩ := X
  obtain ⟨hexec, hb, hml, hown, hts, hKs, hGk, hlk, hrt, hnm⟩ := hX
  obtain ⟨hd, hnx⟩ := hd
  subst hnx
  intro H locs ls hl hW hS
  exact lv_icmp_lt hexec hb hd ht (fun q => kt q H locs ls hl hW hS) (fun q => kf q H locs ls hl hW hS)

theorem g_if_lt {G : Gt} {d mc ms : Nat} {own : String} {y : Mt} {X : Xt} {P : Pt3} {pc nx : Nat} {lo : List (Option Value)} {st : List Value} {I : It} {h : Ht} {k n : Nat} {a : Int32} {off : Int} {tgt : Nat} (hX : Xok G own y X) (hd : dc y.2.1 pc (.ifCond .lt off) 3 nx) (ht : (pc : Int) + off = (tgt : Int)) (kt : a < 0 → GG G d mc ms X P tgt lo st I h k n) (kf : ¬ a < 0 → GG G d mc ms X P nx lo st I h k n) : GG G d mc ms X P pc lo (.int a :: st) I h k n := by
  obtain ⟨p, l, e, s, m, args, below, meth, c⟩ := X
  obtain ⟨hexec, hb, hml, hown, hts, hKs, hGk, hlk, hrt, hnm⟩ := hX
  obtain ⟨hd, hnx⟩ := hd
  subst hnx
  intro H locs ls hl hW hS
  exact lv_if_lt hexec hb hd ht (fun q => kt q H locs ls hl hW hS) (fun q => kf q H locs ls hl hW hS)

theorem g_icmp_ge {G : Gt} {d mc ms : Nat} {own : String} {y : Mt} {X : Xt} {P : Pt3} {pc nx : Nat} {lo : List (Option Value)} {st : List Value} {I : It} {h : Ht} {k n : Nat} {a b : Int32} {off : Int} {tgt : Nat} (hX : Xok G own y X) (hd : dc y.2.1 pc (.if_icmp .ge off) 3 nx) (ht : (pc : Int) + off = (tgt : Int)) (kt : b ≤ a → GG G d mc ms X P tgt lo st I h k n) (kf : ¬ b ≤ a → GG G d mc ms X P nx lo st I h k n) : GG G d mc ms X P pc lo (.int b :: .int a :: st) I h k n := by
  obtain ⟨p, l, e, s, m, args, below, meth, c⟩ := X
  obtain ⟨hexec, hb, hml, hown, hts, hKs, hGk, hlk, hrt, hnm⟩ := hX
  obtain ⟨hd, hnx⟩ := hd
  subst hnx
  intro H locs ls hl hW hS
  exact lv_icmp_ge hexec hb hd ht (fun q => kt q H locs ls hl hW hS) (fun q => kf q H locs ls hl hW hS)

theorem g_if_ge {G : Gt} {d mc ms : Nat} {own : String} {y : Mt} {X : Xt} {P : Pt3} {pc nx : Nat} {lo : List (Option Value)} {st : List Value} {I : It} {h : Ht} {k n : Nat} {a : Int32} {off : Int} {tgt : Nat} (hX : Xok G own y X) (hd : dc y.2.1 pc (.ifCond .ge off) 3 nx) (ht : (pc : Int) + off = (tgt : Int)) (kt : 0 ≤ a → GG G d mc ms X P tgt lo st I h k n) (kf : ¬ 0 ≤ a → GG G d mc ms X P nx lo st I h k n) : GG G d mc ms X P pc lo (.int a :: st) I h k n := by
  obtain ⟨p, l, e, s, m, args, below, meth, c⟩ := X
  obtain ⟨hexec, hb, hml, hown, hts, hKs, hGk, hlk, hrt, hnm⟩ := hX
  obtain ⟨hd, hnx⟩ := hd
  subst hnx
  intro H locs ls hl hW hS
  exact lv_if_ge hexec hb hd ht (fun q => kt q H locs ls hl hW hS) (fun q => kf q H locs ls hl hW hS)

theorem g_icmp_gt {G : Gt} {d mc ms : Nat} {own : String} {y : Mt} {X : Xt} {P : Pt3} {pc nx : Nat} {lo : List (Option Value)} {st : List Value} {I : It} {h : Ht} {k n : Nat} {a b : Int32} {off : Int} {tgt : Nat} (hX : Xok G own y X) (hd : dc y.2.1 pc (.if_icmp .gt off) 3 nx) (ht : (pc : Int) + off = (tgt : Int)) (kt : b < a → GG G d mc ms X P tgt lo st I h k n) (kf : ¬ b < a → GG G d mc ms X P nx lo st I h k n) : GG G d mc ms X P pc lo (.int b :: .int a :: st) I h k n := by
  obtain ⟨p, l, e, s, m, args, below, meth, c⟩ := X
  obtain ⟨hexec, hb, hml, hown, hts, hKs, hGk, hlk, hrt, hnm⟩ := hX
  obtain ⟨hd, hnx⟩ := hd
  subst hnx
  intro H locs ls hl hW hS
  exact lv_icmp_gt hexec hb hd ht (fun q => kt q H locs ls hl hW hS) (fun q => kf q H locs ls hl hW hS)

theorem g_if_gt {G : Gt} {d mc ms : Nat} {own : String} {y : Mt} {X : Xt} {P : Pt3} {pc nx : Nat} {lo : List (Option Value)} {st : List Value} {I : It} {h : Ht} {k n : Nat} {a : Int32} {off : Int} {tgt : Nat} (hX : Xok G own y X) (hd : dc y.2.1 pc (.ifCond .gt off) 3 nx) (ht : (pc : Int) + off = (tgt : Int)) (kt : 0 < a → GG G d mc ms X P tgt lo st I h k n) (kf : ¬ 0 < a → GG G d mc ms X P nx lo st I h k n) : GG G d mc ms X P pc lo (.int a :: st) I h k n := by
  obtain ⟨p, l, e, s, m, args, below, meth, c⟩ := X
  obtain ⟨hexec, hb, hml, hown, hts, hKs, hGk, hlk, hrt, hnm⟩ := hX
  obtain ⟨hd, hnx⟩ := hd
  subst hnx
  intro H locs ls hl hW hS
  exact lv_if_gt hexec hb hd ht (fun q => kt q H locs ls hl hW hS) (fun q => kf q H locs ls hl hW hS)

theorem g_icmp_le {G : Gt} {d mc ms : Nat} {own : String} {y : Mt} {X : Xt} {P : Pt3} {pc nx : Nat} {lo : List (Option Value)} {st : List Value} {I : It} {h : Ht} {k n : Nat} {a b : Int32} {off : Int} {tgt : Nat} (hX : Xok G own y X) (hd : dc y.2.1 pc (.if_icmp .le off) 3 nx) (ht : (pc : Int) + off = (tgt : Int)) (kt : a ≤ b → GG G d mc ms X P tgt lo st I h k n) (kf : ¬ a ≤ b → GG G d mc ms X P nx lo st I h k n) : GG G d mc ms X P pc lo (.int b :: .int a :: st) I h k n := by
  obtain ⟨p, l, e, s, m, args, below, meth, c⟩ := X
  obtain ⟨hexec, hb, hml, hown, hts, hKs, hGk, hlk, hrt, hnm⟩ := hX
  obtain ⟨hd, hnx⟩ := hd
  subst hnx
  intro H locs ls hl hW hS
  exact lv_icmp_le hexec hb hd ht (fun q => kt q H locs ls hl hW hS) (fun q => kf q H locs ls hl hW hS)

theorem g_if_le {G : Gt} {d mc ms : Nat} {own : String} {y : Mt} {X : Xt} {P : Pt3} {pc nx : Nat} {lo : List (Option Value)} {st : List Value} {I : It} {h : Ht} {k n : Nat} {a : Int32} {off : Int} {tgt : Nat} (hX : Xok G own y X) (hd : dc y.2.1 pc (.ifCond .le off) 3 nx) (ht : (pc : Int) + off = (tgt : Int)) (kt : a ≤ 0 → GG G d mc ms X P tgt lo st I h k n) (kf : ¬ a ≤ 0 → GG G d mc ms X P nx lo st I h k n) : GG G d mc ms X P pc lo (.int a :: st) I h k n := by
  obtain ⟨p, l, e, s, m, args, below, meth, c⟩ := X
  obtain ⟨hexec, hb, hml, hown, hts, hKs, hGk, hlk, hrt, hnm⟩ := hX
  obtain ⟨hd, hnx⟩ := hd
  subst hnx
  intro H locs ls hl hW hS
  exact lv_if_le hexec hb hd ht (fun q => kt q H locs ls hl hW hS) (fun q => kf q H locs ls hl hW hS)

theorem g_goto {G : Gt} {d mc ms : Nat} {own : String} {y : Mt} {X : Xt} {P : Pt3} {pc nx : Nat} {lo : List (Option Value)} {st : List Value} {I : It} {h : Ht} {k n : Nat} {off : Int} {tgt : Nat} (hX : Xok G own y X) (hd : dc y.2.1 pc (.goto off) 3 nx) (ht : (pc : Int) + off = (tgt : Int)) (kk : GG G d mc ms X P tgt lo st I h k n) : GG G d mc ms X P pc lo st I h k n := by
  obtain ⟨p, l, e, s, m, args, below, meth, c⟩ := X
  obtain ⟨hexec, hb, hml, hown, hts, hKs, hGk, hlk, hrt, hnm⟩ := hX
  obtain ⟨hd, hnx⟩ := hd
  subst hnx
  intro H locs ls hl hW hS
  exact lv_goto hexec hb hd ht (kk H locs ls hl hW hS)

theorem g_ifnull {G : Gt} {d mc ms : Nat} {own : String} {y : Mt} {X : Xt} {P : Pt3} {pc nx : Nat} {lo : List (Option Value)} {st : List Value} {I : It} {h : Ht} {k n : Nat}  {off : Int} {tgt : Nat} (hX : Xok G own y X) (hd : dc y.2.1 pc (.ifnull off) 3 nx) (ht : (pc : Int) + off = (tgt : Int)) (kk : GG G d mc ms X P tgt lo st I h k n) : GG G d mc ms X P pc lo (.null :: st) I h k n := by
  obtain ⟨p, l, e, s, m, args, below, meth, c⟩ := X
  obtain ⟨hexec, hb, hml, hown, hts, hKs, hGk, hlk, hrt, hnm⟩ := hX
  obtain ⟨hd, hnx⟩ := hd
  subst hnx
  intro H locs ls hl hW hS
  exact lv_ifnullN hexec hb hd ht (kk H locs ls hl hW hS)

theorem g_ifnullR {G : Gt} {d mc ms : Nat} {own : String} {y : Mt} {X : Xt} {P : Pt3} {pc nx : Nat} {lo : List (Option Value)} {st : List Value} {I : It} {h : Ht} {k n : Nat} {q : Nat} {off : Int} (hX : Xok G own y X) (hd : dc y.2.1 pc (.ifnull off) 3 nx) (kk : GG G d mc ms X P nx lo st I h k n) : GG G d mc ms X P pc lo (.ref q :: st) I h k n := by
  obtain ⟨p, l, e, s, m, args, below, meth, c⟩ := X
  obtain ⟨hexec, hb, hml, hown, hts, hKs, hGk, hlk, hrt, hnm⟩ := hX
  obtain ⟨hd, hnx⟩ := hd
  subst hnx
  intro H locs ls hl hW hS
  exact lv_ifnull hexec hb hd (kk H locs ls hl hW hS)

theorem g_ifnonnull {G : Gt} {d mc ms : Nat} {own : String} {y : Mt} {X : Xt} {P : Pt3} {pc nx : Nat} {lo : List (Option Value)} {st : List Value} {I : It} {h : Ht} {k n : Nat} {q : Nat} {off : Int} {tgt : Nat} (hX : Xok G own y X) (hd : dc y.2.1 pc (.ifnonnull off) 3 nx) (ht : (pc : Int) + off = (tgt : Int)) (kk : GG G d mc ms X P tgt lo st I h k n) : GG G d mc ms X P pc lo (.ref q :: st) I h k n := by
  obtain ⟨p, l, e, s, m, args, below, meth, c⟩ := X
  obtain ⟨hexec, hb, hml, hown, hts, hKs, hGk, hlk, hrt, hnm⟩ := hX
  obtain ⟨hd, hnx⟩ := hd
  subst hnx
  intro H locs ls hl hW hS
  exact lv_ifnonnull hexec hb hd ht (kk H locs ls hl hW hS)

theorem g_ifnonnullN {G : Gt} {d mc ms : Nat} {own : String} {y : Mt} {X : Xt} {P : Pt3} {pc nx : Nat} {lo : List (Option Value)} {st : List Value} {I : It} {h : Ht} {k n : Nat}  {off : Int} (hX : Xok G own y X) (hd : dc y.2.1 pc (.ifnonnull off) 3 nx) (kk : GG G d mc ms X P nx lo st I h k n) : GG G d mc ms X P pc lo (.null :: st) I h k n := by
  obtain ⟨p, l, e, s, m, args, below, meth, c⟩ := X
  obtain ⟨hexec, hb, hml, hown, hts, hKs, hGk, hlk, hrt, hnm⟩ := hX
  obtain ⟨hd, hnx⟩ := hd
  subst hnx
  intro H locs ls hl hW hS
  exact lv_ifnonnullN hexec hb hd (kk H locs ls hl hW hS)
end
section
/-! fields -/
def CLS (ci : Nat) (C : String) (T : u_T) (N : Nat) (ty : Nat → FieldType) : Prop :=
  vwCl[ci]? = some (C, T, N) ∧ (∀ w ∈ u_ws C T N, w ∈ TG) ∧ (∀ k, k < N → parseFieldDescriptor (T k).2.2.1 = some (ty k)) ∧ (∀ a, a < N → ∀ b, b < N → a ≠ b → (T a).2.1 ≠ (T b).2.1) ∧ nf ci = N ∧ ci < 13
theorem ent_obj {G : Gt} {I : It} {h : Ht} {q ci : Nat} (hc : (hs h q).1 = ci) (h13 : ci < 13) : ent G I h q = .inr (ci, fvs G I h q ci) := by
  subst hc
  unfold ent
  rw [if_pos h13]
theorem ent_int {G : Gt} {I : It} {h : Ht} {q t len : Nat} (hc : hs h q = (t, len)) (ht : t = 20 ∨ t = 22 ∨ t = 23) : ent G I h q = .inl (gc G t, len, .inl (I q)) := by
  unfold ent
  rw [hc]
  rcases ht with rfl | rfl | rfl <;> rfl
theorem ent_long {G : Gt} {I : It} {h : Ht} {q len : Nat} (hc : hs h q = (21, len)) : ent G I h q = .inl (gc G 21, len, .inr (.inl (hL h q))) := by
  unfold ent
  rw [hc]
  rfl
theorem ent_ref {G : Gt} {I : It} {h : Ht} {q t len : Nat} (hc : hs h q = (t, len)) (ht : 24 ≤ t) : ent G I h q = .inl (gc G t, len, .inr (.inr (.inr (.inr (fun j => (hR h q j).map (ga G)))))) := by
  unfold ent
  rw [hc]
  simp only []
  rw [if_neg (by omega), if_neg (by omega), if_neg (by omega)]
def Fln (own ref : String) (T : u_T) (idx j : Nat) : Prop := Cond.fieldLink own idx ref (T j).2.1 (T j).2.2.1 ∈ TG ∧ ((T j).1 = ref ∨ Cond.sameField ref (T j).1 (T j).2.1 (T j).2.2.1 ∈ TG)
theorem fln_same {own ref : String} {T : u_T} {idx j : Nat} {s : State} {args : Array Value} (hts : ∀ w ∈ TG, w.before args s = true) (hl : Fln own ref T idx j) : ∀ x, s.fieldFound? (T j).1 (T j).2.1 (T j).2.2.1 = some x → s.fieldFound? ref (T j).2.1 (T j).2.2.1 = some x := by
  intro x hx
  rcases hl.2 with e | e
  · rw [← e]; exact hx
  · exact u_same (hts _ e) x hx
def loc0 : List Value → Nat → List (Option Value) := fun vs => match vs with
  | [] => fun n => List.replicate n none
  | v :: vs => fun n => if v.category = 2 then some v :: none :: loc0 vs (n - 2) else some v :: loc0 vs (n - 1)
section HR
variable {G : Gt} {d mc ms : Nat} {own : String} {y : Mt} {X : Xt} {P : Pt3} {pc nx : Nat} {lo : List (Option Value)} {st : List Value} {I : It} {h : Ht} {k n : Nat}
theorem g_get (hX : Xok G own y X) {idx ci N j q : Nat} {C ref : String} {T : u_T} {ty : Nat → FieldType} (hd : dc y.2.1 pc (.getfield idx) 3 nx) (hC : CLS ci C T N ty) (hl : Fln own ref T idx j) (hj : j < N) (hq : q < hn h) (hc : (hs h q).1 = ci)
    (kk : GG G d mc ms X P nx lo (fvl I h q ci j :: st) I h k n) : GG G d mc ms X P pc lo (.ref q :: st) I h k n := by
  obtain ⟨p, l, e, s, m, args, below, meth, c⟩ := X
  obtain ⟨hexec, hb, hml, hown, hts, hKs, hGk, hlk, hrt, hnm⟩ := hX
  obtain ⟨hd, rfl⟩ := hd
  obtain ⟨h1, h2, h3, h4, h5, h6⟩ := hC
  intro H locs ls hlv hW hS
  exact va_get (ci := ci) (C := C) (T := T) (N := N) hexec hb hts h2 hown hKs.1 hW.1 q (by rw [wl_get hq, ent_obj hc h6]) h1 j hj (hts _ hl.1) (fln_same hts hl) (fvs_get (by rw [h5]; exact hj)) hd (kk H locs ls hlv hW hS)
theorem g_getI (hX : Xok G own y X) {idx ci N j q : Nat} {C ref : String} {T : u_T} {ty : Nat → FieldType} (hd : dc y.2.1 pc (.getfield idx) 3 nx) (hC : CLS ci C T N ty) (hl : Fln own ref T idx j) (hj : j < N) (hr : isr ci j = false) (hq : q < hn h) (hc : (hs h q).1 = ci)
    (kk : GG G d mc ms X P nx lo (.int (I q j) :: st) I h k n) : GG G d mc ms X P pc lo (.ref q :: st) I h k n :=
  g_get hX hd hC hl hj hq hc (by unfold fvl; rw [hr]; exact kk)
theorem g_getR (hX : Xok G own y X) {idx ci N j q : Nat} {C ref : String} {T : u_T} {ty : Nat → FieldType} {r : Option Nat} (hd : dc y.2.1 pc (.getfield idx) 3 nx) (hC : CLS ci C T N ty) (hl : Fln own ref T idx j) (hj : j < N) (hr : isr ci j = true) (hq : q < hn h) (hc : (hs h q).1 = ci) (hv : hR h q j = r)
    (kk : GG G d mc ms X P nx lo (rv r :: st) I h k n) : GG G d mc ms X P pc lo (.ref q :: st) I h k n :=
  g_get hX hd hC hl hj hq hc (by unfold fvl; rw [hr]; subst hv; exact kk)
theorem g_put0 (hX : Xok G own y X) {idx ci N j q : Nat} {C ref : String} {T : u_T} {ty : Nat → FieldType} {v : Value} {I' : It} {h' : Ht} (hd : dc y.2.1 pc (.putfield idx) 3 nx) (hC : CLS ci C T N ty) (hl : Fln own ref T idx j) (hj : j < N) (hq : q < hn h) (hc : (hs h q).1 = ci)
    (hfin : (T j).2.2.2 = false ∨ ((T j).2.2.2 = true ∧ y.1.name = "<init>" ∧ (T j).1 = own)) (hnr : narrow (ty j) (cv G v) = cv G v) (hft : fits (ty j) (cv G v) = true)
    (hn' : hn h' = hn h) (hs' : hs h' = hs h) (hv : fvl I' h' q ci j = v) (ho : ∀ b, b ≠ j → fvl I' h' q ci b = fvl I h q ci b) (hoq : ∀ a, a ≠ q → ent G I' h' a = ent G I h a)
    (kk : GG G d mc ms X P nx lo st I' h' k n) : GG G d mc ms X P pc lo (v :: .ref q :: st) I h k n := by
  obtain ⟨p, l, e, s, m, args, below, meth, c⟩ := X
  obtain ⟨hexec, hb, hml, hown, hts, hKs, hGk, hlk, hrt, hnm⟩ := hX
  obtain ⟨hd, rfl⟩ := hd
  obtain ⟨h1, h2, h3, h4, h5, h6⟩ := hC
  intro H locs ls hlv hW hS
  have hset : (wl G I h).set q (ga G q, .inr (ci, (fvs G I h q ci).set j (cv G v))) = wl G I' h' :=
    wl_set hn' (by rw [ent_obj (by rw [hs']; exact hc) h6, fvs_set (I' := I') (h' := h') (by rw [hv]) ho]) hoq
  have key : ∀ (H1 : Heap) (locs1 : List Loc), va_P (gD G) vwCl ((wl G I h).set q (ga G q, .inr (ci, (fvs G I h q ci).set j (cv G v)))) H1 → va_S (gA G) s.heap H1 locs1 → H1.size = H.size →
      W p l e (rmd d mc ms) s m args below meth c H1 locs1 k n (MQ below (QC G P) args s mc ms (gA G)) (F0 m (pc + 3) ls (st.map (cv G))) := by
    intro H1 locs1 hP1 hS1 hz
    rw [hset] at hP1
    exact kk H1 locs1 ls hlv ⟨hP1, by rw [hz, hn']; exact hW.2⟩ hS1
  have hap := va_apart (own := own) hts h2 ty h3 h4 hKs.1 h1
  have he : ent G I h q = .inr (ci, fvs G I h q ci) := ent_obj hc h6
  have hget : (wl G I h)[q]? = some (ga G q, .inr (ci, fvs G I h q ci)) := by rw [wl_get hq, he]
  obtain ⟨r, g1, cell, q1, q2, q3, q4⟩ := hW.1 q _ hget
  have hr : r = (C, T, N) := Option.some.inj (g1.symm.trans h1)
  subst hr
  obtain ⟨hSl, hfc, kC, hkC, hkind⟩ := hKs.1.1 ci _ h1
  obtain ⟨cf, kf, fi, f, hi, hsl⟩ := hSl j hj
  have hlay := hts _ (h2 _ (u_in_lay hj))
  unfold u_lay at hlay
  have hst := (u_facts hfc hkC (u_lays hts h2 hj) hi).1
  have hlen : j < (fvs G I h q ci).length := by rw [fvs_len, h5]; exact hj
  rcases hfin with hfin | ⟨hfin, hin2, hdecl⟩
  · rw [if_neg (by rw [hfin]; decide)] at hlay
    have h6' := u_store hfc hkC hkind hlay hi (h3 j hj) hnr hft
    refine W.putK hexec hb (f := f) ⟨hown, hts _ hl.1, ⟨_, _, _, fln_same hts hl _ hi⟩, hst⟩ (by rw [q2]; exact h6') q1 q3 (by rw [hsl]; exact k2_hasslot (q4 j hj)) rfl rfl hd fun H' e1 e2 e3 => ?_
    rw [hsl] at e1 ⊢
    exact key H' _ (hW.1.set (wl_D hGk I h) hget ⟨_, h1, t_OB.to (V := updV (vp_V (fvs G I h q ci)) j (cv G v)) ⟨_, e1, q2, q3, t_set q4 hap hj (cv G v)⟩ (fun i _ => vp_updV_set hlen (cv G v) i)⟩ e3) (hS.put e2 e3 (hGk.2 q)) e2
  · rw [if_pos hfin] at hlay
    have hcf : m.cls = cf := by
      obtain ⟨_, _, c', _, _, _, -, -, hf', -, -, -, hown2, -⟩ := Cond.laysFinal_spec hlay
      have e1 : c' = cf := by have := hi.symm.trans hf'; simp at this; exact this.1.symm
      rw [hdecl] at hown2
      rw [← e1]; exact Option.some.inj (hown.symm.trans hown2)
    have h6' := u_fits hfc hkC hkind (Or.inr hlay) hi (h3 j hj) hnr hft
    refine W.putFinK hexec hb hown (hts _ hl.1) (fln_same hts hl _ hi) hst hcf (hnm.trans hin2) (by rw [q2]; exact h6') q1 q3 (by rw [hsl]; exact k2_hasslot (q4 j hj)) rfl rfl hd fun H' e1 e2 e3 => ?_
    rw [hsl] at e1 ⊢
    exact key H' _ (hW.1.set (wl_D hGk I h) hget ⟨_, h1, t_OB.to (V := updV (vp_V (fvs G I h q ci)) j (cv G v)) ⟨_, e1, q2, q3, t_set q4 hap hj (cv G v)⟩ (fun i _ => vp_updV_set hlen (cv G v) i)⟩ e3) (hS.put e2 e3 (hGk.2 q)) e2
theorem g_putI (hX : Xok G own y X) {idx ci N j q : Nat} {C ref : String} {T : u_T} {ty : Nat → FieldType} {x : Int32} (hd : dc y.2.1 pc (.putfield idx) 3 nx) (hC : CLS ci C T N ty) (hl : Fln own ref T idx j) (hj : j < N) (hr : isr ci j = false) (hq : q < hn h) (hc : (hs h q).1 = ci)
    (hfin : (T j).2.2.2 = false ∨ ((T j).2.2.2 = true ∧ y.1.name = "<init>" ∧ (T j).1 = own)) (hnr : narrow (ty j) (.int x) = .int x) (hft : fits (ty j) (.int x) = true)
    (kk : GG G d mc ms X P nx lo st (upI I q j x) h k n) : GG G d mc ms X P pc lo (.int x :: .ref q :: st) I h k n :=
  g_put0 hX hd hC hl hj hq hc hfin hnr hft rfl rfl (by unfold fvl; rw [hr]; simp [upI]) (fun b hb => by unfold fvl; simp [upI, hb]) (fun a ha => ent_congr (upI_off ha) rfl rfl rfl) kk
theorem g_putR (hX : Xok G own y X) {idx ci N j q : Nat} {C ref : String} {T : u_T} {ty : Nat → FieldType} {r : Option Nat} {v : Value} (hd : dc y.2.1 pc (.putfield idx) 3 nx) (hC : CLS ci C T N ty) (hl : Fln own ref T idx j) (hj : j < N) (hr : isr ci j = true) (hq : q < hn h) (hc : (hs h q).1 = ci)
    (hfin : (T j).2.2.2 = false ∨ ((T j).2.2.2 = true ∧ y.1.name = "<init>" ∧ (T j).1 = own)) (hv : rv r = v) (hnr : narrow (ty j) (cv G v) = cv G v) (hft : fits (ty j) (cv G v) = true)
    (kk : GG G d mc ms X P nx lo st I (wR h q j r) k n) : GG G d mc ms X P pc lo (v :: .ref q :: st) I h k n :=
  g_put0 (I' := I) (h' := wR h q j r) hX hd hC hl hj hq hc hfin hnr hft rfl rfl (by unfold fvl; rw [hr]; simp [wR, hR, upR, hv]) (fun b hb => by unfold fvl; simp [wR, hR, upR, hb]) (fun a ha => ent_congr rfl rfl (by show upR (hR h) q j r a = _; exact upR_off ha) rfl) kk
/-! arrays -/
theorem tys_at {G : Gt} {i t : Nat} {ty : FieldType} (hi : tysL[i]? = some (t, ty)) : (tysG G)[i]? = some (gc G t, ty) := by
  unfold tysG
  rw [List.getElem?_map, hi]
  rfl
theorem g_iaload (hX : Xok G own y X) {q len : Nat} {i : Int32} (hd : dc y.2.1 pc .iaload 1 nx) (hq : q < hn h) (hc : hs h q = (20, len)) (hin : vp_in i len)
    (kk : GG G d mc ms X P nx lo (.int (I q i.toNatClampNeg) :: st) I h k n) : GG G d mc ms X P pc lo (.int i :: .ref q :: st) I h k n := by
  obtain ⟨p, l, e, s, m, args, below, meth, c⟩ := X
  obtain ⟨hexec, hb, hml, hown, hts, hKs, hGk, hlk, hrt, hnm⟩ := hX
  obtain ⟨hd, rfl⟩ := hd
  intro H locs ls hlv hW hS
  exact va_iald hexec hb hKs.1 hW.1 q 0 (by rw [wl_get hq, ent_int hc (Or.inl rfl)]) (tys_at rfl) hin hd (kk H locs ls hlv hW hS)
theorem g_baload (hX : Xok G own y X) {q len : Nat} {i : Int32} (hd : dc y.2.1 pc .baload 1 nx) (hq : q < hn h) (hc : hs h q = (22, len)) (hin : vp_in i len)
    (kk : GG G d mc ms X P nx lo (.int (I q i.toNatClampNeg) :: st) I h k n) : GG G d mc ms X P pc lo (.int i :: .ref q :: st) I h k n := by
  obtain ⟨p, l, e, s, m, args, below, meth, c⟩ := X
  obtain ⟨hexec, hb, hml, hown, hts, hKs, hGk, hlk, hrt, hnm⟩ := hX
  obtain ⟨hd, rfl⟩ := hd
  intro H locs ls hlv hW hS
  exact va_bald hexec hb hKs.1 hW.1 q 2 (by rw [wl_get hq, ent_int hc (Or.inr (Or.inl rfl))]) (tys_at rfl) hin hd (kk H locs ls hlv hW hS)
theorem g_zaload (hX : Xok G own y X) {q len : Nat} {i : Int32} (hd : dc y.2.1 pc .baload 1 nx) (hq : q < hn h) (hc : hs h q = (23, len)) (hin : vp_in i len)
    (kk : GG G d mc ms X P nx lo (.int (I q i.toNatClampNeg) :: st) I h k n) : GG G d mc ms X P pc lo (.int i :: .ref q :: st) I h k n := by
  obtain ⟨p, l, e, s, m, args, below, meth, c⟩ := X
  obtain ⟨hexec, hb, hml, hown, hts, hKs, hGk, hlk, hrt, hnm⟩ := hX
  obtain ⟨hd, rfl⟩ := hd
  intro H locs ls hlv hW hS
  exact va_zald hexec hb hKs.1 hW.1 q 3 (by rw [wl_get hq, ent_int hc (Or.inr (Or.inr rfl))]) (tys_at rfl) hin hd (kk H locs ls hlv hW hS)
theorem g_laload (hX : Xok G own y X) {q len : Nat} {i : Int32} (hd : dc y.2.1 pc .laload 1 nx) (hq : q < hn h) (hc : hs h q = (21, len)) (hin : vp_in i len)
    (kk : GG G d mc ms X P nx lo (.long (hL h q i.toNatClampNeg) :: st) I h k n) : GG G d mc ms X P pc lo (.int i :: .ref q :: st) I h k n := by
  obtain ⟨p, l, e, s, m, args, below, meth, c⟩ := X
  obtain ⟨hexec, hb, hml, hown, hts, hKs, hGk, hlk, hrt, hnm⟩ := hX
  obtain ⟨hd, rfl⟩ := hd
  intro H locs ls hlv hW hS
  exact va_lald hexec hb hKs.1 hW.1 q 1 (by rw [wl_get hq, ent_long hc]) (tys_at rfl) hin hd (kk H locs ls hlv hW hS)
theorem g_aaload (hX : Xok G own y X) {q t len i0 : Nat} {ty : FieldType} {i : Int32} {r : Option Nat} (hd : dc y.2.1 pc .aaload 1 nx) (hq : q < hn h) (hc : hs h q = (t, len)) (ht : 24 ≤ t) (hty : tysL[i0]? = some (t, ty)) (hrk : refKind ty = true) (hin : vp_in i len) (hr : hR h q i.toNatClampNeg = r)
    (kk : GG G d mc ms X P nx lo (rv r :: st) I h k n) : GG G d mc ms X P pc lo (.int i :: .ref q :: st) I h k n := by
  obtain ⟨p, l, e, s, m, args, below, meth, c⟩ := X
  obtain ⟨hexec, hb, hml, hown, hts, hKs, hGk, hlk, hrt, hnm⟩ := hX
  obtain ⟨hd, rfl⟩ := hd
  intro H locs ls hlv hW hS
  subst hr
  have hlt : i.toNatClampNeg < len := Nat.not_le.mp fun q => hin (Or.inr q)
  have hget : (wl G I h)[q]? = some (ga G q, .inl (gc G t, len, .inr (.inr (.inr (.inr (fun j => (hR h q j).map (ga G))))))) := by rw [wl_get hq, ent_ref hc ht]
  have hk := kk H locs ls hlv hW hS
  rw [List.map_cons, cv_rv] at hk
  exact W.aald (v := va_rf ((hR h q i.toNatClampNeg).map (ga G))) (ty := ty) hexec hb (hW.1 q _ hget) ((hKs.1.2 i0 _ (tys_at hty)).1 len (fun j => va_rf ((hR h q j).map (ga G)))) hrk (fun q => by cases q) (by show ¬ (i < 0 ∨ (arrV _ _ _).slots.size ≤ _); rw [arrV_size]; exact hin) (by show (arrV _ _ _).slots[_]? = _; rw [arrV_read _ _ hlt]) rfl rfl hd hk
theorem g_alen (hX : Xok G own y X) {q t len i0 : Nat} {ty : FieldType} {v : Int32} (hd : dc y.2.1 pc .arraylength 1 nx) (hq : q < hn h) (hc : hs h q = (t, len)) (ht : t = 20 ∨ t = 22 ∨ t = 23 ∨ t = 21 ∨ 24 ≤ t) (hty : tysL[i0]? = some (t, ty)) (hv : Int32.ofNat len = v)
    (kk : GG G d mc ms X P nx lo (.int v :: st) I h k n) : GG G d mc ms X P pc lo (.ref q :: st) I h k n := by
  obtain ⟨p, l, e, s, m, args, below, meth, c⟩ := X
  obtain ⟨hexec, hb, hml, hown, hts, hKs, hGk, hlk, hrt, hnm⟩ := hX
  obtain ⟨hd, rfl⟩ := hd
  intro H locs ls hlv hW hS
  have hk := kk H locs ls hlv hW hS
  rcases ht with ht | ht | ht | ht | ht
  · exact va_alen hexec hb hKs.1 hW.1 q i0 (by rw [wl_get hq, ent_int hc (Or.inl ht)]) (tys_at hty) hv hd hk
  · exact va_alen hexec hb hKs.1 hW.1 q i0 (by rw [wl_get hq, ent_int hc (Or.inr (Or.inl ht))]) (tys_at hty) hv hd hk
  · exact va_alen hexec hb hKs.1 hW.1 q i0 (by rw [wl_get hq, ent_int hc (Or.inr (Or.inr ht))]) (tys_at hty) hv hd hk
  · subst ht
    exact va_alen hexec hb hKs.1 hW.1 q i0 (by rw [wl_get hq, ent_long hc]) (tys_at hty) hv hd hk
  · exact va_alen hexec hb hKs.1 hW.1 q i0 (by rw [wl_get hq, ent_ref hc ht]) (tys_at hty) hv hd hk
theorem wd_set {G : Gt} {I I' : It} {h h' : Ht} {q : Nat} {e : va_E} {H H1 : Heap} (hw : (wl G I h).set q (ga G q, e) = wl G I' h') (hP : va_P (gD G) vwCl ((wl G I h).set q (ga G q, e)) H1) (hz : H1.size = H.size) (hW : Wd G I h H) (hn' : hn h' = hn h) : Wd G I' h' H1 := ⟨by rw [← hw]; exact hP, by rw [hz, hn']; exact hW.2⟩
theorem g_iastore (hX : Xok G own y X) {q len : Nat} {i x : Int32} (hd : dc y.2.1 pc .iastore 1 nx) (hq : q < hn h) (hc : hs h q = (20, len)) (hin : vp_in i len)
    (kk : GG G d mc ms X P nx lo st (upI I q i.toNatClampNeg x) h k n) : GG G d mc ms X P pc lo (.int x :: .int i :: .ref q :: st) I h k n := by
  obtain ⟨p, l, e, s, m, args, below, meth, c⟩ := X
  obtain ⟨hexec, hb, hml, hown, hts, hKs, hGk, hlk, hrt, hnm⟩ := hX
  obtain ⟨hd, rfl⟩ := hd
  intro H locs ls hlv hW hS
  have hget : (wl G I h)[q]? = some (ga G q, .inl (gc G 20, len, .inl (I q))) := by rw [wl_get hq, ent_int hc (Or.inl rfl)]
  have hcell := hW.1 q _ hget
  refine W.iast hexec hb hcell ((hKs.1.2 0 _ (tys_at rfl)).1 len (fun j => .int (I q j))) (fun q => by cases q) (by show ¬ (i < 0 ∨ (arrV _ _ _).slots.size ≤ _); rw [arrV_size]; exact hin) rfl rfl hd fun H1 e1 z oq => ?_
  refine kk H1 _ ls hlv (wd_set (e := .inl (gc G 20, len, .inl (upd (I q) i.toNatClampNeg x))) (wl_set rfl (by rw [ent_int hc (Or.inl rfl), upI_row]) (fun a ha => ent_congr (upI_off ha) rfl rfl rfl)) (hW.1.set (wl_D hGk I h) hget ?_ oq) z hW rfl) (hS.put z oq (hGk.2 q))
  show H1[ga G q]? = some (vp_cell _ _)
  rw [e1, vp_cell_i, vp_cell_i, arrV_store]
  congr 2
  funext b
  by_cases hq : b = i.toNatClampNeg
  · subst hq
    simp [updV, upd]
  · simp [updV, upd, hq]
theorem g_bastore (hX : Xok G own y X) {q len : Nat} {i x : Int32} (hd : dc y.2.1 pc .bastore 1 nx) (hq : q < hn h) (hc : hs h q = (22, len)) (hin : vp_in i len)
    (kk : GG G d mc ms X P nx lo st (upI I q i.toNatClampNeg (vp_nar .byte x)) h k n) : GG G d mc ms X P pc lo (.int x :: .int i :: .ref q :: st) I h k n := by
  obtain ⟨p, l, e, s, m, args, below, meth, c⟩ := X
  obtain ⟨hexec, hb, hml, hown, hts, hKs, hGk, hlk, hrt, hnm⟩ := hX
  obtain ⟨hd, rfl⟩ := hd
  intro H locs ls hlv hW hS
  have hget : (wl G I h)[q]? = some (ga G q, .inl (gc G 22, len, .inl (I q))) := by rw [wl_get hq, ent_int hc (Or.inr (Or.inl rfl))]
  refine W.bast hexec hb (hW.1 q _ hget) ((hKs.1.2 2 _ (tys_at rfl)).1 len (fun j => .int (I q j))) (fun q => by cases q) (by show ¬ (i < 0 ∨ (arrV _ _ _).slots.size ≤ _); rw [arrV_size]; exact hin) rfl rfl hd fun H1 e1 z oq => ?_
  refine kk H1 _ ls hlv (wd_set (e := .inl (gc G 22, len, .inl (upd (I q) i.toNatClampNeg (vp_nar .byte x)))) (wl_set rfl (by rw [ent_int hc (Or.inr (Or.inl rfl)), upI_row]) (fun a ha => ent_congr (upI_off ha) rfl rfl rfl)) (hW.1.set (wl_D hGk I h) hget ?_ oq) z hW rfl) (hS.put z oq (hGk.2 q))
  show H1[ga G q]? = some (vp_cell _ _)
  rw [e1, vp_cell_i, vp_cell_i, arrV_store]
  congr 2
  funext b
  by_cases hq : b = i.toNatClampNeg
  · subst hq
    simp [updV, upd, vp_nar]
    try rfl
  · simp [updV, upd, hq]
theorem g_zastore (hX : Xok G own y X) {q len : Nat} {i x : Int32} (hd : dc y.2.1 pc .bastore 1 nx) (hq : q < hn h) (hc : hs h q = (23, len)) (hin : vp_in i len)
    (kk : GG G d mc ms X P nx lo st (upI I q i.toNatClampNeg (vp_nar .boolean x)) h k n) : GG G d mc ms X P pc lo (.int x :: .int i :: .ref q :: st) I h k n := by
  obtain ⟨p, l, e, s, m, args, below, meth, c⟩ := X
  obtain ⟨hexec, hb, hml, hown, hts, hKs, hGk, hlk, hrt, hnm⟩ := hX
  obtain ⟨hd, rfl⟩ := hd
  intro H locs ls hlv hW hS
  have hget : (wl G I h)[q]? = some (ga G q, .inl (gc G 23, len, .inl (I q))) := by rw [wl_get hq, ent_int hc (Or.inr (Or.inr rfl))]
  refine W.zast hexec hb (hW.1 q _ hget) ((hKs.1.2 3 _ (tys_at rfl)).1 len (fun j => .int (I q j))) (fun q => by cases q) (by show ¬ (i < 0 ∨ (arrV _ _ _).slots.size ≤ _); rw [arrV_size]; exact hin) rfl rfl hd fun H1 e1 z oq => ?_
  refine kk H1 _ ls hlv (wd_set (e := .inl (gc G 23, len, .inl (upd (I q) i.toNatClampNeg (vp_nar .boolean x)))) (wl_set rfl (by rw [ent_int hc (Or.inr (Or.inr rfl)), upI_row]) (fun a ha => ent_congr (upI_off ha) rfl rfl rfl)) (hW.1.set (wl_D hGk I h) hget ?_ oq) z hW rfl) (hS.put z oq (hGk.2 q))
  show H1[ga G q]? = some (vp_cell _ _)
  rw [e1, vp_cell_i, vp_cell_i, arrV_store]
  congr 2
  funext b
  by_cases hq : b = i.toNatClampNeg
  · subst hq
    simp [updV, upd, vp_nar]
    try rfl
  · simp [updV, upd, hq]
theorem g_lastore (hX : Xok G own y X) {q len : Nat} {i : Int32} {x : Int64} (hd : dc y.2.1 pc .lastore 1 nx) (hq : q < hn h) (hc : hs h q = (21, len)) (hin : vp_in i len)
    (kk : GG G d mc ms X P nx lo st I (wL h q i.toNatClampNeg x) k n) : GG G d mc ms X P pc lo (.long x :: .int i :: .ref q :: st) I h k n := by
  obtain ⟨p, l, e, s, m, args, below, meth, c⟩ := X
  obtain ⟨hexec, hb, hml, hown, hts, hKs, hGk, hlk, hrt, hnm⟩ := hX
  obtain ⟨hd, rfl⟩ := hd
  intro H locs ls hlv hW hS
  have hget : (wl G I h)[q]? = some (ga G q, .inl (gc G 21, len, .inr (.inl (hL h q)))) := by rw [wl_get hq, ent_long hc]
  refine W.last hexec hb (hW.1 q _ hget) ((hKs.1.2 1 _ (tys_at rfl)).1 len (fun j => .long (hL h q j))) (fun q => by cases q) (by show ¬ (i < 0 ∨ (arrV _ _ _).slots.size ≤ _); rw [arrV_size]; exact hin) rfl rfl hd fun H1 e1 z oq => ?_
  refine kk H1 _ ls hlv (wd_set (e := .inl (gc G 21, len, .inr (.inl (vp_updL (hL h q) i.toNatClampNeg x)))) (wl_set (h := h) (q := q) (h' := wL h q i.toNatClampNeg x) rfl (by rw [ent_long (h := wL h q i.toNatClampNeg x) hc, show hL (wL h q i.toNatClampNeg x) q = upL (hL h) q i.toNatClampNeg x q from rfl, upL_row]) (fun a ha => ent_congr rfl (by show upL (hL h) q i.toNatClampNeg x a = hL h a; exact upL_off ha) rfl rfl)) (hW.1.set (wl_D hGk I h) hget ?_ oq) z hW rfl) (hS.put z oq (hGk.2 q))
  show H1[ga G q]? = some (vp_cell _ _)
  rw [e1, vp_cell_l, vp_cell_l, arrV_store]
  congr 2
  funext b
  by_cases hq : b = i.toNatClampNeg
  · subst hq
    simp [updV, vp_updL]
  · simp [updV, vp_updL, hq]
theorem map_upR (G : Gt) (f : Nat → Nat → Option Nat) (q j : Nat) (x : Option Nat) : (fun b => (upR f q j x q b).map (ga G)) = va_up (fun b => (f q b).map (ga G)) j (x.map (ga G)) := by
  funext b
  by_cases hb : b = j
  · subst hb
    simp [upR, va_up]
  · simp [upR, va_up, hb]
theorem g_aastore0 (hX : Xok G own y X) {q t len i0 : Nat} {C : String} {i : Int32} (hd : dc y.2.1 pc .aastore 1 nx) (hq : q < hn h) (hc : hs h q = (t, len)) (ht : 24 ≤ t) (hty : tysL[i0]? = some (t, .object C)) (hin : vp_in i len)
    (kk : GG G d mc ms X P nx lo st I (wR h q i.toNatClampNeg none) k n) : GG G d mc ms X P pc lo (.null :: .int i :: .ref q :: st) I h k n := by
  obtain ⟨p, l, e, s, m, args, below, meth, c⟩ := X
  obtain ⟨hexec, hb, hml, hown, hts, hKs, hGk, hlk, hrt, hnm⟩ := hX
  obtain ⟨hd, rfl⟩ := hd
  intro H locs ls hlv hW hS
  have hget : (wl G I h)[q]? = some (ga G q, .inl (gc G t, len, .inr (.inr (.inr (.inr (fun j => (hR h q j).map (ga G))))))) := by rw [wl_get hq, ent_ref hc ht]
  refine va_WaastN (C := C) hexec hb (hW.1 q _ hget) ((hKs.1.2 i0 _ (tys_at hty)).1 len (fun j => va_rf ((hR h q j).map (ga G)))) (fun h => by cases h) (by show ¬ (i < 0 ∨ (arrV _ _ _).slots.size ≤ _); rw [arrV_size]; exact hin) rfl rfl hd fun H1 e1 z oq => ?_
  refine kk H1 _ ls hlv (wd_set (e := .inl (gc G t, len, .inr (.inr (.inr (.inr (va_up (fun j => (hR h q j).map (ga G)) i.toNatClampNeg none)))))) (wl_set (h := h) (q := q) (h' := wR h q i.toNatClampNeg none) rfl (by rw [ent_ref (h := wR h q i.toNatClampNeg none) hc ht, show hR (wR h q i.toNatClampNeg none) = upR (hR h) q i.toNatClampNeg none from rfl, map_upR]; rfl) (fun a ha => ent_congr rfl rfl (by show upR (hR h) q i.toNatClampNeg none a = hR h a; exact upR_off ha) rfl)) (hW.1.set (wl_D hGk I h) hget ?_ oq) z hW rfl) (hS.put z oq (hGk.2 q))
  show H1[ga G q]? = some (vp_cell _ _)
  rw [e1, vp_cell_q, vp_cell_q, arrV_store]
  congr 2
  funext b
  by_cases hq : b = i.toNatClampNeg
  · subst hq
    simp [updV, va_up, va_rf]
  · simp [updV, va_up, hq]
theorem g_aastore (hX : Xok G own y X) {q t len i0 v ci N : Nat} {C E : String} {T : u_T} {ty : Nat → FieldType} {i : Int32} (hd : dc y.2.1 pc .aastore 1 nx) (hq : q < hn h) (hc : hs h q = (t, len)) (ht : 24 ≤ t) (hty : tysL[i0]? = some (t, .object E)) (hin : vp_in i len)
    (hv : v < hn h) (hvc : (hs h v).1 = ci) (hC : CLS ci C T N ty) (hCE : C = E ∨ (C, E) ∈ castL)
    (kk : GG G d mc ms X P nx lo st I (wR h q i.toNatClampNeg (some v)) k n) : GG G d mc ms X P pc lo (.ref v :: .int i :: .ref q :: st) I h k n := by
  obtain ⟨p, l, e, s, m, args, below, meth, c⟩ := X
  obtain ⟨hexec, hb, hml, hown, hts, hKs, hGk, hlk, hrt, hnm⟩ := hX
  obtain ⟨hd, rfl⟩ := hd
  obtain ⟨c1, c2, c3, c4, c5, c6⟩ := hC
  intro H locs ls hlv hW hS
  have hget : (wl G I h)[q]? = some (ga G q, .inl (gc G t, len, .inr (.inr (.inr (.inr (fun j => (hR h q j).map (ga G))))))) := by rw [wl_get hq, ent_ref hc ht]
  have hgv : (wl G I h)[v]? = some (ga G v, .inr (ci, fvs G I h v ci)) := by rw [wl_get hv, ent_obj hvc c6]
  have hlt : i.toNatClampNeg < len := Nat.not_le.mp fun q => hin (Or.inr q)
  have h0 : ¬ i < 0 := fun q => hin (Or.inl q)
  obtain ⟨r', hr', cellV, g1, g2, g3, -⟩ := hW.1 v _ hgv
  have hcls := (hKs.1.1 ci _ c1).2
  obtain ⟨kA, comp, k1, k2, k3, -⟩ := (hKs.1.2 i0 _ (tys_at hty)).2
  obtain ⟨kE, hkE, -⟩ := Vm.findClass_spec k3
  obtain ⟨kC, hkC, -⟩ := hcls.2
  have hasg : s.vm.assignable cellV.cls comp = true := by
    rw [g2]
    rcases hCE with e | e
    · subst e
      have hcomp : comp = (gD G).1 ci := Option.some.inj (k3.symm.trans hcls.1)
      rw [hcomp]
      exact va_assign hcls
    · obtain ⟨c0, t1, f1, f2, f3⟩ := Cond.castable_spec (va_Nw.use (A := args) rfl (hKs.2.2.1 _ e))
      cases hcls.1.symm.trans f1
      cases k3.symm.trans f2
      exact f3
  refine W.aast hexec hb (hW.1 q _ hget) (fun q h => by cases h) (fun h => by cases h) k1 k2 rfl hkE ⟨h0, by show _ < (arrV _ _ _).slots.size; rw [arrV_size]; exact hlt⟩ g1 (fun q h => by rw [g3] at h; cases h) (by rw [g2]; exact hkC) hasg rfl rfl hd fun H1 e1 z oq => ?_
  refine kk H1 _ ls hlv (wd_set (e := .inl (gc G t, len, .inr (.inr (.inr (.inr (va_up (fun j => (hR h q j).map (ga G)) i.toNatClampNeg (some (ga G v)))))))) (wl_set (h := h) (q := q) (h' := wR h q i.toNatClampNeg (some v)) rfl (by rw [ent_ref (h := wR h q i.toNatClampNeg (some v)) hc ht, show hR (wR h q i.toNatClampNeg (some v)) = upR (hR h) q i.toNatClampNeg (some v) from rfl, map_upR]; rfl) (fun a ha => ent_congr rfl rfl (by show upR (hR h) q i.toNatClampNeg (some v) a = hR h a; exact upR_off ha) rfl)) (hW.1.set (wl_D hGk I h) hget ?_ oq) z hW rfl) (hS.put z oq (hGk.2 q))
  show H1[ga G q]? = some (vp_cell _ _)
  rw [e1, vp_cell_q, vp_cell_q, arrV_store]
  congr 2
  funext b
  by_cases hq : b = i.toNatClampNeg
  · subst hq
    simp [updV, va_up, va_rf]
  · simp [updV, va_up, hq]
/-! the ends -/
theorem wd_end {args : Array Value} {s : State} {H : Heap} {locs : List Loc} {v : Option Value} (hp : P v I h) (hW : Wd G I h H) (hS : va_S (gA G) s.heap H locs) : ∀ t : State, t.heap = H → s.WarmedH t.vm → QC G P args s (.returned (v.map (cv G))) t :=
  fun t ht _ => ⟨⟨v, I, h, rfl, hp, by rw [ht]; exact hW⟩, hS.F ht⟩
theorem g_ireturn (hX : Xok G own y X) {x : Int32} {ty : FieldType} (hd : dc y.2.1 pc .ireturn 1 nx) (hr : y.2.2.2 = some ty) (hnr : narrow ty (.int x) = .int x) (hk : k ≤ mc) (hn' : n ≤ ms) (hp : P (some (.int x)) I h) : GG G d mc ms X P pc lo [.int x] I h k n := by
  obtain ⟨p, l, e, s, m, args, below, meth, c⟩ := X
  obtain ⟨hexec, hb, hml, hown, hts, hKs, hGk, hlk, hrt, hnm⟩ := hX
  obtain ⟨hd, rfl⟩ := hd
  intro H locs ls hlv hW hS
  exact W.widen hk hn' (W.zret (v := x) hexec hb (hrt.trans hr) hnr (wd_end (v := some (.int x)) hp hW hS) hS.2.2 hd hlk)
theorem g_lreturn (hX : Xok G own y X) {x : Int64} (hd : dc y.2.1 pc .lreturn 1 nx) (hr : y.2.2.2 = some .long) (hk : k ≤ mc) (hn' : n ≤ ms) (hp : P (some (.long x)) I h) : GG G d mc ms X P pc lo [.long x] I h k n := by
  obtain ⟨p, l, e, s, m, args, below, meth, c⟩ := X
  obtain ⟨hexec, hb, hml, hown, hts, hKs, hGk, hlk, hrt, hnm⟩ := hX
  obtain ⟨hd, rfl⟩ := hd
  intro H locs ls hlv hW hS
  exact W.widen hk hn' (W.lret (v := x) hexec hb (hrt.trans hr) (wd_end (v := some (.long x)) hp hW hS) hS.2.2 hd hlk)
theorem g_return (hX : Xok G own y X) (hd : dc y.2.1 pc .return_ 1 nx) (hr : y.2.2.2 = none) (hk : k ≤ mc) (hn' : n ≤ ms) (hp : P none I h) : GG G d mc ms X P pc lo [] I h k n := by
  obtain ⟨p, l, e, s, m, args, below, meth, c⟩ := X
  obtain ⟨hexec, hb, hml, hown, hts, hKs, hGk, hlk, hrt, hnm⟩ := hX
  obtain ⟨hd, rfl⟩ := hd
  intro H locs ls hlv hW hS
  exact W.widen hk hn' (W.vret hexec hb (hrt.trans hr) (wd_end (v := none) hp hW hS) hS.2.2 hd hlk)
theorem g_areturn (hX : Xok G own y X) {r : Option Nat} {v : Value} {rt : FieldType} (hd : dc y.2.1 pc .areturn 1 nx) (hv : rv r = v) (hr : y.2.2.2 = some rt) (hrt' : (∃ n, rt = .object n) ∨ ∃ t, rt = .array t) (hk : k ≤ mc) (hn' : n ≤ ms) (hp : P (some (rv r)) I h) : GG G d mc ms X P pc lo [v] I h k n := by
  obtain ⟨p, l, e, s, m, args, below, meth, c⟩ := X
  obtain ⟨hexec, hb, hml, hown, hts, hKs, hGk, hlk, hrt, hnm⟩ := hX
  obtain ⟨hd, rfl⟩ := hd
  subst hv
  intro H locs ls hlv hW hS
  exact W.widen hk hn' (W.aret (v := cv G (rv r)) hexec hb (hrt.trans hr) hrt' (by cases r <;> simp [rv, cv]) (wd_end (v := some (rv r)) hp hW hS) hS.2.2 hd hlk)
/-! the beginning -/
theorem lv_args_mem : ∀ (vs : List Value) (i n : Nat), ∀ q ∈ lpr G i (loc0 vs n), q ∈ lv_args i (vs.map (cv G)) := by
  intro vs
  induction vs with
  | nil =>
    intro i n q hq
    exfalso
    obtain ⟨j, v, h1, -⟩ := (lpr_mem _ _ _).mp hq
    have h2 := List.mem_of_getElem? h1
    simp [loc0] at h2
  | cons v vs ih =>
    intro i n q hq
    have hcat : (cv G v).category = v.category := cv_cat G v
    by_cases hc : v.category = 2
    · simp only [loc0, hc, if_true] at hq
      rw [show lpr G i (some v :: none :: loc0 vs (n - 2)) = (i, cv G v) :: lpr G (i + 2) (loc0 vs (n - 2)) from rfl] at hq
      simp only [List.map_cons, lv_args, hcat, hc, if_true]
      rcases List.mem_cons.mp hq with h | h
      · exact List.mem_cons.mpr (Or.inl h)
      · exact List.mem_cons.mpr (Or.inr (ih (i + 2) (n - 2) q h))
    · simp only [loc0, hc, if_false] at hq
      rw [show lpr G i (some v :: loc0 vs (n - 1)) = (i, cv G v) :: lpr G (i + 1) (loc0 vs (n - 1)) from rfl] at hq
      simp only [List.map_cons, lv_args, hcat, hc, if_false]
      rcases List.mem_cons.mp hq with h | h
      · exact List.mem_cons.mpr (Or.inl h)
      · exact List.mem_cons.mpr (Or.inr (ih (i + 1) (n - 1) q h))
theorem lg_sl_cv (G : Gt) (vs : List Value) : (lg_sl (vs.map (cv G))).length = (lg_sl vs).length := by
  induction vs with
  | nil => rfl
  | cons v vs ih =>
    simp only [lg_sl, List.map_cons, List.flatMap_cons, List.length_append] at ih ⊢
    rw [ih, cv_cat]
    split <;> rfl
theorem con_intro {av : List Value} {lo0 : List (Option Value)} (hG : Gok G) (hown : y.1.cls = own) (hpl : plainName y.1.cls = true) (hlen : (lg_sl av).length ≤ y.2.2.1) (hlo : loc0 av y.2.2.1 = lo0)
    (body : ∀ X, Xok G own y X → GG G d mc ms X P 0 lo0 [] I h 0 0) : Con G d mc ms y av I h P := by
  intro l
  refine Met.ofW (cc := y.2.1) (maxL := y.2.2.1) (ret := y.2.2.2) hpl rfl ?_
  intro p e s m args below meth c s₁ B hml hv
  obtain ⟨rfl, hW, hKs⟩ := hv
  have hts := atoms_spec (ws := ws y) B.pre
  have hX : Xok G own y (p, l, e, s, m, (av.map (cv G)).toArray, below, meth, c) :=
    ⟨B.exec, B.bytes, hml, by rw [← hown]; exact findClass_of_methodNamed B.named, fun w hw => hts w (List.mem_cons_of_mem _ hw), hKs, hG, B.notSynchronized, B.returns, (name_of_methodNamed B.named B.method).1⟩
  have hg := body _ hX
  rw [lg_entry_eq]
  exact hg s.heap [] _ (by rw [hml]; exact lv_fewer (lv_entry (av.map (cv G)) (n := y.2.2.1) (by rw [lg_sl_cv]; exact hlen)) (by subst hlo; exact lv_args_mem av 0 _)) hW va_S.rf
end HR
end
