def isrT : List (List Bool) := [[true, false, true, true, true, true, false, false, false, false, false, false, false, false, true, true], [false, false, false, false, false, false], [false, false, false, false, false, false], [false, false, false, true, true, true, true, false, true, false, false, false], [false, false, false, false, false, false], [true, true, false, false, false, true, false, false, false, false, true, true, false, true], [false, false, false, false, false, false], [true, false], [false, false, false, false, false, false], [false, false, false, false, false, false], [false, false, false, false, false, false], [true, true, false, true, true, false, true, false, true, true, true, true], [false, false, false, false, false, false, false, true, true, true, true, true, true, true, true, false, false, false, false, false, true, true, true, true, true, true, true, true, false, false, false, true, true, true, false, false, false, false, false, false, false, true, true, true, false, true, true, false, false, false, false, false, false, false, false, false, false, true, true, true, true, true, true, true, true, true, true, false, true, true, true, true, true]]
def nestL : List (String × Nat × MethodName × String) := [("NextOneKnows", 11, ⟨"NextOneKnows$State", "<init>", "()V"⟩, "NextOneKnows"), ("NextOneKnows", 42, ⟨"NextOneKnows$Trace", "<init>", "()V"⟩, "NextOneKnows"), ("NextOneKnows$Ahead", 79, ⟨"NextOneKnows", "bit", "(II)I"⟩, "NextOneKnows"), ("NextOneKnows$State", 97, ⟨"NextOneKnows", "bit", "(II)I"⟩, "NextOneKnows")]
def castL : List (String × String) := [("NextOneKnows$Why", "NextOneKnows$Written"), ("NextOneKnows$Tied", "NextOneKnows$Plain"), ("NextOneKnows$Wrong", "NextOneKnows$Rare"), ("NextOneKnows$Written", "NextOneKnows$Doing"), ("NextOneKnows$Plain", "NextOneKnows$Doing"), ("NextOneKnows$Rare", "NextOneKnows$Doing"), ("NextOneKnows$Why", "NextOneKnows$Doing"), ("NextOneKnows$Tied", "NextOneKnows$Doing"), ("NextOneKnows$Wrong", "NextOneKnows$Doing")]
def noCastL : List (String × String) := [("NextOneKnows$Plain", "NextOneKnows$Written"), ("NextOneKnows$Rare", "NextOneKnows$Written"), ("NextOneKnows$Tied", "NextOneKnows$Written"), ("NextOneKnows$Wrong", "NextOneKnows$Written"), ("NextOneKnows$Doing", "NextOneKnows$Written"), ("NextOneKnows$Written", "NextOneKnows$Plain"), ("NextOneKnows$Rare", "NextOneKnows$Plain"), ("NextOneKnows$Why", "NextOneKnows$Plain"), ("NextOneKnows$Wrong", "NextOneKnows$Plain"), ("NextOneKnows$Doing", "NextOneKnows$Plain"), ("NextOneKnows$Written", "NextOneKnows$Rare"), ("NextOneKnows$Plain", "NextOneKnows$Rare"), ("NextOneKnows$Why", "NextOneKnows$Rare"), ("NextOneKnows$Tied", "NextOneKnows$Rare"), ("NextOneKnows$Doing", "NextOneKnows$Rare"), ("NextOneKnows$Written", "NextOneKnows$Why"), ("NextOneKnows$Plain", "NextOneKnows$Why"), ("NextOneKnows$Rare", "NextOneKnows$Why"), ("NextOneKnows$Tied", "NextOneKnows$Why"), ("NextOneKnows$Wrong", "NextOneKnows$Why"), ("NextOneKnows$Doing", "NextOneKnows$Why"), ("NextOneKnows$Written", "NextOneKnows$Tied"), ("NextOneKnows$Plain", "NextOneKnows$Tied"), ("NextOneKnows$Rare", "NextOneKnows$Tied"), ("NextOneKnows$Why", "NextOneKnows$Tied"), ("NextOneKnows$Wrong", "NextOneKnows$Tied"), ("NextOneKnows$Doing", "NextOneKnows$Tied"), ("NextOneKnows$Written", "NextOneKnows$Wrong"), ("NextOneKnows$Plain", "NextOneKnows$Wrong"), ("NextOneKnows$Rare", "NextOneKnows$Wrong"), ("NextOneKnows$Why", "NextOneKnows$Wrong"), ("NextOneKnows$Tied", "NextOneKnows$Wrong"), ("NextOneKnows$Doing", "NextOneKnows$Wrong")]
/-! the abstract layer: a world of numbered cells, ints apart from the rest, one predicate GG for 'from here the method comes to an end that P allows' -/
abbrev It : Type := Nat → Nat → Int32
abbrev Ht : Type := (Nat → Nat → Int64) × (Nat → Nat → Option Nat) × (Nat → Nat × Nat) × Nat
abbrev Gt : Type := va_G × (Nat → ClassId) × (Nat → Nat) × (Nat → Nat) × (Nat → Prop)
abbrev Pt3 : Type := Option Value → It → Ht → Prop
def hL (h : Ht) : Nat → Nat → Int64 := h.1
def hR (h : Ht) : Nat → Nat → Option Nat := h.2.1
def hs (h : Ht) : Nat → Nat × Nat := h.2.2.1
def hn (h : Ht) : Nat := h.2.2.2
def gD (G : Gt) : va_G := G.1
def gc (G : Gt) : Nat → ClassId := G.2.1
def ga (G : Gt) : Nat → Nat := G.2.2.1
def gz (G : Gt) : Nat → Nat := G.2.2.2.1
def gA (G : Gt) : Nat → Prop := G.2.2.2.2
def rv (r : Option Nat) : Value := match r with
  | none => .null
  | some a => .ref a
def cv (G : Gt) : Value → Value := fun v => match v with
  | .ref a => .ref (ga G a)
  | w => w
theorem cv_cat (G : Gt) (v : Value) : (cv G v).category = v.category := by cases v <;> rfl
theorem cv_rv (G : Gt) (r : Option Nat) : cv G (rv r) = va_rf (r.map (ga G)) := by cases r <;> rfl
def isr (c j : Nat) : Bool := (isrT.getD c []).getD j false
def nf (c : Nat) : Nat := (isrT.getD c []).length
def fvl (I : It) (h : Ht) (q c j : Nat) : Value := if isr c j then rv (hR h q j) else .int (I q j)
def fvs (G : Gt) (I : It) (h : Ht) (q c : Nat) : List Value := (List.range (nf c)).map fun j => cv G (fvl I h q c j)
def ent (G : Gt) (I : It) (h : Ht) (q : Nat) : va_E :=
  if (hs h q).1 < 13 then .inr ((hs h q).1, fvs G I h q (hs h q).1)
  else if (hs h q).1 = 21 then .inl (gc G (hs h q).1, (hs h q).2, .inr (.inl (hL h q)))
  else if (hs h q).1 < 24 then .inl (gc G (hs h q).1, (hs h q).2, .inl (I q))
  else .inl (gc G (hs h q).1, (hs h q).2, .inr (.inr (.inr (.inr (fun j => (hR h q j).map (ga G))))))
def wl (G : Gt) (I : It) (h : Ht) : va_W := (List.range (hn h)).map fun q => (ga G q, ent G I h q)
def Wd (G : Gt) (I : It) (h : Ht) (H : Heap) : Prop := va_P (gD G) vwCl (wl G I h) H ∧ H.size = gz G (hn h)
def tysL : List (Nat × FieldType) := [(20, .int), (21, .long), (22, .byte), (23, .boolean), (24, .object "NextOneKnows$Doing"), (25, .object "NextOneKnows$Post"), (26, .array .int), (27, .array .long)]
def tysG (G : Gt) : List (ClassId × FieldType) := tysL.map fun q => (gc G q.1, q.2)
/-- what of the tables is no word that a contract may hold -/
def Kw (U : State) : Prop := (∀ q ∈ nestL, va_Nw (.methodLinkNest q.1 q.2.1 q.2.2.1 q.2.2.2) U) ∧ (∀ q ∈ castL, va_Nw (.castable q.1 q.2) U) ∧ (∀ q ∈ noCastL, va_Nc q.1 q.2 U) ∧
  (va_AO "NextOneKnows$Doing" U ∧ va_AO "NextOneKnows$Post" U) ∧ (Cond.arrayOver (.array .int)).before #[] U = true ∧ (Cond.arrayOver (.array .long)).before #[] U = true
theorem Kw.moved {u U : State} (hW : u.WarmedH U.vm) (h : Kw u) : Kw U :=
  ⟨fun q hq => (h.1 q hq).warmM hW, fun q hq => (h.2.1 q hq).warmC hW, fun q hq => (h.2.2.1 q hq).moved hW.alike, ⟨h.2.2.2.1.1.moved hW.alike, h.2.2.2.1.2.moved hW.alike⟩, over_moved hW.alike h.2.2.2.2.1, over_moved hW.alike h.2.2.2.2.2⟩
theorem Kw.same {u U : State} (hv : u.vm = U.vm) (h : Kw u) : Kw U :=
  have hal : u.vm.Alike U.vm := by rw [hv]; exact Vm.Alike.refl U.vm
  ⟨fun q hq => va_Nw.same rfl hv (h.1 q hq), fun q hq => va_Nw.same rfl hv (h.2.1 q hq), fun q hq => (h.2.2.1 q hq).moved hal, ⟨h.2.2.2.1.1.moved hal, h.2.2.2.1.2.moved hal⟩, over_moved hal h.2.2.2.2.1, over_moved hal h.2.2.2.2.2⟩
def Ks (G : Gt) (U : State) : Prop := va_K (gD G) vwCl (tysG G) U ∧ Kw U
theorem Ks.moved {G : Gt} {u U : State} (hW : u.WarmedH U.vm) (h : Ks G u) : Ks G U := ⟨va_K.moved hW.alike h.1, h.2.moved hW⟩
theorem Ks.same {G : Gt} {u U : State} (hv : u.vm = U.vm) (h : Ks G u) : Ks G U := ⟨va_K.moved (by rw [hv]; exact Vm.Alike.refl U.vm) h.1, h.2.same hv⟩
/-- the addresses are apart, and all of the part that may change -/
def Gok (G : Gt) : Prop := (∀ a b, ga G a = ga G b → a = b) ∧ ∀ a, gA G (ga G a)
def ws (y : Mt) : List Cond := .code y.1 y.2.1 y.2.2.1 y.2.2.2 :: TG
def rmd (d mc ms : Nat) : Room := { frames := d, cells := mc, slots := ms, locals := 60 * d }
def QC (G : Gt) (P : Pt3) : Array Value → State → Outcome → State → Prop := fun _ st oc t =>
  (∃ (r : Option Value) (I : It) (h : Ht), oc = .returned (r.map (cv G)) ∧ P r I h ∧ Wd G I h t.heap) ∧ va_F (gA G) st t
/-- y, called with av in the world I, h, comes back with what P allows; depth d, mc cells of ms slots at most are new -/
def Con (G : Gt) (d mc ms : Nat) (y : Mt) (av : List Value) (I : It) (h : Ht) (P : Pt3) : Prop :=
  ∀ l : Launch, Met l y.1 (ws y) (rmd d mc ms) (va_Pc (av.map (cv G)) (fun U => Wd G I h U.heap ∧ Ks G U)) (QC G P) mc ms (gA G)
abbrev Xt : Type := Program × Launch × Env × State × MethodId × Array Value × List Frame × Method × Code
def lpr (G : Gt) : Nat → List (Option Value) → List (Nat × Value) := fun i lo => match lo with
  | [] => []
  | none :: t => lpr G (i + 1) t
  | some v :: t => (i, cv G v) :: lpr G (i + 1) t
def GG (G : Gt) (d mc ms : Nat) (X : Xt) (P : Pt3) (pc : Nat) (lo : List (Option Value)) (st : List Value) (I : It) (h : Ht) (k n : Nat) : Prop :=
  match X with
  | (p, l, e, s, m, args, below, meth, c) => ∀ (H : Heap) (locs : List Loc) (ls : Array Slot), lv_has ls c.maxLocals (lpr G 0 lo) → Wd G I h H → va_S (gA G) s.heap H locs →
      W p l e (rmd d mc ms) s m args below meth c H locs k n (MQ below (QC G P) args s mc ms (gA G)) (F0 m pc ls (st.map (cv G)))
def Xok (G : Gt) (own : String) (y : Mt) (X : Xt) : Prop :=
  match X with
  | (p, l, e, s, m, args, below, meth, c) => p.tables.exec = Jvm.exec ∧ c.code = y.2.1 ∧ c.maxLocals = y.2.2.1 ∧ s.vm.findClass own = some m.cls ∧ (∀ w ∈ TG, w.before args s = true) ∧ Ks G s ∧ Gok G ∧ meth.locks = false ∧ meth.sig.returnType = y.2.2.2 ∧ meth.name = y.1.name
/-! the world's list -/
theorem wl_get {G : Gt} {I : It} {h : Ht} {q : Nat} (hq : q < hn h) : (wl G I h)[q]? = some (ga G q, ent G I h q) := by
  unfold wl
  rw [List.getElem?_map, List.getElem?_range hq]
  rfl
theorem wl_len (G : Gt) (I : It) (h : Ht) : (wl G I h).length = hn h := by simp [wl]
theorem wl_D {G : Gt} (hG : Gok G) (I : It) (h : Ht) : va_D (gA G) (wl G I h) := by
  have key : ∀ (i : Nat) (p : Nat × va_E), (wl G I h)[i]? = some p → i < hn h ∧ p.1 = ga G i := by
    intro i p hi
    have hl : i < hn h := by
      have := (List.getElem?_eq_some_iff.mp hi).1
      rwa [wl_len] at this
    rw [wl_get hl] at hi
    cases hi
    exact ⟨hl, rfl⟩
  refine ⟨fun i j p q hi hj hpq => ?_, fun k q hk => ?_⟩
  · obtain ⟨_, e1⟩ := key i p hi
    obtain ⟨_, e2⟩ := key j q hj
    exact hG.1 i j (by rw [← e1, ← e2, hpq])
  · obtain ⟨_, e1⟩ := key k q hk
    rw [e1]
    exact hG.2 k
theorem wl_set {G : Gt} {I I' : It} {h h' : Ht} {q : Nat} {e : va_E} (hn' : hn h' = hn h) (he : ent G I' h' q = e) (ho : ∀ a, a ≠ q → ent G I' h' a = ent G I h a) : (wl G I h).set q (ga G q, e) = wl G I' h' := by
  apply List.ext_getElem?
  intro i
  by_cases hi : i < hn h
  · by_cases hq : i = q
    · subst hq
      rw [List.getElem?_set_self (by rw [wl_len]; exact hi), wl_get (by rw [hn']; exact hi), he]
    · rw [List.getElem?_set_ne (Ne.symm hq), wl_get hi, wl_get (by rw [hn']; exact hi), ho i hq]
  · rw [List.getElem?_eq_none (by rw [List.length_set, wl_len]; omega), List.getElem?_eq_none (by rw [wl_len, hn']; omega)]
def upI (I : It) (q j : Nat) (x : Int32) : It := fun a b => if a = q ∧ b = j then x else I a b
def upL (f : Nat → Nat → Int64) (q j : Nat) (x : Int64) : Nat → Nat → Int64 := fun a b => if a = q ∧ b = j then x else f a b
def upR (f : Nat → Nat → Option Nat) (q j : Nat) (x : Option Nat) : Nat → Nat → Option Nat := fun a b => if a = q ∧ b = j then x else f a b
def wL (h : Ht) (q j : Nat) (x : Int64) : Ht := (upL (hL h) q j x, hR h, hs h, hn h)
def wR (h : Ht) (q j : Nat) (x : Option Nat) : Ht := (hL h, upR (hR h) q j x, hs h, hn h)
theorem upI_row (I : It) (q j : Nat) (x : Int32) : upI I q j x q = upd (I q) j x := by
  funext b
  simp [upI, upd]
theorem upI_off {I : It} {q j : Nat} {x : Int32} {a : Nat} (ha : a ≠ q) : upI I q j x a = I a := by
  funext b
  simp [upI, ha]
theorem upL_row (I : Nat → Nat → Int64) (q j : Nat) (x : Int64) : upL I q j x q = vp_updL (I q) j x := by
  funext b
  simp [upL, vp_updL]
theorem upL_off {I : Nat → Nat → Int64} {q j : Nat} {x : Int64} {a : Nat} (ha : a ≠ q) : upL I q j x a = I a := by
  funext b
  simp [upL, ha]
theorem upR_off {I : Nat → Nat → Option Nat} {q j : Nat} {x : Option Nat} {a : Nat} (ha : a ≠ q) : upR I q j x a = I a := by
  funext b
  simp [upR, ha]
theorem ent_congr {G : Gt} {I I' : It} {h h' : Ht} {a : Nat} (e1 : I' a = I a) (e2 : hL h' a = hL h a) (e3 : hR h' a = hR h a) (e4 : hs h' a = hs h a) : ent G I' h' a = ent G I h a := by
  unfold ent fvs fvl
  rw [e1, e2, e3, e4]
theorem fvs_set {G : Gt} {I I' : It} {h h' : Ht} {q c j : Nat} {v : Value} (hv : cv G (fvl I' h' q c j) = v) (ho : ∀ b, b ≠ j → fvl I' h' q c b = fvl I h q c b) : (fvs G I h q c).set j v = fvs G I' h' q c := by
  unfold fvs
  apply List.ext_getElem?
  intro i
  by_cases hi : i < nf c
  · by_cases hj : i = j
    · subst hj
      rw [List.getElem?_set_self (by simp; exact hi), List.getElem?_map, List.getElem?_range hi]
      simp [hv]
    · rw [List.getElem?_set_ne (Ne.symm hj), List.getElem?_map, List.getElem?_map, List.getElem?_range hi]
      simp [ho i hj]
  · rw [List.getElem?_eq_none (by simp; omega), List.getElem?_eq_none (by simp; omega)]
theorem fvs_get {G : Gt} {I : It} {h : Ht} {q c j : Nat} (hj : j < nf c) : (fvs G I h q c)[j]? = some (cv G (fvl I h q c j)) := by
  unfold fvs
  rw [List.getElem?_map, List.getElem?_range hj]
  rfl
theorem fvs_len (G : Gt) (I : It) (h : Ht) (q c : Nat) : (fvs G I h q c).length = nf c := by simp [fvs]
/-! locals -/
theorem lpr_mem {G : Gt} : ∀ (lo : List (Option Value)) (i : Nat) (q : Nat × Value), q ∈ lpr G i lo ↔ ∃ (j : Nat) (v : Value), lo[j]? = some (some v) ∧ q = (i + j, cv G v) := by
  intro lo
  induction lo with
  | nil => intro i q; simp [lpr]
  | cons a t ih =>
    intro i q
    cases a with
    | none =>
      rw [show lpr G i (none :: t) = lpr G (i + 1) t from rfl, ih]
      constructor
      · rintro ⟨j, v, h1, h2⟩
        exact ⟨j + 1, v, by simpa using h1, by rw [h2]; congr 1; omega⟩
      · rintro ⟨j, v, h1, h2⟩
        cases j with
        | zero => simp at h1
        | succ j => exact ⟨j, v, by simpa using h1, by rw [h2]; congr 1; omega⟩
    | some w =>
      rw [show lpr G i (some w :: t) = (i, cv G w) :: lpr G (i + 1) t from rfl, List.mem_cons, ih]
      constructor
      · rintro (h | ⟨j, v, h1, h2⟩)
        · exact ⟨0, w, rfl, h⟩
        · exact ⟨j + 1, v, by simpa using h1, by rw [h2]; congr 1; omega⟩
      · rintro ⟨j, v, h1, h2⟩
        cases j with
        | zero =>
          simp at h1
          subst h1
          exact Or.inl h2
        | succ j => exact Or.inr ⟨j, v, by simpa using h1, by rw [h2]; congr 1; omega⟩
theorem lv_fewer {ls : Array Slot} {nL : Nat} {l l' : List (Nat × Value)} (h : lv_has ls nL l) (hs : ∀ q ∈ l', q ∈ l) : lv_has ls nL l' := ⟨h.1, h.2.1, fun q hq => h.2.2 q (hs q hq)⟩
theorem lpr_at {G : Gt} {ls : Array Slot} {nL : Nat} {lo : List (Option Value)} (h : lv_has ls nL (lpr G 0 lo)) {i : Nat} {v : Value} (hi : lo[i]? = some (some v)) : ls[i]? = some (.val (cv G v)) :=
  h.2.2 (i, cv G v) ((lpr_mem lo 0 _).mpr ⟨i, v, hi, by simp⟩)
def notL : Option Value → Bool := fun v => match v with
  | some (.long _) => false
  | some (.double _) => false
  | _ => true
/-- the slot ahead of i holds no long -/
def ahd (lo : List (Option Value)) (i : Nat) : Bool := i == 0 || notL (lo.getD (i - 1) none)
theorem lpr_set {G : Gt} {lo : List (Option Value)} {i : Nat} {v : Value} (ha : ahd lo i = true) (hi : i < lo.length) :
    ∀ q ∈ lpr G 0 (lo.set i (some v)), q ∈ (i, cv G v) :: (lpr G 0 lo).filter (fun q => !(q.1 == i) && !(q.1 + 1 == i && q.2.category == 2)) := by
  intro q hq
  obtain ⟨j, w, h1, rfl⟩ := (lpr_mem _ _ _).mp hq
  by_cases hj : j = i
  · subst hj
    rw [List.getElem?_set_self hi] at h1
    cases h1
    simp
  · rw [List.getElem?_set_ne (Ne.symm hj)] at h1
    refine List.mem_cons_of_mem _ (List.mem_filter.mpr ⟨(lpr_mem _ _ _).mpr ⟨j, w, h1, rfl⟩, ?_⟩)
    have h2 : ¬ (j + 1 = i ∧ w.category = 2) := by
      rintro ⟨e, hc⟩
      subst e
      simp only [ahd, Nat.add_sub_cancel, Nat.add_eq_zero_iff, Nat.succ_ne_self, and_false, beq_iff_eq, Bool.or_eq_true, false_or, List.getD_eq_getElem?_getD, h1, Option.getD_some] at ha
      cases w <;> simp [notL, Value.category] at ha hc
    simp only [Nat.zero_add, cv_cat, Bool.and_eq_true, Bool.not_eq_true', beq_eq_false_iff_ne, ne_eq, Bool.and_eq_false_iff]
    refine ⟨hj, ?_⟩
    by_cases e : j + 1 = i
    · exact Or.inr (fun hc => h2 ⟨e, hc⟩)
    · exact Or.inl e
theorem lpr_set2 {G : Gt} {lo : List (Option Value)} {i : Nat} {v : Value} (ha : ahd lo i = true) (hi : i + 1 < lo.length) :
    ∀ q ∈ lpr G 0 ((lo.set i (some v)).set (i + 1) none), q ∈ (i, cv G v) :: (lpr G 0 lo).filter (fun q => !(q.1 == i) && (!(q.1 == i + 1) && !(q.1 + 1 == i && q.2.category == 2))) := by
  intro q hq
  obtain ⟨j, w, h1, rfl⟩ := (lpr_mem _ _ _).mp hq
  by_cases hj1 : j = i + 1
  · subst hj1
    rw [List.getElem?_set_self (by simpa using hi)] at h1
    cases h1
  rw [List.getElem?_set_ne (Ne.symm hj1)] at h1
  by_cases hj : j = i
  · subst hj
    rw [List.getElem?_set_self (by omega)] at h1
    cases h1
    simp
  · rw [List.getElem?_set_ne (Ne.symm hj)] at h1
    refine List.mem_cons_of_mem _ (List.mem_filter.mpr ⟨(lpr_mem _ _ _).mpr ⟨j, w, h1, rfl⟩, ?_⟩)
    have h2 : ¬ (j + 1 = i ∧ w.category = 2) := by
      rintro ⟨e, hc⟩
      subst e
      simp only [ahd, Nat.add_sub_cancel, Nat.add_eq_zero_iff, Nat.succ_ne_self, and_false, beq_iff_eq, Bool.or_eq_true, false_or, List.getD_eq_getElem?_getD, h1, Option.getD_some] at ha
      cases w <;> simp [notL, Value.category] at ha hc
    simp only [Nat.zero_add, cv_cat, Bool.and_eq_true, Bool.not_eq_true', beq_eq_false_iff_ne, ne_eq, Bool.and_eq_false_iff]
    refine ⟨hj, hj1, ?_⟩
    by_cases e : j + 1 = i
    · exact Or.inr (fun hc => h2 ⟨e, hc⟩)
    · exact Or.inl e

