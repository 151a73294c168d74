/-! arrays of arrays that are made at one stroke -/
def mqO (c : ClassId) (N h0 i : Nat) : Cell := arrV c N (fun j => if j < i then .ref (h0 + 1 + j) else .null)
def mqI (q : ClassId) (M : Nat) (v : Value) : Cell := arrV q M (fun _ => v)
def mqS (s : State) (c q : ClassId) (N M : Nat) (v : Value) : Nat → State := fun i => match i with
  | 0 => s.pushCell (mqO c N s.heap.size 0)
  | i + 1 => ((mqS s c q N M v i).pushCell (mqI q M v)).setCell s.heap.size (mqO c N s.heap.size (i + 1))
theorem mqO_size (c : ClassId) (N h0 i : Nat) : (mqO c N h0 i).slots.size = N := arrV_size _ _ _
theorem mqI_size (c : ClassId) (N : Nat) (v : Value) : (mqI c N v).slots.size = N := arrV_size _ _ _
theorem mqO_step (c : ClassId) (N h0 i : Nat) : (mqO c N h0 i).setSlot i (.ref (h0 + 1 + i)) = mqO c N h0 (i + 1) := by
  unfold mqO
  rw [arrV_store]
  congr 1
  funext j
  unfold updV
  by_cases e : j = i
  · subst e; simp
  · by_cases e2 : j < i
    · simp [e, e2, show j < i + 1 by omega]
    · simp [e, e2, show ¬ j < i + 1 by omega]
theorem mqS_f (s : State) (c q : ClassId) (N M : Nat) (v : Value) : ∀ i, (mqS s c q N M v i).heap.size = s.heap.size + 1 + i ∧ (mqS s c q N M v i).heap[s.heap.size]? = some (mqO c N s.heap.size i) ∧ (mqS s c q N M v i).vm = s.vm ∧ (mqS s c q N M v i).slotsUsed = s.slotsUsed + N + i * M ∧
    (∀ a, a < s.heap.size → (mqS s c q N M v i).heap[a]? = s.heap[a]?) ∧ ∀ j, j < i → (mqS s c q N M v i).heap[s.heap.size + 1 + j]? = some (mqI q M v) := by
  intro i
  induction i with
  | zero => exact ⟨by simp [mqS], by simp [mqS], rfl, by simp [mqS, mqO_size], fun a ha => State.heap_pushCell_of_lt _ _ ha, fun j hj => absurd hj (Nat.not_lt_zero j)⟩
  | succ i ih =>
    obtain ⟨f1, f2, f3, f4, f5, f6⟩ := ih
    have hlt : s.heap.size < (mqS s c q N M v i).heap.size := by omega
    have hb : ((mqS s c q N M v i).pushCell (mqI q M v)).heap[s.heap.size]? = some (mqO c N s.heap.size i) := by rw [State.heap_pushCell_of_lt (h := hlt)]; exact f2
    refine ⟨?_, State.heap_setCell_self hb, by simp [mqS, f3], ?_, fun a ha => ?_, fun j hj => ?_⟩
    · simp [mqS, State.setCell, f1]; omega
    · simp [mqS, f4, mqI_size, Nat.succ_mul]; omega
    · show (((mqS s c q N M v i).pushCell (mqI q M v)).setCell s.heap.size _).heap[a]? = _
      rw [State.heap_setCell_other (Nat.ne_of_gt ha), State.heap_pushCell_of_lt (h := show a < (mqS s c q N M v i).heap.size by rw [f1]; omega)]
      exact f5 a ha
    · show (((mqS s c q N M v i).pushCell (mqI q M v)).setCell s.heap.size _).heap[s.heap.size + 1 + j]? = _
      rw [State.heap_setCell_other (show s.heap.size ≠ s.heap.size + 1 + j by omega)]
      rcases Nat.lt_or_ge j i with z | z
      · rw [State.heap_pushCell_of_lt (h := show s.heap.size + 1 + j < (mqS s c q N M v i).heap.size by rw [f1]; omega)]
        exact f6 j z
      · have e : s.heap.size + 1 + j = (mqS s c q N M v i).heap.size := by omega
        rw [e]
        exact State.heap_pushCell_size _ _
theorem mqS_top (s : State) (f : JFrame) (c q : ClassId) (N M : Nat) (v : Value) : ∀ i, mqS (s.setTop f) c q N M v i = (mqS s c q N M v i).setTop f := by
  intro i
  induction i with
  | zero => rfl
  | succ i ih =>
    show ((mqS (s.setTop f) c q N M v i).pushCell _).setCell _ _ = _
    rw [ih]
    rfl
section MQW
variable {E : CtlPost} {e : Env} {b : Bool} {acts : List Action} {s : State}
theorem mq_new {c comp : ClassId} {k : Class} {type : FieldType} {len : Nat} {init : Value} (hk : s.vm.classes[c]? = some k) (hkind : k.kind = .array comp type)
    (hlim : ¬ len > e.platform.arrayLengthLimit) (hheap : ¬ len * componentBytes type > e.platform.maxHeapBytes) (hfit : fits type init = true) (hdef : init.isDefault = true) {Q : Addr → Pre}
    (h1 : s.heap.size < e.platform.maxCells) (h2 : s.slotsUsed + len ≤ e.platform.maxSlots) (hq : Q s.heap.size b acts (s.pushCell (mqI c len init))) : wp (Jvm.newArray c len init) Q E e b acts s := by
  have hall : (Array.replicate len init).all (·.isDefault) = true := by
    rw [Array.all_replicate]
    split
    · rfl
    · exact hdef
  have hact : allocActs (Array.replicate len init) s.heap.size acts = acts := if_pos hall
  have hcell : ({ cls := c, slots := Array.replicate len init, vm := .none } : Cell) = mqI c len init := arrV_new _ _ _
  simp only [Jvm.newArray, Jvm.arrayFits, wp_bind', W.ask, W.ite, hlim, if_false, wp_pure', W.theClass, hk, hkind, hheap, W.alloc, W.stop, Option.some.injEq, exists_eq_left', Array.size_replicate, hact]
  rw [if_neg (by omega)]
  refine ⟨h1, h2, fun i v hv => ?_, by rw [hcell]; exact hq⟩
  rw [Array.getElem?_replicate] at hv
  split at hv
  · cases hv
    simp [State.fitsSlot, State.slotType?, hk, hkind, hfit]
  · cases hv
theorem mq_ref {t : FieldType} (h : t.isReference = true) (v : Value) (hv : v = .null ∨ ∃ a, v = .ref a) : fits t v = true := by
  rcases hv with rfl | ⟨a, rfl⟩ <;> cases t <;> simp [FieldType.isReference] at h <;> rfl
theorem mq_make {c q cc : ClassId} {k kc : Class} {ty : FieldType} {n m : Int32} {N M : Nat} (hk : s.vm.classes[c]? = some k) (hkind : k.kind = .array q (.array ty)) (hkc : s.vm.classes[q]? = some kc) (hkindc : kc.kind = .array cc ty)
    (hn : ¬ n < 0) (hm : ¬ m < 0) (eN : n.toNatClampNeg = N) (eM : m.toNatClampNeg = M) (hl1 : ¬ N > e.platform.arrayLengthLimit) (hh1 : ¬ N * componentBytes (.array ty) > e.platform.maxHeapBytes) (hl2 : ¬ M > e.platform.arrayLengthLimit) (hh2 : ¬ M * componentBytes ty > e.platform.maxHeapBytes)
    (hdf : fits ty (defaultValue ty) = true) (hdd : (defaultValue ty).isDefault = true) (hc : s.heap.size + 1 + N ≤ e.platform.maxCells) (hs : s.slotsUsed + N + N * M ≤ e.platform.maxSlots)
    {Q : Addr → Pre} (hq : ∀ b' acts', Q s.heap.size b' acts' (mqS s c q N M (defaultValue ty) N)) : wp (multianewarray.make c [n, m]) Q E e b acts s := by
  subst eN eM
  have hfind : ([m].find? (· < 0)) = none := by simp [hm]
  have h0 : mqO c n.toNatClampNeg s.heap.size 0 = mqI c n.toNatClampNeg .null := by unfold mqO mqI; congr 1
  rw [multianewarray.make]
  simp only [wp_bind', W.ite, hn, if_false, wp_pure', W.theClass, hk, hkind, Option.some.injEq, exists_eq_left']
  refine mq_new hk hkind hl1 hh1 (mq_ref rfl _ (Or.inl rfl)) rfl (by omega) (by have := Nat.zero_le (n.toNatClampNeg * m.toNatClampNeg); omega) ?_
  simp only [hfind]
  rw [ite_self, wp_bind', Std.Legacy.Range.forIn_eq_forIn_range']
  have hsz : ([:n.toNatClampNeg] : Std.Legacy.Range).size = n.toNatClampNeg := by simp [Std.Legacy.Range.size]
  rw [hsz, ← h0]
  refine wp_forIn_inv (fun rest s' => ∃ i, i ≤ n.toNatClampNeg ∧ rest = List.range' i (n.toNatClampNeg - i) ∧ s' = mqS s c q n.toNatClampNeg m.toNatClampNeg (defaultValue ty) i) _ _ ⟨0, Nat.zero_le _, rfl, rfl⟩ ?_ ?_
  · rintro x rest s' b' acts' Q' ⟨i, hi, hl, rfl⟩ hnext
    have hlt : i < n.toNatClampNeg := by
      rcases Nat.lt_or_ge i n.toNatClampNeg with z | z
      · exact z
      · rw [show n.toNatClampNeg - i = 0 by omega] at hl
        simp at hl
    rw [show n.toNatClampNeg - i = (n.toNatClampNeg - (i + 1)) + 1 by omega, List.range'_succ] at hl
    obtain ⟨e1, e2⟩ := List.cons.inj hl
    subst e1
    obtain ⟨f1, f2, f3, f4, -, -⟩ := mqS_f s c q n.toNatClampNeg m.toNatClampNeg (defaultValue ty) x
    have hmul : x * m.toNatClampNeg + m.toNatClampNeg ≤ n.toNatClampNeg * m.toNatClampNeg := by
      have := Nat.mul_le_mul_right m.toNatClampNeg (show x + 1 ≤ n.toNatClampNeg from hlt)
      rw [Nat.succ_mul] at this
      exact this
    have hlt0 : s.heap.size < (mqS s c q n.toNatClampNeg m.toNatClampNeg (defaultValue ty) x).heap.size := by rw [f1]; omega
    simp only [wp_bind']
    rw [multianewarray.make]
    simp only [wp_bind', W.ite, hm, if_false, wp_pure', W.theClass, f3, hkc, hkindc, Option.some.injEq, exists_eq_left']
    refine mq_new (by rw [f3]; exact hkc) hkindc hl2 hh2 hdf hdd (by rw [f1]; omega) (by rw [f4]; omega) ?_
    simp only [wp_bind', W.writeLoc, wp_pure']
    refine ⟨mqO c n.toNatClampNeg s.heap.size x, by rw [State.heap_pushCell_of_lt (h := hlt0)]; exact f2, by simp [mqO, arrV], by rw [mqO_size]; exact hlt, ?_, hnext _ _ _ ⟨x + 1, hlt, e2, ?_⟩⟩
    · show State.fitsSlot _ c .none x _ = true
      simp [State.fitsSlot, State.slotType?, f3, hk, hkind, mq_ref (t := .array ty) rfl _ (Or.inr ⟨_, rfl⟩)]
    · rw [f1, mqO_step]
      rfl
  · rintro s' b' acts' ⟨i, hi, hl, rfl⟩
    have hiN : i = n.toNatClampNeg := by
      rcases Nat.lt_or_ge i n.toNatClampNeg with z | z
      · rw [show n.toNatClampNeg - i = (n.toNatClampNeg - (i + 1)) + 1 by omega, List.range'_succ] at hl
        cases hl
      · omega
    subst hiN
    simp only [wp_pure']
    exact hq _ _
end MQW
section MQS
variable {p : Program} {l : Launch} {e : Env} {R : Room} {s : State} {m : MethodId} {args : Array Value} {below : List Frame} {meth : Method} {c : Code} {T : State} {locs : List Loc} {cells slots : Nat}
theorem mq_stand (X : Stand p l e R s m args below meth c T locs cells slots) (cA q : ClassId) (N M : Nat) (v : Value) : ∀ i, Stand p l e R s m args below meth c (mqS T cA q N M v i) (locs ++ (List.range i).map fun j => ⟨T.heap.size, j⟩) (cells + 1 + i) (slots + N + i * M) := by
  intro i
  induction i with
  | zero =>
    have h := X.pushed (mqO cA N T.heap.size 0)
    rw [mqO_size] at h
    simpa [mqS] using h
  | succ i ih =>
    obtain ⟨f1, f2, -, -, -, -⟩ := mqS_f T cA q N M v i
    have hlt : T.heap.size < (mqS T cA q N M v i).heap.size := by rw [f1]; omega
    have hcell : ((mqS T cA q N M v i).pushCell (mqI q M v)).heap[T.heap.size]? = some (mqO cA N T.heap.size i) := by rw [State.heap_pushCell_of_lt (h := hlt)]; exact f2
    have h := (ih.pushed (mqI q M v)).stored hcell i (.ref (T.heap.size + 1 + i))
    rw [mqI_size, mqO_step] at h
    have e2 : (locs ++ (List.range (i + 1)).map fun j => (⟨T.heap.size, j⟩ : Loc)) = (locs ++ (List.range i).map fun j => (⟨T.heap.size, j⟩ : Loc)) ++ [⟨T.heap.size, i⟩] := by simp [List.range_succ, List.append_assoc]
    have e3 : slots + N + (i + 1) * M = slots + N + i * M + M := by rw [Nat.succ_mul]; omega
    rw [e2, e3]
    exact h
theorem W_multi {cc : ByteArray} {H : Heap} {Q : State → Prop} (hexec : p.tables.exec = Jvm.exec) (hb : c.code = cc) {own : String} {index : Nat} {ty : FieldType} {n k : Int32} {N M : Nat}
    (hown : s.vm.findClass own = some m.cls) (hclink : (Cond.classLink own index ("[" ++ (FieldType.array ty).toString)).before args s = true) (hover : (Cond.arrayOver (.array ty)).before args s = true) (harr : (Cond.arrayClass ty).before args s = true)
    {g : JFrame} (hg : g.method = m) (hdg : decode cc g.pc = .ok (.multianewarray index 2, 4)) {rest : List Value} (hstack : g.stack = .int k :: .int n :: rest)
    (hn : ¬ n < 0) (hk : ¬ k < 0) (eN : n.toNatClampNeg = N) (eM : k.toNatClampNeg = M) (hb1 : N * 4 ≤ 536870912) (hb2 : M * componentBytes ty ≤ 536870912) (hb3 : M ≤ 536870912)
    (hdf : fits ty (defaultValue ty) = true) (hdd : (defaultValue ty).isDefault = true) (hcells : cells + (1 + N) ≤ R.cells) (hslots : slots + (N + N * M) ≤ R.slots)
    (kk : ∀ (H' : Heap) (cA q : ClassId), s.vm.findClass ("[" ++ (FieldType.array ty).toString) = some cA → s.vm.findClass (FieldType.array ty).toString = some q → H'.size = H.size + 1 + N → H'[H.size]? = some (mqO cA N H.size N) → (∀ a, a < H.size → H'[a]? = H[a]?) → (∀ j, j < N → H'[H.size + 1 + j]? = some (mqI q M (defaultValue ty))) →
      W p l e R s m args below meth c H' locs (cells + 1 + N) (slots + N + N * M) Q { g with pc := g.pc + 4, stack := .ref H.size :: rest }) : W p l e R s m args below meth c H locs cells slots Q g := by
  intro T hT X
  subst hT hb hg
  have hpl : e.platform.magicAccessors = ({} : Platform).magicAccessors := by rw [X.admits.platform]
  obtain ⟨q, cA, kA, hcomp, -, hkA, hkindA, hnameA⟩ := arrayOverA_spec hover
  obtain ⟨q', kC, cc, hcomp', hkC, hkindC⟩ := Cond.arrayClass_spec harr
  have ecomp : q' = q := Option.some.inj (hcomp'.symm.trans hcomp)
  subst ecomp
  obtain ⟨c0, hfc0, hcl⟩ := Cond.classLink_spec hown hclink e.platform hpl
  cases hnameA.symm.trans hfc0
  obtain ⟨hg₁, hwarm₁, hready₁⟩ := State.classEntry (e := e) X.warmed hcl
  generalize T.vm.noted g.method.cls index (.cls cA) = vm₁ at hg₁ hwarm₁ hready₁
  have hal : s.vm.Alike vm₁ := hwarm₁.alike
  obtain ⟨kA₁, hkA₁, heA⟩ := hal.2.2 _ _ hkA
  obtain ⟨kC₁, hkC₁, heC⟩ := hal.2.2 _ _ hkC
  have X₁ := X.noted hwarm₁
  obtain ⟨hr1, hr2⟩ := X.roomAbove hcells hslots
  have hl1 : ¬ N > e.platform.arrayLengthLimit := by rw [Launch.admits_arrayLengthLimit X.admits]; omega
  have hh1 : ¬ N * componentBytes (.array ty) > e.platform.maxHeapBytes := by
    rw [Launch.admits_maxHeapBytes X.admits]
    show ¬ N * 4 > 536870912
    omega
  have hl2 : ¬ M > e.platform.arrayLengthLimit := by rw [Launch.admits_arrayLengthLimit X.admits]; omega
  have hh2 : ¬ M * componentBytes ty > e.platform.maxHeapBytes := by rw [Launch.admits_maxHeapBytes X.admits]; omega
  have XF := mq_stand X₁ cA q' N M (defaultValue ty) N
  obtain ⟨f1, f2, f3, f4, f5, f6⟩ := mqS_f (T.setVm vm₁) cA q' N M (defaultValue ty) N
  have XG := Stand.forget XF (fun y hy => by
    obtain ⟨j, -, rfl⟩ := List.mem_map.mp hy
    exact X.same.2.1)
  obtain ⟨t, a1, b1⟩ := kk (mqS (T.setVm vm₁) cA q' N M (defaultValue ty) N).heap cA q' hnameA hcomp f1 f2 f5 f6 _ rfl XG
  refine ⟨t, ?_, b1⟩
  jvm_step X.here [hexec, hdg]
  simp only [multianewarray.sem, wp_bind', W.resolveClassAt_links (State.method?_setTop g X.here.top) hg₁]
  rw [W.popN, if_neg (by decide)]
  refine ⟨g, State.topJava?_setTop' (s := T.setVm vm₁) g X.here.top, [.int n, .int k], rest, rfl, hstack, ?_⟩
  simp only [List.mapM_cons, List.mapM_nil, wp_bind', wp_pure']
  have eS : ((T.setTop g).setVm vm₁).setTop { g with stack := rest } = (T.setVm vm₁).setTop { g with stack := rest } := by
    show ((T.setVm vm₁).setTop g).setTop _ = _
    rw [State.setTop_setTop]
  refine mq_make (k := kA₁) (kc := kC₁) (q := q') (cc := cc) (ty := ty) (N := N) (M := M) hkA₁ (by rw [heA]; exact hkindA) hkC₁ (by rw [heC]; exact hkindC) hn hk eN eM hl1 hh1 hl2 hh2 hdf hdd (by show T.heap.size + 1 + _ ≤ _; omega) (by show T.slotsUsed + _ + _ ≤ _; omega) (fun b' acts' => ?_)
  rw [eS, mqS_top]
  simp only [wp_bind', W.mark, W.pushRef, State.topJava?_setTop' _ XF.here.top, Option.some.injEq, exists_eq_left', State.setTop_setTop, State.heap_setTop]
  intro acts
  simp [jvm, XF.here.top]
  exact a1
end MQS

