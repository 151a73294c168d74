/-! the law: two worlds in one heap -/
/-- the class's addresses: the object and what it is made with from b0 on, the reference's 40 cells, then the DOINGS -/
def gX (D : va_G) (ci : Nat → ClassId) (b0 off : Nat) : Gt := (D, ci, fun a => if a < 73 then b0 + a else b0 + 40 + a, fun n => b0 + off + n, fun q => (b0 ≤ q ∧ q < b0 + 73) ∨ b0 + 113 ≤ q)
def gM (D : va_G) (ci : Nat → ClassId) (b0 : Nat) (z : Nat → Nat) : Gt := (D, ci, fun a => if a < 40 then b0 + 73 + a else b0 + 1000000 + a, z, fun q => (b0 + 73 ≤ q ∧ q < b0 + 113) ∨ b0 + 1000000 ≤ q)
theorem gX_ok {D : va_G} {ci : Nat → ClassId} {b0 off : Nat} : Gok (gX D ci b0 off) := by
  refine ⟨fun a b e => ?_, fun a => ?_⟩
  · replace e : (if a < 73 then b0 + a else b0 + 40 + a) = (if b < 73 then b0 + b else b0 + 40 + b) := e
    split at e <;> split at e <;> omega
  · show (b0 ≤ (if a < 73 then b0 + a else b0 + 40 + a) ∧ (if a < 73 then b0 + a else b0 + 40 + a) < b0 + 73) ∨ b0 + 113 ≤ (if a < 73 then b0 + a else b0 + 40 + a)
    split <;> omega
theorem gM_ok {D : va_G} {ci : Nat → ClassId} {b0 : Nat} {z : Nat → Nat} : Gok (gM D ci b0 z) := by
  refine ⟨fun a b e => ?_, fun a => ?_⟩
  · replace e : (if a < 40 then b0 + 73 + a else b0 + 1000000 + a) = (if b < 40 then b0 + 73 + b else b0 + 1000000 + b) := e
    split at e <;> split at e <;> omega
  · show (b0 + 73 ≤ (if a < 40 then b0 + 73 + a else b0 + 1000000 + a) ∧ (if a < 40 then b0 + 73 + a else b0 + 1000000 + a) < b0 + 113) ∨ b0 + 1000000 ≤ (if a < 40 then b0 + 73 + a else b0 + 1000000 + a)
    split <;> omega
theorem gX_low {D : va_G} {ci : Nat → ClassId} {b0 off q : Nat} (h : gA (gX D ci b0 off) q) : b0 ≤ q := by
  rcases (show (b0 ≤ q ∧ q < b0 + 73) ∨ b0 + 113 ≤ q from h) with z | z <;> omega
theorem gM_low {D : va_G} {ci : Nat → ClassId} {b0 q : Nat} {z : Nat → Nat} (h : gA (gM D ci b0 z) q) : b0 ≤ q := by
  rcases (show (b0 + 73 ≤ q ∧ q < b0 + 113) ∨ b0 + 1000000 ≤ q from h) with z | z <;> omega
theorem gX_new {D : va_G} {ci : Nat → ClassId} {b0 a : Nat} (ha : 73 ≤ a) : Gnew (gX D ci b0 40) a :=
  ⟨by show b0 + 40 + a = if a < 73 then b0 + a else b0 + 40 + a; rw [if_neg (by omega)], by show b0 + 40 + (a + 1) = (if a < 73 then b0 + a else b0 + 40 + a) + 1; rw [if_neg (by omega)]; omega⟩
theorem gX_new0 {D : va_G} {ci : Nat → ClassId} {b0 a : Nat} (ha : a < 73) : Gnew (gX D ci b0 0) a :=
  ⟨by show b0 + 0 + a = if a < 73 then b0 + a else b0 + 40 + a; rw [if_pos ha]; omega, by show b0 + 0 + (a + 1) = (if a < 73 then b0 + a else b0 + 40 + a) + 1; rw [if_pos ha]; omega⟩
theorem gM_new0 {D : va_G} {ci : Nat → ClassId} {b0 a : Nat} (ha : a < 40) : Gnew (gM D ci b0 (fun n => b0 + 73 + n)) a :=
  ⟨by show b0 + 73 + a = if a < 40 then b0 + 73 + a else b0 + 1000000 + a; rw [if_pos ha], by show b0 + 73 + (a + 1) = (if a < 40 then b0 + 73 + a else b0 + 1000000 + a) + 1; rw [if_pos ha]; omega⟩
theorem wl_at {G : Gt} {I : It} {h : Ht} {k : Nat} {x : Nat × va_E} (hx : (wl G I h)[k]? = some x) : k < hn h ∧ x.1 = ga G k := by
  have hl : k < hn h := by
    have := (List.getElem?_eq_some_iff.mp hx).1
    rwa [wl_len] at this
  rw [wl_get hl] at hx
  cases hx
  exact ⟨hl, rfl⟩
/-- the reference's cells stand while the class works, and the other way round -/
theorem keepM {D : va_G} {ci : Nat → ClassId} {b0 off : Nat} {z : Nat → Nat} {I : It} {h : Ht} {H H1 : Heap} (hn' : hn h = 40) (hP : va_P D vwCl (wl (gM D ci b0 z) I h) H) (hk : ∀ q, q < H.size → ¬ gA (gX D ci b0 off) q → H1[q]? = H[q]?) : va_P D vwCl (wl (gM D ci b0 z) I h) H1 := by
  refine hP.kept fun k x hx => ?_
  obtain ⟨h1, h2⟩ := wl_at hx
  refine hk x.1 ((hP k x hx).lt) ?_
  rw [h2]
  show ¬ ((b0 ≤ (if k < 40 then b0 + 73 + k else b0 + 1000000 + k) ∧ (if k < 40 then b0 + 73 + k else b0 + 1000000 + k) < b0 + 73) ∨ b0 + 113 ≤ (if k < 40 then b0 + 73 + k else b0 + 1000000 + k))
  rw [if_pos (by omega)]
  omega
theorem keepX {D : va_G} {ci : Nat → ClassId} {b0 off : Nat} {z : Nat → Nat} {I : It} {h : Ht} {H H1 : Heap} (hn' : hn h ≤ 1000) (hP : va_P D vwCl (wl (gX D ci b0 off) I h) H) (hk : ∀ q, q < H.size → ¬ gA (gM D ci b0 z) q → H1[q]? = H[q]?) : va_P D vwCl (wl (gX D ci b0 off) I h) H1 := by
  refine hP.kept fun k x hx => ?_
  obtain ⟨h1, h2⟩ := wl_at hx
  refine hk x.1 ((hP k x hx).lt) ?_
  rw [h2]
  show ¬ ((b0 + 73 ≤ (if k < 73 then b0 + k else b0 + 40 + k) ∧ (if k < 73 then b0 + k else b0 + 40 + k) < b0 + 113) ∨ b0 + 1000000 ≤ (if k < 73 then b0 + k else b0 + 40 + k))
  split <;> omega
/-! what the tables say -/
theorem ky_prim {s : State} {A : Array Value} {ty : FieldType} (ht : ∀ n, ty ≠ .object n) (h : (Cond.arrayClass ty).before A s = true) : ∃ cA, ArrOfT s cA ty ∧ va_RA s cA ty := by
  obtain ⟨c, k, comp, h1, h2, h3⟩ := Cond.arrayClass_spec h
  refine ⟨c, fun n z => ⟨(fun k h => by cases h), k, h2, comp, h3⟩, ?_⟩
  cases ty <;> first | exact h1 | exact absurd rfl (ht _)
theorem ky_obj {s : State} {A : Array Value} {C : String} (h : (Cond.arrayOver (.object C)).before A s = true) : ∃ cA, ArrOfT s cA (.object C) ∧ va_RA s cA (.object C) := by
  obtain ⟨comp, c, k, h1, -, h2, h3, h4⟩ := Cond.arrayOver_spec h
  exact ⟨c, fun n z => ⟨(fun k h => by cases h), k, h2, comp, h3⟩, k, comp, h2, h3, h1, h4⟩
theorem ky_arr {s : State} {A : Array Value} {t : FieldType} (h : (Cond.arrayOver (.array t)).before A s = true) : ∃ cA, ArrOfT s cA (.array t) ∧ va_RA s cA (.array t) := by
  obtain ⟨comp, c, k, h1, -, h2, h3, h4⟩ := arrayOverA_spec h
  exact ⟨c, fun n z => ⟨(fun k h => by cases h), k, h2, comp, h3⟩, h4⟩
theorem tb_1 (i : Nat) {w : Cond} (h : tables_1_1[i]? = some w) : w ∈ lw_tbl := List.mem_append_right _ (List.mem_append_left _ (List.mem_of_getElem? h))
theorem tb_2 (i : Nat) {w : Cond} (h : tables_1_2[i]? = some w) : w ∈ lw_tbl := List.mem_append_right _ (List.mem_append_right _ (List.mem_append_left _ (List.mem_of_getElem? h)))
theorem tb_3 (i : Nat) {w : Cond} (h : tables_1_3[i]? = some w) : w ∈ lw_tbl := List.mem_append_right _ (List.mem_append_right _ (List.mem_append_right _ (List.mem_append_left _ (List.mem_of_getElem? h))))
theorem tb_4 (i : Nat) {w : Cond} (h : tables_1_4[i]? = some w) : w ∈ lw_tbl := List.mem_append_right _ (List.mem_append_right _ (List.mem_append_right _ (List.mem_append_right _ (List.mem_append_left _ (List.mem_of_getElem? h)))))
theorem tb_5 (i : Nat) {w : Cond} (h : tables_1_5[i]? = some w) : w ∈ lw_tbl := List.mem_append_right _ (List.mem_append_right _ (List.mem_append_right _ (List.mem_append_right _ (List.mem_append_right _ (List.mem_append_left _ (List.mem_of_getElem? h))))))
theorem tb_6 (i : Nat) {w : Cond} (h : tables_1_6[i]? = some w) : w ∈ lw_tbl := List.mem_append_right _ (List.mem_append_right _ (List.mem_append_right _ (List.mem_append_right _ (List.mem_append_right _ (List.mem_append_right _ (List.mem_append_left _ (List.mem_of_getElem? h)))))))
theorem tb_7 (i : Nat) {w : Cond} (h : tables_1_7[i]? = some w) : w ∈ lw_tbl := List.mem_append_right _ (List.mem_append_right _ (List.mem_append_right _ (List.mem_append_right _ (List.mem_append_right _ (List.mem_append_right _ (List.mem_append_right _ (List.mem_of_getElem? h)))))))
set_option maxRecDepth 20000 in
theorem nest_mem : ∀ q ∈ nestL, Cond.methodLinkNest q.1 q.2.1 q.2.2.1 q.2.2.2 ∈ lw_tbl := List.forall_mem_cons.mpr ⟨(tb_1 28 rfl), List.forall_mem_cons.mpr ⟨(tb_1 164 rfl), List.forall_mem_cons.mpr ⟨(tb_3 174 rfl), List.forall_mem_cons.mpr ⟨(tb_4 48 rfl), fun _ h => absurd h List.not_mem_nil⟩⟩⟩⟩
set_option maxRecDepth 20000 in
theorem cast_mem : ∀ q ∈ castL, Cond.castable q.1 q.2 ∈ lw_tbl := List.forall_mem_cons.mpr ⟨(tb_7 103 rfl), List.forall_mem_cons.mpr ⟨(tb_7 104 rfl), List.forall_mem_cons.mpr ⟨(tb_7 105 rfl), List.forall_mem_cons.mpr ⟨(tb_7 106 rfl), List.forall_mem_cons.mpr ⟨(tb_7 107 rfl), List.forall_mem_cons.mpr ⟨(tb_7 108 rfl), List.forall_mem_cons.mpr ⟨(tb_7 109 rfl), List.forall_mem_cons.mpr ⟨(tb_7 110 rfl), List.forall_mem_cons.mpr ⟨(tb_7 111 rfl), fun _ h => absurd h List.not_mem_nil⟩⟩⟩⟩⟩⟩⟩⟩⟩
set_option maxRecDepth 20000 in
theorem noc_mem : ∀ q ∈ noCastL, Cond.not (.castable q.1 q.2) ∈ flatC (Cond.and given_1 narrow_1) := by decide +kernel
set_option maxHeartbeats 4000000 in
set_option maxRecDepth 20000 in
theorem ks_start {s : State} {A : Array Value} (hts0 : ∀ w ∈ lw_tbl, w.before A s = true) (hgv : (Cond.and given_1 narrow_1).before A s = true) : ∃ (D : va_G) (ci : Nat → ClassId), ∀ G : Gt, gD G = D → gc G = ci → Ks G s := by
  have hts : ∀ w ∈ TG, w.before A s = true := fun w hw => hts0 w (tg_tbl hw)
  have hcl : ∀ k : Nat, ∃ q : ClassId × (Nat → Nat), ∀ r, vwCl[k]? = some r → u_Kn s r.1 r.2.1 r.2.2 q.1 q.2 := by
    intro k
    by_cases hk : ¬ k < 13
    · exact ⟨((0 : Nat), fun _ => 0), fun r hr => absurd (List.getElem?_eq_some_iff.mp hr).1 hk⟩
    rcases (by omega : k = 0 ∨ k = 1 ∨ k = 2 ∨ k = 3 ∨ k = 4 ∨ k = 5 ∨ k = 6 ∨ k = 7 ∨ k = 8 ∨ k = 9 ∨ k = 10 ∨ k = 11 ∨ k = 12) with rfl | rfl | rfl | rfl | rfl | rfl | rfl | rfl | rfl | rfl | rfl | rfl | rfl
    · obtain ⟨cC, iS, h⟩ := u_known (C := RX0) (T := TX0) (N := 16) (n := 16) hts KX0.2.1 (hts0 _ (tb_1 98 rfl))
      exact ⟨(cC, iS), fun r hr => by cases hr; exact h⟩
    · obtain ⟨cC, iS, h⟩ := u_known (C := RX1) (T := TX1) (N := 6) (n := 6) hts KX1.2.1 (hts0 _ (tb_2 159 rfl))
      exact ⟨(cC, iS), fun r hr => by cases hr; exact h⟩
    · obtain ⟨cC, iS, h⟩ := u_known (C := RX2) (T := TX2) (N := 6) (n := 6) hts KX2.2.1 (hts0 _ (tb_2 94 rfl))
      exact ⟨(cC, iS), fun r hr => by cases hr; exact h⟩
    · obtain ⟨cC, iS, h⟩ := u_known (C := RX3) (T := TX3) (N := 12) (n := 12) hts KX3.2.1 (hts0 _ (tb_1 183 rfl))
      exact ⟨(cC, iS), fun r hr => by cases hr; exact h⟩
    · obtain ⟨cC, iS, h⟩ := u_known (C := RX4) (T := TX4) (N := 6) (n := 6) hts KX4.2.1 (hts0 _ (tb_2 107 rfl))
      exact ⟨(cC, iS), fun r hr => by cases hr; exact h⟩
    · obtain ⟨cC, iS, h⟩ := u_known (C := RX5) (T := TX5) (N := 14) (n := 14) hts KX5.2.1 (hts0 _ (tb_1 27 rfl))
      exact ⟨(cC, iS), fun r hr => by cases hr; exact h⟩
    · obtain ⟨cC, iS, h⟩ := u_known (C := RX6) (T := TX6) (N := 6) (n := 6) hts KX6.2.1 (hts0 _ (tb_2 133 rfl))
      exact ⟨(cC, iS), fun r hr => by cases hr; exact h⟩
    · obtain ⟨cC, iS, h⟩ := u_known (C := RX7) (T := TX7) (N := 2) (n := 2) hts KX7.2.1 (hts0 _ (tb_1 163 rfl))
      exact ⟨(cC, iS), fun r hr => by cases hr; exact h⟩
    · obtain ⟨cC, iS, h⟩ := u_known (C := RX8) (T := TX8) (N := 6) (n := 6) hts KX8.2.1 (hts0 _ (tb_2 120 rfl))
      exact ⟨(cC, iS), fun r hr => by cases hr; exact h⟩
    · obtain ⟨cC, iS, h⟩ := u_known (C := RX9) (T := TX9) (N := 6) (n := 6) hts KX9.2.1 (hts0 _ (tb_2 36 rfl))
      exact ⟨(cC, iS), fun r hr => by cases hr; exact h⟩
    · obtain ⟨cC, iS, h⟩ := u_known (C := RX10) (T := TX10) (N := 6) (n := 6) hts KX10.2.1 (hts0 _ (tb_2 146 rfl))
      exact ⟨(cC, iS), fun r hr => by cases hr; exact h⟩
    · obtain ⟨cC, iS, h⟩ := u_known (C := RX11) (T := TX11) (N := 12) (n := 12) hts KX11.2.1 (hts0 _ (tb_1 19 rfl))
      exact ⟨(cC, iS), fun r hr => by cases hr; exact h⟩
    · obtain ⟨cC, iS, h⟩ := u_known (C := RX12) (T := TX12) (N := 73) (n := 73) hts KX12.2.1 (hts0 _ (tb_4 226 rfl))
      exact ⟨(cC, iS), fun r hr => by cases hr; exact h⟩
  obtain ⟨f, hf⟩ := Classical.axiomOfChoice hcl
  have har : ∀ t : Nat, ∃ cA : ClassId, ∀ q, q ∈ tysL → q.1 = t → ArrOfT s cA q.2 ∧ va_RA s cA q.2 := by
    intro t
    by_cases hk : ¬ (20 ≤ t ∧ t < 28)
    · exact ⟨(0 : Nat), fun q hq e => by
        simp only [tysL, List.mem_cons, List.not_mem_nil, or_false] at hq
        exfalso
        rcases hq with rfl | rfl | rfl | rfl | rfl | rfl | rfl | rfl <;> (apply hk; rw [← e]; decide)⟩
    rcases (by omega : t = 20 ∨ t = 21 ∨ t = 22 ∨ t = 23 ∨ t = 24 ∨ t = 25 ∨ t = 26 ∨ t = 27) with rfl | rfl | rfl | rfl | rfl | rfl | rfl | rfl
    · obtain ⟨cA, h⟩ := ky_prim (by intro n h; cases h) (hts0 _ (tb_1 96 rfl))
      exact ⟨cA, fun q hq e => by
        simp only [tysL, List.mem_cons, List.not_mem_nil, or_false] at hq
        rcases hq with rfl | rfl | rfl | rfl | rfl | rfl | rfl | rfl <;> first | exact h | exact absurd e (by decide)⟩
    · obtain ⟨cA, h⟩ := ky_prim (by intro n h; cases h) (hts0 _ (tb_1 227 rfl))
      exact ⟨cA, fun q hq e => by
        simp only [tysL, List.mem_cons, List.not_mem_nil, or_false] at hq
        rcases hq with rfl | rfl | rfl | rfl | rfl | rfl | rfl | rfl <;> first | exact h | exact absurd e (by decide)⟩
    · obtain ⟨cA, h⟩ := ky_prim (by intro n h; cases h) (hts0 _ (tb_1 177 rfl))
      exact ⟨cA, fun q hq e => by
        simp only [tysL, List.mem_cons, List.not_mem_nil, or_false] at hq
        rcases hq with rfl | rfl | rfl | rfl | rfl | rfl | rfl | rfl <;> first | exact h | exact absurd e (by decide)⟩
    · obtain ⟨cA, h⟩ := ky_prim (by intro n h; cases h) (hts0 _ (tb_5 211 rfl))
      exact ⟨cA, fun q hq e => by
        simp only [tysL, List.mem_cons, List.not_mem_nil, or_false] at hq
        rcases hq with rfl | rfl | rfl | rfl | rfl | rfl | rfl | rfl <;> first | exact h | exact absurd e (by decide)⟩
    · obtain ⟨cA, h⟩ := ky_obj (hts0 _ (tb_1 33 rfl))
      exact ⟨cA, fun q hq e => by
        simp only [tysL, List.mem_cons, List.not_mem_nil, or_false] at hq
        rcases hq with rfl | rfl | rfl | rfl | rfl | rfl | rfl | rfl <;> first | exact h | exact absurd e (by decide)⟩
    · obtain ⟨cA, h⟩ := ky_obj (hts0 _ (tb_1 161 rfl))
      exact ⟨cA, fun q hq e => by
        simp only [tysL, List.mem_cons, List.not_mem_nil, or_false] at hq
        rcases hq with rfl | rfl | rfl | rfl | rfl | rfl | rfl | rfl <;> first | exact h | exact absurd e (by decide)⟩
    · obtain ⟨cA, h⟩ := ky_arr (hts0 _ (tb_1 104 rfl))
      exact ⟨cA, fun q hq e => by
        simp only [tysL, List.mem_cons, List.not_mem_nil, or_false] at hq
        rcases hq with rfl | rfl | rfl | rfl | rfl | rfl | rfl | rfl <;> first | exact h | exact absurd e (by decide)⟩
    · obtain ⟨cA, h⟩ := ky_arr (hts0 _ (tb_1 179 rfl))
      exact ⟨cA, fun q hq e => by
        simp only [tysL, List.mem_cons, List.not_mem_nil, or_false] at hq
        rcases hq with rfl | rfl | rfl | rfl | rfl | rfl | rfl | rfl <;> first | exact h | exact absurd e (by decide)⟩
  obtain ⟨g, hg⟩ := Classical.axiomOfChoice har
  refine ⟨(fun k => (f k).1, fun k => (f k).2), g, fun G hD hc => ⟨⟨fun k q hq => by rw [hD]; exact hf k q hq, fun k q hq => ?_⟩, ?_⟩⟩
  · unfold tysG at hq
    rw [List.getElem?_map] at hq
    cases hx : tysL[k]? with
    | none => rw [hx] at hq; cases hq
    | some x =>
      rw [hx] at hq
      cases hq
      show ArrOfT s (gc G x.1) x.2 ∧ va_RA s (gc G x.1) x.2
      rw [hc]
      exact hg x.1 x (List.mem_of_getElem? hx) rfl
  · exact ⟨fun q hq => va_Nw.of rfl (hts0 _ (nest_mem q hq)), fun q hq => va_Nw.of rfl (hts0 _ (cast_mem q hq)), fun q hq => va_Nc.of (flat_of_before _ hgv _ (noc_mem q hq)), ⟨va_AO.of (hts0 _ (tb_1 33 rfl)), va_AO.of (hts0 _ (tb_1 161 rfl))⟩, hts0 _ (tb_1 104 rfl), hts0 _ (tb_1 179 rfl)⟩
theorem rm_f : room_1.frames = 2048 := rfl
theorem rm_l : room_1.locals = 84000 := rfl
theorem rm_c : room_1.cells = 600000 := rfl
theorem rm_s : room_1.slots = 7302250 := rfl
section LAWC
variable {p : Program} {l : Launch} {e : Env} {s : State} {m : MethodId} {below : List Frame} {meth : Method} {c : Code} {b L : Nat} {xs : Nat → Int32} {H : Heap} {locs : List Loc} {ls : Array Slot} {k n pc : Nat}
/-- a call of a public method: the receiver is cell 0 of its world -/
theorem lcallV (C0 : lw_At p s m meth c b L xs) {G : Gt} (hG : Gok G) (hKs : Ks G s) (hlow : ∀ q, gA G q → s.heap.size ≤ q) {y' : Mt} {idx na ci N : Nat} {T : u_T} {ty : Nat → FieldType} {av rest : List Value} {I : It} {h : Ht} {Q : Pt3} {d' mc' ms' : Nat}
    (hd : decode code pc = .ok (.invokevirtual idx, 3)) (hCls : CLS ci y'.1.cls T N ty) (h1 : Cond.methodLink R_law idx y'.1 ∈ TG) (h2 : Cond.instanceMethod y'.1 ∈ TG) (h2s : Cond.selects y'.1.cls y'.1 y'.1 ∈ TG) (h3 : Cond.initialized y'.1.cls ∈ TG) (h4 : Cond.code y'.1 y'.2.1 y'.2.2.1 y'.2.2.2 ∈ TG) (h5 : prms y'.1 na) (h6 : y'.2.2.1 ≤ 41)
    (hcl : (hs h 0).1 = ci) (h0 : 0 < hn h) (hlen : av.length = na) (hav : av.map (cv G) = av) (hC : Con G d' mc' ms' y' (.ref 0 :: av) I h Q) (hdd : d' ≤ 1000) (hk : k + mc' ≤ 600000) (hn' : n + ms' ≤ 7302250) (hls : ls.size = 4) (hst : (rest.map fun v => v.category).sum ≤ 8)
    (hW : Wd G I h H) (hS : va_S (fun q => s.heap.size ≤ q) s.heap H locs)
    (kk : ∀ r I' h' H' locs', Q r I' h' → Wd G I' h' H' → (H.size ≤ H'.size ∧ ∀ q, q < H.size → ¬ gA G q → H'[q]? = H[q]?) → va_S (fun q => s.heap.size ≤ q) s.heap H' locs' → W p l e room_1 s m #[Value.ref b] below meth c H' locs' (k + mc') (n + ms') (lw_Z below #[Value.ref b] s) (F0 m (pc + 3) ls ((r.map (cv G)).toList ++ rest))) :
    W p l e room_1 s m #[Value.ref b] below meth c H locs k n (lw_Z below #[Value.ref b] s) (F0 m pc ls (av.reverse ++ .ref (ga G 0) :: rest)) := by
  obtain ⟨hexec, hb, hrt, hml, hown, hts0, hX, hbl, hlk, hgv⟩ := C0
  have hts : ∀ w ∈ TG, w.before #[Value.ref b] s = true := fun w hw => hts0 w (tg_tbl hw)
  have r1 : (rmd d' mc' ms').frames + 1 ≤ room_1.frames := by rw [rm_f]; show d' + 1 ≤ 2048; omega
  have r2 : 8 + (y'.2.2.1 + 11) + (rmd d' mc' ms').locals ≤ room_1.locals := by rw [rm_l]; show 8 + (y'.2.2.1 + 11) + 60 * d' ≤ 84000; omega
  have r3 : k + mc' ≤ room_1.cells := by rw [rm_c]; exact hk
  have r4 : n + ms' ≤ room_1.slots := by rw [rm_s]; exact hn'
  intro T hT Xs
  have hrun : va_Run p l e room_1 s m #[Value.ref b] below meth c H locs k n mc' ms' (F0 m pc ls (av.reverse ++ .ref (ga G 0) :: rest)) rest (QC G Q (Value.ref (ga G 0) :: av).toArray) (gA G) :=
    va_runV (C := y'.1.cls) (b := ga G 0) (As := av) (nL := 4) (Ts := TG) (own := R_law) (rest := rest) ⟨hexec, hb, hml, hown, hts⟩ (hC l)
    ⟨callB_of na hts (tg_ws h4) rfl rfl rfl (hts _ h3) (hts _ h1) h5 ⟨r1, r2⟩, hts _ h2, hts _ h2s⟩
    ⟨pc_blind, rcv_of hKs.1 hW hCls h0 hcl, fun U hU hWm => ⟨by simp only [List.map_cons, hav]; rfl, by rw [hU]; exact hW, hKs.moved hWm⟩⟩ rfl hlen hls rfl (by show 2 * 0 + _ ≤ 8; omega) hd ⟨r3, r4⟩
  obtain ⟨v, st₀, t, T', L', q0, X', hL, e1, e2, ⟨⟨r, I', h', hv, hp, hw⟩, hz, hkp⟩, st⟩ := hrun T hT Xs
  cases hv
  rw [q0] at hz hkp
  obtain ⟨t2, a1, b1⟩ := kk r I' h' T'.heap (locs ++ L') hp (by rw [e1]; exact hw) ⟨by rw [e1]; exact hz, fun q z1 z2 => by rw [e1]; exact hkp q z1 z2⟩
    ⟨Nat.le_trans hS.1 (by rw [e1]; exact hz), fun q z1 z2 => by rw [e1, hkp q (Nat.lt_of_lt_of_le z1 hS.1) (fun z => z2 (hlow q z))]; exact hS.2.1 q z1 z2, fun q hq => by
      rcases List.mem_append.mp hq with z | z
      · exact hS.2.2 q z
      · exact hlow _ (hL q z)⟩ T' rfl X'
  exact ⟨t2, st t2 a1, b1⟩
/-- a constructor's call -/
theorem lcallI (C0 : lw_At p s m meth c b L xs) {G : Gt} (hG : Gok G) (hKs : Ks G s) (hlow : ∀ q, gA G q → s.heap.size ≤ q) {y' : Mt} {idx : Nat} {rest : List Value} {I : It} {h : Ht} {Q : Pt3} {d' mc' ms' : Nat}
    (hd : decode code pc = .ok (.invokespecial idx, 3)) (hi : y'.1.name = "<init>") (hre : y'.2.2.2 = none) (h1 : Cond.methodLink R_law idx y'.1 ∈ TG) (h2 : Cond.instanceMethod y'.1 ∈ TG) (h3 : Cond.initialized y'.1.cls ∈ TG) (h4 : Cond.code y'.1 y'.2.1 y'.2.2.1 y'.2.2.2 ∈ TG) (h5 : prms y'.1 0) (h6 : y'.2.2.1 ≤ 41)
    (hC : Con G d' mc' ms' y' [.ref 0] I h Q) (hdd : d' ≤ 1000) (hk : k + mc' ≤ 600000) (hn' : n + ms' ≤ 7302250) (hls : ls.size = 4) (hst : (rest.map fun v => v.category).sum ≤ 8)
    (hW : Wd G I h H) (hS : va_S (fun q => s.heap.size ≤ q) s.heap H locs)
    (kk : ∀ r I' h' H' locs', Q r I' h' → Wd G I' h' H' → (H.size ≤ H'.size ∧ ∀ q, q < H.size → ¬ gA G q → H'[q]? = H[q]?) → va_S (fun q => s.heap.size ≤ q) s.heap H' locs' → W p l e room_1 s m #[Value.ref b] below meth c H' locs' (k + mc') (n + ms') (lw_Z below #[Value.ref b] s) (F0 m (pc + 3) ls ((r.map (cv G)).toList ++ rest))) :
    W p l e room_1 s m #[Value.ref b] below meth c H locs k n (lw_Z below #[Value.ref b] s) (F0 m pc ls (.ref (ga G 0) :: rest)) := by
  obtain ⟨hexec, hb, hrt, hml, hown, hts0, hX, hbl, hlk, hgv⟩ := C0
  have hts : ∀ w ∈ TG, w.before #[Value.ref b] s = true := fun w hw => hts0 w (tg_tbl hw)
  have r1 : (rmd d' mc' ms').frames + 1 ≤ room_1.frames := by rw [rm_f]; show d' + 1 ≤ 2048; omega
  have r2 : 8 + (y'.2.2.1 + 11) + (rmd d' mc' ms').locals ≤ room_1.locals := by rw [rm_l]; show 8 + (y'.2.2.1 + 11) + 60 * d' ≤ 84000; omega
  have r3 : k + mc' ≤ room_1.cells := by rw [rm_c]; exact hk
  have r4 : n + ms' ≤ room_1.slots := by rw [rm_s]; exact hn'
  intro T hT Xs
  have hrun : va_Run p l e room_1 s m #[Value.ref b] below meth c H locs k n mc' ms' (F0 m pc ls (.ref (ga G 0) :: rest)) rest (QC G Q (Value.ref (ga G 0) :: []).toArray) (gA G) :=
    va_runI (bytes := y'.2.1) (maxL := y'.2.2.1) (b := ga G 0) (As := []) (nL := 4) (Ts := TG) (own := R_law) (rest := rest) ⟨hexec, hb, hml, hown, hts⟩ (hC l)
    ⟨callB_of (ws' := TG) 0 hts (tg_ws h4) (by rw [← hre]; rfl) rfl rfl (hts _ h3) (hts _ h1) h5 ⟨r1, r2⟩, hi, hts _ h2⟩
    ⟨pc_blind, fun U hU hWm => ⟨rfl, by rw [hU]; exact hW, hKs.moved hWm⟩⟩ rfl rfl hls rfl (by show 2 * 0 + _ ≤ 8; omega) hd ⟨r3, r4⟩
  obtain ⟨v, st₀, t, T', L', q0, X', hL, e1, e2, ⟨⟨r, I', h', hv, hp, hw⟩, hz, hkp⟩, st⟩ := hrun T hT Xs
  cases hv
  rw [q0] at hz hkp
  obtain ⟨t2, a1, b1⟩ := kk r I' h' T'.heap (locs ++ L') hp (by rw [e1]; exact hw) ⟨by rw [e1]; exact hz, fun q z1 z2 => by rw [e1]; exact hkp q z1 z2⟩
    ⟨Nat.le_trans hS.1 (by rw [e1]; exact hz), fun q z1 z2 => by rw [e1, hkp q (Nat.lt_of_lt_of_le z1 hS.1) (fun z => z2 (hlow q z))]; exact hS.2.1 q z1 z2, fun q hq => by
      rcases List.mem_append.mp hq with z | z
      · exact hS.2.2 q z
      · exact hlow _ (hL q z)⟩ T' rfl X'
  exact ⟨t2, st t2 a1, b1⟩
def hE : Ht := (fun _ _ => 0, fun _ _ => none, fun _ => (0, 0), 0)
def iE : It := fun _ _ => 0
/-- the first cell of a world is made -/
theorem lnew (C0 : lw_At p s m meth c b L xs) {G : Gt} (hKs : Ks G s) {idx ci N : Nat} {C : String} {T : u_T} {ty : Nat → FieldType} {st : List Value} (hd : decode code pc = .ok (.new idx, 3)) (hC : CLS ci C T N ty) (hdf : ∀ j, j < N → defaultValue (ty j) = if isr ci j then .null else .int 0) (hl : Cond.classLink R_law idx C ∈ TG) (hin : Cond.instantiable C N ∈ TG) (hini : Cond.initialized C ∈ TG)
    (hGn : Gnew G 0) (hsz : H.size = ga G 0) (hk : k + 1 ≤ 600000) (hn' : n + N ≤ 7302250) (hS : va_S (fun q => s.heap.size ≤ q) s.heap H locs)
    (kk : ∀ H1, Wd G (zI iE 0) (zH hE (ci, 0)) H1 → (∀ q, q < H.size → H1[q]? = H[q]?) → H1.size = H.size + 1 → va_S (fun q => s.heap.size ≤ q) s.heap H1 locs → W p l e room_1 s m #[Value.ref b] below meth c H1 locs (k + 1) (n + N) (lw_Z below #[Value.ref b] s) (F0 m (pc + 3) ls (.ref (ga G 0) :: st))) :
    W p l e room_1 s m #[Value.ref b] below meth c H locs k n (lw_Z below #[Value.ref b] s) (F0 m pc ls st) := by
  obtain ⟨hexec, hb, hrt, hml, hown, hts0, hX, hbl, hlk, hgv⟩ := C0
  have hts : ∀ w ∈ TG, w.before #[Value.ref b] s = true := fun w hw => hts0 w (tg_tbl hw)
  obtain ⟨c1, c2, c3, c4, c5, c6⟩ := hC
  have hKn := hKs.1.1 ci _ c1
  refine W.newcK hexec hb hown (hts _ hl) (hts _ hin) (hts _ hini) rfl hd hk hn' hKn.2.1 rfl fun H1 kC hkC e1 z1 o1 => ?_
  rw [hsz]
  refine kk H1 ⟨?_, by rw [z1, hsz]; exact hGn.2.symm⟩ o1 z1 ⟨Nat.le_trans hS.1 (by omega), fun x h1 h2 => (o1 x (Nat.lt_of_lt_of_le h1 hS.1)).trans (hS.2.1 x h1 h2), hS.2.2⟩
  intro i x hx
  obtain ⟨hi, hxa⟩ := wl_at hx
  have hi0 : i = 0 := by
    have : i < 0 + 1 := hi
    omega
  subst hi0
  rw [wl_get (show 0 < hn (zH hE (ci, 0)) from Nat.zero_lt_one)] at hx
  cases hx
  rw [ent_obj (show (hs (zH hE (ci, 0)) 0).1 = ci from congrArg Prod.fst (show (if (0 : Nat) = 0 then (ci, 0) else (0, 0)) = (ci, 0) from if_pos rfl)) c6, ← hsz]
  refine ⟨_, c1, (u_born ty hts c2 hKn hkC e1 c3).to fun j hj => ?_⟩
  rw [hdf j hj]
  show _ = vp_V _ j
  unfold vp_V
  rw [List.getD_eq_getElem?_getD, fvs_get (by rw [c5]; exact hj), Option.getD_some]
  unfold fvl
  by_cases hr : isr ci j = true
  · rw [if_pos hr, if_pos hr]; rfl
  · rw [if_neg hr, if_neg hr]; rfl
/-- an int of the script -/
theorem larg (C0 : lw_At p s m meth c b L xs) {i k0 : Nat} {z : Int} {rest : List Value} {lv : List (Nat × Value)} (hl : lv_has ls 4 lv) (h0 : lv[0]? = some (0, .ref b)) (h3 : lv[3]? = some (3, .int (nI i))) (hS : va_S (fun q => s.heap.size ≤ q) s.heap H locs)
    (d0 : decode code pc = .ok (.aload_n 0, 1)) (d1 : decode code (pc + 1) = .ok (.iload_n 3, 1)) (d2 : decode code (pc + 1 + 1) = .ok (.iconst z, 1)) (d3 : decode code (pc + 1 + 1 + 1) = .ok (.iadd, 1)) (d4 : decode code (pc + 1 + 1 + 1 + 1) = .ok (.iaload, 1)) (hz : Int32.ofInt z = nI k0) (hik : i + k0 < L) (hL : L < 2 ^ 31)
    (kk : W p l e room_1 s m #[Value.ref b] below meth c H locs k n (lw_Z below #[Value.ref b] s) (F0 m (pc + 1 + 1 + 1 + 1 + 1) ls (.int (xs (i + k0)) :: rest))) :
    W p l e room_1 s m #[Value.ref b] below meth c H locs k n (lw_Z below #[Value.ref b] s) (F0 m pc ls rest) := by
  obtain ⟨hexec, hb, hrt, hml, hown, hts0, hX, hbl, hlk, hgv⟩ := C0
  refine lv_aload_n hexec hb d0 rfl (lv_at hl 0 h0) ?_
  refine lv_iload_n hexec hb d1 rfl (lv_at hl 3 h3) ?_
  refine lv_iconst (v := nI k0) hexec hb d2 hz ?_
  refine lv_iadd hexec hb d3 ?_
  rw [nI_add]
  refine va_sld hexec hb hX hbl (Nat.not_le.mpr hbl) hS (vp_in_nI hik hL) d4 ?_
  rw [nI_clamp (by omega)]
  exact kk
theorem larg6 (C0 : lw_At p s m meth c b L xs) {i k0 : Nat} {z : Int} {rest : List Value} {lv : List (Nat × Value)} (hl : lv_has ls 4 lv) (h0 : lv[0]? = some (0, .ref b)) (h3 : lv[3]? = some (3, .int (nI i))) (hS : va_S (fun q => s.heap.size ≤ q) s.heap H locs)
    (d0 : decode code pc = .ok (.aload_n 0, 1)) (d1 : decode code (pc + 1) = .ok (.iload_n 3, 1)) (d2 : decode code (pc + 1 + 1) = .ok (.bipush z, 2)) (d3 : decode code (pc + 1 + 1 + 2) = .ok (.iadd, 1)) (d4 : decode code (pc + 1 + 1 + 2 + 1) = .ok (.iaload, 1)) (hz : (Int8.ofInt z).toInt32 = nI k0) (hik : i + k0 < L) (hL : L < 2 ^ 31)
    (kk : W p l e room_1 s m #[Value.ref b] below meth c H locs k n (lw_Z below #[Value.ref b] s) (F0 m (pc + 1 + 1 + 2 + 1 + 1) ls (.int (xs (i + k0)) :: rest))) :
    W p l e room_1 s m #[Value.ref b] below meth c H locs k n (lw_Z below #[Value.ref b] s) (F0 m pc ls rest) := by
  obtain ⟨hexec, hb, hrt, hml, hown, hts0, hX, hbl, hlk, hgv⟩ := C0
  refine lv_aload_n hexec hb d0 rfl (lv_at hl 0 h0) ?_
  refine lv_iload_n hexec hb d1 rfl (lv_at hl 3 h3) ?_
  refine lv_bipush (v := nI k0) hexec hb d2 hz ?_
  refine lv_iadd hexec hb d3 ?_
  rw [nI_add]
  refine va_sld hexec hb hX hbl (Nat.not_le.mpr hbl) hS (vp_in_nI hik hL) d4 ?_
  rw [nI_clamp (by omega)]
  exact kk
/-- the switch on what is to be called -/
theorem ltswitch (C0 : lw_At p s m meth c b L xs) {x : Int32} {dflt lo hi : Int} {offs : Array Int} {len dt : Nat} {st : List Value} (cs : List (Int32 × Nat)) (hd : decode code pc = .ok (.tableswitch dflt lo hi offs, len)) (ho : tsOk pc lo hi dflt offs cs dt = true)
    (kk : swk cs dt x (fun t => W p l e room_1 s m #[Value.ref b] below meth c H locs k n (lw_Z below #[Value.ref b] s) (F0 m t ls st))) : W p l e room_1 s m #[Value.ref b] below meth c H locs k n (lw_Z below #[Value.ref b] s) (F0 m pc ls (.int x :: st)) := by
  obtain ⟨hexec, hb, hrt, hml, hown, hts0, hX, hbl, hlk, hgv⟩ := C0
  simp only [tsOk, Bool.and_eq_true, decide_eq_true_eq, List.all_eq_true, List.mem_range] at ho
  obtain ⟨⟨h1, h2⟩, h3⟩ := ho
  rcases swk_use cs dt x _ kk with ⟨i, q, g1, g2, g3, -⟩ | ⟨g1, g2⟩
  · have hi : i < cs.length := (List.getElem?_eq_some_iff.mp g1).1
    have h4 := h3 i hi
    rw [g1] at h4
    cases ho : offs[i]? with
    | none => rw [ho] at h4; simp at h4
    | some o =>
      rw [ho] at h4
      simp only [Bool.and_eq_true, decide_eq_true_eq] at h4
      have hx : x.toInt = lo + (i : Int) := by rw [g2]; exact h4.2
      exact lv_tableIn hexec hb hd (by omega) (by omega) (by rw [hx, show (lo + (i : Int) - lo).toNat = i by omega]; exact ho) h4.1 g3
  · refine lv_tableOut hexec hb hd ?_ h1 g2
    by_cases hr : x.toInt < lo ∨ hi < x.toInt
    · exact hr
    · exfalso
      obtain ⟨i, hi⟩ : ∃ i : Nat, x.toInt = lo + (i : Int) := ⟨(x.toInt - lo).toNat, by omega⟩
      have hil : i < cs.length := by omega
      have h4 := h3 i hil
      rw [List.getElem?_eq_getElem hil] at h4
      cases ho : offs[i]? with
      | none => rw [ho] at h4; simp at h4
      | some o =>
        rw [ho] at h4
        simp only [Bool.and_eq_true, decide_eq_true_eq] at h4
        exact g1 _ (List.getElem_mem hil) (Int32.toInt_inj.mp (by rw [hi, h4.2]))
end LAWC

