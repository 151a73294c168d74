/-! looking ahead, exactly: weeks as the class goes through them against the reference's -/
theorem RZ.sc {E : It} {L : Nat → Int64} {I J : It} {h : Ht} (hE : Inv E) (hZ : RZ E L I h) (hS : Sc I J) : RZ E L J h :=
  ⟨hZ.1.sc hS, hZ.2.keep (fun _ _ => rfl) (fun _ _ => rfl) (fun j _ => congrFun (hS 0 (by omega)) j) (fun j _ => congrFun (hS 1 (by omega)) j) (fun j _ => congrFun (hS 7 (by omega)) j) (fun a ha => hS a (by omega)) rfl rfl hE.2.2.1.2⟩
theorem gb_ext {a b : Int32} (h : ∀ i, i < 32 → gb a i = gb b i) : a = b := by
  apply Int32.toBitVec.inj
  apply BitVec.eq_of_getLsbD_eq
  intro i hi
  exact h i hi
theorem sm_d : ∀ d, d < 32 → (nI d &&& 31).toBitVec.smod 32 = BitVec.ofNat 32 d := by decide
theorem has_gb (s : Int32) {d : Nat} (hd : d < 32) : hasI s (nI d) = b2 (gb s d) := by
  apply gb_ext
  intro i hi
  unfold hasI
  rw [gb_and, gb_1 i hi, gb_b2 _ hi]
  by_cases e : i = 0
  · subst e
    have : gb (s >>> (nI d &&& 31)) 0 = gb s d := by
      unfold gb
      rw [Int32.toBitVec_shiftRight, sm_d d hd, BitVec.sshiftRight_eq', BitVec.getLsbD_sshiftRight]
      rw [BitVec.toNat_ofNat, Nat.mod_eq_of_lt (by omega), if_pos (by omega), Nat.add_zero]
      rfl
    rw [this]; simp
  · simp [e]
theorem has_1 (s : Int32) {d : Nat} (hd : d < 32) : (hasI s (nI d) = 1) ↔ gb s d = true := by
  rw [has_gb s hd]
  cases gb s d <;> decide
theorem has_0 (s : Int32) {d : Nat} (hd : d < 32) : (hasI s (nI d) = 0) ↔ gb s d = false := by
  rw [has_gb s hd]
  cases gb s d <;> decide
set_option maxRecDepth 100000 in
theorem gb_bit : ∀ d, d < 32 → ∀ i, i < 32 → gb (bitI (nI d)) i = decide (i = d) := by decide +kernel
theorem gb_not (b : Int32) {i : Nat} (hi : i < 32) : gb (b ^^^ (-1)) i = !gb b i := by
  rw [gb_xor]
  have : ∀ i, i < 32 → gb (-1) i = true := by decide
  rw [this i hi]
  cases gb b i <;> rfl
theorem gb_with (s z : Int32) {d i : Nat} (hd : d < 32) (hi : i < 32) : gb (withI s (nI d) z) i = if i = d then decide (z ≠ 0) else gb s i := by
  unfold withI
  by_cases hz : z = 0
  · rw [if_pos hz, gb_and, gb_not _ hi, gb_bit d hd i hi]
    by_cases e : i = d
    · simp [e, hz]
    · simp [e]
  · rw [if_neg hz, gb_or, gb_bit d hd i hi]
    by_cases e : i = d
    · simp [e, hz]
    · simp [e]
theorem gb_hi {n : Nat} {x : Int32} (h : kb n x) {i : Nat} (hi : n ≤ i) (h32 : i < 32) : gb x i = false := by
  obtain ⟨m, hm, rfl⟩ := h
  unfold gb
  rw [nI_bv, BitVec.getLsbD_ofNat]
  simp only [h32, decide_true, Bool.true_and]
  exact Nat.testBit_lt_two_pow (Nat.lt_of_lt_of_le hm (Nat.pow_le_pow_right (by decide) hi))
/-! how many bits -/
def cfR (f : Nat → Bool) : Nat → Nat → Int32 → Int32 := fun k => match k with
  | 0 => fun _ z => z
  | k + 1 => fun i z => cfR f k (i + 1) (z + b2 (f i))
theorem cfR_s (f : Nat → Bool) (k i : Nat) (z : Int32) : cfR f (k + 1) i z = cfR f k (i + 1) (z + b2 (f i)) := rfl
theorem cfR_cg {f g : Nat → Bool} : ∀ (k i : Nat) (z : Int32), (∀ j, i ≤ j → j < i + k → f j = g j) → cfR f k i z = cfR g k i z := by
  intro k
  induction k with
  | zero => intro i z _; rfl
  | succ k ih =>
    intro i z h
    rw [cfR_s, cfR_s, h i (Nat.le_refl _) (by omega)]
    exact ih (i + 1) _ (fun j h1 h2 => h j (by omega) (by omega))
theorem cfR_z {f : Nat → Bool} : ∀ (k i : Nat) (z : Int32), cfR f k i z = z + cfR f k i 0 := by
  intro k
  induction k with
  | zero => intro i z; show z = z + 0; rw [Int32.add_zero]
  | succ k ih => intro i z; rw [cfR_s, cfR_s, ih (i + 1) (z + b2 (f i)), ih (i + 1) (0 + b2 (f i)), Int32.zero_add, Int32.add_assoc]
set_option maxRecDepth 100000 in
theorem ones_f : ∀ n, n ≤ 10 → ∀ m, m < 2 ^ n → nI (onesN m) = cfR (fun i => gb (nI m) i) n 0 0 := by decide +kernel
/-- who comes, as bits -/
def cbR (E : It) (w : Nat) : Nat → Nat → Int32 → Int32 := fun k => match k with
  | 0 => fun _ b => b
  | k + 1 => fun d b => cbR E w k (d + 1) (if remI (nI w) (E 3 d) = E 4 d then b ||| bitI (nI d) else b)
theorem cbR_s (E : It) (w k d : Nat) (b : Int32) : cbR E w (k + 1) d b = cbR E w k (d + 1) (if remI (nI w) (E 3 d) = E 4 d then b ||| bitI (nI d) else b) := rfl
def cbF (E : It) (w : Nat) : Int32 := cbR E w (cnt E) 0 0
theorem cb_m {E : It} {L : Nat → Int64} {I : It} {h : Ht} (hE : Inv E) (hY : RY E L I h) {w : Nat} (hw : w ≤ 20000) : cmF I h (nI w) = cbF E w := by
  have key : ∀ (k d : Nat) (b : Int32), d + k = cnt E → cmR I h (nI w) k d b = cbR E w k d b := by
    intro k
    induction k with
    | zero => intro d b _; rfl
    | succ k ih =>
      intro d b hk
      rw [cmR_s, cbR_s]
      have e : (if wuF I (dn h d) (nI w) = 0 then b ||| bitI (nI d) else b) = (if remI (nI w) (E 3 d) = E 4 d then b ||| bitI (nI d) else b) := by
        by_cases z : remI (nI w) (E 3 d) = E 4 d
        · rw [if_pos z, if_pos ((cm_0 hE hY (by omega) hw).mpr z)]
        · rw [if_neg z, if_neg (fun q => z ((cm_0 hE hY (by omega) hw).mp q))]
      rw [e]
      exact ih (d + 1) _ (by omega)
  unfold cmF cbF
  rw [hY.cn]
  exact key (cnt E) 0 0 (Nat.zero_add _)
def dcC (E : It) (i w : Nat) : Decidable (comesF E i w) := by unfold comesF; exact inferInstance
theorem cb_gb {E : It} (w : Nat) : ∀ (k d : Nat) (b : Int32) (i : Nat), d + k ≤ 32 → i < 32 → gb (cbR E w k d b) i = (gb b i || (decide (d ≤ i ∧ i < d + k) && @decide (comesF E i w) (dcC E i w))) := by
  intro k
  induction k with
  | zero =>
    intro d b i _ _
    show gb b i = _
    rw [show decide (d ≤ i ∧ i < d + 0) = false from decide_eq_false (by omega)]
    simp
  | succ k ih =>
    intro d b i hk hi
    rw [cbR_s, ih (d + 1) _ i (by omega) hi]
    by_cases e : i = d
    · subst e
      rw [show decide (i + 1 ≤ i ∧ i < i + 1 + k) = false from decide_eq_false (by omega), show decide (i ≤ i ∧ i < i + (k + 1)) = true from decide_eq_true (by omega)]
      by_cases z : remI (nI w) (E 3 i) = E 4 i
      · have zc : comesF E i w := z
        rw [if_pos z, gb_or, gb_bit i (by omega) i hi, @decide_eq_true _ (dcC E i w) zc]; simp
      · have zc : ¬ comesF E i w := z
        rw [if_neg z, @decide_eq_false _ (dcC E i w) zc]; simp
    · have h1 : gb (if remI (nI w) (E 3 d) = E 4 d then b ||| bitI (nI d) else b) i = gb b i := by
        by_cases z : remI (nI w) (E 3 d) = E 4 d
        · rw [if_pos z, gb_or, gb_bit d (by omega) i hi]; simp [e]
        · rw [if_neg z]
      rw [h1, show decide (d + 1 ≤ i ∧ i < d + 1 + k) = decide (d ≤ i ∧ i < d + (k + 1)) from decide_eq_decide.mpr (by omega)]
theorem cbF_gb {E : It} (hE : Inv E) (w : Nat) {i : Nat} (hi : i < cnt E) : gb (cbF E w) i = @decide (comesF E i w) (dcC E i w) := by
  have hc := (inv_cnt hE).2
  unfold cbF
  rw [cb_gb w (cnt E) 0 0 i (by omega) (by omega), gb_0 i (by omega)]
  simp [hi]
theorem cbF_hi {E : It} (hE : Inv E) (w : Nat) {i : Nat} (hi : cnt E ≤ i) (h32 : i < 32) : gb (cbF E w) i = false := by
  have hc := (inv_cnt hE).2
  unfold cbF
  rw [cb_gb w (cnt E) 0 0 i (by omega) h32, gb_0 i h32]
  simp
  omega
theorem kb_cb {E : It} (hE : Inv E) (w : Nat) : kb (cnt E) (cbF E w) := by
  have hc := (inv_cnt hE).2
  have key : ∀ (k d : Nat) (b : Int32), d + k = cnt E → kb (cnt E) b → kb (cnt E) (cbR E w k d b) := by
    intro k
    induction k with
    | zero => intro d b _ h; exact h
    | succ k ih =>
      intro d b hk h
      rw [cbR_s]
      refine ih (d + 1) _ (by omega) ?_
      split
      · exact kb_or h (kb_bit (by omega) hc)
      · exact h
  exact key (cnt E) 0 0 (Nat.zero_add _) (kb_0 _)
/-! numbers stay small -/
theorem sumF_b {E : It} (hE : Inv E) {what : Int32} {i : Nat} {y w : Int32} : ∀ (k c s : Nat), beg E ≤ c → c + k = beg E + ncl E → s + 99 * k < 2 ^ 30 → ∃ s', sumF E what i y w k c (nI s) = nI s' ∧ s' ≤ s + 99 * k := by
  intro k
  induction k with
  | zero => intro c s _ _ _; exact ⟨s, rfl, by omega⟩
  | succ k ih =>
    intro c s h1 h2 h3
    rw [sumF_s]
    obtain ⟨p, -, -, hcl⟩ := cl_of hE h1 (by omega)
    obtain ⟨v, hv, ev⟩ := hcl.2.1
    have : ∃ v, v ≤ 99 ∧ (if E 11 c = what ∧ holdsF E c i y w = true then E 12 c else 0) = nI v := by
      split
      · exact ⟨v, hv, ev⟩
      · exact ⟨0, by decide, rfl⟩
    obtain ⟨v, hv, ev⟩ := this
    rw [ev, nI_add]
    obtain ⟨s', e1, e2⟩ := ih (c + 1) (s + v) (by omega) (by omega) (by omega)
    exact ⟨s', e1, by omega⟩
theorem dear_b {E : It} (hE : Inv E) {d : Nat} (hd : d < cnt E) (w : Int32) : ∃ x, x ≤ 1089 ∧ dearF E d w = nI x := by
  obtain ⟨-, -, -, ⟨c, hc, ec⟩, -⟩ := inv_d hE hd
  have hb : ncl E ≤ 10 := by
    rcases inv_the hE with ⟨-, -, e⟩ | ⟨x, c, -, -, -, -, h2, -, -, e, -⟩ <;> omega
  obtain ⟨s, e1, e2⟩ := sumF_b hE (what := 1) (i := d) (y := 9) (w := remI w 60) (ncl E) (beg E) 0 (Nat.le_refl _) rfl (by omega)
  refine ⟨c + s, by omega, ?_⟩
  unfold dearF sumP
  rw [ec, show (0 : Int32) = nI 0 from rfl, e1, nI_add]
theorem dear_60 {E : It} {d x : Nat} (hx : x < 2 ^ 31) : dearF E d (nI x) = dearF E d (nI (x % 60)) := by
  unfold dearF
  rw [show (60 : Int32) = nI 60 from rfl, rem_nI hx (by decide) (by decide), rem_nI (by omega) (by decide) (by decide), Nat.mod_mod]
/-! a week, as the class goes through it -/
def kcV (E : It) (d : Nat) : Int32 := if E 1 d = 6 then 0 else 1
def klV (E : It) (d : Nat) : Int32 := @bI (learnsF E d) (dcL E d)
/-- one that stops -/
def csS (E : It) (w : Nat) (may : Int32) (d : Nat) (a : WS) : WS := match a with
  | (had, kn, co, st, ca, fw, fd) =>
    if had < may then (had + 1, if kcV E d = 0 then kn else kn ||| bitI (nI d), co + 1, st + 1, ca + 1, if st = 0 then nI w else fw, if st = 0 then nI d else fd)
    else (had, if klV E d = 0 then kn else kn ||| bitI (nI d), co + dearF E d (nI w), st + 1, ca, if st = 0 then nI w else fw, if st = 0 then nI d else fd)
def csR (E : It) (w : Nat) (may who : Int32) : Nat → Nat → WS → WS := fun k => match k with
  | 0 => fun _ a => a
  | k + 1 => fun d a => csR E w may who k (d + 1) (if gb who d = true then csS E w may d a else a)
theorem csR_s (E : It) (w : Nat) (may who : Int32) (k d : Nat) (a : WS) : csR E w may who (k + 1) d a = csR E w may who k (d + 1) (if gb who d = true then csS E w may d a else a) := rfl
/-- stops so far, and the first one's week -/
def FW (N : Nat) (st fw : Int32) : Prop := ∃ s, s ≤ N ∧ st = nI s ∧ (s = 0 ↔ fw < 0)
theorem FW.st {N w : Nat} {st fw : Int32} (hN : N < 2 ^ 30) (hw : w < 2 ^ 31) (h : FW N st fw) : FW (N + 1) (st + 1) (if fw < 0 then nI w else fw) ∧ (st = 0 ↔ fw < 0) := by
  obtain ⟨s, hs, rfl, e⟩ := h
  have e0 : nI s = 0 ↔ s = 0 := nI_eq (b := 0) (by omega) (by decide)
  refine ⟨⟨s + 1, by omega, nI_1 s, ?_⟩, e0.trans e⟩
  constructor
  · intro z; omega
  · intro z
    by_cases q : fw < 0
    · rw [if_pos q] at z; exact absurd z (nI_pos hw)
    · rw [if_neg q] at z; exact absurd z q
theorem with_or {kn : Int32} {d : Nat} (hd : d < 32) (h : gb kn d = false) (z : Int32) : withI kn (nI d) z = if z = 0 then kn else kn ||| bitI (nI d) := by
  unfold withI
  by_cases hz : z = 0
  · rw [if_pos hz, if_pos hz]
    apply gb_ext
    intro i hi
    rw [gb_and, gb_not _ hi, gb_bit d hd i hi]
    by_cases e : i = d
    · subst e; rw [h]; rfl
    · simp [e]
  · rw [if_neg hz, if_neg hz]
/-- the reference's step, for one that stops -/
theorem step_st {E : It} {idl may : Int32} {w d N : Nat} {had kn co st ca fw fd : Int32} (hd : d < 32) (hc : comesF E d w) (h1 : gb idl d = false) (h2 : gb kn d = false) (hst : st = 0 ↔ fw < 0) :
    wkStep E idl w may d (had, kn, co, st, ca, fw, fd) = csS E w may d (had, kn, co, st, ca, fw, fd) := by
  unfold wkStep csS
  have hc' : remI (nI w) (E 3 d) = E 4 d := hc
  have i1 : ¬ hasI idl (nI d) = 1 := fun z => by rw [has_1 _ hd, h1] at z; exact absurd z (by decide)
  have i2 : ¬ hasI kn (nI d) = 1 := fun z => by rw [has_1 _ hd, h2] at z; exact absurd z (by decide)
  have f1 : (if fw < 0 then nI w else fw) = if st = 0 then nI w else fw := by
    by_cases z : fw < 0
    · rw [if_pos z, if_pos (hst.mpr z)]
    · rw [if_neg z, if_neg (fun q => z (hst.mp q))]
  have f2 : (if fw < 0 then nI d else fd) = if st = 0 then nI d else fd := by
    by_cases z : fw < 0
    · rw [if_pos z, if_pos (hst.mpr z)]
    · rw [if_neg z, if_neg (fun q => z (hst.mp q))]
  dsimp only
  rw [if_neg (not_not_intro hc'), if_neg i1, if_neg i2, f1, f2, with_or hd h2, with_or hd h2]
  by_cases hm : had < may
  · rw [if_pos hm, if_pos hm]
    congr 2
    by_cases e6 : E 1 d = 6
    · unfold kcV; rw [if_pos e6, bI_f (not_not_intro e6)]
    · unfold kcV; rw [if_neg e6, bI_t e6]
  · rw [if_neg hm, if_neg hm]
    rfl
theorem csS_gb {E : It} {w d j : Nat} {may had kn co st ca fw fd : Int32} (hd : d < 32) (hj : j < 32) (h : j ≠ d) : gb (csS E w may d (had, kn, co, st, ca, fw, fd)).2.1 j = gb kn j := by
  have q : gb (kn ||| bitI (nI d)) j = gb kn j := by rw [gb_or, gb_bit d hd j hj]; simp [h]
  unfold csS
  dsimp only
  split
  · dsimp only; split
    · rfl
    · exact q
  · dsimp only; split
    · rfl
    · exact q
theorem csS_co {E : It} {w d : Nat} {may had kn co z st ca fw fd : Int32} : csS E w may d (had, kn, co + z, st, ca, fw, fd) = ((csS E w may d (had, kn, co, st, ca, fw, fd)).1, (csS E w may d (had, kn, co, st, ca, fw, fd)).2.1, (csS E w may d (had, kn, co, st, ca, fw, fd)).2.2.1 + z, (csS E w may d (had, kn, co, st, ca, fw, fd)).2.2.2.1, (csS E w may d (had, kn, co, st, ca, fw, fd)).2.2.2.2.1, (csS E w may d (had, kn, co, st, ca, fw, fd)).2.2.2.2.2.1, (csS E w may d (had, kn, co, st, ca, fw, fd)).2.2.2.2.2.2) := by
  unfold csS
  dsimp only
  split
  · dsimp only; rw [Int32.add_assoc, Int32.add_comm z, ← Int32.add_assoc]
  · dsimp only; rw [Int32.add_assoc, Int32.add_comm z, ← Int32.add_assoc]
theorem csS_fw {E : It} {w d N : Nat} {may had kn co st ca fw fd : Int32} (hN : N < 2 ^ 30) (hw : w < 2 ^ 31) (h : FW N st fw) : FW (N + 1) (csS E w may d (had, kn, co, st, ca, fw, fd)).2.2.2.1 (csS E w may d (had, kn, co, st, ca, fw, fd)).2.2.2.2.2.1 := by
  obtain ⟨h1, h2⟩ := h.st hN hw
  have f1 : (if fw < 0 then nI w else fw) = if st = 0 then nI w else fw := by
    by_cases z : fw < 0
    · rw [if_pos z, if_pos (h2.mpr z)]
    · rw [if_neg z, if_neg (fun q => z (h2.mp q))]
  rw [f1] at h1
  unfold csS
  dsimp only
  split
  · exact h1
  · exact h1
/-- those that are NEEDLESS, come, and are KNOWN -/
def nkB (E : It) (idl kn : Int32) (w : Nat) : Nat → Bool := fun j => @decide (comesF E j w) (dcC E j w) && (gb idl j && gb kn j)
theorem wk_e {E : It} {idl may who : Int32} {w : Nat} (hw : w < 2 ^ 31) : ∀ (k i N : Nat) (had kn co z st ca fw fd : Int32), i + k ≤ 32 → N + k < 2 ^ 30 → (∀ j, i ≤ j → j < i + k → gb who j = (@decide (comesF E j w) (dcC E j w) && (!gb idl j && !gb kn j))) → FW N st fw →
    wkRun E idl w may k i (had, kn, co + z, st, ca, fw, fd) = ((csR E w may who k i (had, kn, co, st, ca, fw, fd)).1, (csR E w may who k i (had, kn, co, st, ca, fw, fd)).2.1, (csR E w may who k i (had, kn, co, st, ca, fw, fd)).2.2.1 + (z + cfR (nkB E idl kn w) k i 0), (csR E w may who k i (had, kn, co, st, ca, fw, fd)).2.2.2.1, (csR E w may who k i (had, kn, co, st, ca, fw, fd)).2.2.2.2.1, (csR E w may who k i (had, kn, co, st, ca, fw, fd)).2.2.2.2.2.1, (csR E w may who k i (had, kn, co, st, ca, fw, fd)).2.2.2.2.2.2) := by
  intro k
  induction k with
  | zero =>
    intro i N had kn co z st ca fw fd _ _ _ _
    show (had, kn, co + z, st, ca, fw, fd) = (had, kn, co + (z + 0), st, ca, fw, fd)
    rw [Int32.add_zero]
  | succ k ih =>
    intro i N had kn co z st ca fw fd hk hN hwho hF
    rw [wkRun_s, csR_s, cfR_s, hwho i (Nat.le_refl _) (by omega)]
    have hi : i < 32 := by omega
    by_cases hc : comesF E i w
    · have hc' : remI (nI w) (E 3 i) = E 4 i := hc
      cases hid : gb idl i with
      | true =>
        -- NEEDLESS: costs 1 if KNOWN
        have i1 : hasI idl (nI i) = 1 := (has_1 _ hi).mpr hid
        have e1 : wkStep E idl w may i (had, kn, co + z, st, ca, fw, fd) = (had, kn, co + (z + b2 (gb kn i)), st, ca, fw, fd) := by
          unfold wkStep
          dsimp only
          rw [if_neg (not_not_intro hc'), if_pos i1, Int32.add_assoc]
          congr 4
          cases hk2 : gb kn i with
          | true => rw [if_pos ((has_1 _ hi).mpr hk2)]; rfl
          | false => rw [if_neg (fun q => by rw [has_1 _ hi, hk2] at q; exact absurd q (by decide))]; rfl
        rw [e1, if_neg (by simp)]
        rw [ih (i + 1) N had kn co (z + b2 (gb kn i)) st ca fw fd (by omega) (by omega) (fun j h1 h2 => hwho j (by omega) (by omega)) hF]
        have e2 : nkB E idl kn w i = gb kn i := by unfold nkB; rw [@decide_eq_true _ (dcC E i w) hc, hid]; simp
        rw [e2, Int32.zero_add, cfR_z k (i + 1) (b2 (gb kn i)), ← Int32.add_assoc z]
      | false =>
        cases hkn : gb kn i with
        | true =>
          -- KNOWN: nothing
          have i1 : ¬ hasI idl (nI i) = 1 := fun q => by rw [has_1 _ hi, hid] at q; exact absurd q (by decide)
          have i2 : hasI kn (nI i) = 1 := (has_1 _ hi).mpr hkn
          have e1 : wkStep E idl w may i (had, kn, co + z, st, ca, fw, fd) = (had, kn, co + z, st, ca, fw, fd) := by
            unfold wkStep
            dsimp only
            rw [if_neg (not_not_intro hc'), if_neg i1, if_pos i2]
          rw [e1, if_neg (by simp)]
          have e2 : nkB E idl kn w i = false := by unfold nkB; rw [hid]; simp
          rw [e2, show b2 false = 0 from rfl, Int32.zero_add]
          exact ih (i + 1) N had kn co z st ca fw fd (by omega) (by omega) (fun j h1 h2 => hwho j (by omega) (by omega)) hF
        | false =>
          -- it STOPS
          have e1 := step_st (E := E) (idl := idl) (may := may) (had := had) (co := co + z) (ca := ca) (fd := fd) hi hc hid hkn (hF.st (w := w) (by omega) hw).2 (N := N)
          rw [e1, csS_co, if_pos (by rw [@decide_eq_true _ (dcC E i w) hc]; rfl)]
          have e2 : nkB E idl kn w i = false := by unfold nkB; rw [hid]; simp
          rw [e2, show b2 false = 0 from rfl, Int32.zero_add]
          have hFn := csS_fw (E := E) (d := i) (may := may) (had := had) (kn := kn) (co := co) (ca := ca) (fd := fd) (w := w) (by omega) hw hF
          have hgb : ∀ j, i + 1 ≤ j → j < i + 1 + k → gb (csS E w may i (had, kn, co, st, ca, fw, fd)).2.1 j = gb kn j := fun j h1 h2 => csS_gb hi (by omega) (by omega)
          generalize csS E w may i (had, kn, co, st, ca, fw, fd) = A at hFn hgb
          obtain ⟨had', kn', co', st', ca', fw', fd'⟩ := A
          dsimp only at hFn hgb ⊢
          rw [ih (i + 1) (N + 1) had' kn' co' z st' ca' fw' fd' (by omega) (by omega) (fun j h1 h2 => by rw [hgb j h1 h2]; exact hwho j (by omega) (by omega)) hFn]
          rw [cfR_cg (f := nkB E idl kn' w) (g := nkB E idl kn w) k (i + 1) 0 (fun j h1 h2 => by unfold nkB; rw [hgb j h1 h2])]
    · have hc' : ¬ remI (nI w) (E 3 i) = E 4 i := hc
      have e1 : wkStep E idl w may i (had, kn, co + z, st, ca, fw, fd) = (had, kn, co + z, st, ca, fw, fd) := by
        unfold wkStep
        dsimp only
        rw [if_pos hc']
      rw [e1, @decide_eq_false _ (dcC E i w) hc, if_neg (by simp)]
      have e2 : nkB E idl kn w i = false := by unfold nkB; rw [@decide_eq_false _ (dcC E i w) hc]; rfl
      rw [e2, show b2 false = 0 from rfl, Int32.zero_add]
      exact ih (i + 1) N had kn co z st ca fw fd (by omega) (by omega) (fun j h1 h2 => hwho j (by omega) (by omega)) hF

theorem csR_gb {E : It} {w : Nat} {may who : Int32} {j : Nat} (hj : j < 32) (h : gb who j = false) : ∀ (k i : Nat) (A : WS), i + k ≤ 32 → gb (csR E w may who k i A).2.1 j = gb A.2.1 j := by
  intro k
  induction k with
  | zero => intro i A _; rfl
  | succ k ih =>
    intro i A hk
    rw [csR_s, ih (i + 1) _ (by omega)]
    by_cases e : gb who i = true
    · rw [if_pos e]
      obtain ⟨had, kn, co, st, ca, fw, fd⟩ := A
      refine csS_gb (by omega) hj ?_
      rintro rfl
      rw [h] at e
      exact absurd e (by decide)
    · rw [if_neg e]
theorem csR_kb {E : It} {w n : Nat} {may who : Int32} (hn : n ≤ 10) : ∀ (k i : Nat) (A : WS), i + k ≤ n → kb n A.2.1 → kb n (csR E w may who k i A).2.1 := by
  intro k
  induction k with
  | zero => intro i A _ h; exact h
  | succ k ih =>
    intro i A hk h
    rw [csR_s]
    refine ih (i + 1) _ (by omega) ?_
    split
    · obtain ⟨had, kn, co, st, ca, fw, fd⟩ := A
      have q : kb n (kn ||| bitI (nI i)) := kb_or h (kb_bit (by omega) hn)
      unfold csS
      dsimp only
      split
      · dsimp only; split
        · exact h
        · exact q
      · dsimp only; split
        · exact h
        · exact q
    · exact h
theorem csR_fw {E : It} {w : Nat} {may who : Int32} (hw : w < 2 ^ 31) : ∀ (k i N : Nat) (A : WS), N + k < 2 ^ 30 → FW N A.2.2.2.1 A.2.2.2.2.2.1 → FW (N + k) (csR E w may who k i A).2.2.2.1 (csR E w may who k i A).2.2.2.2.2.1 := by
  intro k
  induction k with
  | zero => intro i N A _ h; exact h
  | succ k ih =>
    intro i N A hN h
    rw [csR_s]
    have : FW (N + 1) (if gb who i = true then csS E w may i A else A).2.2.2.1 (if gb who i = true then csS E w may i A else A).2.2.2.2.2.1 := by
      by_cases e : gb who i = true
      · rw [if_pos e]
        obtain ⟨had, kn, co, st, ca, fw, fd⟩ := A
        exact csS_fw (by omega) hw h
      · rw [if_neg e]
        obtain ⟨s, h1, h2, h3⟩ := h
        exact ⟨s, by omega, h2, h3⟩
    have := ih (i + 1) (N + 1) _ (by omega) this
    rw [show N + 1 + k = N + (k + 1) by omega] at this
    exact this
theorem csR_none {E : It} {w : Nat} {may : Int32} : ∀ (k i : Nat) (A : WS), i + k ≤ 32 → csR E w may 0 k i A = A := by
  intro k
  induction k with
  | zero => intro i A _; rfl
  | succ k ih => intro i A hk; rw [csR_s, gb_0 i (by omega), if_neg (by decide)]; exact ih (i + 1) A (by omega)
/-- who stops in a week -/
def whoF (E : It) (idl kn : Int32) (w : Nat) : Int32 := cbF E w &&& (idl ^^^ (-1)) &&& (kn ^^^ (-1))
def mayF (E : It) (w : Nat) : Int32 := callF E - fadeF E * nI w
theorem who_gb {E : It} (hE : Inv E) {idl kn : Int32} {w j : Nat} (hj : j < cnt E) : gb (whoF E idl kn w) j = (@decide (comesF E j w) (dcC E j w) && (!gb idl j && !gb kn j)) := by
  have hc := (inv_cnt hE).2
  unfold whoF
  rw [gb_and, gb_and, gb_not _ (by omega), gb_not _ (by omega), cbF_gb hE w hj, Bool.and_assoc]
/-- a week behind the class's pass, and behind the reference's -/
theorem week_e {E : It} (hE : Inv E) {idl : Int32} {w N : Nat} (hw : w < 2 ^ 31) (hN : N + 10 < 2 ^ 30) {had kn co st ca fw fd : Int32} (hkn : kb (cnt E) kn) (hid : kb (cnt E) idl) (hF : FW N st fw) :
    ∃ m, m < 1024 ∧ cbF E w &&& idl &&& (csR E w (mayF E w) (whoF E idl kn w) (cnt E) 0 (0, kn, co, st, ca, fw, fd)).2.1 = nI m ∧
      (wkF E idl w (had, kn, co, st, ca, fw, fd)).2 = ((csR E w (mayF E w) (whoF E idl kn w) (cnt E) 0 (0, kn, co, st, ca, fw, fd)).2.1, (csR E w (mayF E w) (whoF E idl kn w) (cnt E) 0 (0, kn, co, st, ca, fw, fd)).2.2.1 + nI (onesN m), (csR E w (mayF E w) (whoF E idl kn w) (cnt E) 0 (0, kn, co, st, ca, fw, fd)).2.2.2) ∧
      FW (N + 10) (wkF E idl w (had, kn, co, st, ca, fw, fd)).2.2.2.1 (wkF E idl w (had, kn, co, st, ca, fw, fd)).2.2.2.2.2.1 ∧ kb (cnt E) (wkF E idl w (had, kn, co, st, ca, fw, fd)).2.1 := by
  have hc := (inv_cnt hE).2
  have h1 := wk_e (E := E) (idl := idl) (may := mayF E w) (who := whoF E idl kn w) hw (cnt E) 0 N 0 kn co 0 st ca fw fd (by omega) (by omega) (fun j _ h2 => who_gb hE (by omega)) hF
  rw [Int32.add_zero, Int32.zero_add] at h1
  have hkb := csR_kb (E := E) (w := w) (may := mayF E w) (who := whoF E idl kn w) hc (cnt E) 0 (0, kn, co, st, ca, fw, fd) (by omega) hkn
  have hfw := csR_fw (E := E) (may := mayF E w) (who := whoF E idl kn w) hw (cnt E) 0 N (0, kn, co, st, ca, fw, fd) (by omega) hF
  have hg : ∀ j, j < cnt E → gb idl j = true → gb (csR E w (mayF E w) (whoF E idl kn w) (cnt E) 0 (0, kn, co, st, ca, fw, fd)).2.1 j = gb kn j := fun j hj h2 => csR_gb (by omega) (by rw [who_gb hE hj, h2]; simp) (cnt E) 0 _ (by omega)
  generalize csR E w (mayF E w) (whoF E idl kn w) (cnt E) 0 (0, kn, co, st, ca, fw, fd) = C at h1 hkb hfw hg ⊢
  obtain ⟨had', kn', co', st', ca', fw', fd'⟩ := C
  dsimp only at h1 hkb hfw hg ⊢
  obtain ⟨m, hm, em⟩ : kb (cnt E) (cbF E w &&& idl &&& kn') := by
    rw [Int32.and_assoc, Int32.and_comm]
    exact kb_and _ (kb_and _ hid)
  have hm10 : m < 1024 := Nat.lt_of_lt_of_le hm (Nat.le_trans (Nat.pow_le_pow_right (by decide) hc) (by decide))
  have e1 : cfR (nkB E idl kn w) (cnt E) 0 0 = nI (onesN m) := by
    rw [ones_f (cnt E) hc m hm]
    refine cfR_cg (cnt E) 0 0 (fun j _ h2 => ?_)
    have hj : j < cnt E := by omega
    show nkB E idl kn w j = gb (nI m) j
    rw [← em, gb_and, gb_and, cbF_gb hE w hj]
    unfold nkB
    rw [Bool.and_assoc]
    cases hi : gb idl j with
    | false => simp
    | true => rw [hg j hj hi]
  have e2 : wkF E idl w (had, kn, co, st, ca, fw, fd) = (had', kn', co' + nI (onesN m), st', ca', fw', fd') := by
    unfold wkF
    show wkRun E idl w (mayF E w) (cnt E) 0 (0, kn, co, st, ca, fw, fd) = _
    rw [h1, e1]
  refine ⟨m, hm10, em, by rw [e2], ?_, by rw [e2]; exact hkb⟩
  rw [e2]
  obtain ⟨s, s1, s2, s3⟩ := hfw
  exact ⟨s, by omega, s2, s3⟩
/-! COSTS stay small, and are none below 0 -/
def Sm (M : Nat) (x : Int32) : Prop := ∃ c, c ≤ M ∧ x = nI c
theorem step_b {E : It} (hE : Inv E) {idl may : Int32} {w i M : Nat} {a : WS} (hi : i < cnt E) (h : Sm M a.2.2.1) : Sm (M + 1100) (wkStep E idl w may i a).2.2.1 := by
  obtain ⟨had, kn, co, st, ca, fw, fd⟩ := a
  obtain ⟨c, hc, ec⟩ := h
  replace ec : co = nI c := ec
  subst ec
  obtain ⟨x, hx, ex⟩ := dear_b hE hi (nI w)
  unfold wkStep
  dsimp only
  split
  · exact ⟨c, by omega, rfl⟩
  · split
    · dsimp only
      split
      · exact ⟨c + 1, by omega, nI_1 c⟩
      · exact ⟨c, by omega, Int32.add_zero _⟩
    · split
      · exact ⟨c, by omega, rfl⟩
      · split
        · exact ⟨c + 1, by omega, nI_1 c⟩
        · exact ⟨c + x, by omega, by dsimp only; rw [ex, nI_add]⟩
theorem run_b {E : It} (hE : Inv E) {idl may : Int32} {w : Nat} : ∀ (k i M : Nat) (a : WS), i + k ≤ cnt E → Sm M a.2.2.1 → Sm (M + 1100 * k) (wkRun E idl w may k i a).2.2.1 := by
  intro k
  induction k with
  | zero => intro i M a _ h; exact h
  | succ k ih =>
    intro i M a hk h
    rw [wkRun_s]
    have := ih (i + 1) (M + 1100) _ (by omega) (step_b hE (idl := idl) (may := may) (w := w) (i := i) (by omega) h)
    obtain ⟨c, h1, h2⟩ := this
    exact ⟨c, by omega, h2⟩
theorem wks_b {E : It} (hE : Inv E) {idl : Int32} : ∀ (k w M : Nat) (a : WS), Sm M a.2.2.1 → Sm (M + 11000 * k) (wksF E idl k w a).2.2.1 := by
  intro k
  induction k with
  | zero => intro w M a h; exact h
  | succ k ih =>
    intro w M a h
    rw [wksF_s]
    have hc := (inv_cnt hE).2
    have h1 : Sm (M + 1100 * cnt E) (wkF E idl w a).2.2.1 := by
      obtain ⟨had, r⟩ := a
      exact run_b hE (cnt E) 0 M (0, r) (by omega) h
    obtain ⟨c, c1, c2⟩ := h1
    obtain ⟨c', d1, d2⟩ := ih (w + 1) (M + 11000) _ ⟨c, by omega, c2⟩
    exact ⟨c', by omega, d2⟩
theorem cost_b {E : It} (hE : Inv E) {kn idl : Int32} {n : Nat} (hn : n ≤ 200) : ∃ c, c ≤ 2200000 ∧ costF E kn idl n = nI c := by
  obtain ⟨c, c1, c2⟩ := wks_b hE (idl := idl) n (wk E) 0 (0, kn, 0, 0, 0, -5, -5) ⟨0, Nat.le_refl _, rfl⟩
  exact ⟨c, by omega, c2⟩

