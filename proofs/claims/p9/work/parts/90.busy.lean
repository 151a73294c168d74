/-! who comes: the class's bits against the reference's number; ALL's leap; odds -/
set_option maxRecDepth 100000 in
theorem on_bit : ∀ d, d < 10 → ∀ m, m < 2 ^ d → (nI m ||| bitI (nI d) = nI (m + 2 ^ d) ∧ onesN (m + 2 ^ d) = onesN m + 1) := by decide +kernel
theorem wuF_e {E : It} {L : Nat → Int64} {I : It} {h : Ht} (hY : RY E L I h) {d : Nat} (hd : d < cnt E) (w : Int32) : wuF I (dn h d) w = fmI (E 4 d - w) (E 3 d) := by
  obtain ⟨-, -, -, -, -, -, g7, g8, -⟩ := hY.d hd
  unfold wuF
  rw [g7, g8]
theorem cm_0 {E : It} {L : Nat → Int64} {I : It} {h : Ht} (hE : Inv E) (hY : RY E L I h) {d w : Nat} (hd : d < cnt E) (hw : w ≤ 20000) : (wuF I (dn h d) (nI w) = 0) ↔ remI (nI w) (E 3 d) = E 4 d := by
  rw [wuF_e hY hd, (wu_fm hE hd hw).1]
  exact wu_0 hE hd hw
theorem cm_many {E : It} {L : Nat → Int64} {I : It} {h : Ht} (hE : Inv E) (hY : RY E L I h) {w : Nat} (hw : w ≤ 20000) : ∀ (k d m : Nat), d + k = cnt E → m < 2 ^ d → ∃ m', m' < 2 ^ cnt E ∧ cmR I h (nI w) k d (nI m) = nI m' ∧ manyR E w k d (nI (onesN m)) = nI (onesN m') := by
  intro k
  induction k with
  | zero =>
    intro d m hk hm
    have : d = cnt E := by omega
    subst this
    exact ⟨m, hm, rfl, rfl⟩
  | succ k ih =>
    intro d m hk hm
    have hc := (inv_cnt hE).2
    rw [cmR_s, manyR_s]
    have h2 : 2 ^ (d + 1) = 2 ^ d + 2 ^ d := by rw [Nat.pow_succ]; omega
    by_cases hz : remI (nI w) (E 3 d) = E 4 d
    · obtain ⟨b1, b2⟩ := on_bit d (by omega) m hm
      rw [if_pos ((cm_0 hE hY (by omega) hw).mpr hz), bI_t hz, b1, nI_1, ← b2]
      exact ih (d + 1) (m + 2 ^ d) (by omega) (by omega)
    · rw [if_neg (fun z => hz ((cm_0 hE hY (by omega) hw).mp z)), bI_f hz, Int32.add_zero]
      exact ih (d + 1) m (by omega) (by omega)
theorem cm_e {E : It} {L : Nat → Int64} {I : It} {h : Ht} (hE : Inv E) (hY : RY E L I h) {w : Nat} (hw : w ≤ 20000) : ∃ m, m < 1024 ∧ cmF I h (nI w) = nI m ∧ manyF E w = nI (onesN m) := by
  obtain ⟨m, h1, h2, h3⟩ := cm_many hE hY hw (cnt E) 0 0 (Nat.zero_add _) (by decide)
  refine ⟨m, Nat.lt_of_lt_of_le h1 (Nat.le_trans (Nat.pow_le_pow_right (by decide) (inv_cnt hE).2) (by decide)), ?_, ?_⟩
  · unfold cmF; rw [hY.cn]; exact h2
  · unfold manyF; exact h3
set_option maxRecDepth 100000 in
theorem onesN_le : ∀ m, m < 1024 → onesN m ≤ 10 := by decide +kernel
/-- BUSIEST, on the way: on weeks are looked at, b is the best, m so many -/
def bsI (E : It) (n on k b : Nat) (m : Int32) : Prop := (on = 0 ∧ b = 0 ∧ m = -1 ∧ k = n) ∨ (1 ≤ on ∧ b < on ∧ m = manyF E (wk E + b) ∧ bsR E k (wk E + on) (wk E + b) = bsR E (n - 1) (wk E + 1) (wk E))
theorem bsI_up {E : It} {n on k b x : Nat} {m : Int32} (h : bsI E n on (k + 1) b m) (hx : manyF E (wk E + on) = nI x) (hx2 : x ≤ 10) (hc : ¬ nI x ≤ m) : bsI E n (on + 1) k on (nI x) := by
  right
  refine ⟨by omega, by omega, hx.symm, ?_⟩
  rcases h with ⟨rfl, rfl, -, rfl⟩ | ⟨h1, h2, rfl, h4⟩
  · rfl
  · rw [← h4, bsR_s, hx, if_neg hc]
    rfl
theorem bsI_st {E : It} {n on k b x : Nat} {m : Int32} (h : bsI E n on (k + 1) b m) (hx : manyF E (wk E + on) = nI x) (hx2 : x ≤ 10) (hc : nI x ≤ m) : bsI E n (on + 1) k b m := by
  rcases h with ⟨rfl, rfl, rfl, rfl⟩ | ⟨h1, h2, rfl, h4⟩
  · exact absurd (Int32.lt_of_le_of_lt hc (by decide : (-1 : Int32) < 0)) (nI_pos (by omega))
  · right
    refine ⟨by omega, by omega, rfl, ?_⟩
    rw [← h4, bsR_s, hx, if_pos hc]
    rfl
theorem bsI_end {E : It} {n on b : Nat} {m : Int32} (hn : 1 ≤ n) (hk : on + 0 = n) (h : bsI E n on 0 b m) : bsR E (n - 1) (wk E + 1) (wk E) = wk E + b ∧ m = manyF E (wk E + b) := by
  rcases h with ⟨rfl, rfl, rfl, z⟩ | ⟨h1, h2, rfl, h4⟩
  · omega
  · exact ⟨h4.symm, rfl⟩
/-! ALL -/
theorem has_01 (s : Int32) (k : Int32) : hasI s k = 0 ∨ hasI s k = 1 := by
  unfold hasI
  generalize s >>> (k &&& 31) = z
  have h : (z &&& 1) = nI ((1 &&& z.toBitVec.toNat)) := by rw [Int32.and_comm]; exact nI_and 1 z
  rw [h, Nat.and_comm, Nat.and_one_is_mod]
  rcases Nat.mod_two_eq_zero_or_one z.toBitVec.toNat with e | e <;> rw [e]
  · exact Or.inl rfl
  · exact Or.inr rfl
/-- the longest wait of a set: none comes all before, and at 0 all come -/
theorem lw_e {E : It} {L : Nat → Int64} {I : It} {h : Ht} (hE : Inv E) (hY : RY E L I h) {s : Int32} {w : Nat} (hw : w ≤ 20000) : ∀ (k d z : Nat), d + k = cnt E → z < 60 → ∃ W, W < 60 ∧ z ≤ W ∧ lwR I h s (nI w) k d (nI z) = nI W ∧ (W = 0 → allCR E s w k d = true) ∧ ∀ j, z ≤ j → j < W → allCR E s (w + j) k d = false := by
  intro k
  induction k with
  | zero => intro d z hk hz; exact ⟨z, hz, Nat.le_refl _, rfl, fun _ => rfl, fun j h1 h2 => by omega⟩
  | succ k ih =>
    intro d z hk hz
    have hd : d < cnt E := by omega
    rw [lwR_s]
    by_cases h0 : hasI s (nI d) = 0
    · rw [if_pos h0]
      obtain ⟨W, h1, h2, h3, h4, h5⟩ := ih (d + 1) z (by omega) hz
      refine ⟨W, h1, h2, h3, fun e => ?_, fun j j1 j2 => ?_⟩
      · rw [allCR_s, if_neg (fun q => by rw [h0] at q; exact absurd q.1 (by decide))]; exact h4 e
      · rw [allCR_s, if_neg (fun q => by rw [h0] at q; exact absurd q.1 (by decide))]; exact h5 j j1 j2
    · have h1' : hasI s (nI d) = 1 := (has_01 s (nI d)).resolve_left h0
      rw [if_neg h0, wuF_e hY hd, (wu_fm hE hd hw).1]
      have h60 := (wu_fm hE hd hw).2
      obtain ⟨z2, hz2, e2, hle, hle2, hor⟩ : ∃ z2, z2 < 60 ∧ (if nI z < nI (wu E d w) then nI (wu E d w) else nI z) = nI z2 ∧ z ≤ z2 ∧ wu E d w ≤ z2 ∧ (z2 = z ∨ z2 = wu E d w) := by
        by_cases q : nI z < nI (wu E d w)
        · exact ⟨wu E d w, h60, if_pos q, Nat.le_of_lt (lt_nI (by omega) (by omega) q), Nat.le_refl _, Or.inr rfl⟩
        · exact ⟨z, hz, if_neg q, Nat.le_refl _, (nI_leI (by omega) (by omega)).mp (Int32.not_lt.mp q), Or.inl rfl⟩
      rw [e2]
      obtain ⟨W, h1, h2, h3, h4, h5⟩ := ih (d + 1) z2 (by omega) hz2
      refine ⟨W, h1, by omega, h3, fun e => ?_, fun j j1 j2 => ?_⟩
      · have hw0 : wu E d w = 0 := by omega
        have hc := wu_at hE hd hw
        rw [hw0] at hc
        rw [allCR_s, if_neg (fun q => q.2 hc)]
        exact h4 e
      · by_cases q : j < wu E d w
        · rw [allCR_s, if_pos ⟨h1', wu_bf hE hd hw q⟩]
        · have : j ≥ z2 := by omega
          rw [allCR_s]
          split
          · rfl
          · exact h5 j this j2
theorem alR_skip {E : It} {s : Int32} : ∀ (W k i : Nat), (∀ j, j < W → allCR E s (wk E + i + j) (cnt E) 0 = false) → alR E s (k + W) i = alR E s k (i + W) := by
  intro W
  induction W with
  | zero => intro k i _; rfl
  | succ W ih =>
    intro k i hj
    have h0 := hj 0 (by omega)
    rw [Nat.add_zero] at h0
    rw [← Nat.add_assoc, alR_s, if_neg (by rw [h0]; decide), ih k (i + 1) (fun j hj2 => by have := hj (j + 1) (by omega); rwa [show wk E + i + (j + 1) = wk E + (i + 1) + j by omega] at this)]
    rw [show i + 1 + W = i + (W + 1) by omega]
theorem alR_none {E : It} {s : Int32} : ∀ (k i : Nat), (∀ j, j < k → allCR E s (wk E + i + j) (cnt E) 0 = false) → alR E s k i = -5 := by
  intro k i hj
  have := alR_skip k 0 i hj
  rw [Nat.zero_add] at this
  exact this
theorem all_ok {c : Nat} (hc : c ≤ 10) {s : Int32} : (s &&& ((bitI (nI c) - 1) ^^^ (-1)) = 0) ↔ (0 ≤ s ∧ s ≤ bitI (nI c) - 1) := by
  have hb : bitI (nI c) - 1 = nI (2 ^ c - 1) := by rw [bit_nI c (by omega), show (1 : Int32) = nI 1 from rfl, pk_sub Nat.one_le_two_pow]
  have hp : 2 ^ c ≤ 1024 := Nat.le_trans (Nat.pow_le_pow_right (by decide) hc) (by decide)
  have hp1 : 1 ≤ 2 ^ c := Nat.one_le_two_pow
  have hm : ∀ x y : Int32, x &&& (y ^^^ (-1)) = 0 ↔ x &&& y = x := by
    intro x y
    have e1 : y ^^^ (-1) = ~~~ y := by
      apply Int32.toBitVec.inj
      rw [Int32.toBitVec_xor, Int32.toBitVec_not]
      show y.toBitVec ^^^ BitVec.allOnes 32 = _
      exact BitVec.xor_allOnes
    rw [e1]
    constructor
    · intro h
      apply Int32.toBitVec.inj
      have h' := congrArg Int32.toBitVec h
      rw [Int32.toBitVec_and, Int32.toBitVec_not] at h'
      rw [Int32.toBitVec_and]
      apply BitVec.eq_of_getLsbD_eq
      intro i hi
      have h2 := congrArg (fun z => BitVec.getLsbD z i) h'
      simp only [BitVec.getLsbD_and, BitVec.getLsbD_not, hi, decide_true, Bool.true_and] at h2 ⊢
      have h3 : BitVec.getLsbD (Int32.toBitVec 0) i = false := by
        show BitVec.getLsbD (0#32) i = false
        simp
      rw [h3] at h2
      revert h2
      cases x.toBitVec.getLsbD i <;> cases y.toBitVec.getLsbD i <;> simp
    · intro h
      apply Int32.toBitVec.inj
      have h' := congrArg Int32.toBitVec h
      rw [Int32.toBitVec_and] at h'
      rw [Int32.toBitVec_and, Int32.toBitVec_not]
      apply BitVec.eq_of_getLsbD_eq
      intro i hi
      have h2 := congrArg (fun z => BitVec.getLsbD z i) h'
      simp only [BitVec.getLsbD_and, BitVec.getLsbD_not, hi, decide_true, Bool.true_and] at h2 ⊢
      have h3 : BitVec.getLsbD (Int32.toBitVec 0) i = false := by
        show BitVec.getLsbD (0#32) i = false
        simp
      rw [h3]
      revert h2
      cases x.toBitVec.getLsbD i <;> cases y.toBitVec.getLsbD i <;> simp
  rw [hm, hb]
  constructor
  · intro h
    rw [Int32.and_comm, nI_and] at h
    have h2 : (2 ^ c - 1) &&& s.toBitVec.toNat ≤ 2 ^ c - 1 := Nat.and_le_left
    rw [← h]
    exact ⟨nI_pos' (by omega), nI_le h2 (by omega)⟩
  · rintro ⟨h1, h2⟩
    obtain ⟨j, hj, rfl⟩ := nI_of (Int32.not_lt.mpr h1)
    have hj2 := (nI_leI hj (by omega)).mp h2
    rw [nI_and, nI_bv, BitVec.toNat_ofNat, Nat.mod_eq_of_lt (show 2 ^ c - 1 < 2 ^ 32 by omega), Nat.and_two_pow_sub_one_eq_mod, Nat.mod_eq_of_lt (by omega)]
/-! ODDS -/
theorem comIn_e {E : It} (hE : Inv E) {d : Nat} (hd : d < cnt E) (n : Nat) (hn : n ≤ 200) : (comInR E d n (wk E) = true) ↔ nI (wu E d (wk E)) < nI n := by
  have hw := (inv_wk hE).2
  have h60 := (wu_fm hE hd (w := wk E) (by omega)).2
  have key : ∀ k j, j ≤ wu E d (wk E) → (comInR E d k (wk E + j) = true ↔ wu E d (wk E) < j + k) := by
    intro k
    induction k with
    | zero =>
      intro j hj
      constructor
      · intro z; exact absurd (show false = true from z) Bool.false_ne_true
      · intro z; omega
    | succ k ih =>
      intro j hj
      rw [comInR_s]
      by_cases e : j = wu E d (wk E)
      · rw [if_pos (by rw [e]; exact wu_at hE hd (by omega))]
        constructor
        · intro _; omega
        · intro _; rfl
      · rw [if_neg (wu_bf hE hd (by omega) (by omega)), Nat.add_assoc, ih (j + 1) (by omega)]
        omega
  have := key n 0 (by omega)
  rw [Nat.add_zero, Nat.zero_add] at this
  rw [this]
  constructor
  · intro z; exact nI_lt z (by omega)
  · intro z; exact lt_nI (by omega) (by omega) z

