/-! the reference as it is made -/
theorem fr_z {E : It} (hF : fresh E) (j : Nat) (hj : j ∈ pfL) (h1 : j ≠ 16) (h2 : j ≠ 48) : E 0 j = 0 := by
  rw [hF.1 j hj, if_neg (by omega)]
theorem fr_c {E : It} (hF : fresh E) (a j : Nat) (ha : a ∈ pcL) (h1 : a ≠ 36) : E a j = 0 := hF.2.1 a ha h1 j
theorem fr_inv {E : It} (hF : fresh E) : Inv E := by
  have z := fr_z hF
  have e0 : E 0 0 = nI 0 := z 0 (by decide) (by decide) (by decide)
  have e15 : E 0 15 = nI 0 := z 15 (by decide) (by decide) (by decide)
  have hn : nP E = 0 := by unfold nP; rw [e15]; rfl
  refine ⟨⟨⟨0, by decide, e0, fun d hd => absurd hd (Nat.not_lt_zero d)⟩, ⟨0, by decide, z 1 (by decide) (by decide) (by decide)⟩, Or.inl ?_, ⟨0, by decide, z 44 (by decide) (by decide) (by decide)⟩, fun y _ => ⟨0, by decide, fr_c hF 8 y (by decide) (by decide)⟩, fun k _ => ⟨0, 0, by decide, by decide, fr_c hF 23 k (by decide) (by decide), fr_c hF 24 k (by decide) (by decide)⟩, ⟨0, Nat.two_pow_pos _, z 5 (by decide) (by decide) (by decide)⟩, ⟨0, Nat.two_pow_pos _, z 6 (by decide) (by decide) (by decide)⟩⟩, Or.inl (z 47 (by decide) (by decide) (by decide)), ⟨by rw [hn]; exact e15, by rw [hn]; decide⟩, fun p hp => by rw [hn] at hp; exact absurd hp (Nat.not_lt_zero p), ⟨0, by decide, z 17 (by decide) (by decide) (by decide), fun j hj => absurd hj (Nat.not_lt_zero j)⟩, ⟨0, by decide, z 67 (by decide) (by decide) (by decide)⟩, fun t ht => Or.inl ⟨hF.2.2 t ht, fr_c hF 37 t (by decide) (by decide)⟩⟩
  rw [hF.1 16 (by decide), if_pos (Or.inl rfl)]
theorem fr_cnt {E : It} (hF : fresh E) : cnt E = 0 := by
  unfold cnt; rw [fr_z hF 0 (by decide) (by decide) (by decide)]; rfl
theorem fr_wk {E : It} (hF : fresh E) : wk E = 0 := by
  unfold wk; rw [fr_z hF 1 (by decide) (by decide) (by decide)]; rfl
theorem fr_D {E : It} (hF : fresh E) (a : Int32) : ¬ isD E a := by
  show ¬ (0 ≤ a ∧ a ≤ E 0 0 - 1)
  rw [fr_z hF 0 (by decide) (by decide) (by decide)]
  exact fun h => no_m1 (fun z => z h)
theorem fr_ncl {E : It} (hF : fresh E) : ncl E = 0 := by
  unfold ncl; rw [hF.1 16 (by decide), if_pos (Or.inl rfl)]; rfl
theorem fr_wkF {E : It} (hF : fresh E) (idl : Int32) (w : Nat) (a : WS) : (wkF E idl w a).2 = a.2 := by
  obtain ⟨had, r⟩ := a
  unfold wkF
  rw [fr_cnt hF]
  rfl
theorem fr_wks {E : It} (hF : fresh E) (idl : Int32) : ∀ (k w : Nat) (a : WS), (wksF E idl k w a).2 = a.2 := by
  intro k
  induction k with
  | zero => intro w a; rfl
  | succ k ih => intro w a; rw [wksF_s, ih, fr_wkF hF]
theorem fr_run {E : It} (hF : fresh E) (kn idl : Int32) (n : Nat) : (runF E kn idl n).2 = (kn, 0, 0, 0, -5, -5) := by
  unfold runF; rw [fr_wks hF]
theorem fr_hc {E : It} (hF : fresh E) (hr : Nat → Int32) (n : Nat) : hcF E hr n = 0 := by
  unfold hcF costF; rw [fr_run hF]
theorem fr_spR {E : It} (hF : fresh E) (h n : Nat) (b : Nat → Int32) : ∀ k c, spR E h n k c 0 b = (0, b) := by
  intro k
  induction k with
  | zero => intro c; rfl
  | succ k ih =>
    intro c
    rw [spR_s, fr_hc hF]
    split
    · exact ih _
    · rw [if_neg (by decide), if_neg (by decide)]; exact ih _
theorem fr_sp {E : It} (hF : fresh E) (h n : Nat) : spF E h n = (0, spC h 0) := by
  unfold spF
  rw [show (1000 : Nat) = 999 + 1 from rfl, spR_s, if_neg (by omega), if_pos (by decide), fr_hc hF]
  exact fr_spR hF h n _ 999 1
theorem fr_over {E : It} (hF : fresh E) (hr : Nat → Int32) : overF E hr = 0 := by
  unfold overF; rw [fr_cnt hF]; rfl
theorem fr_many {E : It} (hF : fresh E) (w : Nat) : manyF E w = 0 := by
  unfold manyF; rw [fr_cnt hF]; rfl
theorem fr_bs {E : It} (hF : fresh E) : ∀ (k w f : Nat), bsR E k w f = f := by
  intro k
  induction k with
  | zero => intro w f; rfl
  | succ k ih => intro w f; rw [bsR_s, fr_many hF, fr_many hF, if_pos (by decide)]; exact ih _ _
theorem fr_ch {E : It} (hF : fresh E) (n : Nat) : chR E n (cnt E) 0 1 1 = (1, 1) := by rw [fr_cnt hF]; rfl
theorem fr_call {E : It} (hF : fresh E) : callF E = 7 := by unfold callF; rw [fr_ncl hF]; rfl
theorem fr_fade {E : It} (hF : fresh E) : fadeF E = 1 := by unfold fadeF; rw [fr_ncl hF]; rfl
/-! its answers: the class's -/
theorem fe_doing {E : It} (hF : fresh E) (k v r p c n : Int32) : (doingS E k v r p c n).1 = (if ¬ (0 ≤ k ∧ k ≤ 6) then -1 else if ¬ (0 ≤ v ∧ v ≤ 9) then -2 else if ¬ (1 ≤ r ∧ r ≤ 60) then -2 else if ¬ (0 ≤ p ∧ p ≤ r - 1) then -2 else if ¬ (0 ≤ c ∧ c ≤ 99) then -2 else if ¬ (0 ≤ n ∧ n ≤ 99) then -2 else 0) := by
  unfold doingS
  rw [fr_z hF 0 (by decide) (by decide) (by decide), if_neg (show ¬ ((0 : Int32) = 10) by decide)]
  repeat' split
  all_goals first | rfl | contradiction
theorem fe_of {E : It} (hF : fresh E) (a w : Int32) : (ofS E a w).1 = -10001 := by unfold ofS; rw [if_pos (fr_D hF a)]
theorem fe_needless {E : It} (hF : fresh E) (a z : Int32) : (needlessS E a z).1 = -1 := by unfold needlessS; rw [if_pos (fr_D hF a)]
theorem fe_learn {E : It} (hF : fresh E) (a z : Int32) : (learnS E a z).1 = -1 := by unfold learnS; rw [if_pos (fr_D hF a)]
theorem fe_odds {E : It} (hF : fresh E) (a n : Int32) : (oddsS E a n).1 = -1 := by unfold oddsS; rw [if_pos (fr_D hF a)]
theorem fe_said {E : It} (hF : fresh E) (a y : Int32) : (saidS E a y).1 = -1 := by unfold saidS; rw [if_pos (fr_D hF a)]
theorem fe_when {E : It} (hF : fresh E) (a : Int32) : (whenS E a).1 = -1 := by unfold whenS; rw [if_pos (fr_D hF a)]
theorem fe_taken {E : It} (hF : fresh E) (a k : Int32) : (takenS E a k).1 = (if ¬ (0 ≤ k ∧ k ≤ 6) then -2 else -11) := by
  unfold takenS; rw [if_pos (fr_D hF a)]; split <;> rfl
theorem fe_list {E : It} (hF : fresh E) (w a : Int32) : (listS E w a).1 = (if w = -1 then 0 else if ¬ (0 ≤ w ∧ w ≤ 99) then -2 else -1) := by
  unfold listS; rw [if_pos (fr_D hF a)]; split <;> (try split) <;> rfl
theorem fe_hours {E : It} (hF : fresh E) (y n : Int32) : (hoursS E y n).1 = (if ¬ (0 ≤ y ∧ y ≤ 3) then -1 else if ¬ (0 ≤ n ∧ n ≤ 9) then -2 else 0) := by
  unfold hoursS; rw [fr_c hF 8 _ (by decide) (by decide)]; split <;> (try split) <;> rfl
theorem fe_feed {E : It} (hF : fresh E) (s : Int32) : (feedS E s).1 = (if ¬ (0 ≤ s ∧ s ≤ 127) then -2 else 1) := by
  unfold feedS; rw [fr_z hF 17 (by decide) (by decide) (by decide), if_neg (show ¬ ((0 : Int32) = 100) by decide)]; split <;> rfl
theorem fe_told {E : It} (hF : fresh E) (w : Int32) : (toldS E w).1 = (if w = 0 then 7 else if w = 1 then 1 else if w = 2 then 0 else if w = 3 then 0 else if w = 4 then 0 else if w = 5 then 0 else if ¬ (10 ≤ w ∧ w ≤ 13) then -1 else 0) := by
  unfold toldS
  rw [fr_c hF 8 _ (by decide) (by decide), fr_call hF, fr_fade hF, fr_z hF 1 (by decide) (by decide) (by decide), fr_z hF 2 (by decide) (by decide) (by decide), fr_z hF 3 (by decide) (by decide) (by decide), fr_z hF 4 (by decide) (by decide) (by decide)]
  by_cases h : 10 ≤ w ∧ w ≤ 13
  · have n : ∀ k : Int32, k < 10 → ¬ w = k := fun k hk e => by subst e; exact absurd (Int32.lt_of_le_of_lt h.1 hk) (Int32.lt_irrefl)
    rw [if_pos h, if_neg (n 0 (by decide)), if_neg (n 1 (by decide)), if_neg (n 2 (by decide)), if_neg (n 3 (by decide)), if_neg (n 4 (by decide)), if_neg (n 5 (by decide)), if_neg (not_not_intro h)]
  · rw [if_neg h, if_pos h]
    repeat' split
    all_goals rfl
theorem fe_hand {E : It} (hF : fresh E) : (handS E).1 = 0 := by
  unfold handS; rw [fr_over hF, fr_z hF 5 (by decide) (by decide) (by decide)]; show onesI (0 ||| 0) - onesI 0 = 0; decide
theorem fe_go {E : It} (hF : fresh E) (n : Int32) : (goS E n).1 = (if ¬ (1 ≤ n ∧ n ≤ 60) then -2 else 0 + n) := by
  unfold goS
  rw [fr_z hF 1 (by decide) (by decide) (by decide)]
  split
  · rfl
  · rename_i h
    rw [if_neg]
    intro z
    apply z
    rw [Int32.zero_add]
    exact Int32.le_trans (Decidable.not_not.mp h).2 (by decide)
theorem fe_run {E : It} (hF : fresh E) (n w : Int32) : (runS E n w).1 = (if ¬ (0 ≤ w ∧ w ≤ 5) then -10001 else if ¬ (0 ≤ n ∧ n ≤ 200) then -10002 else if w = 0 then 0 else if w = 1 then 0 else if w = 2 then 0 else if w = 3 then 0 else if w = 4 then -5 else -5) := by
  unfold runS
  rw [fr_run hF, fr_z hF 5 (by decide) (by decide) (by decide)]
  repeat' split
  all_goals first | rfl | contradiction | decide
theorem fe_split {E : It} (hF : fresh E) (a n w : Int32) : (splitS E a n w).1 = (if ¬ (-1 ≤ w ∧ w ≤ 3) then -10001 else if ¬ (0 ≤ a ∧ a ≤ 9) then -10002 else if ¬ (0 ≤ n ∧ n ≤ 60) then -10002 else if 0 ≤ w then (if w = 3 then a else 0) else 0) := by
  unfold splitS
  rw [fr_sp hF]
  split
  · rfl
  · rename_i hw
    split
    · rfl
    · rename_i ha
      split
      · rfl
      · split
        · rename_i h0
          obtain ⟨y, hy, rfl⟩ := in_of (b := 3) (by decide) ⟨h0, (Decidable.not_not.mp hw).2⟩
          obtain ⟨x, hx, rfl⟩ := in_of (b := 9) (by decide) (Decidable.not_not.mp ha)
          show spC (tN (nI x)) 0 (tN (nI y)) = _
          rw [tN_nI (by omega), tN_nI (by omega)]
          rcases (by omega : y = 0 ∨ y = 1 ∨ y = 2 ∨ y = 3) with rfl | rfl | rfl | rfl <;> rfl
        · rfl
theorem fe_more {E : It} (hF : fresh E) (y n : Int32) : (moreS E y n).1 = (if ¬ (0 ≤ y ∧ y ≤ 3) then -10001 else if ¬ (0 ≤ n ∧ n ≤ 60) then -10002 else 0) := by
  unfold moreS
  rw [fr_hc hF, fr_hc hF]
  repeat' split
  all_goals first | rfl | contradiction
theorem fe_ask {E : It} (hF : fresh E) (n : Int32) : (askS E n).1 = (if ¬ (0 ≤ n ∧ n ≤ 60) then -2 else -5) := by
  unfold askS askF; rw [fr_cnt hF]; split <;> rfl
theorem fe_drop {E : It} (hF : fresh E) (n : Int32) : (dropS E n).1 = (if ¬ (0 ≤ n ∧ n ≤ 60) then -2 else -5) := by
  unfold dropS dropF; rw [fr_cnt hF]; split <;> rfl
theorem fe_busiest {E : It} (hF : fresh E) (n w : Int32) : (busiestS E n w).1 = (if ¬ (0 ≤ w ∧ w ≤ 1) then -1 else if ¬ (1 ≤ n ∧ n ≤ 200) then -2 else 0) := by
  unfold busiestS
  rw [fr_bs hF, fr_many hF, fr_wk hF]
  repeat' split
  all_goals first | rfl | contradiction
theorem fe_all {E : It} (hF : fresh E) (s : Int32) : (allS E s).1 = -2 := by
  unfold allS
  rw [fr_z hF 0 (by decide) (by decide) (by decide), if_pos]
  rintro ⟨h1, h2⟩
  exact absurd (Int32.le_trans h1 h2) (by decide)
theorem fe_chance {E : It} (hF : fresh E) (n w : Int32) : chanceF E n w = (if ¬ (0 ≤ n ∧ n ≤ 60) then NOL else if ¬ (0 ≤ w ∧ w ≤ 1) then NOL else 1) := by
  unfold chanceF
  rw [fr_ch hF]
  repeat' split
  all_goals first | rfl | contradiction | decide
theorem fe_judge {E : It} (hF : fresh E) (L : Nat → Int64) (t i : Int32) : (judgeS E L t i).1 = (if ¬ isT t then -1 else -5) := by
  unfold judgeS
  rw [fr_cnt hF]
  split
  · rfl
  · rename_i h
    obtain ⟨k, hk, rfl⟩ := in_of (b := 5) (by decide) (Decidable.not_not.mp h)
    rw [tN_nI (by omega), hF.2.2 k (by omega), if_pos (by decide)]
    rfl
theorem fe_image {E : It} (hF : fresh E) : (imageS E).1 = 0 := fr_z hF 0 (by decide) (by decide) (by decide)
theorem fe_undo {E : It} (hF : fresh E) : (undoS E).1 = -3 := by unfold undoS; rw [if_pos (fr_z hF 47 (by decide) (by decide) (by decide))]
theorem fe_act {E : It} (hF : fresh E) (a w x : Int32) : (actS E a w x).1 = 0 := by unfold actS; rw [if_pos (fr_D hF a)]
theorem fe_trace {E : It} (hF : fresh E) (a : Int32) : (traceS E a).1 = -1 := by
  unfold traceS
  rw [fr_z hF 67 (by decide) (by decide) (by decide)]
  split
  · rfl
  · rename_i h
    rw [if_pos (Decidable.not_not.mp h).1]
theorem fe_count {E : It} (hF : fresh E) (w : Int32) : (countS E w).1 = (if w = 0 then 0 else if w = 1 then 0 else if w = 2 then 0 else if w = 3 then 0 else if w = 4 then 0 else if w = 5 then 0 else -2) := by
  unfold countS
  rw [fr_z hF 0 (by decide) (by decide) (by decide), fr_z hF 15 (by decide) (by decide) (by decide), fr_z hF 44 (by decide) (by decide) (by decide), fr_z hF 17 (by decide) (by decide) (by decide), fr_z hF 67 (by decide) (by decide) (by decide), fr_z hF 5 (by decide) (by decide) (by decide)]
  repeat' split
  all_goals first | rfl | contradiction | decide
theorem fe_tape {E : It} (hF : fresh E) (t s n : Int32) : (tapeS E t s n).1 = (if ¬ isT t then -1 else if ¬ (-1 ≤ s ∧ s ≤ 4) then -2 else if s = -1 then 1 else if ¬ n ≤ 60 then -2 else if ¬ 0 ≤ n then -14 else 1) := by
  unfold tapeS
  have key : (-1 ≤ s ∧ s ≤ 4) → (s < 0 ↔ s = -1) := fun h => ⟨fun z => by
    have h1 := Int32.le_iff_toInt_le.mp h.1
    have h2 := Int32.lt_iff_toInt_lt.mp z
    rw [show (-1 : Int32).toInt = -1 by decide] at h1
    rw [show (0 : Int32).toInt = 0 by decide] at h2
    apply Int32.toInt_inj.mp
    rw [show (-1 : Int32).toInt = -1 by decide]
    omega, fun z => by rw [z]; decide⟩
  by_cases h1 : ¬ isT t
  · rw [if_pos h1, if_pos h1]
  · rw [if_neg h1, if_neg h1]
    by_cases h2 : -1 ≤ s ∧ s ≤ 4
    · rw [if_neg (not_not_intro h2), if_neg (not_not_intro h2)]
      by_cases h3 : s = -1
      · rw [if_pos ((key h2).mpr h3), if_pos h3]
      · rw [if_neg (fun z => h3 ((key h2).mp z)), if_neg h3]
        split <;> (try split) <;> rfl
    · rw [if_pos h2, if_pos h2]
theorem fe_item {E : It} (hF : fresh E) (L : Nat → Int64) (t i : Int32) (z : Int64) : (itemS E L t i z).1 = (if ¬ isT t then -1 else -11) := by
  unfold itemS
  split
  · rfl
  · rename_i h
    obtain ⟨k, hk, rfl⟩ := in_of (b := 5) (by decide) (Decidable.not_not.mp h)
    rw [tN_nI (by omega), hF.2.2 k (by omega), if_pos (by decide)]
theorem fe_read {E : It} (hF : fresh E) (L : Nat → Int64) (t i : Int32) : readF E L t i = NOL := by
  unfold readF
  split
  · rfl
  · rename_i h
    obtain ⟨k, hk, rfl⟩ := in_of (b := 5) (by decide) (Decidable.not_not.mp h)
    rw [tN_nI (by omega), hF.2.2 k (by omega), if_pos (by decide)]
theorem fe_shift {E : It} (hF : fresh E) (t i o j n : Int32) : shiftS E t i o j n = (if ¬ isT t then -1 else if ¬ isT o then -1 else -11) := by
  unfold shiftS
  split
  · rfl
  · rename_i h
    split
    · rfl
    · obtain ⟨k, hk, rfl⟩ := in_of (b := 5) (by decide) (Decidable.not_not.mp h)
      rw [tN_nI (by omega), hF.2.2 k (by omega), if_pos (by decide)]

