/-! weeks: floor modulus against the reference's search -/
theorem xor_neg {x y : Int32} (hx : x < 0) (hy : 0 ≤ y) : ¬ 0 ≤ x ^^^ y := by
  intro h
  have h1 : (x ^^^ y).toBitVec.msb = (x.toBitVec.msb ^^ y.toBitVec.msb) := by rw [Int32.toBitVec_xor]; exact BitVec.msb_xor
  rw [BitVec.msb_eq_toInt, BitVec.msb_eq_toInt, BitVec.msb_eq_toInt] at h1
  have z0 : (0 : Int32).toInt = 0 := by decide
  have a1 : x.toBitVec.toInt < 0 := by have := Int32.lt_iff_toInt_lt.mp hx; rw [z0] at this; exact this
  have a2 : ¬ y.toBitVec.toInt < 0 := by have := Int32.le_iff_toInt_le.mp hy; rw [z0] at this; exact Int.not_lt.mpr this
  have a3 : ¬ (x ^^^ y).toBitVec.toInt < 0 := by have := Int32.le_iff_toInt_le.mp h; rw [z0] at this; exact Int.not_lt.mpr this
  rw [decide_eq_false a3, decide_eq_true a1, decide_eq_false a2] at h1
  exact absurd h1 (by decide)
theorem bm_in {x : Int} (h1 : -2147483648 ≤ x) (h2 : x < 2147483648) : x.bmod (2 ^ 32) = x := Int.bmod_eq_of_le (by omega) (by omega)
theorem rem_neg {k r : Nat} (hk : k ≤ 20000) (h0 : 0 < r) (hr : r ≤ 60) : (remI (nI 0 - nI k) (nI r)).toInt = -((k % r : Nat) : Int) := by
  have e1 : (nI 0 - nI k).toInt = -(k : Int) := by
    rw [Int32.toInt_sub, nI_toInt (by decide), nI_toInt (by omega), bm_in (by omega) (by omega)]; omega
  have hd : k / r ≤ k := Nat.div_le_self _ _
  have e2 : ((nI 0 - nI k) / nI r).toInt = -((k / r : Nat) : Int) := by
    have hc : ((k : Int) / (r : Int)) = ((k / r : Nat) : Int) := rfl
    rw [Int32.toInt_div, e1, nI_toInt (by omega), Int.neg_tdiv, Int.tdiv_eq_ediv_of_nonneg (by omega), hc]
    generalize k / r = q at hd
    exact bm_in (by omega) (by omega)
  have hm : (k / r) * r ≤ k := Nat.div_mul_le_self _ _
  have hmod : (k / r) * r + k % r = k := by rw [Nat.mul_comm]; exact Nat.div_add_mod k r
  have e3 : ((nI 0 - nI k) / nI r * nI r).toInt = -(((k / r) * r : Nat) : Int) := by
    rw [Int32.toInt_mul, e2, nI_toInt (by omega), Int.neg_mul, ← Int.natCast_mul, bm_in (by omega) (by omega)]
  unfold remI
  rw [Int32.toInt_sub, e1, e3, bm_in (by omega) (by omega)]
  omega
theorem fm_pw {p r w : Nat} (hp : p < r) (hr : r ≤ 60) (hw : w ≤ 20000) : fmI (nI p - nI w) (nI r) = nI ((p + (r - w % r)) % r) := by
  have hwr : w % r < r := Nat.mod_lt _ (by omega)
  rcases Nat.lt_or_ge p w with z | z
  · have ex : nI p - nI w = nI 0 - nI (w - p) := by
      apply Int32.toInt_inj.mp
      rw [Int32.toInt_sub, Int32.toInt_sub, nI_toInt (by omega), nI_toInt (by omega), nI_toInt (by decide), nI_toInt (by omega), bm_in (by omega) (by omega), bm_in (by omega) (by omega)]
      omega
    have hneg : nI p - nI w < 0 := by
      rw [ex, Int32.lt_iff_toInt_lt, Int32.toInt_sub, nI_toInt (by decide), nI_toInt (by omega), bm_in (by omega) (by omega)]
      show _ < (0 : Int32).toInt
      have : (0 : Int32).toInt = 0 := by decide
      omega
    have hrem := rem_neg (k := w - p) (by omega) (show 0 < r by omega) hr
    rw [← ex] at hrem
    have hkr : (w - p) % r < r := Nat.mod_lt _ (by omega)
    have key : (p + (r - w % r)) % r = if (w - p) % r = 0 then 0 else r - (w - p) % r := by
      have h1 := Nat.div_add_mod w r
      have h2 := Nat.div_add_mod (w - p) r
      rcases Nat.lt_or_ge p (w % r) with q | q
      · have e : (w - p) % r = w % r - p := by
          rw [show w - p = (w % r - p) + r * (w / r) by omega, Nat.add_mul_mod_self_left, Nat.mod_eq_of_lt (by omega)]
        rw [e, if_neg (by omega), Nat.mod_eq_of_lt (by omega)]
        omega
      · rw [show p + (r - w % r) = (p - w % r) + r by omega, Nat.add_mod_right, Nat.mod_eq_of_lt (by omega)]
        by_cases q0 : p = w % r
        · have e : (w - p) % r = 0 := by rw [show w - p = r * (w / r) by omega, Nat.mul_mod_right]
          rw [e, if_pos rfl]; omega
        · have hq1 : 1 ≤ w / r := by
            rcases Nat.eq_zero_or_pos (w / r) with y | y
            · rw [y] at h1; omega
            · exact y
          have hmul : r * (w / r) = r * (w / r - 1) + r := by
            have : w / r = (w / r - 1) + 1 := by omega
            rw [this, Nat.mul_add, Nat.mul_one, Nat.add_sub_cancel]
          have e : (w - p) % r = r - (p - w % r) := by
            rw [show w - p = (r - (p - w % r)) + r * (w / r - 1) by omega, Nat.add_mul_mod_self_left, Nat.mod_eq_of_lt (by omega)]
          rw [e, if_neg (by omega)]; omega
    unfold fmI
    rw [if_neg (xor_neg hneg (nI_pos' (by omega))), key]
    by_cases hz : (w - p) % r = 0
    · have : remI (nI p - nI w) (nI r) = 0 := by
        apply Int32.toInt_inj.mp
        rw [hrem, hz]; rfl
      rw [this, if_pos rfl, if_pos hz]; rfl
    · have hne : ¬ remI (nI p - nI w) (nI r) = 0 := by
        intro y
        rw [y] at hrem
        have : (0 : Int32).toInt = 0 := by decide
        omega
      rw [if_neg hne, if_neg hz]
      apply Int32.toInt_inj.mp
      rw [Int32.toInt_add, hrem, nI_toInt (by omega), nI_toInt (by omega), bm_in (by omega) (by omega)]
      omega
  · rw [pk_sub z, fm_nI (by omega) (by omega) (by omega)]
    have : w % r = w := Nat.mod_eq_of_lt (by omega)
    rw [this, show p + (r - w) = (p - w) + r by omega, Nat.add_mod_right]
/-- in how many weeks from w on d comes first -/
def wu (E : It) (d w : Nat) : Nat := (tN (E 4 d) + (tN (E 3 d) - w % tN (E 3 d))) % tN (E 3 d)
theorem wu_lt {p r w : Nat} (hp : p < r) : (p + (r - w % r)) % r < r := Nat.mod_lt _ (by omega)
theorem wu_hit {p r w : Nat} (hp : p < r) : (w + (p + (r - w % r)) % r) % r = p := by
  have h1 : w % r < r := Nat.mod_lt _ (by omega)
  rcases Nat.lt_or_ge p (w % r) with z | z
  · rw [Nat.mod_eq_of_lt (show p + (r - w % r) < r by omega), Nat.add_mod, Nat.mod_eq_of_lt (show p + (r - w % r) < r by omega), show w % r + (p + (r - w % r)) = p + r by omega, Nat.add_mod_right, Nat.mod_eq_of_lt hp]
  · rw [show p + (r - w % r) = (p - w % r) + r by omega, Nat.add_mod_right, Nat.mod_eq_of_lt (show p - w % r < r by omega), Nat.add_mod, Nat.mod_eq_of_lt (show p - w % r < r by omega), show w % r + (p - w % r) = p by omega, Nat.mod_eq_of_lt hp]
theorem wu_no {p r w j : Nat} (hp : p < r) (hj : j < (p + (r - w % r)) % r) : (w + j) % r ≠ p := by
  have h1 : w % r < r := Nat.mod_lt _ (by omega)
  have h2 := wu_lt (w := w) hp
  intro e
  have h3 := wu_hit (w := w) hp
  have hjr : j < r := by omega
  rcases Nat.lt_or_ge (w % r + j) r with q | q
  · rw [Nat.add_mod, Nat.mod_eq_of_lt hjr, Nat.mod_eq_of_lt q] at e
    rw [show p + (r - w % r) = j + r by omega, Nat.add_mod_right, Nat.mod_eq_of_lt hjr] at hj
    omega
  · rw [Nat.add_mod, Nat.mod_eq_of_lt hjr, Nat.mod_eq_sub_mod q, Nat.mod_eq_of_lt (show w % r + j - r < r by omega)] at e
    rw [show p + (r - w % r) = j by omega, Nat.mod_eq_of_lt hjr] at hj
    omega
theorem d_rp {E : It} (hE : Inv E) {d : Nat} (hd : d < cnt E) : ∃ r p, 1 ≤ r ∧ r ≤ 60 ∧ p < r ∧ E 3 d = nI r ∧ E 4 d = nI p ∧ tN (E 3 d) = r ∧ tN (E 4 d) = p := by
  obtain ⟨-, -, ⟨r, r1, r2, er, p, hp, ep⟩, -⟩ := inv_d hE hd
  exact ⟨r, p, r1, r2, hp, er, ep, by rw [er, tN_nI (by omega)], by rw [ep, tN_nI (by omega)]⟩
theorem wu_fm {E : It} (hE : Inv E) {d : Nat} (hd : d < cnt E) {w : Nat} (hw : w ≤ 20000) : fmI (E 4 d - nI w) (E 3 d) = nI (wu E d w) ∧ wu E d w < 60 := by
  obtain ⟨r, p, r1, r2, hp, er, ep, er2, ep2⟩ := d_rp hE hd
  unfold wu
  rw [er2, ep2, er, ep]
  exact ⟨fm_pw hp r2 hw, by have := wu_lt (w := w) hp; omega⟩
theorem wu_rem {E : It} (hE : Inv E) {d : Nat} (hd : d < cnt E) {w : Nat} (hw : w ≤ 20000) (j : Nat) (hj : w + j ≤ 30000) : (remI (nI (w + j)) (E 3 d) = E 4 d) ↔ (w + j) % tN (E 3 d) = tN (E 4 d) := by
  obtain ⟨r, p, r1, r2, hp, er, ep, er2, ep2⟩ := d_rp hE hd
  rw [er2, ep2, er, ep, rem_nI (by omega) (by omega) (by omega)]
  have := Nat.mod_lt (w + j) (show 0 < r by omega)
  exact nI_eq (by omega) (by omega)
theorem wu_at {E : It} (hE : Inv E) {d : Nat} (hd : d < cnt E) {w : Nat} (hw : w ≤ 20000) : remI (nI (w + wu E d w)) (E 3 d) = E 4 d := by
  have h60 := (wu_fm hE hd hw).2
  refine (wu_rem hE hd hw _ (by omega)).mpr ?_
  obtain ⟨r, p, r1, r2, hp, er, ep, er2, ep2⟩ := d_rp hE hd
  unfold wu
  rw [er2, ep2]
  exact wu_hit hp
theorem wu_bf {E : It} (hE : Inv E) {d : Nat} (hd : d < cnt E) {w : Nat} (hw : w ≤ 20000) {j : Nat} (hj : j < wu E d w) : ¬ remI (nI (w + j)) (E 3 d) = E 4 d := by
  have h60 := (wu_fm hE hd hw).2
  intro e
  have e2 := (wu_rem hE hd hw j (by omega)).mp e
  obtain ⟨r, p, r1, r2, hp, er, ep, er2, ep2⟩ := d_rp hE hd
  unfold wu at hj
  rw [er2, ep2] at e2 hj
  exact wu_no hp hj e2
theorem wu_0 {E : It} (hE : Inv E) {d : Nat} (hd : d < cnt E) {w : Nat} (hw : w ≤ 20000) : (nI (wu E d w) = 0) ↔ remI (nI w) (E 3 d) = E 4 d := by
  have h60 := (wu_fm hE hd hw).2
  constructor
  · intro e
    have e0 : wu E d w = 0 := (nI_eq (b := 0) (by omega) (by decide)).mp e
    have := wu_at hE hd hw
    rw [e0] at this
    exact this
  · intro e
    rcases Nat.eq_zero_or_pos (wu E d w) with z | z
    · rw [z]; rfl
    · have h0 := wu_bf hE hd hw (j := 0) z
      rw [Nat.add_zero] at h0
      exact absurd e h0
theorem whR_hit {E : It} {d : Nat} : ∀ (k w j : Nat), j < k → remI (nI (w + j)) (E 3 d) = E 4 d → (∀ i, i < j → ¬ remI (nI (w + i)) (E 3 d) = E 4 d) → whR E d k w = w + j := by
  intro k
  induction k with
  | zero => intro w j hj; omega
  | succ k ih =>
    intro w j hj h1 h2
    rw [whR_s]
    cases j with
    | zero =>
      rw [Nat.add_zero] at h1
      rw [if_pos h1, Nat.add_zero]
    | succ j =>
      have h20 := h2 0 (by omega)
      rw [Nat.add_zero] at h20
      rw [if_neg h20, ih (w + 1) j (by omega) (by rw [show w + 1 + j = w + (j + 1) by omega]; exact h1) (fun i hi => by rw [show w + 1 + i = w + (i + 1) by omega]; exact h2 (i + 1) (by omega))]
      omega
theorem when_e {E : It} (hE : Inv E) {d : Nat} (hd : d < cnt E) : E 0 1 + fmI (E 4 d - E 0 1) (E 3 d) = nI (whR E d 60 (wk E)) := by
  obtain ⟨ew, hw⟩ := inv_wk hE
  have hw2 : wk E ≤ 20000 := by omega
  rw [ew, (wu_fm hE hd hw2).1, nI_add, whR_hit 60 (wk E) (wu E d (wk E)) (wu_fm hE hd hw2).2 (wu_at hE hd hw2) (fun i hi => wu_bf hE hd hw2 hi)]
theorem r_12 {r : Nat} (h : r ≤ 12) (h2 : ¬ nI r < 12) : nI r = 12 := by
  rcases Nat.lt_or_ge r 12 with z | z
  · exact absurd (nI_lt z (by decide)) h2
  · have : r = 12 := by omega
    subst this
    rfl

set_option maxRecDepth 8000 in
set_option maxHeartbeats 4000000 in
theorem y_when {G : Gt} (hG : Gok G) {I : It} {h : Ht}  {E : It} {L : Nat → Int64} (hE : Inv E) (hY : RY E L I h) {d : Nat} (hd : d < cnt E)  : Con G (3) 0 0 mX11_when [.ref 0, .int (nI d)] I h (qX (whenS E (nI d)) L (hn h)) := by
  refine con_intro (own := RX11) (lo0 := [some (.ref 0), some (.int (nI d)), none]) hG rfl pl_X11 (Nat.le_of_ble_eq_true rfl) rfl (fun X hX => ?_)
  have hW := hY.wx hE
  have hH := hW.1
  have hc10 := hW.2.1.2
  have hd10 : d < 10 := Nat.lt_of_lt_of_le hd (inv_cnt hE).2
  have hcd : d < cN I := by rw [hY.cn]; exact hd
  have hDD := isD_mk hE hd
  obtain ⟨g1, g2, g3, g4, g5, g6, g7, g8, g9, g10⟩ := hY.d hd
  refine g_aload_0 hX (dk DX11_when 0 rfl) ?_
  refine g_getRs (r := 1) hX (dk DX11_when 1 rfl) KX11 fX11_12 (by decide) rfl (CLt hH (q := 0) (by decide)) (CC hH 0 (by decide) rfl) (CR hH 0 0 1 (by decide)) ?_
  refine g_iload_1 hX (dk DX11_when 2 rfl) ?_
  refine g_c2R hX sX11_when_5 (by decide) (Nat.le_of_ble_eq_true rfl) (rc0 rfl (CLt hH (by decide)) (CC hH 1 (by decide) rfl)) (by decide) (by decide) (c_X5_find hG hW (by exact hcd)) ?_
  refine g_astore_2 hX (dk DX11_when 4 rfl) (by decide) rfl ?_
  refine g_aload_2 hX (dk DX11_when 5 rfl) ?_
  refine g_ifnonnull (tgt := 17) hX (dk DX11_when 6 rfl) (by decide) ?_
  refine g_aload_0 hX (dk DX11_when 9 rfl) ?_
  refine g_getRs (r := 1) hX (dk DX11_when 10 rfl) KX11 fX11_12 (by decide) rfl (CLt hH (q := 0) (by decide)) (CC hH 0 (by decide) rfl) (CR hH 0 0 1 (by decide)) ?_
  refine g_getIv hX (dk DX11_when 11 rfl) KX5 fX11_122 (by decide) rfl (CLt hH (q := 1) (by decide)) (CC hH 1 (by decide) rfl) (hY.2.1.1.2.1) ?_
  refine g_aload_2 hX (dk DX11_when 12 rfl) ?_
  refine g_aload_0 hX (dk DX11_when 13 rfl) ?_
  refine g_getRs (r := 1) hX (dk DX11_when 14 rfl) KX11 fX11_12 (by decide) rfl (CLt hH (q := 0) (by decide)) (CC hH 0 (by decide) rfl) (CR hH 0 0 1 (by decide)) ?_
  refine g_getIv hX (dk DX11_when 15 rfl) KX5 fX11_122 (by decide) rfl (CLt hH (q := 1) (by decide)) (CC hH 1 (by decide) rfl) (hY.2.1.1.2.1) ?_
  refine g_c2I hX (sD_X11_when_32 _ (by rw [g4]; exact kcl_dc _)) (by decide) (Nat.le_of_ble_eq_true rfl) (rc0 rfl g3 rfl) (by decide) (by decide) (cD_weeksUntil hG g3 (by rw [g4]; exact kcl_dc _) (by exact (hW.2.2.1 d hcd).2.2.2.2.2)) ?_
  refine g_iadd hX (dk DX11_when 17 rfl) ?_
  refine g_ireturn hX (dk DX11_when 18 rfl) rfl (rfl) (by decide) (by decide) ?_
  exact qX_of (by unfold whenS; rw [if_neg (not_not_intro hDD), tN_nI (by omega), g7, g8, when_e hE hd]) hY

set_option maxRecDepth 8000 in
set_option maxHeartbeats 4000000 in
theorem z_when {G : Gt} (hG : Gok G) {I : It} {h : Ht}  {E : It} {L : Nat → Int64} (hE : Inv E) (hY : RY E L I h) {a : Int32} (hno : ¬ isD E a)  : Con G (3) 0 0 mX11_when [.ref 0, .int a] I h (qX (whenS E a) L (hn h)) := by
  refine con_intro (own := RX11) (lo0 := [some (.ref 0), some (.int a), none]) hG rfl pl_X11 (Nat.le_of_ble_eq_true rfl) rfl (fun X hX => ?_)
  have hW := hY.wx hE
  have hH := hW.1
  have hc10 := hW.2.1.2
  refine g_aload_0 hX (dk DX11_when 0 rfl) ?_
  refine g_getRs (r := 1) hX (dk DX11_when 1 rfl) KX11 fX11_12 (by decide) rfl (CLt hH (q := 0) (by decide)) (CC hH 0 (by decide) rfl) (CR hH 0 0 1 (by decide)) ?_
  refine g_iload_1 hX (dk DX11_when 2 rfl) ?_
  refine g_c2R hX sX11_when_5 (by decide) (Nat.le_of_ble_eq_true rfl) (rc0 rfl (CLt hH (by decide)) (CC hH 1 (by decide) rfl)) (by decide) (by decide) (c_X5_find0 hG hW (hY.no hE hno)) ?_
  refine g_astoreN_2 hX (dk DX11_when 4 rfl) (by decide) rfl ?_
  refine g_aloadN_2 hX (dk DX11_when 5 rfl) ?_
  refine g_ifnonnullN hX (dk DX11_when 6 rfl) ?_
  refine g_iconst (v := -1) hX (dk DX11_when 7 rfl) (by decide) ?_
  refine g_goto (tgt := 36) hX (dk DX11_when 8 rfl) (by decide) ?_
  refine g_ireturn hX (dk DX11_when 18 rfl) rfl (rfl) (by decide) (by decide) ?_
  exact qX_of (by unfold whenS; rw [if_pos hno]) hY

theorem x_when {G : Gt} (hG : Gok G) {I : It} {h : Ht} {E : It} {L : Nat → Int64} (hE : Inv E) (hY : RY E L I h) {a : Int32}  : Con G 3 0 0 mX11_when [.ref 0, .int a] I h (qX (whenS E a) L (hn h)) := by
  by_cases hh : isD E a
  · obtain ⟨d, hd, rfl⟩ := isD_of hE hh
    exact y_when hG hE hY hd
  · exact z_when hG hE hY hh
