/-! the public methods by RZ -/
theorem RZ.n6 {E : It} {L : Nat → Int64} {I : It} {h : Ht} (hZ : RZ E L I h) : nP E ≤ 6 := by
  obtain ⟨k, hk, e⟩ := hZ.1.2.2.2.2.2.2.2.1
  unfold nP
  rw [← hZ.2.2.2.2.1.1, e, tN_nI (by omega)]
  exact hk
def offE (a j : Nat) : Prop := ¬ (a = 0 ∧ (j = 2 ∨ j = 3 ∨ j = 4 ∨ j = 5 ∨ j = 15 ∨ j = 16 ∨ j = 17 ∨ j = 47 ∨ j = 48 ∨ j = 51 ∨ j = 52 ∨ j = 53 ∨ j = 54)) ∧ (a < 9 ∨ 15 < a)
def offI (a j : Nat) : Prop := ¬ (a = 0 ∧ (j = 5 ∨ j = 7)) ∧ ¬ ((a = 1 ∨ a = 7) ∧ (j = 3 ∨ j = 7 ∨ j = 8 ∨ j = 9)) ∧ a ≠ 31 ∧ (a < 43 ∨ 73 ≤ a)
theorem RX.eU {E I : It} {h : Ht} {a j : Nat} {x : Int32} (hX : RX E I h) (h6 : nP E ≤ 6) (ho : offE a j) : RX (upI E a j x) I h := by
  unfold offE at ho
  exact hX.keep (fun q hq => upn (fun z => by simp at hq; omega)) (fun b hb => upI_off (by simp at hb; omega)) (fun _ _ => rfl) (fun _ _ => rfl) (fun _ _ => rfl) (fun _ _ => rfl) rfl rfl h6
theorem RX.iU {E I : It} {h : Ht} {a j : Nat} {x : Int32} (hX : RX E I h) (h6 : nP E ≤ 6) (ho : offI a j) : RX E (upI I a j x) h := by
  unfold offI at ho
  exact hX.keep (fun _ _ => rfl) (fun _ _ => rfl) (fun q hq => upn (fun z => by simp at hq; omega)) (fun q hq => upn (fun z => by simp at hq; omega)) (fun q hq => upn (fun z => by simp at hq; omega)) (fun b hb => upI_off (by omega)) rfl rfl h6
theorem RX.hU {E I : It} {h h2 : Ht} (hX : RX E I h) (h6 : nP E ≤ 6) (r1 : hR h2 1 13 = hR h 1 13) (r7 : hR h2 7 13 = hR h 7 13) : RX E I h2 :=
  hX.keep (fun _ _ => rfl) (fun _ _ => rfl) (fun _ _ => rfl) (fun _ _ => rfl) (fun _ _ => rfl) (fun _ _ => rfl) r1 r7 h6
section RZU
variable {E : It} {L : Nat → Int64} {I : It} {h : Ht} {x : Int32} {a j d : Nat}
theorem RZ.wN (hZ : RZ E L I h) : RZ (upI E 0 6 x) L (upI I 1 4 x) h := ⟨hZ.1.wN, (hZ.2.iU hZ.n6 (by unfold offI; omega)).eU hZ.n6 (by unfold offE; omega)⟩
theorem RZ.wR (hZ : RZ E L I h) : RZ (upI E 0 44 x) L (upI I 1 12 x) h := ⟨hZ.1.wR, (hZ.2.iU hZ.n6 (by unfold offI; omega)).eU hZ.n6 (by unfold offE; omega)⟩
theorem RZ.wO (hZ : RZ E L I h) : RZ (upI E 7 d x) L (upI I 3 d x) h := ⟨hZ.1.wO, (hZ.2.iU hZ.n6 (by unfold offI; omega)).eU hZ.n6 (by unfold offE; omega)⟩
theorem RZ.wH (hZ : RZ E L I h) : RZ (upI E 8 d x) L (upI I 4 d x) h := ⟨hZ.1.wH, (hZ.2.iU hZ.n6 (by unfold offI; omega)).eU hZ.n6 (by unfold offE; omega)⟩
theorem RZ.ua (hZ : RZ E L I h) (ha : a = 5 ∨ a = 6) : RZ E L (upI I a j x) h := ⟨hZ.1.ua (by rcases ha with rfl | rfl <;> decide), hZ.2.iU hZ.n6 (by unfold offI; omega)⟩
theorem RZ.cc (hZ : RZ E L I h) (ha : a = 23 ∨ a = 24) : RZ (upI E a j x) L I h := ⟨hZ.1.cc (by rcases ha with rfl | rfl <;> decide), hZ.2.eU hZ.n6 (by unfold offE; omega)⟩
theorem RZ.act (hZ : RZ E L I h) (l : List Int32) : RZ (putB (upI E 0 67 0) l) L (tbL (upI I 32 1 0) l) h :=
  ⟨hZ.1.act l, hZ.2.keep (fun q hq => (fr_0 E l).1 q (by simp at hq ⊢; omega)) (fun b hb => (fr_0 E l).2 b (by simp at hb; omega) (by simp at hb ⊢; omega)) (fun _ _ => congrFun (of_0 I l 0 (by decide) (by decide)) _) (fun _ _ => congrFun (of_0 I l 1 (by decide) (by decide)) _) (fun _ _ => congrFun (of_0 I l 7 (by decide) (by decide)) _) (fun b hb => of_0 I l b (by omega) (by omega)) rfl rfl hZ.n6⟩
theorem RZ.it (hZ : RZ E L I h) {t k : Nat} (ht : t < 6) (hk : k < 60) (v : Int64) : RZ E (vp_updL L (60 * t + k) v) I (wL h (37 + t) k v) := ⟨hZ.1.it ht hk v, hZ.2.hU hZ.n6 rfl rfl⟩
theorem RZ.tape (hZ : RZ E L I h) {h2 : Ht} {t : Nat} (ht : t < 6) (s n : Int32) (f1 : ∀ j, j < 60 → hL h2 (37 + t) j = 0) (f3 : ∀ a, a ≠ 37 + t → hL h2 a = hL h a) (f4 : hR h2 = hR h) (f5 : hs h2 = hs h) (f6 : hn h2 = hn h) : RZ (upI (upI E 36 t s) 37 t n) (zeL L t) (upI (upI I 34 t s) 35 t n) h2 :=
  ⟨hZ.1.tape ht s n f1 f3 f4 f5 f6, hZ.2.keep (fun q _ => (upn (by omega)).trans (upn (by omega))) (fun b hb => (upI_off (by simp at hb; omega)).trans (upI_off (by simp at hb; omega))) (fun _ _ => rfl) (fun _ _ => rfl) (fun _ _ => rfl) (fun b hb => (upI_off (by omega)).trans (upI_off (by omega))) (by rw [f4]) (by rw [f4]) hZ.n6⟩
theorem RZ.shift (hZ : RZ E L I h) {t i o j n : Nat} (ht : t < 6) (ho : o < 6) (hi : i + n ≤ 60) (hj : j + n ≤ 60) :
    RZ E (fun q => if 60 * o + j ≤ q ∧ q < 60 * o + j + n then L (60 * t + i + (q - (60 * o + j))) else L q) I (cpL h (37 + t) (37 + o) i j n) := ⟨hZ.1.shift ht ho hi hj, hZ.2.hU hZ.n6 rfl rfl⟩
end RZU
theorem RZ_doing {E : It} {L : Nat → Int64} {I : It} {h : Ht} (hE : Inv E) (hZ : RZ E L I h) (hn10 : cnt E < 10) {k v r p c e : Int32} (hr : 1 ≤ r) :
    RZ (doE E k v r p c e) L (upI (upI (dI (zI I (hn h)) (hn h) (nI (cnt E)) v r p c e) 3 (cnt E) 5) 1 2 (nI (cnt E + 1))) (wR (zA h (hn h) (hn h + 1) (kcl k, 0)) 2 (cnt E) (some (hn h))) := by
  refine ⟨RY_doing hE hZ.1 hn10 hr, ?_⟩
  have hx := hZ.1.1.1
  obtain ⟨e0, -⟩ := inv_cnt hE
  generalize eJ : upI (upI (dI (zI I (hn h)) (hn h) (nI (cnt E)) v r p c e) 3 (cnt E) 5) 1 2 (nI (cnt E + 1)) = J
  have jo : ∀ q, q ≠ hn h → q ≠ 1 → q ≠ 3 → J q = I q := by
    intro q q1 q2 q3
    rw [← eJ, upI_off q2, upI_off q3]
    unfold dI
    rw [upI_off q1, upI_off q1, upI_off q1, upI_off q1, upI_off q1, upI_off q1]
    funext j
    exact if_neg q1
  have j1 : ∀ j, j ≠ 2 → J 1 j = I 1 j := by
    intro j hj
    have q1 : (1 : Nat) ≠ hn h := by omega
    rw [← eJ, upn (by omega), upI_off (by decide)]
    unfold dI
    rw [upI_off q1, upI_off q1, upI_off q1, upI_off q1, upI_off q1, upI_off q1]
    exact if_neg q1
  have rr : ∀ q j, q ≠ 2 → q < 73 → hR (wR (zA h (hn h) (hn h + 1) (kcl k, 0)) 2 (cnt E) (some (hn h))) q j = hR h q j := by
    intro q j h1 h2
    rw [wR_n (by omega)]
    show (if q = hn h then none else hR h q j) = _
    rw [if_neg (by omega)]
  refine hZ.2.keep (fun j hj => ?_) (fun a ha => do_r (by simp at ha; omega) (by simp at ha; omega)) (fun j _ => by rw [jo 0 (by omega) (by omega) (by omega)]) (fun j hj => j1 j (by simp at hj; omega)) (fun j _ => by rw [jo 7 (by omega) (by omega) (by omega)]) (fun a ha => jo a (by omega) (by omega) (by omega)) (rr 1 13 (by decide) (by decide)) (rr 7 13 (by decide) (by decide)) hZ.n6
  by_cases z : j = 5
  · subst z
    rw [do_z.2.1, e0]
    exact kb_w0 (inv_kn hE) (by omega)
  · exact do_0 (by simp at hj; omega)
/-- the numbers told are written -/
theorem RX.nums {E E2 I J : It} {h : Ht} (hX : RX E I h) (h6 : nP E ≤ 6) (n1 : J 1 3 = E2 0 5 ∧ J 1 7 = E2 0 2 ∧ J 1 8 = E2 0 3 ∧ J 1 9 = E2 0 4) (e0 : ∀ j, j ∈ [15, 16, 17, 47, 48, 51, 52, 53, 54] → E2 0 j = E 0 j) (eC : ∀ a, a ∈ [9, 10, 11, 12, 13, 14, 15] → E2 a = E a) (jC : ∀ a, a ≠ 1 → J a = I a) : RX E2 J h := by
  have q : RX (fun a j => if a = 0 ∧ (j = 2 ∨ j = 3 ∨ j = 4 ∨ j = 5) then E 0 j else E2 a j) (fun a j => if a = 1 ∧ (j = 3 ∨ j = 7 ∨ j = 8 ∨ j = 9) then I 1 j else J a j) h := by
    refine hX.keep (fun j hj => ?_) (fun a ha => ?_) (fun j hj => ?_) (fun j hj => ?_) (fun j hj => ?_) (fun a ha => ?_) rfl rfl h6
    · show (if (0 : Nat) = 0 ∧ (j = 2 ∨ j = 3 ∨ j = 4 ∨ j = 5) then E 0 j else E2 0 j) = E 0 j
      by_cases z : (0 : Nat) = 0 ∧ (j = 2 ∨ j = 3 ∨ j = 4 ∨ j = 5)
      · rw [if_pos z]
      · rw [if_neg z]; exact e0 j (by simp at hj ⊢; omega)
    · funext j
      show (if a = 0 ∧ (j = 2 ∨ j = 3 ∨ j = 4 ∨ j = 5) then E 0 j else E2 a j) = E a j
      rw [if_neg (by simp at ha; omega), eC a ha]
    · show (if (0 : Nat) = 1 ∧ _ then I 1 j else J 0 j) = I 0 j
      rw [if_neg (by omega), jC 0 (by decide)]
    · show (if (1 : Nat) = 1 ∧ (j = 3 ∨ j = 7 ∨ j = 8 ∨ j = 9) then I 1 j else J 1 j) = I 1 j
      rw [if_pos (by simp at hj; omega)]
    · show (if (7 : Nat) = 1 ∧ _ then I 1 j else J 7 j) = I 7 j
      rw [if_neg (by omega), jC 7 (by decide)]
    · funext j
      show (if a = 1 ∧ _ then I 1 j else J a j) = I a j
      rw [if_neg (by omega), jC a (by omega)]
  obtain ⟨-, g2, g3, ⟨g4, g5⟩, g6, g7⟩ := q
  refine ⟨n1, g2, g3, ⟨g4, fun p hp => ?_⟩, g6, fun j hj => ?_⟩
  · have hp6 : p < 6 := by
      have : nP E2 = nP E := by unfold nP; rw [e0 15 (by decide)]
      omega
    obtain ⟨l, hl⟩ := g5 p hp
    refine ⟨l, hl.mv rfl (fun c _ => ⟨rfl, rfl, rfl, rfl⟩) (fun j _ => rfl) (fun a a1 a2 => ?_)⟩
    funext j
    exact (if_neg (by omega)).symm
  · exact g7 j hj
theorem RZ.wK {E : It} {L : Nat → Int64} {I : It} {h : Ht} {x : Int32} (hZ : RZ E L I h) : RZ (upI E 0 5 x) L (upI I 1 3 x) h :=
  ⟨(hZ.1.u1 (j := 3) (by decide)).f (by decide), hZ.2.nums hZ.n6 ⟨by rw [up0, up0], by rw [upn (by decide), upn (by decide)]; exact hZ.2.1.2.1, by rw [upn (by decide), upn (by decide)]; exact hZ.2.1.2.2.1, by rw [upn (by decide), upn (by decide)]; exact hZ.2.1.2.2.2⟩ (fun j hj => upn (by simp at hj; omega)) (fun a ha => upI_off (by simp at ha; omega)) (fun a ha => upI_off ha)⟩
theorem RZ.go {E : It} {L : Nat → Int64} {I : It} {h : Ht} (hE : Inv E) (hZ : RZ E L I h) {J W : It} {R : WS} {n a b c d : Int32} (hS : Sc I J) (eW : W = upI (upI (upI (upI J 1 7 a) 1 8 b) 1 9 c) 1 3 d) (ea : a = E 0 2 + R.2.2.1) (eb : b = E 0 3 + R.2.2.2.1) (ec : c = E 0 4 + R.2.2.2.2.1) (ed : d = R.2.1) : RZ (goE E R n) L (upI W 1 6 (E 0 1 + n)) h := by
  have hZJ := hZ.sc hE hS
  have hYW : RY E L W h := by rw [eW]; exact (((hZJ.1.u1 (j := 7) (by decide)).u1 (j := 8) (by decide)).u1 (j := 9) (by decide)).u1 (j := 3) (by decide)
  refine ⟨by unfold goE; exact ((((hYW.wW).f (j := 5) (by decide)).f (j := 2) (by decide)).f (j := 3) (by decide)).f (j := 4) (by decide), ?_⟩
  have wo : ∀ q, q ≠ 1 → W q = J q := fun q hq => by rw [eW, upI_off hq, upI_off hq, upI_off hq, upI_off hq]
  refine hZJ.2.nums hZ.n6 ⟨?_, ?_, ?_, ?_⟩ (fun j hj => ?_) (fun q hq => ?_) (fun q hq => (upI_off hq).trans (wo q hq))
  · rw [upn (by decide), eW, up0, ed]
    unfold goE
    rw [upn (by decide), upn (by decide), upn (by decide), up0]
  · rw [upn (by decide), eW, upn (by decide), upn (by decide), upn (by decide), up0, ea]
    unfold goE
    rw [upn (by decide), upn (by decide), up0]
  · rw [upn (by decide), eW, upn (by decide), upn (by decide), up0, eb]
    unfold goE
    rw [upn (by decide), up0]
  · rw [upn (by decide), eW, upn (by decide), up0, ec]
    unfold goE
    rw [up0]
  · unfold goE
    rw [upn (by simp at hj; omega), upn (by simp at hj; omega), upn (by simp at hj; omega), upn (by simp at hj; omega), upn (by simp at hj; omega)]
  · unfold goE
    rw [upI_off (by simp at hq; omega), upI_off (by simp at hq; omega), upI_off (by simp at hq; omega), upI_off (by simp at hq; omega), upI_off (by simp at hq; omega)]
theorem RZ.img {E : It} {L : Nat → Int64} {I J : It} {h h2 : Ht} (hE : Inv E) (hZ : RZ E L I h) (hT : TF 7 1 I h J h2) : RZ (imgC (imgF E)) L (upI J 0 2 1) h2 := by
  refine ⟨hZ.1.img hE hT, ?_⟩
  have hn6 := hZ.n6
  obtain ⟨t1, t2, t3, t4, t5, t6, t7, t8, t9, t10, es, en, el, hx⟩ := hT
  obtain ⟨g1, g2, g3, ⟨g4, g5⟩, g6, g7⟩ := hZ.2
  have K : ∀ a, a ≠ 0 → a ∉ [7, 9, 10, 11, 12] → upI J 0 2 1 a = I a := fun a h0 ha => (upI_off h0).trans (t6 a ha)
  have K0 : ∀ j, j ≠ 2 → upI J 0 2 1 0 j = I 0 j := fun j hj => (upn (fun z => hj z.2)).trans (congrFun (t6 0 (by decide)) j)
  have q : ∀ f, f ∈ [2, 3, 4, 6, 7, 8, 9, 12] → upI J 0 2 1 7 f = I 1 f := fun f hf => by rw [upI_off (by decide)]; exact t1 f hf
  have hn : nP (imgC (imgF E)) = nP E := by unfold nP; rw [img_0 (by decide)]
  have hf : fedN (imgC (imgF E)) = fedN E := by unfold fedN; rw [img_0 (by decide)]
  refine ⟨?_, fun _ => ⟨?_, ?_⟩, ?_, ⟨?_, fun p hp => ?_⟩, ?_, fun j hj => ?_⟩
  · rw [K 1 (by decide) (by decide), img_0 (by decide), img_0 (by decide), img_0 (by decide), img_0 (by decide)]; exact g1
  · rw [q 3 (by decide), q 7 (by decide), q 8 (by decide), q 9 (by decide)]; exact g1
  · rw [t8]; exact g3.mv hn
  · rw [img_0 (by decide), show hR h2 1 13 = hR h 1 13 from congrFun (t9 1 (by decide) (by decide)) 13]; exact g3.mv hn
  · rw [K0 5 (by decide), img_0 (by decide)]; exact g4
  · rw [hn] at hp
    obtain ⟨l, hl⟩ := g5 p hp
    exact ⟨l, hl.mv (by rw [img_off (by decide) (by decide)]) (fun c _ => by rw [img_off (by decide) (by decide), img_off (by decide) (by decide), img_off (by decide) (by decide), img_off (by decide) (by decide)]; exact ⟨rfl, rfl, rfl, rfl⟩) (fun j _ => by rw [img_off (by decide) (by decide)]) (fun a a1 a2 => K a (by omega) (by simp; omega))⟩
  · rw [K0 7 (by decide), img_0 (by decide)]; exact g6
  · rw [hf] at hj
    rw [K 31 (by decide) (by decide), img_off (by decide) (by decide)]; exact g7 j hj
theorem RZ.und {E : It} {L : Nat → Int64} {I J : It} {h h2 : Ht} (hE : Inv E) (h47 : ¬ E 0 47 = 0) (hZ : RZ E L I h) (hT : TF 1 7 I h J h2) : RZ (undC (undF E)) L J h2 := by
  refine ⟨hZ.1.und hE h47 hT, ?_⟩
  have hn6 := hZ.n6
  obtain ⟨t1, t2, t3, t4, t5, t6, t7, t8, t9, t10, es, en, el, hx⟩ := hT
  obtain ⟨g1, g2, g3, ⟨g4, g5⟩, g6, g7⟩ := hZ.2
  have h1 : E 0 47 = 1 := by rcases hE.2.1 with z | z; exact absurd z h47; exact z.1
  obtain ⟨g2a, g2b⟩ := g2 h1
  have K : ∀ a, a ∉ [1, 3, 4, 5, 6] → J a = I a := t6
  have hn : nP (undC (undF E)) = nP E := by unfold nP; rw [und_0 (by decide)]
  have hf : fedN (undC (undF E)) = fedN E := by unfold fedN; rw [und_0 (by decide)]
  refine ⟨?_, fun _ => ⟨?_, ?_⟩, ?_, ⟨?_, fun p hp => ?_⟩, ?_, fun j hj => ?_⟩
  · rw [t1 3 (by decide), t1 7 (by decide), t1 8 (by decide), t1 9 (by decide)]; exact g2a
  · rw [K 7 (by decide), und_0 (by decide), und_0 (by decide), und_0 (by decide), und_0 (by decide)]; exact g2a
  · rw [und_0 (by decide), show hR h2 7 13 = hR h 7 13 from congrFun (t9 7 (by decide) (by decide)) 13]; exact g2b.mv hn
  · rw [t8]; exact g2b.mv hn
  · rw [K 0 (by decide), und_0 (by decide)]; exact g4
  · rw [hn] at hp
    obtain ⟨l, hl⟩ := g5 p hp
    exact ⟨l, hl.mv (by rw [und_off (by decide) (by decide)]) (fun c _ => by rw [und_off (by decide) (by decide), und_off (by decide) (by decide), und_off (by decide) (by decide), und_off (by decide) (by decide)]; exact ⟨rfl, rfl, rfl, rfl⟩) (fun j _ => by rw [und_off (by decide) (by decide)]) (fun a a1 a2 => K a (by simp; omega))⟩
  · rw [K 0 (by decide), und_0 (by decide)]; exact g6
  · rw [hf] at hj
    rw [K 31 (by decide), und_off (by decide) (by decide)]; exact g7 j hj
theorem fed_s {E : It} {L : Nat → Int64} {I : It} {h : Ht} {s : Nat} (hZ : RZ E L I h) (es : I 0 7 = nI s) (hs : s ≤ 100) : E 0 17 = nI s ∧ fedN E = s := by
  have e : E 0 17 = nI s := hZ.2.2.2.2.2.1.symm.trans es
  exact ⟨e, by unfold fedN; rw [e, tN_nI (by omega)]⟩
theorem RZ.feed {E : It} {L : Nat → Int64} {I : It} {h : Ht} {s : Nat} {x : Int32} (hZ : RZ E L I h) (hs : s < 100) (es : I 0 7 = nI s) : RZ (upI (upI E 9 (tN (E 0 17)) x) 0 17 (E 0 17 + 1)) L (upI (upI I 31 s x) 0 7 (nI (s + 1))) h := by
  obtain ⟨eE, ef⟩ := fed_s hZ es (by omega)
  have hn6 := hZ.n6
  refine ⟨(RY.u07 (s := s + 1) (hZ.1.ua (a := 31) (by decide)) (by omega)).cc (by decide) |>.f (by decide), ?_⟩
  rw [eE, tN_nI (by omega), nI_1]
  obtain ⟨g1, g2, g3, ⟨g4, g5⟩, g6, g7⟩ := hZ.2
  generalize eE2 : upI (upI E 9 s x) 0 17 (nI (s + 1)) = E2
  generalize eJ : upI (upI I 31 s x) 0 7 (nI (s + 1)) = J
  have kE : ∀ j, j ≠ 17 → E2 0 j = E 0 j := fun j hj => by rw [← eE2]; exact (upn (by omega)).trans (upn (by omega))
  have kC : ∀ a, a ≠ 0 → a ≠ 9 → E2 a = E a := fun a h1 h2 => by rw [← eE2]; exact (upI_off h1).trans (upI_off h2)
  have kI : ∀ a, a ≠ 0 → a ≠ 31 → J a = I a := fun a h1 h2 => by rw [← eJ]; exact (upI_off h1).trans (upI_off h2)
  have k05 : J 0 5 = I 0 5 := by rw [← eJ]; exact (upn (by omega)).trans (upn (by omega))
  have n2 : nP E2 = nP E := by unfold nP; rw [kE 15 (by decide)]
  have e17 : E2 0 17 = nI (s + 1) := by rw [← eE2, up0]
  have f2 : fedN E2 = s + 1 := by unfold fedN; rw [e17, tN_nI (by omega)]
  refine ⟨?_, fun z => ?_, ?_, ⟨?_, fun p hp => ?_⟩, by rw [e17, ← eJ, up0], fun j hj => ?_⟩
  · rw [kI 1 (by decide) (by decide), kE 5 (by decide), kE 2 (by decide), kE 3 (by decide), kE 4 (by decide)]; exact g1
  · rw [kE 47 (by decide)] at z
    rw [kI 7 (by decide) (by decide), kE 54 (by decide), kE 51 (by decide), kE 52 (by decide), kE 53 (by decide), kE 48 (by decide)]
    exact ⟨(g2 z).1, (g2 z).2.mv n2⟩
  · rw [kE 16 (by decide)]; exact g3.mv n2
  · rw [k05, kE 15 (by decide)]; exact g4
  · rw [n2] at hp
    obtain ⟨l, hl⟩ := g5 p hp
    exact ⟨l, hl.mv (by rw [kC 10 (by decide) (by decide)]) (fun c _ => by rw [kC 11 (by decide) (by decide), kC 12 (by decide) (by decide), kC 13 (by decide) (by decide), kC 14 (by decide) (by decide)]; exact ⟨rfl, rfl, rfl, rfl⟩) (fun j _ => by rw [kC 15 (by decide) (by decide)]) (fun a a1 a2 => kI a (by omega) (by omega))⟩
  · rw [f2] at hj
    have q1 : J 31 j = upI I 31 s x 31 j := by rw [← eJ]; exact congrFun (upI_off (by decide)) j
    have q2 : E2 9 j = upI E 9 s x 9 j := by rw [← eE2]; exact congrFun (upI_off (by decide)) j
    rw [q1, q2]
    by_cases z : j = s
    · subst z; rw [up0, up0]
    · rw [upn (by omega), upn (by omega)]; exact g7 j (by omega)
/-! answers -/
def qZ (s : Int32 × It) (L : Nat → Int64) (N : Nat) : Pt3 := qI fun x I' h' => x = s.1 ∧ RZ s.2 L I' h' ∧ hn h' ≤ N
def qZL (v : Int64) (E : It) (L : Nat → Int64) (N : Nat) : Pt3 := qL fun x I' h' => x = v ∧ RZ E L I' h' ∧ hn h' ≤ N
def qWZ (E : It) (L : Nat → Int64) (N : Nat) : Pt3 := qI fun _ I' h' => RZ E L I' h' ∧ hn h' ≤ N
theorem qZ_of {s : Int32 × It} {v : Int32} {E' J : It} {L : Nat → Int64} {h : Ht} (e : s = (v, E')) (hZ : RZ E' L J h) : qZ s L (hn h) (some (.int v)) J h := ⟨v, rfl, by rw [e], by rw [e]; exact hZ, Nat.le_refl _⟩
theorem qZL_of {v w : Int64} {E J : It} {L : Nat → Int64} {h : Ht} (e : w = v) (hZ : RZ E L J h) : qZL v E L (hn h) (some (.long w)) J h := ⟨w, rfl, e, hZ, Nat.le_refl _⟩
theorem qWZ_of {v : Int32} {E J : It} {L : Nat → Int64} {h : Ht} (hZ : RZ E L J h) : qWZ E L (hn h) (some (.int v)) J h := ⟨v, rfl, hZ, Nat.le_refl _⟩
theorem qZ_ofN {s : Int32 × It} {v : Int32} {E' J : It} {L : Nat → Int64} {h : Ht} {N : Nat} (e : s = (v, E')) (hZ : RZ E' L J h) (hN : hn h ≤ N) : qZ s L N (some (.int v)) J h := ⟨v, rfl, by rw [e], by rw [e]; exact hZ, hN⟩
theorem itz_of {E J : It} {s : Int32 × (Nat → Int64)} {v : Int32} {L' : Nat → Int64} {h : Ht} (e : s = (v, L')) (hZ : RZ E L' J h) : qZ (s.1, E) s.2 (hn h) (some (.int v)) J h := ⟨v, rfl, by rw [e], by rw [e]; exact hZ, Nat.le_refl _⟩
theorem tpz_of {E' J : It} {s : Int32 × It} {v : Int32} {L2 L' : Nat → Int64} {h h2 : Ht} (e : s = (v, E')) (eL : L2 = L') (en : hn h2 = hn h) (hZ : RZ E' L' J h2) : qZ s L2 (hn h) (some (.int v)) J h2 := ⟨v, rfl, by rw [e], by rw [e, eL]; exact hZ, Nat.le_of_eq en⟩
/-! the start -/
theorem RZ_start {Ix E : It} {hx : Ht} (hI : IX0 Ix) (hH : HX0 hx) (hF : fresh E) (hY : RY E (fun _ => 0) Ix hx) : RZ E (fun _ => 0) Ix hx := by
  have z : ∀ j, j ∈ pfL → j ≠ 16 → j ≠ 48 → E 0 j = 0 := fun j hj h1 h2 => by rw [hF.1 j hj, if_neg (by omega)]
  have i0 : ∀ q, q < 73 → q ≠ 34 → ∀ j, Ix q j = 0 := hI.1
  have e16 : E 0 16 = -1 := by rw [hF.1 16 (by decide), if_pos (by decide)]
  have np : nP E = 0 := by unfold nP; rw [z 15 (by decide) (by decide) (by decide)]; rfl
  have nf : fedN E = 0 := by unfold fedN; rw [z 17 (by decide) (by decide) (by decide)]; rfl
  refine ⟨hY, ⟨?_, ?_, ?_, ?_⟩, fun e => ?_, Or.inl ⟨e16, hH.2.2.2.2.1.1⟩, ⟨?_, fun p hp => ?_⟩, ?_, fun j hj => ?_⟩
  · rw [i0 1 (by decide) (by decide), z 5 (by decide) (by decide) (by decide)]
  · rw [i0 1 (by decide) (by decide), z 2 (by decide) (by decide) (by decide)]
  · rw [i0 1 (by decide) (by decide), z 3 (by decide) (by decide) (by decide)]
  · rw [i0 1 (by decide) (by decide), z 4 (by decide) (by decide) (by decide)]
  · rw [z 47 (by decide) (by decide) (by decide)] at e; exact absurd e (by decide)
  · rw [i0 0 (by decide) (by decide), z 15 (by decide) (by decide) (by decide)]
  · rw [np] at hp; exact absurd hp (Nat.not_lt_zero p)
  · rw [i0 0 (by decide) (by decide), z 17 (by decide) (by decide) (by decide)]
  · rw [nf] at hj; exact absurd hj (Nat.not_lt_zero j)
/-! answers that are put together -/
theorem ofb (s a : Int32) (E : It) : (if hasI s a = 1 then ((1 : Int32), E) else (0, E)) = (hasI s a, E) := by
  rcases has_01 s a with e | e <;> rw [e] <;> rfl
theorem learn_z {E : It} {a z : Int32} (h : isD E a) : learnS E a z = (hasI (E 0 5) a, upI E 0 5 (withI (E 0 5) a z)) := by
  unfold learnS
  rw [if_neg (not_not_intro h)]
  rcases has_01 (E 0 5) a with e | e <;> rw [e] <;> rfl
theorem cfR_p {f g q : Nat → Bool} : ∀ (k i : Nat) (z1 z2 : Int32), (∀ j, b2 (q j) = b2 (f j) + b2 (g j)) → cfR q k i (z1 + z2) = cfR f k i z1 + cfR g k i z2 := by
  intro k
  induction k with
  | zero => intro i z1 z2 _; rfl
  | succ k ih =>
    intro i z1 z2 h
    rw [cfR_s, cfR_s, cfR_s, ← ih (i + 1) _ _ h, h i]
    congr 1
    rw [Int32.add_assoc, Int32.add_assoc, ← Int32.add_assoc z2, Int32.add_comm z2, Int32.add_assoc (b2 (f i))]
theorem ones_10 {m : Nat} (h : m < 1024) : nI (onesN m) = cfR (fun i => gb (nI m) i) 10 0 0 := ones_f 10 (by decide) m h
theorem hand_e {n : Nat} {a o : Int32} (ha : kb n a) (ho : kb n o) (hn : n ≤ 10) : ∃ m, m < 1024 ∧ o &&& (a ^^^ (-1)) = nI m ∧ nI (onesN m) = onesI (a ||| o) - onesI a ∧ a ||| (o &&& (a ^^^ (-1))) = a ||| o := by
  obtain ⟨m, hm, em⟩ := kb_lt (kb_and (a ^^^ (-1)) ho) hn
  obtain ⟨x, hx, ex⟩ := kb_lt ha hn
  obtain ⟨z, hz, ez⟩ := kb_lt (kb_or ha ho) hn
  have h32 : a ||| (o &&& (a ^^^ (-1))) = a ||| o := gb_ext (fun i hi => by
    rw [gb_or, gb_and, gb_not _ hi, gb_or]
    cases gb a i <;> cases gb o i <;> rfl)
  refine ⟨m, hm, em, ?_, h32⟩
  have h1 : onesI (a ||| o) = cfR (fun i => gb (a ||| o) i) 10 0 0 := by unfold onesI; rw [ez, tN_nI (by omega), ones_10 hz]
  have h2 : onesI a = cfR (fun i => gb a i) 10 0 0 := by unfold onesI; rw [ex, tN_nI (by omega), ones_10 hx]
  have h3 : nI (onesN m) = cfR (fun i => gb (o &&& (a ^^^ (-1))) i && decide (i < 32)) 10 0 0 := by
    rw [ones_10 hm, em]
    exact cfR_cg 10 0 0 (fun j _ hj => by rw [show decide (j < 32) = true from decide_eq_true (by omega), Bool.and_true])
  have h4 : cfR (fun i => gb (a ||| o) i && decide (i < 32)) 10 0 (0 + 0) = cfR (fun i => gb a i && decide (i < 32)) 10 0 0 + cfR (fun i => gb (o &&& (a ^^^ (-1))) i && decide (i < 32)) 10 0 0 := by
    refine cfR_p 10 0 0 0 (fun j => ?_)
    by_cases hj : j < 32
    · rw [decide_eq_true hj, Bool.and_true, Bool.and_true, Bool.and_true, gb_or, gb_and, gb_not _ hj]
      cases gb a j <;> cases gb o j <;> rfl
    · rw [decide_eq_false hj, Bool.and_false, Bool.and_false, Bool.and_false]; rfl
  have h5 : ∀ b : Int32, cfR (fun i => gb b i && decide (i < 32)) 10 0 0 = cfR (fun i => gb b i) 10 0 0 := fun b =>
    cfR_cg 10 0 0 (fun j _ hj => by rw [show decide (j < 32) = true from decide_eq_true (by omega), Bool.and_true])
  rw [Int32.add_zero, h5, h5 a, ← h1, ← h2, ← h3] at h4
  rw [h4, Int32.add_comm, Int32.add_sub_cancel]
theorem hr_9 {E : It} (hE : Inv E) {y : Nat} (hy : y < 4) : E 8 y = 9 ∨ E 8 y < 9 := by
  obtain ⟨x, hx, e⟩ := hE.1.2.2.2.2.1 y hy
  rcases Nat.lt_or_ge x 9 with z | z
  · exact Or.inr (by rw [e]; exact nI_lt (b := 9) z (by decide))
  · exact Or.inl (by rw [e, show x = 9 by omega]; rfl)
theorem jd_1 {E : It} {L : Nat → Int64} {t l k d : Nat} {e : Int32} (el : E 37 t = nI l) (hl : l ≤ 60) (hd : d ≤ 10) (h : e < 0 ∨ ¬ e < nI l - nI d) : jdR E L t e (k + 1) d = 100 + nI d := by
  rw [jdR_s]
  by_cases h1 : E 36 t < 0
  · rw [if_pos h1]
  · rw [if_neg h1]
    by_cases h2 : e < 0
    · rw [if_pos h2]
    · rw [if_neg h2, if_pos]
      intro h3
      have h4 := h.resolve_left h2
      obtain ⟨q, hq, rfl⟩ := nI_of h2
      rw [el] at h3
      have h5 := jd_le hl hd hq h3
      rw [pk_sub (by omega)] at h4
      exact h4 (nI_lt (by omega) (by omega))
theorem jd_2 {E : It} {L : Nat → Int64} {t l k d q : Nat} {e : Int32} (el : E 37 t = nI l) (hl : l ≤ 60) (hd : d ≤ 10) (hz : E 36 t < 0 → l = 0) (eq : e = nI q) (hq60 : q + d < 60) (h : e < nI l - nI d) : jdR E L t e (k + 1) d = if L (60 * t + (q + d)) = (hasI (E 0 5) (nI d)).toInt64 then jdR E L t e k (d + 1) else nI d := by
  subst eq
  have hql : q + d < l := by
    rcases Nat.lt_or_ge d l with z | z
    · rw [pk_sub (by omega)] at h
      have := lt_nI (by omega) (by omega) h
      omega
    · exfalso
      have h1 := Int32.lt_iff_toInt_lt.mp h
      rw [Int32.toInt_sub, nI_toInt (show l < 2 ^ 31 by omega), nI_toInt (show d < 2 ^ 31 by omega), nI_toInt (show q < 2 ^ 31 by omega), Int.bmod_eq_of_le (by omega) (by omega)] at h1
      omega
  rw [jdR_s, if_neg (fun z => by have := hz z; omega), if_neg (nI_pos (by omega)), if_neg, tN_nI (by omega), Nat.add_assoc]
  · rcases has_01 (E 0 5) (nI d) with z | z <;> rw [z] <;> rfl
  · rw [el, pk_sub (by omega), show (1 : Int32) = nI 1 from rfl, pk_sub (by omega)]
    exact not_not_intro (nI_le (by omega) (by omega))
/-- the best SPLIT's memory -/
def KS (E J2 : It) (m : Nat) (J : It) : Prop := Sc J2 J ∧ J 13 1 = nI m ∧ AH E J m ∧ HD E J
theorem KS.u {E J2 J : It} {m : Nat} {y : Nat} {x : Int32} (hE : Inv E) (h : KS E J2 m J) : KS E J2 m (upI J 28 y x) :=
  ⟨h.1.up ⟨by decide, by decide⟩, (upn (by omega)).trans h.2.1, h.2.2.1.o (upI_off (by decide)) (upI_off (by decide)), h.2.2.2.o (fun a h1 h2 => upI_off (by omega)) hE⟩
theorem KS.c {E J2 J : It} {m : Nat} (hE : Inv E) (h : KS E J2 m J) : KS E J2 m (cpI J 28 29 0 0 4) :=
  ⟨fun a ha => (cpI_29 J (by omega)).trans (h.1 a ha), (congrFun (cpI_29 J (by decide)) 1).trans h.2.1, h.2.2.1.o (cpI_29 J (by decide)) (cpI_29 J (by decide)), h.2.2.2.o (fun a h1 h2 => cpI_29 J (by omega)) hE⟩
theorem KS.p {E J2 J K : It} {m : Nat} (hE : Inv E) (h : KS E J2 m J) (hP : P2 J K) : KS E J2 m K :=
  ⟨h.1.trans hP.sc, hP.2.trans h.2.1, h.2.2.1.p2 hP, h.2.2.2.o (fun a h1 h2 => hP.1 a (by omega) (by omega)) hE⟩
theorem h4_of {f : Nat → Int32} {a b c e : Nat} (h : f 0 = nI a ∧ f 1 = nI b ∧ f 2 = nI c ∧ f 3 = nI e) : ∀ y, y < 4 → f y = h4 a b c e y := by
  intro y hy
  rcases (by omega : y = 0 ∨ y = 1 ∨ y = 2 ∨ y = 3) with rfl | rfl | rfl | rfl
  · exact h.1
  · exact h.2.1
  · exact h.2.2.1
  · exact h.2.2.2
theorem jd_m {x : Int32} (h : x = -1) : x < 0 := by rw [h]; decide
theorem jd_0 {E : It} (hE : Inv E) {t : Nat} (ht : t < 6) (h : ¬ E 36 t = -1) : ¬ E 36 t < 0 := by
  obtain ⟨-, -, -, -, hs⟩ := tp_of hE ht
  obtain ⟨s, hs4, e⟩ := hs.resolve_left h
  rw [e]; exact nI_pos (by omega)
theorem nb_127 : ∀ n, n ≤ 127 → vp_nar .byte (nI n).toInt8.toInt32 = nI n := by decide +kernel

