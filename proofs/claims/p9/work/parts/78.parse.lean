/-! a post is read: post p of the class, in its own terms -/
def hereC (p : Nat) (J : It) : Int32 := if J (43 + 5 * p) 11 ≠ 0 then -1 else if J (43 + 5 * p) 10 < 0 then -1 else if J (43 + 5 * p) 9 ≤ J (43 + 5 * p) 10 then -1 else if J (43 + 5 * p) 10 < 100 then J 31 (tN (J (43 + 5 * p) 10)) else -1
def incW (p : Nat) (J : It) : It := upI J (43 + 5 * p) 10 (J (43 + 5 * p) 10 + 1)
def fauW (p : Nat) (J : It) : It := upI J (43 + 5 * p) 11 1
def tkW (p : Nat) (s : Int32) (J : It) : It := if hereC p J = s then incW p J else J
def tiW (p : Nat) (b : Int32) (J : It) : It := if b = 0 then fauW p J else if J (43 + 5 * p) 11 ≠ 0 then fauW p J else incW p J
def ndW (p : Nat) (s : Int32) (J : It) : It := tiW p (bI (hereC p J = s)) J
def kp1 (p : Nat) (t : Int32) (J : It) : It := upI J (47 + 5 * p) (tN (J (43 + 5 * p) 7)) t
def kpW (p : Nat) (t : Int32) (J : It) : It := if J (43 + 5 * p) 11 ≠ 0 then J else if 100 ≤ J (43 + 5 * p) 7 then J else upI (kp1 p t J) (43 + 5 * p) 7 (kp1 p t J (43 + 5 * p) 7 + 1)
def nuV (p : Nat) (J : It) : Int32 := if hereC p J < 48 then 0 else if 57 < hereC p J then 0 else if hereC p (incW p J) < 48 then 0 * 10 + hereC p J - 48 else if 57 < hereC p (incW p J) then 0 * 10 + hereC p J - 48 else (0 * 10 + hereC p J - 48) * 10 + hereC p (incW p J) - 48
def nuW (p : Nat) (J : It) : It := if hereC p J < 48 then fauW p J else if 57 < hereC p J then fauW p J else if hereC p (incW p J) < 48 then incW p J else if 57 < hereC p (incW p J) then incW p J else incW p (incW p J)
abbrev isL (x : Int32) : Prop := x = 105 ∨ x = 107 ∨ x = 114 ∨ x = 118 ∨ x = 99 ∨ x = 121 ∨ x = 119
abbrev isS (x : Int32) : Prop := x = 60 ∨ x = 61 ∨ x = 62
def ts1 (p : Nat) (J : It) : It := tiW p (bI (isL (hereC p J))) J
def ts2 (p : Nat) (J : It) : It := tiW p (bI (isS (hereC p (ts1 p J)))) (ts1 p J)
def tsW (p : Nat) (J : It) : It := kpW p (hereC p J ||| hereC p (ts1 p J) <<< (8 &&& 31) ||| nuV p (ts2 p J) <<< (16 &&& 31)) (nuW p (ts2 p J))
def anR (p : Nat) (W : It → It) : Nat → It → It := fun f => match f with
  | 0 => fun J => J
  | f + 1 => fun J => if hereC p J = 38 then anR p W f (kpW p 38 (W (tkW p 38 J))) else tkW p 38 J
theorem anR_s (p : Nat) (W : It → It) (f : Nat) (J : It) : anR p W (f + 1) J = if hereC p J = 38 then anR p W f (kpW p 38 (W (tkW p 38 J))) else tkW p 38 J := rfl
def eiR (p : Nat) (W : It → It) : Nat → Nat → It → It := fun f => match f with
  | 0 => fun _ J => J
  | f + 1 => fun k J => if k = 0 then eiR p W f 1 (anR p W 100 (W J)) else if hereC p J = 124 then eiR p W f (k + 1) (kpW p 124 (anR p W 100 (W (tkW p 124 J)))) else tkW p 124 J
theorem eiR_s (p : Nat) (W : It → It) (f k : Nat) (J : It) : eiR p W (f + 1) k J = if k = 0 then eiR p W f 1 (anR p W 100 (W J)) else if hereC p J = 124 then eiR p W f (k + 1) (kpW p 124 (anR p W 100 (W (tkW p 124 J)))) else tkW p 124 J := rfl
def eiF (p : Nat) (W : It → It) (J : It) : It := eiR p W 100 0 J
def paF (p : Nat) : Nat → It → It := fun n => match n with
  | 0 => tsW p
  | n + 1 => fun J => if hereC p J = 33 then kpW p 33 (paF p n (tkW p 33 J)) else if hereC p (tkW p 33 J) = 40 then ndW p 41 (eiF p (paF p n) (tkW p 40 (tkW p 33 J))) else tsW p (tkW p 40 (tkW p 33 J))
theorem paF_s (p n : Nat) (J : It) : paF p (n + 1) J = if hereC p J = 33 then kpW p 33 (paF p n (tkW p 33 J)) else if hereC p (tkW p 33 J) = 40 then ndW p 41 (eiF p (paF p n) (tkW p 40 (tkW p 33 J))) else tsW p (tkW p 40 (tkW p 33 J)) := rfl
def wdA (p : Nat) (J : It) : It := ndW p 99 (tkW p 102 (tkW p 115 J))
def wdV (p : Nat) (J : It) : Int32 := if hereC p J = 115 then 115 else if hereC p (tkW p 115 J) = 102 then 102 else if hereC p (wdA p J) = 111 then 99 else 108
def wdW (p : Nat) (J : It) : It := if hereC p J = 115 then ndW p 121 (ndW p 97 (tkW p 115 J)) else if hereC p (tkW p 115 J) = 102 then ndW p 101 (ndW p 100 (ndW p 97 (tkW p 102 (tkW p 115 J)))) else if hereC p (wdA p J) = 111 then ndW p 116 (ndW p 115 (tkW p 111 (wdA p J))) else ndW p 108 (ndW p 108 (ndW p 97 (tkW p 111 (wdA p J))))
def cl1 (p : Nat) (w : Int32) (J : It) : It := upI J (44 + 5 * p) (tN (J (43 + 5 * p) 2)) w
def cl2 (p : Nat) (w n : Int32) (J : It) : It := upI (cl1 p w J) (45 + 5 * p) (tN (J (43 + 5 * p) 2)) n
def cl3 (p : Nat) (w n : Int32) (J : It) : It := upI (cl2 p w n J) (46 + 5 * p) (tN (J (43 + 5 * p) 2)) (cl2 p w n J (43 + 5 * p) 7)
def clW (p : Nat) (w n : Int32) (J : It) : It := if J (43 + 5 * p) 11 ≠ 0 then J else if 10 ≤ J (43 + 5 * p) 2 then J else upI (cl3 p w n J) (43 + 5 * p) 2 (cl3 p w n J (43 + 5 * p) 2 + 1)
theorem cl_P (p : Nat) (w n : Int32) (J : It) : cl1 p w J (43 + 5 * p) = J (43 + 5 * p) ∧ cl2 p w n J (43 + 5 * p) = J (43 + 5 * p) ∧ cl3 p w n J (43 + 5 * p) = J (43 + 5 * p) := by
  have h1 : cl1 p w J (43 + 5 * p) = J (43 + 5 * p) := upI_off (by omega)
  have h2 : cl2 p w n J (43 + 5 * p) = J (43 + 5 * p) := (upI_off (by omega)).trans h1
  exact ⟨h1, h2, (upI_off (by omega)).trans h2⟩
def rc1 (p : Nat) (J : It) : It := nuW p (ndW p 32 (wdW p J))
def rcN_ (p : Nat) (J : It) : Int32 := nuV p (ndW p 32 (wdW p J))
def rc2 (p : Nat) (J : It) : It := if wdV p J = 115 ∨ wdV p J = 99 then eiF p (paF p 4) (ndW p 32 (rc1 p J)) else if wdV p J = 108 then upI (rc1 p J) (43 + 5 * p) 0 (rcN_ p J) else upI (rc1 p J) (43 + 5 * p) 1 (rcN_ p J)
def rcW (p : Nat) (J : It) : It := clW p (wdV p J) (rcN_ p J) (rc2 p J)
def rfR (p : Nat) : Nat → Nat → It → It := fun f => match f with
  | 0 => fun _ J => J
  | f + 1 => fun k J => if k = 0 then rfR p f 1 (rcW p J) else if hereC p J = 59 then rfR p f (k + 1) (rcW p (tkW p 59 J)) else tkW p 59 J
theorem rfR_s (p f k : Nat) (J : It) : rfR p (f + 1) k J = if k = 0 then rfR p f 1 (rcW p J) else if hereC p J = 59 then rfR p f (k + 1) (rcW p (tkW p 59 J)) else tkW p 59 J := rfl
def rf0 (p : Nat) (s : Int32) (J : It) : It := upI (upI (upI (upI (upI (upI (upI J (43 + 5 * p) 9 (if (100 : Int32) < s then 100 else s)) (43 + 5 * p) 10 0) (43 + 5 * p) 11 0) (43 + 5 * p) 2 0) (43 + 5 * p) 7 0) (43 + 5 * p) 0 7) (43 + 5 * p) 1 1
def rfW (p : Nat) (s : Int32) (J : It) : It := rfR p 10 0 (rf0 p s J)
def rfV (p : Nat) (J : It) : Int32 := if J (43 + 5 * p) 11 ≠ 0 then J (43 + 5 * p) 10 else if J (43 + 5 * p) 10 = J (43 + 5 * p) 9 then -1 else J (43 + 5 * p) 10
/-- what stands while post p is read, from world I on -/
def KP (p : Nat) (I J : It) : Prop := (∀ a, (a < 43 + 5 * p ∨ 47 + 5 * p < a) → J a = I a) ∧ (∃ c, c ≤ 100 ∧ J (43 + 5 * p) 7 = nI c) ∧ (∃ c, c ≤ 10 ∧ J (43 + 5 * p) 2 = nI c) ∧ ∀ k, k < 10 → ∃ x, x ≤ 100 ∧ J (46 + 5 * p) k = nI x
theorem KP.u {p : Nat} {I J : It} {j : Nat} {x : Int32} (h : KP p I J) (hj : j ≠ 7 ∧ j ≠ 2) : KP p I (upI J (43 + 5 * p) j x) := by
  refine ⟨fun a ha => (upI_off (by omega)).trans (h.1 a ha), ?_, ?_, fun k hk => ?_⟩
  · rw [upn (by omega)]; exact h.2.1
  · rw [upn (by omega)]; exact h.2.2.1
  · rw [upI_off (by omega)]; exact h.2.2.2 k hk
theorem KP.inc {p : Nat} {I J : It} (h : KP p I J) : KP p I (incW p J) := h.u (by decide)
theorem KP.fau {p : Nat} {I J : It} (h : KP p I J) : KP p I (fauW p J) := h.u (by decide)
theorem KP.tk {p : Nat} {I J : It} {s : Int32} (h : KP p I J) : KP p I (tkW p s J) := by unfold tkW; split; exact h.inc; exact h
theorem KP.ti {p : Nat} {I J : It} {b : Int32} (h : KP p I J) : KP p I (tiW p b J) := by unfold tiW; split; exact h.fau; split; exact h.fau; exact h.inc
theorem KP.nd {p : Nat} {I J : It} {s : Int32} (h : KP p I J) : KP p I (ndW p s J) := h.ti
theorem lt_nI {c b : Nat} (hc : c < 2 ^ 31) (hb : b < 2 ^ 31) (h : nI c < nI b) : c < b := by
  rcases Nat.lt_or_ge c b with z | z
  · exact z
  · exact absurd h (Int32.not_lt.mpr (nI_le z hc))
theorem KP.kp {p : Nat} {I J : It} {t : Int32} (h : KP p I J) : KP p I (kpW p t J) := by
  unfold kpW
  split
  · exact h
  · split
    · exact h
    · next hlt =>
      obtain ⟨c, hc, e⟩ := h.2.1
      have e2 : kp1 p t J (43 + 5 * p) = J (43 + 5 * p) := upI_off (by omega)
      rw [e2, e]
      rw [e] at hlt
      have hc2 := lt_nI (b := 100) (by omega) (by decide) (Int32.not_le.mp hlt)
      refine ⟨fun a ha => by rw [upI_off (by omega)]; exact (upI_off (by omega)).trans (h.1 a ha), ⟨c + 1, by omega, by rw [up0]; exact nI_1 c⟩, ?_, fun k hk => ?_⟩
      · rw [upn (by omega), e2]; exact h.2.2.1
      · rw [upI_off (by omega), show kp1 p t J (46 + 5 * p) = J (46 + 5 * p) from upI_off (by omega)]; exact h.2.2.2 k hk
theorem KP.nu {p : Nat} {I J : It} (h : KP p I J) : KP p I (nuW p J) := by
  unfold nuW
  split; exact h.fau
  split; exact h.fau
  split; exact h.inc
  split; exact h.inc
  exact h.inc.inc
theorem KP.ts {p : Nat} {I J : It} (h : KP p I J) : KP p I (tsW p J) := KP.kp (KP.nu (KP.ti (KP.ti h)))
theorem KP.an {p : Nat} {W : It → It} (hW : ∀ I J, KP p I J → KP p I (W J)) (f : Nat) : ∀ {I J : It}, KP p I J → KP p I (anR p W f J) := by
  induction f with
  | zero => intro I J h; exact h
  | succ f ih =>
    intro I J h
    rw [anR_s]
    split
    · exact ih (hW _ _ h.tk).kp
    · exact h.tk
theorem KP.eiR {p : Nat} {W : It → It} (hW : ∀ I J, KP p I J → KP p I (W J)) (f : Nat) : ∀ {k : Nat} {I J : It}, KP p I J → KP p I (eiR p W f k J) := by
  induction f with
  | zero => intro k I J h; exact h
  | succ f ih =>
    intro k I J h
    rw [eiR_s]
    split
    · exact ih (KP.an hW 100 (hW _ _ h))
    · split
      · exact ih (KP.kp (KP.an hW 100 (hW _ _ h.tk)))
      · exact h.tk
theorem KP.ei {p : Nat} {W : It → It} (hW : ∀ I J, KP p I J → KP p I (W J)) {I J : It} (h : KP p I J) : KP p I (eiF p W J) := KP.eiR hW 100 h
theorem KP.pa {p : Nat} (n : Nat) : ∀ {I J : It}, KP p I J → KP p I (paF p n J) := by
  induction n with
  | zero => intro I J h; exact h.ts
  | succ n ih =>
    intro I J h
    rw [paF_s]
    split
    · exact (ih h.tk).kp
    · split
      · exact (KP.ei (fun I J h => ih h) h.tk.tk).nd
      · exact h.tk.tk.ts
theorem KP.wd {p : Nat} {I J : It} (h : KP p I J) : KP p I (wdW p J) := by
  unfold wdW
  split; exact h.tk.nd.nd
  split; exact h.tk.tk.nd.nd.nd
  split; exact (KP.nd h.tk.tk).tk.nd.nd
  exact (KP.nd h.tk.tk).tk.nd.nd.nd
theorem KP.rcA {p : Nat} {I J : It} (h : KP p I J) : KP p I (rc1 p J) := h.wd.nd.nu
theorem KP.rcB {p : Nat} {I J : It} (h : KP p I J) : KP p I (rc2 p J) := by
  unfold rc2
  split; exact KP.ei (fun I J h => h.pa 4) h.rcA.nd
  split; exact h.rcA.u (by decide)
  exact h.rcA.u (by decide)
theorem KP.cl {p : Nat} {I J : It} {w n : Int32} (h : KP p I J) : KP p I (clW p w n J) := by
  obtain ⟨e1, e2, e3⟩ := cl_P p w n J
  unfold clW
  split
  · exact h
  · split
    · exact h
    · next hlt =>
      obtain ⟨c, hc, e⟩ := h.2.2.1
      obtain ⟨x, hx, e7⟩ := h.2.1
      rw [e3, e]
      rw [e] at hlt
      have hc2 := lt_nI (b := 10) (by omega) (by decide) (Int32.not_le.mp hlt)
      refine ⟨fun a ha => by rw [upI_off (by omega)]; exact (upI_off (by omega)).trans ((upI_off (by omega)).trans ((upI_off (by omega)).trans (h.1 a ha))), ?_, ⟨c + 1, by omega, by rw [up0]; exact nI_1 c⟩, fun k hk => ?_⟩
      · rw [upn (by omega), e3]; exact h.2.1
      · rw [upI_off (by omega)]
        show ∃ x, x ≤ 100 ∧ upI (cl2 p w n J) (46 + 5 * p) (tN (J (43 + 5 * p) 2)) (cl2 p w n J (43 + 5 * p) 7) (46 + 5 * p) k = nI x
        by_cases ek : k = tN (J (43 + 5 * p) 2)
        · rw [ek, up0, e2]; exact ⟨x, hx, e7⟩
        · rw [upn (fun z => ek z.2), show cl2 p w n J (46 + 5 * p) = J (46 + 5 * p) from (upI_off (by omega)).trans (upI_off (by omega))]; exact h.2.2.2 k hk
theorem KP.rc {p : Nat} {I J : It} (h : KP p I J) : KP p I (rcW p J) := h.rcB.cl
theorem KP.rf {p : Nat} (f : Nat) : ∀ {k : Nat} {I J : It}, KP p I J → KP p I (rfR p f k J) := by
  induction f with
  | zero => intro k I J h; exact h
  | succ f ih =>
    intro k I J h
    rw [rfR_s]
    split
    · exact ih h.rc
    · split
      · exact ih h.tk.rc
      · exact h.tk
theorem KP.rfZ {p : Nat} {s : Int32} {I J : It} (h1 : ∀ a, (a < 43 + 5 * p ∨ 47 + 5 * p < a) → J a = I a) (h2 : ∀ k, k < 10 → ∃ x, x ≤ 100 ∧ J (46 + 5 * p) k = nI x) : KP p I (rf0 p s J) := by
  unfold rf0
  refine KP.u (KP.u ⟨fun a ha => ?_, ?_, ?_, fun k hk => ?_⟩ (by decide)) (by decide)
  · rw [upI_off (by omega), upI_off (by omega), upI_off (by omega), upI_off (by omega), upI_off (by omega)]; exact h1 a ha
  · exact ⟨0, by decide, by rw [up0]; rfl⟩
  · exact ⟨0, by decide, by rw [upn (by omega), up0]; rfl⟩
  · rw [upI_off (by omega), upI_off (by omega), upI_off (by omega), upI_off (by omega), upI_off (by omega)]; exact h2 k hk
theorem here_ix {x : Int32} (h0 : ¬ x < 0) (h1 : x < 100) : idx x (tN x) 100 := by
  obtain ⟨j, hj, rfl⟩ := nI_of h0
  exact ⟨by rw [tN_nI hj], by rw [tN_nI hj]; exact lt_nI hj (by decide) h1, by decide⟩
theorem kp_ix {x : Int32} {b : Nat} (hb : b < 2 ^ 31) (h : ∃ c, c ≤ b ∧ x = nI c) (h1 : ¬ nI b ≤ x) : idx x (tN x) b := by
  obtain ⟨c, hc, rfl⟩ := h
  exact ⟨by rw [tN_nI (by omega)], by rw [tN_nI (by omega)]; exact lt_nI (by omega) hb (Int32.not_le.mp h1), hb⟩

set_option maxRecDepth 8000 in
set_option maxHeartbeats 4000000 in
theorem c_X3_here {G : Gt} (hG : Gok G) {I : It} {h : Ht}  (hH : HX h) {p : Nat} (hp : p < 6)  : Con G (1) 0 0 mX3_here [.ref (43 + 5 * p)] I h (rI (hereC p I) I h) := by
  refine con_intro (own := RX3) (lo0 := [some (.ref (43 + 5 * p))]) hG rfl pl_X3 (Nat.le_of_ble_eq_true rfl) rfl (fun X hX => ?_)
  refine g_aload_0 hX (dk DX3_here 0 rfl) ?_
  refine g_getI hX (dk DX3_here 1 rfl) KX3 fX3_41 (by decide) rfl (PL0 hH hp) (PSh hH hp) ?_
  refine g_if_ne (tgt := 37) hX (dk DX3_here 2 rfl) (by decide) (fun hc1 => ?_) (fun hc1 => ?_)
  · refine g_iconst (v := -1) hX (dk DX3_here 17 rfl) (by decide) ?_
    refine g_goto (tgt := 50) hX (dk DX3_here 18 rfl) (by decide) ?_
    refine g_ireturn hX (dk DX3_here 24 rfl) rfl (rfl) (by decide) (by decide) ?_
    exact rI_of (by unfold hereC; (try first | rw [if_pos hc1] | rw [if_neg hc1] | rw [if_neg (not_not_intro hc1)]); first | done | rfl) rfl rfl
  · refine g_aload_0 hX (dk DX3_here 3 rfl) ?_
    refine g_getI hX (dk DX3_here 4 rfl) KX3 fX3_38 (by decide) rfl (PL0 hH hp) (PSh hH hp) ?_
    refine g_if_lt (tgt := 37) hX (dk DX3_here 5 rfl) (by decide) (fun hc2 => ?_) (fun hc2 => ?_)
    · refine g_iconst (v := -1) hX (dk DX3_here 17 rfl) (by decide) ?_
      refine g_goto (tgt := 50) hX (dk DX3_here 18 rfl) (by decide) ?_
      refine g_ireturn hX (dk DX3_here 24 rfl) rfl (rfl) (by decide) (by decide) ?_
      exact rI_of (by unfold hereC; (try first | rw [if_pos hc1] | rw [if_neg hc1] | rw [if_neg (not_not_intro hc1)]); (try first | rw [if_pos hc2] | rw [if_neg hc2] | rw [if_neg (not_not_intro hc2)]); first | done | rfl) rfl rfl
    · refine g_aload_0 hX (dk DX3_here 6 rfl) ?_
      refine g_getI hX (dk DX3_here 7 rfl) KX3 fX3_38 (by decide) rfl (PL0 hH hp) (PSh hH hp) ?_
      refine g_aload_0 hX (dk DX3_here 8 rfl) ?_
      refine g_getI hX (dk DX3_here 9 rfl) KX3 fX3_34 (by decide) rfl (PL0 hH hp) (PSh hH hp) ?_
      refine g_icmp_ge (tgt := 37) hX (dk DX3_here 10 rfl) (by decide) (fun hc3 => ?_) (fun hc3 => ?_)
      · refine g_iconst (v := -1) hX (dk DX3_here 17 rfl) (by decide) ?_
        refine g_goto (tgt := 50) hX (dk DX3_here 18 rfl) (by decide) ?_
        refine g_ireturn hX (dk DX3_here 24 rfl) rfl (rfl) (by decide) (by decide) ?_
        exact rI_of (by unfold hereC; (try first | rw [if_pos hc1] | rw [if_neg hc1] | rw [if_neg (not_not_intro hc1)]); (try first | rw [if_pos hc2] | rw [if_neg hc2] | rw [if_neg (not_not_intro hc2)]); (try first | rw [if_pos hc3] | rw [if_neg hc3] | rw [if_neg (not_not_intro hc3)]); first | done | rfl) rfl rfl
      · refine g_aload_0 hX (dk DX3_here 11 rfl) ?_
        refine g_getI hX (dk DX3_here 12 rfl) KX3 fX3_38 (by decide) rfl (PL0 hH hp) (PSh hH hp) ?_
        refine g_aload_0 hX (dk DX3_here 13 rfl) ?_
        refine g_getRs (r := 31) hX (dk DX3_here 14 rfl) KX3 fX3_24 (by decide) rfl (PL0 hH hp) (PSh hH hp) (PR8 hH hp) ?_
        refine g_alen (v := 100) hX (dk DX3_here 15 rfl) (CLt hH (q := 31) (by decide)) (CS hH 31 (by decide) rfl) (by decide) (i0 := 2) rfl (by decide) ?_
        refine g_icmp_lt (tgt := 41) hX (dk DX3_here 16 rfl) (by decide) (fun hc4 => ?_) (fun hc4 => ?_)
        · refine g_aload_0 hX (dk DX3_here 19 rfl) ?_
          refine g_getRs (r := 31) hX (dk DX3_here 20 rfl) KX3 fX3_24 (by decide) rfl (PL0 hH hp) (PSh hH hp) (PR8 hH hp) ?_
          refine g_aload_0 hX (dk DX3_here 21 rfl) ?_
          refine g_getI hX (dk DX3_here 22 rfl) KX3 fX3_38 (by decide) rfl (PL0 hH hp) (PSh hH hp) ?_
          refine i_baload hX (dk DX3_here 23 rfl) (CLt hH (q := 31) (by decide)) (CS hH 31 (by decide) rfl) (here_ix (by assumption) (by assumption)) ?_
          refine g_ireturn hX (dk DX3_here 24 rfl) rfl (rfl) (by decide) (by decide) ?_
          exact rI_of (by unfold hereC; (try first | rw [if_pos hc1] | rw [if_neg hc1] | rw [if_neg (not_not_intro hc1)]); (try first | rw [if_pos hc2] | rw [if_neg hc2] | rw [if_neg (not_not_intro hc2)]); (try first | rw [if_pos hc3] | rw [if_neg hc3] | rw [if_neg (not_not_intro hc3)]); (try first | rw [if_pos hc4] | rw [if_neg hc4] | rw [if_neg (not_not_intro hc4)]); first | done | rfl) rfl rfl
        · refine g_iconst (v := -1) hX (dk DX3_here 17 rfl) (by decide) ?_
          refine g_goto (tgt := 50) hX (dk DX3_here 18 rfl) (by decide) ?_
          refine g_ireturn hX (dk DX3_here 24 rfl) rfl (rfl) (by decide) (by decide) ?_
          exact rI_of (by unfold hereC; (try first | rw [if_pos hc1] | rw [if_neg hc1] | rw [if_neg (not_not_intro hc1)]); (try first | rw [if_pos hc2] | rw [if_neg hc2] | rw [if_neg (not_not_intro hc2)]); (try first | rw [if_pos hc3] | rw [if_neg hc3] | rw [if_neg (not_not_intro hc3)]); (try first | rw [if_pos hc4] | rw [if_neg hc4] | rw [if_neg (not_not_intro hc4)]); first | done | rfl) rfl rfl

set_option maxRecDepth 8000 in
set_option maxHeartbeats 4000000 in
theorem c_X3_takes {G : Gt} (hG : Gok G) {I : It} {h : Ht}  (hH : HX h) {p : Nat} (hp : p < 6) {s : Int32} : Con G (2) 0 0 mX3_takes [.ref (43 + 5 * p), .int s] I h (rI (bI (hereC p I = s)) (tkW p s I) h) := by
  refine con_intro (own := RX3) (lo0 := [some (.ref (43 + 5 * p)), some (.int s), none]) hG rfl pl_X3 (Nat.le_of_ble_eq_true rfl) rfl (fun X hX => ?_)
  refine g_aload_0 hX (dk DX3_takes 0 rfl) ?_
  refine g_c1I hX sX3_takes_1 (by decide) (Nat.le_of_ble_eq_true rfl) (rc0 rfl (PL0 hH hp) (PSh hH hp)) (by decide) (by decide) (c_X3_here hG hH hp) ?_
  refine g_iload_1 hX (dk DX3_takes 2 rfl) ?_
  refine g_icmp_ne (tgt := 12) hX (dk DX3_takes 3 rfl) (by decide) (fun hc1 => ?_) (fun hc1 => ?_)
  · refine g_iconst (v := 0) hX (dk DX3_takes 6 rfl) (by decide) ?_
    refine g_istore_2 hX (dk DX3_takes 7 rfl) (by decide) rfl ?_
    refine g_iload_2 hX (dk DX3_takes 8 rfl) ?_
    refine g_if_eq (tgt := 28) hX (dk DX3_takes 9 rfl) (by decide) (fun hc2 => ?_) (fun hc2 => absurd (by decide) hc2)
    refine g_iload_2 hX (dk DX3_takes 16 rfl) ?_
    refine g_ireturn hX (dk DX3_takes 17 rfl) rfl (by decide) (by decide) (by decide) ?_
    first
    | exact rI_of (bI_t (by assumption)).symm (by unfold tkW; (try first | rw [if_pos hc1] | rw [if_neg hc1] | rw [if_neg (not_not_intro hc1)]); (try first | rw [if_pos hc2] | rw [if_neg hc2] | rw [if_neg (not_not_intro hc2)]); first | done | rfl) rfl
    | exact rI_of (bI_f (by assumption)).symm (by unfold tkW; (try first | rw [if_pos hc1] | rw [if_neg hc1] | rw [if_neg (not_not_intro hc1)]); (try first | rw [if_pos hc2] | rw [if_neg hc2] | rw [if_neg (not_not_intro hc2)]); first | done | rfl) rfl
  · refine g_iconst (v := 1) hX (dk DX3_takes 4 rfl) (by decide) ?_
    refine g_goto (tgt := 13) hX (dk DX3_takes 5 rfl) (by decide) ?_
    refine g_istore_2 hX (dk DX3_takes 7 rfl) (by decide) rfl ?_
    refine g_iload_2 hX (dk DX3_takes 8 rfl) ?_
    refine g_if_eq (tgt := 28) hX (dk DX3_takes 9 rfl) (by decide) (fun hc3 => absurd hc3 (by decide)) (fun hc3 => ?_)
    refine g_aload_0 hX (dk DX3_takes 10 rfl) ?_
    refine g_dup hX (dk DX3_takes 11 rfl) rfl ?_
    refine g_getI hX (dk DX3_takes 12 rfl) KX3 fX3_38 (by decide) rfl (PL0 hH hp) (PSh hH hp) ?_
    refine g_iconst (v := 1) hX (dk DX3_takes 13 rfl) (by decide) ?_
    refine g_iadd hX (dk DX3_takes 14 rfl) ?_
    refine g_putI hX (dk DX3_takes 15 rfl) KX3 fX3_38 (by decide) rfl (PL0 hH hp) (PSh hH hp) (Or.inl rfl) (rfl) (rfl) ?_
    refine g_iload_2 hX (dk DX3_takes 16 rfl) ?_
    refine g_ireturn hX (dk DX3_takes 17 rfl) rfl (by decide) (by decide) (by decide) ?_
    first
    | exact rI_of (bI_t (by assumption)).symm (by unfold tkW; (try first | rw [if_pos hc1] | rw [if_neg hc1] | rw [if_neg (not_not_intro hc1)]); (try first | rw [if_pos hc3] | rw [if_neg hc3] | rw [if_neg (not_not_intro hc3)]); first | done | rfl) rfl
    | exact rI_of (bI_f (by assumption)).symm (by unfold tkW; (try first | rw [if_pos hc1] | rw [if_neg hc1] | rw [if_neg (not_not_intro hc1)]); (try first | rw [if_pos hc3] | rw [if_neg hc3] | rw [if_neg (not_not_intro hc3)]); first | done | rfl) rfl

set_option maxRecDepth 8000 in
set_option maxHeartbeats 4000000 in
theorem c_X3_takeIf {G : Gt} (hG : Gok G) {I : It} {h : Ht}  (hH : HX h) {p : Nat} (hp : p < 6) {b : Int32} : Con G (1) 0 0 mX3_takeIf [.ref (43 + 5 * p), .int b] I h (rV (tiW p b I) h) := by
  refine con_intro (own := RX3) (lo0 := [some (.ref (43 + 5 * p)), some (.int b)]) hG rfl pl_X3 (Nat.le_of_ble_eq_true rfl) rfl (fun X hX => ?_)
  refine g_iload_1 hX (dk DX3_takeIf 0 rfl) ?_
  refine g_if_eq (tgt := 24) hX (dk DX3_takeIf 1 rfl) (by decide) (fun hc1 => ?_) (fun hc1 => ?_)
  · refine g_aload_0 hX (dk DX3_takeIf 12 rfl) ?_
    refine g_iconst (v := 1) hX (dk DX3_takeIf 13 rfl) (by decide) ?_
    refine g_putI hX (dk DX3_takeIf 14 rfl) KX3 fX3_41 (by decide) rfl (PL0 hH hp) (PSh hH hp) (Or.inl rfl) (by decide) (by decide) ?_
    refine g_return hX (dk DX3_takeIf 15 rfl) rfl (by decide) (by decide) ?_
    exact rV_of (by unfold tiW; (try first | rw [if_pos hc1] | rw [if_neg hc1] | rw [if_neg (not_not_intro hc1)]); first | done | rfl) rfl
  · refine g_aload_0 hX (dk DX3_takeIf 2 rfl) ?_
    refine g_getI hX (dk DX3_takeIf 3 rfl) KX3 fX3_41 (by decide) rfl (PL0 hH hp) (PSh hH hp) ?_
    refine g_if_ne (tgt := 24) hX (dk DX3_takeIf 4 rfl) (by decide) (fun hc2 => ?_) (fun hc2 => ?_)
    · refine g_aload_0 hX (dk DX3_takeIf 12 rfl) ?_
      refine g_iconst (v := 1) hX (dk DX3_takeIf 13 rfl) (by decide) ?_
      refine g_putI hX (dk DX3_takeIf 14 rfl) KX3 fX3_41 (by decide) rfl (PL0 hH hp) (PSh hH hp) (Or.inl rfl) (by decide) (by decide) ?_
      refine g_return hX (dk DX3_takeIf 15 rfl) rfl (by decide) (by decide) ?_
      exact rV_of (by unfold tiW; (try first | rw [if_pos hc1] | rw [if_neg hc1] | rw [if_neg (not_not_intro hc1)]); (try first | rw [if_pos hc2] | rw [if_neg hc2] | rw [if_neg (not_not_intro hc2)]); first | done | rfl) rfl
    · refine g_aload_0 hX (dk DX3_takeIf 5 rfl) ?_
      refine g_dup hX (dk DX3_takeIf 6 rfl) rfl ?_
      refine g_getI hX (dk DX3_takeIf 7 rfl) KX3 fX3_38 (by decide) rfl (PL0 hH hp) (PSh hH hp) ?_
      refine g_iconst (v := 1) hX (dk DX3_takeIf 8 rfl) (by decide) ?_
      refine g_iadd hX (dk DX3_takeIf 9 rfl) ?_
      refine g_putI hX (dk DX3_takeIf 10 rfl) KX3 fX3_38 (by decide) rfl (PL0 hH hp) (PSh hH hp) (Or.inl rfl) (rfl) (rfl) ?_
      refine g_goto (tgt := 29) hX (dk DX3_takeIf 11 rfl) (by decide) ?_
      refine g_return hX (dk DX3_takeIf 15 rfl) rfl (by decide) (by decide) ?_
      exact rV_of (by unfold tiW; (try first | rw [if_pos hc1] | rw [if_neg hc1] | rw [if_neg (not_not_intro hc1)]); (try first | rw [if_pos hc2] | rw [if_neg hc2] | rw [if_neg (not_not_intro hc2)]); first | done | rfl) rfl

set_option maxRecDepth 8000 in
set_option maxHeartbeats 4000000 in
theorem c_X3_needs {G : Gt} (hG : Gok G) {I : It} {h : Ht}  (hH : HX h) {p : Nat} (hp : p < 6) {s : Int32} : Con G (2) 0 0 mX3_needs [.ref (43 + 5 * p), .int s] I h (rV (ndW p s I) h) := by
  refine con_intro (own := RX3) (lo0 := [some (.ref (43 + 5 * p)), some (.int s)]) hG rfl pl_X3 (Nat.le_of_ble_eq_true rfl) rfl (fun X hX => ?_)
  refine g_aload_0 hX (dk DX3_needs 0 rfl) ?_
  refine g_aload_0 hX (dk DX3_needs 1 rfl) ?_
  refine g_c1I hX sX3_needs_2 (by decide) (Nat.le_of_ble_eq_true rfl) (rc0 rfl (PL0 hH hp) (PSh hH hp)) (by decide) (by decide) (c_X3_here hG hH hp) ?_
  refine g_iload_1 hX (dk DX3_needs 3 rfl) ?_
  refine g_icmp_ne (tgt := 13) hX (dk DX3_needs 4 rfl) (by decide) (fun hc1 => ?_) (fun hc1 => ?_)
  · refine g_iconst (v := 0) hX (dk DX3_needs 7 rfl) (by decide) ?_
    refine g_c2V hX sX3_needs_14 (by decide) (Nat.le_of_ble_eq_true rfl) (rc0 rfl (PL0 hH hp) (PSh hH hp)) (by decide) (by decide) (c_X3_takeIf hG hH hp) ?_
    refine g_return hX (dk DX3_needs 9 rfl) rfl (by decide) (by decide) ?_
    first
    | exact rV_of (by unfold ndW; rw [bI_t (by assumption)]) rfl
    | exact rV_of (by unfold ndW; rw [bI_f (by assumption)]) rfl
  · refine g_iconst (v := 1) hX (dk DX3_needs 5 rfl) (by decide) ?_
    refine g_goto (tgt := 14) hX (dk DX3_needs 6 rfl) (by decide) ?_
    refine g_c2V hX sX3_needs_14 (by decide) (Nat.le_of_ble_eq_true rfl) (rc0 rfl (PL0 hH hp) (PSh hH hp)) (by decide) (by decide) (c_X3_takeIf hG hH hp) ?_
    refine g_return hX (dk DX3_needs 9 rfl) rfl (by decide) (by decide) ?_
    first
    | exact rV_of (by unfold ndW; rw [bI_t (by assumption)]) rfl
    | exact rV_of (by unfold ndW; rw [bI_f (by assumption)]) rfl

set_option maxRecDepth 8000 in
set_option maxHeartbeats 4000000 in
theorem c_X3_keep {G : Gt} (hG : Gok G) {I : It} {h : Ht}  (hH : HX h) {p : Nat} (hp : p < 6) {t : Int32} {I0 : It} (hK : KP p I0 I) : Con G (1) 0 0 mX3_keep [.ref (43 + 5 * p), .int t] I h (rV (kpW p t I) h) := by
  refine con_intro (own := RX3) (lo0 := [some (.ref (43 + 5 * p)), some (.int t)]) hG rfl pl_X3 (Nat.le_of_ble_eq_true rfl) rfl (fun X hX => ?_)
  refine g_aload_0 hX (dk DX3_keep 0 rfl) ?_
  refine g_getI hX (dk DX3_keep 1 rfl) KX3 fX3_41 (by decide) rfl (PL0 hH hp) (PSh hH hp) ?_
  refine g_if_ne (tgt := 39) hX (dk DX3_keep 2 rfl) (by decide) (fun hc1 => ?_) (fun hc1 => ?_)
  · refine g_return hX (dk DX3_keep 21 rfl) rfl (by decide) (by decide) ?_
    exact rV_of (by unfold kpW; (try first | rw [if_pos hc1] | rw [if_neg hc1] | rw [if_neg (not_not_intro hc1)]); first | done | rfl) rfl
  · refine g_aload_0 hX (dk DX3_keep 3 rfl) ?_
    refine g_getI hX (dk DX3_keep 4 rfl) KX3 fX3_48 (by decide) rfl (PL0 hH hp) (PSh hH hp) ?_
    refine g_aload_0 hX (dk DX3_keep 5 rfl) ?_
    refine g_getRs (r := (47 + 5 * p)) hX (dk DX3_keep 6 rfl) KX3 fX3_21 (by decide) rfl (PL0 hH hp) (PSh hH hp) (PR6 hH hp) ?_
    refine g_alen (v := 100) hX (dk DX3_keep 7 rfl) (PLt hH (j := 4) hp (by decide)) (PA7 hH hp) (by decide) (i0 := 0) rfl (by decide) ?_
    refine g_icmp_ge (tgt := 39) hX (dk DX3_keep 8 rfl) (by decide) (fun hc2 => ?_) (fun hc2 => ?_)
    · refine g_return hX (dk DX3_keep 21 rfl) rfl (by decide) (by decide) ?_
      exact rV_of (by unfold kpW; (try first | rw [if_pos hc1] | rw [if_neg hc1] | rw [if_neg (not_not_intro hc1)]); (try first | rw [if_pos hc2] | rw [if_neg hc2] | rw [if_neg (not_not_intro hc2)]); first | done | rfl) rfl
    · refine g_aload_0 hX (dk DX3_keep 9 rfl) ?_
      refine g_getRs (r := (47 + 5 * p)) hX (dk DX3_keep 10 rfl) KX3 fX3_21 (by decide) rfl (PL0 hH hp) (PSh hH hp) (PR6 hH hp) ?_
      refine g_aload_0 hX (dk DX3_keep 11 rfl) ?_
      refine g_getI hX (dk DX3_keep 12 rfl) KX3 fX3_48 (by decide) rfl (PL0 hH hp) (PSh hH hp) ?_
      refine g_iload_1 hX (dk DX3_keep 13 rfl) ?_
      refine i_iastore hX (dk DX3_keep 14 rfl) (PLt hH (j := 4) hp (by decide)) (PA7 hH hp) (kp_ix (b := 100) (by decide) hK.2.1 (by assumption)) ?_
      refine g_aload_0 hX (dk DX3_keep 15 rfl) ?_
      refine g_dup hX (dk DX3_keep 16 rfl) rfl ?_
      refine g_getI hX (dk DX3_keep 17 rfl) KX3 fX3_48 (by decide) rfl (PL0 hH hp) (PSh hH hp) ?_
      refine g_iconst (v := 1) hX (dk DX3_keep 18 rfl) (by decide) ?_
      refine g_iadd hX (dk DX3_keep 19 rfl) ?_
      refine g_putI hX (dk DX3_keep 20 rfl) KX3 fX3_48 (by decide) rfl (PL0 hH hp) (PSh hH hp) (Or.inl rfl) (rfl) (rfl) ?_
      refine g_return hX (dk DX3_keep 21 rfl) rfl (by decide) (by decide) ?_
      exact rV_of (by unfold kpW; (try first | rw [if_pos hc1] | rw [if_neg hc1] | rw [if_neg (not_not_intro hc1)]); (try first | rw [if_pos hc2] | rw [if_neg hc2] | rw [if_neg (not_not_intro hc2)]); first | done | rfl) rfl

