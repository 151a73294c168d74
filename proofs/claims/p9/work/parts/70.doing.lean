/-! DOINGS of any of the seven classes -/
section DG
variable {G : Gt} {d mc ms : Nat} {own : String} {y : Mt} {X : Xt} {P : Pt3} {pc nx : Nat} {lo : List (Option Value)} {st : List Value} {I : It} {h : Ht} {k n : Nat}
theorem g_getD (hX : Xok G own y X) {idx j q : Nat} {v : Int32} (hd : dc y.2.1 pc (.getfield idx) 3 nx) (hl : Fln own RX1 TX1 idx j) (hj : j < 6) (hq : q < hn h) (hdc : isDC (hs h q).1) (hv : I q j = v) (kk : GG G d mc ms X P nx lo (.int v :: st) I h k n) : GG G d mc ms X P pc lo (.ref q :: st) I h k n := by
  subst hv
  rcases hdc with e | e | e | e | e | e | e
  · rcases (by omega : j = 0 ∨ j = 1 ∨ j = 2 ∨ j = 3 ∨ j = 4 ∨ j = 5) with rfl | rfl | rfl | rfl | rfl | rfl <;> exact g_getI hX hd KX1 hl hj rfl hq e kk
  · rcases (by omega : j = 0 ∨ j = 1 ∨ j = 2 ∨ j = 3 ∨ j = 4 ∨ j = 5) with rfl | rfl | rfl | rfl | rfl | rfl <;> exact g_getI (ref := RX1) hX hd KX2 hl hj rfl hq e kk
  · rcases (by omega : j = 0 ∨ j = 1 ∨ j = 2 ∨ j = 3 ∨ j = 4 ∨ j = 5) with rfl | rfl | rfl | rfl | rfl | rfl <;> exact g_getI (ref := RX1) hX hd KX4 hl hj rfl hq e kk
  · rcases (by omega : j = 0 ∨ j = 1 ∨ j = 2 ∨ j = 3 ∨ j = 4 ∨ j = 5) with rfl | rfl | rfl | rfl | rfl | rfl <;> exact g_getI (ref := RX1) hX hd KX6 hl hj rfl hq e kk
  · rcases (by omega : j = 0 ∨ j = 1 ∨ j = 2 ∨ j = 3 ∨ j = 4 ∨ j = 5) with rfl | rfl | rfl | rfl | rfl | rfl <;> exact g_getI (ref := RX1) hX hd KX8 hl hj rfl hq e kk
  · rcases (by omega : j = 0 ∨ j = 1 ∨ j = 2 ∨ j = 3 ∨ j = 4 ∨ j = 5) with rfl | rfl | rfl | rfl | rfl | rfl <;> exact g_getI (ref := RX1) hX hd KX9 hl hj rfl hq e kk
  · rcases (by omega : j = 0 ∨ j = 1 ∨ j = 2 ∨ j = 3 ∨ j = 4 ∨ j = 5) with rfl | rfl | rfl | rfl | rfl | rfl <;> exact g_getI (ref := RX1) hX hd KX10 hl hj rfl hq e kk
end DG
def knd (c : Nat) : Int32 := if c = 9 then 1 else if c = 2 then 2 else if c = 4 then 3 else if c = 8 then 4 else if c = 6 then 5 else if c = 10 then 6 else 0
/-- said over all ways: an hour's by is by, hours are hr -/
def svA (by_ hr : Nat → Int32) : Nat → Nat → Int32 → Int32 := fun k => match k with
  | 0 => fun _ z => z
  | k + 1 => fun y z => svA by_ hr k (y + 1) (z + hr y * by_ y)
theorem svA_s (by_ hr : Nat → Int32) (k y : Nat) (z : Int32) : svA by_ hr (k + 1) y z = svA by_ hr k (y + 1) (z + hr y * by_ y) := rfl
def svC (c : Nat) (v : Int32) (by_ hr : Nat → Int32) : Int32 :=
  if c = 9 then svA by_ hr 4 0 0 + v * hr 0 else if c = 8 then svA by_ hr 4 0 0 + v * hr 0 + (if 0 < hr 2 then v else 0) else if c = 2 then hr 2 * by_ 2 + hr 3 * by_ 3 else if c = 6 then hr 2 * by_ 2 + hr 3 * by_ 3 + 2 * v * hr 1
  else if c = 4 then (if hr 3 = 0 then 0 else svA by_ hr 4 0 0) else if c = 10 then (if hr 3 = 0 then 0 else svA by_ hr 4 0 0) - v else svA by_ hr 4 0 0
theorem svC_1 (v : Int32) (a b : Nat → Int32) : svC 1 v a b = svA a b 4 0 0 := rfl
theorem svC_9 (v : Int32) (a b : Nat → Int32) : svC 9 v a b = svA a b 4 0 0 + v * b 0 := rfl
theorem svC_8 (v : Int32) (a b : Nat → Int32) : svC 8 v a b = svA a b 4 0 0 + v * b 0 + (if 0 < b 2 then v else 0) := rfl
theorem svC_2 (v : Int32) (a b : Nat → Int32) : svC 2 v a b = b 2 * a 2 + b 3 * a 3 := rfl
theorem svC_6 (v : Int32) (a b : Nat → Int32) : svC 6 v a b = b 2 * a 2 + b 3 * a 3 + 2 * v * b 1 := rfl
theorem svC_4 (v : Int32) (a b : Nat → Int32) : svC 4 v a b = if b 3 = 0 then 0 else svA a b 4 0 0 := rfl
theorem svC_10 (v : Int32) (a b : Nat → Int32) : svC 10 v a b = (if b 3 = 0 then 0 else svA a b 4 0 0) - v := rfl
def kbC (c : Nat) : Int32 := if c = 10 then 0 else 1
def kbS (c : Nat) (v : Int32) : Int32 := if c = 2 ∨ c = 6 then bI (4 < v) else if c = 4 ∨ c = 10 then bI (v = 0) else 0
/-! acts -/
def tb1 (J : It) (b : Int32) : It := upI (if J 32 1 < 20 then upI J 33 (tN (J 32 1)) b else J) 32 1 (J 32 1 + 1)
def tbL (J : It) : List Int32 → It := fun l => match l with
  | [] => J
  | b :: r => tbL (tb1 J b) r
theorem tbL_app (J : It) (l m : List Int32) : tbL (tbL J l) m = tbL J (l ++ m) := by
  induction l generalizing J with
  | nil => rfl
  | cons b r ih => exact ih (tb1 J b)
theorem tbL_c (J : It) (b : Int32) (r : List Int32) : tbL J (b :: r) = tbL (tb1 J b) r := rfl
theorem tbL_1 (J : It) (b : Int32) : tbL J [b] = tb1 J b := rfl
theorem tbL_2 (J : It) (a b : Int32) : tbL J [a, b] = tb1 (tb1 J a) b := rfl
theorem tb1_ran (J : It) (b : Int32) {r : Nat} (h : J 32 1 = nI r) : tb1 J b 32 1 = nI (r + 1) := by
  unfold tb1
  rw [up0, h, nI_1]
theorem tb1_off (J : It) (b : Int32) {a : Nat} (h1 : a ≠ 32) (h2 : a ≠ 33) : tb1 J b a = J a := by
  unfold tb1
  rw [upI_off h1]
  split
  · rw [upI_off h2]
  · rfl
theorem tbL_ran : ∀ (l : List Int32) (J : It) {r : Nat}, J 32 1 = nI r → tbL J l 32 1 = nI (r + l.length) := by
  intro l
  induction l with
  | nil => intro J r h; exact h
  | cons b t ih =>
    intro J r h
    have := ih (tb1 J b) (tb1_ran J b h)
    rw [show r + (b :: t).length = r + 1 + t.length by simp only [List.length_cons]; omega]
    exact this
theorem tbL_off : ∀ (l : List Int32) (J : It) {a : Nat}, a ≠ 32 → a ≠ 33 → tbL J l a = J a := by
  intro l
  induction l with
  | nil => intro J a _ _; rfl
  | cons b t ih => intro J a h1 h2; exact (ih (tb1 J b) h1 h2).trans (tb1_off J b h1 h2)
def dsV (c : Nat) (i v x : Int32) : Int32 := if c = 2 ∨ c = 6 then x * 3 + i else if c = 8 then -(x + i) else if c = 10 then (x + i) ^^^ v else x + i
def dsB (c : Nat) : List Int32 := if c = 2 ∨ c = 6 then [30, 10] else if c = 8 then [50, 10] else if c = 10 then [71, 10] else [10]
def dkV (c : Nat) (i v x : Int32) : Int32 := dsV c i v x - v
def dhV (c : Nat) (i v x : Int32) : Int32 := if c = 9 then dkV c i v x ^^^ 6 else if c = 8 then dkV c i v (x + 1) ^^^ 6 else if c = 10 then dkV c i v x + (2 + i) else dkV c i v x
def dhB (c : Nat) : List Int32 := if c = 9 then 20 :: 11 :: dsB c else if c = 8 then 51 :: 20 :: 11 :: dsB c else if c = 10 then 70 :: ((11 :: dsB c) ++ [10]) else 11 :: dsB c
def dtV (c : Nat) (i v x : Int32) : Int32 := dhV c i v x * 2
def dtlV (c : Nat) (i v x : Int32) : Int32 := if c = 4 ∨ c = 10 then dtV c i v x + dhV c i v 1 else if c = 6 then dtV c i v (x - i) else dtV c i v x
def dtlB (c : Nat) : List Int32 := if c = 4 ∨ c = 10 then 40 :: ((12 :: dhB c) ++ dhB c) else if c = 6 then 60 :: 12 :: dhB c else 12 :: dhB c
theorem dsB_len (c : Nat) : (dsB c).length ≤ 2 := by unfold dsB; split <;> (try split) <;> (try split) <;> simp
theorem dhB_len (c : Nat) : (dhB c).length ≤ 5 := by have := dsB_len c; unfold dhB; split <;> (try split) <;> (try split) <;> (try simp only [List.length_cons, List.length_append, List.length_nil]) <;> omega
theorem dtlB_len (c : Nat) : (dtlB c).length ≤ 12 := by have := dhB_len c; unfold dtlB; split <;> (try split) <;> (try simp only [List.length_cons, List.length_append, List.length_nil]) <;> omega

def vm_saidOver : Nat → Mt := fun c => if c = 2 then mX2_saidOver else if c = 4 then mX4_saidOver else if c = 6 then mX6_saidOver else if c = 8 then mX8_saidOver else if c = 9 then mX9_saidOver else if c = 10 then mX10_saidOver else mX1_saidOver
def vm_isKnownByCall : Nat → Mt := fun c => if c = 2 then mX1_isKnownByCall else if c = 4 then mX1_isKnownByCall else if c = 6 then mX1_isKnownByCall else if c = 8 then mX1_isKnownByCall else if c = 9 then mX1_isKnownByCall else if c = 10 then mX10_isKnownByCall else mX1_isKnownByCall
def vm_isKnownByStop : Nat → Mt := fun c => if c = 2 then mX2_isKnownByStop else if c = 4 then mX4_isKnownByStop else if c = 6 then mX2_isKnownByStop else if c = 8 then mX1_isKnownByStop else if c = 9 then mX1_isKnownByStop else if c = 10 then mX4_isKnownByStop else mX1_isKnownByStop
def vm_says : Nat → Mt := fun c => if c = 2 then mX2_says else if c = 4 then mX1_says else if c = 6 then mX2_says else if c = 8 then mX8_says else if c = 9 then mX1_says else if c = 10 then mX10_says else mX1_says
def vm_holds : Nat → Mt := fun c => if c = 2 then mX1_holds else if c = 4 then mX1_holds else if c = 6 then mX1_holds else if c = 8 then mX8_holds else if c = 9 then mX9_holds else if c = 10 then mX10_holds else mX1_holds
def vm_kind : Nat → Mt := fun c => if c = 2 then mX2_kind else if c = 4 then mX4_kind else if c = 6 then mX6_kind else if c = 8 then mX8_kind else if c = 9 then mX9_kind else if c = 10 then mX10_kind else mX1_kind
def vm_weeksUntil : Nat → Mt := fun c => if c = 2 then mX1_weeksUntil else if c = 4 then mX1_weeksUntil else if c = 6 then mX1_weeksUntil else if c = 8 then mX1_weeksUntil else if c = 9 then mX1_weeksUntil else if c = 10 then mX1_weeksUntil else mX1_weeksUntil
def vm_tells : Nat → Mt := fun c => if c = 2 then mX1_tells else if c = 4 then mX4_tells else if c = 6 then mX6_tells else if c = 8 then mX1_tells else if c = 9 then mX1_tells else if c = 10 then mX4_tells else mX1_tells
theorem sD_X0_saidOf_22 : ∀ c, isDC c → Site RX0 mX0_saidOf 22 25 (vm_saidOver c) (some c) 3 := by
  rintro c (rfl | rfl | rfl | rfl | rfl | rfl | rfl)
  · exact sX0_saidOf_22_c1
  · exact sX0_saidOf_22_c2
  · exact sX0_saidOf_22_c4
  · exact sX0_saidOf_22_c6
  · exact sX0_saidOf_22_c8
  · exact sX0_saidOf_22_c9
  · exact sX0_saidOf_22_c10
theorem sD_X0_goingOver_39 : ∀ c, isDC c → Site RX0 mX0_goingOver 39 42 (vm_saidOver c) (some c) 3 := by
  rintro c (rfl | rfl | rfl | rfl | rfl | rfl | rfl)
  · exact sX0_goingOver_39_c1
  · exact sX0_goingOver_39_c2
  · exact sX0_goingOver_39_c4
  · exact sX0_goingOver_39_c6
  · exact sX0_goingOver_39_c8
  · exact sX0_goingOver_39_c9
  · exact sX0_goingOver_39_c10
theorem sD_X0_stop_119 : ∀ c, isDC c → Site RX0 mX0_stop 119 122 (vm_isKnownByCall c) (some c) 1 := by
  rintro c (rfl | rfl | rfl | rfl | rfl | rfl | rfl)
  · exact sX0_stop_119_c1
  · exact sX0_stop_119_c2
  · exact sX0_stop_119_c4
  · exact sX0_stop_119_c6
  · exact sX0_stop_119_c8
  · exact sX0_stop_119_c9
  · exact sX0_stop_119_c10
theorem sD_X0_stop_129 : ∀ c, isDC c → Site RX0 mX0_stop 129 132 (vm_isKnownByStop c) (some c) 1 := by
  rintro c (rfl | rfl | rfl | rfl | rfl | rfl | rfl)
  · exact sX0_stop_129_c1
  · exact sX0_stop_129_c2
  · exact sX0_stop_129_c4
  · exact sX0_stop_129_c6
  · exact sX0_stop_129_c8
  · exact sX0_stop_129_c9
  · exact sX0_stop_129_c10
theorem sD_X1_holds_9 : ∀ c, isDC c → Site RX1 mX1_holds 9 12 (vm_says c) (some c) 3 := by
  rintro c (rfl | rfl | rfl | rfl | rfl | rfl | rfl)
  · exact sX1_holds_9_c1
  · exact sX1_holds_9_c2
  · exact sX1_holds_9_c4
  · exact sX1_holds_9_c6
  · exact sX1_holds_9_c8
  · exact sX1_holds_9_c9
  · exact sX1_holds_9_c10
theorem sD_X1_tells_9 : ∀ c, isDC c → Site RX1 mX1_tells 9 12 (vm_holds c) (some c) 3 := by
  rintro c (rfl | rfl | rfl | rfl | rfl | rfl | rfl)
  · exact sX1_tells_9_c1
  · exact sX1_tells_9_c2
  · exact sX1_tells_9_c4
  · exact sX1_tells_9_c6
  · exact sX1_tells_9_c8
  · exact sX1_tells_9_c9
  · exact sX1_tells_9_c10
theorem sD_X3_passes_78 : ∀ c, isDC c → Site RX3 mX3_passes 78 81 (vm_kind c) (some c) 1 := by
  rintro c (rfl | rfl | rfl | rfl | rfl | rfl | rfl)
  · exact sX3_passes_78_c1
  · exact sX3_passes_78_c2
  · exact sX3_passes_78_c4
  · exact sX3_passes_78_c6
  · exact sX3_passes_78_c8
  · exact sX3_passes_78_c9
  · exact sX3_passes_78_c10
theorem sD_X5_coming_27 : ∀ c, isDC c → Site RX5 mX5_coming 27 30 (vm_weeksUntil c) (some c) 2 := by
  rintro c (rfl | rfl | rfl | rfl | rfl | rfl | rfl)
  · exact sX5_coming_27_c1
  · exact sX5_coming_27_c2
  · exact sX5_coming_27_c4
  · exact sX5_coming_27_c6
  · exact sX5_coming_27_c8
  · exact sX5_coming_27_c9
  · exact sX5_coming_27_c10
theorem sD_X5_longestWait_40 : ∀ c, isDC c → Site RX5 mX5_longestWait 40 43 (vm_weeksUntil c) (some c) 2 := by
  rintro c (rfl | rfl | rfl | rfl | rfl | rfl | rfl)
  · exact sX5_longestWait_40_c1
  · exact sX5_longestWait_40_c2
  · exact sX5_longestWait_40_c4
  · exact sX5_longestWait_40_c6
  · exact sX5_longestWait_40_c8
  · exact sX5_longestWait_40_c9
  · exact sX5_longestWait_40_c10
theorem sD_X11_of_81 : ∀ c, isDC c → Site RX11 mX11_of 81 84 (vm_kind c) (some c) 1 := by
  rintro c (rfl | rfl | rfl | rfl | rfl | rfl | rfl)
  · exact sX11_of_81_c1
  · exact sX11_of_81_c2
  · exact sX11_of_81_c4
  · exact sX11_of_81_c6
  · exact sX11_of_81_c8
  · exact sX11_of_81_c9
  · exact sX11_of_81_c10
theorem sD_X11_when_32 : ∀ c, isDC c → Site RX11 mX11_when 32 35 (vm_weeksUntil c) (some c) 2 := by
  rintro c (rfl | rfl | rfl | rfl | rfl | rfl | rfl)
  · exact sX11_when_32_c1
  · exact sX11_when_32_c2
  · exact sX11_when_32_c4
  · exact sX11_when_32_c6
  · exact sX11_when_32_c8
  · exact sX11_when_32_c9
  · exact sX11_when_32_c10
theorem sD_X11_chance_83 : ∀ c, isDC c → Site RX11 mX11_chance 83 86 (vm_weeksUntil c) (some c) 2 := by
  rintro c (rfl | rfl | rfl | rfl | rfl | rfl | rfl)
  · exact sX11_chance_83_c1
  · exact sX11_chance_83_c2
  · exact sX11_chance_83_c4
  · exact sX11_chance_83_c6
  · exact sX11_chance_83_c8
  · exact sX11_chance_83_c9
  · exact sX11_chance_83_c10
theorem sD_X11_act_59 : ∀ c, isDC c → Site RX11 mX11_act 59 62 (vm_says c) (some c) 3 := by
  rintro c (rfl | rfl | rfl | rfl | rfl | rfl | rfl)
  · exact sX11_act_59_c1
  · exact sX11_act_59_c2
  · exact sX11_act_59_c4
  · exact sX11_act_59_c6
  · exact sX11_act_59_c8
  · exact sX11_act_59_c9
  · exact sX11_act_59_c10
theorem sD_X11_act_70 : ∀ c, isDC c → Site RX11 mX11_act 70 73 (vm_holds c) (some c) 3 := by
  rintro c (rfl | rfl | rfl | rfl | rfl | rfl | rfl)
  · exact sX11_act_70_c1
  · exact sX11_act_70_c2
  · exact sX11_act_70_c4
  · exact sX11_act_70_c6
  · exact sX11_act_70_c8
  · exact sX11_act_70_c9
  · exact sX11_act_70_c10
theorem sD_X11_act_81 : ∀ c, isDC c → Site RX11 mX11_act 81 84 (vm_tells c) (some c) 3 := by
  rintro c (rfl | rfl | rfl | rfl | rfl | rfl | rfl)
  · exact sX11_act_81_c1
  · exact sX11_act_81_c2
  · exact sX11_act_81_c4
  · exact sX11_act_81_c6
  · exact sX11_act_81_c8
  · exact sX11_act_81_c9
  · exact sX11_act_81_c10
theorem sD_X11_taken_38 : ∀ c, isDC c → Site RX11 mX11_taken 38 41 (vm_kind c) (some c) 1 := by
  rintro c (rfl | rfl | rfl | rfl | rfl | rfl | rfl)
  · exact sX11_taken_38_c1
  · exact sX11_taken_38_c2
  · exact sX11_taken_38_c4
  · exact sX11_taken_38_c6
  · exact sX11_taken_38_c8
  · exact sX11_taken_38_c9
  · exact sX11_taken_38_c10
