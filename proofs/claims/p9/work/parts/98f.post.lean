/-! clauses and the text, as they lie in memory -/
theorem twA_le {X : Nat → Int32} {n f : Nat} : ∀ (m i a : Nat), f + i + m ≤ 15 → a ≤ n → a ≤ (twA X n f m i a).2 ∧ (twA X n f m i a).2 ≤ n := by
  intro m
  induction m with
  | zero =>
    intro i a _ ha
    show a ≤ tkA X n a 32 ∧ tkA X n a 32 ≤ n
    unfold tkA
    split
    · next h => have := nxA_no (by decide) h; omega
    · omega
  | succ m ih =>
    intro i a h ha
    rw [twA_s]
    split
    · next e =>
      have := nxA_no (let_no (f + i) (by omega)) e
      have := ih (i + 1) (a + 1) (by omega) (by omega)
      omega
    · exact ⟨Nat.le_refl _, ha⟩
theorem hdA_le {X : Nat → Int32} {n a : Nat} (ha : a ≤ n) : a ≤ (hdA X n a).2.1 ∧ (hdA X n a).2.1 ≤ n := by
  unfold hdA
  split
  · split
    · exact twA_le 4 0 a (by decide) ha
    · exact twA_le 4 0 a (by decide) ha
  · split
    · exact twA_le 3 0 a (by decide) ha
    · exact twA_le 4 0 a (by decide) ha
section CL
variable {X : Nat → Int32} {n a : Nat}
theorem cl_h (h : ¬ (hdA X n a).1 = true) : clA X n a = (false, (hdA X n a).2.1, 0, 0, []) := by
  unfold clA
  rw [if_pos (Bool.not_eq_true _ ▸ h)]
theorem cl_n (h : (hdA X n a).1 = true) (h2 : ¬ dgA X n (hdA X n a).2.1) : clA X n a = (false, (hdA X n a).2.1, 0, 0, []) := by
  unfold clA
  rw [if_neg (by rw [h]; decide), if_pos h2]
theorem cl_w (h : (hdA X n a).1 = true) (h2 : dgA X n (hdA X n a).2.1) (h3 : 1 < (hdA X n a).2.2) : clA X n a = (true, nuA X n (hdA X n a).2.1, (hdA X n a).2.2, nvA X n (hdA X n a).2.1, []) := by
  unfold clA
  rw [if_neg (by rw [h]; decide), if_neg (not_not_intro h2), if_pos h3]
theorem cl_s (h : (hdA X n a).1 = true) (h2 : dgA X n (hdA X n a).2.1) (h3 : ¬ 1 < (hdA X n a).2.2) (h4 : ¬ nxA X n (nuA X n (hdA X n a).2.1) = 32) : clA X n a = (false, nuA X n (hdA X n a).2.1, 0, 0, []) := by
  unfold clA
  rw [if_neg (by rw [h]; decide), if_neg (not_not_intro h2), if_neg h3, if_neg h4]
theorem cl_E (h : (hdA X n a).1 = true) (h2 : dgA X n (hdA X n a).2.1) (h3 : ¬ 1 < (hdA X n a).2.2) (h4 : nxA X n (nuA X n (hdA X n a).2.1) = 32) : clA X n a = ((amR X n 101 true (nuA X n (hdA X n a).2.1 + 1) [] []).1, (amR X n 101 true (nuA X n (hdA X n a).2.1 + 1) [] []).2.1, (hdA X n a).2.2, nvA X n (hdA X n a).2.1, (amR X n 101 true (nuA X n (hdA X n a).2.1 + 1) [] []).2.2) := by
  unfold clA
  rw [if_neg (by rw [h]; decide), if_neg (not_not_intro h2), if_neg h3, if_pos h4]
end CL
theorem FC.rf {p c fr : Nat} {I : It} : FC p c fr I I := ⟨fun _ _ => rfl, fun _ _ => rfl, fun _ _ => ⟨rfl, rfl, rfl, rfl⟩, fun _ _ => rfl⟩
theorem FC.f {p c fr : Nat} {I J : It} {j : Nat} {x : Int32} (h : FC p c fr I J) (hj : j ∈ [18, 19, 28, 29, 30]) : FC p c fr I (upI J 0 j x) :=
  ⟨fun b hb => (upn (fun z => hb (by rw [z.2]; exact hj))).trans (h.1 b hb), fun a ha => (upI_off (by rintro rfl; revert ha; decide)).trans (h.2.1 a ha), h.2.2.1, h.2.2.2⟩
theorem FC.w11 {p c fr : Nat} {I J : It} {x : Int32} (h : FC p c fr I J) : FC p c fr I (upI J 11 c x) :=
  ⟨h.1, fun a ha => (upI_off (by rintro rfl; revert ha; decide)).trans (h.2.1 a ha), fun b hb => ⟨(upn (fun z => hb z.2)).trans (h.2.2.1 b hb).1, (h.2.2.1 b hb).2⟩, h.2.2.2⟩
theorem FC.w12 {p c fr : Nat} {I J : It} {x : Int32} (h : FC p c fr I J) : FC p c fr I (upI J 12 c x) :=
  ⟨h.1, fun a ha => (upI_off (by rintro rfl; revert ha; decide)).trans (h.2.1 a ha), fun b hb => ⟨(h.2.2.1 b hb).1, (upn (fun z => hb z.2)).trans (h.2.2.1 b hb).2.1, (h.2.2.1 b hb).2.2⟩, h.2.2.2⟩
theorem FC.tr {p c fr : Nat} {I J K : It} (h : FC p c fr I J) (h2 : FC p c fr J K) : FC p c fr I K :=
  ⟨fun j hj => (h2.1 j hj).trans (h.1 j hj), fun a ha => (h2.2.1 a ha).trans (h.2.1 a ha), fun b hb => ⟨(h2.2.2.1 b hb).1.trans (h.2.2.1 b hb).1, (h2.2.2.1 b hb).2.1.trans (h.2.2.1 b hb).2.1, (h2.2.2.1 b hb).2.2.1.trans (h.2.2.1 b hb).2.2.1, (h2.2.2.1 b hb).2.2.2.trans (h.2.2.1 b hb).2.2.2⟩, fun b hb => (h2.2.2.2 b hb).trans (h.2.2.2 b hb)⟩
def CLr (J : It) (c fr : Nat) (k : Cl) : Prop := J 11 c = k.1 ∧ J 12 c = k.2.1 ∧ (¬ 1 < k.1 → J 13 c = nI fr ∧ J 14 c = nI (fr + k.2.2.length) ∧ CD fr J k.2.2)
def tot : List Cl → Nat := fun l => match l with
  | [] => 0
  | x :: r => x.2.2.length + tot r
theorem tot_c (x : Cl) (r : List Cl) : tot (x :: r) = x.2.2.length + tot r := rfl
theorem tot_app (l : List Cl) (x : Cl) : tot (l ++ [x]) = tot l + x.2.2.length := by
  induction l with
  | nil => show x.2.2.length + 0 = 0 + x.2.2.length; omega
  | cons y r ih => rw [List.cons_append, tot_c, tot_c, ih]; omega
def STc (J : It) (p : Nat) : List Cl → Nat → Nat → Prop := fun l => match l with
  | [] => fun _ _ => True
  | x :: r => fun k fr => CLr J (10 * p + k) fr x ∧ STc J p r (k + 1) (fr + x.2.2.length)
theorem STc_app {J : It} {p : Nat} {x : Cl} : ∀ {l : List Cl} {k fr : Nat}, STc J p l k fr → CLr J (10 * p + (k + l.length)) (fr + tot l) x → STc J p (l ++ [x]) k fr := by
  intro l
  induction l with
  | nil => intro k fr _ h; exact ⟨h, trivial⟩
  | cons y r ih =>
    intro k fr h hx
    refine ⟨h.1, ih h.2 ?_⟩
    rw [tot_c, List.length_cons] at hx
    rw [show 10 * p + (k + 1 + r.length) = 10 * p + (k + (r.length + 1)) by omega, show fr + y.2.2.length + tot r = fr + (y.2.2.length + tot r) by omega]
    exact hx
theorem STc_mv {J K : It} {p : Nat} : ∀ {l : List Cl} {k fr : Nat}, STc J p l k fr → (∀ c, 10 * p + k ≤ c → c < 10 * p + k + l.length → K 11 c = J 11 c ∧ K 12 c = J 12 c ∧ K 13 c = J 13 c ∧ K 14 c = J 14 c) → (∀ j, fr ≤ j → j < fr + tot l → K 15 j = J 15 j) → STc K p l k fr := by
  intro l
  induction l with
  | nil => intro k fr _ _ _; trivial
  | cons y r ih =>
    intro k fr h h1 h2
    rw [List.length_cons] at h1
    rw [tot_c] at h2
    obtain ⟨e1, e2, e3, e4⟩ := h1 (10 * p + k) (by omega) (by omega)
    refine ⟨⟨e1.trans h.1.1, e2.trans h.1.2.1, fun w => ?_⟩, ih h.2 (fun c a1 a2 => h1 c (by omega) (by omega)) (fun j a1 a2 => h2 j (by omega) (by omega))⟩
    obtain ⟨g1, g2, g3⟩ := h.1.2.2 w
    exact ⟨e3.trans g1, e4.trans g2, fun i hi => (h2 _ (by omega) (by omega)).trans (g3 i hi)⟩
/-- what a whole text may have written: row p -/
def FG (p : Nat) (I J : It) : Prop := (∀ j, j ∉ [18, 19, 28, 29, 30] → J 0 j = I 0 j) ∧ (∀ a, a ∉ [0, 10, 11, 12, 13, 14, 15, 16] → J a = I a) ∧ (∀ j, j ≠ p → J 10 j = I 10 j) ∧ (∀ j, (j < 10 * p ∨ 10 * p + 10 ≤ j) → J 11 j = I 11 j ∧ J 12 j = I 12 j ∧ J 13 j = I 13 j ∧ J 14 j = I 14 j) ∧ ∀ j, (j < 100 * p ∨ 100 * p + 100 ≤ j) → J 15 j = I 15 j
theorem FG.f {p : Nat} {I J : It} {j : Nat} {x : Int32} (h : FG p I J) (hj : j ∈ [18, 19, 28, 29, 30]) : FG p I (upI J 0 j x) :=
  ⟨fun b hb => (upn (fun z => hb (by rw [z.2]; exact hj))).trans (h.1 b hb), fun a ha => (upI_off (by rintro rfl; revert ha; decide)).trans (h.2.1 a ha), h.2.2.1, h.2.2.2.1, h.2.2.2.2⟩
theorem FG.rf {p : Nat} {I : It} : FG p I I := ⟨fun _ _ => rfl, fun _ _ => rfl, fun _ _ => rfl, fun _ _ => ⟨rfl, rfl, rfl, rfl⟩, fun _ _ => rfl⟩
theorem FG.w10 {p : Nat} {I J : It} {x : Int32} (h : FG p I J) : FG p I (upI J 10 p x) :=
  ⟨h.1, fun a ha => (upI_off (by rintro rfl; revert ha; decide)).trans (h.2.1 a ha), fun b hb => (upn (fun z => hb z.2)).trans (h.2.2.1 b hb), h.2.2.2.1, h.2.2.2.2⟩
theorem FG.c {p c fr : Nat} {I J K : It} (h : FG p I J) (h2 : FC p c fr J K) (hc : 10 * p ≤ c ∧ c < 10 * p + 10) (hf : 100 * p ≤ fr) : FG p I K :=
  ⟨fun j hj => (h2.1 j hj).trans (h.1 j hj), fun a ha => (h2.2.1 a (by revert ha; simp; omega)).trans (h.2.1 a ha), fun j hj => (congrFun (h2.2.1 10 (by decide)) j).trans (h.2.2.1 j hj), fun j hj => by
    obtain ⟨e1, e2, e3, e4⟩ := h2.2.2.1 j (by omega)
    obtain ⟨g1, g2, g3, g4⟩ := h.2.2.2.1 j hj
    exact ⟨e1.trans g1, e2.trans g2, e3.trans g3, e4.trans g4⟩, fun j hj => (h2.2.2.2 j (by omega)).trans (h.2.2.2.2 j hj)⟩
theorem am_le {X : Nat → Int32} {n : Nat} : ∀ (f : Nat) (w : Bool) (a : Nat) (cs ws : List Int32), a ≤ n → a ≤ (amR X n f w a cs ws).2.1 ∧ (amR X n f w a cs ws).2.1 ≤ n := by
  intro f
  induction f with
  | zero => intro w a cs ws ha; exact ⟨Nat.le_refl _, ha⟩
  | succ f ih =>
    intro w a cs ws ha
    cases w with
    | true =>
      by_cases h : nxA X n a = 33 ∨ nxA X n a = 40
      · have hlt : a < n := by rcases h with z | z <;> exact nxA_no (by decide) z
        by_cases h4 : opn ws = 4
        · rw [am_o4 h h4]; exact ⟨Nat.le_refl _, ha⟩
        · rw [am_o h h4]; have := ih true (a + 1) cs (nxA X n a :: ws) hlt; omega
      · have ht : a ≤ (tsA X n a).2.1 ∧ (tsA X n a).2.1 ≤ n := by
          unfold tsA
          split
          · exact ⟨Nat.le_refl _, ha⟩
          · next z => 
            have := pl_lt (Int32.not_lt.mp z)
            split
            · show a ≤ a + 1 ∧ a + 1 ≤ n; omega
            · next z => 
              have := in_lt (Decidable.not_not.mp z)
              split
              · show a ≤ a + 2 ∧ a + 2 ≤ n; omega
              · next z =>
                have := nuA_le (X := X) (n := n) (a := a + 2) (by omega)
                have := nuA_gt (Decidable.not_not.mp z)
                show a ≤ nuA X n (a + 2) ∧ nuA X n (a + 2) ≤ n
                omega
        by_cases h4 : (tsA X n a).1 = true
        · rw [am_t h h4]; have := ih false (tsA X n a).2.1 (whA ws (cs ++ [(tsA X n a).2.2])).1 (whA ws (cs ++ [(tsA X n a).2.2])).2 ht.2; omega
        · rw [am_tf h h4]; exact ht
    | false =>
      by_cases h : nxA X n a = 38 ∨ nxA X n a = 124
      · have hlt : a < n := by rcases h with z | z <;> exact nxA_no (by decide) z
        rw [am_b h]; have := ih true (a + 1) (seA (nxA X n a) ws cs).1 (nxA X n a :: (seA (nxA X n a) ws cs).2) hlt; omega
      · by_cases h2 : (seA 124 ws cs).2 = []
        · rw [am_e h h2]; exact ⟨Nat.le_refl _, ha⟩
        · by_cases h3 : nxA X n a = 41
          · have hlt : a < n := nxA_no (by decide) h3
            rw [am_c h h2 h3]; have := ih false (a + 1) (whA (seA 124 ws cs).2.tail (seA 124 ws cs).1).1 (whA (seA 124 ws cs).2.tail (seA 124 ws cs).1).2 hlt; omega
          · rw [am_x h h2 h3]; exact ⟨Nat.le_refl _, ha⟩

set_option maxRecDepth 8000 in
set_option maxHeartbeats 4000000 in
theorem q_takesHead {G : Gt} (hG : Gok G) {I : It} {h : Ht} (hM : HM h) {tx : Nat → Int32} {n a : Nat} (hT : TX tx n I) (hA : AT n a I) {c : Nat} (hc : c < 60) (hL : ∀ j, j < 15 → I 17 j = lettersL.getD j 0) : Con G (4) 0 0 mX12_takesHead [.ref 0, .int (nI c)] I h (qI (fun v J h2 => h2 = h ∧ v = bI ((hdA tx n a).1 = true) ∧ J = upI (upI I 11 c (hdA tx n a).2.2) 0 18 (nI (hdA tx n a).2.1))) := by
  refine con_intro (own := RX12) (lo0 := [some (.ref 0), some (.int (nI c)), none]) hG rfl pl_X12 (Nat.le_of_ble_eq_true rfl) rfl (fun X hX => ?_)
  have hn100 := hT.2.1
  have han := hA.2
  refine g_aload_0 hX (dk DX12_takesHead 0 rfl) ?_
  refine g_c1I hX sX12_takesHead_1 (by decide) (Nat.le_of_ble_eq_true rfl) (rc0 rfl (MLt hM (by decide)) (MC hM)) (by decide) (by decide) (q_second hG hM hT hA) ?_
  refine g_istore_2 hX (dk DX12_takesHead 2 rfl) (by decide) rfl ?_
  refine g_aload_0 hX (dk DX12_takesHead 3 rfl) ?_
  refine g_c1I hX sX12_takesHead_6 (by decide) (Nat.le_of_ble_eq_true rfl) (rc0 rfl (MLt hM (by decide)) (MC hM)) (by decide) (by decide) (q_next hG hM hT hA) ?_
  refine g_lswitch (dt := 90) hX [(99, 50), (115, 36)] (dk DX12_takesHead 5 rfl) (by decide +kernel) (by decide +kernel) ?_
  refine ⟨fun hc1 => ?_, fun hc1n => ?_⟩
  · show GG _ _ _ _ _ _ _ _ _ _ _ _ _
    refine g_aload_0 hX (dk DX12_takesHead 16 rfl) ?_
    refine g_getRs (r := 11) hX (dk DX12_takesHead 17 rfl) KX12 fX12_77 (by decide) rfl (MLt hM (by decide)) (MC hM) (MR hM 22 (by decide) rfl) ?_
    refine g_iload_1 hX (dk DX12_takesHead 18 rfl) ?_
    refine g_iload_2 hX (dk DX12_takesHead 19 rfl) ?_
    refine g_bipush (v := 97) hX (dk DX12_takesHead 20 rfl) (by decide) ?_
    refine g_icmp_ne (tgt := 65) hX (dk DX12_takesHead 21 rfl) (by decide) (fun hc2 => ?_) (fun hc2 => ?_)
    · refine g_iconst (v := 1) hX (dk DX12_takesHead 24 rfl) (by decide) ?_
      refine i_iastore hX (dk DX12_takesHead 25 rfl) (MLt hM (q := 11) (by decide)) (MS hM 11 (by decide) rfl) (⟨rfl, hc, by decide⟩) ?_
      refine g_iload_2 hX (dk DX12_takesHead 26 rfl) ?_
      refine g_bipush (v := 97) hX (dk DX12_takesHead 27 rfl) (by decide) ?_
      refine g_icmp_ne (tgt := 83) hX (dk DX12_takesHead 28 rfl) (by decide) (fun hc3 => ?_) (fun hc3 => ?_)
      · refine g_aload_0 hX (dk DX12_takesHead 34 rfl) ?_
        refine g_iconst (v := 3) hX (dk DX12_takesHead 35 rfl) (by decide) ?_
        refine g_iconst (v := 4) hX (dk DX12_takesHead 36 rfl) (by decide) ?_
        refine g_c3I hX sX12_takesHead_86 (by decide) (Nat.le_of_ble_eq_true rfl) (rc0 rfl (MLt hM (by decide)) (MC hM)) (by decide) (by decide) (q_takesWord hG hM (hT.u (q := 11) (j := c) (by omega) (by decide)) (hA.u (by omega)) (f := 3) (m := 4) (by decide) (fun j hj => hL j hj)) ?_
        refine g_ireturn hX (dk DX12_takesHead 38 rfl) rfl (narB _) (by decide) (by decide) ?_
        first
        | contradiction
        | (have e : hdA tx n a = ((twA tx n 7 4 0 a).1, (twA tx n 7 4 0 a).2, 2) := by unfold hdA; (try first | rw [if_pos hc1] | rw [if_neg hc1] | rw [if_neg (not_not_intro hc1)]); (try first | rw [if_pos hc2] | rw [if_neg hc2] | rw [if_neg (not_not_intro hc2)]); (try first | rw [if_pos hc3] | rw [if_neg hc3] | rw [if_neg (not_not_intro hc3)]); (try first | rw [if_pos hc1] | rw [if_neg hc1] | rw [if_neg (not_not_intro hc1)]); (try first | rw [if_pos hc2] | rw [if_neg hc2] | rw [if_neg (not_not_intro hc2)]); (try first | rw [if_pos hc3] | rw [if_neg hc3] | rw [if_neg (not_not_intro hc3)]); first | done | rfl
           rw [e]
           exact qI_of ⟨rfl, rfl, rfl⟩)
        | contradiction
        | (have e : hdA tx n a = ((twA tx n 3 4 0 a).1, (twA tx n 3 4 0 a).2, 1) := by unfold hdA; (try first | rw [if_pos hc1] | rw [if_neg hc1] | rw [if_neg (not_not_intro hc1)]); (try first | rw [if_pos hc2] | rw [if_neg hc2] | rw [if_neg (not_not_intro hc2)]); (try first | rw [if_pos hc3] | rw [if_neg hc3] | rw [if_neg (not_not_intro hc3)]); (try first | rw [if_pos hc1] | rw [if_neg hc1] | rw [if_neg (not_not_intro hc1)]); (try first | rw [if_pos hc2] | rw [if_neg hc2] | rw [if_neg (not_not_intro hc2)]); (try first | rw [if_pos hc3] | rw [if_neg hc3] | rw [if_neg (not_not_intro hc3)]); first | done | rfl
           rw [e]
           exact qI_of ⟨rfl, rfl, rfl⟩)
      · refine g_aload_0 hX (dk DX12_takesHead 29 rfl) ?_
        refine g_bipush (v := 7) hX (dk DX12_takesHead 30 rfl) (by decide) ?_
        refine g_iconst (v := 4) hX (dk DX12_takesHead 31 rfl) (by decide) ?_
        refine g_c3I hX sX12_takesHead_77 (by decide) (Nat.le_of_ble_eq_true rfl) (rc0 rfl (MLt hM (by decide)) (MC hM)) (by decide) (by decide) (q_takesWord hG hM (hT.u (q := 11) (j := c) (by omega) (by decide)) (hA.u (by omega)) (f := 7) (m := 4) (by decide) (fun j hj => hL j hj)) ?_
        refine g_goto (tgt := 89) hX (dk DX12_takesHead 33 rfl) (by decide) ?_
        refine g_ireturn hX (dk DX12_takesHead 38 rfl) rfl (narB _) (by decide) (by decide) ?_
        first
        | contradiction
        | (have e : hdA tx n a = ((twA tx n 7 4 0 a).1, (twA tx n 7 4 0 a).2, 2) := by unfold hdA; (try first | rw [if_pos hc1] | rw [if_neg hc1] | rw [if_neg (not_not_intro hc1)]); (try first | rw [if_pos hc2] | rw [if_neg hc2] | rw [if_neg (not_not_intro hc2)]); (try first | rw [if_pos hc3] | rw [if_neg hc3] | rw [if_neg (not_not_intro hc3)]); (try first | rw [if_pos hc1] | rw [if_neg hc1] | rw [if_neg (not_not_intro hc1)]); (try first | rw [if_pos hc2] | rw [if_neg hc2] | rw [if_neg (not_not_intro hc2)]); (try first | rw [if_pos hc3] | rw [if_neg hc3] | rw [if_neg (not_not_intro hc3)]); first | done | rfl
           rw [e]
           exact qI_of ⟨rfl, rfl, rfl⟩)
        | contradiction
        | (have e : hdA tx n a = ((twA tx n 3 4 0 a).1, (twA tx n 3 4 0 a).2, 1) := by unfold hdA; (try first | rw [if_pos hc1] | rw [if_neg hc1] | rw [if_neg (not_not_intro hc1)]); (try first | rw [if_pos hc2] | rw [if_neg hc2] | rw [if_neg (not_not_intro hc2)]); (try first | rw [if_pos hc3] | rw [if_neg hc3] | rw [if_neg (not_not_intro hc3)]); (try first | rw [if_pos hc1] | rw [if_neg hc1] | rw [if_neg (not_not_intro hc1)]); (try first | rw [if_pos hc2] | rw [if_neg hc2] | rw [if_neg (not_not_intro hc2)]); (try first | rw [if_pos hc3] | rw [if_neg hc3] | rw [if_neg (not_not_intro hc3)]); first | done | rfl
           rw [e]
           exact qI_of ⟨rfl, rfl, rfl⟩)
    · refine g_iconst (v := 2) hX (dk DX12_takesHead 22 rfl) (by decide) ?_
      refine g_goto (tgt := 66) hX (dk DX12_takesHead 23 rfl) (by decide) ?_
      refine i_iastore hX (dk DX12_takesHead 25 rfl) (MLt hM (q := 11) (by decide)) (MS hM 11 (by decide) rfl) (⟨rfl, hc, by decide⟩) ?_
      refine g_iload_2 hX (dk DX12_takesHead 26 rfl) ?_
      refine g_bipush (v := 97) hX (dk DX12_takesHead 27 rfl) (by decide) ?_
      refine g_icmp_ne (tgt := 83) hX (dk DX12_takesHead 28 rfl) (by decide) (fun hc4 => ?_) (fun hc4 => ?_)
      · refine g_aload_0 hX (dk DX12_takesHead 34 rfl) ?_
        refine g_iconst (v := 3) hX (dk DX12_takesHead 35 rfl) (by decide) ?_
        refine g_iconst (v := 4) hX (dk DX12_takesHead 36 rfl) (by decide) ?_
        refine g_c3I hX sX12_takesHead_86 (by decide) (Nat.le_of_ble_eq_true rfl) (rc0 rfl (MLt hM (by decide)) (MC hM)) (by decide) (by decide) (q_takesWord hG hM (hT.u (q := 11) (j := c) (by omega) (by decide)) (hA.u (by omega)) (f := 3) (m := 4) (by decide) (fun j hj => hL j hj)) ?_
        refine g_ireturn hX (dk DX12_takesHead 38 rfl) rfl (narB _) (by decide) (by decide) ?_
        first
        | contradiction
        | (have e : hdA tx n a = ((twA tx n 7 4 0 a).1, (twA tx n 7 4 0 a).2, 2) := by unfold hdA; (try first | rw [if_pos hc1] | rw [if_neg hc1] | rw [if_neg (not_not_intro hc1)]); (try first | rw [if_pos hc2] | rw [if_neg hc2] | rw [if_neg (not_not_intro hc2)]); (try first | rw [if_pos hc4] | rw [if_neg hc4] | rw [if_neg (not_not_intro hc4)]); (try first | rw [if_pos hc1] | rw [if_neg hc1] | rw [if_neg (not_not_intro hc1)]); (try first | rw [if_pos hc2] | rw [if_neg hc2] | rw [if_neg (not_not_intro hc2)]); (try first | rw [if_pos hc4] | rw [if_neg hc4] | rw [if_neg (not_not_intro hc4)]); first | done | rfl
           rw [e]
           exact qI_of ⟨rfl, rfl, rfl⟩)
        | contradiction
        | (have e : hdA tx n a = ((twA tx n 3 4 0 a).1, (twA tx n 3 4 0 a).2, 1) := by unfold hdA; (try first | rw [if_pos hc1] | rw [if_neg hc1] | rw [if_neg (not_not_intro hc1)]); (try first | rw [if_pos hc2] | rw [if_neg hc2] | rw [if_neg (not_not_intro hc2)]); (try first | rw [if_pos hc4] | rw [if_neg hc4] | rw [if_neg (not_not_intro hc4)]); (try first | rw [if_pos hc1] | rw [if_neg hc1] | rw [if_neg (not_not_intro hc1)]); (try first | rw [if_pos hc2] | rw [if_neg hc2] | rw [if_neg (not_not_intro hc2)]); (try first | rw [if_pos hc4] | rw [if_neg hc4] | rw [if_neg (not_not_intro hc4)]); first | done | rfl
           rw [e]
           exact qI_of ⟨rfl, rfl, rfl⟩)
      · refine g_aload_0 hX (dk DX12_takesHead 29 rfl) ?_
        refine g_bipush (v := 7) hX (dk DX12_takesHead 30 rfl) (by decide) ?_
        refine g_iconst (v := 4) hX (dk DX12_takesHead 31 rfl) (by decide) ?_
        refine g_c3I hX sX12_takesHead_77 (by decide) (Nat.le_of_ble_eq_true rfl) (rc0 rfl (MLt hM (by decide)) (MC hM)) (by decide) (by decide) (q_takesWord hG hM (hT.u (q := 11) (j := c) (by omega) (by decide)) (hA.u (by omega)) (f := 7) (m := 4) (by decide) (fun j hj => hL j hj)) ?_
        refine g_goto (tgt := 89) hX (dk DX12_takesHead 33 rfl) (by decide) ?_
        refine g_ireturn hX (dk DX12_takesHead 38 rfl) rfl (narB _) (by decide) (by decide) ?_
        first
        | contradiction
        | (have e : hdA tx n a = ((twA tx n 7 4 0 a).1, (twA tx n 7 4 0 a).2, 2) := by unfold hdA; (try first | rw [if_pos hc1] | rw [if_neg hc1] | rw [if_neg (not_not_intro hc1)]); (try first | rw [if_pos hc2] | rw [if_neg hc2] | rw [if_neg (not_not_intro hc2)]); (try first | rw [if_pos hc4] | rw [if_neg hc4] | rw [if_neg (not_not_intro hc4)]); (try first | rw [if_pos hc1] | rw [if_neg hc1] | rw [if_neg (not_not_intro hc1)]); (try first | rw [if_pos hc2] | rw [if_neg hc2] | rw [if_neg (not_not_intro hc2)]); (try first | rw [if_pos hc4] | rw [if_neg hc4] | rw [if_neg (not_not_intro hc4)]); first | done | rfl
           rw [e]
           exact qI_of ⟨rfl, rfl, rfl⟩)
        | contradiction
        | (have e : hdA tx n a = ((twA tx n 3 4 0 a).1, (twA tx n 3 4 0 a).2, 1) := by unfold hdA; (try first | rw [if_pos hc1] | rw [if_neg hc1] | rw [if_neg (not_not_intro hc1)]); (try first | rw [if_pos hc2] | rw [if_neg hc2] | rw [if_neg (not_not_intro hc2)]); (try first | rw [if_pos hc4] | rw [if_neg hc4] | rw [if_neg (not_not_intro hc4)]); (try first | rw [if_pos hc1] | rw [if_neg hc1] | rw [if_neg (not_not_intro hc1)]); (try first | rw [if_pos hc2] | rw [if_neg hc2] | rw [if_neg (not_not_intro hc2)]); (try first | rw [if_pos hc4] | rw [if_neg hc4] | rw [if_neg (not_not_intro hc4)]); first | done | rfl
           rw [e]
           exact qI_of ⟨rfl, rfl, rfl⟩)
  refine ⟨fun hc5 => ?_, fun hc5n => ?_⟩
  · show GG _ _ _ _ _ _ _ _ _ _ _ _ _
    refine g_aload_0 hX (dk DX12_takesHead 6 rfl) ?_
    refine g_getRs (r := 11) hX (dk DX12_takesHead 7 rfl) KX12 fX12_77 (by decide) rfl (MLt hM (by decide)) (MC hM) (MR hM 22 (by decide) rfl) ?_
    refine g_iload_1 hX (dk DX12_takesHead 8 rfl) ?_
    refine g_iconst (v := 0) hX (dk DX12_takesHead 9 rfl) (by decide) ?_
    refine i_iastore hX (dk DX12_takesHead 10 rfl) (MLt hM (q := 11) (by decide)) (MS hM 11 (by decide) rfl) (⟨rfl, hc, by decide⟩) ?_
    refine g_aload_0 hX (dk DX12_takesHead 11 rfl) ?_
    refine g_iconst (v := 0) hX (dk DX12_takesHead 12 rfl) (by decide) ?_
    refine g_iconst (v := 3) hX (dk DX12_takesHead 13 rfl) (by decide) ?_
    refine g_c3I hX sX12_takesHead_46 (by decide) (Nat.le_of_ble_eq_true rfl) (rc0 rfl (MLt hM (by decide)) (MC hM)) (by decide) (by decide) (q_takesWord hG hM (hT.u (q := 11) (j := c) (by omega) (by decide)) (hA.u (by omega)) (f := 0) (m := 3) (by decide) (fun j hj => hL j hj)) ?_
    refine g_ireturn hX (dk DX12_takesHead 15 rfl) rfl (narB _) (by decide) (by decide) ?_
    first
    | contradiction
    | (have e : hdA tx n a = ((twA tx n 0 3 0 a).1, (twA tx n 0 3 0 a).2, 0) := by unfold hdA; (try first | rw [if_pos hc1n] | rw [if_neg hc1n] | rw [if_neg (not_not_intro hc1n)]); (try first | rw [if_pos hc5] | rw [if_neg hc5] | rw [if_neg (not_not_intro hc5)]); (try first | rw [if_pos hc1n] | rw [if_neg hc1n] | rw [if_neg (not_not_intro hc1n)]); (try first | rw [if_pos hc5] | rw [if_neg hc5] | rw [if_neg (not_not_intro hc5)]); first | done | rfl
       rw [e]
       exact qI_of ⟨rfl, rfl, rfl⟩)
  show GG _ _ _ _ _ _ _ _ _ _ _ _ _
  refine g_aload_0 hX (dk DX12_takesHead 39 rfl) ?_
  refine g_getRs (r := 11) hX (dk DX12_takesHead 40 rfl) KX12 fX12_77 (by decide) rfl (MLt hM (by decide)) (MC hM) (MR hM 22 (by decide) rfl) ?_
  refine g_iload_1 hX (dk DX12_takesHead 41 rfl) ?_
  refine g_iconst (v := 3) hX (dk DX12_takesHead 42 rfl) (by decide) ?_
  refine i_iastore hX (dk DX12_takesHead 43 rfl) (MLt hM (q := 11) (by decide)) (MS hM 11 (by decide) rfl) (⟨rfl, hc, by decide⟩) ?_
  refine g_aload_0 hX (dk DX12_takesHead 44 rfl) ?_
  refine g_bipush (v := 11) hX (dk DX12_takesHead 45 rfl) (by decide) ?_
  refine g_iconst (v := 4) hX (dk DX12_takesHead 46 rfl) (by decide) ?_
  refine g_c3I hX sX12_takesHead_101 (by decide) (Nat.le_of_ble_eq_true rfl) (rc0 rfl (MLt hM (by decide)) (MC hM)) (by decide) (by decide) (q_takesWord hG hM (hT.u (q := 11) (j := c) (by omega) (by decide)) (hA.u (by omega)) (f := 11) (m := 4) (by decide) (fun j hj => hL j hj)) ?_
  refine g_ireturn hX (dk DX12_takesHead 48 rfl) rfl (narB _) (by decide) (by decide) ?_
  first
  | contradiction
  | (have e : hdA tx n a = ((twA tx n 11 4 0 a).1, (twA tx n 11 4 0 a).2, 3) := by unfold hdA; (try first | rw [if_pos hc1n] | rw [if_neg hc1n] | rw [if_neg (not_not_intro hc1n)]); (try first | rw [if_pos hc5n] | rw [if_neg hc5n] | rw [if_neg (not_not_intro hc5n)]); (try first | rw [if_pos hc1n] | rw [if_neg hc1n] | rw [if_neg (not_not_intro hc1n)]); (try first | rw [if_pos hc5n] | rw [if_neg hc5n] | rw [if_neg (not_not_intro hc5n)]); first | done | rfl
     rw [e]
     exact qI_of ⟨rfl, rfl, rfl⟩)

