def nzL : List Nat := [0, 1, 2, 3, 4, 5, 6, 7, 8, 9, 10, 11, 12, 31, 32, 33, 35]
/-- nothing was told yet (cells 13 .. 29 are scratch) -/
def NX (I : It) : Prop := (∀ q, q ∈ nzL → ∀ j, I q j = 0) ∧ ∀ j, j < 6 → I 34 j = -1
theorem NX.of {I : It} (h : IX0 I) : NX I := ⟨fun q hq j => h.1 q (by revert q; decide) (by rintro rfl; revert hq; decide) j, h.2⟩
/-- an answer, nothing else is claimed -/
def qA (v : Int32) : Pt3 := qI fun x _ _ => x = v
theorem qA_of {v x : Int32} {I : It} {h : Ht} (e : x = v) : qA v (some (.int x)) I h := ⟨x, rfl, e⟩
def NRF (h : Ht) : Prop := hR h 1 13 = none ∧ hR h 7 13 = none
set_option maxRecDepth 8000 in
set_option maxHeartbeats 4000000 in
theorem n_find {G : Gt} (hG : Gok G) {I : It} {h : Ht} (hH : HX h) {a : Int32} (hN : NX I) : Con G 1 0 0 mX5_find [.ref 1, .int a] I h (rR none I h) := by
  refine con_intro (own := RX5) (lo0 := [some (.ref 1), some (.int a)]) hG rfl pl_X5 (Nat.le_of_ble_eq_true rfl) rfl (fun X hX => ?_)
  refine g_iload_1 hX (dk DX5_find 0 rfl) ?_
  refine g_if_lt (tgt := 18) hX (dk DX5_find 1 rfl) (by decide) (fun hc1 => ?_) (fun hc1 => ?_)
  · refine g_aconst_null hX (dk DX5_find 9 rfl) ?_
    refine g_goto (tgt := 28) hX (dk DX5_find 10 rfl) (by decide) ?_
    refine g_areturn (r := none) hX (dk DX5_find 15 rfl) rfl rfl (Or.inl ⟨_, rfl⟩) (by decide) (by decide) ?_
    exact rR_of rfl rfl rfl
  · refine g_iload_1 hX (dk DX5_find 2 rfl) ?_
    refine g_aload_0 hX (dk DX5_find 3 rfl) ?_
    refine g_getIv hX (dk DX5_find 4 rfl) KX5 fX5_36 (by decide) rfl (CLt hH (q := 1) (by decide)) (CC hH 1 (by decide) rfl) (hN.1 1 (by decide) 2) ?_
    refine g_icmp_ge (tgt := 18) hX (dk DX5_find 5 rfl) (by decide) (fun hc2 => ?_) (fun hc2 => absurd (Int32.not_lt.mp hc1) hc2)
    refine g_aconst_null hX (dk DX5_find 9 rfl) ?_
    refine g_goto (tgt := 28) hX (dk DX5_find 10 rfl) (by decide) ?_
    refine g_areturn (r := none) hX (dk DX5_find 15 rfl) rfl rfl (Or.inl ⟨_, rfl⟩) (by decide) (by decide) ?_
    exact rR_of rfl rfl rfl

