def zMI (I : It) (a N : Nat) : It := fun b j => if a ≤ b ∧ b ≤ a + N then 0 else I b j
def zM (h : Ht) (a a1 N : Nat) (sh sh2 : Nat × Nat) : Ht := (fun b j => if a ≤ b ∧ b ≤ a + N then 0 else hL h b j, fun b j => if b = a then (if j < N then some (a + 1 + j) else none) else if a ≤ b ∧ b ≤ a + N then none else hR h b j, fun b => if b = a then sh else if a ≤ b ∧ b ≤ a + N then sh2 else hs h b, a1)
theorem ga_run {G : Gt} {a N : Nat} (hG : ∀ j, j ≤ N → Gnew G (a + j)) : ∀ j, j ≤ N → ga G (a + j) = ga G a + j := by
  intro j
  induction j with
  | zero => intro _; rfl
  | succ j ih =>
    intro hj
    have e1 := (hG j (by omega)).2
    have e2 := (hG (j + 1) hj).1
    have e3 := ih (by omega)
    have e4 : gz G (a + j + 1) = ga G (a + j + 1) := e2
    show ga G (a + j + 1) = _
    rw [← e4, e1, e3]
    omega
theorem wl_app {G : Gt} {I I' : It} {h h' : Ht} {K : Nat} (hn' : hn h' = hn h + K) (ho : ∀ b, b < hn h → ent G I' h' b = ent G I h b) : wl G I' h' = wl G I h ++ (List.range K).map fun i => (ga G (hn h + i), ent G I' h' (hn h + i)) := by
  unfold wl
  rw [hn', List.range_add, List.map_append, List.map_map]
  congr 1
  apply List.map_congr_left
  intro b hb
  rw [ho b (List.mem_range.mp hb)]
section ML
variable {G : Gt} {d mc ms : Nat} {own : String} {y : Mt} {X : Xt} {P : Pt3} {pc nx : Nat} {lo : List (Option Value)} {st : List Value} {I : It} {h : Ht} {k n : Nat}
theorem g_nw_multi_int (hX : Xok G own y X) {idx : Nat} {i1 i2 : Int32} (a a1 N M : Nat) (ha : hn h = a) (h1 : a + N + 1 = a1) (hd : dc y.2.1 pc (.multianewarray idx 2) 4 nx) (hl : Cond.classLink own idx ("[" ++ (FieldType.array .int).toString) ∈ TG) (har : Cond.arrayClass .int ∈ TG) (e1 : i1 = nI N) (e2 : i2 = nI M) (hN : N ≤ 1000000) (hM : M ≤ 1000000) (hG : ∀ j, j ≤ N → Gnew G (a + j)) (hk : k + (1 + N) ≤ mc) (hn' : n + (N + N * M) ≤ ms)
    (kk : GG G d mc ms X P nx lo (.ref a :: st) (zMI I a N) (zM h a a1 N (26, N) (20, M)) (k + 1 + N) (n + N + N * M)) : GG G d mc ms X P pc lo (.int i2 :: .int i1 :: st) I h k n := by
  obtain ⟨p, l, e, s, m, args, below, meth, c⟩ := X
  obtain ⟨hexec, hb, hml, hown, hts, hKs, hGk, hlk, hrt, hnm⟩ := hX
  obtain ⟨hd, rfl⟩ := hd
  subst e1 e2 ha h1
  intro H locs ls hlv hW hS
  have hsz : H.size = ga G (hn h) := by rw [hW.2]; exact (hG 0 (Nat.zero_le _)).1
  have hrun := ga_run hG
  refine W_multi (ty := .int) (n := nI N) (k := nI M) hexec hb hown (hts _ hl) (hKs.2.2.2.2.2.1) (hts _ har) rfl hd rfl (nI_pos (by omega)) (nI_pos (by omega)) (nI_clamp (by omega)) (nI_clamp (by omega)) (by omega) (by show M * _ ≤ _; simp only [componentBytes]; omega) (by omega) rfl rfl hk hn' fun H1 cA q hc1 hc2 z1 o1 o2 o3 => ?_
  have hA : s.vm.findClass ("[" ++ (FieldType.array .int).toString) = some (gc G 26) := (hKs.1.2 6 _ (tys_at rfl)).2
  have hB : s.vm.findClass (FieldType.array .int).toString = some (gc G 20) := (hKs.1.2 0 _ (tys_at rfl)).2
  cases hc1.symm.trans hA
  cases hc2.symm.trans hB
  rw [hsz] at o1 o2 o3 z1 ⊢
  have hoff : ∀ b, b < hn h → ent G (zMI I (hn h) N) (zM h (hn h) (hn h + N + 1) N (26, N) (20, M)) b = ent G I h b := fun b hb2 => by
    have hne : b ≠ hn h := Nat.ne_of_lt hb2
    have hnr : ¬ (hn h ≤ b ∧ b ≤ hn h + N) := fun z => by omega
    apply ent_congr
    · funext j; simp [zMI, hnr]
    · funext j; show (if _ then 0 else hL h b j) = _; rw [if_neg hnr]
    · funext j; show (if b = hn h then _ else if _ then none else hR h b j) = _; rw [if_neg hne, if_neg hnr]
    · show (if b = hn h then _ else if _ then _ else hs h b) = _; rw [if_neg hne, if_neg hnr]
  have hwl := wl_app (G := G) (I := I) (h := h) (I' := zMI I (hn h) N) (h' := zM h (hn h) (hn h + N + 1) N (26, N) (20, M)) (K := N + 1) rfl hoff
  refine kk H1 locs ls hlv ⟨?_, ?_⟩ ⟨Nat.le_trans hS.1 (by omega), fun x g1 g2 => by rw [o2 x (by rw [← hsz]; exact Nat.lt_of_lt_of_le g1 hS.1)]; exact hS.2.1 x g1 g2, hS.2.2⟩
  · rw [hwl]
    refine (hW.1.kept (fun i x hx => o2 x.1 (by rw [← hsz]; exact (hW.1 i x hx).lt))).app (fun i x hx => ?_)
    rw [List.getElem?_map] at hx
    have hi : i < N + 1 := by
      rcases Nat.lt_or_ge i (N + 1) with z | z
      · exact z
      · rw [List.getElem?_eq_none (by rw [List.length_range]; exact z)] at hx; cases hx
    rw [List.getElem?_range hi] at hx
    cases hx
    cases i with
    | zero =>
      show va_at _ _ (ga G (hn h), ent _ _ _ (hn h)) H1
      have hsh : hs (zM h (hn h) (hn h + N + 1) N (26, N) (20, M)) (hn h) = (26, N) := if_pos rfl
      rw [ent_ref hsh (by decide)]
      show H1[ga G (hn h)]? = some (vp_cell _ _)
      rw [o1, vp_cell_q]
      unfold mqO
      congr 2
      funext j
      show _ = va_rf ((if hn h = hn h then (if j < N then some (hn h + 1 + j) else none) else _).map (ga G))
      rw [if_pos rfl]
      by_cases hj : j < N
      · rw [if_pos hj, if_pos hj]
        show Value.ref _ = Value.ref (ga G (hn h + 1 + j))
        rw [show hn h + 1 + j = hn h + (j + 1) by omega, hrun (j + 1) (by omega)]
        exact congrArg Value.ref (show (ga G (hn h) + 1 + j : Nat) = ga G (hn h) + (j + 1) by omega)
      · rw [if_neg hj, if_neg hj]; rfl
    | succ i =>
      show va_at _ _ (ga G (hn h + (i + 1)), ent _ _ _ (hn h + (i + 1))) H1
      have hsh : hs (zM h (hn h) (hn h + N + 1) N (26, N) (20, M)) (hn h + (i + 1)) = (20, M) := by
        show (if _ = hn h then _ else if _ then _ else _) = _
        rw [if_neg (by omega), if_pos (by omega)]
      rw [ent_int hsh (Or.inl rfl)]
      show H1[ga G (hn h + (i + 1))]? = some (vp_cell _ _)
      rw [hrun (i + 1) (by omega), show ga G (hn h) + (i + 1) = ga G (hn h) + 1 + i by omega, o3 i (by omega), vp_cell_i]
      unfold mqI
      congr 2
      funext j
      show Value.int 0 = Value.int (if hn h ≤ hn h + (i + 1) ∧ hn h + (i + 1) ≤ hn h + N then 0 else I (hn h + (i + 1)) j)
      rw [if_pos (by omega)]
  · rw [z1]
    show _ = gz G (hn h + N + 1)
    rw [(hG N (Nat.le_refl _)).2, hrun N (Nat.le_refl _)]
    omega
theorem g_nw_multi_long (hX : Xok G own y X) {idx : Nat} {i1 i2 : Int32} (a a1 N M : Nat) (ha : hn h = a) (h1 : a + N + 1 = a1) (hd : dc y.2.1 pc (.multianewarray idx 2) 4 nx) (hl : Cond.classLink own idx ("[" ++ (FieldType.array .long).toString) ∈ TG) (har : Cond.arrayClass .long ∈ TG) (e1 : i1 = nI N) (e2 : i2 = nI M) (hN : N ≤ 1000000) (hM : M ≤ 1000000) (hG : ∀ j, j ≤ N → Gnew G (a + j)) (hk : k + (1 + N) ≤ mc) (hn' : n + (N + N * M) ≤ ms)
    (kk : GG G d mc ms X P nx lo (.ref a :: st) (zMI I a N) (zM h a a1 N (27, N) (21, M)) (k + 1 + N) (n + N + N * M)) : GG G d mc ms X P pc lo (.int i2 :: .int i1 :: st) I h k n := by
  obtain ⟨p, l, e, s, m, args, below, meth, c⟩ := X
  obtain ⟨hexec, hb, hml, hown, hts, hKs, hGk, hlk, hrt, hnm⟩ := hX
  obtain ⟨hd, rfl⟩ := hd
  subst e1 e2 ha h1
  intro H locs ls hlv hW hS
  have hsz : H.size = ga G (hn h) := by rw [hW.2]; exact (hG 0 (Nat.zero_le _)).1
  have hrun := ga_run hG
  refine W_multi (ty := .long) (n := nI N) (k := nI M) hexec hb hown (hts _ hl) (hKs.2.2.2.2.2.2) (hts _ har) rfl hd rfl (nI_pos (by omega)) (nI_pos (by omega)) (nI_clamp (by omega)) (nI_clamp (by omega)) (by omega) (by show M * _ ≤ _; simp only [componentBytes]; omega) (by omega) rfl rfl hk hn' fun H1 cA q hc1 hc2 z1 o1 o2 o3 => ?_
  have hA : s.vm.findClass ("[" ++ (FieldType.array .long).toString) = some (gc G 27) := (hKs.1.2 7 _ (tys_at rfl)).2
  have hB : s.vm.findClass (FieldType.array .long).toString = some (gc G 21) := (hKs.1.2 1 _ (tys_at rfl)).2
  cases hc1.symm.trans hA
  cases hc2.symm.trans hB
  rw [hsz] at o1 o2 o3 z1 ⊢
  have hoff : ∀ b, b < hn h → ent G (zMI I (hn h) N) (zM h (hn h) (hn h + N + 1) N (27, N) (21, M)) b = ent G I h b := fun b hb2 => by
    have hne : b ≠ hn h := Nat.ne_of_lt hb2
    have hnr : ¬ (hn h ≤ b ∧ b ≤ hn h + N) := fun z => by omega
    apply ent_congr
    · funext j; simp [zMI, hnr]
    · funext j; show (if _ then 0 else hL h b j) = _; rw [if_neg hnr]
    · funext j; show (if b = hn h then _ else if _ then none else hR h b j) = _; rw [if_neg hne, if_neg hnr]
    · show (if b = hn h then _ else if _ then _ else hs h b) = _; rw [if_neg hne, if_neg hnr]
  have hwl := wl_app (G := G) (I := I) (h := h) (I' := zMI I (hn h) N) (h' := zM h (hn h) (hn h + N + 1) N (27, N) (21, M)) (K := N + 1) rfl hoff
  refine kk H1 locs ls hlv ⟨?_, ?_⟩ ⟨Nat.le_trans hS.1 (by omega), fun x g1 g2 => by rw [o2 x (by rw [← hsz]; exact Nat.lt_of_lt_of_le g1 hS.1)]; exact hS.2.1 x g1 g2, hS.2.2⟩
  · rw [hwl]
    refine (hW.1.kept (fun i x hx => o2 x.1 (by rw [← hsz]; exact (hW.1 i x hx).lt))).app (fun i x hx => ?_)
    rw [List.getElem?_map] at hx
    have hi : i < N + 1 := by
      rcases Nat.lt_or_ge i (N + 1) with z | z
      · exact z
      · rw [List.getElem?_eq_none (by rw [List.length_range]; exact z)] at hx; cases hx
    rw [List.getElem?_range hi] at hx
    cases hx
    cases i with
    | zero =>
      show va_at _ _ (ga G (hn h), ent _ _ _ (hn h)) H1
      have hsh : hs (zM h (hn h) (hn h + N + 1) N (27, N) (21, M)) (hn h) = (27, N) := if_pos rfl
      rw [ent_ref hsh (by decide)]
      show H1[ga G (hn h)]? = some (vp_cell _ _)
      rw [o1, vp_cell_q]
      unfold mqO
      congr 2
      funext j
      show _ = va_rf ((if hn h = hn h then (if j < N then some (hn h + 1 + j) else none) else _).map (ga G))
      rw [if_pos rfl]
      by_cases hj : j < N
      · rw [if_pos hj, if_pos hj]
        show Value.ref _ = Value.ref (ga G (hn h + 1 + j))
        rw [show hn h + 1 + j = hn h + (j + 1) by omega, hrun (j + 1) (by omega)]
        exact congrArg Value.ref (show (ga G (hn h) + 1 + j : Nat) = ga G (hn h) + (j + 1) by omega)
      · rw [if_neg hj, if_neg hj]; rfl
    | succ i =>
      show va_at _ _ (ga G (hn h + (i + 1)), ent _ _ _ (hn h + (i + 1))) H1
      have hsh : hs (zM h (hn h) (hn h + N + 1) N (27, N) (21, M)) (hn h + (i + 1)) = (21, M) := by
        show (if _ = hn h then _ else if _ then _ else _) = _
        rw [if_neg (by omega), if_pos (by omega)]
      rw [ent_long hsh]
      show H1[ga G (hn h + (i + 1))]? = some (vp_cell _ _)
      rw [hrun (i + 1) (by omega), show ga G (hn h) + (i + 1) = ga G (hn h) + 1 + i by omega, o3 i (by omega), vp_cell_l]
      unfold mqI
      congr 2
      funext j
      show Value.long 0 = Value.long (if hn h ≤ hn h + (i + 1) ∧ hn h + (i + 1) ≤ hn h + N then 0 else hL h (hn h + (i + 1)) j)
      rw [if_pos (by omega)]
  · rw [z1]
    show _ = gz G (hn h + N + 1)
    rw [(hG N (Nat.le_refl _)).2, hrun N (Nat.le_refl _)]
    omega
end ML
