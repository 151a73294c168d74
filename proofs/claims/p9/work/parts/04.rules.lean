theorem g_iconst {G : Gt} {d mc ms : Nat} {own : String} {y : Mt} {X : Xt} {P : Pt3} {pc nx : Nat} {lo : List (Option Value)} {st : List Value} {I : It} {h : Ht} {k n : Nat} {z : Int} {v : Int32} (hX : Xok G own y X) (hd : dc y.2.1 pc (.iconst z) 1 nx) (hv : Int32.ofInt z = v) (kk : GG G d mc ms X P nx lo (.int v :: st) I h k n) : GG G d mc ms X P pc lo (st) I h k n := by
  obtain ⟨p, l, e, s, m, args, below, meth, c⟩ := X
  obtain ⟨hexec, hb, hml, hown, hts, hKs, hGk, hlk, hrt, hnm⟩ := hX
  obtain ⟨hd, hnx⟩ := hd
  subst hnx
  intro H locs ls hl hW hS
  exact lv_iconst hexec hb hd hv (kk H locs ls hl hW hS)

theorem g_bipush {G : Gt} {d mc ms : Nat} {own : String} {y : Mt} {X : Xt} {P : Pt3} {pc nx : Nat} {lo : List (Option Value)} {st : List Value} {I : It} {h : Ht} {k n : Nat} {z : Int} {v : Int32} (hX : Xok G own y X) (hd : dc y.2.1 pc (.bipush z) 2 nx) (hv : (Int8.ofInt z).toInt32 = v) (kk : GG G d mc ms X P nx lo (.int v :: st) I h k n) : GG G d mc ms X P pc lo (st) I h k n := by
  obtain ⟨p, l, e, s, m, args, below, meth, c⟩ := X
  obtain ⟨hexec, hb, hml, hown, hts, hKs, hGk, hlk, hrt, hnm⟩ := hX
  obtain ⟨hd, hnx⟩ := hd
  subst hnx
  intro H locs ls hl hW hS
  exact lv_bipush hexec hb hd hv (kk H locs ls hl hW hS)

theorem g_sipush {G : Gt} {d mc ms : Nat} {own : String} {y : Mt} {X : Xt} {P : Pt3} {pc nx : Nat} {lo : List (Option Value)} {st : List Value} {I : It} {h : Ht} {k n : Nat} {z : Int} {v : Int32} (hX : Xok G own y X) (hd : dc y.2.1 pc (.sipush z) 3 nx) (hv : (Int16.ofInt z).toInt32 = v) (kk : GG G d mc ms X P nx lo (.int v :: st) I h k n) : GG G d mc ms X P pc lo (st) I h k n := by
  obtain ⟨p, l, e, s, m, args, below, meth, c⟩ := X
  obtain ⟨hexec, hb, hml, hown, hts, hKs, hGk, hlk, hrt, hnm⟩ := hX
  obtain ⟨hd, hnx⟩ := hd
  subst hnx
  intro H locs ls hl hW hS
  exact lv_sipush hexec hb hd hv (kk H locs ls hl hW hS)

theorem g_lconst {G : Gt} {d mc ms : Nat} {own : String} {y : Mt} {X : Xt} {P : Pt3} {pc nx : Nat} {lo : List (Option Value)} {st : List Value} {I : It} {h : Ht} {k n : Nat} {z : Fin 2} {v : Int64} (hX : Xok G own y X) (hd : dc y.2.1 pc (.lconst z) 1 nx) (hv : Int64.ofNat (z : Nat) = v) (kk : GG G d mc ms X P nx lo (.long v :: st) I h k n) : GG G d mc ms X P pc lo (st) I h k n := by
  obtain ⟨p, l, e, s, m, args, below, meth, c⟩ := X
  obtain ⟨hexec, hb, hml, hown, hts, hKs, hGk, hlk, hrt, hnm⟩ := hX
  obtain ⟨hd, hnx⟩ := hd
  subst hnx
  intro H locs ls hl hW hS
  exact lv_lconst hexec hb hd hv (kk H locs ls hl hW hS)

theorem g_ldc {G : Gt} {d mc ms : Nat} {own : String} {y : Mt} {X : Xt} {P : Pt3} {pc nx : Nat} {lo : List (Option Value)} {st : List Value} {I : It} {h : Ht} {k n : Nat} {z : Nat} {v : Int32} (hX : Xok G own y X) (hd : dc y.2.1 pc (.ldc z) 2 nx) (hc : Cond.constant own z v ∈ TG) (kk : GG G d mc ms X P nx lo (.int v :: st) I h k n) : GG G d mc ms X P pc lo (st) I h k n := by
  obtain ⟨p, l, e, s, m, args, below, meth, c⟩ := X
  obtain ⟨hexec, hb, hml, hown, hts, hKs, hGk, hlk, hrt, hnm⟩ := hX
  obtain ⟨hd, hnx⟩ := hd
  subst hnx
  intro H locs ls hl hW hS
  exact lv_ldc hexec hb hown (hts _ hc) hd (kk H locs ls hl hW hS)

theorem g_ldc_w {G : Gt} {d mc ms : Nat} {own : String} {y : Mt} {X : Xt} {P : Pt3} {pc nx : Nat} {lo : List (Option Value)} {st : List Value} {I : It} {h : Ht} {k n : Nat} {z : Nat} {v : Int32} (hX : Xok G own y X) (hd : dc y.2.1 pc (.ldc_w z) 3 nx) (hc : Cond.constant own z v ∈ TG) (kk : GG G d mc ms X P nx lo (.int v :: st) I h k n) : GG G d mc ms X P pc lo (st) I h k n := by
  obtain ⟨p, l, e, s, m, args, below, meth, c⟩ := X
  obtain ⟨hexec, hb, hml, hown, hts, hKs, hGk, hlk, hrt, hnm⟩ := hX
  obtain ⟨hd, hnx⟩ := hd
  subst hnx
  intro H locs ls hl hW hS
  exact lv_ldcw hexec hb hown (hts _ hc) hd (kk H locs ls hl hW hS)

theorem g_ldc2_w {G : Gt} {d mc ms : Nat} {own : String} {y : Mt} {X : Xt} {P : Pt3} {pc nx : Nat} {lo : List (Option Value)} {st : List Value} {I : It} {h : Ht} {k n : Nat} {z : Nat} {v : Int64} (hX : Xok G own y X) (hd : dc y.2.1 pc (.ldc2_w z) 3 nx) (hc : Cond.constantLong own z v ∈ TG) (kk : GG G d mc ms X P nx lo (.long v :: st) I h k n) : GG G d mc ms X P pc lo (st) I h k n := by
  obtain ⟨p, l, e, s, m, args, below, meth, c⟩ := X
  obtain ⟨hexec, hb, hml, hown, hts, hKs, hGk, hlk, hrt, hnm⟩ := hX
  obtain ⟨hd, hnx⟩ := hd
  subst hnx
  intro H locs ls hl hW hS
  exact lv_ldc2 hexec hb hown (hts _ hc) hd (kk H locs ls hl hW hS)

theorem g_aconst_null {G : Gt} {d mc ms : Nat} {own : String} {y : Mt} {X : Xt} {P : Pt3} {pc nx : Nat} {lo : List (Option Value)} {st : List Value} {I : It} {h : Ht} {k n : Nat}  (hX : Xok G own y X) (hd : dc y.2.1 pc (.aconst_null) 1 nx) (kk : GG G d mc ms X P nx lo (.null :: st) I h k n) : GG G d mc ms X P pc lo (st) I h k n := by
  obtain ⟨p, l, e, s, m, args, below, meth, c⟩ := X
  obtain ⟨hexec, hb, hml, hown, hts, hKs, hGk, hlk, hrt, hnm⟩ := hX
  obtain ⟨hd, hnx⟩ := hd
  subst hnx
  intro H locs ls hl hW hS
  exact lv_null hexec hb hd (kk H locs ls hl hW hS)

theorem g_iadd {G : Gt} {d mc ms : Nat} {own : String} {y : Mt} {X : Xt} {P : Pt3} {pc nx : Nat} {lo : List (Option Value)} {st : List Value} {I : It} {h : Ht} {k n : Nat} {a b : Int32} (hX : Xok G own y X) (hd : dc y.2.1 pc (.iadd) 1 nx) (kk : GG G d mc ms X P nx lo (.int (a + b) :: st) I h k n) : GG G d mc ms X P pc lo (.int b :: .int a :: st) I h k n := by
  obtain ⟨p, l, e, s, m, args, below, meth, c⟩ := X
  obtain ⟨hexec, hb, hml, hown, hts, hKs, hGk, hlk, hrt, hnm⟩ := hX
  obtain ⟨hd, hnx⟩ := hd
  subst hnx
  intro H locs ls hl hW hS
  exact lv_iadd hexec hb hd (kk H locs ls hl hW hS)

theorem g_isub {G : Gt} {d mc ms : Nat} {own : String} {y : Mt} {X : Xt} {P : Pt3} {pc nx : Nat} {lo : List (Option Value)} {st : List Value} {I : It} {h : Ht} {k n : Nat} {a b : Int32} (hX : Xok G own y X) (hd : dc y.2.1 pc (.isub) 1 nx) (kk : GG G d mc ms X P nx lo (.int (a - b) :: st) I h k n) : GG G d mc ms X P pc lo (.int b :: .int a :: st) I h k n := by
  obtain ⟨p, l, e, s, m, args, below, meth, c⟩ := X
  obtain ⟨hexec, hb, hml, hown, hts, hKs, hGk, hlk, hrt, hnm⟩ := hX
  obtain ⟨hd, hnx⟩ := hd
  subst hnx
  intro H locs ls hl hW hS
  exact lv_isub hexec hb hd (kk H locs ls hl hW hS)

theorem g_imul {G : Gt} {d mc ms : Nat} {own : String} {y : Mt} {X : Xt} {P : Pt3} {pc nx : Nat} {lo : List (Option Value)} {st : List Value} {I : It} {h : Ht} {k n : Nat} {a b : Int32} (hX : Xok G own y X) (hd : dc y.2.1 pc (.imul) 1 nx) (kk : GG G d mc ms X P nx lo (.int (a * b) :: st) I h k n) : GG G d mc ms X P pc lo (.int b :: .int a :: st) I h k n := by
  obtain ⟨p, l, e, s, m, args, below, meth, c⟩ := X
  obtain ⟨hexec, hb, hml, hown, hts, hKs, hGk, hlk, hrt, hnm⟩ := hX
  obtain ⟨hd, hnx⟩ := hd
  subst hnx
  intro H locs ls hl hW hS
  exact lv_imul hexec hb hd (kk H locs ls hl hW hS)

theorem g_iand {G : Gt} {d mc ms : Nat} {own : String} {y : Mt} {X : Xt} {P : Pt3} {pc nx : Nat} {lo : List (Option Value)} {st : List Value} {I : It} {h : Ht} {k n : Nat} {a b : Int32} (hX : Xok G own y X) (hd : dc y.2.1 pc (.iand) 1 nx) (kk : GG G d mc ms X P nx lo (.int (a &&& b) :: st) I h k n) : GG G d mc ms X P pc lo (.int b :: .int a :: st) I h k n := by
  obtain ⟨p, l, e, s, m, args, below, meth, c⟩ := X
  obtain ⟨hexec, hb, hml, hown, hts, hKs, hGk, hlk, hrt, hnm⟩ := hX
  obtain ⟨hd, hnx⟩ := hd
  subst hnx
  intro H locs ls hl hW hS
  exact lv_iand hexec hb hd (kk H locs ls hl hW hS)

theorem g_ior {G : Gt} {d mc ms : Nat} {own : String} {y : Mt} {X : Xt} {P : Pt3} {pc nx : Nat} {lo : List (Option Value)} {st : List Value} {I : It} {h : Ht} {k n : Nat} {a b : Int32} (hX : Xok G own y X) (hd : dc y.2.1 pc (.ior) 1 nx) (kk : GG G d mc ms X P nx lo (.int (a ||| b) :: st) I h k n) : GG G d mc ms X P pc lo (.int b :: .int a :: st) I h k n := by
  obtain ⟨p, l, e, s, m, args, below, meth, c⟩ := X
  obtain ⟨hexec, hb, hml, hown, hts, hKs, hGk, hlk, hrt, hnm⟩ := hX
  obtain ⟨hd, hnx⟩ := hd
  subst hnx
  intro H locs ls hl hW hS
  exact lv_ior hexec hb hd (kk H locs ls hl hW hS)

theorem g_ixor {G : Gt} {d mc ms : Nat} {own : String} {y : Mt} {X : Xt} {P : Pt3} {pc nx : Nat} {lo : List (Option Value)} {st : List Value} {I : It} {h : Ht} {k n : Nat} {a b : Int32} (hX : Xok G own y X) (hd : dc y.2.1 pc (.ixor) 1 nx) (kk : GG G d mc ms X P nx lo (.int (a ^^^ b) :: st) I h k n) : GG G d mc ms X P pc lo (.int b :: .int a :: st) I h k n := by
  obtain ⟨p, l, e, s, m, args, below, meth, c⟩ := X
  obtain ⟨hexec, hb, hml, hown, hts, hKs, hGk, hlk, hrt, hnm⟩ := hX
  obtain ⟨hd, hnx⟩ := hd
  subst hnx
  intro H locs ls hl hW hS
  exact lv_ixor hexec hb hd (kk H locs ls hl hW hS)

theorem g_ishl {G : Gt} {d mc ms : Nat} {own : String} {y : Mt} {X : Xt} {P : Pt3} {pc nx : Nat} {lo : List (Option Value)} {st : List Value} {I : It} {h : Ht} {k n : Nat} {a b : Int32} (hX : Xok G own y X) (hd : dc y.2.1 pc (.ishl) 1 nx) (kk : GG G d mc ms X P nx lo (.int (a <<< (b &&& 31)) :: st) I h k n) : GG G d mc ms X P pc lo (.int b :: .int a :: st) I h k n := by
  obtain ⟨p, l, e, s, m, args, below, meth, c⟩ := X
  obtain ⟨hexec, hb, hml, hown, hts, hKs, hGk, hlk, hrt, hnm⟩ := hX
  obtain ⟨hd, hnx⟩ := hd
  subst hnx
  intro H locs ls hl hW hS
  exact lv_ishl hexec hb hd (kk H locs ls hl hW hS)

theorem g_ishr {G : Gt} {d mc ms : Nat} {own : String} {y : Mt} {X : Xt} {P : Pt3} {pc nx : Nat} {lo : List (Option Value)} {st : List Value} {I : It} {h : Ht} {k n : Nat} {a b : Int32} (hX : Xok G own y X) (hd : dc y.2.1 pc (.ishr) 1 nx) (kk : GG G d mc ms X P nx lo (.int (a >>> (b &&& 31)) :: st) I h k n) : GG G d mc ms X P pc lo (.int b :: .int a :: st) I h k n := by
  obtain ⟨p, l, e, s, m, args, below, meth, c⟩ := X
  obtain ⟨hexec, hb, hml, hown, hts, hKs, hGk, hlk, hrt, hnm⟩ := hX
  obtain ⟨hd, hnx⟩ := hd
  subst hnx
  intro H locs ls hl hW hS
  exact lv_ishr hexec hb hd (kk H locs ls hl hW hS)

theorem g_iushr {G : Gt} {d mc ms : Nat} {own : String} {y : Mt} {X : Xt} {P : Pt3} {pc nx : Nat} {lo : List (Option Value)} {st : List Value} {I : It} {h : Ht} {k n : Nat} {a b : Int32} (hX : Xok G own y X) (hd : dc y.2.1 pc (.iushr) 1 nx) (kk : GG G d mc ms X P nx lo (.int ((a.toUInt32 >>> (b.toUInt32 &&& Int32.toUInt32 31)).toInt32) :: st) I h k n) : GG G d mc ms X P pc lo (.int b :: .int a :: st) I h k n := by
  obtain ⟨p, l, e, s, m, args, below, meth, c⟩ := X
  obtain ⟨hexec, hb, hml, hown, hts, hKs, hGk, hlk, hrt, hnm⟩ := hX
  obtain ⟨hd, hnx⟩ := hd
  subst hnx
  intro H locs ls hl hW hS
  exact lv_iushr hexec hb hd rfl (kk H locs ls hl hW hS)

theorem g_idiv {G : Gt} {d mc ms : Nat} {own : String} {y : Mt} {X : Xt} {P : Pt3} {pc nx : Nat} {lo : List (Option Value)} {st : List Value} {I : It} {h : Ht} {k n : Nat} {a b : Int32} (hX : Xok G own y X) (hd : dc y.2.1 pc (.idiv) 1 nx) (hne : ¬ b = 0) (kk : GG G d mc ms X P nx lo (.int (a / b) :: st) I h k n) : GG G d mc ms X P pc lo (.int b :: .int a :: st) I h k n := by
  obtain ⟨p, l, e, s, m, args, below, meth, c⟩ := X
  obtain ⟨hexec, hb, hml, hown, hts, hKs, hGk, hlk, hrt, hnm⟩ := hX
  obtain ⟨hd, hnx⟩ := hd
  subst hnx
  intro H locs ls hl hW hS
  exact lv_idiv hexec hb hd hne (kk H locs ls hl hW hS)

theorem g_irem {G : Gt} {d mc ms : Nat} {own : String} {y : Mt} {X : Xt} {P : Pt3} {pc nx : Nat} {lo : List (Option Value)} {st : List Value} {I : It} {h : Ht} {k n : Nat} {a b : Int32} (hX : Xok G own y X) (hd : dc y.2.1 pc (.irem) 1 nx) (hne : ¬ b = 0) (kk : GG G d mc ms X P nx lo (.int (a - a / b * b) :: st) I h k n) : GG G d mc ms X P pc lo (.int b :: .int a :: st) I h k n := by
  obtain ⟨p, l, e, s, m, args, below, meth, c⟩ := X
  obtain ⟨hexec, hb, hml, hown, hts, hKs, hGk, hlk, hrt, hnm⟩ := hX
  obtain ⟨hd, hnx⟩ := hd
  subst hnx
  intro H locs ls hl hW hS
  exact lv_irem hexec hb hd hne (kk H locs ls hl hW hS)

theorem g_ineg {G : Gt} {d mc ms : Nat} {own : String} {y : Mt} {X : Xt} {P : Pt3} {pc nx : Nat} {lo : List (Option Value)} {st : List Value} {I : It} {h : Ht} {k n : Nat} {a : Int32} (hX : Xok G own y X) (hd : dc y.2.1 pc (.ineg) 1 nx) (kk : GG G d mc ms X P nx lo (.int (-a) :: st) I h k n) : GG G d mc ms X P pc lo (.int a :: st) I h k n := by
  obtain ⟨p, l, e, s, m, args, below, meth, c⟩ := X
  obtain ⟨hexec, hb, hml, hown, hts, hKs, hGk, hlk, hrt, hnm⟩ := hX
  obtain ⟨hd, hnx⟩ := hd
  subst hnx
  intro H locs ls hl hW hS
  exact lv_ineg hexec hb hd (kk H locs ls hl hW hS)

theorem g_lmul {G : Gt} {d mc ms : Nat} {own : String} {y : Mt} {X : Xt} {P : Pt3} {pc nx : Nat} {lo : List (Option Value)} {st : List Value} {I : It} {h : Ht} {k n : Nat} {a b : Int64} (hX : Xok G own y X) (hd : dc y.2.1 pc (.lmul) 1 nx) (kk : GG G d mc ms X P nx lo (.long (a * b) :: st) I h k n) : GG G d mc ms X P pc lo (.long b :: .long a :: st) I h k n := by
  obtain ⟨p, l, e, s, m, args, below, meth, c⟩ := X
  obtain ⟨hexec, hb, hml, hown, hts, hKs, hGk, hlk, hrt, hnm⟩ := hX
  obtain ⟨hd, hnx⟩ := hd
  subst hnx
  intro H locs ls hl hW hS
  exact lv_lmul hexec hb hd (kk H locs ls hl hW hS)

theorem g_land {G : Gt} {d mc ms : Nat} {own : String} {y : Mt} {X : Xt} {P : Pt3} {pc nx : Nat} {lo : List (Option Value)} {st : List Value} {I : It} {h : Ht} {k n : Nat} {a b : Int64} (hX : Xok G own y X) (hd : dc y.2.1 pc (.land) 1 nx) (kk : GG G d mc ms X P nx lo (.long (a &&& b) :: st) I h k n) : GG G d mc ms X P pc lo (.long b :: .long a :: st) I h k n := by
  obtain ⟨p, l, e, s, m, args, below, meth, c⟩ := X
  obtain ⟨hexec, hb, hml, hown, hts, hKs, hGk, hlk, hrt, hnm⟩ := hX
  obtain ⟨hd, hnx⟩ := hd
  subst hnx
  intro H locs ls hl hW hS
  exact lv_land hexec hb hd (kk H locs ls hl hW hS)

theorem g_lor {G : Gt} {d mc ms : Nat} {own : String} {y : Mt} {X : Xt} {P : Pt3} {pc nx : Nat} {lo : List (Option Value)} {st : List Value} {I : It} {h : Ht} {k n : Nat} {a b : Int64} (hX : Xok G own y X) (hd : dc y.2.1 pc (.lor) 1 nx) (kk : GG G d mc ms X P nx lo (.long (a ||| b) :: st) I h k n) : GG G d mc ms X P pc lo (.long b :: .long a :: st) I h k n := by
  obtain ⟨p, l, e, s, m, args, below, meth, c⟩ := X
  obtain ⟨hexec, hb, hml, hown, hts, hKs, hGk, hlk, hrt, hnm⟩ := hX
  obtain ⟨hd, hnx⟩ := hd
  subst hnx
  intro H locs ls hl hW hS
  exact lv_lor hexec hb hd (kk H locs ls hl hW hS)

theorem g_ldiv {G : Gt} {d mc ms : Nat} {own : String} {y : Mt} {X : Xt} {P : Pt3} {pc nx : Nat} {lo : List (Option Value)} {st : List Value} {I : It} {h : Ht} {k n : Nat} {a b : Int64} (hX : Xok G own y X) (hd : dc y.2.1 pc (.ldiv) 1 nx) (hne : ¬ b = 0) (kk : GG G d mc ms X P nx lo (.long (a / b) :: st) I h k n) : GG G d mc ms X P pc lo (.long b :: .long a :: st) I h k n := by
  obtain ⟨p, l, e, s, m, args, below, meth, c⟩ := X
  obtain ⟨hexec, hb, hml, hown, hts, hKs, hGk, hlk, hrt, hnm⟩ := hX
  obtain ⟨hd, hnx⟩ := hd
  subst hnx
  intro H locs ls hl hW hS
  exact lv_ldiv hexec hb hd hne (kk H locs ls hl hW hS)

theorem g_lrem {G : Gt} {d mc ms : Nat} {own : String} {y : Mt} {X : Xt} {P : Pt3} {pc nx : Nat} {lo : List (Option Value)} {st : List Value} {I : It} {h : Ht} {k n : Nat} {a b : Int64} (hX : Xok G own y X) (hd : dc y.2.1 pc (.lrem) 1 nx) (hne : ¬ b = 0) (kk : GG G d mc ms X P nx lo (.long (a - a / b * b) :: st) I h k n) : GG G d mc ms X P pc lo (.long b :: .long a :: st) I h k n := by
  obtain ⟨p, l, e, s, m, args, below, meth, c⟩ := X
  obtain ⟨hexec, hb, hml, hown, hts, hKs, hGk, hlk, hrt, hnm⟩ := hX
  obtain ⟨hd, hnx⟩ := hd
  subst hnx
  intro H locs ls hl hW hS
  exact lv_lrem hexec hb hd hne (kk H locs ls hl hW hS)

theorem g_lshl {G : Gt} {d mc ms : Nat} {own : String} {y : Mt} {X : Xt} {P : Pt3} {pc nx : Nat} {lo : List (Option Value)} {st : List Value} {I : It} {h : Ht} {k n : Nat} {a : Int64} {b : Int32} (hX : Xok G own y X) (hd : dc y.2.1 pc (.lshl) 1 nx) (kk : GG G d mc ms X P nx lo (.long (a <<< (b.toInt64 &&& 63)) :: st) I h k n) : GG G d mc ms X P pc lo (.int b :: .long a :: st) I h k n := by
  obtain ⟨p, l, e, s, m, args, below, meth, c⟩ := X
  obtain ⟨hexec, hb, hml, hown, hts, hKs, hGk, hlk, hrt, hnm⟩ := hX
  obtain ⟨hd, hnx⟩ := hd
  subst hnx
  intro H locs ls hl hW hS
  exact lv_lshl hexec hb hd rfl (kk H locs ls hl hW hS)

theorem g_i2l {G : Gt} {d mc ms : Nat} {own : String} {y : Mt} {X : Xt} {P : Pt3} {pc nx : Nat} {lo : List (Option Value)} {st : List Value} {I : It} {h : Ht} {k n : Nat} {a : Int32} (hX : Xok G own y X) (hd : dc y.2.1 pc (.i2l) 1 nx) (kk : GG G d mc ms X P nx lo (.long a.toInt64 :: st) I h k n) : GG G d mc ms X P pc lo (.int a :: st) I h k n := by
  obtain ⟨p, l, e, s, m, args, below, meth, c⟩ := X
  obtain ⟨hexec, hb, hml, hown, hts, hKs, hGk, hlk, hrt, hnm⟩ := hX
  obtain ⟨hd, hnx⟩ := hd
  subst hnx
  intro H locs ls hl hW hS
  exact lv_i2l hexec hb hd rfl (kk H locs ls hl hW hS)

theorem g_l2i {G : Gt} {d mc ms : Nat} {own : String} {y : Mt} {X : Xt} {P : Pt3} {pc nx : Nat} {lo : List (Option Value)} {st : List Value} {I : It} {h : Ht} {k n : Nat} {a : Int64} (hX : Xok G own y X) (hd : dc y.2.1 pc (.l2i) 1 nx) (kk : GG G d mc ms X P nx lo (.int a.toInt32 :: st) I h k n) : GG G d mc ms X P pc lo (.long a :: st) I h k n := by
  obtain ⟨p, l, e, s, m, args, below, meth, c⟩ := X
  obtain ⟨hexec, hb, hml, hown, hts, hKs, hGk, hlk, hrt, hnm⟩ := hX
  obtain ⟨hd, hnx⟩ := hd
  subst hnx
  intro H locs ls hl hW hS
  exact lv_l2i hexec hb hd rfl (kk H locs ls hl hW hS)

theorem g_i2b {G : Gt} {d mc ms : Nat} {own : String} {y : Mt} {X : Xt} {P : Pt3} {pc nx : Nat} {lo : List (Option Value)} {st : List Value} {I : It} {h : Ht} {k n : Nat} {a : Int32} (hX : Xok G own y X) (hd : dc y.2.1 pc (.i2b) 1 nx) (kk : GG G d mc ms X P nx lo (.int a.toInt8.toInt32 :: st) I h k n) : GG G d mc ms X P pc lo (.int a :: st) I h k n := by
  obtain ⟨p, l, e, s, m, args, below, meth, c⟩ := X
  obtain ⟨hexec, hb, hml, hown, hts, hKs, hGk, hlk, hrt, hnm⟩ := hX
  obtain ⟨hd, hnx⟩ := hd
  subst hnx
  intro H locs ls hl hW hS
  exact lv_i2b hexec hb hd rfl (kk H locs ls hl hW hS)

theorem g_i2s {G : Gt} {d mc ms : Nat} {own : String} {y : Mt} {X : Xt} {P : Pt3} {pc nx : Nat} {lo : List (Option Value)} {st : List Value} {I : It} {h : Ht} {k n : Nat} {a : Int32} (hX : Xok G own y X) (hd : dc y.2.1 pc (.i2s) 1 nx) (kk : GG G d mc ms X P nx lo (.int a.toInt16.toInt32 :: st) I h k n) : GG G d mc ms X P pc lo (.int a :: st) I h k n := by
  obtain ⟨p, l, e, s, m, args, below, meth, c⟩ := X
  obtain ⟨hexec, hb, hml, hown, hts, hKs, hGk, hlk, hrt, hnm⟩ := hX
  obtain ⟨hd, hnx⟩ := hd
  subst hnx
  intro H locs ls hl hW hS
  exact lv_i2s hexec hb hd rfl (kk H locs ls hl hW hS)

theorem g_lcmp {G : Gt} {d mc ms : Nat} {own : String} {y : Mt} {X : Xt} {P : Pt3} {pc nx : Nat} {lo : List (Option Value)} {st : List Value} {I : It} {h : Ht} {k n : Nat} {a b : Int64} (hX : Xok G own y X) (hd : dc y.2.1 pc (.lcmp) 1 nx) (kk : GG G d mc ms X P nx lo (.int (lg_cmp a b) :: st) I h k n) : GG G d mc ms X P pc lo (.long b :: .long a :: st) I h k n := by
  obtain ⟨p, l, e, s, m, args, below, meth, c⟩ := X
  obtain ⟨hexec, hb, hml, hown, hts, hKs, hGk, hlk, hrt, hnm⟩ := hX
  obtain ⟨hd, hnx⟩ := hd
  subst hnx
  intro H locs ls hl hW hS
  exact W.lcmp hexec hb hd (kk H locs ls hl hW hS)

theorem g_dup {G : Gt} {d mc ms : Nat} {own : String} {y : Mt} {X : Xt} {P : Pt3} {pc nx : Nat} {lo : List (Option Value)} {st : List Value} {I : It} {h : Ht} {k n : Nat} {v : Value} (hX : Xok G own y X) (hd : dc y.2.1 pc (.dup) 1 nx) (hv : v.category = 1) (kk : GG G d mc ms X P nx lo (v :: v :: st) I h k n) : GG G d mc ms X P pc lo (v :: st) I h k n := by
  obtain ⟨p, l, e, s, m, args, below, meth, c⟩ := X
  obtain ⟨hexec, hb, hml, hown, hts, hKs, hGk, hlk, hrt, hnm⟩ := hX
  obtain ⟨hd, hnx⟩ := hd
  subst hnx
  intro H locs ls hl hW hS
  exact lv_dup hexec hb hd (by rw [cv_cat]; exact hv) (kk H locs ls hl hW hS)

theorem g_dup2 {G : Gt} {d mc ms : Nat} {own : String} {y : Mt} {X : Xt} {P : Pt3} {pc nx : Nat} {lo : List (Option Value)} {st : List Value} {I : It} {h : Ht} {k n : Nat} {v w : Value} (hX : Xok G own y X) (hd : dc y.2.1 pc (.dup2) 1 nx) (hv : v.category = 1) (hw : w.category = 1) (kk : GG G d mc ms X P nx lo (v :: w :: v :: w :: st) I h k n) : GG G d mc ms X P pc lo (v :: w :: st) I h k n := by
  obtain ⟨p, l, e, s, m, args, below, meth, c⟩ := X
  obtain ⟨hexec, hb, hml, hown, hts, hKs, hGk, hlk, hrt, hnm⟩ := hX
  obtain ⟨hd, hnx⟩ := hd
  subst hnx
  intro H locs ls hl hW hS
  exact lv_dup2_11 hexec hb hd (by rw [cv_cat]; exact hv) (by rw [cv_cat]; exact hw) (kk H locs ls hl hW hS)

theorem g_dup2l {G : Gt} {d mc ms : Nat} {own : String} {y : Mt} {X : Xt} {P : Pt3} {pc nx : Nat} {lo : List (Option Value)} {st : List Value} {I : It} {h : Ht} {k n : Nat} {a : Int64} (hX : Xok G own y X) (hd : dc y.2.1 pc (.dup2) 1 nx) (kk : GG G d mc ms X P nx lo (.long a :: .long a :: st) I h k n) : GG G d mc ms X P pc lo (.long a :: st) I h k n := by
  obtain ⟨p, l, e, s, m, args, below, meth, c⟩ := X
  obtain ⟨hexec, hb, hml, hown, hts, hKs, hGk, hlk, hrt, hnm⟩ := hX
  obtain ⟨hd, hnx⟩ := hd
  subst hnx
  intro H locs ls hl hW hS
  exact lv_dup2_2 hexec hb hd rfl (kk H locs ls hl hW hS)

theorem g_pop {G : Gt} {d mc ms : Nat} {own : String} {y : Mt} {X : Xt} {P : Pt3} {pc nx : Nat} {lo : List (Option Value)} {st : List Value} {I : It} {h : Ht} {k n : Nat} {v : Value} (hX : Xok G own y X) (hd : dc y.2.1 pc (.pop) 1 nx) (hv : v.category = 1) (kk : GG G d mc ms X P nx lo (st) I h k n) : GG G d mc ms X P pc lo (v :: st) I h k n := by
  obtain ⟨p, l, e, s, m, args, below, meth, c⟩ := X
  obtain ⟨hexec, hb, hml, hown, hts, hKs, hGk, hlk, hrt, hnm⟩ := hX
  obtain ⟨hd, hnx⟩ := hd
  subst hnx
  intro H locs ls hl hW hS
  exact lv_pop hexec hb hd (by rw [cv_cat]; exact hv) (kk H locs ls hl hW hS)

theorem g_iload_0 {G : Gt} {d mc ms : Nat} {own : String} {y : Mt} {X : Xt} {P : Pt3} {pc nx : Nat} {st : List Value} {I : It} {h : Ht} {k n : Nat} {rs : List (Option Value)} {x : Int32} (hX : Xok G own y X) (hd : dc y.2.1 pc (.iload_n 0) 1 nx) (kk : GG G d mc ms X P nx (some (.int x) :: rs) (.int x :: st) I h k n) : GG G d mc ms X P pc (some (.int x) :: rs) (st) I h k n := by
  obtain ⟨p, l, e, s, m, args, below, meth, c⟩ := X
  obtain ⟨hexec, hb, hml, hown, hts, hKs, hGk, hlk, hrt, hnm⟩ := hX
  obtain ⟨hd, hnx⟩ := hd
  subst hnx
  intro H locs ls hl hW hS
  exact lv_iload_n hexec hb hd rfl (lpr_at hl (i := 0) rfl) (kk H locs ls hl hW hS)

theorem g_lload_0 {G : Gt} {d mc ms : Nat} {own : String} {y : Mt} {X : Xt} {P : Pt3} {pc nx : Nat} {st : List Value} {I : It} {h : Ht} {k n : Nat} {rs : List (Option Value)} {x : Int64} (hX : Xok G own y X) (hd : dc y.2.1 pc (.lload_n 0) 1 nx) (kk : GG G d mc ms X P nx (some (.long x) :: rs) (.long x :: st) I h k n) : GG G d mc ms X P pc (some (.long x) :: rs) (st) I h k n := by
  obtain ⟨p, l, e, s, m, args, below, meth, c⟩ := X
  obtain ⟨hexec, hb, hml, hown, hts, hKs, hGk, hlk, hrt, hnm⟩ := hX
  obtain ⟨hd, hnx⟩ := hd
  subst hnx
  intro H locs ls hl hW hS
  exact lv_lload_n hexec hb hd rfl (lpr_at hl (i := 0) rfl) (kk H locs ls hl hW hS)

theorem g_aload_0 {G : Gt} {d mc ms : Nat} {own : String} {y : Mt} {X : Xt} {P : Pt3} {pc nx : Nat} {st : List Value} {I : It} {h : Ht} {k n : Nat} {rs : List (Option Value)} {x : Nat} (hX : Xok G own y X) (hd : dc y.2.1 pc (.aload_n 0) 1 nx) (kk : GG G d mc ms X P nx (some (.ref x) :: rs) (.ref x :: st) I h k n) : GG G d mc ms X P pc (some (.ref x) :: rs) (st) I h k n := by
  obtain ⟨p, l, e, s, m, args, below, meth, c⟩ := X
  obtain ⟨hexec, hb, hml, hown, hts, hKs, hGk, hlk, hrt, hnm⟩ := hX
  obtain ⟨hd, hnx⟩ := hd
  subst hnx
  intro H locs ls hl hW hS
  exact lv_aload_n hexec hb hd rfl (lpr_at hl (i := 0) rfl) (kk H locs ls hl hW hS)

theorem g_aloadN_0 {G : Gt} {d mc ms : Nat} {own : String} {y : Mt} {X : Xt} {P : Pt3} {pc nx : Nat} {st : List Value} {I : It} {h : Ht} {k n : Nat} {rs : List (Option Value)}  (hX : Xok G own y X) (hd : dc y.2.1 pc (.aload_n 0) 1 nx) (kk : GG G d mc ms X P nx (some .null :: rs) (.null :: st) I h k n) : GG G d mc ms X P pc (some .null :: rs) (st) I h k n := by
  obtain ⟨p, l, e, s, m, args, below, meth, c⟩ := X
  obtain ⟨hexec, hb, hml, hown, hts, hKs, hGk, hlk, hrt, hnm⟩ := hX
  obtain ⟨hd, hnx⟩ := hd
  subst hnx
  intro H locs ls hl hW hS
  exact lv_aload_nN hexec hb hd rfl (lpr_at hl (i := 0) rfl) (kk H locs ls hl hW hS)

theorem g_istore_0 {G : Gt} {d mc ms : Nat} {own : String} {y : Mt} {X : Xt} {P : Pt3} {pc nx : Nat} {st : List Value} {I : It} {h : Ht} {k n : Nat} {rs : List (Option Value)} {z : Option Value} {x : Int32} (hX : Xok G own y X) (hd : dc y.2.1 pc (.istore_n 0) 1 nx) (hi : 0 < y.2.2.1) (ha : ahd (z :: rs) 0 = true) (kk : GG G d mc ms X P nx (some (.int x) :: rs) st I h k n) : GG G d mc ms X P pc (z :: rs) (.int x :: st) I h k n := by
  obtain ⟨p, l, e, s, m, args, below, meth, c⟩ := X
  obtain ⟨hexec, hb, hml, hown, hts, hKs, hGk, hlk, hrt, hnm⟩ := hX
  obtain ⟨hd, hnx⟩ := hd
  subst hnx
  intro H locs ls hl hW hS
  refine lv_istore_n hexec hb hd rfl hl (by rw [hml]; exact hi) rfl (fun ls2 hl2 => ?_)
  exact kk H locs ls2 (lv_fewer hl2 (lpr_set (lo := z :: rs) (i := 0) (v := .int x) ha (by simp))) hW hS

theorem g_astore_0 {G : Gt} {d mc ms : Nat} {own : String} {y : Mt} {X : Xt} {P : Pt3} {pc nx : Nat} {st : List Value} {I : It} {h : Ht} {k n : Nat} {rs : List (Option Value)} {z : Option Value} {x : Nat} (hX : Xok G own y X) (hd : dc y.2.1 pc (.astore_n 0) 1 nx) (hi : 0 < y.2.2.1) (ha : ahd (z :: rs) 0 = true) (kk : GG G d mc ms X P nx (some (.ref x) :: rs) st I h k n) : GG G d mc ms X P pc (z :: rs) (.ref x :: st) I h k n := by
  obtain ⟨p, l, e, s, m, args, below, meth, c⟩ := X
  obtain ⟨hexec, hb, hml, hown, hts, hKs, hGk, hlk, hrt, hnm⟩ := hX
  obtain ⟨hd, hnx⟩ := hd
  subst hnx
  intro H locs ls hl hW hS
  refine lv_astore_n hexec hb hd rfl hl (by rw [hml]; exact hi) rfl (fun ls2 hl2 => ?_)
  exact kk H locs ls2 (lv_fewer hl2 (lpr_set (lo := z :: rs) (i := 0) (v := .ref x) ha (by simp))) hW hS

theorem g_astoreN_0 {G : Gt} {d mc ms : Nat} {own : String} {y : Mt} {X : Xt} {P : Pt3} {pc nx : Nat} {st : List Value} {I : It} {h : Ht} {k n : Nat} {rs : List (Option Value)} {z : Option Value}  (hX : Xok G own y X) (hd : dc y.2.1 pc (.astore_n 0) 1 nx) (hi : 0 < y.2.2.1) (ha : ahd (z :: rs) 0 = true) (kk : GG G d mc ms X P nx (some (.null) :: rs) st I h k n) : GG G d mc ms X P pc (z :: rs) (.null :: st) I h k n := by
  obtain ⟨p, l, e, s, m, args, below, meth, c⟩ := X
  obtain ⟨hexec, hb, hml, hown, hts, hKs, hGk, hlk, hrt, hnm⟩ := hX
  obtain ⟨hd, hnx⟩ := hd
  subst hnx
  intro H locs ls hl hW hS
  refine lv_astore_nN hexec hb hd rfl hl (by rw [hml]; exact hi) rfl (fun ls2 hl2 => ?_)
  exact kk H locs ls2 (lv_fewer hl2 (lpr_set (lo := z :: rs) (i := 0) (v := .null) ha (by simp))) hW hS

theorem g_lstore_0 {G : Gt} {d mc ms : Nat} {own : String} {y : Mt} {X : Xt} {P : Pt3} {pc nx : Nat} {st : List Value} {I : It} {h : Ht} {k n : Nat} {rs : List (Option Value)} {z z2 : Option Value} {x : Int64} (hX : Xok G own y X) (hd : dc y.2.1 pc (.lstore_n 0) 1 nx) (hi : 0 + 1 < y.2.2.1) (ha : ahd (z :: z2 :: rs) 0 = true) (kk : GG G d mc ms X P nx (some (.long x) :: none :: rs) st I h k n) : GG G d mc ms X P pc (z :: z2 :: rs) (.long x :: st) I h k n := by
  obtain ⟨p, l, e, s, m, args, below, meth, c⟩ := X
  obtain ⟨hexec, hb, hml, hown, hts, hKs, hGk, hlk, hrt, hnm⟩ := hX
  obtain ⟨hd, hnx⟩ := hd
  subst hnx
  intro H locs ls hl hW hS
  refine lv_lstore_n hexec hb hd rfl hl (by rw [hml]; exact hi) rfl (fun ls2 hl2 => ?_)
  exact kk H locs ls2 (lv_fewer hl2 (lpr_set2 (lo := z :: z2 :: rs) (i := 0) (v := .long x) ha (by simp))) hW hS

theorem g_iinc_0 {G : Gt} {d mc ms : Nat} {own : String} {y : Mt} {X : Xt} {P : Pt3} {pc nx : Nat} {st : List Value} {I : It} {h : Ht} {k n : Nat} {rs : List (Option Value)} {x v : Int32} {z : Int} (hX : Xok G own y X) (hd : dc y.2.1 pc (.iinc 0 z) 3 nx) (hv : x + Int32.ofInt z = v) (hi : 0 < y.2.2.1) (ha : ahd (some (.int x) :: rs) 0 = true) (kk : GG G d mc ms X P nx (some (.int v) :: rs) st I h k n) : GG G d mc ms X P pc (some (.int x) :: rs) st I h k n := by
  obtain ⟨p, l, e, s, m, args, below, meth, c⟩ := X
  obtain ⟨hexec, hb, hml, hown, hts, hKs, hGk, hlk, hrt, hnm⟩ := hX
  obtain ⟨hd, hnx⟩ := hd
  subst hnx
  intro H locs ls hl hW hS
  have hmem : (0, Value.int x) ∈ lpr G 0 (some (.int x) :: rs) := (lpr_mem _ 0 _).mpr ⟨0, .int x, rfl, by simp [cv]⟩
  obtain ⟨kq, hkq⟩ := List.getElem?_of_mem hmem
  refine lv_iinc hexec hb hd hl hkq hv (by rw [hml]; exact hi) rfl (fun ls2 hl2 => ?_)
  exact kk H locs ls2 (lv_fewer hl2 (lpr_set (lo := some (.int x) :: rs) (i := 0) (v := .int v) ha (by simp))) hW hS

theorem g_iload_1 {G : Gt} {d mc ms : Nat} {own : String} {y : Mt} {X : Xt} {P : Pt3} {pc nx : Nat} {st : List Value} {I : It} {h : Ht} {k n : Nat} {a0 : Option Value} {rs : List (Option Value)} {x : Int32} (hX : Xok G own y X) (hd : dc y.2.1 pc (.iload_n 1) 1 nx) (kk : GG G d mc ms X P nx (a0 :: some (.int x) :: rs) (.int x :: st) I h k n) : GG G d mc ms X P pc (a0 :: some (.int x) :: rs) (st) I h k n := by
  obtain ⟨p, l, e, s, m, args, below, meth, c⟩ := X
  obtain ⟨hexec, hb, hml, hown, hts, hKs, hGk, hlk, hrt, hnm⟩ := hX
  obtain ⟨hd, hnx⟩ := hd
  subst hnx
  intro H locs ls hl hW hS
  exact lv_iload_n hexec hb hd rfl (lpr_at hl (i := 1) rfl) (kk H locs ls hl hW hS)

theorem g_lload_1 {G : Gt} {d mc ms : Nat} {own : String} {y : Mt} {X : Xt} {P : Pt3} {pc nx : Nat} {st : List Value} {I : It} {h : Ht} {k n : Nat} {a0 : Option Value} {rs : List (Option Value)} {x : Int64} (hX : Xok G own y X) (hd : dc y.2.1 pc (.lload_n 1) 1 nx) (kk : GG G d mc ms X P nx (a0 :: some (.long x) :: rs) (.long x :: st) I h k n) : GG G d mc ms X P pc (a0 :: some (.long x) :: rs) (st) I h k n := by
  obtain ⟨p, l, e, s, m, args, below, meth, c⟩ := X
  obtain ⟨hexec, hb, hml, hown, hts, hKs, hGk, hlk, hrt, hnm⟩ := hX
  obtain ⟨hd, hnx⟩ := hd
  subst hnx
  intro H locs ls hl hW hS
  exact lv_lload_n hexec hb hd rfl (lpr_at hl (i := 1) rfl) (kk H locs ls hl hW hS)

theorem g_aload_1 {G : Gt} {d mc ms : Nat} {own : String} {y : Mt} {X : Xt} {P : Pt3} {pc nx : Nat} {st : List Value} {I : It} {h : Ht} {k n : Nat} {a0 : Option Value} {rs : List (Option Value)} {x : Nat} (hX : Xok G own y X) (hd : dc y.2.1 pc (.aload_n 1) 1 nx) (kk : GG G d mc ms X P nx (a0 :: some (.ref x) :: rs) (.ref x :: st) I h k n) : GG G d mc ms X P pc (a0 :: some (.ref x) :: rs) (st) I h k n := by
  obtain ⟨p, l, e, s, m, args, below, meth, c⟩ := X
  obtain ⟨hexec, hb, hml, hown, hts, hKs, hGk, hlk, hrt, hnm⟩ := hX
  obtain ⟨hd, hnx⟩ := hd
  subst hnx
  intro H locs ls hl hW hS
  exact lv_aload_n hexec hb hd rfl (lpr_at hl (i := 1) rfl) (kk H locs ls hl hW hS)

theorem g_aloadN_1 {G : Gt} {d mc ms : Nat} {own : String} {y : Mt} {X : Xt} {P : Pt3} {pc nx : Nat} {st : List Value} {I : It} {h : Ht} {k n : Nat} {a0 : Option Value} {rs : List (Option Value)}  (hX : Xok G own y X) (hd : dc y.2.1 pc (.aload_n 1) 1 nx) (kk : GG G d mc ms X P nx (a0 :: some .null :: rs) (.null :: st) I h k n) : GG G d mc ms X P pc (a0 :: some .null :: rs) (st) I h k n := by
  obtain ⟨p, l, e, s, m, args, below, meth, c⟩ := X
  obtain ⟨hexec, hb, hml, hown, hts, hKs, hGk, hlk, hrt, hnm⟩ := hX
  obtain ⟨hd, hnx⟩ := hd
  subst hnx
  intro H locs ls hl hW hS
  exact lv_aload_nN hexec hb hd rfl (lpr_at hl (i := 1) rfl) (kk H locs ls hl hW hS)

theorem g_istore_1 {G : Gt} {d mc ms : Nat} {own : String} {y : Mt} {X : Xt} {P : Pt3} {pc nx : Nat} {st : List Value} {I : It} {h : Ht} {k n : Nat} {a0 : Option Value} {rs : List (Option Value)} {z : Option Value} {x : Int32} (hX : Xok G own y X) (hd : dc y.2.1 pc (.istore_n 1) 1 nx) (hi : 1 < y.2.2.1) (ha : ahd (a0 :: z :: rs) 1 = true) (kk : GG G d mc ms X P nx (a0 :: some (.int x) :: rs) st I h k n) : GG G d mc ms X P pc (a0 :: z :: rs) (.int x :: st) I h k n := by
  obtain ⟨p, l, e, s, m, args, below, meth, c⟩ := X
  obtain ⟨hexec, hb, hml, hown, hts, hKs, hGk, hlk, hrt, hnm⟩ := hX
  obtain ⟨hd, hnx⟩ := hd
  subst hnx
  intro H locs ls hl hW hS
  refine lv_istore_n hexec hb hd rfl hl (by rw [hml]; exact hi) rfl (fun ls2 hl2 => ?_)
  exact kk H locs ls2 (lv_fewer hl2 (lpr_set (lo := a0 :: z :: rs) (i := 1) (v := .int x) ha (by simp))) hW hS

theorem g_astore_1 {G : Gt} {d mc ms : Nat} {own : String} {y : Mt} {X : Xt} {P : Pt3} {pc nx : Nat} {st : List Value} {I : It} {h : Ht} {k n : Nat} {a0 : Option Value} {rs : List (Option Value)} {z : Option Value} {x : Nat} (hX : Xok G own y X) (hd : dc y.2.1 pc (.astore_n 1) 1 nx) (hi : 1 < y.2.2.1) (ha : ahd (a0 :: z :: rs) 1 = true) (kk : GG G d mc ms X P nx (a0 :: some (.ref x) :: rs) st I h k n) : GG G d mc ms X P pc (a0 :: z :: rs) (.ref x :: st) I h k n := by
  obtain ⟨p, l, e, s, m, args, below, meth, c⟩ := X
  obtain ⟨hexec, hb, hml, hown, hts, hKs, hGk, hlk, hrt, hnm⟩ := hX
  obtain ⟨hd, hnx⟩ := hd
  subst hnx
  intro H locs ls hl hW hS
  refine lv_astore_n hexec hb hd rfl hl (by rw [hml]; exact hi) rfl (fun ls2 hl2 => ?_)
  exact kk H locs ls2 (lv_fewer hl2 (lpr_set (lo := a0 :: z :: rs) (i := 1) (v := .ref x) ha (by simp))) hW hS

theorem g_astoreN_1 {G : Gt} {d mc ms : Nat} {own : String} {y : Mt} {X : Xt} {P : Pt3} {pc nx : Nat} {st : List Value} {I : It} {h : Ht} {k n : Nat} {a0 : Option Value} {rs : List (Option Value)} {z : Option Value}  (hX : Xok G own y X) (hd : dc y.2.1 pc (.astore_n 1) 1 nx) (hi : 1 < y.2.2.1) (ha : ahd (a0 :: z :: rs) 1 = true) (kk : GG G d mc ms X P nx (a0 :: some (.null) :: rs) st I h k n) : GG G d mc ms X P pc (a0 :: z :: rs) (.null :: st) I h k n := by
  obtain ⟨p, l, e, s, m, args, below, meth, c⟩ := X
  obtain ⟨hexec, hb, hml, hown, hts, hKs, hGk, hlk, hrt, hnm⟩ := hX
  obtain ⟨hd, hnx⟩ := hd
  subst hnx
  intro H locs ls hl hW hS
  refine lv_astore_nN hexec hb hd rfl hl (by rw [hml]; exact hi) rfl (fun ls2 hl2 => ?_)
  exact kk H locs ls2 (lv_fewer hl2 (lpr_set (lo := a0 :: z :: rs) (i := 1) (v := .null) ha (by simp))) hW hS

theorem g_lstore_1 {G : Gt} {d mc ms : Nat} {own : String} {y : Mt} {X : Xt} {P : Pt3} {pc nx : Nat} {st : List Value} {I : It} {h : Ht} {k n : Nat} {a0 : Option Value} {rs : List (Option Value)} {z z2 : Option Value} {x : Int64} (hX : Xok G own y X) (hd : dc y.2.1 pc (.lstore_n 1) 1 nx) (hi : 1 + 1 < y.2.2.1) (ha : ahd (a0 :: z :: z2 :: rs) 1 = true) (kk : GG G d mc ms X P nx (a0 :: some (.long x) :: none :: rs) st I h k n) : GG G d mc ms X P pc (a0 :: z :: z2 :: rs) (.long x :: st) I h k n := by
  obtain ⟨p, l, e, s, m, args, below, meth, c⟩ := X
  obtain ⟨hexec, hb, hml, hown, hts, hKs, hGk, hlk, hrt, hnm⟩ := hX
  obtain ⟨hd, hnx⟩ := hd
  subst hnx
  intro H locs ls hl hW hS
  refine lv_lstore_n hexec hb hd rfl hl (by rw [hml]; exact hi) rfl (fun ls2 hl2 => ?_)
  exact kk H locs ls2 (lv_fewer hl2 (lpr_set2 (lo := a0 :: z :: z2 :: rs) (i := 1) (v := .long x) ha (by simp))) hW hS

theorem g_iinc_1 {G : Gt} {d mc ms : Nat} {own : String} {y : Mt} {X : Xt} {P : Pt3} {pc nx : Nat} {st : List Value} {I : It} {h : Ht} {k n : Nat} {a0 : Option Value} {rs : List (Option Value)} {x v : Int32} {z : Int} (hX : Xok G own y X) (hd : dc y.2.1 pc (.iinc 1 z) 3 nx) (hv : x + Int32.ofInt z = v) (hi : 1 < y.2.2.1) (ha : ahd (a0 :: some (.int x) :: rs) 1 = true) (kk : GG G d mc ms X P nx (a0 :: some (.int v) :: rs) st I h k n) : GG G d mc ms X P pc (a0 :: some (.int x) :: rs) st I h k n := by
  obtain ⟨p, l, e, s, m, args, below, meth, c⟩ := X
  obtain ⟨hexec, hb, hml, hown, hts, hKs, hGk, hlk, hrt, hnm⟩ := hX
  obtain ⟨hd, hnx⟩ := hd
  subst hnx
  intro H locs ls hl hW hS
  have hmem : (1, Value.int x) ∈ lpr G 0 (a0 :: some (.int x) :: rs) := (lpr_mem _ 0 _).mpr ⟨1, .int x, rfl, by simp [cv]⟩
  obtain ⟨kq, hkq⟩ := List.getElem?_of_mem hmem
  refine lv_iinc hexec hb hd hl hkq hv (by rw [hml]; exact hi) rfl (fun ls2 hl2 => ?_)
  exact kk H locs ls2 (lv_fewer hl2 (lpr_set (lo := a0 :: some (.int x) :: rs) (i := 1) (v := .int v) ha (by simp))) hW hS

theorem g_iload_2 {G : Gt} {d mc ms : Nat} {own : String} {y : Mt} {X : Xt} {P : Pt3} {pc nx : Nat} {st : List Value} {I : It} {h : Ht} {k n : Nat} {a0 a1 : Option Value} {rs : List (Option Value)} {x : Int32} (hX : Xok G own y X) (hd : dc y.2.1 pc (.iload_n 2) 1 nx) (kk : GG G d mc ms X P nx (a0 :: a1 :: some (.int x) :: rs) (.int x :: st) I h k n) : GG G d mc ms X P pc (a0 :: a1 :: some (.int x) :: rs) (st) I h k n := by
  obtain ⟨p, l, e, s, m, args, below, meth, c⟩ := X
  obtain ⟨hexec, hb, hml, hown, hts, hKs, hGk, hlk, hrt, hnm⟩ := hX
  obtain ⟨hd, hnx⟩ := hd
  subst hnx
  intro H locs ls hl hW hS
  exact lv_iload_n hexec hb hd rfl (lpr_at hl (i := 2) rfl) (kk H locs ls hl hW hS)

theorem g_lload_2 {G : Gt} {d mc ms : Nat} {own : String} {y : Mt} {X : Xt} {P : Pt3} {pc nx : Nat} {st : List Value} {I : It} {h : Ht} {k n : Nat} {a0 a1 : Option Value} {rs : List (Option Value)} {x : Int64} (hX : Xok G own y X) (hd : dc y.2.1 pc (.lload_n 2) 1 nx) (kk : GG G d mc ms X P nx (a0 :: a1 :: some (.long x) :: rs) (.long x :: st) I h k n) : GG G d mc ms X P pc (a0 :: a1 :: some (.long x) :: rs) (st) I h k n := by
  obtain ⟨p, l, e, s, m, args, below, meth, c⟩ := X
  obtain ⟨hexec, hb, hml, hown, hts, hKs, hGk, hlk, hrt, hnm⟩ := hX
  obtain ⟨hd, hnx⟩ := hd
  subst hnx
  intro H locs ls hl hW hS
  exact lv_lload_n hexec hb hd rfl (lpr_at hl (i := 2) rfl) (kk H locs ls hl hW hS)

theorem g_aload_2 {G : Gt} {d mc ms : Nat} {own : String} {y : Mt} {X : Xt} {P : Pt3} {pc nx : Nat} {st : List Value} {I : It} {h : Ht} {k n : Nat} {a0 a1 : Option Value} {rs : List (Option Value)} {x : Nat} (hX : Xok G own y X) (hd : dc y.2.1 pc (.aload_n 2) 1 nx) (kk : GG G d mc ms X P nx (a0 :: a1 :: some (.ref x) :: rs) (.ref x :: st) I h k n) : GG G d mc ms X P pc (a0 :: a1 :: some (.ref x) :: rs) (st) I h k n := by
  obtain ⟨p, l, e, s, m, args, below, meth, c⟩ := X
  obtain ⟨hexec, hb, hml, hown, hts, hKs, hGk, hlk, hrt, hnm⟩ := hX
  obtain ⟨hd, hnx⟩ := hd
  subst hnx
  intro H locs ls hl hW hS
  exact lv_aload_n hexec hb hd rfl (lpr_at hl (i := 2) rfl) (kk H locs ls hl hW hS)

theorem g_aloadN_2 {G : Gt} {d mc ms : Nat} {own : String} {y : Mt} {X : Xt} {P : Pt3} {pc nx : Nat} {st : List Value} {I : It} {h : Ht} {k n : Nat} {a0 a1 : Option Value} {rs : List (Option Value)}  (hX : Xok G own y X) (hd : dc y.2.1 pc (.aload_n 2) 1 nx) (kk : GG G d mc ms X P nx (a0 :: a1 :: some .null :: rs) (.null :: st) I h k n) : GG G d mc ms X P pc (a0 :: a1 :: some .null :: rs) (st) I h k n := by
  obtain ⟨p, l, e, s, m, args, below, meth, c⟩ := X
  obtain ⟨hexec, hb, hml, hown, hts, hKs, hGk, hlk, hrt, hnm⟩ := hX
  obtain ⟨hd, hnx⟩ := hd
  subst hnx
  intro H locs ls hl hW hS
  exact lv_aload_nN hexec hb hd rfl (lpr_at hl (i := 2) rfl) (kk H locs ls hl hW hS)

theorem g_istore_2 {G : Gt} {d mc ms : Nat} {own : String} {y : Mt} {X : Xt} {P : Pt3} {pc nx : Nat} {st : List Value} {I : It} {h : Ht} {k n : Nat} {a0 a1 : Option Value} {rs : List (Option Value)} {z : Option Value} {x : Int32} (hX : Xok G own y X) (hd : dc y.2.1 pc (.istore_n 2) 1 nx) (hi : 2 < y.2.2.1) (ha : ahd (a0 :: a1 :: z :: rs) 2 = true) (kk : GG G d mc ms X P nx (a0 :: a1 :: some (.int x) :: rs) st I h k n) : GG G d mc ms X P pc (a0 :: a1 :: z :: rs) (.int x :: st) I h k n := by
  obtain ⟨p, l, e, s, m, args, below, meth, c⟩ := X
  obtain ⟨hexec, hb, hml, hown, hts, hKs, hGk, hlk, hrt, hnm⟩ := hX
  obtain ⟨hd, hnx⟩ := hd
  subst hnx
  intro H locs ls hl hW hS
  refine lv_istore_n hexec hb hd rfl hl (by rw [hml]; exact hi) rfl (fun ls2 hl2 => ?_)
  exact kk H locs ls2 (lv_fewer hl2 (lpr_set (lo := a0 :: a1 :: z :: rs) (i := 2) (v := .int x) ha (by simp))) hW hS

theorem g_astore_2 {G : Gt} {d mc ms : Nat} {own : String} {y : Mt} {X : Xt} {P : Pt3} {pc nx : Nat} {st : List Value} {I : It} {h : Ht} {k n : Nat} {a0 a1 : Option Value} {rs : List (Option Value)} {z : Option Value} {x : Nat} (hX : Xok G own y X) (hd : dc y.2.1 pc (.astore_n 2) 1 nx) (hi : 2 < y.2.2.1) (ha : ahd (a0 :: a1 :: z :: rs) 2 = true) (kk : GG G d mc ms X P nx (a0 :: a1 :: some (.ref x) :: rs) st I h k n) : GG G d mc ms X P pc (a0 :: a1 :: z :: rs) (.ref x :: st) I h k n := by
  obtain ⟨p, l, e, s, m, args, below, meth, c⟩ := X
  obtain ⟨hexec, hb, hml, hown, hts, hKs, hGk, hlk, hrt, hnm⟩ := hX
  obtain ⟨hd, hnx⟩ := hd
  subst hnx
  intro H locs ls hl hW hS
  refine lv_astore_n hexec hb hd rfl hl (by rw [hml]; exact hi) rfl (fun ls2 hl2 => ?_)
  exact kk H locs ls2 (lv_fewer hl2 (lpr_set (lo := a0 :: a1 :: z :: rs) (i := 2) (v := .ref x) ha (by simp))) hW hS

theorem g_astoreN_2 {G : Gt} {d mc ms : Nat} {own : String} {y : Mt} {X : Xt} {P : Pt3} {pc nx : Nat} {st : List Value} {I : It} {h : Ht} {k n : Nat} {a0 a1 : Option Value} {rs : List (Option Value)} {z : Option Value}  (hX : Xok G own y X) (hd : dc y.2.1 pc (.astore_n 2) 1 nx) (hi : 2 < y.2.2.1) (ha : ahd (a0 :: a1 :: z :: rs) 2 = true) (kk : GG G d mc ms X P nx (a0 :: a1 :: some (.null) :: rs) st I h k n) : GG G d mc ms X P pc (a0 :: a1 :: z :: rs) (.null :: st) I h k n := by
  obtain ⟨p, l, e, s, m, args, below, meth, c⟩ := X
  obtain ⟨hexec, hb, hml, hown, hts, hKs, hGk, hlk, hrt, hnm⟩ := hX
  obtain ⟨hd, hnx⟩ := hd
  subst hnx
  intro H locs ls hl hW hS
  refine lv_astore_nN hexec hb hd rfl hl (by rw [hml]; exact hi) rfl (fun ls2 hl2 => ?_)
  exact kk H locs ls2 (lv_fewer hl2 (lpr_set (lo := a0 :: a1 :: z :: rs) (i := 2) (v := .null) ha (by simp))) hW hS

theorem g_lstore_2 {G : Gt} {d mc ms : Nat} {own : String} {y : Mt} {X : Xt} {P : Pt3} {pc nx : Nat} {st : List Value} {I : It} {h : Ht} {k n : Nat} {a0 a1 : Option Value} {rs : List (Option Value)} {z z2 : Option Value} {x : Int64} (hX : Xok G own y X) (hd : dc y.2.1 pc (.lstore_n 2) 1 nx) (hi : 2 + 1 < y.2.2.1) (ha : ahd (a0 :: a1 :: z :: z2 :: rs) 2 = true) (kk : GG G d mc ms X P nx (a0 :: a1 :: some (.long x) :: none :: rs) st I h k n) : GG G d mc ms X P pc (a0 :: a1 :: z :: z2 :: rs) (.long x :: st) I h k n := by
  obtain ⟨p, l, e, s, m, args, below, meth, c⟩ := X
  obtain ⟨hexec, hb, hml, hown, hts, hKs, hGk, hlk, hrt, hnm⟩ := hX
  obtain ⟨hd, hnx⟩ := hd
  subst hnx
  intro H locs ls hl hW hS
  refine lv_lstore_n hexec hb hd rfl hl (by rw [hml]; exact hi) rfl (fun ls2 hl2 => ?_)
  exact kk H locs ls2 (lv_fewer hl2 (lpr_set2 (lo := a0 :: a1 :: z :: z2 :: rs) (i := 2) (v := .long x) ha (by simp))) hW hS

theorem g_iinc_2 {G : Gt} {d mc ms : Nat} {own : String} {y : Mt} {X : Xt} {P : Pt3} {pc nx : Nat} {st : List Value} {I : It} {h : Ht} {k n : Nat} {a0 a1 : Option Value} {rs : List (Option Value)} {x v : Int32} {z : Int} (hX : Xok G own y X) (hd : dc y.2.1 pc (.iinc 2 z) 3 nx) (hv : x + Int32.ofInt z = v) (hi : 2 < y.2.2.1) (ha : ahd (a0 :: a1 :: some (.int x) :: rs) 2 = true) (kk : GG G d mc ms X P nx (a0 :: a1 :: some (.int v) :: rs) st I h k n) : GG G d mc ms X P pc (a0 :: a1 :: some (.int x) :: rs) st I h k n := by
  obtain ⟨p, l, e, s, m, args, below, meth, c⟩ := X
  obtain ⟨hexec, hb, hml, hown, hts, hKs, hGk, hlk, hrt, hnm⟩ := hX
  obtain ⟨hd, hnx⟩ := hd
  subst hnx
  intro H locs ls hl hW hS
  have hmem : (2, Value.int x) ∈ lpr G 0 (a0 :: a1 :: some (.int x) :: rs) := (lpr_mem _ 0 _).mpr ⟨2, .int x, rfl, by simp [cv]⟩
  obtain ⟨kq, hkq⟩ := List.getElem?_of_mem hmem
  refine lv_iinc hexec hb hd hl hkq hv (by rw [hml]; exact hi) rfl (fun ls2 hl2 => ?_)
  exact kk H locs ls2 (lv_fewer hl2 (lpr_set (lo := a0 :: a1 :: some (.int x) :: rs) (i := 2) (v := .int v) ha (by simp))) hW hS

theorem g_iload_3 {G : Gt} {d mc ms : Nat} {own : String} {y : Mt} {X : Xt} {P : Pt3} {pc nx : Nat} {st : List Value} {I : It} {h : Ht} {k n : Nat} {a0 a1 a2 : Option Value} {rs : List (Option Value)} {x : Int32} (hX : Xok G own y X) (hd : dc y.2.1 pc (.iload_n 3) 1 nx) (kk : GG G d mc ms X P nx (a0 :: a1 :: a2 :: some (.int x) :: rs) (.int x :: st) I h k n) : GG G d mc ms X P pc (a0 :: a1 :: a2 :: some (.int x) :: rs) (st) I h k n := by
  obtain ⟨p, l, e, s, m, args, below, meth, c⟩ := X
  obtain ⟨hexec, hb, hml, hown, hts, hKs, hGk, hlk, hrt, hnm⟩ := hX
  obtain ⟨hd, hnx⟩ := hd
  subst hnx
  intro H locs ls hl hW hS
  exact lv_iload_n hexec hb hd rfl (lpr_at hl (i := 3) rfl) (kk H locs ls hl hW hS)

theorem g_lload_3 {G : Gt} {d mc ms : Nat} {own : String} {y : Mt} {X : Xt} {P : Pt3} {pc nx : Nat} {st : List Value} {I : It} {h : Ht} {k n : Nat} {a0 a1 a2 : Option Value} {rs : List (Option Value)} {x : Int64} (hX : Xok G own y X) (hd : dc y.2.1 pc (.lload_n 3) 1 nx) (kk : GG G d mc ms X P nx (a0 :: a1 :: a2 :: some (.long x) :: rs) (.long x :: st) I h k n) : GG G d mc ms X P pc (a0 :: a1 :: a2 :: some (.long x) :: rs) (st) I h k n := by
  obtain ⟨p, l, e, s, m, args, below, meth, c⟩ := X
  obtain ⟨hexec, hb, hml, hown, hts, hKs, hGk, hlk, hrt, hnm⟩ := hX
  obtain ⟨hd, hnx⟩ := hd
  subst hnx
  intro H locs ls hl hW hS
  exact lv_lload_n hexec hb hd rfl (lpr_at hl (i := 3) rfl) (kk H locs ls hl hW hS)

theorem g_aload_3 {G : Gt} {d mc ms : Nat} {own : String} {y : Mt} {X : Xt} {P : Pt3} {pc nx : Nat} {st : List Value} {I : It} {h : Ht} {k n : Nat} {a0 a1 a2 : Option Value} {rs : List (Option Value)} {x : Nat} (hX : Xok G own y X) (hd : dc y.2.1 pc (.aload_n 3) 1 nx) (kk : GG G d mc ms X P nx (a0 :: a1 :: a2 :: some (.ref x) :: rs) (.ref x :: st) I h k n) : GG G d mc ms X P pc (a0 :: a1 :: a2 :: some (.ref x) :: rs) (st) I h k n := by
  obtain ⟨p, l, e, s, m, args, below, meth, c⟩ := X
  obtain ⟨hexec, hb, hml, hown, hts, hKs, hGk, hlk, hrt, hnm⟩ := hX
  obtain ⟨hd, hnx⟩ := hd
  subst hnx
  intro H locs ls hl hW hS
  exact lv_aload_n hexec hb hd rfl (lpr_at hl (i := 3) rfl) (kk H locs ls hl hW hS)

theorem g_aloadN_3 {G : Gt} {d mc ms : Nat} {own : String} {y : Mt} {X : Xt} {P : Pt3} {pc nx : Nat} {st : List Value} {I : It} {h : Ht} {k n : Nat} {a0 a1 a2 : Option Value} {rs : List (Option Value)}  (hX : Xok G own y X) (hd : dc y.2.1 pc (.aload_n 3) 1 nx) (kk : GG G d mc ms X P nx (a0 :: a1 :: a2 :: some .null :: rs) (.null :: st) I h k n) : GG G d mc ms X P pc (a0 :: a1 :: a2 :: some .null :: rs) (st) I h k n := by
  obtain ⟨p, l, e, s, m, args, below, meth, c⟩ := X
  obtain ⟨hexec, hb, hml, hown, hts, hKs, hGk, hlk, hrt, hnm⟩ := hX
  obtain ⟨hd, hnx⟩ := hd
  subst hnx
  intro H locs ls hl hW hS
  exact lv_aload_nN hexec hb hd rfl (lpr_at hl (i := 3) rfl) (kk H locs ls hl hW hS)

theorem g_istore_3 {G : Gt} {d mc ms : Nat} {own : String} {y : Mt} {X : Xt} {P : Pt3} {pc nx : Nat} {st : List Value} {I : It} {h : Ht} {k n : Nat} {a0 a1 a2 : Option Value} {rs : List (Option Value)} {z : Option Value} {x : Int32} (hX : Xok G own y X) (hd : dc y.2.1 pc (.istore_n 3) 1 nx) (hi : 3 < y.2.2.1) (ha : ahd (a0 :: a1 :: a2 :: z :: rs) 3 = true) (kk : GG G d mc ms X P nx (a0 :: a1 :: a2 :: some (.int x) :: rs) st I h k n) : GG G d mc ms X P pc (a0 :: a1 :: a2 :: z :: rs) (.int x :: st) I h k n := by
  obtain ⟨p, l, e, s, m, args, below, meth, c⟩ := X
  obtain ⟨hexec, hb, hml, hown, hts, hKs, hGk, hlk, hrt, hnm⟩ := hX
  obtain ⟨hd, hnx⟩ := hd
  subst hnx
  intro H locs ls hl hW hS
  refine lv_istore_n hexec hb hd rfl hl (by rw [hml]; exact hi) rfl (fun ls2 hl2 => ?_)
  exact kk H locs ls2 (lv_fewer hl2 (lpr_set (lo := a0 :: a1 :: a2 :: z :: rs) (i := 3) (v := .int x) ha (by simp))) hW hS

theorem g_astore_3 {G : Gt} {d mc ms : Nat} {own : String} {y : Mt} {X : Xt} {P : Pt3} {pc nx : Nat} {st : List Value} {I : It} {h : Ht} {k n : Nat} {a0 a1 a2 : Option Value} {rs : List (Option Value)} {z : Option Value} {x : Nat} (hX : Xok G own y X) (hd : dc y.2.1 pc (.astore_n 3) 1 nx) (hi : 3 < y.2.2.1) (ha : ahd (a0 :: a1 :: a2 :: z :: rs) 3 = true) (kk : GG G d mc ms X P nx (a0 :: a1 :: a2 :: some (.ref x) :: rs) st I h k n) : GG G d mc ms X P pc (a0 :: a1 :: a2 :: z :: rs) (.ref x :: st) I h k n := by
  obtain ⟨p, l, e, s, m, args, below, meth, c⟩ := X
  obtain ⟨hexec, hb, hml, hown, hts, hKs, hGk, hlk, hrt, hnm⟩ := hX
  obtain ⟨hd, hnx⟩ := hd
  subst hnx
  intro H locs ls hl hW hS
  refine lv_astore_n hexec hb hd rfl hl (by rw [hml]; exact hi) rfl (fun ls2 hl2 => ?_)
  exact kk H locs ls2 (lv_fewer hl2 (lpr_set (lo := a0 :: a1 :: a2 :: z :: rs) (i := 3) (v := .ref x) ha (by simp))) hW hS

theorem g_astoreN_3 {G : Gt} {d mc ms : Nat} {own : String} {y : Mt} {X : Xt} {P : Pt3} {pc nx : Nat} {st : List Value} {I : It} {h : Ht} {k n : Nat} {a0 a1 a2 : Option Value} {rs : List (Option Value)} {z : Option Value}  (hX : Xok G own y X) (hd : dc y.2.1 pc (.astore_n 3) 1 nx) (hi : 3 < y.2.2.1) (ha : ahd (a0 :: a1 :: a2 :: z :: rs) 3 = true) (kk : GG G d mc ms X P nx (a0 :: a1 :: a2 :: some (.null) :: rs) st I h k n) : GG G d mc ms X P pc (a0 :: a1 :: a2 :: z :: rs) (.null :: st) I h k n := by
  obtain ⟨p, l, e, s, m, args, below, meth, c⟩ := X
  obtain ⟨hexec, hb, hml, hown, hts, hKs, hGk, hlk, hrt, hnm⟩ := hX
  obtain ⟨hd, hnx⟩ := hd
  subst hnx
  intro H locs ls hl hW hS
  refine lv_astore_nN hexec hb hd rfl hl (by rw [hml]; exact hi) rfl (fun ls2 hl2 => ?_)
  exact kk H locs ls2 (lv_fewer hl2 (lpr_set (lo := a0 :: a1 :: a2 :: z :: rs) (i := 3) (v := .null) ha (by simp))) hW hS

theorem g_lstore_3 {G : Gt} {d mc ms : Nat} {own : String} {y : Mt} {X : Xt} {P : Pt3} {pc nx : Nat} {st : List Value} {I : It} {h : Ht} {k n : Nat} {a0 a1 a2 : Option Value} {rs : List (Option Value)} {z z2 : Option Value} {x : Int64} (hX : Xok G own y X) (hd : dc y.2.1 pc (.lstore_n 3) 1 nx) (hi : 3 + 1 < y.2.2.1) (ha : ahd (a0 :: a1 :: a2 :: z :: z2 :: rs) 3 = true) (kk : GG G d mc ms X P nx (a0 :: a1 :: a2 :: some (.long x) :: none :: rs) st I h k n) : GG G d mc ms X P pc (a0 :: a1 :: a2 :: z :: z2 :: rs) (.long x :: st) I h k n := by
  obtain ⟨p, l, e, s, m, args, below, meth, c⟩ := X
  obtain ⟨hexec, hb, hml, hown, hts, hKs, hGk, hlk, hrt, hnm⟩ := hX
  obtain ⟨hd, hnx⟩ := hd
  subst hnx
  intro H locs ls hl hW hS
  refine lv_lstore_n hexec hb hd rfl hl (by rw [hml]; exact hi) rfl (fun ls2 hl2 => ?_)
  exact kk H locs ls2 (lv_fewer hl2 (lpr_set2 (lo := a0 :: a1 :: a2 :: z :: z2 :: rs) (i := 3) (v := .long x) ha (by simp))) hW hS

theorem g_iinc_3 {G : Gt} {d mc ms : Nat} {own : String} {y : Mt} {X : Xt} {P : Pt3} {pc nx : Nat} {st : List Value} {I : It} {h : Ht} {k n : Nat} {a0 a1 a2 : Option Value} {rs : List (Option Value)} {x v : Int32} {z : Int} (hX : Xok G own y X) (hd : dc y.2.1 pc (.iinc 3 z) 3 nx) (hv : x + Int32.ofInt z = v) (hi : 3 < y.2.2.1) (ha : ahd (a0 :: a1 :: a2 :: some (.int x) :: rs) 3 = true) (kk : GG G d mc ms X P nx (a0 :: a1 :: a2 :: some (.int v) :: rs) st I h k n) : GG G d mc ms X P pc (a0 :: a1 :: a2 :: some (.int x) :: rs) st I h k n := by
  obtain ⟨p, l, e, s, m, args, below, meth, c⟩ := X
  obtain ⟨hexec, hb, hml, hown, hts, hKs, hGk, hlk, hrt, hnm⟩ := hX
  obtain ⟨hd, hnx⟩ := hd
  subst hnx
  intro H locs ls hl hW hS
  have hmem : (3, Value.int x) ∈ lpr G 0 (a0 :: a1 :: a2 :: some (.int x) :: rs) := (lpr_mem _ 0 _).mpr ⟨3, .int x, rfl, by simp [cv]⟩
  obtain ⟨kq, hkq⟩ := List.getElem?_of_mem hmem
  refine lv_iinc hexec hb hd hl hkq hv (by rw [hml]; exact hi) rfl (fun ls2 hl2 => ?_)
  exact kk H locs ls2 (lv_fewer hl2 (lpr_set (lo := a0 :: a1 :: a2 :: some (.int x) :: rs) (i := 3) (v := .int v) ha (by simp))) hW hS

theorem g_iload_4 {G : Gt} {d mc ms : Nat} {own : String} {y : Mt} {X : Xt} {P : Pt3} {pc nx : Nat} {st : List Value} {I : It} {h : Ht} {k n : Nat} {a0 a1 a2 a3 : Option Value} {rs : List (Option Value)} {x : Int32} (hX : Xok G own y X) (hd : dc y.2.1 pc (.iload 4) 2 nx) (kk : GG G d mc ms X P nx (a0 :: a1 :: a2 :: a3 :: some (.int x) :: rs) (.int x :: st) I h k n) : GG G d mc ms X P pc (a0 :: a1 :: a2 :: a3 :: some (.int x) :: rs) (st) I h k n := by
  obtain ⟨p, l, e, s, m, args, below, meth, c⟩ := X
  obtain ⟨hexec, hb, hml, hown, hts, hKs, hGk, hlk, hrt, hnm⟩ := hX
  obtain ⟨hd, hnx⟩ := hd
  subst hnx
  intro H locs ls hl hW hS
  exact lv_iload hexec hb hd (lpr_at hl (i := 4) rfl) (kk H locs ls hl hW hS)

theorem g_lload_4 {G : Gt} {d mc ms : Nat} {own : String} {y : Mt} {X : Xt} {P : Pt3} {pc nx : Nat} {st : List Value} {I : It} {h : Ht} {k n : Nat} {a0 a1 a2 a3 : Option Value} {rs : List (Option Value)} {x : Int64} (hX : Xok G own y X) (hd : dc y.2.1 pc (.lload 4) 2 nx) (kk : GG G d mc ms X P nx (a0 :: a1 :: a2 :: a3 :: some (.long x) :: rs) (.long x :: st) I h k n) : GG G d mc ms X P pc (a0 :: a1 :: a2 :: a3 :: some (.long x) :: rs) (st) I h k n := by
  obtain ⟨p, l, e, s, m, args, below, meth, c⟩ := X
  obtain ⟨hexec, hb, hml, hown, hts, hKs, hGk, hlk, hrt, hnm⟩ := hX
  obtain ⟨hd, hnx⟩ := hd
  subst hnx
  intro H locs ls hl hW hS
  exact lv_lload hexec hb hd (lpr_at hl (i := 4) rfl) (kk H locs ls hl hW hS)

theorem g_aload_4 {G : Gt} {d mc ms : Nat} {own : String} {y : Mt} {X : Xt} {P : Pt3} {pc nx : Nat} {st : List Value} {I : It} {h : Ht} {k n : Nat} {a0 a1 a2 a3 : Option Value} {rs : List (Option Value)} {x : Nat} (hX : Xok G own y X) (hd : dc y.2.1 pc (.aload 4) 2 nx) (kk : GG G d mc ms X P nx (a0 :: a1 :: a2 :: a3 :: some (.ref x) :: rs) (.ref x :: st) I h k n) : GG G d mc ms X P pc (a0 :: a1 :: a2 :: a3 :: some (.ref x) :: rs) (st) I h k n := by
  obtain ⟨p, l, e, s, m, args, below, meth, c⟩ := X
  obtain ⟨hexec, hb, hml, hown, hts, hKs, hGk, hlk, hrt, hnm⟩ := hX
  obtain ⟨hd, hnx⟩ := hd
  subst hnx
  intro H locs ls hl hW hS
  exact lv_aload hexec hb hd (lpr_at hl (i := 4) rfl) (kk H locs ls hl hW hS)

theorem g_aloadN_4 {G : Gt} {d mc ms : Nat} {own : String} {y : Mt} {X : Xt} {P : Pt3} {pc nx : Nat} {st : List Value} {I : It} {h : Ht} {k n : Nat} {a0 a1 a2 a3 : Option Value} {rs : List (Option Value)}  (hX : Xok G own y X) (hd : dc y.2.1 pc (.aload 4) 2 nx) (kk : GG G d mc ms X P nx (a0 :: a1 :: a2 :: a3 :: some .null :: rs) (.null :: st) I h k n) : GG G d mc ms X P pc (a0 :: a1 :: a2 :: a3 :: some .null :: rs) (st) I h k n := by
  obtain ⟨p, l, e, s, m, args, below, meth, c⟩ := X
  obtain ⟨hexec, hb, hml, hown, hts, hKs, hGk, hlk, hrt, hnm⟩ := hX
  obtain ⟨hd, hnx⟩ := hd
  subst hnx
  intro H locs ls hl hW hS
  exact lv_aloadN hexec hb hd (lpr_at hl (i := 4) rfl) (kk H locs ls hl hW hS)

theorem g_istore_4 {G : Gt} {d mc ms : Nat} {own : String} {y : Mt} {X : Xt} {P : Pt3} {pc nx : Nat} {st : List Value} {I : It} {h : Ht} {k n : Nat} {a0 a1 a2 a3 : Option Value} {rs : List (Option Value)} {z : Option Value} {x : Int32} (hX : Xok G own y X) (hd : dc y.2.1 pc (.istore 4) 2 nx) (hi : 4 < y.2.2.1) (ha : ahd (a0 :: a1 :: a2 :: a3 :: z :: rs) 4 = true) (kk : GG G d mc ms X P nx (a0 :: a1 :: a2 :: a3 :: some (.int x) :: rs) st I h k n) : GG G d mc ms X P pc (a0 :: a1 :: a2 :: a3 :: z :: rs) (.int x :: st) I h k n := by
  obtain ⟨p, l, e, s, m, args, below, meth, c⟩ := X
  obtain ⟨hexec, hb, hml, hown, hts, hKs, hGk, hlk, hrt, hnm⟩ := hX
  obtain ⟨hd, hnx⟩ := hd
  subst hnx
  intro H locs ls hl hW hS
  refine lv_istore hexec hb hd  hl (by rw [hml]; exact hi) rfl (fun ls2 hl2 => ?_)
  exact kk H locs ls2 (lv_fewer hl2 (lpr_set (lo := a0 :: a1 :: a2 :: a3 :: z :: rs) (i := 4) (v := .int x) ha (by simp))) hW hS

theorem g_astore_4 {G : Gt} {d mc ms : Nat} {own : String} {y : Mt} {X : Xt} {P : Pt3} {pc nx : Nat} {st : List Value} {I : It} {h : Ht} {k n : Nat} {a0 a1 a2 a3 : Option Value} {rs : List (Option Value)} {z : Option Value} {x : Nat} (hX : Xok G own y X) (hd : dc y.2.1 pc (.astore 4) 2 nx) (hi : 4 < y.2.2.1) (ha : ahd (a0 :: a1 :: a2 :: a3 :: z :: rs) 4 = true) (kk : GG G d mc ms X P nx (a0 :: a1 :: a2 :: a3 :: some (.ref x) :: rs) st I h k n) : GG G d mc ms X P pc (a0 :: a1 :: a2 :: a3 :: z :: rs) (.ref x :: st) I h k n := by
  obtain ⟨p, l, e, s, m, args, below, meth, c⟩ := X
  obtain ⟨hexec, hb, hml, hown, hts, hKs, hGk, hlk, hrt, hnm⟩ := hX
  obtain ⟨hd, hnx⟩ := hd
  subst hnx
  intro H locs ls hl hW hS
  refine lv_astore hexec hb hd  hl (by rw [hml]; exact hi) rfl (fun ls2 hl2 => ?_)
  exact kk H locs ls2 (lv_fewer hl2 (lpr_set (lo := a0 :: a1 :: a2 :: a3 :: z :: rs) (i := 4) (v := .ref x) ha (by simp))) hW hS

theorem g_astoreN_4 {G : Gt} {d mc ms : Nat} {own : String} {y : Mt} {X : Xt} {P : Pt3} {pc nx : Nat} {st : List Value} {I : It} {h : Ht} {k n : Nat} {a0 a1 a2 a3 : Option Value} {rs : List (Option Value)} {z : Option Value}  (hX : Xok G own y X) (hd : dc y.2.1 pc (.astore 4) 2 nx) (hi : 4 < y.2.2.1) (ha : ahd (a0 :: a1 :: a2 :: a3 :: z :: rs) 4 = true) (kk : GG G d mc ms X P nx (a0 :: a1 :: a2 :: a3 :: some (.null) :: rs) st I h k n) : GG G d mc ms X P pc (a0 :: a1 :: a2 :: a3 :: z :: rs) (.null :: st) I h k n := by
  obtain ⟨p, l, e, s, m, args, below, meth, c⟩ := X
  obtain ⟨hexec, hb, hml, hown, hts, hKs, hGk, hlk, hrt, hnm⟩ := hX
  obtain ⟨hd, hnx⟩ := hd
  subst hnx
  intro H locs ls hl hW hS
  refine lv_astoreN hexec hb hd  hl (by rw [hml]; exact hi) rfl (fun ls2 hl2 => ?_)
  exact kk H locs ls2 (lv_fewer hl2 (lpr_set (lo := a0 :: a1 :: a2 :: a3 :: z :: rs) (i := 4) (v := .null) ha (by simp))) hW hS

theorem g_lstore_4 {G : Gt} {d mc ms : Nat} {own : String} {y : Mt} {X : Xt} {P : Pt3} {pc nx : Nat} {st : List Value} {I : It} {h : Ht} {k n : Nat} {a0 a1 a2 a3 : Option Value} {rs : List (Option Value)} {z z2 : Option Value} {x : Int64} (hX : Xok G own y X) (hd : dc y.2.1 pc (.lstore 4) 2 nx) (hi : 4 + 1 < y.2.2.1) (ha : ahd (a0 :: a1 :: a2 :: a3 :: z :: z2 :: rs) 4 = true) (kk : GG G d mc ms X P nx (a0 :: a1 :: a2 :: a3 :: some (.long x) :: none :: rs) st I h k n) : GG G d mc ms X P pc (a0 :: a1 :: a2 :: a3 :: z :: z2 :: rs) (.long x :: st) I h k n := by
  obtain ⟨p, l, e, s, m, args, below, meth, c⟩ := X
  obtain ⟨hexec, hb, hml, hown, hts, hKs, hGk, hlk, hrt, hnm⟩ := hX
  obtain ⟨hd, hnx⟩ := hd
  subst hnx
  intro H locs ls hl hW hS
  refine lv_lstore hexec hb hd  hl (by rw [hml]; exact hi) rfl (fun ls2 hl2 => ?_)
  exact kk H locs ls2 (lv_fewer hl2 (lpr_set2 (lo := a0 :: a1 :: a2 :: a3 :: z :: z2 :: rs) (i := 4) (v := .long x) ha (by simp))) hW hS

theorem g_iinc_4 {G : Gt} {d mc ms : Nat} {own : String} {y : Mt} {X : Xt} {P : Pt3} {pc nx : Nat} {st : List Value} {I : It} {h : Ht} {k n : Nat} {a0 a1 a2 a3 : Option Value} {rs : List (Option Value)} {x v : Int32} {z : Int} (hX : Xok G own y X) (hd : dc y.2.1 pc (.iinc 4 z) 3 nx) (hv : x + Int32.ofInt z = v) (hi : 4 < y.2.2.1) (ha : ahd (a0 :: a1 :: a2 :: a3 :: some (.int x) :: rs) 4 = true) (kk : GG G d mc ms X P nx (a0 :: a1 :: a2 :: a3 :: some (.int v) :: rs) st I h k n) : GG G d mc ms X P pc (a0 :: a1 :: a2 :: a3 :: some (.int x) :: rs) st I h k n := by
  obtain ⟨p, l, e, s, m, args, below, meth, c⟩ := X
  obtain ⟨hexec, hb, hml, hown, hts, hKs, hGk, hlk, hrt, hnm⟩ := hX
  obtain ⟨hd, hnx⟩ := hd
  subst hnx
  intro H locs ls hl hW hS
  have hmem : (4, Value.int x) ∈ lpr G 0 (a0 :: a1 :: a2 :: a3 :: some (.int x) :: rs) := (lpr_mem _ 0 _).mpr ⟨4, .int x, rfl, by simp [cv]⟩
  obtain ⟨kq, hkq⟩ := List.getElem?_of_mem hmem
  refine lv_iinc hexec hb hd hl hkq hv (by rw [hml]; exact hi) rfl (fun ls2 hl2 => ?_)
  exact kk H locs ls2 (lv_fewer hl2 (lpr_set (lo := a0 :: a1 :: a2 :: a3 :: some (.int x) :: rs) (i := 4) (v := .int v) ha (by simp))) hW hS

theorem g_iload_5 {G : Gt} {d mc ms : Nat} {own : String} {y : Mt} {X : Xt} {P : Pt3} {pc nx : Nat} {st : List Value} {I : It} {h : Ht} {k n : Nat} {a0 a1 a2 a3 a4 : Option Value} {rs : List (Option Value)} {x : Int32} (hX : Xok G own y X) (hd : dc y.2.1 pc (.iload 5) 2 nx) (kk : GG G d mc ms X P nx (a0 :: a1 :: a2 :: a3 :: a4 :: some (.int x) :: rs) (.int x :: st) I h k n) : GG G d mc ms X P pc (a0 :: a1 :: a2 :: a3 :: a4 :: some (.int x) :: rs) (st) I h k n := by
  obtain ⟨p, l, e, s, m, args, below, meth, c⟩ := X
  obtain ⟨hexec, hb, hml, hown, hts, hKs, hGk, hlk, hrt, hnm⟩ := hX
  obtain ⟨hd, hnx⟩ := hd
  subst hnx
  intro H locs ls hl hW hS
  exact lv_iload hexec hb hd (lpr_at hl (i := 5) rfl) (kk H locs ls hl hW hS)

theorem g_lload_5 {G : Gt} {d mc ms : Nat} {own : String} {y : Mt} {X : Xt} {P : Pt3} {pc nx : Nat} {st : List Value} {I : It} {h : Ht} {k n : Nat} {a0 a1 a2 a3 a4 : Option Value} {rs : List (Option Value)} {x : Int64} (hX : Xok G own y X) (hd : dc y.2.1 pc (.lload 5) 2 nx) (kk : GG G d mc ms X P nx (a0 :: a1 :: a2 :: a3 :: a4 :: some (.long x) :: rs) (.long x :: st) I h k n) : GG G d mc ms X P pc (a0 :: a1 :: a2 :: a3 :: a4 :: some (.long x) :: rs) (st) I h k n := by
  obtain ⟨p, l, e, s, m, args, below, meth, c⟩ := X
  obtain ⟨hexec, hb, hml, hown, hts, hKs, hGk, hlk, hrt, hnm⟩ := hX
  obtain ⟨hd, hnx⟩ := hd
  subst hnx
  intro H locs ls hl hW hS
  exact lv_lload hexec hb hd (lpr_at hl (i := 5) rfl) (kk H locs ls hl hW hS)

theorem g_aload_5 {G : Gt} {d mc ms : Nat} {own : String} {y : Mt} {X : Xt} {P : Pt3} {pc nx : Nat} {st : List Value} {I : It} {h : Ht} {k n : Nat} {a0 a1 a2 a3 a4 : Option Value} {rs : List (Option Value)} {x : Nat} (hX : Xok G own y X) (hd : dc y.2.1 pc (.aload 5) 2 nx) (kk : GG G d mc ms X P nx (a0 :: a1 :: a2 :: a3 :: a4 :: some (.ref x) :: rs) (.ref x :: st) I h k n) : GG G d mc ms X P pc (a0 :: a1 :: a2 :: a3 :: a4 :: some (.ref x) :: rs) (st) I h k n := by
  obtain ⟨p, l, e, s, m, args, below, meth, c⟩ := X
  obtain ⟨hexec, hb, hml, hown, hts, hKs, hGk, hlk, hrt, hnm⟩ := hX
  obtain ⟨hd, hnx⟩ := hd
  subst hnx
  intro H locs ls hl hW hS
  exact lv_aload hexec hb hd (lpr_at hl (i := 5) rfl) (kk H locs ls hl hW hS)

theorem g_aloadN_5 {G : Gt} {d mc ms : Nat} {own : String} {y : Mt} {X : Xt} {P : Pt3} {pc nx : Nat} {st : List Value} {I : It} {h : Ht} {k n : Nat} {a0 a1 a2 a3 a4 : Option Value} {rs : List (Option Value)}  (hX : Xok G own y X) (hd : dc y.2.1 pc (.aload 5) 2 nx) (kk : GG G d mc ms X P nx (a0 :: a1 :: a2 :: a3 :: a4 :: some .null :: rs) (.null :: st) I h k n) : GG G d mc ms X P pc (a0 :: a1 :: a2 :: a3 :: a4 :: some .null :: rs) (st) I h k n := by
  obtain ⟨p, l, e, s, m, args, below, meth, c⟩ := X
  obtain ⟨hexec, hb, hml, hown, hts, hKs, hGk, hlk, hrt, hnm⟩ := hX
  obtain ⟨hd, hnx⟩ := hd
  subst hnx
  intro H locs ls hl hW hS
  exact lv_aloadN hexec hb hd (lpr_at hl (i := 5) rfl) (kk H locs ls hl hW hS)

theorem g_istore_5 {G : Gt} {d mc ms : Nat} {own : String} {y : Mt} {X : Xt} {P : Pt3} {pc nx : Nat} {st : List Value} {I : It} {h : Ht} {k n : Nat} {a0 a1 a2 a3 a4 : Option Value} {rs : List (Option Value)} {z : Option Value} {x : Int32} (hX : Xok G own y X) (hd : dc y.2.1 pc (.istore 5) 2 nx) (hi : 5 < y.2.2.1) (ha : ahd (a0 :: a1 :: a2 :: a3 :: a4 :: z :: rs) 5 = true) (kk : GG G d mc ms X P nx (a0 :: a1 :: a2 :: a3 :: a4 :: some (.int x) :: rs) st I h k n) : GG G d mc ms X P pc (a0 :: a1 :: a2 :: a3 :: a4 :: z :: rs) (.int x :: st) I h k n := by
  obtain ⟨p, l, e, s, m, args, below, meth, c⟩ := X
  obtain ⟨hexec, hb, hml, hown, hts, hKs, hGk, hlk, hrt, hnm⟩ := hX
  obtain ⟨hd, hnx⟩ := hd
  subst hnx
  intro H locs ls hl hW hS
  refine lv_istore hexec hb hd  hl (by rw [hml]; exact hi) rfl (fun ls2 hl2 => ?_)
  exact kk H locs ls2 (lv_fewer hl2 (lpr_set (lo := a0 :: a1 :: a2 :: a3 :: a4 :: z :: rs) (i := 5) (v := .int x) ha (by simp))) hW hS

theorem g_astore_5 {G : Gt} {d mc ms : Nat} {own : String} {y : Mt} {X : Xt} {P : Pt3} {pc nx : Nat} {st : List Value} {I : It} {h : Ht} {k n : Nat} {a0 a1 a2 a3 a4 : Option Value} {rs : List (Option Value)} {z : Option Value} {x : Nat} (hX : Xok G own y X) (hd : dc y.2.1 pc (.astore 5) 2 nx) (hi : 5 < y.2.2.1) (ha : ahd (a0 :: a1 :: a2 :: a3 :: a4 :: z :: rs) 5 = true) (kk : GG G d mc ms X P nx (a0 :: a1 :: a2 :: a3 :: a4 :: some (.ref x) :: rs) st I h k n) : GG G d mc ms X P pc (a0 :: a1 :: a2 :: a3 :: a4 :: z :: rs) (.ref x :: st) I h k n := by
  obtain ⟨p, l, e, s, m, args, below, meth, c⟩ := X
  obtain ⟨hexec, hb, hml, hown, hts, hKs, hGk, hlk, hrt, hnm⟩ := hX
  obtain ⟨hd, hnx⟩ := hd
  subst hnx
  intro H locs ls hl hW hS
  refine lv_astore hexec hb hd  hl (by rw [hml]; exact hi) rfl (fun ls2 hl2 => ?_)
  exact kk H locs ls2 (lv_fewer hl2 (lpr_set (lo := a0 :: a1 :: a2 :: a3 :: a4 :: z :: rs) (i := 5) (v := .ref x) ha (by simp))) hW hS

theorem g_astoreN_5 {G : Gt} {d mc ms : Nat} {own : String} {y : Mt} {X : Xt} {P : Pt3} {pc nx : Nat} {st : List Value} {I : It} {h : Ht} {k n : Nat} {a0 a1 a2 a3 a4 : Option Value} {rs : List (Option Value)} {z : Option Value}  (hX : Xok G own y X) (hd : dc y.2.1 pc (.astore 5) 2 nx) (hi : 5 < y.2.2.1) (ha : ahd (a0 :: a1 :: a2 :: a3 :: a4 :: z :: rs) 5 = true) (kk : GG G d mc ms X P nx (a0 :: a1 :: a2 :: a3 :: a4 :: some (.null) :: rs) st I h k n) : GG G d mc ms X P pc (a0 :: a1 :: a2 :: a3 :: a4 :: z :: rs) (.null :: st) I h k n := by
  obtain ⟨p, l, e, s, m, args, below, meth, c⟩ := X
  obtain ⟨hexec, hb, hml, hown, hts, hKs, hGk, hlk, hrt, hnm⟩ := hX
  obtain ⟨hd, hnx⟩ := hd
  subst hnx
  intro H locs ls hl hW hS
  refine lv_astoreN hexec hb hd  hl (by rw [hml]; exact hi) rfl (fun ls2 hl2 => ?_)
  exact kk H locs ls2 (lv_fewer hl2 (lpr_set (lo := a0 :: a1 :: a2 :: a3 :: a4 :: z :: rs) (i := 5) (v := .null) ha (by simp))) hW hS

theorem g_lstore_5 {G : Gt} {d mc ms : Nat} {own : String} {y : Mt} {X : Xt} {P : Pt3} {pc nx : Nat} {st : List Value} {I : It} {h : Ht} {k n : Nat} {a0 a1 a2 a3 a4 : Option Value} {rs : List (Option Value)} {z z2 : Option Value} {x : Int64} (hX : Xok G own y X) (hd : dc y.2.1 pc (.lstore 5) 2 nx) (hi : 5 + 1 < y.2.2.1) (ha : ahd (a0 :: a1 :: a2 :: a3 :: a4 :: z :: z2 :: rs) 5 = true) (kk : GG G d mc ms X P nx (a0 :: a1 :: a2 :: a3 :: a4 :: some (.long x) :: none :: rs) st I h k n) : GG G d mc ms X P pc (a0 :: a1 :: a2 :: a3 :: a4 :: z :: z2 :: rs) (.long x :: st) I h k n := by
  obtain ⟨p, l, e, s, m, args, below, meth, c⟩ := X
  obtain ⟨hexec, hb, hml, hown, hts, hKs, hGk, hlk, hrt, hnm⟩ := hX
  obtain ⟨hd, hnx⟩ := hd
  subst hnx
  intro H locs ls hl hW hS
  refine lv_lstore hexec hb hd  hl (by rw [hml]; exact hi) rfl (fun ls2 hl2 => ?_)
  exact kk H locs ls2 (lv_fewer hl2 (lpr_set2 (lo := a0 :: a1 :: a2 :: a3 :: a4 :: z :: z2 :: rs) (i := 5) (v := .long x) ha (by simp))) hW hS

theorem g_iinc_5 {G : Gt} {d mc ms : Nat} {own : String} {y : Mt} {X : Xt} {P : Pt3} {pc nx : Nat} {st : List Value} {I : It} {h : Ht} {k n : Nat} {a0 a1 a2 a3 a4 : Option Value} {rs : List (Option Value)} {x v : Int32} {z : Int} (hX : Xok G own y X) (hd : dc y.2.1 pc (.iinc 5 z) 3 nx) (hv : x + Int32.ofInt z = v) (hi : 5 < y.2.2.1) (ha : ahd (a0 :: a1 :: a2 :: a3 :: a4 :: some (.int x) :: rs) 5 = true) (kk : GG G d mc ms X P nx (a0 :: a1 :: a2 :: a3 :: a4 :: some (.int v) :: rs) st I h k n) : GG G d mc ms X P pc (a0 :: a1 :: a2 :: a3 :: a4 :: some (.int x) :: rs) st I h k n := by
  obtain ⟨p, l, e, s, m, args, below, meth, c⟩ := X
  obtain ⟨hexec, hb, hml, hown, hts, hKs, hGk, hlk, hrt, hnm⟩ := hX
  obtain ⟨hd, hnx⟩ := hd
  subst hnx
  intro H locs ls hl hW hS
  have hmem : (5, Value.int x) ∈ lpr G 0 (a0 :: a1 :: a2 :: a3 :: a4 :: some (.int x) :: rs) := (lpr_mem _ 0 _).mpr ⟨5, .int x, rfl, by simp [cv]⟩
  obtain ⟨kq, hkq⟩ := List.getElem?_of_mem hmem
  refine lv_iinc hexec hb hd hl hkq hv (by rw [hml]; exact hi) rfl (fun ls2 hl2 => ?_)
  exact kk H locs ls2 (lv_fewer hl2 (lpr_set (lo := a0 :: a1 :: a2 :: a3 :: a4 :: some (.int x) :: rs) (i := 5) (v := .int v) ha (by simp))) hW hS

theorem g_iload_6 {G : Gt} {d mc ms : Nat} {own : String} {y : Mt} {X : Xt} {P : Pt3} {pc nx : Nat} {st : List Value} {I : It} {h : Ht} {k n : Nat} {a0 a1 a2 a3 a4 a5 : Option Value} {rs : List (Option Value)} {x : Int32} (hX : Xok G own y X) (hd : dc y.2.1 pc (.iload 6) 2 nx) (kk : GG G d mc ms X P nx (a0 :: a1 :: a2 :: a3 :: a4 :: a5 :: some (.int x) :: rs) (.int x :: st) I h k n) : GG G d mc ms X P pc (a0 :: a1 :: a2 :: a3 :: a4 :: a5 :: some (.int x) :: rs) (st) I h k n := by
  obtain ⟨p, l, e, s, m, args, below, meth, c⟩ := X
  obtain ⟨hexec, hb, hml, hown, hts, hKs, hGk, hlk, hrt, hnm⟩ := hX
  obtain ⟨hd, hnx⟩ := hd
  subst hnx
  intro H locs ls hl hW hS
  exact lv_iload hexec hb hd (lpr_at hl (i := 6) rfl) (kk H locs ls hl hW hS)

theorem g_lload_6 {G : Gt} {d mc ms : Nat} {own : String} {y : Mt} {X : Xt} {P : Pt3} {pc nx : Nat} {st : List Value} {I : It} {h : Ht} {k n : Nat} {a0 a1 a2 a3 a4 a5 : Option Value} {rs : List (Option Value)} {x : Int64} (hX : Xok G own y X) (hd : dc y.2.1 pc (.lload 6) 2 nx) (kk : GG G d mc ms X P nx (a0 :: a1 :: a2 :: a3 :: a4 :: a5 :: some (.long x) :: rs) (.long x :: st) I h k n) : GG G d mc ms X P pc (a0 :: a1 :: a2 :: a3 :: a4 :: a5 :: some (.long x) :: rs) (st) I h k n := by
  obtain ⟨p, l, e, s, m, args, below, meth, c⟩ := X
  obtain ⟨hexec, hb, hml, hown, hts, hKs, hGk, hlk, hrt, hnm⟩ := hX
  obtain ⟨hd, hnx⟩ := hd
  subst hnx
  intro H locs ls hl hW hS
  exact lv_lload hexec hb hd (lpr_at hl (i := 6) rfl) (kk H locs ls hl hW hS)

theorem g_aload_6 {G : Gt} {d mc ms : Nat} {own : String} {y : Mt} {X : Xt} {P : Pt3} {pc nx : Nat} {st : List Value} {I : It} {h : Ht} {k n : Nat} {a0 a1 a2 a3 a4 a5 : Option Value} {rs : List (Option Value)} {x : Nat} (hX : Xok G own y X) (hd : dc y.2.1 pc (.aload 6) 2 nx) (kk : GG G d mc ms X P nx (a0 :: a1 :: a2 :: a3 :: a4 :: a5 :: some (.ref x) :: rs) (.ref x :: st) I h k n) : GG G d mc ms X P pc (a0 :: a1 :: a2 :: a3 :: a4 :: a5 :: some (.ref x) :: rs) (st) I h k n := by
  obtain ⟨p, l, e, s, m, args, below, meth, c⟩ := X
  obtain ⟨hexec, hb, hml, hown, hts, hKs, hGk, hlk, hrt, hnm⟩ := hX
  obtain ⟨hd, hnx⟩ := hd
  subst hnx
  intro H locs ls hl hW hS
  exact lv_aload hexec hb hd (lpr_at hl (i := 6) rfl) (kk H locs ls hl hW hS)

theorem g_aloadN_6 {G : Gt} {d mc ms : Nat} {own : String} {y : Mt} {X : Xt} {P : Pt3} {pc nx : Nat} {st : List Value} {I : It} {h : Ht} {k n : Nat} {a0 a1 a2 a3 a4 a5 : Option Value} {rs : List (Option Value)}  (hX : Xok G own y X) (hd : dc y.2.1 pc (.aload 6) 2 nx) (kk : GG G d mc ms X P nx (a0 :: a1 :: a2 :: a3 :: a4 :: a5 :: some .null :: rs) (.null :: st) I h k n) : GG G d mc ms X P pc (a0 :: a1 :: a2 :: a3 :: a4 :: a5 :: some .null :: rs) (st) I h k n := by
  obtain ⟨p, l, e, s, m, args, below, meth, c⟩ := X
  obtain ⟨hexec, hb, hml, hown, hts, hKs, hGk, hlk, hrt, hnm⟩ := hX
  obtain ⟨hd, hnx⟩ := hd
  subst hnx
  intro H locs ls hl hW hS
  exact lv_aloadN hexec hb hd (lpr_at hl (i := 6) rfl) (kk H locs ls hl hW hS)

theorem g_istore_6 {G : Gt} {d mc ms : Nat} {own : String} {y : Mt} {X : Xt} {P : Pt3} {pc nx : Nat} {st : List Value} {I : It} {h : Ht} {k n : Nat} {a0 a1 a2 a3 a4 a5 : Option Value} {rs : List (Option Value)} {z : Option Value} {x : Int32} (hX : Xok G own y X) (hd : dc y.2.1 pc (.istore 6) 2 nx) (hi : 6 < y.2.2.1) (ha : ahd (a0 :: a1 :: a2 :: a3 :: a4 :: a5 :: z :: rs) 6 = true) (kk : GG G d mc ms X P nx (a0 :: a1 :: a2 :: a3 :: a4 :: a5 :: some (.int x) :: rs) st I h k n) : GG G d mc ms X P pc (a0 :: a1 :: a2 :: a3 :: a4 :: a5 :: z :: rs) (.int x :: st) I h k n := by
  obtain ⟨p, l, e, s, m, args, below, meth, c⟩ := X
  obtain ⟨hexec, hb, hml, hown, hts, hKs, hGk, hlk, hrt, hnm⟩ := hX
  obtain ⟨hd, hnx⟩ := hd
  subst hnx
  intro H locs ls hl hW hS
  refine lv_istore hexec hb hd  hl (by rw [hml]; exact hi) rfl (fun ls2 hl2 => ?_)
  exact kk H locs ls2 (lv_fewer hl2 (lpr_set (lo := a0 :: a1 :: a2 :: a3 :: a4 :: a5 :: z :: rs) (i := 6) (v := .int x) ha (by simp))) hW hS

theorem g_astore_6 {G : Gt} {d mc ms : Nat} {own : String} {y : Mt} {X : Xt} {P : Pt3} {pc nx : Nat} {st : List Value} {I : It} {h : Ht} {k n : Nat} {a0 a1 a2 a3 a4 a5 : Option Value} {rs : List (Option Value)} {z : Option Value} {x : Nat} (hX : Xok G own y X) (hd : dc y.2.1 pc (.astore 6) 2 nx) (hi : 6 < y.2.2.1) (ha : ahd (a0 :: a1 :: a2 :: a3 :: a4 :: a5 :: z :: rs) 6 = true) (kk : GG G d mc ms X P nx (a0 :: a1 :: a2 :: a3 :: a4 :: a5 :: some (.ref x) :: rs) st I h k n) : GG G d mc ms X P pc (a0 :: a1 :: a2 :: a3 :: a4 :: a5 :: z :: rs) (.ref x :: st) I h k n := by
  obtain ⟨p, l, e, s, m, args, below, meth, c⟩ := X
  obtain ⟨hexec, hb, hml, hown, hts, hKs, hGk, hlk, hrt, hnm⟩ := hX
  obtain ⟨hd, hnx⟩ := hd
  subst hnx
  intro H locs ls hl hW hS
  refine lv_astore hexec hb hd  hl (by rw [hml]; exact hi) rfl (fun ls2 hl2 => ?_)
  exact kk H locs ls2 (lv_fewer hl2 (lpr_set (lo := a0 :: a1 :: a2 :: a3 :: a4 :: a5 :: z :: rs) (i := 6) (v := .ref x) ha (by simp))) hW hS

theorem g_astoreN_6 {G : Gt} {d mc ms : Nat} {own : String} {y : Mt} {X : Xt} {P : Pt3} {pc nx : Nat} {st : List Value} {I : It} {h : Ht} {k n : Nat} {a0 a1 a2 a3 a4 a5 : Option Value} {rs : List (Option Value)} {z : Option Value}  (hX : Xok G own y X) (hd : dc y.2.1 pc (.astore 6) 2 nx) (hi : 6 < y.2.2.1) (ha : ahd (a0 :: a1 :: a2 :: a3 :: a4 :: a5 :: z :: rs) 6 = true) (kk : GG G d mc ms X P nx (a0 :: a1 :: a2 :: a3 :: a4 :: a5 :: some (.null) :: rs) st I h k n) : GG G d mc ms X P pc (a0 :: a1 :: a2 :: a3 :: a4 :: a5 :: z :: rs) (.null :: st) I h k n := by
  obtain ⟨p, l, e, s, m, args, below, meth, c⟩ := X
  obtain ⟨hexec, hb, hml, hown, hts, hKs, hGk, hlk, hrt, hnm⟩ := hX
  obtain ⟨hd, hnx⟩ := hd
  subst hnx
  intro H locs ls hl hW hS
  refine lv_astoreN hexec hb hd  hl (by rw [hml]; exact hi) rfl (fun ls2 hl2 => ?_)
  exact kk H locs ls2 (lv_fewer hl2 (lpr_set (lo := a0 :: a1 :: a2 :: a3 :: a4 :: a5 :: z :: rs) (i := 6) (v := .null) ha (by simp))) hW hS

theorem g_lstore_6 {G : Gt} {d mc ms : Nat} {own : String} {y : Mt} {X : Xt} {P : Pt3} {pc nx : Nat} {st : List Value} {I : It} {h : Ht} {k n : Nat} {a0 a1 a2 a3 a4 a5 : Option Value} {rs : List (Option Value)} {z z2 : Option Value} {x : Int64} (hX : Xok G own y X) (hd : dc y.2.1 pc (.lstore 6) 2 nx) (hi : 6 + 1 < y.2.2.1) (ha : ahd (a0 :: a1 :: a2 :: a3 :: a4 :: a5 :: z :: z2 :: rs) 6 = true) (kk : GG G d mc ms X P nx (a0 :: a1 :: a2 :: a3 :: a4 :: a5 :: some (.long x) :: none :: rs) st I h k n) : GG G d mc ms X P pc (a0 :: a1 :: a2 :: a3 :: a4 :: a5 :: z :: z2 :: rs) (.long x :: st) I h k n := by
  obtain ⟨p, l, e, s, m, args, below, meth, c⟩ := X
  obtain ⟨hexec, hb, hml, hown, hts, hKs, hGk, hlk, hrt, hnm⟩ := hX
  obtain ⟨hd, hnx⟩ := hd
  subst hnx
  intro H locs ls hl hW hS
  refine lv_lstore hexec hb hd  hl (by rw [hml]; exact hi) rfl (fun ls2 hl2 => ?_)
  exact kk H locs ls2 (lv_fewer hl2 (lpr_set2 (lo := a0 :: a1 :: a2 :: a3 :: a4 :: a5 :: z :: z2 :: rs) (i := 6) (v := .long x) ha (by simp))) hW hS

theorem g_iinc_6 {G : Gt} {d mc ms : Nat} {own : String} {y : Mt} {X : Xt} {P : Pt3} {pc nx : Nat} {st : List Value} {I : It} {h : Ht} {k n : Nat} {a0 a1 a2 a3 a4 a5 : Option Value} {rs : List (Option Value)} {x v : Int32} {z : Int} (hX : Xok G own y X) (hd : dc y.2.1 pc (.iinc 6 z) 3 nx) (hv : x + Int32.ofInt z = v) (hi : 6 < y.2.2.1) (ha : ahd (a0 :: a1 :: a2 :: a3 :: a4 :: a5 :: some (.int x) :: rs) 6 = true) (kk : GG G d mc ms X P nx (a0 :: a1 :: a2 :: a3 :: a4 :: a5 :: some (.int v) :: rs) st I h k n) : GG G d mc ms X P pc (a0 :: a1 :: a2 :: a3 :: a4 :: a5 :: some (.int x) :: rs) st I h k n := by
  obtain ⟨p, l, e, s, m, args, below, meth, c⟩ := X
  obtain ⟨hexec, hb, hml, hown, hts, hKs, hGk, hlk, hrt, hnm⟩ := hX
  obtain ⟨hd, hnx⟩ := hd
  subst hnx
  intro H locs ls hl hW hS
  have hmem : (6, Value.int x) ∈ lpr G 0 (a0 :: a1 :: a2 :: a3 :: a4 :: a5 :: some (.int x) :: rs) := (lpr_mem _ 0 _).mpr ⟨6, .int x, rfl, by simp [cv]⟩
  obtain ⟨kq, hkq⟩ := List.getElem?_of_mem hmem
  refine lv_iinc hexec hb hd hl hkq hv (by rw [hml]; exact hi) rfl (fun ls2 hl2 => ?_)
  exact kk H locs ls2 (lv_fewer hl2 (lpr_set (lo := a0 :: a1 :: a2 :: a3 :: a4 :: a5 :: some (.int x) :: rs) (i := 6) (v := .int v) ha (by simp))) hW hS

theorem g_iload_7 {G : Gt} {d mc ms : Nat} {own : String} {y : Mt} {X : Xt} {P : Pt3} {pc nx : Nat} {st : List Value} {I : It} {h : Ht} {k n : Nat} {a0 a1 a2 a3 a4 a5 a6 : Option Value} {rs : List (Option Value)} {x : Int32} (hX : Xok G own y X) (hd : dc y.2.1 pc (.iload 7) 2 nx) (kk : GG G d mc ms X P nx (a0 :: a1 :: a2 :: a3 :: a4 :: a5 :: a6 :: some (.int x) :: rs) (.int x :: st) I h k n) : GG G d mc ms X P pc (a0 :: a1 :: a2 :: a3 :: a4 :: a5 :: a6 :: some (.int x) :: rs) (st) I h k n := by
  obtain ⟨p, l, e, s, m, args, below, meth, c⟩ := X
  obtain ⟨hexec, hb, hml, hown, hts, hKs, hGk, hlk, hrt, hnm⟩ := hX
  obtain ⟨hd, hnx⟩ := hd
  subst hnx
  intro H locs ls hl hW hS
  exact lv_iload hexec hb hd (lpr_at hl (i := 7) rfl) (kk H locs ls hl hW hS)

theorem g_lload_7 {G : Gt} {d mc ms : Nat} {own : String} {y : Mt} {X : Xt} {P : Pt3} {pc nx : Nat} {st : List Value} {I : It} {h : Ht} {k n : Nat} {a0 a1 a2 a3 a4 a5 a6 : Option Value} {rs : List (Option Value)} {x : Int64} (hX : Xok G own y X) (hd : dc y.2.1 pc (.lload 7) 2 nx) (kk : GG G d mc ms X P nx (a0 :: a1 :: a2 :: a3 :: a4 :: a5 :: a6 :: some (.long x) :: rs) (.long x :: st) I h k n) : GG G d mc ms X P pc (a0 :: a1 :: a2 :: a3 :: a4 :: a5 :: a6 :: some (.long x) :: rs) (st) I h k n := by
  obtain ⟨p, l, e, s, m, args, below, meth, c⟩ := X
  obtain ⟨hexec, hb, hml, hown, hts, hKs, hGk, hlk, hrt, hnm⟩ := hX
  obtain ⟨hd, hnx⟩ := hd
  subst hnx
  intro H locs ls hl hW hS
  exact lv_lload hexec hb hd (lpr_at hl (i := 7) rfl) (kk H locs ls hl hW hS)

theorem g_aload_7 {G : Gt} {d mc ms : Nat} {own : String} {y : Mt} {X : Xt} {P : Pt3} {pc nx : Nat} {st : List Value} {I : It} {h : Ht} {k n : Nat} {a0 a1 a2 a3 a4 a5 a6 : Option Value} {rs : List (Option Value)} {x : Nat} (hX : Xok G own y X) (hd : dc y.2.1 pc (.aload 7) 2 nx) (kk : GG G d mc ms X P nx (a0 :: a1 :: a2 :: a3 :: a4 :: a5 :: a6 :: some (.ref x) :: rs) (.ref x :: st) I h k n) : GG G d mc ms X P pc (a0 :: a1 :: a2 :: a3 :: a4 :: a5 :: a6 :: some (.ref x) :: rs) (st) I h k n := by
  obtain ⟨p, l, e, s, m, args, below, meth, c⟩ := X
  obtain ⟨hexec, hb, hml, hown, hts, hKs, hGk, hlk, hrt, hnm⟩ := hX
  obtain ⟨hd, hnx⟩ := hd
  subst hnx
  intro H locs ls hl hW hS
  exact lv_aload hexec hb hd (lpr_at hl (i := 7) rfl) (kk H locs ls hl hW hS)

theorem g_aloadN_7 {G : Gt} {d mc ms : Nat} {own : String} {y : Mt} {X : Xt} {P : Pt3} {pc nx : Nat} {st : List Value} {I : It} {h : Ht} {k n : Nat} {a0 a1 a2 a3 a4 a5 a6 : Option Value} {rs : List (Option Value)}  (hX : Xok G own y X) (hd : dc y.2.1 pc (.aload 7) 2 nx) (kk : GG G d mc ms X P nx (a0 :: a1 :: a2 :: a3 :: a4 :: a5 :: a6 :: some .null :: rs) (.null :: st) I h k n) : GG G d mc ms X P pc (a0 :: a1 :: a2 :: a3 :: a4 :: a5 :: a6 :: some .null :: rs) (st) I h k n := by
  obtain ⟨p, l, e, s, m, args, below, meth, c⟩ := X
  obtain ⟨hexec, hb, hml, hown, hts, hKs, hGk, hlk, hrt, hnm⟩ := hX
  obtain ⟨hd, hnx⟩ := hd
  subst hnx
  intro H locs ls hl hW hS
  exact lv_aloadN hexec hb hd (lpr_at hl (i := 7) rfl) (kk H locs ls hl hW hS)

theorem g_istore_7 {G : Gt} {d mc ms : Nat} {own : String} {y : Mt} {X : Xt} {P : Pt3} {pc nx : Nat} {st : List Value} {I : It} {h : Ht} {k n : Nat} {a0 a1 a2 a3 a4 a5 a6 : Option Value} {rs : List (Option Value)} {z : Option Value} {x : Int32} (hX : Xok G own y X) (hd : dc y.2.1 pc (.istore 7) 2 nx) (hi : 7 < y.2.2.1) (ha : ahd (a0 :: a1 :: a2 :: a3 :: a4 :: a5 :: a6 :: z :: rs) 7 = true) (kk : GG G d mc ms X P nx (a0 :: a1 :: a2 :: a3 :: a4 :: a5 :: a6 :: some (.int x) :: rs) st I h k n) : GG G d mc ms X P pc (a0 :: a1 :: a2 :: a3 :: a4 :: a5 :: a6 :: z :: rs) (.int x :: st) I h k n := by
  obtain ⟨p, l, e, s, m, args, below, meth, c⟩ := X
  obtain ⟨hexec, hb, hml, hown, hts, hKs, hGk, hlk, hrt, hnm⟩ := hX
  obtain ⟨hd, hnx⟩ := hd
  subst hnx
  intro H locs ls hl hW hS
  refine lv_istore hexec hb hd  hl (by rw [hml]; exact hi) rfl (fun ls2 hl2 => ?_)
  exact kk H locs ls2 (lv_fewer hl2 (lpr_set (lo := a0 :: a1 :: a2 :: a3 :: a4 :: a5 :: a6 :: z :: rs) (i := 7) (v := .int x) ha (by simp))) hW hS

theorem g_astore_7 {G : Gt} {d mc ms : Nat} {own : String} {y : Mt} {X : Xt} {P : Pt3} {pc nx : Nat} {st : List Value} {I : It} {h : Ht} {k n : Nat} {a0 a1 a2 a3 a4 a5 a6 : Option Value} {rs : List (Option Value)} {z : Option Value} {x : Nat} (hX : Xok G own y X) (hd : dc y.2.1 pc (.astore 7) 2 nx) (hi : 7 < y.2.2.1) (ha : ahd (a0 :: a1 :: a2 :: a3 :: a4 :: a5 :: a6 :: z :: rs) 7 = true) (kk : GG G d mc ms X P nx (a0 :: a1 :: a2 :: a3 :: a4 :: a5 :: a6 :: some (.ref x) :: rs) st I h k n) : GG G d mc ms X P pc (a0 :: a1 :: a2 :: a3 :: a4 :: a5 :: a6 :: z :: rs) (.ref x :: st) I h k n := by
  obtain ⟨p, l, e, s, m, args, below, meth, c⟩ := X
  obtain ⟨hexec, hb, hml, hown, hts, hKs, hGk, hlk, hrt, hnm⟩ := hX
  obtain ⟨hd, hnx⟩ := hd
  subst hnx
  intro H locs ls hl hW hS
  refine lv_astore hexec hb hd  hl (by rw [hml]; exact hi) rfl (fun ls2 hl2 => ?_)
  exact kk H locs ls2 (lv_fewer hl2 (lpr_set (lo := a0 :: a1 :: a2 :: a3 :: a4 :: a5 :: a6 :: z :: rs) (i := 7) (v := .ref x) ha (by simp))) hW hS

theorem g_astoreN_7 {G : Gt} {d mc ms : Nat} {own : String} {y : Mt} {X : Xt} {P : Pt3} {pc nx : Nat} {st : List Value} {I : It} {h : Ht} {k n : Nat} {a0 a1 a2 a3 a4 a5 a6 : Option Value} {rs : List (Option Value)} {z : Option Value}  (hX : Xok G own y X) (hd : dc y.2.1 pc (.astore 7) 2 nx) (hi : 7 < y.2.2.1) (ha : ahd (a0 :: a1 :: a2 :: a3 :: a4 :: a5 :: a6 :: z :: rs) 7 = true) (kk : GG G d mc ms X P nx (a0 :: a1 :: a2 :: a3 :: a4 :: a5 :: a6 :: some (.null) :: rs) st I h k n) : GG G d mc ms X P pc (a0 :: a1 :: a2 :: a3 :: a4 :: a5 :: a6 :: z :: rs) (.null :: st) I h k n := by
  obtain ⟨p, l, e, s, m, args, below, meth, c⟩ := X
  obtain ⟨hexec, hb, hml, hown, hts, hKs, hGk, hlk, hrt, hnm⟩ := hX
  obtain ⟨hd, hnx⟩ := hd
  subst hnx
  intro H locs ls hl hW hS
  refine lv_astoreN hexec hb hd  hl (by rw [hml]; exact hi) rfl (fun ls2 hl2 => ?_)
  exact kk H locs ls2 (lv_fewer hl2 (lpr_set (lo := a0 :: a1 :: a2 :: a3 :: a4 :: a5 :: a6 :: z :: rs) (i := 7) (v := .null) ha (by simp))) hW hS

theorem g_lstore_7 {G : Gt} {d mc ms : Nat} {own : String} {y : Mt} {X : Xt} {P : Pt3} {pc nx : Nat} {st : List Value} {I : It} {h : Ht} {k n : Nat} {a0 a1 a2 a3 a4 a5 a6 : Option Value} {rs : List (Option Value)} {z z2 : Option Value} {x : Int64} (hX : Xok G own y X) (hd : dc y.2.1 pc (.lstore 7) 2 nx) (hi : 7 + 1 < y.2.2.1) (ha : ahd (a0 :: a1 :: a2 :: a3 :: a4 :: a5 :: a6 :: z :: z2 :: rs) 7 = true) (kk : GG G d mc ms X P nx (a0 :: a1 :: a2 :: a3 :: a4 :: a5 :: a6 :: some (.long x) :: none :: rs) st I h k n) : GG G d mc ms X P pc (a0 :: a1 :: a2 :: a3 :: a4 :: a5 :: a6 :: z :: z2 :: rs) (.long x :: st) I h k n := by
  obtain ⟨p, l, e, s, m, args, below, meth, c⟩ := X
  obtain ⟨hexec, hb, hml, hown, hts, hKs, hGk, hlk, hrt, hnm⟩ := hX
  obtain ⟨hd, hnx⟩ := hd
  subst hnx
  intro H locs ls hl hW hS
  refine lv_lstore hexec hb hd  hl (by rw [hml]; exact hi) rfl (fun ls2 hl2 => ?_)
  exact kk H locs ls2 (lv_fewer hl2 (lpr_set2 (lo := a0 :: a1 :: a2 :: a3 :: a4 :: a5 :: a6 :: z :: z2 :: rs) (i := 7) (v := .long x) ha (by simp))) hW hS

theorem g_iinc_7 {G : Gt} {d mc ms : Nat} {own : String} {y : Mt} {X : Xt} {P : Pt3} {pc nx : Nat} {st : List Value} {I : It} {h : Ht} {k n : Nat} {a0 a1 a2 a3 a4 a5 a6 : Option Value} {rs : List (Option Value)} {x v : Int32} {z : Int} (hX : Xok G own y X) (hd : dc y.2.1 pc (.iinc 7 z) 3 nx) (hv : x + Int32.ofInt z = v) (hi : 7 < y.2.2.1) (ha : ahd (a0 :: a1 :: a2 :: a3 :: a4 :: a5 :: a6 :: some (.int x) :: rs) 7 = true) (kk : GG G d mc ms X P nx (a0 :: a1 :: a2 :: a3 :: a4 :: a5 :: a6 :: some (.int v) :: rs) st I h k n) : GG G d mc ms X P pc (a0 :: a1 :: a2 :: a3 :: a4 :: a5 :: a6 :: some (.int x) :: rs) st I h k n := by
  obtain ⟨p, l, e, s, m, args, below, meth, c⟩ := X
  obtain ⟨hexec, hb, hml, hown, hts, hKs, hGk, hlk, hrt, hnm⟩ := hX
  obtain ⟨hd, hnx⟩ := hd
  subst hnx
  intro H locs ls hl hW hS
  have hmem : (7, Value.int x) ∈ lpr G 0 (a0 :: a1 :: a2 :: a3 :: a4 :: a5 :: a6 :: some (.int x) :: rs) := (lpr_mem _ 0 _).mpr ⟨7, .int x, rfl, by simp [cv]⟩
  obtain ⟨kq, hkq⟩ := List.getElem?_of_mem hmem
  refine lv_iinc hexec hb hd hl hkq hv (by rw [hml]; exact hi) rfl (fun ls2 hl2 => ?_)
  exact kk H locs ls2 (lv_fewer hl2 (lpr_set (lo := a0 :: a1 :: a2 :: a3 :: a4 :: a5 :: a6 :: some (.int x) :: rs) (i := 7) (v := .int v) ha (by simp))) hW hS

theorem g_iload_8 {G : Gt} {d mc ms : Nat} {own : String} {y : Mt} {X : Xt} {P : Pt3} {pc nx : Nat} {st : List Value} {I : It} {h : Ht} {k n : Nat} {a0 a1 a2 a3 a4 a5 a6 a7 : Option Value} {rs : List (Option Value)} {x : Int32} (hX : Xok G own y X) (hd : dc y.2.1 pc (.iload 8) 2 nx) (kk : GG G d mc ms X P nx (a0 :: a1 :: a2 :: a3 :: a4 :: a5 :: a6 :: a7 :: some (.int x) :: rs) (.int x :: st) I h k n) : GG G d mc ms X P pc (a0 :: a1 :: a2 :: a3 :: a4 :: a5 :: a6 :: a7 :: some (.int x) :: rs) (st) I h k n := by
  obtain ⟨p, l, e, s, m, args, below, meth, c⟩ := X
  obtain ⟨hexec, hb, hml, hown, hts, hKs, hGk, hlk, hrt, hnm⟩ := hX
  obtain ⟨hd, hnx⟩ := hd
  subst hnx
  intro H locs ls hl hW hS
  exact lv_iload hexec hb hd (lpr_at hl (i := 8) rfl) (kk H locs ls hl hW hS)

theorem g_lload_8 {G : Gt} {d mc ms : Nat} {own : String} {y : Mt} {X : Xt} {P : Pt3} {pc nx : Nat} {st : List Value} {I : It} {h : Ht} {k n : Nat} {a0 a1 a2 a3 a4 a5 a6 a7 : Option Value} {rs : List (Option Value)} {x : Int64} (hX : Xok G own y X) (hd : dc y.2.1 pc (.lload 8) 2 nx) (kk : GG G d mc ms X P nx (a0 :: a1 :: a2 :: a3 :: a4 :: a5 :: a6 :: a7 :: some (.long x) :: rs) (.long x :: st) I h k n) : GG G d mc ms X P pc (a0 :: a1 :: a2 :: a3 :: a4 :: a5 :: a6 :: a7 :: some (.long x) :: rs) (st) I h k n := by
  obtain ⟨p, l, e, s, m, args, below, meth, c⟩ := X
  obtain ⟨hexec, hb, hml, hown, hts, hKs, hGk, hlk, hrt, hnm⟩ := hX
  obtain ⟨hd, hnx⟩ := hd
  subst hnx
  intro H locs ls hl hW hS
  exact lv_lload hexec hb hd (lpr_at hl (i := 8) rfl) (kk H locs ls hl hW hS)

theorem g_aload_8 {G : Gt} {d mc ms : Nat} {own : String} {y : Mt} {X : Xt} {P : Pt3} {pc nx : Nat} {st : List Value} {I : It} {h : Ht} {k n : Nat} {a0 a1 a2 a3 a4 a5 a6 a7 : Option Value} {rs : List (Option Value)} {x : Nat} (hX : Xok G own y X) (hd : dc y.2.1 pc (.aload 8) 2 nx) (kk : GG G d mc ms X P nx (a0 :: a1 :: a2 :: a3 :: a4 :: a5 :: a6 :: a7 :: some (.ref x) :: rs) (.ref x :: st) I h k n) : GG G d mc ms X P pc (a0 :: a1 :: a2 :: a3 :: a4 :: a5 :: a6 :: a7 :: some (.ref x) :: rs) (st) I h k n := by
  obtain ⟨p, l, e, s, m, args, below, meth, c⟩ := X
  obtain ⟨hexec, hb, hml, hown, hts, hKs, hGk, hlk, hrt, hnm⟩ := hX
  obtain ⟨hd, hnx⟩ := hd
  subst hnx
  intro H locs ls hl hW hS
  exact lv_aload hexec hb hd (lpr_at hl (i := 8) rfl) (kk H locs ls hl hW hS)

theorem g_aloadN_8 {G : Gt} {d mc ms : Nat} {own : String} {y : Mt} {X : Xt} {P : Pt3} {pc nx : Nat} {st : List Value} {I : It} {h : Ht} {k n : Nat} {a0 a1 a2 a3 a4 a5 a6 a7 : Option Value} {rs : List (Option Value)}  (hX : Xok G own y X) (hd : dc y.2.1 pc (.aload 8) 2 nx) (kk : GG G d mc ms X P nx (a0 :: a1 :: a2 :: a3 :: a4 :: a5 :: a6 :: a7 :: some .null :: rs) (.null :: st) I h k n) : GG G d mc ms X P pc (a0 :: a1 :: a2 :: a3 :: a4 :: a5 :: a6 :: a7 :: some .null :: rs) (st) I h k n := by
  obtain ⟨p, l, e, s, m, args, below, meth, c⟩ := X
  obtain ⟨hexec, hb, hml, hown, hts, hKs, hGk, hlk, hrt, hnm⟩ := hX
  obtain ⟨hd, hnx⟩ := hd
  subst hnx
  intro H locs ls hl hW hS
  exact lv_aloadN hexec hb hd (lpr_at hl (i := 8) rfl) (kk H locs ls hl hW hS)

theorem g_istore_8 {G : Gt} {d mc ms : Nat} {own : String} {y : Mt} {X : Xt} {P : Pt3} {pc nx : Nat} {st : List Value} {I : It} {h : Ht} {k n : Nat} {a0 a1 a2 a3 a4 a5 a6 a7 : Option Value} {rs : List (Option Value)} {z : Option Value} {x : Int32} (hX : Xok G own y X) (hd : dc y.2.1 pc (.istore 8) 2 nx) (hi : 8 < y.2.2.1) (ha : ahd (a0 :: a1 :: a2 :: a3 :: a4 :: a5 :: a6 :: a7 :: z :: rs) 8 = true) (kk : GG G d mc ms X P nx (a0 :: a1 :: a2 :: a3 :: a4 :: a5 :: a6 :: a7 :: some (.int x) :: rs) st I h k n) : GG G d mc ms X P pc (a0 :: a1 :: a2 :: a3 :: a4 :: a5 :: a6 :: a7 :: z :: rs) (.int x :: st) I h k n := by
  obtain ⟨p, l, e, s, m, args, below, meth, c⟩ := X
  obtain ⟨hexec, hb, hml, hown, hts, hKs, hGk, hlk, hrt, hnm⟩ := hX
  obtain ⟨hd, hnx⟩ := hd
  subst hnx
  intro H locs ls hl hW hS
  refine lv_istore hexec hb hd  hl (by rw [hml]; exact hi) rfl (fun ls2 hl2 => ?_)
  exact kk H locs ls2 (lv_fewer hl2 (lpr_set (lo := a0 :: a1 :: a2 :: a3 :: a4 :: a5 :: a6 :: a7 :: z :: rs) (i := 8) (v := .int x) ha (by simp))) hW hS

theorem g_astore_8 {G : Gt} {d mc ms : Nat} {own : String} {y : Mt} {X : Xt} {P : Pt3} {pc nx : Nat} {st : List Value} {I : It} {h : Ht} {k n : Nat} {a0 a1 a2 a3 a4 a5 a6 a7 : Option Value} {rs : List (Option Value)} {z : Option Value} {x : Nat} (hX : Xok G own y X) (hd : dc y.2.1 pc (.astore 8) 2 nx) (hi : 8 < y.2.2.1) (ha : ahd (a0 :: a1 :: a2 :: a3 :: a4 :: a5 :: a6 :: a7 :: z :: rs) 8 = true) (kk : GG G d mc ms X P nx (a0 :: a1 :: a2 :: a3 :: a4 :: a5 :: a6 :: a7 :: some (.ref x) :: rs) st I h k n) : GG G d mc ms X P pc (a0 :: a1 :: a2 :: a3 :: a4 :: a5 :: a6 :: a7 :: z :: rs) (.ref x :: st) I h k n := by
  obtain ⟨p, l, e, s, m, args, below, meth, c⟩ := X
  obtain ⟨hexec, hb, hml, hown, hts, hKs, hGk, hlk, hrt, hnm⟩ := hX
  obtain ⟨hd, hnx⟩ := hd
  subst hnx
  intro H locs ls hl hW hS
  refine lv_astore hexec hb hd  hl (by rw [hml]; exact hi) rfl (fun ls2 hl2 => ?_)
  exact kk H locs ls2 (lv_fewer hl2 (lpr_set (lo := a0 :: a1 :: a2 :: a3 :: a4 :: a5 :: a6 :: a7 :: z :: rs) (i := 8) (v := .ref x) ha (by simp))) hW hS

theorem g_astoreN_8 {G : Gt} {d mc ms : Nat} {own : String} {y : Mt} {X : Xt} {P : Pt3} {pc nx : Nat} {st : List Value} {I : It} {h : Ht} {k n : Nat} {a0 a1 a2 a3 a4 a5 a6 a7 : Option Value} {rs : List (Option Value)} {z : Option Value}  (hX : Xok G own y X) (hd : dc y.2.1 pc (.astore 8) 2 nx) (hi : 8 < y.2.2.1) (ha : ahd (a0 :: a1 :: a2 :: a3 :: a4 :: a5 :: a6 :: a7 :: z :: rs) 8 = true) (kk : GG G d mc ms X P nx (a0 :: a1 :: a2 :: a3 :: a4 :: a5 :: a6 :: a7 :: some (.null) :: rs) st I h k n) : GG G d mc ms X P pc (a0 :: a1 :: a2 :: a3 :: a4 :: a5 :: a6 :: a7 :: z :: rs) (.null :: st) I h k n := by
  obtain ⟨p, l, e, s, m, args, below, meth, c⟩ := X
  obtain ⟨hexec, hb, hml, hown, hts, hKs, hGk, hlk, hrt, hnm⟩ := hX
  obtain ⟨hd, hnx⟩ := hd
  subst hnx
  intro H locs ls hl hW hS
  refine lv_astoreN hexec hb hd  hl (by rw [hml]; exact hi) rfl (fun ls2 hl2 => ?_)
  exact kk H locs ls2 (lv_fewer hl2 (lpr_set (lo := a0 :: a1 :: a2 :: a3 :: a4 :: a5 :: a6 :: a7 :: z :: rs) (i := 8) (v := .null) ha (by simp))) hW hS

theorem g_lstore_8 {G : Gt} {d mc ms : Nat} {own : String} {y : Mt} {X : Xt} {P : Pt3} {pc nx : Nat} {st : List Value} {I : It} {h : Ht} {k n : Nat} {a0 a1 a2 a3 a4 a5 a6 a7 : Option Value} {rs : List (Option Value)} {z z2 : Option Value} {x : Int64} (hX : Xok G own y X) (hd : dc y.2.1 pc (.lstore 8) 2 nx) (hi : 8 + 1 < y.2.2.1) (ha : ahd (a0 :: a1 :: a2 :: a3 :: a4 :: a5 :: a6 :: a7 :: z :: z2 :: rs) 8 = true) (kk : GG G d mc ms X P nx (a0 :: a1 :: a2 :: a3 :: a4 :: a5 :: a6 :: a7 :: some (.long x) :: none :: rs) st I h k n) : GG G d mc ms X P pc (a0 :: a1 :: a2 :: a3 :: a4 :: a5 :: a6 :: a7 :: z :: z2 :: rs) (.long x :: st) I h k n := by
  obtain ⟨p, l, e, s, m, args, below, meth, c⟩ := X
  obtain ⟨hexec, hb, hml, hown, hts, hKs, hGk, hlk, hrt, hnm⟩ := hX
  obtain ⟨hd, hnx⟩ := hd
  subst hnx
  intro H locs ls hl hW hS
  refine lv_lstore hexec hb hd  hl (by rw [hml]; exact hi) rfl (fun ls2 hl2 => ?_)
  exact kk H locs ls2 (lv_fewer hl2 (lpr_set2 (lo := a0 :: a1 :: a2 :: a3 :: a4 :: a5 :: a6 :: a7 :: z :: z2 :: rs) (i := 8) (v := .long x) ha (by simp))) hW hS

theorem g_iinc_8 {G : Gt} {d mc ms : Nat} {own : String} {y : Mt} {X : Xt} {P : Pt3} {pc nx : Nat} {st : List Value} {I : It} {h : Ht} {k n : Nat} {a0 a1 a2 a3 a4 a5 a6 a7 : Option Value} {rs : List (Option Value)} {x v : Int32} {z : Int} (hX : Xok G own y X) (hd : dc y.2.1 pc (.iinc 8 z) 3 nx) (hv : x + Int32.ofInt z = v) (hi : 8 < y.2.2.1) (ha : ahd (a0 :: a1 :: a2 :: a3 :: a4 :: a5 :: a6 :: a7 :: some (.int x) :: rs) 8 = true) (kk : GG G d mc ms X P nx (a0 :: a1 :: a2 :: a3 :: a4 :: a5 :: a6 :: a7 :: some (.int v) :: rs) st I h k n) : GG G d mc ms X P pc (a0 :: a1 :: a2 :: a3 :: a4 :: a5 :: a6 :: a7 :: some (.int x) :: rs) st I h k n := by
  obtain ⟨p, l, e, s, m, args, below, meth, c⟩ := X
  obtain ⟨hexec, hb, hml, hown, hts, hKs, hGk, hlk, hrt, hnm⟩ := hX
  obtain ⟨hd, hnx⟩ := hd
  subst hnx
  intro H locs ls hl hW hS
  have hmem : (8, Value.int x) ∈ lpr G 0 (a0 :: a1 :: a2 :: a3 :: a4 :: a5 :: a6 :: a7 :: some (.int x) :: rs) := (lpr_mem _ 0 _).mpr ⟨8, .int x, rfl, by simp [cv]⟩
  obtain ⟨kq, hkq⟩ := List.getElem?_of_mem hmem
  refine lv_iinc hexec hb hd hl hkq hv (by rw [hml]; exact hi) rfl (fun ls2 hl2 => ?_)
  exact kk H locs ls2 (lv_fewer hl2 (lpr_set (lo := a0 :: a1 :: a2 :: a3 :: a4 :: a5 :: a6 :: a7 :: some (.int x) :: rs) (i := 8) (v := .int v) ha (by simp))) hW hS

theorem g_iload_9 {G : Gt} {d mc ms : Nat} {own : String} {y : Mt} {X : Xt} {P : Pt3} {pc nx : Nat} {st : List Value} {I : It} {h : Ht} {k n : Nat} {a0 a1 a2 a3 a4 a5 a6 a7 a8 : Option Value} {rs : List (Option Value)} {x : Int32} (hX : Xok G own y X) (hd : dc y.2.1 pc (.iload 9) 2 nx) (kk : GG G d mc ms X P nx (a0 :: a1 :: a2 :: a3 :: a4 :: a5 :: a6 :: a7 :: a8 :: some (.int x) :: rs) (.int x :: st) I h k n) : GG G d mc ms X P pc (a0 :: a1 :: a2 :: a3 :: a4 :: a5 :: a6 :: a7 :: a8 :: some (.int x) :: rs) (st) I h k n := by
  obtain ⟨p, l, e, s, m, args, below, meth, c⟩ := X
  obtain ⟨hexec, hb, hml, hown, hts, hKs, hGk, hlk, hrt, hnm⟩ := hX
  obtain ⟨hd, hnx⟩ := hd
  subst hnx
  intro H locs ls hl hW hS
  exact lv_iload hexec hb hd (lpr_at hl (i := 9) rfl) (kk H locs ls hl hW hS)

theorem g_lload_9 {G : Gt} {d mc ms : Nat} {own : String} {y : Mt} {X : Xt} {P : Pt3} {pc nx : Nat} {st : List Value} {I : It} {h : Ht} {k n : Nat} {a0 a1 a2 a3 a4 a5 a6 a7 a8 : Option Value} {rs : List (Option Value)} {x : Int64} (hX : Xok G own y X) (hd : dc y.2.1 pc (.lload 9) 2 nx) (kk : GG G d mc ms X P nx (a0 :: a1 :: a2 :: a3 :: a4 :: a5 :: a6 :: a7 :: a8 :: some (.long x) :: rs) (.long x :: st) I h k n) : GG G d mc ms X P pc (a0 :: a1 :: a2 :: a3 :: a4 :: a5 :: a6 :: a7 :: a8 :: some (.long x) :: rs) (st) I h k n := by
  obtain ⟨p, l, e, s, m, args, below, meth, c⟩ := X
  obtain ⟨hexec, hb, hml, hown, hts, hKs, hGk, hlk, hrt, hnm⟩ := hX
  obtain ⟨hd, hnx⟩ := hd
  subst hnx
  intro H locs ls hl hW hS
  exact lv_lload hexec hb hd (lpr_at hl (i := 9) rfl) (kk H locs ls hl hW hS)

theorem g_aload_9 {G : Gt} {d mc ms : Nat} {own : String} {y : Mt} {X : Xt} {P : Pt3} {pc nx : Nat} {st : List Value} {I : It} {h : Ht} {k n : Nat} {a0 a1 a2 a3 a4 a5 a6 a7 a8 : Option Value} {rs : List (Option Value)} {x : Nat} (hX : Xok G own y X) (hd : dc y.2.1 pc (.aload 9) 2 nx) (kk : GG G d mc ms X P nx (a0 :: a1 :: a2 :: a3 :: a4 :: a5 :: a6 :: a7 :: a8 :: some (.ref x) :: rs) (.ref x :: st) I h k n) : GG G d mc ms X P pc (a0 :: a1 :: a2 :: a3 :: a4 :: a5 :: a6 :: a7 :: a8 :: some (.ref x) :: rs) (st) I h k n := by
  obtain ⟨p, l, e, s, m, args, below, meth, c⟩ := X
  obtain ⟨hexec, hb, hml, hown, hts, hKs, hGk, hlk, hrt, hnm⟩ := hX
  obtain ⟨hd, hnx⟩ := hd
  subst hnx
  intro H locs ls hl hW hS
  exact lv_aload hexec hb hd (lpr_at hl (i := 9) rfl) (kk H locs ls hl hW hS)

theorem g_aloadN_9 {G : Gt} {d mc ms : Nat} {own : String} {y : Mt} {X : Xt} {P : Pt3} {pc nx : Nat} {st : List Value} {I : It} {h : Ht} {k n : Nat} {a0 a1 a2 a3 a4 a5 a6 a7 a8 : Option Value} {rs : List (Option Value)}  (hX : Xok G own y X) (hd : dc y.2.1 pc (.aload 9) 2 nx) (kk : GG G d mc ms X P nx (a0 :: a1 :: a2 :: a3 :: a4 :: a5 :: a6 :: a7 :: a8 :: some .null :: rs) (.null :: st) I h k n) : GG G d mc ms X P pc (a0 :: a1 :: a2 :: a3 :: a4 :: a5 :: a6 :: a7 :: a8 :: some .null :: rs) (st) I h k n := by
  obtain ⟨p, l, e, s, m, args, below, meth, c⟩ := X
  obtain ⟨hexec, hb, hml, hown, hts, hKs, hGk, hlk, hrt, hnm⟩ := hX
  obtain ⟨hd, hnx⟩ := hd
  subst hnx
  intro H locs ls hl hW hS
  exact lv_aloadN hexec hb hd (lpr_at hl (i := 9) rfl) (kk H locs ls hl hW hS)

theorem g_istore_9 {G : Gt} {d mc ms : Nat} {own : String} {y : Mt} {X : Xt} {P : Pt3} {pc nx : Nat} {st : List Value} {I : It} {h : Ht} {k n : Nat} {a0 a1 a2 a3 a4 a5 a6 a7 a8 : Option Value} {rs : List (Option Value)} {z : Option Value} {x : Int32} (hX : Xok G own y X) (hd : dc y.2.1 pc (.istore 9) 2 nx) (hi : 9 < y.2.2.1) (ha : ahd (a0 :: a1 :: a2 :: a3 :: a4 :: a5 :: a6 :: a7 :: a8 :: z :: rs) 9 = true) (kk : GG G d mc ms X P nx (a0 :: a1 :: a2 :: a3 :: a4 :: a5 :: a6 :: a7 :: a8 :: some (.int x) :: rs) st I h k n) : GG G d mc ms X P pc (a0 :: a1 :: a2 :: a3 :: a4 :: a5 :: a6 :: a7 :: a8 :: z :: rs) (.int x :: st) I h k n := by
  obtain ⟨p, l, e, s, m, args, below, meth, c⟩ := X
  obtain ⟨hexec, hb, hml, hown, hts, hKs, hGk, hlk, hrt, hnm⟩ := hX
  obtain ⟨hd, hnx⟩ := hd
  subst hnx
  intro H locs ls hl hW hS
  refine lv_istore hexec hb hd  hl (by rw [hml]; exact hi) rfl (fun ls2 hl2 => ?_)
  exact kk H locs ls2 (lv_fewer hl2 (lpr_set (lo := a0 :: a1 :: a2 :: a3 :: a4 :: a5 :: a6 :: a7 :: a8 :: z :: rs) (i := 9) (v := .int x) ha (by simp))) hW hS

theorem g_astore_9 {G : Gt} {d mc ms : Nat} {own : String} {y : Mt} {X : Xt} {P : Pt3} {pc nx : Nat} {st : List Value} {I : It} {h : Ht} {k n : Nat} {a0 a1 a2 a3 a4 a5 a6 a7 a8 : Option Value} {rs : List (Option Value)} {z : Option Value} {x : Nat} (hX : Xok G own y X) (hd : dc y.2.1 pc (.astore 9) 2 nx) (hi : 9 < y.2.2.1) (ha : ahd (a0 :: a1 :: a2 :: a3 :: a4 :: a5 :: a6 :: a7 :: a8 :: z :: rs) 9 = true) (kk : GG G d mc ms X P nx (a0 :: a1 :: a2 :: a3 :: a4 :: a5 :: a6 :: a7 :: a8 :: some (.ref x) :: rs) st I h k n) : GG G d mc ms X P pc (a0 :: a1 :: a2 :: a3 :: a4 :: a5 :: a6 :: a7 :: a8 :: z :: rs) (.ref x :: st) I h k n := by
  obtain ⟨p, l, e, s, m, args, below, meth, c⟩ := X
  obtain ⟨hexec, hb, hml, hown, hts, hKs, hGk, hlk, hrt, hnm⟩ := hX
  obtain ⟨hd, hnx⟩ := hd
  subst hnx
  intro H locs ls hl hW hS
  refine lv_astore hexec hb hd  hl (by rw [hml]; exact hi) rfl (fun ls2 hl2 => ?_)
  exact kk H locs ls2 (lv_fewer hl2 (lpr_set (lo := a0 :: a1 :: a2 :: a3 :: a4 :: a5 :: a6 :: a7 :: a8 :: z :: rs) (i := 9) (v := .ref x) ha (by simp))) hW hS

theorem g_astoreN_9 {G : Gt} {d mc ms : Nat} {own : String} {y : Mt} {X : Xt} {P : Pt3} {pc nx : Nat} {st : List Value} {I : It} {h : Ht} {k n : Nat} {a0 a1 a2 a3 a4 a5 a6 a7 a8 : Option Value} {rs : List (Option Value)} {z : Option Value}  (hX : Xok G own y X) (hd : dc y.2.1 pc (.astore 9) 2 nx) (hi : 9 < y.2.2.1) (ha : ahd (a0 :: a1 :: a2 :: a3 :: a4 :: a5 :: a6 :: a7 :: a8 :: z :: rs) 9 = true) (kk : GG G d mc ms X P nx (a0 :: a1 :: a2 :: a3 :: a4 :: a5 :: a6 :: a7 :: a8 :: some (.null) :: rs) st I h k n) : GG G d mc ms X P pc (a0 :: a1 :: a2 :: a3 :: a4 :: a5 :: a6 :: a7 :: a8 :: z :: rs) (.null :: st) I h k n := by
  obtain ⟨p, l, e, s, m, args, below, meth, c⟩ := X
  obtain ⟨hexec, hb, hml, hown, hts, hKs, hGk, hlk, hrt, hnm⟩ := hX
  obtain ⟨hd, hnx⟩ := hd
  subst hnx
  intro H locs ls hl hW hS
  refine lv_astoreN hexec hb hd  hl (by rw [hml]; exact hi) rfl (fun ls2 hl2 => ?_)
  exact kk H locs ls2 (lv_fewer hl2 (lpr_set (lo := a0 :: a1 :: a2 :: a3 :: a4 :: a5 :: a6 :: a7 :: a8 :: z :: rs) (i := 9) (v := .null) ha (by simp))) hW hS

theorem g_lstore_9 {G : Gt} {d mc ms : Nat} {own : String} {y : Mt} {X : Xt} {P : Pt3} {pc nx : Nat} {st : List Value} {I : It} {h : Ht} {k n : Nat} {a0 a1 a2 a3 a4 a5 a6 a7 a8 : Option Value} {rs : List (Option Value)} {z z2 : Option Value} {x : Int64} (hX : Xok G own y X) (hd : dc y.2.1 pc (.lstore 9) 2 nx) (hi : 9 + 1 < y.2.2.1) (ha : ahd (a0 :: a1 :: a2 :: a3 :: a4 :: a5 :: a6 :: a7 :: a8 :: z :: z2 :: rs) 9 = true) (kk : GG G d mc ms X P nx (a0 :: a1 :: a2 :: a3 :: a4 :: a5 :: a6 :: a7 :: a8 :: some (.long x) :: none :: rs) st I h k n) : GG G d mc ms X P pc (a0 :: a1 :: a2 :: a3 :: a4 :: a5 :: a6 :: a7 :: a8 :: z :: z2 :: rs) (.long x :: st) I h k n := by
  obtain ⟨p, l, e, s, m, args, below, meth, c⟩ := X
  obtain ⟨hexec, hb, hml, hown, hts, hKs, hGk, hlk, hrt, hnm⟩ := hX
  obtain ⟨hd, hnx⟩ := hd
  subst hnx
  intro H locs ls hl hW hS
  refine lv_lstore hexec hb hd  hl (by rw [hml]; exact hi) rfl (fun ls2 hl2 => ?_)
  exact kk H locs ls2 (lv_fewer hl2 (lpr_set2 (lo := a0 :: a1 :: a2 :: a3 :: a4 :: a5 :: a6 :: a7 :: a8 :: z :: z2 :: rs) (i := 9) (v := .long x) ha (by simp))) hW hS

theorem g_iinc_9 {G : Gt} {d mc ms : Nat} {own : String} {y : Mt} {X : Xt} {P : Pt3} {pc nx : Nat} {st : List Value} {I : It} {h : Ht} {k n : Nat} {a0 a1 a2 a3 a4 a5 a6 a7 a8 : Option Value} {rs : List (Option Value)} {x v : Int32} {z : Int} (hX : Xok G own y X) (hd : dc y.2.1 pc (.iinc 9 z) 3 nx) (hv : x + Int32.ofInt z = v) (hi : 9 < y.2.2.1) (ha : ahd (a0 :: a1 :: a2 :: a3 :: a4 :: a5 :: a6 :: a7 :: a8 :: some (.int x) :: rs) 9 = true) (kk : GG G d mc ms X P nx (a0 :: a1 :: a2 :: a3 :: a4 :: a5 :: a6 :: a7 :: a8 :: some (.int v) :: rs) st I h k n) : GG G d mc ms X P pc (a0 :: a1 :: a2 :: a3 :: a4 :: a5 :: a6 :: a7 :: a8 :: some (.int x) :: rs) st I h k n := by
  obtain ⟨p, l, e, s, m, args, below, meth, c⟩ := X
  obtain ⟨hexec, hb, hml, hown, hts, hKs, hGk, hlk, hrt, hnm⟩ := hX
  obtain ⟨hd, hnx⟩ := hd
  subst hnx
  intro H locs ls hl hW hS
  have hmem : (9, Value.int x) ∈ lpr G 0 (a0 :: a1 :: a2 :: a3 :: a4 :: a5 :: a6 :: a7 :: a8 :: some (.int x) :: rs) := (lpr_mem _ 0 _).mpr ⟨9, .int x, rfl, by simp [cv]⟩
  obtain ⟨kq, hkq⟩ := List.getElem?_of_mem hmem
  refine lv_iinc hexec hb hd hl hkq hv (by rw [hml]; exact hi) rfl (fun ls2 hl2 => ?_)
  exact kk H locs ls2 (lv_fewer hl2 (lpr_set (lo := a0 :: a1 :: a2 :: a3 :: a4 :: a5 :: a6 :: a7 :: a8 :: some (.int x) :: rs) (i := 9) (v := .int v) ha (by simp))) hW hS

theorem g_iload_10 {G : Gt} {d mc ms : Nat} {own : String} {y : Mt} {X : Xt} {P : Pt3} {pc nx : Nat} {st : List Value} {I : It} {h : Ht} {k n : Nat} {a0 a1 a2 a3 a4 a5 a6 a7 a8 a9 : Option Value} {rs : List (Option Value)} {x : Int32} (hX : Xok G own y X) (hd : dc y.2.1 pc (.iload 10) 2 nx) (kk : GG G d mc ms X P nx (a0 :: a1 :: a2 :: a3 :: a4 :: a5 :: a6 :: a7 :: a8 :: a9 :: some (.int x) :: rs) (.int x :: st) I h k n) : GG G d mc ms X P pc (a0 :: a1 :: a2 :: a3 :: a4 :: a5 :: a6 :: a7 :: a8 :: a9 :: some (.int x) :: rs) (st) I h k n := by
  obtain ⟨p, l, e, s, m, args, below, meth, c⟩ := X
  obtain ⟨hexec, hb, hml, hown, hts, hKs, hGk, hlk, hrt, hnm⟩ := hX
  obtain ⟨hd, hnx⟩ := hd
  subst hnx
  intro H locs ls hl hW hS
  exact lv_iload hexec hb hd (lpr_at hl (i := 10) rfl) (kk H locs ls hl hW hS)

theorem g_lload_10 {G : Gt} {d mc ms : Nat} {own : String} {y : Mt} {X : Xt} {P : Pt3} {pc nx : Nat} {st : List Value} {I : It} {h : Ht} {k n : Nat} {a0 a1 a2 a3 a4 a5 a6 a7 a8 a9 : Option Value} {rs : List (Option Value)} {x : Int64} (hX : Xok G own y X) (hd : dc y.2.1 pc (.lload 10) 2 nx) (kk : GG G d mc ms X P nx (a0 :: a1 :: a2 :: a3 :: a4 :: a5 :: a6 :: a7 :: a8 :: a9 :: some (.long x) :: rs) (.long x :: st) I h k n) : GG G d mc ms X P pc (a0 :: a1 :: a2 :: a3 :: a4 :: a5 :: a6 :: a7 :: a8 :: a9 :: some (.long x) :: rs) (st) I h k n := by
  obtain ⟨p, l, e, s, m, args, below, meth, c⟩ := X
  obtain ⟨hexec, hb, hml, hown, hts, hKs, hGk, hlk, hrt, hnm⟩ := hX
  obtain ⟨hd, hnx⟩ := hd
  subst hnx
  intro H locs ls hl hW hS
  exact lv_lload hexec hb hd (lpr_at hl (i := 10) rfl) (kk H locs ls hl hW hS)

theorem g_aload_10 {G : Gt} {d mc ms : Nat} {own : String} {y : Mt} {X : Xt} {P : Pt3} {pc nx : Nat} {st : List Value} {I : It} {h : Ht} {k n : Nat} {a0 a1 a2 a3 a4 a5 a6 a7 a8 a9 : Option Value} {rs : List (Option Value)} {x : Nat} (hX : Xok G own y X) (hd : dc y.2.1 pc (.aload 10) 2 nx) (kk : GG G d mc ms X P nx (a0 :: a1 :: a2 :: a3 :: a4 :: a5 :: a6 :: a7 :: a8 :: a9 :: some (.ref x) :: rs) (.ref x :: st) I h k n) : GG G d mc ms X P pc (a0 :: a1 :: a2 :: a3 :: a4 :: a5 :: a6 :: a7 :: a8 :: a9 :: some (.ref x) :: rs) (st) I h k n := by
  obtain ⟨p, l, e, s, m, args, below, meth, c⟩ := X
  obtain ⟨hexec, hb, hml, hown, hts, hKs, hGk, hlk, hrt, hnm⟩ := hX
  obtain ⟨hd, hnx⟩ := hd
  subst hnx
  intro H locs ls hl hW hS
  exact lv_aload hexec hb hd (lpr_at hl (i := 10) rfl) (kk H locs ls hl hW hS)

theorem g_aloadN_10 {G : Gt} {d mc ms : Nat} {own : String} {y : Mt} {X : Xt} {P : Pt3} {pc nx : Nat} {st : List Value} {I : It} {h : Ht} {k n : Nat} {a0 a1 a2 a3 a4 a5 a6 a7 a8 a9 : Option Value} {rs : List (Option Value)}  (hX : Xok G own y X) (hd : dc y.2.1 pc (.aload 10) 2 nx) (kk : GG G d mc ms X P nx (a0 :: a1 :: a2 :: a3 :: a4 :: a5 :: a6 :: a7 :: a8 :: a9 :: some .null :: rs) (.null :: st) I h k n) : GG G d mc ms X P pc (a0 :: a1 :: a2 :: a3 :: a4 :: a5 :: a6 :: a7 :: a8 :: a9 :: some .null :: rs) (st) I h k n := by
  obtain ⟨p, l, e, s, m, args, below, meth, c⟩ := X
  obtain ⟨hexec, hb, hml, hown, hts, hKs, hGk, hlk, hrt, hnm⟩ := hX
  obtain ⟨hd, hnx⟩ := hd
  subst hnx
  intro H locs ls hl hW hS
  exact lv_aloadN hexec hb hd (lpr_at hl (i := 10) rfl) (kk H locs ls hl hW hS)

theorem g_istore_10 {G : Gt} {d mc ms : Nat} {own : String} {y : Mt} {X : Xt} {P : Pt3} {pc nx : Nat} {st : List Value} {I : It} {h : Ht} {k n : Nat} {a0 a1 a2 a3 a4 a5 a6 a7 a8 a9 : Option Value} {rs : List (Option Value)} {z : Option Value} {x : Int32} (hX : Xok G own y X) (hd : dc y.2.1 pc (.istore 10) 2 nx) (hi : 10 < y.2.2.1) (ha : ahd (a0 :: a1 :: a2 :: a3 :: a4 :: a5 :: a6 :: a7 :: a8 :: a9 :: z :: rs) 10 = true) (kk : GG G d mc ms X P nx (a0 :: a1 :: a2 :: a3 :: a4 :: a5 :: a6 :: a7 :: a8 :: a9 :: some (.int x) :: rs) st I h k n) : GG G d mc ms X P pc (a0 :: a1 :: a2 :: a3 :: a4 :: a5 :: a6 :: a7 :: a8 :: a9 :: z :: rs) (.int x :: st) I h k n := by
  obtain ⟨p, l, e, s, m, args, below, meth, c⟩ := X
  obtain ⟨hexec, hb, hml, hown, hts, hKs, hGk, hlk, hrt, hnm⟩ := hX
  obtain ⟨hd, hnx⟩ := hd
  subst hnx
  intro H locs ls hl hW hS
  refine lv_istore hexec hb hd  hl (by rw [hml]; exact hi) rfl (fun ls2 hl2 => ?_)
  exact kk H locs ls2 (lv_fewer hl2 (lpr_set (lo := a0 :: a1 :: a2 :: a3 :: a4 :: a5 :: a6 :: a7 :: a8 :: a9 :: z :: rs) (i := 10) (v := .int x) ha (by simp))) hW hS

theorem g_astore_10 {G : Gt} {d mc ms : Nat} {own : String} {y : Mt} {X : Xt} {P : Pt3} {pc nx : Nat} {st : List Value} {I : It} {h : Ht} {k n : Nat} {a0 a1 a2 a3 a4 a5 a6 a7 a8 a9 : Option Value} {rs : List (Option Value)} {z : Option Value} {x : Nat} (hX : Xok G own y X) (hd : dc y.2.1 pc (.astore 10) 2 nx) (hi : 10 < y.2.2.1) (ha : ahd (a0 :: a1 :: a2 :: a3 :: a4 :: a5 :: a6 :: a7 :: a8 :: a9 :: z :: rs) 10 = true) (kk : GG G d mc ms X P nx (a0 :: a1 :: a2 :: a3 :: a4 :: a5 :: a6 :: a7 :: a8 :: a9 :: some (.ref x) :: rs) st I h k n) : GG G d mc ms X P pc (a0 :: a1 :: a2 :: a3 :: a4 :: a5 :: a6 :: a7 :: a8 :: a9 :: z :: rs) (.ref x :: st) I h k n := by
  obtain ⟨p, l, e, s, m, args, below, meth, c⟩ := X
  obtain ⟨hexec, hb, hml, hown, hts, hKs, hGk, hlk, hrt, hnm⟩ := hX
  obtain ⟨hd, hnx⟩ := hd
  subst hnx
  intro H locs ls hl hW hS
  refine lv_astore hexec hb hd  hl (by rw [hml]; exact hi) rfl (fun ls2 hl2 => ?_)
  exact kk H locs ls2 (lv_fewer hl2 (lpr_set (lo := a0 :: a1 :: a2 :: a3 :: a4 :: a5 :: a6 :: a7 :: a8 :: a9 :: z :: rs) (i := 10) (v := .ref x) ha (by simp))) hW hS

theorem g_astoreN_10 {G : Gt} {d mc ms : Nat} {own : String} {y : Mt} {X : Xt} {P : Pt3} {pc nx : Nat} {st : List Value} {I : It} {h : Ht} {k n : Nat} {a0 a1 a2 a3 a4 a5 a6 a7 a8 a9 : Option Value} {rs : List (Option Value)} {z : Option Value}  (hX : Xok G own y X) (hd : dc y.2.1 pc (.astore 10) 2 nx) (hi : 10 < y.2.2.1) (ha : ahd (a0 :: a1 :: a2 :: a3 :: a4 :: a5 :: a6 :: a7 :: a8 :: a9 :: z :: rs) 10 = true) (kk : GG G d mc ms X P nx (a0 :: a1 :: a2 :: a3 :: a4 :: a5 :: a6 :: a7 :: a8 :: a9 :: some (.null) :: rs) st I h k n) : GG G d mc ms X P pc (a0 :: a1 :: a2 :: a3 :: a4 :: a5 :: a6 :: a7 :: a8 :: a9 :: z :: rs) (.null :: st) I h k n := by
  obtain ⟨p, l, e, s, m, args, below, meth, c⟩ := X
  obtain ⟨hexec, hb, hml, hown, hts, hKs, hGk, hlk, hrt, hnm⟩ := hX
  obtain ⟨hd, hnx⟩ := hd
  subst hnx
  intro H locs ls hl hW hS
  refine lv_astoreN hexec hb hd  hl (by rw [hml]; exact hi) rfl (fun ls2 hl2 => ?_)
  exact kk H locs ls2 (lv_fewer hl2 (lpr_set (lo := a0 :: a1 :: a2 :: a3 :: a4 :: a5 :: a6 :: a7 :: a8 :: a9 :: z :: rs) (i := 10) (v := .null) ha (by simp))) hW hS

theorem g_lstore_10 {G : Gt} {d mc ms : Nat} {own : String} {y : Mt} {X : Xt} {P : Pt3} {pc nx : Nat} {st : List Value} {I : It} {h : Ht} {k n : Nat} {a0 a1 a2 a3 a4 a5 a6 a7 a8 a9 : Option Value} {rs : List (Option Value)} {z z2 : Option Value} {x : Int64} (hX : Xok G own y X) (hd : dc y.2.1 pc (.lstore 10) 2 nx) (hi : 10 + 1 < y.2.2.1) (ha : ahd (a0 :: a1 :: a2 :: a3 :: a4 :: a5 :: a6 :: a7 :: a8 :: a9 :: z :: z2 :: rs) 10 = true) (kk : GG G d mc ms X P nx (a0 :: a1 :: a2 :: a3 :: a4 :: a5 :: a6 :: a7 :: a8 :: a9 :: some (.long x) :: none :: rs) st I h k n) : GG G d mc ms X P pc (a0 :: a1 :: a2 :: a3 :: a4 :: a5 :: a6 :: a7 :: a8 :: a9 :: z :: z2 :: rs) (.long x :: st) I h k n := by
  obtain ⟨p, l, e, s, m, args, below, meth, c⟩ := X
  obtain ⟨hexec, hb, hml, hown, hts, hKs, hGk, hlk, hrt, hnm⟩ := hX
  obtain ⟨hd, hnx⟩ := hd
  subst hnx
  intro H locs ls hl hW hS
  refine lv_lstore hexec hb hd  hl (by rw [hml]; exact hi) rfl (fun ls2 hl2 => ?_)
  exact kk H locs ls2 (lv_fewer hl2 (lpr_set2 (lo := a0 :: a1 :: a2 :: a3 :: a4 :: a5 :: a6 :: a7 :: a8 :: a9 :: z :: z2 :: rs) (i := 10) (v := .long x) ha (by simp))) hW hS

theorem g_iinc_10 {G : Gt} {d mc ms : Nat} {own : String} {y : Mt} {X : Xt} {P : Pt3} {pc nx : Nat} {st : List Value} {I : It} {h : Ht} {k n : Nat} {a0 a1 a2 a3 a4 a5 a6 a7 a8 a9 : Option Value} {rs : List (Option Value)} {x v : Int32} {z : Int} (hX : Xok G own y X) (hd : dc y.2.1 pc (.iinc 10 z) 3 nx) (hv : x + Int32.ofInt z = v) (hi : 10 < y.2.2.1) (ha : ahd (a0 :: a1 :: a2 :: a3 :: a4 :: a5 :: a6 :: a7 :: a8 :: a9 :: some (.int x) :: rs) 10 = true) (kk : GG G d mc ms X P nx (a0 :: a1 :: a2 :: a3 :: a4 :: a5 :: a6 :: a7 :: a8 :: a9 :: some (.int v) :: rs) st I h k n) : GG G d mc ms X P pc (a0 :: a1 :: a2 :: a3 :: a4 :: a5 :: a6 :: a7 :: a8 :: a9 :: some (.int x) :: rs) st I h k n := by
  obtain ⟨p, l, e, s, m, args, below, meth, c⟩ := X
  obtain ⟨hexec, hb, hml, hown, hts, hKs, hGk, hlk, hrt, hnm⟩ := hX
  obtain ⟨hd, hnx⟩ := hd
  subst hnx
  intro H locs ls hl hW hS
  have hmem : (10, Value.int x) ∈ lpr G 0 (a0 :: a1 :: a2 :: a3 :: a4 :: a5 :: a6 :: a7 :: a8 :: a9 :: some (.int x) :: rs) := (lpr_mem _ 0 _).mpr ⟨10, .int x, rfl, by simp [cv]⟩
  obtain ⟨kq, hkq⟩ := List.getElem?_of_mem hmem
  refine lv_iinc hexec hb hd hl hkq hv (by rw [hml]; exact hi) rfl (fun ls2 hl2 => ?_)
  exact kk H locs ls2 (lv_fewer hl2 (lpr_set (lo := a0 :: a1 :: a2 :: a3 :: a4 :: a5 :: a6 :: a7 :: a8 :: a9 :: some (.int x) :: rs) (i := 10) (v := .int v) ha (by simp))) hW hS

theorem g_iload_11 {G : Gt} {d mc ms : Nat} {own : String} {y : Mt} {X : Xt} {P : Pt3} {pc nx : Nat} {st : List Value} {I : It} {h : Ht} {k n : Nat} {a0 a1 a2 a3 a4 a5 a6 a7 a8 a9 a10 : Option Value} {rs : List (Option Value)} {x : Int32} (hX : Xok G own y X) (hd : dc y.2.1 pc (.iload 11) 2 nx) (kk : GG G d mc ms X P nx (a0 :: a1 :: a2 :: a3 :: a4 :: a5 :: a6 :: a7 :: a8 :: a9 :: a10 :: some (.int x) :: rs) (.int x :: st) I h k n) : GG G d mc ms X P pc (a0 :: a1 :: a2 :: a3 :: a4 :: a5 :: a6 :: a7 :: a8 :: a9 :: a10 :: some (.int x) :: rs) (st) I h k n := by
  obtain ⟨p, l, e, s, m, args, below, meth, c⟩ := X
  obtain ⟨hexec, hb, hml, hown, hts, hKs, hGk, hlk, hrt, hnm⟩ := hX
  obtain ⟨hd, hnx⟩ := hd
  subst hnx
  intro H locs ls hl hW hS
  exact lv_iload hexec hb hd (lpr_at hl (i := 11) rfl) (kk H locs ls hl hW hS)

theorem g_lload_11 {G : Gt} {d mc ms : Nat} {own : String} {y : Mt} {X : Xt} {P : Pt3} {pc nx : Nat} {st : List Value} {I : It} {h : Ht} {k n : Nat} {a0 a1 a2 a3 a4 a5 a6 a7 a8 a9 a10 : Option Value} {rs : List (Option Value)} {x : Int64} (hX : Xok G own y X) (hd : dc y.2.1 pc (.lload 11) 2 nx) (kk : GG G d mc ms X P nx (a0 :: a1 :: a2 :: a3 :: a4 :: a5 :: a6 :: a7 :: a8 :: a9 :: a10 :: some (.long x) :: rs) (.long x :: st) I h k n) : GG G d mc ms X P pc (a0 :: a1 :: a2 :: a3 :: a4 :: a5 :: a6 :: a7 :: a8 :: a9 :: a10 :: some (.long x) :: rs) (st) I h k n := by
  obtain ⟨p, l, e, s, m, args, below, meth, c⟩ := X
  obtain ⟨hexec, hb, hml, hown, hts, hKs, hGk, hlk, hrt, hnm⟩ := hX
  obtain ⟨hd, hnx⟩ := hd
  subst hnx
  intro H locs ls hl hW hS
  exact lv_lload hexec hb hd (lpr_at hl (i := 11) rfl) (kk H locs ls hl hW hS)

theorem g_aload_11 {G : Gt} {d mc ms : Nat} {own : String} {y : Mt} {X : Xt} {P : Pt3} {pc nx : Nat} {st : List Value} {I : It} {h : Ht} {k n : Nat} {a0 a1 a2 a3 a4 a5 a6 a7 a8 a9 a10 : Option Value} {rs : List (Option Value)} {x : Nat} (hX : Xok G own y X) (hd : dc y.2.1 pc (.aload 11) 2 nx) (kk : GG G d mc ms X P nx (a0 :: a1 :: a2 :: a3 :: a4 :: a5 :: a6 :: a7 :: a8 :: a9 :: a10 :: some (.ref x) :: rs) (.ref x :: st) I h k n) : GG G d mc ms X P pc (a0 :: a1 :: a2 :: a3 :: a4 :: a5 :: a6 :: a7 :: a8 :: a9 :: a10 :: some (.ref x) :: rs) (st) I h k n := by
  obtain ⟨p, l, e, s, m, args, below, meth, c⟩ := X
  obtain ⟨hexec, hb, hml, hown, hts, hKs, hGk, hlk, hrt, hnm⟩ := hX
  obtain ⟨hd, hnx⟩ := hd
  subst hnx
  intro H locs ls hl hW hS
  exact lv_aload hexec hb hd (lpr_at hl (i := 11) rfl) (kk H locs ls hl hW hS)

theorem g_aloadN_11 {G : Gt} {d mc ms : Nat} {own : String} {y : Mt} {X : Xt} {P : Pt3} {pc nx : Nat} {st : List Value} {I : It} {h : Ht} {k n : Nat} {a0 a1 a2 a3 a4 a5 a6 a7 a8 a9 a10 : Option Value} {rs : List (Option Value)}  (hX : Xok G own y X) (hd : dc y.2.1 pc (.aload 11) 2 nx) (kk : GG G d mc ms X P nx (a0 :: a1 :: a2 :: a3 :: a4 :: a5 :: a6 :: a7 :: a8 :: a9 :: a10 :: some .null :: rs) (.null :: st) I h k n) : GG G d mc ms X P pc (a0 :: a1 :: a2 :: a3 :: a4 :: a5 :: a6 :: a7 :: a8 :: a9 :: a10 :: some .null :: rs) (st) I h k n := by
  obtain ⟨p, l, e, s, m, args, below, meth, c⟩ := X
  obtain ⟨hexec, hb, hml, hown, hts, hKs, hGk, hlk, hrt, hnm⟩ := hX
  obtain ⟨hd, hnx⟩ := hd
  subst hnx
  intro H locs ls hl hW hS
  exact lv_aloadN hexec hb hd (lpr_at hl (i := 11) rfl) (kk H locs ls hl hW hS)

theorem g_istore_11 {G : Gt} {d mc ms : Nat} {own : String} {y : Mt} {X : Xt} {P : Pt3} {pc nx : Nat} {st : List Value} {I : It} {h : Ht} {k n : Nat} {a0 a1 a2 a3 a4 a5 a6 a7 a8 a9 a10 : Option Value} {rs : List (Option Value)} {z : Option Value} {x : Int32} (hX : Xok G own y X) (hd : dc y.2.1 pc (.istore 11) 2 nx) (hi : 11 < y.2.2.1) (ha : ahd (a0 :: a1 :: a2 :: a3 :: a4 :: a5 :: a6 :: a7 :: a8 :: a9 :: a10 :: z :: rs) 11 = true) (kk : GG G d mc ms X P nx (a0 :: a1 :: a2 :: a3 :: a4 :: a5 :: a6 :: a7 :: a8 :: a9 :: a10 :: some (.int x) :: rs) st I h k n) : GG G d mc ms X P pc (a0 :: a1 :: a2 :: a3 :: a4 :: a5 :: a6 :: a7 :: a8 :: a9 :: a10 :: z :: rs) (.int x :: st) I h k n := by
  obtain ⟨p, l, e, s, m, args, below, meth, c⟩ := X
  obtain ⟨hexec, hb, hml, hown, hts, hKs, hGk, hlk, hrt, hnm⟩ := hX
  obtain ⟨hd, hnx⟩ := hd
  subst hnx
  intro H locs ls hl hW hS
  refine lv_istore hexec hb hd  hl (by rw [hml]; exact hi) rfl (fun ls2 hl2 => ?_)
  exact kk H locs ls2 (lv_fewer hl2 (lpr_set (lo := a0 :: a1 :: a2 :: a3 :: a4 :: a5 :: a6 :: a7 :: a8 :: a9 :: a10 :: z :: rs) (i := 11) (v := .int x) ha (by simp))) hW hS

theorem g_astore_11 {G : Gt} {d mc ms : Nat} {own : String} {y : Mt} {X : Xt} {P : Pt3} {pc nx : Nat} {st : List Value} {I : It} {h : Ht} {k n : Nat} {a0 a1 a2 a3 a4 a5 a6 a7 a8 a9 a10 : Option Value} {rs : List (Option Value)} {z : Option Value} {x : Nat} (hX : Xok G own y X) (hd : dc y.2.1 pc (.astore 11) 2 nx) (hi : 11 < y.2.2.1) (ha : ahd (a0 :: a1 :: a2 :: a3 :: a4 :: a5 :: a6 :: a7 :: a8 :: a9 :: a10 :: z :: rs) 11 = true) (kk : GG G d mc ms X P nx (a0 :: a1 :: a2 :: a3 :: a4 :: a5 :: a6 :: a7 :: a8 :: a9 :: a10 :: some (.ref x) :: rs) st I h k n) : GG G d mc ms X P pc (a0 :: a1 :: a2 :: a3 :: a4 :: a5 :: a6 :: a7 :: a8 :: a9 :: a10 :: z :: rs) (.ref x :: st) I h k n := by
  obtain ⟨p, l, e, s, m, args, below, meth, c⟩ := X
  obtain ⟨hexec, hb, hml, hown, hts, hKs, hGk, hlk, hrt, hnm⟩ := hX
  obtain ⟨hd, hnx⟩ := hd
  subst hnx
  intro H locs ls hl hW hS
  refine lv_astore hexec hb hd  hl (by rw [hml]; exact hi) rfl (fun ls2 hl2 => ?_)
  exact kk H locs ls2 (lv_fewer hl2 (lpr_set (lo := a0 :: a1 :: a2 :: a3 :: a4 :: a5 :: a6 :: a7 :: a8 :: a9 :: a10 :: z :: rs) (i := 11) (v := .ref x) ha (by simp))) hW hS

theorem g_astoreN_11 {G : Gt} {d mc ms : Nat} {own : String} {y : Mt} {X : Xt} {P : Pt3} {pc nx : Nat} {st : List Value} {I : It} {h : Ht} {k n : Nat} {a0 a1 a2 a3 a4 a5 a6 a7 a8 a9 a10 : Option Value} {rs : List (Option Value)} {z : Option Value}  (hX : Xok G own y X) (hd : dc y.2.1 pc (.astore 11) 2 nx) (hi : 11 < y.2.2.1) (ha : ahd (a0 :: a1 :: a2 :: a3 :: a4 :: a5 :: a6 :: a7 :: a8 :: a9 :: a10 :: z :: rs) 11 = true) (kk : GG G d mc ms X P nx (a0 :: a1 :: a2 :: a3 :: a4 :: a5 :: a6 :: a7 :: a8 :: a9 :: a10 :: some (.null) :: rs) st I h k n) : GG G d mc ms X P pc (a0 :: a1 :: a2 :: a3 :: a4 :: a5 :: a6 :: a7 :: a8 :: a9 :: a10 :: z :: rs) (.null :: st) I h k n := by
  obtain ⟨p, l, e, s, m, args, below, meth, c⟩ := X
  obtain ⟨hexec, hb, hml, hown, hts, hKs, hGk, hlk, hrt, hnm⟩ := hX
  obtain ⟨hd, hnx⟩ := hd
  subst hnx
  intro H locs ls hl hW hS
  refine lv_astoreN hexec hb hd  hl (by rw [hml]; exact hi) rfl (fun ls2 hl2 => ?_)
  exact kk H locs ls2 (lv_fewer hl2 (lpr_set (lo := a0 :: a1 :: a2 :: a3 :: a4 :: a5 :: a6 :: a7 :: a8 :: a9 :: a10 :: z :: rs) (i := 11) (v := .null) ha (by simp))) hW hS

theorem g_lstore_11 {G : Gt} {d mc ms : Nat} {own : String} {y : Mt} {X : Xt} {P : Pt3} {pc nx : Nat} {st : List Value} {I : It} {h : Ht} {k n : Nat} {a0 a1 a2 a3 a4 a5 a6 a7 a8 a9 a10 : Option Value} {rs : List (Option Value)} {z z2 : Option Value} {x : Int64} (hX : Xok G own y X) (hd : dc y.2.1 pc (.lstore 11) 2 nx) (hi : 11 + 1 < y.2.2.1) (ha : ahd (a0 :: a1 :: a2 :: a3 :: a4 :: a5 :: a6 :: a7 :: a8 :: a9 :: a10 :: z :: z2 :: rs) 11 = true) (kk : GG G d mc ms X P nx (a0 :: a1 :: a2 :: a3 :: a4 :: a5 :: a6 :: a7 :: a8 :: a9 :: a10 :: some (.long x) :: none :: rs) st I h k n) : GG G d mc ms X P pc (a0 :: a1 :: a2 :: a3 :: a4 :: a5 :: a6 :: a7 :: a8 :: a9 :: a10 :: z :: z2 :: rs) (.long x :: st) I h k n := by
  obtain ⟨p, l, e, s, m, args, below, meth, c⟩ := X
  obtain ⟨hexec, hb, hml, hown, hts, hKs, hGk, hlk, hrt, hnm⟩ := hX
  obtain ⟨hd, hnx⟩ := hd
  subst hnx
  intro H locs ls hl hW hS
  refine lv_lstore hexec hb hd  hl (by rw [hml]; exact hi) rfl (fun ls2 hl2 => ?_)
  exact kk H locs ls2 (lv_fewer hl2 (lpr_set2 (lo := a0 :: a1 :: a2 :: a3 :: a4 :: a5 :: a6 :: a7 :: a8 :: a9 :: a10 :: z :: z2 :: rs) (i := 11) (v := .long x) ha (by simp))) hW hS

theorem g_iinc_11 {G : Gt} {d mc ms : Nat} {own : String} {y : Mt} {X : Xt} {P : Pt3} {pc nx : Nat} {st : List Value} {I : It} {h : Ht} {k n : Nat} {a0 a1 a2 a3 a4 a5 a6 a7 a8 a9 a10 : Option Value} {rs : List (Option Value)} {x v : Int32} {z : Int} (hX : Xok G own y X) (hd : dc y.2.1 pc (.iinc 11 z) 3 nx) (hv : x + Int32.ofInt z = v) (hi : 11 < y.2.2.1) (ha : ahd (a0 :: a1 :: a2 :: a3 :: a4 :: a5 :: a6 :: a7 :: a8 :: a9 :: a10 :: some (.int x) :: rs) 11 = true) (kk : GG G d mc ms X P nx (a0 :: a1 :: a2 :: a3 :: a4 :: a5 :: a6 :: a7 :: a8 :: a9 :: a10 :: some (.int v) :: rs) st I h k n) : GG G d mc ms X P pc (a0 :: a1 :: a2 :: a3 :: a4 :: a5 :: a6 :: a7 :: a8 :: a9 :: a10 :: some (.int x) :: rs) st I h k n := by
  obtain ⟨p, l, e, s, m, args, below, meth, c⟩ := X
  obtain ⟨hexec, hb, hml, hown, hts, hKs, hGk, hlk, hrt, hnm⟩ := hX
  obtain ⟨hd, hnx⟩ := hd
  subst hnx
  intro H locs ls hl hW hS
  have hmem : (11, Value.int x) ∈ lpr G 0 (a0 :: a1 :: a2 :: a3 :: a4 :: a5 :: a6 :: a7 :: a8 :: a9 :: a10 :: some (.int x) :: rs) := (lpr_mem _ 0 _).mpr ⟨11, .int x, rfl, by simp [cv]⟩
  obtain ⟨kq, hkq⟩ := List.getElem?_of_mem hmem
  refine lv_iinc hexec hb hd hl hkq hv (by rw [hml]; exact hi) rfl (fun ls2 hl2 => ?_)
  exact kk H locs ls2 (lv_fewer hl2 (lpr_set (lo := a0 :: a1 :: a2 :: a3 :: a4 :: a5 :: a6 :: a7 :: a8 :: a9 :: a10 :: some (.int x) :: rs) (i := 11) (v := .int v) ha (by simp))) hW hS

theorem g_iload_12 {G : Gt} {d mc ms : Nat} {own : String} {y : Mt} {X : Xt} {P : Pt3} {pc nx : Nat} {st : List Value} {I : It} {h : Ht} {k n : Nat} {a0 a1 a2 a3 a4 a5 a6 a7 a8 a9 a10 a11 : Option Value} {rs : List (Option Value)} {x : Int32} (hX : Xok G own y X) (hd : dc y.2.1 pc (.iload 12) 2 nx) (kk : GG G d mc ms X P nx (a0 :: a1 :: a2 :: a3 :: a4 :: a5 :: a6 :: a7 :: a8 :: a9 :: a10 :: a11 :: some (.int x) :: rs) (.int x :: st) I h k n) : GG G d mc ms X P pc (a0 :: a1 :: a2 :: a3 :: a4 :: a5 :: a6 :: a7 :: a8 :: a9 :: a10 :: a11 :: some (.int x) :: rs) (st) I h k n := by
  obtain ⟨p, l, e, s, m, args, below, meth, c⟩ := X
  obtain ⟨hexec, hb, hml, hown, hts, hKs, hGk, hlk, hrt, hnm⟩ := hX
  obtain ⟨hd, hnx⟩ := hd
  subst hnx
  intro H locs ls hl hW hS
  exact lv_iload hexec hb hd (lpr_at hl (i := 12) rfl) (kk H locs ls hl hW hS)

theorem g_lload_12 {G : Gt} {d mc ms : Nat} {own : String} {y : Mt} {X : Xt} {P : Pt3} {pc nx : Nat} {st : List Value} {I : It} {h : Ht} {k n : Nat} {a0 a1 a2 a3 a4 a5 a6 a7 a8 a9 a10 a11 : Option Value} {rs : List (Option Value)} {x : Int64} (hX : Xok G own y X) (hd : dc y.2.1 pc (.lload 12) 2 nx) (kk : GG G d mc ms X P nx (a0 :: a1 :: a2 :: a3 :: a4 :: a5 :: a6 :: a7 :: a8 :: a9 :: a10 :: a11 :: some (.long x) :: rs) (.long x :: st) I h k n) : GG G d mc ms X P pc (a0 :: a1 :: a2 :: a3 :: a4 :: a5 :: a6 :: a7 :: a8 :: a9 :: a10 :: a11 :: some (.long x) :: rs) (st) I h k n := by
  obtain ⟨p, l, e, s, m, args, below, meth, c⟩ := X
  obtain ⟨hexec, hb, hml, hown, hts, hKs, hGk, hlk, hrt, hnm⟩ := hX
  obtain ⟨hd, hnx⟩ := hd
  subst hnx
  intro H locs ls hl hW hS
  exact lv_lload hexec hb hd (lpr_at hl (i := 12) rfl) (kk H locs ls hl hW hS)

theorem g_aload_12 {G : Gt} {d mc ms : Nat} {own : String} {y : Mt} {X : Xt} {P : Pt3} {pc nx : Nat} {st : List Value} {I : It} {h : Ht} {k n : Nat} {a0 a1 a2 a3 a4 a5 a6 a7 a8 a9 a10 a11 : Option Value} {rs : List (Option Value)} {x : Nat} (hX : Xok G own y X) (hd : dc y.2.1 pc (.aload 12) 2 nx) (kk : GG G d mc ms X P nx (a0 :: a1 :: a2 :: a3 :: a4 :: a5 :: a6 :: a7 :: a8 :: a9 :: a10 :: a11 :: some (.ref x) :: rs) (.ref x :: st) I h k n) : GG G d mc ms X P pc (a0 :: a1 :: a2 :: a3 :: a4 :: a5 :: a6 :: a7 :: a8 :: a9 :: a10 :: a11 :: some (.ref x) :: rs) (st) I h k n := by
  obtain ⟨p, l, e, s, m, args, below, meth, c⟩ := X
  obtain ⟨hexec, hb, hml, hown, hts, hKs, hGk, hlk, hrt, hnm⟩ := hX
  obtain ⟨hd, hnx⟩ := hd
  subst hnx
  intro H locs ls hl hW hS
  exact lv_aload hexec hb hd (lpr_at hl (i := 12) rfl) (kk H locs ls hl hW hS)

theorem g_aloadN_12 {G : Gt} {d mc ms : Nat} {own : String} {y : Mt} {X : Xt} {P : Pt3} {pc nx : Nat} {st : List Value} {I : It} {h : Ht} {k n : Nat} {a0 a1 a2 a3 a4 a5 a6 a7 a8 a9 a10 a11 : Option Value} {rs : List (Option Value)}  (hX : Xok G own y X) (hd : dc y.2.1 pc (.aload 12) 2 nx) (kk : GG G d mc ms X P nx (a0 :: a1 :: a2 :: a3 :: a4 :: a5 :: a6 :: a7 :: a8 :: a9 :: a10 :: a11 :: some .null :: rs) (.null :: st) I h k n) : GG G d mc ms X P pc (a0 :: a1 :: a2 :: a3 :: a4 :: a5 :: a6 :: a7 :: a8 :: a9 :: a10 :: a11 :: some .null :: rs) (st) I h k n := by
  obtain ⟨p, l, e, s, m, args, below, meth, c⟩ := X
  obtain ⟨hexec, hb, hml, hown, hts, hKs, hGk, hlk, hrt, hnm⟩ := hX
  obtain ⟨hd, hnx⟩ := hd
  subst hnx
  intro H locs ls hl hW hS
  exact lv_aloadN hexec hb hd (lpr_at hl (i := 12) rfl) (kk H locs ls hl hW hS)

theorem g_istore_12 {G : Gt} {d mc ms : Nat} {own : String} {y : Mt} {X : Xt} {P : Pt3} {pc nx : Nat} {st : List Value} {I : It} {h : Ht} {k n : Nat} {a0 a1 a2 a3 a4 a5 a6 a7 a8 a9 a10 a11 : Option Value} {rs : List (Option Value)} {z : Option Value} {x : Int32} (hX : Xok G own y X) (hd : dc y.2.1 pc (.istore 12) 2 nx) (hi : 12 < y.2.2.1) (ha : ahd (a0 :: a1 :: a2 :: a3 :: a4 :: a5 :: a6 :: a7 :: a8 :: a9 :: a10 :: a11 :: z :: rs) 12 = true) (kk : GG G d mc ms X P nx (a0 :: a1 :: a2 :: a3 :: a4 :: a5 :: a6 :: a7 :: a8 :: a9 :: a10 :: a11 :: some (.int x) :: rs) st I h k n) : GG G d mc ms X P pc (a0 :: a1 :: a2 :: a3 :: a4 :: a5 :: a6 :: a7 :: a8 :: a9 :: a10 :: a11 :: z :: rs) (.int x :: st) I h k n := by
  obtain ⟨p, l, e, s, m, args, below, meth, c⟩ := X
  obtain ⟨hexec, hb, hml, hown, hts, hKs, hGk, hlk, hrt, hnm⟩ := hX
  obtain ⟨hd, hnx⟩ := hd
  subst hnx
  intro H locs ls hl hW hS
  refine lv_istore hexec hb hd  hl (by rw [hml]; exact hi) rfl (fun ls2 hl2 => ?_)
  exact kk H locs ls2 (lv_fewer hl2 (lpr_set (lo := a0 :: a1 :: a2 :: a3 :: a4 :: a5 :: a6 :: a7 :: a8 :: a9 :: a10 :: a11 :: z :: rs) (i := 12) (v := .int x) ha (by simp))) hW hS

theorem g_astore_12 {G : Gt} {d mc ms : Nat} {own : String} {y : Mt} {X : Xt} {P : Pt3} {pc nx : Nat} {st : List Value} {I : It} {h : Ht} {k n : Nat} {a0 a1 a2 a3 a4 a5 a6 a7 a8 a9 a10 a11 : Option Value} {rs : List (Option Value)} {z : Option Value} {x : Nat} (hX : Xok G own y X) (hd : dc y.2.1 pc (.astore 12) 2 nx) (hi : 12 < y.2.2.1) (ha : ahd (a0 :: a1 :: a2 :: a3 :: a4 :: a5 :: a6 :: a7 :: a8 :: a9 :: a10 :: a11 :: z :: rs) 12 = true) (kk : GG G d mc ms X P nx (a0 :: a1 :: a2 :: a3 :: a4 :: a5 :: a6 :: a7 :: a8 :: a9 :: a10 :: a11 :: some (.ref x) :: rs) st I h k n) : GG G d mc ms X P pc (a0 :: a1 :: a2 :: a3 :: a4 :: a5 :: a6 :: a7 :: a8 :: a9 :: a10 :: a11 :: z :: rs) (.ref x :: st) I h k n := by
  obtain ⟨p, l, e, s, m, args, below, meth, c⟩ := X
  obtain ⟨hexec, hb, hml, hown, hts, hKs, hGk, hlk, hrt, hnm⟩ := hX
  obtain ⟨hd, hnx⟩ := hd
  subst hnx
  intro H locs ls hl hW hS
  refine lv_astore hexec hb hd  hl (by rw [hml]; exact hi) rfl (fun ls2 hl2 => ?_)
  exact kk H locs ls2 (lv_fewer hl2 (lpr_set (lo := a0 :: a1 :: a2 :: a3 :: a4 :: a5 :: a6 :: a7 :: a8 :: a9 :: a10 :: a11 :: z :: rs) (i := 12) (v := .ref x) ha (by simp))) hW hS

theorem g_astoreN_12 {G : Gt} {d mc ms : Nat} {own : String} {y : Mt} {X : Xt} {P : Pt3} {pc nx : Nat} {st : List Value} {I : It} {h : Ht} {k n : Nat} {a0 a1 a2 a3 a4 a5 a6 a7 a8 a9 a10 a11 : Option Value} {rs : List (Option Value)} {z : Option Value}  (hX : Xok G own y X) (hd : dc y.2.1 pc (.astore 12) 2 nx) (hi : 12 < y.2.2.1) (ha : ahd (a0 :: a1 :: a2 :: a3 :: a4 :: a5 :: a6 :: a7 :: a8 :: a9 :: a10 :: a11 :: z :: rs) 12 = true) (kk : GG G d mc ms X P nx (a0 :: a1 :: a2 :: a3 :: a4 :: a5 :: a6 :: a7 :: a8 :: a9 :: a10 :: a11 :: some (.null) :: rs) st I h k n) : GG G d mc ms X P pc (a0 :: a1 :: a2 :: a3 :: a4 :: a5 :: a6 :: a7 :: a8 :: a9 :: a10 :: a11 :: z :: rs) (.null :: st) I h k n := by
  obtain ⟨p, l, e, s, m, args, below, meth, c⟩ := X
  obtain ⟨hexec, hb, hml, hown, hts, hKs, hGk, hlk, hrt, hnm⟩ := hX
  obtain ⟨hd, hnx⟩ := hd
  subst hnx
  intro H locs ls hl hW hS
  refine lv_astoreN hexec hb hd  hl (by rw [hml]; exact hi) rfl (fun ls2 hl2 => ?_)
  exact kk H locs ls2 (lv_fewer hl2 (lpr_set (lo := a0 :: a1 :: a2 :: a3 :: a4 :: a5 :: a6 :: a7 :: a8 :: a9 :: a10 :: a11 :: z :: rs) (i := 12) (v := .null) ha (by simp))) hW hS

theorem g_iinc_12 {G : Gt} {d mc ms : Nat} {own : String} {y : Mt} {X : Xt} {P : Pt3} {pc nx : Nat} {st : List Value} {I : It} {h : Ht} {k n : Nat} {a0 a1 a2 a3 a4 a5 a6 a7 a8 a9 a10 a11 : Option Value} {rs : List (Option Value)} {x v : Int32} {z : Int} (hX : Xok G own y X) (hd : dc y.2.1 pc (.iinc 12 z) 3 nx) (hv : x + Int32.ofInt z = v) (hi : 12 < y.2.2.1) (ha : ahd (a0 :: a1 :: a2 :: a3 :: a4 :: a5 :: a6 :: a7 :: a8 :: a9 :: a10 :: a11 :: some (.int x) :: rs) 12 = true) (kk : GG G d mc ms X P nx (a0 :: a1 :: a2 :: a3 :: a4 :: a5 :: a6 :: a7 :: a8 :: a9 :: a10 :: a11 :: some (.int v) :: rs) st I h k n) : GG G d mc ms X P pc (a0 :: a1 :: a2 :: a3 :: a4 :: a5 :: a6 :: a7 :: a8 :: a9 :: a10 :: a11 :: some (.int x) :: rs) st I h k n := by
  obtain ⟨p, l, e, s, m, args, below, meth, c⟩ := X
  obtain ⟨hexec, hb, hml, hown, hts, hKs, hGk, hlk, hrt, hnm⟩ := hX
  obtain ⟨hd, hnx⟩ := hd
  subst hnx
  intro H locs ls hl hW hS
  have hmem : (12, Value.int x) ∈ lpr G 0 (a0 :: a1 :: a2 :: a3 :: a4 :: a5 :: a6 :: a7 :: a8 :: a9 :: a10 :: a11 :: some (.int x) :: rs) := (lpr_mem _ 0 _).mpr ⟨12, .int x, rfl, by simp [cv]⟩
  obtain ⟨kq, hkq⟩ := List.getElem?_of_mem hmem
  refine lv_iinc hexec hb hd hl hkq hv (by rw [hml]; exact hi) rfl (fun ls2 hl2 => ?_)
  exact kk H locs ls2 (lv_fewer hl2 (lpr_set (lo := a0 :: a1 :: a2 :: a3 :: a4 :: a5 :: a6 :: a7 :: a8 :: a9 :: a10 :: a11 :: some (.int x) :: rs) (i := 12) (v := .int v) ha (by simp))) hW hS

theorem g_icmp_eq {G : Gt} {d mc ms : Nat} {own : String} {y : Mt} {X : Xt} {P : Pt3} {pc nx : Nat} {lo : List (Option Value)} {st : List Value} {I : It} {h : Ht} {k n : Nat} {a b : Int32} {off : Int} {tgt : Nat} (hX : Xok G own y X) (hd : dc y.2.1 pc (.if_icmp .eq off) 3 nx) (ht : (pc : Int) + off = (tgt : Int)) (kt : a = b → GG G d mc ms X P tgt lo st I h k n) (kf : ¬ a = b → GG G d mc ms X P nx lo st I h k n) : GG G d mc ms X P pc lo (.int b :: .int a :: st) I h k n := by
  obtain ⟨p, l, e, s, m, args, below, meth, c⟩ := X
  obtain ⟨hexec, hb, hml, hown, hts, hKs, hGk, hlk, hrt, hnm⟩ := hX
  obtain ⟨hd, hnx⟩ := hd
  subst hnx
  intro H locs ls hl hW hS
  exact lv_icmp_eq hexec hb hd ht (fun q => kt q H locs ls hl hW hS) (fun q => kf q H locs ls hl hW hS)

theorem g_if_eq {G : Gt} {d mc ms : Nat} {own : String} {y : Mt} {X : Xt} {P : Pt3} {pc nx : Nat} {lo : List (Option Value)} {st : List Value} {I : It} {h : Ht} {k n : Nat} {a : Int32} {off : Int} {tgt : Nat} (hX : Xok G own y X) (hd : dc y.2.1 pc (.ifCond .eq off) 3 nx) (ht : (pc : Int) + off = (tgt : Int)) (kt : a = 0 → GG G d mc ms X P tgt lo st I h k n) (kf : ¬ a = 0 → GG G d mc ms X P nx lo st I h k n) : GG G d mc ms X P pc lo (.int a :: st) I h k n := by
  obtain ⟨p, l, e, s, m, args, below, meth, c⟩ := X
  obtain ⟨hexec, hb, hml, hown, hts, hKs, hGk, hlk, hrt, hnm⟩ := hX
  obtain ⟨hd, hnx⟩ := hd
  subst hnx
  intro H locs ls hl hW hS
  exact lv_if_eq hexec hb hd ht (fun q => kt q H locs ls hl hW hS) (fun q => kf q H locs ls hl hW hS)

theorem g_icmp_ne {G : Gt} {d mc ms : Nat} {own : String} {y : Mt} {X : Xt} {P : Pt3} {pc nx : Nat} {lo : List (Option Value)} {st : List Value} {I : It} {h : Ht} {k n : Nat} {a b : Int32} {off : Int} {tgt : Nat} (hX : Xok G own y X) (hd : dc y.2.1 pc (.if_icmp .ne off) 3 nx) (ht : (pc : Int) + off = (tgt : Int)) (kt : a ≠ b → GG G d mc ms X P tgt lo st I h k n) (kf : a = b → GG G d mc ms X P nx lo st I h k n) : GG G d mc ms X P pc lo (.int b :: .int a :: st) I h k n := by
  obtain ⟨p, l, e, s, m, args, below, meth, c⟩ := X
  obtain ⟨hexec, hb, hml, hown, hts, hKs, hGk, hlk, hrt, hnm⟩ := hX
  obtain ⟨hd, hnx⟩ := hd
  subst hnx
  intro H locs ls hl hW hS
  exact lv_icmp_ne hexec hb hd ht (fun q => kt q H locs ls hl hW hS) (fun q => kf q H locs ls hl hW hS)

theorem g_if_ne {G : Gt} {d mc ms : Nat} {own : String} {y : Mt} {X : Xt} {P : Pt3} {pc nx : Nat} {lo : List (Option Value)} {st : List Value} {I : It} {h : Ht} {k n : Nat} {a : Int32} {off : Int} {tgt : Nat} (hX : Xok G own y X) (hd : dc y.2.1 pc (.ifCond .ne off) 3 nx) (ht : (pc : Int) + off = (tgt : Int)) (kt : a ≠ 0 → GG G d mc ms X P tgt lo st I h k n) (kf : a = 0 → GG G d mc ms X P nx lo st I h k n) : GG G d mc ms X P pc lo (.int a :: st) I h k n := by
  obtain ⟨p, l, e, s, m, args, below, meth, c⟩ := X
  obtain ⟨hexec, hb, hml, hown, hts, hKs, hGk, hlk, hrt, hnm⟩ := hX
  obtain ⟨hd, hnx⟩ := hd
  subst hnx
  intro H locs ls hl hW hS
  exact lv_if_ne hexec hb hd ht (fun q => kt q H locs ls hl hW hS) (fun q => kf q H locs ls hl hW hS)

theorem g_icmp_lt {G : Gt} {d mc ms : Nat} {own : String} {y : Mt} {X : Xt} {P : Pt3} {pc nx : Nat} {lo : List (Option Value)} {st : List Value} {I : It} {h : Ht} {k n : Nat} {a b : Int32} {off : Int} {tgt : Nat} (hX : Xok G own y X) (hd : dc y.2.1 pc (.if_icmp .lt off) 3 nx) (ht : (pc : Int) + off = (tgt : Int)) (kt : a < b → GG G d mc ms X P tgt lo st I h k n) (kf : ¬ a < b → GG G d mc ms X P nx lo st I h k n) : GG G d mc ms X P pc lo (.int b :: .int a :: st) I h k n := by
  obtain ⟨p, l, e, s, m, args, below, meth, c⟩ := X
  obtain ⟨hexec, hb, hml, hown, hts, hKs, hGk, hlk, hrt, hnm⟩ := hX
  obtain ⟨hd, hnx⟩ := hd
  subst hnx
  intro H locs ls hl hW hS
  exact lv_icmp_lt hexec hb hd ht (fun q => kt q H locs ls hl hW hS) (fun q => kf q H locs ls hl hW hS)

theorem g_if_lt {G : Gt} {d mc ms : Nat} {own : String} {y : Mt} {X : Xt} {P : Pt3} {pc nx : Nat} {lo : List (Option Value)} {st : List Value} {I : It} {h : Ht} {k n : Nat} {a : Int32} {off : Int} {tgt : Nat} (hX : Xok G own y X) (hd : dc y.2.1 pc (.ifCond .lt off) 3 nx) (ht : (pc : Int) + off = (tgt : Int)) (kt : a < 0 → GG G d mc ms X P tgt lo st I h k n) (kf : ¬ a < 0 → GG G d mc ms X P nx lo st I h k n) : GG G d mc ms X P pc lo (.int a :: st) I h k n := by
  obtain ⟨p, l, e, s, m, args, below, meth, c⟩ := X
  obtain ⟨hexec, hb, hml, hown, hts, hKs, hGk, hlk, hrt, hnm⟩ := hX
  obtain ⟨hd, hnx⟩ := hd
  subst hnx
  intro H locs ls hl hW hS
  exact lv_if_lt hexec hb hd ht (fun q => kt q H locs ls hl hW hS) (fun q => kf q H locs ls hl hW hS)

theorem g_icmp_ge {G : Gt} {d mc ms : Nat} {own : String} {y : Mt} {X : Xt} {P : Pt3} {pc nx : Nat} {lo : List (Option Value)} {st : List Value} {I : It} {h : Ht} {k n : Nat} {a b : Int32} {off : Int} {tgt : Nat} (hX : Xok G own y X) (hd : dc y.2.1 pc (.if_icmp .ge off) 3 nx) (ht : (pc : Int) + off = (tgt : Int)) (kt : b ≤ a → GG G d mc ms X P tgt lo st I h k n) (kf : ¬ b ≤ a → GG G d mc ms X P nx lo st I h k n) : GG G d mc ms X P pc lo (.int b :: .int a :: st) I h k n := by
  obtain ⟨p, l, e, s, m, args, below, meth, c⟩ := X
  obtain ⟨hexec, hb, hml, hown, hts, hKs, hGk, hlk, hrt, hnm⟩ := hX
  obtain ⟨hd, hnx⟩ := hd
  subst hnx
  intro H locs ls hl hW hS
  exact lv_icmp_ge hexec hb hd ht (fun q => kt q H locs ls hl hW hS) (fun q => kf q H locs ls hl hW hS)

theorem g_if_ge {G : Gt} {d mc ms : Nat} {own : String} {y : Mt} {X : Xt} {P : Pt3} {pc nx : Nat} {lo : List (Option Value)} {st : List Value} {I : It} {h : Ht} {k n : Nat} {a : Int32} {off : Int} {tgt : Nat} (hX : Xok G own y X) (hd : dc y.2.1 pc (.ifCond .ge off) 3 nx) (ht : (pc : Int) + off = (tgt : Int)) (kt : 0 ≤ a → GG G d mc ms X P tgt lo st I h k n) (kf : ¬ 0 ≤ a → GG G d mc ms X P nx lo st I h k n) : GG G d mc ms X P pc lo (.int a :: st) I h k n := by
  obtain ⟨p, l, e, s, m, args, below, meth, c⟩ := X
  obtain ⟨hexec, hb, hml, hown, hts, hKs, hGk, hlk, hrt, hnm⟩ := hX
  obtain ⟨hd, hnx⟩ := hd
  subst hnx
  intro H locs ls hl hW hS
  exact lv_if_ge hexec hb hd ht (fun q => kt q H locs ls hl hW hS) (fun q => kf q H locs ls hl hW hS)

theorem g_icmp_gt {G : Gt} {d mc ms : Nat} {own : String} {y : Mt} {X : Xt} {P : Pt3} {pc nx : Nat} {lo : List (Option Value)} {st : List Value} {I : It} {h : Ht} {k n : Nat} {a b : Int32} {off : Int} {tgt : Nat} (hX : Xok G own y X) (hd : dc y.2.1 pc (.if_icmp .gt off) 3 nx) (ht : (pc : Int) + off = (tgt : Int)) (kt : b < a → GG G d mc ms X P tgt lo st I h k n) (kf : ¬ b < a → GG G d mc ms X P nx lo st I h k n) : GG G d mc ms X P pc lo (.int b :: .int a :: st) I h k n := by
  obtain ⟨p, l, e, s, m, args, below, meth, c⟩ := X
  obtain ⟨hexec, hb, hml, hown, hts, hKs, hGk, hlk, hrt, hnm⟩ := hX
  obtain ⟨hd, hnx⟩ := hd
  subst hnx
  intro H locs ls hl hW hS
  exact lv_icmp_gt hexec hb hd ht (fun q => kt q H locs ls hl hW hS) (fun q => kf q H locs ls hl hW hS)

theorem g_if_gt {G : Gt} {d mc ms : Nat} {own : String} {y : Mt} {X : Xt} {P : Pt3} {pc nx : Nat} {lo : List (Option Value)} {st : List Value} {I : It} {h : Ht} {k n : Nat} {a : Int32} {off : Int} {tgt : Nat} (hX : Xok G own y X) (hd : dc y.2.1 pc (.ifCond .gt off) 3 nx) (ht : (pc : Int) + off = (tgt : Int)) (kt : 0 < a → GG G d mc ms X P tgt lo st I h k n) (kf : ¬ 0 < a → GG G d mc ms X P nx lo st I h k n) : GG G d mc ms X P pc lo (.int a :: st) I h k n := by
  obtain ⟨p, l, e, s, m, args, below, meth, c⟩ := X
  obtain ⟨hexec, hb, hml, hown, hts, hKs, hGk, hlk, hrt, hnm⟩ := hX
  obtain ⟨hd, hnx⟩ := hd
  subst hnx
  intro H locs ls hl hW hS
  exact lv_if_gt hexec hb hd ht (fun q => kt q H locs ls hl hW hS) (fun q => kf q H locs ls hl hW hS)

theorem g_icmp_le {G : Gt} {d mc ms : Nat} {own : String} {y : Mt} {X : Xt} {P : Pt3} {pc nx : Nat} {lo : List (Option Value)} {st : List Value} {I : It} {h : Ht} {k n : Nat} {a b : Int32} {off : Int} {tgt : Nat} (hX : Xok G own y X) (hd : dc y.2.1 pc (.if_icmp .le off) 3 nx) (ht : (pc : Int) + off = (tgt : Int)) (kt : a ≤ b → GG G d mc ms X P tgt lo st I h k n) (kf : ¬ a ≤ b → GG G d mc ms X P nx lo st I h k n) : GG G d mc ms X P pc lo (.int b :: .int a :: st) I h k n := by
  obtain ⟨p, l, e, s, m, args, below, meth, c⟩ := X
  obtain ⟨hexec, hb, hml, hown, hts, hKs, hGk, hlk, hrt, hnm⟩ := hX
  obtain ⟨hd, hnx⟩ := hd
  subst hnx
  intro H locs ls hl hW hS
  exact lv_icmp_le hexec hb hd ht (fun q => kt q H locs ls hl hW hS) (fun q => kf q H locs ls hl hW hS)

theorem g_if_le {G : Gt} {d mc ms : Nat} {own : String} {y : Mt} {X : Xt} {P : Pt3} {pc nx : Nat} {lo : List (Option Value)} {st : List Value} {I : It} {h : Ht} {k n : Nat} {a : Int32} {off : Int} {tgt : Nat} (hX : Xok G own y X) (hd : dc y.2.1 pc (.ifCond .le off) 3 nx) (ht : (pc : Int) + off = (tgt : Int)) (kt : a ≤ 0 → GG G d mc ms X P tgt lo st I h k n) (kf : ¬ a ≤ 0 → GG G d mc ms X P nx lo st I h k n) : GG G d mc ms X P pc lo (.int a :: st) I h k n := by
  obtain ⟨p, l, e, s, m, args, below, meth, c⟩ := X
  obtain ⟨hexec, hb, hml, hown, hts, hKs, hGk, hlk, hrt, hnm⟩ := hX
  obtain ⟨hd, hnx⟩ := hd
  subst hnx
  intro H locs ls hl hW hS
  exact lv_if_le hexec hb hd ht (fun q => kt q H locs ls hl hW hS) (fun q => kf q H locs ls hl hW hS)

theorem g_goto {G : Gt} {d mc ms : Nat} {own : String} {y : Mt} {X : Xt} {P : Pt3} {pc nx : Nat} {lo : List (Option Value)} {st : List Value} {I : It} {h : Ht} {k n : Nat} {off : Int} {tgt : Nat} (hX : Xok G own y X) (hd : dc y.2.1 pc (.goto off) 3 nx) (ht : (pc : Int) + off = (tgt : Int)) (kk : GG G d mc ms X P tgt lo st I h k n) : GG G d mc ms X P pc lo st I h k n := by
  obtain ⟨p, l, e, s, m, args, below, meth, c⟩ := X
  obtain ⟨hexec, hb, hml, hown, hts, hKs, hGk, hlk, hrt, hnm⟩ := hX
  obtain ⟨hd, hnx⟩ := hd
  subst hnx
  intro H locs ls hl hW hS
  exact lv_goto hexec hb hd ht (kk H locs ls hl hW hS)

theorem g_ifnull {G : Gt} {d mc ms : Nat} {own : String} {y : Mt} {X : Xt} {P : Pt3} {pc nx : Nat} {lo : List (Option Value)} {st : List Value} {I : It} {h : Ht} {k n : Nat}  {off : Int} {tgt : Nat} (hX : Xok G own y X) (hd : dc y.2.1 pc (.ifnull off) 3 nx) (ht : (pc : Int) + off = (tgt : Int)) (kk : GG G d mc ms X P tgt lo st I h k n) : GG G d mc ms X P pc lo (.null :: st) I h k n := by
  obtain ⟨p, l, e, s, m, args, below, meth, c⟩ := X
  obtain ⟨hexec, hb, hml, hown, hts, hKs, hGk, hlk, hrt, hnm⟩ := hX
  obtain ⟨hd, hnx⟩ := hd
  subst hnx
  intro H locs ls hl hW hS
  exact lv_ifnullN hexec hb hd ht (kk H locs ls hl hW hS)

theorem g_ifnullR {G : Gt} {d mc ms : Nat} {own : String} {y : Mt} {X : Xt} {P : Pt3} {pc nx : Nat} {lo : List (Option Value)} {st : List Value} {I : It} {h : Ht} {k n : Nat} {q : Nat} {off : Int} (hX : Xok G own y X) (hd : dc y.2.1 pc (.ifnull off) 3 nx) (kk : GG G d mc ms X P nx lo st I h k n) : GG G d mc ms X P pc lo (.ref q :: st) I h k n := by
  obtain ⟨p, l, e, s, m, args, below, meth, c⟩ := X
  obtain ⟨hexec, hb, hml, hown, hts, hKs, hGk, hlk, hrt, hnm⟩ := hX
  obtain ⟨hd, hnx⟩ := hd
  subst hnx
  intro H locs ls hl hW hS
  exact lv_ifnull hexec hb hd (kk H locs ls hl hW hS)

theorem g_ifnonnull {G : Gt} {d mc ms : Nat} {own : String} {y : Mt} {X : Xt} {P : Pt3} {pc nx : Nat} {lo : List (Option Value)} {st : List Value} {I : It} {h : Ht} {k n : Nat} {q : Nat} {off : Int} {tgt : Nat} (hX : Xok G own y X) (hd : dc y.2.1 pc (.ifnonnull off) 3 nx) (ht : (pc : Int) + off = (tgt : Int)) (kk : GG G d mc ms X P tgt lo st I h k n) : GG G d mc ms X P pc lo (.ref q :: st) I h k n := by
  obtain ⟨p, l, e, s, m, args, below, meth, c⟩ := X
  obtain ⟨hexec, hb, hml, hown, hts, hKs, hGk, hlk, hrt, hnm⟩ := hX
  obtain ⟨hd, hnx⟩ := hd
  subst hnx
  intro H locs ls hl hW hS
  exact lv_ifnonnull hexec hb hd ht (kk H locs ls hl hW hS)

theorem g_ifnonnullN {G : Gt} {d mc ms : Nat} {own : String} {y : Mt} {X : Xt} {P : Pt3} {pc nx : Nat} {lo : List (Option Value)} {st : List Value} {I : It} {h : Ht} {k n : Nat}  {off : Int} (hX : Xok G own y X) (hd : dc y.2.1 pc (.ifnonnull off) 3 nx) (kk : GG G d mc ms X P nx lo st I h k n) : GG G d mc ms X P pc lo (.null :: st) I h k n := by
  obtain ⟨p, l, e, s, m, args, below, meth, c⟩ := X
  obtain ⟨hexec, hb, hml, hown, hts, hKs, hGk, hlk, hrt, hnm⟩ := hX
  obtain ⟨hd, hnx⟩ := hd
  subst hnx
  intro H locs ls hl hW hS
  exact lv_ifnonnullN hexec hb hd (kk H locs ls hl hW hS)

