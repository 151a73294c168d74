section
def rI (x : Int32) (I : It) (h : Ht) : Pt3 := fun r I' h' => r = some (.int x) ∧ I' = I ∧ h' = h
def rL (x : Int64) (I : It) (h : Ht) : Pt3 := fun r I' h' => r = some (.long x) ∧ I' = I ∧ h' = h
def rV (I : It) (h : Ht) : Pt3 := fun r I' h' => r = none ∧ I' = I ∧ h' = h
def rR (x : Option Nat) (I : It) (h : Ht) : Pt3 := fun r I' h' => r = some (rv x) ∧ I' = I ∧ h' = h
/-- an int and a world of which something is said -/
def qI (f : Int32 → It → Ht → Prop) : Pt3 := fun r I' h' => ∃ x, r = some (.int x) ∧ f x I' h'
def qL (f : Int64 → It → Ht → Prop) : Pt3 := fun r I' h' => ∃ x, r = some (.long x) ∧ f x I' h'
def qV (f : It → Ht → Prop) : Pt3 := fun r I' h' => r = none ∧ f I' h'
theorem rI_of {v x : Int32} {I I0 : It} {h h0 : Ht} (e : v = x) (e1 : I0 = I) (e2 : h0 = h) : rI x I h (some (.int v)) I0 h0 := ⟨by rw [e], e1, e2⟩
theorem rL_of {v x : Int64} {I I0 : It} {h h0 : Ht} (e : v = x) (e1 : I0 = I) (e2 : h0 = h) : rL x I h (some (.long v)) I0 h0 := ⟨by rw [e], e1, e2⟩
theorem rV_of {I I0 : It} {h h0 : Ht} (e1 : I0 = I) (e2 : h0 = h) : rV I h none I0 h0 := ⟨rfl, e1, e2⟩
theorem rR_of {v x : Option Nat} {I I0 : It} {h h0 : Ht} (e : v = x) (e1 : I0 = I) (e2 : h0 = h) : rR x I h (some (rv v)) I0 h0 := ⟨by rw [e], e1, e2⟩
theorem qI_of {v : Int32} {f : Int32 → It → Ht → Prop} {I0 : It} {h0 : Ht} (e : f v I0 h0) : qI f (some (.int v)) I0 h0 := ⟨v, rfl, e⟩
theorem qL_of {v : Int64} {f : Int64 → It → Ht → Prop} {I0 : It} {h0 : Ht} (e : f v I0 h0) : qL f (some (.long v)) I0 h0 := ⟨v, rfl, e⟩
theorem qV_of {f : It → Ht → Prop} {I0 : It} {h0 : Ht} (e : f I0 h0) : qV f none I0 h0 := ⟨rfl, e⟩
def bI (p : Prop) [Decidable p] : Int32 := if p then 1 else 0
theorem bI_t {p : Prop} [Decidable p] (hp : p) : bI p = 1 := if_pos hp
theorem bI_f {p : Prop} [Decidable p] (hp : ¬ p) : bI p = 0 := if_neg hp
theorem bI_0 {p : Prop} [Decidable p] : bI p = 0 ↔ ¬ p := by unfold bI; split <;> simp_all
theorem bI_n {p : Prop} [Decidable p] : bI p ≠ 0 ↔ p := by unfold bI; split <;> simp_all
theorem bI_01 (p : Prop) [Decidable p] : bI p = 0 ∨ bI p = 1 := by unfold bI; split <;> simp
theorem bI_c {p q : Prop} [Decidable p] [Decidable q] (e : p ↔ q) : bI p = bI q := by unfold bI; simp [e]
theorem nar01 {x : Int32} (hx : x = 0 ∨ x = 1) : narrow .boolean (.int x) = .int x := by rcases hx with rfl | rfl <;> decide
theorem narB (p : Prop) [Decidable p] : narrow .boolean (.int (bI p)) = .int (bI p) := nar01 (bI_01 p)
def idx (i : Int32) (j len : Nat) : Prop := i = nI j ∧ j < len ∧ len < 2 ^ 31
theorem idx_in {i : Int32} {j len : Nat} (hi : idx i j len) : vp_in i len := by obtain ⟨rfl, h1, h2⟩ := hi; exact vp_in_nI h1 h2
theorem idx_cl {i : Int32} {j len : Nat} (hi : idx i j len) : i.toNatClampNeg = j := by obtain ⟨rfl, h1, h2⟩ := hi; exact nI_clamp (by omega)
/-- an int that is not below 0, as a number -/
def tN (x : Int32) : Nat := x.toNatClampNeg
theorem tN_nI {n : Nat} (hn : n < 2 ^ 31) : tN (nI n) = n := nI_clamp hn
theorem nI_tN {x : Int32} (h : ¬ x < 0) : nI (tN x) = x := by
  obtain ⟨j, hj, rfl⟩ := nI_of h
  rw [tN_nI hj]
theorem idx_of {x : Int32} {len : Nat} (h0 : ¬ x < 0) (h1 : tN x < len) (h2 : len < 2 ^ 31) : idx x (tN x) len := ⟨(nI_tN h0).symm, h1, h2⟩

section FM
variable {G : Gt} {d mc ms : Nat} {own : String} {y : Mt} {X : Xt} {P : Pt3} {pc nx : Nat} {lo : List (Option Value)} {st : List Value} {I : It} {h : Ht} {k n : Nat}
theorem i_iaload (hX : Xok G own y X) {q len j : Nat} {i : Int32} (hd : dc y.2.1 pc .iaload 1 nx) (hq : q < hn h) (hc : hs h q = (20, len)) (hj : idx i j len) (kk : GG G d mc ms X P nx lo (.int (I q j) :: st) I h k n) : GG G d mc ms X P pc lo (.int i :: .ref q :: st) I h k n :=
  g_iaload hX hd hq hc (idx_in hj) (by rw [idx_cl hj]; exact kk)
theorem i_baload (hX : Xok G own y X) {q len j : Nat} {i : Int32} (hd : dc y.2.1 pc .baload 1 nx) (hq : q < hn h) (hc : hs h q = (22, len)) (hj : idx i j len) (kk : GG G d mc ms X P nx lo (.int (I q j) :: st) I h k n) : GG G d mc ms X P pc lo (.int i :: .ref q :: st) I h k n :=
  g_baload hX hd hq hc (idx_in hj) (by rw [idx_cl hj]; exact kk)
theorem i_zaload (hX : Xok G own y X) {q len j : Nat} {i : Int32} (hd : dc y.2.1 pc .baload 1 nx) (hq : q < hn h) (hc : hs h q = (23, len)) (hj : idx i j len) (kk : GG G d mc ms X P nx lo (.int (I q j) :: st) I h k n) : GG G d mc ms X P pc lo (.int i :: .ref q :: st) I h k n :=
  g_zaload hX hd hq hc (idx_in hj) (by rw [idx_cl hj]; exact kk)
theorem i_laload (hX : Xok G own y X) {q len j : Nat} {i : Int32} (hd : dc y.2.1 pc .laload 1 nx) (hq : q < hn h) (hc : hs h q = (21, len)) (hj : idx i j len) (kk : GG G d mc ms X P nx lo (.long (hL h q j) :: st) I h k n) : GG G d mc ms X P pc lo (.int i :: .ref q :: st) I h k n :=
  g_laload hX hd hq hc (idx_in hj) (by rw [idx_cl hj]; exact kk)
theorem i_iastore (hX : Xok G own y X) {q len j : Nat} {i : Int32} {x : Int32} (hd : dc y.2.1 pc .iastore 1 nx) (hq : q < hn h) (hc : hs h q = (20, len)) (hj : idx i j len) (kk : GG G d mc ms X P nx lo st (upI I q j x) h k n) : GG G d mc ms X P pc lo (.int x :: .int i :: .ref q :: st) I h k n :=
  g_iastore hX hd hq hc (idx_in hj) (by rw [idx_cl hj]; exact kk)
theorem i_bastore (hX : Xok G own y X) {q len j : Nat} {i : Int32} {x : Int32} (hd : dc y.2.1 pc .bastore 1 nx) (hq : q < hn h) (hc : hs h q = (22, len)) (hj : idx i j len) (kk : GG G d mc ms X P nx lo st (upI I q j (vp_nar .byte x)) h k n) : GG G d mc ms X P pc lo (.int x :: .int i :: .ref q :: st) I h k n :=
  g_bastore hX hd hq hc (idx_in hj) (by rw [idx_cl hj]; exact kk)
theorem i_zastore (hX : Xok G own y X) {q len j : Nat} {i : Int32} {x : Int32} (hd : dc y.2.1 pc .bastore 1 nx) (hq : q < hn h) (hc : hs h q = (23, len)) (hj : idx i j len) (kk : GG G d mc ms X P nx lo st (upI I q j (vp_nar .boolean x)) h k n) : GG G d mc ms X P pc lo (.int x :: .int i :: .ref q :: st) I h k n :=
  g_zastore hX hd hq hc (idx_in hj) (by rw [idx_cl hj]; exact kk)
theorem i_lastore (hX : Xok G own y X) {q len j : Nat} {i : Int32} {x : Int64} (hd : dc y.2.1 pc .lastore 1 nx) (hq : q < hn h) (hc : hs h q = (21, len)) (hj : idx i j len) (kk : GG G d mc ms X P nx lo st I (wL h q j x) k n) : GG G d mc ms X P pc lo (.long x :: .int i :: .ref q :: st) I h k n :=
  g_lastore hX hd hq hc (idx_in hj) (by rw [idx_cl hj]; exact kk)
theorem g_getIv (hX : Xok G own y X) {idx ci N j q : Nat} {C ref : String} {T : u_T} {ty : Nat → FieldType} {v : Int32} (hd : dc y.2.1 pc (.getfield idx) 3 nx) (hC : CLS ci C T N ty) (hl : Fln own ref T idx j) (hj : j < N) (hr : isr ci j = false) (hq : q < hn h) (hc : (hs h q).1 = ci) (hv : I q j = v)
    (kk : GG G d mc ms X P nx lo (.int v :: st) I h k n) : GG G d mc ms X P pc lo (.ref q :: st) I h k n := g_getI hX hd hC hl hj hr hq hc (by rw [hv]; exact kk)
theorem v_iaload (hX : Xok G own y X) {q len j : Nat} {i v : Int32} (hd : dc y.2.1 pc .iaload 1 nx) (hq : q < hn h) (hc : hs h q = (20, len)) (hj : idx i j len) (hv : I q j = v) (kk : GG G d mc ms X P nx lo (.int v :: st) I h k n) : GG G d mc ms X P pc lo (.int i :: .ref q :: st) I h k n :=
  i_iaload hX hd hq hc hj (by rw [hv]; exact kk)
theorem v_baload (hX : Xok G own y X) {q len j : Nat} {i v : Int32} (hd : dc y.2.1 pc .baload 1 nx) (hq : q < hn h) (hc : hs h q = (22, len)) (hj : idx i j len) (hv : I q j = v) (kk : GG G d mc ms X P nx lo (.int v :: st) I h k n) : GG G d mc ms X P pc lo (.int i :: .ref q :: st) I h k n :=
  i_baload hX hd hq hc hj (by rw [hv]; exact kk)
theorem v_zaload (hX : Xok G own y X) {q len j : Nat} {i v : Int32} (hd : dc y.2.1 pc .baload 1 nx) (hq : q < hn h) (hc : hs h q = (23, len)) (hj : idx i j len) (hv : I q j = v) (kk : GG G d mc ms X P nx lo (.int v :: st) I h k n) : GG G d mc ms X P pc lo (.int i :: .ref q :: st) I h k n :=
  i_zaload hX hd hq hc hj (by rw [hv]; exact kk)
theorem v_laload (hX : Xok G own y X) {q len j : Nat} {i : Int32} {v : Int64} (hd : dc y.2.1 pc .laload 1 nx) (hq : q < hn h) (hc : hs h q = (21, len)) (hj : idx i j len) (hv : hL h q j = v) (kk : GG G d mc ms X P nx lo (.long v :: st) I h k n) : GG G d mc ms X P pc lo (.int i :: .ref q :: st) I h k n :=
  i_laload hX hd hq hc hj (by rw [hv]; exact kk)
theorem g_gen (kk : ∀ I2, I2 = I → GG G d mc ms X P pc lo st I2 h k n) : GG G d mc ms X P pc lo st I h k n := kk I rfl
theorem g_nmI {x : Int32} (v : Int32) (e : x = v) (kk : GG G d mc ms X P pc lo (.int v :: st) I h k n) : GG G d mc ms X P pc lo (.int x :: st) I h k n := by rw [e]; exact kk
theorem g_nmL {x : Int64} (v : Int64) (e : x = v) (kk : GG G d mc ms X P pc lo (.long v :: st) I h k n) : GG G d mc ms X P pc lo (.long x :: st) I h k n := by rw [e]; exact kk
theorem i_aaload (hX : Xok G own y X) {q t len i0 j : Nat} {ty : FieldType} {i : Int32} {r : Option Nat} (hd : dc y.2.1 pc .aaload 1 nx) (hq : q < hn h) (hc : hs h q = (t, len)) (ht : 24 ≤ t) (hty : tysL[i0]? = some (t, ty)) (hrk : refKind ty = true) (hj : idx i j len) (hr : hR h q j = r) (kk : GG G d mc ms X P nx lo (rv r :: st) I h k n) : GG G d mc ms X P pc lo (.int i :: .ref q :: st) I h k n :=
  g_aaload hX hd hq hc ht hty hrk (idx_in hj) (by rw [idx_cl hj]; exact hr) kk
theorem g_getRs (hX : Xok G own y X) {idx ci N j q r : Nat} {C ref : String} {T : u_T} {ty : Nat → FieldType} (hd : dc y.2.1 pc (.getfield idx) 3 nx) (hC : CLS ci C T N ty) (hl : Fln own ref T idx j) (hj : j < N) (hr : isr ci j = true) (hq : q < hn h) (hc : (hs h q).1 = ci) (hv : hR h q j = some r)
    (kk : GG G d mc ms X P nx lo (.ref r :: st) I h k n) : GG G d mc ms X P pc lo (.ref q :: st) I h k n := g_getR hX hd hC hl hj hr hq hc hv kk
theorem rc0 {av As : List Value} {b c : Nat} (hav : av = .ref b :: As) (hb : b < hn h) (hc : (hs h b).1 = c) : ∀ c', some c = some c' → ∃ b As, av = .ref b :: As ∧ b < hn h ∧ (hs h b).1 = c' := fun c' e => by cases e; exact ⟨b, As, hav, hb, hc⟩
theorem rcN {av : List Value} : ∀ c', none = some c' → ∃ b As, av = .ref b :: As ∧ b < hn h ∧ (hs h b).1 = c' := fun c' e => by cases e
theorem g_c0 (hX : Xok G own y X) {y2 : Mt} {ci : Option Nat} {d2 mc2 ms2 : Nat}  {Q : Pt3} (S : Site own y pc nx y2 ci 0) (hdd : d2 + 1 ≤ d) (hst : (st.map fun v => v.category).sum ≤ 8) (hrc : ∀ c, ci = some c → ∃ b As, ([] : List Value) = .ref b :: As ∧ b < hn h ∧ (hs h b).1 = c) (hk : k + mc2 ≤ mc) (hms : n + ms2 ≤ ms) (hC : Con G d2 mc2 ms2 y2 [] I h Q) (kk : ∀ r I' h', Q r I' h' → GG G d mc ms X P nx lo (r.toList ++ st) I' h' (k + mc2) (n + ms2)) : GG G d mc ms X P pc lo (st) I h k n :=
  S G d mc ms X P lo st I h k n d2 mc2 ms2 [] Q hX hdd hk hms hst rfl hrc hC kk
theorem g_c0I (hX : Xok G own y X) {y2 : Mt} {ci : Option Nat} {d2 : Nat}  {x : Int32} {I1 : It} {h1 : Ht} (S : Site own y pc nx y2 ci 0) (hdd : d2 + 1 ≤ d) (hst : (st.map fun v => v.category).sum ≤ 8) (hrc : ∀ c, ci = some c → ∃ b As, ([] : List Value) = .ref b :: As ∧ b < hn h ∧ (hs h b).1 = c) (hk : k ≤ mc) (hms : n ≤ ms) (hC : Con G d2 0 0 y2 [] I h (rI x I1 h1)) (kk : GG G d mc ms X P nx lo (.int x :: st) I1 h1 k n) : GG G d mc ms X P pc lo (st) I h k n :=
  g_c0 hX S hdd hst hrc hk hms hC (fun r I' h' hq => by obtain ⟨rfl, rfl, rfl⟩ := hq; exact kk)
theorem g_c0L (hX : Xok G own y X) {y2 : Mt} {ci : Option Nat} {d2 : Nat}  {x : Int64} {I1 : It} {h1 : Ht} (S : Site own y pc nx y2 ci 0) (hdd : d2 + 1 ≤ d) (hst : (st.map fun v => v.category).sum ≤ 8) (hrc : ∀ c, ci = some c → ∃ b As, ([] : List Value) = .ref b :: As ∧ b < hn h ∧ (hs h b).1 = c) (hk : k ≤ mc) (hms : n ≤ ms) (hC : Con G d2 0 0 y2 [] I h (rL x I1 h1)) (kk : GG G d mc ms X P nx lo (.long x :: st) I1 h1 k n) : GG G d mc ms X P pc lo (st) I h k n :=
  g_c0 hX S hdd hst hrc hk hms hC (fun r I' h' hq => by obtain ⟨rfl, rfl, rfl⟩ := hq; exact kk)
theorem g_c0V (hX : Xok G own y X) {y2 : Mt} {ci : Option Nat} {d2 : Nat}  {I1 : It} {h1 : Ht} (S : Site own y pc nx y2 ci 0) (hdd : d2 + 1 ≤ d) (hst : (st.map fun v => v.category).sum ≤ 8) (hrc : ∀ c, ci = some c → ∃ b As, ([] : List Value) = .ref b :: As ∧ b < hn h ∧ (hs h b).1 = c) (hk : k ≤ mc) (hms : n ≤ ms) (hC : Con G d2 0 0 y2 [] I h (rV I1 h1)) (kk : GG G d mc ms X P nx lo st I1 h1 k n) : GG G d mc ms X P pc lo (st) I h k n :=
  g_c0 hX S hdd hst hrc hk hms hC (fun r I' h' hq => by obtain ⟨rfl, rfl, rfl⟩ := hq; exact kk)
theorem g_c0R (hX : Xok G own y X) {y2 : Mt} {ci : Option Nat} {d2 : Nat}  {x : Option Nat} {I1 : It} {h1 : Ht} (S : Site own y pc nx y2 ci 0) (hdd : d2 + 1 ≤ d) (hst : (st.map fun v => v.category).sum ≤ 8) (hrc : ∀ c, ci = some c → ∃ b As, ([] : List Value) = .ref b :: As ∧ b < hn h ∧ (hs h b).1 = c) (hk : k ≤ mc) (hms : n ≤ ms) (hC : Con G d2 0 0 y2 [] I h (rR x I1 h1)) (kk : GG G d mc ms X P nx lo (rv x :: st) I1 h1 k n) : GG G d mc ms X P pc lo (st) I h k n :=
  g_c0 hX S hdd hst hrc hk hms hC (fun r I' h' hq => by obtain ⟨rfl, rfl, rfl⟩ := hq; exact kk)
theorem g_c0q (hX : Xok G own y X) {y2 : Mt} {ci : Option Nat} {d2 : Nat}  {f : Int32 → It → Ht → Prop} (S : Site own y pc nx y2 ci 0) (hdd : d2 + 1 ≤ d) (hst : (st.map fun v => v.category).sum ≤ 8) (hrc : ∀ c, ci = some c → ∃ b As, ([] : List Value) = .ref b :: As ∧ b < hn h ∧ (hs h b).1 = c) (hk : k ≤ mc) (hms : n ≤ ms) (hC : Con G d2 0 0 y2 [] I h (qI f)) (kk : ∀ x I' h', f x I' h' → GG G d mc ms X P nx lo (.int x :: st) I' h' k n) : GG G d mc ms X P pc lo (st) I h k n :=
  g_c0 hX S hdd hst hrc hk hms hC (fun r I' h' hq => by obtain ⟨x, rfl, hf⟩ := hq; exact kk x I' h' hf)
theorem g_c0v (hX : Xok G own y X) {y2 : Mt} {ci : Option Nat} {d2 : Nat}  {f : It → Ht → Prop} (S : Site own y pc nx y2 ci 0) (hdd : d2 + 1 ≤ d) (hst : (st.map fun v => v.category).sum ≤ 8) (hrc : ∀ c, ci = some c → ∃ b As, ([] : List Value) = .ref b :: As ∧ b < hn h ∧ (hs h b).1 = c) (hk : k ≤ mc) (hms : n ≤ ms) (hC : Con G d2 0 0 y2 [] I h (qV f)) (kk : ∀ I' h', f I' h' → GG G d mc ms X P nx lo st I' h' k n) : GG G d mc ms X P pc lo (st) I h k n :=
  g_c0 hX S hdd hst hrc hk hms hC (fun r I' h' hq => by obtain ⟨rfl, hf⟩ := hq; exact kk I' h' hf)
theorem g_c1 (hX : Xok G own y X) {y2 : Mt} {ci : Option Nat} {d2 mc2 ms2 : Nat} {v0 : Value}  {Q : Pt3} (S : Site own y pc nx y2 ci 1) (hdd : d2 + 1 ≤ d) (hst : (st.map fun v => v.category).sum ≤ 8) (hrc : ∀ c, ci = some c → ∃ b As, ([v0] : List Value) = .ref b :: As ∧ b < hn h ∧ (hs h b).1 = c) (hk : k + mc2 ≤ mc) (hms : n + ms2 ≤ ms) (hC : Con G d2 mc2 ms2 y2 [v0] I h Q) (kk : ∀ r I' h', Q r I' h' → GG G d mc ms X P nx lo (r.toList ++ st) I' h' (k + mc2) (n + ms2)) : GG G d mc ms X P pc lo (v0 :: st) I h k n :=
  S G d mc ms X P lo st I h k n d2 mc2 ms2 [v0] Q hX hdd hk hms hst rfl hrc hC kk
theorem g_c1I (hX : Xok G own y X) {y2 : Mt} {ci : Option Nat} {d2 : Nat} {v0 : Value}  {x : Int32} {I1 : It} {h1 : Ht} (S : Site own y pc nx y2 ci 1) (hdd : d2 + 1 ≤ d) (hst : (st.map fun v => v.category).sum ≤ 8) (hrc : ∀ c, ci = some c → ∃ b As, ([v0] : List Value) = .ref b :: As ∧ b < hn h ∧ (hs h b).1 = c) (hk : k ≤ mc) (hms : n ≤ ms) (hC : Con G d2 0 0 y2 [v0] I h (rI x I1 h1)) (kk : GG G d mc ms X P nx lo (.int x :: st) I1 h1 k n) : GG G d mc ms X P pc lo (v0 :: st) I h k n :=
  g_c1 hX S hdd hst hrc hk hms hC (fun r I' h' hq => by obtain ⟨rfl, rfl, rfl⟩ := hq; exact kk)
theorem g_c1L (hX : Xok G own y X) {y2 : Mt} {ci : Option Nat} {d2 : Nat} {v0 : Value}  {x : Int64} {I1 : It} {h1 : Ht} (S : Site own y pc nx y2 ci 1) (hdd : d2 + 1 ≤ d) (hst : (st.map fun v => v.category).sum ≤ 8) (hrc : ∀ c, ci = some c → ∃ b As, ([v0] : List Value) = .ref b :: As ∧ b < hn h ∧ (hs h b).1 = c) (hk : k ≤ mc) (hms : n ≤ ms) (hC : Con G d2 0 0 y2 [v0] I h (rL x I1 h1)) (kk : GG G d mc ms X P nx lo (.long x :: st) I1 h1 k n) : GG G d mc ms X P pc lo (v0 :: st) I h k n :=
  g_c1 hX S hdd hst hrc hk hms hC (fun r I' h' hq => by obtain ⟨rfl, rfl, rfl⟩ := hq; exact kk)
theorem g_c1V (hX : Xok G own y X) {y2 : Mt} {ci : Option Nat} {d2 : Nat} {v0 : Value}  {I1 : It} {h1 : Ht} (S : Site own y pc nx y2 ci 1) (hdd : d2 + 1 ≤ d) (hst : (st.map fun v => v.category).sum ≤ 8) (hrc : ∀ c, ci = some c → ∃ b As, ([v0] : List Value) = .ref b :: As ∧ b < hn h ∧ (hs h b).1 = c) (hk : k ≤ mc) (hms : n ≤ ms) (hC : Con G d2 0 0 y2 [v0] I h (rV I1 h1)) (kk : GG G d mc ms X P nx lo st I1 h1 k n) : GG G d mc ms X P pc lo (v0 :: st) I h k n :=
  g_c1 hX S hdd hst hrc hk hms hC (fun r I' h' hq => by obtain ⟨rfl, rfl, rfl⟩ := hq; exact kk)
theorem g_c1R (hX : Xok G own y X) {y2 : Mt} {ci : Option Nat} {d2 : Nat} {v0 : Value}  {x : Option Nat} {I1 : It} {h1 : Ht} (S : Site own y pc nx y2 ci 1) (hdd : d2 + 1 ≤ d) (hst : (st.map fun v => v.category).sum ≤ 8) (hrc : ∀ c, ci = some c → ∃ b As, ([v0] : List Value) = .ref b :: As ∧ b < hn h ∧ (hs h b).1 = c) (hk : k ≤ mc) (hms : n ≤ ms) (hC : Con G d2 0 0 y2 [v0] I h (rR x I1 h1)) (kk : GG G d mc ms X P nx lo (rv x :: st) I1 h1 k n) : GG G d mc ms X P pc lo (v0 :: st) I h k n :=
  g_c1 hX S hdd hst hrc hk hms hC (fun r I' h' hq => by obtain ⟨rfl, rfl, rfl⟩ := hq; exact kk)
theorem g_c1q (hX : Xok G own y X) {y2 : Mt} {ci : Option Nat} {d2 : Nat} {v0 : Value}  {f : Int32 → It → Ht → Prop} (S : Site own y pc nx y2 ci 1) (hdd : d2 + 1 ≤ d) (hst : (st.map fun v => v.category).sum ≤ 8) (hrc : ∀ c, ci = some c → ∃ b As, ([v0] : List Value) = .ref b :: As ∧ b < hn h ∧ (hs h b).1 = c) (hk : k ≤ mc) (hms : n ≤ ms) (hC : Con G d2 0 0 y2 [v0] I h (qI f)) (kk : ∀ x I' h', f x I' h' → GG G d mc ms X P nx lo (.int x :: st) I' h' k n) : GG G d mc ms X P pc lo (v0 :: st) I h k n :=
  g_c1 hX S hdd hst hrc hk hms hC (fun r I' h' hq => by obtain ⟨x, rfl, hf⟩ := hq; exact kk x I' h' hf)
theorem g_c1v (hX : Xok G own y X) {y2 : Mt} {ci : Option Nat} {d2 : Nat} {v0 : Value}  {f : It → Ht → Prop} (S : Site own y pc nx y2 ci 1) (hdd : d2 + 1 ≤ d) (hst : (st.map fun v => v.category).sum ≤ 8) (hrc : ∀ c, ci = some c → ∃ b As, ([v0] : List Value) = .ref b :: As ∧ b < hn h ∧ (hs h b).1 = c) (hk : k ≤ mc) (hms : n ≤ ms) (hC : Con G d2 0 0 y2 [v0] I h (qV f)) (kk : ∀ I' h', f I' h' → GG G d mc ms X P nx lo st I' h' k n) : GG G d mc ms X P pc lo (v0 :: st) I h k n :=
  g_c1 hX S hdd hst hrc hk hms hC (fun r I' h' hq => by obtain ⟨rfl, hf⟩ := hq; exact kk I' h' hf)
theorem g_c2 (hX : Xok G own y X) {y2 : Mt} {ci : Option Nat} {d2 mc2 ms2 : Nat} {v0 v1 : Value}  {Q : Pt3} (S : Site own y pc nx y2 ci 2) (hdd : d2 + 1 ≤ d) (hst : (st.map fun v => v.category).sum ≤ 8) (hrc : ∀ c, ci = some c → ∃ b As, ([v0, v1] : List Value) = .ref b :: As ∧ b < hn h ∧ (hs h b).1 = c) (hk : k + mc2 ≤ mc) (hms : n + ms2 ≤ ms) (hC : Con G d2 mc2 ms2 y2 [v0, v1] I h Q) (kk : ∀ r I' h', Q r I' h' → GG G d mc ms X P nx lo (r.toList ++ st) I' h' (k + mc2) (n + ms2)) : GG G d mc ms X P pc lo (v1 :: v0 :: st) I h k n :=
  S G d mc ms X P lo st I h k n d2 mc2 ms2 [v0, v1] Q hX hdd hk hms hst rfl hrc hC kk
theorem g_c2I (hX : Xok G own y X) {y2 : Mt} {ci : Option Nat} {d2 : Nat} {v0 v1 : Value}  {x : Int32} {I1 : It} {h1 : Ht} (S : Site own y pc nx y2 ci 2) (hdd : d2 + 1 ≤ d) (hst : (st.map fun v => v.category).sum ≤ 8) (hrc : ∀ c, ci = some c → ∃ b As, ([v0, v1] : List Value) = .ref b :: As ∧ b < hn h ∧ (hs h b).1 = c) (hk : k ≤ mc) (hms : n ≤ ms) (hC : Con G d2 0 0 y2 [v0, v1] I h (rI x I1 h1)) (kk : GG G d mc ms X P nx lo (.int x :: st) I1 h1 k n) : GG G d mc ms X P pc lo (v1 :: v0 :: st) I h k n :=
  g_c2 hX S hdd hst hrc hk hms hC (fun r I' h' hq => by obtain ⟨rfl, rfl, rfl⟩ := hq; exact kk)
theorem g_c2L (hX : Xok G own y X) {y2 : Mt} {ci : Option Nat} {d2 : Nat} {v0 v1 : Value}  {x : Int64} {I1 : It} {h1 : Ht} (S : Site own y pc nx y2 ci 2) (hdd : d2 + 1 ≤ d) (hst : (st.map fun v => v.category).sum ≤ 8) (hrc : ∀ c, ci = some c → ∃ b As, ([v0, v1] : List Value) = .ref b :: As ∧ b < hn h ∧ (hs h b).1 = c) (hk : k ≤ mc) (hms : n ≤ ms) (hC : Con G d2 0 0 y2 [v0, v1] I h (rL x I1 h1)) (kk : GG G d mc ms X P nx lo (.long x :: st) I1 h1 k n) : GG G d mc ms X P pc lo (v1 :: v0 :: st) I h k n :=
  g_c2 hX S hdd hst hrc hk hms hC (fun r I' h' hq => by obtain ⟨rfl, rfl, rfl⟩ := hq; exact kk)
theorem g_c2V (hX : Xok G own y X) {y2 : Mt} {ci : Option Nat} {d2 : Nat} {v0 v1 : Value}  {I1 : It} {h1 : Ht} (S : Site own y pc nx y2 ci 2) (hdd : d2 + 1 ≤ d) (hst : (st.map fun v => v.category).sum ≤ 8) (hrc : ∀ c, ci = some c → ∃ b As, ([v0, v1] : List Value) = .ref b :: As ∧ b < hn h ∧ (hs h b).1 = c) (hk : k ≤ mc) (hms : n ≤ ms) (hC : Con G d2 0 0 y2 [v0, v1] I h (rV I1 h1)) (kk : GG G d mc ms X P nx lo st I1 h1 k n) : GG G d mc ms X P pc lo (v1 :: v0 :: st) I h k n :=
  g_c2 hX S hdd hst hrc hk hms hC (fun r I' h' hq => by obtain ⟨rfl, rfl, rfl⟩ := hq; exact kk)
theorem g_c2R (hX : Xok G own y X) {y2 : Mt} {ci : Option Nat} {d2 : Nat} {v0 v1 : Value}  {x : Option Nat} {I1 : It} {h1 : Ht} (S : Site own y pc nx y2 ci 2) (hdd : d2 + 1 ≤ d) (hst : (st.map fun v => v.category).sum ≤ 8) (hrc : ∀ c, ci = some c → ∃ b As, ([v0, v1] : List Value) = .ref b :: As ∧ b < hn h ∧ (hs h b).1 = c) (hk : k ≤ mc) (hms : n ≤ ms) (hC : Con G d2 0 0 y2 [v0, v1] I h (rR x I1 h1)) (kk : GG G d mc ms X P nx lo (rv x :: st) I1 h1 k n) : GG G d mc ms X P pc lo (v1 :: v0 :: st) I h k n :=
  g_c2 hX S hdd hst hrc hk hms hC (fun r I' h' hq => by obtain ⟨rfl, rfl, rfl⟩ := hq; exact kk)
theorem g_c2q (hX : Xok G own y X) {y2 : Mt} {ci : Option Nat} {d2 : Nat} {v0 v1 : Value}  {f : Int32 → It → Ht → Prop} (S : Site own y pc nx y2 ci 2) (hdd : d2 + 1 ≤ d) (hst : (st.map fun v => v.category).sum ≤ 8) (hrc : ∀ c, ci = some c → ∃ b As, ([v0, v1] : List Value) = .ref b :: As ∧ b < hn h ∧ (hs h b).1 = c) (hk : k ≤ mc) (hms : n ≤ ms) (hC : Con G d2 0 0 y2 [v0, v1] I h (qI f)) (kk : ∀ x I' h', f x I' h' → GG G d mc ms X P nx lo (.int x :: st) I' h' k n) : GG G d mc ms X P pc lo (v1 :: v0 :: st) I h k n :=
  g_c2 hX S hdd hst hrc hk hms hC (fun r I' h' hq => by obtain ⟨x, rfl, hf⟩ := hq; exact kk x I' h' hf)
theorem g_c2v (hX : Xok G own y X) {y2 : Mt} {ci : Option Nat} {d2 : Nat} {v0 v1 : Value}  {f : It → Ht → Prop} (S : Site own y pc nx y2 ci 2) (hdd : d2 + 1 ≤ d) (hst : (st.map fun v => v.category).sum ≤ 8) (hrc : ∀ c, ci = some c → ∃ b As, ([v0, v1] : List Value) = .ref b :: As ∧ b < hn h ∧ (hs h b).1 = c) (hk : k ≤ mc) (hms : n ≤ ms) (hC : Con G d2 0 0 y2 [v0, v1] I h (qV f)) (kk : ∀ I' h', f I' h' → GG G d mc ms X P nx lo st I' h' k n) : GG G d mc ms X P pc lo (v1 :: v0 :: st) I h k n :=
  g_c2 hX S hdd hst hrc hk hms hC (fun r I' h' hq => by obtain ⟨rfl, hf⟩ := hq; exact kk I' h' hf)
theorem g_c3 (hX : Xok G own y X) {y2 : Mt} {ci : Option Nat} {d2 mc2 ms2 : Nat} {v0 v1 v2 : Value}  {Q : Pt3} (S : Site own y pc nx y2 ci 3) (hdd : d2 + 1 ≤ d) (hst : (st.map fun v => v.category).sum ≤ 8) (hrc : ∀ c, ci = some c → ∃ b As, ([v0, v1, v2] : List Value) = .ref b :: As ∧ b < hn h ∧ (hs h b).1 = c) (hk : k + mc2 ≤ mc) (hms : n + ms2 ≤ ms) (hC : Con G d2 mc2 ms2 y2 [v0, v1, v2] I h Q) (kk : ∀ r I' h', Q r I' h' → GG G d mc ms X P nx lo (r.toList ++ st) I' h' (k + mc2) (n + ms2)) : GG G d mc ms X P pc lo (v2 :: v1 :: v0 :: st) I h k n :=
  S G d mc ms X P lo st I h k n d2 mc2 ms2 [v0, v1, v2] Q hX hdd hk hms hst rfl hrc hC kk
theorem g_c3I (hX : Xok G own y X) {y2 : Mt} {ci : Option Nat} {d2 : Nat} {v0 v1 v2 : Value}  {x : Int32} {I1 : It} {h1 : Ht} (S : Site own y pc nx y2 ci 3) (hdd : d2 + 1 ≤ d) (hst : (st.map fun v => v.category).sum ≤ 8) (hrc : ∀ c, ci = some c → ∃ b As, ([v0, v1, v2] : List Value) = .ref b :: As ∧ b < hn h ∧ (hs h b).1 = c) (hk : k ≤ mc) (hms : n ≤ ms) (hC : Con G d2 0 0 y2 [v0, v1, v2] I h (rI x I1 h1)) (kk : GG G d mc ms X P nx lo (.int x :: st) I1 h1 k n) : GG G d mc ms X P pc lo (v2 :: v1 :: v0 :: st) I h k n :=
  g_c3 hX S hdd hst hrc hk hms hC (fun r I' h' hq => by obtain ⟨rfl, rfl, rfl⟩ := hq; exact kk)
theorem g_c3L (hX : Xok G own y X) {y2 : Mt} {ci : Option Nat} {d2 : Nat} {v0 v1 v2 : Value}  {x : Int64} {I1 : It} {h1 : Ht} (S : Site own y pc nx y2 ci 3) (hdd : d2 + 1 ≤ d) (hst : (st.map fun v => v.category).sum ≤ 8) (hrc : ∀ c, ci = some c → ∃ b As, ([v0, v1, v2] : List Value) = .ref b :: As ∧ b < hn h ∧ (hs h b).1 = c) (hk : k ≤ mc) (hms : n ≤ ms) (hC : Con G d2 0 0 y2 [v0, v1, v2] I h (rL x I1 h1)) (kk : GG G d mc ms X P nx lo (.long x :: st) I1 h1 k n) : GG G d mc ms X P pc lo (v2 :: v1 :: v0 :: st) I h k n :=
  g_c3 hX S hdd hst hrc hk hms hC (fun r I' h' hq => by obtain ⟨rfl, rfl, rfl⟩ := hq; exact kk)
theorem g_c3V (hX : Xok G own y X) {y2 : Mt} {ci : Option Nat} {d2 : Nat} {v0 v1 v2 : Value}  {I1 : It} {h1 : Ht} (S : Site own y pc nx y2 ci 3) (hdd : d2 + 1 ≤ d) (hst : (st.map fun v => v.category).sum ≤ 8) (hrc : ∀ c, ci = some c → ∃ b As, ([v0, v1, v2] : List Value) = .ref b :: As ∧ b < hn h ∧ (hs h b).1 = c) (hk : k ≤ mc) (hms : n ≤ ms) (hC : Con G d2 0 0 y2 [v0, v1, v2] I h (rV I1 h1)) (kk : GG G d mc ms X P nx lo st I1 h1 k n) : GG G d mc ms X P pc lo (v2 :: v1 :: v0 :: st) I h k n :=
  g_c3 hX S hdd hst hrc hk hms hC (fun r I' h' hq => by obtain ⟨rfl, rfl, rfl⟩ := hq; exact kk)
theorem g_c3R (hX : Xok G own y X) {y2 : Mt} {ci : Option Nat} {d2 : Nat} {v0 v1 v2 : Value}  {x : Option Nat} {I1 : It} {h1 : Ht} (S : Site own y pc nx y2 ci 3) (hdd : d2 + 1 ≤ d) (hst : (st.map fun v => v.category).sum ≤ 8) (hrc : ∀ c, ci = some c → ∃ b As, ([v0, v1, v2] : List Value) = .ref b :: As ∧ b < hn h ∧ (hs h b).1 = c) (hk : k ≤ mc) (hms : n ≤ ms) (hC : Con G d2 0 0 y2 [v0, v1, v2] I h (rR x I1 h1)) (kk : GG G d mc ms X P nx lo (rv x :: st) I1 h1 k n) : GG G d mc ms X P pc lo (v2 :: v1 :: v0 :: st) I h k n :=
  g_c3 hX S hdd hst hrc hk hms hC (fun r I' h' hq => by obtain ⟨rfl, rfl, rfl⟩ := hq; exact kk)
theorem g_c3q (hX : Xok G own y X) {y2 : Mt} {ci : Option Nat} {d2 : Nat} {v0 v1 v2 : Value}  {f : Int32 → It → Ht → Prop} (S : Site own y pc nx y2 ci 3) (hdd : d2 + 1 ≤ d) (hst : (st.map fun v => v.category).sum ≤ 8) (hrc : ∀ c, ci = some c → ∃ b As, ([v0, v1, v2] : List Value) = .ref b :: As ∧ b < hn h ∧ (hs h b).1 = c) (hk : k ≤ mc) (hms : n ≤ ms) (hC : Con G d2 0 0 y2 [v0, v1, v2] I h (qI f)) (kk : ∀ x I' h', f x I' h' → GG G d mc ms X P nx lo (.int x :: st) I' h' k n) : GG G d mc ms X P pc lo (v2 :: v1 :: v0 :: st) I h k n :=
  g_c3 hX S hdd hst hrc hk hms hC (fun r I' h' hq => by obtain ⟨x, rfl, hf⟩ := hq; exact kk x I' h' hf)
theorem g_c3v (hX : Xok G own y X) {y2 : Mt} {ci : Option Nat} {d2 : Nat} {v0 v1 v2 : Value}  {f : It → Ht → Prop} (S : Site own y pc nx y2 ci 3) (hdd : d2 + 1 ≤ d) (hst : (st.map fun v => v.category).sum ≤ 8) (hrc : ∀ c, ci = some c → ∃ b As, ([v0, v1, v2] : List Value) = .ref b :: As ∧ b < hn h ∧ (hs h b).1 = c) (hk : k ≤ mc) (hms : n ≤ ms) (hC : Con G d2 0 0 y2 [v0, v1, v2] I h (qV f)) (kk : ∀ I' h', f I' h' → GG G d mc ms X P nx lo st I' h' k n) : GG G d mc ms X P pc lo (v2 :: v1 :: v0 :: st) I h k n :=
  g_c3 hX S hdd hst hrc hk hms hC (fun r I' h' hq => by obtain ⟨rfl, hf⟩ := hq; exact kk I' h' hf)
theorem g_c4 (hX : Xok G own y X) {y2 : Mt} {ci : Option Nat} {d2 mc2 ms2 : Nat} {v0 v1 v2 v3 : Value}  {Q : Pt3} (S : Site own y pc nx y2 ci 4) (hdd : d2 + 1 ≤ d) (hst : (st.map fun v => v.category).sum ≤ 8) (hrc : ∀ c, ci = some c → ∃ b As, ([v0, v1, v2, v3] : List Value) = .ref b :: As ∧ b < hn h ∧ (hs h b).1 = c) (hk : k + mc2 ≤ mc) (hms : n + ms2 ≤ ms) (hC : Con G d2 mc2 ms2 y2 [v0, v1, v2, v3] I h Q) (kk : ∀ r I' h', Q r I' h' → GG G d mc ms X P nx lo (r.toList ++ st) I' h' (k + mc2) (n + ms2)) : GG G d mc ms X P pc lo (v3 :: v2 :: v1 :: v0 :: st) I h k n :=
  S G d mc ms X P lo st I h k n d2 mc2 ms2 [v0, v1, v2, v3] Q hX hdd hk hms hst rfl hrc hC kk
theorem g_c4I (hX : Xok G own y X) {y2 : Mt} {ci : Option Nat} {d2 : Nat} {v0 v1 v2 v3 : Value}  {x : Int32} {I1 : It} {h1 : Ht} (S : Site own y pc nx y2 ci 4) (hdd : d2 + 1 ≤ d) (hst : (st.map fun v => v.category).sum ≤ 8) (hrc : ∀ c, ci = some c → ∃ b As, ([v0, v1, v2, v3] : List Value) = .ref b :: As ∧ b < hn h ∧ (hs h b).1 = c) (hk : k ≤ mc) (hms : n ≤ ms) (hC : Con G d2 0 0 y2 [v0, v1, v2, v3] I h (rI x I1 h1)) (kk : GG G d mc ms X P nx lo (.int x :: st) I1 h1 k n) : GG G d mc ms X P pc lo (v3 :: v2 :: v1 :: v0 :: st) I h k n :=
  g_c4 hX S hdd hst hrc hk hms hC (fun r I' h' hq => by obtain ⟨rfl, rfl, rfl⟩ := hq; exact kk)
theorem g_c4L (hX : Xok G own y X) {y2 : Mt} {ci : Option Nat} {d2 : Nat} {v0 v1 v2 v3 : Value}  {x : Int64} {I1 : It} {h1 : Ht} (S : Site own y pc nx y2 ci 4) (hdd : d2 + 1 ≤ d) (hst : (st.map fun v => v.category).sum ≤ 8) (hrc : ∀ c, ci = some c → ∃ b As, ([v0, v1, v2, v3] : List Value) = .ref b :: As ∧ b < hn h ∧ (hs h b).1 = c) (hk : k ≤ mc) (hms : n ≤ ms) (hC : Con G d2 0 0 y2 [v0, v1, v2, v3] I h (rL x I1 h1)) (kk : GG G d mc ms X P nx lo (.long x :: st) I1 h1 k n) : GG G d mc ms X P pc lo (v3 :: v2 :: v1 :: v0 :: st) I h k n :=
  g_c4 hX S hdd hst hrc hk hms hC (fun r I' h' hq => by obtain ⟨rfl, rfl, rfl⟩ := hq; exact kk)
theorem g_c4V (hX : Xok G own y X) {y2 : Mt} {ci : Option Nat} {d2 : Nat} {v0 v1 v2 v3 : Value}  {I1 : It} {h1 : Ht} (S : Site own y pc nx y2 ci 4) (hdd : d2 + 1 ≤ d) (hst : (st.map fun v => v.category).sum ≤ 8) (hrc : ∀ c, ci = some c → ∃ b As, ([v0, v1, v2, v3] : List Value) = .ref b :: As ∧ b < hn h ∧ (hs h b).1 = c) (hk : k ≤ mc) (hms : n ≤ ms) (hC : Con G d2 0 0 y2 [v0, v1, v2, v3] I h (rV I1 h1)) (kk : GG G d mc ms X P nx lo st I1 h1 k n) : GG G d mc ms X P pc lo (v3 :: v2 :: v1 :: v0 :: st) I h k n :=
  g_c4 hX S hdd hst hrc hk hms hC (fun r I' h' hq => by obtain ⟨rfl, rfl, rfl⟩ := hq; exact kk)
theorem g_c4R (hX : Xok G own y X) {y2 : Mt} {ci : Option Nat} {d2 : Nat} {v0 v1 v2 v3 : Value}  {x : Option Nat} {I1 : It} {h1 : Ht} (S : Site own y pc nx y2 ci 4) (hdd : d2 + 1 ≤ d) (hst : (st.map fun v => v.category).sum ≤ 8) (hrc : ∀ c, ci = some c → ∃ b As, ([v0, v1, v2, v3] : List Value) = .ref b :: As ∧ b < hn h ∧ (hs h b).1 = c) (hk : k ≤ mc) (hms : n ≤ ms) (hC : Con G d2 0 0 y2 [v0, v1, v2, v3] I h (rR x I1 h1)) (kk : GG G d mc ms X P nx lo (rv x :: st) I1 h1 k n) : GG G d mc ms X P pc lo (v3 :: v2 :: v1 :: v0 :: st) I h k n :=
  g_c4 hX S hdd hst hrc hk hms hC (fun r I' h' hq => by obtain ⟨rfl, rfl, rfl⟩ := hq; exact kk)
theorem g_c4q (hX : Xok G own y X) {y2 : Mt} {ci : Option Nat} {d2 : Nat} {v0 v1 v2 v3 : Value}  {f : Int32 → It → Ht → Prop} (S : Site own y pc nx y2 ci 4) (hdd : d2 + 1 ≤ d) (hst : (st.map fun v => v.category).sum ≤ 8) (hrc : ∀ c, ci = some c → ∃ b As, ([v0, v1, v2, v3] : List Value) = .ref b :: As ∧ b < hn h ∧ (hs h b).1 = c) (hk : k ≤ mc) (hms : n ≤ ms) (hC : Con G d2 0 0 y2 [v0, v1, v2, v3] I h (qI f)) (kk : ∀ x I' h', f x I' h' → GG G d mc ms X P nx lo (.int x :: st) I' h' k n) : GG G d mc ms X P pc lo (v3 :: v2 :: v1 :: v0 :: st) I h k n :=
  g_c4 hX S hdd hst hrc hk hms hC (fun r I' h' hq => by obtain ⟨x, rfl, hf⟩ := hq; exact kk x I' h' hf)
theorem g_c4v (hX : Xok G own y X) {y2 : Mt} {ci : Option Nat} {d2 : Nat} {v0 v1 v2 v3 : Value}  {f : It → Ht → Prop} (S : Site own y pc nx y2 ci 4) (hdd : d2 + 1 ≤ d) (hst : (st.map fun v => v.category).sum ≤ 8) (hrc : ∀ c, ci = some c → ∃ b As, ([v0, v1, v2, v3] : List Value) = .ref b :: As ∧ b < hn h ∧ (hs h b).1 = c) (hk : k ≤ mc) (hms : n ≤ ms) (hC : Con G d2 0 0 y2 [v0, v1, v2, v3] I h (qV f)) (kk : ∀ I' h', f I' h' → GG G d mc ms X P nx lo st I' h' k n) : GG G d mc ms X P pc lo (v3 :: v2 :: v1 :: v0 :: st) I h k n :=
  g_c4 hX S hdd hst hrc hk hms hC (fun r I' h' hq => by obtain ⟨rfl, hf⟩ := hq; exact kk I' h' hf)
theorem g_c5 (hX : Xok G own y X) {y2 : Mt} {ci : Option Nat} {d2 mc2 ms2 : Nat} {v0 v1 v2 v3 v4 : Value}  {Q : Pt3} (S : Site own y pc nx y2 ci 5) (hdd : d2 + 1 ≤ d) (hst : (st.map fun v => v.category).sum ≤ 8) (hrc : ∀ c, ci = some c → ∃ b As, ([v0, v1, v2, v3, v4] : List Value) = .ref b :: As ∧ b < hn h ∧ (hs h b).1 = c) (hk : k + mc2 ≤ mc) (hms : n + ms2 ≤ ms) (hC : Con G d2 mc2 ms2 y2 [v0, v1, v2, v3, v4] I h Q) (kk : ∀ r I' h', Q r I' h' → GG G d mc ms X P nx lo (r.toList ++ st) I' h' (k + mc2) (n + ms2)) : GG G d mc ms X P pc lo (v4 :: v3 :: v2 :: v1 :: v0 :: st) I h k n :=
  S G d mc ms X P lo st I h k n d2 mc2 ms2 [v0, v1, v2, v3, v4] Q hX hdd hk hms hst rfl hrc hC kk
theorem g_c5I (hX : Xok G own y X) {y2 : Mt} {ci : Option Nat} {d2 : Nat} {v0 v1 v2 v3 v4 : Value}  {x : Int32} {I1 : It} {h1 : Ht} (S : Site own y pc nx y2 ci 5) (hdd : d2 + 1 ≤ d) (hst : (st.map fun v => v.category).sum ≤ 8) (hrc : ∀ c, ci = some c → ∃ b As, ([v0, v1, v2, v3, v4] : List Value) = .ref b :: As ∧ b < hn h ∧ (hs h b).1 = c) (hk : k ≤ mc) (hms : n ≤ ms) (hC : Con G d2 0 0 y2 [v0, v1, v2, v3, v4] I h (rI x I1 h1)) (kk : GG G d mc ms X P nx lo (.int x :: st) I1 h1 k n) : GG G d mc ms X P pc lo (v4 :: v3 :: v2 :: v1 :: v0 :: st) I h k n :=
  g_c5 hX S hdd hst hrc hk hms hC (fun r I' h' hq => by obtain ⟨rfl, rfl, rfl⟩ := hq; exact kk)
theorem g_c5L (hX : Xok G own y X) {y2 : Mt} {ci : Option Nat} {d2 : Nat} {v0 v1 v2 v3 v4 : Value}  {x : Int64} {I1 : It} {h1 : Ht} (S : Site own y pc nx y2 ci 5) (hdd : d2 + 1 ≤ d) (hst : (st.map fun v => v.category).sum ≤ 8) (hrc : ∀ c, ci = some c → ∃ b As, ([v0, v1, v2, v3, v4] : List Value) = .ref b :: As ∧ b < hn h ∧ (hs h b).1 = c) (hk : k ≤ mc) (hms : n ≤ ms) (hC : Con G d2 0 0 y2 [v0, v1, v2, v3, v4] I h (rL x I1 h1)) (kk : GG G d mc ms X P nx lo (.long x :: st) I1 h1 k n) : GG G d mc ms X P pc lo (v4 :: v3 :: v2 :: v1 :: v0 :: st) I h k n :=
  g_c5 hX S hdd hst hrc hk hms hC (fun r I' h' hq => by obtain ⟨rfl, rfl, rfl⟩ := hq; exact kk)
theorem g_c5V (hX : Xok G own y X) {y2 : Mt} {ci : Option Nat} {d2 : Nat} {v0 v1 v2 v3 v4 : Value}  {I1 : It} {h1 : Ht} (S : Site own y pc nx y2 ci 5) (hdd : d2 + 1 ≤ d) (hst : (st.map fun v => v.category).sum ≤ 8) (hrc : ∀ c, ci = some c → ∃ b As, ([v0, v1, v2, v3, v4] : List Value) = .ref b :: As ∧ b < hn h ∧ (hs h b).1 = c) (hk : k ≤ mc) (hms : n ≤ ms) (hC : Con G d2 0 0 y2 [v0, v1, v2, v3, v4] I h (rV I1 h1)) (kk : GG G d mc ms X P nx lo st I1 h1 k n) : GG G d mc ms X P pc lo (v4 :: v3 :: v2 :: v1 :: v0 :: st) I h k n :=
  g_c5 hX S hdd hst hrc hk hms hC (fun r I' h' hq => by obtain ⟨rfl, rfl, rfl⟩ := hq; exact kk)
theorem g_c5R (hX : Xok G own y X) {y2 : Mt} {ci : Option Nat} {d2 : Nat} {v0 v1 v2 v3 v4 : Value}  {x : Option Nat} {I1 : It} {h1 : Ht} (S : Site own y pc nx y2 ci 5) (hdd : d2 + 1 ≤ d) (hst : (st.map fun v => v.category).sum ≤ 8) (hrc : ∀ c, ci = some c → ∃ b As, ([v0, v1, v2, v3, v4] : List Value) = .ref b :: As ∧ b < hn h ∧ (hs h b).1 = c) (hk : k ≤ mc) (hms : n ≤ ms) (hC : Con G d2 0 0 y2 [v0, v1, v2, v3, v4] I h (rR x I1 h1)) (kk : GG G d mc ms X P nx lo (rv x :: st) I1 h1 k n) : GG G d mc ms X P pc lo (v4 :: v3 :: v2 :: v1 :: v0 :: st) I h k n :=
  g_c5 hX S hdd hst hrc hk hms hC (fun r I' h' hq => by obtain ⟨rfl, rfl, rfl⟩ := hq; exact kk)
theorem g_c5q (hX : Xok G own y X) {y2 : Mt} {ci : Option Nat} {d2 : Nat} {v0 v1 v2 v3 v4 : Value}  {f : Int32 → It → Ht → Prop} (S : Site own y pc nx y2 ci 5) (hdd : d2 + 1 ≤ d) (hst : (st.map fun v => v.category).sum ≤ 8) (hrc : ∀ c, ci = some c → ∃ b As, ([v0, v1, v2, v3, v4] : List Value) = .ref b :: As ∧ b < hn h ∧ (hs h b).1 = c) (hk : k ≤ mc) (hms : n ≤ ms) (hC : Con G d2 0 0 y2 [v0, v1, v2, v3, v4] I h (qI f)) (kk : ∀ x I' h', f x I' h' → GG G d mc ms X P nx lo (.int x :: st) I' h' k n) : GG G d mc ms X P pc lo (v4 :: v3 :: v2 :: v1 :: v0 :: st) I h k n :=
  g_c5 hX S hdd hst hrc hk hms hC (fun r I' h' hq => by obtain ⟨x, rfl, hf⟩ := hq; exact kk x I' h' hf)
theorem g_c5v (hX : Xok G own y X) {y2 : Mt} {ci : Option Nat} {d2 : Nat} {v0 v1 v2 v3 v4 : Value}  {f : It → Ht → Prop} (S : Site own y pc nx y2 ci 5) (hdd : d2 + 1 ≤ d) (hst : (st.map fun v => v.category).sum ≤ 8) (hrc : ∀ c, ci = some c → ∃ b As, ([v0, v1, v2, v3, v4] : List Value) = .ref b :: As ∧ b < hn h ∧ (hs h b).1 = c) (hk : k ≤ mc) (hms : n ≤ ms) (hC : Con G d2 0 0 y2 [v0, v1, v2, v3, v4] I h (qV f)) (kk : ∀ I' h', f I' h' → GG G d mc ms X P nx lo st I' h' k n) : GG G d mc ms X P pc lo (v4 :: v3 :: v2 :: v1 :: v0 :: st) I h k n :=
  g_c5 hX S hdd hst hrc hk hms hC (fun r I' h' hq => by obtain ⟨rfl, hf⟩ := hq; exact kk I' h' hf)
theorem g_c6 (hX : Xok G own y X) {y2 : Mt} {ci : Option Nat} {d2 mc2 ms2 : Nat} {v0 v1 v2 v3 v4 v5 : Value}  {Q : Pt3} (S : Site own y pc nx y2 ci 6) (hdd : d2 + 1 ≤ d) (hst : (st.map fun v => v.category).sum ≤ 8) (hrc : ∀ c, ci = some c → ∃ b As, ([v0, v1, v2, v3, v4, v5] : List Value) = .ref b :: As ∧ b < hn h ∧ (hs h b).1 = c) (hk : k + mc2 ≤ mc) (hms : n + ms2 ≤ ms) (hC : Con G d2 mc2 ms2 y2 [v0, v1, v2, v3, v4, v5] I h Q) (kk : ∀ r I' h', Q r I' h' → GG G d mc ms X P nx lo (r.toList ++ st) I' h' (k + mc2) (n + ms2)) : GG G d mc ms X P pc lo (v5 :: v4 :: v3 :: v2 :: v1 :: v0 :: st) I h k n :=
  S G d mc ms X P lo st I h k n d2 mc2 ms2 [v0, v1, v2, v3, v4, v5] Q hX hdd hk hms hst rfl hrc hC kk
theorem g_c6I (hX : Xok G own y X) {y2 : Mt} {ci : Option Nat} {d2 : Nat} {v0 v1 v2 v3 v4 v5 : Value}  {x : Int32} {I1 : It} {h1 : Ht} (S : Site own y pc nx y2 ci 6) (hdd : d2 + 1 ≤ d) (hst : (st.map fun v => v.category).sum ≤ 8) (hrc : ∀ c, ci = some c → ∃ b As, ([v0, v1, v2, v3, v4, v5] : List Value) = .ref b :: As ∧ b < hn h ∧ (hs h b).1 = c) (hk : k ≤ mc) (hms : n ≤ ms) (hC : Con G d2 0 0 y2 [v0, v1, v2, v3, v4, v5] I h (rI x I1 h1)) (kk : GG G d mc ms X P nx lo (.int x :: st) I1 h1 k n) : GG G d mc ms X P pc lo (v5 :: v4 :: v3 :: v2 :: v1 :: v0 :: st) I h k n :=
  g_c6 hX S hdd hst hrc hk hms hC (fun r I' h' hq => by obtain ⟨rfl, rfl, rfl⟩ := hq; exact kk)
theorem g_c6L (hX : Xok G own y X) {y2 : Mt} {ci : Option Nat} {d2 : Nat} {v0 v1 v2 v3 v4 v5 : Value}  {x : Int64} {I1 : It} {h1 : Ht} (S : Site own y pc nx y2 ci 6) (hdd : d2 + 1 ≤ d) (hst : (st.map fun v => v.category).sum ≤ 8) (hrc : ∀ c, ci = some c → ∃ b As, ([v0, v1, v2, v3, v4, v5] : List Value) = .ref b :: As ∧ b < hn h ∧ (hs h b).1 = c) (hk : k ≤ mc) (hms : n ≤ ms) (hC : Con G d2 0 0 y2 [v0, v1, v2, v3, v4, v5] I h (rL x I1 h1)) (kk : GG G d mc ms X P nx lo (.long x :: st) I1 h1 k n) : GG G d mc ms X P pc lo (v5 :: v4 :: v3 :: v2 :: v1 :: v0 :: st) I h k n :=
  g_c6 hX S hdd hst hrc hk hms hC (fun r I' h' hq => by obtain ⟨rfl, rfl, rfl⟩ := hq; exact kk)
theorem g_c6V (hX : Xok G own y X) {y2 : Mt} {ci : Option Nat} {d2 : Nat} {v0 v1 v2 v3 v4 v5 : Value}  {I1 : It} {h1 : Ht} (S : Site own y pc nx y2 ci 6) (hdd : d2 + 1 ≤ d) (hst : (st.map fun v => v.category).sum ≤ 8) (hrc : ∀ c, ci = some c → ∃ b As, ([v0, v1, v2, v3, v4, v5] : List Value) = .ref b :: As ∧ b < hn h ∧ (hs h b).1 = c) (hk : k ≤ mc) (hms : n ≤ ms) (hC : Con G d2 0 0 y2 [v0, v1, v2, v3, v4, v5] I h (rV I1 h1)) (kk : GG G d mc ms X P nx lo st I1 h1 k n) : GG G d mc ms X P pc lo (v5 :: v4 :: v3 :: v2 :: v1 :: v0 :: st) I h k n :=
  g_c6 hX S hdd hst hrc hk hms hC (fun r I' h' hq => by obtain ⟨rfl, rfl, rfl⟩ := hq; exact kk)
theorem g_c6R (hX : Xok G own y X) {y2 : Mt} {ci : Option Nat} {d2 : Nat} {v0 v1 v2 v3 v4 v5 : Value}  {x : Option Nat} {I1 : It} {h1 : Ht} (S : Site own y pc nx y2 ci 6) (hdd : d2 + 1 ≤ d) (hst : (st.map fun v => v.category).sum ≤ 8) (hrc : ∀ c, ci = some c → ∃ b As, ([v0, v1, v2, v3, v4, v5] : List Value) = .ref b :: As ∧ b < hn h ∧ (hs h b).1 = c) (hk : k ≤ mc) (hms : n ≤ ms) (hC : Con G d2 0 0 y2 [v0, v1, v2, v3, v4, v5] I h (rR x I1 h1)) (kk : GG G d mc ms X P nx lo (rv x :: st) I1 h1 k n) : GG G d mc ms X P pc lo (v5 :: v4 :: v3 :: v2 :: v1 :: v0 :: st) I h k n :=
  g_c6 hX S hdd hst hrc hk hms hC (fun r I' h' hq => by obtain ⟨rfl, rfl, rfl⟩ := hq; exact kk)
theorem g_c6q (hX : Xok G own y X) {y2 : Mt} {ci : Option Nat} {d2 : Nat} {v0 v1 v2 v3 v4 v5 : Value}  {f : Int32 → It → Ht → Prop} (S : Site own y pc nx y2 ci 6) (hdd : d2 + 1 ≤ d) (hst : (st.map fun v => v.category).sum ≤ 8) (hrc : ∀ c, ci = some c → ∃ b As, ([v0, v1, v2, v3, v4, v5] : List Value) = .ref b :: As ∧ b < hn h ∧ (hs h b).1 = c) (hk : k ≤ mc) (hms : n ≤ ms) (hC : Con G d2 0 0 y2 [v0, v1, v2, v3, v4, v5] I h (qI f)) (kk : ∀ x I' h', f x I' h' → GG G d mc ms X P nx lo (.int x :: st) I' h' k n) : GG G d mc ms X P pc lo (v5 :: v4 :: v3 :: v2 :: v1 :: v0 :: st) I h k n :=
  g_c6 hX S hdd hst hrc hk hms hC (fun r I' h' hq => by obtain ⟨x, rfl, hf⟩ := hq; exact kk x I' h' hf)
theorem g_c6v (hX : Xok G own y X) {y2 : Mt} {ci : Option Nat} {d2 : Nat} {v0 v1 v2 v3 v4 v5 : Value}  {f : It → Ht → Prop} (S : Site own y pc nx y2 ci 6) (hdd : d2 + 1 ≤ d) (hst : (st.map fun v => v.category).sum ≤ 8) (hrc : ∀ c, ci = some c → ∃ b As, ([v0, v1, v2, v3, v4, v5] : List Value) = .ref b :: As ∧ b < hn h ∧ (hs h b).1 = c) (hk : k ≤ mc) (hms : n ≤ ms) (hC : Con G d2 0 0 y2 [v0, v1, v2, v3, v4, v5] I h (qV f)) (kk : ∀ I' h', f I' h' → GG G d mc ms X P nx lo st I' h' k n) : GG G d mc ms X P pc lo (v5 :: v4 :: v3 :: v2 :: v1 :: v0 :: st) I h k n :=
  g_c6 hX S hdd hst hrc hk hms hC (fun r I' h' hq => by obtain ⟨rfl, hf⟩ := hq; exact kk I' h' hf)
theorem g_c7 (hX : Xok G own y X) {y2 : Mt} {ci : Option Nat} {d2 mc2 ms2 : Nat} {v0 v1 v2 v3 v4 v5 v6 : Value}  {Q : Pt3} (S : Site own y pc nx y2 ci 7) (hdd : d2 + 1 ≤ d) (hst : (st.map fun v => v.category).sum ≤ 8) (hrc : ∀ c, ci = some c → ∃ b As, ([v0, v1, v2, v3, v4, v5, v6] : List Value) = .ref b :: As ∧ b < hn h ∧ (hs h b).1 = c) (hk : k + mc2 ≤ mc) (hms : n + ms2 ≤ ms) (hC : Con G d2 mc2 ms2 y2 [v0, v1, v2, v3, v4, v5, v6] I h Q) (kk : ∀ r I' h', Q r I' h' → GG G d mc ms X P nx lo (r.toList ++ st) I' h' (k + mc2) (n + ms2)) : GG G d mc ms X P pc lo (v6 :: v5 :: v4 :: v3 :: v2 :: v1 :: v0 :: st) I h k n :=
  S G d mc ms X P lo st I h k n d2 mc2 ms2 [v0, v1, v2, v3, v4, v5, v6] Q hX hdd hk hms hst rfl hrc hC kk
theorem g_c7I (hX : Xok G own y X) {y2 : Mt} {ci : Option Nat} {d2 : Nat} {v0 v1 v2 v3 v4 v5 v6 : Value}  {x : Int32} {I1 : It} {h1 : Ht} (S : Site own y pc nx y2 ci 7) (hdd : d2 + 1 ≤ d) (hst : (st.map fun v => v.category).sum ≤ 8) (hrc : ∀ c, ci = some c → ∃ b As, ([v0, v1, v2, v3, v4, v5, v6] : List Value) = .ref b :: As ∧ b < hn h ∧ (hs h b).1 = c) (hk : k ≤ mc) (hms : n ≤ ms) (hC : Con G d2 0 0 y2 [v0, v1, v2, v3, v4, v5, v6] I h (rI x I1 h1)) (kk : GG G d mc ms X P nx lo (.int x :: st) I1 h1 k n) : GG G d mc ms X P pc lo (v6 :: v5 :: v4 :: v3 :: v2 :: v1 :: v0 :: st) I h k n :=
  g_c7 hX S hdd hst hrc hk hms hC (fun r I' h' hq => by obtain ⟨rfl, rfl, rfl⟩ := hq; exact kk)
theorem g_c7L (hX : Xok G own y X) {y2 : Mt} {ci : Option Nat} {d2 : Nat} {v0 v1 v2 v3 v4 v5 v6 : Value}  {x : Int64} {I1 : It} {h1 : Ht} (S : Site own y pc nx y2 ci 7) (hdd : d2 + 1 ≤ d) (hst : (st.map fun v => v.category).sum ≤ 8) (hrc : ∀ c, ci = some c → ∃ b As, ([v0, v1, v2, v3, v4, v5, v6] : List Value) = .ref b :: As ∧ b < hn h ∧ (hs h b).1 = c) (hk : k ≤ mc) (hms : n ≤ ms) (hC : Con G d2 0 0 y2 [v0, v1, v2, v3, v4, v5, v6] I h (rL x I1 h1)) (kk : GG G d mc ms X P nx lo (.long x :: st) I1 h1 k n) : GG G d mc ms X P pc lo (v6 :: v5 :: v4 :: v3 :: v2 :: v1 :: v0 :: st) I h k n :=
  g_c7 hX S hdd hst hrc hk hms hC (fun r I' h' hq => by obtain ⟨rfl, rfl, rfl⟩ := hq; exact kk)
theorem g_c7V (hX : Xok G own y X) {y2 : Mt} {ci : Option Nat} {d2 : Nat} {v0 v1 v2 v3 v4 v5 v6 : Value}  {I1 : It} {h1 : Ht} (S : Site own y pc nx y2 ci 7) (hdd : d2 + 1 ≤ d) (hst : (st.map fun v => v.category).sum ≤ 8) (hrc : ∀ c, ci = some c → ∃ b As, ([v0, v1, v2, v3, v4, v5, v6] : List Value) = .ref b :: As ∧ b < hn h ∧ (hs h b).1 = c) (hk : k ≤ mc) (hms : n ≤ ms) (hC : Con G d2 0 0 y2 [v0, v1, v2, v3, v4, v5, v6] I h (rV I1 h1)) (kk : GG G d mc ms X P nx lo st I1 h1 k n) : GG G d mc ms X P pc lo (v6 :: v5 :: v4 :: v3 :: v2 :: v1 :: v0 :: st) I h k n :=
  g_c7 hX S hdd hst hrc hk hms hC (fun r I' h' hq => by obtain ⟨rfl, rfl, rfl⟩ := hq; exact kk)
theorem g_c7R (hX : Xok G own y X) {y2 : Mt} {ci : Option Nat} {d2 : Nat} {v0 v1 v2 v3 v4 v5 v6 : Value}  {x : Option Nat} {I1 : It} {h1 : Ht} (S : Site own y pc nx y2 ci 7) (hdd : d2 + 1 ≤ d) (hst : (st.map fun v => v.category).sum ≤ 8) (hrc : ∀ c, ci = some c → ∃ b As, ([v0, v1, v2, v3, v4, v5, v6] : List Value) = .ref b :: As ∧ b < hn h ∧ (hs h b).1 = c) (hk : k ≤ mc) (hms : n ≤ ms) (hC : Con G d2 0 0 y2 [v0, v1, v2, v3, v4, v5, v6] I h (rR x I1 h1)) (kk : GG G d mc ms X P nx lo (rv x :: st) I1 h1 k n) : GG G d mc ms X P pc lo (v6 :: v5 :: v4 :: v3 :: v2 :: v1 :: v0 :: st) I h k n :=
  g_c7 hX S hdd hst hrc hk hms hC (fun r I' h' hq => by obtain ⟨rfl, rfl, rfl⟩ := hq; exact kk)
theorem g_c7q (hX : Xok G own y X) {y2 : Mt} {ci : Option Nat} {d2 : Nat} {v0 v1 v2 v3 v4 v5 v6 : Value}  {f : Int32 → It → Ht → Prop} (S : Site own y pc nx y2 ci 7) (hdd : d2 + 1 ≤ d) (hst : (st.map fun v => v.category).sum ≤ 8) (hrc : ∀ c, ci = some c → ∃ b As, ([v0, v1, v2, v3, v4, v5, v6] : List Value) = .ref b :: As ∧ b < hn h ∧ (hs h b).1 = c) (hk : k ≤ mc) (hms : n ≤ ms) (hC : Con G d2 0 0 y2 [v0, v1, v2, v3, v4, v5, v6] I h (qI f)) (kk : ∀ x I' h', f x I' h' → GG G d mc ms X P nx lo (.int x :: st) I' h' k n) : GG G d mc ms X P pc lo (v6 :: v5 :: v4 :: v3 :: v2 :: v1 :: v0 :: st) I h k n :=
  g_c7 hX S hdd hst hrc hk hms hC (fun r I' h' hq => by obtain ⟨x, rfl, hf⟩ := hq; exact kk x I' h' hf)
theorem g_c7v (hX : Xok G own y X) {y2 : Mt} {ci : Option Nat} {d2 : Nat} {v0 v1 v2 v3 v4 v5 v6 : Value}  {f : It → Ht → Prop} (S : Site own y pc nx y2 ci 7) (hdd : d2 + 1 ≤ d) (hst : (st.map fun v => v.category).sum ≤ 8) (hrc : ∀ c, ci = some c → ∃ b As, ([v0, v1, v2, v3, v4, v5, v6] : List Value) = .ref b :: As ∧ b < hn h ∧ (hs h b).1 = c) (hk : k ≤ mc) (hms : n ≤ ms) (hC : Con G d2 0 0 y2 [v0, v1, v2, v3, v4, v5, v6] I h (qV f)) (kk : ∀ I' h', f I' h' → GG G d mc ms X P nx lo st I' h' k n) : GG G d mc ms X P pc lo (v6 :: v5 :: v4 :: v3 :: v2 :: v1 :: v0 :: st) I h k n :=
  g_c7 hX S hdd hst hrc hk hms hC (fun r I' h' hq => by obtain ⟨rfl, hf⟩ := hq; exact kk I' h' hf)
theorem g_ifb_eq (hX : Xok G own y X) {p : Prop} [Decidable p] {off : Int} {tgt : Nat} (hd : dc y.2.1 pc (.ifCond .eq off) 3 nx) (ht : (pc : Int) + off = (tgt : Int)) (kt : ¬ p → GG G d mc ms X P tgt lo st I h k n) (kf : p → GG G d mc ms X P nx lo st I h k n) : GG G d mc ms X P pc lo (.int (bI p) :: st) I h k n :=
  g_if_eq hX hd ht (fun e => kt (bI_0.mp e)) (fun e => kf (bI_n.mp e))
theorem g_ifb_ne (hX : Xok G own y X) {p : Prop} [Decidable p] {off : Int} {tgt : Nat} (hd : dc y.2.1 pc (.ifCond .ne off) 3 nx) (ht : (pc : Int) + off = (tgt : Int)) (kt : p → GG G d mc ms X P tgt lo st I h k n) (kf : ¬ p → GG G d mc ms X P nx lo st I h k n) : GG G d mc ms X P pc lo (.int (bI p) :: st) I h k n :=
  g_if_ne hX hd ht (fun e => kt (bI_n.mp e)) (fun e => kf (bI_0.mp e))
def lle (a b : List (Option Value)) : Prop := match a, b with
  | [], _ => True
  | none :: t, [] => lle t []
  | none :: t, _ :: u => lle t u
  | some _ :: _, [] => False
  | some v :: t, w :: u => w = some v ∧ lle t u
theorem lle_at : ∀ (a b : List (Option Value)), lle a b → ∀ (i : Nat) (v : Value), a[i]? = some (some v) → b[i]? = some (some v) := by
  intro a
  induction a with
  | nil => intro b _ i v h; simp at h
  | cons x t ih =>
    intro b hl i v h
    cases x with
    | none =>
      cases i with
      | zero => simp at h
      | succ i =>
        cases b with
        | nil => have := ih [] hl i v (by simpa using h); simp at this
        | cons y u => simpa using ih u hl i v (by simpa using h)
    | some z =>
      cases b with
      | nil => exact hl.elim
      | cons y u =>
        cases i with
        | zero =>
          simp at h
          subst h
          simp [hl.1]
        | succ i => simpa using ih u hl.2 i v (by simpa using h)
theorem g_fgt {lo2 : List (Option Value)} (kk : GG G d mc ms X P pc lo2 st I h k n) (hl : lle lo2 lo) : GG G d mc ms X P pc lo st I h k n := by
  obtain ⟨p, l, e, s, m, args, below, meth, c⟩ := X
  intro H locs ls hlv hW hS
  refine kk H locs ls (lv_fewer hlv fun q hq => ?_) hW hS
  obtain ⟨j, v, h1, rfl⟩ := (lpr_mem _ _ _).mp hq
  exact (lpr_mem _ _ _).mpr ⟨j, v, lle_at _ _ hl j v h1, rfl⟩
end FM
theorem pl_X0 : plainName RX0 = true := by decide +kernel
theorem pl_X1 : plainName RX1 = true := by decide +kernel
theorem pl_X2 : plainName RX2 = true := by decide +kernel
theorem pl_X3 : plainName RX3 = true := by decide +kernel
theorem pl_X4 : plainName RX4 = true := by decide +kernel
theorem pl_X5 : plainName RX5 = true := by decide +kernel
theorem pl_X6 : plainName RX6 = true := by decide +kernel
theorem pl_X7 : plainName RX7 = true := by decide +kernel
theorem pl_X8 : plainName RX8 = true := by decide +kernel
theorem pl_X9 : plainName RX9 = true := by decide +kernel
theorem pl_X10 : plainName RX10 = true := by decide +kernel
theorem pl_X11 : plainName RX11 = true := by decide +kernel
theorem pl_X12 : plainName RX12 = true := by decide +kernel
def SML : List (Nat × Nat) := [(12, 0), (20, 10), (20, 10), (20, 10), (20, 10), (20, 10), (20, 10), (20, 10), (20, 4), (20, 100), (20, 6), (20, 60), (20, 60), (20, 60), (20, 60), (20, 600), (20, 101), (20, 15), (23, 100), (20, 40), (23, 1000), (20, 4), (20, 4), (20, 12), (20, 12), (20, 10), (20, 10), (20, 10), (20, 10), (20, 10), (20, 10), (20, 10), (20, 4), (20, 12), (20, 12), (20, 20), (20, 6), (20, 6), (21, 360), (21, 60)]
def RML : List (Option Nat) := [none, none, none, none, none, none, none, some 1, some 2, some 3, some 4, some 5, some 6, some 7, some 8, none, none, none, none, none, some 9, some 10, some 11, some 12, some 13, some 14, some 15, some 16, none, none, none, some 17, some 18, some 19, none, none, none, none, none, none, none, some 20, some 21, some 22, none, some 23, some 24, none, none, none, none, none, none, none, none, none, none, some 25, some 26, some 27, some 28, some 29, some 30, some 31, some 32, some 33, some 34, none, some 35, some 36, some 37, some 38, some 39]
/-- the model's cells: the object 0, its arrays 1 .. 39, in the order of its fields -/
def HM (h : Ht) : Prop := hn h = 40 ∧ (∀ q, q < 40 → hs h q = SML.getD q (0, 0)) ∧ ∀ j, j < 73 → hR h 0 j = RML.getD j none
theorem MLt {h : Ht} (hM : HM h) {q : Nat} (hq : q < 40) : q < hn h := by rw [hM.1]; exact hq
theorem MC {h : Ht} (hM : HM h) : (hs h 0).1 = 12 := by rw [hM.2.1 0 (by decide)]; rfl
theorem MS {h : Ht} (hM : HM h) (q : Nat) {x : Nat × Nat} (hq : q < 40) (e : SML.getD q (0, 0) = x) : hs h q = x := by rw [hM.2.1 q hq, e]
theorem MR {h : Ht} (hM : HM h) (j : Nat) {x : Option Nat} (hj : j < 73) (e : RML.getD j none = x) : hR h 0 j = x := by rw [hM.2.2 j hj, e]
theorem HMw {h : Ht} (hM : HM h) {q j : Nat} {x : Int64} : HM (wL h q j x) := hM
end
section
/-! sigma: a picture E of the reference's lasting cells -/
theorem le_nlt (a b : Int32) : a ≤ b ↔ ¬ b < a := Int32.not_lt.symm
def bitI (k : Int32) : Int32 := (1 : Int32) <<< (k &&& 31)
def withI (s k z : Int32) : Int32 := if z = 0 then s &&& (bitI k ^^^ (-1)) else s ||| bitI k
def hasI (s k : Int32) : Int32 := (s >>> (k &&& 31)) &&& 1
def pfL : List Nat := [0, 1, 2, 3, 4, 5, 6, 15, 16, 17, 44, 47, 48, 49, 50, 51, 52, 53, 54, 55, 56, 67]
def pcL : List Nat := [1, 2, 3, 4, 5, 6, 7, 8, 9, 23, 24, 25, 26, 27, 28, 29, 30, 31, 32, 33, 34, 35, 36, 37]
def lettersL : List Int32 := [115, 97, 121, 99, 111, 115, 116, 99, 97, 108, 108, 102, 97, 100, 101]
def nP (E : It) : Nat := tN (E 0 15)
/-- the reference's memory shows E, but for the field list F and the cell list C -/
def RMx (F C : List Nat) (E I : It) : Prop :=
  (∀ j, j ∈ pfL → j ∉ F → I 0 j = E 0 j) ∧ (∀ a, a ∈ pcL → a ∉ C → I a = E a) ∧
  (∀ j, j < nP E → I 10 j = E 10 j) ∧ (∀ j, j < 10 * nP E → I 11 j = E 11 j ∧ I 12 j = E 12 j ∧ I 13 j = E 13 j ∧ I 14 j = E 14 j) ∧ (∀ j, j < 100 * nP E → I 15 j = E 15 j) ∧
  ∀ j, j < 15 → I 17 j = lettersL.getD j 0
abbrev RM (E I : It) : Prop := RMx [] [] E I
theorem RM.f {E I : It} {F C : List Nat} (h : RMx F C E I) (j : Nat) (hj : j ∈ pfL) (hF : j ∉ F) : I 0 j = E 0 j := h.1 j hj hF
theorem RM.c {E I : It} {F C : List Nat} (h : RMx F C E I) (a : Nat) (ha : a ∈ pcL) (hC : a ∉ C) : I a = E a := h.2.1 a ha hC
theorem RM.c1 {E I : It} {F C : List Nat} (h : RMx F C E I) (a j : Nat) (ha : a ∈ pcL) (hC : a ∉ C) : I a j = E a j := congrFun (h.2.1 a ha hC) j
/-- what a method may have written: fields F of the object, cells C -/
def Fr (F C : List Nat) (I I' : It) : Prop := (∀ j, j ∉ F → I' 0 j = I 0 j) ∧ ∀ a, a ≠ 0 → a ∉ C → I' a = I a
theorem Fr.rf {F C : List Nat} {I : It} : Fr F C I I := ⟨fun _ _ => rfl, fun _ _ _ => rfl⟩
theorem Fr.trans {F C : List Nat} {I J K : It} (h1 : Fr F C I J) (h2 : Fr F C J K) : Fr F C I K := ⟨fun j hj => (h2.1 j hj).trans (h1.1 j hj), fun a h0 ha => (h2.2 a h0 ha).trans (h1.2 a h0 ha)⟩
theorem Fr.mono {F C F' C' : List Nat} {I J : It} (h : Fr F C I J) (hF : ∀ j, j ∈ F → j ∈ F') (hC : ∀ a, a ∈ C → a ∈ C') : Fr F' C' I J := ⟨fun j hj => h.1 j (fun z => hj (hF j z)), fun a h0 ha => h.2 a h0 (fun z => ha (hC a z))⟩
theorem Fr.pf {F C : List Nat} {I J : It} (h : Fr F C I J) {j : Nat} {x : Int32} (hj : j ∈ F) : Fr F C I (upI J 0 j x) :=
  ⟨fun b hb => by
    have hne : b ≠ j := fun z => hb (by rw [z]; exact hj)
    show (if 0 = 0 ∧ b = j then x else J 0 b) = I 0 b
    rw [if_neg (fun z => hne z.2)]
    exact h.1 b hb, fun a h0 ha => by rw [upI_off h0]; exact h.2 a h0 ha⟩
theorem Fr.pc {F C : List Nat} {I J : It} (h : Fr F C I J) {q j : Nat} {x : Int32} (h0 : q ≠ 0) (hq : q ∈ C) : Fr F C I (upI J q j x) :=
  ⟨fun b hb => by rw [upI_off (Ne.symm h0)]; exact h.1 b hb, fun a h0 ha => by
    have hne : a ≠ q := fun z => ha (by rw [z]; exact hq)
    rw [upI_off hne]; exact h.2 a h0 ha⟩
def disj (a b : List Nat) : Bool := a.all fun x => !b.contains x
theorem disj_no {a b : List Nat} (h : disj a b = true) {x : Nat} (ha : x ∈ a) : x ∉ b := by
  have := List.all_eq_true.mp h x ha
  simpa using this
/-- scratch writes keep the picture -/
theorem RM.keep {E I J : It} {F C F' C' : List Nat} (h : RMx F C E I) (hf : Fr F' C' I J) (h1 : disj pfL F' = true) (h2 : disj pcL C' = true) (h3 : disj [10, 11, 12, 13, 14, 15, 17] C' = true) : RMx F C E J := by
  obtain ⟨a1, a2, a3, a4, a5, a6⟩ := h
  obtain ⟨f1, f2⟩ := hf
  have g : ∀ a, a ∈ [10, 11, 12, 13, 14, 15, 17] → J a = I a := fun a ha => f2 a (by rintro rfl; revert ha; decide) (disj_no h3 ha)
  refine ⟨fun j hj hF => (f1 j (disj_no h1 hj)).trans (a1 j hj hF), fun a ha hC => (f2 a (by rintro rfl; revert ha; decide) (disj_no h2 ha)).trans (a2 a ha hC), ?_, ?_, ?_, ?_⟩
  · intro j hj; rw [g 10 (by decide)]; exact a3 j hj
  · intro j hj; rw [g 11 (by decide), g 12 (by decide), g 13 (by decide), g 14 (by decide)]; exact a4 j hj
  · intro j hj; rw [g 15 (by decide)]; exact a5 j hj
  · intro j hj; rw [g 17 (by decide)]; exact a6 j hj
theorem up0 (I : It) (q j : Nat) (x : Int32) : upI I q j x q j = x := by simp [upI]
theorem upn {I : It} {q j a b : Nat} {x : Int32} (h : ¬ (a = q ∧ b = j)) : upI I q j x a b = I a b := if_neg h
/-! posts: the clauses that hold -/
def beg (E : It) : Nat := if E 0 16 < 0 then 0 else 10 * tN (E 0 16)
def ncl (E : It) : Nat := if E 0 16 < 0 then 0 else tN (E 10 (tN (E 0 16)))
def lastF (E : It) (w : Int32) : Nat → Nat → Int32 → Int32 := fun k => match k with
  | 0 => fun _ n => n
  | k + 1 => fun c n => lastF E w k (c + 1) (if E 11 c = w then E 12 c else n)
def callF (E : It) : Int32 := lastF E 2 (ncl E) (beg E) 7
def fadeF (E : It) : Int32 := lastF E 3 (ncl E) (beg E) 1
def factF (E : It) (f : Int32) (i : Nat) (y w : Int32) : Int32 :=
  if f = 0 then nI i else if f = 1 then E 1 i else if f = 2 then E 3 i else if f = 3 then E 2 i else if f = 4 then E 5 i / 10 else if f = 5 then y else w
def remI (a b : Int32) : Int32 := a - a / b * b
def testF (E : It) (t : Int32) (i : Nat) (y w : Int32) : Bool :=
  if remI (t / 100) 10 = 0 then decide (factF E (t / 1000) i y w < remI t 100)
  else if remI (t / 100) 10 = 1 then decide (factF E (t / 1000) i y w = remI t 100)
  else decide (remI t 100 < factF E (t / 1000) i y w)
def stepR (E : It) (i : Nat) (y w : Int32) (t : Int32) (s : List Bool) : List Bool :=
  if t = -33 then (match s with
    | b :: r => (!b) :: r
    | [] => [])
  else if t < 0 then (match s with
    | b :: a :: r => (if t = -38 then a && b else a || b) :: r
    | _ => [])
  else testF E t i y w :: s
def evalR (E : It) (i : Nat) (y w : Int32) : Nat → Nat → List Bool → List Bool := fun k => match k with
  | 0 => fun _ s => s
  | k + 1 => fun c s => evalR E i y w k (c + 1) (stepR E i y w (E 15 c) s)
/-- how deep the pile is behind a code; none: it would fall through -/
def depR (t : Int32) (n : Nat) : Option Nat := if t = -33 then (if n = 0 then none else some n) else if t < 0 then (if n < 2 then none else some (n - 1)) else some (n + 1)
def wfR (E : It) : Nat → Nat → Nat → Bool := fun k => match k with
  | 0 => fun _ n => n == 1
  | k + 1 => fun c n => match depR (E 15 c) n with
    | none => false
    | some m => wfR E k (c + 1) m
/-- a clause c of a post: its word, number, and where its E stands, if it has one -/
def clOk (E : It) (p c : Nat) : Prop :=
  (E 11 c = 0 ∨ E 11 c = 1 ∨ E 11 c = 2 ∨ E 11 c = 3) ∧ (∃ v, v ≤ 99 ∧ E 12 c = nI v) ∧
  ((E 11 c = 0 ∨ E 11 c = 1) → ∃ a b, E 13 c = nI a ∧ E 14 c = nI b ∧ 100 * p ≤ a ∧ a ≤ b ∧ b ≤ 100 * p + 100 ∧ wfR E (b - a) a 0 = true ∧ ∀ j, a ≤ j → j < b → ∃ t, t ≤ 6299 ∧ (E 15 j = nI t ∨ E 15 j = -33 ∨ E 15 j = -38 ∨ E 15 j = -124))
def clLen (E : It) (c : Nat) : Nat := tN (E 14 c) - tN (E 13 c)
def holdsF (E : It) (c i : Nat) (y w : Int32) : Bool := (evalR E i y w (clLen E c) (tN (E 13 c)) []).headD false
def sumF (E : It) (what : Int32) (i : Nat) (y w : Int32) : Nat → Nat → Int32 → Int32 := fun k => match k with
  | 0 => fun _ s => s
  | k + 1 => fun c s => sumF E what i y w k (c + 1) (s + (if E 11 c = what ∧ holdsF E c i y w = true then E 12 c else 0))
def sumP (E : It) (what : Int32) (i : Nat) (y w : Int32) : Int32 := sumF E what i y w (ncl E) (beg E) 0
def dearF (E : It) (i : Nat) (w : Int32) : Int32 := E 5 i + sumP E 1 i 9 (remI w 60)
def sayF (E : It) (i : Nat) (y : Int32) : Int32 := sumP E 0 i y 0
/-! what holds of E -/
def cnt (E : It) : Nat := tN (E 0 0)
def wk (E : It) : Nat := tN (E 0 1)
def dOk (kd v rd pl co ne od : Nat → Int32) (d : Nat) : Prop :=
  (∃ x, x ≤ 6 ∧ kd d = nI x) ∧ (∃ x, x ≤ 9 ∧ v d = nI x) ∧ (∃ x, 1 ≤ x ∧ x ≤ 60 ∧ rd d = nI x ∧ ∃ z, z < x ∧ pl d = nI z) ∧ (∃ x, x ≤ 99 ∧ co d = nI x) ∧ (∃ x, x ≤ 99 ∧ ne d = nI x) ∧ ∃ x, x ≤ 10 ∧ od d = nI x
/-- what the picture (the lasting part, or THE IMAGE) has of DOINGS, hours, weeks, the LIST, the post -/
def partOk (n w the rows kn idl : Int32) (kd v rd pl co ne od hr rw rdd : Nat → Int32) (p : Nat) : Prop :=
  (∃ x, x ≤ 10 ∧ n = nI x ∧ ∀ d, d < x → dOk kd v rd pl co ne od d) ∧ (∃ x, x ≤ 9999 ∧ w = nI x) ∧ (the = -1 ∨ ∃ x, x < p ∧ the = nI x) ∧ (∃ x, x ≤ 12 ∧ rows = nI x) ∧
  (∀ y, y < 4 → ∃ x, x ≤ 9 ∧ hr y = nI x) ∧ (∀ k, k < 12 → ∃ x z, x ≤ 99 ∧ z ≤ 9 ∧ rw k = nI x ∧ rdd k = nI z) ∧ (∃ m, m < 2 ^ tN n ∧ kn = nI m) ∧ ∃ m, m < 2 ^ tN n ∧ idl = nI m
def Inv (E : It) : Prop :=
  partOk (E 0 0) (E 0 1) (E 0 16) (E 0 44) (E 0 5) (E 0 6) (E 1) (E 2) (E 3) (E 4) (E 5) (E 6) (E 7) (E 8) (E 23) (E 24) (nP E) ∧
  (E 0 47 = 0 ∨ E 0 47 = 1 ∧ partOk (E 0 49) (E 0 50) (E 0 48) (E 0 56) (E 0 54) (E 0 55) (E 25) (E 26) (E 27) (E 28) (E 29) (E 30) (E 31) (E 32) (E 33) (E 34) (nP E)) ∧
  (E 0 15 = nI (nP E) ∧ nP E ≤ 6) ∧ (∀ p, p < nP E → ∃ x, 1 ≤ x ∧ x ≤ 10 ∧ E 10 p = nI x ∧ ∀ c, c < x → clOk E p (10 * p + c)) ∧
  (∃ f, f ≤ 100 ∧ E 0 17 = nI f ∧ ∀ j, j < f → ∃ s, s ≤ 127 ∧ E 9 j = nI s) ∧ (∃ x, x ≤ 100 ∧ E 0 67 = nI x) ∧
  ∀ t, t < 6 → (E 36 t = -1 ∧ E 37 t = 0) ∨ ∃ s l, s ≤ 4 ∧ l ≤ 60 ∧ E 36 t = nI s ∧ E 37 t = nI l
/-! the part of the picture that doings, weeks and posts are -/
def Ag (E I : It) : Prop :=
  (I 0 0 = E 0 0 ∧ I 0 1 = E 0 1 ∧ I 0 16 = E 0 16) ∧ (∀ a, a ∈ [1, 2, 3, 4, 5, 6] → I a = E a) ∧
  (∀ j, j < nP E → I 10 j = E 10 j) ∧ (∀ j, j < 10 * nP E → I 11 j = E 11 j ∧ I 12 j = E 12 j ∧ I 13 j = E 13 j ∧ I 14 j = E 14 j) ∧ (∀ j, j < 100 * nP E → I 15 j = E 15 j)
theorem Ag.of {E I : It} {F C : List Nat} (h : RMx F C E I) (hF : disj [0, 1, 16] F = true) (hC : disj [1, 2, 3, 4, 5, 6] C = true) : Ag E I :=
  ⟨⟨h.1 0 (by decide) (disj_no hF (by decide)), h.1 1 (by decide) (disj_no hF (by decide)), h.1 16 (by decide) (disj_no hF (by decide))⟩, fun a ha => h.2.1 a (by revert a; decide) (disj_no hC ha), h.2.2.1, h.2.2.2.1, h.2.2.2.2.1⟩
theorem Ag.keep {E I J : It} {F C : List Nat} (h : Ag E I) (hf : Fr F C I J) (h1 : disj [0, 1, 16] F = true) (h2 : disj [1, 2, 3, 4, 5, 6, 10, 11, 12, 13, 14, 15] C = true) : Ag E J := by
  obtain ⟨⟨a0, a1, a2⟩, a3, a4, a5, a6⟩ := h
  obtain ⟨f1, f2⟩ := hf
  have g : ∀ a, a ∈ [1, 2, 3, 4, 5, 6, 10, 11, 12, 13, 14, 15] → J a = I a := fun a ha => f2 a (by rintro rfl; revert ha; decide) (disj_no h2 ha)
  refine ⟨⟨(f1 0 (disj_no h1 (by decide))).trans a0, (f1 1 (disj_no h1 (by decide))).trans a1, (f1 16 (disj_no h1 (by decide))).trans a2⟩, fun a ha => (g a (by revert a; decide)).trans (a3 a ha), ?_, ?_, ?_⟩
  · intro j hj; rw [g 10 (by decide)]; exact a4 j hj
  · intro j hj; rw [g 11 (by decide), g 12 (by decide), g 13 (by decide), g 14 (by decide)]; exact a5 j hj
  · intro j hj; rw [g 15 (by decide)]; exact a6 j hj
theorem inv_the {E : It} (h : Inv E) : (E 0 16 = -1 ∧ beg E = 0 ∧ ncl E = 0) ∨ ∃ x c, x < nP E ∧ x < 6 ∧ E 0 16 = nI x ∧ 1 ≤ c ∧ c ≤ 10 ∧ E 10 x = nI c ∧ beg E = 10 * x ∧ ncl E = c ∧ ∀ j, j < c → clOk E x (10 * x + j) := by
  obtain ⟨⟨-, -, h1, -⟩, -, ⟨h2, h3⟩, h4, -⟩ := h
  rcases h1 with h1 | ⟨x, hx, h1⟩
  · left
    refine ⟨h1, ?_, ?_⟩
    · unfold beg; rw [h1]; rfl
    · unfold ncl; rw [h1]; rfl
  · right
    obtain ⟨c, c1, c2, c3, c4⟩ := h4 x hx
    have hx6 : x < 6 := by omega
    have hn : ¬ nI x < 0 := nI_pos (by omega)
    refine ⟨x, c, hx, hx6, h1, c1, c2, c3, ?_, ?_, c4⟩
    · unfold beg; rw [h1, if_neg hn, tN_nI (by omega)]
    · unfold ncl; rw [h1, if_neg hn, tN_nI (by omega), c3, tN_nI (by omega)]
theorem beg_le {E : It} (h : Inv E) : beg E + ncl E ≤ 60 ∧ beg E + ncl E ≤ 10 * nP E := by
  have h3 := h.2.2.1.2
  rcases inv_the h with ⟨-, e1, e2⟩ | ⟨x, c, hx, hx6, -, c1, c2, -, e1, e2, -⟩
  · rw [e1, e2]; omega
  · rw [e1, e2]; omega
theorem lastF_s (E : It) (w : Int32) (k c : Nat) (n : Int32) : lastF E w (k + 1) c n = lastF E w k (c + 1) (if E 11 c = w then E 12 c else n) := rfl
theorem evalR_s (E : It) (i : Nat) (y w : Int32) (k c : Nat) (s : List Bool) : evalR E i y w (k + 1) c s = evalR E i y w k (c + 1) (stepR E i y w (E 15 c) s) := rfl
theorem sumF_s (E : It) (what : Int32) (i : Nat) (y w : Int32) (k c : Nat) (s : Int32) : sumF E what i y w (k + 1) c s = sumF E what i y w k (c + 1) (s + (if E 11 c = what ∧ holdsF E c i y w = true then E 12 c else 0)) := rfl
theorem wfR_s (E : It) (k c n : Nat) : wfR E (k + 1) c n = (match depR (E 15 c) n with
    | none => false
    | some m => wfR E k (c + 1) m) := rfl
def b2 (b : Bool) : Int32 := if b then 1 else 0
theorem b2_bI (b : Bool) : b2 b = bI (b = true) := by cases b <;> rfl
theorem b2_01 (b : Bool) : b2 b = 0 ∨ b2 b = 1 := by cases b <;> simp [b2]
/-- the pile in cell 18 holds s, its top first -/
def PR (J : It) (s : List Bool) : Prop := match s with
  | [] => True
  | b :: r => J 18 r.length = b2 b ∧ PR J r
theorem PR_up {J : It} {m : Nat} {x : Int32} : ∀ {s : List Bool}, PR J s → s.length ≤ m → PR (upI J 18 m x) s := by
  intro s
  induction s with
  | nil => intro _ _; trivial
  | cons b r ih =>
    intro h hm
    simp only [List.length_cons] at hm
    exact ⟨by rw [upn (by omega)]; exact h.1, ih h.2 (by omega)⟩
/-- an answer, and what may have been written -/
def qF (x : Int32) (F C : List Nat) (I : It) (h : Ht) : Pt3 := qI fun v I' h' => v = x ∧ Fr F C I I' ∧ h' = h
def qFv (F C : List Nat) (I : It) (h : Ht) : Pt3 := qV fun I' h' => Fr F C I I' ∧ h' = h
theorem qF_of {v x : Int32} {F C : List Nat} {I J : It} {h : Ht} (e : v = x) (hf : Fr F C I J) : qF x F C I h (some (.int v)) J h := ⟨v, rfl, e, hf, rfl⟩
theorem cl_of {E : It} (hE : Inv E) {c : Nat} (h1 : beg E ≤ c) (h2 : c < beg E + ncl E) : ∃ p, p < nP E ∧ c < 10 * nP E ∧ clOk E p c := by
  have hb := beg_le hE
  rcases inv_the hE with ⟨-, e1, e2⟩ | ⟨x, q, hx, hx6, -, q1, q2, -, e1, e2, hq⟩
  · omega
  · refine ⟨x, hx, by omega, ?_⟩
    have := hq (c - 10 * x) (by omega)
    rwa [show 10 * x + (c - 10 * x) = c by omega] at this
/-! weeks -/
def comesF (E : It) (i w : Nat) : Prop := remI (nI w) (E 3 i) = E 4 i
def learnsF (E : It) (i : Nat) : Prop := ((E 1 i = 3 ∨ E 1 i = 6) ∧ E 2 i = 0) ∨ ((E 1 i = 2 ∨ E 1 i = 5) ∧ 4 < E 2 i)
def dcL (E : It) (i : Nat) : Decidable (learnsF E i) := by unfold learnsF; exact inferInstance
abbrev WS : Type := Int32 × Int32 × Int32 × Int32 × Int32 × Int32 × Int32
/-- (calls of the week, knows, costs, stops, calls, first week, first doing) behind one DOING of a week -/
def wkStep (E : It) (idl : Int32) (w : Nat) (may : Int32) (i : Nat) (a : WS) : WS :=
  match a with
  | (had, kn, co, st, ca, fw, fd) =>
    if ¬ remI (nI w) (E 3 i) = E 4 i then a
    else if hasI idl (nI i) = 1 then (had, kn, co + (if hasI kn (nI i) = 1 then 1 else 0), st, ca, fw, fd)
    else if hasI kn (nI i) = 1 then a
    else if had < may then (had + 1, withI kn (nI i) (bI (E 1 i ≠ 6)), co + 1, st + 1, ca + 1, if fw < 0 then nI w else fw, if fw < 0 then nI i else fd)
    else (had, withI kn (nI i) (@bI (learnsF E i) (dcL E i)), co + dearF E i (nI w), st + 1, ca, if fw < 0 then nI w else fw, if fw < 0 then nI i else fd)
def wkRun (E : It) (idl : Int32) (w : Nat) (may : Int32) : Nat → Nat → WS → WS := fun k => match k with
  | 0 => fun _ a => a
  | k + 1 => fun i a => wkRun E idl w may k (i + 1) (wkStep E idl w may i a)
theorem wkRun_s (E : It) (idl : Int32) (w : Nat) (may : Int32) (k i : Nat) (a : WS) : wkRun E idl w may (k + 1) i a = wkRun E idl w may k (i + 1) (wkStep E idl w may i a) := rfl
/-- a week: nobody was called in it yet -/
def wkF (E : It) (idl : Int32) (w : Nat) (a : WS) : WS := match a with
  | (_, r) => wkRun E idl w (callF E - fadeF E * nI w) (cnt E) 0 (0, r)
def wksF (E : It) (idl : Int32) : Nat → Nat → WS → WS := fun k => match k with
  | 0 => fun _ a => a
  | k + 1 => fun w a => wksF E idl k (w + 1) (wkF E idl w a)
theorem wksF_s (E : It) (idl : Int32) (k w : Nat) (a : WS) : wksF E idl (k + 1) w a = wksF E idl k (w + 1) (wkF E idl w a) := rfl
/-- RUN of n weeks from such a known and needless on -/
def runF (E : It) (kn idl : Int32) (n : Nat) : WS := wksF E idl n (wk E) (0, kn, 0, 0, 0, -5, -5)
/-- the fields of the reference that a run is made in -/
def TS (J : It) (idl : Int32) (a : WS) : Prop := match a with
  | (_, kn, co, st, ca, fw, fd) => J 0 34 = kn ∧ J 0 35 = idl ∧ J 0 36 = co ∧ J 0 37 = st ∧ J 0 38 = ca ∧ J 0 39 = fw ∧ J 0 40 = fd
theorem TS.had {J : It} {idl : Int32} {a : WS} {z : Int32} (h : TS J idl a) : TS J idl (z, a.2) := h
theorem TS.kn {J : It} {idl had kn co st ca fw fd x : Int32} (h : TS J idl (had, kn, co, st, ca, fw, fd)) : TS (upI J 0 34 x) idl (had, x, co, st, ca, fw, fd) := ⟨up0 _ _ _ _, (upn (by decide)).trans h.2.1, (upn (by decide)).trans h.2.2.1, (upn (by decide)).trans h.2.2.2.1, (upn (by decide)).trans h.2.2.2.2.1, (upn (by decide)).trans h.2.2.2.2.2.1, (upn (by decide)).trans h.2.2.2.2.2.2⟩
theorem TS.co {J : It} {idl had kn co st ca fw fd x : Int32} (h : TS J idl (had, kn, co, st, ca, fw, fd)) : TS (upI J 0 36 x) idl (had, kn, x, st, ca, fw, fd) := ⟨(upn (by decide)).trans h.1, (upn (by decide)).trans h.2.1, up0 _ _ _ _, (upn (by decide)).trans h.2.2.2.1, (upn (by decide)).trans h.2.2.2.2.1, (upn (by decide)).trans h.2.2.2.2.2.1, (upn (by decide)).trans h.2.2.2.2.2.2⟩
theorem TS.st {J : It} {idl had kn co st ca fw fd x : Int32} (h : TS J idl (had, kn, co, st, ca, fw, fd)) : TS (upI J 0 37 x) idl (had, kn, co, x, ca, fw, fd) := ⟨(upn (by decide)).trans h.1, (upn (by decide)).trans h.2.1, (upn (by decide)).trans h.2.2.1, up0 _ _ _ _, (upn (by decide)).trans h.2.2.2.2.1, (upn (by decide)).trans h.2.2.2.2.2.1, (upn (by decide)).trans h.2.2.2.2.2.2⟩
theorem TS.ca {J : It} {idl had kn co st ca fw fd x : Int32} (h : TS J idl (had, kn, co, st, ca, fw, fd)) : TS (upI J 0 38 x) idl (had, kn, co, st, x, fw, fd) := ⟨(upn (by decide)).trans h.1, (upn (by decide)).trans h.2.1, (upn (by decide)).trans h.2.2.1, (upn (by decide)).trans h.2.2.2.1, up0 _ _ _ _, (upn (by decide)).trans h.2.2.2.2.2.1, (upn (by decide)).trans h.2.2.2.2.2.2⟩
theorem TS.fw {J : It} {idl had kn co st ca fw fd x : Int32} (h : TS J idl (had, kn, co, st, ca, fw, fd)) : TS (upI J 0 39 x) idl (had, kn, co, st, ca, x, fd) := ⟨(upn (by decide)).trans h.1, (upn (by decide)).trans h.2.1, (upn (by decide)).trans h.2.2.1, (upn (by decide)).trans h.2.2.2.1, (upn (by decide)).trans h.2.2.2.2.1, up0 _ _ _ _, (upn (by decide)).trans h.2.2.2.2.2.2⟩
theorem TS.fd {J : It} {idl had kn co st ca fw fd x : Int32} (h : TS J idl (had, kn, co, st, ca, fw, fd)) : TS (upI J 0 40 x) idl (had, kn, co, st, ca, fw, x) := ⟨(upn (by decide)).trans h.1, (upn (by decide)).trans h.2.1, (upn (by decide)).trans h.2.2.1, (upn (by decide)).trans h.2.2.2.1, (upn (by decide)).trans h.2.2.2.2.1, (upn (by decide)).trans h.2.2.2.2.2.1, up0 _ _ _ _⟩
theorem TS.off {J : It} {idl : Int32} {a : WS} {q j : Nat} {x : Int32} (h : TS J idl a) (hq : q ≠ 0) : TS (upI J q j x) idl a := by
  obtain ⟨had, kn, co, st, ca, fw, fd⟩ := a
  have e : upI J q j x 0 = J 0 := upI_off (Ne.symm hq)
  unfold TS
  rw [e]
  exact h
theorem TS.fr {J K : It} {idl : Int32} {a : WS} {F C : List Nat} (h : TS J idl a) (hf : Fr F C J K) (hF : disj [34, 35, 36, 37, 38, 39, 40] F = true) : TS K idl a := by
  obtain ⟨had, kn, co, st, ca, fw, fd⟩ := a
  obtain ⟨h1, h2, h3, h4, h5, h6, h7⟩ := h
  have g := fun j hj => hf.1 j (disj_no hF hj)
  exact ⟨(g 34 (by decide)).trans h1, (g 35 (by decide)).trans h2, (g 36 (by decide)).trans h3, (g 37 (by decide)).trans h4, (g 38 (by decide)).trans h5, (g 39 (by decide)).trans h6, (g 40 (by decide)).trans h7⟩
theorem inv_cnt {E : It} (hE : Inv E) : E 0 0 = nI (cnt E) ∧ cnt E ≤ 10 := by
  obtain ⟨x, hx, e, -⟩ := hE.1.1
  unfold cnt
  rw [e, tN_nI (by omega)]
  exact ⟨rfl, hx⟩
theorem inv_wk {E : It} (hE : Inv E) : E 0 1 = nI (wk E) ∧ wk E ≤ 9999 := by
  obtain ⟨x, hx, e⟩ := hE.1.2.1
  unfold wk
  rw [e, tN_nI (by omega)]
  exact ⟨rfl, hx⟩
theorem inv_d {E : It} (hE : Inv E) {d : Nat} (hd : d < cnt E) : dOk (E 1) (E 2) (E 3) (E 4) (E 5) (E 6) (E 7) d := by
  obtain ⟨x, hx, e, h⟩ := hE.1.1
  have : cnt E = x := by unfold cnt; rw [e, tN_nI (by omega)]
  exact h d (by omega)
/-! what is said over all ways -/
def allR (E : It) (hr : Nat → Int32) (d : Nat) : Nat → Nat → Int32 → Int32 := fun k => match k with
  | 0 => fun _ z => z
  | k + 1 => fun y z => allR E hr d k (y + 1) (z + hr y * sayF E d (nI y))
theorem allR_s (E : It) (hr : Nat → Int32) (d k y : Nat) (z : Int32) : allR E hr d (k + 1) y z = allR E hr d k (y + 1) (z + hr y * sayF E d (nI y)) := rfl
def allF (E : It) (hr : Nat → Int32) (d y : Nat) : Int32 := allR E hr d (4 - y) y 0
def saidF (E : It) (hr : Nat → Int32) (d : Nat) : Int32 :=
  if E 1 d = 1 then allF E hr d 0 + E 2 d * hr 0
  else if E 1 d = 2 then allF E hr d 2
  else if E 1 d = 3 then (if hr 3 = 0 then 0 else allF E hr d 0)
  else if E 1 d = 4 then allF E hr d 0 + E 2 d * hr 0 + (if 0 < hr 2 then E 2 d else 0)
  else if E 1 d = 5 then allF E hr d 2 + 2 * E 2 d * hr 1
  else if E 1 d = 6 then (if hr 3 = 0 then 0 else allF E hr d 0) - E 2 d
  else allF E hr d 0
def overR (E : It) (hr : Nat → Int32) : Nat → Nat → Int32 → Int32 := fun k => match k with
  | 0 => fun _ s => s
  | k + 1 => fun i s => overR E hr k (i + 1) (s ||| (if E 6 i ≤ saidF E hr i then bitI (nI i) else 0))
theorem overR_s (E : It) (hr : Nat → Int32) (k i : Nat) (s : Int32) : overR E hr (k + 1) i s = overR E hr k (i + 1) (s ||| (if E 6 i ≤ saidF E hr i then bitI (nI i) else 0)) := rfl
def overF (E : It) (hr : Nat → Int32) : Int32 := overR E hr (cnt E) 0 0
def costF (E : It) (kn idl : Int32) (n : Nat) : Int32 := (runF E kn idl n).2.2.1
/-- sayOf (cell 19) holds what is said of each DOING by each way -/
def SY (E J : It) : Prop := ∀ i, i < cnt E → ∀ y, y < 4 → J 19 (4 * i + y) = sayF E i (nI y)
theorem SY.fr {E J K : It} {F C : List Nat} (h : SY E J) (hf : Fr F C J K) (hC : 19 ∉ C) : SY E K := fun i hi y hy => by rw [hf.2 19 (by decide) hC]; exact h i hi y hy
theorem ct_end {c k e : Nat} (hk : c + k = e) (he : e ≤ 20000) (hc : nI e ≤ nI c) : k = 0 := by
  have := (nI_leI (by omega) (by omega)).mp hc
  omega
theorem ct_go {c k e : Nat} (hk : c + k = e) (he : e ≤ 20000) (hc : ¬ nI e ≤ nI c) : ∃ z, k = z + 1 := by
  cases k with
  | zero => exact absurd (nI_le (by omega) (by omega)) hc
  | succ z => exact ⟨z, rfl⟩
/-! how many bits, how many come, greatest divisor -/
def onesN (m : Nat) : Nat := (List.range 10).foldl (fun c i => c + m / 2 ^ i % 2) 0
set_option maxRecDepth 100000 in
theorem on_step : ∀ l, l < 1024 → l ≠ 0 → (nI l &&& (nI l - 1) = nI (l &&& (l - 1)) ∧ l &&& (l - 1) < l ∧ onesN l = onesN (l &&& (l - 1)) + 1) := by decide +kernel
theorem lg0 (x : Int64) : lg_cmp x 0 = 0 ↔ x = 0 := by
  unfold lg_cmp
  by_cases h1 : x > 0
  · rw [if_pos h1]
    constructor
    · intro h; exact absurd h (by decide)
    · intro h; subst h; exact absurd h1 (by decide)
  · rw [if_neg h1]
    by_cases h2 : x = 0
    · rw [if_pos h2]; simp [h2]
    · rw [if_neg h2]
      constructor
      · intro h; exact absurd h (by decide)
      · intro h; exact absurd h h2
def manyR (E : It) (w : Nat) : Nat → Nat → Int32 → Int32 := fun k => match k with
  | 0 => fun _ z => z
  | k + 1 => fun i z => manyR E w k (i + 1) (z + bI (remI (nI w) (E 3 i) = E 4 i))
theorem manyR_s (E : It) (w k i : Nat) (z : Int32) : manyR E w (k + 1) i z = manyR E w k (i + 1) (z + bI (remI (nI w) (E 3 i) = E 4 i)) := rfl
def manyF (E : It) (w : Nat) : Int32 := manyR E w (cnt E) 0 0
def allCR (E : It) (set : Int32) (w : Nat) : Nat → Nat → Bool := fun k => match k with
  | 0 => fun _ => true
  | k + 1 => fun i => if hasI set (nI i) = 1 ∧ ¬ remI (nI w) (E 3 i) = E 4 i then false else allCR E set w k (i + 1)
theorem allCR_s (E : It) (set : Int32) (w k i : Nat) : allCR E set w (k + 1) i = if hasI set (nI i) = 1 ∧ ¬ remI (nI w) (E 3 i) = E 4 i then false else allCR E set w k (i + 1) := rfl
def comInR (E : It) (d : Nat) : Nat → Nat → Bool := fun k => match k with
  | 0 => fun _ => false
  | k + 1 => fun w => if remI (nI w) (E 3 d) = E 4 d then true else comInR E d k (w + 1)
theorem comInR_s (E : It) (d k w : Nat) : comInR E d (k + 1) w = if remI (nI w) (E 3 d) = E 4 d then true else comInR E d k (w + 1) := rfl
/-! acts -/
def body1 (J : It) (b : Int32) : It := upI (if J 0 67 < 20 then upI J 35 (tN (J 0 67)) b else J) 0 67 (J 0 67 + 1)
def putB (J : It) : List Int32 → It := fun l => match l with
  | [] => J
  | b :: r => putB (body1 J b) r
theorem putB_app (J : It) (l m : List Int32) : putB (putB J l) m = putB J (l ++ m) := by
  induction l generalizing J with
  | nil => rfl
  | cons b r ih => exact ih (body1 J b)
theorem body1_ran (J : It) (b : Int32) {r : Nat} (h : J 0 67 = nI r) : body1 J b 0 67 = nI (r + 1) := by
  unfold body1
  rw [up0, h, nI_1]
theorem body1_fr (J : It) (b : Int32) : Fr [67] [35] J (body1 J b) := by
  unfold body1
  refine Fr.pf ?_ (by decide)
  split
  · exact Fr.rf.pc (by decide) (by decide)
  · exact Fr.rf
theorem putB_ran : ∀ (l : List Int32) (J : It) {r : Nat}, J 0 67 = nI r → putB J l 0 67 = nI (r + l.length) := by
  intro l
  induction l with
  | nil => intro J r h; exact h
  | cons b t ih =>
    intro J r h
    have := ih (body1 J b) (body1_ran J b h)
    rw [show r + (b :: t).length = r + 1 + t.length by simp only [List.length_cons]; omega]
    exact this
theorem putB_fr : ∀ (l : List Int32) (J : It), Fr [67] [35] J (putB J l) := by
  intro l
  induction l with
  | nil => intro J; exact Fr.rf
  | cons b t ih => intro J; exact (body1_fr J b).trans (ih _)
def saysV (E : It) (d : Nat) (x : Int32) : Int32 := if E 1 d = 2 ∨ E 1 d = 5 then x * 3 + nI d else if E 1 d = 4 then -(x + nI d) else if E 1 d = 6 then (x + nI d) ^^^ E 2 d else x + nI d
def saysB (E : It) (d : Nat) : List Int32 := if E 1 d = 2 ∨ E 1 d = 5 then [30, 10] else if E 1 d = 4 then [50, 10] else if E 1 d = 6 then [71, 10] else [10]
def khV (E : It) (d : Nat) (x : Int32) : Int32 := saysV E d x - E 2 d
def khB (E : It) (d : Nat) : List Int32 := 11 :: saysB E d
def holdsV (E : It) (d : Nat) (x : Int32) : Int32 := if E 1 d = 1 then khV E d x ^^^ 6 else if E 1 d = 4 then khV E d (x + 1) ^^^ 6 else if E 1 d = 6 then khV E d x + (2 + nI d) else khV E d x
def holdsB (E : It) (d : Nat) : List Int32 := if E 1 d = 1 then 20 :: khB E d else if E 1 d = 4 then 51 :: 20 :: khB E d else if E 1 d = 6 then 70 :: (khB E d ++ [10]) else khB E d
def ktV (E : It) (d : Nat) (x : Int32) : Int32 := holdsV E d x * 2
def ktB (E : It) (d : Nat) : List Int32 := 12 :: holdsB E d
def tellsV (E : It) (d : Nat) (x : Int32) : Int32 := if E 1 d = 3 ∨ E 1 d = 6 then ktV E d x + holdsV E d 1 else if E 1 d = 5 then ktV E d (x - nI d) else ktV E d x
def tellsB (E : It) (d : Nat) : List Int32 := if E 1 d = 3 ∨ E 1 d = 6 then 40 :: (ktB E d ++ holdsB E d) else if E 1 d = 5 then 60 :: ktB E d else ktB E d
theorem saysB_len (E : It) (d : Nat) : (saysB E d).length ≤ 2 := by unfold saysB; split <;> (try split) <;> (try split) <;> simp
theorem khB_len (E : It) (d : Nat) : (khB E d).length ≤ 3 := by have := saysB_len E d; unfold khB; simp only [List.length_cons]; omega
theorem holdsB_len (E : It) (d : Nat) : (holdsB E d).length ≤ 5 := by have := khB_len E d; unfold holdsB; split <;> (try split) <;> (try split) <;> (try simp only [List.length_cons, List.length_append, List.length_nil]) <;> omega
theorem ktB_len (E : It) (d : Nat) : (ktB E d).length ≤ 6 := by have := holdsB_len E d; unfold ktB; simp only [List.length_cons]; omega
theorem tellsB_len (E : It) (d : Nat) : (tellsB E d).length ≤ 12 := by have := holdsB_len E d; have := ktB_len E d; unfold tellsB; split <;> (try split) <;> (try simp only [List.length_cons, List.length_append]) <;> omega
end
section
set_option maxRecDepth 8000 in
set_option maxHeartbeats 4000000 in
theorem c_X12_in {G : Gt} (hG : Gok G) {I : It} {h : Ht}  {a b c : Int32} : Con G (1) 0 0 mX12_in [.ref 0, .int a, .int b, .int c] I h (rI (bI (b ≤ a ∧ a ≤ c)) I h) := by
  refine con_intro (own := RX12) (lo0 := [some (.ref 0), some (.int a), some (.int b), some (.int c)]) hG rfl pl_X12 (Nat.le_of_ble_eq_true rfl) rfl (fun X hX => ?_)
  refine g_iload_1 hX (dk DX12_in 0 rfl) ?_
  refine g_iload_2 hX (dk DX12_in 1 rfl) ?_
  refine g_icmp_lt (tgt := 14) hX (dk DX12_in 2 rfl) (by decide) (fun hc1 => ?_) (fun hc1 => ?_)
  · refine g_iconst (v := 0) hX (dk DX12_in 8 rfl) (by decide) ?_
    refine g_ireturn hX (dk DX12_in 9 rfl) rfl (by decide) (by decide) (by decide) ?_
    exact rI_of (by grind [bI]) rfl rfl
  · refine g_iload_1 hX (dk DX12_in 3 rfl) ?_
    refine g_iload_3 hX (dk DX12_in 4 rfl) ?_
    refine g_icmp_gt (tgt := 14) hX (dk DX12_in 5 rfl) (by decide) (fun hc2 => ?_) (fun hc2 => ?_)
    · refine g_iconst (v := 0) hX (dk DX12_in 8 rfl) (by decide) ?_
      refine g_ireturn hX (dk DX12_in 9 rfl) rfl (by decide) (by decide) (by decide) ?_
      exact rI_of (by grind [bI]) rfl rfl
    · refine g_iconst (v := 1) hX (dk DX12_in 6 rfl) (by decide) ?_
      refine g_goto (tgt := 15) hX (dk DX12_in 7 rfl) (by decide) ?_
      refine g_ireturn hX (dk DX12_in 9 rfl) rfl (by decide) (by decide) (by decide) ?_
      exact rI_of (by grind [bI]) rfl rfl

set_option maxRecDepth 8000 in
set_option maxHeartbeats 4000000 in
theorem c_X12_has {G : Gt} (hG : Gok G) {I : It} {h : Ht}  {a b : Int32} : Con G (1) 0 0 mX12_has [.ref 0, .int a, .int b] I h (rI (bI (hasI a b = 1)) I h) := by
  refine con_intro (own := RX12) (lo0 := [some (.ref 0), some (.int a), some (.int b)]) hG rfl pl_X12 (Nat.le_of_ble_eq_true rfl) rfl (fun X hX => ?_)
  refine g_iload_1 hX (dk DX12_has 0 rfl) ?_
  refine g_iload_2 hX (dk DX12_has 1 rfl) ?_
  refine g_ishr hX (dk DX12_has 2 rfl) ?_
  refine g_iconst (v := 1) hX (dk DX12_has 3 rfl) (by decide) ?_
  refine g_iand hX (dk DX12_has 4 rfl) ?_
  refine g_iconst (v := 1) hX (dk DX12_has 5 rfl) (by decide) ?_
  refine g_icmp_ne (tgt := 13) hX (dk DX12_has 6 rfl) (by decide) (fun hc1 => ?_) (fun hc1 => ?_)
  · refine g_iconst (v := 0) hX (dk DX12_has 9 rfl) (by decide) ?_
    refine g_ireturn hX (dk DX12_has 10 rfl) rfl (by decide) (by decide) (by decide) ?_
    exact rI_of (by grind [bI, hasI]) rfl rfl
  · refine g_iconst (v := 1) hX (dk DX12_has 7 rfl) (by decide) ?_
    refine g_goto (tgt := 14) hX (dk DX12_has 8 rfl) (by decide) ?_
    refine g_ireturn hX (dk DX12_has 10 rfl) rfl (by decide) (by decide) (by decide) ?_
    exact rI_of (by grind [bI, hasI]) rfl rfl

set_option maxRecDepth 8000 in
set_option maxHeartbeats 4000000 in
theorem c_X12_isDoing {G : Gt} (hG : Gok G) {I : It} {h : Ht} (hM : HM h) {a : Int32} : Con G (2) 0 0 mX12_isDoing [.ref 0, .int a] I h (rI (bI (0 ≤ a ∧ a ≤ I 0 0 - 1)) I h) := by
  refine con_intro (own := RX12) (lo0 := [some (.ref 0), some (.int a)]) hG rfl pl_X12 (Nat.le_of_ble_eq_true rfl) rfl (fun X hX => ?_)
  refine g_aload_0 hX (dk DX12_isDoing 0 rfl) ?_
  refine g_iload_1 hX (dk DX12_isDoing 1 rfl) ?_
  refine g_iconst (v := 0) hX (dk DX12_isDoing 2 rfl) (by decide) ?_
  refine g_aload_0 hX (dk DX12_isDoing 3 rfl) ?_
  refine g_getI hX (dk DX12_isDoing 4 rfl) KX12 fX12_7 (by decide) rfl (MLt hM (by decide)) (MC hM) ?_
  refine g_iconst (v := 1) hX (dk DX12_isDoing 5 rfl) (by decide) ?_
  refine g_isub hX (dk DX12_isDoing 6 rfl) ?_
  refine g_c4I hX sX12_isDoing_9 (by decide) (Nat.le_of_ble_eq_true rfl) (rc0 rfl (MLt hM (by decide)) (MC hM)) (by decide) (by decide) (c_X12_in hG ) ?_
  refine g_ireturn hX (dk DX12_isDoing 8 rfl) rfl (narB _) (by decide) (by decide) ?_
  exact rI_of rfl rfl rfl

set_option maxRecDepth 8000 in
set_option maxHeartbeats 4000000 in
theorem c_X12_isWay {G : Gt} (hG : Gok G) {I : It} {h : Ht} (hM : HM h) {a : Int32} : Con G (2) 0 0 mX12_isWay [.ref 0, .int a] I h (rI (bI (0 ≤ a ∧ a ≤ 3)) I h) := by
  refine con_intro (own := RX12) (lo0 := [some (.ref 0), some (.int a)]) hG rfl pl_X12 (Nat.le_of_ble_eq_true rfl) rfl (fun X hX => ?_)
  refine g_aload_0 hX (dk DX12_isWay 0 rfl) ?_
  refine g_iload_1 hX (dk DX12_isWay 1 rfl) ?_
  refine g_iconst (v := 0) hX (dk DX12_isWay 2 rfl) (by decide) ?_
  refine g_iconst (v := 3) hX (dk DX12_isWay 3 rfl) (by decide) ?_
  refine g_c4I hX sX12_isWay_4 (by decide) (Nat.le_of_ble_eq_true rfl) (rc0 rfl (MLt hM (by decide)) (MC hM)) (by decide) (by decide) (c_X12_in hG ) ?_
  refine g_ireturn hX (dk DX12_isWay 5 rfl) rfl (narB _) (by decide) (by decide) ?_
  exact rI_of rfl rfl rfl

set_option maxRecDepth 8000 in
set_option maxHeartbeats 4000000 in
theorem c_X12_with {G : Gt} (hG : Gok G) {I : It} {h : Ht}  {a b z : Int32} : Con G (1) 0 0 mX12_with [.ref 0, .int a, .int b, .int z] I h (rI (withI a b z) I h) := by
  refine con_intro (own := RX12) (lo0 := [some (.ref 0), some (.int a), some (.int b), some (.int z)]) hG rfl pl_X12 (Nat.le_of_ble_eq_true rfl) rfl (fun X hX => ?_)
  refine g_iload_3 hX (dk DX12_with 0 rfl) ?_
  refine g_if_eq (tgt := 12) hX (dk DX12_with 1 rfl) (by decide) (fun hc1 => ?_) (fun hc1 => ?_)
  · refine g_iload_1 hX (dk DX12_with 8 rfl) ?_
    refine g_iconst (v := 1) hX (dk DX12_with 9 rfl) (by decide) ?_
    refine g_iload_2 hX (dk DX12_with 10 rfl) ?_
    refine g_ishl hX (dk DX12_with 11 rfl) ?_
    refine g_iconst (v := -1) hX (dk DX12_with 12 rfl) (by decide) ?_
    refine g_ixor hX (dk DX12_with 13 rfl) ?_
    refine g_iand hX (dk DX12_with 14 rfl) ?_
    refine g_ireturn hX (dk DX12_with 15 rfl) rfl (rfl) (by decide) (by decide) ?_
    exact rI_of (by simp_all [withI, bitI]) rfl rfl
  · refine g_iload_1 hX (dk DX12_with 2 rfl) ?_
    refine g_iconst (v := 1) hX (dk DX12_with 3 rfl) (by decide) ?_
    refine g_iload_2 hX (dk DX12_with 4 rfl) ?_
    refine g_ishl hX (dk DX12_with 5 rfl) ?_
    refine g_ior hX (dk DX12_with 6 rfl) ?_
    refine g_goto (tgt := 19) hX (dk DX12_with 7 rfl) (by decide) ?_
    refine g_ireturn hX (dk DX12_with 15 rfl) rfl (rfl) (by decide) (by decide) ?_
    exact rI_of (by simp_all [withI, bitI]) rfl rfl

theorem begin_a {E I : It} (hE : Inv E) (hA : Ag E I) (hc : 0 ≤ I 0 16) : (10 : Int32) * I 0 16 = nI (beg E) := by
  rw [hA.1.2.2] at hc ⊢
  rcases inv_the hE with ⟨e, -⟩ | ⟨x, c, hx, hx6, e, -, -, -, e1, -⟩
  · rw [e] at hc; exact absurd hc (by decide)
  · rw [e, e1, show (10 : Int32) = nI 10 from rfl, pk_mul]
theorem begin_b {E I : It} (hE : Inv E) (hA : Ag E I) (hc : ¬ 0 ≤ I 0 16) : nI (beg E) = 0 := by
  rw [hA.1.2.2] at hc
  rcases inv_the hE with ⟨e, e1, -⟩ | ⟨x, c, hx, hx6, e, -, -, -, e1, -⟩
  · rw [e1]; rfl
  · rw [e] at hc; exact absurd (nI_pos' (by omega)) hc
theorem behind_ix {E I : It} (hE : Inv E) (hA : Ag E I) (hc : 0 ≤ I 0 16) : idx (I 0 16) (tN (E 0 16)) 6 := by
  rw [hA.1.2.2] at hc ⊢
  rcases inv_the hE with ⟨e, -⟩ | ⟨x, c, hx, hx6, e, -⟩
  · rw [e] at hc; exact absurd hc (by decide)
  · rw [e, tN_nI (by omega)]; exact ⟨rfl, hx6, by decide⟩
theorem behind_a {E I : It} (hE : Inv E) (hA : Ag E I) (hc : 0 ≤ I 0 16) : (10 : Int32) * I 0 16 + I 10 (tN (E 0 16)) = nI (beg E + ncl E) := by
  rw [begin_a hE hA hc]
  rw [hA.1.2.2] at hc
  rcases inv_the hE with ⟨e, -⟩ | ⟨x, c, hx, hx6, e, -, -, e3, e1, e2, -⟩
  · rw [e] at hc; exact absurd hc (by decide)
  · rw [e, tN_nI (by omega), hA.2.2.1 x hx, e3, e2, nI_add]
theorem behind_b {E I : It} (hE : Inv E) (hA : Ag E I) (hc : ¬ 0 ≤ I 0 16) : nI (beg E + ncl E) = 0 := by
  rw [hA.1.2.2] at hc
  rcases inv_the hE with ⟨e, e1, e2⟩ | ⟨x, c, hx, hx6, e, -, -, -, e1, -⟩
  · rw [e1, e2]; rfl
  · rw [e] at hc; exact absurd (nI_pos' (by omega)) hc

set_option maxRecDepth 8000 in
set_option maxHeartbeats 4000000 in
theorem c_X12_begin {G : Gt} (hG : Gok G) {I : It} {h : Ht} (hM : HM h) {E : It} (hE : Inv E) (hA : Ag E I)  : Con G (1) 0 0 mX12_begin [.ref 0] I h (rI (nI (beg E)) I h) := by
  refine con_intro (own := RX12) (lo0 := [some (.ref 0)]) hG rfl pl_X12 (Nat.le_of_ble_eq_true rfl) rfl (fun X hX => ?_)
  refine g_aload_0 hX (dk DX12_begin 0 rfl) ?_
  refine g_getI hX (dk DX12_begin 1 rfl) KX12 fX12_59 (by decide) rfl (MLt hM (by decide)) (MC hM) ?_
  refine g_if_ge (tgt := 11) hX (dk DX12_begin 2 rfl) (by decide) (fun hc1 => ?_) (fun hc1 => ?_)
  · refine g_bipush (v := 10) hX (dk DX12_begin 5 rfl) (by decide) ?_
    refine g_aload_0 hX (dk DX12_begin 6 rfl) ?_
    refine g_getI hX (dk DX12_begin 7 rfl) KX12 fX12_59 (by decide) rfl (MLt hM (by decide)) (MC hM) ?_
    refine g_imul hX (dk DX12_begin 8 rfl) ?_
    refine g_ireturn hX (dk DX12_begin 9 rfl) rfl (rfl) (by decide) (by decide) ?_
    exact rI_of (by first | exact begin_a hE hA hc1 | exact (begin_b hE hA hc1).symm) rfl rfl
  · refine g_iconst (v := 0) hX (dk DX12_begin 3 rfl) (by decide) ?_
    refine g_goto (tgt := 18) hX (dk DX12_begin 4 rfl) (by decide) ?_
    refine g_ireturn hX (dk DX12_begin 9 rfl) rfl (rfl) (by decide) (by decide) ?_
    exact rI_of (by first | exact begin_a hE hA hc1 | exact (begin_b hE hA hc1).symm) rfl rfl

set_option maxRecDepth 8000 in
set_option maxHeartbeats 4000000 in
theorem c_X12_behind {G : Gt} (hG : Gok G) {I : It} {h : Ht} (hM : HM h) {E : It} (hE : Inv E) (hA : Ag E I)  : Con G (1) 0 0 mX12_behind [.ref 0] I h (rI (nI (beg E + ncl E)) I h) := by
  refine con_intro (own := RX12) (lo0 := [some (.ref 0)]) hG rfl pl_X12 (Nat.le_of_ble_eq_true rfl) rfl (fun X hX => ?_)
  refine g_aload_0 hX (dk DX12_behind 0 rfl) ?_
  refine g_getI hX (dk DX12_behind 1 rfl) KX12 fX12_59 (by decide) rfl (MLt hM (by decide)) (MC hM) ?_
  refine g_if_ge (tgt := 11) hX (dk DX12_behind 2 rfl) (by decide) (fun hc1 => ?_) (fun hc1 => ?_)
  · refine g_bipush (v := 10) hX (dk DX12_behind 5 rfl) (by decide) ?_
    refine g_aload_0 hX (dk DX12_behind 6 rfl) ?_
    refine g_getI hX (dk DX12_behind 7 rfl) KX12 fX12_59 (by decide) rfl (MLt hM (by decide)) (MC hM) ?_
    refine g_imul hX (dk DX12_behind 8 rfl) ?_
    refine g_aload_0 hX (dk DX12_behind 9 rfl) ?_
    refine g_getRs (r := 10) hX (dk DX12_behind 10 rfl) KX12 fX12_74 (by decide) rfl (MLt hM (by decide)) (MC hM) (MR hM 21 (by decide) rfl) ?_
    refine g_aload_0 hX (dk DX12_behind 11 rfl) ?_
    refine g_getI hX (dk DX12_behind 12 rfl) KX12 fX12_59 (by decide) rfl (MLt hM (by decide)) (MC hM) ?_
    refine i_iaload hX (dk DX12_behind 13 rfl) (MLt hM (q := 10) (by decide)) (MS hM 10 (by decide) rfl) (behind_ix hE hA hc1) ?_
    refine g_iadd hX (dk DX12_behind 14 rfl) ?_
    refine g_ireturn hX (dk DX12_behind 15 rfl) rfl (rfl) (by decide) (by decide) ?_
    exact rI_of (by first | exact behind_a hE hA hc1 | exact (behind_b hE hA hc1).symm) rfl rfl
  · refine g_iconst (v := 0) hX (dk DX12_behind 3 rfl) (by decide) ?_
    refine g_goto (tgt := 28) hX (dk DX12_behind 4 rfl) (by decide) ?_
    refine g_ireturn hX (dk DX12_behind 15 rfl) rfl (rfl) (by decide) (by decide) ?_
    exact rI_of (by first | exact behind_a hE hA hc1 | exact (behind_b hE hA hc1).symm) rfl rfl

theorem Ag.w {E I : It} (hE : Inv E) (hA : Ag E I) {c : Nat} (hc : c < beg E + ncl E) : idx (nI c) c 60 ∧ I 11 c = E 11 c ∧ I 12 c = E 12 c ∧ I 13 c = E 13 c ∧ I 14 c = E 14 c := by
  have := beg_le hE
  exact ⟨⟨rfl, by omega, by decide⟩, hA.2.2.2.1 c (by omega)⟩
theorem cl_end {c k e : Nat} (hk : c + k = e) (he : e ≤ 60) (hc : nI e ≤ nI c) : k = 0 := by
  have := (nI_leI (by omega) (by omega)).mp hc
  omega
theorem cl_go {c k e : Nat} (hk : c + k = e) (he : e ≤ 60) (hc : ¬ nI e ≤ nI c) : ∃ z, k = z + 1 := by
  cases k with
  | zero => exact absurd (nI_le (by omega) (by omega)) hc
  | succ z => exact ⟨z, rfl⟩

set_option maxRecDepth 8000 in
set_option maxHeartbeats 4000000 in
theorem c_X12_lastOf {G : Gt} (hG : Gok G) {I : It} {h : Ht} (hM : HM h) {E : It} (hE : Inv E) (hA : Ag E I) {w n : Int32} : Con G (2) 0 0 mX12_lastOf [.ref 0, .int w, .int n] I h (rI (lastF E w (ncl E) (beg E) n) I h) := by
  refine con_intro (own := RX12) (lo0 := [some (.ref 0), some (.int w), some (.int n), none, none]) hG rfl pl_X12 (Nat.le_of_ble_eq_true rfl) rfl (fun X hX => ?_)
  have loop8 : ∀ (k c : Nat) (z : Int32), c + k = beg E + ncl E → lastF E w k c z = lastF E w (ncl E) (beg E) n → GG G (2) 0 0 X (rI (lastF E w (ncl E) (beg E) n) I h) 8 [some (.ref 0), some (.int w), some (.int n), some (.int z), some (.int (nI c))] [] (I) (h) 0 0 := by
    intro k
    induction k using Nat.strongRecOn with | _ k ih => ?_
    intro c z hk hv
    have hb := beg_le hE
    refine g_iload_4 hX (dk DX12_lastOf 5 rfl) ?_
    refine g_aload_0 hX (dk DX12_lastOf 6 rfl) ?_
    refine g_c1I hX sX12_lastOf_11 (by decide) (Nat.le_of_ble_eq_true rfl) (rc0 rfl (MLt hM (by decide)) (MC hM)) (by decide) (by decide) (c_X12_behind hG hM hE hA) ?_
    refine g_icmp_ge (tgt := 46) hX (dk DX12_lastOf 8 rfl) (by decide) (fun hc1 => ?_) (fun hc1 => ?_)
    · refine g_iload_3 hX (dk DX12_lastOf 24 rfl) ?_
      refine g_ireturn hX (dk DX12_lastOf 25 rfl) rfl (rfl) (by decide) (by decide) ?_
      have hk0 := cl_end hk hb.1 hc1
      subst hk0
      exact rI_of hv rfl rfl
    · obtain ⟨k, rfl⟩ := cl_go hk hb.1 hc1
      have hw := Ag.w hE hA (c := c) (by omega)
      refine g_aload_0 hX (dk DX12_lastOf 9 rfl) ?_
      refine g_getRs (r := 11) hX (dk DX12_lastOf 10 rfl) KX12 fX12_77 (by decide) rfl (MLt hM (by decide)) (MC hM) (MR hM 22 (by decide) rfl) ?_
      refine g_iload_4 hX (dk DX12_lastOf 11 rfl) ?_
      refine i_iaload hX (dk DX12_lastOf 12 rfl) (MLt hM (q := 11) (by decide)) (MS hM 11 (by decide) rfl) (hw.1) ?_
      refine g_iload_1 hX (dk DX12_lastOf 13 rfl) ?_
      refine g_icmp_ne (tgt := 38) hX (dk DX12_lastOf 14 rfl) (by decide) (fun hc2 => ?_) (fun hc2 => ?_)
      · refine g_iload_3 hX (dk DX12_lastOf 20 rfl) ?_
        refine g_istore_3 hX (dk DX12_lastOf 21 rfl) (by decide) rfl ?_
        refine g_iinc_4 hX (dk DX12_lastOf 22 rfl) (nI_1 c) (by decide) rfl ?_
        refine g_goto (tgt := 8) hX (dk DX12_lastOf 23 rfl) (by decide) ?_
        exact ih k (by omega) (c + 1) _ (by omega) (by rw [← hv, lastF_s, ← hw.2.1, ← hw.2.2.1]; first | rw [if_pos hc2] | rw [if_neg hc2])
      · refine g_aload_0 hX (dk DX12_lastOf 15 rfl) ?_
        refine g_getRs (r := 12) hX (dk DX12_lastOf 16 rfl) KX12 fX12_80 (by decide) rfl (MLt hM (by decide)) (MC hM) (MR hM 23 (by decide) rfl) ?_
        refine g_iload_4 hX (dk DX12_lastOf 17 rfl) ?_
        refine i_iaload hX (dk DX12_lastOf 18 rfl) (MLt hM (q := 12) (by decide)) (MS hM 12 (by decide) rfl) (hw.1) ?_
        refine g_goto (tgt := 39) hX (dk DX12_lastOf 19 rfl) (by decide) ?_
        refine g_istore_3 hX (dk DX12_lastOf 21 rfl) (by decide) rfl ?_
        refine g_iinc_4 hX (dk DX12_lastOf 22 rfl) (nI_1 c) (by decide) rfl ?_
        refine g_goto (tgt := 8) hX (dk DX12_lastOf 23 rfl) (by decide) ?_
        exact ih k (by omega) (c + 1) _ (by omega) (by rw [← hv, lastF_s, ← hw.2.1, ← hw.2.2.1]; first | rw [if_pos hc2] | rw [if_neg hc2])
  refine g_iload_2 hX (dk DX12_lastOf 0 rfl) ?_
  refine g_istore_3 hX (dk DX12_lastOf 1 rfl) (by decide) rfl ?_
  refine g_aload_0 hX (dk DX12_lastOf 2 rfl) ?_
  refine g_c1I hX sX12_lastOf_3 (by decide) (Nat.le_of_ble_eq_true rfl) (rc0 rfl (MLt hM (by decide)) (MC hM)) (by decide) (by decide) (c_X12_begin hG hM hE hA) ?_
  refine g_istore_4 hX (dk DX12_lastOf 4 rfl) (by decide) rfl ?_
  exact loop8 (ncl E) (beg E) n rfl rfl

theorem depR_neg {t : Int32} {n m : Nat} (ht : t = -33) (h : depR t n = some m) : 0 < n ∧ m = n := by
  unfold depR at h
  rw [if_pos ht] at h
  split at h
  · cases h
  · cases h; omega
theorem depR_and {t : Int32} {n m : Nat} (ht : ¬ t = -33) (h0 : t < 0) (h : depR t n = some m) : 2 ≤ n ∧ m = n - 1 := by
  unfold depR at h
  rw [if_neg ht, if_pos h0] at h
  split at h
  · cases h
  · cases h; omega
theorem depR_test {t : Int32} {n m : Nat} (ht : ¬ t = -33) (h0 : ¬ t < 0) (h : depR t n = some m) : m = n + 1 := by
  unfold depR at h
  rw [if_neg ht, if_neg h0] at h
  cases h; rfl
theorem wf_go {E : It} {k c n : Nat} (h : wfR E (k + 1) c n = true) : ∃ m, depR (E 15 c) n = some m ∧ wfR E k (c + 1) m = true := by
  rw [wfR_s] at h
  cases hd : depR (E 15 c) n with
  | none => rw [hd] at h; cases h
  | some m => rw [hd] at h; exact ⟨m, rfl, h⟩

set_option maxRecDepth 8000 in
set_option maxHeartbeats 4000000 in
theorem c_X12_factOf {G : Gt} (hG : Gok G) {I : It} {h : Ht} (hM : HM h) {E : It} (hA : Ag E I) {f y w : Int32} {d : Nat} (hd : d < 10) : Con G (1) 0 0 mX12_factOf [.ref 0, .int f, .int (nI d), .int y, .int w] I h (rI (factF E f d y w) I h) := by
  refine con_intro (own := RX12) (lo0 := [some (.ref 0), some (.int f), some (.int (nI d)), some (.int y), some (.int w)]) hG rfl pl_X12 (Nat.le_of_ble_eq_true rfl) rfl (fun X hX => ?_)
  refine g_iload_1 hX (dk DX12_factOf 0 rfl) ?_
  refine g_tswitch (dt := 75) hX [(0, 40), (1, 42), (2, 49), (3, 56), (4, 63), (5, 73)] (dk DX12_factOf 1 rfl) (by decide +kernel) ?_
  refine ⟨fun hc1 => ?_, fun hc1n => ?_⟩
  · show GG _ _ _ _ _ _ _ _ _ _ _ _ _
    refine g_iload_2 hX (dk DX12_factOf 2 rfl) ?_
    refine g_ireturn hX (dk DX12_factOf 3 rfl) rfl (rfl) (by decide) (by decide) ?_
    subst hc1
    exact rI_of rfl rfl rfl
  refine ⟨fun hc2 => ?_, fun hc2n => ?_⟩
  · show GG _ _ _ _ _ _ _ _ _ _ _ _ _
    refine g_aload_0 hX (dk DX12_factOf 4 rfl) ?_
    refine g_getRs (r := 1) hX (dk DX12_factOf 5 rfl) KX12 fX12_31 (by decide) rfl (MLt hM (by decide)) (MC hM) (MR hM 7 (by decide) rfl) ?_
    refine g_iload_2 hX (dk DX12_factOf 6 rfl) ?_
    refine i_iaload hX (dk DX12_factOf 7 rfl) (MLt hM (q := 1) (by decide)) (MS hM 1 (by decide) rfl) (⟨rfl, hd, by decide⟩) ?_
    refine g_ireturn hX (dk DX12_factOf 8 rfl) rfl (rfl) (by decide) (by decide) ?_
    subst hc2
    exact rI_of (by rw [hA.2.1 1 (by decide)]; rfl) rfl rfl
  refine ⟨fun hc3 => ?_, fun hc3n => ?_⟩
  · show GG _ _ _ _ _ _ _ _ _ _ _ _ _
    refine g_aload_0 hX (dk DX12_factOf 9 rfl) ?_
    refine g_getRs (r := 3) hX (dk DX12_factOf 10 rfl) KX12 fX12_38 (by decide) rfl (MLt hM (by decide)) (MC hM) (MR hM 9 (by decide) rfl) ?_
    refine g_iload_2 hX (dk DX12_factOf 11 rfl) ?_
    refine i_iaload hX (dk DX12_factOf 12 rfl) (MLt hM (q := 3) (by decide)) (MS hM 3 (by decide) rfl) (⟨rfl, hd, by decide⟩) ?_
    refine g_ireturn hX (dk DX12_factOf 13 rfl) rfl (rfl) (by decide) (by decide) ?_
    subst hc3
    exact rI_of (by rw [hA.2.1 3 (by decide)]; rfl) rfl rfl
  refine ⟨fun hc4 => ?_, fun hc4n => ?_⟩
  · show GG _ _ _ _ _ _ _ _ _ _ _ _ _
    refine g_aload_0 hX (dk DX12_factOf 14 rfl) ?_
    refine g_getRs (r := 2) hX (dk DX12_factOf 15 rfl) KX12 fX12_35 (by decide) rfl (MLt hM (by decide)) (MC hM) (MR hM 8 (by decide) rfl) ?_
    refine g_iload_2 hX (dk DX12_factOf 16 rfl) ?_
    refine i_iaload hX (dk DX12_factOf 17 rfl) (MLt hM (q := 2) (by decide)) (MS hM 2 (by decide) rfl) (⟨rfl, hd, by decide⟩) ?_
    refine g_ireturn hX (dk DX12_factOf 18 rfl) rfl (rfl) (by decide) (by decide) ?_
    subst hc4
    exact rI_of (by rw [hA.2.1 2 (by decide)]; rfl) rfl rfl
  refine ⟨fun hc5 => ?_, fun hc5n => ?_⟩
  · show GG _ _ _ _ _ _ _ _ _ _ _ _ _
    refine g_aload_0 hX (dk DX12_factOf 19 rfl) ?_
    refine g_getRs (r := 5) hX (dk DX12_factOf 20 rfl) KX12 fX12_44 (by decide) rfl (MLt hM (by decide)) (MC hM) (MR hM 11 (by decide) rfl) ?_
    refine g_iload_2 hX (dk DX12_factOf 21 rfl) ?_
    refine i_iaload hX (dk DX12_factOf 22 rfl) (MLt hM (q := 5) (by decide)) (MS hM 5 (by decide) rfl) (⟨rfl, hd, by decide⟩) ?_
    refine g_bipush (v := 10) hX (dk DX12_factOf 23 rfl) (by decide) ?_
    refine g_idiv hX (dk DX12_factOf 24 rfl) (by decide) ?_
    refine g_ireturn hX (dk DX12_factOf 25 rfl) rfl (rfl) (by decide) (by decide) ?_
    subst hc5
    exact rI_of (by rw [hA.2.1 5 (by decide)]; rfl) rfl rfl
  refine ⟨fun hc6 => ?_, fun hc6n => ?_⟩
  · show GG _ _ _ _ _ _ _ _ _ _ _ _ _
    refine g_iload_3 hX (dk DX12_factOf 26 rfl) ?_
    refine g_ireturn hX (dk DX12_factOf 27 rfl) rfl (rfl) (by decide) (by decide) ?_
    subst hc6
    exact rI_of rfl rfl rfl
  show GG _ _ _ _ _ _ _ _ _ _ _ _ _
  refine g_iload_4 hX (dk DX12_factOf 28 rfl) ?_
  refine g_ireturn hX (dk DX12_factOf 29 rfl) rfl (rfl) (by decide) (by decide) ?_
  exact rI_of (by unfold factF; rw [if_neg hc1n, if_neg hc2n, if_neg hc3n, if_neg hc4n, if_neg hc5n, if_neg hc6n]) rfl rfl
end
section
theorem ix_m1 {n : Nat} (hn : n < 100) : idx (nI (n + 1) - 1) n 100 := ⟨nI_pred n, hn, by decide⟩
theorem nz0 : vp_nar .boolean 0 = 0 := by decide
theorem nz1 : vp_nar .boolean 1 = 1 := by decide
theorem b2_n0 {b : Bool} (h : b2 b ≠ 0) : b = true := by cases b <;> simp_all [b2]
theorem b2_z {b : Bool} (h : b2 b = 0) : b = false := by cases b <;> simp_all [b2]
theorem Ag.sg {E I : It} (hE : Inv E) (hA : Ag E I) {p c b : Nat} (hp : p < nP E) (hb : b ≤ 100 * p + 100) (hc : c < b) : idx (nI c) c 600 ∧ I 15 c = E 15 c := by
  have := hE.2.2.1.2
  exact ⟨⟨rfl, by omega, by decide⟩, hA.2.2.2.2 c (by omega)⟩
theorem ce_end {c k e : Nat} (hk : c + k = e) (he : e ≤ 600) (hc : nI e ≤ nI c) : k = 0 := by
  have := (nI_leI (by omega) (by omega)).mp hc
  omega
theorem ce_go {c k e : Nat} (hk : c + k = e) (he : e ≤ 600) (hc : ¬ nI e ≤ nI c) : ∃ z, k = z + 1 := by
  cases k with
  | zero => exact absurd (nI_le (by omega) (by omega)) hc
  | succ z => exact ⟨z, rfl⟩
theorem one_of {s : List Bool} (h : s.length = 1) : ∃ b, s = [b] := by
  match s, h with
  | [b], _ => exact ⟨b, rfl⟩
theorem cons_of {s : List Bool} (h : 0 < s.length) : ∃ b r, s = b :: r := by
  match s, h with
  | b :: r, _ => exact ⟨b, r, rfl⟩
theorem cons2_of {s : List Bool} (h : 2 ≤ s.length) : ∃ b a r, s = b :: a :: r := by
  match s, h with
  | [_], h => simp at h
  | b :: a :: r, _ => exact ⟨b, a, r, rfl⟩
theorem stepR_n (E : It) (i : Nat) (y w t : Int32) (b : Bool) (r : List Bool) (ht : t = -33) : stepR E i y w t (b :: r) = (!b) :: r := by unfold stepR; rw [if_pos ht]
theorem stepR_2 (E : It) (i : Nat) (y w t : Int32) (b a : Bool) (r : List Bool) (ht : ¬ t = -33) (h0 : t < 0) : stepR E i y w t (b :: a :: r) = (if t = -38 then a && b else a || b) :: r := by unfold stepR; rw [if_neg ht, if_pos h0]
theorem stepR_t (E : It) (i : Nat) (y w t : Int32) (s : List Bool) (ht : ¬ t = -33) (h0 : ¬ t < 0) : stepR E i y w t s = testF E t i y w :: s := by unfold stepR; rw [if_neg ht, if_neg h0]

set_option maxRecDepth 8000 in
set_option maxHeartbeats 4000000 in
theorem c_X12_holds {G : Gt} (hG : Gok G) {I : It} {h : Ht} (hM : HM h) {E : It} (hE : Inv E) (hA : Ag E I) {y w : Int32} {d p c0 : Nat} (hd : d < 10) (hp : p < nP E) (hc0 : c0 < 10 * nP E) (hcl : clOk E p c0) (hwd : E 11 c0 = 0 ∨ E 11 c0 = 1) : Con G (2) 0 0 mX12_holds [.ref 0, .int (nI c0), .int (nI d), .int y, .int w] I h (qF (bI (holdsF E c0 d y w = true)) [] [18] I h) := by
  refine con_intro (own := RX12) (lo0 := [some (.ref 0), some (.int (nI c0)), some (.int (nI d)), some (.int y), some (.int w), none, none, none, none, none]) hG rfl pl_X12 (Nat.le_of_ble_eq_true rfl) rfl (fun X hX => ?_)
  have hn6 := hE.2.2.1.2
  obtain ⟨a, b, ha, hb, ha1, hab, hb1, hwf0, hcodes⟩ := hcl.2.2 hwd
  have hcf := hA.2.2.2.1 c0 hc0
  have hc60 : idx (nI c0) c0 60 := ⟨rfl, by omega, by decide⟩
  have hev0 : holdsF E c0 d y w = (evalR E d y w (b - a) a []).headD false := by
    unfold holdsF clLen
    rw [ha, hb, tN_nI (by omega), tN_nI (by omega)]
  have loop11 : ∀ (k c : Nat) (s : List Bool) (J : It), c + k = b → a ≤ c → evalR E d y w k c s = evalR E d y w (b - a) a [] → wfR E k c s.length = true → s.length ≤ c - a → PR J s → Fr [] [18] I J → GG G (2) 0 0 X (qF (bI (holdsF E c0 d y w = true)) [] [18] I h) 11 [some (.ref 0), some (.int (nI c0)), some (.int (nI d)), some (.int y), some (.int w), some (.int (nI s.length)), some (.int (nI c)), none, none, none] [] (J) (h) 0 0 := by
    intro k
    induction k using Nat.strongRecOn with | _ k ih => ?_
    intro c s J hk hac hev hwf hsl hPR hfr
    have hA := Ag.keep hA hfr (by decide) (by decide)
    have hcJ := hA.2.2.2.1 c0 hc0
    refine g_iload_6 hX (dk DX12_holds_0 7 rfl) ?_
    refine g_aload_0 hX (dk DX12_holds_0 8 rfl) ?_
    refine g_getRs (r := 14) hX (dk DX12_holds_0 9 rfl) KX12 fX12_86 (by decide) rfl (MLt hM (by decide)) (MC hM) (MR hM 25 (by decide) rfl) ?_
    refine g_iload_1 hX (dk DX12_holds_0 10 rfl) ?_
    refine i_iaload hX (dk DX12_holds_0 11 rfl) (MLt hM (q := 14) (by decide)) (MS hM 14 (by decide) rfl) (hc60) ?_
    refine g_icmp_ge (tgt := 255) hX (dk DX12_holds_0 12 rfl) (by decide) (fun hc1 => ?_) (fun hc1 => ?_)
    · rw [hcJ.2.2.2, hb] at hc1
      have hk0 := ce_end hk (by omega) hc1
      subst hk0
      obtain ⟨b0, rfl⟩ := one_of (beq_iff_eq.mp hwf)
      refine g_aload_0 hX (dk DX12_holds_2 15 rfl) ?_
      refine g_getRs (r := 18) hX (dk DX12_holds_2 16 rfl) KX12 fX12_107 (by decide) rfl (MLt hM (by decide)) (MC hM) (MR hM 32 (by decide) rfl) ?_
      refine g_iconst (v := 0) hX (dk DX12_holds_2 17 rfl) (by decide) ?_
      refine i_zaload (j := 0) hX (dk DX12_holds_2 18 rfl) (MLt hM (q := 18) (by decide)) (MS hM 18 (by decide) rfl) (⟨rfl, by decide, by decide⟩) ?_
      refine g_ireturn hX (dk DX12_holds_2 19 rfl) rfl (by rw [show J 18 0 = b2 b0 from hPR.1]; exact nar01 (b2_01 _)) (by decide) (by decide) ?_
      exact qF_of (by rw [show J 18 0 = b2 b0 from hPR.1, b2_bI, hev0]; exact bI_c (by rw [← hev]; rfl)) hfr
    · rw [hcJ.2.2.2, hb] at hc1
      obtain ⟨k, rfl⟩ := ce_go hk (by omega) hc1
      have hsg := Ag.sg hE hA hp hb1 (c := c) (by omega)
      obtain ⟨m, hdp, hwf2⟩ := wf_go hwf
      rw [evalR_s, ← hsg.2] at hev
      rw [← hsg.2] at hdp
      refine g_aload_0 hX (dk DX12_holds_0 13 rfl) ?_
      refine g_getRs (r := 15) hX (dk DX12_holds_0 14 rfl) KX12 fX12_89 (by decide) rfl (MLt hM (by decide)) (MC hM) (MR hM 26 (by decide) rfl) ?_
      refine g_iload_6 hX (dk DX12_holds_0 15 rfl) ?_
      refine i_iaload hX (dk DX12_holds_0 16 rfl) (MLt hM (q := 15) (by decide)) (MS hM 15 (by decide) rfl) (hsg.1) ?_
      refine g_istore_7 hX (dk DX12_holds_0 17 rfl) (by decide) rfl ?_
      refine g_iload_7 hX (dk DX12_holds_0 18 rfl) ?_
      refine g_bipush (v := -33) hX (dk DX12_holds_0 19 rfl) (by decide) ?_
      refine g_icmp_ne (tgt := 67) hX (dk DX12_holds_0 20 rfl) (by decide) (fun hc2 => ?_) (fun hc2 => ?_)
      · have hn33 := hc2
        refine g_iload_7 hX (dk DX12_holds_0 38 rfl) ?_
        refine g_if_ge (tgt := 151) hX (dk DX12_holds_0 39 rfl) (by decide) (fun hc3 => ?_) (fun hc3 => ?_)
        · have hge : ¬ J 15 c < 0 := Int32.not_lt.mpr hc3
          have hm := depR_test hn33 hge hdp
          subst hm
          obtain ⟨r, hr0⟩ : ∃ r, r = s := ⟨_, rfl⟩
          subst hr0
          rw [stepR_t _ _ _ _ _ _ hn33 hge] at hev
          obtain ⟨nb, hnb⟩ : ∃ nb, nb = testF E (J 15 c) d y w := ⟨_, rfl⟩
          rw [← hnb] at hev
          have hsl2 : r.length + 1 ≤ c + 1 - a := by omega
          have hr : r.length < 100 := by omega
          have hPRr := hPR
          refine g_aload_0 hX (dk DX12_holds_1 22 rfl) ?_
          refine g_iload_7 hX (dk DX12_holds_1 23 rfl) ?_
          refine g_sipush (v := 1000) hX (dk DX12_holds_1 24 rfl) (by decide) ?_
          refine g_idiv hX (dk DX12_holds_1 25 rfl) (by decide) ?_
          refine g_iload_2 hX (dk DX12_holds_1 26 rfl) ?_
          refine g_iload_3 hX (dk DX12_holds_1 27 rfl) ?_
          refine g_iload_4 hX (dk DX12_holds_1 28 rfl) ?_
          refine g_c5I hX sX12_holds_162 (by decide) (Nat.le_of_ble_eq_true rfl) (rc0 rfl (MLt hM (by decide)) (MC hM)) (by decide) (by decide) (c_X12_factOf hG hM hA hd) ?_
          refine g_istore_8 hX (dk DX12_holds_1 30 rfl) (by decide) rfl ?_
          refine g_iload_7 hX (dk DX12_holds_1 31 rfl) ?_
          refine g_bipush (v := 100) hX (dk DX12_holds_1 32 rfl) (by decide) ?_
          refine g_idiv hX (dk DX12_holds_1 33 rfl) (by decide) ?_
          refine g_bipush (v := 10) hX (dk DX12_holds_1 34 rfl) (by decide) ?_
          refine g_irem hX (dk DX12_holds_1 35 rfl) (by decide) ?_
          refine g_istore_9 hX (dk DX12_holds_1 36 rfl) (by decide) rfl ?_
          refine g_aload_0 hX (dk DX12_holds_1 37 rfl) ?_
          refine g_getRs (r := 18) hX (dk DX12_holds_1 38 rfl) KX12 fX12_107 (by decide) rfl (MLt hM (by decide)) (MC hM) (MR hM 32 (by decide) rfl) ?_
          refine g_iload_5 hX (dk DX12_holds_1 39 rfl) ?_
          refine g_iload_9 hX (dk DX12_holds_1 40 rfl) ?_
          refine g_if_ne (tgt := 206) hX (dk DX12_holds_1 41 rfl) (by decide) (fun hc4 => ?_) (fun hc4 => ?_)
          · have h1 := hc4
            refine g_iload_9 hX (dk DX12_holds_1 51 rfl) ?_
            refine g_iconst (v := 1) hX (dk DX12_holds_1 52 rfl) (by decide) ?_
            refine g_icmp_ne (tgt := 230) hX (dk DX12_holds_1 53 rfl) (by decide) (fun hc5 => ?_) (fun hc5 => ?_)
            · have h2 := hc5
              refine g_iload_8 hX (dk DX12_holds_2 3 rfl) ?_
              refine g_iload_7 hX (dk DX12_holds_2 4 rfl) ?_
              refine g_bipush (v := 100) hX (dk DX12_holds_2 5 rfl) (by decide) ?_
              refine g_irem hX (dk DX12_holds_2 6 rfl) (by decide) ?_
              refine g_icmp_le (tgt := 244) hX (dk DX12_holds_2 7 rfl) (by decide) (fun hc6 => ?_) (fun hc6 => ?_)
              · have hbv : nb = false := by rw [hnb]; unfold testF remI; rw [if_neg h1, if_neg h2]; exact decide_eq_false (Int32.not_lt.mpr hc6)
                refine g_iconst (v := 0) hX (dk DX12_holds_2 10 rfl) (by decide) ?_
                refine i_zastore hX (dk DX12_holds_2 11 rfl) (MLt hM (q := 18) (by decide)) (MS hM 18 (by decide) rfl) (⟨rfl, hr, by decide⟩) ?_
                refine g_iinc_5 hX (dk DX12_holds_2 12 rfl) (nI_1 r.length) (by decide) rfl ?_
                refine g_iinc_6 hX (dk DX12_holds_2 13 rfl) (nI_1 c) (by decide) rfl ?_
                refine g_goto (tgt := 11) hX (dk DX12_holds_2 14 rfl) (by decide) ?_
                exact g_fgt (ih k (by omega) (c + 1) (nb :: r) _ (by omega) (by omega) hev hwf2 hsl2 ⟨by rw [up0, hbv]; rfl, PR_up hPRr (Nat.le_refl _)⟩ (hfr.pc (by decide) (by decide))) ⟨rfl, rfl, rfl, rfl, rfl, rfl, rfl, trivial⟩
              · have hbv : nb = true := by rw [hnb]; unfold testF remI; rw [if_neg h1, if_neg h2]; exact decide_eq_true (Int32.not_le.mp hc6)
                refine g_iconst (v := 1) hX (dk DX12_holds_2 8 rfl) (by decide) ?_
                refine g_goto (tgt := 245) hX (dk DX12_holds_2 9 rfl) (by decide) ?_
                refine i_zastore hX (dk DX12_holds_2 11 rfl) (MLt hM (q := 18) (by decide)) (MS hM 18 (by decide) rfl) (⟨rfl, hr, by decide⟩) ?_
                refine g_iinc_5 hX (dk DX12_holds_2 12 rfl) (nI_1 r.length) (by decide) rfl ?_
                refine g_iinc_6 hX (dk DX12_holds_2 13 rfl) (nI_1 c) (by decide) rfl ?_
                refine g_goto (tgt := 11) hX (dk DX12_holds_2 14 rfl) (by decide) ?_
                exact g_fgt (ih k (by omega) (c + 1) (nb :: r) _ (by omega) (by omega) hev hwf2 hsl2 ⟨by rw [up0, hbv]; rfl, PR_up hPRr (Nat.le_refl _)⟩ (hfr.pc (by decide) (by decide))) ⟨rfl, rfl, rfl, rfl, rfl, rfl, rfl, trivial⟩
            · have h2 := hc5
              refine g_iload_8 hX (dk DX12_holds_1 54 rfl) ?_
              refine g_iload_7 hX (dk DX12_holds_1 55 rfl) ?_
              refine g_bipush (v := 100) hX (dk DX12_holds_1 56 rfl) (by decide) ?_
              refine g_irem hX (dk DX12_holds_1 57 rfl) (by decide) ?_
              refine g_icmp_ne (tgt := 226) hX (dk DX12_holds_1 58 rfl) (by decide) (fun hc7 => ?_) (fun hc7 => ?_)
              · have hbv : nb = false := by rw [hnb]; unfold testF remI; rw [if_neg h1, if_pos h2]; exact decide_eq_false hc7
                refine g_iconst (v := 0) hX (dk DX12_holds_2 1 rfl) (by decide) ?_
                refine g_goto (tgt := 245) hX (dk DX12_holds_2 2 rfl) (by decide) ?_
                refine i_zastore hX (dk DX12_holds_2 11 rfl) (MLt hM (q := 18) (by decide)) (MS hM 18 (by decide) rfl) (⟨rfl, hr, by decide⟩) ?_
                refine g_iinc_5 hX (dk DX12_holds_2 12 rfl) (nI_1 r.length) (by decide) rfl ?_
                refine g_iinc_6 hX (dk DX12_holds_2 13 rfl) (nI_1 c) (by decide) rfl ?_
                refine g_goto (tgt := 11) hX (dk DX12_holds_2 14 rfl) (by decide) ?_
                exact g_fgt (ih k (by omega) (c + 1) (nb :: r) _ (by omega) (by omega) hev hwf2 hsl2 ⟨by rw [up0, hbv]; rfl, PR_up hPRr (Nat.le_refl _)⟩ (hfr.pc (by decide) (by decide))) ⟨rfl, rfl, rfl, rfl, rfl, rfl, rfl, trivial⟩
              · have hbv : nb = true := by rw [hnb]; unfold testF remI; rw [if_neg h1, if_pos h2]; exact decide_eq_true hc7
                refine g_iconst (v := 1) hX (dk DX12_holds_1 59 rfl) (by decide) ?_
                refine g_goto (tgt := 245) hX (dk DX12_holds_2 0 rfl) (by decide) ?_
                refine i_zastore hX (dk DX12_holds_2 11 rfl) (MLt hM (q := 18) (by decide)) (MS hM 18 (by decide) rfl) (⟨rfl, hr, by decide⟩) ?_
                refine g_iinc_5 hX (dk DX12_holds_2 12 rfl) (nI_1 r.length) (by decide) rfl ?_
                refine g_iinc_6 hX (dk DX12_holds_2 13 rfl) (nI_1 c) (by decide) rfl ?_
                refine g_goto (tgt := 11) hX (dk DX12_holds_2 14 rfl) (by decide) ?_
                exact g_fgt (ih k (by omega) (c + 1) (nb :: r) _ (by omega) (by omega) hev hwf2 hsl2 ⟨by rw [up0, hbv]; rfl, PR_up hPRr (Nat.le_refl _)⟩ (hfr.pc (by decide) (by decide))) ⟨rfl, rfl, rfl, rfl, rfl, rfl, rfl, trivial⟩
          · have h1 := hc4
            refine g_iload_8 hX (dk DX12_holds_1 42 rfl) ?_
            refine g_iload_7 hX (dk DX12_holds_1 43 rfl) ?_
            refine g_bipush (v := 100) hX (dk DX12_holds_1 44 rfl) (by decide) ?_
            refine g_irem hX (dk DX12_holds_1 45 rfl) (by decide) ?_
            refine g_icmp_ge (tgt := 202) hX (dk DX12_holds_1 46 rfl) (by decide) (fun hc8 => ?_) (fun hc8 => ?_)
            · have hbv : nb = false := by rw [hnb]; unfold testF remI; rw [if_pos h1]; exact decide_eq_false (Int32.not_lt.mpr hc8)
              refine g_iconst (v := 0) hX (dk DX12_holds_1 49 rfl) (by decide) ?_
              refine g_goto (tgt := 245) hX (dk DX12_holds_1 50 rfl) (by decide) ?_
              refine i_zastore hX (dk DX12_holds_2 11 rfl) (MLt hM (q := 18) (by decide)) (MS hM 18 (by decide) rfl) (⟨rfl, hr, by decide⟩) ?_
              refine g_iinc_5 hX (dk DX12_holds_2 12 rfl) (nI_1 r.length) (by decide) rfl ?_
              refine g_iinc_6 hX (dk DX12_holds_2 13 rfl) (nI_1 c) (by decide) rfl ?_
              refine g_goto (tgt := 11) hX (dk DX12_holds_2 14 rfl) (by decide) ?_
              exact g_fgt (ih k (by omega) (c + 1) (nb :: r) _ (by omega) (by omega) hev hwf2 hsl2 ⟨by rw [up0, hbv]; rfl, PR_up hPRr (Nat.le_refl _)⟩ (hfr.pc (by decide) (by decide))) ⟨rfl, rfl, rfl, rfl, rfl, rfl, rfl, trivial⟩
            · have hbv : nb = true := by rw [hnb]; unfold testF remI; rw [if_pos h1]; exact decide_eq_true (Int32.not_le.mp hc8)
              refine g_iconst (v := 1) hX (dk DX12_holds_1 47 rfl) (by decide) ?_
              refine g_goto (tgt := 245) hX (dk DX12_holds_1 48 rfl) (by decide) ?_
              refine i_zastore hX (dk DX12_holds_2 11 rfl) (MLt hM (q := 18) (by decide)) (MS hM 18 (by decide) rfl) (⟨rfl, hr, by decide⟩) ?_
              refine g_iinc_5 hX (dk DX12_holds_2 12 rfl) (nI_1 r.length) (by decide) rfl ?_
              refine g_iinc_6 hX (dk DX12_holds_2 13 rfl) (nI_1 c) (by decide) rfl ?_
              refine g_goto (tgt := 11) hX (dk DX12_holds_2 14 rfl) (by decide) ?_
              exact g_fgt (ih k (by omega) (c + 1) (nb :: r) _ (by omega) (by omega) hev hwf2 hsl2 ⟨by rw [up0, hbv]; rfl, PR_up hPRr (Nat.le_refl _)⟩ (hfr.pc (by decide) (by decide))) ⟨rfl, rfl, rfl, rfl, rfl, rfl, rfl, trivial⟩
        · have hlt : J 15 c < 0 := Int32.not_le.mp hc3
          obtain ⟨h0, rfl⟩ := depR_and hn33 hlt hdp
          obtain ⟨b0, a0, r, rfl⟩ := cons2_of h0
          rw [stepR_2 _ _ _ _ _ _ _ _ hn33 hlt] at hev
          simp only [List.length_cons] at hsl hwf2
          have hwf2 : wfR E k (c + 1) (r.length + 1) = true := hwf2
          have hsl2 : r.length + 1 ≤ c + 1 - a := by omega
          have hr : r.length < 100 := by omega
          have hr1 : r.length + 1 < 100 := by omega
          have hPRr := hPR.2.2
          refine g_iinc_5 hX (dk DX12_holds_0 40 rfl) (pk_m1 (r.length + 1)) (by decide) rfl ?_
          refine g_aload_0 hX (dk DX12_holds_0 41 rfl) ?_
          refine g_getRs (r := 18) hX (dk DX12_holds_0 42 rfl) KX12 fX12_107 (by decide) rfl (MLt hM (by decide)) (MC hM) (MR hM 32 (by decide) rfl) ?_
          refine g_iload_5 hX (dk DX12_holds_0 43 rfl) ?_
          refine g_iconst (v := 1) hX (dk DX12_holds_0 44 rfl) (by decide) ?_
          refine g_isub hX (dk DX12_holds_0 45 rfl) ?_
          refine g_iload_7 hX (dk DX12_holds_0 46 rfl) ?_
          refine g_bipush (v := -38) hX (dk DX12_holds_0 47 rfl) (by decide) ?_
          refine g_icmp_ne (tgt := 120) hX (dk DX12_holds_0 48 rfl) (by decide) (fun hc9 => ?_) (fun hc9 => ?_)
          · rw [if_neg hc9] at hev
            obtain ⟨nb, hnb⟩ : ∃ nb, nb = (a0 || b0) := ⟨_, rfl⟩
            rw [← hnb] at hev
            refine g_aload_0 hX (dk DX12_holds_1 5 rfl) ?_
            refine g_getRs (r := 18) hX (dk DX12_holds_1 6 rfl) KX12 fX12_107 (by decide) rfl (MLt hM (by decide)) (MC hM) (MR hM 32 (by decide) rfl) ?_
            refine g_iload_5 hX (dk DX12_holds_1 7 rfl) ?_
            refine g_iconst (v := 1) hX (dk DX12_holds_1 8 rfl) (by decide) ?_
            refine g_isub hX (dk DX12_holds_1 9 rfl) ?_
            refine i_zaload hX (dk DX12_holds_1 10 rfl) (MLt hM (q := 18) (by decide)) (MS hM 18 (by decide) rfl) (ix_m1 hr) ?_
            refine g_if_ne (tgt := 142) hX (dk DX12_holds_1 11 rfl) (by decide) (fun hc10 => ?_) (fun hc10 => ?_)
            · have hbv : nb = true := by
                rw [hnb]
                first | (rw [b2_n0 (b := a0) (by rw [← hPR.2.1]; exact hc10)]; rfl) | (rw [b2_n0 (b := b0) (by rw [← hPR.1]; exact hc10)]; exact Bool.or_true a0)
              refine g_iconst (v := 1) hX (dk DX12_holds_1 17 rfl) (by decide) ?_
              refine g_goto (tgt := 147) hX (dk DX12_holds_1 18 rfl) (by decide) ?_
              refine i_zastore hX (dk DX12_holds_1 20 rfl) (MLt hM (q := 18) (by decide)) (MS hM 18 (by decide) rfl) (ix_m1 hr) ?_
              refine g_goto (tgt := 249) hX (dk DX12_holds_1 21 rfl) (by decide) ?_
              refine g_iinc_6 hX (dk DX12_holds_2 13 rfl) (nI_1 c) (by decide) rfl ?_
              refine g_goto (tgt := 11) hX (dk DX12_holds_2 14 rfl) (by decide) ?_
              exact g_fgt (ih k (by omega) (c + 1) (nb :: r) _ (by omega) (by omega) hev hwf2 hsl2 ⟨by rw [up0, hbv]; rfl, PR_up hPRr (Nat.le_refl _)⟩ (hfr.pc (by decide) (by decide))) ⟨rfl, rfl, rfl, rfl, rfl, rfl, rfl, trivial⟩
            · refine g_aload_0 hX (dk DX12_holds_1 12 rfl) ?_
              refine g_getRs (r := 18) hX (dk DX12_holds_1 13 rfl) KX12 fX12_107 (by decide) rfl (MLt hM (by decide)) (MC hM) (MR hM 32 (by decide) rfl) ?_
              refine g_iload_5 hX (dk DX12_holds_1 14 rfl) ?_
              refine i_zaload hX (dk DX12_holds_1 15 rfl) (MLt hM (q := 18) (by decide)) (MS hM 18 (by decide) rfl) (⟨rfl, hr1, by decide⟩) ?_
              refine g_if_eq (tgt := 146) hX (dk DX12_holds_1 16 rfl) (by decide) (fun hc11 => ?_) (fun hc11 => ?_)
              · have hbv : nb = false := by rw [hnb, b2_z (hPR.2.1.symm.trans (by first | assumption | (exact Classical.not_not.mp (by assumption)))), b2_z (hPR.1.symm.trans hc11)]; rfl
                refine g_iconst (v := 0) hX (dk DX12_holds_1 19 rfl) (by decide) ?_
                refine i_zastore hX (dk DX12_holds_1 20 rfl) (MLt hM (q := 18) (by decide)) (MS hM 18 (by decide) rfl) (ix_m1 hr) ?_
                refine g_goto (tgt := 249) hX (dk DX12_holds_1 21 rfl) (by decide) ?_
                refine g_iinc_6 hX (dk DX12_holds_2 13 rfl) (nI_1 c) (by decide) rfl ?_
                refine g_goto (tgt := 11) hX (dk DX12_holds_2 14 rfl) (by decide) ?_
                exact g_fgt (ih k (by omega) (c + 1) (nb :: r) _ (by omega) (by omega) hev hwf2 hsl2 ⟨by rw [up0, hbv]; rfl, PR_up hPRr (Nat.le_refl _)⟩ (hfr.pc (by decide) (by decide))) ⟨rfl, rfl, rfl, rfl, rfl, rfl, rfl, trivial⟩
              · have hbv : nb = true := by
                  rw [hnb]
                  first | (rw [b2_n0 (b := a0) (by rw [← hPR.2.1]; exact hc11)]; rfl) | (rw [b2_n0 (b := b0) (by rw [← hPR.1]; exact hc11)]; exact Bool.or_true a0)
                refine g_iconst (v := 1) hX (dk DX12_holds_1 17 rfl) (by decide) ?_
                refine g_goto (tgt := 147) hX (dk DX12_holds_1 18 rfl) (by decide) ?_
                refine i_zastore hX (dk DX12_holds_1 20 rfl) (MLt hM (q := 18) (by decide)) (MS hM 18 (by decide) rfl) (ix_m1 hr) ?_
                refine g_goto (tgt := 249) hX (dk DX12_holds_1 21 rfl) (by decide) ?_
                refine g_iinc_6 hX (dk DX12_holds_2 13 rfl) (nI_1 c) (by decide) rfl ?_
                refine g_goto (tgt := 11) hX (dk DX12_holds_2 14 rfl) (by decide) ?_
                exact g_fgt (ih k (by omega) (c + 1) (nb :: r) _ (by omega) (by omega) hev hwf2 hsl2 ⟨by rw [up0, hbv]; rfl, PR_up hPRr (Nat.le_refl _)⟩ (hfr.pc (by decide) (by decide))) ⟨rfl, rfl, rfl, rfl, rfl, rfl, rfl, trivial⟩
          · rw [if_pos hc9] at hev
            obtain ⟨nb, hnb⟩ : ∃ nb, nb = (a0 && b0) := ⟨_, rfl⟩
            rw [← hnb] at hev
            refine g_aload_0 hX (dk DX12_holds_0 49 rfl) ?_
            refine g_getRs (r := 18) hX (dk DX12_holds_0 50 rfl) KX12 fX12_107 (by decide) rfl (MLt hM (by decide)) (MC hM) (MR hM 32 (by decide) rfl) ?_
            refine g_iload_5 hX (dk DX12_holds_0 51 rfl) ?_
            refine g_iconst (v := 1) hX (dk DX12_holds_0 52 rfl) (by decide) ?_
            refine g_isub hX (dk DX12_holds_0 53 rfl) ?_
            refine i_zaload hX (dk DX12_holds_0 54 rfl) (MLt hM (q := 18) (by decide)) (MS hM 18 (by decide) rfl) (ix_m1 hr) ?_
            refine g_if_eq (tgt := 116) hX (dk DX12_holds_0 55 rfl) (by decide) (fun hc12 => ?_) (fun hc12 => ?_)
            · have hbv : nb = false := by
                rw [hnb]
                first | (rw [b2_z (hPR.2.1.symm.trans hc12)]; rfl) | (rw [b2_z (hPR.1.symm.trans hc12)]; exact Bool.and_false a0)
              refine g_iconst (v := 0) hX (dk DX12_holds_1 3 rfl) (by decide) ?_
              refine g_goto (tgt := 147) hX (dk DX12_holds_1 4 rfl) (by decide) ?_
              refine i_zastore hX (dk DX12_holds_1 20 rfl) (MLt hM (q := 18) (by decide)) (MS hM 18 (by decide) rfl) (ix_m1 hr) ?_
              refine g_goto (tgt := 249) hX (dk DX12_holds_1 21 rfl) (by decide) ?_
              refine g_iinc_6 hX (dk DX12_holds_2 13 rfl) (nI_1 c) (by decide) rfl ?_
              refine g_goto (tgt := 11) hX (dk DX12_holds_2 14 rfl) (by decide) ?_
              exact g_fgt (ih k (by omega) (c + 1) (nb :: r) _ (by omega) (by omega) hev hwf2 hsl2 ⟨by rw [up0, hbv]; rfl, PR_up hPRr (Nat.le_refl _)⟩ (hfr.pc (by decide) (by decide))) ⟨rfl, rfl, rfl, rfl, rfl, rfl, rfl, trivial⟩
            · refine g_aload_0 hX (dk DX12_holds_0 56 rfl) ?_
              refine g_getRs (r := 18) hX (dk DX12_holds_0 57 rfl) KX12 fX12_107 (by decide) rfl (MLt hM (by decide)) (MC hM) (MR hM 32 (by decide) rfl) ?_
              refine g_iload_5 hX (dk DX12_holds_0 58 rfl) ?_
              refine i_zaload hX (dk DX12_holds_0 59 rfl) (MLt hM (q := 18) (by decide)) (MS hM 18 (by decide) rfl) (⟨rfl, hr1, by decide⟩) ?_
              refine g_if_eq (tgt := 116) hX (dk DX12_holds_1 0 rfl) (by decide) (fun hc13 => ?_) (fun hc13 => ?_)
              · have hbv : nb = false := by
                  rw [hnb]
                  first | (rw [b2_z (hPR.2.1.symm.trans hc13)]; rfl) | (rw [b2_z (hPR.1.symm.trans hc13)]; exact Bool.and_false a0)
                refine g_iconst (v := 0) hX (dk DX12_holds_1 3 rfl) (by decide) ?_
                refine g_goto (tgt := 147) hX (dk DX12_holds_1 4 rfl) (by decide) ?_
                refine i_zastore hX (dk DX12_holds_1 20 rfl) (MLt hM (q := 18) (by decide)) (MS hM 18 (by decide) rfl) (ix_m1 hr) ?_
                refine g_goto (tgt := 249) hX (dk DX12_holds_1 21 rfl) (by decide) ?_
                refine g_iinc_6 hX (dk DX12_holds_2 13 rfl) (nI_1 c) (by decide) rfl ?_
                refine g_goto (tgt := 11) hX (dk DX12_holds_2 14 rfl) (by decide) ?_
                exact g_fgt (ih k (by omega) (c + 1) (nb :: r) _ (by omega) (by omega) hev hwf2 hsl2 ⟨by rw [up0, hbv]; rfl, PR_up hPRr (Nat.le_refl _)⟩ (hfr.pc (by decide) (by decide))) ⟨rfl, rfl, rfl, rfl, rfl, rfl, rfl, trivial⟩
              · have hbv : nb = true := by rw [hnb, b2_n0 (b := a0) (by rw [← hPR.2.1]; assumption), b2_n0 (b := b0) (by rw [← hPR.1]; assumption)]; rfl
                refine g_iconst (v := 1) hX (dk DX12_holds_1 1 rfl) (by decide) ?_
                refine g_goto (tgt := 147) hX (dk DX12_holds_1 2 rfl) (by decide) ?_
                refine i_zastore hX (dk DX12_holds_1 20 rfl) (MLt hM (q := 18) (by decide)) (MS hM 18 (by decide) rfl) (ix_m1 hr) ?_
                refine g_goto (tgt := 249) hX (dk DX12_holds_1 21 rfl) (by decide) ?_
                refine g_iinc_6 hX (dk DX12_holds_2 13 rfl) (nI_1 c) (by decide) rfl ?_
                refine g_goto (tgt := 11) hX (dk DX12_holds_2 14 rfl) (by decide) ?_
                exact g_fgt (ih k (by omega) (c + 1) (nb :: r) _ (by omega) (by omega) hev hwf2 hsl2 ⟨by rw [up0, hbv]; rfl, PR_up hPRr (Nat.le_refl _)⟩ (hfr.pc (by decide) (by decide))) ⟨rfl, rfl, rfl, rfl, rfl, rfl, rfl, trivial⟩
      · obtain ⟨h0, rfl⟩ := depR_neg hc2 hdp
        obtain ⟨b0, r, rfl⟩ := cons_of h0
        rw [stepR_n _ _ _ _ _ _ _ hc2] at hev
        obtain ⟨nb, hnb⟩ : ∃ nb, nb = !b0 := ⟨_, rfl⟩
        rw [← hnb] at hev
        simp only [List.length_cons] at hsl
        have hsl2 : r.length + 1 ≤ c + 1 - a := by omega
        have hr : r.length < 100 := by omega
        have hPRr := hPR.2
        refine g_aload_0 hX (dk DX12_holds_0 21 rfl) ?_
        refine g_getRs (r := 18) hX (dk DX12_holds_0 22 rfl) KX12 fX12_107 (by decide) rfl (MLt hM (by decide)) (MC hM) (MR hM 32 (by decide) rfl) ?_
        refine g_iload_5 hX (dk DX12_holds_0 23 rfl) ?_
        refine g_iconst (v := 1) hX (dk DX12_holds_0 24 rfl) (by decide) ?_
        refine g_isub hX (dk DX12_holds_0 25 rfl) ?_
        refine g_aload_0 hX (dk DX12_holds_0 26 rfl) ?_
        refine g_getRs (r := 18) hX (dk DX12_holds_0 27 rfl) KX12 fX12_107 (by decide) rfl (MLt hM (by decide)) (MC hM) (MR hM 32 (by decide) rfl) ?_
        refine g_iload_5 hX (dk DX12_holds_0 28 rfl) ?_
        refine g_iconst (v := 1) hX (dk DX12_holds_0 29 rfl) (by decide) ?_
        refine g_isub hX (dk DX12_holds_0 30 rfl) ?_
        refine i_zaload hX (dk DX12_holds_0 31 rfl) (MLt hM (q := 18) (by decide)) (MS hM 18 (by decide) rfl) (ix_m1 hr) ?_
        refine g_if_ne (tgt := 62) hX (dk DX12_holds_0 32 rfl) (by decide) (fun hc14 => ?_) (fun hc14 => ?_)
        · have hbv : nb = false := by rw [hnb, b2_n0 (b := b0) (by rw [← hPR.1]; exact hc14)]; rfl
          refine g_iconst (v := 0) hX (dk DX12_holds_0 35 rfl) (by decide) ?_
          refine i_zastore hX (dk DX12_holds_0 36 rfl) (MLt hM (q := 18) (by decide)) (MS hM 18 (by decide) rfl) (ix_m1 hr) ?_
          refine g_goto (tgt := 249) hX (dk DX12_holds_0 37 rfl) (by decide) ?_
          refine g_iinc_6 hX (dk DX12_holds_2 13 rfl) (nI_1 c) (by decide) rfl ?_
          refine g_goto (tgt := 11) hX (dk DX12_holds_2 14 rfl) (by decide) ?_
          exact g_fgt (ih k (by omega) (c + 1) (nb :: r) _ (by omega) (by omega) hev hwf2 hsl2 ⟨by rw [up0, hbv]; rfl, PR_up hPRr (Nat.le_refl _)⟩ (hfr.pc (by decide) (by decide))) ⟨rfl, rfl, rfl, rfl, rfl, rfl, rfl, trivial⟩
        · have hbv : nb = true := by rw [hnb, b2_z (hPR.1.symm.trans hc14)]; rfl
          refine g_iconst (v := 1) hX (dk DX12_holds_0 33 rfl) (by decide) ?_
          refine g_goto (tgt := 63) hX (dk DX12_holds_0 34 rfl) (by decide) ?_
          refine i_zastore hX (dk DX12_holds_0 36 rfl) (MLt hM (q := 18) (by decide)) (MS hM 18 (by decide) rfl) (ix_m1 hr) ?_
          refine g_goto (tgt := 249) hX (dk DX12_holds_0 37 rfl) (by decide) ?_
          refine g_iinc_6 hX (dk DX12_holds_2 13 rfl) (nI_1 c) (by decide) rfl ?_
          refine g_goto (tgt := 11) hX (dk DX12_holds_2 14 rfl) (by decide) ?_
          exact g_fgt (ih k (by omega) (c + 1) (nb :: r) _ (by omega) (by omega) hev hwf2 hsl2 ⟨by rw [up0, hbv]; rfl, PR_up hPRr (Nat.le_refl _)⟩ (hfr.pc (by decide) (by decide))) ⟨rfl, rfl, rfl, rfl, rfl, rfl, rfl, trivial⟩
  refine g_iconst (v := 0) hX (dk DX12_holds_0 0 rfl) (by decide) ?_
  refine g_istore_5 hX (dk DX12_holds_0 1 rfl) (by decide) rfl ?_
  refine g_aload_0 hX (dk DX12_holds_0 2 rfl) ?_
  refine g_getRs (r := 13) hX (dk DX12_holds_0 3 rfl) KX12 fX12_83 (by decide) rfl (MLt hM (by decide)) (MC hM) (MR hM 24 (by decide) rfl) ?_
  refine g_iload_1 hX (dk DX12_holds_0 4 rfl) ?_
  refine i_iaload hX (dk DX12_holds_0 5 rfl) (MLt hM (q := 13) (by decide)) (MS hM 13 (by decide) rfl) (hc60) ?_
  refine g_istore_6 hX (dk DX12_holds_0 6 rfl) (by decide) rfl ?_
  rw [hcf.2.2.1, ha]
  exact g_fgt (loop11 (b - a) a [] I (by omega) (Nat.le_refl a) rfl hwf0 (Nat.zero_le _) trivial Fr.rf) ⟨rfl, rfl, rfl, rfl, rfl, rfl, rfl, trivial⟩
end
section
set_option maxRecDepth 8000 in
set_option maxHeartbeats 4000000 in
theorem c_X12_sumOf {G : Gt} (hG : Gok G) {I : It} {h : Ht} (hM : HM h) {E : It} (hE : Inv E) (hA : Ag E I) {what y w : Int32} {d : Nat} (hd : d < 10) (hwt : what = 0 ∨ what = 1) : Con G (3) 0 0 mX12_sumOf [.ref 0, .int what, .int (nI d), .int y, .int w] I h (qF (sumP E what d y w) [] [18] I h) := by
  refine con_intro (own := RX12) (lo0 := [some (.ref 0), some (.int what), some (.int (nI d)), some (.int y), some (.int w), none, none]) hG rfl pl_X12 (Nat.le_of_ble_eq_true rfl) rfl (fun X hX => ?_)
  have loop9 : ∀ (k c : Nat) (z : Int32) (J : It), c + k = beg E + ncl E → beg E ≤ c → sumF E what d y w k c z = sumP E what d y w → Fr [] [18] I J → GG G (3) 0 0 X (qF (sumP E what d y w) [] [18] I h) 9 [some (.ref 0), some (.int what), some (.int (nI d)), some (.int y), some (.int w), some (.int z), some (.int (nI c))] [] (J) (h) 0 0 := by
    intro k
    induction k using Nat.strongRecOn with | _ k ih => ?_
    intro c z J hk hbc hv hfr
    have hA := Ag.keep hA hfr (by decide) (by decide)
    have hb := beg_le hE
    refine g_iload_6 hX (dk DX12_sumOf 5 rfl) ?_
    refine g_aload_0 hX (dk DX12_sumOf 6 rfl) ?_
    refine g_c1I hX sX12_sumOf_12 (by decide) (Nat.le_of_ble_eq_true rfl) (rc0 rfl (MLt hM (by decide)) (MC hM)) (by decide) (by decide) (c_X12_behind hG hM hE hA) ?_
    refine g_icmp_ge (tgt := 64) hX (dk DX12_sumOf 8 rfl) (by decide) (fun hc1 => ?_) (fun hc1 => ?_)
    · refine g_iload_5 hX (dk DX12_sumOf 33 rfl) ?_
      refine g_ireturn hX (dk DX12_sumOf 34 rfl) rfl (rfl) (by decide) (by decide) ?_
      have hk0 := cl_end hk hb.1 hc1
      subst hk0
      exact qF_of hv hfr
    · obtain ⟨k, rfl⟩ := cl_go hk hb.1 hc1
      have hw := Ag.w hE hA (c := c) (by omega)
      refine g_iload_5 hX (dk DX12_sumOf 9 rfl) ?_
      refine g_aload_0 hX (dk DX12_sumOf 10 rfl) ?_
      refine g_getRs (r := 11) hX (dk DX12_sumOf 11 rfl) KX12 fX12_77 (by decide) rfl (MLt hM (by decide)) (MC hM) (MR hM 22 (by decide) rfl) ?_
      refine g_iload_6 hX (dk DX12_sumOf 12 rfl) ?_
      refine i_iaload hX (dk DX12_sumOf 13 rfl) (MLt hM (q := 11) (by decide)) (MS hM 11 (by decide) rfl) (hw.1) ?_
      refine g_iload_1 hX (dk DX12_sumOf 14 rfl) ?_
      refine g_icmp_ne (tgt := 54) hX (dk DX12_sumOf 15 rfl) (by decide) (fun hc2 => ?_) (fun hc2 => ?_)
      · have hif : (if E 11 c = what ∧ holdsF E c d y w = true then E 12 c else 0) = 0 := by
          rw [if_neg]
          rintro ⟨e1, e2⟩
          first | exact hc2 (hw.2.1.trans e1) | exact hc2 e2
        refine g_iconst (v := 0) hX (dk DX12_sumOf 28 rfl) (by decide) ?_
        refine g_iadd hX (dk DX12_sumOf 29 rfl) ?_
        refine g_istore_5 hX (dk DX12_sumOf 30 rfl) (by decide) rfl ?_
        refine g_iinc_6 hX (dk DX12_sumOf 31 rfl) (nI_1 c) (by decide) rfl ?_
        refine g_goto (tgt := 9) hX (dk DX12_sumOf 32 rfl) (by decide) ?_
        exact ih k (by omega) (c + 1) _ _ (by omega) (by omega) (by rw [← hv, sumF_s, hif]) hfr
      · obtain ⟨p, hp, hc60, hcl⟩ := cl_of hE hbc (by omega)
        have hew : E 11 c = what := hw.2.1.symm.trans hc2
        have hwd : E 11 c = 0 ∨ E 11 c = 1 := by rw [hew]; exact hwt
        refine g_aload_0 hX (dk DX12_sumOf 16 rfl) ?_
        refine g_iload_6 hX (dk DX12_sumOf 17 rfl) ?_
        refine g_iload_2 hX (dk DX12_sumOf 18 rfl) ?_
        refine g_iload_3 hX (dk DX12_sumOf 19 rfl) ?_
        refine g_iload_4 hX (dk DX12_sumOf 20 rfl) ?_
        refine g_c5q hX sX12_sumOf_38 (by decide) (Nat.le_of_ble_eq_true rfl) (rc0 rfl (MLt hM (by decide)) (MC hM)) (by decide) (by decide) (c_X12_holds hG hM hE hA hd hp hc60 hcl hwd) ?_
        rintro _ J2 _ ⟨rfl, hfr2, rfl⟩
        have hfr := hfr.trans hfr2
        have hA := Ag.keep hA hfr2 (by decide) (by decide)
        have hw := Ag.w hE hA (c := c) (by omega)
        refine g_ifb_eq (tgt := 54) hX (dk DX12_sumOf 22 rfl) (by decide) (fun hc3 => ?_) (fun hc3 => ?_)
        · have hif : (if E 11 c = what ∧ holdsF E c d y w = true then E 12 c else 0) = 0 := by
            rw [if_neg]
            rintro ⟨e1, e2⟩
            first | exact hc3 (hw.2.1.trans e1) | exact hc3 e2
          refine g_iconst (v := 0) hX (dk DX12_sumOf 28 rfl) (by decide) ?_
          refine g_iadd hX (dk DX12_sumOf 29 rfl) ?_
          refine g_istore_5 hX (dk DX12_sumOf 30 rfl) (by decide) rfl ?_
          refine g_iinc_6 hX (dk DX12_sumOf 31 rfl) (nI_1 c) (by decide) rfl ?_
          refine g_goto (tgt := 9) hX (dk DX12_sumOf 32 rfl) (by decide) ?_
          exact ih k (by omega) (c + 1) _ _ (by omega) (by omega) (by rw [← hv, sumF_s, hif]) hfr
        · have hif : (if E 11 c = what ∧ holdsF E c d y w = true then E 12 c else 0) = E 12 c := if_pos ⟨hew, hc3⟩
          refine g_aload_0 hX (dk DX12_sumOf 23 rfl) ?_
          refine g_getRs (r := 12) hX (dk DX12_sumOf 24 rfl) KX12 fX12_80 (by decide) rfl (MLt hM (by decide)) (MC hM) (MR hM 23 (by decide) rfl) ?_
          refine g_iload_6 hX (dk DX12_sumOf 25 rfl) ?_
          refine v_iaload hX (dk DX12_sumOf 26 rfl) (MLt hM (q := 12) (by decide)) (MS hM 12 (by decide) rfl) (hw.1) (hw.2.2.1) ?_
          refine g_goto (tgt := 55) hX (dk DX12_sumOf 27 rfl) (by decide) ?_
          refine g_iadd hX (dk DX12_sumOf 29 rfl) ?_
          refine g_istore_5 hX (dk DX12_sumOf 30 rfl) (by decide) rfl ?_
          refine g_iinc_6 hX (dk DX12_sumOf 31 rfl) (nI_1 c) (by decide) rfl ?_
          refine g_goto (tgt := 9) hX (dk DX12_sumOf 32 rfl) (by decide) ?_
          exact ih k (by omega) (c + 1) _ _ (by omega) (by omega) (by rw [← hv, sumF_s, hif]) hfr
  refine g_iconst (v := 0) hX (dk DX12_sumOf 0 rfl) (by decide) ?_
  refine g_istore_5 hX (dk DX12_sumOf 1 rfl) (by decide) rfl ?_
  refine g_aload_0 hX (dk DX12_sumOf 2 rfl) ?_
  refine g_c1I hX sX12_sumOf_4 (by decide) (Nat.le_of_ble_eq_true rfl) (rc0 rfl (MLt hM (by decide)) (MC hM)) (by decide) (by decide) (c_X12_begin hG hM hE hA) ?_
  refine g_istore_6 hX (dk DX12_sumOf 4 rfl) (by decide) rfl ?_
  exact loop9 (ncl E) (beg E) 0 I rfl (Nat.le_refl _) rfl Fr.rf
end
