section AAS
variable {G : Gt} {d mc ms : Nat} {own : String} {y : Mt} {X : Xt} {P : Pt3} {pc nx : Nat} {lo : List (Option Value)} {st : List Value} {I : It} {h : Ht} {k n : Nat}
theorem i_aastore (hX : Xok G own y X) {q t len i0 v ci N j : Nat} {C E : String} {T : u_T} {ty : Nat → FieldType} {i : Int32} (hd : dc y.2.1 pc .aastore 1 nx) (hq : q < hn h) (hc : hs h q = (t, len)) (ht : 24 ≤ t) (hty : tysL[i0]? = some (t, .object E)) (hj : idx i j len)
    (hv : v < hn h) (hvc : (hs h v).1 = ci) (hC : CLS ci C T N ty) (hCE : C = E ∨ (C, E) ∈ castL) (kk : GG G d mc ms X P nx lo st I (wR h q j (some v)) k n) : GG G d mc ms X P pc lo (.ref v :: .int i :: .ref q :: st) I h k n :=
  g_aastore hX hd hq hc ht hty (idx_in hj) hv hvc hC hCE (by rw [idx_cl hj]; exact kk)
end AAS
theorem lg_nIlen {n : Nat} : Int32.ofNat n = nI n := rfl
theorem g_c1K {G : Gt} {d mc ms : Nat} {own : String} {y : Mt} {X : Xt} {P : Pt3} {pc nx : Nat} {lo : List (Option Value)} {st : List Value} {I : It} {h : Ht} {k n : Nat} (hX : Xok G own y X) {y2 : Mt} {ci : Option Nat} {d2 mc2 ms2 : Nat} {v0 : Value} {I1 : It} {h1 : Ht} (S : Site own y pc nx y2 ci 1) (hdd : d2 + 1 ≤ d) (hst : (st.map fun v => v.category).sum ≤ 8) (hrc : ∀ c, ci = some c → ∃ b As, ([v0] : List Value) = .ref b :: As ∧ b < hn h ∧ (hs h b).1 = c) (hk : k + mc2 ≤ mc) (hms : n + ms2 ≤ ms) (hC : Con G d2 mc2 ms2 y2 [v0] I h (rV I1 h1)) (kk : GG G d mc ms X P nx lo st I1 h1 (k + mc2) (n + ms2)) : GG G d mc ms X P pc lo (v0 :: st) I h k n :=
  g_c1 hX S hdd hst hrc hk hms hC (fun r I' h' hq => by obtain ⟨rfl, rfl, rfl⟩ := hq; exact kk)
theorem g_c2K {G : Gt} {d mc ms : Nat} {own : String} {y : Mt} {X : Xt} {P : Pt3} {pc nx : Nat} {lo : List (Option Value)} {st : List Value} {I : It} {h : Ht} {k n : Nat} (hX : Xok G own y X) {y2 : Mt} {ci : Option Nat} {d2 mc2 ms2 : Nat} {v0 v1 : Value} {I1 : It} {h1 : Ht} (S : Site own y pc nx y2 ci 2) (hdd : d2 + 1 ≤ d) (hst : (st.map fun v => v.category).sum ≤ 8) (hrc : ∀ c, ci = some c → ∃ b As, ([v0, v1] : List Value) = .ref b :: As ∧ b < hn h ∧ (hs h b).1 = c) (hk : k + mc2 ≤ mc) (hms : n + ms2 ≤ ms) (hC : Con G d2 mc2 ms2 y2 [v0, v1] I h (rV I1 h1)) (kk : GG G d mc ms X P nx lo st I1 h1 (k + mc2) (n + ms2)) : GG G d mc ms X P pc lo (v1 :: v0 :: st) I h k n :=
  g_c2 hX S hdd hst hrc hk hms hC (fun r I' h' hq => by obtain ⟨rfl, rfl, rfl⟩ := hq; exact kk)
set_option maxRecDepth 8000 in
set_option maxHeartbeats 4000000 in
theorem c_State1 {G : Gt} (hG : Gok G) {I : It} {h : Ht}  (hGn : ∀ b, 2 ≤ b → b < 7 → Gnew G b) (hh : hn h = 2) (hs0 : (hs h 1).1 = 5) (hlt : 1 < hn h) : Con G (1) 5 48 mX5_init [.ref 1] I h (rV (zI (zI (zI (zI (zI I 2) 3) 4) 5) 6) (wR (zA (wR (zA (wR (zA (wR (zA (wR (zA h 2 3 (24, 10)) 1 0 (some 2)) 3 4 (20, 10)) 1 1 (some 3)) 4 5 (20, 4)) 1 5 (some 4)) 5 6 (20, 12)) 1 10 (some 5)) 6 7 (20, 12)) 1 11 (some 6))) := by
  refine con_intro (own := RX5) (lo0 := [some (.ref 1)]) hG rfl pl_X5 (Nat.le_of_ble_eq_true rfl) rfl (fun X hX => ?_)
  refine g_aload_0 hX (dk DX5_init 0 rfl) ?_
  refine g_objInit hX (dk DX5_init 1 rfl) (tg_1 31 rfl rfl) (tg_1 24 rfl rfl) (tg_1 25 rfl rfl) (by decide) (by decide) ?_
  refine g_aload_0 hX (dk DX5_init 2 rfl) ?_
  refine g_bipush (v := 10) hX (dk DX5_init 3 rfl) (by decide) ?_
  refine g_nw_ref hX 2 3 10 (by first | rfl | exact hh) rfl (dk DX5_init 4 rfl) (by decide) (i0 := 4) rfl (tg_1 32 rfl rfl) (fun U h => h.2.2.2.1.1) rfl (by decide) (hGn 2 (by decide) (by decide)) (by decide) (by decide) ?_
  refine g_putR (r := some 2) hX (dk DX5_init 5 rfl) KX5 fX5_11 (by decide) rfl (Nat.le_of_ble_eq_true rfl) hs0 (Or.inr ⟨rfl, rfl, rfl⟩) rfl (rfl) (rfl) ?_
  refine g_aload_0 hX (dk DX5_init 6 rfl) ?_
  refine g_bipush (v := 10) hX (dk DX5_init 7 rfl) (by decide) ?_
  refine g_nw_int hX 3 4 10 (by first | rfl | exact hh) rfl (dk DX5_init 8 rfl) (tg_1 96 rfl rfl) rfl (by decide) (hGn 3 (by decide) (by decide)) (by decide) (by decide) ?_
  refine g_putR (r := some 3) hX (dk DX5_init 9 rfl) KX5 fX5_17 (by decide) rfl (Nat.le_of_ble_eq_true rfl) hs0 (Or.inr ⟨rfl, rfl, rfl⟩) rfl (rfl) (rfl) ?_
  refine g_aload_0 hX (dk DX5_init 10 rfl) ?_
  refine g_iconst (v := 4) hX (dk DX5_init 11 rfl) (by decide) ?_
  refine g_nw_int hX 4 5 4 (by first | rfl | exact hh) rfl (dk DX5_init 12 rfl) (tg_1 96 rfl rfl) rfl (by decide) (hGn 4 (by decide) (by decide)) (by decide) (by decide) ?_
  refine g_putR (r := some 4) hX (dk DX5_init 13 rfl) KX5 fX5_21 (by decide) rfl (Nat.le_of_ble_eq_true rfl) hs0 (Or.inr ⟨rfl, rfl, rfl⟩) rfl (rfl) (rfl) ?_
  refine g_aload_0 hX (dk DX5_init 14 rfl) ?_
  refine g_bipush (v := 12) hX (dk DX5_init 15 rfl) (by decide) ?_
  refine g_nw_int hX 5 6 12 (by first | rfl | exact hh) rfl (dk DX5_init 16 rfl) (tg_1 96 rfl rfl) rfl (by decide) (hGn 5 (by decide) (by decide)) (by decide) (by decide) ?_
  refine g_putR (r := some 5) hX (dk DX5_init 17 rfl) KX5 fX5_24 (by decide) rfl (Nat.le_of_ble_eq_true rfl) hs0 (Or.inr ⟨rfl, rfl, rfl⟩) rfl (rfl) (rfl) ?_
  refine g_aload_0 hX (dk DX5_init 18 rfl) ?_
  refine g_bipush (v := 12) hX (dk DX5_init 19 rfl) (by decide) ?_
  refine g_nw_int hX 6 7 12 (by first | rfl | exact hh) rfl (dk DX5_init 20 rfl) (tg_1 96 rfl rfl) rfl (by decide) (hGn 6 (by decide) (by decide)) (by decide) (by decide) ?_
  refine g_putR (r := some 6) hX (dk DX5_init 21 rfl) KX5 fX5_27 (by decide) rfl (Nat.le_of_ble_eq_true rfl) hs0 (Or.inr ⟨rfl, rfl, rfl⟩) rfl (rfl) (rfl) ?_
  refine g_return hX (dk DX5_init 22 rfl) rfl (by decide) (by decide) ?_
  exact rV_of rfl rfl

set_option maxRecDepth 8000 in
set_option maxHeartbeats 4000000 in
theorem c_State7 {G : Gt} (hG : Gok G) {I : It} {h : Ht}  (hGn : ∀ b, 8 ≤ b → b < 13 → Gnew G b) (hh : hn h = 8) (hs0 : (hs h 7).1 = 5) (hlt : 7 < hn h) : Con G (1) 5 48 mX5_init [.ref 7] I h (rV (zI (zI (zI (zI (zI I 8) 9) 10) 11) 12) (wR (zA (wR (zA (wR (zA (wR (zA (wR (zA h 8 9 (24, 10)) 7 0 (some 8)) 9 10 (20, 10)) 7 1 (some 9)) 10 11 (20, 4)) 7 5 (some 10)) 11 12 (20, 12)) 7 10 (some 11)) 12 13 (20, 12)) 7 11 (some 12))) := by
  refine con_intro (own := RX5) (lo0 := [some (.ref 7)]) hG rfl pl_X5 (Nat.le_of_ble_eq_true rfl) rfl (fun X hX => ?_)
  refine g_aload_0 hX (dk DX5_init 0 rfl) ?_
  refine g_objInit hX (dk DX5_init 1 rfl) (tg_1 31 rfl rfl) (tg_1 24 rfl rfl) (tg_1 25 rfl rfl) (by decide) (by decide) ?_
  refine g_aload_0 hX (dk DX5_init 2 rfl) ?_
  refine g_bipush (v := 10) hX (dk DX5_init 3 rfl) (by decide) ?_
  refine g_nw_ref hX 8 9 10 (by first | rfl | exact hh) rfl (dk DX5_init 4 rfl) (by decide) (i0 := 4) rfl (tg_1 32 rfl rfl) (fun U h => h.2.2.2.1.1) rfl (by decide) (hGn 8 (by decide) (by decide)) (by decide) (by decide) ?_
  refine g_putR (r := some 8) hX (dk DX5_init 5 rfl) KX5 fX5_11 (by decide) rfl (Nat.le_of_ble_eq_true rfl) hs0 (Or.inr ⟨rfl, rfl, rfl⟩) rfl (rfl) (rfl) ?_
  refine g_aload_0 hX (dk DX5_init 6 rfl) ?_
  refine g_bipush (v := 10) hX (dk DX5_init 7 rfl) (by decide) ?_
  refine g_nw_int hX 9 10 10 (by first | rfl | exact hh) rfl (dk DX5_init 8 rfl) (tg_1 96 rfl rfl) rfl (by decide) (hGn 9 (by decide) (by decide)) (by decide) (by decide) ?_
  refine g_putR (r := some 9) hX (dk DX5_init 9 rfl) KX5 fX5_17 (by decide) rfl (Nat.le_of_ble_eq_true rfl) hs0 (Or.inr ⟨rfl, rfl, rfl⟩) rfl (rfl) (rfl) ?_
  refine g_aload_0 hX (dk DX5_init 10 rfl) ?_
  refine g_iconst (v := 4) hX (dk DX5_init 11 rfl) (by decide) ?_
  refine g_nw_int hX 10 11 4 (by first | rfl | exact hh) rfl (dk DX5_init 12 rfl) (tg_1 96 rfl rfl) rfl (by decide) (hGn 10 (by decide) (by decide)) (by decide) (by decide) ?_
  refine g_putR (r := some 10) hX (dk DX5_init 13 rfl) KX5 fX5_21 (by decide) rfl (Nat.le_of_ble_eq_true rfl) hs0 (Or.inr ⟨rfl, rfl, rfl⟩) rfl (rfl) (rfl) ?_
  refine g_aload_0 hX (dk DX5_init 14 rfl) ?_
  refine g_bipush (v := 12) hX (dk DX5_init 15 rfl) (by decide) ?_
  refine g_nw_int hX 11 12 12 (by first | rfl | exact hh) rfl (dk DX5_init 16 rfl) (tg_1 96 rfl rfl) rfl (by decide) (hGn 11 (by decide) (by decide)) (by decide) (by decide) ?_
  refine g_putR (r := some 11) hX (dk DX5_init 17 rfl) KX5 fX5_24 (by decide) rfl (Nat.le_of_ble_eq_true rfl) hs0 (Or.inr ⟨rfl, rfl, rfl⟩) rfl (rfl) (rfl) ?_
  refine g_aload_0 hX (dk DX5_init 18 rfl) ?_
  refine g_bipush (v := 12) hX (dk DX5_init 19 rfl) (by decide) ?_
  refine g_nw_int hX 12 13 12 (by first | rfl | exact hh) rfl (dk DX5_init 20 rfl) (tg_1 96 rfl rfl) rfl (by decide) (hGn 12 (by decide) (by decide)) (by decide) (by decide) ?_
  refine g_putR (r := some 12) hX (dk DX5_init 21 rfl) KX5 fX5_27 (by decide) rfl (Nat.le_of_ble_eq_true rfl) hs0 (Or.inr ⟨rfl, rfl, rfl⟩) rfl (rfl) (rfl) ?_
  refine g_return hX (dk DX5_init 22 rfl) rfl (by decide) (by decide) ?_
  exact rV_of rfl rfl

set_option maxRecDepth 8000 in
set_option maxHeartbeats 4000000 in
theorem c_Ahead {G : Gt} (hG : Gok G) {I : It} {h : Ht}  (hGn : ∀ b, 14 ≤ b → b < 30 → Gnew G b) (hh : hn h = 14) (hs0 : (hs h 13).1 = 0) (hlt : 13 < hn h) : Con G (1) 16 1058 mX0_init [.ref 13, .ref 1] I h (rV (zI (zI (zI (zMI (zI (zI I 14) 15) 16 10) 27) 28) 29) (wR (wR (zA (wR (zA (wR (zA (wR (zM (wR (zA (wR (zA h 14 15 (20, 200)) 13 2 (some 14)) 15 16 (20, 600)) 13 3 (some 15)) 16 27 10 (26, 10) (20, 4)) 13 4 (some 16)) 27 28 (20, 200)) 13 5 (some 27)) 28 29 (20, 4)) 13 14 (some 28)) 29 30 (20, 4)) 13 15 (some 29)) 13 0 (some 1))) := by
  refine con_intro (own := RX0) (lo0 := [some (.ref 13), some (.ref 1)]) hG rfl pl_X0 (Nat.le_of_ble_eq_true rfl) rfl (fun X hX => ?_)
  refine g_aload_0 hX (dk DX0_init 0 rfl) ?_
  refine g_objInit hX (dk DX0_init 1 rfl) (tg_1 102 rfl rfl) (tg_1 24 rfl rfl) (tg_1 25 rfl rfl) (by decide) (by decide) ?_
  refine g_aload_0 hX (dk DX0_init 2 rfl) ?_
  refine g_sipush (v := 200) hX (dk DX0_init 3 rfl) (by decide) ?_
  refine g_nw_int hX 14 15 200 (by first | rfl | exact hh) rfl (dk DX0_init 4 rfl) (tg_1 96 rfl rfl) rfl (by decide) (hGn 14 (by decide) (by decide)) (by decide) (by decide) ?_
  refine g_putR (r := some 14) hX (dk DX0_init 5 rfl) KX0 fX0_9 (by decide) rfl (Nat.le_of_ble_eq_true rfl) hs0 (Or.inr ⟨rfl, rfl, rfl⟩) rfl (rfl) (rfl) ?_
  refine g_aload_0 hX (dk DX0_init 6 rfl) ?_
  refine g_sipush (v := 600) hX (dk DX0_init 7 rfl) (by decide) ?_
  refine g_nw_int hX 15 16 600 (by first | rfl | exact hh) rfl (dk DX0_init 8 rfl) (tg_1 96 rfl rfl) rfl (by decide) (hGn 15 (by decide) (by decide)) (by decide) (by decide) ?_
  refine g_putR (r := some 15) hX (dk DX0_init 9 rfl) KX0 fX0_17 (by decide) rfl (Nat.le_of_ble_eq_true rfl) hs0 (Or.inr ⟨rfl, rfl, rfl⟩) rfl (rfl) (rfl) ?_
  refine g_aload_0 hX (dk DX0_init 10 rfl) ?_
  refine g_bipush (v := 10) hX (dk DX0_init 11 rfl) (by decide) ?_
  refine g_iconst (v := 4) hX (dk DX0_init 12 rfl) (by decide) ?_
  refine g_nw_multi_int hX 16 27 10 4 (by first | rfl | exact hh) rfl (dk DX0_init 13 rfl) (tg_1 103 rfl rfl) (tg_1 96 rfl rfl) rfl rfl (by decide) (by decide) (fun j hj => hGn _ (by omega) (by omega)) (by decide) (by decide) ?_
  refine g_putR (r := some 16) hX (dk DX0_init 14 rfl) KX0 fX0_22 (by decide) rfl (Nat.le_of_ble_eq_true rfl) hs0 (Or.inr ⟨rfl, rfl, rfl⟩) rfl (rfl) (rfl) ?_
  refine g_aload_0 hX (dk DX0_init 15 rfl) ?_
  refine g_sipush (v := 200) hX (dk DX0_init 16 rfl) (by decide) ?_
  refine g_nw_int hX 27 28 200 (by first | rfl | exact hh) rfl (dk DX0_init 17 rfl) (tg_1 96 rfl rfl) rfl (by decide) (hGn 27 (by decide) (by decide)) (by decide) (by decide) ?_
  refine g_putR (r := some 27) hX (dk DX0_init 18 rfl) KX0 fX0_25 (by decide) rfl (Nat.le_of_ble_eq_true rfl) hs0 (Or.inr ⟨rfl, rfl, rfl⟩) rfl (rfl) (rfl) ?_
  refine g_aload_0 hX (dk DX0_init 19 rfl) ?_
  refine g_iconst (v := 4) hX (dk DX0_init 20 rfl) (by decide) ?_
  refine g_nw_int hX 28 29 4 (by first | rfl | exact hh) rfl (dk DX0_init 21 rfl) (tg_1 96 rfl rfl) rfl (by decide) (hGn 28 (by decide) (by decide)) (by decide) (by decide) ?_
  refine g_putR (r := some 28) hX (dk DX0_init 22 rfl) KX0 fX0_28 (by decide) rfl (Nat.le_of_ble_eq_true rfl) hs0 (Or.inr ⟨rfl, rfl, rfl⟩) rfl (rfl) (rfl) ?_
  refine g_aload_0 hX (dk DX0_init 23 rfl) ?_
  refine g_iconst (v := 4) hX (dk DX0_init 24 rfl) (by decide) ?_
  refine g_nw_int hX 29 30 4 (by first | rfl | exact hh) rfl (dk DX0_init 25 rfl) (tg_1 96 rfl rfl) rfl (by decide) (hGn 29 (by decide) (by decide)) (by decide) (by decide) ?_
  refine g_putR (r := some 29) hX (dk DX0_init 26 rfl) KX0 fX0_31 (by decide) rfl (Nat.le_of_ble_eq_true rfl) hs0 (Or.inr ⟨rfl, rfl, rfl⟩) rfl (rfl) (rfl) ?_
  refine g_aload_0 hX (dk DX0_init 27 rfl) ?_
  refine g_aload_1 hX (dk DX0_init 28 rfl) ?_
  refine g_putR (r := some 1) hX (dk DX0_init 29 rfl) KX0 fX0_34 (by decide) rfl (Nat.le_of_ble_eq_true rfl) hs0 (Or.inr ⟨rfl, rfl, rfl⟩) rfl (rfl) (rfl) ?_
  refine g_return hX (dk DX0_init 30 rfl) rfl (by decide) (by decide) ?_
  exact rV_of rfl rfl

set_option maxRecDepth 8000 in
set_option maxHeartbeats 4000000 in
theorem c_Trace {G : Gt} (hG : Gok G) {I : It} {h : Ht}  (hGn : ∀ b, 33 ≤ b → b < 34 → Gnew G b) (hh : hn h = 33) (hs0 : (hs h 32).1 = 7) (hlt : 32 < hn h) : Con G (1) 1 20 mX7_init [.ref 32] I h (rV (zI I 33) (wR (zA h 33 34 (20, 20)) 32 0 (some 33))) := by
  refine con_intro (own := RX7) (lo0 := [some (.ref 32)]) hG rfl pl_X7 (Nat.le_of_ble_eq_true rfl) rfl (fun X hX => ?_)
  refine g_aload_0 hX (dk DX7_init 0 rfl) ?_
  refine g_objInit hX (dk DX7_init 1 rfl) (tg_1 167 rfl rfl) (tg_1 24 rfl rfl) (tg_1 25 rfl rfl) (by decide) (by decide) ?_
  refine g_aload_0 hX (dk DX7_init 2 rfl) ?_
  refine g_bipush (v := 20) hX (dk DX7_init 3 rfl) (by decide) ?_
  refine g_nw_int hX 33 34 20 (by first | rfl | exact hh) rfl (dk DX7_init 4 rfl) (tg_1 96 rfl rfl) rfl (by decide) (hGn 33 (by decide) (by decide)) (by decide) (by decide) ?_
  refine g_putR (r := some 33) hX (dk DX7_init 5 rfl) KX7 fX7_7 (by decide) rfl (Nat.le_of_ble_eq_true rfl) hs0 (Or.inr ⟨rfl, rfl, rfl⟩) rfl (rfl) (rfl) ?_
  refine g_return hX (dk DX7_init 6 rfl) rfl (by decide) (by decide) ?_
  exact rV_of rfl rfl

set_option maxRecDepth 8000 in
set_option maxHeartbeats 4000000 in
theorem c_Post0 {G : Gt} (hG : Gok G) {I : It} {h : Ht}  (hGn : ∀ b, 44 ≤ b → b < 48 → Gnew G b) (hh : hn h = 44) (hs0 : (hs h 43).1 = 3) (hlt : 43 < hn h) : Con G (1) 4 130 mX3_init [.ref 43, .ref 31] I h (rV (zI (zI (zI (zI I 44) 45) 46) 47) (wR (wR (zA (wR (zA (wR (zA (wR (zA h 44 45 (20, 10)) 43 3 (some 44)) 45 46 (20, 10)) 43 4 (some 45)) 46 47 (20, 10)) 43 5 (some 46)) 47 48 (20, 100)) 43 6 (some 47)) 43 8 (some 31))) := by
  refine con_intro (own := RX3) (lo0 := [some (.ref 43), some (.ref 31)]) hG rfl pl_X3 (Nat.le_of_ble_eq_true rfl) rfl (fun X hX => ?_)
  refine g_aload_0 hX (dk DX3_init 0 rfl) ?_
  refine g_objInit hX (dk DX3_init 1 rfl) (tg_1 187 rfl rfl) (tg_1 24 rfl rfl) (tg_1 25 rfl rfl) (by decide) (by decide) ?_
  refine g_aload_0 hX (dk DX3_init 2 rfl) ?_
  refine g_bipush (v := 10) hX (dk DX3_init 3 rfl) (by decide) ?_
  refine g_nw_int hX 44 45 10 (by first | rfl | exact hh) rfl (dk DX3_init 4 rfl) (tg_1 96 rfl rfl) rfl (by decide) (hGn 44 (by decide) (by decide)) (by decide) (by decide) ?_
  refine g_putR (r := some 44) hX (dk DX3_init 5 rfl) KX3 fX3_11 (by decide) rfl (Nat.le_of_ble_eq_true rfl) hs0 (Or.inr ⟨rfl, rfl, rfl⟩) rfl (rfl) (rfl) ?_
  refine g_aload_0 hX (dk DX3_init 6 rfl) ?_
  refine g_bipush (v := 10) hX (dk DX3_init 7 rfl) (by decide) ?_
  refine g_nw_int hX 45 46 10 (by first | rfl | exact hh) rfl (dk DX3_init 8 rfl) (tg_1 96 rfl rfl) rfl (by decide) (hGn 45 (by decide) (by decide)) (by decide) (by decide) ?_
  refine g_putR (r := some 45) hX (dk DX3_init 9 rfl) KX3 fX3_15 (by decide) rfl (Nat.le_of_ble_eq_true rfl) hs0 (Or.inr ⟨rfl, rfl, rfl⟩) rfl (rfl) (rfl) ?_
  refine g_aload_0 hX (dk DX3_init 10 rfl) ?_
  refine g_bipush (v := 10) hX (dk DX3_init 11 rfl) (by decide) ?_
  refine g_nw_int hX 46 47 10 (by first | rfl | exact hh) rfl (dk DX3_init 12 rfl) (tg_1 96 rfl rfl) rfl (by decide) (hGn 46 (by decide) (by decide)) (by decide) (by decide) ?_
  refine g_putR (r := some 46) hX (dk DX3_init 13 rfl) KX3 fX3_18 (by decide) rfl (Nat.le_of_ble_eq_true rfl) hs0 (Or.inr ⟨rfl, rfl, rfl⟩) rfl (rfl) (rfl) ?_
  refine g_aload_0 hX (dk DX3_init 14 rfl) ?_
  refine g_bipush (v := 100) hX (dk DX3_init 15 rfl) (by decide) ?_
  refine g_nw_int hX 47 48 100 (by first | rfl | exact hh) rfl (dk DX3_init 16 rfl) (tg_1 96 rfl rfl) rfl (by decide) (hGn 47 (by decide) (by decide)) (by decide) (by decide) ?_
  refine g_putR (r := some 47) hX (dk DX3_init 17 rfl) KX3 fX3_21 (by decide) rfl (Nat.le_of_ble_eq_true rfl) hs0 (Or.inr ⟨rfl, rfl, rfl⟩) rfl (rfl) (rfl) ?_
  refine g_aload_0 hX (dk DX3_init 18 rfl) ?_
  refine g_aload_1 hX (dk DX3_init 19 rfl) ?_
  refine g_putR (r := some 31) hX (dk DX3_init 20 rfl) KX3 fX3_24 (by decide) rfl (Nat.le_of_ble_eq_true rfl) hs0 (Or.inr ⟨rfl, rfl, rfl⟩) rfl (rfl) (rfl) ?_
  refine g_return hX (dk DX3_init 21 rfl) rfl (by decide) (by decide) ?_
  exact rV_of rfl rfl

set_option maxRecDepth 8000 in
set_option maxHeartbeats 4000000 in
theorem c_Post1 {G : Gt} (hG : Gok G) {I : It} {h : Ht}  (hGn : ∀ b, 49 ≤ b → b < 53 → Gnew G b) (hh : hn h = 49) (hs0 : (hs h 48).1 = 3) (hlt : 48 < hn h) : Con G (1) 4 130 mX3_init [.ref 48, .ref 31] I h (rV (zI (zI (zI (zI I 49) 50) 51) 52) (wR (wR (zA (wR (zA (wR (zA (wR (zA h 49 50 (20, 10)) 48 3 (some 49)) 50 51 (20, 10)) 48 4 (some 50)) 51 52 (20, 10)) 48 5 (some 51)) 52 53 (20, 100)) 48 6 (some 52)) 48 8 (some 31))) := by
  refine con_intro (own := RX3) (lo0 := [some (.ref 48), some (.ref 31)]) hG rfl pl_X3 (Nat.le_of_ble_eq_true rfl) rfl (fun X hX => ?_)
  refine g_aload_0 hX (dk DX3_init 0 rfl) ?_
  refine g_objInit hX (dk DX3_init 1 rfl) (tg_1 187 rfl rfl) (tg_1 24 rfl rfl) (tg_1 25 rfl rfl) (by decide) (by decide) ?_
  refine g_aload_0 hX (dk DX3_init 2 rfl) ?_
  refine g_bipush (v := 10) hX (dk DX3_init 3 rfl) (by decide) ?_
  refine g_nw_int hX 49 50 10 (by first | rfl | exact hh) rfl (dk DX3_init 4 rfl) (tg_1 96 rfl rfl) rfl (by decide) (hGn 49 (by decide) (by decide)) (by decide) (by decide) ?_
  refine g_putR (r := some 49) hX (dk DX3_init 5 rfl) KX3 fX3_11 (by decide) rfl (Nat.le_of_ble_eq_true rfl) hs0 (Or.inr ⟨rfl, rfl, rfl⟩) rfl (rfl) (rfl) ?_
  refine g_aload_0 hX (dk DX3_init 6 rfl) ?_
  refine g_bipush (v := 10) hX (dk DX3_init 7 rfl) (by decide) ?_
  refine g_nw_int hX 50 51 10 (by first | rfl | exact hh) rfl (dk DX3_init 8 rfl) (tg_1 96 rfl rfl) rfl (by decide) (hGn 50 (by decide) (by decide)) (by decide) (by decide) ?_
  refine g_putR (r := some 50) hX (dk DX3_init 9 rfl) KX3 fX3_15 (by decide) rfl (Nat.le_of_ble_eq_true rfl) hs0 (Or.inr ⟨rfl, rfl, rfl⟩) rfl (rfl) (rfl) ?_
  refine g_aload_0 hX (dk DX3_init 10 rfl) ?_
  refine g_bipush (v := 10) hX (dk DX3_init 11 rfl) (by decide) ?_
  refine g_nw_int hX 51 52 10 (by first | rfl | exact hh) rfl (dk DX3_init 12 rfl) (tg_1 96 rfl rfl) rfl (by decide) (hGn 51 (by decide) (by decide)) (by decide) (by decide) ?_
  refine g_putR (r := some 51) hX (dk DX3_init 13 rfl) KX3 fX3_18 (by decide) rfl (Nat.le_of_ble_eq_true rfl) hs0 (Or.inr ⟨rfl, rfl, rfl⟩) rfl (rfl) (rfl) ?_
  refine g_aload_0 hX (dk DX3_init 14 rfl) ?_
  refine g_bipush (v := 100) hX (dk DX3_init 15 rfl) (by decide) ?_
  refine g_nw_int hX 52 53 100 (by first | rfl | exact hh) rfl (dk DX3_init 16 rfl) (tg_1 96 rfl rfl) rfl (by decide) (hGn 52 (by decide) (by decide)) (by decide) (by decide) ?_
  refine g_putR (r := some 52) hX (dk DX3_init 17 rfl) KX3 fX3_21 (by decide) rfl (Nat.le_of_ble_eq_true rfl) hs0 (Or.inr ⟨rfl, rfl, rfl⟩) rfl (rfl) (rfl) ?_
  refine g_aload_0 hX (dk DX3_init 18 rfl) ?_
  refine g_aload_1 hX (dk DX3_init 19 rfl) ?_
  refine g_putR (r := some 31) hX (dk DX3_init 20 rfl) KX3 fX3_24 (by decide) rfl (Nat.le_of_ble_eq_true rfl) hs0 (Or.inr ⟨rfl, rfl, rfl⟩) rfl (rfl) (rfl) ?_
  refine g_return hX (dk DX3_init 21 rfl) rfl (by decide) (by decide) ?_
  exact rV_of rfl rfl

set_option maxRecDepth 8000 in
set_option maxHeartbeats 4000000 in
theorem c_Post2 {G : Gt} (hG : Gok G) {I : It} {h : Ht}  (hGn : ∀ b, 54 ≤ b → b < 58 → Gnew G b) (hh : hn h = 54) (hs0 : (hs h 53).1 = 3) (hlt : 53 < hn h) : Con G (1) 4 130 mX3_init [.ref 53, .ref 31] I h (rV (zI (zI (zI (zI I 54) 55) 56) 57) (wR (wR (zA (wR (zA (wR (zA (wR (zA h 54 55 (20, 10)) 53 3 (some 54)) 55 56 (20, 10)) 53 4 (some 55)) 56 57 (20, 10)) 53 5 (some 56)) 57 58 (20, 100)) 53 6 (some 57)) 53 8 (some 31))) := by
  refine con_intro (own := RX3) (lo0 := [some (.ref 53), some (.ref 31)]) hG rfl pl_X3 (Nat.le_of_ble_eq_true rfl) rfl (fun X hX => ?_)
  refine g_aload_0 hX (dk DX3_init 0 rfl) ?_
  refine g_objInit hX (dk DX3_init 1 rfl) (tg_1 187 rfl rfl) (tg_1 24 rfl rfl) (tg_1 25 rfl rfl) (by decide) (by decide) ?_
  refine g_aload_0 hX (dk DX3_init 2 rfl) ?_
  refine g_bipush (v := 10) hX (dk DX3_init 3 rfl) (by decide) ?_
  refine g_nw_int hX 54 55 10 (by first | rfl | exact hh) rfl (dk DX3_init 4 rfl) (tg_1 96 rfl rfl) rfl (by decide) (hGn 54 (by decide) (by decide)) (by decide) (by decide) ?_
  refine g_putR (r := some 54) hX (dk DX3_init 5 rfl) KX3 fX3_11 (by decide) rfl (Nat.le_of_ble_eq_true rfl) hs0 (Or.inr ⟨rfl, rfl, rfl⟩) rfl (rfl) (rfl) ?_
  refine g_aload_0 hX (dk DX3_init 6 rfl) ?_
  refine g_bipush (v := 10) hX (dk DX3_init 7 rfl) (by decide) ?_
  refine g_nw_int hX 55 56 10 (by first | rfl | exact hh) rfl (dk DX3_init 8 rfl) (tg_1 96 rfl rfl) rfl (by decide) (hGn 55 (by decide) (by decide)) (by decide) (by decide) ?_
  refine g_putR (r := some 55) hX (dk DX3_init 9 rfl) KX3 fX3_15 (by decide) rfl (Nat.le_of_ble_eq_true rfl) hs0 (Or.inr ⟨rfl, rfl, rfl⟩) rfl (rfl) (rfl) ?_
  refine g_aload_0 hX (dk DX3_init 10 rfl) ?_
  refine g_bipush (v := 10) hX (dk DX3_init 11 rfl) (by decide) ?_
  refine g_nw_int hX 56 57 10 (by first | rfl | exact hh) rfl (dk DX3_init 12 rfl) (tg_1 96 rfl rfl) rfl (by decide) (hGn 56 (by decide) (by decide)) (by decide) (by decide) ?_
  refine g_putR (r := some 56) hX (dk DX3_init 13 rfl) KX3 fX3_18 (by decide) rfl (Nat.le_of_ble_eq_true rfl) hs0 (Or.inr ⟨rfl, rfl, rfl⟩) rfl (rfl) (rfl) ?_
  refine g_aload_0 hX (dk DX3_init 14 rfl) ?_
  refine g_bipush (v := 100) hX (dk DX3_init 15 rfl) (by decide) ?_
  refine g_nw_int hX 57 58 100 (by first | rfl | exact hh) rfl (dk DX3_init 16 rfl) (tg_1 96 rfl rfl) rfl (by decide) (hGn 57 (by decide) (by decide)) (by decide) (by decide) ?_
  refine g_putR (r := some 57) hX (dk DX3_init 17 rfl) KX3 fX3_21 (by decide) rfl (Nat.le_of_ble_eq_true rfl) hs0 (Or.inr ⟨rfl, rfl, rfl⟩) rfl (rfl) (rfl) ?_
  refine g_aload_0 hX (dk DX3_init 18 rfl) ?_
  refine g_aload_1 hX (dk DX3_init 19 rfl) ?_
  refine g_putR (r := some 31) hX (dk DX3_init 20 rfl) KX3 fX3_24 (by decide) rfl (Nat.le_of_ble_eq_true rfl) hs0 (Or.inr ⟨rfl, rfl, rfl⟩) rfl (rfl) (rfl) ?_
  refine g_return hX (dk DX3_init 21 rfl) rfl (by decide) (by decide) ?_
  exact rV_of rfl rfl

set_option maxRecDepth 8000 in
set_option maxHeartbeats 4000000 in
theorem c_Post3 {G : Gt} (hG : Gok G) {I : It} {h : Ht}  (hGn : ∀ b, 59 ≤ b → b < 63 → Gnew G b) (hh : hn h = 59) (hs0 : (hs h 58).1 = 3) (hlt : 58 < hn h) : Con G (1) 4 130 mX3_init [.ref 58, .ref 31] I h (rV (zI (zI (zI (zI I 59) 60) 61) 62) (wR (wR (zA (wR (zA (wR (zA (wR (zA h 59 60 (20, 10)) 58 3 (some 59)) 60 61 (20, 10)) 58 4 (some 60)) 61 62 (20, 10)) 58 5 (some 61)) 62 63 (20, 100)) 58 6 (some 62)) 58 8 (some 31))) := by
  refine con_intro (own := RX3) (lo0 := [some (.ref 58), some (.ref 31)]) hG rfl pl_X3 (Nat.le_of_ble_eq_true rfl) rfl (fun X hX => ?_)
  refine g_aload_0 hX (dk DX3_init 0 rfl) ?_
  refine g_objInit hX (dk DX3_init 1 rfl) (tg_1 187 rfl rfl) (tg_1 24 rfl rfl) (tg_1 25 rfl rfl) (by decide) (by decide) ?_
  refine g_aload_0 hX (dk DX3_init 2 rfl) ?_
  refine g_bipush (v := 10) hX (dk DX3_init 3 rfl) (by decide) ?_
  refine g_nw_int hX 59 60 10 (by first | rfl | exact hh) rfl (dk DX3_init 4 rfl) (tg_1 96 rfl rfl) rfl (by decide) (hGn 59 (by decide) (by decide)) (by decide) (by decide) ?_
  refine g_putR (r := some 59) hX (dk DX3_init 5 rfl) KX3 fX3_11 (by decide) rfl (Nat.le_of_ble_eq_true rfl) hs0 (Or.inr ⟨rfl, rfl, rfl⟩) rfl (rfl) (rfl) ?_
  refine g_aload_0 hX (dk DX3_init 6 rfl) ?_
  refine g_bipush (v := 10) hX (dk DX3_init 7 rfl) (by decide) ?_
  refine g_nw_int hX 60 61 10 (by first | rfl | exact hh) rfl (dk DX3_init 8 rfl) (tg_1 96 rfl rfl) rfl (by decide) (hGn 60 (by decide) (by decide)) (by decide) (by decide) ?_
  refine g_putR (r := some 60) hX (dk DX3_init 9 rfl) KX3 fX3_15 (by decide) rfl (Nat.le_of_ble_eq_true rfl) hs0 (Or.inr ⟨rfl, rfl, rfl⟩) rfl (rfl) (rfl) ?_
  refine g_aload_0 hX (dk DX3_init 10 rfl) ?_
  refine g_bipush (v := 10) hX (dk DX3_init 11 rfl) (by decide) ?_
  refine g_nw_int hX 61 62 10 (by first | rfl | exact hh) rfl (dk DX3_init 12 rfl) (tg_1 96 rfl rfl) rfl (by decide) (hGn 61 (by decide) (by decide)) (by decide) (by decide) ?_
  refine g_putR (r := some 61) hX (dk DX3_init 13 rfl) KX3 fX3_18 (by decide) rfl (Nat.le_of_ble_eq_true rfl) hs0 (Or.inr ⟨rfl, rfl, rfl⟩) rfl (rfl) (rfl) ?_
  refine g_aload_0 hX (dk DX3_init 14 rfl) ?_
  refine g_bipush (v := 100) hX (dk DX3_init 15 rfl) (by decide) ?_
  refine g_nw_int hX 62 63 100 (by first | rfl | exact hh) rfl (dk DX3_init 16 rfl) (tg_1 96 rfl rfl) rfl (by decide) (hGn 62 (by decide) (by decide)) (by decide) (by decide) ?_
  refine g_putR (r := some 62) hX (dk DX3_init 17 rfl) KX3 fX3_21 (by decide) rfl (Nat.le_of_ble_eq_true rfl) hs0 (Or.inr ⟨rfl, rfl, rfl⟩) rfl (rfl) (rfl) ?_
  refine g_aload_0 hX (dk DX3_init 18 rfl) ?_
  refine g_aload_1 hX (dk DX3_init 19 rfl) ?_
  refine g_putR (r := some 31) hX (dk DX3_init 20 rfl) KX3 fX3_24 (by decide) rfl (Nat.le_of_ble_eq_true rfl) hs0 (Or.inr ⟨rfl, rfl, rfl⟩) rfl (rfl) (rfl) ?_
  refine g_return hX (dk DX3_init 21 rfl) rfl (by decide) (by decide) ?_
  exact rV_of rfl rfl

set_option maxRecDepth 8000 in
set_option maxHeartbeats 4000000 in
theorem c_Post4 {G : Gt} (hG : Gok G) {I : It} {h : Ht}  (hGn : ∀ b, 64 ≤ b → b < 68 → Gnew G b) (hh : hn h = 64) (hs0 : (hs h 63).1 = 3) (hlt : 63 < hn h) : Con G (1) 4 130 mX3_init [.ref 63, .ref 31] I h (rV (zI (zI (zI (zI I 64) 65) 66) 67) (wR (wR (zA (wR (zA (wR (zA (wR (zA h 64 65 (20, 10)) 63 3 (some 64)) 65 66 (20, 10)) 63 4 (some 65)) 66 67 (20, 10)) 63 5 (some 66)) 67 68 (20, 100)) 63 6 (some 67)) 63 8 (some 31))) := by
  refine con_intro (own := RX3) (lo0 := [some (.ref 63), some (.ref 31)]) hG rfl pl_X3 (Nat.le_of_ble_eq_true rfl) rfl (fun X hX => ?_)
  refine g_aload_0 hX (dk DX3_init 0 rfl) ?_
  refine g_objInit hX (dk DX3_init 1 rfl) (tg_1 187 rfl rfl) (tg_1 24 rfl rfl) (tg_1 25 rfl rfl) (by decide) (by decide) ?_
  refine g_aload_0 hX (dk DX3_init 2 rfl) ?_
  refine g_bipush (v := 10) hX (dk DX3_init 3 rfl) (by decide) ?_
  refine g_nw_int hX 64 65 10 (by first | rfl | exact hh) rfl (dk DX3_init 4 rfl) (tg_1 96 rfl rfl) rfl (by decide) (hGn 64 (by decide) (by decide)) (by decide) (by decide) ?_
  refine g_putR (r := some 64) hX (dk DX3_init 5 rfl) KX3 fX3_11 (by decide) rfl (Nat.le_of_ble_eq_true rfl) hs0 (Or.inr ⟨rfl, rfl, rfl⟩) rfl (rfl) (rfl) ?_
  refine g_aload_0 hX (dk DX3_init 6 rfl) ?_
  refine g_bipush (v := 10) hX (dk DX3_init 7 rfl) (by decide) ?_
  refine g_nw_int hX 65 66 10 (by first | rfl | exact hh) rfl (dk DX3_init 8 rfl) (tg_1 96 rfl rfl) rfl (by decide) (hGn 65 (by decide) (by decide)) (by decide) (by decide) ?_
  refine g_putR (r := some 65) hX (dk DX3_init 9 rfl) KX3 fX3_15 (by decide) rfl (Nat.le_of_ble_eq_true rfl) hs0 (Or.inr ⟨rfl, rfl, rfl⟩) rfl (rfl) (rfl) ?_
  refine g_aload_0 hX (dk DX3_init 10 rfl) ?_
  refine g_bipush (v := 10) hX (dk DX3_init 11 rfl) (by decide) ?_
  refine g_nw_int hX 66 67 10 (by first | rfl | exact hh) rfl (dk DX3_init 12 rfl) (tg_1 96 rfl rfl) rfl (by decide) (hGn 66 (by decide) (by decide)) (by decide) (by decide) ?_
  refine g_putR (r := some 66) hX (dk DX3_init 13 rfl) KX3 fX3_18 (by decide) rfl (Nat.le_of_ble_eq_true rfl) hs0 (Or.inr ⟨rfl, rfl, rfl⟩) rfl (rfl) (rfl) ?_
  refine g_aload_0 hX (dk DX3_init 14 rfl) ?_
  refine g_bipush (v := 100) hX (dk DX3_init 15 rfl) (by decide) ?_
  refine g_nw_int hX 67 68 100 (by first | rfl | exact hh) rfl (dk DX3_init 16 rfl) (tg_1 96 rfl rfl) rfl (by decide) (hGn 67 (by decide) (by decide)) (by decide) (by decide) ?_
  refine g_putR (r := some 67) hX (dk DX3_init 17 rfl) KX3 fX3_21 (by decide) rfl (Nat.le_of_ble_eq_true rfl) hs0 (Or.inr ⟨rfl, rfl, rfl⟩) rfl (rfl) (rfl) ?_
  refine g_aload_0 hX (dk DX3_init 18 rfl) ?_
  refine g_aload_1 hX (dk DX3_init 19 rfl) ?_
  refine g_putR (r := some 31) hX (dk DX3_init 20 rfl) KX3 fX3_24 (by decide) rfl (Nat.le_of_ble_eq_true rfl) hs0 (Or.inr ⟨rfl, rfl, rfl⟩) rfl (rfl) (rfl) ?_
  refine g_return hX (dk DX3_init 21 rfl) rfl (by decide) (by decide) ?_
  exact rV_of rfl rfl

set_option maxRecDepth 8000 in
set_option maxHeartbeats 4000000 in
theorem c_Post5 {G : Gt} (hG : Gok G) {I : It} {h : Ht}  (hGn : ∀ b, 69 ≤ b → b < 73 → Gnew G b) (hh : hn h = 69) (hs0 : (hs h 68).1 = 3) (hlt : 68 < hn h) : Con G (1) 4 130 mX3_init [.ref 68, .ref 31] I h (rV (zI (zI (zI (zI I 69) 70) 71) 72) (wR (wR (zA (wR (zA (wR (zA (wR (zA h 69 70 (20, 10)) 68 3 (some 69)) 70 71 (20, 10)) 68 4 (some 70)) 71 72 (20, 10)) 68 5 (some 71)) 72 73 (20, 100)) 68 6 (some 72)) 68 8 (some 31))) := by
  refine con_intro (own := RX3) (lo0 := [some (.ref 68), some (.ref 31)]) hG rfl pl_X3 (Nat.le_of_ble_eq_true rfl) rfl (fun X hX => ?_)
  refine g_aload_0 hX (dk DX3_init 0 rfl) ?_
  refine g_objInit hX (dk DX3_init 1 rfl) (tg_1 187 rfl rfl) (tg_1 24 rfl rfl) (tg_1 25 rfl rfl) (by decide) (by decide) ?_
  refine g_aload_0 hX (dk DX3_init 2 rfl) ?_
  refine g_bipush (v := 10) hX (dk DX3_init 3 rfl) (by decide) ?_
  refine g_nw_int hX 69 70 10 (by first | rfl | exact hh) rfl (dk DX3_init 4 rfl) (tg_1 96 rfl rfl) rfl (by decide) (hGn 69 (by decide) (by decide)) (by decide) (by decide) ?_
  refine g_putR (r := some 69) hX (dk DX3_init 5 rfl) KX3 fX3_11 (by decide) rfl (Nat.le_of_ble_eq_true rfl) hs0 (Or.inr ⟨rfl, rfl, rfl⟩) rfl (rfl) (rfl) ?_
  refine g_aload_0 hX (dk DX3_init 6 rfl) ?_
  refine g_bipush (v := 10) hX (dk DX3_init 7 rfl) (by decide) ?_
  refine g_nw_int hX 70 71 10 (by first | rfl | exact hh) rfl (dk DX3_init 8 rfl) (tg_1 96 rfl rfl) rfl (by decide) (hGn 70 (by decide) (by decide)) (by decide) (by decide) ?_
  refine g_putR (r := some 70) hX (dk DX3_init 9 rfl) KX3 fX3_15 (by decide) rfl (Nat.le_of_ble_eq_true rfl) hs0 (Or.inr ⟨rfl, rfl, rfl⟩) rfl (rfl) (rfl) ?_
  refine g_aload_0 hX (dk DX3_init 10 rfl) ?_
  refine g_bipush (v := 10) hX (dk DX3_init 11 rfl) (by decide) ?_
  refine g_nw_int hX 71 72 10 (by first | rfl | exact hh) rfl (dk DX3_init 12 rfl) (tg_1 96 rfl rfl) rfl (by decide) (hGn 71 (by decide) (by decide)) (by decide) (by decide) ?_
  refine g_putR (r := some 71) hX (dk DX3_init 13 rfl) KX3 fX3_18 (by decide) rfl (Nat.le_of_ble_eq_true rfl) hs0 (Or.inr ⟨rfl, rfl, rfl⟩) rfl (rfl) (rfl) ?_
  refine g_aload_0 hX (dk DX3_init 14 rfl) ?_
  refine g_bipush (v := 100) hX (dk DX3_init 15 rfl) (by decide) ?_
  refine g_nw_int hX 72 73 100 (by first | rfl | exact hh) rfl (dk DX3_init 16 rfl) (tg_1 96 rfl rfl) rfl (by decide) (hGn 72 (by decide) (by decide)) (by decide) (by decide) ?_
  refine g_putR (r := some 72) hX (dk DX3_init 17 rfl) KX3 fX3_21 (by decide) rfl (Nat.le_of_ble_eq_true rfl) hs0 (Or.inr ⟨rfl, rfl, rfl⟩) rfl (rfl) (rfl) ?_
  refine g_aload_0 hX (dk DX3_init 18 rfl) ?_
  refine g_aload_1 hX (dk DX3_init 19 rfl) ?_
  refine g_putR (r := some 31) hX (dk DX3_init 20 rfl) KX3 fX3_24 (by decide) rfl (Nat.le_of_ble_eq_true rfl) hs0 (Or.inr ⟨rfl, rfl, rfl⟩) rfl (rfl) (rfl) ?_
  refine g_return hX (dk DX3_init 21 rfl) rfl (by decide) (by decide) ?_
  exact rV_of rfl rfl

