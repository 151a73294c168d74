/-- a DOING's six numbers -/
def dI (I : It) (a : Nat) (i v r p c n : Int32) : It := upI (upI (upI (upI (upI (upI I a 0 i) a 1 v) a 2 (if 1 < r then r else 1)) a 3 p) a 4 c) a 5 n
set_option maxRecDepth 8000 in
set_option maxHeartbeats 4000000 in
theorem c_ini1_1 {G : Gt} (hG : Gok G) {I : It} {h : Ht}  {q : Nat} {i v r p c n : Int32} (hq : q < hn h) (hcl : (hs h q).1 = 1) : Con G (2) 0 0 mX1_init [.ref q, .int i, .int v, .int r, .int p, .int c, .int n] I h (rV (dI I q i v r p c n) h) := by
  refine con_intro (own := RX1) (lo0 := [some (.ref q), some (.int i), some (.int v), some (.int r), some (.int p), some (.int c), some (.int n)]) hG rfl pl_X1 (Nat.le_of_ble_eq_true rfl) rfl (fun X hX => ?_)
  refine g_aload_0 hX (dk DX1_init 0 rfl) ?_
  refine g_objInit hX (dk DX1_init 1 rfl) (tg_2 43 rfl rfl) (tg_1 24 rfl rfl) (tg_1 25 rfl rfl) (by decide) (by decide) ?_
  refine g_aload_0 hX (dk DX1_init 2 rfl) ?_
  refine g_iload_1 hX (dk DX1_init 3 rfl) ?_
  refine g_putI hX (dk DX1_init 4 rfl) KX1 fX1_9 (by decide) rfl hq hcl (Or.inr ⟨rfl, rfl, rfl⟩) (rfl) (rfl) ?_
  refine g_aload_0 hX (dk DX1_init 5 rfl) ?_
  refine g_iload_2 hX (dk DX1_init 6 rfl) ?_
  refine g_putI hX (dk DX1_init 7 rfl) KX1 fX1_15 (by decide) rfl hq hcl (Or.inr ⟨rfl, rfl, rfl⟩) (rfl) (rfl) ?_
  refine g_aload_0 hX (dk DX1_init 8 rfl) ?_
  refine g_iconst (v := 1) hX (dk DX1_init 9 rfl) (by decide) ?_
  refine g_iload_3 hX (dk DX1_init 10 rfl) ?_
  refine g_c2I hX sX1_init_17 (by decide) (Nat.le_of_ble_eq_true rfl) rcN (by decide) (by decide) (c_J9_max_7cf53 hG) ?_
  refine g_putI hX (dk DX1_init 12 rfl) KX1 fX1_24 (by decide) rfl hq hcl (Or.inr ⟨rfl, rfl, rfl⟩) (rfl) (rfl) ?_
  refine g_aload_0 hX (dk DX1_init 13 rfl) ?_
  refine g_iload_4 hX (dk DX1_init 14 rfl) ?_
  refine g_putI hX (dk DX1_init 15 rfl) KX1 fX1_27 (by decide) rfl hq hcl (Or.inr ⟨rfl, rfl, rfl⟩) (rfl) (rfl) ?_
  refine g_aload_0 hX (dk DX1_init 16 rfl) ?_
  refine g_iload_5 hX (dk DX1_init 17 rfl) ?_
  refine g_putI hX (dk DX1_init 18 rfl) KX1 fX1_30 (by decide) rfl hq hcl (Or.inr ⟨rfl, rfl, rfl⟩) (rfl) (rfl) ?_
  refine g_aload_0 hX (dk DX1_init 19 rfl) ?_
  refine g_iload_6 hX (dk DX1_init 20 rfl) ?_
  refine g_putI hX (dk DX1_init 21 rfl) KX1 fX1_33 (by decide) rfl hq hcl (Or.inr ⟨rfl, rfl, rfl⟩) (rfl) (rfl) ?_
  refine g_return hX (dk DX1_init 22 rfl) rfl (by decide) (by decide) ?_
  exact rV_of rfl rfl

set_option maxRecDepth 8000 in
set_option maxHeartbeats 4000000 in
theorem c_ini1_2 {G : Gt} (hG : Gok G) {I : It} {h : Ht}  {q : Nat} {i v r p c n : Int32} (hq : q < hn h) (hcl : (hs h q).1 = 2) : Con G (2) 0 0 mX1_init [.ref q, .int i, .int v, .int r, .int p, .int c, .int n] I h (rV (dI I q i v r p c n) h) := by
  refine con_intro (own := RX1) (lo0 := [some (.ref q), some (.int i), some (.int v), some (.int r), some (.int p), some (.int c), some (.int n)]) hG rfl pl_X1 (Nat.le_of_ble_eq_true rfl) rfl (fun X hX => ?_)
  refine g_aload_0 hX (dk DX1_init 0 rfl) ?_
  refine g_objInit hX (dk DX1_init 1 rfl) (tg_2 43 rfl rfl) (tg_1 24 rfl rfl) (tg_1 25 rfl rfl) (by decide) (by decide) ?_
  refine g_aload_0 hX (dk DX1_init 2 rfl) ?_
  refine g_iload_1 hX (dk DX1_init 3 rfl) ?_
  refine g_putI hX (dk DX1_init 4 rfl) KX2 fX1_9 (by decide) rfl hq hcl (Or.inr ⟨rfl, rfl, rfl⟩) (rfl) (rfl) ?_
  refine g_aload_0 hX (dk DX1_init 5 rfl) ?_
  refine g_iload_2 hX (dk DX1_init 6 rfl) ?_
  refine g_putI hX (dk DX1_init 7 rfl) KX2 fX1_15 (by decide) rfl hq hcl (Or.inr ⟨rfl, rfl, rfl⟩) (rfl) (rfl) ?_
  refine g_aload_0 hX (dk DX1_init 8 rfl) ?_
  refine g_iconst (v := 1) hX (dk DX1_init 9 rfl) (by decide) ?_
  refine g_iload_3 hX (dk DX1_init 10 rfl) ?_
  refine g_c2I hX sX1_init_17 (by decide) (Nat.le_of_ble_eq_true rfl) rcN (by decide) (by decide) (c_J9_max_7cf53 hG) ?_
  refine g_putI hX (dk DX1_init 12 rfl) KX2 fX1_24 (by decide) rfl hq hcl (Or.inr ⟨rfl, rfl, rfl⟩) (rfl) (rfl) ?_
  refine g_aload_0 hX (dk DX1_init 13 rfl) ?_
  refine g_iload_4 hX (dk DX1_init 14 rfl) ?_
  refine g_putI hX (dk DX1_init 15 rfl) KX2 fX1_27 (by decide) rfl hq hcl (Or.inr ⟨rfl, rfl, rfl⟩) (rfl) (rfl) ?_
  refine g_aload_0 hX (dk DX1_init 16 rfl) ?_
  refine g_iload_5 hX (dk DX1_init 17 rfl) ?_
  refine g_putI hX (dk DX1_init 18 rfl) KX2 fX1_30 (by decide) rfl hq hcl (Or.inr ⟨rfl, rfl, rfl⟩) (rfl) (rfl) ?_
  refine g_aload_0 hX (dk DX1_init 19 rfl) ?_
  refine g_iload_6 hX (dk DX1_init 20 rfl) ?_
  refine g_putI hX (dk DX1_init 21 rfl) KX2 fX1_33 (by decide) rfl hq hcl (Or.inr ⟨rfl, rfl, rfl⟩) (rfl) (rfl) ?_
  refine g_return hX (dk DX1_init 22 rfl) rfl (by decide) (by decide) ?_
  exact rV_of rfl rfl

set_option maxRecDepth 8000 in
set_option maxHeartbeats 4000000 in
theorem c_ini2_2 {G : Gt} (hG : Gok G) {I : It} {h : Ht}  {q : Nat} {i v r p c n : Int32} (hq : q < hn h) (hcl : (hs h q).1 = 2) : Con G (3) 0 0 mX2_init [.ref q, .int i, .int v, .int r, .int p, .int c, .int n] I h (rV (dI I q i v r p c n) h) := by
  refine con_intro (own := RX2) (lo0 := [some (.ref q), some (.int i), some (.int v), some (.int r), some (.int p), some (.int c), some (.int n)]) hG rfl pl_X2 (Nat.le_of_ble_eq_true rfl) rfl (fun X hX => ?_)
  refine g_aload_0 hX (dk DX2_init 0 rfl) ?_
  refine g_iload_1 hX (dk DX2_init 1 rfl) ?_
  refine g_iload_2 hX (dk DX2_init 2 rfl) ?_
  refine g_iload_3 hX (dk DX2_init 3 rfl) ?_
  refine g_iload_4 hX (dk DX2_init 4 rfl) ?_
  refine g_iload_5 hX (dk DX2_init 5 rfl) ?_
  refine g_iload_6 hX (dk DX2_init 6 rfl) ?_
  refine g_c7V hX sX2_init_10 (by decide) (Nat.le_of_ble_eq_true rfl) (rc0 rfl hq hcl) (by decide) (by decide) (c_ini1_2 hG hq hcl) ?_
  refine g_return hX (dk DX2_init 8 rfl) rfl (by decide) (by decide) ?_
  exact rV_of rfl rfl

set_option maxRecDepth 8000 in
set_option maxHeartbeats 4000000 in
theorem c_ini1_4 {G : Gt} (hG : Gok G) {I : It} {h : Ht}  {q : Nat} {i v r p c n : Int32} (hq : q < hn h) (hcl : (hs h q).1 = 4) : Con G (2) 0 0 mX1_init [.ref q, .int i, .int v, .int r, .int p, .int c, .int n] I h (rV (dI I q i v r p c n) h) := by
  refine con_intro (own := RX1) (lo0 := [some (.ref q), some (.int i), some (.int v), some (.int r), some (.int p), some (.int c), some (.int n)]) hG rfl pl_X1 (Nat.le_of_ble_eq_true rfl) rfl (fun X hX => ?_)
  refine g_aload_0 hX (dk DX1_init 0 rfl) ?_
  refine g_objInit hX (dk DX1_init 1 rfl) (tg_2 43 rfl rfl) (tg_1 24 rfl rfl) (tg_1 25 rfl rfl) (by decide) (by decide) ?_
  refine g_aload_0 hX (dk DX1_init 2 rfl) ?_
  refine g_iload_1 hX (dk DX1_init 3 rfl) ?_
  refine g_putI hX (dk DX1_init 4 rfl) KX4 fX1_9 (by decide) rfl hq hcl (Or.inr ⟨rfl, rfl, rfl⟩) (rfl) (rfl) ?_
  refine g_aload_0 hX (dk DX1_init 5 rfl) ?_
  refine g_iload_2 hX (dk DX1_init 6 rfl) ?_
  refine g_putI hX (dk DX1_init 7 rfl) KX4 fX1_15 (by decide) rfl hq hcl (Or.inr ⟨rfl, rfl, rfl⟩) (rfl) (rfl) ?_
  refine g_aload_0 hX (dk DX1_init 8 rfl) ?_
  refine g_iconst (v := 1) hX (dk DX1_init 9 rfl) (by decide) ?_
  refine g_iload_3 hX (dk DX1_init 10 rfl) ?_
  refine g_c2I hX sX1_init_17 (by decide) (Nat.le_of_ble_eq_true rfl) rcN (by decide) (by decide) (c_J9_max_7cf53 hG) ?_
  refine g_putI hX (dk DX1_init 12 rfl) KX4 fX1_24 (by decide) rfl hq hcl (Or.inr ⟨rfl, rfl, rfl⟩) (rfl) (rfl) ?_
  refine g_aload_0 hX (dk DX1_init 13 rfl) ?_
  refine g_iload_4 hX (dk DX1_init 14 rfl) ?_
  refine g_putI hX (dk DX1_init 15 rfl) KX4 fX1_27 (by decide) rfl hq hcl (Or.inr ⟨rfl, rfl, rfl⟩) (rfl) (rfl) ?_
  refine g_aload_0 hX (dk DX1_init 16 rfl) ?_
  refine g_iload_5 hX (dk DX1_init 17 rfl) ?_
  refine g_putI hX (dk DX1_init 18 rfl) KX4 fX1_30 (by decide) rfl hq hcl (Or.inr ⟨rfl, rfl, rfl⟩) (rfl) (rfl) ?_
  refine g_aload_0 hX (dk DX1_init 19 rfl) ?_
  refine g_iload_6 hX (dk DX1_init 20 rfl) ?_
  refine g_putI hX (dk DX1_init 21 rfl) KX4 fX1_33 (by decide) rfl hq hcl (Or.inr ⟨rfl, rfl, rfl⟩) (rfl) (rfl) ?_
  refine g_return hX (dk DX1_init 22 rfl) rfl (by decide) (by decide) ?_
  exact rV_of rfl rfl

set_option maxRecDepth 8000 in
set_option maxHeartbeats 4000000 in
theorem c_ini4_4 {G : Gt} (hG : Gok G) {I : It} {h : Ht}  {q : Nat} {i v r p c n : Int32} (hq : q < hn h) (hcl : (hs h q).1 = 4) : Con G (3) 0 0 mX4_init [.ref q, .int i, .int v, .int r, .int p, .int c, .int n] I h (rV (dI I q i v r p c n) h) := by
  refine con_intro (own := RX4) (lo0 := [some (.ref q), some (.int i), some (.int v), some (.int r), some (.int p), some (.int c), some (.int n)]) hG rfl pl_X4 (Nat.le_of_ble_eq_true rfl) rfl (fun X hX => ?_)
  refine g_aload_0 hX (dk DX4_init 0 rfl) ?_
  refine g_iload_1 hX (dk DX4_init 1 rfl) ?_
  refine g_iload_2 hX (dk DX4_init 2 rfl) ?_
  refine g_iload_3 hX (dk DX4_init 3 rfl) ?_
  refine g_iload_4 hX (dk DX4_init 4 rfl) ?_
  refine g_iload_5 hX (dk DX4_init 5 rfl) ?_
  refine g_iload_6 hX (dk DX4_init 6 rfl) ?_
  refine g_c7V hX sX4_init_10 (by decide) (Nat.le_of_ble_eq_true rfl) (rc0 rfl hq hcl) (by decide) (by decide) (c_ini1_4 hG hq hcl) ?_
  refine g_return hX (dk DX4_init 8 rfl) rfl (by decide) (by decide) ?_
  exact rV_of rfl rfl

set_option maxRecDepth 8000 in
set_option maxHeartbeats 4000000 in
theorem c_ini1_6 {G : Gt} (hG : Gok G) {I : It} {h : Ht}  {q : Nat} {i v r p c n : Int32} (hq : q < hn h) (hcl : (hs h q).1 = 6) : Con G (2) 0 0 mX1_init [.ref q, .int i, .int v, .int r, .int p, .int c, .int n] I h (rV (dI I q i v r p c n) h) := by
  refine con_intro (own := RX1) (lo0 := [some (.ref q), some (.int i), some (.int v), some (.int r), some (.int p), some (.int c), some (.int n)]) hG rfl pl_X1 (Nat.le_of_ble_eq_true rfl) rfl (fun X hX => ?_)
  refine g_aload_0 hX (dk DX1_init 0 rfl) ?_
  refine g_objInit hX (dk DX1_init 1 rfl) (tg_2 43 rfl rfl) (tg_1 24 rfl rfl) (tg_1 25 rfl rfl) (by decide) (by decide) ?_
  refine g_aload_0 hX (dk DX1_init 2 rfl) ?_
  refine g_iload_1 hX (dk DX1_init 3 rfl) ?_
  refine g_putI hX (dk DX1_init 4 rfl) KX6 fX1_9 (by decide) rfl hq hcl (Or.inr ⟨rfl, rfl, rfl⟩) (rfl) (rfl) ?_
  refine g_aload_0 hX (dk DX1_init 5 rfl) ?_
  refine g_iload_2 hX (dk DX1_init 6 rfl) ?_
  refine g_putI hX (dk DX1_init 7 rfl) KX6 fX1_15 (by decide) rfl hq hcl (Or.inr ⟨rfl, rfl, rfl⟩) (rfl) (rfl) ?_
  refine g_aload_0 hX (dk DX1_init 8 rfl) ?_
  refine g_iconst (v := 1) hX (dk DX1_init 9 rfl) (by decide) ?_
  refine g_iload_3 hX (dk DX1_init 10 rfl) ?_
  refine g_c2I hX sX1_init_17 (by decide) (Nat.le_of_ble_eq_true rfl) rcN (by decide) (by decide) (c_J9_max_7cf53 hG) ?_
  refine g_putI hX (dk DX1_init 12 rfl) KX6 fX1_24 (by decide) rfl hq hcl (Or.inr ⟨rfl, rfl, rfl⟩) (rfl) (rfl) ?_
  refine g_aload_0 hX (dk DX1_init 13 rfl) ?_
  refine g_iload_4 hX (dk DX1_init 14 rfl) ?_
  refine g_putI hX (dk DX1_init 15 rfl) KX6 fX1_27 (by decide) rfl hq hcl (Or.inr ⟨rfl, rfl, rfl⟩) (rfl) (rfl) ?_
  refine g_aload_0 hX (dk DX1_init 16 rfl) ?_
  refine g_iload_5 hX (dk DX1_init 17 rfl) ?_
  refine g_putI hX (dk DX1_init 18 rfl) KX6 fX1_30 (by decide) rfl hq hcl (Or.inr ⟨rfl, rfl, rfl⟩) (rfl) (rfl) ?_
  refine g_aload_0 hX (dk DX1_init 19 rfl) ?_
  refine g_iload_6 hX (dk DX1_init 20 rfl) ?_
  refine g_putI hX (dk DX1_init 21 rfl) KX6 fX1_33 (by decide) rfl hq hcl (Or.inr ⟨rfl, rfl, rfl⟩) (rfl) (rfl) ?_
  refine g_return hX (dk DX1_init 22 rfl) rfl (by decide) (by decide) ?_
  exact rV_of rfl rfl

set_option maxRecDepth 8000 in
set_option maxHeartbeats 4000000 in
theorem c_ini2_6 {G : Gt} (hG : Gok G) {I : It} {h : Ht}  {q : Nat} {i v r p c n : Int32} (hq : q < hn h) (hcl : (hs h q).1 = 6) : Con G (3) 0 0 mX2_init [.ref q, .int i, .int v, .int r, .int p, .int c, .int n] I h (rV (dI I q i v r p c n) h) := by
  refine con_intro (own := RX2) (lo0 := [some (.ref q), some (.int i), some (.int v), some (.int r), some (.int p), some (.int c), some (.int n)]) hG rfl pl_X2 (Nat.le_of_ble_eq_true rfl) rfl (fun X hX => ?_)
  refine g_aload_0 hX (dk DX2_init 0 rfl) ?_
  refine g_iload_1 hX (dk DX2_init 1 rfl) ?_
  refine g_iload_2 hX (dk DX2_init 2 rfl) ?_
  refine g_iload_3 hX (dk DX2_init 3 rfl) ?_
  refine g_iload_4 hX (dk DX2_init 4 rfl) ?_
  refine g_iload_5 hX (dk DX2_init 5 rfl) ?_
  refine g_iload_6 hX (dk DX2_init 6 rfl) ?_
  refine g_c7V hX sX2_init_10 (by decide) (Nat.le_of_ble_eq_true rfl) (rc0 rfl hq hcl) (by decide) (by decide) (c_ini1_6 hG hq hcl) ?_
  refine g_return hX (dk DX2_init 8 rfl) rfl (by decide) (by decide) ?_
  exact rV_of rfl rfl

set_option maxRecDepth 8000 in
set_option maxHeartbeats 4000000 in
theorem c_ini6_6 {G : Gt} (hG : Gok G) {I : It} {h : Ht}  {q : Nat} {i v r p c n : Int32} (hq : q < hn h) (hcl : (hs h q).1 = 6) : Con G (4) 0 0 mX6_init [.ref q, .int i, .int v, .int r, .int p, .int c, .int n] I h (rV (dI I q i v r p c n) h) := by
  refine con_intro (own := RX6) (lo0 := [some (.ref q), some (.int i), some (.int v), some (.int r), some (.int p), some (.int c), some (.int n)]) hG rfl pl_X6 (Nat.le_of_ble_eq_true rfl) rfl (fun X hX => ?_)
  refine g_aload_0 hX (dk DX6_init 0 rfl) ?_
  refine g_iload_1 hX (dk DX6_init 1 rfl) ?_
  refine g_iload_2 hX (dk DX6_init 2 rfl) ?_
  refine g_iload_3 hX (dk DX6_init 3 rfl) ?_
  refine g_iload_4 hX (dk DX6_init 4 rfl) ?_
  refine g_iload_5 hX (dk DX6_init 5 rfl) ?_
  refine g_iload_6 hX (dk DX6_init 6 rfl) ?_
  refine g_c7V hX sX6_init_10 (by decide) (Nat.le_of_ble_eq_true rfl) (rc0 rfl hq hcl) (by decide) (by decide) (c_ini2_6 hG hq hcl) ?_
  refine g_return hX (dk DX6_init 8 rfl) rfl (by decide) (by decide) ?_
  exact rV_of rfl rfl

set_option maxRecDepth 8000 in
set_option maxHeartbeats 4000000 in
theorem c_ini1_8 {G : Gt} (hG : Gok G) {I : It} {h : Ht}  {q : Nat} {i v r p c n : Int32} (hq : q < hn h) (hcl : (hs h q).1 = 8) : Con G (2) 0 0 mX1_init [.ref q, .int i, .int v, .int r, .int p, .int c, .int n] I h (rV (dI I q i v r p c n) h) := by
  refine con_intro (own := RX1) (lo0 := [some (.ref q), some (.int i), some (.int v), some (.int r), some (.int p), some (.int c), some (.int n)]) hG rfl pl_X1 (Nat.le_of_ble_eq_true rfl) rfl (fun X hX => ?_)
  refine g_aload_0 hX (dk DX1_init 0 rfl) ?_
  refine g_objInit hX (dk DX1_init 1 rfl) (tg_2 43 rfl rfl) (tg_1 24 rfl rfl) (tg_1 25 rfl rfl) (by decide) (by decide) ?_
  refine g_aload_0 hX (dk DX1_init 2 rfl) ?_
  refine g_iload_1 hX (dk DX1_init 3 rfl) ?_
  refine g_putI hX (dk DX1_init 4 rfl) KX8 fX1_9 (by decide) rfl hq hcl (Or.inr ⟨rfl, rfl, rfl⟩) (rfl) (rfl) ?_
  refine g_aload_0 hX (dk DX1_init 5 rfl) ?_
  refine g_iload_2 hX (dk DX1_init 6 rfl) ?_
  refine g_putI hX (dk DX1_init 7 rfl) KX8 fX1_15 (by decide) rfl hq hcl (Or.inr ⟨rfl, rfl, rfl⟩) (rfl) (rfl) ?_
  refine g_aload_0 hX (dk DX1_init 8 rfl) ?_
  refine g_iconst (v := 1) hX (dk DX1_init 9 rfl) (by decide) ?_
  refine g_iload_3 hX (dk DX1_init 10 rfl) ?_
  refine g_c2I hX sX1_init_17 (by decide) (Nat.le_of_ble_eq_true rfl) rcN (by decide) (by decide) (c_J9_max_7cf53 hG) ?_
  refine g_putI hX (dk DX1_init 12 rfl) KX8 fX1_24 (by decide) rfl hq hcl (Or.inr ⟨rfl, rfl, rfl⟩) (rfl) (rfl) ?_
  refine g_aload_0 hX (dk DX1_init 13 rfl) ?_
  refine g_iload_4 hX (dk DX1_init 14 rfl) ?_
  refine g_putI hX (dk DX1_init 15 rfl) KX8 fX1_27 (by decide) rfl hq hcl (Or.inr ⟨rfl, rfl, rfl⟩) (rfl) (rfl) ?_
  refine g_aload_0 hX (dk DX1_init 16 rfl) ?_
  refine g_iload_5 hX (dk DX1_init 17 rfl) ?_
  refine g_putI hX (dk DX1_init 18 rfl) KX8 fX1_30 (by decide) rfl hq hcl (Or.inr ⟨rfl, rfl, rfl⟩) (rfl) (rfl) ?_
  refine g_aload_0 hX (dk DX1_init 19 rfl) ?_
  refine g_iload_6 hX (dk DX1_init 20 rfl) ?_
  refine g_putI hX (dk DX1_init 21 rfl) KX8 fX1_33 (by decide) rfl hq hcl (Or.inr ⟨rfl, rfl, rfl⟩) (rfl) (rfl) ?_
  refine g_return hX (dk DX1_init 22 rfl) rfl (by decide) (by decide) ?_
  exact rV_of rfl rfl

set_option maxRecDepth 8000 in
set_option maxHeartbeats 4000000 in
theorem c_ini9_8 {G : Gt} (hG : Gok G) {I : It} {h : Ht}  {q : Nat} {i v r p c n : Int32} (hq : q < hn h) (hcl : (hs h q).1 = 8) : Con G (3) 0 0 mX9_init [.ref q, .int i, .int v, .int r, .int p, .int c, .int n] I h (rV (dI I q i v r p c n) h) := by
  refine con_intro (own := RX9) (lo0 := [some (.ref q), some (.int i), some (.int v), some (.int r), some (.int p), some (.int c), some (.int n)]) hG rfl pl_X9 (Nat.le_of_ble_eq_true rfl) rfl (fun X hX => ?_)
  refine g_aload_0 hX (dk DX9_init 0 rfl) ?_
  refine g_iload_1 hX (dk DX9_init 1 rfl) ?_
  refine g_iload_2 hX (dk DX9_init 2 rfl) ?_
  refine g_iload_3 hX (dk DX9_init 3 rfl) ?_
  refine g_iload_4 hX (dk DX9_init 4 rfl) ?_
  refine g_iload_5 hX (dk DX9_init 5 rfl) ?_
  refine g_iload_6 hX (dk DX9_init 6 rfl) ?_
  refine g_c7V hX sX9_init_10 (by decide) (Nat.le_of_ble_eq_true rfl) (rc0 rfl hq hcl) (by decide) (by decide) (c_ini1_8 hG hq hcl) ?_
  refine g_return hX (dk DX9_init 8 rfl) rfl (by decide) (by decide) ?_
  exact rV_of rfl rfl

set_option maxRecDepth 8000 in
set_option maxHeartbeats 4000000 in
theorem c_ini8_8 {G : Gt} (hG : Gok G) {I : It} {h : Ht}  {q : Nat} {i v r p c n : Int32} (hq : q < hn h) (hcl : (hs h q).1 = 8) : Con G (4) 0 0 mX8_init [.ref q, .int i, .int v, .int r, .int p, .int c, .int n] I h (rV (dI I q i v r p c n) h) := by
  refine con_intro (own := RX8) (lo0 := [some (.ref q), some (.int i), some (.int v), some (.int r), some (.int p), some (.int c), some (.int n)]) hG rfl pl_X8 (Nat.le_of_ble_eq_true rfl) rfl (fun X hX => ?_)
  refine g_aload_0 hX (dk DX8_init 0 rfl) ?_
  refine g_iload_1 hX (dk DX8_init 1 rfl) ?_
  refine g_iload_2 hX (dk DX8_init 2 rfl) ?_
  refine g_iload_3 hX (dk DX8_init 3 rfl) ?_
  refine g_iload_4 hX (dk DX8_init 4 rfl) ?_
  refine g_iload_5 hX (dk DX8_init 5 rfl) ?_
  refine g_iload_6 hX (dk DX8_init 6 rfl) ?_
  refine g_c7V hX sX8_init_10 (by decide) (Nat.le_of_ble_eq_true rfl) (rc0 rfl hq hcl) (by decide) (by decide) (c_ini9_8 hG hq hcl) ?_
  refine g_return hX (dk DX8_init 8 rfl) rfl (by decide) (by decide) ?_
  exact rV_of rfl rfl

set_option maxRecDepth 8000 in
set_option maxHeartbeats 4000000 in
theorem c_ini1_9 {G : Gt} (hG : Gok G) {I : It} {h : Ht}  {q : Nat} {i v r p c n : Int32} (hq : q < hn h) (hcl : (hs h q).1 = 9) : Con G (2) 0 0 mX1_init [.ref q, .int i, .int v, .int r, .int p, .int c, .int n] I h (rV (dI I q i v r p c n) h) := by
  refine con_intro (own := RX1) (lo0 := [some (.ref q), some (.int i), some (.int v), some (.int r), some (.int p), some (.int c), some (.int n)]) hG rfl pl_X1 (Nat.le_of_ble_eq_true rfl) rfl (fun X hX => ?_)
  refine g_aload_0 hX (dk DX1_init 0 rfl) ?_
  refine g_objInit hX (dk DX1_init 1 rfl) (tg_2 43 rfl rfl) (tg_1 24 rfl rfl) (tg_1 25 rfl rfl) (by decide) (by decide) ?_
  refine g_aload_0 hX (dk DX1_init 2 rfl) ?_
  refine g_iload_1 hX (dk DX1_init 3 rfl) ?_
  refine g_putI hX (dk DX1_init 4 rfl) KX9 fX1_9 (by decide) rfl hq hcl (Or.inr ⟨rfl, rfl, rfl⟩) (rfl) (rfl) ?_
  refine g_aload_0 hX (dk DX1_init 5 rfl) ?_
  refine g_iload_2 hX (dk DX1_init 6 rfl) ?_
  refine g_putI hX (dk DX1_init 7 rfl) KX9 fX1_15 (by decide) rfl hq hcl (Or.inr ⟨rfl, rfl, rfl⟩) (rfl) (rfl) ?_
  refine g_aload_0 hX (dk DX1_init 8 rfl) ?_
  refine g_iconst (v := 1) hX (dk DX1_init 9 rfl) (by decide) ?_
  refine g_iload_3 hX (dk DX1_init 10 rfl) ?_
  refine g_c2I hX sX1_init_17 (by decide) (Nat.le_of_ble_eq_true rfl) rcN (by decide) (by decide) (c_J9_max_7cf53 hG) ?_
  refine g_putI hX (dk DX1_init 12 rfl) KX9 fX1_24 (by decide) rfl hq hcl (Or.inr ⟨rfl, rfl, rfl⟩) (rfl) (rfl) ?_
  refine g_aload_0 hX (dk DX1_init 13 rfl) ?_
  refine g_iload_4 hX (dk DX1_init 14 rfl) ?_
  refine g_putI hX (dk DX1_init 15 rfl) KX9 fX1_27 (by decide) rfl hq hcl (Or.inr ⟨rfl, rfl, rfl⟩) (rfl) (rfl) ?_
  refine g_aload_0 hX (dk DX1_init 16 rfl) ?_
  refine g_iload_5 hX (dk DX1_init 17 rfl) ?_
  refine g_putI hX (dk DX1_init 18 rfl) KX9 fX1_30 (by decide) rfl hq hcl (Or.inr ⟨rfl, rfl, rfl⟩) (rfl) (rfl) ?_
  refine g_aload_0 hX (dk DX1_init 19 rfl) ?_
  refine g_iload_6 hX (dk DX1_init 20 rfl) ?_
  refine g_putI hX (dk DX1_init 21 rfl) KX9 fX1_33 (by decide) rfl hq hcl (Or.inr ⟨rfl, rfl, rfl⟩) (rfl) (rfl) ?_
  refine g_return hX (dk DX1_init 22 rfl) rfl (by decide) (by decide) ?_
  exact rV_of rfl rfl

set_option maxRecDepth 8000 in
set_option maxHeartbeats 4000000 in
theorem c_ini9_9 {G : Gt} (hG : Gok G) {I : It} {h : Ht}  {q : Nat} {i v r p c n : Int32} (hq : q < hn h) (hcl : (hs h q).1 = 9) : Con G (3) 0 0 mX9_init [.ref q, .int i, .int v, .int r, .int p, .int c, .int n] I h (rV (dI I q i v r p c n) h) := by
  refine con_intro (own := RX9) (lo0 := [some (.ref q), some (.int i), some (.int v), some (.int r), some (.int p), some (.int c), some (.int n)]) hG rfl pl_X9 (Nat.le_of_ble_eq_true rfl) rfl (fun X hX => ?_)
  refine g_aload_0 hX (dk DX9_init 0 rfl) ?_
  refine g_iload_1 hX (dk DX9_init 1 rfl) ?_
  refine g_iload_2 hX (dk DX9_init 2 rfl) ?_
  refine g_iload_3 hX (dk DX9_init 3 rfl) ?_
  refine g_iload_4 hX (dk DX9_init 4 rfl) ?_
  refine g_iload_5 hX (dk DX9_init 5 rfl) ?_
  refine g_iload_6 hX (dk DX9_init 6 rfl) ?_
  refine g_c7V hX sX9_init_10 (by decide) (Nat.le_of_ble_eq_true rfl) (rc0 rfl hq hcl) (by decide) (by decide) (c_ini1_9 hG hq hcl) ?_
  refine g_return hX (dk DX9_init 8 rfl) rfl (by decide) (by decide) ?_
  exact rV_of rfl rfl

set_option maxRecDepth 8000 in
set_option maxHeartbeats 4000000 in
theorem c_ini1_10 {G : Gt} (hG : Gok G) {I : It} {h : Ht}  {q : Nat} {i v r p c n : Int32} (hq : q < hn h) (hcl : (hs h q).1 = 10) : Con G (2) 0 0 mX1_init [.ref q, .int i, .int v, .int r, .int p, .int c, .int n] I h (rV (dI I q i v r p c n) h) := by
  refine con_intro (own := RX1) (lo0 := [some (.ref q), some (.int i), some (.int v), some (.int r), some (.int p), some (.int c), some (.int n)]) hG rfl pl_X1 (Nat.le_of_ble_eq_true rfl) rfl (fun X hX => ?_)
  refine g_aload_0 hX (dk DX1_init 0 rfl) ?_
  refine g_objInit hX (dk DX1_init 1 rfl) (tg_2 43 rfl rfl) (tg_1 24 rfl rfl) (tg_1 25 rfl rfl) (by decide) (by decide) ?_
  refine g_aload_0 hX (dk DX1_init 2 rfl) ?_
  refine g_iload_1 hX (dk DX1_init 3 rfl) ?_
  refine g_putI hX (dk DX1_init 4 rfl) KX10 fX1_9 (by decide) rfl hq hcl (Or.inr ⟨rfl, rfl, rfl⟩) (rfl) (rfl) ?_
  refine g_aload_0 hX (dk DX1_init 5 rfl) ?_
  refine g_iload_2 hX (dk DX1_init 6 rfl) ?_
  refine g_putI hX (dk DX1_init 7 rfl) KX10 fX1_15 (by decide) rfl hq hcl (Or.inr ⟨rfl, rfl, rfl⟩) (rfl) (rfl) ?_
  refine g_aload_0 hX (dk DX1_init 8 rfl) ?_
  refine g_iconst (v := 1) hX (dk DX1_init 9 rfl) (by decide) ?_
  refine g_iload_3 hX (dk DX1_init 10 rfl) ?_
  refine g_c2I hX sX1_init_17 (by decide) (Nat.le_of_ble_eq_true rfl) rcN (by decide) (by decide) (c_J9_max_7cf53 hG) ?_
  refine g_putI hX (dk DX1_init 12 rfl) KX10 fX1_24 (by decide) rfl hq hcl (Or.inr ⟨rfl, rfl, rfl⟩) (rfl) (rfl) ?_
  refine g_aload_0 hX (dk DX1_init 13 rfl) ?_
  refine g_iload_4 hX (dk DX1_init 14 rfl) ?_
  refine g_putI hX (dk DX1_init 15 rfl) KX10 fX1_27 (by decide) rfl hq hcl (Or.inr ⟨rfl, rfl, rfl⟩) (rfl) (rfl) ?_
  refine g_aload_0 hX (dk DX1_init 16 rfl) ?_
  refine g_iload_5 hX (dk DX1_init 17 rfl) ?_
  refine g_putI hX (dk DX1_init 18 rfl) KX10 fX1_30 (by decide) rfl hq hcl (Or.inr ⟨rfl, rfl, rfl⟩) (rfl) (rfl) ?_
  refine g_aload_0 hX (dk DX1_init 19 rfl) ?_
  refine g_iload_6 hX (dk DX1_init 20 rfl) ?_
  refine g_putI hX (dk DX1_init 21 rfl) KX10 fX1_33 (by decide) rfl hq hcl (Or.inr ⟨rfl, rfl, rfl⟩) (rfl) (rfl) ?_
  refine g_return hX (dk DX1_init 22 rfl) rfl (by decide) (by decide) ?_
  exact rV_of rfl rfl

set_option maxRecDepth 8000 in
set_option maxHeartbeats 4000000 in
theorem c_ini4_10 {G : Gt} (hG : Gok G) {I : It} {h : Ht}  {q : Nat} {i v r p c n : Int32} (hq : q < hn h) (hcl : (hs h q).1 = 10) : Con G (3) 0 0 mX4_init [.ref q, .int i, .int v, .int r, .int p, .int c, .int n] I h (rV (dI I q i v r p c n) h) := by
  refine con_intro (own := RX4) (lo0 := [some (.ref q), some (.int i), some (.int v), some (.int r), some (.int p), some (.int c), some (.int n)]) hG rfl pl_X4 (Nat.le_of_ble_eq_true rfl) rfl (fun X hX => ?_)
  refine g_aload_0 hX (dk DX4_init 0 rfl) ?_
  refine g_iload_1 hX (dk DX4_init 1 rfl) ?_
  refine g_iload_2 hX (dk DX4_init 2 rfl) ?_
  refine g_iload_3 hX (dk DX4_init 3 rfl) ?_
  refine g_iload_4 hX (dk DX4_init 4 rfl) ?_
  refine g_iload_5 hX (dk DX4_init 5 rfl) ?_
  refine g_iload_6 hX (dk DX4_init 6 rfl) ?_
  refine g_c7V hX sX4_init_10 (by decide) (Nat.le_of_ble_eq_true rfl) (rc0 rfl hq hcl) (by decide) (by decide) (c_ini1_10 hG hq hcl) ?_
  refine g_return hX (dk DX4_init 8 rfl) rfl (by decide) (by decide) ?_
  exact rV_of rfl rfl

set_option maxRecDepth 8000 in
set_option maxHeartbeats 4000000 in
theorem c_ini10_10 {G : Gt} (hG : Gok G) {I : It} {h : Ht}  {q : Nat} {i v r p c n : Int32} (hq : q < hn h) (hcl : (hs h q).1 = 10) : Con G (4) 0 0 mX10_init [.ref q, .int i, .int v, .int r, .int p, .int c, .int n] I h (rV (dI I q i v r p c n) h) := by
  refine con_intro (own := RX10) (lo0 := [some (.ref q), some (.int i), some (.int v), some (.int r), some (.int p), some (.int c), some (.int n)]) hG rfl pl_X10 (Nat.le_of_ble_eq_true rfl) rfl (fun X hX => ?_)
  refine g_aload_0 hX (dk DX10_init 0 rfl) ?_
  refine g_iload_1 hX (dk DX10_init 1 rfl) ?_
  refine g_iload_2 hX (dk DX10_init 2 rfl) ?_
  refine g_iload_3 hX (dk DX10_init 3 rfl) ?_
  refine g_iload_4 hX (dk DX10_init 4 rfl) ?_
  refine g_iload_5 hX (dk DX10_init 5 rfl) ?_
  refine g_iload_6 hX (dk DX10_init 6 rfl) ?_
  refine g_c7V hX sX10_init_10 (by decide) (Nat.le_of_ble_eq_true rfl) (rc0 rfl hq hcl) (by decide) (by decide) (c_ini4_10 hG hq hcl) ?_
  refine g_return hX (dk DX10_init 8 rfl) rfl (by decide) (by decide) ?_
  exact rV_of rfl rfl

def kcl (k : Int32) : Nat := if k = 1 then 9 else if k = 2 then 2 else if k = 3 then 4 else if k = 4 then 8 else if k = 5 then 6 else if k = 6 then 10 else 1
theorem kcl_dc (k : Int32) : isDC (kcl k) := by
  unfold kcl isDC
  split <;> (try split) <;> (try split) <;> (try split) <;> (try split) <;> (try split) <;> simp
set_option maxRecDepth 8000 in
set_option maxHeartbeats 4000000 in
theorem c_X11_made {G : Gt} (hG : Gok G) {I : It} {h : Ht}  {k i v r p c n : Int32} (hGn : Gnew G (hn h)) : Con G (5) 1 6 mX11_made [.int k, .int i, .int v, .int r, .int p, .int c, .int n] I h (fun ro I2 h2 => ro = some (.ref (hn h)) ∧ I2 = dI (zI I (hn h)) (hn h) i v r p c n ∧ h2 = zA h (hn h) (hn h + 1) (kcl k, 0)) := by
  refine con_intro (own := RX11) (lo0 := [some (.int k), some (.int i), some (.int v), some (.int r), some (.int p), some (.int c), some (.int n)]) hG rfl pl_X11 (Nat.le_of_ble_eq_true rfl) rfl (fun X hX => ?_)
  refine g_iload_0 hX (dk DX11_made_0 0 rfl) ?_
  refine g_tswitch (dt := 142) hX [(1, 40), (2, 57), (3, 74), (4, 91), (5, 108), (6, 125)] (dk DX11_made_0 1 rfl) (by decide +kernel) ?_
  refine ⟨fun hc1 => ?_, fun hc1n => ?_⟩
  · show GG _ _ _ _ _ _ _ _ _ _ _ _ _
    refine g_nw_obj hX (hn h) (hn h + 1) rfl rfl (dk DX11_made_0 2 rfl) KX9 (by decide) (tg_2 35 rfl rfl) (tg_2 36 rfl rfl) (tg_1 9 rfl rfl) hGn (by decide) (by decide) ?_
    refine g_dup hX (dk DX11_made_0 3 rfl) rfl ?_
    refine g_iload_1 hX (dk DX11_made_0 4 rfl) ?_
    refine g_iload_2 hX (dk DX11_made_0 5 rfl) ?_
    refine g_iload_3 hX (dk DX11_made_0 6 rfl) ?_
    refine g_iload_4 hX (dk DX11_made_0 7 rfl) ?_
    refine g_iload_5 hX (dk DX11_made_0 8 rfl) ?_
    refine g_iload_6 hX (dk DX11_made_0 9 rfl) ?_
    refine g_c7V hX sX11_made_53 (by decide) (Nat.le_of_ble_eq_true rfl) (rc0 rfl (Nat.lt_succ_self _) (congrArg Prod.fst (if_pos rfl))) (by decide) (by decide) (c_ini9_9 hG (h := zA h (hn h) (hn h + 1) (9, 0)) (Nat.lt_succ_self _) (congrArg Prod.fst (if_pos rfl))) ?_
    refine g_areturn (r := some (hn h)) hX (dk DX11_made_0 11 rfl) rfl rfl (Or.inl ⟨_, rfl⟩) (by decide) (by decide) ?_
    exact ⟨rfl, rfl, by rw [hc1]; rfl⟩
  refine ⟨fun hc2 => ?_, fun hc2n => ?_⟩
  · show GG _ _ _ _ _ _ _ _ _ _ _ _ _
    refine g_nw_obj hX (hn h) (hn h + 1) rfl rfl (dk DX11_made_0 12 rfl) KX2 (by decide) (tg_2 93 rfl rfl) (tg_2 94 rfl rfl) (tg_1 11 rfl rfl) hGn (by decide) (by decide) ?_
    refine g_dup hX (dk DX11_made_0 13 rfl) rfl ?_
    refine g_iload_1 hX (dk DX11_made_0 14 rfl) ?_
    refine g_iload_2 hX (dk DX11_made_0 15 rfl) ?_
    refine g_iload_3 hX (dk DX11_made_0 16 rfl) ?_
    refine g_iload_4 hX (dk DX11_made_0 17 rfl) ?_
    refine g_iload_5 hX (dk DX11_made_0 18 rfl) ?_
    refine g_iload_6 hX (dk DX11_made_0 19 rfl) ?_
    refine g_c7V hX sX11_made_70 (by decide) (Nat.le_of_ble_eq_true rfl) (rc0 rfl (Nat.lt_succ_self _) (congrArg Prod.fst (if_pos rfl))) (by decide) (by decide) (c_ini2_2 hG (h := zA h (hn h) (hn h + 1) (2, 0)) (Nat.lt_succ_self _) (congrArg Prod.fst (if_pos rfl))) ?_
    refine g_areturn (r := some (hn h)) hX (dk DX11_made_0 21 rfl) rfl rfl (Or.inl ⟨_, rfl⟩) (by decide) (by decide) ?_
    exact ⟨rfl, rfl, by rw [hc2]; rfl⟩
  refine ⟨fun hc3 => ?_, fun hc3n => ?_⟩
  · show GG _ _ _ _ _ _ _ _ _ _ _ _ _
    refine g_nw_obj hX (hn h) (hn h + 1) rfl rfl (dk DX11_made_0 22 rfl) KX4 (by decide) (tg_2 106 rfl rfl) (tg_2 107 rfl rfl) (tg_1 12 rfl rfl) hGn (by decide) (by decide) ?_
    refine g_dup hX (dk DX11_made_0 23 rfl) rfl ?_
    refine g_iload_1 hX (dk DX11_made_0 24 rfl) ?_
    refine g_iload_2 hX (dk DX11_made_0 25 rfl) ?_
    refine g_iload_3 hX (dk DX11_made_0 26 rfl) ?_
    refine g_iload_4 hX (dk DX11_made_0 27 rfl) ?_
    refine g_iload_5 hX (dk DX11_made_0 28 rfl) ?_
    refine g_iload_6 hX (dk DX11_made_0 29 rfl) ?_
    refine g_c7V hX sX11_made_87 (by decide) (Nat.le_of_ble_eq_true rfl) (rc0 rfl (Nat.lt_succ_self _) (congrArg Prod.fst (if_pos rfl))) (by decide) (by decide) (c_ini4_4 hG (h := zA h (hn h) (hn h + 1) (4, 0)) (Nat.lt_succ_self _) (congrArg Prod.fst (if_pos rfl))) ?_
    refine g_areturn (r := some (hn h)) hX (dk DX11_made_0 31 rfl) rfl rfl (Or.inl ⟨_, rfl⟩) (by decide) (by decide) ?_
    exact ⟨rfl, rfl, by rw [hc3]; rfl⟩
  refine ⟨fun hc4 => ?_, fun hc4n => ?_⟩
  · show GG _ _ _ _ _ _ _ _ _ _ _ _ _
    refine g_nw_obj hX (hn h) (hn h + 1) rfl rfl (dk DX11_made_0 32 rfl) KX8 (by decide) (tg_2 119 rfl rfl) (tg_2 120 rfl rfl) (tg_1 13 rfl rfl) hGn (by decide) (by decide) ?_
    refine g_dup hX (dk DX11_made_0 33 rfl) rfl ?_
    refine g_iload_1 hX (dk DX11_made_0 34 rfl) ?_
    refine g_iload_2 hX (dk DX11_made_0 35 rfl) ?_
    refine g_iload_3 hX (dk DX11_made_0 36 rfl) ?_
    refine g_iload_4 hX (dk DX11_made_0 37 rfl) ?_
    refine g_iload_5 hX (dk DX11_made_0 38 rfl) ?_
    refine g_iload_6 hX (dk DX11_made_0 39 rfl) ?_
    refine g_c7V hX sX11_made_104 (by decide) (Nat.le_of_ble_eq_true rfl) (rc0 rfl (Nat.lt_succ_self _) (congrArg Prod.fst (if_pos rfl))) (by decide) (by decide) (c_ini8_8 hG (h := zA h (hn h) (hn h + 1) (8, 0)) (Nat.lt_succ_self _) (congrArg Prod.fst (if_pos rfl))) ?_
    refine g_areturn (r := some (hn h)) hX (dk DX11_made_0 41 rfl) rfl rfl (Or.inl ⟨_, rfl⟩) (by decide) (by decide) ?_
    exact ⟨rfl, rfl, by rw [hc4]; rfl⟩
  refine ⟨fun hc5 => ?_, fun hc5n => ?_⟩
  · show GG _ _ _ _ _ _ _ _ _ _ _ _ _
    refine g_nw_obj hX (hn h) (hn h + 1) rfl rfl (dk DX11_made_0 42 rfl) KX6 (by decide) (tg_2 132 rfl rfl) (tg_2 133 rfl rfl) (tg_1 14 rfl rfl) hGn (by decide) (by decide) ?_
    refine g_dup hX (dk DX11_made_0 43 rfl) rfl ?_
    refine g_iload_1 hX (dk DX11_made_0 44 rfl) ?_
    refine g_iload_2 hX (dk DX11_made_0 45 rfl) ?_
    refine g_iload_3 hX (dk DX11_made_0 46 rfl) ?_
    refine g_iload_4 hX (dk DX11_made_0 47 rfl) ?_
    refine g_iload_5 hX (dk DX11_made_0 48 rfl) ?_
    refine g_iload_6 hX (dk DX11_made_0 49 rfl) ?_
    refine g_c7V hX sX11_made_121 (by decide) (Nat.le_of_ble_eq_true rfl) (rc0 rfl (Nat.lt_succ_self _) (congrArg Prod.fst (if_pos rfl))) (by decide) (by decide) (c_ini6_6 hG (h := zA h (hn h) (hn h + 1) (6, 0)) (Nat.lt_succ_self _) (congrArg Prod.fst (if_pos rfl))) ?_
    refine g_areturn (r := some (hn h)) hX (dk DX11_made_0 51 rfl) rfl rfl (Or.inl ⟨_, rfl⟩) (by decide) (by decide) ?_
    exact ⟨rfl, rfl, by rw [hc5]; rfl⟩
  refine ⟨fun hc6 => ?_, fun hc6n => ?_⟩
  · show GG _ _ _ _ _ _ _ _ _ _ _ _ _
    refine g_nw_obj hX (hn h) (hn h + 1) rfl rfl (dk DX11_made_0 52 rfl) KX10 (by decide) (tg_2 145 rfl rfl) (tg_2 146 rfl rfl) (tg_1 15 rfl rfl) hGn (by decide) (by decide) ?_
    refine g_dup hX (dk DX11_made_0 53 rfl) rfl ?_
    refine g_iload_1 hX (dk DX11_made_0 54 rfl) ?_
    refine g_iload_2 hX (dk DX11_made_0 55 rfl) ?_
    refine g_iload_3 hX (dk DX11_made_0 56 rfl) ?_
    refine g_iload_4 hX (dk DX11_made_0 57 rfl) ?_
    refine g_iload_5 hX (dk DX11_made_0 58 rfl) ?_
    refine g_iload_6 hX (dk DX11_made_0 59 rfl) ?_
    refine g_c7V hX sX11_made_138 (by decide) (Nat.le_of_ble_eq_true rfl) (rc0 rfl (Nat.lt_succ_self _) (congrArg Prod.fst (if_pos rfl))) (by decide) (by decide) (c_ini10_10 hG (h := zA h (hn h) (hn h + 1) (10, 0)) (Nat.lt_succ_self _) (congrArg Prod.fst (if_pos rfl))) ?_
    refine g_areturn (r := some (hn h)) hX (dk DX11_made_1 1 rfl) rfl rfl (Or.inl ⟨_, rfl⟩) (by decide) (by decide) ?_
    exact ⟨rfl, rfl, by rw [hc6]; rfl⟩
  show GG _ _ _ _ _ _ _ _ _ _ _ _ _
  refine g_nw_obj hX (hn h) (hn h + 1) rfl rfl (dk DX11_made_1 2 rfl) KX1 (by decide) (tg_2 158 rfl rfl) (tg_2 159 rfl rfl) (tg_1 8 rfl rfl) hGn (by decide) (by decide) ?_
  refine g_dup hX (dk DX11_made_1 3 rfl) rfl ?_
  refine g_iload_1 hX (dk DX11_made_1 4 rfl) ?_
  refine g_iload_2 hX (dk DX11_made_1 5 rfl) ?_
  refine g_iload_3 hX (dk DX11_made_1 6 rfl) ?_
  refine g_iload_4 hX (dk DX11_made_1 7 rfl) ?_
  refine g_iload_5 hX (dk DX11_made_1 8 rfl) ?_
  refine g_iload_6 hX (dk DX11_made_1 9 rfl) ?_
  refine g_c7V hX sX11_made_155 (by decide) (Nat.le_of_ble_eq_true rfl) (rc0 rfl (Nat.lt_succ_self _) (congrArg Prod.fst (if_pos rfl))) (by decide) (by decide) (c_ini1_1 hG (h := zA h (hn h) (hn h + 1) (1, 0)) (Nat.lt_succ_self _) (congrArg Prod.fst (if_pos rfl))) ?_
  refine g_areturn (r := some (hn h)) hX (dk DX11_made_1 11 rfl) rfl rfl (Or.inl ⟨_, rfl⟩) (by decide) (by decide) ?_
  exact ⟨rfl, rfl, by unfold kcl; rw [if_neg hc1n, if_neg hc2n, if_neg hc3n, if_neg hc4n, if_neg hc5n, if_neg hc6n]⟩

