set_option maxRecDepth 8000 in
set_option maxHeartbeats 4000000 in
theorem c_X7_begins {G : Gt} (hG : Gok G) {I : It} {h : Ht}  (hH : HX h) {b : Int32} {r : Nat} (hr : I 32 1 = nI r) (hr2 : r ≤ 90) : Con G (1) 0 0 mX7_begins [.ref 32, .int b] I h (rV (tb1 I b) h) := by
  refine con_intro (own := RX7) (lo0 := [some (.ref 32), some (.int b)]) hG rfl pl_X7 (Nat.le_of_ble_eq_true rfl) rfl (fun X hX => ?_)
  refine g_aload_0 hX (dk DX7_begins 0 rfl) ?_
  refine g_getIv hX (dk DX7_begins 1 rfl) KX7 fX7_13 (by decide) rfl (CLt hH (q := 32) (by decide)) (CC hH 32 (by decide) rfl) (hr) ?_
  refine g_aload_0 hX (dk DX7_begins 2 rfl) ?_
  refine g_getRs (r := 33) hX (dk DX7_begins 3 rfl) KX7 fX7_7 (by decide) rfl (CLt hH (q := 32) (by decide)) (CC hH 32 (by decide) rfl) (CR hH 32 0 33 (by decide)) ?_
  refine g_alen (v := 20) hX (dk DX7_begins 4 rfl) (CLt hH (q := 33) (by decide)) (CS hH 33 (by decide) rfl) (by decide) (i0 := 0) rfl (by decide) ?_
  refine g_icmp_ge (tgt := 22) hX (dk DX7_begins 5 rfl) (by decide) (fun hc1 => ?_) (fun hc1 => ?_)
  · refine g_aload_0 hX (dk DX7_begins 12 rfl) ?_
    refine g_dup hX (dk DX7_begins 13 rfl) rfl ?_
    refine g_getI hX (dk DX7_begins 14 rfl) KX7 fX7_13 (by decide) rfl (CLt hH (q := 32) (by decide)) (CC hH 32 (by decide) rfl) ?_
    refine g_iconst (v := 1) hX (dk DX7_begins 15 rfl) (by decide) ?_
    refine g_iadd hX (dk DX7_begins 16 rfl) ?_
    refine g_putI hX (dk DX7_begins 17 rfl) KX7 fX7_13 (by decide) rfl (CLt hH (q := 32) (by decide)) (CC hH 32 (by decide) rfl) (Or.inl rfl) (rfl) (rfl) ?_
    refine g_return hX (dk DX7_begins 18 rfl) rfl (by decide) (by decide) ?_
    first
    | exact rV_of (by unfold tb1; rw [if_pos hlt, show (upI I 33 r b) 32 1 = I 32 1 from rfl, hr, tN_nI (by omega)]) rfl
    | exact rV_of (by unfold tb1; rw [if_neg (by rw [hr]; exact Int32.not_lt.mpr hc1)]) rfl
    | exact rV_of (by unfold tb1; rw [if_neg (by rw [hr]; exact Int32.not_lt.mpr (Decidable.not_not.mp hc1))]) rfl
  · have hb20 : r < 20 := by
      rcases Nat.lt_or_ge r 20 with z | z
      · exact z
      · exact absurd (nI_le (a := 20) z (by omega)) hc1
    have hlt : I 32 1 < 20 := by rw [hr]; exact Int32.not_le.mp hc1
    refine g_aload_0 hX (dk DX7_begins 6 rfl) ?_
    refine g_getRs (r := 33) hX (dk DX7_begins 7 rfl) KX7 fX7_7 (by decide) rfl (CLt hH (q := 32) (by decide)) (CC hH 32 (by decide) rfl) (CR hH 32 0 33 (by decide)) ?_
    refine g_aload_0 hX (dk DX7_begins 8 rfl) ?_
    refine g_getIv hX (dk DX7_begins 9 rfl) KX7 fX7_13 (by decide) rfl (CLt hH (q := 32) (by decide)) (CC hH 32 (by decide) rfl) (hr) ?_
    refine g_iload_1 hX (dk DX7_begins 10 rfl) ?_
    refine i_iastore hX (dk DX7_begins 11 rfl) (CLt hH (q := 33) (by decide)) (CS hH 33 (by decide) rfl) (⟨rfl, hb20, by decide⟩) ?_
    refine g_aload_0 hX (dk DX7_begins 12 rfl) ?_
    refine g_dup hX (dk DX7_begins 13 rfl) rfl ?_
    refine g_getI hX (dk DX7_begins 14 rfl) KX7 fX7_13 (by decide) rfl (CLt hH (q := 32) (by decide)) (CC hH 32 (by decide) rfl) ?_
    refine g_iconst (v := 1) hX (dk DX7_begins 15 rfl) (by decide) ?_
    refine g_iadd hX (dk DX7_begins 16 rfl) ?_
    refine g_putI hX (dk DX7_begins 17 rfl) KX7 fX7_13 (by decide) rfl (CLt hH (q := 32) (by decide)) (CC hH 32 (by decide) rfl) (Or.inl rfl) (rfl) (rfl) ?_
    refine g_return hX (dk DX7_begins 18 rfl) rfl (by decide) (by decide) ?_
    first
    | exact rV_of (by unfold tb1; rw [if_pos hlt, show (upI I 33 r b) 32 1 = I 32 1 from rfl, hr, tN_nI (by omega)]) rfl
    | exact rV_of (by unfold tb1; rw [if_neg (by rw [hr]; exact Int32.not_lt.mpr hc1)]) rfl
    | exact rV_of (by unfold tb1; rw [if_neg (by rw [hr]; exact Int32.not_lt.mpr (Decidable.not_not.mp hc1))]) rfl

set_option maxRecDepth 8000 in
set_option maxHeartbeats 4000000 in
theorem cv_says_1 {G : Gt} (hG : Gok G) {I : It} {h : Ht}  {q : Nat} {x : Int32} (hq : q < hn h) (hcl : (hs h q).1 = 1) (hH : HX h) {r : Nat} (hr : I 32 1 = nI r) (hr2 : r ≤ 80) (h32 : q ≠ 32) (h33 : q ≠ 33) : Con G (3) 0 0 mX1_says [.ref q, .int x, .ref 32] I h (rI (dsV 1 (I q 0) (I q 1) x) (tbL I (dsB 1)) h) := by
  refine con_intro (own := RX1) (lo0 := [some (.ref q), some (.int x), some (.ref 32)]) hG rfl pl_X1 (Nat.le_of_ble_eq_true rfl) rfl (fun X hX => ?_)
  refine g_aload_2 hX (dk DX1_says 0 rfl) ?_
  refine g_bipush (v := 10) hX (dk DX1_says 1 rfl) (by decide) ?_
  refine g_c2V hX sX1_says_3 (by decide) (Nat.le_of_ble_eq_true rfl) (rc0 rfl (CLt hH (by decide)) (CC hH 32 (by decide) rfl)) (by decide) (by decide) (c_X7_begins hG hH (by exact hr) (by omega)) ?_
  have hr := tb1_ran _ 10 hr
  refine g_iload_1 hX (dk DX1_says 3 rfl) ?_
  refine g_aload_0 hX (dk DX1_says 4 rfl) ?_
  refine g_getIv hX (dk DX1_says 5 rfl) KX1 fX1_9 (by decide) rfl hq hcl ((show _ = I q 0 from by first | (simp only [tbL_off _ _ h32 h33, tb1_off _ _ h32 h33]; done) | rfl)) ?_
  refine g_iadd hX (dk DX1_says 6 rfl) ?_
  refine g_ireturn hX (dk DX1_says 7 rfl) rfl (rfl) (by decide) (by decide) ?_
  exact rI_of rfl ((tbL_1 I 10).symm) rfl

set_option maxRecDepth 8000 in
set_option maxHeartbeats 4000000 in
theorem cv_holds_1 {G : Gt} (hG : Gok G) {I : It} {h : Ht}  {q : Nat} {x : Int32} (hq : q < hn h) (hcl : (hs h q).1 = 1) (hH : HX h) {r : Nat} (hr : I 32 1 = nI r) (hr2 : r ≤ 75) (h32 : q ≠ 32) (h33 : q ≠ 33) : Con G (6) 0 0 mX1_holds [.ref q, .int x, .ref 32] I h (rI (dhV 1 (I q 0) (I q 1) x) (tbL I (dhB 1)) h) := by
  refine con_intro (own := RX1) (lo0 := [some (.ref q), some (.int x), some (.ref 32)]) hG rfl pl_X1 (Nat.le_of_ble_eq_true rfl) rfl (fun X hX => ?_)
  refine g_aload_2 hX (dk DX1_holds 0 rfl) ?_
  refine g_bipush (v := 11) hX (dk DX1_holds 1 rfl) (by decide) ?_
  refine g_c2V hX sX1_holds_3 (by decide) (Nat.le_of_ble_eq_true rfl) (rc0 rfl (CLt hH (by decide)) (CC hH 32 (by decide) rfl)) (by decide) (by decide) (c_X7_begins hG hH (by exact hr) (by omega)) ?_
  have hr := tb1_ran _ 11 hr
  refine g_aload_0 hX (dk DX1_holds 3 rfl) ?_
  refine g_iload_1 hX (dk DX1_holds 4 rfl) ?_
  refine g_aload_2 hX (dk DX1_holds 5 rfl) ?_
  refine g_c3I hX sX1_holds_9_c1 (by decide) (Nat.le_of_ble_eq_true rfl) (rc0 rfl hq hcl) (by decide) (by decide) (cv_says_1 hG hq hcl hH (by exact hr) (by omega) h32 h33) ?_
  refine g_nmI (dsV 1 (I q 0) (I q 1) x) (by rw [tb1_off _ _ h32 h33]) ?_
  have hr := tbL_ran (dsB 1) _ hr
  have hlen := dsB_len 1
  refine g_aload_0 hX (dk DX1_holds 7 rfl) ?_
  refine g_getIv hX (dk DX1_holds 8 rfl) KX1 fX1_15 (by decide) rfl hq hcl ((show _ = I q 1 from by first | (simp only [tbL_off _ _ h32 h33, tb1_off _ _ h32 h33]; done) | rfl)) ?_
  refine g_isub hX (dk DX1_holds 9 rfl) ?_
  refine g_ireturn hX (dk DX1_holds 10 rfl) rfl (rfl) (by decide) (by decide) ?_
  exact rI_of rfl ((tbL_c I 11 (dsB 1)).symm) rfl

set_option maxRecDepth 8000 in
set_option maxHeartbeats 4000000 in
theorem cv_tells_1 {G : Gt} (hG : Gok G) {I : It} {h : Ht}  {q : Nat} {x : Int32} (hq : q < hn h) (hcl : (hs h q).1 = 1) (hH : HX h) {r : Nat} (hr : I 32 1 = nI r) (hr2 : r ≤ 60) (h32 : q ≠ 32) (h33 : q ≠ 33) : Con G (8) 0 0 mX1_tells [.ref q, .int x, .ref 32] I h (rI (dtlV 1 (I q 0) (I q 1) x) (tbL I (dtlB 1)) h) := by
  refine con_intro (own := RX1) (lo0 := [some (.ref q), some (.int x), some (.ref 32)]) hG rfl pl_X1 (Nat.le_of_ble_eq_true rfl) rfl (fun X hX => ?_)
  refine g_aload_2 hX (dk DX1_tells 0 rfl) ?_
  refine g_bipush (v := 12) hX (dk DX1_tells 1 rfl) (by decide) ?_
  refine g_c2V hX sX1_tells_3 (by decide) (Nat.le_of_ble_eq_true rfl) (rc0 rfl (CLt hH (by decide)) (CC hH 32 (by decide) rfl)) (by decide) (by decide) (c_X7_begins hG hH (by exact hr) (by omega)) ?_
  have hr := tb1_ran _ 12 hr
  refine g_aload_0 hX (dk DX1_tells 3 rfl) ?_
  refine g_iload_1 hX (dk DX1_tells 4 rfl) ?_
  refine g_aload_2 hX (dk DX1_tells 5 rfl) ?_
  refine g_c3I hX sX1_tells_9_c1 (by decide) (Nat.le_of_ble_eq_true rfl) (rc0 rfl hq hcl) (by decide) (by decide) (cv_holds_1 hG hq hcl hH (by exact hr) (by omega) h32 h33) ?_
  refine g_nmI (dhV 1 (I q 0) (I q 1) x) (by rw [tb1_off _ _ h32 h33]) ?_
  have hr := tbL_ran (dhB 1) _ hr
  have hlen := dhB_len 1
  refine g_iconst (v := 2) hX (dk DX1_tells 7 rfl) (by decide) ?_
  refine g_imul hX (dk DX1_tells 8 rfl) ?_
  refine g_ireturn hX (dk DX1_tells 9 rfl) rfl (rfl) (by decide) (by decide) ?_
  exact rI_of rfl ((tbL_c I 12 (dhB 1)).symm) rfl

set_option maxRecDepth 8000 in
set_option maxHeartbeats 4000000 in
theorem cv1_says_2 {G : Gt} (hG : Gok G) {I : It} {h : Ht}  {q : Nat} {x : Int32} (hq : q < hn h) (hcl : (hs h q).1 = 2) (hH : HX h) {r : Nat} (hr : I 32 1 = nI r) (hr2 : r ≤ 80) (h32 : q ≠ 32) (h33 : q ≠ 33) : Con G (2) 0 0 mX1_says [.ref q, .int x, .ref 32] I h (rI (x + I q 0) (tb1 I 10) h) := by
  refine con_intro (own := RX1) (lo0 := [some (.ref q), some (.int x), some (.ref 32)]) hG rfl pl_X1 (Nat.le_of_ble_eq_true rfl) rfl (fun X hX => ?_)
  refine g_aload_2 hX (dk DX1_says 0 rfl) ?_
  refine g_bipush (v := 10) hX (dk DX1_says 1 rfl) (by decide) ?_
  refine g_c2V hX sX1_says_3 (by decide) (Nat.le_of_ble_eq_true rfl) (rc0 rfl (CLt hH (by decide)) (CC hH 32 (by decide) rfl)) (by decide) (by decide) (c_X7_begins hG hH (by exact hr) (by omega)) ?_
  have hr := tb1_ran _ 10 hr
  refine g_iload_1 hX (dk DX1_says 3 rfl) ?_
  refine g_aload_0 hX (dk DX1_says 4 rfl) ?_
  refine g_getIv hX (dk DX1_says 5 rfl) KX2 fX1_9 (by decide) rfl hq hcl ((show _ = I q 0 from by first | (simp only [tbL_off _ _ h32 h33, tb1_off _ _ h32 h33]; done) | rfl)) ?_
  refine g_iadd hX (dk DX1_says 6 rfl) ?_
  refine g_ireturn hX (dk DX1_says 7 rfl) rfl (rfl) (by decide) (by decide) ?_
  exact rI_of rfl (rfl) rfl

set_option maxRecDepth 8000 in
set_option maxHeartbeats 4000000 in
theorem cv_says_2 {G : Gt} (hG : Gok G) {I : It} {h : Ht}  {q : Nat} {x : Int32} (hq : q < hn h) (hcl : (hs h q).1 = 2) (hH : HX h) {r : Nat} (hr : I 32 1 = nI r) (hr2 : r ≤ 79) (h32 : q ≠ 32) (h33 : q ≠ 33) : Con G (3) 0 0 mX2_says [.ref q, .int x, .ref 32] I h (rI (dsV 2 (I q 0) (I q 1) x) (tbL I (dsB 2)) h) := by
  refine con_intro (own := RX2) (lo0 := [some (.ref q), some (.int x), some (.ref 32)]) hG rfl pl_X2 (Nat.le_of_ble_eq_true rfl) rfl (fun X hX => ?_)
  refine g_aload_2 hX (dk DX2_says 0 rfl) ?_
  refine g_bipush (v := 30) hX (dk DX2_says 1 rfl) (by decide) ?_
  refine g_c2V hX sX2_says_3 (by decide) (Nat.le_of_ble_eq_true rfl) (rc0 rfl (CLt hH (by decide)) (CC hH 32 (by decide) rfl)) (by decide) (by decide) (c_X7_begins hG hH (by exact hr) (by omega)) ?_
  have hr := tb1_ran _ 30 hr
  refine g_aload_0 hX (dk DX2_says 3 rfl) ?_
  refine g_iload_1 hX (dk DX2_says 4 rfl) ?_
  refine g_iconst (v := 3) hX (dk DX2_says 5 rfl) (by decide) ?_
  refine g_imul hX (dk DX2_says 6 rfl) ?_
  refine g_aload_2 hX (dk DX2_says 7 rfl) ?_
  refine g_c3I hX sX2_says_11_c2 (by decide) (Nat.le_of_ble_eq_true rfl) (rc0 rfl hq hcl) (by decide) (by decide) (cv1_says_2 hG hq hcl hH (by exact hr) (by omega) h32 h33) ?_
  refine g_nmI (x * 3 + I q 0) (by rw [tb1_off _ _ h32 h33]) ?_
  refine g_ireturn hX (dk DX2_says 9 rfl) rfl (rfl) (by decide) (by decide) ?_
  exact rI_of rfl ((tbL_2 I 30 10).symm) rfl

set_option maxRecDepth 8000 in
set_option maxHeartbeats 4000000 in
theorem cv_holds_2 {G : Gt} (hG : Gok G) {I : It} {h : Ht}  {q : Nat} {x : Int32} (hq : q < hn h) (hcl : (hs h q).1 = 2) (hH : HX h) {r : Nat} (hr : I 32 1 = nI r) (hr2 : r ≤ 75) (h32 : q ≠ 32) (h33 : q ≠ 33) : Con G (6) 0 0 mX1_holds [.ref q, .int x, .ref 32] I h (rI (dhV 2 (I q 0) (I q 1) x) (tbL I (dhB 2)) h) := by
  refine con_intro (own := RX1) (lo0 := [some (.ref q), some (.int x), some (.ref 32)]) hG rfl pl_X1 (Nat.le_of_ble_eq_true rfl) rfl (fun X hX => ?_)
  refine g_aload_2 hX (dk DX1_holds 0 rfl) ?_
  refine g_bipush (v := 11) hX (dk DX1_holds 1 rfl) (by decide) ?_
  refine g_c2V hX sX1_holds_3 (by decide) (Nat.le_of_ble_eq_true rfl) (rc0 rfl (CLt hH (by decide)) (CC hH 32 (by decide) rfl)) (by decide) (by decide) (c_X7_begins hG hH (by exact hr) (by omega)) ?_
  have hr := tb1_ran _ 11 hr
  refine g_aload_0 hX (dk DX1_holds 3 rfl) ?_
  refine g_iload_1 hX (dk DX1_holds 4 rfl) ?_
  refine g_aload_2 hX (dk DX1_holds 5 rfl) ?_
  refine g_c3I hX sX1_holds_9_c2 (by decide) (Nat.le_of_ble_eq_true rfl) (rc0 rfl hq hcl) (by decide) (by decide) (cv_says_2 hG hq hcl hH (by exact hr) (by omega) h32 h33) ?_
  refine g_nmI (dsV 2 (I q 0) (I q 1) x) (by rw [tb1_off _ _ h32 h33]) ?_
  have hr := tbL_ran (dsB 2) _ hr
  have hlen := dsB_len 2
  refine g_aload_0 hX (dk DX1_holds 7 rfl) ?_
  refine g_getIv hX (dk DX1_holds 8 rfl) KX2 fX1_15 (by decide) rfl hq hcl ((show _ = I q 1 from by first | (simp only [tbL_off _ _ h32 h33, tb1_off _ _ h32 h33]; done) | rfl)) ?_
  refine g_isub hX (dk DX1_holds 9 rfl) ?_
  refine g_ireturn hX (dk DX1_holds 10 rfl) rfl (rfl) (by decide) (by decide) ?_
  exact rI_of rfl ((tbL_c I 11 (dsB 2)).symm) rfl

set_option maxRecDepth 8000 in
set_option maxHeartbeats 4000000 in
theorem cv_tells_2 {G : Gt} (hG : Gok G) {I : It} {h : Ht}  {q : Nat} {x : Int32} (hq : q < hn h) (hcl : (hs h q).1 = 2) (hH : HX h) {r : Nat} (hr : I 32 1 = nI r) (hr2 : r ≤ 60) (h32 : q ≠ 32) (h33 : q ≠ 33) : Con G (8) 0 0 mX1_tells [.ref q, .int x, .ref 32] I h (rI (dtlV 2 (I q 0) (I q 1) x) (tbL I (dtlB 2)) h) := by
  refine con_intro (own := RX1) (lo0 := [some (.ref q), some (.int x), some (.ref 32)]) hG rfl pl_X1 (Nat.le_of_ble_eq_true rfl) rfl (fun X hX => ?_)
  refine g_aload_2 hX (dk DX1_tells 0 rfl) ?_
  refine g_bipush (v := 12) hX (dk DX1_tells 1 rfl) (by decide) ?_
  refine g_c2V hX sX1_tells_3 (by decide) (Nat.le_of_ble_eq_true rfl) (rc0 rfl (CLt hH (by decide)) (CC hH 32 (by decide) rfl)) (by decide) (by decide) (c_X7_begins hG hH (by exact hr) (by omega)) ?_
  have hr := tb1_ran _ 12 hr
  refine g_aload_0 hX (dk DX1_tells 3 rfl) ?_
  refine g_iload_1 hX (dk DX1_tells 4 rfl) ?_
  refine g_aload_2 hX (dk DX1_tells 5 rfl) ?_
  refine g_c3I hX sX1_tells_9_c2 (by decide) (Nat.le_of_ble_eq_true rfl) (rc0 rfl hq hcl) (by decide) (by decide) (cv_holds_2 hG hq hcl hH (by exact hr) (by omega) h32 h33) ?_
  refine g_nmI (dhV 2 (I q 0) (I q 1) x) (by rw [tb1_off _ _ h32 h33]) ?_
  have hr := tbL_ran (dhB 2) _ hr
  have hlen := dhB_len 2
  refine g_iconst (v := 2) hX (dk DX1_tells 7 rfl) (by decide) ?_
  refine g_imul hX (dk DX1_tells 8 rfl) ?_
  refine g_ireturn hX (dk DX1_tells 9 rfl) rfl (rfl) (by decide) (by decide) ?_
  exact rI_of rfl ((tbL_c I 12 (dhB 2)).symm) rfl

set_option maxRecDepth 8000 in
set_option maxHeartbeats 4000000 in
theorem cv_says_4 {G : Gt} (hG : Gok G) {I : It} {h : Ht}  {q : Nat} {x : Int32} (hq : q < hn h) (hcl : (hs h q).1 = 4) (hH : HX h) {r : Nat} (hr : I 32 1 = nI r) (hr2 : r ≤ 80) (h32 : q ≠ 32) (h33 : q ≠ 33) : Con G (3) 0 0 mX1_says [.ref q, .int x, .ref 32] I h (rI (dsV 4 (I q 0) (I q 1) x) (tbL I (dsB 4)) h) := by
  refine con_intro (own := RX1) (lo0 := [some (.ref q), some (.int x), some (.ref 32)]) hG rfl pl_X1 (Nat.le_of_ble_eq_true rfl) rfl (fun X hX => ?_)
  refine g_aload_2 hX (dk DX1_says 0 rfl) ?_
  refine g_bipush (v := 10) hX (dk DX1_says 1 rfl) (by decide) ?_
  refine g_c2V hX sX1_says_3 (by decide) (Nat.le_of_ble_eq_true rfl) (rc0 rfl (CLt hH (by decide)) (CC hH 32 (by decide) rfl)) (by decide) (by decide) (c_X7_begins hG hH (by exact hr) (by omega)) ?_
  have hr := tb1_ran _ 10 hr
  refine g_iload_1 hX (dk DX1_says 3 rfl) ?_
  refine g_aload_0 hX (dk DX1_says 4 rfl) ?_
  refine g_getIv hX (dk DX1_says 5 rfl) KX4 fX1_9 (by decide) rfl hq hcl ((show _ = I q 0 from by first | (simp only [tbL_off _ _ h32 h33, tb1_off _ _ h32 h33]; done) | rfl)) ?_
  refine g_iadd hX (dk DX1_says 6 rfl) ?_
  refine g_ireturn hX (dk DX1_says 7 rfl) rfl (rfl) (by decide) (by decide) ?_
  exact rI_of rfl ((tbL_1 I 10).symm) rfl

set_option maxRecDepth 8000 in
set_option maxHeartbeats 4000000 in
theorem cv_holds_4 {G : Gt} (hG : Gok G) {I : It} {h : Ht}  {q : Nat} {x : Int32} (hq : q < hn h) (hcl : (hs h q).1 = 4) (hH : HX h) {r : Nat} (hr : I 32 1 = nI r) (hr2 : r ≤ 75) (h32 : q ≠ 32) (h33 : q ≠ 33) : Con G (6) 0 0 mX1_holds [.ref q, .int x, .ref 32] I h (rI (dhV 4 (I q 0) (I q 1) x) (tbL I (dhB 4)) h) := by
  refine con_intro (own := RX1) (lo0 := [some (.ref q), some (.int x), some (.ref 32)]) hG rfl pl_X1 (Nat.le_of_ble_eq_true rfl) rfl (fun X hX => ?_)
  refine g_aload_2 hX (dk DX1_holds 0 rfl) ?_
  refine g_bipush (v := 11) hX (dk DX1_holds 1 rfl) (by decide) ?_
  refine g_c2V hX sX1_holds_3 (by decide) (Nat.le_of_ble_eq_true rfl) (rc0 rfl (CLt hH (by decide)) (CC hH 32 (by decide) rfl)) (by decide) (by decide) (c_X7_begins hG hH (by exact hr) (by omega)) ?_
  have hr := tb1_ran _ 11 hr
  refine g_aload_0 hX (dk DX1_holds 3 rfl) ?_
  refine g_iload_1 hX (dk DX1_holds 4 rfl) ?_
  refine g_aload_2 hX (dk DX1_holds 5 rfl) ?_
  refine g_c3I hX sX1_holds_9_c4 (by decide) (Nat.le_of_ble_eq_true rfl) (rc0 rfl hq hcl) (by decide) (by decide) (cv_says_4 hG hq hcl hH (by exact hr) (by omega) h32 h33) ?_
  refine g_nmI (dsV 4 (I q 0) (I q 1) x) (by rw [tb1_off _ _ h32 h33]) ?_
  have hr := tbL_ran (dsB 4) _ hr
  have hlen := dsB_len 4
  refine g_aload_0 hX (dk DX1_holds 7 rfl) ?_
  refine g_getIv hX (dk DX1_holds 8 rfl) KX4 fX1_15 (by decide) rfl hq hcl ((show _ = I q 1 from by first | (simp only [tbL_off _ _ h32 h33, tb1_off _ _ h32 h33]; done) | rfl)) ?_
  refine g_isub hX (dk DX1_holds 9 rfl) ?_
  refine g_ireturn hX (dk DX1_holds 10 rfl) rfl (rfl) (by decide) (by decide) ?_
  exact rI_of rfl ((tbL_c I 11 (dsB 4)).symm) rfl

set_option maxRecDepth 8000 in
set_option maxHeartbeats 4000000 in
theorem cv1_tells_4 {G : Gt} (hG : Gok G) {I : It} {h : Ht}  {q : Nat} {x : Int32} (hq : q < hn h) (hcl : (hs h q).1 = 4) (hH : HX h) {r : Nat} (hr : I 32 1 = nI r) (hr2 : r ≤ 60) (h32 : q ≠ 32) (h33 : q ≠ 33) : Con G (7) 0 0 mX1_tells [.ref q, .int x, .ref 32] I h (rI (dtV 4 (I q 0) (I q 1) x) (tbL I (12 :: dhB 4)) h) := by
  refine con_intro (own := RX1) (lo0 := [some (.ref q), some (.int x), some (.ref 32)]) hG rfl pl_X1 (Nat.le_of_ble_eq_true rfl) rfl (fun X hX => ?_)
  refine g_aload_2 hX (dk DX1_tells 0 rfl) ?_
  refine g_bipush (v := 12) hX (dk DX1_tells 1 rfl) (by decide) ?_
  refine g_c2V hX sX1_tells_3 (by decide) (Nat.le_of_ble_eq_true rfl) (rc0 rfl (CLt hH (by decide)) (CC hH 32 (by decide) rfl)) (by decide) (by decide) (c_X7_begins hG hH (by exact hr) (by omega)) ?_
  have hr := tb1_ran _ 12 hr
  refine g_aload_0 hX (dk DX1_tells 3 rfl) ?_
  refine g_iload_1 hX (dk DX1_tells 4 rfl) ?_
  refine g_aload_2 hX (dk DX1_tells 5 rfl) ?_
  refine g_c3I hX sX1_tells_9_c4 (by decide) (Nat.le_of_ble_eq_true rfl) (rc0 rfl hq hcl) (by decide) (by decide) (cv_holds_4 hG hq hcl hH (by exact hr) (by omega) h32 h33) ?_
  refine g_nmI (dhV 4 (I q 0) (I q 1) x) (by rw [tb1_off _ _ h32 h33]) ?_
  have hr := tbL_ran (dhB 4) _ hr
  have hlen := dhB_len 4
  refine g_iconst (v := 2) hX (dk DX1_tells 7 rfl) (by decide) ?_
  refine g_imul hX (dk DX1_tells 8 rfl) ?_
  refine g_ireturn hX (dk DX1_tells 9 rfl) rfl (rfl) (by decide) (by decide) ?_
  exact rI_of rfl ((tbL_c I 12 (dhB 4)).symm) rfl

set_option maxRecDepth 8000 in
set_option maxHeartbeats 4000000 in
theorem cv_tells_4 {G : Gt} (hG : Gok G) {I : It} {h : Ht}  {q : Nat} {x : Int32} (hq : q < hn h) (hcl : (hs h q).1 = 4) (hH : HX h) {r : Nat} (hr : I 32 1 = nI r) (hr2 : r ≤ 50) (h32 : q ≠ 32) (h33 : q ≠ 33) : Con G (8) 0 0 mX4_tells [.ref q, .int x, .ref 32] I h (rI (dtlV 4 (I q 0) (I q 1) x) (tbL I (dtlB 4)) h) := by
  refine con_intro (own := RX4) (lo0 := [some (.ref q), some (.int x), some (.ref 32)]) hG rfl pl_X4 (Nat.le_of_ble_eq_true rfl) rfl (fun X hX => ?_)
  refine g_aload_2 hX (dk DX4_tells 0 rfl) ?_
  refine g_bipush (v := 40) hX (dk DX4_tells 1 rfl) (by decide) ?_
  refine g_c2V hX sX4_tells_3 (by decide) (Nat.le_of_ble_eq_true rfl) (rc0 rfl (CLt hH (by decide)) (CC hH 32 (by decide) rfl)) (by decide) (by decide) (c_X7_begins hG hH (by exact hr) (by omega)) ?_
  have hr := tb1_ran _ 40 hr
  refine g_aload_0 hX (dk DX4_tells 3 rfl) ?_
  refine g_iload_1 hX (dk DX4_tells 4 rfl) ?_
  refine g_aload_2 hX (dk DX4_tells 5 rfl) ?_
  refine g_c3I hX sX4_tells_9_c4 (by decide) (Nat.le_of_ble_eq_true rfl) (rc0 rfl hq hcl) (by decide) (by decide) (cv1_tells_4 hG hq hcl hH (by exact hr) (by omega) h32 h33) ?_
  refine g_nmI (dtV 4 (I q 0) (I q 1) x) (by rw [tb1_off _ _ h32 h33]) ?_
  have hr := tbL_ran (12 :: dhB 4) _ hr
  have hlen := dhB_len 4
  rw [List.length_cons] at hr
  refine g_aload_0 hX (dk DX4_tells 7 rfl) ?_
  refine g_iconst (v := 1) hX (dk DX4_tells 8 rfl) (by decide) ?_
  refine g_aload_2 hX (dk DX4_tells 9 rfl) ?_
  refine g_c3I hX sX4_tells_15_c4 (by decide) (Nat.le_of_ble_eq_true rfl) (rc0 rfl hq hcl) (by decide) (by decide) (cv_holds_4 hG hq hcl hH (by exact hr) (by omega) h32 h33) ?_
  refine g_nmI (dhV 4 (I q 0) (I q 1) 1) (by rw [tbL_off _ _ h32 h33, tb1_off _ _ h32 h33]) ?_
  refine g_iadd hX (dk DX4_tells 11 rfl) ?_
  refine g_ireturn hX (dk DX4_tells 12 rfl) rfl (rfl) (by decide) (by decide) ?_
  exact rI_of rfl ((tbL_app _ _ _).trans (tbL_c I 40 _).symm) rfl

set_option maxRecDepth 8000 in
set_option maxHeartbeats 4000000 in
theorem cv1_says_6 {G : Gt} (hG : Gok G) {I : It} {h : Ht}  {q : Nat} {x : Int32} (hq : q < hn h) (hcl : (hs h q).1 = 6) (hH : HX h) {r : Nat} (hr : I 32 1 = nI r) (hr2 : r ≤ 80) (h32 : q ≠ 32) (h33 : q ≠ 33) : Con G (2) 0 0 mX1_says [.ref q, .int x, .ref 32] I h (rI (x + I q 0) (tb1 I 10) h) := by
  refine con_intro (own := RX1) (lo0 := [some (.ref q), some (.int x), some (.ref 32)]) hG rfl pl_X1 (Nat.le_of_ble_eq_true rfl) rfl (fun X hX => ?_)
  refine g_aload_2 hX (dk DX1_says 0 rfl) ?_
  refine g_bipush (v := 10) hX (dk DX1_says 1 rfl) (by decide) ?_
  refine g_c2V hX sX1_says_3 (by decide) (Nat.le_of_ble_eq_true rfl) (rc0 rfl (CLt hH (by decide)) (CC hH 32 (by decide) rfl)) (by decide) (by decide) (c_X7_begins hG hH (by exact hr) (by omega)) ?_
  have hr := tb1_ran _ 10 hr
  refine g_iload_1 hX (dk DX1_says 3 rfl) ?_
  refine g_aload_0 hX (dk DX1_says 4 rfl) ?_
  refine g_getIv hX (dk DX1_says 5 rfl) KX6 fX1_9 (by decide) rfl hq hcl ((show _ = I q 0 from by first | (simp only [tbL_off _ _ h32 h33, tb1_off _ _ h32 h33]; done) | rfl)) ?_
  refine g_iadd hX (dk DX1_says 6 rfl) ?_
  refine g_ireturn hX (dk DX1_says 7 rfl) rfl (rfl) (by decide) (by decide) ?_
  exact rI_of rfl (rfl) rfl

set_option maxRecDepth 8000 in
set_option maxHeartbeats 4000000 in
theorem cv_says_6 {G : Gt} (hG : Gok G) {I : It} {h : Ht}  {q : Nat} {x : Int32} (hq : q < hn h) (hcl : (hs h q).1 = 6) (hH : HX h) {r : Nat} (hr : I 32 1 = nI r) (hr2 : r ≤ 79) (h32 : q ≠ 32) (h33 : q ≠ 33) : Con G (3) 0 0 mX2_says [.ref q, .int x, .ref 32] I h (rI (dsV 6 (I q 0) (I q 1) x) (tbL I (dsB 6)) h) := by
  refine con_intro (own := RX2) (lo0 := [some (.ref q), some (.int x), some (.ref 32)]) hG rfl pl_X2 (Nat.le_of_ble_eq_true rfl) rfl (fun X hX => ?_)
  refine g_aload_2 hX (dk DX2_says 0 rfl) ?_
  refine g_bipush (v := 30) hX (dk DX2_says 1 rfl) (by decide) ?_
  refine g_c2V hX sX2_says_3 (by decide) (Nat.le_of_ble_eq_true rfl) (rc0 rfl (CLt hH (by decide)) (CC hH 32 (by decide) rfl)) (by decide) (by decide) (c_X7_begins hG hH (by exact hr) (by omega)) ?_
  have hr := tb1_ran _ 30 hr
  refine g_aload_0 hX (dk DX2_says 3 rfl) ?_
  refine g_iload_1 hX (dk DX2_says 4 rfl) ?_
  refine g_iconst (v := 3) hX (dk DX2_says 5 rfl) (by decide) ?_
  refine g_imul hX (dk DX2_says 6 rfl) ?_
  refine g_aload_2 hX (dk DX2_says 7 rfl) ?_
  refine g_c3I hX sX2_says_11_c6 (by decide) (Nat.le_of_ble_eq_true rfl) (rc0 rfl hq hcl) (by decide) (by decide) (cv1_says_6 hG hq hcl hH (by exact hr) (by omega) h32 h33) ?_
  refine g_nmI (x * 3 + I q 0) (by rw [tb1_off _ _ h32 h33]) ?_
  refine g_ireturn hX (dk DX2_says 9 rfl) rfl (rfl) (by decide) (by decide) ?_
  exact rI_of rfl ((tbL_2 I 30 10).symm) rfl

set_option maxRecDepth 8000 in
set_option maxHeartbeats 4000000 in
theorem cv_holds_6 {G : Gt} (hG : Gok G) {I : It} {h : Ht}  {q : Nat} {x : Int32} (hq : q < hn h) (hcl : (hs h q).1 = 6) (hH : HX h) {r : Nat} (hr : I 32 1 = nI r) (hr2 : r ≤ 75) (h32 : q ≠ 32) (h33 : q ≠ 33) : Con G (6) 0 0 mX1_holds [.ref q, .int x, .ref 32] I h (rI (dhV 6 (I q 0) (I q 1) x) (tbL I (dhB 6)) h) := by
  refine con_intro (own := RX1) (lo0 := [some (.ref q), some (.int x), some (.ref 32)]) hG rfl pl_X1 (Nat.le_of_ble_eq_true rfl) rfl (fun X hX => ?_)
  refine g_aload_2 hX (dk DX1_holds 0 rfl) ?_
  refine g_bipush (v := 11) hX (dk DX1_holds 1 rfl) (by decide) ?_
  refine g_c2V hX sX1_holds_3 (by decide) (Nat.le_of_ble_eq_true rfl) (rc0 rfl (CLt hH (by decide)) (CC hH 32 (by decide) rfl)) (by decide) (by decide) (c_X7_begins hG hH (by exact hr) (by omega)) ?_
  have hr := tb1_ran _ 11 hr
  refine g_aload_0 hX (dk DX1_holds 3 rfl) ?_
  refine g_iload_1 hX (dk DX1_holds 4 rfl) ?_
  refine g_aload_2 hX (dk DX1_holds 5 rfl) ?_
  refine g_c3I hX sX1_holds_9_c6 (by decide) (Nat.le_of_ble_eq_true rfl) (rc0 rfl hq hcl) (by decide) (by decide) (cv_says_6 hG hq hcl hH (by exact hr) (by omega) h32 h33) ?_
  refine g_nmI (dsV 6 (I q 0) (I q 1) x) (by rw [tb1_off _ _ h32 h33]) ?_
  have hr := tbL_ran (dsB 6) _ hr
  have hlen := dsB_len 6
  refine g_aload_0 hX (dk DX1_holds 7 rfl) ?_
  refine g_getIv hX (dk DX1_holds 8 rfl) KX6 fX1_15 (by decide) rfl hq hcl ((show _ = I q 1 from by first | (simp only [tbL_off _ _ h32 h33, tb1_off _ _ h32 h33]; done) | rfl)) ?_
  refine g_isub hX (dk DX1_holds 9 rfl) ?_
  refine g_ireturn hX (dk DX1_holds 10 rfl) rfl (rfl) (by decide) (by decide) ?_
  exact rI_of rfl ((tbL_c I 11 (dsB 6)).symm) rfl

set_option maxRecDepth 8000 in
set_option maxHeartbeats 4000000 in
theorem cv1_tells_6 {G : Gt} (hG : Gok G) {I : It} {h : Ht}  {q : Nat} {x : Int32} (hq : q < hn h) (hcl : (hs h q).1 = 6) (hH : HX h) {r : Nat} (hr : I 32 1 = nI r) (hr2 : r ≤ 60) (h32 : q ≠ 32) (h33 : q ≠ 33) : Con G (7) 0 0 mX1_tells [.ref q, .int x, .ref 32] I h (rI (dtV 6 (I q 0) (I q 1) x) (tbL I (12 :: dhB 6)) h) := by
  refine con_intro (own := RX1) (lo0 := [some (.ref q), some (.int x), some (.ref 32)]) hG rfl pl_X1 (Nat.le_of_ble_eq_true rfl) rfl (fun X hX => ?_)
  refine g_aload_2 hX (dk DX1_tells 0 rfl) ?_
  refine g_bipush (v := 12) hX (dk DX1_tells 1 rfl) (by decide) ?_
  refine g_c2V hX sX1_tells_3 (by decide) (Nat.le_of_ble_eq_true rfl) (rc0 rfl (CLt hH (by decide)) (CC hH 32 (by decide) rfl)) (by decide) (by decide) (c_X7_begins hG hH (by exact hr) (by omega)) ?_
  have hr := tb1_ran _ 12 hr
  refine g_aload_0 hX (dk DX1_tells 3 rfl) ?_
  refine g_iload_1 hX (dk DX1_tells 4 rfl) ?_
  refine g_aload_2 hX (dk DX1_tells 5 rfl) ?_
  refine g_c3I hX sX1_tells_9_c6 (by decide) (Nat.le_of_ble_eq_true rfl) (rc0 rfl hq hcl) (by decide) (by decide) (cv_holds_6 hG hq hcl hH (by exact hr) (by omega) h32 h33) ?_
  refine g_nmI (dhV 6 (I q 0) (I q 1) x) (by rw [tb1_off _ _ h32 h33]) ?_
  have hr := tbL_ran (dhB 6) _ hr
  have hlen := dhB_len 6
  refine g_iconst (v := 2) hX (dk DX1_tells 7 rfl) (by decide) ?_
  refine g_imul hX (dk DX1_tells 8 rfl) ?_
  refine g_ireturn hX (dk DX1_tells 9 rfl) rfl (rfl) (by decide) (by decide) ?_
  exact rI_of rfl ((tbL_c I 12 (dhB 6)).symm) rfl

set_option maxRecDepth 8000 in
set_option maxHeartbeats 4000000 in
theorem cv_tells_6 {G : Gt} (hG : Gok G) {I : It} {h : Ht}  {q : Nat} {x : Int32} (hq : q < hn h) (hcl : (hs h q).1 = 6) (hH : HX h) {r : Nat} (hr : I 32 1 = nI r) (hr2 : r ≤ 50) (h32 : q ≠ 32) (h33 : q ≠ 33) : Con G (8) 0 0 mX6_tells [.ref q, .int x, .ref 32] I h (rI (dtlV 6 (I q 0) (I q 1) x) (tbL I (dtlB 6)) h) := by
  refine con_intro (own := RX6) (lo0 := [some (.ref q), some (.int x), some (.ref 32)]) hG rfl pl_X6 (Nat.le_of_ble_eq_true rfl) rfl (fun X hX => ?_)
  refine g_aload_2 hX (dk DX6_tells 0 rfl) ?_
  refine g_bipush (v := 60) hX (dk DX6_tells 1 rfl) (by decide) ?_
  refine g_c2V hX sX6_tells_3 (by decide) (Nat.le_of_ble_eq_true rfl) (rc0 rfl (CLt hH (by decide)) (CC hH 32 (by decide) rfl)) (by decide) (by decide) (c_X7_begins hG hH (by exact hr) (by omega)) ?_
  have hr := tb1_ran _ 60 hr
  refine g_aload_0 hX (dk DX6_tells 3 rfl) ?_
  refine g_iload_1 hX (dk DX6_tells 4 rfl) ?_
  refine g_aload_0 hX (dk DX6_tells 5 rfl) ?_
  refine g_getIv hX (dk DX6_tells 6 rfl) KX6 fX6_25 (by decide) rfl hq hcl ((show _ = I q 0 from by first | (simp only [tbL_off _ _ h32 h33, tb1_off _ _ h32 h33]; done) | rfl)) ?_
  refine g_isub hX (dk DX6_tells 7 rfl) ?_
  refine g_aload_2 hX (dk DX6_tells 8 rfl) ?_
  refine g_c3I hX sX6_tells_14_c6 (by decide) (Nat.le_of_ble_eq_true rfl) (rc0 rfl hq hcl) (by decide) (by decide) (cv1_tells_6 hG hq hcl hH (by exact hr) (by omega) h32 h33) ?_
  refine g_nmI (dtV 6 (I q 0) (I q 1) (x - I q 0)) (by rw [tb1_off _ _ h32 h33]) ?_
  refine g_ireturn hX (dk DX6_tells 10 rfl) rfl (rfl) (by decide) (by decide) ?_
  exact rI_of rfl ((tbL_c I 60 (12 :: dhB 6)).symm) rfl

set_option maxRecDepth 8000 in
set_option maxHeartbeats 4000000 in
theorem cv1_says_8 {G : Gt} (hG : Gok G) {I : It} {h : Ht}  {q : Nat} {x : Int32} (hq : q < hn h) (hcl : (hs h q).1 = 8) (hH : HX h) {r : Nat} (hr : I 32 1 = nI r) (hr2 : r ≤ 80) (h32 : q ≠ 32) (h33 : q ≠ 33) : Con G (2) 0 0 mX1_says [.ref q, .int x, .ref 32] I h (rI (x + I q 0) (tb1 I 10) h) := by
  refine con_intro (own := RX1) (lo0 := [some (.ref q), some (.int x), some (.ref 32)]) hG rfl pl_X1 (Nat.le_of_ble_eq_true rfl) rfl (fun X hX => ?_)
  refine g_aload_2 hX (dk DX1_says 0 rfl) ?_
  refine g_bipush (v := 10) hX (dk DX1_says 1 rfl) (by decide) ?_
  refine g_c2V hX sX1_says_3 (by decide) (Nat.le_of_ble_eq_true rfl) (rc0 rfl (CLt hH (by decide)) (CC hH 32 (by decide) rfl)) (by decide) (by decide) (c_X7_begins hG hH (by exact hr) (by omega)) ?_
  have hr := tb1_ran _ 10 hr
  refine g_iload_1 hX (dk DX1_says 3 rfl) ?_
  refine g_aload_0 hX (dk DX1_says 4 rfl) ?_
  refine g_getIv hX (dk DX1_says 5 rfl) KX8 fX1_9 (by decide) rfl hq hcl ((show _ = I q 0 from by first | (simp only [tbL_off _ _ h32 h33, tb1_off _ _ h32 h33]; done) | rfl)) ?_
  refine g_iadd hX (dk DX1_says 6 rfl) ?_
  refine g_ireturn hX (dk DX1_says 7 rfl) rfl (rfl) (by decide) (by decide) ?_
  exact rI_of rfl (rfl) rfl

set_option maxRecDepth 8000 in
set_option maxHeartbeats 4000000 in
theorem cv_says_8 {G : Gt} (hG : Gok G) {I : It} {h : Ht}  {q : Nat} {x : Int32} (hq : q < hn h) (hcl : (hs h q).1 = 8) (hH : HX h) {r : Nat} (hr : I 32 1 = nI r) (hr2 : r ≤ 79) (h32 : q ≠ 32) (h33 : q ≠ 33) : Con G (3) 0 0 mX8_says [.ref q, .int x, .ref 32] I h (rI (dsV 8 (I q 0) (I q 1) x) (tbL I (dsB 8)) h) := by
  refine con_intro (own := RX8) (lo0 := [some (.ref q), some (.int x), some (.ref 32)]) hG rfl pl_X8 (Nat.le_of_ble_eq_true rfl) rfl (fun X hX => ?_)
  refine g_aload_2 hX (dk DX8_says 0 rfl) ?_
  refine g_bipush (v := 50) hX (dk DX8_says 1 rfl) (by decide) ?_
  refine g_c2V hX sX8_says_3 (by decide) (Nat.le_of_ble_eq_true rfl) (rc0 rfl (CLt hH (by decide)) (CC hH 32 (by decide) rfl)) (by decide) (by decide) (c_X7_begins hG hH (by exact hr) (by omega)) ?_
  have hr := tb1_ran _ 50 hr
  refine g_aload_0 hX (dk DX8_says 3 rfl) ?_
  refine g_iload_1 hX (dk DX8_says 4 rfl) ?_
  refine g_aload_2 hX (dk DX8_says 5 rfl) ?_
  refine g_c3I hX sX8_says_9_c8 (by decide) (Nat.le_of_ble_eq_true rfl) (rc0 rfl hq hcl) (by decide) (by decide) (cv1_says_8 hG hq hcl hH (by exact hr) (by omega) h32 h33) ?_
  refine g_nmI (x + I q 0) (by rw [tb1_off _ _ h32 h33]) ?_
  refine g_ineg hX (dk DX8_says 7 rfl) ?_
  refine g_ireturn hX (dk DX8_says 8 rfl) rfl (rfl) (by decide) (by decide) ?_
  exact rI_of rfl ((tbL_2 I 50 10).symm) rfl

set_option maxRecDepth 8000 in
set_option maxHeartbeats 4000000 in
theorem cv1_holds_8 {G : Gt} (hG : Gok G) {I : It} {h : Ht}  {q : Nat} {x : Int32} (hq : q < hn h) (hcl : (hs h q).1 = 8) (hH : HX h) {r : Nat} (hr : I 32 1 = nI r) (hr2 : r ≤ 75) (h32 : q ≠ 32) (h33 : q ≠ 33) : Con G (4) 0 0 mX1_holds [.ref q, .int x, .ref 32] I h (rI (dkV 8 (I q 0) (I q 1) x) (tbL I (11 :: dsB 8)) h) := by
  refine con_intro (own := RX1) (lo0 := [some (.ref q), some (.int x), some (.ref 32)]) hG rfl pl_X1 (Nat.le_of_ble_eq_true rfl) rfl (fun X hX => ?_)
  refine g_aload_2 hX (dk DX1_holds 0 rfl) ?_
  refine g_bipush (v := 11) hX (dk DX1_holds 1 rfl) (by decide) ?_
  refine g_c2V hX sX1_holds_3 (by decide) (Nat.le_of_ble_eq_true rfl) (rc0 rfl (CLt hH (by decide)) (CC hH 32 (by decide) rfl)) (by decide) (by decide) (c_X7_begins hG hH (by exact hr) (by omega)) ?_
  have hr := tb1_ran _ 11 hr
  refine g_aload_0 hX (dk DX1_holds 3 rfl) ?_
  refine g_iload_1 hX (dk DX1_holds 4 rfl) ?_
  refine g_aload_2 hX (dk DX1_holds 5 rfl) ?_
  refine g_c3I hX sX1_holds_9_c8 (by decide) (Nat.le_of_ble_eq_true rfl) (rc0 rfl hq hcl) (by decide) (by decide) (cv_says_8 hG hq hcl hH (by exact hr) (by omega) h32 h33) ?_
  refine g_nmI (dsV 8 (I q 0) (I q 1) x) (by rw [tb1_off _ _ h32 h33]) ?_
  have hr := tbL_ran (dsB 8) _ hr
  have hlen := dsB_len 8
  refine g_aload_0 hX (dk DX1_holds 7 rfl) ?_
  refine g_getIv hX (dk DX1_holds 8 rfl) KX8 fX1_15 (by decide) rfl hq hcl ((show _ = I q 1 from by first | (simp only [tbL_off _ _ h32 h33, tb1_off _ _ h32 h33]; done) | rfl)) ?_
  refine g_isub hX (dk DX1_holds 9 rfl) ?_
  refine g_ireturn hX (dk DX1_holds 10 rfl) rfl (rfl) (by decide) (by decide) ?_
  exact rI_of rfl ((tbL_c I 11 (dsB 8)).symm) rfl

set_option maxRecDepth 8000 in
set_option maxHeartbeats 4000000 in
theorem cv9_holds_8 {G : Gt} (hG : Gok G) {I : It} {h : Ht}  {q : Nat} {x : Int32} (hq : q < hn h) (hcl : (hs h q).1 = 8) (hH : HX h) {r : Nat} (hr : I 32 1 = nI r) (hr2 : r ≤ 74) (h32 : q ≠ 32) (h33 : q ≠ 33) : Con G (5) 0 0 mX9_holds [.ref q, .int x, .ref 32] I h (rI (dkV 8 (I q 0) (I q 1) x ^^^ 6) (tbL I (20 :: 11 :: dsB 8)) h) := by
  refine con_intro (own := RX9) (lo0 := [some (.ref q), some (.int x), some (.ref 32)]) hG rfl pl_X9 (Nat.le_of_ble_eq_true rfl) rfl (fun X hX => ?_)
  refine g_aload_2 hX (dk DX9_holds 0 rfl) ?_
  refine g_bipush (v := 20) hX (dk DX9_holds 1 rfl) (by decide) ?_
  refine g_c2V hX sX9_holds_3 (by decide) (Nat.le_of_ble_eq_true rfl) (rc0 rfl (CLt hH (by decide)) (CC hH 32 (by decide) rfl)) (by decide) (by decide) (c_X7_begins hG hH (by exact hr) (by omega)) ?_
  have hr := tb1_ran _ 20 hr
  refine g_aload_0 hX (dk DX9_holds 3 rfl) ?_
  refine g_iload_1 hX (dk DX9_holds 4 rfl) ?_
  refine g_aload_2 hX (dk DX9_holds 5 rfl) ?_
  refine g_c3I hX sX9_holds_9_c8 (by decide) (Nat.le_of_ble_eq_true rfl) (rc0 rfl hq hcl) (by decide) (by decide) (cv1_holds_8 hG hq hcl hH (by exact hr) (by omega) h32 h33) ?_
  refine g_nmI (dkV 8 (I q 0) (I q 1) x) (by rw [tb1_off _ _ h32 h33]) ?_
  refine g_bipush (v := 6) hX (dk DX9_holds 7 rfl) (by decide) ?_
  refine g_ixor hX (dk DX9_holds 8 rfl) ?_
  refine g_ireturn hX (dk DX9_holds 9 rfl) rfl (rfl) (by decide) (by decide) ?_
  exact rI_of rfl ((tbL_c I 20 (11 :: dsB 8)).symm) rfl

set_option maxRecDepth 8000 in
set_option maxHeartbeats 4000000 in
theorem cv_holds_8 {G : Gt} (hG : Gok G) {I : It} {h : Ht}  {q : Nat} {x : Int32} (hq : q < hn h) (hcl : (hs h q).1 = 8) (hH : HX h) {r : Nat} (hr : I 32 1 = nI r) (hr2 : r ≤ 73) (h32 : q ≠ 32) (h33 : q ≠ 33) : Con G (6) 0 0 mX8_holds [.ref q, .int x, .ref 32] I h (rI (dhV 8 (I q 0) (I q 1) x) (tbL I (dhB 8)) h) := by
  refine con_intro (own := RX8) (lo0 := [some (.ref q), some (.int x), some (.ref 32)]) hG rfl pl_X8 (Nat.le_of_ble_eq_true rfl) rfl (fun X hX => ?_)
  refine g_aload_2 hX (dk DX8_holds 0 rfl) ?_
  refine g_bipush (v := 51) hX (dk DX8_holds 1 rfl) (by decide) ?_
  refine g_c2V hX sX8_holds_3 (by decide) (Nat.le_of_ble_eq_true rfl) (rc0 rfl (CLt hH (by decide)) (CC hH 32 (by decide) rfl)) (by decide) (by decide) (c_X7_begins hG hH (by exact hr) (by omega)) ?_
  have hr := tb1_ran _ 51 hr
  refine g_aload_0 hX (dk DX8_holds 3 rfl) ?_
  refine g_iload_1 hX (dk DX8_holds 4 rfl) ?_
  refine g_iconst (v := 1) hX (dk DX8_holds 5 rfl) (by decide) ?_
  refine g_iadd hX (dk DX8_holds 6 rfl) ?_
  refine g_aload_2 hX (dk DX8_holds 7 rfl) ?_
  refine g_c3I hX sX8_holds_11_c8 (by decide) (Nat.le_of_ble_eq_true rfl) (rc0 rfl hq hcl) (by decide) (by decide) (cv9_holds_8 hG hq hcl hH (by exact hr) (by omega) h32 h33) ?_
  refine g_nmI (dkV 8 (I q 0) (I q 1) (x + 1) ^^^ 6) (by rw [tb1_off _ _ h32 h33]) ?_
  refine g_ireturn hX (dk DX8_holds 9 rfl) rfl (rfl) (by decide) (by decide) ?_
  exact rI_of rfl ((tbL_c I 51 (20 :: 11 :: dsB 8)).symm) rfl

set_option maxRecDepth 8000 in
set_option maxHeartbeats 4000000 in
theorem cv_tells_8 {G : Gt} (hG : Gok G) {I : It} {h : Ht}  {q : Nat} {x : Int32} (hq : q < hn h) (hcl : (hs h q).1 = 8) (hH : HX h) {r : Nat} (hr : I 32 1 = nI r) (hr2 : r ≤ 60) (h32 : q ≠ 32) (h33 : q ≠ 33) : Con G (8) 0 0 mX1_tells [.ref q, .int x, .ref 32] I h (rI (dtlV 8 (I q 0) (I q 1) x) (tbL I (dtlB 8)) h) := by
  refine con_intro (own := RX1) (lo0 := [some (.ref q), some (.int x), some (.ref 32)]) hG rfl pl_X1 (Nat.le_of_ble_eq_true rfl) rfl (fun X hX => ?_)
  refine g_aload_2 hX (dk DX1_tells 0 rfl) ?_
  refine g_bipush (v := 12) hX (dk DX1_tells 1 rfl) (by decide) ?_
  refine g_c2V hX sX1_tells_3 (by decide) (Nat.le_of_ble_eq_true rfl) (rc0 rfl (CLt hH (by decide)) (CC hH 32 (by decide) rfl)) (by decide) (by decide) (c_X7_begins hG hH (by exact hr) (by omega)) ?_
  have hr := tb1_ran _ 12 hr
  refine g_aload_0 hX (dk DX1_tells 3 rfl) ?_
  refine g_iload_1 hX (dk DX1_tells 4 rfl) ?_
  refine g_aload_2 hX (dk DX1_tells 5 rfl) ?_
  refine g_c3I hX sX1_tells_9_c8 (by decide) (Nat.le_of_ble_eq_true rfl) (rc0 rfl hq hcl) (by decide) (by decide) (cv_holds_8 hG hq hcl hH (by exact hr) (by omega) h32 h33) ?_
  refine g_nmI (dhV 8 (I q 0) (I q 1) x) (by rw [tb1_off _ _ h32 h33]) ?_
  have hr := tbL_ran (dhB 8) _ hr
  have hlen := dhB_len 8
  refine g_iconst (v := 2) hX (dk DX1_tells 7 rfl) (by decide) ?_
  refine g_imul hX (dk DX1_tells 8 rfl) ?_
  refine g_ireturn hX (dk DX1_tells 9 rfl) rfl (rfl) (by decide) (by decide) ?_
  exact rI_of rfl ((tbL_c I 12 (dhB 8)).symm) rfl

set_option maxRecDepth 8000 in
set_option maxHeartbeats 4000000 in
theorem cv_says_9 {G : Gt} (hG : Gok G) {I : It} {h : Ht}  {q : Nat} {x : Int32} (hq : q < hn h) (hcl : (hs h q).1 = 9) (hH : HX h) {r : Nat} (hr : I 32 1 = nI r) (hr2 : r ≤ 80) (h32 : q ≠ 32) (h33 : q ≠ 33) : Con G (3) 0 0 mX1_says [.ref q, .int x, .ref 32] I h (rI (dsV 9 (I q 0) (I q 1) x) (tbL I (dsB 9)) h) := by
  refine con_intro (own := RX1) (lo0 := [some (.ref q), some (.int x), some (.ref 32)]) hG rfl pl_X1 (Nat.le_of_ble_eq_true rfl) rfl (fun X hX => ?_)
  refine g_aload_2 hX (dk DX1_says 0 rfl) ?_
  refine g_bipush (v := 10) hX (dk DX1_says 1 rfl) (by decide) ?_
  refine g_c2V hX sX1_says_3 (by decide) (Nat.le_of_ble_eq_true rfl) (rc0 rfl (CLt hH (by decide)) (CC hH 32 (by decide) rfl)) (by decide) (by decide) (c_X7_begins hG hH (by exact hr) (by omega)) ?_
  have hr := tb1_ran _ 10 hr
  refine g_iload_1 hX (dk DX1_says 3 rfl) ?_
  refine g_aload_0 hX (dk DX1_says 4 rfl) ?_
  refine g_getIv hX (dk DX1_says 5 rfl) KX9 fX1_9 (by decide) rfl hq hcl ((show _ = I q 0 from by first | (simp only [tbL_off _ _ h32 h33, tb1_off _ _ h32 h33]; done) | rfl)) ?_
  refine g_iadd hX (dk DX1_says 6 rfl) ?_
  refine g_ireturn hX (dk DX1_says 7 rfl) rfl (rfl) (by decide) (by decide) ?_
  exact rI_of rfl ((tbL_1 I 10).symm) rfl

set_option maxRecDepth 8000 in
set_option maxHeartbeats 4000000 in
theorem cv1_holds_9 {G : Gt} (hG : Gok G) {I : It} {h : Ht}  {q : Nat} {x : Int32} (hq : q < hn h) (hcl : (hs h q).1 = 9) (hH : HX h) {r : Nat} (hr : I 32 1 = nI r) (hr2 : r ≤ 75) (h32 : q ≠ 32) (h33 : q ≠ 33) : Con G (4) 0 0 mX1_holds [.ref q, .int x, .ref 32] I h (rI (dkV 9 (I q 0) (I q 1) x) (tbL I (11 :: dsB 9)) h) := by
  refine con_intro (own := RX1) (lo0 := [some (.ref q), some (.int x), some (.ref 32)]) hG rfl pl_X1 (Nat.le_of_ble_eq_true rfl) rfl (fun X hX => ?_)
  refine g_aload_2 hX (dk DX1_holds 0 rfl) ?_
  refine g_bipush (v := 11) hX (dk DX1_holds 1 rfl) (by decide) ?_
  refine g_c2V hX sX1_holds_3 (by decide) (Nat.le_of_ble_eq_true rfl) (rc0 rfl (CLt hH (by decide)) (CC hH 32 (by decide) rfl)) (by decide) (by decide) (c_X7_begins hG hH (by exact hr) (by omega)) ?_
  have hr := tb1_ran _ 11 hr
  refine g_aload_0 hX (dk DX1_holds 3 rfl) ?_
  refine g_iload_1 hX (dk DX1_holds 4 rfl) ?_
  refine g_aload_2 hX (dk DX1_holds 5 rfl) ?_
  refine g_c3I hX sX1_holds_9_c9 (by decide) (Nat.le_of_ble_eq_true rfl) (rc0 rfl hq hcl) (by decide) (by decide) (cv_says_9 hG hq hcl hH (by exact hr) (by omega) h32 h33) ?_
  refine g_nmI (dsV 9 (I q 0) (I q 1) x) (by rw [tb1_off _ _ h32 h33]) ?_
  have hr := tbL_ran (dsB 9) _ hr
  have hlen := dsB_len 9
  refine g_aload_0 hX (dk DX1_holds 7 rfl) ?_
  refine g_getIv hX (dk DX1_holds 8 rfl) KX9 fX1_15 (by decide) rfl hq hcl ((show _ = I q 1 from by first | (simp only [tbL_off _ _ h32 h33, tb1_off _ _ h32 h33]; done) | rfl)) ?_
  refine g_isub hX (dk DX1_holds 9 rfl) ?_
  refine g_ireturn hX (dk DX1_holds 10 rfl) rfl (rfl) (by decide) (by decide) ?_
  exact rI_of rfl ((tbL_c I 11 (dsB 9)).symm) rfl

set_option maxRecDepth 8000 in
set_option maxHeartbeats 4000000 in
theorem cv_holds_9 {G : Gt} (hG : Gok G) {I : It} {h : Ht}  {q : Nat} {x : Int32} (hq : q < hn h) (hcl : (hs h q).1 = 9) (hH : HX h) {r : Nat} (hr : I 32 1 = nI r) (hr2 : r ≤ 74) (h32 : q ≠ 32) (h33 : q ≠ 33) : Con G (6) 0 0 mX9_holds [.ref q, .int x, .ref 32] I h (rI (dhV 9 (I q 0) (I q 1) x) (tbL I (dhB 9)) h) := by
  refine con_intro (own := RX9) (lo0 := [some (.ref q), some (.int x), some (.ref 32)]) hG rfl pl_X9 (Nat.le_of_ble_eq_true rfl) rfl (fun X hX => ?_)
  refine g_aload_2 hX (dk DX9_holds 0 rfl) ?_
  refine g_bipush (v := 20) hX (dk DX9_holds 1 rfl) (by decide) ?_
  refine g_c2V hX sX9_holds_3 (by decide) (Nat.le_of_ble_eq_true rfl) (rc0 rfl (CLt hH (by decide)) (CC hH 32 (by decide) rfl)) (by decide) (by decide) (c_X7_begins hG hH (by exact hr) (by omega)) ?_
  have hr := tb1_ran _ 20 hr
  refine g_aload_0 hX (dk DX9_holds 3 rfl) ?_
  refine g_iload_1 hX (dk DX9_holds 4 rfl) ?_
  refine g_aload_2 hX (dk DX9_holds 5 rfl) ?_
  refine g_c3I hX sX9_holds_9_c9 (by decide) (Nat.le_of_ble_eq_true rfl) (rc0 rfl hq hcl) (by decide) (by decide) (cv1_holds_9 hG hq hcl hH (by exact hr) (by omega) h32 h33) ?_
  refine g_nmI (dkV 9 (I q 0) (I q 1) x) (by rw [tb1_off _ _ h32 h33]) ?_
  refine g_bipush (v := 6) hX (dk DX9_holds 7 rfl) (by decide) ?_
  refine g_ixor hX (dk DX9_holds 8 rfl) ?_
  refine g_ireturn hX (dk DX9_holds 9 rfl) rfl (rfl) (by decide) (by decide) ?_
  exact rI_of rfl ((tbL_c I 20 (11 :: dsB 9)).symm) rfl

set_option maxRecDepth 8000 in
set_option maxHeartbeats 4000000 in
theorem cv_tells_9 {G : Gt} (hG : Gok G) {I : It} {h : Ht}  {q : Nat} {x : Int32} (hq : q < hn h) (hcl : (hs h q).1 = 9) (hH : HX h) {r : Nat} (hr : I 32 1 = nI r) (hr2 : r ≤ 60) (h32 : q ≠ 32) (h33 : q ≠ 33) : Con G (8) 0 0 mX1_tells [.ref q, .int x, .ref 32] I h (rI (dtlV 9 (I q 0) (I q 1) x) (tbL I (dtlB 9)) h) := by
  refine con_intro (own := RX1) (lo0 := [some (.ref q), some (.int x), some (.ref 32)]) hG rfl pl_X1 (Nat.le_of_ble_eq_true rfl) rfl (fun X hX => ?_)
  refine g_aload_2 hX (dk DX1_tells 0 rfl) ?_
  refine g_bipush (v := 12) hX (dk DX1_tells 1 rfl) (by decide) ?_
  refine g_c2V hX sX1_tells_3 (by decide) (Nat.le_of_ble_eq_true rfl) (rc0 rfl (CLt hH (by decide)) (CC hH 32 (by decide) rfl)) (by decide) (by decide) (c_X7_begins hG hH (by exact hr) (by omega)) ?_
  have hr := tb1_ran _ 12 hr
  refine g_aload_0 hX (dk DX1_tells 3 rfl) ?_
  refine g_iload_1 hX (dk DX1_tells 4 rfl) ?_
  refine g_aload_2 hX (dk DX1_tells 5 rfl) ?_
  refine g_c3I hX sX1_tells_9_c9 (by decide) (Nat.le_of_ble_eq_true rfl) (rc0 rfl hq hcl) (by decide) (by decide) (cv_holds_9 hG hq hcl hH (by exact hr) (by omega) h32 h33) ?_
  refine g_nmI (dhV 9 (I q 0) (I q 1) x) (by rw [tb1_off _ _ h32 h33]) ?_
  have hr := tbL_ran (dhB 9) _ hr
  have hlen := dhB_len 9
  refine g_iconst (v := 2) hX (dk DX1_tells 7 rfl) (by decide) ?_
  refine g_imul hX (dk DX1_tells 8 rfl) ?_
  refine g_ireturn hX (dk DX1_tells 9 rfl) rfl (rfl) (by decide) (by decide) ?_
  exact rI_of rfl ((tbL_c I 12 (dhB 9)).symm) rfl

set_option maxRecDepth 8000 in
set_option maxHeartbeats 4000000 in
theorem cv1_says_10 {G : Gt} (hG : Gok G) {I : It} {h : Ht}  {q : Nat} {x : Int32} (hq : q < hn h) (hcl : (hs h q).1 = 10) (hH : HX h) {r : Nat} (hr : I 32 1 = nI r) (hr2 : r ≤ 80) (h32 : q ≠ 32) (h33 : q ≠ 33) : Con G (2) 0 0 mX1_says [.ref q, .int x, .ref 32] I h (rI (x + I q 0) (tb1 I 10) h) := by
  refine con_intro (own := RX1) (lo0 := [some (.ref q), some (.int x), some (.ref 32)]) hG rfl pl_X1 (Nat.le_of_ble_eq_true rfl) rfl (fun X hX => ?_)
  refine g_aload_2 hX (dk DX1_says 0 rfl) ?_
  refine g_bipush (v := 10) hX (dk DX1_says 1 rfl) (by decide) ?_
  refine g_c2V hX sX1_says_3 (by decide) (Nat.le_of_ble_eq_true rfl) (rc0 rfl (CLt hH (by decide)) (CC hH 32 (by decide) rfl)) (by decide) (by decide) (c_X7_begins hG hH (by exact hr) (by omega)) ?_
  have hr := tb1_ran _ 10 hr
  refine g_iload_1 hX (dk DX1_says 3 rfl) ?_
  refine g_aload_0 hX (dk DX1_says 4 rfl) ?_
  refine g_getIv hX (dk DX1_says 5 rfl) KX10 fX1_9 (by decide) rfl hq hcl ((show _ = I q 0 from by first | (simp only [tbL_off _ _ h32 h33, tb1_off _ _ h32 h33]; done) | rfl)) ?_
  refine g_iadd hX (dk DX1_says 6 rfl) ?_
  refine g_ireturn hX (dk DX1_says 7 rfl) rfl (rfl) (by decide) (by decide) ?_
  exact rI_of rfl (rfl) rfl

set_option maxRecDepth 8000 in
set_option maxHeartbeats 4000000 in
theorem cv_says_10 {G : Gt} (hG : Gok G) {I : It} {h : Ht}  {q : Nat} {x : Int32} (hq : q < hn h) (hcl : (hs h q).1 = 10) (hH : HX h) {r : Nat} (hr : I 32 1 = nI r) (hr2 : r ≤ 79) (h32 : q ≠ 32) (h33 : q ≠ 33) : Con G (3) 0 0 mX10_says [.ref q, .int x, .ref 32] I h (rI (dsV 10 (I q 0) (I q 1) x) (tbL I (dsB 10)) h) := by
  refine con_intro (own := RX10) (lo0 := [some (.ref q), some (.int x), some (.ref 32)]) hG rfl pl_X10 (Nat.le_of_ble_eq_true rfl) rfl (fun X hX => ?_)
  refine g_aload_2 hX (dk DX10_says 0 rfl) ?_
  refine g_bipush (v := 71) hX (dk DX10_says 1 rfl) (by decide) ?_
  refine g_c2V hX sX10_says_3 (by decide) (Nat.le_of_ble_eq_true rfl) (rc0 rfl (CLt hH (by decide)) (CC hH 32 (by decide) rfl)) (by decide) (by decide) (c_X7_begins hG hH (by exact hr) (by omega)) ?_
  have hr := tb1_ran _ 71 hr
  refine g_aload_0 hX (dk DX10_says 3 rfl) ?_
  refine g_iload_1 hX (dk DX10_says 4 rfl) ?_
  refine g_aload_2 hX (dk DX10_says 5 rfl) ?_
  refine g_c3I hX sX10_says_9_c10 (by decide) (Nat.le_of_ble_eq_true rfl) (rc0 rfl hq hcl) (by decide) (by decide) (cv1_says_10 hG hq hcl hH (by exact hr) (by omega) h32 h33) ?_
  refine g_nmI (x + I q 0) (by rw [tb1_off _ _ h32 h33]) ?_
  refine g_aload_0 hX (dk DX10_says 7 rfl) ?_
  refine g_getIv hX (dk DX10_says 8 rfl) KX10 fX10_11 (by decide) rfl hq hcl ((show _ = I q 1 from by first | (simp only [tbL_off _ _ h32 h33, tb1_off _ _ h32 h33]; done) | rfl)) ?_
  refine g_ixor hX (dk DX10_says 9 rfl) ?_
  refine g_ireturn hX (dk DX10_says 10 rfl) rfl (rfl) (by decide) (by decide) ?_
  exact rI_of rfl ((tbL_2 I 71 10).symm) rfl

set_option maxRecDepth 8000 in
set_option maxHeartbeats 4000000 in
theorem cv1_holds_10 {G : Gt} (hG : Gok G) {I : It} {h : Ht}  {q : Nat} {x : Int32} (hq : q < hn h) (hcl : (hs h q).1 = 10) (hH : HX h) {r : Nat} (hr : I 32 1 = nI r) (hr2 : r ≤ 75) (h32 : q ≠ 32) (h33 : q ≠ 33) : Con G (4) 0 0 mX1_holds [.ref q, .int x, .ref 32] I h (rI (dkV 10 (I q 0) (I q 1) x) (tbL I (11 :: dsB 10)) h) := by
  refine con_intro (own := RX1) (lo0 := [some (.ref q), some (.int x), some (.ref 32)]) hG rfl pl_X1 (Nat.le_of_ble_eq_true rfl) rfl (fun X hX => ?_)
  refine g_aload_2 hX (dk DX1_holds 0 rfl) ?_
  refine g_bipush (v := 11) hX (dk DX1_holds 1 rfl) (by decide) ?_
  refine g_c2V hX sX1_holds_3 (by decide) (Nat.le_of_ble_eq_true rfl) (rc0 rfl (CLt hH (by decide)) (CC hH 32 (by decide) rfl)) (by decide) (by decide) (c_X7_begins hG hH (by exact hr) (by omega)) ?_
  have hr := tb1_ran _ 11 hr
  refine g_aload_0 hX (dk DX1_holds 3 rfl) ?_
  refine g_iload_1 hX (dk DX1_holds 4 rfl) ?_
  refine g_aload_2 hX (dk DX1_holds 5 rfl) ?_
  refine g_c3I hX sX1_holds_9_c10 (by decide) (Nat.le_of_ble_eq_true rfl) (rc0 rfl hq hcl) (by decide) (by decide) (cv_says_10 hG hq hcl hH (by exact hr) (by omega) h32 h33) ?_
  refine g_nmI (dsV 10 (I q 0) (I q 1) x) (by rw [tb1_off _ _ h32 h33]) ?_
  have hr := tbL_ran (dsB 10) _ hr
  have hlen := dsB_len 10
  refine g_aload_0 hX (dk DX1_holds 7 rfl) ?_
  refine g_getIv hX (dk DX1_holds 8 rfl) KX10 fX1_15 (by decide) rfl hq hcl ((show _ = I q 1 from by first | (simp only [tbL_off _ _ h32 h33, tb1_off _ _ h32 h33]; done) | rfl)) ?_
  refine g_isub hX (dk DX1_holds 9 rfl) ?_
  refine g_ireturn hX (dk DX1_holds 10 rfl) rfl (rfl) (by decide) (by decide) ?_
  exact rI_of rfl ((tbL_c I 11 (dsB 10)).symm) rfl

set_option maxRecDepth 8000 in
set_option maxHeartbeats 4000000 in
theorem cv_holds_10 {G : Gt} (hG : Gok G) {I : It} {h : Ht}  {q : Nat} {x : Int32} (hq : q < hn h) (hcl : (hs h q).1 = 10) (hH : HX h) {r : Nat} (hr : I 32 1 = nI r) (hr2 : r ≤ 70) (h32 : q ≠ 32) (h33 : q ≠ 33) : Con G (6) 0 0 mX10_holds [.ref q, .int x, .ref 32] I h (rI (dhV 10 (I q 0) (I q 1) x) (tbL I (dhB 10)) h) := by
  refine con_intro (own := RX10) (lo0 := [some (.ref q), some (.int x), some (.ref 32)]) hG rfl pl_X10 (Nat.le_of_ble_eq_true rfl) rfl (fun X hX => ?_)
  refine g_aload_2 hX (dk DX10_holds 0 rfl) ?_
  refine g_bipush (v := 70) hX (dk DX10_holds 1 rfl) (by decide) ?_
  refine g_c2V hX sX10_holds_3 (by decide) (Nat.le_of_ble_eq_true rfl) (rc0 rfl (CLt hH (by decide)) (CC hH 32 (by decide) rfl)) (by decide) (by decide) (c_X7_begins hG hH (by exact hr) (by omega)) ?_
  have hr := tb1_ran _ 70 hr
  refine g_aload_0 hX (dk DX10_holds 3 rfl) ?_
  refine g_iload_1 hX (dk DX10_holds 4 rfl) ?_
  refine g_aload_2 hX (dk DX10_holds 5 rfl) ?_
  refine g_c3I hX sX10_holds_9_c10 (by decide) (Nat.le_of_ble_eq_true rfl) (rc0 rfl hq hcl) (by decide) (by decide) (cv1_holds_10 hG hq hcl hH (by exact hr) (by omega) h32 h33) ?_
  refine g_nmI (dkV 10 (I q 0) (I q 1) x) (by rw [tb1_off _ _ h32 h33]) ?_
  have hr := tbL_ran (11 :: dsB 10) _ hr
  have hlen := dsB_len 10
  rw [List.length_cons] at hr
  refine g_aload_0 hX (dk DX10_holds 7 rfl) ?_
  refine g_iconst (v := 2) hX (dk DX10_holds 8 rfl) (by decide) ?_
  refine g_aload_2 hX (dk DX10_holds 9 rfl) ?_
  refine g_c3I hX sX10_holds_15_c10 (by decide) (Nat.le_of_ble_eq_true rfl) (rc0 rfl hq hcl) (by decide) (by decide) (cv1_says_10 hG hq hcl hH (by exact hr) (by omega) h32 h33) ?_
  refine g_nmI (2 + I q 0) (by rw [tbL_off _ _ h32 h33, tb1_off _ _ h32 h33]) ?_
  refine g_iadd hX (dk DX10_holds 11 rfl) ?_
  refine g_ireturn hX (dk DX10_holds 12 rfl) rfl (rfl) (by decide) (by decide) ?_
  exact rI_of rfl (((tbL_1 _ 10).symm.trans (tbL_app _ _ _)).trans (tbL_c I 70 _).symm) rfl

set_option maxRecDepth 8000 in
set_option maxHeartbeats 4000000 in
theorem cv1_tells_10 {G : Gt} (hG : Gok G) {I : It} {h : Ht}  {q : Nat} {x : Int32} (hq : q < hn h) (hcl : (hs h q).1 = 10) (hH : HX h) {r : Nat} (hr : I 32 1 = nI r) (hr2 : r ≤ 60) (h32 : q ≠ 32) (h33 : q ≠ 33) : Con G (7) 0 0 mX1_tells [.ref q, .int x, .ref 32] I h (rI (dtV 10 (I q 0) (I q 1) x) (tbL I (12 :: dhB 10)) h) := by
  refine con_intro (own := RX1) (lo0 := [some (.ref q), some (.int x), some (.ref 32)]) hG rfl pl_X1 (Nat.le_of_ble_eq_true rfl) rfl (fun X hX => ?_)
  refine g_aload_2 hX (dk DX1_tells 0 rfl) ?_
  refine g_bipush (v := 12) hX (dk DX1_tells 1 rfl) (by decide) ?_
  refine g_c2V hX sX1_tells_3 (by decide) (Nat.le_of_ble_eq_true rfl) (rc0 rfl (CLt hH (by decide)) (CC hH 32 (by decide) rfl)) (by decide) (by decide) (c_X7_begins hG hH (by exact hr) (by omega)) ?_
  have hr := tb1_ran _ 12 hr
  refine g_aload_0 hX (dk DX1_tells 3 rfl) ?_
  refine g_iload_1 hX (dk DX1_tells 4 rfl) ?_
  refine g_aload_2 hX (dk DX1_tells 5 rfl) ?_
  refine g_c3I hX sX1_tells_9_c10 (by decide) (Nat.le_of_ble_eq_true rfl) (rc0 rfl hq hcl) (by decide) (by decide) (cv_holds_10 hG hq hcl hH (by exact hr) (by omega) h32 h33) ?_
  refine g_nmI (dhV 10 (I q 0) (I q 1) x) (by rw [tb1_off _ _ h32 h33]) ?_
  have hr := tbL_ran (dhB 10) _ hr
  have hlen := dhB_len 10
  refine g_iconst (v := 2) hX (dk DX1_tells 7 rfl) (by decide) ?_
  refine g_imul hX (dk DX1_tells 8 rfl) ?_
  refine g_ireturn hX (dk DX1_tells 9 rfl) rfl (rfl) (by decide) (by decide) ?_
  exact rI_of rfl ((tbL_c I 12 (dhB 10)).symm) rfl

set_option maxRecDepth 8000 in
set_option maxHeartbeats 4000000 in
theorem cv_tells_10 {G : Gt} (hG : Gok G) {I : It} {h : Ht}  {q : Nat} {x : Int32} (hq : q < hn h) (hcl : (hs h q).1 = 10) (hH : HX h) {r : Nat} (hr : I 32 1 = nI r) (hr2 : r ≤ 50) (h32 : q ≠ 32) (h33 : q ≠ 33) : Con G (8) 0 0 mX4_tells [.ref q, .int x, .ref 32] I h (rI (dtlV 10 (I q 0) (I q 1) x) (tbL I (dtlB 10)) h) := by
  refine con_intro (own := RX4) (lo0 := [some (.ref q), some (.int x), some (.ref 32)]) hG rfl pl_X4 (Nat.le_of_ble_eq_true rfl) rfl (fun X hX => ?_)
  refine g_aload_2 hX (dk DX4_tells 0 rfl) ?_
  refine g_bipush (v := 40) hX (dk DX4_tells 1 rfl) (by decide) ?_
  refine g_c2V hX sX4_tells_3 (by decide) (Nat.le_of_ble_eq_true rfl) (rc0 rfl (CLt hH (by decide)) (CC hH 32 (by decide) rfl)) (by decide) (by decide) (c_X7_begins hG hH (by exact hr) (by omega)) ?_
  have hr := tb1_ran _ 40 hr
  refine g_aload_0 hX (dk DX4_tells 3 rfl) ?_
  refine g_iload_1 hX (dk DX4_tells 4 rfl) ?_
  refine g_aload_2 hX (dk DX4_tells 5 rfl) ?_
  refine g_c3I hX sX4_tells_9_c10 (by decide) (Nat.le_of_ble_eq_true rfl) (rc0 rfl hq hcl) (by decide) (by decide) (cv1_tells_10 hG hq hcl hH (by exact hr) (by omega) h32 h33) ?_
  refine g_nmI (dtV 10 (I q 0) (I q 1) x) (by rw [tb1_off _ _ h32 h33]) ?_
  have hr := tbL_ran (12 :: dhB 10) _ hr
  have hlen := dhB_len 10
  rw [List.length_cons] at hr
  refine g_aload_0 hX (dk DX4_tells 7 rfl) ?_
  refine g_iconst (v := 1) hX (dk DX4_tells 8 rfl) (by decide) ?_
  refine g_aload_2 hX (dk DX4_tells 9 rfl) ?_
  refine g_c3I hX sX4_tells_15_c10 (by decide) (Nat.le_of_ble_eq_true rfl) (rc0 rfl hq hcl) (by decide) (by decide) (cv_holds_10 hG hq hcl hH (by exact hr) (by omega) h32 h33) ?_
  refine g_nmI (dhV 10 (I q 0) (I q 1) 1) (by rw [tbL_off _ _ h32 h33, tb1_off _ _ h32 h33]) ?_
  refine g_iadd hX (dk DX4_tells 11 rfl) ?_
  refine g_ireturn hX (dk DX4_tells 12 rfl) rfl (rfl) (by decide) (by decide) ?_
  exact rI_of rfl ((tbL_app _ _ _).trans (tbL_c I 40 _).symm) rfl

theorem cD_says {G : Gt} (hG : Gok G) {I : It} {h : Ht} {q : Nat} {x : Int32} (hq : q < hn h) (hdc : isDC (hs h q).1) (hH : HX h) {r : Nat} (hr : I 32 1 = nI r) (hr2 : r ≤ 50) (h32 : q ≠ 32) (h33 : q ≠ 33) : Con G 3 0 0 (vm_says (hs h q).1) [.ref q, .int x, .ref 32] I h (rI (dsV (hs h q).1 (I q 0) (I q 1) x) (tbL I (dsB (hs h q).1)) h) := by
  rcases hdc with e | e | e | e | e | e | e <;> rw [e]
  · exact cv_says_1 hG hq e hH hr (by omega) h32 h33
  · exact cv_says_2 hG hq e hH hr (by omega) h32 h33
  · exact cv_says_4 hG hq e hH hr (by omega) h32 h33
  · exact cv_says_6 hG hq e hH hr (by omega) h32 h33
  · exact cv_says_8 hG hq e hH hr (by omega) h32 h33
  · exact cv_says_9 hG hq e hH hr (by omega) h32 h33
  · exact cv_says_10 hG hq e hH hr (by omega) h32 h33
theorem cD_holds {G : Gt} (hG : Gok G) {I : It} {h : Ht} {q : Nat} {x : Int32} (hq : q < hn h) (hdc : isDC (hs h q).1) (hH : HX h) {r : Nat} (hr : I 32 1 = nI r) (hr2 : r ≤ 50) (h32 : q ≠ 32) (h33 : q ≠ 33) : Con G 6 0 0 (vm_holds (hs h q).1) [.ref q, .int x, .ref 32] I h (rI (dhV (hs h q).1 (I q 0) (I q 1) x) (tbL I (dhB (hs h q).1)) h) := by
  rcases hdc with e | e | e | e | e | e | e <;> rw [e]
  · exact cv_holds_1 hG hq e hH hr (by omega) h32 h33
  · exact cv_holds_2 hG hq e hH hr (by omega) h32 h33
  · exact cv_holds_4 hG hq e hH hr (by omega) h32 h33
  · exact cv_holds_6 hG hq e hH hr (by omega) h32 h33
  · exact cv_holds_8 hG hq e hH hr (by omega) h32 h33
  · exact cv_holds_9 hG hq e hH hr (by omega) h32 h33
  · exact cv_holds_10 hG hq e hH hr (by omega) h32 h33
theorem cD_tells {G : Gt} (hG : Gok G) {I : It} {h : Ht} {q : Nat} {x : Int32} (hq : q < hn h) (hdc : isDC (hs h q).1) (hH : HX h) {r : Nat} (hr : I 32 1 = nI r) (hr2 : r ≤ 50) (h32 : q ≠ 32) (h33 : q ≠ 33) : Con G 8 0 0 (vm_tells (hs h q).1) [.ref q, .int x, .ref 32] I h (rI (dtlV (hs h q).1 (I q 0) (I q 1) x) (tbL I (dtlB (hs h q).1)) h) := by
  rcases hdc with e | e | e | e | e | e | e <;> rw [e]
  · exact cv_tells_1 hG hq e hH hr (by omega) h32 h33
  · exact cv_tells_2 hG hq e hH hr (by omega) h32 h33
  · exact cv_tells_4 hG hq e hH hr (by omega) h32 h33
  · exact cv_tells_6 hG hq e hH hr (by omega) h32 h33
  · exact cv_tells_8 hG hq e hH hr (by omega) h32 h33
  · exact cv_tells_9 hG hq e hH hr (by omega) h32 h33
  · exact cv_tells_10 hG hq e hH hr (by omega) h32 h33
