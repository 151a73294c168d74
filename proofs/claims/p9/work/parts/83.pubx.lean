set_option maxRecDepth 8000 in
set_option maxHeartbeats 4000000 in
theorem x_hand {G : Gt} (hG : Gok G) {I : It} {h : Ht}  {E : It} {L : Nat → Int64} (hE : Inv E) (hY : RY E L I h)  : Con G (8) 0 0 mX11_hand [.ref 0] I h (qW E L (hn h)) := by
  refine con_intro (own := RX11) (lo0 := [some (.ref 0), none]) hG rfl pl_X11 (Nat.le_of_ble_eq_true rfl) rfl (fun X hX => ?_)
  have hW := hY.wx hE
  have hH := hW.1
  have hc10 := hW.2.1.2
  refine g_aload_0 hX (dk DX11_hand 0 rfl) ?_
  refine g_getRs (r := 13) hX (dk DX11_hand 1 rfl) KX11 fX11_26 (by decide) rfl (CLt hH (q := 0) (by decide)) (CC hH 0 (by decide) rfl) (CR hH 0 3 13 (by decide)) ?_
  refine g_c1v hX sX11_hand_4 (by decide) (Nat.le_of_ble_eq_true rfl) (rc0 rfl (CLt hH (by decide)) (CC hH 13 (by decide) rfl)) (by decide) (by decide) (w_X0_hear hG hW) ?_
  rintro J _ ⟨hS, h13, rfl⟩
  have hW2 := hW.sc hS
  refine g_aload_0 hX (dk DX11_hand 3 rfl) ?_
  refine g_getRs (r := 13) hX (dk DX11_hand 4 rfl) KX11 fX11_26 (by decide) rfl (CLt hH (q := 0) (by decide)) (CC hH 0 (by decide) rfl) (CR hH 0 3 13 (by decide)) ?_
  refine g_aload_0 hX (dk DX11_hand 5 rfl) ?_
  refine g_getRs (r := 1) hX (dk DX11_hand 6 rfl) KX11 fX11_12 (by decide) rfl (CLt hH (q := 0) (by decide)) (CC hH 0 (by decide) rfl) (CR hH 0 0 1 (by decide)) ?_
  refine g_getRs (r := 4) hX (dk DX11_hand 7 rfl) KX5 fX11_139 (by decide) rfl (CLt hH (q := 1) (by decide)) (CC hH 1 (by decide) rfl) (CR hH 1 5 4 (by decide)) ?_
  refine g_c2q hX sX11_hand_18 (by decide) (Nat.le_of_ble_eq_true rfl) (rc0 rfl (CLt hH (by decide)) (CC hH 13 (by decide) rfl)) (by decide) (by decide) (w_X0_goingOver hG hW2 (CLt hH (q := 4) (by decide)) (CS hH 4 (by decide) rfl)) ?_
  rintro _ _ _ ⟨rfl, rfl⟩
  refine g_aload_0 hX (dk DX11_hand 9 rfl) ?_
  refine g_getRs (r := 1) hX (dk DX11_hand 10 rfl) KX11 fX11_12 (by decide) rfl (CLt hH (q := 0) (by decide)) (CC hH 0 (by decide) rfl) (CR hH 0 0 1 (by decide)) ?_
  refine g_getI hX (dk DX11_hand 11 rfl) KX5 fX11_116 (by decide) rfl (CLt hH (q := 1) (by decide)) (CC hH 1 (by decide) rfl) ?_
  refine g_iconst (v := -1) hX (dk DX11_hand 12 rfl) (by decide) ?_
  refine g_ixor hX (dk DX11_hand 13 rfl) ?_
  refine g_iand hX (dk DX11_hand 14 rfl) ?_
  refine g_istore_1 hX (dk DX11_hand 15 rfl) (by decide) rfl ?_
  refine g_aload_0 hX (dk DX11_hand 16 rfl) ?_
  refine g_getRs (r := 1) hX (dk DX11_hand 17 rfl) KX11 fX11_12 (by decide) rfl (CLt hH (q := 0) (by decide)) (CC hH 0 (by decide) rfl) (CR hH 0 0 1 (by decide)) ?_
  refine g_dup hX (dk DX11_hand 18 rfl) rfl ?_
  refine g_getI hX (dk DX11_hand 19 rfl) KX5 fX11_116 (by decide) rfl (CLt hH (q := 1) (by decide)) (CC hH 1 (by decide) rfl) ?_
  refine g_iload_1 hX (dk DX11_hand 20 rfl) ?_
  refine g_ior hX (dk DX11_hand 21 rfl) ?_
  refine g_putI hX (dk DX11_hand 22 rfl) KX5 fX11_116 (by decide) rfl (CLt hH (q := 1) (by decide)) (CC hH 1 (by decide) rfl) (Or.inl rfl) (rfl) (rfl) ?_
  refine g_iload_1 hX (dk DX11_hand 23 rfl) ?_
  refine g_c1q hX sX11_hand_46 (by decide) (Nat.le_of_ble_eq_true rfl) rcN (by decide) (by decide) (c_J6_bitCount_0f7a4 hG) ?_
  rintro _ _ _ ⟨-, rfl, rfl⟩
  refine g_ireturn hX (dk DX11_hand 25 rfl) rfl (rfl) (by decide) (by decide) ?_
  exact qW_of ((hY.sc hS).u1 (by decide))

set_option maxRecDepth 8000 in
set_option maxHeartbeats 4000000 in
theorem x_run {G : Gt} (hG : Gok G) {I : It} {h : Ht}  {E : It} {L : Nat → Int64} (hE : Inv E) (hY : RY E L I h) {n w : Int32} : Con G (8) 0 0 mX11_run [.ref 0, .int n, .int w] I h (qW E L (hn h)) := by
  refine con_intro (own := RX11) (lo0 := [some (.ref 0), some (.int n), some (.int w), none]) hG rfl pl_X11 (Nat.le_of_ble_eq_true rfl) rfl (fun X hX => ?_)
  have hW := hY.wx hE
  have hH := hW.1
  have hc10 := hW.2.1.2
  refine g_iload_2 hX (dk DX11_run 0 rfl) ?_
  refine g_iconst (v := 0) hX (dk DX11_run 1 rfl) (by decide) ?_
  refine g_iconst (v := 5) hX (dk DX11_run 2 rfl) (by decide) ?_
  refine g_c3I hX sX11_run_3 (by decide) (Nat.le_of_ble_eq_true rfl) rcN (by decide) (by decide) (c_X11_isNot hG ) ?_
  refine g_ifb_eq (tgt := 13) hX (dk DX11_run 4 rfl) (by decide) (fun hc1 => ?_) (fun hc1 => ?_)
  · refine g_iload_1 hX (dk DX11_run 7 rfl) ?_
    refine g_iconst (v := 0) hX (dk DX11_run 8 rfl) (by decide) ?_
    refine g_sipush (v := 200) hX (dk DX11_run 9 rfl) (by decide) ?_
    refine g_c3I hX sX11_run_18 (by decide) (Nat.le_of_ble_eq_true rfl) rcN (by decide) (by decide) (c_X11_isNot hG ) ?_
    refine g_ifb_eq (tgt := 28) hX (dk DX11_run 11 rfl) (by decide) (fun hc2 => ?_) (fun hc2 => ?_)
    · refine g_aload_0 hX (dk DX11_run 14 rfl) ?_
      refine g_getRs (r := 13) hX (dk DX11_run 15 rfl) KX11 fX11_26 (by decide) rfl (CLt hH (q := 0) (by decide)) (CC hH 0 (by decide) rfl) (CR hH 0 3 13 (by decide)) ?_
      refine g_iload_1 hX (dk DX11_run 16 rfl) ?_
      refine g_c2v hX sX11_run_33 (by decide) (Nat.le_of_ble_eq_true rfl) (rc0 rfl (CLt hH (by decide)) (CC hH 13 (by decide) rfl)) (by decide) (by decide) (w_X0_look hG hW) ?_
      rintro J _ ⟨hS, rfl, m, hm, hsp⟩
      have hW2 := hW.sc hS
      refine g_aload_0 hX (dk DX11_run 18 rfl) ?_
      refine g_getRs (r := 13) hX (dk DX11_run 19 rfl) KX11 fX11_26 (by decide) rfl (CLt hH (q := 0) (by decide)) (CC hH 0 (by decide) rfl) (CR hH 0 3 13 (by decide)) ?_
      refine g_aload_0 hX (dk DX11_run 20 rfl) ?_
      refine g_getRs (r := 1) hX (dk DX11_run 21 rfl) KX11 fX11_12 (by decide) rfl (CLt hH (q := 0) (by decide)) (CC hH 0 (by decide) rfl) (CR hH 0 0 1 (by decide)) ?_
      refine g_getI hX (dk DX11_run 22 rfl) KX5 fX11_116 (by decide) rfl (CLt hH (q := 1) (by decide)) (CC hH 1 (by decide) rfl) ?_
      refine g_aload_0 hX (dk DX11_run 23 rfl) ?_
      refine g_getRs (r := 1) hX (dk DX11_run 24 rfl) KX11 fX11_12 (by decide) rfl (CLt hH (q := 0) (by decide)) (CC hH 0 (by decide) rfl) (CR hH 0 0 1 (by decide)) ?_
      refine g_getI hX (dk DX11_run 25 rfl) KX5 fX11_109 (by decide) rfl (CLt hH (q := 1) (by decide)) (CC hH 1 (by decide) rfl) ?_
      refine g_c3q hX sX11_run_54 (by decide) (Nat.le_of_ble_eq_true rfl) (rc0 rfl (CLt hH (by decide)) (CC hH 13 (by decide) rfl)) (by decide) (by decide) (w_X0_pass hG hW2 hm hsp) ?_
      rintro _ J2 _ ⟨hP2, rfl⟩
      have hS2 := hS.trans hP2.sc
      have hsp2 := hP2.2.trans hsp
      refine g_istore_3 hX (dk DX11_run 27 rfl) (by decide) rfl ?_
      refine g_iload_2 hX (dk DX11_run 28 rfl) ?_
      refine g_tswitch (dt := 129) hX [(0, 92), (1, 94), (2, 102), (3, 110), (4, 121)] (dk DX11_run 29 rfl) (by decide +kernel) ?_
      refine ⟨fun hc3 => ?_, fun hc3n => ?_⟩
      · show GG _ _ _ _ _ _ _ _ _ _ _ _ _
        refine g_iload_3 hX (dk DX11_run 30 rfl) ?_
        refine g_ireturn hX (dk DX11_run 31 rfl) rfl (rfl) (by decide) (by decide) ?_
        first
        | exact qW_of hY
        | exact qW_of (hY.sc hS2)
      refine ⟨fun hc4 => ?_, fun hc4n => ?_⟩
      · show GG _ _ _ _ _ _ _ _ _ _ _ _ _
        refine g_aload_0 hX (dk DX11_run 32 rfl) ?_
        refine g_getRs (r := 13) hX (dk DX11_run 33 rfl) KX11 fX11_26 (by decide) rfl (CLt hH (q := 0) (by decide)) (CC hH 0 (by decide) rfl) (CR hH 0 3 13 (by decide)) ?_
        refine g_getI hX (dk DX11_run 34 rfl) KX0 fX11_193 (by decide) rfl (CLt hH (q := 13) (by decide)) (CC hH 13 (by decide) rfl) ?_
        refine g_ireturn hX (dk DX11_run 35 rfl) rfl (rfl) (by decide) (by decide) ?_
        first
        | exact qW_of hY
        | exact qW_of (hY.sc hS2)
      refine ⟨fun hc5 => ?_, fun hc5n => ?_⟩
      · show GG _ _ _ _ _ _ _ _ _ _ _ _ _
        refine g_aload_0 hX (dk DX11_run 36 rfl) ?_
        refine g_getRs (r := 13) hX (dk DX11_run 37 rfl) KX11 fX11_26 (by decide) rfl (CLt hH (q := 0) (by decide)) (CC hH 0 (by decide) rfl) (CR hH 0 3 13 (by decide)) ?_
        refine g_getI hX (dk DX11_run 38 rfl) KX0 fX11_194 (by decide) rfl (CLt hH (q := 13) (by decide)) (CC hH 13 (by decide) rfl) ?_
        refine g_ireturn hX (dk DX11_run 39 rfl) rfl (rfl) (by decide) (by decide) ?_
        first
        | exact qW_of hY
        | exact qW_of (hY.sc hS2)
      refine ⟨fun hc6 => ?_, fun hc6n => ?_⟩
      · show GG _ _ _ _ _ _ _ _ _ _ _ _ _
        refine g_aload_0 hX (dk DX11_run 40 rfl) ?_
        refine g_getRs (r := 13) hX (dk DX11_run 41 rfl) KX11 fX11_26 (by decide) rfl (CLt hH (q := 0) (by decide)) (CC hH 0 (by decide) rfl) (CR hH 0 3 13 (by decide)) ?_
        refine g_getI hX (dk DX11_run 42 rfl) KX0 fX11_195 (by decide) rfl (CLt hH (q := 13) (by decide)) (CC hH 13 (by decide) rfl) ?_
        refine g_c1q hX sX11_run_117 (by decide) (Nat.le_of_ble_eq_true rfl) rcN (by decide) (by decide) (c_J6_bitCount_0f7a4 hG) ?_
        rintro _ _ _ ⟨-, rfl, rfl⟩
        refine g_ireturn hX (dk DX11_run 44 rfl) rfl (rfl) (by decide) (by decide) ?_
        first
        | exact qW_of hY
        | exact qW_of (hY.sc hS2)
      refine ⟨fun hc7 => ?_, fun hc7n => ?_⟩
      · show GG _ _ _ _ _ _ _ _ _ _ _ _ _
        refine g_aload_0 hX (dk DX11_run 45 rfl) ?_
        refine g_getRs (r := 13) hX (dk DX11_run 46 rfl) KX11 fX11_26 (by decide) rfl (CLt hH (q := 0) (by decide)) (CC hH 0 (by decide) rfl) (CR hH 0 3 13 (by decide)) ?_
        refine g_getI hX (dk DX11_run 47 rfl) KX0 fX11_196 (by decide) rfl (CLt hH (q := 13) (by decide)) (CC hH 13 (by decide) rfl) ?_
        refine g_ireturn hX (dk DX11_run 48 rfl) rfl (rfl) (by decide) (by decide) ?_
        first
        | exact qW_of hY
        | exact qW_of (hY.sc hS2)
      show GG _ _ _ _ _ _ _ _ _ _ _ _ _
      refine g_aload_0 hX (dk DX11_run 49 rfl) ?_
      refine g_getRs (r := 13) hX (dk DX11_run 50 rfl) KX11 fX11_26 (by decide) rfl (CLt hH (q := 0) (by decide)) (CC hH 0 (by decide) rfl) (CR hH 0 3 13 (by decide)) ?_
      refine g_getI hX (dk DX11_run 51 rfl) KX0 fX11_199 (by decide) rfl (CLt hH (q := 13) (by decide)) (CC hH 13 (by decide) rfl) ?_
      refine g_ireturn hX (dk DX11_run 52 rfl) rfl (rfl) (by decide) (by decide) ?_
      first
      | exact qW_of hY
      | exact qW_of (hY.sc hS2)
    · refine g_sipush (v := -10002) hX (dk DX11_run 12 rfl) (by decide) ?_
      refine g_ireturn hX (dk DX11_run 13 rfl) rfl (rfl) (by decide) (by decide) ?_
      first
      | exact qW_of hY
      | exact qW_of (hY.sc hS2)
  · refine g_sipush (v := -10001) hX (dk DX11_run 5 rfl) (by decide) ?_
    refine g_ireturn hX (dk DX11_run 6 rfl) rfl (rfl) (by decide) (by decide) ?_
    first
    | exact qW_of hY
    | exact qW_of (hY.sc hS2)

set_option maxRecDepth 8000 in
set_option maxHeartbeats 4000000 in
theorem x_ask {G : Gt} (hG : Gok G) {I : It} {h : Ht}  {E : It} {L : Nat → Int64} (hE : Inv E) (hY : RY E L I h) {n : Int32} : Con G (8) 0 0 mX11_ask [.ref 0, .int n] I h (qW E L (hn h)) := by
  refine con_intro (own := RX11) (lo0 := [some (.ref 0), some (.int n)]) hG rfl pl_X11 (Nat.le_of_ble_eq_true rfl) rfl (fun X hX => ?_)
  have hW := hY.wx hE
  have hH := hW.1
  have hc10 := hW.2.1.2
  refine g_iload_1 hX (dk DX11_ask 0 rfl) ?_
  refine g_iconst (v := 0) hX (dk DX11_ask 1 rfl) (by decide) ?_
  refine g_bipush (v := 60) hX (dk DX11_ask 2 rfl) (by decide) ?_
  refine g_c3I hX sX11_ask_4 (by decide) (Nat.le_of_ble_eq_true rfl) rcN (by decide) (by decide) (c_X11_isNot hG ) ?_
  refine g_ifb_eq (tgt := 13) hX (dk DX11_ask 4 rfl) (by decide) (fun hc1 => ?_) (fun hc1 => ?_)
  · refine g_aload_0 hX (dk DX11_ask 7 rfl) ?_
    refine g_getRs (r := 13) hX (dk DX11_ask 8 rfl) KX11 fX11_26 (by decide) rfl (CLt hH (q := 0) (by decide)) (CC hH 0 (by decide) rfl) (CR hH 0 3 13 (by decide)) ?_
    refine g_iload_1 hX (dk DX11_ask 9 rfl) ?_
    refine g_c2v hX sX11_ask_18 (by decide) (Nat.le_of_ble_eq_true rfl) (rc0 rfl (CLt hH (by decide)) (CC hH 13 (by decide) rfl)) (by decide) (by decide) (w_X0_look hG hW) ?_
    rintro J _ ⟨hS, rfl, m, hm, hsp⟩
    have hW2 := hW.sc hS
    refine g_aload_0 hX (dk DX11_ask 11 rfl) ?_
    refine g_getRs (r := 13) hX (dk DX11_ask 12 rfl) KX11 fX11_26 (by decide) rfl (CLt hH (q := 0) (by decide)) (CC hH 0 (by decide) rfl) (CR hH 0 3 13 (by decide)) ?_
    refine g_aload_0 hX (dk DX11_ask 13 rfl) ?_
    refine g_getRs (r := 1) hX (dk DX11_ask 14 rfl) KX11 fX11_12 (by decide) rfl (CLt hH (q := 0) (by decide)) (CC hH 0 (by decide) rfl) (CR hH 0 0 1 (by decide)) ?_
    refine g_getI hX (dk DX11_ask 15 rfl) KX5 fX11_116 (by decide) rfl (CLt hH (q := 1) (by decide)) (CC hH 1 (by decide) rfl) ?_
    refine g_iconst (v := -1) hX (dk DX11_ask 16 rfl) (by decide) ?_
    refine g_ixor hX (dk DX11_ask 17 rfl) ?_
    refine g_iconst (v := 1) hX (dk DX11_ask 18 rfl) (by decide) ?_
    refine g_c3q hX sX11_ask_35 (by decide) (Nat.le_of_ble_eq_true rfl) (rc0 rfl (CLt hH (by decide)) (CC hH 13 (by decide) rfl)) (by decide) (by decide) (w_X0_bestOf hG hW2 hm hsp) ?_
    rintro _ J2 _ ⟨hP2, rfl⟩
    have hS2 := hS.trans hP2.sc
    refine g_ireturn hX (dk DX11_ask 20 rfl) rfl (rfl) (by decide) (by decide) ?_
    first
    | exact qW_of hY
    | exact qW_of (hY.sc hS2)
  · refine g_bipush (v := -2) hX (dk DX11_ask 5 rfl) (by decide) ?_
    refine g_ireturn hX (dk DX11_ask 6 rfl) rfl (rfl) (by decide) (by decide) ?_
    first
    | exact qW_of hY
    | exact qW_of (hY.sc hS2)

set_option maxRecDepth 8000 in
set_option maxHeartbeats 4000000 in
theorem x_drop {G : Gt} (hG : Gok G) {I : It} {h : Ht}  {E : It} {L : Nat → Int64} (hE : Inv E) (hY : RY E L I h) {n : Int32} : Con G (8) 0 0 mX11_drop [.ref 0, .int n] I h (qW E L (hn h)) := by
  refine con_intro (own := RX11) (lo0 := [some (.ref 0), some (.int n)]) hG rfl pl_X11 (Nat.le_of_ble_eq_true rfl) rfl (fun X hX => ?_)
  have hW := hY.wx hE
  have hH := hW.1
  have hc10 := hW.2.1.2
  refine g_iload_1 hX (dk DX11_drop 0 rfl) ?_
  refine g_iconst (v := 0) hX (dk DX11_drop 1 rfl) (by decide) ?_
  refine g_bipush (v := 60) hX (dk DX11_drop 2 rfl) (by decide) ?_
  refine g_c3I hX sX11_drop_4 (by decide) (Nat.le_of_ble_eq_true rfl) rcN (by decide) (by decide) (c_X11_isNot hG ) ?_
  refine g_ifb_eq (tgt := 13) hX (dk DX11_drop 4 rfl) (by decide) (fun hc1 => ?_) (fun hc1 => ?_)
  · refine g_aload_0 hX (dk DX11_drop 7 rfl) ?_
    refine g_getRs (r := 13) hX (dk DX11_drop 8 rfl) KX11 fX11_26 (by decide) rfl (CLt hH (q := 0) (by decide)) (CC hH 0 (by decide) rfl) (CR hH 0 3 13 (by decide)) ?_
    refine g_iload_1 hX (dk DX11_drop 9 rfl) ?_
    refine g_c2v hX sX11_drop_18 (by decide) (Nat.le_of_ble_eq_true rfl) (rc0 rfl (CLt hH (by decide)) (CC hH 13 (by decide) rfl)) (by decide) (by decide) (w_X0_look hG hW) ?_
    rintro J _ ⟨hS, rfl, m, hm, hsp⟩
    have hW2 := hW.sc hS
    refine g_aload_0 hX (dk DX11_drop 11 rfl) ?_
    refine g_getRs (r := 13) hX (dk DX11_drop 12 rfl) KX11 fX11_26 (by decide) rfl (CLt hH (q := 0) (by decide)) (CC hH 0 (by decide) rfl) (CR hH 0 3 13 (by decide)) ?_
    refine g_aload_0 hX (dk DX11_drop 13 rfl) ?_
    refine g_getRs (r := 1) hX (dk DX11_drop 14 rfl) KX11 fX11_12 (by decide) rfl (CLt hH (q := 0) (by decide)) (CC hH 0 (by decide) rfl) (CR hH 0 0 1 (by decide)) ?_
    refine g_getI hX (dk DX11_drop 15 rfl) KX5 fX11_109 (by decide) rfl (CLt hH (q := 1) (by decide)) (CC hH 1 (by decide) rfl) ?_
    refine g_iconst (v := -1) hX (dk DX11_drop 16 rfl) (by decide) ?_
    refine g_ixor hX (dk DX11_drop 17 rfl) ?_
    refine g_iconst (v := 0) hX (dk DX11_drop 18 rfl) (by decide) ?_
    refine g_c3q hX sX11_drop_35 (by decide) (Nat.le_of_ble_eq_true rfl) (rc0 rfl (CLt hH (by decide)) (CC hH 13 (by decide) rfl)) (by decide) (by decide) (w_X0_bestOf hG hW2 hm hsp) ?_
    rintro _ J2 _ ⟨hP2, rfl⟩
    have hS2 := hS.trans hP2.sc
    refine g_ireturn hX (dk DX11_drop 20 rfl) rfl (rfl) (by decide) (by decide) ?_
    first
    | exact qW_of hY
    | exact qW_of (hY.sc hS2)
  · refine g_bipush (v := -2) hX (dk DX11_drop 5 rfl) (by decide) ?_
    refine g_ireturn hX (dk DX11_drop 6 rfl) rfl (rfl) (by decide) (by decide) ?_
    first
    | exact qW_of hY
    | exact qW_of (hY.sc hS2)

set_option maxRecDepth 8000 in
set_option maxHeartbeats 4000000 in
theorem x_looked {G : Gt} (hG : Gok G) {I : It} {h : Ht}  {E : It} {L : Nat → Int64} (hE : Inv E) (hY : RY E L I h)  : Con G (8) 0 0 mX11_looked [.ref 0] I h (qW E L (hn h)) := by
  refine con_intro (own := RX11) (lo0 := [some (.ref 0)]) hG rfl pl_X11 (Nat.le_of_ble_eq_true rfl) rfl (fun X hX => ?_)
  have hW := hY.wx hE
  have hH := hW.1
  have hc10 := hW.2.1.2
  refine g_aload_0 hX (dk DX11_looked 0 rfl) ?_
  refine g_getRs (r := 13) hX (dk DX11_looked 1 rfl) KX11 fX11_26 (by decide) rfl (CLt hH (q := 0) (by decide)) (CC hH 0 (by decide) rfl) (CR hH 0 3 13 (by decide)) ?_
  refine g_aload_0 hX (dk DX11_looked 2 rfl) ?_
  refine g_getRs (r := 1) hX (dk DX11_looked 3 rfl) KX11 fX11_12 (by decide) rfl (CLt hH (q := 0) (by decide)) (CC hH 0 (by decide) rfl) (CR hH 0 0 1 (by decide)) ?_
  refine g_c1q hX sX11_looked_8 (by decide) (Nat.le_of_ble_eq_true rfl) (rc0 rfl (CLt hH (by decide)) (CC hH 1 (by decide) rfl)) (by decide) (by decide) (c_X5_weeksToRows hG hW) ?_
  rintro _ _ _ ⟨rfl, rfl⟩
  refine g_c2v hX sX11_looked_11 (by decide) (Nat.le_of_ble_eq_true rfl) (rc0 rfl (CLt hH (by decide)) (CC hH 13 (by decide) rfl)) (by decide) (by decide) (w_X0_look hG hW) ?_
  rintro J _ ⟨hS, rfl, m, hm, hsp⟩
  have hW2 := hW.sc hS
  refine g_aload_0 hX (dk DX11_looked 6 rfl) ?_
  refine g_getRs (r := 13) hX (dk DX11_looked 7 rfl) KX11 fX11_26 (by decide) rfl (CLt hH (q := 0) (by decide)) (CC hH 0 (by decide) rfl) (CR hH 0 3 13 (by decide)) ?_
  refine g_aload_0 hX (dk DX11_looked 8 rfl) ?_
  refine g_getRs (r := 1) hX (dk DX11_looked 9 rfl) KX11 fX11_12 (by decide) rfl (CLt hH (q := 0) (by decide)) (CC hH 0 (by decide) rfl) (CR hH 0 0 1 (by decide)) ?_
  refine g_getI hX (dk DX11_looked 10 rfl) KX5 fX11_116 (by decide) rfl (CLt hH (q := 1) (by decide)) (CC hH 1 (by decide) rfl) ?_
  refine g_aload_0 hX (dk DX11_looked 11 rfl) ?_
  refine g_getRs (r := 1) hX (dk DX11_looked 12 rfl) KX11 fX11_12 (by decide) rfl (CLt hH (q := 0) (by decide)) (CC hH 0 (by decide) rfl) (CR hH 0 0 1 (by decide)) ?_
  refine g_getI hX (dk DX11_looked 13 rfl) KX5 fX11_109 (by decide) rfl (CLt hH (q := 1) (by decide)) (CC hH 1 (by decide) rfl) ?_
  refine g_c3q hX sX11_looked_32 (by decide) (Nat.le_of_ble_eq_true rfl) (rc0 rfl (CLt hH (by decide)) (CC hH 13 (by decide) rfl)) (by decide) (by decide) (w_X0_pass hG hW2 hm hsp) ?_
  rintro _ J2 _ ⟨hP2, rfl⟩
  have hS2 := hS.trans hP2.sc
  have hsp2 := hP2.2.trans hsp
  refine g_pop hX (dk DX11_looked 15 rfl) rfl ?_
  refine g_aload_0 hX (dk DX11_looked 16 rfl) ?_
  refine g_getRs (r := 13) hX (dk DX11_looked 17 rfl) KX11 fX11_26 (by decide) rfl (CLt hH (q := 0) (by decide)) (CC hH 0 (by decide) rfl) (CR hH 0 3 13 (by decide)) ?_
  refine g_c1q hX sX11_looked_40 (by decide) (Nat.le_of_ble_eq_true rfl) (rc0 rfl (CLt hH (by decide)) (CC hH 13 (by decide) rfl)) (by decide) (by decide) (w_X0_firstRowNotSo hG (hW.sc hS2) hm hsp2) ?_
  rintro _ _ _ ⟨rfl, rfl⟩
  refine g_ireturn hX (dk DX11_looked 19 rfl) rfl (rfl) (by decide) (by decide) ?_
  exact qW_of (hY.sc hS2)

set_option maxRecDepth 8000 in
set_option maxHeartbeats 4000000 in
theorem x_more {G : Gt} (hG : Gok G) {I : It} {h : Ht}  {E : It} {L : Nat → Int64} (hE : Inv E) (hY : RY E L I h) {a n : Int32} : Con G (8) 0 0 mX11_more [.ref 0, .int a, .int n] I h (qW E L (hn h)) := by
  refine con_intro (own := RX11) (lo0 := [some (.ref 0), some (.int a), some (.int n)]) hG rfl pl_X11 (Nat.le_of_ble_eq_true rfl) rfl (fun X hX => ?_)
  have hW := hY.wx hE
  have hH := hW.1
  have hc10 := hW.2.1.2
  refine g_iload_1 hX (dk DX11_more 0 rfl) ?_
  refine g_iconst (v := 0) hX (dk DX11_more 1 rfl) (by decide) ?_
  refine g_iconst (v := 3) hX (dk DX11_more 2 rfl) (by decide) ?_
  refine g_c3I hX sX11_more_3 (by decide) (Nat.le_of_ble_eq_true rfl) rcN (by decide) (by decide) (c_X11_isNot hG ) ?_
  refine g_ifb_eq (tgt := 13) hX (dk DX11_more 4 rfl) (by decide) (fun hc1 => ?_) (fun hc1 => ?_)
  · refine g_iload_2 hX (dk DX11_more 7 rfl) ?_
    refine g_iconst (v := 0) hX (dk DX11_more 8 rfl) (by decide) ?_
    refine g_bipush (v := 60) hX (dk DX11_more 9 rfl) (by decide) ?_
    refine g_c3I hX sX11_more_17 (by decide) (Nat.le_of_ble_eq_true rfl) rcN (by decide) (by decide) (c_X11_isNot hG ) ?_
    refine g_ifb_eq (tgt := 27) hX (dk DX11_more 11 rfl) (by decide) (fun hc2 => ?_) (fun hc2 => ?_)
    · obtain ⟨y, hy, rfl⟩ := in_of (b := 3) (by decide) (Decidable.not_not.mp hc1)
      refine g_aload_0 hX (dk DX11_more 14 rfl) ?_
      refine g_getRs (r := 1) hX (dk DX11_more 15 rfl) KX11 fX11_12 (by decide) rfl (CLt hH (q := 0) (by decide)) (CC hH 0 (by decide) rfl) (CR hH 0 0 1 (by decide)) ?_
      refine g_getRs (r := 4) hX (dk DX11_more 16 rfl) KX5 fX11_139 (by decide) rfl (CLt hH (q := 1) (by decide)) (CC hH 1 (by decide) rfl) (CR hH 1 5 4 (by decide)) ?_
      refine g_iload_1 hX (dk DX11_more 17 rfl) ?_
      refine i_iaload hX (dk DX11_more 18 rfl) (CLt hH (q := 4) (by decide)) (CS hH 4 (by decide) rfl) (⟨rfl, by omega, by decide⟩) ?_
      refine g_bipush (v := 9) hX (dk DX11_more 19 rfl) (by decide) ?_
      refine g_icmp_lt (tgt := 43) hX (dk DX11_more 20 rfl) (by decide) (fun hc3 => ?_) (fun hc3 => ?_)
      · refine g_aload_0 hX (dk DX11_more 23 rfl) ?_
        refine g_getRs (r := 13) hX (dk DX11_more 24 rfl) KX11 fX11_26 (by decide) rfl (CLt hH (q := 0) (by decide)) (CC hH 0 (by decide) rfl) (CR hH 0 3 13 (by decide)) ?_
        refine g_iload_2 hX (dk DX11_more 25 rfl) ?_
        refine g_c2v hX sX11_more_48 (by decide) (Nat.le_of_ble_eq_true rfl) (rc0 rfl (CLt hH (by decide)) (CC hH 13 (by decide) rfl)) (by decide) (by decide) (w_X0_look hG hW) ?_
        rintro J _ ⟨hS, rfl, m, hm, hsp⟩
        have hW2 := hW.sc hS
        refine g_aload_0 hX (dk DX11_more 27 rfl) ?_
        refine g_getRs (r := 13) hX (dk DX11_more 28 rfl) KX11 fX11_26 (by decide) rfl (CLt hH (q := 0) (by decide)) (CC hH 0 (by decide) rfl) (CR hH 0 3 13 (by decide)) ?_
        refine g_c1v hX sX11_more_55 (by decide) (Nat.le_of_ble_eq_true rfl) (rc0 rfl (CLt hH (by decide)) (CC hH 13 (by decide) rfl)) (by decide) (by decide) (w_X0_hear hG hW2) ?_
        rintro J2 _ ⟨hS2, h13, rfl⟩
        have hW3 := hW2.sc hS2
        have hsp2 : J2 13 1 = nI m := by rw [h13]; exact hsp
        refine g_aload_0 hX (dk DX11_more 30 rfl) ?_
        refine g_getRs (r := 13) hX (dk DX11_more 31 rfl) KX11 fX11_26 (by decide) rfl (CLt hH (q := 0) (by decide)) (CC hH 0 (by decide) rfl) (CR hH 0 3 13 (by decide)) ?_
        refine g_aload_0 hX (dk DX11_more 32 rfl) ?_
        refine g_getRs (r := 1) hX (dk DX11_more 33 rfl) KX11 fX11_12 (by decide) rfl (CLt hH (q := 0) (by decide)) (CC hH 0 (by decide) rfl) (CR hH 0 0 1 (by decide)) ?_
        refine g_getRs (r := 4) hX (dk DX11_more 34 rfl) KX5 fX11_139 (by decide) rfl (CLt hH (q := 1) (by decide)) (CC hH 1 (by decide) rfl) (CR hH 1 5 4 (by decide)) ?_
        refine g_c2q hX sX11_more_69 (by decide) (Nat.le_of_ble_eq_true rfl) (rc0 rfl (CLt hH (by decide)) (CC hH 13 (by decide) rfl)) (by decide) (by decide) (w_X0_costHanded hG hW3 (CLt hH (q := 4) (by decide)) (CS hH 4 (by decide) rfl) hm hsp2) ?_
        rintro _ J3 _ ⟨hP3, rfl⟩
        have hW4 := hW3.sc hP3.sc
        have hsp3 := hP3.2.trans hsp2
        refine g_aload_0 hX (dk DX11_more 36 rfl) ?_
        refine g_getRs (r := 13) hX (dk DX11_more 37 rfl) KX11 fX11_26 (by decide) rfl (CLt hH (q := 0) (by decide)) (CC hH 0 (by decide) rfl) (CR hH 0 3 13 (by decide)) ?_
        refine g_aload_0 hX (dk DX11_more 38 rfl) ?_
        refine g_getRs (r := 13) hX (dk DX11_more 39 rfl) KX11 fX11_26 (by decide) rfl (CLt hH (q := 0) (by decide)) (CC hH 0 (by decide) rfl) (CR hH 0 3 13 (by decide)) ?_
        refine g_iload_1 hX (dk DX11_more 40 rfl) ?_
        refine g_c2 hX sX11_more_81 (by decide) (Nat.le_of_ble_eq_true rfl) (rc0 rfl (CLt hH (by decide)) (CC hH 13 (by decide) rfl)) (by decide) (by decide) (w_X0_hourMore hG hH) (fun r I2 h2 hq => ?_)
        obtain ⟨rfl, hf, rfl⟩ := hq
        have hS4 : Sc J3 I2 := Sc.of1 hf ⟨by decide, by decide⟩
        have hsp4 : I2 13 1 = nI m := by rw [hf 13 (by decide)]; exact hsp3
        refine g_c2q hX sX11_more_84 (by decide) (Nat.le_of_ble_eq_true rfl) (rc0 rfl (CLt hH (by decide)) (CC hH 13 (by decide) rfl)) (by decide) (by decide) (w_X0_costHanded hG (hW4.sc hS4) (CLt hH (q := 28) (by decide)) (CS hH 28 (by decide) rfl) hm hsp4) ?_
        rintro _ J5 _ ⟨hP5, rfl⟩
        refine g_isub hX (dk DX11_more 43 rfl) ?_
        refine g_ireturn hX (dk DX11_more 44 rfl) rfl (rfl) (by decide) (by decide) ?_
        first
        | exact qW_of hY
        | exact qW_of (hY.sc (hS.trans (hS2.trans (hP3.sc.trans (hS4.trans hP5.sc)))))
      · refine g_iconst (v := 0) hX (dk DX11_more 21 rfl) (by decide) ?_
        refine g_ireturn hX (dk DX11_more 22 rfl) rfl (rfl) (by decide) (by decide) ?_
        first
        | exact qW_of hY
        | exact qW_of (hY.sc (hS.trans (hS2.trans (hP3.sc.trans (hS4.trans hP5.sc)))))
    · refine g_sipush (v := -10002) hX (dk DX11_more 12 rfl) (by decide) ?_
      refine g_ireturn hX (dk DX11_more 13 rfl) rfl (rfl) (by decide) (by decide) ?_
      first
      | exact qW_of hY
      | exact qW_of (hY.sc (hS.trans (hS2.trans (hP3.sc.trans (hS4.trans hP5.sc)))))
  · refine g_sipush (v := -10001) hX (dk DX11_more 5 rfl) (by decide) ?_
    refine g_ireturn hX (dk DX11_more 6 rfl) rfl (rfl) (by decide) (by decide) ?_
    first
    | exact qW_of hY
    | exact qW_of (hY.sc (hS.trans (hS2.trans (hP3.sc.trans (hS4.trans hP5.sc)))))

