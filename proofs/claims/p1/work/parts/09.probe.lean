set_option maxRecDepth 8000 in
theorem zz_sX0_look_6 : Site RX0 mX0_look 6 9 mJ9_min_7cf53 none 2 := site_S (dk DX0_look 4 rfl) w_697 w_607 w_83 kJ9_min_7cf53 pmJ9_min_7cf53 (by decide)

set_option maxRecDepth 8000 in
theorem zz_sX0_look_9 : Site RX0 mX0_look 9 12 mJ9_max_7cf53 none 2 := site_S (dk DX0_look 5 rfl) w_698 w_358 w_83 kJ9_max_7cf53 pmJ9_max_7cf53 (by decide)

set_option maxRecDepth 8000 in
theorem zz_sX0_look_20 : Site RX0 mX0_look 20 23 mJ7_fill_53178 none 2 := site_S (dk DX0_look 10 rfl) w_699 w_254 w_78 kJ7_fill_53178 pmJ7_fill_53178 (by decide)

set_option maxRecDepth 8000 in
theorem zz_sX0_look_51 : Site RX0 mX0_look 51 54 mX5_coming (some 5) 2 := site_V (dk DX0_look 27 rfl) KX5 w_700 w_701 w_702 w_75 kX5_coming pmX5_coming (by decide)

set_option maxRecDepth 8000 in
theorem zz_sX0_look_71 : Site RX0 mX0_look 71 74 mX0_lookDear (some 0) 3 := site_V (dk DX0_look 39 rfl) KX0 w_719 w_721 w_13 w_76 kX0_lookDear pmX0_lookDear (by decide)

set_option maxRecDepth 8000 in
theorem zz_sX0_lookDear_15 : Site RX0 mX0_lookDear 15 18 mX0_dearCell none 2 := site_S (dk DX0_lookDear 9 rfl) w_723 w_724 w_76 kX0_dearCell pmX0_dearCell (by decide)

set_option maxRecDepth 8000 in
theorem zz_sX0_lookDear_25 : Site RX0 mX0_lookDear 25 28 mX5_find (some 5) 2 := site_V (dk DX0_lookDear 14 rfl) KX5 w_678 w_490 w_491 w_75 kX5_find pmX5_find (by decide)

set_option maxRecDepth 8000 in
theorem zz_sX0_lookDear_37 : Site RX0 mX0_lookDear 37 40 mX11_bit none 2 := site_SN (host := "NextOneKnows") (dk DX0_lookDear 20 rfl) (by decide +kernel) w_517 w_74 kX11_bit pmX11_bit (by decide)

set_option maxRecDepth 8000 in
theorem zz_sX0_lookDear_66 : Site RX0 mX0_lookDear 66 69 mX5_dearIn (some 5) 3 := site_V (dk DX0_lookDear 34 rfl) KX5 w_728 w_572 w_573 w_75 kX5_dearIn pmX5_dearIn (by decide)

set_option maxRecDepth 8000 in
theorem zz_sX0_dearCell_7 : Site RX0 mX0_dearCell 7 10 mJ9_floorMod_7cf53 none 2 := site_S (dk DX0_dearCell 5 rfl) w_726 w_717 w_83 kJ9_floorMod_7cf53 pmJ9_floorMod_7cf53 (by decide)

set_option maxRecDepth 8000 in
theorem zz_sX0_hear_18 : Site RX0 mX0_hear 18 21 mX5_find (some 5) 2 := site_V (dk DX0_hear 10 rfl) KX5 w_678 w_490 w_491 w_75 kX5_find pmX5_find (by decide)

set_option maxRecDepth 8000 in
theorem zz_sX0_hear_28 : Site RX0 mX0_hear 28 31 mX0_hearOf (some 0) 2 := site_V (dk DX0_hear 16 rfl) KX0 w_523 w_525 w_0 w_76 kX0_hearOf pmX0_hearOf (by decide)

set_option maxRecDepth 8000 in
theorem zz_sX0_hearOf_23 : Site RX0 mX0_hearOf 23 26 mX5_saidBy (some 5) 3 := site_V (dk DX0_hearOf 15 rfl) KX5 w_527 w_528 w_529 w_75 kX5_saidBy pmX5_saidBy (by decide)

set_option maxRecDepth 8000 in
theorem zz_sX0_saidOf_2 : Site RX0 mX0_saidOf 2 5 mX0_hearOf (some 0) 2 := site_V (dk DX0_saidOf 2 rfl) KX0 w_523 w_525 w_0 w_76 kX0_hearOf pmX0_hearOf (by decide)

set_option maxRecDepth 8000 in
theorem zz_sX0_saidOf_22_c1 : Site RX0 mX0_saidOf 22 25 mX1_saidOver (some 1) 3 := site_U (owner := RX1) (x := ⟨RX1, "saidOver", "([I[I)I"⟩) (dk DX0_saidOf 12 rfl) KX1 w_543 w_546 w_544 (kX1_saidOver) w_544 w_545 w_81 kX1_saidOver pmX1_saidOver (by decide)

set_option maxRecDepth 8000 in
theorem zz_sX0_saidOf_22_c9 : Site RX0 mX0_saidOf 22 25 mX9_saidOver (some 9) 3 := site_U (owner := RX1) (x := ⟨RX1, "saidOver", "([I[I)I"⟩) (dk DX0_saidOf 12 rfl) KX9 w_543 w_546 w_544 (kX1_saidOver) w_562 w_565 w_82 kX9_saidOver pmX1_saidOver (by decide)

set_option maxRecDepth 8000 in
theorem zz_sX0_saidOf_22_c8 : Site RX0 mX0_saidOf 22 25 mX8_saidOver (some 8) 3 := site_U (owner := RX1) (x := ⟨RX1, "saidOver", "([I[I)I"⟩) (dk DX0_saidOf 12 rfl) KX8 w_543 w_546 w_544 (kX1_saidOver) w_559 w_558 w_86 kX8_saidOver pmX1_saidOver (by decide)

set_option maxRecDepth 8000 in
theorem zz_sX0_saidOf_22_c2 : Site RX0 mX0_saidOf 22 25 mX2_saidOver (some 2) 3 := site_U (owner := RX1) (x := ⟨RX1, "saidOver", "([I[I)I"⟩) (dk DX0_saidOf 12 rfl) KX2 w_543 w_546 w_544 (kX1_saidOver) w_548 w_547 w_84 kX2_saidOver pmX1_saidOver (by decide)

set_option maxRecDepth 8000 in
theorem zz_sX0_saidOf_22_c6 : Site RX0 mX0_saidOf 22 25 mX6_saidOver (some 6) 3 := site_U (owner := RX1) (x := ⟨RX1, "saidOver", "([I[I)I"⟩) (dk DX0_saidOf 12 rfl) KX6 w_543 w_546 w_544 (kX1_saidOver) w_555 w_554 w_87 kX6_saidOver pmX1_saidOver (by decide)

set_option maxRecDepth 8000 in
theorem zz_sX0_saidOf_22_c4 : Site RX0 mX0_saidOf 22 25 mX4_saidOver (some 4) 3 := site_U (owner := RX1) (x := ⟨RX1, "saidOver", "([I[I)I"⟩) (dk DX0_saidOf 12 rfl) KX4 w_543 w_546 w_544 (kX1_saidOver) w_551 w_550 w_85 kX4_saidOver pmX1_saidOver (by decide)

set_option maxRecDepth 8000 in
theorem zz_sX0_saidOf_22_c10 : Site RX0 mX0_saidOf 22 25 mX10_saidOver (some 10) 3 := site_U (owner := RX1) (x := ⟨RX1, "saidOver", "([I[I)I"⟩) (dk DX0_saidOf 12 rfl) KX10 w_543 w_546 w_544 (kX1_saidOver) w_567 w_566 w_88 kX10_saidOver pmX1_saidOver (by decide)

set_option maxRecDepth 8000 in
theorem zz_sX0_goingOver_20 : Site RX0 mX0_goingOver 20 23 mX5_find (some 5) 2 := site_V (dk DX0_goingOver 12 rfl) KX5 w_678 w_490 w_491 w_75 kX5_find pmX5_find (by decide)

set_option maxRecDepth 8000 in
theorem zz_sX0_goingOver_39_c1 : Site RX0 mX0_goingOver 39 42 mX1_saidOver (some 1) 3 := site_U (owner := RX1) (x := ⟨RX1, "saidOver", "([I[I)I"⟩) (dk DX0_goingOver 22 rfl) KX1 w_543 w_546 w_544 (kX1_saidOver) w_544 w_545 w_81 kX1_saidOver pmX1_saidOver (by decide)

set_option maxRecDepth 8000 in
theorem zz_sX0_goingOver_39_c9 : Site RX0 mX0_goingOver 39 42 mX9_saidOver (some 9) 3 := site_U (owner := RX1) (x := ⟨RX1, "saidOver", "([I[I)I"⟩) (dk DX0_goingOver 22 rfl) KX9 w_543 w_546 w_544 (kX1_saidOver) w_562 w_565 w_82 kX9_saidOver pmX1_saidOver (by decide)

set_option maxRecDepth 8000 in
theorem zz_sX0_goingOver_39_c8 : Site RX0 mX0_goingOver 39 42 mX8_saidOver (some 8) 3 := site_U (owner := RX1) (x := ⟨RX1, "saidOver", "([I[I)I"⟩) (dk DX0_goingOver 22 rfl) KX8 w_543 w_546 w_544 (kX1_saidOver) w_559 w_558 w_86 kX8_saidOver pmX1_saidOver (by decide)

set_option maxRecDepth 8000 in
theorem zz_sX0_goingOver_39_c2 : Site RX0 mX0_goingOver 39 42 mX2_saidOver (some 2) 3 := site_U (owner := RX1) (x := ⟨RX1, "saidOver", "([I[I)I"⟩) (dk DX0_goingOver 22 rfl) KX2 w_543 w_546 w_544 (kX1_saidOver) w_548 w_547 w_84 kX2_saidOver pmX1_saidOver (by decide)

set_option maxRecDepth 8000 in
theorem zz_sX0_goingOver_39_c6 : Site RX0 mX0_goingOver 39 42 mX6_saidOver (some 6) 3 := site_U (owner := RX1) (x := ⟨RX1, "saidOver", "([I[I)I"⟩) (dk DX0_goingOver 22 rfl) KX6 w_543 w_546 w_544 (kX1_saidOver) w_555 w_554 w_87 kX6_saidOver pmX1_saidOver (by decide)

set_option maxRecDepth 8000 in
theorem zz_sX0_goingOver_39_c4 : Site RX0 mX0_goingOver 39 42 mX4_saidOver (some 4) 3 := site_U (owner := RX1) (x := ⟨RX1, "saidOver", "([I[I)I"⟩) (dk DX0_goingOver 22 rfl) KX4 w_543 w_546 w_544 (kX1_saidOver) w_551 w_550 w_85 kX4_saidOver pmX1_saidOver (by decide)

set_option maxRecDepth 8000 in
theorem zz_sX0_goingOver_39_c10 : Site RX0 mX0_goingOver 39 42 mX10_saidOver (some 10) 3 := site_U (owner := RX1) (x := ⟨RX1, "saidOver", "([I[I)I"⟩) (dk DX0_goingOver 22 rfl) KX10 w_543 w_546 w_544 (kX1_saidOver) w_567 w_566 w_88 kX10_saidOver pmX1_saidOver (by decide)

set_option maxRecDepth 8000 in
theorem zz_sX0_pass_98 : Site RX0 mX0_pass 98 101 mX0_stopAll (some 0) 3 := site_V (dk DX0_pass_1 0 rfl) KX0 w_733 w_735 w_14 w_76 kX0_stopAll pmX0_stopAll (by decide)

set_option maxRecDepth 8000 in
theorem zz_sX0_pass_122 : Site RX0 mX0_pass 122 125 mJ6_bitCount_0f7a4 none 1 := site_S (dk DX0_pass_1 14 rfl) w_771 w_684 w_89 kJ6_bitCount_0f7a4 pmJ6_bitCount_0f7a4 (by decide)

set_option maxRecDepth 8000 in
theorem zz_sX0_stopAll_23 : Site RX0 mX0_stopAll 23 26 mX5_find (some 5) 2 := site_V (dk DX0_stopAll 13 rfl) KX5 w_678 w_490 w_491 w_75 kX5_find pmX5_find (by decide)

set_option maxRecDepth 8000 in
theorem zz_sX0_stopAll_35 : Site RX0 mX0_stopAll 35 38 mX11_bit none 2 := site_SN (host := "NextOneKnows") (dk DX0_stopAll 19 rfl) (by decide +kernel) w_517 w_74 kX11_bit pmX11_bit (by decide)

set_option maxRecDepth 8000 in
theorem zz_sX0_stopAll_45 : Site RX0 mX0_stopAll 45 48 mX0_stop (some 0) 3 := site_V (dk DX0_stopAll 24 rfl) KX0 w_737 w_739 w_15 w_76 kX0_stop pmX0_stop (by decide)

set_option maxRecDepth 8000 in
theorem zz_sX0_stop_38 : Site RX0 mX0_stop 38 41 mX5_callsAtFirst (some 5) 1 := site_V (dk DX0_stop_0 20 rfl) KX5 w_741 w_658 w_659 w_75 kX5_callsAtFirst pmX5_callsAtFirst (by decide)

set_option maxRecDepth 8000 in
theorem zz_sX0_stop_45 : Site RX0 mX0_stop 45 48 mX5_callsFading (some 5) 1 := site_V (dk DX0_stop_0 23 rfl) KX5 w_742 w_662 w_663 w_75 kX5_callsFading pmX5_callsFading (by decide)

set_option maxRecDepth 8000 in
theorem zz_sX0_stop_106 : Site RX0 mX0_stop 106 109 mX0_dearCell none 2 := site_S (dk DX0_stop_0 58 rfl) w_723 w_724 w_76 kX0_dearCell pmX0_dearCell (by decide)

set_option maxRecDepth 8000 in
theorem zz_sX0_stop_119_c1 : Site RX0 mX0_stop 119 122 mX1_isKnownByCall (some 1) 1 := site_U (owner := RX1) (x := ⟨RX1, "isKnownByCall", "()Z"⟩) (dk DX0_stop_1 5 rfl) KX1 w_743 w_746 w_744 (kX1_isKnownByCall) w_744 w_745 w_81 kX1_isKnownByCall pmX1_isKnownByCall (by decide)

set_option maxRecDepth 8000 in
theorem zz_sX0_stop_119_c9 : Site RX0 mX0_stop 119 122 mX1_isKnownByCall (some 9) 1 := site_U (owner := RX1) (x := ⟨RX1, "isKnownByCall", "()Z"⟩) (dk DX0_stop_1 5 rfl) KX9 w_743 w_746 w_744 (kX1_isKnownByCall) w_744 w_751 w_81 kX1_isKnownByCall pmX1_isKnownByCall (by decide)

set_option maxRecDepth 8000 in
theorem zz_sX0_stop_119_c8 : Site RX0 mX0_stop 119 122 mX1_isKnownByCall (some 8) 1 := site_U (owner := RX1) (x := ⟨RX1, "isKnownByCall", "()Z"⟩) (dk DX0_stop_1 5 rfl) KX8 w_743 w_746 w_744 (kX1_isKnownByCall) w_744 w_750 w_81 kX1_isKnownByCall pmX1_isKnownByCall (by decide)

set_option maxRecDepth 8000 in
theorem zz_sX0_stop_119_c2 : Site RX0 mX0_stop 119 122 mX1_isKnownByCall (some 2) 1 := site_U (owner := RX1) (x := ⟨RX1, "isKnownByCall", "()Z"⟩) (dk DX0_stop_1 5 rfl) KX2 w_743 w_746 w_744 (kX1_isKnownByCall) w_744 w_747 w_81 kX1_isKnownByCall pmX1_isKnownByCall (by decide)

set_option maxRecDepth 8000 in
theorem zz_sX0_stop_119_c6 : Site RX0 mX0_stop 119 122 mX1_isKnownByCall (some 6) 1 := site_U (owner := RX1) (x := ⟨RX1, "isKnownByCall", "()Z"⟩) (dk DX0_stop_1 5 rfl) KX6 w_743 w_746 w_744 (kX1_isKnownByCall) w_744 w_749 w_81 kX1_isKnownByCall pmX1_isKnownByCall (by decide)

set_option maxRecDepth 8000 in
theorem zz_sX0_stop_119_c4 : Site RX0 mX0_stop 119 122 mX1_isKnownByCall (some 4) 1 := site_U (owner := RX1) (x := ⟨RX1, "isKnownByCall", "()Z"⟩) (dk DX0_stop_1 5 rfl) KX4 w_743 w_746 w_744 (kX1_isKnownByCall) w_744 w_748 w_81 kX1_isKnownByCall pmX1_isKnownByCall (by decide)

set_option maxRecDepth 8000 in
theorem zz_sX0_stop_119_c10 : Site RX0 mX0_stop 119 122 mX10_isKnownByCall (some 10) 1 := site_U (owner := RX1) (x := ⟨RX1, "isKnownByCall", "()Z"⟩) (dk DX0_stop_1 5 rfl) KX10 w_743 w_746 w_744 (kX1_isKnownByCall) w_753 w_752 w_88 kX10_isKnownByCall pmX1_isKnownByCall (by decide)

set_option maxRecDepth 8000 in
theorem zz_sX0_stop_129_c1 : Site RX0 mX0_stop 129 132 mX1_isKnownByStop (some 1) 1 := site_U (owner := RX1) (x := ⟨RX1, "isKnownByStop", "()Z"⟩) (dk DX0_stop_1 9 rfl) KX1 w_756 w_759 w_757 (kX1_isKnownByStop) w_757 w_758 w_81 kX1_isKnownByStop pmX1_isKnownByStop (by decide)

set_option maxRecDepth 8000 in
theorem zz_sX0_stop_129_c9 : Site RX0 mX0_stop 129 132 mX1_isKnownByStop (some 9) 1 := site_U (owner := RX1) (x := ⟨RX1, "isKnownByStop", "()Z"⟩) (dk DX0_stop_1 9 rfl) KX9 w_756 w_759 w_757 (kX1_isKnownByStop) w_757 w_768 w_81 kX1_isKnownByStop pmX1_isKnownByStop (by decide)

set_option maxRecDepth 8000 in
theorem zz_sX0_stop_129_c8 : Site RX0 mX0_stop 129 132 mX1_isKnownByStop (some 8) 1 := site_U (owner := RX1) (x := ⟨RX1, "isKnownByStop", "()Z"⟩) (dk DX0_stop_1 9 rfl) KX8 w_756 w_759 w_757 (kX1_isKnownByStop) w_757 w_767 w_81 kX1_isKnownByStop pmX1_isKnownByStop (by decide)

set_option maxRecDepth 8000 in
theorem zz_sX0_stop_129_c2 : Site RX0 mX0_stop 129 132 mX2_isKnownByStop (some 2) 1 := site_U (owner := RX1) (x := ⟨RX1, "isKnownByStop", "()Z"⟩) (dk DX0_stop_1 9 rfl) KX2 w_756 w_759 w_757 (kX1_isKnownByStop) w_761 w_760 w_84 kX2_isKnownByStop pmX1_isKnownByStop (by decide)

set_option maxRecDepth 8000 in
theorem zz_sX0_stop_129_c6 : Site RX0 mX0_stop 129 132 mX2_isKnownByStop (some 6) 1 := site_U (owner := RX1) (x := ⟨RX1, "isKnownByStop", "()Z"⟩) (dk DX0_stop_1 9 rfl) KX6 w_756 w_759 w_757 (kX1_isKnownByStop) w_761 w_766 w_84 kX2_isKnownByStop pmX1_isKnownByStop (by decide)

set_option maxRecDepth 8000 in
theorem zz_sX0_stop_129_c4 : Site RX0 mX0_stop 129 132 mX4_isKnownByStop (some 4) 1 := site_U (owner := RX1) (x := ⟨RX1, "isKnownByStop", "()Z"⟩) (dk DX0_stop_1 9 rfl) KX4 w_756 w_759 w_757 (kX1_isKnownByStop) w_764 w_763 w_85 kX4_isKnownByStop pmX1_isKnownByStop (by decide)

set_option maxRecDepth 8000 in
theorem zz_sX0_stop_129_c10 : Site RX0 mX0_stop 129 132 mX4_isKnownByStop (some 10) 1 := site_U (owner := RX1) (x := ⟨RX1, "isKnownByStop", "()Z"⟩) (dk DX0_stop_1 9 rfl) KX10 w_756 w_759 w_757 (kX1_isKnownByStop) w_764 w_769 w_85 kX4_isKnownByStop pmX1_isKnownByStop (by decide)

set_option maxRecDepth 8000 in
theorem zz_sX0_costHanded_10 : Site RX0 mX0_costHanded 10 13 mX0_goingOver (some 0) 2 := site_V (dk DX0_costHanded 6 rfl) KX0 w_793 w_680 w_681 w_76 kX0_goingOver pmX0_goingOver (by decide)

set_option maxRecDepth 8000 in
theorem zz_sX0_costHanded_21 : Site RX0 mX0_costHanded 21 24 mX0_pass (some 0) 3 := site_V (dk DX0_costHanded 11 rfl) KX0 w_794 w_730 w_731 w_76 kX0_pass pmX0_pass (by decide)

set_option maxRecDepth 8000 in
theorem zz_sX0_bestSplit_50 : Site RX0 mX0_bestSplit 50 53 mX0_share (some 0) 5 := site_V (dk DX0_bestSplit_0 34 rfl) KX0 w_785 w_787 w_16 w_76 kX0_share pmX0_share (by decide)

set_option maxRecDepth 8000 in
theorem zz_sX0_bestSplit_58 : Site RX0 mX0_bestSplit 58 61 mX0_costHanded (some 0) 2 := site_V (dk DX0_bestSplit_0 38 rfl) KX0 w_789 w_790 w_791 w_76 kX0_costHanded pmX0_costHanded (by decide)

set_option maxRecDepth 8000 in
theorem zz_sX0_bestOf_25 : Site RX0 mX0_bestOf 25 28 mX11_bit none 2 := site_SN (host := "NextOneKnows") (dk DX0_bestOf 13 rfl) (by decide +kernel) w_517 w_74 kX11_bit pmX11_bit (by decide)

set_option maxRecDepth 8000 in
theorem zz_sX0_bestOf_59 : Site RX0 mX0_bestOf 59 62 mX0_pass (some 0) 3 := site_V (dk DX0_bestOf 30 rfl) KX0 w_794 w_730 w_731 w_76 kX0_pass pmX0_pass (by decide)

set_option maxRecDepth 8000 in
theorem zz_sX0_bestOf_83 : Site RX0 mX0_bestOf 83 86 mX0_pass (some 0) 3 := site_V (dk DX0_bestOf 41 rfl) KX0 w_794 w_730 w_731 w_76 kX0_pass pmX0_pass (by decide)

set_option maxRecDepth 8000 in
theorem zz_sX0_firstRowNotSo_58 : Site RX0 mX0_firstRowNotSo 58 61 mX11_bit none 2 := site_SN (host := "NextOneKnows") (dk DX0_firstRowNotSo 32 rfl) (by decide +kernel) w_517 w_74 kX11_bit pmX11_bit (by decide)

set_option maxRecDepth 8000 in
theorem zz_sX1_init_17 : Site RX1 mX1_init 17 20 mJ9_max_7cf53 none 2 := site_S (dk DX1_init 11 rfl) w_357 w_358 w_83 kJ9_max_7cf53 pmJ9_max_7cf53 (by decide)

set_option maxRecDepth 8000 in
theorem zz_sX1_weeksUntil_10 : Site RX1 mX1_weeksUntil 10 13 mJ9_floorMod_7cf53 none 2 := site_S (dk DX1_weeksUntil 6 rfl) w_716 w_717 w_83 kJ9_floorMod_7cf53 pmJ9_floorMod_7cf53 (by decide)

set_option maxRecDepth 8000 in
theorem zz_sX1_says_3 : Site RX1 mX1_says 3 6 mX7_begins (some 7) 2 := site_V (dk DX1_says 2 rfl) KX7 w_930 w_909 w_910 w_77 kX7_begins pmX7_begins (by decide)

set_option maxRecDepth 8000 in
theorem zz_sX1_holds_3 : Site RX1 mX1_holds 3 6 mX7_begins (some 7) 2 := site_V (dk DX1_holds 2 rfl) KX7 w_930 w_909 w_910 w_77 kX7_begins pmX7_begins (by decide)

set_option maxRecDepth 8000 in
theorem zz_sX1_holds_9_c1 : Site RX1 mX1_holds 9 12 mX1_says (some 1) 3 := site_U (owner := RX1) (x := ⟨RX1, "says", "(ILNextOneKnows$Trace;)I"⟩) (dk DX1_holds 6 rfl) KX1 w_954 w_904 w_902 (kX1_says) w_902 w_903 w_81 kX1_says pmX1_says (by decide)

set_option maxRecDepth 8000 in
theorem zz_sX1_holds_9_c9 : Site RX1 mX1_holds 9 12 mX1_says (some 9) 3 := site_U (owner := RX1) (x := ⟨RX1, "says", "(ILNextOneKnows$Trace;)I"⟩) (dk DX1_holds 6 rfl) KX9 w_954 w_904 w_902 (kX1_says) w_902 w_922 w_81 kX1_says pmX1_says (by decide)

set_option maxRecDepth 8000 in
theorem zz_sX1_holds_9_c8 : Site RX1 mX1_holds 9 12 mX8_says (some 8) 3 := site_U (owner := RX1) (x := ⟨RX1, "says", "(ILNextOneKnows$Trace;)I"⟩) (dk DX1_holds 6 rfl) KX8 w_954 w_904 w_902 (kX1_says) w_916 w_915 w_86 kX8_says pmX1_says (by decide)

set_option maxRecDepth 8000 in
theorem zz_sX1_holds_9_c2 : Site RX1 mX1_holds 9 12 mX2_says (some 2) 3 := site_U (owner := RX1) (x := ⟨RX1, "says", "(ILNextOneKnows$Trace;)I"⟩) (dk DX1_holds 6 rfl) KX2 w_954 w_904 w_902 (kX1_says) w_906 w_905 w_84 kX2_says pmX1_says (by decide)

set_option maxRecDepth 8000 in
theorem zz_sX1_holds_9_c6 : Site RX1 mX1_holds 9 12 mX2_says (some 6) 3 := site_U (owner := RX1) (x := ⟨RX1, "says", "(ILNextOneKnows$Trace;)I"⟩) (dk DX1_holds 6 rfl) KX6 w_954 w_904 w_902 (kX1_says) w_906 w_914 w_84 kX2_says pmX1_says (by decide)

set_option maxRecDepth 8000 in
theorem zz_sX1_holds_9_c4 : Site RX1 mX1_holds 9 12 mX1_says (some 4) 3 := site_U (owner := RX1) (x := ⟨RX1, "says", "(ILNextOneKnows$Trace;)I"⟩) (dk DX1_holds 6 rfl) KX4 w_954 w_904 w_902 (kX1_says) w_902 w_913 w_81 kX1_says pmX1_says (by decide)

set_option maxRecDepth 8000 in
theorem zz_sX1_holds_9_c10 : Site RX1 mX1_holds 9 12 mX10_says (some 10) 3 := site_U (owner := RX1) (x := ⟨RX1, "says", "(ILNextOneKnows$Trace;)I"⟩) (dk DX1_holds 6 rfl) KX10 w_954 w_904 w_902 (kX1_says) w_924 w_923 w_88 kX10_says pmX1_says (by decide)

set_option maxRecDepth 8000 in
theorem zz_sX1_tells_3 : Site RX1 mX1_tells 3 6 mX7_begins (some 7) 2 := site_V (dk DX1_tells 2 rfl) KX7 w_930 w_909 w_910 w_77 kX7_begins pmX7_begins (by decide)

set_option maxRecDepth 8000 in
theorem zz_sX1_tells_9_c1 : Site RX1 mX1_tells 9 12 mX1_holds (some 1) 3 := site_U (owner := RX1) (x := ⟨RX1, "holds", "(ILNextOneKnows$Trace;)I"⟩) (dk DX1_tells 6 rfl) KX1 w_979 w_934 w_932 (kX1_holds) w_932 w_933 w_81 kX1_holds pmX1_holds (by decide)

set_option maxRecDepth 8000 in
theorem zz_sX1_tells_9_c9 : Site RX1 mX1_tells 9 12 mX9_holds (some 9) 3 := site_U (owner := RX1) (x := ⟨RX1, "holds", "(ILNextOneKnows$Trace;)I"⟩) (dk DX1_tells 6 rfl) KX9 w_979 w_934 w_932 (kX1_holds) w_942 w_946 w_82 kX9_holds pmX1_holds (by decide)

set_option maxRecDepth 8000 in
theorem zz_sX1_tells_9_c8 : Site RX1 mX1_tells 9 12 mX8_holds (some 8) 3 := site_U (owner := RX1) (x := ⟨RX1, "holds", "(ILNextOneKnows$Trace;)I"⟩) (dk DX1_tells 6 rfl) KX8 w_979 w_934 w_932 (kX1_holds) w_939 w_938 w_86 kX8_holds pmX1_holds (by decide)

set_option maxRecDepth 8000 in
theorem zz_sX1_tells_9_c2 : Site RX1 mX1_tells 9 12 mX1_holds (some 2) 3 := site_U (owner := RX1) (x := ⟨RX1, "holds", "(ILNextOneKnows$Trace;)I"⟩) (dk DX1_tells 6 rfl) KX2 w_979 w_934 w_932 (kX1_holds) w_932 w_935 w_81 kX1_holds pmX1_holds (by decide)

set_option maxRecDepth 8000 in
theorem zz_sX1_tells_9_c6 : Site RX1 mX1_tells 9 12 mX1_holds (some 6) 3 := site_U (owner := RX1) (x := ⟨RX1, "holds", "(ILNextOneKnows$Trace;)I"⟩) (dk DX1_tells 6 rfl) KX6 w_979 w_934 w_932 (kX1_holds) w_932 w_937 w_81 kX1_holds pmX1_holds (by decide)

set_option maxRecDepth 8000 in
theorem zz_sX1_tells_9_c4 : Site RX1 mX1_tells 9 12 mX1_holds (some 4) 3 := site_U (owner := RX1) (x := ⟨RX1, "holds", "(ILNextOneKnows$Trace;)I"⟩) (dk DX1_tells 6 rfl) KX4 w_979 w_934 w_932 (kX1_holds) w_932 w_936 w_81 kX1_holds pmX1_holds (by decide)

set_option maxRecDepth 8000 in
theorem zz_sX1_tells_9_c10 : Site RX1 mX1_tells 9 12 mX10_holds (some 10) 3 := site_U (owner := RX1) (x := ⟨RX1, "holds", "(ILNextOneKnows$Trace;)I"⟩) (dk DX1_tells 6 rfl) KX10 w_979 w_934 w_932 (kX1_holds) w_948 w_947 w_88 kX10_holds pmX1_holds (by decide)

set_option maxRecDepth 8000 in
theorem zz_sX2_init_10 {ci : Nat} : Site RX2 mX2_init 10 13 mX1_init (some ci) 7 := site_I (dk DX2_init 7 rfl) rfl rfl w_411 w_354 w_81 kX1_init pmX1_init (by decide)

set_option maxRecDepth 8000 in
theorem zz_sX2_says_3 : Site RX2 mX2_says 3 6 mX7_begins (some 7) 2 := site_V (dk DX2_says 2 rfl) KX7 w_908 w_909 w_910 w_77 kX7_begins pmX7_begins (by decide)

set_option maxRecDepth 8000 in
theorem zz_sX2_says_11_c2 : Site RX2 mX2_says 11 14 mX1_says (some 2) 3 := site_SU (x := ⟨RX1, "says", "(ILNextOneKnows$Trace;)I"⟩) (dk DX2_says 8 rfl) KX2 ⟨rfl, rfl⟩ w_912 w_904 w_418 (Or.inl rfl) w_902 w_81 kX1_says (by decide +kernel) pmX1_says.2.2 (by decide)

set_option maxRecDepth 8000 in
theorem zz_sX2_says_11_c6 : Site RX2 mX2_says 11 14 mX1_says (some 6) 3 := site_SU (x := ⟨RX1, "says", "(ILNextOneKnows$Trace;)I"⟩) (dk DX2_says 8 rfl) KX6 ⟨rfl, rfl⟩ w_912 w_904 w_418 (Or.inl rfl) w_902 w_81 kX1_says (by decide +kernel) pmX1_says.2.2 (by decide)

set_option maxRecDepth 8000 in
theorem zz_sX3_readFrom_7 : Site RX3 mX3_readFrom 7 10 mJ9_min_7cf53 none 2 := site_S (dk DX3_readFrom 5 rfl) w_606 w_607 w_83 kJ9_min_7cf53 pmJ9_min_7cf53 (by decide)

set_option maxRecDepth 8000 in
theorem zz_sX3_readFrom_59 : Site RX3 mX3_readFrom 59 62 mX3_takes (some 3) 2 := site_V (dk DX3_readFrom 34 rfl) KX3 w_609 w_611 w_2 w_79 kX3_takes pmX3_takes (by decide)

set_option maxRecDepth 8000 in
theorem zz_sX3_readFrom_66 : Site RX3 mX3_readFrom 66 69 mX3_readClause (some 3) 1 := site_V (dk DX3_readFrom 37 rfl) KX3 w_617 w_619 w_4 w_79 kX3_readClause pmX3_readClause (by decide)

set_option maxRecDepth 8000 in
theorem zz_sX3_readClause_1 : Site RX3 mX3_readClause 1 4 mX3_readWord (some 3) 1 := site_V (dk DX3_readClause_0 1 rfl) KX3 w_621 w_623 w_5 w_79 kX3_readWord pmX3_readWord (by decide)

set_option maxRecDepth 8000 in
theorem zz_sX3_readClause_8 : Site RX3 mX3_readClause 8 11 mX3_needs (some 3) 2 := site_V (dk DX3_readClause_0 5 rfl) KX3 w_625 w_627 w_6 w_79 kX3_needs pmX3_needs (by decide)

set_option maxRecDepth 8000 in
theorem zz_sX3_readClause_12 : Site RX3 mX3_readClause 12 15 mX3_readNumber (some 3) 1 := site_V (dk DX3_readClause_0 7 rfl) KX3 w_633 w_635 w_8 w_79 kX3_readNumber pmX3_readNumber (by decide)

set_option maxRecDepth 8000 in
theorem zz_sX3_readClause_31 : Site RX3 mX3_readClause 31 34 mX3_needs (some 3) 2 := site_V (dk DX3_readClause_0 17 rfl) KX3 w_625 w_627 w_6 w_79 kX3_needs pmX3_needs (by decide)

set_option maxRecDepth 8000 in
theorem zz_sX3_readClause_36 : Site RX3 mX3_readClause 36 39 mX3_readEither (some 3) 2 := site_V (dk DX3_readClause_0 20 rfl) KX3 w_637 w_639 w_9 w_79 kX3_readEither pmX3_readEither (by decide)

set_option maxRecDepth 8000 in
theorem zz_sX3_readWord_3 : Site RX3 mX3_readWord 3 6 mX3_takes (some 3) 2 := site_V (dk DX3_readWord 2 rfl) KX3 w_609 w_611 w_2 w_79 kX3_takes pmX3_takes (by decide)

set_option maxRecDepth 8000 in
theorem zz_sX3_readWord_12 : Site RX3 mX3_readWord 12 15 mX3_needs (some 3) 2 := site_V (dk DX3_readWord 6 rfl) KX3 w_625 w_627 w_6 w_79 kX3_needs pmX3_needs (by decide)

set_option maxRecDepth 8000 in
theorem zz_sX3_readWord_18 : Site RX3 mX3_readWord 18 21 mX3_needs (some 3) 2 := site_V (dk DX3_readWord 9 rfl) KX3 w_625 w_627 w_6 w_79 kX3_needs pmX3_needs (by decide)

set_option maxRecDepth 8000 in
theorem zz_sX3_readWord_27 : Site RX3 mX3_readWord 27 30 mX3_takes (some 3) 2 := site_V (dk DX3_readWord 14 rfl) KX3 w_609 w_611 w_2 w_79 kX3_takes pmX3_takes (by decide)

set_option maxRecDepth 8000 in
theorem zz_sX3_readWord_36 : Site RX3 mX3_readWord 36 39 mX3_needs (some 3) 2 := site_V (dk DX3_readWord 18 rfl) KX3 w_625 w_627 w_6 w_79 kX3_needs pmX3_needs (by decide)

set_option maxRecDepth 8000 in
theorem zz_sX3_readWord_42 : Site RX3 mX3_readWord 42 45 mX3_needs (some 3) 2 := site_V (dk DX3_readWord 21 rfl) KX3 w_625 w_627 w_6 w_79 kX3_needs pmX3_needs (by decide)

set_option maxRecDepth 8000 in
theorem zz_sX3_readWord_48 : Site RX3 mX3_readWord 48 51 mX3_needs (some 3) 2 := site_V (dk DX3_readWord 24 rfl) KX3 w_625 w_627 w_6 w_79 kX3_needs pmX3_needs (by decide)

set_option maxRecDepth 8000 in
theorem zz_sX3_readWord_57 : Site RX3 mX3_readWord 57 60 mX3_needs (some 3) 2 := site_V (dk DX3_readWord 29 rfl) KX3 w_625 w_627 w_6 w_79 kX3_needs pmX3_needs (by decide)

set_option maxRecDepth 8000 in
theorem zz_sX3_readWord_63 : Site RX3 mX3_readWord 63 66 mX3_takes (some 3) 2 := site_V (dk DX3_readWord 32 rfl) KX3 w_609 w_611 w_2 w_79 kX3_takes pmX3_takes (by decide)

set_option maxRecDepth 8000 in
theorem zz_sX3_readWord_72 : Site RX3 mX3_readWord 72 75 mX3_needs (some 3) 2 := site_V (dk DX3_readWord 36 rfl) KX3 w_625 w_627 w_6 w_79 kX3_needs pmX3_needs (by decide)

set_option maxRecDepth 8000 in
theorem zz_sX3_readWord_78 : Site RX3 mX3_readWord 78 81 mX3_needs (some 3) 2 := site_V (dk DX3_readWord 39 rfl) KX3 w_625 w_627 w_6 w_79 kX3_needs pmX3_needs (by decide)

set_option maxRecDepth 8000 in
theorem zz_sX3_readWord_87 : Site RX3 mX3_readWord 87 90 mX3_needs (some 3) 2 := site_V (dk DX3_readWord 44 rfl) KX3 w_625 w_627 w_6 w_79 kX3_needs pmX3_needs (by decide)

set_option maxRecDepth 8000 in
theorem zz_sX3_readWord_93 : Site RX3 mX3_readWord 93 96 mX3_needs (some 3) 2 := site_V (dk DX3_readWord 47 rfl) KX3 w_625 w_627 w_6 w_79 kX3_needs pmX3_needs (by decide)

set_option maxRecDepth 8000 in
theorem zz_sX3_readWord_99 : Site RX3 mX3_readWord 99 102 mX3_needs (some 3) 2 := site_V (dk DX3_readWord 50 rfl) KX3 w_625 w_627 w_6 w_79 kX3_needs pmX3_needs (by decide)

set_option maxRecDepth 8000 in
theorem zz_sX3_readNumber_10 : Site RX3 mX3_readNumber 10 13 mX3_here (some 3) 1 := site_V (dk DX3_readNumber 8 rfl) KX3 w_613 w_615 w_3 w_79 kX3_here pmX3_here (by decide)

set_option maxRecDepth 8000 in
theorem zz_sX3_readNumber_19 : Site RX3 mX3_readNumber 19 22 mX3_here (some 3) 1 := site_V (dk DX3_readNumber 12 rfl) KX3 w_613 w_615 w_3 w_79 kX3_here pmX3_here (by decide)

set_option maxRecDepth 8000 in
theorem zz_sX3_readNumber_32 : Site RX3 mX3_readNumber 32 35 mX3_here (some 3) 1 := site_V (dk DX3_readNumber 19 rfl) KX3 w_613 w_615 w_3 w_79 kX3_here pmX3_here (by decide)

set_option maxRecDepth 8000 in
theorem zz_sX3_readEither_15 : Site RX3 mX3_readEither 15 18 mX3_takes (some 3) 2 := site_V (dk DX3_readEither 9 rfl) KX3 w_609 w_611 w_2 w_79 kX3_takes pmX3_takes (by decide)

set_option maxRecDepth 8000 in
theorem zz_sX3_readEither_23 : Site RX3 mX3_readEither 23 26 mX3_readPart (some 3) 2 := site_V (dk DX3_readEither 13 rfl) KX3 w_641 w_643 w_10 w_79 kX3_readPart pmX3_readPart (by decide)

set_option maxRecDepth 8000 in
theorem zz_sX3_readEither_37 : Site RX3 mX3_readEither 37 40 mX3_takes (some 3) 2 := site_V (dk DX3_readEither 21 rfl) KX3 w_609 w_611 w_2 w_79 kX3_takes pmX3_takes (by decide)

set_option maxRecDepth 8000 in
theorem zz_sX3_readEither_45 : Site RX3 mX3_readEither 45 48 mX3_readPart (some 3) 2 := site_V (dk DX3_readEither 25 rfl) KX3 w_641 w_643 w_10 w_79 kX3_readPart pmX3_readPart (by decide)

set_option maxRecDepth 8000 in
theorem zz_sX3_readEither_51 : Site RX3 mX3_readEither 51 54 mX3_keep (some 3) 2 := site_V (dk DX3_readEither 28 rfl) KX3 w_645 w_647 w_11 w_79 kX3_keep pmX3_keep (by decide)

set_option maxRecDepth 8000 in
theorem zz_sX3_readEither_67 : Site RX3 mX3_readEither 67 70 mX3_keep (some 3) 2 := site_V (dk DX3_readEither 35 rfl) KX3 w_645 w_647 w_11 w_79 kX3_keep pmX3_keep (by decide)

set_option maxRecDepth 8000 in
theorem zz_sX3_readPart_8 : Site RX3 mX3_readPart 8 11 mX3_takes (some 3) 2 := site_V (dk DX3_readPart 5 rfl) KX3 w_609 w_611 w_2 w_79 kX3_takes pmX3_takes (by decide)

set_option maxRecDepth 8000 in
theorem zz_sX3_readPart_18 : Site RX3 mX3_readPart 18 21 mX3_readPart (some 3) 2 := site_V (dk DX3_readPart 11 rfl) KX3 w_641 w_643 w_10 w_79 kX3_readPart pmX3_readPart (by decide)

set_option maxRecDepth 8000 in
theorem zz_sX3_readPart_24 : Site RX3 mX3_readPart 24 27 mX3_keep (some 3) 2 := site_V (dk DX3_readPart 14 rfl) KX3 w_645 w_647 w_11 w_79 kX3_keep pmX3_keep (by decide)

set_option maxRecDepth 8000 in
theorem zz_sX3_readPart_38 : Site RX3 mX3_readPart 38 41 mX3_takes (some 3) 2 := site_V (dk DX3_readPart 21 rfl) KX3 w_609 w_611 w_2 w_79 kX3_takes pmX3_takes (by decide)

set_option maxRecDepth 8000 in
theorem zz_sX3_readPart_48 : Site RX3 mX3_readPart 48 51 mX3_readEither (some 3) 2 := site_V (dk DX3_readPart 27 rfl) KX3 w_637 w_639 w_9 w_79 kX3_readEither pmX3_readEither (by decide)

set_option maxRecDepth 8000 in
theorem zz_sX3_readPart_54 : Site RX3 mX3_readPart 54 57 mX3_needs (some 3) 2 := site_V (dk DX3_readPart 30 rfl) KX3 w_625 w_627 w_6 w_79 kX3_needs pmX3_needs (by decide)

set_option maxRecDepth 8000 in
theorem zz_sX3_readPart_61 : Site RX3 mX3_readPart 61 64 mX3_readTest (some 3) 1 := site_V (dk DX3_readPart 33 rfl) KX3 w_649 w_651 w_12 w_79 kX3_readTest pmX3_readTest (by decide)

set_option maxRecDepth 8000 in
theorem zz_sX3_readTest_1 : Site RX3 mX3_readTest 1 4 mX3_here (some 3) 1 := site_V (dk DX3_readTest_0 1 rfl) KX3 w_613 w_615 w_3 w_79 kX3_here pmX3_here (by decide)

set_option maxRecDepth 8000 in
theorem zz_sX3_readTest_55 : Site RX3 mX3_readTest 55 58 mX3_takeIf (some 3) 2 := site_V (dk DX3_readTest_0 30 rfl) KX3 w_629 w_631 w_7 w_79 kX3_takeIf pmX3_takeIf (by decide)

set_option maxRecDepth 8000 in
theorem zz_sX3_readTest_59 : Site RX3 mX3_readTest 59 62 mX3_here (some 3) 1 := site_V (dk DX3_readTest_0 32 rfl) KX3 w_613 w_615 w_3 w_79 kX3_here pmX3_here (by decide)

set_option maxRecDepth 8000 in
theorem zz_sX3_readTest_87 : Site RX3 mX3_readTest 87 90 mX3_takeIf (some 3) 2 := site_V (dk DX3_readTest_0 47 rfl) KX3 w_629 w_631 w_7 w_79 kX3_takeIf pmX3_takeIf (by decide)

set_option maxRecDepth 8000 in
theorem zz_sX3_readTest_98 : Site RX3 mX3_readTest 98 101 mX3_readNumber (some 3) 1 := site_V (dk DX3_readTest_0 55 rfl) KX3 w_633 w_635 w_8 w_79 kX3_readNumber pmX3_readNumber (by decide)

set_option maxRecDepth 8000 in
theorem zz_sX3_readTest_105 : Site RX3 mX3_readTest 105 108 mX3_keep (some 3) 2 := site_V (dk DX3_readTest_0 59 rfl) KX3 w_645 w_647 w_11 w_79 kX3_keep pmX3_keep (by decide)

set_option maxRecDepth 8000 in
theorem zz_sX3_takes_1 : Site RX3 mX3_takes 1 4 mX3_here (some 3) 1 := site_V (dk DX3_takes 1 rfl) KX3 w_613 w_615 w_3 w_79 kX3_here pmX3_here (by decide)

set_option maxRecDepth 8000 in
theorem zz_sX3_needs_2 : Site RX3 mX3_needs 2 5 mX3_here (some 3) 1 := site_V (dk DX3_needs 2 rfl) KX3 w_613 w_615 w_3 w_79 kX3_here pmX3_here (by decide)

set_option maxRecDepth 8000 in
theorem zz_sX3_needs_14 : Site RX3 mX3_needs 14 17 mX3_takeIf (some 3) 2 := site_V (dk DX3_needs 8 rfl) KX3 w_629 w_631 w_7 w_79 kX3_takeIf pmX3_takeIf (by decide)

set_option maxRecDepth 8000 in
theorem zz_sX3_together_33 : Site RX3 mX3_together 33 36 mX3_holds (some 3) 5 := site_V (dk DX3_together 19 rfl) KX3 w_535 w_537 w_1 w_79 kX3_holds pmX3_holds (by decide)

set_option maxRecDepth 8000 in
theorem zz_sX3_holds_110 : Site RX3 mX3_holds 110 113 mX3_passes none 4 := site_S (dk DX3_holds_1 3 rfl) w_539 w_540 w_79 kX3_passes pmX3_passes (by decide)

set_option maxRecDepth 8000 in
theorem zz_sX3_passes_78_c1 : Site RX3 mX3_passes 78 81 mX1_kind (some 1) 1 := site_U (owner := RX1) (x := ⟨RX1, "kind", "()I"⟩) (dk DX3_passes_0 13 rfl) KX1 w_542 w_496 w_494 (kX1_kind) w_494 w_495 w_81 kX1_kind pmX1_kind (by decide)

set_option maxRecDepth 8000 in
theorem zz_sX3_passes_78_c9 : Site RX3 mX3_passes 78 81 mX9_kind (some 9) 1 := site_U (owner := RX1) (x := ⟨RX1, "kind", "()I"⟩) (dk DX3_passes_0 13 rfl) KX9 w_542 w_496 w_494 (kX1_kind) w_510 w_509 w_82 kX9_kind pmX1_kind (by decide)

set_option maxRecDepth 8000 in
theorem zz_sX3_passes_78_c8 : Site RX3 mX3_passes 78 81 mX8_kind (some 8) 1 := site_U (owner := RX1) (x := ⟨RX1, "kind", "()I"⟩) (dk DX3_passes_0 13 rfl) KX8 w_542 w_496 w_494 (kX1_kind) w_507 w_506 w_86 kX8_kind pmX1_kind (by decide)

set_option maxRecDepth 8000 in
theorem zz_sX3_passes_78_c2 : Site RX3 mX3_passes 78 81 mX2_kind (some 2) 1 := site_U (owner := RX1) (x := ⟨RX1, "kind", "()I"⟩) (dk DX3_passes_0 13 rfl) KX2 w_542 w_496 w_494 (kX1_kind) w_498 w_497 w_84 kX2_kind pmX1_kind (by decide)

set_option maxRecDepth 8000 in
theorem zz_sX3_passes_78_c6 : Site RX3 mX3_passes 78 81 mX6_kind (some 6) 1 := site_U (owner := RX1) (x := ⟨RX1, "kind", "()I"⟩) (dk DX3_passes_0 13 rfl) KX6 w_542 w_496 w_494 (kX1_kind) w_504 w_503 w_87 kX6_kind pmX1_kind (by decide)

set_option maxRecDepth 8000 in
theorem zz_sX3_passes_78_c4 : Site RX3 mX3_passes 78 81 mX4_kind (some 4) 1 := site_U (owner := RX1) (x := ⟨RX1, "kind", "()I"⟩) (dk DX3_passes_0 13 rfl) KX4 w_542 w_496 w_494 (kX1_kind) w_501 w_500 w_85 kX4_kind pmX1_kind (by decide)

set_option maxRecDepth 8000 in
theorem zz_sX3_passes_78_c10 : Site RX3 mX3_passes 78 81 mX10_kind (some 10) 1 := site_U (owner := RX1) (x := ⟨RX1, "kind", "()I"⟩) (dk DX3_passes_0 13 rfl) KX10 w_542 w_496 w_494 (kX1_kind) w_513 w_512 w_88 kX10_kind pmX1_kind (by decide)

set_option maxRecDepth 8000 in
theorem zz_sX4_init_10 {ci : Nat} : Site RX4 mX4_init 10 13 mX1_init (some ci) 7 := site_I (dk DX4_init 7 rfl) rfl rfl w_424 w_354 w_81 kX1_init pmX1_init (by decide)

set_option maxRecDepth 8000 in
theorem zz_sX4_saidOver_13_c4 : Site RX4 mX4_saidOver 13 16 mX1_saidOver (some 4) 3 := site_SU (x := ⟨RX1, "saidOver", "([I[I)I"⟩) (dk DX4_saidOver 9 rfl) KX4 ⟨rfl, rfl⟩ w_553 w_546 w_431 (Or.inl rfl) w_544 w_81 kX1_saidOver (by decide +kernel) pmX1_saidOver.2.2 (by decide)

set_option maxRecDepth 8000 in
theorem zz_sX4_saidOver_13_c10 : Site RX4 mX4_saidOver 13 16 mX1_saidOver (some 10) 3 := site_SU (x := ⟨RX1, "saidOver", "([I[I)I"⟩) (dk DX4_saidOver 9 rfl) KX10 ⟨rfl, rfl⟩ w_553 w_546 w_431 (Or.inl rfl) w_544 w_81 kX1_saidOver (by decide +kernel) pmX1_saidOver.2.2 (by decide)

set_option maxRecDepth 8000 in
theorem zz_sX4_tells_3 : Site RX4 mX4_tells 3 6 mX7_begins (some 7) 2 := site_V (dk DX4_tells 2 rfl) KX7 w_963 w_909 w_910 w_77 kX7_begins pmX7_begins (by decide)

set_option maxRecDepth 8000 in
theorem zz_sX4_tells_9_c4 : Site RX4 mX4_tells 9 12 mX1_tells (some 4) 3 := site_SU (x := ⟨RX1, "tells", "(ILNextOneKnows$Trace;)I"⟩) (dk DX4_tells 6 rfl) KX4 ⟨rfl, rfl⟩ w_964 w_958 w_431 (Or.inl rfl) w_956 w_81 kX1_tells (by decide +kernel) pmX1_tells.2.2 (by decide)

set_option maxRecDepth 8000 in
theorem zz_sX4_tells_9_c10 : Site RX4 mX4_tells 9 12 mX1_tells (some 10) 3 := site_SU (x := ⟨RX1, "tells", "(ILNextOneKnows$Trace;)I"⟩) (dk DX4_tells 6 rfl) KX10 ⟨rfl, rfl⟩ w_964 w_958 w_431 (Or.inl rfl) w_956 w_81 kX1_tells (by decide +kernel) pmX1_tells.2.2 (by decide)

set_option maxRecDepth 8000 in
theorem zz_sX4_tells_15_c4 : Site RX4 mX4_tells 15 18 mX1_holds (some 4) 3 := site_U (owner := RX1) (x := ⟨RX4, "holds", "(ILNextOneKnows$Trace;)I"⟩) (dk DX4_tells 10 rfl) KX4 w_965 w_951 w_932 (kX1_holds) w_932 w_966 w_81 kX1_holds pmX1_holds (by decide)

set_option maxRecDepth 8000 in
theorem zz_sX4_tells_15_c10 : Site RX4 mX4_tells 15 18 mX10_holds (some 10) 3 := site_U (owner := RX1) (x := ⟨RX4, "holds", "(ILNextOneKnows$Trace;)I"⟩) (dk DX4_tells 10 rfl) KX10 w_965 w_951 w_932 (kX1_holds) w_948 w_967 w_88 kX10_holds pmX1_holds (by decide)

set_option maxRecDepth 8000 in
theorem zz_sX5_weeksToRows_26 : Site RX5 mX5_weeksToRows 26 29 mJ9_max_7cf53 none 2 := site_S (dk DX5_weeksToRows 18 rfl) w_842 w_358 w_83 kJ9_max_7cf53 pmJ9_max_7cf53 (by decide)

set_option maxRecDepth 8000 in
theorem zz_sX5_weeksToRows_39 : Site RX5 mX5_weeksToRows 39 42 mJ9_min_7cf53 none 2 := site_S (dk DX5_weeksToRows 24 rfl) w_859 w_607 w_83 kJ9_min_7cf53 pmJ9_min_7cf53 (by decide)

set_option maxRecDepth 8000 in
theorem zz_sX5_saidBy_20 : Site RX5 mX5_saidBy 20 23 mX3_together (some 3) 5 := site_V (dk DX5_saidBy 11 rfl) KX3 w_531 w_532 w_533 w_79 kX3_together pmX3_together (by decide)

set_option maxRecDepth 8000 in
theorem zz_sX5_dearIn_28 : Site RX5 mX5_dearIn 28 31 mX3_together (some 3) 5 := site_V (dk DX5_dearIn 15 rfl) KX3 w_531 w_532 w_533 w_79 kX3_together pmX3_together (by decide)

set_option maxRecDepth 8000 in
theorem zz_sX5_coming_14 : Site RX5 mX5_coming 14 17 mX5_find (some 5) 2 := site_V (dk DX5_coming 10 rfl) KX5 w_704 w_490 w_491 w_75 kX5_find pmX5_find (by decide)

set_option maxRecDepth 8000 in
theorem zz_sX5_coming_27_c1 : Site RX5 mX5_coming 27 30 mX1_weeksUntil (some 1) 2 := site_U (owner := RX1) (x := ⟨RX1, "weeksUntil", "(I)I"⟩) (dk DX5_coming 16 rfl) KX1 w_705 w_708 w_706 (kX1_weeksUntil) w_706 w_707 w_81 kX1_weeksUntil pmX1_weeksUntil (by decide)

set_option maxRecDepth 8000 in
theorem zz_sX5_coming_27_c9 : Site RX5 mX5_coming 27 30 mX1_weeksUntil (some 9) 2 := site_U (owner := RX1) (x := ⟨RX1, "weeksUntil", "(I)I"⟩) (dk DX5_coming 16 rfl) KX9 w_705 w_708 w_706 (kX1_weeksUntil) w_706 w_713 w_81 kX1_weeksUntil pmX1_weeksUntil (by decide)

set_option maxRecDepth 8000 in
theorem zz_sX5_coming_27_c8 : Site RX5 mX5_coming 27 30 mX1_weeksUntil (some 8) 2 := site_U (owner := RX1) (x := ⟨RX1, "weeksUntil", "(I)I"⟩) (dk DX5_coming 16 rfl) KX8 w_705 w_708 w_706 (kX1_weeksUntil) w_706 w_712 w_81 kX1_weeksUntil pmX1_weeksUntil (by decide)

set_option maxRecDepth 8000 in
theorem zz_sX5_coming_27_c2 : Site RX5 mX5_coming 27 30 mX1_weeksUntil (some 2) 2 := site_U (owner := RX1) (x := ⟨RX1, "weeksUntil", "(I)I"⟩) (dk DX5_coming 16 rfl) KX2 w_705 w_708 w_706 (kX1_weeksUntil) w_706 w_709 w_81 kX1_weeksUntil pmX1_weeksUntil (by decide)

set_option maxRecDepth 8000 in
theorem zz_sX5_coming_27_c6 : Site RX5 mX5_coming 27 30 mX1_weeksUntil (some 6) 2 := site_U (owner := RX1) (x := ⟨RX1, "weeksUntil", "(I)I"⟩) (dk DX5_coming 16 rfl) KX6 w_705 w_708 w_706 (kX1_weeksUntil) w_706 w_711 w_81 kX1_weeksUntil pmX1_weeksUntil (by decide)

set_option maxRecDepth 8000 in
theorem zz_sX5_coming_27_c4 : Site RX5 mX5_coming 27 30 mX1_weeksUntil (some 4) 2 := site_U (owner := RX1) (x := ⟨RX1, "weeksUntil", "(I)I"⟩) (dk DX5_coming 16 rfl) KX4 w_705 w_708 w_706 (kX1_weeksUntil) w_706 w_710 w_81 kX1_weeksUntil pmX1_weeksUntil (by decide)

set_option maxRecDepth 8000 in
theorem zz_sX5_coming_27_c10 : Site RX5 mX5_coming 27 30 mX1_weeksUntil (some 10) 2 := site_U (owner := RX1) (x := ⟨RX1, "weeksUntil", "(I)I"⟩) (dk DX5_coming 16 rfl) KX10 w_705 w_708 w_706 (kX1_weeksUntil) w_706 w_714 w_81 kX1_weeksUntil pmX1_weeksUntil (by decide)

set_option maxRecDepth 8000 in
theorem zz_sX5_longestWait_17 : Site RX5 mX5_longestWait 17 20 mX5_find (some 5) 2 := site_V (dk DX5_longestWait 10 rfl) KX5 w_704 w_490 w_491 w_75 kX5_find pmX5_find (by decide)

set_option maxRecDepth 8000 in
theorem zz_sX5_longestWait_30 : Site RX5 mX5_longestWait 30 33 mX11_bit none 2 := site_SN (host := "NextOneKnows") (dk DX5_longestWait 16 rfl) (by decide +kernel) w_517 w_74 kX11_bit pmX11_bit (by decide)

set_option maxRecDepth 8000 in
theorem zz_sX5_longestWait_40_c1 : Site RX5 mX5_longestWait 40 43 mX1_weeksUntil (some 1) 2 := site_U (owner := RX1) (x := ⟨RX1, "weeksUntil", "(I)I"⟩) (dk DX5_longestWait 21 rfl) KX1 w_705 w_708 w_706 (kX1_weeksUntil) w_706 w_707 w_81 kX1_weeksUntil pmX1_weeksUntil (by decide)

set_option maxRecDepth 8000 in
theorem zz_sX5_longestWait_40_c9 : Site RX5 mX5_longestWait 40 43 mX1_weeksUntil (some 9) 2 := site_U (owner := RX1) (x := ⟨RX1, "weeksUntil", "(I)I"⟩) (dk DX5_longestWait 21 rfl) KX9 w_705 w_708 w_706 (kX1_weeksUntil) w_706 w_713 w_81 kX1_weeksUntil pmX1_weeksUntil (by decide)

set_option maxRecDepth 8000 in
theorem zz_sX5_longestWait_40_c8 : Site RX5 mX5_longestWait 40 43 mX1_weeksUntil (some 8) 2 := site_U (owner := RX1) (x := ⟨RX1, "weeksUntil", "(I)I"⟩) (dk DX5_longestWait 21 rfl) KX8 w_705 w_708 w_706 (kX1_weeksUntil) w_706 w_712 w_81 kX1_weeksUntil pmX1_weeksUntil (by decide)

set_option maxRecDepth 8000 in
theorem zz_sX5_longestWait_40_c2 : Site RX5 mX5_longestWait 40 43 mX1_weeksUntil (some 2) 2 := site_U (owner := RX1) (x := ⟨RX1, "weeksUntil", "(I)I"⟩) (dk DX5_longestWait 21 rfl) KX2 w_705 w_708 w_706 (kX1_weeksUntil) w_706 w_709 w_81 kX1_weeksUntil pmX1_weeksUntil (by decide)

set_option maxRecDepth 8000 in
theorem zz_sX5_longestWait_40_c6 : Site RX5 mX5_longestWait 40 43 mX1_weeksUntil (some 6) 2 := site_U (owner := RX1) (x := ⟨RX1, "weeksUntil", "(I)I"⟩) (dk DX5_longestWait 21 rfl) KX6 w_705 w_708 w_706 (kX1_weeksUntil) w_706 w_711 w_81 kX1_weeksUntil pmX1_weeksUntil (by decide)

set_option maxRecDepth 8000 in
theorem zz_sX5_longestWait_40_c4 : Site RX5 mX5_longestWait 40 43 mX1_weeksUntil (some 4) 2 := site_U (owner := RX1) (x := ⟨RX1, "weeksUntil", "(I)I"⟩) (dk DX5_longestWait 21 rfl) KX4 w_705 w_708 w_706 (kX1_weeksUntil) w_706 w_710 w_81 kX1_weeksUntil pmX1_weeksUntil (by decide)

set_option maxRecDepth 8000 in
theorem zz_sX5_longestWait_40_c10 : Site RX5 mX5_longestWait 40 43 mX1_weeksUntil (some 10) 2 := site_U (owner := RX1) (x := ⟨RX1, "weeksUntil", "(I)I"⟩) (dk DX5_longestWait 21 rfl) KX10 w_705 w_708 w_706 (kX1_weeksUntil) w_706 w_714 w_81 kX1_weeksUntil pmX1_weeksUntil (by decide)

set_option maxRecDepth 8000 in
theorem zz_sX5_longestWait_43 : Site RX5 mX5_longestWait 43 46 mJ9_max_7cf53 none 2 := site_S (dk DX5_longestWait 22 rfl) w_842 w_358 w_83 kJ9_max_7cf53 pmJ9_max_7cf53 (by decide)

set_option maxRecDepth 8000 in
theorem zz_sX6_init_10 {ci : Nat} : Site RX6 mX6_init 10 13 mX2_init (some ci) 7 := site_I (dk DX6_init 7 rfl) rfl rfl w_450 w_409 w_84 kX2_init pmX2_init (by decide)

set_option maxRecDepth 8000 in
theorem zz_sX6_saidOver_3_c6 : Site RX6 mX6_saidOver 3 6 mX2_saidOver (some 6) 3 := site_SU (x := ⟨RX2, "saidOver", "([I[I)I"⟩) (dk DX6_saidOver 3 rfl) KX6 ⟨rfl, rfl⟩ w_557 w_1612 w_457 (Or.inl rfl) w_548 w_84 kX2_saidOver (by decide +kernel) pmX2_saidOver.2.2 (by decide)

set_option maxRecDepth 8000 in
theorem zz_sX6_tells_3 : Site RX6 mX6_tells 3 6 mX7_begins (some 7) 2 := site_V (dk DX6_tells 2 rfl) KX7 w_971 w_909 w_910 w_77 kX7_begins pmX7_begins (by decide)

set_option maxRecDepth 8000 in
theorem zz_sX6_tells_14_c6 : Site RX6 mX6_tells 14 17 mX1_tells (some 6) 3 := site_SU (x := ⟨RX2, "tells", "(ILNextOneKnows$Trace;)I"⟩) (dk DX6_tells 9 rfl) KX6 ⟨rfl, rfl⟩ w_972 w_973 w_457 (Or.inr w_418) w_956 w_81 kX1_tells (by decide +kernel) pmX1_tells.2.2 (by decide)

set_option maxRecDepth 8000 in
theorem zz_sX8_init_10 {ci : Nat} : Site RX8 mX8_init 10 13 mX9_init (some ci) 7 := site_I (dk DX8_init 7 rfl) rfl rfl w_437 w_351 w_82 kX9_init pmX9_init (by decide)

set_option maxRecDepth 8000 in
theorem zz_sX8_saidOver_3_c8 : Site RX8 mX8_saidOver 3 6 mX9_saidOver (some 8) 3 := site_SU (x := ⟨RX9, "saidOver", "([I[I)I"⟩) (dk DX8_saidOver 3 rfl) KX8 ⟨rfl, rfl⟩ w_561 w_1613 w_444 (Or.inl rfl) w_562 w_82 kX9_saidOver (by decide +kernel) pmX9_saidOver.2.2 (by decide)

set_option maxRecDepth 8000 in
theorem zz_sX8_says_3 : Site RX8 mX8_says 3 6 mX7_begins (some 7) 2 := site_V (dk DX8_says 2 rfl) KX7 w_918 w_909 w_910 w_77 kX7_begins pmX7_begins (by decide)

set_option maxRecDepth 8000 in
theorem zz_sX8_says_9_c8 : Site RX8 mX8_says 9 12 mX1_says (some 8) 3 := site_SU (x := ⟨RX9, "says", "(ILNextOneKnows$Trace;)I"⟩) (dk DX8_says 6 rfl) KX8 ⟨rfl, rfl⟩ w_919 w_920 w_444 (Or.inr w_405) w_902 w_81 kX1_says (by decide +kernel) pmX1_says.2.2 (by decide)

set_option maxRecDepth 8000 in
theorem zz_sX8_holds_3 : Site RX8 mX8_holds 3 6 mX7_begins (some 7) 2 := site_V (dk DX8_holds 2 rfl) KX7 w_918 w_909 w_910 w_77 kX7_begins pmX7_begins (by decide)

set_option maxRecDepth 8000 in
theorem zz_sX8_holds_11_c8 : Site RX8 mX8_holds 11 14 mX9_holds (some 8) 3 := site_SU (x := ⟨RX9, "holds", "(ILNextOneKnows$Trace;)I"⟩) (dk DX8_holds 8 rfl) KX8 ⟨rfl, rfl⟩ w_941 w_1615 w_444 (Or.inl rfl) w_942 w_82 kX9_holds (by decide +kernel) pmX9_holds.2.2 (by decide)

set_option maxRecDepth 8000 in
theorem zz_sX9_init_10 {ci : Nat} : Site RX9 mX9_init 10 13 mX1_init (some ci) 7 := site_I (dk DX9_init 7 rfl) rfl rfl w_353 w_354 w_81 kX1_init pmX1_init (by decide)

set_option maxRecDepth 8000 in
theorem zz_sX9_saidOver_3_c9 : Site RX9 mX9_saidOver 3 6 mX1_saidOver (some 9) 3 := site_SU (x := ⟨RX1, "saidOver", "([I[I)I"⟩) (dk DX9_saidOver 3 rfl) KX9 ⟨rfl, rfl⟩ w_564 w_546 w_405 (Or.inl rfl) w_544 w_81 kX1_saidOver (by decide +kernel) pmX1_saidOver.2.2 (by decide)

set_option maxRecDepth 8000 in
theorem zz_sX9_saidOver_3_c8 : Site RX9 mX9_saidOver 3 6 mX1_saidOver (some 8) 3 := site_SU (x := ⟨RX1, "saidOver", "([I[I)I"⟩) (dk DX9_saidOver 3 rfl) KX8 ⟨rfl, rfl⟩ w_564 w_546 w_405 (Or.inl rfl) w_544 w_81 kX1_saidOver (by decide +kernel) pmX1_saidOver.2.2 (by decide)

set_option maxRecDepth 8000 in
theorem zz_sX9_holds_3 : Site RX9 mX9_holds 3 6 mX7_begins (some 7) 2 := site_V (dk DX9_holds 2 rfl) KX7 w_944 w_909 w_910 w_77 kX7_begins pmX7_begins (by decide)

set_option maxRecDepth 8000 in
theorem zz_sX9_holds_9_c9 : Site RX9 mX9_holds 9 12 mX1_holds (some 9) 3 := site_SU (x := ⟨RX1, "holds", "(ILNextOneKnows$Trace;)I"⟩) (dk DX9_holds 6 rfl) KX9 ⟨rfl, rfl⟩ w_945 w_934 w_405 (Or.inl rfl) w_932 w_81 kX1_holds (by decide +kernel) pmX1_holds.2.2 (by decide)

set_option maxRecDepth 8000 in
theorem zz_sX9_holds_9_c8 : Site RX9 mX9_holds 9 12 mX1_holds (some 8) 3 := site_SU (x := ⟨RX1, "holds", "(ILNextOneKnows$Trace;)I"⟩) (dk DX9_holds 6 rfl) KX8 ⟨rfl, rfl⟩ w_945 w_934 w_405 (Or.inl rfl) w_932 w_81 kX1_holds (by decide +kernel) pmX1_holds.2.2 (by decide)

set_option maxRecDepth 8000 in
theorem zz_sX10_init_10 {ci : Nat} : Site RX10 mX10_init 10 13 mX4_init (some ci) 7 := site_I (dk DX10_init 7 rfl) rfl rfl w_463 w_422 w_85 kX4_init pmX4_init (by decide)

set_option maxRecDepth 8000 in
theorem zz_sX10_saidOver_3_c10 : Site RX10 mX10_saidOver 3 6 mX4_saidOver (some 10) 3 := site_SU (x := ⟨RX4, "saidOver", "([I[I)I"⟩) (dk DX10_saidOver 3 rfl) KX10 ⟨rfl, rfl⟩ w_569 w_1614 w_470 (Or.inl rfl) w_551 w_85 kX4_saidOver (by decide +kernel) pmX4_saidOver.2.2 (by decide)

set_option maxRecDepth 8000 in
theorem zz_sX10_holds_3 : Site RX10 mX10_holds 3 6 mX7_begins (some 7) 2 := site_V (dk DX10_holds 2 rfl) KX7 w_926 w_909 w_910 w_77 kX7_begins pmX7_begins (by decide)

set_option maxRecDepth 8000 in
theorem zz_sX10_holds_9_c10 : Site RX10 mX10_holds 9 12 mX1_holds (some 10) 3 := site_SU (x := ⟨RX4, "holds", "(ILNextOneKnows$Trace;)I"⟩) (dk DX10_holds 6 rfl) KX10 ⟨rfl, rfl⟩ w_950 w_951 w_470 (Or.inr w_431) w_932 w_81 kX1_holds (by decide +kernel) pmX1_holds.2.2 (by decide)

set_option maxRecDepth 8000 in
theorem zz_sX10_holds_15_c10 : Site RX10 mX10_holds 15 18 mX1_says (some 10) 3 := site_SU (x := ⟨RX4, "says", "(ILNextOneKnows$Trace;)I"⟩) (dk DX10_holds 10 rfl) KX10 ⟨rfl, rfl⟩ w_927 w_928 w_470 (Or.inr w_431) w_902 w_81 kX1_says (by decide +kernel) pmX1_says.2.2 (by decide)

set_option maxRecDepth 8000 in
theorem zz_sX10_says_3 : Site RX10 mX10_says 3 6 mX7_begins (some 7) 2 := site_V (dk DX10_says 2 rfl) KX7 w_926 w_909 w_910 w_77 kX7_begins pmX7_begins (by decide)

set_option maxRecDepth 8000 in
theorem zz_sX10_says_9_c10 : Site RX10 mX10_says 9 12 mX1_says (some 10) 3 := site_SU (x := ⟨RX4, "says", "(ILNextOneKnows$Trace;)I"⟩) (dk DX10_says 6 rfl) KX10 ⟨rfl, rfl⟩ w_927 w_928 w_470 (Or.inr w_431) w_902 w_81 kX1_says (by decide +kernel) pmX1_says.2.2 (by decide)

set_option maxRecDepth 8000 in
theorem zz_sX11_init_9 {ci : Nat} : Site RX11 mX11_init 9 12 mX5_init (some ci) 1 := site_IN (host := "NextOneKnows") (dk DX11_init_0 5 rfl) rfl rfl (by decide +kernel) w_102 w_75 kX5_init pmX5_init (by decide)

set_option maxRecDepth 8000 in
theorem zz_sX11_init_20 {ci : Nat} : Site RX11 mX11_init 20 23 mX5_init (some ci) 1 := site_IN (host := "NextOneKnows") (dk DX11_init_0 10 rfl) rfl rfl (by decide +kernel) w_102 w_75 kX5_init pmX5_init (by decide)

set_option maxRecDepth 8000 in
theorem zz_sX11_init_35 {ci : Nat} : Site RX11 mX11_init 35 38 mX0_init (some ci) 2 := site_I (dk DX11_init_0 17 rfl) rfl rfl w_172 w_173 w_76 kX0_init pmX0_init (by decide)

set_option maxRecDepth 8000 in
theorem zz_sX11_init_63 {ci : Nat} : Site RX11 mX11_init 63 66 mX7_init (some ci) 1 := site_IN (host := "NextOneKnows") (dk DX11_init_0 30 rfl) rfl rfl (by decide +kernel) w_238 w_77 kX7_init pmX7_init (by decide)

set_option maxRecDepth 8000 in
theorem zz_sX11_init_102 : Site RX11 mX11_init 102 105 mJ7_fill_53178 none 2 := site_S (dk DX11_init_0 48 rfl) w_253 w_254 w_78 kJ7_fill_53178 pmJ7_fill_53178 (by decide)

set_option maxRecDepth 8000 in
theorem zz_sX11_init_129 {ci : Nat} : Site RX11 mX11_init 129 132 mX3_init (some ci) 2 := site_I (dk DX11_init_1 3 rfl) rfl rfl w_257 w_258 w_79 kX3_init pmX3_init (by decide)

set_option maxRecDepth 8000 in
theorem zz_sX11_doing_4 : Site RX11 mX11_doing 4 7 mX11_isNot none 3 := site_S (dk DX11_doing 3 rfl) w_342 w_343 w_74 kX11_isNot pmX11_isNot (by decide)

set_option maxRecDepth 8000 in
theorem zz_sX11_doing_16 : Site RX11 mX11_doing 16 19 mX11_isNot none 3 := site_S (dk DX11_doing 10 rfl) w_342 w_343 w_74 kX11_isNot pmX11_isNot (by decide)

set_option maxRecDepth 8000 in
theorem zz_sX11_doing_26 : Site RX11 mX11_doing 26 29 mX11_isNot none 3 := site_S (dk DX11_doing 15 rfl) w_342 w_343 w_74 kX11_isNot pmX11_isNot (by decide)
